set_option maxHeartbeats 1000000 in
set_option maxRecDepth 100000 in
theorem c_X5_isColumn (l : Launch) (G : kG) (xa : Int32) : Met l yX5_isColumn wsX5_isColumn ({ frames := 0, cells := 0, slots := 0, locals := 0 } : Room) (cP G [.int xa] []) (vp_Si (fun rv => rv = (bI (inr xa 0 15)))) 0 0 (fun _ => False) := by
  refine met_ro (cc := cX5_isColumn) (maxL := 1) (ty := .boolean) (own := RX5) (by decide) rfl rfl (fun _ h => by rw [h]; exact bI_nar _) (Nat.le_of_ble_eq_true rfl) ?_
  intro p e s m args below meth cod Q hx hb hml hown hts hK hP hD hret ls hl
  have hl : lv_has ls 1 [(0, .int xa)] := hl
  refine lv_iload_n hx hb dX5_isColumn_0 rfl (lv_at hl 0 rfl) ?_
  refine r_if_lt (P := xa.toInt < 0) (tgt := 14) hx hb dX5_isColumn_1 (by decide) (ii_lt0) (fun cq1 => ?_) (fun cq1 => ?_)
  · refine lv_iconst (v := (nI 0)) hx hb dX5_isColumn_14 (by decide) ?_
    exact hret _ _ _ dX5_isColumn_15 (bIf (inr_f.mpr (by omega)))
  · refine lv_iload_n hx hb dX5_isColumn_4 rfl (lv_at hl 0 rfl) ?_
    refine lv_bipush (v := (nI 16)) hx hb dX5_isColumn_5 (by decide) ?_
    refine r_icmp_ge (P := ((16 : Nat) : Int) ≤ xa.toInt) (tgt := 14) hx hb dX5_isColumn_7 (by decide) (ii_nle (by omega)) (fun cq7 => ?_) (fun cq7 => ?_)
    · refine lv_iconst (v := (nI 0)) hx hb dX5_isColumn_14 (by decide) ?_
      exact hret _ _ _ dX5_isColumn_15 (bIf (inr_f.mpr (by omega)))
    · refine lv_iconst (v := (nI 1)) hx hb dX5_isColumn_10 (by decide) ?_
      refine lv_goto (tgt := 15) hx hb dX5_isColumn_11 (by decide) ?_
      exact hret _ _ _ dX5_isColumn_15 (bIt (inr_t.mpr (by omega)))

set_option maxHeartbeats 1000000 in
set_option maxRecDepth 100000 in
theorem c_X5_isValue (l : Launch) (G : kG) (xa : Int32) : Met l yX5_isValue wsX5_isValue ({ frames := 0, cells := 0, slots := 0, locals := 0 } : Room) (cP G [.int xa] []) (vp_Si (fun rv => rv = (bI (inr xa 0 99)))) 0 0 (fun _ => False) := by
  refine met_ro (cc := cX5_isValue) (maxL := 1) (ty := .boolean) (own := RX5) (by decide) rfl rfl (fun _ h => by rw [h]; exact bI_nar _) (Nat.le_of_ble_eq_true rfl) ?_
  intro p e s m args below meth cod Q hx hb hml hown hts hK hP hD hret ls hl
  have hl : lv_has ls 1 [(0, .int xa)] := hl
  refine lv_iload_n hx hb dX5_isValue_0 rfl (lv_at hl 0 rfl) ?_
  refine r_if_lt (P := xa.toInt < 0) (tgt := 14) hx hb dX5_isValue_1 (by decide) (ii_lt0) (fun cq1 => ?_) (fun cq1 => ?_)
  · refine lv_iconst (v := (nI 0)) hx hb dX5_isValue_14 (by decide) ?_
    exact hret _ _ _ dX5_isValue_15 (bIf (inr_f.mpr (by omega)))
  · refine lv_iload_n hx hb dX5_isValue_4 rfl (lv_at hl 0 rfl) ?_
    refine lv_bipush (v := (nI 99)) hx hb dX5_isValue_5 (by decide) ?_
    refine r_icmp_gt (P := ((99 : Nat) : Int) < xa.toInt) (tgt := 14) hx hb dX5_isValue_7 (by decide) (ii_nlt (by omega)) (fun cq7 => ?_) (fun cq7 => ?_)
    · refine lv_iconst (v := (nI 0)) hx hb dX5_isValue_14 (by decide) ?_
      exact hret _ _ _ dX5_isValue_15 (bIf (inr_f.mpr (by omega)))
    · refine lv_iconst (v := (nI 1)) hx hb dX5_isValue_10 (by decide) ?_
      refine lv_goto (tgt := 15) hx hb dX5_isValue_11 (by decide) ?_
      exact hret _ _ _ dX5_isValue_15 (bIt (inr_t.mpr (by omega)))

theorem iqX4_allowNumber_X4 : ∀ w ∈ u_ws RX4 TX4 8, w ∈ wsX4_allowNumber := by decide +kernel
set_option maxHeartbeats 1000000 in
set_option maxRecDepth 100000 in
theorem c_X4_allowNumber (l : Launch) (G : kG) (x g1 g2 g3 L pl nu np rr : Nat) (t td tv : Nat → Nat) (hL : L ≤ 100) (hpl : pl ≤ L) (ht : ∀ k, t k < 256) (okb : Bool) : Met l yX4_allowNumber wsX4_allowNumber ({ frames := 0, cells := 0, slots := 0, locals := 0 } : Room) (cP G [.ref x, .int (bI okb)] [ob x 4 [.int (nI L), .ref g1, .int (nI pl), .int (nI nu), .int (nI np), .int (nI rr), .ref g2, .ref g3], arC G g1 100 (fun j => nI (t j)), ar G g2 24 (fun j => nI (td j)), ar G g3 384 (fun j => nI (tv j))]) (qI (fun rv H => ∃ (p2 : Nat), rv = (bI okb) ∧ (p2 = (if okb = true then pl else np)) ∧ va_P G.1 vwCl [ob x 4 [.int (nI L), .ref g1, .int (nI p2), .int (nI nu), .int (nI np), .int (nI rr), .ref g2, .ref g3], arC G g1 100 (fun j => nI (t j)), ar G g2 24 (fun j => nI (td j)), ar G g3 384 (fun j => nI (tv j))] H) (mA [ob x 4 [.int (nI L), .ref g1, .int (nI pl), .int (nI nu), .int (nI np), .int (nI rr), .ref g2, .ref g3], arC G g1 100 (fun j => nI (t j)), ar G g2 24 (fun j => nI (td j)), ar G g3 384 (fun j => nI (tv j))])) 0 0 (mA [ob x 4 [.int (nI L), .ref g1, .int (nI pl), .int (nI nu), .int (nI np), .int (nI rr), .ref g2, .ref g3], arC G g1 100 (fun j => nI (t j)), ar G g2 24 (fun j => nI (td j)), ar G g3 384 (fun j => nI (tv j))]) := by
  refine met_muI (cc := cX4_allowNumber) (maxL := 2) (ty := .boolean) (own := RX4) (by decide) rfl rfl (fun _ _ h => by obtain ⟨_, rfl, _⟩ := h; exact bI_nar _) (Nat.le_of_ble_eq_true rfl) ?_
  intro p e s m args below meth cod Q A hx hb hml hown hts hK hP hD hS hret ls hl
  have hl : lv_has ls 2 [(0, .ref x), (1, .int (bI okb))] := hl
  refine lv_iload_n hx hb dX4_allowNumber_0 rfl (lv_at hl 1 rfl) ?_
  refine r_if_ne (P := okb = false) (tgt := 12) hx hb dX4_allowNumber_1 (by decide) (bI_eq0) (fun cq1 => ?_) (fun cq1 => ?_)
  · refine lv_iload_n hx hb dX4_allowNumber_12 rfl (lv_at hl 1 rfl) ?_
    exact hret _ _ _ _ _ hS dX4_allowNumber_13 (⟨pl, rfl, by rw [if_pos (Bool.of_not_eq_false cq1)], hP⟩)
  · refine lv_aload_n hx hb dX4_allowNumber_4 rfl (lv_at hl 0 rfl) ?_
    refine lv_aload_n hx hb dX4_allowNumber_5 rfl (lv_at hl 0 rfl) ?_
    refine va_get (D := G.1) (ci := 4) (v := .int (nI np)) (C := RX4) (T := TX4) (N := 8) hx hb hts iqX4_allowNumber_X4 hown hK.1 hP 0 rfl rfl 4 (by decide) (hts (.fieldLink RX4 25 "PushedTables$Text" "numberPlace" "I") (List.mem_of_getElem? (i := 1) rfl)) (fun _ h9 => h9) rfl dX4_allowNumber_6 ?_
    refine va_put (D := G.1) (ci := 4) (v := .int (nI np)) (ty := .int) (C := RX4) (T := TX4) (N := 8) hx hb hts iqX4_allowNumber_X4 tyX4 tyX4_ok nmX4 hown hK.1 hP hD hS 0 rfl rfl 2 (by decide) (hts (.fieldLink RX4 19 "PushedTables$Text" "place" "I") (List.mem_of_getElem? (i := 2) rfl)) (fun _ h9 => h9) rfl (by decide +kernel) rfl rfl (Nat.le_of_ble_eq_true rfl) dX4_allowNumber_9 (fun H locs hP hD hS => ?_)
    have hP : va_P G.1 vwCl [ob x 4 [.int (nI L), .ref g1, .int (nI np), .int (nI nu), .int (nI np), .int (nI rr), .ref g2, .ref g3], arC G g1 100 (fun j => nI (t j)), ar G g2 24 (fun j => nI (td j)), ar G g3 384 (fun j => nI (tv j))] H := hP
    have hD : va_D A [ob x 4 [.int (nI L), .ref g1, .int (nI np), .int (nI nu), .int (nI np), .int (nI rr), .ref g2, .ref g3], arC G g1 100 (fun j => nI (t j)), ar G g2 24 (fun j => nI (td j)), ar G g3 384 (fun j => nI (tv j))] := hD
    refine lv_iload_n hx hb dX4_allowNumber_12 rfl (lv_at hl 1 rfl) ?_
    exact hret _ _ _ _ _ hS dX4_allowNumber_13 (⟨np, rfl, by rw [cq1]; rfl, hP⟩)

theorem iqX4_readEntries_X4 : ∀ w ∈ u_ws RX4 TX4 8, w ∈ wsX4_readEntries := by decide +kernel
set_option maxHeartbeats 1000000 in
set_option maxRecDepth 100000 in
theorem c_X4_readEntries (l : Launch) (G : kG) (x g1 g2 g3 L pl nu np rr : Nat) (t td tv : Nat → Nat) (hL : L ≤ 100) (hpl : pl ≤ L) (ht : ∀ k, t k < 256) (r : Nat) (hr : r < 24) (htd : ∀ k, td k < 100) (htv : ∀ k, tv k < 100) : Met l yX4_readEntries wsX4_readEntries ({ frames := 3, cells := 0, slots := 0, locals := 61 } : Room) (cP G [.ref x, .int (nI r)] [ob x 4 [.int (nI L), .ref g1, .int (nI pl), .int (nI nu), .int (nI np), .int (nI rr), .ref g2, .ref g3], arC G g1 100 (fun j => nI (t j)), ar G g2 24 (fun j => nI (td j)), ar G g3 384 (fun j => nI (tv j))]) (qI (fun rv H => ∃ (ok2 : Bool) (p2 : Nat) (n2 : Nat) (np2 : Nat) (tv2 : Nat → Nat), rv = (bI ok2) ∧ (∃ n, reE t L (td r) r n pl tv = some (ok2, p2, tv2)) ∧ p2 ≤ L ∧ (∀ k, tv2 k < 100) ∧ va_P G.1 vwCl [ob x 4 [.int (nI L), .ref g1, .int (nI p2), .int (nI n2), .int (nI np2), .int (nI rr), .ref g2, .ref g3], arC G g1 100 (fun j => nI (t j)), ar G g2 24 (fun j => nI (td j)), ar G g3 384 (fun j => nI (tv2 j))] H) (mA [ob x 4 [.int (nI L), .ref g1, .int (nI pl), .int (nI nu), .int (nI np), .int (nI rr), .ref g2, .ref g3], arC G g1 100 (fun j => nI (t j)), ar G g2 24 (fun j => nI (td j)), ar G g3 384 (fun j => nI (tv j))])) 0 0 (mA [ob x 4 [.int (nI L), .ref g1, .int (nI pl), .int (nI nu), .int (nI np), .int (nI rr), .ref g2, .ref g3], arC G g1 100 (fun j => nI (t j)), ar G g2 24 (fun j => nI (td j)), ar G g3 384 (fun j => nI (tv j))]) := by
  refine met_muI (cc := cX4_readEntries) (maxL := 5) (ty := .boolean) (own := RX4) (by decide) rfl rfl (fun _ _ h => by obtain ⟨_, _, _, _, _, rfl, _⟩ := h; exact bI_nar _) (Nat.le_of_ble_eq_true rfl) ?_
  intro p e s m args below meth cod Q A hx hb hml hown hts hK hP hD hS hret ls hl
  have hl : lv_has ls 5 [(0, .ref x), (1, .int (nI r))] := hl
  refine lv_aload_n hx hb dX4_readEntries_0 rfl (lv_at hl 0 rfl) ?_
  refine lv_bipush (v := (nI 59)) hx hb dX4_readEntries_1 (by decide) ?_
  refine g_I (k_V (q0 := 0) (ci := 4) (n := 1) (As := [.int (nI 59)]) (rest := []) (wc := [ob x 4 [.int (nI L), .ref g1, .int (nI pl), .int (nI nu), .int (nI np), .int (nI rr), .ref g2, .ref g3], arC G g1 100 (fun j => nI (t j)), ar G g2 24 (fun j => nI (td j)), ar G g3 384 (fun j => nI (tv j))]) hx hb hml hown hts (c_X4_takeSign (l := l) (G := G) (x := x) (g1 := g1) (g2 := g2) (g3 := g3) (L := L) (pl := pl) (nu := nu) (np := np) (rr := rr) (t := t) (td := td) (tv := tv) (hL := by first | assumption | omega) (hpl := by first | assumption | omega) (ht := by first | assumption | omega) (w := 59) (hw := by first | assumption | omega) (hw0 := by first | assumption | omega))  gX4_readEntries_X4_takeSign rfl rfl rfl (by decide +kernel) ⟨Nat.le_of_ble_eq_true rfl, Nat.le_of_ble_eq_true rfl⟩ rfl hK hP hD [0, 1, 2, 3] rfl (by decide)  rfl rfl rfl hl.1 rfl (Nat.le_of_ble_eq_true rfl) dX4_readEntries_3 ⟨Nat.le_of_ble_eq_true rfl, Nat.le_of_ble_eq_true rfl⟩) hP hD hS [0, 1, 2, 3] rfl (fun r3 H locs hB3 back hS => ?_)
  obtain ⟨p23, he3, hp23, hp33, hP1⟩ := hB3
  obtain rfl := Eq.symm he3
  obtain ⟨hP, hD⟩ := back [ob x 4 [.int (nI L), .ref g1, .int (nI p23), .int (nI nu), .int (nI np), .int (nI rr), .ref g2, .ref g3], arC G g1 100 (fun j => nI (t j)), ar G g2 24 (fun j => nI (td j)), ar G g3 384 (fun j => nI (tv j))] rfl hP1
  have hP : va_P G.1 vwCl [ob x 4 [.int (nI L), .ref g1, .int (nI p23), .int (nI nu), .int (nI np), .int (nI rr), .ref g2, .ref g3], arC G g1 100 (fun j => nI (t j)), ar G g2 24 (fun j => nI (td j)), ar G g3 384 (fun j => nI (tv j))] H := hP
  have hD : va_D A [ob x 4 [.int (nI L), .ref g1, .int (nI p23), .int (nI nu), .int (nI np), .int (nI rr), .ref g2, .ref g3], arC G g1 100 (fun j => nI (t j)), ar G g2 24 (fun j => nI (td j)), ar G g3 384 (fun j => nI (tv j))] := hD
  refine r_if_eq (P := (decide (sg t L (sk t L pl) = 59)) = false) (tgt := 11) hx hb dX4_readEntries_6 (by decide) (bI_eq0) (fun cq6 => ?_) (fun cq6 => ?_)
  · have N0 := of_decide_eq_false cq6
    have e3 : p23 = sk t L pl := by rw [hp23, if_neg N0]
    refine lv_iconst (v := (e1 1000)) hx hb dX4_readEntries_11 (by decide) ?_
    refine lv_istore_n (lv' := [(2, .int (e1 1000)), (0, .ref x), (1, .int (nI r))]) hx hb dX4_readEntries_12 rfl hl (by decide) rfl (fun ls hl => ?_)
    refine lv_iconst (v := (nI 0)) hx hb dX4_readEntries_13 (by decide) ?_
    refine lv_istore_n (lv' := [(3, .int (nI 0)), (2, .int (e1 1000)), (0, .ref x), (1, .int (nI r))]) hx hb dX4_readEntries_14 rfl hl (by decide) rfl (fun ls hl => ?_)
    have L15 : ∀ (fu : Nat) (bf : Nat) (tn : Nat) (pp : Nat) (nu2 : Nat) (np2 : Nat) (tv2 : Nat → Nat), 17 - tn < fu → pp ≤ L → (bf = 1000 ∧ tn = 0) ∨ (bf < 16 ∧ tn ≤ bf + 1) → (∀ k, tv2 k < 100) → (∀ n R, ens t L (td r) r n bf pp tv2 = some R → ∃ n2, reE t L (td r) r n2 pl tv = some R) → ∀ (H : Heap) (locs : List Loc), va_P G.1 vwCl [ob x 4 [.int (nI L), .ref g1, .int (nI pp), .int (nI nu2), .int (nI np2), .int (nI rr), .ref g2, .ref g3], arC G g1 100 (fun j => nI (t j)), ar G g2 24 (fun j => nI (td j)), ar G g3 384 (fun j => nI (tv2 j))] H → va_D A [ob x 4 [.int (nI L), .ref g1, .int (nI pp), .int (nI nu2), .int (nI np2), .int (nI rr), .ref g2, .ref g3], arC G g1 100 (fun j => nI (t j)), ar G g2 24 (fun j => nI (td j)), ar G g3 384 (fun j => nI (tv2 j))] → va_S A s.heap H locs → ∀ (ls : Array Slot), lv_has ls 5 [(0, .ref x), (1, .int (nI r)), (2, .int (e1 bf)), (3, .int (nI tn))] → W p l e ({ frames := 3, cells := 0, slots := 0, locals := 61 } : Room) s m args below meth cod H locs 0 0 Q (F0 m 15 ls []) := by
      intro fu
      induction fu with
      | zero => intro bf tn pp nu2 np2 tv2 hm; exact absurd hm (Nat.not_lt_zero _)
      | succ fu ih15 =>
        intro bf tn pp nu2 np2 tv2 hm15 hpp hbf htv2 hI H locs hP hD hS ls hl
        have hP : va_P G.1 vwCl [ob x 4 [.int (nI L), .ref g1, .int (nI pp), .int (nI nu2), .int (nI np2), .int (nI rr), .ref g2, .ref g3], arC G g1 100 (fun j => nI (t j)), ar G g2 24 (fun j => nI (td j)), ar G g3 384 (fun j => nI (tv2 j))] H := hP
        have hD : va_D A [ob x 4 [.int (nI L), .ref g1, .int (nI pp), .int (nI nu2), .int (nI np2), .int (nI rr), .ref g2, .ref g3], arC G g1 100 (fun j => nI (t j)), ar G g2 24 (fun j => nI (td j)), ar G g3 384 (fun j => nI (tv2 j))] := hD
        refine lv_iload_n hx hb dX4_readEntries_15 rfl (lv_at hl 3 rfl) ?_
        refine lv_bipush (v := (nI 16)) hx hb dX4_readEntries_16 (by decide) ?_
        refine r_icmp_gt (P := 16 < tn) (tgt := 156) hx hb dX4_readEntries_18 (by decide) (nI_ltI (by omega) (by omega)) (fun cq18 => ?_) (fun cq18 => ?_)
        · exact absurd cq18 (by omega)
        · refine lv_aload_n hx hb dX4_readEntries_21 rfl (lv_at hl 0 rfl) ?_
          refine g_I (k_V (q0 := 0) (ci := 4) (n := 0) (As := []) (rest := []) (wc := [ob x 4 [.int (nI L), .ref g1, .int (nI pp), .int (nI nu2), .int (nI np2), .int (nI rr), .ref g2, .ref g3], arC G g1 100 (fun j => nI (t j)), ar G g2 24 (fun j => nI (td j)), ar G g3 384 (fun j => nI (tv2 j))]) hx hb hml hown hts (c_X4_readNumber (l := l) (G := G) (x := x) (g1 := g1) (g2 := g2) (g3 := g3) (L := L) (pl := pp) (nu := nu2) (np := np2) (rr := rr) (t := t) (td := td) (tv := tv2) (hL := by first | assumption | omega) (hpl := by first | assumption | omega) (ht := by first | assumption | omega))  gX4_readEntries_X4_readNumber rfl rfl rfl (by decide +kernel) ⟨Nat.le_of_ble_eq_true rfl, Nat.le_of_ble_eq_true rfl⟩ rfl hK hP hD [0, 1, 2, 3] rfl (by decide)  rfl rfl rfl hl.1 rfl (Nat.le_of_ble_eq_true rfl) dX4_readEntries_22 ⟨Nat.le_of_ble_eq_true rfl, Nat.le_of_ble_eq_true rfl⟩) hP hD hS [0, 1, 2, 3] rfl (fun r22 H locs hB22 back hS => ?_)
          obtain ⟨p222, n222, np222, he22, hp222, hp322, hn222, hP1⟩ := hB22
          obtain rfl := Eq.symm he22
          obtain ⟨hP, hD⟩ := back [ob x 4 [.int (nI L), .ref g1, .int (nI p222), .int (nI n222), .int (nI np222), .int (nI rr), .ref g2, .ref g3], arC G g1 100 (fun j => nI (t j)), ar G g2 24 (fun j => nI (td j)), ar G g3 384 (fun j => nI (tv2 j))] rfl hP1
          have hP : va_P G.1 vwCl [ob x 4 [.int (nI L), .ref g1, .int (nI p222), .int (nI n222), .int (nI np222), .int (nI rr), .ref g2, .ref g3], arC G g1 100 (fun j => nI (t j)), ar G g2 24 (fun j => nI (td j)), ar G g3 384 (fun j => nI (tv2 j))] H := hP
          have hD : va_D A [ob x 4 [.int (nI L), .ref g1, .int (nI p222), .int (nI n222), .int (nI np222), .int (nI rr), .ref g2, .ref g3], arC G g1 100 (fun j => nI (t j)), ar G g2 24 (fun j => nI (td j)), ar G g3 384 (fun j => nI (tv2 j))] := hD
          refine r_if_eq (P := (nmO t L (sk t L pp)) = false) (tgt := 58) hx hb dX4_readEntries_25 (by decide) (bI_eq0) (fun cq25 => ?_) (fun cq25 => ?_)
          · refine lv_iconst (v := (nI 0)) hx hb dX4_readEntries_58 (by decide) ?_
            exact hret _ _ _ _ _ hS dX4_readEntries_59 (⟨false, p222, n222, np222, tv2, rfl, hI 1 _ (by rw [ens_f (enO_1 cq25), hp222]), hp322, by assumption, hP⟩)
          · have O1 := Bool.of_not_eq_false cq25
            obtain ⟨v1, w1, l1⟩ := hn222 O1
            refine lv_aload_n hx hb dX4_readEntries_28 rfl (lv_at hl 0 rfl) ?_
            refine lv_aload_n hx hb dX4_readEntries_29 rfl (lv_at hl 0 rfl) ?_
            refine va_get (D := G.1) (ci := 4) (v := .int (nI n222)) (C := RX4) (T := TX4) (N := 8) hx hb hts iqX4_readEntries_X4 hown hK.1 hP 0 rfl rfl 3 (by decide) (hts (.fieldLink RX4 22 "PushedTables$Text" "number" "I") (List.mem_of_getElem? (i := 1) rfl)) (fun _ h9 => h9) rfl dX4_readEntries_30 ?_
            refine g_ro (k_SN (n := 1) (As := [.int (nI n222)]) (rest := [.ref x]) (wc := []) hx hb hml hown hts (c_X5_isColumn (l := l) (G := G) (xa := nI n222))  gX4_readEntries_X5_isColumn_n65 hK.2.2.2.2 (hts (.initialized RX5) (List.mem_of_getElem? (i := 34) rfl)) (hts (.static yX5_isColumn) (List.mem_of_getElem? (i := 33) rfl)) rfl rfl rfl (by decide +kernel) ⟨Nat.le_of_ble_eq_true rfl, Nat.le_of_ble_eq_true rfl⟩ rfl hK hP hD [] rfl (by decide)  hl.1 rfl (Nat.le_of_ble_eq_true rfl) dX4_readEntries_33 ⟨Nat.le_of_ble_eq_true rfl, Nat.le_of_ble_eq_true rfl⟩) (fun r33 h33 => ?_)
            obtain rfl : (bI (inr (nI n222) 0 15)) = r33 := Eq.symm h33
            refine r_if_eq (P := (inr (nI n222) 0 15) = false) (tgt := 51) hx hb dX4_readEntries_36 (by decide) (bI_eq0) (fun cq36 => ?_) (fun cq36 => ?_)
            · have I1 := of_decide_eq_false ((inrn (c := n222) (b := 15) (by omega)).symm.trans cq36)
              refine lv_iconst (v := (bI false)) hx hb dX4_readEntries_51 (by decide) ?_
              refine g_I (k_V (q0 := 0) (ci := 4) (n := 1) (As := [.int (bI false)]) (rest := []) (wc := [ob x 4 [.int (nI L), .ref g1, .int (nI p222), .int (nI n222), .int (nI np222), .int (nI rr), .ref g2, .ref g3], arC G g1 100 (fun j => nI (t j)), ar G g2 24 (fun j => nI (td j)), ar G g3 384 (fun j => nI (tv2 j))]) hx hb hml hown hts (c_X4_allowNumber (l := l) (G := G) (x := x) (g1 := g1) (g2 := g2) (g3 := g3) (L := L) (pl := p222) (nu := n222) (np := np222) (rr := rr) (t := t) (td := td) (tv := tv2) (hL := by first | assumption | omega) (hpl := by first | assumption | omega) (ht := by first | assumption | omega) (okb := false))  gX4_readEntries_X4_allowNumber rfl rfl rfl (by decide +kernel) ⟨Nat.le_of_ble_eq_true rfl, Nat.le_of_ble_eq_true rfl⟩ rfl hK hP hD [0, 1, 2, 3] rfl (by decide)  rfl rfl rfl hl.1 rfl (Nat.le_of_ble_eq_true rfl) dX4_readEntries_52 ⟨Nat.le_of_ble_eq_true rfl, Nat.le_of_ble_eq_true rfl⟩) hP hD hS [0, 1, 2, 3] rfl (fun r52 H locs hB52 back hS => ?_)
              obtain ⟨p252, he52, hp252, hP1⟩ := hB52
              obtain rfl := Eq.symm he52
              obtain ⟨hP, hD⟩ := back [ob x 4 [.int (nI L), .ref g1, .int (nI p252), .int (nI n222), .int (nI np222), .int (nI rr), .ref g2, .ref g3], arC G g1 100 (fun j => nI (t j)), ar G g2 24 (fun j => nI (td j)), ar G g3 384 (fun j => nI (tv2 j))] rfl hP1
              have hP : va_P G.1 vwCl [ob x 4 [.int (nI L), .ref g1, .int (nI p252), .int (nI n222), .int (nI np222), .int (nI rr), .ref g2, .ref g3], arC G g1 100 (fun j => nI (t j)), ar G g2 24 (fun j => nI (td j)), ar G g3 384 (fun j => nI (tv2 j))] H := hP
              have hD : va_D A [ob x 4 [.int (nI L), .ref g1, .int (nI p252), .int (nI n222), .int (nI np222), .int (nI rr), .ref g2, .ref g3], arC G g1 100 (fun j => nI (t j)), ar G g2 24 (fun j => nI (td j)), ar G g3 384 (fun j => nI (tv2 j))] := hD
              refine r_if_ne (P := false = false) (tgt := 60) hx hb dX4_readEntries_55 (by decide) (bI_eq0) (fun cq55 => ?_) (fun cq55 => ?_)
              · exact absurd rfl cq55
              · refine lv_iconst (v := (nI 0)) hx hb dX4_readEntries_58 (by decide) ?_
                exact hret _ _ _ _ _ hS dX4_readEntries_59 (⟨false, p252, n222, np222, tv2, rfl, hI 1 _ (by rw [ens_f (enO_2 O1 (by rw [← v1]; omega)), hp252, if_neg (by decide), w1]), by rw [hp252, if_neg (by decide), w1]; exact sk_le hpp, by assumption, hP⟩)
            · have I1 := of_decide_eq_true ((inrn (c := n222) (b := 15) (by omega)).symm.trans (Bool.of_not_eq_false cq36))
              refine lv_aload_n hx hb dX4_readEntries_39 rfl (lv_at hl 0 rfl) ?_
              refine va_get (D := G.1) (ci := 4) (v := .int (nI n222)) (C := RX4) (T := TX4) (N := 8) hx hb hts iqX4_readEntries_X4 hown hK.1 hP 0 rfl rfl 3 (by decide) (hts (.fieldLink RX4 22 "PushedTables$Text" "number" "I") (List.mem_of_getElem? (i := 1) rfl)) (fun _ h9 => h9) rfl dX4_readEntries_40 ?_
              refine lv_iload_n hx hb dX4_readEntries_43 rfl (lv_at hl 2 rfl) ?_
              refine r_icmp_le (P := ¬ (bf = 1000 ∨ bf < n222)) (tgt := 51) hx hb dX4_readEntries_44 (by decide) (e1_ltn (by omega) (by omega)) (fun cq44 => ?_) (fun cq44 => ?_)
              · refine lv_iconst (v := (bI false)) hx hb dX4_readEntries_51 (by decide) ?_
                refine g_I (k_V (q0 := 0) (ci := 4) (n := 1) (As := [.int (bI false)]) (rest := []) (wc := [ob x 4 [.int (nI L), .ref g1, .int (nI p222), .int (nI n222), .int (nI np222), .int (nI rr), .ref g2, .ref g3], arC G g1 100 (fun j => nI (t j)), ar G g2 24 (fun j => nI (td j)), ar G g3 384 (fun j => nI (tv2 j))]) hx hb hml hown hts (c_X4_allowNumber (l := l) (G := G) (x := x) (g1 := g1) (g2 := g2) (g3 := g3) (L := L) (pl := p222) (nu := n222) (np := np222) (rr := rr) (t := t) (td := td) (tv := tv2) (hL := by first | assumption | omega) (hpl := by first | assumption | omega) (ht := by first | assumption | omega) (okb := false))  gX4_readEntries_X4_allowNumber rfl rfl rfl (by decide +kernel) ⟨Nat.le_of_ble_eq_true rfl, Nat.le_of_ble_eq_true rfl⟩ rfl hK hP hD [0, 1, 2, 3] rfl (by decide)  rfl rfl rfl hl.1 rfl (Nat.le_of_ble_eq_true rfl) dX4_readEntries_52 ⟨Nat.le_of_ble_eq_true rfl, Nat.le_of_ble_eq_true rfl⟩) hP hD hS [0, 1, 2, 3] rfl (fun r52 H locs hB52 back hS => ?_)
                obtain ⟨p252, he52, hp252, hP1⟩ := hB52
                obtain rfl := Eq.symm he52
                obtain ⟨hP, hD⟩ := back [ob x 4 [.int (nI L), .ref g1, .int (nI p252), .int (nI n222), .int (nI np222), .int (nI rr), .ref g2, .ref g3], arC G g1 100 (fun j => nI (t j)), ar G g2 24 (fun j => nI (td j)), ar G g3 384 (fun j => nI (tv2 j))] rfl hP1
                have hP : va_P G.1 vwCl [ob x 4 [.int (nI L), .ref g1, .int (nI p252), .int (nI n222), .int (nI np222), .int (nI rr), .ref g2, .ref g3], arC G g1 100 (fun j => nI (t j)), ar G g2 24 (fun j => nI (td j)), ar G g3 384 (fun j => nI (tv2 j))] H := hP
                have hD : va_D A [ob x 4 [.int (nI L), .ref g1, .int (nI p252), .int (nI n222), .int (nI np222), .int (nI rr), .ref g2, .ref g3], arC G g1 100 (fun j => nI (t j)), ar G g2 24 (fun j => nI (td j)), ar G g3 384 (fun j => nI (tv2 j))] := hD
                refine r_if_ne (P := false = false) (tgt := 60) hx hb dX4_readEntries_55 (by decide) (bI_eq0) (fun cq55 => ?_) (fun cq55 => ?_)
                · exact absurd rfl cq55
                · refine lv_iconst (v := (nI 0)) hx hb dX4_readEntries_58 (by decide) ?_
                  exact hret _ _ _ _ _ hS dX4_readEntries_59 (⟨false, p252, n222, np222, tv2, rfl, hI 1 _ (by rw [ens_f (enO_2 O1 (by rw [← v1]; exact fun z => cq44 z.2)), hp252, if_neg (by decide), w1]), by rw [hp252, if_neg (by decide), w1]; exact sk_le hpp, by assumption, hP⟩)
              · have C1 : nmV t L (sk t L pp) < 16 ∧ (bf = 1000 ∨ bf < nmV t L (sk t L pp)) := by rw [← v1]; exact ⟨by omega, Classical.not_not.mp cq44⟩
                refine lv_iconst (v := (bI true)) hx hb dX4_readEntries_47 (by decide) ?_
                refine lv_goto (tgt := 52) hx hb dX4_readEntries_48 (by decide) ?_
                refine g_I (k_V (q0 := 0) (ci := 4) (n := 1) (As := [.int (bI true)]) (rest := []) (wc := [ob x 4 [.int (nI L), .ref g1, .int (nI p222), .int (nI n222), .int (nI np222), .int (nI rr), .ref g2, .ref g3], arC G g1 100 (fun j => nI (t j)), ar G g2 24 (fun j => nI (td j)), ar G g3 384 (fun j => nI (tv2 j))]) hx hb hml hown hts (c_X4_allowNumber (l := l) (G := G) (x := x) (g1 := g1) (g2 := g2) (g3 := g3) (L := L) (pl := p222) (nu := n222) (np := np222) (rr := rr) (t := t) (td := td) (tv := tv2) (hL := by first | assumption | omega) (hpl := by first | assumption | omega) (ht := by first | assumption | omega) (okb := true))  gX4_readEntries_X4_allowNumber rfl rfl rfl (by decide +kernel) ⟨Nat.le_of_ble_eq_true rfl, Nat.le_of_ble_eq_true rfl⟩ rfl hK hP hD [0, 1, 2, 3] rfl (by decide)  rfl rfl rfl hl.1 rfl (Nat.le_of_ble_eq_true rfl) dX4_readEntries_52 ⟨Nat.le_of_ble_eq_true rfl, Nat.le_of_ble_eq_true rfl⟩) hP hD hS [0, 1, 2, 3] rfl (fun r52 H locs hB52 back hS => ?_)
                obtain ⟨p252, he52, hp252, hP1⟩ := hB52
                obtain rfl := Eq.symm he52
                obtain ⟨hP, hD⟩ := back [ob x 4 [.int (nI L), .ref g1, .int (nI p252), .int (nI n222), .int (nI np222), .int (nI rr), .ref g2, .ref g3], arC G g1 100 (fun j => nI (t j)), ar G g2 24 (fun j => nI (td j)), ar G g3 384 (fun j => nI (tv2 j))] rfl hP1
                have hP : va_P G.1 vwCl [ob x 4 [.int (nI L), .ref g1, .int (nI p252), .int (nI n222), .int (nI np222), .int (nI rr), .ref g2, .ref g3], arC G g1 100 (fun j => nI (t j)), ar G g2 24 (fun j => nI (td j)), ar G g3 384 (fun j => nI (tv2 j))] H := hP
                have hD : va_D A [ob x 4 [.int (nI L), .ref g1, .int (nI p252), .int (nI n222), .int (nI np222), .int (nI rr), .ref g2, .ref g3], arC G g1 100 (fun j => nI (t j)), ar G g2 24 (fun j => nI (td j)), ar G g3 384 (fun j => nI (tv2 j))] := hD
                refine r_if_ne (P := true = false) (tgt := 60) hx hb dX4_readEntries_55 (by decide) (bI_eq0) (fun cq55 => ?_) (fun cq55 => ?_)
                · have e52 : p252 = nmP t L (sk t L pp) := by rw [hp252, if_pos rfl, hp222]
                  have hp52 : p252 ≤ L := by rw [hp252, if_pos rfl]; exact hp322
                  refine lv_aload_n hx hb dX4_readEntries_60 rfl (lv_at hl 0 rfl) ?_
                  refine va_get (D := G.1) (ci := 4) (v := .int (nI n222)) (C := RX4) (T := TX4) (N := 8) hx hb hts iqX4_readEntries_X4 hown hK.1 hP 0 rfl rfl 3 (by decide) (hts (.fieldLink RX4 22 "PushedTables$Text" "number" "I") (List.mem_of_getElem? (i := 1) rfl)) (fun _ h9 => h9) rfl dX4_readEntries_61 ?_
                  refine lv_istore (lv' := [(4, .int (nI n222)), (0, .ref x), (1, .int (nI r)), (2, .int (e1 bf)), (3, .int (nI tn))]) hx hb dX4_readEntries_64 hl (by decide) rfl (fun ls hl => ?_)
                  refine lv_aload_n hx hb dX4_readEntries_66 rfl (lv_at hl 1 rfl) ?_
                  refine lv_bipush (v := (nI 61)) hx hb dX4_readEntries_67 (by decide) ?_
                  refine g_I (k_V (q0 := 0) (ci := 4) (n := 1) (As := [.int (nI 61)]) (rest := []) (wc := [ob x 4 [.int (nI L), .ref g1, .int (nI p252), .int (nI n222), .int (nI np222), .int (nI rr), .ref g2, .ref g3], arC G g1 100 (fun j => nI (t j)), ar G g2 24 (fun j => nI (td j)), ar G g3 384 (fun j => nI (tv2 j))]) hx hb hml hown hts (c_X4_takeSign (l := l) (G := G) (x := x) (g1 := g1) (g2 := g2) (g3 := g3) (L := L) (pl := p252) (nu := n222) (np := np222) (rr := rr) (t := t) (td := td) (tv := tv2) (hL := by first | assumption | omega) (hpl := by first | assumption | omega) (ht := by first | assumption | omega) (w := 61) (hw := by first | assumption | omega) (hw0 := by first | assumption | omega))  gX4_readEntries_X4_takeSign rfl rfl rfl (by decide +kernel) ⟨Nat.le_of_ble_eq_true rfl, Nat.le_of_ble_eq_true rfl⟩ rfl hK hP hD [0, 1, 2, 3] rfl (by decide)  rfl rfl rfl hl.1 rfl (Nat.le_of_ble_eq_true rfl) dX4_readEntries_69 ⟨Nat.le_of_ble_eq_true rfl, Nat.le_of_ble_eq_true rfl⟩) hP hD hS [0, 1, 2, 3] rfl (fun r69 H locs hB69 back hS => ?_)
                  obtain ⟨p269, he69, hp269, hp369, hP1⟩ := hB69
                  obtain rfl := Eq.symm he69
                  obtain ⟨hP, hD⟩ := back [ob x 4 [.int (nI L), .ref g1, .int (nI p269), .int (nI n222), .int (nI np222), .int (nI rr), .ref g2, .ref g3], arC G g1 100 (fun j => nI (t j)), ar G g2 24 (fun j => nI (td j)), ar G g3 384 (fun j => nI (tv2 j))] rfl hP1
                  have hP : va_P G.1 vwCl [ob x 4 [.int (nI L), .ref g1, .int (nI p269), .int (nI n222), .int (nI np222), .int (nI rr), .ref g2, .ref g3], arC G g1 100 (fun j => nI (t j)), ar G g2 24 (fun j => nI (td j)), ar G g3 384 (fun j => nI (tv2 j))] H := hP
                  have hD : va_D A [ob x 4 [.int (nI L), .ref g1, .int (nI p269), .int (nI n222), .int (nI np222), .int (nI rr), .ref g2, .ref g3], arC G g1 100 (fun j => nI (t j)), ar G g2 24 (fun j => nI (td j)), ar G g3 384 (fun j => nI (tv2 j))] := hD
                  refine r_if_eq (P := (decide (sg t L (sk t L p252) = 61)) = false) (tgt := 107) hx hb dX4_readEntries_72 (by decide) (bI_eq0) (fun cq72 => ?_) (fun cq72 => ?_)
                  · refine lv_iconst (v := (nI 0)) hx hb dX4_readEntries_107 (by decide) ?_
                    exact hret _ _ _ _ _ hS dX4_readEntries_108 (⟨false, p269, n222, np222, tv2, rfl, hI 1 _ (by rw [ens_f (enO_3 O1 C1 (by rw [← e52]; exact of_decide_eq_false cq72)), hp269, if_neg (of_decide_eq_false cq72), e52]), hp369, by assumption, hP⟩)
                  · have S1 : sg t L (sk t L p252) = 61 := of_decide_eq_true (Bool.of_not_eq_false cq72)
                    have e69 : p269 = sk t L p252 + 1 := by rw [hp269, if_pos S1]
                    rw [e52] at S1 e69
                    refine lv_aload_n hx hb dX4_readEntries_75 rfl (lv_at hl 1 rfl) ?_
                    refine g_I (k_V (q0 := 0) (ci := 4) (n := 0) (As := []) (rest := []) (wc := [ob x 4 [.int (nI L), .ref g1, .int (nI p269), .int (nI n222), .int (nI np222), .int (nI rr), .ref g2, .ref g3], arC G g1 100 (fun j => nI (t j)), ar G g2 24 (fun j => nI (td j)), ar G g3 384 (fun j => nI (tv2 j))]) hx hb hml hown hts (c_X4_readNumber (l := l) (G := G) (x := x) (g1 := g1) (g2 := g2) (g3 := g3) (L := L) (pl := p269) (nu := n222) (np := np222) (rr := rr) (t := t) (td := td) (tv := tv2) (hL := by first | assumption | omega) (hpl := by first | assumption | omega) (ht := by first | assumption | omega))  gX4_readEntries_X4_readNumber rfl rfl rfl (by decide +kernel) ⟨Nat.le_of_ble_eq_true rfl, Nat.le_of_ble_eq_true rfl⟩ rfl hK hP hD [0, 1, 2, 3] rfl (by decide)  rfl rfl rfl hl.1 rfl (Nat.le_of_ble_eq_true rfl) dX4_readEntries_76 ⟨Nat.le_of_ble_eq_true rfl, Nat.le_of_ble_eq_true rfl⟩) hP hD hS [0, 1, 2, 3] rfl (fun r76 H locs hB76 back hS => ?_)
                    obtain ⟨p276, n276, np276, he76, hp276, hp376, hn276, hP1⟩ := hB76
                    obtain rfl := Eq.symm he76
                    obtain ⟨hP, hD⟩ := back [ob x 4 [.int (nI L), .ref g1, .int (nI p276), .int (nI n276), .int (nI np276), .int (nI rr), .ref g2, .ref g3], arC G g1 100 (fun j => nI (t j)), ar G g2 24 (fun j => nI (td j)), ar G g3 384 (fun j => nI (tv2 j))] rfl hP1
                    have hP : va_P G.1 vwCl [ob x 4 [.int (nI L), .ref g1, .int (nI p276), .int (nI n276), .int (nI np276), .int (nI rr), .ref g2, .ref g3], arC G g1 100 (fun j => nI (t j)), ar G g2 24 (fun j => nI (td j)), ar G g3 384 (fun j => nI (tv2 j))] H := hP
                    have hD : va_D A [ob x 4 [.int (nI L), .ref g1, .int (nI p276), .int (nI n276), .int (nI np276), .int (nI rr), .ref g2, .ref g3], arC G g1 100 (fun j => nI (t j)), ar G g2 24 (fun j => nI (td j)), ar G g3 384 (fun j => nI (tv2 j))] := hD
                    refine r_if_eq (P := (nmO t L (sk t L p269)) = false) (tgt := 107) hx hb dX4_readEntries_79 (by decide) (bI_eq0) (fun cq79 => ?_) (fun cq79 => ?_)
                    · refine lv_iconst (v := (nI 0)) hx hb dX4_readEntries_107 (by decide) ?_
                      exact hret _ _ _ _ _ hS dX4_readEntries_108 (⟨false, p276, n276, np276, tv2, rfl, hI 1 _ (by rw [ens_f (enO_4 O1 C1 S1 (by rw [← e69]; exact cq79)), hp276, e69]), hp376, by assumption, hP⟩)
                    · have O2 := Bool.of_not_eq_false cq79
                      obtain ⟨v2, w2, l2⟩ := hn276 O2
                      rw [e69] at O2 v2 w2
                      refine lv_aload_n hx hb dX4_readEntries_82 rfl (lv_at hl 1 rfl) ?_
                      refine lv_aload_n hx hb dX4_readEntries_83 rfl (lv_at hl 1 rfl) ?_
                      refine va_get (D := G.1) (ci := 4) (v := .int (nI n276)) (C := RX4) (T := TX4) (N := 8) hx hb hts iqX4_readEntries_X4 hown hK.1 hP 0 rfl rfl 3 (by decide) (hts (.fieldLink RX4 22 "PushedTables$Text" "number" "I") (List.mem_of_getElem? (i := 1) rfl)) (fun _ h9 => h9) rfl dX4_readEntries_84 ?_
                      refine lv_aload_n hx hb dX4_readEntries_87 rfl (lv_at hl 1 rfl) ?_
                      refine va_get (D := G.1) (ci := 4) (v := .ref g2) (C := RX4) (T := TX4) (N := 8) hx hb hts iqX4_readEntries_X4 hown hK.1 hP 0 rfl rfl 6 (by decide) (hts (.fieldLink RX4 31 "PushedTables$Text" "defaults" "[I") (List.mem_of_getElem? (i := 2) rfl)) (fun _ h9 => h9) rfl dX4_readEntries_88 ?_
                      refine lv_iload_n hx hb dX4_readEntries_91 rfl (lv_at hl 2 rfl) ?_
                      refine r_iald (e1 := r) (v := (nI (td r))) hx hb hK.1 hP 2 0 rfl rfl (by omega) (by decide) (rfl) dX4_readEntries_92 ?_
                      have btd := htd r
                      refine r_icmp_eq (P := n276 = (td r)) (tgt := 100) hx hb dX4_readEntries_93 (by decide) (nI_eq (by omega) (by omega)) (fun cq93 => ?_) (fun cq93 => ?_)
                      · refine lv_iconst (v := (bI false)) hx hb dX4_readEntries_100 (by decide) ?_
                        refine g_I (k_V (q0 := 0) (ci := 4) (n := 1) (As := [.int (bI false)]) (rest := []) (wc := [ob x 4 [.int (nI L), .ref g1, .int (nI p276), .int (nI n276), .int (nI np276), .int (nI rr), .ref g2, .ref g3], arC G g1 100 (fun j => nI (t j)), ar G g2 24 (fun j => nI (td j)), ar G g3 384 (fun j => nI (tv2 j))]) hx hb hml hown hts (c_X4_allowNumber (l := l) (G := G) (x := x) (g1 := g1) (g2 := g2) (g3 := g3) (L := L) (pl := p276) (nu := n276) (np := np276) (rr := rr) (t := t) (td := td) (tv := tv2) (hL := by first | assumption | omega) (hpl := by first | assumption | omega) (ht := by first | assumption | omega) (okb := false))  gX4_readEntries_X4_allowNumber rfl rfl rfl (by decide +kernel) ⟨Nat.le_of_ble_eq_true rfl, Nat.le_of_ble_eq_true rfl⟩ rfl hK hP hD [0, 1, 2, 3] rfl (by decide)  rfl rfl rfl hl.1 rfl (Nat.le_of_ble_eq_true rfl) dX4_readEntries_101 ⟨Nat.le_of_ble_eq_true rfl, Nat.le_of_ble_eq_true rfl⟩) hP hD hS [0, 1, 2, 3] rfl (fun r101 H locs hB101 back hS => ?_)
                        obtain ⟨p2101, he101, hp2101, hP1⟩ := hB101
                        obtain rfl := Eq.symm he101
                        obtain ⟨hP, hD⟩ := back [ob x 4 [.int (nI L), .ref g1, .int (nI p2101), .int (nI n276), .int (nI np276), .int (nI rr), .ref g2, .ref g3], arC G g1 100 (fun j => nI (t j)), ar G g2 24 (fun j => nI (td j)), ar G g3 384 (fun j => nI (tv2 j))] rfl hP1
                        have hP : va_P G.1 vwCl [ob x 4 [.int (nI L), .ref g1, .int (nI p2101), .int (nI n276), .int (nI np276), .int (nI rr), .ref g2, .ref g3], arC G g1 100 (fun j => nI (t j)), ar G g2 24 (fun j => nI (td j)), ar G g3 384 (fun j => nI (tv2 j))] H := hP
                        have hD : va_D A [ob x 4 [.int (nI L), .ref g1, .int (nI p2101), .int (nI n276), .int (nI np276), .int (nI rr), .ref g2, .ref g3], arC G g1 100 (fun j => nI (t j)), ar G g2 24 (fun j => nI (td j)), ar G g3 384 (fun j => nI (tv2 j))] := hD
                        refine r_if_ne (P := false = false) (tgt := 109) hx hb dX4_readEntries_104 (by decide) (bI_eq0) (fun cq104 => ?_) (fun cq104 => ?_)
                        · exact absurd rfl cq104
                        · refine lv_iconst (v := (nI 0)) hx hb dX4_readEntries_107 (by decide) ?_
                          exact hret _ _ _ _ _ hS dX4_readEntries_108 (⟨false, p2101, n276, np276, tv2, rfl, hI 1 _ (by rw [ens_f (enO_5 O1 C1 S1 O2 (by rw [← v2]; exact cq93)), hp2101, if_neg (by decide), w2]), by rw [hp2101, if_neg (by decide), w2, ← e69]; exact sk_le hp369, by assumption, hP⟩)
                      · refine lv_iconst (v := (bI true)) hx hb dX4_readEntries_96 (by decide) ?_
                        refine lv_goto (tgt := 101) hx hb dX4_readEntries_97 (by decide) ?_
                        refine g_I (k_V (q0 := 0) (ci := 4) (n := 1) (As := [.int (bI true)]) (rest := []) (wc := [ob x 4 [.int (nI L), .ref g1, .int (nI p276), .int (nI n276), .int (nI np276), .int (nI rr), .ref g2, .ref g3], arC G g1 100 (fun j => nI (t j)), ar G g2 24 (fun j => nI (td j)), ar G g3 384 (fun j => nI (tv2 j))]) hx hb hml hown hts (c_X4_allowNumber (l := l) (G := G) (x := x) (g1 := g1) (g2 := g2) (g3 := g3) (L := L) (pl := p276) (nu := n276) (np := np276) (rr := rr) (t := t) (td := td) (tv := tv2) (hL := by first | assumption | omega) (hpl := by first | assumption | omega) (ht := by first | assumption | omega) (okb := true))  gX4_readEntries_X4_allowNumber rfl rfl rfl (by decide +kernel) ⟨Nat.le_of_ble_eq_true rfl, Nat.le_of_ble_eq_true rfl⟩ rfl hK hP hD [0, 1, 2, 3] rfl (by decide)  rfl rfl rfl hl.1 rfl (Nat.le_of_ble_eq_true rfl) dX4_readEntries_101 ⟨Nat.le_of_ble_eq_true rfl, Nat.le_of_ble_eq_true rfl⟩) hP hD hS [0, 1, 2, 3] rfl (fun r101 H locs hB101 back hS => ?_)
                        obtain ⟨p2101, he101, hp2101, hP1⟩ := hB101
                        obtain rfl := Eq.symm he101
                        obtain ⟨hP, hD⟩ := back [ob x 4 [.int (nI L), .ref g1, .int (nI p2101), .int (nI n276), .int (nI np276), .int (nI rr), .ref g2, .ref g3], arC G g1 100 (fun j => nI (t j)), ar G g2 24 (fun j => nI (td j)), ar G g3 384 (fun j => nI (tv2 j))] rfl hP1
                        have hP : va_P G.1 vwCl [ob x 4 [.int (nI L), .ref g1, .int (nI p2101), .int (nI n276), .int (nI np276), .int (nI rr), .ref g2, .ref g3], arC G g1 100 (fun j => nI (t j)), ar G g2 24 (fun j => nI (td j)), ar G g3 384 (fun j => nI (tv2 j))] H := hP
                        have hD : va_D A [ob x 4 [.int (nI L), .ref g1, .int (nI p2101), .int (nI n276), .int (nI np276), .int (nI rr), .ref g2, .ref g3], arC G g1 100 (fun j => nI (t j)), ar G g2 24 (fun j => nI (td j)), ar G g3 384 (fun j => nI (tv2 j))] := hD
                        refine r_if_ne (P := true = false) (tgt := 109) hx hb dX4_readEntries_104 (by decide) (bI_eq0) (fun cq104 => ?_) (fun cq104 => ?_)
                        · have e101 : p2101 = nmP t L (sk t L (sk t L (nmP t L (sk t L pp)) + 1)) := by rw [hp2101, if_pos rfl, hp276, e69]
                          have hp101 : p2101 ≤ L := by rw [hp2101, if_pos rfl]; exact hp376
                          have E := enO_6 (d := td r) (bf := bf) O1 C1 S1 O2 (fun z => cq93 (by rw [v2]; exact z))
                          rw [← e101, ← v1, ← v2] at E
                          have c16 : n222 < 16 := by rw [v1]; exact C1.1
                          have htv3 : ∀ k, va_up tv2 (r * 16 + n222) n276 k < 100 := up_all (P := fun z => z < 100) htv2 l2
                          refine lv_aload_n hx hb dX4_readEntries_109 rfl (lv_at hl 1 rfl) ?_
                          refine va_get (D := G.1) (ci := 4) (v := .ref g3) (C := RX4) (T := TX4) (N := 8) hx hb hts iqX4_readEntries_X4 hown hK.1 hP 0 rfl rfl 7 (by decide) (hts (.fieldLink RX4 35 "PushedTables$Text" "values" "[I") (List.mem_of_getElem? (i := 3) rfl)) (fun _ h9 => h9) rfl dX4_readEntries_110 ?_
                          refine lv_iload_n hx hb dX4_readEntries_113 rfl (lv_at hl 2 rfl) ?_
                          refine lv_bipush (v := (nI 16)) hx hb dX4_readEntries_114 (by decide) ?_
                          refine r_imul (v := r * 16) hx hb dX4_readEntries_116 rfl ?_
                          refine lv_iload hx hb dX4_readEntries_117 (lv_at hl 0 rfl) ?_
                          refine r_iadd (v := (r * 16) + n222) hx hb dX4_readEntries_119 rfl ?_
                          refine lv_aload_n hx hb dX4_readEntries_120 rfl (lv_at hl 1 rfl) ?_
                          refine va_get (D := G.1) (ci := 4) (v := .int (nI n276)) (C := RX4) (T := TX4) (N := 8) hx hb hts iqX4_readEntries_X4 hown hK.1 hP 0 rfl rfl 3 (by decide) (hts (.fieldLink RX4 22 "PushedTables$Text" "number" "I") (List.mem_of_getElem? (i := 1) rfl)) (fun _ h9 => h9) rfl dX4_readEntries_121 ?_
                          refine r_iast (e1 := (r * 16) + n222) (x := (nI n276)) (g := (fun j => nI ((va_up tv2 ((r * 16) + n222) n276) j))) hx hb hK.1 hP hD hS 3 0 rfl rfl (by omega) (by first | decide | assumption) (up_nI _ _ _) dX4_readEntries_124 (fun H locs hP hD hS => ?_)
                          have hP : va_P G.1 vwCl [ob x 4 [.int (nI L), .ref g1, .int (nI p2101), .int (nI n276), .int (nI np276), .int (nI rr), .ref g2, .ref g3], arC G g1 100 (fun j => nI (t j)), ar G g2 24 (fun j => nI (td j)), ar G g3 384 (fun j => nI ((va_up tv2 ((r * 16) + n222) n276) j))] H := hP
                          have hD : va_D A [ob x 4 [.int (nI L), .ref g1, .int (nI p2101), .int (nI n276), .int (nI np276), .int (nI rr), .ref g2, .ref g3], arC G g1 100 (fun j => nI (t j)), ar G g2 24 (fun j => nI (td j)), ar G g3 384 (fun j => nI ((va_up tv2 ((r * 16) + n222) n276) j))] := hD
                          refine lv_aload_n hx hb dX4_readEntries_125 rfl (lv_at hl 1 rfl) ?_
                          refine lv_bipush (v := (nI 59)) hx hb dX4_readEntries_126 (by decide) ?_
                          refine g_I (k_V (q0 := 0) (ci := 4) (n := 1) (As := [.int (nI 59)]) (rest := []) (wc := [ob x 4 [.int (nI L), .ref g1, .int (nI p2101), .int (nI n276), .int (nI np276), .int (nI rr), .ref g2, .ref g3], arC G g1 100 (fun j => nI (t j)), ar G g2 24 (fun j => nI (td j)), ar G g3 384 (fun j => nI ((va_up tv2 ((r * 16) + n222) n276) j))]) hx hb hml hown hts (c_X4_takeSign (l := l) (G := G) (x := x) (g1 := g1) (g2 := g2) (g3 := g3) (L := L) (pl := p2101) (nu := n276) (np := np276) (rr := rr) (t := t) (td := td) (tv := va_up tv2 ((r * 16) + n222) n276) (hL := by first | assumption | omega) (hpl := by first | assumption | omega) (ht := by first | assumption | omega) (w := 59) (hw := by first | assumption | omega) (hw0 := by first | assumption | omega))  gX4_readEntries_X4_takeSign rfl rfl rfl (by decide +kernel) ⟨Nat.le_of_ble_eq_true rfl, Nat.le_of_ble_eq_true rfl⟩ rfl hK hP hD [0, 1, 2, 3] rfl (by decide)  rfl rfl rfl hl.1 rfl (Nat.le_of_ble_eq_true rfl) dX4_readEntries_128 ⟨Nat.le_of_ble_eq_true rfl, Nat.le_of_ble_eq_true rfl⟩) hP hD hS [0, 1, 2, 3] rfl (fun r128 H locs hB128 back hS => ?_)
                          obtain ⟨p2128, he128, hp2128, hp3128, hP1⟩ := hB128
                          obtain rfl := Eq.symm he128
                          obtain ⟨hP, hD⟩ := back [ob x 4 [.int (nI L), .ref g1, .int (nI p2128), .int (nI n276), .int (nI np276), .int (nI rr), .ref g2, .ref g3], arC G g1 100 (fun j => nI (t j)), ar G g2 24 (fun j => nI (td j)), ar G g3 384 (fun j => nI ((va_up tv2 ((r * 16) + n222) n276) j))] rfl hP1
                          have hP : va_P G.1 vwCl [ob x 4 [.int (nI L), .ref g1, .int (nI p2128), .int (nI n276), .int (nI np276), .int (nI rr), .ref g2, .ref g3], arC G g1 100 (fun j => nI (t j)), ar G g2 24 (fun j => nI (td j)), ar G g3 384 (fun j => nI ((va_up tv2 ((r * 16) + n222) n276) j))] H := hP
                          have hD : va_D A [ob x 4 [.int (nI L), .ref g1, .int (nI p2128), .int (nI n276), .int (nI np276), .int (nI rr), .ref g2, .ref g3], arC G g1 100 (fun j => nI (t j)), ar G g2 24 (fun j => nI (td j)), ar G g3 384 (fun j => nI ((va_up tv2 ((r * 16) + n222) n276) j))] := hD
                          refine r_if_eq (P := (decide (sg t L (sk t L p2101) = 59)) = false) (tgt := 136) hx hb dX4_readEntries_131 (by decide) (bI_eq0) (fun cq131 => ?_) (fun cq131 => ?_)
                          · have N1 := of_decide_eq_false cq131
                            have e128 : p2128 = sk t L p2101 := by rw [hp2128, if_neg N1]
                            refine lv_aload_n hx hb dX4_readEntries_136 rfl (lv_at hl 1 rfl) ?_
                            refine lv_bipush (v := (nI 44)) hx hb dX4_readEntries_137 (by decide) ?_
                            refine g_I (k_V (q0 := 0) (ci := 4) (n := 1) (As := [.int (nI 44)]) (rest := []) (wc := [ob x 4 [.int (nI L), .ref g1, .int (nI p2128), .int (nI n276), .int (nI np276), .int (nI rr), .ref g2, .ref g3], arC G g1 100 (fun j => nI (t j)), ar G g2 24 (fun j => nI (td j)), ar G g3 384 (fun j => nI ((va_up tv2 ((r * 16) + n222) n276) j))]) hx hb hml hown hts (c_X4_takeSign (l := l) (G := G) (x := x) (g1 := g1) (g2 := g2) (g3 := g3) (L := L) (pl := p2128) (nu := n276) (np := np276) (rr := rr) (t := t) (td := td) (tv := (va_up tv2 ((r * 16) + n222) n276)) (hL := by first | assumption | omega) (hpl := by first | assumption | omega) (ht := by first | assumption | omega) (w := 44) (hw := by first | assumption | omega) (hw0 := by first | assumption | omega))  gX4_readEntries_X4_takeSign rfl rfl rfl (by decide +kernel) ⟨Nat.le_of_ble_eq_true rfl, Nat.le_of_ble_eq_true rfl⟩ rfl hK hP hD [0, 1, 2, 3] rfl (by decide)  rfl rfl rfl hl.1 rfl (Nat.le_of_ble_eq_true rfl) dX4_readEntries_139 ⟨Nat.le_of_ble_eq_true rfl, Nat.le_of_ble_eq_true rfl⟩) hP hD hS [0, 1, 2, 3] rfl (fun r139 H locs hB139 back hS => ?_)
                            obtain ⟨p2139, he139, hp2139, hp3139, hP1⟩ := hB139
                            obtain rfl := Eq.symm he139
                            obtain ⟨hP, hD⟩ := back [ob x 4 [.int (nI L), .ref g1, .int (nI p2139), .int (nI n276), .int (nI np276), .int (nI rr), .ref g2, .ref g3], arC G g1 100 (fun j => nI (t j)), ar G g2 24 (fun j => nI (td j)), ar G g3 384 (fun j => nI ((va_up tv2 ((r * 16) + n222) n276) j))] rfl hP1
                            have hP : va_P G.1 vwCl [ob x 4 [.int (nI L), .ref g1, .int (nI p2139), .int (nI n276), .int (nI np276), .int (nI rr), .ref g2, .ref g3], arC G g1 100 (fun j => nI (t j)), ar G g2 24 (fun j => nI (td j)), ar G g3 384 (fun j => nI ((va_up tv2 ((r * 16) + n222) n276) j))] H := hP
                            have hD : va_D A [ob x 4 [.int (nI L), .ref g1, .int (nI p2139), .int (nI n276), .int (nI np276), .int (nI rr), .ref g2, .ref g3], arC G g1 100 (fun j => nI (t j)), ar G g2 24 (fun j => nI (td j)), ar G g3 384 (fun j => nI ((va_up tv2 ((r * 16) + n222) n276) j))] := hD
                            refine r_if_ne (P := (decide (sg t L (sk t L p2128) = 44)) = false) (tgt := 147) hx hb dX4_readEntries_142 (by decide) (bI_eq0) (fun cq142 => ?_) (fun cq142 => ?_)
                            · have M1 := of_decide_eq_true (Bool.of_not_eq_false cq142)
                              rw [e128, sk_sk] at hp2139 M1
                              have e139 : p2139 = sk t L p2101 + 1 := by rw [hp2139, if_pos M1]
                              refine lv_iload hx hb dX4_readEntries_147 (lv_at hl 0 rfl) ?_
                              refine r_top (y := (e1 n222)) ((e1_n (by omega)).symm) ?_
                              refine lv_istore_n (lv' := [(2, .int (e1 n222)), (4, .int (nI n222)), (0, .ref x), (1, .int (nI r)), (3, .int (nI tn))]) hx hb dX4_readEntries_149 rfl hl (by decide) rfl (fun ls hl => ?_)
                              refine r_iinc (v := tn + 1) (lv' := [(3, .int (nI (tn + 1))), (2, .int (e1 n222)), (4, .int (nI n222)), (0, .ref x), (1, .int (nI r))]) hx hb dX4_readEntries_150 hl (k := 4) rfl (nI_1 _) (by decide) rfl (fun ls hl => ?_)
                              refine lv_goto (tgt := 15) hx hb dX4_readEntries_153 (by decide) ?_
                              exact ih15 n222 (tn + 1) p2139 n276 np276 (va_up tv2 ((r * 16) + n222) n276) (by omega) (hp3139) (by have := Classical.not_not.mp cq44; omega) (htv3) (fun n R hR => hI (n + 1) R (by rw [ens_c E N1 M1, ← e139]; exact hR)) _ _ hP hD hS ls (lv_sub hl [3, 4, 1, 0] rfl)
                            · have M2 := of_decide_eq_false cq142
                              rw [e128, sk_sk] at hp2139 M2
                              refine lv_iconst (v := (nI 0)) hx hb dX4_readEntries_145 (by decide) ?_
                              exact hret _ _ _ _ _ hS dX4_readEntries_146 (⟨false, p2139, n276, np276, (va_up tv2 ((r * 16) + n222) n276), rfl, hI 1 _ (by rw [ens_x E N1 M2, hp2139, if_neg M2]), hp3139, htv3, hP⟩)
                          · have Y1 := of_decide_eq_true (Bool.of_not_eq_false cq131)
                            refine lv_iconst (v := (nI 1)) hx hb dX4_readEntries_134 (by decide) ?_
                            exact hret _ _ _ _ _ hS dX4_readEntries_135 (⟨true, p2128, n276, np276, (va_up tv2 ((r * 16) + n222) n276), rfl, hI 1 _ (by rw [ens_e E Y1, hp2128, if_pos Y1]), hp3128, htv3, hP⟩)
                        · exact absurd cq104 (by decide)
                · exact absurd cq55 (by decide)
    exact L15 ((17 - 0) + 1) 1000 0 p23 nu np tv (Nat.lt_succ_self _) (hp33) (Or.inl ⟨rfl, rfl⟩) (htv) (fun n R hR => ⟨n, by unfold reE; rw [if_neg N0, ← e3]; exact hR⟩) _ _ hP hD hS ls (lv_sub hl [2, 3, 1, 0] rfl)
  · have Y0 := of_decide_eq_true (Bool.of_not_eq_false cq6)
    refine lv_iconst (v := (nI 1)) hx hb dX4_readEntries_9 (by decide) ?_
    exact hret _ _ _ _ _ hS dX4_readEntries_10 (⟨true, p23, nu, np, tv, rfl, ⟨0, by unfold reE; rw [if_pos Y0, hp23, if_pos Y0]⟩, hp33, by assumption, hP⟩)

theorem dfV_f {t : Nat → Nat} {L p : Nat} (h : dg t L p = false) : dfV t L p = 0 := by unfold dfV; rw [h]; rfl
theorem dfV_t {t : Nat → Nat} {L p : Nat} (h : dg t L p = true) : dfV t L p = nmV t L p := by unfold dfV; rw [h]; rfl
theorem dfP_f {t : Nat → Nat} {L p : Nat} (h : dg t L p = false) : dfP t L p = p := by unfold dfP; rw [h]; rfl
theorem dfP_t {t : Nat → Nat} {L p : Nat} (h : dg t L p = true) : dfP t L p = nmP t L p := by unfold dfP; rw [h]; rfl
theorem dfO_f {t : Nat → Nat} {L p : Nat} (h : dg t L p = false) : dfO t L p = true := by unfold dfO; rw [h]; rfl
theorem dfO_t {t : Nat → Nat} {L p : Nat} (h : nmO t L p = true) : dfO t L p = true := by unfold dfO; rw [h, Bool.or_true]
theorem dfO_n {t : Nat → Nat} {L p : Nat} (h : dg t L p = true) (h2 : nmO t L p = false) : dfO t L p = false := by unfold dfO; rw [h, h2]; rfl
theorem fl16_lt {tv : Nat → Nat} {r d : Nat} (h : ∀ k, tv k < 100) (hd : d < 100) : ∀ k, fl16 tv r d k < 100 := fun k => by
  unfold fl16; split
  · exact hd
  · exact h k
theorem rwE_2 {t tv : Nat → Nat} {L r p q dv : Nat} (h : dfO t L p = true) (h2 : ¬ sg t L (sk t L (dfP t L p)) = 58) (e : q = sk t L (dfP t L p)) (hd : dv = dfV t L p) : ∃ n, rwE t L r n p tv = some (false, q, fl16 tv r dv) := by
  refine ⟨0, ?_⟩
  unfold rwE
  rw [if_neg (by rw [h]; decide), if_pos h2, e, hd]
theorem rwE_5 {t tv : Nat → Nat} {L r p q q2 dv : Nat} {b : Bool} {tv2 : Nat → Nat} (h : dfO t L p = true) (h2 : sg t L (sk t L (dfP t L p)) = 58) (e : q = sk t L (dfP t L p) + 1) (hd : dv = dfV t L p) {d : Nat} (hE : ∃ n, reE t L d r n q (fl16 tv r dv) = some (b, q2, tv2)) (e2 : d = dv) : ∃ n, rwE t L r n p tv = some (b, q2, tv2) := by
  obtain ⟨n, hn⟩ := hE
  refine ⟨n, ?_⟩
  unfold rwE
  rw [if_neg (by rw [h]; decide), if_neg (fun z => z h2), ← e, ← hd, ← e2]
  rw [e2] at hn ⊢
  exact hn
theorem rwE_3 {t tv : Nat → Nat} {L r p q q2 dv : Nat} {b : Bool} {tv2 : Nat → Nat} (h : dfO t L p = true) (h2 : sg t L (sk t L (dfP t L p)) = 58) (e : q = sk t L (dfP t L p) + 1) (hd : dv = dfV t L p) {d : Nat} (hE : ∃ n, reE t L d r n q (fl16 tv r dv) = some (b, q2, tv2)) (e2 : d = dv) (hb : b = false) : ∃ n, rwE t L r n p tv = some (false, q2, tv2) := by
  rw [← hb]; exact rwE_5 h h2 e hd hE e2
theorem rwE_4 {t tv : Nat → Nat} {L r p q q2 dv : Nat} {b : Bool} {tv2 : Nat → Nat} (h : dfO t L p = true) (h2 : sg t L (sk t L (dfP t L p)) = 58) (e : q = sk t L (dfP t L p) + 1) (hd : dv = dfV t L p) {d : Nat} (hE : ∃ n, reE t L d r n q (fl16 tv r dv) = some (b, q2, tv2)) (e2 : d = dv) (hb : b = true) : ∃ n, rwE t L r n p tv = some (true, q2, tv2) := by
  rw [← hb]; exact rwE_5 h h2 e hd hE e2
theorem iqX4_readRow_X4 : ∀ w ∈ u_ws RX4 TX4 8, w ∈ wsX4_readRow := by decide +kernel
set_option maxHeartbeats 1000000 in
set_option maxRecDepth 100000 in
theorem c_X4_readRow (l : Launch) (G : kG) (x g1 g2 g3 L pl nu np rr : Nat) (t td tv : Nat → Nat) (hL : L ≤ 100) (hpl : pl ≤ L) (ht : ∀ k, t k < 256) (r : Nat) (hr : r < 24) (hsk : sk t L pl = pl) (htd : ∀ k, td k < 100) (htv : ∀ k, tv k < 100) : Met l yX4_readRow wsX4_readRow ({ frames := 4, cells := 0, slots := 0, locals := 85 } : Room) (cP G [.ref x, .int (nI r)] [ob x 4 [.int (nI L), .ref g1, .int (nI pl), .int (nI nu), .int (nI np), .int (nI rr), .ref g2, .ref g3], arC G g1 100 (fun j => nI (t j)), ar G g2 24 (fun j => nI (td j)), ar G g3 384 (fun j => nI (tv j))]) (qI (fun rv H => ∃ (ok2 : Bool) (p2 : Nat) (n2 : Nat) (np2 : Nat) (td2 : Nat → Nat) (tv2 : Nat → Nat), rv = (bI ok2) ∧ (∃ n, rwE t L r n pl tv = some (ok2, p2, tv2)) ∧ p2 ≤ L ∧ (ok2 = true → td2 = va_up td r (dfV t L pl)) ∧ (∀ k, td2 k < 100) ∧ (∀ k, tv2 k < 100) ∧ va_P G.1 vwCl [ob x 4 [.int (nI L), .ref g1, .int (nI p2), .int (nI n2), .int (nI np2), .int (nI rr), .ref g2, .ref g3], arC G g1 100 (fun j => nI (t j)), ar G g2 24 (fun j => nI (td2 j)), ar G g3 384 (fun j => nI (tv2 j))] H) (mA [ob x 4 [.int (nI L), .ref g1, .int (nI pl), .int (nI nu), .int (nI np), .int (nI rr), .ref g2, .ref g3], arC G g1 100 (fun j => nI (t j)), ar G g2 24 (fun j => nI (td j)), ar G g3 384 (fun j => nI (tv j))])) 0 0 (mA [ob x 4 [.int (nI L), .ref g1, .int (nI pl), .int (nI nu), .int (nI np), .int (nI rr), .ref g2, .ref g3], arC G g1 100 (fun j => nI (t j)), ar G g2 24 (fun j => nI (td j)), ar G g3 384 (fun j => nI (tv j))]) := by
  refine met_muI (cc := cX4_readRow) (maxL := 2) (ty := .boolean) (own := RX4) (by decide) rfl rfl (fun _ _ h => by obtain ⟨_, _, _, _, _, _, rfl, _⟩ := h; exact bI_nar _) (Nat.le_of_ble_eq_true rfl) ?_
  intro p e s m args below meth cod Q A hx hb hml hown hts hK hP hD hS hret ls hl
  have hl : lv_has ls 2 [(0, .ref x), (1, .int (nI r))] := hl
  refine lv_aload_n hx hb dX4_readRow_0 rfl (lv_at hl 0 rfl) ?_
  refine va_get (D := G.1) (ci := 4) (v := .ref g2) (C := RX4) (T := TX4) (N := 8) hx hb hts iqX4_readRow_X4 hown hK.1 hP 0 rfl rfl 6 (by decide) (hts (.fieldLink RX4 31 "PushedTables$Text" "defaults" "[I") (List.mem_of_getElem? (i := 1) rfl)) (fun _ h9 => h9) rfl dX4_readRow_1 ?_
  refine lv_iload_n hx hb dX4_readRow_4 rfl (lv_at hl 1 rfl) ?_
  refine lv_iconst (v := (nI 0)) hx hb dX4_readRow_5 (by decide) ?_
  refine r_iast (e1 := r) (x := (nI 0)) (g := (fun j => nI ((va_up td r 0) j))) hx hb hK.1 hP hD hS 2 0 rfl rfl (by omega) (by first | decide | assumption) (up_nI _ _ _) dX4_readRow_6 (fun H locs hP hD hS => ?_)
  have hP : va_P G.1 vwCl [ob x 4 [.int (nI L), .ref g1, .int (nI pl), .int (nI nu), .int (nI np), .int (nI rr), .ref g2, .ref g3], arC G g1 100 (fun j => nI (t j)), ar G g2 24 (fun j => nI ((va_up td r 0) j)), ar G g3 384 (fun j => nI (tv j))] H := hP
  have hD : va_D A [ob x 4 [.int (nI L), .ref g1, .int (nI pl), .int (nI nu), .int (nI np), .int (nI rr), .ref g2, .ref g3], arC G g1 100 (fun j => nI (t j)), ar G g2 24 (fun j => nI ((va_up td r 0) j)), ar G g3 384 (fun j => nI (tv j))] := hD
  refine lv_aload_n hx hb dX4_readRow_7 rfl (lv_at hl 0 rfl) ?_
  refine g_ro (k_V (q0 := 0) (ci := 4) (n := 0) (As := []) (rest := []) (wc := [ob x 4 [.int (nI L), .ref g1, .int (nI pl), .int (nI nu), .int (nI np), .int (nI rr), .ref g2, .ref g3], arC G g1 100 (fun j => nI (t j)), ar G g2 24 (fun j => nI ((va_up td r 0) j)), ar G g3 384 (fun j => nI (tv j))]) hx hb hml hown hts (c_X4_isDigitHere (l := l) (G := G) (x := x) (g1 := g1) (g2 := g2) (g3 := g3) (L := L) (pl := pl) (nu := nu) (np := np) (rr := rr) (t := t) (td := va_up td r 0) (tv := tv) (hL := by first | assumption | omega) (hpl := by first | assumption | omega) (ht := by first | assumption | omega))  gX4_readRow_X4_isDigitHere rfl rfl rfl (by decide +kernel) ⟨Nat.le_of_ble_eq_true rfl, Nat.le_of_ble_eq_true rfl⟩ rfl hK hP hD [0, 1, 2, 3] rfl (by decide)  rfl rfl rfl hl.1 rfl (Nat.le_of_ble_eq_true rfl) dX4_readRow_8 ⟨Nat.le_of_ble_eq_true rfl, Nat.le_of_ble_eq_true rfl⟩) (fun r8 h8 => ?_)
  obtain rfl : (bI (dg t L pl)) = r8 := Eq.symm h8
  refine r_if_eq (P := (dg t L pl) = false) (tgt := 33) hx hb dX4_readRow_11 (by decide) (bI_eq0) (fun cq11 => ?_) (fun cq11 => ?_)
  · obtain ⟨dv, hdv⟩ : ∃ y, y = dfV t L pl := ⟨_, rfl⟩
    have D1 : dv = 0 := by rw [hdv]; exact dfV_f cq11
    have P1 : pl = dfP t L pl := (dfP_f cq11).symm
    have OK : dfO t L pl = true := dfO_f cq11
    have hd0 : dv < 100 := by omega
    have td9 := up_all (P := fun z => z < 100) htd (k := r) (x := 0) (by decide)
    refine lv_aload_n hx hb dX4_readRow_33 rfl (lv_at hl 0 rfl) ?_
    refine va_get (D := G.1) (ci := 4) (v := .ref g3) (C := RX4) (T := TX4) (N := 8) hx hb hts iqX4_readRow_X4 hown hK.1 hP 0 rfl rfl 7 (by decide) (hts (.fieldLink RX4 35 "PushedTables$Text" "values" "[I") (List.mem_of_getElem? (i := 3) rfl)) (fun _ h9 => h9) rfl dX4_readRow_34 ?_
    refine lv_iload_n hx hb dX4_readRow_37 rfl (lv_at hl 1 rfl) ?_
    refine lv_bipush (v := (nI 16)) hx hb dX4_readRow_38 (by decide) ?_
    refine r_imul (v := r * 16) hx hb dX4_readRow_40 rfl ?_
    refine lv_iload_n hx hb dX4_readRow_41 rfl (lv_at hl 1 rfl) ?_
    refine lv_iconst (v := (nI 1)) hx hb dX4_readRow_42 (by decide) ?_
    refine r_iadd (v := r + 1) hx hb dX4_readRow_43 rfl ?_
    refine lv_bipush (v := (nI 16)) hx hb dX4_readRow_44 (by decide) ?_
    refine r_imul (v := (r + 1) * 16) hx hb dX4_readRow_46 rfl ?_
    refine lv_aload_n hx hb dX4_readRow_47 rfl (lv_at hl 0 rfl) ?_
    refine va_get (D := G.1) (ci := 4) (v := .ref g2) (C := RX4) (T := TX4) (N := 8) hx hb hts iqX4_readRow_X4 hown hK.1 hP 0 rfl rfl 6 (by decide) (hts (.fieldLink RX4 31 "PushedTables$Text" "defaults" "[I") (List.mem_of_getElem? (i := 1) rfl)) (fun _ h9 => h9) rfl dX4_readRow_48 ?_
    refine lv_iload_n hx hb dX4_readRow_51 rfl (lv_at hl 1 rfl) ?_
    refine r_iald (e1 := r) (v := (nI dv)) hx hb hK.1 hP 2 0 rfl rfl (by omega) (by decide) (by rw [up_s, D1]) dX4_readRow_52 ?_
    refine g_V (k_S (n := 4) (As := [.ref g3, .int (nI (r * 16)), .int (nI ((r + 1) * 16)), .int (nI dv)]) (rest := []) (wc := [ar G g3 384 (fun j => nI (tv j))]) hx hb hml hown hts (c_J7_fill_fda19 (l := l) (G := G) (a := g3) (N := 384) (lo := r * 16) (hi := (r + 1) * 16) (f := (fun j => nI (tv j))) (v := nI dv) (hN := by decide) (h1 := by first | assumption | omega) (h2 := by first | assumption | omega))  gX4_readRow_J7_fill_fda19 rfl rfl rfl (by decide +kernel) ⟨Nat.le_of_ble_eq_true rfl, Nat.le_of_ble_eq_true rfl⟩ rfl hK hP hD [3] rfl (by decide)  hl.1 rfl (Nat.le_of_ble_eq_true rfl) dX4_readRow_53 ⟨Nat.le_of_ble_eq_true rfl, Nat.le_of_ble_eq_true rfl⟩) hP hD hS [3] rfl (fun H locs hB53 back hS => ?_)
    have hP1 := hB53
    obtain ⟨hP, hD⟩ := back [ar G g3 384 (fun j => if (r * 16) ≤ j ∧ j < ((r + 1) * 16) then (nI dv) else (fun j => nI (tv j)) j)] rfl hP1
    have hP : va_P G.1 vwCl [ob x 4 [.int (nI L), .ref g1, .int (nI pl), .int (nI nu), .int (nI np), .int (nI rr), .ref g2, .ref g3], arC G g1 100 (fun j => nI (t j)), ar G g2 24 (fun j => nI ((va_up td r 0) j)), ar G g3 384 (fun j => if (r * 16) ≤ j ∧ j < ((r + 1) * 16) then (nI dv) else (fun j => nI (tv j)) j)] H := hP
    have hD : va_D A [ob x 4 [.int (nI L), .ref g1, .int (nI pl), .int (nI nu), .int (nI np), .int (nI rr), .ref g2, .ref g3], arC G g1 100 (fun j => nI (t j)), ar G g2 24 (fun j => nI ((va_up td r 0) j)), ar G g3 384 (fun j => if (r * 16) ≤ j ∧ j < ((r + 1) * 16) then (nI dv) else (fun j => nI (tv j)) j)] := hD
    have hP := P_ext hP 3 (fun j => nI ((fl16 tv r dv) j)) rfl (fun j _ => by unfold fl16; split <;> rfl)
    have hD := D_ext hD 3 (e' := (.inl (G.2.1, 384, .inl (fun j => nI ((fl16 tv r dv) j))))) rfl
    have hP : va_P G.1 vwCl [ob x 4 [.int (nI L), .ref g1, .int (nI pl), .int (nI nu), .int (nI np), .int (nI rr), .ref g2, .ref g3], arC G g1 100 (fun j => nI (t j)), ar G g2 24 (fun j => nI ((va_up td r 0) j)), ar G g3 384 (fun j => nI ((fl16 tv r dv) j))] H := hP
    have hD : va_D A [ob x 4 [.int (nI L), .ref g1, .int (nI pl), .int (nI nu), .int (nI np), .int (nI rr), .ref g2, .ref g3], arC G g1 100 (fun j => nI (t j)), ar G g2 24 (fun j => nI ((va_up td r 0) j)), ar G g3 384 (fun j => nI ((fl16 tv r dv) j))] := hD
    have tv9 : ∀ k, fl16 tv r dv k < 100 := fl16_lt htv hd0
    refine lv_aload_n hx hb dX4_readRow_56 rfl (lv_at hl 0 rfl) ?_
    refine lv_bipush (v := (nI 58)) hx hb dX4_readRow_57 (by decide) ?_
    refine g_I (k_V (q0 := 0) (ci := 4) (n := 1) (As := [.int (nI 58)]) (rest := []) (wc := [ob x 4 [.int (nI L), .ref g1, .int (nI pl), .int (nI nu), .int (nI np), .int (nI rr), .ref g2, .ref g3], arC G g1 100 (fun j => nI (t j)), ar G g2 24 (fun j => nI ((va_up td r 0) j)), ar G g3 384 (fun j => nI ((fl16 tv r dv) j))]) hx hb hml hown hts (c_X4_takeSign (l := l) (G := G) (x := x) (g1 := g1) (g2 := g2) (g3 := g3) (L := L) (pl := pl) (nu := nu) (np := np) (rr := rr) (t := t) (td := va_up td r 0) (tv := fl16 tv r dv) (hL := by first | assumption | omega) (hpl := by first | assumption | omega) (ht := by first | assumption | omega) (w := 58) (hw := by first | assumption | omega) (hw0 := by first | assumption | omega))  gX4_readRow_X4_takeSign rfl rfl rfl (by decide +kernel) ⟨Nat.le_of_ble_eq_true rfl, Nat.le_of_ble_eq_true rfl⟩ rfl hK hP hD [0, 1, 2, 3] rfl (by decide)  rfl rfl rfl hl.1 rfl (Nat.le_of_ble_eq_true rfl) dX4_readRow_59 ⟨Nat.le_of_ble_eq_true rfl, Nat.le_of_ble_eq_true rfl⟩) hP hD hS [0, 1, 2, 3] rfl (fun r59 H locs hB59 back hS => ?_)
    obtain ⟨p259, he59, hp259, hp359, hP1⟩ := hB59
    obtain rfl := Eq.symm he59
    obtain ⟨hP, hD⟩ := back [ob x 4 [.int (nI L), .ref g1, .int (nI p259), .int (nI nu), .int (nI np), .int (nI rr), .ref g2, .ref g3], arC G g1 100 (fun j => nI (t j)), ar G g2 24 (fun j => nI ((va_up td r 0) j)), ar G g3 384 (fun j => nI ((fl16 tv r dv) j))] rfl hP1
    have hP : va_P G.1 vwCl [ob x 4 [.int (nI L), .ref g1, .int (nI p259), .int (nI nu), .int (nI np), .int (nI rr), .ref g2, .ref g3], arC G g1 100 (fun j => nI (t j)), ar G g2 24 (fun j => nI ((va_up td r 0) j)), ar G g3 384 (fun j => nI ((fl16 tv r dv) j))] H := hP
    have hD : va_D A [ob x 4 [.int (nI L), .ref g1, .int (nI p259), .int (nI nu), .int (nI np), .int (nI rr), .ref g2, .ref g3], arC G g1 100 (fun j => nI (t j)), ar G g2 24 (fun j => nI ((va_up td r 0) j)), ar G g3 384 (fun j => nI ((fl16 tv r dv) j))] := hD
    refine r_if_eq (P := (decide (sg t L (sk t L pl) = 58)) = false) (tgt := 77) hx hb dX4_readRow_62 (by decide) (bI_eq0) (fun cq62 => ?_) (fun cq62 => ?_)
    · refine lv_iconst (v := (nI 0)) hx hb dX4_readRow_77 (by decide) ?_
      exact hret _ _ _ _ _ hS dX4_readRow_78 (⟨false, p259, nu, np, (va_up td r 0), (fl16 tv r dv), rfl, rwE_2 OK (by rw [← P1]; exact of_decide_eq_false cq62) (by rw [hp259, if_neg (of_decide_eq_false cq62), ← P1]) hdv, hp359, fun z => absurd z (by decide), td9, tv9, hP⟩)
    · have Y1 := of_decide_eq_true (Bool.of_not_eq_false cq62)
      refine lv_aload_n hx hb dX4_readRow_65 rfl (lv_at hl 0 rfl) ?_
      refine lv_iload_n hx hb dX4_readRow_66 rfl (lv_at hl 1 rfl) ?_
      refine g_I (k_V (q0 := 0) (ci := 4) (n := 1) (As := [.int (nI r)]) (rest := []) (wc := [ob x 4 [.int (nI L), .ref g1, .int (nI p259), .int (nI nu), .int (nI np), .int (nI rr), .ref g2, .ref g3], arC G g1 100 (fun j => nI (t j)), ar G g2 24 (fun j => nI ((va_up td r 0) j)), ar G g3 384 (fun j => nI ((fl16 tv r dv) j))]) hx hb hml hown hts (c_X4_readEntries (l := l) (G := G) (x := x) (g1 := g1) (g2 := g2) (g3 := g3) (L := L) (pl := p259) (nu := nu) (np := np) (rr := rr) (t := t) (td := (va_up td r 0)) (tv := (fl16 tv r dv)) (hL := by first | assumption | omega) (hpl := by first | assumption | omega) (ht := by first | assumption | omega) (r := r) (hr := by first | assumption | omega) (htd := by first | assumption | omega) (htv := by first | assumption | omega))  gX4_readRow_X4_readEntries rfl rfl rfl (by decide +kernel) ⟨Nat.le_of_ble_eq_true rfl, Nat.le_of_ble_eq_true rfl⟩ rfl hK hP hD [0, 1, 2, 3] rfl (by decide)  rfl rfl rfl hl.1 rfl (Nat.le_of_ble_eq_true rfl) dX4_readRow_67 ⟨Nat.le_of_ble_eq_true rfl, Nat.le_of_ble_eq_true rfl⟩) hP hD hS [0, 1, 2, 3] rfl (fun r67 H locs hB67 back hS => ?_)
      obtain ⟨ok267, p267, n267, np267, tv267, he67, hE67, hp367, hv267, hP1⟩ := hB67
      obtain rfl := Eq.symm he67
      obtain ⟨hP, hD⟩ := back [ob x 4 [.int (nI L), .ref g1, .int (nI p267), .int (nI n267), .int (nI np267), .int (nI rr), .ref g2, .ref g3], arC G g1 100 (fun j => nI (t j)), ar G g2 24 (fun j => nI ((va_up td r 0) j)), ar G g3 384 (fun j => nI (tv267 j))] rfl hP1
      have hP : va_P G.1 vwCl [ob x 4 [.int (nI L), .ref g1, .int (nI p267), .int (nI n267), .int (nI np267), .int (nI rr), .ref g2, .ref g3], arC G g1 100 (fun j => nI (t j)), ar G g2 24 (fun j => nI ((va_up td r 0) j)), ar G g3 384 (fun j => nI (tv267 j))] H := hP
      have hD : va_D A [ob x 4 [.int (nI L), .ref g1, .int (nI p267), .int (nI n267), .int (nI np267), .int (nI rr), .ref g2, .ref g3], arC G g1 100 (fun j => nI (t j)), ar G g2 24 (fun j => nI ((va_up td r 0) j)), ar G g3 384 (fun j => nI (tv267 j))] := hD
      refine r_if_eq (P := ok267 = false) (tgt := 77) hx hb dX4_readRow_70 (by decide) (bI_eq0) (fun cq70 => ?_) (fun cq70 => ?_)
      · refine lv_iconst (v := (nI 0)) hx hb dX4_readRow_77 (by decide) ?_
        exact hret _ _ _ _ _ hS dX4_readRow_78 (⟨false, p267, n267, np267, (va_up td r 0), tv267, rfl, rwE_3 OK (by rw [← P1]; exact Y1) (by rw [hp259, if_pos Y1, ← P1]) hdv hE67 (by first | rw [up_s, D1] | rw [up_s, D1]) cq70, hp367, fun z => absurd z (by decide), td9, hv267, hP⟩)
      · refine lv_iconst (v := (nI 1)) hx hb dX4_readRow_73 (by decide) ?_
        refine lv_goto (tgt := 78) hx hb dX4_readRow_74 (by decide) ?_
        exact hret _ _ _ _ _ hS dX4_readRow_78 (⟨true, p267, n267, np267, (va_up td r 0), tv267, rfl, rwE_4 OK (by rw [← P1]; exact Y1) (by rw [hp259, if_pos Y1, ← P1]) hdv hE67 (by first | rw [up_s, D1] | rw [up_s, D1]) (Bool.of_not_eq_false cq70), hp367, fun _ => by first | (rw [← hdv, D1]; done) | (rw [← hdv, D1, bx_uu]; done), td9, hv267, hP⟩)
  · refine lv_aload_n hx hb dX4_readRow_14 rfl (lv_at hl 0 rfl) ?_
    refine g_I (k_V (q0 := 0) (ci := 4) (n := 0) (As := []) (rest := []) (wc := [ob x 4 [.int (nI L), .ref g1, .int (nI pl), .int (nI nu), .int (nI np), .int (nI rr), .ref g2, .ref g3], arC G g1 100 (fun j => nI (t j)), ar G g2 24 (fun j => nI ((va_up td r 0) j)), ar G g3 384 (fun j => nI (tv j))]) hx hb hml hown hts (c_X4_readNumber (l := l) (G := G) (x := x) (g1 := g1) (g2 := g2) (g3 := g3) (L := L) (pl := pl) (nu := nu) (np := np) (rr := rr) (t := t) (td := va_up td r 0) (tv := tv) (hL := by first | assumption | omega) (hpl := by first | assumption | omega) (ht := by first | assumption | omega))  gX4_readRow_X4_readNumber rfl rfl rfl (by decide +kernel) ⟨Nat.le_of_ble_eq_true rfl, Nat.le_of_ble_eq_true rfl⟩ rfl hK hP hD [0, 1, 2, 3] rfl (by decide)  rfl rfl rfl hl.1 rfl (Nat.le_of_ble_eq_true rfl) dX4_readRow_15 ⟨Nat.le_of_ble_eq_true rfl, Nat.le_of_ble_eq_true rfl⟩) hP hD hS [0, 1, 2, 3] rfl (fun r15 H locs hB15 back hS => ?_)
    obtain ⟨p215, n215, np215, he15, hp215, hp315, hn215, hP1⟩ := hB15
    obtain rfl := Eq.symm he15
    obtain ⟨hP, hD⟩ := back [ob x 4 [.int (nI L), .ref g1, .int (nI p215), .int (nI n215), .int (nI np215), .int (nI rr), .ref g2, .ref g3], arC G g1 100 (fun j => nI (t j)), ar G g2 24 (fun j => nI ((va_up td r 0) j)), ar G g3 384 (fun j => nI (tv j))] rfl hP1
    have hP : va_P G.1 vwCl [ob x 4 [.int (nI L), .ref g1, .int (nI p215), .int (nI n215), .int (nI np215), .int (nI rr), .ref g2, .ref g3], arC G g1 100 (fun j => nI (t j)), ar G g2 24 (fun j => nI ((va_up td r 0) j)), ar G g3 384 (fun j => nI (tv j))] H := hP
    have hD : va_D A [ob x 4 [.int (nI L), .ref g1, .int (nI p215), .int (nI n215), .int (nI np215), .int (nI rr), .ref g2, .ref g3], arC G g1 100 (fun j => nI (t j)), ar G g2 24 (fun j => nI ((va_up td r 0) j)), ar G g3 384 (fun j => nI (tv j))] := hD
    refine r_if_ne (P := (nmO t L (sk t L pl)) = false) (tgt := 23) hx hb dX4_readRow_18 (by decide) (bI_eq0) (fun cq18 => ?_) (fun cq18 => ?_)
    · have O1 := Bool.of_not_eq_false cq18
      rw [hsk] at O1
      obtain ⟨v1, w1, l1⟩ := hn215 (by rw [hsk]; exact O1)
      rw [hsk] at v1
      have G1 := Bool.of_not_eq_false cq11
      obtain ⟨dv, hdv⟩ : ∃ y, y = dfV t L pl := ⟨_, rfl⟩
      have D1 : dv = n215 := by rw [hdv, v1]; exact dfV_t G1
      have P1 : p215 = dfP t L pl := by rw [hp215, hsk]; exact (dfP_t G1).symm
      have OK : dfO t L pl = true := dfO_t O1
      have hd0 : dv < 100 := by omega
      have td9 := up_all (P := fun z => z < 100) (up_all (P := fun z => z < 100) htd (k := r) (x := 0) (by decide)) (k := r) (x := n215) l1
      refine lv_aload_n hx hb dX4_readRow_23 rfl (lv_at hl 0 rfl) ?_
      refine va_get (D := G.1) (ci := 4) (v := .ref g2) (C := RX4) (T := TX4) (N := 8) hx hb hts iqX4_readRow_X4 hown hK.1 hP 0 rfl rfl 6 (by decide) (hts (.fieldLink RX4 31 "PushedTables$Text" "defaults" "[I") (List.mem_of_getElem? (i := 1) rfl)) (fun _ h9 => h9) rfl dX4_readRow_24 ?_
      refine lv_iload_n hx hb dX4_readRow_27 rfl (lv_at hl 1 rfl) ?_
      refine lv_aload_n hx hb dX4_readRow_28 rfl (lv_at hl 0 rfl) ?_
      refine va_get (D := G.1) (ci := 4) (v := .int (nI n215)) (C := RX4) (T := TX4) (N := 8) hx hb hts iqX4_readRow_X4 hown hK.1 hP 0 rfl rfl 3 (by decide) (hts (.fieldLink RX4 22 "PushedTables$Text" "number" "I") (List.mem_of_getElem? (i := 2) rfl)) (fun _ h9 => h9) rfl dX4_readRow_29 ?_
      refine r_iast (e1 := r) (x := (nI n215)) (g := (fun j => nI ((va_up (va_up td r 0) r n215) j))) hx hb hK.1 hP hD hS 2 0 rfl rfl (by omega) (by first | decide | assumption) (up_nI _ _ _) dX4_readRow_32 (fun H locs hP hD hS => ?_)
      have hP : va_P G.1 vwCl [ob x 4 [.int (nI L), .ref g1, .int (nI p215), .int (nI n215), .int (nI np215), .int (nI rr), .ref g2, .ref g3], arC G g1 100 (fun j => nI (t j)), ar G g2 24 (fun j => nI ((va_up (va_up td r 0) r n215) j)), ar G g3 384 (fun j => nI (tv j))] H := hP
      have hD : va_D A [ob x 4 [.int (nI L), .ref g1, .int (nI p215), .int (nI n215), .int (nI np215), .int (nI rr), .ref g2, .ref g3], arC G g1 100 (fun j => nI (t j)), ar G g2 24 (fun j => nI ((va_up (va_up td r 0) r n215) j)), ar G g3 384 (fun j => nI (tv j))] := hD
      refine lv_aload_n hx hb dX4_readRow_33 rfl (lv_at hl 0 rfl) ?_
      refine va_get (D := G.1) (ci := 4) (v := .ref g3) (C := RX4) (T := TX4) (N := 8) hx hb hts iqX4_readRow_X4 hown hK.1 hP 0 rfl rfl 7 (by decide) (hts (.fieldLink RX4 35 "PushedTables$Text" "values" "[I") (List.mem_of_getElem? (i := 3) rfl)) (fun _ h9 => h9) rfl dX4_readRow_34 ?_
      refine lv_iload_n hx hb dX4_readRow_37 rfl (lv_at hl 1 rfl) ?_
      refine lv_bipush (v := (nI 16)) hx hb dX4_readRow_38 (by decide) ?_
      refine r_imul (v := r * 16) hx hb dX4_readRow_40 rfl ?_
      refine lv_iload_n hx hb dX4_readRow_41 rfl (lv_at hl 1 rfl) ?_
      refine lv_iconst (v := (nI 1)) hx hb dX4_readRow_42 (by decide) ?_
      refine r_iadd (v := r + 1) hx hb dX4_readRow_43 rfl ?_
      refine lv_bipush (v := (nI 16)) hx hb dX4_readRow_44 (by decide) ?_
      refine r_imul (v := (r + 1) * 16) hx hb dX4_readRow_46 rfl ?_
      refine lv_aload_n hx hb dX4_readRow_47 rfl (lv_at hl 0 rfl) ?_
      refine va_get (D := G.1) (ci := 4) (v := .ref g2) (C := RX4) (T := TX4) (N := 8) hx hb hts iqX4_readRow_X4 hown hK.1 hP 0 rfl rfl 6 (by decide) (hts (.fieldLink RX4 31 "PushedTables$Text" "defaults" "[I") (List.mem_of_getElem? (i := 1) rfl)) (fun _ h9 => h9) rfl dX4_readRow_48 ?_
      refine lv_iload_n hx hb dX4_readRow_51 rfl (lv_at hl 1 rfl) ?_
      refine r_iald (e1 := r) (v := (nI dv)) hx hb hK.1 hP 2 0 rfl rfl (by omega) (by decide) (by rw [up_s, D1]) dX4_readRow_52 ?_
      refine g_V (k_S (n := 4) (As := [.ref g3, .int (nI (r * 16)), .int (nI ((r + 1) * 16)), .int (nI dv)]) (rest := []) (wc := [ar G g3 384 (fun j => nI (tv j))]) hx hb hml hown hts (c_J7_fill_fda19 (l := l) (G := G) (a := g3) (N := 384) (lo := r * 16) (hi := (r + 1) * 16) (f := (fun j => nI (tv j))) (v := nI dv) (hN := by decide) (h1 := by first | assumption | omega) (h2 := by first | assumption | omega))  gX4_readRow_J7_fill_fda19 rfl rfl rfl (by decide +kernel) ⟨Nat.le_of_ble_eq_true rfl, Nat.le_of_ble_eq_true rfl⟩ rfl hK hP hD [3] rfl (by decide)  hl.1 rfl (Nat.le_of_ble_eq_true rfl) dX4_readRow_53 ⟨Nat.le_of_ble_eq_true rfl, Nat.le_of_ble_eq_true rfl⟩) hP hD hS [3] rfl (fun H locs hB53 back hS => ?_)
      have hP1 := hB53
      obtain ⟨hP, hD⟩ := back [ar G g3 384 (fun j => if (r * 16) ≤ j ∧ j < ((r + 1) * 16) then (nI dv) else (fun j => nI (tv j)) j)] rfl hP1
      have hP : va_P G.1 vwCl [ob x 4 [.int (nI L), .ref g1, .int (nI p215), .int (nI n215), .int (nI np215), .int (nI rr), .ref g2, .ref g3], arC G g1 100 (fun j => nI (t j)), ar G g2 24 (fun j => nI ((va_up (va_up td r 0) r n215) j)), ar G g3 384 (fun j => if (r * 16) ≤ j ∧ j < ((r + 1) * 16) then (nI dv) else (fun j => nI (tv j)) j)] H := hP
      have hD : va_D A [ob x 4 [.int (nI L), .ref g1, .int (nI p215), .int (nI n215), .int (nI np215), .int (nI rr), .ref g2, .ref g3], arC G g1 100 (fun j => nI (t j)), ar G g2 24 (fun j => nI ((va_up (va_up td r 0) r n215) j)), ar G g3 384 (fun j => if (r * 16) ≤ j ∧ j < ((r + 1) * 16) then (nI dv) else (fun j => nI (tv j)) j)] := hD
      have hP := P_ext hP 3 (fun j => nI ((fl16 tv r dv) j)) rfl (fun j _ => by unfold fl16; split <;> rfl)
      have hD := D_ext hD 3 (e' := (.inl (G.2.1, 384, .inl (fun j => nI ((fl16 tv r dv) j))))) rfl
      have hP : va_P G.1 vwCl [ob x 4 [.int (nI L), .ref g1, .int (nI p215), .int (nI n215), .int (nI np215), .int (nI rr), .ref g2, .ref g3], arC G g1 100 (fun j => nI (t j)), ar G g2 24 (fun j => nI ((va_up (va_up td r 0) r n215) j)), ar G g3 384 (fun j => nI ((fl16 tv r dv) j))] H := hP
      have hD : va_D A [ob x 4 [.int (nI L), .ref g1, .int (nI p215), .int (nI n215), .int (nI np215), .int (nI rr), .ref g2, .ref g3], arC G g1 100 (fun j => nI (t j)), ar G g2 24 (fun j => nI ((va_up (va_up td r 0) r n215) j)), ar G g3 384 (fun j => nI ((fl16 tv r dv) j))] := hD
      have tv9 : ∀ k, fl16 tv r dv k < 100 := fl16_lt htv hd0
      refine lv_aload_n hx hb dX4_readRow_56 rfl (lv_at hl 0 rfl) ?_
      refine lv_bipush (v := (nI 58)) hx hb dX4_readRow_57 (by decide) ?_
      refine g_I (k_V (q0 := 0) (ci := 4) (n := 1) (As := [.int (nI 58)]) (rest := []) (wc := [ob x 4 [.int (nI L), .ref g1, .int (nI p215), .int (nI n215), .int (nI np215), .int (nI rr), .ref g2, .ref g3], arC G g1 100 (fun j => nI (t j)), ar G g2 24 (fun j => nI ((va_up (va_up td r 0) r n215) j)), ar G g3 384 (fun j => nI ((fl16 tv r dv) j))]) hx hb hml hown hts (c_X4_takeSign (l := l) (G := G) (x := x) (g1 := g1) (g2 := g2) (g3 := g3) (L := L) (pl := p215) (nu := n215) (np := np215) (rr := rr) (t := t) (td := va_up (va_up td r 0) r n215) (tv := fl16 tv r dv) (hL := by first | assumption | omega) (hpl := by first | assumption | omega) (ht := by first | assumption | omega) (w := 58) (hw := by first | assumption | omega) (hw0 := by first | assumption | omega))  gX4_readRow_X4_takeSign rfl rfl rfl (by decide +kernel) ⟨Nat.le_of_ble_eq_true rfl, Nat.le_of_ble_eq_true rfl⟩ rfl hK hP hD [0, 1, 2, 3] rfl (by decide)  rfl rfl rfl hl.1 rfl (Nat.le_of_ble_eq_true rfl) dX4_readRow_59 ⟨Nat.le_of_ble_eq_true rfl, Nat.le_of_ble_eq_true rfl⟩) hP hD hS [0, 1, 2, 3] rfl (fun r59 H locs hB59 back hS => ?_)
      obtain ⟨p259, he59, hp259, hp359, hP1⟩ := hB59
      obtain rfl := Eq.symm he59
      obtain ⟨hP, hD⟩ := back [ob x 4 [.int (nI L), .ref g1, .int (nI p259), .int (nI n215), .int (nI np215), .int (nI rr), .ref g2, .ref g3], arC G g1 100 (fun j => nI (t j)), ar G g2 24 (fun j => nI ((va_up (va_up td r 0) r n215) j)), ar G g3 384 (fun j => nI ((fl16 tv r dv) j))] rfl hP1
      have hP : va_P G.1 vwCl [ob x 4 [.int (nI L), .ref g1, .int (nI p259), .int (nI n215), .int (nI np215), .int (nI rr), .ref g2, .ref g3], arC G g1 100 (fun j => nI (t j)), ar G g2 24 (fun j => nI ((va_up (va_up td r 0) r n215) j)), ar G g3 384 (fun j => nI ((fl16 tv r dv) j))] H := hP
      have hD : va_D A [ob x 4 [.int (nI L), .ref g1, .int (nI p259), .int (nI n215), .int (nI np215), .int (nI rr), .ref g2, .ref g3], arC G g1 100 (fun j => nI (t j)), ar G g2 24 (fun j => nI ((va_up (va_up td r 0) r n215) j)), ar G g3 384 (fun j => nI ((fl16 tv r dv) j))] := hD
      refine r_if_eq (P := (decide (sg t L (sk t L p215) = 58)) = false) (tgt := 77) hx hb dX4_readRow_62 (by decide) (bI_eq0) (fun cq62 => ?_) (fun cq62 => ?_)
      · refine lv_iconst (v := (nI 0)) hx hb dX4_readRow_77 (by decide) ?_
        exact hret _ _ _ _ _ hS dX4_readRow_78 (⟨false, p259, n215, np215, (va_up (va_up td r 0) r n215), (fl16 tv r dv), rfl, rwE_2 OK (by rw [← P1]; exact of_decide_eq_false cq62) (by rw [hp259, if_neg (of_decide_eq_false cq62), ← P1]) hdv, hp359, fun z => absurd z (by decide), td9, tv9, hP⟩)
      · have Y1 := of_decide_eq_true (Bool.of_not_eq_false cq62)
        refine lv_aload_n hx hb dX4_readRow_65 rfl (lv_at hl 0 rfl) ?_
        refine lv_iload_n hx hb dX4_readRow_66 rfl (lv_at hl 1 rfl) ?_
        refine g_I (k_V (q0 := 0) (ci := 4) (n := 1) (As := [.int (nI r)]) (rest := []) (wc := [ob x 4 [.int (nI L), .ref g1, .int (nI p259), .int (nI n215), .int (nI np215), .int (nI rr), .ref g2, .ref g3], arC G g1 100 (fun j => nI (t j)), ar G g2 24 (fun j => nI ((va_up (va_up td r 0) r n215) j)), ar G g3 384 (fun j => nI ((fl16 tv r dv) j))]) hx hb hml hown hts (c_X4_readEntries (l := l) (G := G) (x := x) (g1 := g1) (g2 := g2) (g3 := g3) (L := L) (pl := p259) (nu := n215) (np := np215) (rr := rr) (t := t) (td := (va_up (va_up td r 0) r n215)) (tv := (fl16 tv r dv)) (hL := by first | assumption | omega) (hpl := by first | assumption | omega) (ht := by first | assumption | omega) (r := r) (hr := by first | assumption | omega) (htd := by first | assumption | omega) (htv := by first | assumption | omega))  gX4_readRow_X4_readEntries rfl rfl rfl (by decide +kernel) ⟨Nat.le_of_ble_eq_true rfl, Nat.le_of_ble_eq_true rfl⟩ rfl hK hP hD [0, 1, 2, 3] rfl (by decide)  rfl rfl rfl hl.1 rfl (Nat.le_of_ble_eq_true rfl) dX4_readRow_67 ⟨Nat.le_of_ble_eq_true rfl, Nat.le_of_ble_eq_true rfl⟩) hP hD hS [0, 1, 2, 3] rfl (fun r67 H locs hB67 back hS => ?_)
        obtain ⟨ok267, p267, n267, np267, tv267, he67, hE67, hp367, hv267, hP1⟩ := hB67
        obtain rfl := Eq.symm he67
        obtain ⟨hP, hD⟩ := back [ob x 4 [.int (nI L), .ref g1, .int (nI p267), .int (nI n267), .int (nI np267), .int (nI rr), .ref g2, .ref g3], arC G g1 100 (fun j => nI (t j)), ar G g2 24 (fun j => nI ((va_up (va_up td r 0) r n215) j)), ar G g3 384 (fun j => nI (tv267 j))] rfl hP1
        have hP : va_P G.1 vwCl [ob x 4 [.int (nI L), .ref g1, .int (nI p267), .int (nI n267), .int (nI np267), .int (nI rr), .ref g2, .ref g3], arC G g1 100 (fun j => nI (t j)), ar G g2 24 (fun j => nI ((va_up (va_up td r 0) r n215) j)), ar G g3 384 (fun j => nI (tv267 j))] H := hP
        have hD : va_D A [ob x 4 [.int (nI L), .ref g1, .int (nI p267), .int (nI n267), .int (nI np267), .int (nI rr), .ref g2, .ref g3], arC G g1 100 (fun j => nI (t j)), ar G g2 24 (fun j => nI ((va_up (va_up td r 0) r n215) j)), ar G g3 384 (fun j => nI (tv267 j))] := hD
        refine r_if_eq (P := ok267 = false) (tgt := 77) hx hb dX4_readRow_70 (by decide) (bI_eq0) (fun cq70 => ?_) (fun cq70 => ?_)
        · refine lv_iconst (v := (nI 0)) hx hb dX4_readRow_77 (by decide) ?_
          exact hret _ _ _ _ _ hS dX4_readRow_78 (⟨false, p267, n267, np267, (va_up (va_up td r 0) r n215), tv267, rfl, rwE_3 OK (by rw [← P1]; exact Y1) (by rw [hp259, if_pos Y1, ← P1]) hdv hE67 (by first | rw [up_s, D1] | rw [up_s, D1]) cq70, hp367, fun z => absurd z (by decide), td9, hv267, hP⟩)
        · refine lv_iconst (v := (nI 1)) hx hb dX4_readRow_73 (by decide) ?_
          refine lv_goto (tgt := 78) hx hb dX4_readRow_74 (by decide) ?_
          exact hret _ _ _ _ _ hS dX4_readRow_78 (⟨true, p267, n267, np267, (va_up (va_up td r 0) r n215), tv267, rfl, rwE_4 OK (by rw [← P1]; exact Y1) (by rw [hp259, if_pos Y1, ← P1]) hdv hE67 (by first | rw [up_s, D1] | rw [up_s, D1]) (Bool.of_not_eq_false cq70), hp367, fun _ => by first | (rw [← hdv, D1]; done) | (rw [← hdv, D1, bx_uu]; done), td9, hv267, hP⟩)
    · rw [hsk] at cq18
      refine lv_iconst (v := (nI 0)) hx hb dX4_readRow_21 (by decide) ?_
      exact hret _ _ _ _ _ hS dX4_readRow_22 (⟨false, p215, n215, np215, (va_up td r 0), tv, rfl, ⟨0, by unfold rwE; rw [if_pos (dfO_n (Bool.of_not_eq_false cq11) cq18), hp215, hsk, dfP_t (Bool.of_not_eq_false cq11)]⟩, hp315, fun z => absurd z (by decide), up_all (P := fun z => z < 100) htd (by decide), htv, hP⟩)

theorem iqX4_readTable_X4 : ∀ w ∈ u_ws RX4 TX4 8, w ∈ wsX4_readTable := by decide +kernel
set_option maxHeartbeats 1000000 in
set_option maxRecDepth 100000 in
theorem c_X4_readTable (l : Launch) (G : kG) (x g1 g2 g3 L pl nu np rr : Nat) (t td tv : Nat → Nat) (hL : L ≤ 100) (ht : ∀ k, t k < 256) (room : Nat) (hroom : room ≤ 24) (htd : ∀ k, td k < 100) (htv : ∀ k, tv k < 100) : Met l yX4_readTable wsX4_readTable ({ frames := 5, cells := 0, slots := 0, locals := 106 } : Room) (cP G [.ref x, .int (nI room)] [ob x 4 [.int (nI L), .ref g1, .int (nI pl), .int (nI nu), .int (nI np), .int (nI rr), .ref g2, .ref g3], arC G g1 100 (fun j => nI (t j)), ar G g2 24 (fun j => nI (td j)), ar G g3 384 (fun j => nI (tv j))]) (qI (fun rv H => ∃ (ok2 : Bool) (p2 : Nat) (n2 : Nat) (np2 : Nat) (rr2 : Nat) (td2 : Nat → Nat) (tv2 : Nat → Nat), rv = (bI ok2) ∧ (∃ n k R, tbE t L room n k 0 0 td tv = some R ∧ R.1 = ok2 ∧ R.2.1 = p2 ∧ (ok2 = true → R.2.2 = (rr2, td2, tv2))) ∧ p2 ≤ L ∧ (ok2 = true → rr2 ≤ room) ∧ (∀ k, td2 k < 100) ∧ (∀ k, tv2 k < 100) ∧ va_P G.1 vwCl [ob x 4 [.int (nI L), .ref g1, .int (nI p2), .int (nI n2), .int (nI np2), .int (nI rr2), .ref g2, .ref g3], arC G g1 100 (fun j => nI (t j)), ar G g2 24 (fun j => nI (td2 j)), ar G g3 384 (fun j => nI (tv2 j))] H) (mA [ob x 4 [.int (nI L), .ref g1, .int (nI pl), .int (nI nu), .int (nI np), .int (nI rr), .ref g2, .ref g3], arC G g1 100 (fun j => nI (t j)), ar G g2 24 (fun j => nI (td j)), ar G g3 384 (fun j => nI (tv j))])) 0 0 (mA [ob x 4 [.int (nI L), .ref g1, .int (nI pl), .int (nI nu), .int (nI np), .int (nI rr), .ref g2, .ref g3], arC G g1 100 (fun j => nI (t j)), ar G g2 24 (fun j => nI (td j)), ar G g3 384 (fun j => nI (tv j))]) := by
  refine met_muI (cc := cX4_readTable) (maxL := 3) (ty := .boolean) (own := RX4) (by decide) rfl rfl (fun _ _ h => by obtain ⟨_, _, _, _, _, _, _, rfl, _⟩ := h; exact bI_nar _) (Nat.le_of_ble_eq_true rfl) ?_
  intro p e s m args below meth cod Q A hx hb hml hown hts hK hP hD hS hret ls hl
  have hl : lv_has ls 3 [(0, .ref x), (1, .int (nI room))] := hl
  refine lv_aload_n hx hb dX4_readTable_0 rfl (lv_at hl 0 rfl) ?_
  refine lv_iconst (v := (nI 0)) hx hb dX4_readTable_1 (by decide) ?_
  refine va_put (D := G.1) (ci := 4) (v := .int (nI 0)) (ty := .int) (C := RX4) (T := TX4) (N := 8) hx hb hts iqX4_readTable_X4 tyX4 tyX4_ok nmX4 hown hK.1 hP hD hS 0 rfl rfl 2 (by decide) (hts (.fieldLink RX4 19 "PushedTables$Text" "place" "I") (List.mem_of_getElem? (i := 1) rfl)) (fun _ h9 => h9) rfl (by decide +kernel) rfl rfl (Nat.le_of_ble_eq_true rfl) dX4_readTable_2 (fun H locs hP hD hS => ?_)
  have hP : va_P G.1 vwCl [ob x 4 [.int (nI L), .ref g1, .int (nI 0), .int (nI nu), .int (nI np), .int (nI rr), .ref g2, .ref g3], arC G g1 100 (fun j => nI (t j)), ar G g2 24 (fun j => nI (td j)), ar G g3 384 (fun j => nI (tv j))] H := hP
  have hD : va_D A [ob x 4 [.int (nI L), .ref g1, .int (nI 0), .int (nI nu), .int (nI np), .int (nI rr), .ref g2, .ref g3], arC G g1 100 (fun j => nI (t j)), ar G g2 24 (fun j => nI (td j)), ar G g3 384 (fun j => nI (tv j))] := hD
  refine lv_iconst (v := (nI 0)) hx hb dX4_readTable_5 (by decide) ?_
  refine lv_istore_n (lv' := [(2, .int (nI 0)), (0, .ref x), (1, .int (nI room))]) hx hb dX4_readTable_6 rfl hl (by decide) rfl (fun ls hl => ?_)
  have L7 : ∀ (fu : Nat) (r : Nat) (pp : Nat) (nu2 : Nat) (np2 : Nat) (td3 : Nat → Nat) (tv3 : Nat → Nat), room + 1 - r < fu → r ≤ room → pp ≤ L → (∀ k, td3 k < 100) → (∀ k, tv3 k < 100) → (∀ n k R, tbE t L room n k r pp td3 tv3 = some R → ∃ n2 k2, tbE t L room n2 k2 0 0 td tv = some R) → ∀ (H : Heap) (locs : List Loc), va_P G.1 vwCl [ob x 4 [.int (nI L), .ref g1, .int (nI pp), .int (nI nu2), .int (nI np2), .int (nI rr), .ref g2, .ref g3], arC G g1 100 (fun j => nI (t j)), ar G g2 24 (fun j => nI (td3 j)), ar G g3 384 (fun j => nI (tv3 j))] H → va_D A [ob x 4 [.int (nI L), .ref g1, .int (nI pp), .int (nI nu2), .int (nI np2), .int (nI rr), .ref g2, .ref g3], arC G g1 100 (fun j => nI (t j)), ar G g2 24 (fun j => nI (td3 j)), ar G g3 384 (fun j => nI (tv3 j))] → va_S A s.heap H locs → ∀ (ls : Array Slot), lv_has ls 3 [(0, .ref x), (1, .int (nI room)), (2, .int (nI r))] → W p l e ({ frames := 5, cells := 0, slots := 0, locals := 106 } : Room) s m args below meth cod H locs 0 0 Q (F0 m 7 ls []) := by
    intro fu
    induction fu with
    | zero => intro r pp nu2 np2 td3 tv3 hm; exact absurd hm (Nat.not_lt_zero _)
    | succ fu ih7 =>
      intro r pp nu2 np2 td3 tv3 hm7 hrr hpp htd3 htv3 hI H locs hP hD hS ls hl
      have hP : va_P G.1 vwCl [ob x 4 [.int (nI L), .ref g1, .int (nI pp), .int (nI nu2), .int (nI np2), .int (nI rr), .ref g2, .ref g3], arC G g1 100 (fun j => nI (t j)), ar G g2 24 (fun j => nI (td3 j)), ar G g3 384 (fun j => nI (tv3 j))] H := hP
      have hD : va_D A [ob x 4 [.int (nI L), .ref g1, .int (nI pp), .int (nI nu2), .int (nI np2), .int (nI rr), .ref g2, .ref g3], arC G g1 100 (fun j => nI (t j)), ar G g2 24 (fun j => nI (td3 j)), ar G g3 384 (fun j => nI (tv3 j))] := hD
      refine lv_iload_n hx hb dX4_readTable_7 rfl (lv_at hl 2 rfl) ?_
      refine lv_iload_n hx hb dX4_readTable_8 rfl (lv_at hl 1 rfl) ?_
      refine r_icmp_gt (P := room < r) (tgt := 55) hx hb dX4_readTable_9 (by decide) (nI_ltI (by omega) (by omega)) (fun cq9 => ?_) (fun cq9 => ?_)
      · exact absurd cq9 (by omega)
      · refine lv_aload_n hx hb dX4_readTable_12 rfl (lv_at hl 0 rfl) ?_
        refine g_V (k_V (q0 := 0) (ci := 4) (n := 0) (As := []) (rest := []) (wc := [ob x 4 [.int (nI L), .ref g1, .int (nI pp), .int (nI nu2), .int (nI np2), .int (nI rr), .ref g2, .ref g3], arC G g1 100 (fun j => nI (t j)), ar G g2 24 (fun j => nI (td3 j)), ar G g3 384 (fun j => nI (tv3 j))]) hx hb hml hown hts (c_X4_skipSpaces (l := l) (G := G) (x := x) (g1 := g1) (g2 := g2) (g3 := g3) (L := L) (pl := pp) (nu := nu2) (np := np2) (rr := rr) (t := t) (td := td3) (tv := tv3) (hL := by first | assumption | omega) (hpl := by first | assumption | omega) (ht := by first | assumption | omega))  gX4_readTable_X4_skipSpaces rfl rfl rfl (by decide +kernel) ⟨Nat.le_of_ble_eq_true rfl, Nat.le_of_ble_eq_true rfl⟩ rfl hK hP hD [0, 1, 2, 3] rfl (by decide)  rfl rfl rfl hl.1 rfl (Nat.le_of_ble_eq_true rfl) dX4_readTable_13 ⟨Nat.le_of_ble_eq_true rfl, Nat.le_of_ble_eq_true rfl⟩) hP hD hS [0, 1, 2, 3] rfl (fun H locs hB13 back hS => ?_)
        have hP1 := hB13
        obtain ⟨hP, hD⟩ := back [ob x 4 [.int (nI L), .ref g1, .int (nI (sk t L pp)), .int (nI nu2), .int (nI np2), .int (nI rr), .ref g2, .ref g3], arC G g1 100 (fun j => nI (t j)), ar G g2 24 (fun j => nI (td3 j)), ar G g3 384 (fun j => nI (tv3 j))] rfl hP1
        have hP : va_P G.1 vwCl [ob x 4 [.int (nI L), .ref g1, .int (nI (sk t L pp)), .int (nI nu2), .int (nI np2), .int (nI rr), .ref g2, .ref g3], arC G g1 100 (fun j => nI (t j)), ar G g2 24 (fun j => nI (td3 j)), ar G g3 384 (fun j => nI (tv3 j))] H := hP
        have hD : va_D A [ob x 4 [.int (nI L), .ref g1, .int (nI (sk t L pp)), .int (nI nu2), .int (nI np2), .int (nI rr), .ref g2, .ref g3], arC G g1 100 (fun j => nI (t j)), ar G g2 24 (fun j => nI (td3 j)), ar G g3 384 (fun j => nI (tv3 j))] := hD
        have skl := sk_le (t := t) hpp
        refine lv_aload_n hx hb dX4_readTable_16 rfl (lv_at hl 0 rfl) ?_
        refine va_get (D := G.1) (ci := 4) (v := .int (nI (sk t L pp))) (C := RX4) (T := TX4) (N := 8) hx hb hts iqX4_readTable_X4 hown hK.1 hP 0 rfl rfl 2 (by decide) (hts (.fieldLink RX4 19 "PushedTables$Text" "place" "I") (List.mem_of_getElem? (i := 1) rfl)) (fun _ h9 => h9) rfl dX4_readTable_17 ?_
        refine lv_aload_n hx hb dX4_readTable_20 rfl (lv_at hl 0 rfl) ?_
        refine va_get (D := G.1) (ci := 4) (v := .int (nI L)) (C := RX4) (T := TX4) (N := 8) hx hb hts iqX4_readTable_X4 hown hK.1 hP 0 rfl rfl 0 (by decide) (hts (.fieldLink RX4 9 "PushedTables$Text" "length" "I") (List.mem_of_getElem? (i := 2) rfl)) (fun _ h9 => h9) rfl dX4_readTable_21 ?_
        refine r_icmp_lt (P := (sk t L pp) < L) (tgt := 34) hx hb dX4_readTable_24 (by decide) (nI_ltI (by omega) (by omega)) (fun cq24 => ?_) (fun cq24 => ?_)
        · refine lv_iload_n hx hb dX4_readTable_34 rfl (lv_at hl 2 rfl) ?_
          refine lv_iload_n hx hb dX4_readTable_35 rfl (lv_at hl 1 rfl) ?_
          refine r_icmp_eq (P := r = room) (tgt := 47) hx hb dX4_readTable_36 (by decide) (nI_eq (by omega) (by omega)) (fun cq36 => ?_) (fun cq36 => ?_)
          · refine lv_iconst (v := (nI 0)) hx hb dX4_readTable_47 (by decide) ?_
            exact hret _ _ _ _ _ hS dX4_readTable_48 (⟨false, (sk t L pp), nu2, np2, rr, td3, tv3, rfl, by obtain ⟨a, b, e⟩ := hI _ _ _ (by rw [cq36]; exact tbE_r (by omega)); exact ⟨a, b, _, e, rfl, rfl, fun z => absurd z (by decide)⟩, skl, fun z => absurd z (by decide), htd3, htv3, hP⟩)
          · have ssk := sk_sk t L pp
            refine lv_aload_n hx hb dX4_readTable_39 rfl (lv_at hl 0 rfl) ?_
            refine lv_iload_n hx hb dX4_readTable_40 rfl (lv_at hl 2 rfl) ?_
            refine g_I (k_V (q0 := 0) (ci := 4) (n := 1) (As := [.int (nI r)]) (rest := []) (wc := [ob x 4 [.int (nI L), .ref g1, .int (nI (sk t L pp)), .int (nI nu2), .int (nI np2), .int (nI rr), .ref g2, .ref g3], arC G g1 100 (fun j => nI (t j)), ar G g2 24 (fun j => nI (td3 j)), ar G g3 384 (fun j => nI (tv3 j))]) hx hb hml hown hts (c_X4_readRow (l := l) (G := G) (x := x) (g1 := g1) (g2 := g2) (g3 := g3) (L := L) (pl := (sk t L pp)) (nu := nu2) (np := np2) (rr := rr) (t := t) (td := td3) (tv := tv3) (hL := by first | assumption | omega) (hpl := by first | assumption | omega) (ht := by first | assumption | omega) (r := r) (hr := by first | assumption | omega) (hsk := by first | assumption | omega) (htd := by first | assumption | omega) (htv := by first | assumption | omega))  gX4_readTable_X4_readRow rfl rfl rfl (by decide +kernel) ⟨Nat.le_of_ble_eq_true rfl, Nat.le_of_ble_eq_true rfl⟩ rfl hK hP hD [0, 1, 2, 3] rfl (by decide)  rfl rfl rfl hl.1 rfl (Nat.le_of_ble_eq_true rfl) dX4_readTable_41 ⟨Nat.le_of_ble_eq_true rfl, Nat.le_of_ble_eq_true rfl⟩) hP hD hS [0, 1, 2, 3] rfl (fun r41 H locs hB41 back hS => ?_)
            obtain ⟨ok241, p241, n241, np241, td241, tv241, he41, hE41, hp341, hd241, htd241, hv241, hP1⟩ := hB41
            obtain rfl := Eq.symm he41
            obtain ⟨hP, hD⟩ := back [ob x 4 [.int (nI L), .ref g1, .int (nI p241), .int (nI n241), .int (nI np241), .int (nI rr), .ref g2, .ref g3], arC G g1 100 (fun j => nI (t j)), ar G g2 24 (fun j => nI (td241 j)), ar G g3 384 (fun j => nI (tv241 j))] rfl hP1
            have hP : va_P G.1 vwCl [ob x 4 [.int (nI L), .ref g1, .int (nI p241), .int (nI n241), .int (nI np241), .int (nI rr), .ref g2, .ref g3], arC G g1 100 (fun j => nI (t j)), ar G g2 24 (fun j => nI (td241 j)), ar G g3 384 (fun j => nI (tv241 j))] H := hP
            have hD : va_D A [ob x 4 [.int (nI L), .ref g1, .int (nI p241), .int (nI n241), .int (nI np241), .int (nI rr), .ref g2, .ref g3], arC G g1 100 (fun j => nI (t j)), ar G g2 24 (fun j => nI (td241 j)), ar G g3 384 (fun j => nI (tv241 j))] := hD
            refine r_if_ne (P := ok241 = false) (tgt := 49) hx hb dX4_readTable_44 (by decide) (bI_eq0) (fun cq44 => ?_) (fun cq44 => ?_)
            · obtain ⟨n9, hE9⟩ := hE41
              rw [Bool.of_not_eq_false cq44] at hE9
              have hd9 := hd241 (Bool.of_not_eq_false cq44)
              refine r_iinc (v := r + 1) (lv' := [(2, .int (nI (r + 1))), (0, .ref x), (1, .int (nI room))]) hx hb dX4_readTable_49 hl (k := 2) rfl (nI_1 _) (by decide) rfl (fun ls hl => ?_)
              refine lv_goto (tgt := 7) hx hb dX4_readTable_52 (by decide) ?_
              exact ih7 (r + 1) p241 n241 np241 td241 tv241 (by omega) (by omega) (hp341) (htd241) (hv241) (fun n k R hR => hI _ _ R (tbE_s (by omega) cq36 hE9 (by rw [← hd9]; exact hR))) _ _ hP hD hS ls (lv_sub hl [1, 2, 0] rfl)
            · obtain ⟨n9, hE9⟩ := hE41
              rw [cq44] at hE9
              refine lv_iconst (v := (nI 0)) hx hb dX4_readTable_47 (by decide) ?_
              exact hret _ _ _ _ _ hS dX4_readTable_48 (⟨false, p241, n241, np241, rr, td241, tv241, rfl, by obtain ⟨a, b, e⟩ := hI _ _ _ (tbE_f (by omega) cq36 hE9); exact ⟨a, b, _, e, rfl, rfl, fun z => absurd z (by decide)⟩, hp341, fun z => absurd z (by decide), htd241, hv241, hP⟩)
        · refine lv_aload_n hx hb dX4_readTable_27 rfl (lv_at hl 0 rfl) ?_
          refine lv_iload_n hx hb dX4_readTable_28 rfl (lv_at hl 2 rfl) ?_
          refine va_put (D := G.1) (ci := 4) (v := .int (nI r)) (ty := .int) (C := RX4) (T := TX4) (N := 8) hx hb hts iqX4_readTable_X4 tyX4 tyX4_ok nmX4 hown hK.1 hP hD hS 0 rfl rfl 5 (by decide) (hts (.fieldLink RX4 28 "PushedTables$Text" "rowsRead" "I") (List.mem_of_getElem? (i := 3) rfl)) (fun _ h9 => h9) rfl (by decide +kernel) rfl rfl (Nat.le_of_ble_eq_true rfl) dX4_readTable_29 (fun H locs hP hD hS => ?_)
          have hP : va_P G.1 vwCl [ob x 4 [.int (nI L), .ref g1, .int (nI (sk t L pp)), .int (nI nu2), .int (nI np2), .int (nI r), .ref g2, .ref g3], arC G g1 100 (fun j => nI (t j)), ar G g2 24 (fun j => nI (td3 j)), ar G g3 384 (fun j => nI (tv3 j))] H := hP
          have hD : va_D A [ob x 4 [.int (nI L), .ref g1, .int (nI (sk t L pp)), .int (nI nu2), .int (nI np2), .int (nI r), .ref g2, .ref g3], arC G g1 100 (fun j => nI (t j)), ar G g2 24 (fun j => nI (td3 j)), ar G g3 384 (fun j => nI (tv3 j))] := hD
          refine lv_iconst (v := (nI 1)) hx hb dX4_readTable_32 (by decide) ?_
          exact hret _ _ _ _ _ hS dX4_readTable_33 (⟨true, (sk t L pp), nu2, np2, r, td3, tv3, rfl, by obtain ⟨a, b, e⟩ := hI _ _ _ (tbE_e (by omega)); exact ⟨a, b, _, e, rfl, rfl, fun _ => rfl⟩, skl, fun _ => hrr, htd3, htv3, hP⟩)
  exact L7 ((room + 1 - 0) + 1) 0 0 nu np td tv (Nat.lt_succ_self _) (by omega) (by omega) (htd) (htv) (fun n k R hR => ⟨n, k, hR⟩) _ _ hP hD hS ls (lv_sub hl [1, 2, 0] rfl)

theorem iqX4_appendSign_X4 : ∀ w ∈ u_ws RX4 TX4 8, w ∈ wsX4_appendSign := by decide +kernel
set_option maxHeartbeats 1000000 in
set_option maxRecDepth 100000 in
theorem c_X4_appendSign (l : Launch) (G : kG) (x g1 g2 g3 L pl nu np rr : Nat) (t td tv : Nat → Nat) (hL : L ≤ 100) (ht : ∀ k, t k < 256) (w : Nat) (hw : w < 256) (hL2 : L < 100) : Met l yX4_appendSign wsX4_appendSign ({ frames := 0, cells := 0, slots := 0, locals := 0 } : Room) (cP G [.ref x, .int (nI w)] [ob x 4 [.int (nI L), .ref g1, .int (nI pl), .int (nI nu), .int (nI np), .int (nI rr), .ref g2, .ref g3], arC G g1 100 (fun j => nI (t j)), ar G g2 24 (fun j => nI (td j)), ar G g3 384 (fun j => nI (tv j))]) (qV (fun H => va_P G.1 vwCl [ob x 4 [.int (nI (L + 1)), .ref g1, .int (nI pl), .int (nI nu), .int (nI np), .int (nI rr), .ref g2, .ref g3], arC G g1 100 (fun j => nI ((va_up t L w) j)), ar G g2 24 (fun j => nI (td j)), ar G g3 384 (fun j => nI (tv j))] H) (mA [ob x 4 [.int (nI L), .ref g1, .int (nI pl), .int (nI nu), .int (nI np), .int (nI rr), .ref g2, .ref g3], arC G g1 100 (fun j => nI (t j)), ar G g2 24 (fun j => nI (td j)), ar G g3 384 (fun j => nI (tv j))])) 0 0 (mA [ob x 4 [.int (nI L), .ref g1, .int (nI pl), .int (nI nu), .int (nI np), .int (nI rr), .ref g2, .ref g3], arC G g1 100 (fun j => nI (t j)), ar G g2 24 (fun j => nI (td j)), ar G g3 384 (fun j => nI (tv j))]) := by
  refine met_muV (cc := cX4_appendSign) (maxL := 2) (own := RX4) (by decide) rfl rfl (Nat.le_of_ble_eq_true rfl) ?_
  intro p e s m args below meth cod Q A hx hb hml hown hts hK hP hD hS hret ls hl
  have hl : lv_has ls 2 [(0, .ref x), (1, .int (nI w))] := hl
  refine lv_aload_n hx hb dX4_appendSign_0 rfl (lv_at hl 0 rfl) ?_
  refine va_get (D := G.1) (ci := 4) (v := .int (nI L)) (C := RX4) (T := TX4) (N := 8) hx hb hts iqX4_appendSign_X4 hown hK.1 hP 0 rfl rfl 0 (by decide) (hts (.fieldLink RX4 9 "PushedTables$Text" "length" "I") (List.mem_of_getElem? (i := 1) rfl)) (fun _ h9 => h9) rfl dX4_appendSign_1 ?_
  refine lv_bipush (v := (nI 100)) hx hb dX4_appendSign_4 (by decide) ?_
  refine r_icmp_ge (P := 100 ≤ L) (tgt := 29) hx hb dX4_appendSign_6 (by decide) (nI_leI (by omega) (by omega)) (fun cq6 => ?_) (fun cq6 => ?_)
  · exact absurd cq6 (by omega)
  · refine lv_aload_n hx hb dX4_appendSign_9 rfl (lv_at hl 0 rfl) ?_
    refine va_get (D := G.1) (ci := 4) (v := .ref g1) (C := RX4) (T := TX4) (N := 8) hx hb hts iqX4_appendSign_X4 hown hK.1 hP 0 rfl rfl 1 (by decide) (hts (.fieldLink RX4 15 "PushedTables$Text" "signs" "[C") (List.mem_of_getElem? (i := 2) rfl)) (fun _ h9 => h9) rfl dX4_appendSign_10 ?_
    refine lv_aload_n hx hb dX4_appendSign_13 rfl (lv_at hl 0 rfl) ?_
    refine va_get (D := G.1) (ci := 4) (v := .int (nI L)) (C := RX4) (T := TX4) (N := 8) hx hb hts iqX4_appendSign_X4 hown hK.1 hP 0 rfl rfl 0 (by decide) (hts (.fieldLink RX4 9 "PushedTables$Text" "length" "I") (List.mem_of_getElem? (i := 1) rfl)) (fun _ h9 => h9) rfl dX4_appendSign_14 ?_
    refine lv_iload_n hx hb dX4_appendSign_17 rfl (lv_at hl 1 rfl) ?_
    refine r_cast (e1 := L) (x := (nI w)) (g := (fun j => nI ((va_up t L w) j))) hx hb hK.1 hP hD hS 1 1 rfl rfl (by omega) (by first | decide | assumption) (by unfold vp_nar; rw [(pk_charN (by omega)).1]; exact up_nI _ _ _) dX4_appendSign_18 (fun H locs hP hD hS => ?_)
    have hP : va_P G.1 vwCl [ob x 4 [.int (nI L), .ref g1, .int (nI pl), .int (nI nu), .int (nI np), .int (nI rr), .ref g2, .ref g3], arC G g1 100 (fun j => nI ((va_up t L w) j)), ar G g2 24 (fun j => nI (td j)), ar G g3 384 (fun j => nI (tv j))] H := hP
    have hD : va_D A [ob x 4 [.int (nI L), .ref g1, .int (nI pl), .int (nI nu), .int (nI np), .int (nI rr), .ref g2, .ref g3], arC G g1 100 (fun j => nI ((va_up t L w) j)), ar G g2 24 (fun j => nI (td j)), ar G g3 384 (fun j => nI (tv j))] := hD
    refine lv_aload_n hx hb dX4_appendSign_19 rfl (lv_at hl 0 rfl) ?_
    refine lv_dup hx hb dX4_appendSign_20 rfl ?_
    refine va_get (D := G.1) (ci := 4) (v := .int (nI L)) (C := RX4) (T := TX4) (N := 8) hx hb hts iqX4_appendSign_X4 hown hK.1 hP 0 rfl rfl 0 (by decide) (hts (.fieldLink RX4 9 "PushedTables$Text" "length" "I") (List.mem_of_getElem? (i := 1) rfl)) (fun _ h9 => h9) rfl dX4_appendSign_21 ?_
    refine lv_iconst (v := (nI 1)) hx hb dX4_appendSign_24 (by decide) ?_
    refine r_iadd (v := L + 1) hx hb dX4_appendSign_25 rfl ?_
    refine va_put (D := G.1) (ci := 4) (v := .int (nI (L + 1))) (ty := .int) (C := RX4) (T := TX4) (N := 8) hx hb hts iqX4_appendSign_X4 tyX4 tyX4_ok nmX4 hown hK.1 hP hD hS 0 rfl rfl 0 (by decide) (hts (.fieldLink RX4 9 "PushedTables$Text" "length" "I") (List.mem_of_getElem? (i := 1) rfl)) (fun _ h9 => h9) rfl (by decide +kernel) rfl rfl (Nat.le_of_ble_eq_true rfl) dX4_appendSign_26 (fun H locs hP hD hS => ?_)
    have hP : va_P G.1 vwCl [ob x 4 [.int (nI (L + 1)), .ref g1, .int (nI pl), .int (nI nu), .int (nI np), .int (nI rr), .ref g2, .ref g3], arC G g1 100 (fun j => nI ((va_up t L w) j)), ar G g2 24 (fun j => nI (td j)), ar G g3 384 (fun j => nI (tv j))] H := hP
    have hD : va_D A [ob x 4 [.int (nI (L + 1)), .ref g1, .int (nI pl), .int (nI nu), .int (nI np), .int (nI rr), .ref g2, .ref g3], arC G g1 100 (fun j => nI ((va_up t L w) j)), ar G g2 24 (fun j => nI (td j)), ar G g3 384 (fun j => nI (tv j))] := hD
    exact hret _ _ _ _ hS dX4_appendSign_29 (hP)
