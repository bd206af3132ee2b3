def lfT (σ : Sg) (r : Nat) : Sg := if ff σ r ≠ 1000 ∧ shr (setF σ r 1000) (ff σ r) = 0 then setS (setF σ r 1000) (ff σ r) 1000 else setF σ r 1000
theorem Bd_lfT {σ : Sg} (h : Bd σ) (r : Nat) : Bd (lfT σ r) := by
  unfold lfT; split
  · exact Bd_setS (Bd_setF h (Or.inr rfl)) (Or.inr rfl)
  · exact Bd_setF h (Or.inr rfl)
theorem nn_lfT (σ : Sg) (r : Nat) : nn (lfT σ r) = nn σ := by unfold lfT; split <;> rfl
theorem iqX6_leaves_X6 : ∀ w ∈ u_ws RX6 TX6 11, w ∈ wsX6_leaves := by decide +kernel
set_option maxHeartbeats 1000000 in
set_option maxRecDepth 100000 in
theorem c_X6_leaves (l : Launch) (G : kG) (mo u0 u1 u2 u3 u4 u5 sm sa le ra fa : Nat) (σ : Sg) (nw : Nat → Int32) (hR : Rel σ nw) (hB : Bd σ) (r : Nat) (hr : r < nn σ) : Met l yX6_leaves wsX6_leaves ({ frames := 1, cells := 0, slots := 0, locals := 23 } : Room) (cP G [.ref mo, .int (nI r)] [ob mo 6 [.ref u0, .ref u1, .ref u2, .ref u3, .ref u4, .ref u5, .int (nI sm), .int (nI sa), .int (nI le), .int (nI ra), .int (nI fa)], ar G u0 481 nw]) (qV (fun H => ∃ (nw1 : Nat → Int32), Rel (lfT σ r) nw1 ∧ va_P G.1 vwCl [ob mo 6 [.ref u0, .ref u1, .ref u2, .ref u3, .ref u4, .ref u5, .int (nI sm), .int (nI sa), .int (nI le), .int (nI ra), .int (nI fa)], ar G u0 481 nw1] H) (mA [ob mo 6 [.ref u0, .ref u1, .ref u2, .ref u3, .ref u4, .ref u5, .int (nI sm), .int (nI sa), .int (nI le), .int (nI ra), .int (nI fa)], ar G u0 481 nw])) 0 0 (mA [ob mo 6 [.ref u0, .ref u1, .ref u2, .ref u3, .ref u4, .ref u5, .int (nI sm), .int (nI sa), .int (nI le), .int (nI ra), .int (nI fa)], ar G u0 481 nw]) := by
  refine met_muV (cc := cX6_leaves) (maxL := 3) (own := RX6) (by decide) rfl rfl (Nat.le_of_ble_eq_true rfl) ?_
  intro p e s m args below meth cod Q A hx hb hml hown hts hK hP hD hS hret ls hl
  have hl : lv_has ls 3 [(0, .ref mo), (1, .int (nI r))] := hl
  have h24 := hB.n
  have bfr := hB.f r
  refine lv_aload_n hx hb dX6_leaves_0 rfl (lv_at hl 0 rfl) ?_
  refine va_get (D := G.1) (ci := 6) (v := .ref u0) (C := RX6) (T := TX6) (N := 11) hx hb hts iqX6_leaves_X6 hown hK.1 hP 0 rfl rfl 0 (by decide) (hts (.fieldLink RX6 7 "PushedTablesModel" "now" "[I") (List.mem_of_getElem? (i := 1) rfl)) (fun _ h9 => h9) rfl dX6_leaves_1 ?_
  refine lv_bipush (v := (nI 49)) hx hb dX6_leaves_4 (by decide) ?_
  refine lv_iload_n hx hb dX6_leaves_6 rfl (lv_at hl 1 rfl) ?_
  refine r_iadd (v := 49 + r) hx hb dX6_leaves_7 rfl ?_
  refine r_iald (e1 := 49 + r) (v := (e1 (ff σ r))) hx hb hK.1 hP 1 0 rfl rfl (by omega) (by first | decide | assumption) (hR.f (by omega)) dX6_leaves_8 ?_
  refine lv_istore_n (lv' := [(2, .int (e1 (ff σ r))), (0, .ref mo), (1, .int (nI r))]) hx hb dX6_leaves_9 rfl hl (by decide) rfl (fun ls hl => ?_)
  refine lv_aload_n hx hb dX6_leaves_10 rfl (lv_at hl 1 rfl) ?_
  refine va_get (D := G.1) (ci := 6) (v := .ref u0) (C := RX6) (T := TX6) (N := 11) hx hb hts iqX6_leaves_X6 hown hK.1 hP 0 rfl rfl 0 (by decide) (hts (.fieldLink RX6 7 "PushedTablesModel" "now" "[I") (List.mem_of_getElem? (i := 1) rfl)) (fun _ h9 => h9) rfl dX6_leaves_11 ?_
  refine lv_bipush (v := (nI 49)) hx hb dX6_leaves_14 (by decide) ?_
  refine lv_iload_n hx hb dX6_leaves_16 rfl (lv_at hl 2 rfl) ?_
  refine r_iadd (v := 49 + r) hx hb dX6_leaves_17 rfl ?_
  refine lv_iconst (v := (e1 1000)) hx hb dX6_leaves_18 (by decide) ?_
  refine r_iast (e1 := 49 + r) (x := (e1 1000)) (g := upd nw (49 + r) (e1 1000)) hx hb hK.1 hP hD hS 1 0 rfl rfl (by omega) (by first | decide | assumption) (rfl) dX6_leaves_19 (fun H locs hP hD hS => ?_)
  have hP : va_P G.1 vwCl [ob mo 6 [.ref u0, .ref u1, .ref u2, .ref u3, .ref u4, .ref u5, .int (nI sm), .int (nI sa), .int (nI le), .int (nI ra), .int (nI fa)], ar G u0 481 (upd nw (49 + r) (e1 1000))] H := hP
  have hD : va_D A [ob mo 6 [.ref u0, .ref u1, .ref u2, .ref u3, .ref u4, .ref u5, .int (nI sm), .int (nI sa), .int (nI le), .int (nI ra), .int (nI fa)], ar G u0 481 (upd nw (49 + r) (e1 1000))] := hD
  refine lv_iload_n hx hb dX6_leaves_20 rfl (lv_at hl 0 rfl) ?_
  refine r_if_lt (P := (ff σ r) = 1000) (tgt := 43) hx hb dX6_leaves_21 (by decide) (e1_lt0 (by omega)) (fun cq21 => ?_) (fun cq21 => ?_)
  · exact hret _ _ _ _ hS dX6_leaves_43 (⟨upd nw (49 + r) (e1 1000), by unfold lfT; rw [if_neg (fun z => z.1 cq21)]; exact Rel_setF hR h24 (by omega), hP⟩)
  · have hR2 := Rel_setF (g := 1000) hR h24 (r := r) (by omega)
    have hB2 := Bd_setF hB (r := r) (f := 1000) (Or.inr rfl)
    refine lv_aload_n hx hb dX6_leaves_24 rfl (lv_at hl 1 rfl) ?_
    refine lv_iload_n hx hb dX6_leaves_25 rfl (lv_at hl 0 rfl) ?_
    refine g_ro (k_V (q0 := 0) (ci := 6) (n := 1) (As := [.int (e1 (ff σ r))]) (rest := []) (wc := [ob mo 6 [.ref u0, .ref u1, .ref u2, .ref u3, .ref u4, .ref u5, .int (nI sm), .int (nI sa), .int (nI le), .int (nI ra), .int (nI fa)], ar G u0 481 (upd nw (49 + r) (e1 1000))]) hx hb hml hown hts (c_X6_sharers (l := l) (G := G) (mo := mo) (u0 := u0) (u1 := u1) (u2 := u2) (u3 := u3) (u4 := u4) (u5 := u5) (sm := sm) (sa := sa) (le := le) (ra := ra) (fa := fa) (σ := (setF σ r 1000)) (nw := upd nw (49 + r) (e1 1000)) (hR := hR2) (hB := hB2) (f := ff σ r) (xf := (e1 (ff σ r))) (hxf := rfl) (hf := bfr))  gX6_leaves_X6_sharers rfl rfl rfl (by decide +kernel) ⟨Nat.le_of_ble_eq_true rfl, Nat.le_of_ble_eq_true rfl⟩ rfl hK hP hD [0, 1] rfl (by decide)  rfl rfl rfl hl.1 rfl (Nat.le_of_ble_eq_true rfl) dX6_leaves_26 ⟨Nat.le_of_ble_eq_true rfl, Nat.le_of_ble_eq_true rfl⟩) (fun r26 h26 => ?_)
    obtain rfl : (nI (shr (setF σ r 1000) (ff σ r))) = r26 := Eq.symm h26
    have b26 := shr_le (by assumption : Bd (setF σ r 1000)) (ff σ r)
    refine r_if_ne (P := (shr (setF σ r 1000) (ff σ r)) = 0) (tgt := 43) hx hb dX6_leaves_29 (by decide) (nI_eq0 (by omega)) (fun cq29 => ?_) (fun cq29 => ?_)
    · exact hret _ _ _ _ hS dX6_leaves_43 (⟨upd nw (49 + r) (e1 1000), by unfold lfT; rw [if_neg (fun z => cq29 z.2)]; exact hR2, hP⟩)
    · refine lv_aload_n hx hb dX6_leaves_32 rfl (lv_at hl 1 rfl) ?_
      refine va_get (D := G.1) (ci := 6) (v := .ref u0) (C := RX6) (T := TX6) (N := 11) hx hb hts iqX6_leaves_X6 hown hK.1 hP 0 rfl rfl 0 (by decide) (hts (.fieldLink RX6 7 "PushedTablesModel" "now" "[I") (List.mem_of_getElem? (i := 1) rfl)) (fun _ h9 => h9) rfl dX6_leaves_33 ?_
      refine lv_sipush (v := (nI 457)) hx hb dX6_leaves_36 (by decide) ?_
      refine lv_iload_n hx hb dX6_leaves_39 rfl (lv_at hl 0 rfl) ?_
      refine r_top (y := (nI (ff σ r))) (e1_n cq21) ?_
      refine r_iadd (v := 457 + (ff σ r)) hx hb dX6_leaves_40 rfl ?_
      refine lv_iconst (v := (e1 1000)) hx hb dX6_leaves_41 (by decide) ?_
      refine r_iast (e1 := 457 + (ff σ r)) (x := (e1 1000)) (g := upd (upd nw (49 + r) (e1 1000)) (457 + (ff σ r)) (e1 1000)) hx hb hK.1 hP hD hS 1 0 rfl rfl (by omega) (by first | decide | assumption) (rfl) dX6_leaves_42 (fun H locs hP hD hS => ?_)
      have hP : va_P G.1 vwCl [ob mo 6 [.ref u0, .ref u1, .ref u2, .ref u3, .ref u4, .ref u5, .int (nI sm), .int (nI sa), .int (nI le), .int (nI ra), .int (nI fa)], ar G u0 481 (upd (upd nw (49 + r) (e1 1000)) (457 + (ff σ r)) (e1 1000))] H := hP
      have hD : va_D A [ob mo 6 [.ref u0, .ref u1, .ref u2, .ref u3, .ref u4, .ref u5, .int (nI sm), .int (nI sa), .int (nI le), .int (nI ra), .int (nI fa)], ar G u0 481 (upd (upd nw (49 + r) (e1 1000)) (457 + (ff σ r)) (e1 1000))] := hD
      exact hret _ _ _ _ hS dX6_leaves_43 (⟨upd (upd nw (49 + r) (e1 1000)) (457 + (ff σ r)) (e1 1000), by unfold lfT; rw [if_pos ⟨cq21, cq29⟩]; exact Rel_setS hR2 h24 (by omega), hP⟩)

noncomputable def mnF (σ : Sg) (r : Nat) : Nat → Nat
  | 0 => 1000
  | k + 1 => if k ≠ r ∧ ff σ k ≠ 1000 ∧ alk σ k r = true ∧ (mnF σ r k = 1000 ∨ ff σ k < mnF σ r k) then ff σ k else mnF σ r k
theorem mnF_t {σ : Sg} {r k : Nat} (h : k ≠ r ∧ ff σ k ≠ 1000 ∧ alk σ k r = true ∧ (mnF σ r k = 1000 ∨ ff σ k < mnF σ r k)) : ff σ k = mnF σ r (k + 1) := (if_pos h).symm
theorem mnF_f {σ : Sg} {r k : Nat} (h : ¬ (k ≠ r ∧ ff σ k ≠ 1000 ∧ alk σ k r = true ∧ (mnF σ r k = 1000 ∨ ff σ k < mnF σ r k))) : mnF σ r k = mnF σ r (k + 1) := (if_neg h).symm
theorem mnF_le {σ : Sg} (h : Bd σ) (r : Nat) : ∀ k, mnF σ r k < 24 ∨ mnF σ r k = 1000
  | 0 => Or.inr rfl
  | k + 1 => by
    unfold mnF; split
    · exact h.f k
    · exact mnF_le h r k
theorem rsT_Bc {σ : Sg} (h : Bd σ) : ∀ k, Bc 24 (rsT σ k).2.2
  | 0 => Bc_none
  | k + 1 => by
    show Bc 24 (fcT σ (rsT σ k).2.1 (rsT σ k).2.2 k).2.2
    unfold fcT; split
    · exact rsT_Bc h k
    · exact flM_Bc h (rsT_Bc h k)
noncomputable def fmS (σ : Sg) (r : Nat) : Nat := ftR (rsT σ (nn σ)).2.2 (cols σ r)
noncomputable def fmT (σ : Sg) (r : Nat) : Sg := if cols σ r = 0 then setF σ r 1000 else if mnF σ r (nn σ) = 1000 then setF (setS σ (frf σ) (fmS σ r)) r (frf σ) else setF σ r (mnF σ r (nn σ))
theorem frf_yes {σ : Sg} (h : frf σ ≠ 1000) : frf σ < 24 ∧ ss σ (frf σ) = 1000 ∧ ∀ j, j < frf σ → ss σ j ≠ 1000 := by
  obtain ⟨a, b, c⟩ := fst?_yes h
  exact ⟨a, of_decide_eq_true b, fun j hj => of_decide_eq_false (c j hj)⟩
theorem fm_1 {σ : Sg} {r : Nat} (h : cols σ r = 0) : fmT σ r = setF σ r 1000 := if_pos h
theorem fm_2 {σ : Sg} {r f : Nat} (h : ¬ cols σ r = 0) (h2 : mnF σ r (nn σ) = 1000) (hf : f = frf σ) : fmT σ r = setF (setS σ f (fmS σ r)) r f := by
  unfold fmT; rw [if_neg h, if_pos h2, hf]
theorem fm_3 {σ : Sg} {r h1 : Nat} (h : ¬ cols σ r = 0) (h2 : h1 = mnF σ r (nn σ)) (h3 : h1 ≠ 1000) : fmT σ r = setF σ r h1 := by
  unfold fmT; rw [if_neg h, if_neg (fun z => h3 (h2.trans z)), h2]
theorem nn_fmT (σ : Sg) (r : Nat) : nn (fmT σ r) = nn σ := by unfold fmT; split; rfl; split <;> rfl
theorem Bd_fmT {σ : Sg} (h : Bd σ) (r : Nat) : Bd (fmT σ r) := by
  unfold fmT; split
  · exact Bd_setF h (Or.inr rfl)
  · split
    · exact Bd_setF (Bd_setS h (Or.inl (ftR_le _ _))) (frf_le σ)
    · exact Bd_setF h (mnF_le h r _)
theorem iqX6_forms_X6 : ∀ w ∈ u_ws RX6 TX6 11, w ∈ wsX6_forms := by decide +kernel
set_option maxHeartbeats 1000000 in
set_option maxRecDepth 100000 in
theorem c_X6_forms (l : Launch) (G : kG) (mo u0 u1 u2 u3 u4 u5 sm sa le ra fa : Nat) (σ : Sg) (nw : Nat → Int32) (hR : Rel σ nw) (hB : Bd σ) (hT1 : ∀ r, r < nn σ → ff σ r ≠ 1000 → ss σ (ff σ r) ≤ 784) (r : Nat) (hr : r < nn σ) (hfr : cols σ r ≠ 0 → mnF σ r (nn σ) = 1000 → frf σ ≠ 1000) (mk vl : Nat → Int32) : Met l yX6_forms wsX6_forms ({ frames := 2, cells := 0, slots := 0, locals := 45 } : Room) (cP G [.ref mo, .int (nI r)] [ob mo 6 [.ref u0, .ref u1, .ref u2, .ref u3, .ref u4, .ref u5, .int (nI sm), .int (nI sa), .int (nI le), .int (nI ra), .int (nI fa)], ar G u0 481 nw, ar G u3 800 mk, ar G u4 800 vl]) (qV (fun H => ∃ (nw1 : Nat → Int32) (mk1 : Nat → Int32) (vl1 : Nat → Int32), Rel (fmT σ r) nw1 ∧ va_P G.1 vwCl [ob mo 6 [.ref u0, .ref u1, .ref u2, .ref u3, .ref u4, .ref u5, .int (nI sm), .int (nI sa), .int (nI le), .int (nI ra), .int (nI fa)], ar G u0 481 nw1, ar G u3 800 mk1, ar G u4 800 vl1] H) (mA [ob mo 6 [.ref u0, .ref u1, .ref u2, .ref u3, .ref u4, .ref u5, .int (nI sm), .int (nI sa), .int (nI le), .int (nI ra), .int (nI fa)], ar G u0 481 nw, ar G u3 800 mk, ar G u4 800 vl])) 0 0 (mA [ob mo 6 [.ref u0, .ref u1, .ref u2, .ref u3, .ref u4, .ref u5, .int (nI sm), .int (nI sa), .int (nI le), .int (nI ra), .int (nI fa)], ar G u0 481 nw, ar G u3 800 mk, ar G u4 800 vl]) := by
  refine met_muV (cc := cX6_forms) (maxL := 5) (own := RX6) (by decide) rfl rfl (Nat.le_of_ble_eq_true rfl) ?_
  intro p e s m args below meth cod Q A hx hb hml hown hts hK hP hD hS hret ls hl
  have hl : lv_has ls 5 [(0, .ref mo), (1, .int (nI r))] := hl
  have h24 := hB.n
  have hcl := cols_lt σ r
  refine lv_iconst (v := (e1 1000)) hx hb dX6_forms_0 (by decide) ?_
  refine lv_istore_n (lv' := [(2, .int (e1 1000)), (0, .ref mo), (1, .int (nI r))]) hx hb dX6_forms_1 rfl hl (by decide) rfl (fun ls hl => ?_)
  refine lv_iconst (v := (nI 0)) hx hb dX6_forms_2 (by decide) ?_
  refine lv_istore_n (lv' := [(3, .int (nI 0)), (2, .int (e1 1000)), (0, .ref mo), (1, .int (nI r))]) hx hb dX6_forms_3 rfl hl (by decide) rfl (fun ls hl => ?_)
  have L4 : ∀ (fu : Nat) (i : Nat) (h : Nat), nn σ + 1 - i < fu → i ≤ nn σ → h = mnF σ r i → ∀ (H : Heap) (locs : List Loc), va_P G.1 vwCl [ob mo 6 [.ref u0, .ref u1, .ref u2, .ref u3, .ref u4, .ref u5, .int (nI sm), .int (nI sa), .int (nI le), .int (nI ra), .int (nI fa)], ar G u0 481 nw, ar G u3 800 mk, ar G u4 800 vl] H → va_D A [ob mo 6 [.ref u0, .ref u1, .ref u2, .ref u3, .ref u4, .ref u5, .int (nI sm), .int (nI sa), .int (nI le), .int (nI ra), .int (nI fa)], ar G u0 481 nw, ar G u3 800 mk, ar G u4 800 vl] → va_S A s.heap H locs → ∀ (ls : Array Slot), lv_has ls 5 [(0, .ref mo), (1, .int (nI r)), (2, .int (e1 h)), (3, .int (nI i))] → W p l e ({ frames := 2, cells := 0, slots := 0, locals := 45 } : Room) s m args below meth cod H locs 0 0 Q (F0 m 4 ls []) := by
    intro fu
    induction fu with
    | zero => intro i h hm; exact absurd hm (Nat.not_lt_zero _)
    | succ fu ih4 =>
      intro i h hm4 hi hh H locs hP hD hS ls hl
      have hP : va_P G.1 vwCl [ob mo 6 [.ref u0, .ref u1, .ref u2, .ref u3, .ref u4, .ref u5, .int (nI sm), .int (nI sa), .int (nI le), .int (nI ra), .int (nI fa)], ar G u0 481 nw, ar G u3 800 mk, ar G u4 800 vl] H := hP
      have hD : va_D A [ob mo 6 [.ref u0, .ref u1, .ref u2, .ref u3, .ref u4, .ref u5, .int (nI sm), .int (nI sa), .int (nI le), .int (nI ra), .int (nI fa)], ar G u0 481 nw, ar G u3 800 mk, ar G u4 800 vl] := hD
      refine lv_iload_n hx hb dX6_forms_4 rfl (lv_at hl 3 rfl) ?_
      refine lv_aload_n hx hb dX6_forms_5 rfl (lv_at hl 0 rfl) ?_
      refine va_get (D := G.1) (ci := 6) (v := .ref u0) (C := RX6) (T := TX6) (N := 11) hx hb hts iqX6_forms_X6 hown hK.1 hP 0 rfl rfl 0 (by decide) (hts (.fieldLink RX6 7 "PushedTablesModel" "now" "[I") (List.mem_of_getElem? (i := 1) rfl)) (fun _ h9 => h9) rfl dX6_forms_6 ?_
      refine lv_iconst (v := (nI 0)) hx hb dX6_forms_9 (by decide) ?_
      refine r_iald (e1 := 0) (v := (nI (nn σ))) hx hb hK.1 hP 1 0 rfl rfl (by omega) (by first | decide | assumption) (hR.n) dX6_forms_10 ?_
      refine r_icmp_ge (P := (nn σ) ≤ i) (tgt := 67) hx hb dX6_forms_11 (by decide) (nI_leI (by omega) (by omega)) (fun cq11 => ?_) (fun cq11 => ?_)
      · have ei : i = nn σ := by omega
        have hz := hh
        rw [ei] at hz
        have bmn := mnF_le hB r (nn σ)
        rw [← hz] at bmn
        refine lv_iload_n hx hb dX6_forms_67 rfl (lv_at hl 2 rfl) ?_
        refine r_if_ge (P := h ≠ 1000) (tgt := 123) hx hb dX6_forms_68 (by decide) (e1_ge0 (by omega)) (fun cq68 => ?_) (fun cq68 => ?_)
        · refine lv_aload_n hx hb dX6_forms_123 rfl (lv_at hl 0 rfl) ?_
          refine va_get (D := G.1) (ci := 6) (v := .ref u0) (C := RX6) (T := TX6) (N := 11) hx hb hts iqX6_forms_X6 hown hK.1 hP 0 rfl rfl 0 (by decide) (hts (.fieldLink RX6 7 "PushedTablesModel" "now" "[I") (List.mem_of_getElem? (i := 1) rfl)) (fun _ h9 => h9) rfl dX6_forms_124 ?_
          refine lv_bipush (v := (nI 49)) hx hb dX6_forms_127 (by decide) ?_
          refine lv_iload_n hx hb dX6_forms_129 rfl (lv_at hl 1 rfl) ?_
          refine r_iadd (v := 49 + r) hx hb dX6_forms_130 rfl ?_
          refine lv_aload_n hx hb dX6_forms_131 rfl (lv_at hl 0 rfl) ?_
          refine lv_iload_n hx hb dX6_forms_132 rfl (lv_at hl 1 rfl) ?_
          refine g_ro (k_V (q0 := 0) (ci := 6) (n := 1) (As := [.int (nI r)]) (rest := [.int (nI (49 + r)), .ref u0]) (wc := [ob mo 6 [.ref u0, .ref u1, .ref u2, .ref u3, .ref u4, .ref u5, .int (nI sm), .int (nI sa), .int (nI le), .int (nI ra), .int (nI fa)], ar G u0 481 nw]) hx hb hml hown hts (c_X6_entries (l := l) (G := G) (mo := mo) (u0 := u0) (u1 := u1) (u2 := u2) (u3 := u3) (u4 := u4) (u5 := u5) (sm := sm) (sa := sa) (le := le) (ra := ra) (fa := fa) (σ := σ) (nw := nw) (hR := hR) (hB := hB) (r := r) (hr := by first | assumption | omega))  gX6_forms_X6_entries rfl rfl rfl (by decide +kernel) ⟨Nat.le_of_ble_eq_true rfl, Nat.le_of_ble_eq_true rfl⟩ rfl hK hP hD [0, 1] rfl (by decide)  rfl rfl rfl hl.1 rfl (Nat.le_of_ble_eq_true rfl) dX6_forms_133 ⟨Nat.le_of_ble_eq_true rfl, Nat.le_of_ble_eq_true rfl⟩) (fun r133 h133 => ?_)
          obtain rfl : (nI (cols σ r)) = r133 := Eq.symm h133
          have b133 := cols_lt σ r
          refine r_if_ne (P := (cols σ r) = 0) (tgt := 143) hx hb dX6_forms_136 (by decide) (nI_eq0 (by omega)) (fun cq136 => ?_) (fun cq136 => ?_)
          · refine lv_iload_n hx hb dX6_forms_143 rfl (lv_at hl 2 rfl) ?_
            refine r_iast (e1 := 49 + r) (x := (e1 h)) (g := upd nw (49 + r) (e1 h)) hx hb hK.1 hP hD hS 1 0 rfl rfl (by omega) (by first | decide | assumption) (rfl) dX6_forms_144 (fun H locs hP hD hS => ?_)
            have hP : va_P G.1 vwCl [ob mo 6 [.ref u0, .ref u1, .ref u2, .ref u3, .ref u4, .ref u5, .int (nI sm), .int (nI sa), .int (nI le), .int (nI ra), .int (nI fa)], ar G u0 481 (upd nw (49 + r) (e1 h)), ar G u3 800 mk, ar G u4 800 vl] H := hP
            have hD : va_D A [ob mo 6 [.ref u0, .ref u1, .ref u2, .ref u3, .ref u4, .ref u5, .int (nI sm), .int (nI sa), .int (nI le), .int (nI ra), .int (nI fa)], ar G u0 481 (upd nw (49 + r) (e1 h)), ar G u3 800 mk, ar G u4 800 vl] := hD
            exact hret _ _ _ _ hS dX6_forms_145 (⟨upd nw (49 + r) (e1 h), mk, vl, by rw [fm_3 cq136 hz cq68]; exact Rel_setF hR h24 (by omega), hP⟩)
          · refine lv_iconst (v := (e1 1000)) hx hb dX6_forms_139 (by decide) ?_
            refine lv_goto (tgt := 144) hx hb dX6_forms_140 (by decide) ?_
            refine r_iast (e1 := 49 + r) (x := (e1 1000)) (g := upd nw (49 + r) (e1 1000)) hx hb hK.1 hP hD hS 1 0 rfl rfl (by omega) (by first | decide | assumption) (rfl) dX6_forms_144 (fun H locs hP hD hS => ?_)
            have hP : va_P G.1 vwCl [ob mo 6 [.ref u0, .ref u1, .ref u2, .ref u3, .ref u4, .ref u5, .int (nI sm), .int (nI sa), .int (nI le), .int (nI ra), .int (nI fa)], ar G u0 481 (upd nw (49 + r) (e1 1000)), ar G u3 800 mk, ar G u4 800 vl] H := hP
            have hD : va_D A [ob mo 6 [.ref u0, .ref u1, .ref u2, .ref u3, .ref u4, .ref u5, .int (nI sm), .int (nI sa), .int (nI le), .int (nI ra), .int (nI fa)], ar G u0 481 (upd nw (49 + r) (e1 1000)), ar G u3 800 mk, ar G u4 800 vl] := hD
            exact hret _ _ _ _ hS dX6_forms_145 (⟨upd nw (49 + r) (e1 1000), mk, vl, by rw [fm_1 cq136]; exact Rel_setF hR h24 (by omega), hP⟩)
        · refine lv_aload_n hx hb dX6_forms_71 rfl (lv_at hl 0 rfl) ?_
          refine lv_iload_n hx hb dX6_forms_72 rfl (lv_at hl 1 rfl) ?_
          refine g_ro (k_V (q0 := 0) (ci := 6) (n := 1) (As := [.int (nI r)]) (rest := []) (wc := [ob mo 6 [.ref u0, .ref u1, .ref u2, .ref u3, .ref u4, .ref u5, .int (nI sm), .int (nI sa), .int (nI le), .int (nI ra), .int (nI fa)], ar G u0 481 nw]) hx hb hml hown hts (c_X6_entries (l := l) (G := G) (mo := mo) (u0 := u0) (u1 := u1) (u2 := u2) (u3 := u3) (u4 := u4) (u5 := u5) (sm := sm) (sa := sa) (le := le) (ra := ra) (fa := fa) (σ := by first | assumption | omega) (nw := nw) (hR := by first | assumption | omega) (hB := by first | assumption | omega) (r := r) (hr := by first | assumption | omega))  gX6_forms_X6_entries rfl rfl rfl (by decide +kernel) ⟨Nat.le_of_ble_eq_true rfl, Nat.le_of_ble_eq_true rfl⟩ rfl hK hP hD [0, 1] rfl (by decide)  rfl rfl rfl hl.1 rfl (Nat.le_of_ble_eq_true rfl) dX6_forms_73 ⟨Nat.le_of_ble_eq_true rfl, Nat.le_of_ble_eq_true rfl⟩) (fun r73 h73 => ?_)
          obtain rfl : (nI (cols σ r)) = r73 := Eq.symm h73
          have b73 := cols_lt σ r
          refine r_if_eq (P := (cols σ r) = 0) (tgt := 123) hx hb dX6_forms_76 (by decide) (nI_eq0 (by omega)) (fun cq76 => ?_) (fun cq76 => ?_)
          · refine lv_aload_n hx hb dX6_forms_123 rfl (lv_at hl 0 rfl) ?_
            refine va_get (D := G.1) (ci := 6) (v := .ref u0) (C := RX6) (T := TX6) (N := 11) hx hb hts iqX6_forms_X6 hown hK.1 hP 0 rfl rfl 0 (by decide) (hts (.fieldLink RX6 7 "PushedTablesModel" "now" "[I") (List.mem_of_getElem? (i := 1) rfl)) (fun _ h9 => h9) rfl dX6_forms_124 ?_
            refine lv_bipush (v := (nI 49)) hx hb dX6_forms_127 (by decide) ?_
            refine lv_iload_n hx hb dX6_forms_129 rfl (lv_at hl 1 rfl) ?_
            refine r_iadd (v := 49 + r) hx hb dX6_forms_130 rfl ?_
            refine lv_aload_n hx hb dX6_forms_131 rfl (lv_at hl 0 rfl) ?_
            refine lv_iload_n hx hb dX6_forms_132 rfl (lv_at hl 1 rfl) ?_
            refine g_ro (k_V (q0 := 0) (ci := 6) (n := 1) (As := [.int (nI r)]) (rest := [.int (nI (49 + r)), .ref u0]) (wc := [ob mo 6 [.ref u0, .ref u1, .ref u2, .ref u3, .ref u4, .ref u5, .int (nI sm), .int (nI sa), .int (nI le), .int (nI ra), .int (nI fa)], ar G u0 481 nw]) hx hb hml hown hts (c_X6_entries (l := l) (G := G) (mo := mo) (u0 := u0) (u1 := u1) (u2 := u2) (u3 := u3) (u4 := u4) (u5 := u5) (sm := sm) (sa := sa) (le := le) (ra := ra) (fa := fa) (σ := σ) (nw := nw) (hR := hR) (hB := hB) (r := r) (hr := by first | assumption | omega))  gX6_forms_X6_entries rfl rfl rfl (by decide +kernel) ⟨Nat.le_of_ble_eq_true rfl, Nat.le_of_ble_eq_true rfl⟩ rfl hK hP hD [0, 1] rfl (by decide)  rfl rfl rfl hl.1 rfl (Nat.le_of_ble_eq_true rfl) dX6_forms_133 ⟨Nat.le_of_ble_eq_true rfl, Nat.le_of_ble_eq_true rfl⟩) (fun r133 h133 => ?_)
            obtain rfl : (nI (cols σ r)) = r133 := Eq.symm h133
            have b133 := cols_lt σ r
            refine r_if_ne (P := (cols σ r) = 0) (tgt := 143) hx hb dX6_forms_136 (by decide) (nI_eq0 (by omega)) (fun cq136 => ?_) (fun cq136 => ?_)
            · refine lv_iload_n hx hb dX6_forms_143 rfl (lv_at hl 2 rfl) ?_
              refine r_iast (e1 := 49 + r) (x := (e1 h)) (g := upd nw (49 + r) (e1 h)) hx hb hK.1 hP hD hS 1 0 rfl rfl (by omega) (by first | decide | assumption) (rfl) dX6_forms_144 (fun H locs hP hD hS => ?_)
              have hP : va_P G.1 vwCl [ob mo 6 [.ref u0, .ref u1, .ref u2, .ref u3, .ref u4, .ref u5, .int (nI sm), .int (nI sa), .int (nI le), .int (nI ra), .int (nI fa)], ar G u0 481 (upd nw (49 + r) (e1 h)), ar G u3 800 mk, ar G u4 800 vl] H := hP
              have hD : va_D A [ob mo 6 [.ref u0, .ref u1, .ref u2, .ref u3, .ref u4, .ref u5, .int (nI sm), .int (nI sa), .int (nI le), .int (nI ra), .int (nI fa)], ar G u0 481 (upd nw (49 + r) (e1 h)), ar G u3 800 mk, ar G u4 800 vl] := hD
              exact hret _ _ _ _ hS dX6_forms_145 (⟨upd nw (49 + r) (e1 h), mk, vl, absurd cq76 cq136, hP⟩)
            · refine lv_iconst (v := (e1 1000)) hx hb dX6_forms_139 (by decide) ?_
              refine lv_goto (tgt := 144) hx hb dX6_forms_140 (by decide) ?_
              refine r_iast (e1 := 49 + r) (x := (e1 1000)) (g := upd nw (49 + r) (e1 1000)) hx hb hK.1 hP hD hS 1 0 rfl rfl (by omega) (by first | decide | assumption) (rfl) dX6_forms_144 (fun H locs hP hD hS => ?_)
              have hP : va_P G.1 vwCl [ob mo 6 [.ref u0, .ref u1, .ref u2, .ref u3, .ref u4, .ref u5, .int (nI sm), .int (nI sa), .int (nI le), .int (nI ra), .int (nI fa)], ar G u0 481 (upd nw (49 + r) (e1 1000)), ar G u3 800 mk, ar G u4 800 vl] H := hP
              have hD : va_D A [ob mo 6 [.ref u0, .ref u1, .ref u2, .ref u3, .ref u4, .ref u5, .int (nI sm), .int (nI sa), .int (nI le), .int (nI ra), .int (nI fa)], ar G u0 481 (upd nw (49 + r) (e1 1000)), ar G u3 800 mk, ar G u4 800 vl] := hD
              exact hret _ _ _ _ hS dX6_forms_145 (⟨upd nw (49 + r) (e1 1000), mk, vl, by rw [fm_1 cq136]; exact Rel_setF hR h24 (by omega), hP⟩)
          · refine lv_aload_n hx hb dX6_forms_79 rfl (lv_at hl 0 rfl) ?_
            obtain ⟨hf1, hf2, hf3⟩ := frf_yes (hfr cq76 (by rw [← hz]; exact Classical.not_not.mp cq68))
            refine g_V (k_V (q0 := 0) (ci := 6) (n := 0) (As := []) (rest := []) (wc := [ob mo 6 [.ref u0, .ref u1, .ref u2, .ref u3, .ref u4, .ref u5, .int (nI sm), .int (nI sa), .int (nI le), .int (nI ra), .int (nI fa)], ar G u0 481 nw, ar G u3 800 mk, ar G u4 800 vl]) hx hb hml hown hts (c_X6_layStore (l := l) (G := G) (mo := mo) (u0 := u0) (u1 := u1) (u2 := u2) (u3 := u3) (u4 := u4) (u5 := u5) (sm := sm) (sa := sa) (le := le) (ra := ra) (fa := fa) (σ := by first | assumption | omega) (nw := nw) (hR := by first | assumption | omega) (hB := by first | assumption | omega) (hT1 := by first | assumption | omega) (mk := mk) (vl := vl))  gX6_forms_X6_layStore rfl rfl rfl (by decide +kernel) ⟨Nat.le_of_ble_eq_true rfl, Nat.le_of_ble_eq_true rfl⟩ rfl hK hP hD [0, 1, 2, 3] rfl (by decide)  rfl rfl rfl hl.1 rfl (Nat.le_of_ble_eq_true rfl) dX6_forms_80 ⟨Nat.le_of_ble_eq_true rfl, Nat.le_of_ble_eq_true rfl⟩) hP hD hS [0, 1, 2, 3] rfl (fun H locs hB80 back hS => ?_)
            obtain ⟨mk180, vl180, hq80, hP1⟩ := hB80
            obtain ⟨hP, hD⟩ := back [ob mo 6 [.ref u0, .ref u1, .ref u2, .ref u3, .ref u4, .ref u5, .int (nI sm), .int (nI sa), .int (nI le), .int (nI ra), .int (nI fa)], ar G u0 481 nw, ar G u3 800 mk180, ar G u4 800 vl180] rfl hP1
            have hP : va_P G.1 vwCl [ob mo 6 [.ref u0, .ref u1, .ref u2, .ref u3, .ref u4, .ref u5, .int (nI sm), .int (nI sa), .int (nI le), .int (nI ra), .int (nI fa)], ar G u0 481 nw, ar G u3 800 mk180, ar G u4 800 vl180] H := hP
            have hD : va_D A [ob mo 6 [.ref u0, .ref u1, .ref u2, .ref u3, .ref u4, .ref u5, .int (nI sm), .int (nI sa), .int (nI le), .int (nI ra), .int (nI fa)], ar G u0 481 nw, ar G u3 800 mk180, ar G u4 800 vl180] := hD
            refine lv_iconst (v := (nI 0)) hx hb dX6_forms_83 (by decide) ?_
            refine lv_istore_n (lv' := [(2, .int (nI 0)), (0, .ref mo), (1, .int (nI r)), (3, .int (nI i))]) hx hb dX6_forms_84 rfl hl (by decide) rfl (fun ls hl => ?_)
            have L85 : ∀ (fu : Nat) (f : Nat), 25 - f < fu → f ≤ frf σ → ∀ (H : Heap) (locs : List Loc), va_P G.1 vwCl [ob mo 6 [.ref u0, .ref u1, .ref u2, .ref u3, .ref u4, .ref u5, .int (nI sm), .int (nI sa), .int (nI le), .int (nI ra), .int (nI fa)], ar G u0 481 nw, ar G u3 800 mk180, ar G u4 800 vl180] H → va_D A [ob mo 6 [.ref u0, .ref u1, .ref u2, .ref u3, .ref u4, .ref u5, .int (nI sm), .int (nI sa), .int (nI le), .int (nI ra), .int (nI fa)], ar G u0 481 nw, ar G u3 800 mk180, ar G u4 800 vl180] → va_S A s.heap H locs → ∀ (ls : Array Slot), lv_has ls 5 [(0, .ref mo), (1, .int (nI r)), (2, .int (nI f)), (3, .int (nI i))] → W p l e ({ frames := 2, cells := 0, slots := 0, locals := 45 } : Room) s m args below meth cod H locs 0 0 Q (F0 m 85 ls []) := by
              intro fu
              induction fu with
              | zero => intro f hm; exact absurd hm (Nat.not_lt_zero _)
              | succ fu ih85 =>
                intro f hm85 hf H locs hP hD hS ls hl
                have hP : va_P G.1 vwCl [ob mo 6 [.ref u0, .ref u1, .ref u2, .ref u3, .ref u4, .ref u5, .int (nI sm), .int (nI sa), .int (nI le), .int (nI ra), .int (nI fa)], ar G u0 481 nw, ar G u3 800 mk180, ar G u4 800 vl180] H := hP
                have hD : va_D A [ob mo 6 [.ref u0, .ref u1, .ref u2, .ref u3, .ref u4, .ref u5, .int (nI sm), .int (nI sa), .int (nI le), .int (nI ra), .int (nI fa)], ar G u0 481 nw, ar G u3 800 mk180, ar G u4 800 vl180] := hD
                refine lv_aload_n hx hb dX6_forms_85 rfl (lv_at hl 0 rfl) ?_
                have bsf := hB.s f
                refine va_get (D := G.1) (ci := 6) (v := .ref u0) (C := RX6) (T := TX6) (N := 11) hx hb hts iqX6_forms_X6 hown hK.1 hP 0 rfl rfl 0 (by decide) (hts (.fieldLink RX6 7 "PushedTablesModel" "now" "[I") (List.mem_of_getElem? (i := 1) rfl)) (fun _ h9 => h9) rfl dX6_forms_86 ?_
                refine lv_sipush (v := (nI 457)) hx hb dX6_forms_89 (by decide) ?_
                refine lv_iload_n hx hb dX6_forms_92 rfl (lv_at hl 2 rfl) ?_
                refine r_iadd (v := 457 + f) hx hb dX6_forms_93 rfl ?_
                refine r_iald (e1 := 457 + f) (v := (e1 (ss σ f))) hx hb hK.1 hP 1 0 rfl rfl (by omega) (by first | decide | assumption) (hR.s (by omega)) dX6_forms_94 ?_
                refine r_if_lt (P := (ss σ f) = 1000) (tgt := 104) hx hb dX6_forms_95 (by decide) (e1_lt0 (by omega)) (fun cq95 => ?_) (fun cq95 => ?_)
                · have hff : f = frf σ := Nat.le_antisymm hf (Nat.le_of_not_lt (fun z => hf3 f z cq95))
                  refine lv_aload_n hx hb dX6_forms_104 rfl (lv_at hl 0 rfl) ?_
                  refine va_get (D := G.1) (ci := 6) (v := .ref u0) (C := RX6) (T := TX6) (N := 11) hx hb hts iqX6_forms_X6 hown hK.1 hP 0 rfl rfl 0 (by decide) (hts (.fieldLink RX6 7 "PushedTablesModel" "now" "[I") (List.mem_of_getElem? (i := 1) rfl)) (fun _ h9 => h9) rfl dX6_forms_105 ?_
                  refine lv_sipush (v := (nI 457)) hx hb dX6_forms_108 (by decide) ?_
                  refine lv_iload_n hx hb dX6_forms_111 rfl (lv_at hl 2 rfl) ?_
                  refine r_iadd (v := 457 + f) hx hb dX6_forms_112 rfl ?_
                  refine lv_aload_n hx hb dX6_forms_113 rfl (lv_at hl 0 rfl) ?_
                  refine lv_aload_n hx hb dX6_forms_114 rfl (lv_at hl 0 rfl) ?_
                  refine lv_iload_n hx hb dX6_forms_115 rfl (lv_at hl 1 rfl) ?_
                  refine g_ro (k_V (q0 := 0) (ci := 6) (n := 1) (As := [.int (nI r)]) (rest := [.ref mo, .int (nI (457 + f)), .ref u0]) (wc := [ob mo 6 [.ref u0, .ref u1, .ref u2, .ref u3, .ref u4, .ref u5, .int (nI sm), .int (nI sa), .int (nI le), .int (nI ra), .int (nI fa)], ar G u0 481 nw]) hx hb hml hown hts (c_X6_entries (l := l) (G := G) (mo := mo) (u0 := u0) (u1 := u1) (u2 := u2) (u3 := u3) (u4 := u4) (u5 := u5) (sm := sm) (sa := sa) (le := le) (ra := ra) (fa := fa) (σ := by first | assumption | omega) (nw := nw) (hR := by first | assumption | omega) (hB := by first | assumption | omega) (r := r) (hr := by first | assumption | omega))  gX6_forms_X6_entries rfl rfl rfl (by decide +kernel) ⟨Nat.le_of_ble_eq_true rfl, Nat.le_of_ble_eq_true rfl⟩ rfl hK hP hD [0, 1] rfl (by decide)  rfl rfl rfl hl.1 rfl (Nat.le_of_ble_eq_true rfl) dX6_forms_116 ⟨Nat.le_of_ble_eq_true rfl, Nat.le_of_ble_eq_true rfl⟩) (fun r116 h116 => ?_)
                  obtain rfl : (nI (cols σ r)) = r116 := Eq.symm h116
                  have b116 := cols_lt σ r
                  refine g_ro (k_V (q0 := 0) (ci := 6) (n := 1) (As := [.int (nI (cols σ r))]) (rest := [.int (nI (457 + f)), .ref u0]) (wc := [ob mo 6 [.ref u0, .ref u1, .ref u2, .ref u3, .ref u4, .ref u5, .int (nI sm), .int (nI sa), .int (nI le), .int (nI ra), .int (nI fa)], ar G u3 800 mk180]) hx hb hml hown hts (c_X6_fits (l := l) (G := G) (mo := mo) (u0 := u0) (u1 := u1) (u2 := u2) (u3 := u3) (u4 := u4) (u5 := u5) (sm := sm) (sa := sa) (le := le) (ra := ra) (fa := fa) (cm := (rsT σ (nn σ)).2.2) (gv := (rsT σ (nn σ)).2.1) (mk := mk180) (vl := vl180) (hm := (rsT_Bc hB _)) (hq := hq80) (m2 := cols σ r) (hm2 := by first | assumption | omega))  gX6_forms_X6_fits rfl rfl rfl (by decide +kernel) ⟨Nat.le_of_ble_eq_true rfl, Nat.le_of_ble_eq_true rfl⟩ rfl hK hP hD [0, 2] rfl (by decide)  rfl rfl rfl hl.1 rfl (Nat.le_of_ble_eq_true rfl) dX6_forms_119 ⟨Nat.le_of_ble_eq_true rfl, Nat.le_of_ble_eq_true rfl⟩) (fun r119 h119 => ?_)
                  obtain rfl : (nI (ftR ((rsT σ (nn σ)).2.2) (cols σ r))) = r119 := Eq.symm h119
                  have b119 := ftR_le ((rsT σ (nn σ)).2.2) (cols σ r)
                  refine r_top (y := (e1 (fmS σ r))) ((e1_n (by have := ftR_le (rsT σ (nn σ)).2.2 (cols σ r); omega)).symm) ?_
                  refine r_iast (e1 := 457 + f) (x := (e1 (fmS σ r))) (g := upd nw (457 + f) (e1 (fmS σ r))) hx hb hK.1 hP hD hS 1 0 rfl rfl (by omega) (by first | decide | assumption) (rfl) dX6_forms_122 (fun H locs hP hD hS => ?_)
                  have hP : va_P G.1 vwCl [ob mo 6 [.ref u0, .ref u1, .ref u2, .ref u3, .ref u4, .ref u5, .int (nI sm), .int (nI sa), .int (nI le), .int (nI ra), .int (nI fa)], ar G u0 481 (upd nw (457 + f) (e1 (fmS σ r))), ar G u3 800 mk180, ar G u4 800 vl180] H := hP
                  have hD : va_D A [ob mo 6 [.ref u0, .ref u1, .ref u2, .ref u3, .ref u4, .ref u5, .int (nI sm), .int (nI sa), .int (nI le), .int (nI ra), .int (nI fa)], ar G u0 481 (upd nw (457 + f) (e1 (fmS σ r))), ar G u3 800 mk180, ar G u4 800 vl180] := hD
                  have hR2 := Rel_setS (g := fmS σ r) hR h24 (k := f) (by omega)
                  have hB2 := Bd_setS hB (f := f) (s := fmS σ r) (Or.inl (ftR_le _ _))
                  refine lv_aload_n hx hb dX6_forms_123 rfl (lv_at hl 0 rfl) ?_
                  refine va_get (D := G.1) (ci := 6) (v := .ref u0) (C := RX6) (T := TX6) (N := 11) hx hb hts iqX6_forms_X6 hown hK.1 hP 0 rfl rfl 0 (by decide) (hts (.fieldLink RX6 7 "PushedTablesModel" "now" "[I") (List.mem_of_getElem? (i := 1) rfl)) (fun _ h9 => h9) rfl dX6_forms_124 ?_
                  refine lv_bipush (v := (nI 49)) hx hb dX6_forms_127 (by decide) ?_
                  refine lv_iload_n hx hb dX6_forms_129 rfl (lv_at hl 1 rfl) ?_
                  refine r_iadd (v := 49 + r) hx hb dX6_forms_130 rfl ?_
                  refine lv_aload_n hx hb dX6_forms_131 rfl (lv_at hl 0 rfl) ?_
                  refine lv_iload_n hx hb dX6_forms_132 rfl (lv_at hl 1 rfl) ?_
                  refine g_ro (k_V (q0 := 0) (ci := 6) (n := 1) (As := [.int (nI r)]) (rest := [.int (nI (49 + r)), .ref u0]) (wc := [ob mo 6 [.ref u0, .ref u1, .ref u2, .ref u3, .ref u4, .ref u5, .int (nI sm), .int (nI sa), .int (nI le), .int (nI ra), .int (nI fa)], ar G u0 481 (upd nw (457 + f) (e1 (fmS σ r)))]) hx hb hml hown hts (c_X6_entries (l := l) (G := G) (mo := mo) (u0 := u0) (u1 := u1) (u2 := u2) (u3 := u3) (u4 := u4) (u5 := u5) (sm := sm) (sa := sa) (le := le) (ra := ra) (fa := fa) (σ := (setS σ f (fmS σ r))) (nw := upd nw (457 + f) (e1 (fmS σ r))) (hR := hR2) (hB := hB2) (r := r) (hr := by first | assumption | omega))  gX6_forms_X6_entries rfl rfl rfl (by decide +kernel) ⟨Nat.le_of_ble_eq_true rfl, Nat.le_of_ble_eq_true rfl⟩ rfl hK hP hD [0, 1] rfl (by decide)  rfl rfl rfl hl.1 rfl (Nat.le_of_ble_eq_true rfl) dX6_forms_133 ⟨Nat.le_of_ble_eq_true rfl, Nat.le_of_ble_eq_true rfl⟩) (fun r133 h133 => ?_)
                  obtain rfl : (nI (cols (setS σ f (fmS σ r)) r)) = r133 := Eq.symm h133
                  have b133 := cols_lt (setS σ f (fmS σ r)) r
                  refine r_if_ne (P := (cols (setS σ f (fmS σ r)) r) = 0) (tgt := 143) hx hb dX6_forms_136 (by decide) (nI_eq0 (by omega)) (fun cq136 => ?_) (fun cq136 => ?_)
                  · refine lv_iload_n hx hb dX6_forms_143 rfl (lv_at hl 2 rfl) ?_
                    refine r_iast (e1 := 49 + r) (x := (nI f)) (g := upd (upd nw (457 + f) (e1 (fmS σ r))) (49 + r) (nI f)) hx hb hK.1 hP hD hS 1 0 rfl rfl (by omega) (by first | decide | assumption) (rfl) dX6_forms_144 (fun H locs hP hD hS => ?_)
                    have hP : va_P G.1 vwCl [ob mo 6 [.ref u0, .ref u1, .ref u2, .ref u3, .ref u4, .ref u5, .int (nI sm), .int (nI sa), .int (nI le), .int (nI ra), .int (nI fa)], ar G u0 481 (upd (upd nw (457 + f) (e1 (fmS σ r))) (49 + r) (nI f)), ar G u3 800 mk180, ar G u4 800 vl180] H := hP
                    have hD : va_D A [ob mo 6 [.ref u0, .ref u1, .ref u2, .ref u3, .ref u4, .ref u5, .int (nI sm), .int (nI sa), .int (nI le), .int (nI ra), .int (nI fa)], ar G u0 481 (upd (upd nw (457 + f) (e1 (fmS σ r))) (49 + r) (nI f)), ar G u3 800 mk180, ar G u4 800 vl180] := hD
                    exact hret _ _ _ _ hS dX6_forms_145 (⟨upd (upd nw (457 + f) (e1 (fmS σ r))) (49 + r) (nI f), mk180, vl180, by rw [fm_2 cq76 (hz.symm.trans (Classical.not_not.mp cq68)) hff]; have h9 := Rel_setF hR2 h24 (r := r) (g := f) (by omega); rw [e1_n (x := f) (by omega)] at h9; exact h9, hP⟩)
                  · refine lv_iconst (v := (e1 1000)) hx hb dX6_forms_139 (by decide) ?_
                    refine lv_goto (tgt := 144) hx hb dX6_forms_140 (by decide) ?_
                    refine r_iast (e1 := 49 + r) (x := (e1 1000)) (g := upd (upd nw (457 + f) (e1 (fmS σ r))) (49 + r) (e1 1000)) hx hb hK.1 hP hD hS 1 0 rfl rfl (by omega) (by first | decide | assumption) (rfl) dX6_forms_144 (fun H locs hP hD hS => ?_)
                    have hP : va_P G.1 vwCl [ob mo 6 [.ref u0, .ref u1, .ref u2, .ref u3, .ref u4, .ref u5, .int (nI sm), .int (nI sa), .int (nI le), .int (nI ra), .int (nI fa)], ar G u0 481 (upd (upd nw (457 + f) (e1 (fmS σ r))) (49 + r) (e1 1000)), ar G u3 800 mk180, ar G u4 800 vl180] H := hP
                    have hD : va_D A [ob mo 6 [.ref u0, .ref u1, .ref u2, .ref u3, .ref u4, .ref u5, .int (nI sm), .int (nI sa), .int (nI le), .int (nI ra), .int (nI fa)], ar G u0 481 (upd (upd nw (457 + f) (e1 (fmS σ r))) (49 + r) (e1 1000)), ar G u3 800 mk180, ar G u4 800 vl180] := hD
                    exact hret _ _ _ _ hS dX6_forms_145 (⟨upd (upd nw (457 + f) (e1 (fmS σ r))) (49 + r) (e1 1000), mk180, vl180, absurd cq136 cq76, hP⟩)
                · refine r_iinc (v := f + 1) (lv' := [(2, .int (nI (f + 1))), (0, .ref mo), (1, .int (nI r)), (3, .int (nI i))]) hx hb dX6_forms_98 hl (k := 2) rfl (nI_1 _) (by decide) rfl (fun ls hl => ?_)
                  refine lv_goto (tgt := 85) hx hb dX6_forms_101 (by decide) ?_
                  exact ih85 (f + 1) (by omega) (by have h9 : f ≠ frf σ := (fun z => cq95 (by rw [z]; exact hf2)); omega) _ _ hP hD hS ls (lv_sub hl [1, 2, 0, 3] rfl)
            exact L85 ((25 - 0) + 1) 0 (Nat.lt_succ_self _) (Nat.zero_le _) _ _ hP hD hS ls (lv_sub hl [1, 2, 0, 3] rfl)
      · have bfi := hB.f i
        have bmn := mnF_le hB r i
        refine lv_aload_n hx hb dX6_forms_14 rfl (lv_at hl 0 rfl) ?_
        refine va_get (D := G.1) (ci := 6) (v := .ref u0) (C := RX6) (T := TX6) (N := 11) hx hb hts iqX6_forms_X6 hown hK.1 hP 0 rfl rfl 0 (by decide) (hts (.fieldLink RX6 7 "PushedTablesModel" "now" "[I") (List.mem_of_getElem? (i := 1) rfl)) (fun _ h9 => h9) rfl dX6_forms_15 ?_
        refine lv_bipush (v := (nI 49)) hx hb dX6_forms_18 (by decide) ?_
        refine lv_iload_n hx hb dX6_forms_20 rfl (lv_at hl 3 rfl) ?_
        refine r_iadd (v := 49 + i) hx hb dX6_forms_21 rfl ?_
        refine r_iald (e1 := 49 + i) (v := (e1 (ff σ i))) hx hb hK.1 hP 1 0 rfl rfl (by omega) (by first | decide | assumption) (hR.f (by omega)) dX6_forms_22 ?_
        refine lv_istore (lv' := [(4, .int (e1 (ff σ i))), (0, .ref mo), (1, .int (nI r)), (2, .int (e1 h)), (3, .int (nI i))]) hx hb dX6_forms_23 hl (by decide) rfl (fun ls hl => ?_)
        refine lv_iload_n hx hb dX6_forms_25 rfl (lv_at hl 4 rfl) ?_
        refine lv_iload_n hx hb dX6_forms_26 rfl (lv_at hl 2 rfl) ?_
        refine r_icmp_eq (P := i = r) (tgt := 59) hx hb dX6_forms_27 (by decide) (nI_eq (by omega) (by omega)) (fun cq27 => ?_) (fun cq27 => ?_)
        · refine lv_iload_n hx hb dX6_forms_59 rfl (lv_at hl 3 rfl) ?_
          refine lv_istore_n (lv' := [(2, .int (e1 h)), (4, .int (e1 (ff σ i))), (0, .ref mo), (1, .int (nI r)), (3, .int (nI i))]) hx hb dX6_forms_60 rfl hl (by decide) rfl (fun ls hl => ?_)
          refine r_iinc (v := i + 1) (lv' := [(3, .int (nI (i + 1))), (2, .int (e1 h)), (4, .int (e1 (ff σ i))), (0, .ref mo), (1, .int (nI r))]) hx hb dX6_forms_61 hl (k := 4) rfl (nI_1 _) (by decide) rfl (fun ls hl => ?_)
          refine lv_goto (tgt := 4) hx hb dX6_forms_64 (by decide) ?_
          exact ih4 (i + 1) h (by omega) (by omega) (hh.trans (mnF_f (fun z => z.1 cq27))) _ _ hP hD hS ls (lv_sub hl [3, 4, 1, 0] rfl)
        · refine lv_iload hx hb dX6_forms_30 (lv_at hl 0 rfl) ?_
          refine r_if_lt (P := (ff σ i) = 1000) (tgt := 59) hx hb dX6_forms_32 (by decide) (e1_lt0 (by omega)) (fun cq32 => ?_) (fun cq32 => ?_)
          · refine lv_iload_n hx hb dX6_forms_59 rfl (lv_at hl 3 rfl) ?_
            refine lv_istore_n (lv' := [(2, .int (e1 h)), (4, .int (e1 (ff σ i))), (0, .ref mo), (1, .int (nI r)), (3, .int (nI i))]) hx hb dX6_forms_60 rfl hl (by decide) rfl (fun ls hl => ?_)
            refine r_iinc (v := i + 1) (lv' := [(3, .int (nI (i + 1))), (2, .int (e1 h)), (4, .int (e1 (ff σ i))), (0, .ref mo), (1, .int (nI r))]) hx hb dX6_forms_61 hl (k := 4) rfl (nI_1 _) (by decide) rfl (fun ls hl => ?_)
            refine lv_goto (tgt := 4) hx hb dX6_forms_64 (by decide) ?_
            exact ih4 (i + 1) h (by omega) (by omega) (hh.trans (mnF_f (fun z => z.2.1 cq32))) _ _ hP hD hS ls (lv_sub hl [3, 4, 1, 0] rfl)
          · refine lv_aload_n hx hb dX6_forms_35 rfl (lv_at hl 1 rfl) ?_
            refine lv_iload_n hx hb dX6_forms_36 rfl (lv_at hl 4 rfl) ?_
            refine lv_iload_n hx hb dX6_forms_37 rfl (lv_at hl 2 rfl) ?_
            refine g_ro (k_V (q0 := 0) (ci := 6) (n := 2) (As := [.int (nI i), .int (nI r)]) (rest := []) (wc := [ob mo 6 [.ref u0, .ref u1, .ref u2, .ref u3, .ref u4, .ref u5, .int (nI sm), .int (nI sa), .int (nI le), .int (nI ra), .int (nI fa)], ar G u0 481 nw]) hx hb hml hown hts (c_X6_areAlike (l := l) (G := G) (mo := mo) (u0 := u0) (u1 := u1) (u2 := u2) (u3 := u3) (u4 := u4) (u5 := u5) (sm := sm) (sa := sa) (le := le) (ra := ra) (fa := fa) (σ := by first | assumption | omega) (nw := nw) (hR := by first | assumption | omega) (hB := by first | assumption | omega) (r1 := i) (r2 := r) (hr1 := by first | assumption | omega) (hr2 := by first | assumption | omega))  gX6_forms_X6_areAlike rfl rfl rfl (by decide +kernel) ⟨Nat.le_of_ble_eq_true rfl, Nat.le_of_ble_eq_true rfl⟩ rfl hK hP hD [0, 1] rfl (by decide)  rfl rfl rfl hl.1 rfl (Nat.le_of_ble_eq_true rfl) dX6_forms_38 ⟨Nat.le_of_ble_eq_true rfl, Nat.le_of_ble_eq_true rfl⟩) (fun r38 h38 => ?_)
            obtain rfl : (bI (alk σ i r)) = r38 := Eq.symm h38
            refine r_if_eq (P := (alk σ i r) = false) (tgt := 59) hx hb dX6_forms_41 (by decide) (bI_eq0) (fun cq41 => ?_) (fun cq41 => ?_)
            · refine lv_iload_n hx hb dX6_forms_59 rfl (lv_at hl 3 rfl) ?_
              refine lv_istore_n (lv' := [(2, .int (e1 h)), (4, .int (e1 (ff σ i))), (0, .ref mo), (1, .int (nI r)), (3, .int (nI i))]) hx hb dX6_forms_60 rfl hl (by decide) rfl (fun ls hl => ?_)
              refine r_iinc (v := i + 1) (lv' := [(3, .int (nI (i + 1))), (2, .int (e1 h)), (4, .int (e1 (ff σ i))), (0, .ref mo), (1, .int (nI r))]) hx hb dX6_forms_61 hl (k := 4) rfl (nI_1 _) (by decide) rfl (fun ls hl => ?_)
              refine lv_goto (tgt := 4) hx hb dX6_forms_64 (by decide) ?_
              exact ih4 (i + 1) h (by omega) (by omega) (hh.trans (mnF_f (fun z => absurd (cq41.symm.trans z.2.2.1) (by decide)))) _ _ hP hD hS ls (lv_sub hl [3, 4, 1, 0] rfl)
            · refine lv_iload_n hx hb dX6_forms_44 rfl (lv_at hl 3 rfl) ?_
              refine r_if_lt (P := h = 1000) (tgt := 54) hx hb dX6_forms_45 (by decide) (e1_lt0 (by omega)) (fun cq45 => ?_) (fun cq45 => ?_)
              · refine lv_iload hx hb dX6_forms_54 (lv_at hl 0 rfl) ?_
                refine lv_goto (tgt := 60) hx hb dX6_forms_56 (by decide) ?_
                refine lv_istore_n (lv' := [(2, .int (e1 (ff σ i))), (4, .int (e1 (ff σ i))), (0, .ref mo), (1, .int (nI r)), (3, .int (nI i))]) hx hb dX6_forms_60 rfl hl (by decide) rfl (fun ls hl => ?_)
                refine r_iinc (v := i + 1) (lv' := [(3, .int (nI (i + 1))), (2, .int (e1 (ff σ i))), (4, .int (e1 (ff σ i))), (0, .ref mo), (1, .int (nI r))]) hx hb dX6_forms_61 hl (k := 4) rfl (nI_1 _) (by decide) rfl (fun ls hl => ?_)
                refine lv_goto (tgt := 4) hx hb dX6_forms_64 (by decide) ?_
                exact ih4 (i + 1) (ff σ i) (by omega) (by omega) (mnF_t ⟨cq27, cq32, Bool.of_not_eq_false cq41, Or.inl (hh.symm.trans cq45)⟩) _ _ hP hD hS ls (lv_sub hl [3, 4, 1, 0] rfl)
              · refine lv_iload hx hb dX6_forms_48 (lv_at hl 0 rfl) ?_
                refine r_top (y := (nI (ff σ i))) (e1_n cq32) ?_
                refine lv_iload_n hx hb dX6_forms_50 rfl (lv_at hl 3 rfl) ?_
                refine r_top (y := (nI h)) (e1_n cq45) ?_
                refine r_icmp_ge (P := h ≤ (ff σ i)) (tgt := 59) hx hb dX6_forms_51 (by decide) (nI_leI (by omega) (by omega)) (fun cq51 => ?_) (fun cq51 => ?_)
                · refine lv_iload_n hx hb dX6_forms_59 rfl (lv_at hl 3 rfl) ?_
                  refine lv_istore_n (lv' := [(2, .int (e1 h)), (4, .int (e1 (ff σ i))), (0, .ref mo), (1, .int (nI r)), (3, .int (nI i))]) hx hb dX6_forms_60 rfl hl (by decide) rfl (fun ls hl => ?_)
                  refine r_iinc (v := i + 1) (lv' := [(3, .int (nI (i + 1))), (2, .int (e1 h)), (4, .int (e1 (ff σ i))), (0, .ref mo), (1, .int (nI r))]) hx hb dX6_forms_61 hl (k := 4) rfl (nI_1 _) (by decide) rfl (fun ls hl => ?_)
                  refine lv_goto (tgt := 4) hx hb dX6_forms_64 (by decide) ?_
                  exact ih4 (i + 1) h (by omega) (by omega) (hh.trans (mnF_f (fun z => z.2.2.2.elim (fun y => cq45 (hh.trans y)) (fun y => by rw [← hh] at y; omega)))) _ _ hP hD hS ls (lv_sub hl [3, 4, 1, 0] rfl)
                · refine lv_iload hx hb dX6_forms_54 (lv_at hl 0 rfl) ?_
                  refine lv_goto (tgt := 60) hx hb dX6_forms_56 (by decide) ?_
                  refine lv_istore_n (lv' := [(2, .int (e1 (ff σ i))), (4, .int (e1 (ff σ i))), (0, .ref mo), (1, .int (nI r)), (3, .int (nI i))]) hx hb dX6_forms_60 rfl hl (by decide) rfl (fun ls hl => ?_)
                  refine r_iinc (v := i + 1) (lv' := [(3, .int (nI (i + 1))), (2, .int (e1 (ff σ i))), (4, .int (e1 (ff σ i))), (0, .ref mo), (1, .int (nI r))]) hx hb dX6_forms_61 hl (k := 4) rfl (nI_1 _) (by decide) rfl (fun ls hl => ?_)
                  refine lv_goto (tgt := 4) hx hb dX6_forms_64 (by decide) ?_
                  exact ih4 (i + 1) (ff σ i) (by omega) (by omega) (mnF_t ⟨cq27, cq32, Bool.of_not_eq_false cq41, Or.inr (by rw [← hh]; omega)⟩) _ _ hP hD hS ls (lv_sub hl [3, 4, 1, 0] rfl)
  exact L4 ((nn σ + 1 - 0) + 1) 0 1000 (Nat.lt_succ_self _) (by omega) (rfl) _ _ hP hD hS ls (lv_sub hl [2, 3, 1, 0] rfl)
