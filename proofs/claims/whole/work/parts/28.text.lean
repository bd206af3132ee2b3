/-! the reference: a text is read -/
def nmR (t : Nat → Nat) (L s : Nat) : Nat := if nmO t L s = true then nmV t L s else 1000
theorem nmR_t {t : Nat → Nat} {L s : Nat} (h : nmO t L s = true) : nmR t L s = nmV t L s := if_pos h
theorem nmR_f {t : Nat → Nat} {L s : Nat} (h : nmO t L s = false) : nmR t L s = 1000 := if_neg (by rw [h]; decide)
theorem nmR_le (t : Nat → Nat) (L s : Nat) : nmR t L s < 100 ∨ nmR t L s = 1000 := by
  unfold nmR; split
  · rename_i h; exact Or.inl (nmV_lt (nmO_dg h).1)
  · exact Or.inr rfl
theorem sg_at {t : Nat → Nat} {L p : Nat} (h : p < L) : sg t L p = t p := if_pos h
theorem sg_end {t : Nat → Nat} {L p : Nat} (h : ¬ p < L) : sg t L p = 0 := if_neg h
theorem e9_v {x y : Nat} (h : x = y) (hy : y < 1000) : nI x = e9 y := by rw [e9_n (by omega), h]
theorem nm_a {t : Nat → Nat} {L s : Nat} (h : dg t L s = true) (h0 : nmW t L s = false) (h2 : dg t L (s + 1) = false) : nmO t L s = true ∧ nmP t L s = s + 1 ∧ nmV t L s = sg t L s - 48 := by
  rw [nmP_t h, nmE_f h0, nmV_f h0]
  exact ⟨nmO_t h (by rw [nmE_f h0]; exact h2), rfl, rfl⟩
theorem nm_b {t : Nat → Nat} {L s : Nat} (h : dg t L s = true) (h0 : nmW t L s = false) (h2 : dg t L (s + 1) = true) : nmO t L s = false ∧ nmP t L s = s + 1 := by
  rw [nmP_t h, nmE_f h0]
  exact ⟨nmO_f (by rw [nmE_f h0]; exact h2), rfl⟩
theorem nm_c {t : Nat → Nat} {L s : Nat} (h : dg t L s = true) (h0 : nmW t L s = true) (h2 : dg t L (s + 1 + 1) = false) : nmO t L s = true ∧ nmP t L s = s + 1 + 1 ∧ nmV t L s = (sg t L s - 48) * 10 + (sg t L (s + 1) - 48) := by
  rw [nmP_t h, nmE_t h0, nmV_t h0]
  exact ⟨nmO_t h (by rw [nmE_t h0]; exact h2), rfl, rfl⟩
theorem nm_d {t : Nat → Nat} {L s : Nat} (h : dg t L s = true) (h0 : nmW t L s = true) (h2 : dg t L (s + 1 + 1) = true) : nmO t L s = false ∧ nmP t L s = s + 1 + 1 := by
  rw [nmP_t h, nmE_t h0]
  exact ⟨nmO_f (by rw [nmE_t h0]; exact h2), rfl⟩
theorem rc_t {σ : Sg} {f : Nat → Int32} {r c v : Nat} (h : Rel σ f) (hn : nn σ ≤ 24) (hr : r < nn σ) (hc : c < 16) (hv : ¬ v = dd σ r) : Rel (chS σ (r * 16 + c) v) (upd (upd f (25 + r) (nI (cols σ r ||| 2 ^ c))) (73 + 16 * r + c) (nI v)) := Rel_ch h hn hr hc (cols_c1 hc hv)
theorem e1_ltc {bf c : Nat} (hb : bf < 16 ∨ bf = 1000) (hc : c < 100) : nI c ≤ e1 bf ↔ ¬ (bf = 1000 ∨ bf < c) := e1_ltn (by omega) (by omega)
theorem nmR_ne {t : Nat → Nat} {L s : Nat} (h : ¬ nmR t L s = 1000) : nmO t L s = true := by
  cases e : nmO t L s with
  | true => rfl
  | false => exact absurd (nmR_f e) h
theorem nmR_eq {t : Nat → Nat} {L s : Nat} (h : nmR t L s = 1000) : nmO t L s = false := by
  cases e : nmO t L s with
  | false => rfl
  | true =>
    rw [nmR_t e] at h
    have := nmV_lt (nmO_dg e).1
    omega
theorem nmP_gt {t : Nat → Nat} {L s : Nat} (h : dg t L s = true) : s < nmP t L s := by
  rw [nmP_t h]; unfold nmE; split <;> omega
theorem no_t2 {P : Prop} {b : Bool} (h : b = true) : b = false → P := fun z => absurd (h.symm.trans z) (by decide)
theorem iqX6_here_X6 : ∀ w ∈ u_ws RX6 TX6 11, w ∈ wsX6_here := by decide +kernel
set_option maxHeartbeats 1000000 in
set_option maxRecDepth 100000 in
theorem c_X6_here (l : Launch) (G : kG) (mo u0 u1 u2 u3 u4 u5 sm sa le ra fa : Nat) (tx : Nat → Nat) (hle : le ≤ 100) (htx : ∀ k, tx k < 256) (hra : ra ≤ le) : Met l yX6_here wsX6_here ({ frames := 0, cells := 0, slots := 0, locals := 0 } : Room) (cP G [.ref mo] [ob mo 6 [.ref u0, .ref u1, .ref u2, .ref u3, .ref u4, .ref u5, .int (nI sm), .int (nI sa), .int (nI le), .int (nI ra), .int (nI fa)], ar G u5 100 (fun j => nI (tx j))]) (qI (fun rv H => rv = (nI (sg tx le (sk tx le ra))) ∧ va_P G.1 vwCl [ob mo 6 [.ref u0, .ref u1, .ref u2, .ref u3, .ref u4, .ref u5, .int (nI sm), .int (nI sa), .int (nI le), .int (nI (sk tx le ra)), .int (nI fa)], ar G u5 100 (fun j => nI (tx j))] H) (mA [ob mo 6 [.ref u0, .ref u1, .ref u2, .ref u3, .ref u4, .ref u5, .int (nI sm), .int (nI sa), .int (nI le), .int (nI ra), .int (nI fa)], ar G u5 100 (fun j => nI (tx j))])) 0 0 (mA [ob mo 6 [.ref u0, .ref u1, .ref u2, .ref u3, .ref u4, .ref u5, .int (nI sm), .int (nI sa), .int (nI le), .int (nI ra), .int (nI fa)], ar G u5 100 (fun j => nI (tx j))]) := by
  refine met_muI (cc := cX6_here) (maxL := 1) (ty := .int) (own := RX6) (by decide) rfl rfl (fun _ _ _ => rfl) (Nat.le_of_ble_eq_true rfl) ?_
  intro p e s m args below meth cod Q A hx hb hml hown hts hK hP hD hS hret ls hl
  have hl : lv_has ls 1 [(0, .ref mo)] := hl
  have L0 : ∀ (fu : Nat) (q : Nat), le + 1 - q < fu → q ≤ le → sk tx le ra = sk tx le q → ∀ (H : Heap) (locs : List Loc), va_P G.1 vwCl [ob mo 6 [.ref u0, .ref u1, .ref u2, .ref u3, .ref u4, .ref u5, .int (nI sm), .int (nI sa), .int (nI le), .int (nI q), .int (nI fa)], ar G u5 100 (fun j => nI (tx j))] H → va_D A [ob mo 6 [.ref u0, .ref u1, .ref u2, .ref u3, .ref u4, .ref u5, .int (nI sm), .int (nI sa), .int (nI le), .int (nI q), .int (nI fa)], ar G u5 100 (fun j => nI (tx j))] → va_S A s.heap H locs → ∀ (ls : Array Slot), lv_has ls 1 [(0, .ref mo)] → W p l e ({ frames := 0, cells := 0, slots := 0, locals := 0 } : Room) s m args below meth cod H locs 0 0 Q (F0 m 0 ls []) := by
    intro fu
    induction fu with
    | zero => intro q hm; exact absurd hm (Nat.not_lt_zero _)
    | succ fu ih0 =>
      intro q hm0 hq1 hq2 H locs hP hD hS ls hl
      have hP : va_P G.1 vwCl [ob mo 6 [.ref u0, .ref u1, .ref u2, .ref u3, .ref u4, .ref u5, .int (nI sm), .int (nI sa), .int (nI le), .int (nI q), .int (nI fa)], ar G u5 100 (fun j => nI (tx j))] H := hP
      have hD : va_D A [ob mo 6 [.ref u0, .ref u1, .ref u2, .ref u3, .ref u4, .ref u5, .int (nI sm), .int (nI sa), .int (nI le), .int (nI q), .int (nI fa)], ar G u5 100 (fun j => nI (tx j))] := hD
      refine lv_aload_n hx hb dX6_here_0 rfl (lv_at hl 0 rfl) ?_
      refine va_get (D := G.1) (ci := 6) (v := .int (nI q)) (C := RX6) (T := TX6) (N := 11) hx hb hts iqX6_here_X6 hown hK.1 hP 0 rfl rfl 9 (by decide) (hts (.fieldLink RX6 114 "PushedTablesModel" "readAt" "I") (List.mem_of_getElem? (i := 1) rfl)) (fun _ h9 => h9) rfl dX6_here_1 ?_
      refine lv_aload_n hx hb dX6_here_4 rfl (lv_at hl 0 rfl) ?_
      refine va_get (D := G.1) (ci := 6) (v := .int (nI le)) (C := RX6) (T := TX6) (N := 11) hx hb hts iqX6_here_X6 hown hK.1 hP 0 rfl rfl 8 (by decide) (hts (.fieldLink RX6 111 "PushedTablesModel" "letters" "I") (List.mem_of_getElem? (i := 2) rfl)) (fun _ h9 => h9) rfl dX6_here_5 ?_
      refine r_icmp_ge (P := le ≤ q) (tgt := 38) hx hb dX6_here_8 (by decide) (nI_leI (by omega) (by omega)) (fun cq8 => ?_) (fun cq8 => ?_)
      · refine lv_aload_n hx hb dX6_here_38 rfl (lv_at hl 0 rfl) ?_
        refine va_get (D := G.1) (ci := 6) (v := .int (nI q)) (C := RX6) (T := TX6) (N := 11) hx hb hts iqX6_here_X6 hown hK.1 hP 0 rfl rfl 9 (by decide) (hts (.fieldLink RX6 114 "PushedTablesModel" "readAt" "I") (List.mem_of_getElem? (i := 1) rfl)) (fun _ h9 => h9) rfl dX6_here_39 ?_
        refine lv_aload_n hx hb dX6_here_42 rfl (lv_at hl 0 rfl) ?_
        refine va_get (D := G.1) (ci := 6) (v := .int (nI le)) (C := RX6) (T := TX6) (N := 11) hx hb hts iqX6_here_X6 hown hK.1 hP 0 rfl rfl 8 (by decide) (hts (.fieldLink RX6 111 "PushedTablesModel" "letters" "I") (List.mem_of_getElem? (i := 2) rfl)) (fun _ h9 => h9) rfl dX6_here_43 ?_
        refine r_icmp_ge (P := le ≤ q) (tgt := 61) hx hb dX6_here_46 (by decide) (nI_leI (by omega) (by omega)) (fun cq46 => ?_) (fun cq46 => ?_)
        · refine lv_iconst (v := (nI 0)) hx hb dX6_here_61 (by decide) ?_
          exact hret _ _ _ _ _ hS dX6_here_62 (⟨by rw [hq2, sk_f (by omega), sg_end (by omega)], by rw [hq2, sk_f (by omega)]; exact hP⟩)
        · exact absurd cq8 cq46
      · have ht1 := htx q
        refine lv_aload_n hx hb dX6_here_11 rfl (lv_at hl 0 rfl) ?_
        refine va_get (D := G.1) (ci := 6) (v := .ref u5) (C := RX6) (T := TX6) (N := 11) hx hb hts iqX6_here_X6 hown hK.1 hP 0 rfl rfl 5 (by decide) (hts (.fieldLink RX6 25 "PushedTablesModel" "text" "[I") (List.mem_of_getElem? (i := 3) rfl)) (fun _ h9 => h9) rfl dX6_here_12 ?_
        refine lv_aload_n hx hb dX6_here_15 rfl (lv_at hl 0 rfl) ?_
        refine va_get (D := G.1) (ci := 6) (v := .int (nI q)) (C := RX6) (T := TX6) (N := 11) hx hb hts iqX6_here_X6 hown hK.1 hP 0 rfl rfl 9 (by decide) (hts (.fieldLink RX6 114 "PushedTablesModel" "readAt" "I") (List.mem_of_getElem? (i := 1) rfl)) (fun _ h9 => h9) rfl dX6_here_16 ?_
        refine r_iald (e1 := q) (v := (nI (tx q))) hx hb hK.1 hP 1 0 rfl rfl (by omega) (by first | decide | assumption) (rfl) dX6_here_19 ?_
        refine lv_bipush (v := (nI 32)) hx hb dX6_here_20 (by decide) ?_
        refine r_icmp_ne (P := (tx q) = 32) (tgt := 38) hx hb dX6_here_22 (by decide) (nI_eq (by omega) (by omega)) (fun cq22 => ?_) (fun cq22 => ?_)
        · refine lv_aload_n hx hb dX6_here_38 rfl (lv_at hl 0 rfl) ?_
          refine va_get (D := G.1) (ci := 6) (v := .int (nI q)) (C := RX6) (T := TX6) (N := 11) hx hb hts iqX6_here_X6 hown hK.1 hP 0 rfl rfl 9 (by decide) (hts (.fieldLink RX6 114 "PushedTablesModel" "readAt" "I") (List.mem_of_getElem? (i := 1) rfl)) (fun _ h9 => h9) rfl dX6_here_39 ?_
          refine lv_aload_n hx hb dX6_here_42 rfl (lv_at hl 0 rfl) ?_
          refine va_get (D := G.1) (ci := 6) (v := .int (nI le)) (C := RX6) (T := TX6) (N := 11) hx hb hts iqX6_here_X6 hown hK.1 hP 0 rfl rfl 8 (by decide) (hts (.fieldLink RX6 111 "PushedTablesModel" "letters" "I") (List.mem_of_getElem? (i := 2) rfl)) (fun _ h9 => h9) rfl dX6_here_43 ?_
          refine r_icmp_ge (P := le ≤ q) (tgt := 61) hx hb dX6_here_46 (by decide) (nI_leI (by omega) (by omega)) (fun cq46 => ?_) (fun cq46 => ?_)
          · exact absurd cq46 (by omega)
          · have ht2 := htx q
            refine lv_aload_n hx hb dX6_here_49 rfl (lv_at hl 0 rfl) ?_
            refine va_get (D := G.1) (ci := 6) (v := .ref u5) (C := RX6) (T := TX6) (N := 11) hx hb hts iqX6_here_X6 hown hK.1 hP 0 rfl rfl 5 (by decide) (hts (.fieldLink RX6 25 "PushedTablesModel" "text" "[I") (List.mem_of_getElem? (i := 3) rfl)) (fun _ h9 => h9) rfl dX6_here_50 ?_
            refine lv_aload_n hx hb dX6_here_53 rfl (lv_at hl 0 rfl) ?_
            refine va_get (D := G.1) (ci := 6) (v := .int (nI q)) (C := RX6) (T := TX6) (N := 11) hx hb hts iqX6_here_X6 hown hK.1 hP 0 rfl rfl 9 (by decide) (hts (.fieldLink RX6 114 "PushedTablesModel" "readAt" "I") (List.mem_of_getElem? (i := 1) rfl)) (fun _ h9 => h9) rfl dX6_here_54 ?_
            refine r_iald (e1 := q) (v := (nI (tx q))) hx hb hK.1 hP 1 0 rfl rfl (by omega) (by first | decide | assumption) (rfl) dX6_here_57 ?_
            refine lv_goto (tgt := 62) hx hb dX6_here_58 (by decide) ?_
            exact hret _ _ _ _ _ hS dX6_here_62 (⟨by rw [hq2, sk_f (fun z => cq22 z.2), sg_at (by omega)], by rw [hq2, sk_f (fun z => cq22 z.2)]; exact hP⟩)
        · refine lv_aload_n hx hb dX6_here_25 rfl (lv_at hl 0 rfl) ?_
          refine lv_dup hx hb dX6_here_26 rfl ?_
          refine va_get (D := G.1) (ci := 6) (v := .int (nI q)) (C := RX6) (T := TX6) (N := 11) hx hb hts iqX6_here_X6 hown hK.1 hP 0 rfl rfl 9 (by decide) (hts (.fieldLink RX6 114 "PushedTablesModel" "readAt" "I") (List.mem_of_getElem? (i := 1) rfl)) (fun _ h9 => h9) rfl dX6_here_27 ?_
          refine lv_iconst (v := (nI 1)) hx hb dX6_here_30 (by decide) ?_
          refine r_iadd (v := q + 1) hx hb dX6_here_31 rfl ?_
          refine va_put (D := G.1) (ci := 6) (v := .int (nI (q + 1))) (ty := .int) (C := RX6) (T := TX6) (N := 11) hx hb hts iqX6_here_X6 tyX6 tyX6_ok nmX6 hown hK.1 hP hD hS 0 rfl rfl 9 (by decide) (hts (.fieldLink RX6 114 "PushedTablesModel" "readAt" "I") (List.mem_of_getElem? (i := 1) rfl)) (fun _ h9 => h9) rfl (by decide +kernel) rfl rfl (Nat.le_of_ble_eq_true rfl) dX6_here_32 (fun H locs hP hD hS => ?_)
          have hP : va_P G.1 vwCl [ob mo 6 [.ref u0, .ref u1, .ref u2, .ref u3, .ref u4, .ref u5, .int (nI sm), .int (nI sa), .int (nI le), .int (nI (q + 1)), .int (nI fa)], ar G u5 100 (fun j => nI (tx j))] H := hP
          have hD : va_D A [ob mo 6 [.ref u0, .ref u1, .ref u2, .ref u3, .ref u4, .ref u5, .int (nI sm), .int (nI sa), .int (nI le), .int (nI (q + 1)), .int (nI fa)], ar G u5 100 (fun j => nI (tx j))] := hD
          refine lv_goto (tgt := 0) hx hb dX6_here_35 (by decide) ?_
          exact ih0 (q + 1) (by omega) (by omega) (by rw [hq2]; exact sk_t (by omega) cq22) _ _ hP hD hS ls (lv_sub hl [0] rfl)
  exact L0 ((le + 1 - ra) + 1) ra (Nat.lt_succ_self _) (hra) (rfl) _ _ hP hD hS ls (lv_sub hl [0] rfl)

theorem iqX6_isDigit_X6 : ∀ w ∈ u_ws RX6 TX6 11, w ∈ wsX6_isDigit := by decide +kernel
set_option maxHeartbeats 1000000 in
set_option maxRecDepth 100000 in
theorem c_X6_isDigit (l : Launch) (G : kG) (mo u0 u1 u2 u3 u4 u5 sm sa le ra fa : Nat) (tx : Nat → Nat) (hle : le ≤ 100) (htx : ∀ k, tx k < 256) (a : Nat) (ha : a ≤ 1000) : Met l yX6_isDigit wsX6_isDigit ({ frames := 1, cells := 0, slots := 0, locals := 22 } : Room) (cP G [.ref mo, .int (nI a)] [ob mo 6 [.ref u0, .ref u1, .ref u2, .ref u3, .ref u4, .ref u5, .int (nI sm), .int (nI sa), .int (nI le), .int (nI ra), .int (nI fa)], ar G u5 100 (fun j => nI (tx j))]) (vp_Si (fun rv => rv = (bI (dg tx le a)))) 0 0 (fun _ => False) := by
  refine met_ro (cc := cX6_isDigit) (maxL := 2) (ty := .boolean) (own := RX6) (by decide) rfl rfl (fun _ h => by rw [h]; exact bI_nar _) (Nat.le_of_ble_eq_true rfl) ?_
  intro p e s m args below meth cod Q hx hb hml hown hts hK hP hD hret ls hl
  have hl : lv_has ls 2 [(0, .ref mo), (1, .int (nI a))] := hl
  refine lv_iload_n hx hb dX6_isDigit_0 rfl (lv_at hl 1 rfl) ?_
  refine lv_aload_n hx hb dX6_isDigit_1 rfl (lv_at hl 0 rfl) ?_
  refine va_get (D := G.1) (ci := 6) (v := .int (nI le)) (C := RX6) (T := TX6) (N := 11) hx hb hts iqX6_isDigit_X6 hown hK.1 hP 0 rfl rfl 8 (by decide) (hts (.fieldLink RX6 111 "PushedTablesModel" "letters" "I") (List.mem_of_getElem? (i := 1) rfl)) (fun _ h9 => h9) rfl dX6_isDigit_2 ?_
  refine r_icmp_ge (P := le ≤ a) (tgt := 28) hx hb dX6_isDigit_5 (by decide) (nI_leI (by omega) (by omega)) (fun cq5 => ?_) (fun cq5 => ?_)
  · refine lv_iconst (v := (nI 0)) hx hb dX6_isDigit_28 (by decide) ?_
    exact hret _ _ _ dX6_isDigit_29 (bIf (dg_f.mpr (by rw [sg_end (by omega)]; omega)))
  · have ht1 := htx a
    have hs1 := sg_at (t := tx) (L := le) (p := a) (by omega)
    refine lv_aload_n hx hb dX6_isDigit_8 rfl (lv_at hl 0 rfl) ?_
    refine va_get (D := G.1) (ci := 6) (v := .ref u5) (C := RX6) (T := TX6) (N := 11) hx hb hts iqX6_isDigit_X6 hown hK.1 hP 0 rfl rfl 5 (by decide) (hts (.fieldLink RX6 25 "PushedTablesModel" "text" "[I") (List.mem_of_getElem? (i := 2) rfl)) (fun _ h9 => h9) rfl dX6_isDigit_9 ?_
    refine lv_iload_n hx hb dX6_isDigit_12 rfl (lv_at hl 1 rfl) ?_
    refine r_iald (e1 := a) (v := (nI (tx a))) hx hb hK.1 hP 1 0 rfl rfl (by omega) (by first | decide | assumption) (rfl) dX6_isDigit_13 ?_
    refine lv_bipush (v := (nI 48)) hx hb dX6_isDigit_14 (by decide) ?_
    refine lv_bipush (v := (nI 57)) hx hb dX6_isDigit_16 (by decide) ?_
    refine g_ro (k_S (n := 3) (As := [.int (nI (tx a)), .int (nI 48), .int (nI 57)]) (rest := []) (wc := []) hx hb hml hown hts (c_X6_in (l := l) (G := G) (xa := nI (tx a)) (xb := nI 48) (xc := nI 57))  gX6_isDigit_X6_in rfl rfl rfl (by decide +kernel) ⟨Nat.le_of_ble_eq_true rfl, Nat.le_of_ble_eq_true rfl⟩ rfl hK hP hD [] rfl (by decide)  hl.1 rfl (Nat.le_of_ble_eq_true rfl) dX6_isDigit_18 ⟨Nat.le_of_ble_eq_true rfl, Nat.le_of_ble_eq_true rfl⟩) (fun r18 h18 => ?_)
    obtain rfl : (bI (ing (nI (tx a)) (nI 48) (nI 57))) = r18 := Eq.symm h18
    refine r_if_eq (P := (ing (nI (tx a)) (nI 48) (nI 57)) = false) (tgt := 28) hx hb dX6_isDigit_21 (by decide) (bI_eq0) (fun cq21 => ?_) (fun cq21 => ?_)
    · refine lv_iconst (v := (nI 0)) hx hb dX6_isDigit_28 (by decide) ?_
      exact hret _ _ _ dX6_isDigit_29 (bIf (dg_f.mpr (by rw [hs1]; intro z; rw [ing_ok z.1 z.2 (by decide)] at cq21; cases cq21)))
    · refine lv_iconst (v := (nI 1)) hx hb dX6_isDigit_24 (by decide) ?_
      refine lv_goto (tgt := 29) hx hb dX6_isDigit_25 (by decide) ?_
      exact hret _ _ _ dX6_isDigit_29 (bIt (dg_t.mpr (by rw [hs1]; have z := inr_t.mp ((ing_n (by decide) (by decide)).symm.trans (Bool.of_not_eq_false cq21)); rw [nI_toInt (by omega)] at z; omega)))

theorem iqX6_fails_X6 : ∀ w ∈ u_ws RX6 TX6 11, w ∈ wsX6_fails := by decide +kernel
set_option maxHeartbeats 1000000 in
set_option maxRecDepth 100000 in
theorem c_X6_fails (l : Launch) (G : kG) (mo u0 u1 u2 u3 u4 u5 sm sa le ra fa : Nat) (a : Nat) : Met l yX6_fails wsX6_fails ({ frames := 0, cells := 0, slots := 0, locals := 0 } : Room) (cP G [.ref mo, .int (nI a)] [ob mo 6 [.ref u0, .ref u1, .ref u2, .ref u3, .ref u4, .ref u5, .int (nI sm), .int (nI sa), .int (nI le), .int (nI ra), .int (nI fa)]]) (qI (fun rv H => rv = (e9 1000) ∧ va_P G.1 vwCl [ob mo 6 [.ref u0, .ref u1, .ref u2, .ref u3, .ref u4, .ref u5, .int (nI sm), .int (nI sa), .int (nI le), .int (nI ra), .int (nI a)]] H) (mA [ob mo 6 [.ref u0, .ref u1, .ref u2, .ref u3, .ref u4, .ref u5, .int (nI sm), .int (nI sa), .int (nI le), .int (nI ra), .int (nI fa)]])) 0 0 (mA [ob mo 6 [.ref u0, .ref u1, .ref u2, .ref u3, .ref u4, .ref u5, .int (nI sm), .int (nI sa), .int (nI le), .int (nI ra), .int (nI fa)]]) := by
  refine met_muI (cc := cX6_fails) (maxL := 2) (ty := .int) (own := RX6) (by decide) rfl rfl (fun _ _ _ => rfl) (Nat.le_of_ble_eq_true rfl) ?_
  intro p e s m args below meth cod Q A hx hb hml hown hts hK hP hD hS hret ls hl
  have hl : lv_has ls 2 [(0, .ref mo), (1, .int (nI a))] := hl
  refine lv_aload_n hx hb dX6_fails_0 rfl (lv_at hl 0 rfl) ?_
  refine lv_iload_n hx hb dX6_fails_1 rfl (lv_at hl 1 rfl) ?_
  refine va_put (D := G.1) (ci := 6) (v := .int (nI a)) (ty := .int) (C := RX6) (T := TX6) (N := 11) hx hb hts iqX6_fails_X6 tyX6 tyX6_ok nmX6 hown hK.1 hP hD hS 0 rfl rfl 10 (by decide) (hts (.fieldLink RX6 117 "PushedTablesModel" "failure" "I") (List.mem_of_getElem? (i := 1) rfl)) (fun _ h9 => h9) rfl (by decide +kernel) rfl rfl (Nat.le_of_ble_eq_true rfl) dX6_fails_2 (fun H locs hP hD hS => ?_)
  have hP : va_P G.1 vwCl [ob mo 6 [.ref u0, .ref u1, .ref u2, .ref u3, .ref u4, .ref u5, .int (nI sm), .int (nI sa), .int (nI le), .int (nI ra), .int (nI a)]] H := hP
  have hD : va_D A [ob mo 6 [.ref u0, .ref u1, .ref u2, .ref u3, .ref u4, .ref u5, .int (nI sm), .int (nI sa), .int (nI le), .int (nI ra), .int (nI a)]] := hD
  refine lv_bipush (v := (e9 1000)) hx hb dX6_fails_5 (by decide) ?_
  exact hret _ _ _ _ _ hS dX6_fails_7 (⟨rfl, hP⟩)

theorem iqX6_number_X6 : ∀ w ∈ u_ws RX6 TX6 11, w ∈ wsX6_number := by decide +kernel
set_option maxHeartbeats 1000000 in
set_option maxRecDepth 100000 in
theorem c_X6_number (l : Launch) (G : kG) (mo u0 u1 u2 u3 u4 u5 sm sa le ra fa : Nat) (tx : Nat → Nat) (hle : le ≤ 100) (htx : ∀ k, tx k < 256) (hra : ra ≤ le) (s9 : Nat) (hs9 : sk tx le ra = s9) : Met l yX6_number wsX6_number ({ frames := 2, cells := 0, slots := 0, locals := 43 } : Room) (cP G [.ref mo] [ob mo 6 [.ref u0, .ref u1, .ref u2, .ref u3, .ref u4, .ref u5, .int (nI sm), .int (nI sa), .int (nI le), .int (nI ra), .int (nI fa)], ar G u5 100 (fun j => nI (tx j))]) (qI (fun rv H => ∃ (ra1 : Nat) (fa1 : Nat), rv = (e9 (nmR tx le s9)) ∧ ra1 = nmP tx le s9 ∧ (nmO tx le s9 = false → fa1 = nmP tx le s9) ∧ ra1 ≤ le ∧ va_P G.1 vwCl [ob mo 6 [.ref u0, .ref u1, .ref u2, .ref u3, .ref u4, .ref u5, .int (nI sm), .int (nI sa), .int (nI le), .int (nI ra1), .int (nI fa1)], ar G u5 100 (fun j => nI (tx j))] H) (mA [ob mo 6 [.ref u0, .ref u1, .ref u2, .ref u3, .ref u4, .ref u5, .int (nI sm), .int (nI sa), .int (nI le), .int (nI ra), .int (nI fa)], ar G u5 100 (fun j => nI (tx j))])) 0 0 (mA [ob mo 6 [.ref u0, .ref u1, .ref u2, .ref u3, .ref u4, .ref u5, .int (nI sm), .int (nI sa), .int (nI le), .int (nI ra), .int (nI fa)], ar G u5 100 (fun j => nI (tx j))]) := by
  refine met_muI (cc := cX6_number) (maxL := 2) (ty := .int) (own := RX6) (by decide) rfl rfl (fun _ _ _ => rfl) (Nat.le_of_ble_eq_true rfl) ?_
  intro p e s m args below meth cod Q A hx hb hml hown hts hK hP hD hS hret ls hl
  have hl : lv_has ls 2 [(0, .ref mo)] := hl
  subst hs9
  have skl := sk_le (t := tx) hra
  refine lv_aload_n hx hb dX6_number_0 rfl (lv_at hl 0 rfl) ?_
  refine g_I (k_V (q0 := 0) (ci := 6) (n := 0) (As := []) (rest := []) (wc := [ob mo 6 [.ref u0, .ref u1, .ref u2, .ref u3, .ref u4, .ref u5, .int (nI sm), .int (nI sa), .int (nI le), .int (nI ra), .int (nI fa)], ar G u5 100 (fun j => nI (tx j))]) hx hb hml hown hts (c_X6_here (l := l) (G := G) (mo := mo) (u0 := u0) (u1 := u1) (u2 := u2) (u3 := u3) (u4 := u4) (u5 := u5) (sm := sm) (sa := sa) (le := le) (ra := ra) (fa := fa) (tx := tx) (hle := by first | assumption | omega) (htx := by first | assumption | omega) (hra := by first | assumption | omega))  gX6_number_X6_here rfl rfl rfl (by decide +kernel) ⟨Nat.le_of_ble_eq_true rfl, Nat.le_of_ble_eq_true rfl⟩ rfl hK hP hD [0, 1] rfl (by decide)  rfl rfl rfl hl.1 rfl (Nat.le_of_ble_eq_true rfl) dX6_number_1 ⟨Nat.le_of_ble_eq_true rfl, Nat.le_of_ble_eq_true rfl⟩) hP hD hS [0, 1] rfl (fun r1 H locs hB1 back hS => ?_)
  obtain ⟨he1, hP1⟩ := hB1
  obtain rfl := Eq.symm he1
  obtain ⟨hP, hD⟩ := back [ob mo 6 [.ref u0, .ref u1, .ref u2, .ref u3, .ref u4, .ref u5, .int (nI sm), .int (nI sa), .int (nI le), .int (nI (sk tx le ra)), .int (nI fa)], ar G u5 100 (fun j => nI (tx j))] rfl hP1
  have hP : va_P G.1 vwCl [ob mo 6 [.ref u0, .ref u1, .ref u2, .ref u3, .ref u4, .ref u5, .int (nI sm), .int (nI sa), .int (nI le), .int (nI (sk tx le ra)), .int (nI fa)], ar G u5 100 (fun j => nI (tx j))] H := hP
  have hD : va_D A [ob mo 6 [.ref u0, .ref u1, .ref u2, .ref u3, .ref u4, .ref u5, .int (nI sm), .int (nI sa), .int (nI le), .int (nI (sk tx le ra)), .int (nI fa)], ar G u5 100 (fun j => nI (tx j))] := hD
  refine lv_pop hx hb dX6_number_4 rfl ?_
  refine lv_aload_n hx hb dX6_number_5 rfl (lv_at hl 0 rfl) ?_
  refine lv_aload_n hx hb dX6_number_6 rfl (lv_at hl 0 rfl) ?_
  refine va_get (D := G.1) (ci := 6) (v := .int (nI (sk tx le ra))) (C := RX6) (T := TX6) (N := 11) hx hb hts iqX6_number_X6 hown hK.1 hP 0 rfl rfl 9 (by decide) (hts (.fieldLink RX6 114 "PushedTablesModel" "readAt" "I") (List.mem_of_getElem? (i := 1) rfl)) (fun _ h9 => h9) rfl dX6_number_7 ?_
  refine g_ro (k_V (q0 := 0) (ci := 6) (n := 1) (As := [.int (nI (sk tx le ra))]) (rest := []) (wc := [ob mo 6 [.ref u0, .ref u1, .ref u2, .ref u3, .ref u4, .ref u5, .int (nI sm), .int (nI sa), .int (nI le), .int (nI (sk tx le ra)), .int (nI fa)], ar G u5 100 (fun j => nI (tx j))]) hx hb hml hown hts (c_X6_isDigit (l := l) (G := G) (mo := mo) (u0 := u0) (u1 := u1) (u2 := u2) (u3 := u3) (u4 := u4) (u5 := u5) (sm := sm) (sa := sa) (le := le) (ra := (sk tx le ra)) (fa := fa) (tx := tx) (hle := by first | assumption | omega) (htx := by first | assumption | omega) (a := (sk tx le ra)) (ha := by first | assumption | omega))  gX6_number_X6_isDigit rfl rfl rfl (by decide +kernel) ⟨Nat.le_of_ble_eq_true rfl, Nat.le_of_ble_eq_true rfl⟩ rfl hK hP hD [0, 1] rfl (by decide)  rfl rfl rfl hl.1 rfl (Nat.le_of_ble_eq_true rfl) dX6_number_10 ⟨Nat.le_of_ble_eq_true rfl, Nat.le_of_ble_eq_true rfl⟩) (fun r10 h10 => ?_)
  obtain rfl : (bI (dg tx le (sk tx le ra))) = r10 := Eq.symm h10
  refine r_if_ne (P := (dg tx le (sk tx le ra)) = false) (tgt := 25) hx hb dX6_number_13 (by decide) (bI_eq0) (fun cq13 => ?_) (fun cq13 => ?_)
  · have d13 := Bool.of_not_eq_false cq13
    have l13 := dg_lt d13
    have s13 := sg_at (t := tx) (L := le) (p := sk tx le ra) l13
    have g13 := dg_t.mp d13
    rw [s13] at g13
    refine lv_aload_n hx hb dX6_number_25 rfl (lv_at hl 0 rfl) ?_
    refine va_get (D := G.1) (ci := 6) (v := .ref u5) (C := RX6) (T := TX6) (N := 11) hx hb hts iqX6_number_X6 hown hK.1 hP 0 rfl rfl 5 (by decide) (hts (.fieldLink RX6 25 "PushedTablesModel" "text" "[I") (List.mem_of_getElem? (i := 2) rfl)) (fun _ h9 => h9) rfl dX6_number_26 ?_
    refine lv_aload_n hx hb dX6_number_29 rfl (lv_at hl 0 rfl) ?_
    refine va_get (D := G.1) (ci := 6) (v := .int (nI (sk tx le ra))) (C := RX6) (T := TX6) (N := 11) hx hb hts iqX6_number_X6 hown hK.1 hP 0 rfl rfl 9 (by decide) (hts (.fieldLink RX6 114 "PushedTablesModel" "readAt" "I") (List.mem_of_getElem? (i := 1) rfl)) (fun _ h9 => h9) rfl dX6_number_30 ?_
    refine r_iald (e1 := (sk tx le ra)) (v := (nI (tx (sk tx le ra)))) hx hb hK.1 hP 1 0 rfl rfl (by omega) (by first | decide | assumption) (rfl) dX6_number_33 ?_
    refine lv_bipush (v := (nI 48)) hx hb dX6_number_34 (by decide) ?_
    refine r_isub (v := (tx (sk tx le ra)) - 48) hx hb dX6_number_36 (by omega) rfl ?_
    refine lv_istore_n (lv' := [(1, .int (nI ((tx (sk tx le ra)) - 48))), (0, .ref mo)]) hx hb dX6_number_37 rfl hl (by decide) rfl (fun ls hl => ?_)
    refine lv_aload_n hx hb dX6_number_38 rfl (lv_at hl 1 rfl) ?_
    refine lv_dup hx hb dX6_number_39 rfl ?_
    refine va_get (D := G.1) (ci := 6) (v := .int (nI (sk tx le ra))) (C := RX6) (T := TX6) (N := 11) hx hb hts iqX6_number_X6 hown hK.1 hP 0 rfl rfl 9 (by decide) (hts (.fieldLink RX6 114 "PushedTablesModel" "readAt" "I") (List.mem_of_getElem? (i := 1) rfl)) (fun _ h9 => h9) rfl dX6_number_40 ?_
    refine lv_iconst (v := (nI 1)) hx hb dX6_number_43 (by decide) ?_
    refine r_iadd (v := (sk tx le ra) + 1) hx hb dX6_number_44 rfl ?_
    refine va_put (D := G.1) (ci := 6) (v := .int (nI ((sk tx le ra) + 1))) (ty := .int) (C := RX6) (T := TX6) (N := 11) hx hb hts iqX6_number_X6 tyX6 tyX6_ok nmX6 hown hK.1 hP hD hS 0 rfl rfl 9 (by decide) (hts (.fieldLink RX6 114 "PushedTablesModel" "readAt" "I") (List.mem_of_getElem? (i := 1) rfl)) (fun _ h9 => h9) rfl (by decide +kernel) rfl rfl (Nat.le_of_ble_eq_true rfl) dX6_number_45 (fun H locs hP hD hS => ?_)
    have hP : va_P G.1 vwCl [ob mo 6 [.ref u0, .ref u1, .ref u2, .ref u3, .ref u4, .ref u5, .int (nI sm), .int (nI sa), .int (nI le), .int (nI ((sk tx le ra) + 1)), .int (nI fa)], ar G u5 100 (fun j => nI (tx j))] H := hP
    have hD : va_D A [ob mo 6 [.ref u0, .ref u1, .ref u2, .ref u3, .ref u4, .ref u5, .int (nI sm), .int (nI sa), .int (nI le), .int (nI ((sk tx le ra) + 1)), .int (nI fa)], ar G u5 100 (fun j => nI (tx j))] := hD
    refine lv_iload_n hx hb dX6_number_48 rfl (lv_at hl 0 rfl) ?_
    refine r_if_le (P := ((tx (sk tx le ra)) - 48) = 0) (tgt := 91) hx hb dX6_number_49 (by decide) (nI_le0 (by omega)) (fun cq49 => ?_) (fun cq49 => ?_)
    · have W := nmW_0 (t := tx) (L := le) (s := sk tx le ra) (by rw [s13]; exact cq49)
      refine lv_aload_n hx hb dX6_number_91 rfl (lv_at hl 1 rfl) ?_
      refine lv_aload_n hx hb dX6_number_92 rfl (lv_at hl 1 rfl) ?_
      refine va_get (D := G.1) (ci := 6) (v := .int (nI ((sk tx le ra) + 1))) (C := RX6) (T := TX6) (N := 11) hx hb hts iqX6_number_X6 hown hK.1 hP 0 rfl rfl 9 (by decide) (hts (.fieldLink RX6 114 "PushedTablesModel" "readAt" "I") (List.mem_of_getElem? (i := 1) rfl)) (fun _ h9 => h9) rfl dX6_number_93 ?_
      refine g_ro (k_V (q0 := 0) (ci := 6) (n := 1) (As := [.int (nI ((sk tx le ra) + 1))]) (rest := []) (wc := [ob mo 6 [.ref u0, .ref u1, .ref u2, .ref u3, .ref u4, .ref u5, .int (nI sm), .int (nI sa), .int (nI le), .int (nI ((sk tx le ra) + 1)), .int (nI fa)], ar G u5 100 (fun j => nI (tx j))]) hx hb hml hown hts (c_X6_isDigit (l := l) (G := G) (mo := mo) (u0 := u0) (u1 := u1) (u2 := u2) (u3 := u3) (u4 := u4) (u5 := u5) (sm := sm) (sa := sa) (le := le) (ra := (sk tx le ra) + 1) (fa := fa) (tx := tx) (hle := by first | assumption | omega) (htx := by first | assumption | omega) (a := (sk tx le ra) + 1) (ha := by first | assumption | omega))  gX6_number_X6_isDigit rfl rfl rfl (by decide +kernel) ⟨Nat.le_of_ble_eq_true rfl, Nat.le_of_ble_eq_true rfl⟩ rfl hK hP hD [0, 1] rfl (by decide)  rfl rfl rfl hl.1 rfl (Nat.le_of_ble_eq_true rfl) dX6_number_96 ⟨Nat.le_of_ble_eq_true rfl, Nat.le_of_ble_eq_true rfl⟩) (fun r96 h96 => ?_)
      obtain rfl : (bI (dg tx le ((sk tx le ra) + 1))) = r96 := Eq.symm h96
      refine r_if_eq (P := (dg tx le ((sk tx le ra) + 1)) = false) (tgt := 113) hx hb dX6_number_99 (by decide) (bI_eq0) (fun cq99 => ?_) (fun cq99 => ?_)
      · refine lv_iload_n hx hb dX6_number_113 rfl (lv_at hl 0 rfl) ?_
        obtain ⟨x1, x2, x3⟩ := nm_a d13 W cq99
        exact hret _ _ _ _ _ hS dX6_number_114 (⟨(sk tx le ra) + 1, fa, e9_v (by rw [nmR_t x1, x3, s13]) (by have := nmR_le tx le (sk tx le ra); rw [nmR_t x1]; exact Nat.lt_trans (nmV_lt d13) (by decide)), x2.symm, no_t2 x1, by omega, hP⟩)
      · refine lv_aload_n hx hb dX6_number_102 rfl (lv_at hl 1 rfl) ?_
        refine lv_aload_n hx hb dX6_number_103 rfl (lv_at hl 1 rfl) ?_
        refine va_get (D := G.1) (ci := 6) (v := .int (nI ((sk tx le ra) + 1))) (C := RX6) (T := TX6) (N := 11) hx hb hts iqX6_number_X6 hown hK.1 hP 0 rfl rfl 9 (by decide) (hts (.fieldLink RX6 114 "PushedTablesModel" "readAt" "I") (List.mem_of_getElem? (i := 1) rfl)) (fun _ h9 => h9) rfl dX6_number_104 ?_
        refine g_I (k_V (q0 := 0) (ci := 6) (n := 1) (As := [.int (nI ((sk tx le ra) + 1))]) (rest := []) (wc := [ob mo 6 [.ref u0, .ref u1, .ref u2, .ref u3, .ref u4, .ref u5, .int (nI sm), .int (nI sa), .int (nI le), .int (nI ((sk tx le ra) + 1)), .int (nI fa)]]) hx hb hml hown hts (c_X6_fails (l := l) (G := G) (mo := mo) (u0 := u0) (u1 := u1) (u2 := u2) (u3 := u3) (u4 := u4) (u5 := u5) (sm := sm) (sa := sa) (le := le) (ra := (sk tx le ra) + 1) (fa := fa) (a := (sk tx le ra) + 1))  gX6_number_X6_fails rfl rfl rfl (by decide +kernel) ⟨Nat.le_of_ble_eq_true rfl, Nat.le_of_ble_eq_true rfl⟩ rfl hK hP hD [0] rfl (by decide)  rfl rfl rfl hl.1 rfl (Nat.le_of_ble_eq_true rfl) dX6_number_107 ⟨Nat.le_of_ble_eq_true rfl, Nat.le_of_ble_eq_true rfl⟩) hP hD hS [0] rfl (fun r107 H locs hB107 back hS => ?_)
        obtain ⟨he107, hP1⟩ := hB107
        obtain rfl := Eq.symm he107
        obtain ⟨hP, hD⟩ := back [ob mo 6 [.ref u0, .ref u1, .ref u2, .ref u3, .ref u4, .ref u5, .int (nI sm), .int (nI sa), .int (nI le), .int (nI ((sk tx le ra) + 1)), .int (nI ((sk tx le ra) + 1))]] rfl hP1
        have hP : va_P G.1 vwCl [ob mo 6 [.ref u0, .ref u1, .ref u2, .ref u3, .ref u4, .ref u5, .int (nI sm), .int (nI sa), .int (nI le), .int (nI ((sk tx le ra) + 1)), .int (nI ((sk tx le ra) + 1))], ar G u5 100 (fun j => nI (tx j))] H := hP
        have hD : va_D A [ob mo 6 [.ref u0, .ref u1, .ref u2, .ref u3, .ref u4, .ref u5, .int (nI sm), .int (nI sa), .int (nI le), .int (nI ((sk tx le ra) + 1)), .int (nI ((sk tx le ra) + 1))], ar G u5 100 (fun j => nI (tx j))] := hD
        refine lv_goto (tgt := 114) hx hb dX6_number_110 (by decide) ?_
        obtain ⟨x1, x2⟩ := nm_b d13 W (Bool.of_not_eq_false cq99)
        exact hret _ _ _ _ _ hS dX6_number_114 (⟨((sk tx le ra) + 1), ((sk tx le ra) + 1), by rw [nmR_f x1], x2.symm, fun _ => x2.symm, by omega, hP⟩)
    · refine lv_aload_n hx hb dX6_number_52 rfl (lv_at hl 1 rfl) ?_
      refine lv_aload_n hx hb dX6_number_53 rfl (lv_at hl 1 rfl) ?_
      refine va_get (D := G.1) (ci := 6) (v := .int (nI ((sk tx le ra) + 1))) (C := RX6) (T := TX6) (N := 11) hx hb hts iqX6_number_X6 hown hK.1 hP 0 rfl rfl 9 (by decide) (hts (.fieldLink RX6 114 "PushedTablesModel" "readAt" "I") (List.mem_of_getElem? (i := 1) rfl)) (fun _ h9 => h9) rfl dX6_number_54 ?_
      refine g_ro (k_V (q0 := 0) (ci := 6) (n := 1) (As := [.int (nI ((sk tx le ra) + 1))]) (rest := []) (wc := [ob mo 6 [.ref u0, .ref u1, .ref u2, .ref u3, .ref u4, .ref u5, .int (nI sm), .int (nI sa), .int (nI le), .int (nI ((sk tx le ra) + 1)), .int (nI fa)], ar G u5 100 (fun j => nI (tx j))]) hx hb hml hown hts (c_X6_isDigit (l := l) (G := G) (mo := mo) (u0 := u0) (u1 := u1) (u2 := u2) (u3 := u3) (u4 := u4) (u5 := u5) (sm := sm) (sa := sa) (le := le) (ra := (sk tx le ra) + 1) (fa := fa) (tx := tx) (hle := by first | assumption | omega) (htx := by first | assumption | omega) (a := (sk tx le ra) + 1) (ha := by first | assumption | omega))  gX6_number_X6_isDigit rfl rfl rfl (by decide +kernel) ⟨Nat.le_of_ble_eq_true rfl, Nat.le_of_ble_eq_true rfl⟩ rfl hK hP hD [0, 1] rfl (by decide)  rfl rfl rfl hl.1 rfl (Nat.le_of_ble_eq_true rfl) dX6_number_57 ⟨Nat.le_of_ble_eq_true rfl, Nat.le_of_ble_eq_true rfl⟩) (fun r57 h57 => ?_)
      obtain rfl : (bI (dg tx le ((sk tx le ra) + 1))) = r57 := Eq.symm h57
      refine r_if_eq (P := (dg tx le ((sk tx le ra) + 1)) = false) (tgt := 91) hx hb dX6_number_60 (by decide) (bI_eq0) (fun cq60 => ?_) (fun cq60 => ?_)
      · have W := nmW_f (t := tx) (L := le) (s := sk tx le ra) cq60
        refine lv_aload_n hx hb dX6_number_91 rfl (lv_at hl 1 rfl) ?_
        refine lv_aload_n hx hb dX6_number_92 rfl (lv_at hl 1 rfl) ?_
        refine va_get (D := G.1) (ci := 6) (v := .int (nI ((sk tx le ra) + 1))) (C := RX6) (T := TX6) (N := 11) hx hb hts iqX6_number_X6 hown hK.1 hP 0 rfl rfl 9 (by decide) (hts (.fieldLink RX6 114 "PushedTablesModel" "readAt" "I") (List.mem_of_getElem? (i := 1) rfl)) (fun _ h9 => h9) rfl dX6_number_93 ?_
        refine g_ro (k_V (q0 := 0) (ci := 6) (n := 1) (As := [.int (nI ((sk tx le ra) + 1))]) (rest := []) (wc := [ob mo 6 [.ref u0, .ref u1, .ref u2, .ref u3, .ref u4, .ref u5, .int (nI sm), .int (nI sa), .int (nI le), .int (nI ((sk tx le ra) + 1)), .int (nI fa)], ar G u5 100 (fun j => nI (tx j))]) hx hb hml hown hts (c_X6_isDigit (l := l) (G := G) (mo := mo) (u0 := u0) (u1 := u1) (u2 := u2) (u3 := u3) (u4 := u4) (u5 := u5) (sm := sm) (sa := sa) (le := le) (ra := (sk tx le ra) + 1) (fa := fa) (tx := tx) (hle := by first | assumption | omega) (htx := by first | assumption | omega) (a := (sk tx le ra) + 1) (ha := by first | assumption | omega))  gX6_number_X6_isDigit rfl rfl rfl (by decide +kernel) ⟨Nat.le_of_ble_eq_true rfl, Nat.le_of_ble_eq_true rfl⟩ rfl hK hP hD [0, 1] rfl (by decide)  rfl rfl rfl hl.1 rfl (Nat.le_of_ble_eq_true rfl) dX6_number_96 ⟨Nat.le_of_ble_eq_true rfl, Nat.le_of_ble_eq_true rfl⟩) (fun r96 h96 => ?_)
        obtain rfl : (bI (dg tx le ((sk tx le ra) + 1))) = r96 := Eq.symm h96
        refine r_if_eq (P := (dg tx le ((sk tx le ra) + 1)) = false) (tgt := 113) hx hb dX6_number_99 (by decide) (bI_eq0) (fun cq99 => ?_) (fun cq99 => ?_)
        · refine lv_iload_n hx hb dX6_number_113 rfl (lv_at hl 0 rfl) ?_
          obtain ⟨x1, x2, x3⟩ := nm_a d13 W cq99
          exact hret _ _ _ _ _ hS dX6_number_114 (⟨(sk tx le ra) + 1, fa, e9_v (by rw [nmR_t x1, x3, s13]) (by have := nmR_le tx le (sk tx le ra); rw [nmR_t x1]; exact Nat.lt_trans (nmV_lt d13) (by decide)), x2.symm, no_t2 x1, by omega, hP⟩)
        · refine lv_aload_n hx hb dX6_number_102 rfl (lv_at hl 1 rfl) ?_
          refine lv_aload_n hx hb dX6_number_103 rfl (lv_at hl 1 rfl) ?_
          refine va_get (D := G.1) (ci := 6) (v := .int (nI ((sk tx le ra) + 1))) (C := RX6) (T := TX6) (N := 11) hx hb hts iqX6_number_X6 hown hK.1 hP 0 rfl rfl 9 (by decide) (hts (.fieldLink RX6 114 "PushedTablesModel" "readAt" "I") (List.mem_of_getElem? (i := 1) rfl)) (fun _ h9 => h9) rfl dX6_number_104 ?_
          refine g_I (k_V (q0 := 0) (ci := 6) (n := 1) (As := [.int (nI ((sk tx le ra) + 1))]) (rest := []) (wc := [ob mo 6 [.ref u0, .ref u1, .ref u2, .ref u3, .ref u4, .ref u5, .int (nI sm), .int (nI sa), .int (nI le), .int (nI ((sk tx le ra) + 1)), .int (nI fa)]]) hx hb hml hown hts (c_X6_fails (l := l) (G := G) (mo := mo) (u0 := u0) (u1 := u1) (u2 := u2) (u3 := u3) (u4 := u4) (u5 := u5) (sm := sm) (sa := sa) (le := le) (ra := (sk tx le ra) + 1) (fa := fa) (a := (sk tx le ra) + 1))  gX6_number_X6_fails rfl rfl rfl (by decide +kernel) ⟨Nat.le_of_ble_eq_true rfl, Nat.le_of_ble_eq_true rfl⟩ rfl hK hP hD [0] rfl (by decide)  rfl rfl rfl hl.1 rfl (Nat.le_of_ble_eq_true rfl) dX6_number_107 ⟨Nat.le_of_ble_eq_true rfl, Nat.le_of_ble_eq_true rfl⟩) hP hD hS [0] rfl (fun r107 H locs hB107 back hS => ?_)
          obtain ⟨he107, hP1⟩ := hB107
          obtain rfl := Eq.symm he107
          obtain ⟨hP, hD⟩ := back [ob mo 6 [.ref u0, .ref u1, .ref u2, .ref u3, .ref u4, .ref u5, .int (nI sm), .int (nI sa), .int (nI le), .int (nI ((sk tx le ra) + 1)), .int (nI ((sk tx le ra) + 1))]] rfl hP1
          have hP : va_P G.1 vwCl [ob mo 6 [.ref u0, .ref u1, .ref u2, .ref u3, .ref u4, .ref u5, .int (nI sm), .int (nI sa), .int (nI le), .int (nI ((sk tx le ra) + 1)), .int (nI ((sk tx le ra) + 1))], ar G u5 100 (fun j => nI (tx j))] H := hP
          have hD : va_D A [ob mo 6 [.ref u0, .ref u1, .ref u2, .ref u3, .ref u4, .ref u5, .int (nI sm), .int (nI sa), .int (nI le), .int (nI ((sk tx le ra) + 1)), .int (nI ((sk tx le ra) + 1))], ar G u5 100 (fun j => nI (tx j))] := hD
          refine lv_goto (tgt := 114) hx hb dX6_number_110 (by decide) ?_
          obtain ⟨x1, x2⟩ := nm_b d13 W (Bool.of_not_eq_false cq99)
          exact hret _ _ _ _ _ hS dX6_number_114 (⟨((sk tx le ra) + 1), ((sk tx le ra) + 1), by rw [nmR_f x1], x2.symm, fun _ => x2.symm, by omega, hP⟩)
      · have W := nmW_t (t := tx) (L := le) (s := sk tx le ra) (by rw [s13]; omega) (Bool.of_not_eq_false cq60)
        have d60 := Bool.of_not_eq_false cq60
        have l60 := dg_lt d60
        have s60 := sg_at (t := tx) (L := le) (p := sk tx le ra + 1) l60
        have g60 := dg_t.mp d60
        rw [s60] at g60
        refine lv_bipush (v := (nI 10)) hx hb dX6_number_63 (by decide) ?_
        refine lv_iload_n hx hb dX6_number_65 rfl (lv_at hl 0 rfl) ?_
        refine r_imul (v := 10 * ((tx (sk tx le ra)) - 48)) hx hb dX6_number_66 rfl ?_
        refine lv_aload_n hx hb dX6_number_67 rfl (lv_at hl 1 rfl) ?_
        refine va_get (D := G.1) (ci := 6) (v := .ref u5) (C := RX6) (T := TX6) (N := 11) hx hb hts iqX6_number_X6 hown hK.1 hP 0 rfl rfl 5 (by decide) (hts (.fieldLink RX6 25 "PushedTablesModel" "text" "[I") (List.mem_of_getElem? (i := 2) rfl)) (fun _ h9 => h9) rfl dX6_number_68 ?_
        refine lv_aload_n hx hb dX6_number_71 rfl (lv_at hl 1 rfl) ?_
        refine va_get (D := G.1) (ci := 6) (v := .int (nI ((sk tx le ra) + 1))) (C := RX6) (T := TX6) (N := 11) hx hb hts iqX6_number_X6 hown hK.1 hP 0 rfl rfl 9 (by decide) (hts (.fieldLink RX6 114 "PushedTablesModel" "readAt" "I") (List.mem_of_getElem? (i := 1) rfl)) (fun _ h9 => h9) rfl dX6_number_72 ?_
        refine r_iald (e1 := (sk tx le ra) + 1) (v := (nI (tx ((sk tx le ra) + 1)))) hx hb hK.1 hP 1 0 rfl rfl (by omega) (by first | decide | assumption) (rfl) dX6_number_75 ?_
        refine r_iadd (v := (10 * ((tx (sk tx le ra)) - 48)) + (tx ((sk tx le ra) + 1))) hx hb dX6_number_76 rfl ?_
        refine lv_bipush (v := (nI 48)) hx hb dX6_number_77 (by decide) ?_
        refine r_isub (v := ((10 * ((tx (sk tx le ra)) - 48)) + (tx ((sk tx le ra) + 1))) - 48) hx hb dX6_number_79 (by omega) rfl ?_
        refine lv_istore_n (lv' := [(1, .int (nI (((10 * ((tx (sk tx le ra)) - 48)) + (tx ((sk tx le ra) + 1))) - 48))), (0, .ref mo)]) hx hb dX6_number_80 rfl hl (by decide) rfl (fun ls hl => ?_)
        refine lv_aload_n hx hb dX6_number_81 rfl (lv_at hl 1 rfl) ?_
        refine lv_dup hx hb dX6_number_82 rfl ?_
        refine va_get (D := G.1) (ci := 6) (v := .int (nI ((sk tx le ra) + 1))) (C := RX6) (T := TX6) (N := 11) hx hb hts iqX6_number_X6 hown hK.1 hP 0 rfl rfl 9 (by decide) (hts (.fieldLink RX6 114 "PushedTablesModel" "readAt" "I") (List.mem_of_getElem? (i := 1) rfl)) (fun _ h9 => h9) rfl dX6_number_83 ?_
        refine lv_iconst (v := (nI 1)) hx hb dX6_number_86 (by decide) ?_
        refine r_iadd (v := ((sk tx le ra) + 1) + 1) hx hb dX6_number_87 rfl ?_
        refine va_put (D := G.1) (ci := 6) (v := .int (nI (((sk tx le ra) + 1) + 1))) (ty := .int) (C := RX6) (T := TX6) (N := 11) hx hb hts iqX6_number_X6 tyX6 tyX6_ok nmX6 hown hK.1 hP hD hS 0 rfl rfl 9 (by decide) (hts (.fieldLink RX6 114 "PushedTablesModel" "readAt" "I") (List.mem_of_getElem? (i := 1) rfl)) (fun _ h9 => h9) rfl (by decide +kernel) rfl rfl (Nat.le_of_ble_eq_true rfl) dX6_number_88 (fun H locs hP hD hS => ?_)
        have hP : va_P G.1 vwCl [ob mo 6 [.ref u0, .ref u1, .ref u2, .ref u3, .ref u4, .ref u5, .int (nI sm), .int (nI sa), .int (nI le), .int (nI (((sk tx le ra) + 1) + 1)), .int (nI fa)], ar G u5 100 (fun j => nI (tx j))] H := hP
        have hD : va_D A [ob mo 6 [.ref u0, .ref u1, .ref u2, .ref u3, .ref u4, .ref u5, .int (nI sm), .int (nI sa), .int (nI le), .int (nI (((sk tx le ra) + 1) + 1)), .int (nI fa)], ar G u5 100 (fun j => nI (tx j))] := hD
        refine lv_aload_n hx hb dX6_number_91 rfl (lv_at hl 1 rfl) ?_
        refine lv_aload_n hx hb dX6_number_92 rfl (lv_at hl 1 rfl) ?_
        refine va_get (D := G.1) (ci := 6) (v := .int (nI (((sk tx le ra) + 1) + 1))) (C := RX6) (T := TX6) (N := 11) hx hb hts iqX6_number_X6 hown hK.1 hP 0 rfl rfl 9 (by decide) (hts (.fieldLink RX6 114 "PushedTablesModel" "readAt" "I") (List.mem_of_getElem? (i := 1) rfl)) (fun _ h9 => h9) rfl dX6_number_93 ?_
        refine g_ro (k_V (q0 := 0) (ci := 6) (n := 1) (As := [.int (nI (((sk tx le ra) + 1) + 1))]) (rest := []) (wc := [ob mo 6 [.ref u0, .ref u1, .ref u2, .ref u3, .ref u4, .ref u5, .int (nI sm), .int (nI sa), .int (nI le), .int (nI (((sk tx le ra) + 1) + 1)), .int (nI fa)], ar G u5 100 (fun j => nI (tx j))]) hx hb hml hown hts (c_X6_isDigit (l := l) (G := G) (mo := mo) (u0 := u0) (u1 := u1) (u2 := u2) (u3 := u3) (u4 := u4) (u5 := u5) (sm := sm) (sa := sa) (le := le) (ra := ((sk tx le ra) + 1) + 1) (fa := fa) (tx := tx) (hle := by first | assumption | omega) (htx := by first | assumption | omega) (a := ((sk tx le ra) + 1) + 1) (ha := by first | assumption | omega))  gX6_number_X6_isDigit rfl rfl rfl (by decide +kernel) ⟨Nat.le_of_ble_eq_true rfl, Nat.le_of_ble_eq_true rfl⟩ rfl hK hP hD [0, 1] rfl (by decide)  rfl rfl rfl hl.1 rfl (Nat.le_of_ble_eq_true rfl) dX6_number_96 ⟨Nat.le_of_ble_eq_true rfl, Nat.le_of_ble_eq_true rfl⟩) (fun r96 h96 => ?_)
        obtain rfl : (bI (dg tx le (((sk tx le ra) + 1) + 1))) = r96 := Eq.symm h96
        refine r_if_eq (P := (dg tx le (((sk tx le ra) + 1) + 1)) = false) (tgt := 113) hx hb dX6_number_99 (by decide) (bI_eq0) (fun cq99 => ?_) (fun cq99 => ?_)
        · refine lv_iload_n hx hb dX6_number_113 rfl (lv_at hl 0 rfl) ?_
          obtain ⟨x1, x2, x3⟩ := nm_c d13 W cq99
          exact hret _ _ _ _ _ hS dX6_number_114 (⟨((sk tx le ra) + 1) + 1, fa, e9_v (by rw [nmR_t x1, x3, s13, s60]; omega) (by rw [nmR_t x1]; exact Nat.lt_trans (nmV_lt d13) (by decide)), x2.symm, no_t2 x1, by omega, hP⟩)
        · refine lv_aload_n hx hb dX6_number_102 rfl (lv_at hl 1 rfl) ?_
          refine lv_aload_n hx hb dX6_number_103 rfl (lv_at hl 1 rfl) ?_
          refine va_get (D := G.1) (ci := 6) (v := .int (nI (((sk tx le ra) + 1) + 1))) (C := RX6) (T := TX6) (N := 11) hx hb hts iqX6_number_X6 hown hK.1 hP 0 rfl rfl 9 (by decide) (hts (.fieldLink RX6 114 "PushedTablesModel" "readAt" "I") (List.mem_of_getElem? (i := 1) rfl)) (fun _ h9 => h9) rfl dX6_number_104 ?_
          refine g_I (k_V (q0 := 0) (ci := 6) (n := 1) (As := [.int (nI (((sk tx le ra) + 1) + 1))]) (rest := []) (wc := [ob mo 6 [.ref u0, .ref u1, .ref u2, .ref u3, .ref u4, .ref u5, .int (nI sm), .int (nI sa), .int (nI le), .int (nI (((sk tx le ra) + 1) + 1)), .int (nI fa)]]) hx hb hml hown hts (c_X6_fails (l := l) (G := G) (mo := mo) (u0 := u0) (u1 := u1) (u2 := u2) (u3 := u3) (u4 := u4) (u5 := u5) (sm := sm) (sa := sa) (le := le) (ra := ((sk tx le ra) + 1) + 1) (fa := fa) (a := ((sk tx le ra) + 1) + 1))  gX6_number_X6_fails rfl rfl rfl (by decide +kernel) ⟨Nat.le_of_ble_eq_true rfl, Nat.le_of_ble_eq_true rfl⟩ rfl hK hP hD [0] rfl (by decide)  rfl rfl rfl hl.1 rfl (Nat.le_of_ble_eq_true rfl) dX6_number_107 ⟨Nat.le_of_ble_eq_true rfl, Nat.le_of_ble_eq_true rfl⟩) hP hD hS [0] rfl (fun r107 H locs hB107 back hS => ?_)
          obtain ⟨he107, hP1⟩ := hB107
          obtain rfl := Eq.symm he107
          obtain ⟨hP, hD⟩ := back [ob mo 6 [.ref u0, .ref u1, .ref u2, .ref u3, .ref u4, .ref u5, .int (nI sm), .int (nI sa), .int (nI le), .int (nI (((sk tx le ra) + 1) + 1)), .int (nI (((sk tx le ra) + 1) + 1))]] rfl hP1
          have hP : va_P G.1 vwCl [ob mo 6 [.ref u0, .ref u1, .ref u2, .ref u3, .ref u4, .ref u5, .int (nI sm), .int (nI sa), .int (nI le), .int (nI (((sk tx le ra) + 1) + 1)), .int (nI (((sk tx le ra) + 1) + 1))], ar G u5 100 (fun j => nI (tx j))] H := hP
          have hD : va_D A [ob mo 6 [.ref u0, .ref u1, .ref u2, .ref u3, .ref u4, .ref u5, .int (nI sm), .int (nI sa), .int (nI le), .int (nI (((sk tx le ra) + 1) + 1)), .int (nI (((sk tx le ra) + 1) + 1))], ar G u5 100 (fun j => nI (tx j))] := hD
          refine lv_goto (tgt := 114) hx hb dX6_number_110 (by decide) ?_
          obtain ⟨x1, x2⟩ := nm_d d13 W (Bool.of_not_eq_false cq99)
          exact hret _ _ _ _ _ hS dX6_number_114 (⟨(((sk tx le ra) + 1) + 1), (((sk tx le ra) + 1) + 1), by rw [nmR_f x1], x2.symm, fun _ => x2.symm, by omega, hP⟩)
  · refine lv_aload_n hx hb dX6_number_16 rfl (lv_at hl 0 rfl) ?_
    refine lv_aload_n hx hb dX6_number_17 rfl (lv_at hl 0 rfl) ?_
    refine va_get (D := G.1) (ci := 6) (v := .int (nI (sk tx le ra))) (C := RX6) (T := TX6) (N := 11) hx hb hts iqX6_number_X6 hown hK.1 hP 0 rfl rfl 9 (by decide) (hts (.fieldLink RX6 114 "PushedTablesModel" "readAt" "I") (List.mem_of_getElem? (i := 1) rfl)) (fun _ h9 => h9) rfl dX6_number_18 ?_
    refine g_I (k_V (q0 := 0) (ci := 6) (n := 1) (As := [.int (nI (sk tx le ra))]) (rest := []) (wc := [ob mo 6 [.ref u0, .ref u1, .ref u2, .ref u3, .ref u4, .ref u5, .int (nI sm), .int (nI sa), .int (nI le), .int (nI (sk tx le ra)), .int (nI fa)]]) hx hb hml hown hts (c_X6_fails (l := l) (G := G) (mo := mo) (u0 := u0) (u1 := u1) (u2 := u2) (u3 := u3) (u4 := u4) (u5 := u5) (sm := sm) (sa := sa) (le := le) (ra := (sk tx le ra)) (fa := fa) (a := (sk tx le ra)))  gX6_number_X6_fails rfl rfl rfl (by decide +kernel) ⟨Nat.le_of_ble_eq_true rfl, Nat.le_of_ble_eq_true rfl⟩ rfl hK hP hD [0] rfl (by decide)  rfl rfl rfl hl.1 rfl (Nat.le_of_ble_eq_true rfl) dX6_number_21 ⟨Nat.le_of_ble_eq_true rfl, Nat.le_of_ble_eq_true rfl⟩) hP hD hS [0] rfl (fun r21 H locs hB21 back hS => ?_)
    obtain ⟨he21, hP1⟩ := hB21
    obtain rfl := Eq.symm he21
    obtain ⟨hP, hD⟩ := back [ob mo 6 [.ref u0, .ref u1, .ref u2, .ref u3, .ref u4, .ref u5, .int (nI sm), .int (nI sa), .int (nI le), .int (nI (sk tx le ra)), .int (nI (sk tx le ra))]] rfl hP1
    have hP : va_P G.1 vwCl [ob mo 6 [.ref u0, .ref u1, .ref u2, .ref u3, .ref u4, .ref u5, .int (nI sm), .int (nI sa), .int (nI le), .int (nI (sk tx le ra)), .int (nI (sk tx le ra))], ar G u5 100 (fun j => nI (tx j))] H := hP
    have hD : va_D A [ob mo 6 [.ref u0, .ref u1, .ref u2, .ref u3, .ref u4, .ref u5, .int (nI sm), .int (nI sa), .int (nI le), .int (nI (sk tx le ra)), .int (nI (sk tx le ra))], ar G u5 100 (fun j => nI (tx j))] := hD
    exact hret _ _ _ _ _ hS dX6_number_24 (⟨(sk tx le ra), (sk tx le ra), by rw [nmR_f (nmO_n cq13)], (nmP_f cq13).symm, fun _ => (nmP_f cq13).symm, skl, hP⟩)

theorem iqX6_sign_X6 : ∀ w ∈ u_ws RX6 TX6 11, w ∈ wsX6_sign := by decide +kernel
set_option maxHeartbeats 1000000 in
set_option maxRecDepth 100000 in
theorem c_X6_sign (l : Launch) (G : kG) (mo u0 u1 u2 u3 u4 u5 sm sa le ra fa : Nat) (tx : Nat → Nat) (hle : le ≤ 100) (htx : ∀ k, tx k < 256) (hra : ra ≤ le) (wc : Nat) (hw0 : 0 < wc) (hw : wc < 256) : Met l yX6_sign wsX6_sign ({ frames := 1, cells := 0, slots := 0, locals := 21 } : Room) (cP G [.ref mo, .int (nI wc)] [ob mo 6 [.ref u0, .ref u1, .ref u2, .ref u3, .ref u4, .ref u5, .int (nI sm), .int (nI sa), .int (nI le), .int (nI ra), .int (nI fa)], ar G u5 100 (fun j => nI (tx j))]) (qI (fun rv H => ∃ (ra1 : Nat) (fa1 : Nat), rv = (bI (decide (sg tx le (sk tx le ra) = wc))) ∧ (ra1 = (if sg tx le (sk tx le ra) = wc then sk tx le ra + 1 else sk tx le ra)) ∧ (sg tx le (sk tx le ra) ≠ wc → fa1 = sk tx le ra) ∧ ra1 ≤ le ∧ va_P G.1 vwCl [ob mo 6 [.ref u0, .ref u1, .ref u2, .ref u3, .ref u4, .ref u5, .int (nI sm), .int (nI sa), .int (nI le), .int (nI ra1), .int (nI fa1)], ar G u5 100 (fun j => nI (tx j))] H) (mA [ob mo 6 [.ref u0, .ref u1, .ref u2, .ref u3, .ref u4, .ref u5, .int (nI sm), .int (nI sa), .int (nI le), .int (nI ra), .int (nI fa)], ar G u5 100 (fun j => nI (tx j))])) 0 0 (mA [ob mo 6 [.ref u0, .ref u1, .ref u2, .ref u3, .ref u4, .ref u5, .int (nI sm), .int (nI sa), .int (nI le), .int (nI ra), .int (nI fa)], ar G u5 100 (fun j => nI (tx j))]) := by
  refine met_muI (cc := cX6_sign) (maxL := 2) (ty := .boolean) (own := RX6) (by decide) rfl rfl (fun _ _ h => by obtain ⟨_, _, rfl, _⟩ := h; exact bI_nar _) (Nat.le_of_ble_eq_true rfl) ?_
  intro p e s m args below meth cod Q A hx hb hml hown hts hK hP hD hS hret ls hl
  have hl : lv_has ls 2 [(0, .ref mo), (1, .int (nI wc))] := hl
  have skl := sk_le (t := tx) hra
  have sgb := sg_lt htx le (sk tx le ra)
  refine lv_aload_n hx hb dX6_sign_0 rfl (lv_at hl 0 rfl) ?_
  refine g_I (k_V (q0 := 0) (ci := 6) (n := 0) (As := []) (rest := []) (wc := [ob mo 6 [.ref u0, .ref u1, .ref u2, .ref u3, .ref u4, .ref u5, .int (nI sm), .int (nI sa), .int (nI le), .int (nI ra), .int (nI fa)], ar G u5 100 (fun j => nI (tx j))]) hx hb hml hown hts (c_X6_here (l := l) (G := G) (mo := mo) (u0 := u0) (u1 := u1) (u2 := u2) (u3 := u3) (u4 := u4) (u5 := u5) (sm := sm) (sa := sa) (le := le) (ra := ra) (fa := fa) (tx := tx) (hle := by first | assumption | omega) (htx := by first | assumption | omega) (hra := by first | assumption | omega))  gX6_sign_X6_here rfl rfl rfl (by decide +kernel) ⟨Nat.le_of_ble_eq_true rfl, Nat.le_of_ble_eq_true rfl⟩ rfl hK hP hD [0, 1] rfl (by decide)  rfl rfl rfl hl.1 rfl (Nat.le_of_ble_eq_true rfl) dX6_sign_1 ⟨Nat.le_of_ble_eq_true rfl, Nat.le_of_ble_eq_true rfl⟩) hP hD hS [0, 1] rfl (fun r1 H locs hB1 back hS => ?_)
  obtain ⟨he1, hP1⟩ := hB1
  obtain rfl := Eq.symm he1
  obtain ⟨hP, hD⟩ := back [ob mo 6 [.ref u0, .ref u1, .ref u2, .ref u3, .ref u4, .ref u5, .int (nI sm), .int (nI sa), .int (nI le), .int (nI (sk tx le ra)), .int (nI fa)], ar G u5 100 (fun j => nI (tx j))] rfl hP1
  have hP : va_P G.1 vwCl [ob mo 6 [.ref u0, .ref u1, .ref u2, .ref u3, .ref u4, .ref u5, .int (nI sm), .int (nI sa), .int (nI le), .int (nI (sk tx le ra)), .int (nI fa)], ar G u5 100 (fun j => nI (tx j))] H := hP
  have hD : va_D A [ob mo 6 [.ref u0, .ref u1, .ref u2, .ref u3, .ref u4, .ref u5, .int (nI sm), .int (nI sa), .int (nI le), .int (nI (sk tx le ra)), .int (nI fa)], ar G u5 100 (fun j => nI (tx j))] := hD
  refine lv_iload_n hx hb dX6_sign_4 rfl (lv_at hl 1 rfl) ?_
  refine r_icmp_eq (P := (sg tx le (sk tx le ra)) = wc) (tgt := 19) hx hb dX6_sign_5 (by decide) (nI_eq (by omega) (by omega)) (fun cq5 => ?_) (fun cq5 => ?_)
  · refine lv_aload_n hx hb dX6_sign_19 rfl (lv_at hl 0 rfl) ?_
    refine lv_dup hx hb dX6_sign_20 rfl ?_
    refine va_get (D := G.1) (ci := 6) (v := .int (nI (sk tx le ra))) (C := RX6) (T := TX6) (N := 11) hx hb hts iqX6_sign_X6 hown hK.1 hP 0 rfl rfl 9 (by decide) (hts (.fieldLink RX6 114 "PushedTablesModel" "readAt" "I") (List.mem_of_getElem? (i := 1) rfl)) (fun _ h9 => h9) rfl dX6_sign_21 ?_
    refine lv_iconst (v := (nI 1)) hx hb dX6_sign_24 (by decide) ?_
    refine r_iadd (v := (sk tx le ra) + 1) hx hb dX6_sign_25 rfl ?_
    refine va_put (D := G.1) (ci := 6) (v := .int (nI ((sk tx le ra) + 1))) (ty := .int) (C := RX6) (T := TX6) (N := 11) hx hb hts iqX6_sign_X6 tyX6 tyX6_ok nmX6 hown hK.1 hP hD hS 0 rfl rfl 9 (by decide) (hts (.fieldLink RX6 114 "PushedTablesModel" "readAt" "I") (List.mem_of_getElem? (i := 1) rfl)) (fun _ h9 => h9) rfl (by decide +kernel) rfl rfl (Nat.le_of_ble_eq_true rfl) dX6_sign_26 (fun H locs hP hD hS => ?_)
    have hP : va_P G.1 vwCl [ob mo 6 [.ref u0, .ref u1, .ref u2, .ref u3, .ref u4, .ref u5, .int (nI sm), .int (nI sa), .int (nI le), .int (nI ((sk tx le ra) + 1)), .int (nI fa)], ar G u5 100 (fun j => nI (tx j))] H := hP
    have hD : va_D A [ob mo 6 [.ref u0, .ref u1, .ref u2, .ref u3, .ref u4, .ref u5, .int (nI sm), .int (nI sa), .int (nI le), .int (nI ((sk tx le ra) + 1)), .int (nI fa)], ar G u5 100 (fun j => nI (tx j))] := hD
    refine lv_iconst (v := (nI 1)) hx hb dX6_sign_29 (by decide) ?_
    have l5 := sg_pos (t := tx) (L := le) (p := sk tx le ra) (by omega)
    exact hret _ _ _ _ _ hS dX6_sign_30 (⟨(sk tx le ra) + 1, fa, bIt (decide_eq_true cq5), (if_pos cq5).symm, fun z => absurd cq5 z, by omega, hP⟩)
  · refine lv_aload_n hx hb dX6_sign_8 rfl (lv_at hl 0 rfl) ?_
    refine lv_aload_n hx hb dX6_sign_9 rfl (lv_at hl 0 rfl) ?_
    refine va_get (D := G.1) (ci := 6) (v := .int (nI (sk tx le ra))) (C := RX6) (T := TX6) (N := 11) hx hb hts iqX6_sign_X6 hown hK.1 hP 0 rfl rfl 9 (by decide) (hts (.fieldLink RX6 114 "PushedTablesModel" "readAt" "I") (List.mem_of_getElem? (i := 1) rfl)) (fun _ h9 => h9) rfl dX6_sign_10 ?_
    refine g_I (k_V (q0 := 0) (ci := 6) (n := 1) (As := [.int (nI (sk tx le ra))]) (rest := []) (wc := [ob mo 6 [.ref u0, .ref u1, .ref u2, .ref u3, .ref u4, .ref u5, .int (nI sm), .int (nI sa), .int (nI le), .int (nI (sk tx le ra)), .int (nI fa)]]) hx hb hml hown hts (c_X6_fails (l := l) (G := G) (mo := mo) (u0 := u0) (u1 := u1) (u2 := u2) (u3 := u3) (u4 := u4) (u5 := u5) (sm := sm) (sa := sa) (le := le) (ra := (sk tx le ra)) (fa := fa) (a := (sk tx le ra)))  gX6_sign_X6_fails rfl rfl rfl (by decide +kernel) ⟨Nat.le_of_ble_eq_true rfl, Nat.le_of_ble_eq_true rfl⟩ rfl hK hP hD [0] rfl (by decide)  rfl rfl rfl hl.1 rfl (Nat.le_of_ble_eq_true rfl) dX6_sign_13 ⟨Nat.le_of_ble_eq_true rfl, Nat.le_of_ble_eq_true rfl⟩) hP hD hS [0] rfl (fun r13 H locs hB13 back hS => ?_)
    obtain ⟨he13, hP1⟩ := hB13
    obtain rfl := Eq.symm he13
    obtain ⟨hP, hD⟩ := back [ob mo 6 [.ref u0, .ref u1, .ref u2, .ref u3, .ref u4, .ref u5, .int (nI sm), .int (nI sa), .int (nI le), .int (nI (sk tx le ra)), .int (nI (sk tx le ra))]] rfl hP1
    have hP : va_P G.1 vwCl [ob mo 6 [.ref u0, .ref u1, .ref u2, .ref u3, .ref u4, .ref u5, .int (nI sm), .int (nI sa), .int (nI le), .int (nI (sk tx le ra)), .int (nI (sk tx le ra))], ar G u5 100 (fun j => nI (tx j))] H := hP
    have hD : va_D A [ob mo 6 [.ref u0, .ref u1, .ref u2, .ref u3, .ref u4, .ref u5, .int (nI sm), .int (nI sa), .int (nI le), .int (nI (sk tx le ra)), .int (nI (sk tx le ra))], ar G u5 100 (fun j => nI (tx j))] := hD
    refine lv_pop hx hb dX6_sign_16 rfl ?_
    refine lv_iconst (v := (nI 0)) hx hb dX6_sign_17 (by decide) ?_
    exact hret _ _ _ _ _ hS dX6_sign_18 (⟨(sk tx le ra), (sk tx le ra), bIf (decide_eq_false cq5), (if_neg cq5).symm, fun _ => rfl, skl, hP⟩)

theorem iqX6_entry_X6 : ∀ w ∈ u_ws RX6 TX6 11, w ∈ wsX6_entry := by decide +kernel
set_option maxHeartbeats 1000000 in
set_option maxRecDepth 100000 in
theorem c_X6_entry (l : Launch) (G : kG) (mo u0 u1 u2 u3 u4 u5 sm sa le ra fa : Nat) (tx : Nat → Nat) (hle : le ≤ 100) (htx : ∀ k, tx k < 256) (σ : Sg) (nw : Nat → Int32) (hR : Rel σ nw) (hB : Bd σ) (hra : ra ≤ le) (r bf0 d9 : Nat) (hr : r < nn σ) (hbf : bf0 < 16 ∨ bf0 = 1000) (hd9 : dd σ r = d9) : Met l yX6_entry wsX6_entry ({ frames := 3, cells := 0, slots := 0, locals := 64 } : Room) (cP G [.ref mo, .int (nI r), .int (e1 bf0)] [ob mo 6 [.ref u0, .ref u1, .ref u2, .ref u3, .ref u4, .ref u5, .int (nI sm), .int (nI sa), .int (nI le), .int (nI ra), .int (nI fa)], ar G u0 481 nw, ar G u5 100 (fun j => nI (tx j))]) (qI (fun rv H => ∃ (nw1 : Nat → Int32) (ra1 : Nat) (fa1 : Nat) (xr : Nat), rv = (e9 xr) ∧ (xr ≠ 1000 → (enO tx le d9 bf0 ra).1 = true ∧ xr = (enO tx le d9 bf0 ra).2.2.1 ∧ ra1 = (enO tx le d9 bf0 ra).2.1 ∧ Rel (chS σ (r * 16 + xr) (enO tx le d9 bf0 ra).2.2.2) nw1 ∧ (enO tx le d9 bf0 ra).2.2.2 < 100 ∧ ra < ra1) ∧ (xr = 1000 → (enO tx le d9 bf0 ra).1 = false ∧ fa1 = (enO tx le d9 bf0 ra).2.1) ∧ (xr < 16 ∨ xr = 1000) ∧ ra1 ≤ le ∧ va_P G.1 vwCl [ob mo 6 [.ref u0, .ref u1, .ref u2, .ref u3, .ref u4, .ref u5, .int (nI sm), .int (nI sa), .int (nI le), .int (nI ra1), .int (nI fa1)], ar G u0 481 nw1, ar G u5 100 (fun j => nI (tx j))] H) (mA [ob mo 6 [.ref u0, .ref u1, .ref u2, .ref u3, .ref u4, .ref u5, .int (nI sm), .int (nI sa), .int (nI le), .int (nI ra), .int (nI fa)], ar G u0 481 nw, ar G u5 100 (fun j => nI (tx j))])) 0 0 (mA [ob mo 6 [.ref u0, .ref u1, .ref u2, .ref u3, .ref u4, .ref u5, .int (nI sm), .int (nI sa), .int (nI le), .int (nI ra), .int (nI fa)], ar G u0 481 nw, ar G u5 100 (fun j => nI (tx j))]) := by
  refine met_muI (cc := cX6_entry) (maxL := 6) (ty := .int) (own := RX6) (by decide) rfl rfl (fun _ _ _ => rfl) (Nat.le_of_ble_eq_true rfl) ?_
  intro p e s m args below meth cod Q A hx hb hml hown hts hK hP hD hS hret ls hl
  have hl : lv_has ls 6 [(0, .ref mo), (1, .int (nI r)), (2, .int (e1 bf0))] := hl
  have h24 := hB.n
  have skl := sk_le (t := tx) hra
  have skg := sk_ge tx le ra
  have hdb := hB.d r
  have nr1 := nmR_le tx le (sk tx le ra)
  refine lv_aload_n hx hb dX6_entry_0 rfl (lv_at hl 0 rfl) ?_
  refine g_I (k_V (q0 := 0) (ci := 6) (n := 0) (As := []) (rest := []) (wc := [ob mo 6 [.ref u0, .ref u1, .ref u2, .ref u3, .ref u4, .ref u5, .int (nI sm), .int (nI sa), .int (nI le), .int (nI ra), .int (nI fa)], ar G u5 100 (fun j => nI (tx j))]) hx hb hml hown hts (c_X6_here (l := l) (G := G) (mo := mo) (u0 := u0) (u1 := u1) (u2 := u2) (u3 := u3) (u4 := u4) (u5 := u5) (sm := sm) (sa := sa) (le := le) (ra := ra) (fa := fa) (tx := tx) (hle := by first | assumption | omega) (htx := by first | assumption | omega) (hra := by first | assumption | omega))  gX6_entry_X6_here rfl rfl rfl (by decide +kernel) ⟨Nat.le_of_ble_eq_true rfl, Nat.le_of_ble_eq_true rfl⟩ rfl hK hP hD [0, 2] rfl (by decide)  rfl rfl rfl hl.1 rfl (Nat.le_of_ble_eq_true rfl) dX6_entry_1 ⟨Nat.le_of_ble_eq_true rfl, Nat.le_of_ble_eq_true rfl⟩) hP hD hS [0, 2] rfl (fun r1 H locs hB1 back hS => ?_)
  obtain ⟨he1, hP1⟩ := hB1
  obtain rfl := Eq.symm he1
  obtain ⟨hP, hD⟩ := back [ob mo 6 [.ref u0, .ref u1, .ref u2, .ref u3, .ref u4, .ref u5, .int (nI sm), .int (nI sa), .int (nI le), .int (nI (sk tx le ra)), .int (nI fa)], ar G u5 100 (fun j => nI (tx j))] rfl hP1
  have hP : va_P G.1 vwCl [ob mo 6 [.ref u0, .ref u1, .ref u2, .ref u3, .ref u4, .ref u5, .int (nI sm), .int (nI sa), .int (nI le), .int (nI (sk tx le ra)), .int (nI fa)], ar G u0 481 nw, ar G u5 100 (fun j => nI (tx j))] H := hP
  have hD : va_D A [ob mo 6 [.ref u0, .ref u1, .ref u2, .ref u3, .ref u4, .ref u5, .int (nI sm), .int (nI sa), .int (nI le), .int (nI (sk tx le ra)), .int (nI fa)], ar G u0 481 nw, ar G u5 100 (fun j => nI (tx j))] := hD
  refine lv_pop hx hb dX6_entry_4 rfl ?_
  refine lv_aload_n hx hb dX6_entry_5 rfl (lv_at hl 0 rfl) ?_
  refine va_get (D := G.1) (ci := 6) (v := .int (nI (sk tx le ra))) (C := RX6) (T := TX6) (N := 11) hx hb hts iqX6_entry_X6 hown hK.1 hP 0 rfl rfl 9 (by decide) (hts (.fieldLink RX6 114 "PushedTablesModel" "readAt" "I") (List.mem_of_getElem? (i := 1) rfl)) (fun _ h9 => h9) rfl dX6_entry_6 ?_
  refine lv_istore_n (lv' := [(3, .int (nI (sk tx le ra))), (0, .ref mo), (1, .int (nI r)), (2, .int (e1 bf0))]) hx hb dX6_entry_9 rfl hl (by decide) rfl (fun ls hl => ?_)
  refine lv_aload_n hx hb dX6_entry_10 rfl (lv_at hl 1 rfl) ?_
  refine g_I (k_V (q0 := 0) (ci := 6) (n := 0) (As := []) (rest := []) (wc := [ob mo 6 [.ref u0, .ref u1, .ref u2, .ref u3, .ref u4, .ref u5, .int (nI sm), .int (nI sa), .int (nI le), .int (nI (sk tx le ra)), .int (nI fa)], ar G u5 100 (fun j => nI (tx j))]) hx hb hml hown hts (c_X6_number (l := l) (G := G) (mo := mo) (u0 := u0) (u1 := u1) (u2 := u2) (u3 := u3) (u4 := u4) (u5 := u5) (sm := sm) (sa := sa) (le := le) (ra := (sk tx le ra)) (fa := fa) (tx := tx) (hle := by first | assumption | omega) (htx := by first | assumption | omega) (hra := by first | assumption | omega) (s9 := (sk tx le ra)) (hs9 := (sk_sk tx le ra)))  gX6_entry_X6_number rfl rfl rfl (by decide +kernel) ⟨Nat.le_of_ble_eq_true rfl, Nat.le_of_ble_eq_true rfl⟩ rfl hK hP hD [0, 2] rfl (by decide)  rfl rfl rfl hl.1 rfl (Nat.le_of_ble_eq_true rfl) dX6_entry_11 ⟨Nat.le_of_ble_eq_true rfl, Nat.le_of_ble_eq_true rfl⟩) hP hD hS [0, 2] rfl (fun r11 H locs hB11 back hS => ?_)
  obtain ⟨ra111, fa111, he11, hqr11, hqf11, hql11, hP1⟩ := hB11
  obtain rfl := Eq.symm he11
  obtain ⟨hP, hD⟩ := back [ob mo 6 [.ref u0, .ref u1, .ref u2, .ref u3, .ref u4, .ref u5, .int (nI sm), .int (nI sa), .int (nI le), .int (nI ra111), .int (nI fa111)], ar G u5 100 (fun j => nI (tx j))] rfl hP1
  have hP : va_P G.1 vwCl [ob mo 6 [.ref u0, .ref u1, .ref u2, .ref u3, .ref u4, .ref u5, .int (nI sm), .int (nI sa), .int (nI le), .int (nI ra111), .int (nI fa111)], ar G u0 481 nw, ar G u5 100 (fun j => nI (tx j))] H := hP
  have hD : va_D A [ob mo 6 [.ref u0, .ref u1, .ref u2, .ref u3, .ref u4, .ref u5, .int (nI sm), .int (nI sa), .int (nI le), .int (nI ra111), .int (nI fa111)], ar G u0 481 nw, ar G u5 100 (fun j => nI (tx j))] := hD
  subst hqr11
  refine lv_istore (lv' := [(4, .int (e9 (nmR tx le (sk tx le ra)))), (3, .int (nI (sk tx le ra))), (0, .ref mo), (1, .int (nI r)), (2, .int (e1 bf0))]) hx hb dX6_entry_14 hl (by decide) rfl (fun ls hl => ?_)
  refine lv_iload hx hb dX6_entry_16 (lv_at hl 0 rfl) ?_
  refine lv_bipush (v := (e9 1000)) hx hb dX6_entry_18 (by decide) ?_
  refine r_icmp_ne (P := (nmR tx le (sk tx le ra)) = 1000) (tgt := 26) hx hb dX6_entry_20 (by decide) (e9_inj (by omega) (by omega)) (fun cq20 => ?_) (fun cq20 => ?_)
  · have o1 := nmR_ne cq20
    have v1 := nmV_lt (nmO_dg o1).1
    have hv1 := nmR_t o1
    have ng1 := nmP_gt (nmO_dg o1).1
    refine lv_iload hx hb dX6_entry_26 (lv_at hl 0 rfl) ?_
    refine r_top (y := (nI (nmV tx le (sk tx le ra)))) ((congrArg e9 hv1).trans (e9_n (by omega))) ?_
    refine lv_iload_n hx hb dX6_entry_28 rfl (lv_at hl 4 rfl) ?_
    refine r_icmp_le (P := ¬ (bf0 = 1000 ∨ bf0 < nmV tx le (sk tx le ra))) (tgt := 39) hx hb dX6_entry_29 (by decide) (e1_ltc hbf (by omega)) (fun cq29 => ?_) (fun cq29 => ?_)
    · refine lv_aload_n hx hb dX6_entry_39 rfl (lv_at hl 2 rfl) ?_
      refine lv_iload_n hx hb dX6_entry_40 rfl (lv_at hl 1 rfl) ?_
      refine g_I (k_V (q0 := 0) (ci := 6) (n := 1) (As := [.int (nI (sk tx le ra))]) (rest := []) (wc := [ob mo 6 [.ref u0, .ref u1, .ref u2, .ref u3, .ref u4, .ref u5, .int (nI sm), .int (nI sa), .int (nI le), .int (nI (nmP tx le (sk tx le ra))), .int (nI fa111)]]) hx hb hml hown hts (c_X6_fails (l := l) (G := G) (mo := mo) (u0 := u0) (u1 := u1) (u2 := u2) (u3 := u3) (u4 := u4) (u5 := u5) (sm := sm) (sa := sa) (le := le) (ra := (nmP tx le (sk tx le ra))) (fa := fa111) (a := (sk tx le ra)))  gX6_entry_X6_fails rfl rfl rfl (by decide +kernel) ⟨Nat.le_of_ble_eq_true rfl, Nat.le_of_ble_eq_true rfl⟩ rfl hK hP hD [0] rfl (by decide)  rfl rfl rfl hl.1 rfl (Nat.le_of_ble_eq_true rfl) dX6_entry_41 ⟨Nat.le_of_ble_eq_true rfl, Nat.le_of_ble_eq_true rfl⟩) hP hD hS [0] rfl (fun r41 H locs hB41 back hS => ?_)
      obtain ⟨he41, hP1⟩ := hB41
      obtain rfl := Eq.symm he41
      obtain ⟨hP, hD⟩ := back [ob mo 6 [.ref u0, .ref u1, .ref u2, .ref u3, .ref u4, .ref u5, .int (nI sm), .int (nI sa), .int (nI le), .int (nI (nmP tx le (sk tx le ra))), .int (nI (sk tx le ra))]] rfl hP1
      have hP : va_P G.1 vwCl [ob mo 6 [.ref u0, .ref u1, .ref u2, .ref u3, .ref u4, .ref u5, .int (nI sm), .int (nI sa), .int (nI le), .int (nI (nmP tx le (sk tx le ra))), .int (nI (sk tx le ra))], ar G u0 481 nw, ar G u5 100 (fun j => nI (tx j))] H := hP
      have hD : va_D A [ob mo 6 [.ref u0, .ref u1, .ref u2, .ref u3, .ref u4, .ref u5, .int (nI sm), .int (nI sa), .int (nI le), .int (nI (nmP tx le (sk tx le ra))), .int (nI (sk tx le ra))], ar G u0 481 nw, ar G u5 100 (fun j => nI (tx j))] := hD
      have hE : enO tx le d9 bf0 ra = (false, sk tx le ra, 0, 0) := enO_2 o1 (fun z => cq29 z.2)
      exact hret _ _ _ _ _ hS dX6_entry_44 (⟨nw, nmP tx le (sk tx le ra), sk tx le ra, 1000, rfl, fun z => absurd rfl z, fun _ => by rw [hE]; exact ⟨rfl, rfl⟩, Or.inr rfl, by omega, hP⟩)
    · refine lv_iload hx hb dX6_entry_32 (lv_at hl 0 rfl) ?_
      refine r_top (y := (nI (nmV tx le (sk tx le ra)))) ((congrArg e9 hv1).trans (e9_n (by omega))) ?_
      refine lv_bipush (v := (nI 16)) hx hb dX6_entry_34 (by decide) ?_
      refine r_icmp_lt (P := (nmV tx le (sk tx le ra)) < 16) (tgt := 45) hx hb dX6_entry_36 (by decide) (nI_ltI (by omega) (by omega)) (fun cq36 => ?_) (fun cq36 => ?_)
      · have c29 : bf0 = 1000 ∨ bf0 < nmV tx le (sk tx le ra) := Classical.not_not.mp cq29
        refine lv_aload_n hx hb dX6_entry_45 rfl (lv_at hl 2 rfl) ?_
        refine lv_bipush (v := (nI 61)) hx hb dX6_entry_46 (by decide) ?_
        refine g_I (k_V (q0 := 0) (ci := 6) (n := 1) (As := [.int (nI 61)]) (rest := []) (wc := [ob mo 6 [.ref u0, .ref u1, .ref u2, .ref u3, .ref u4, .ref u5, .int (nI sm), .int (nI sa), .int (nI le), .int (nI (nmP tx le (sk tx le ra))), .int (nI fa111)], ar G u5 100 (fun j => nI (tx j))]) hx hb hml hown hts (c_X6_sign (l := l) (G := G) (mo := mo) (u0 := u0) (u1 := u1) (u2 := u2) (u3 := u3) (u4 := u4) (u5 := u5) (sm := sm) (sa := sa) (le := le) (ra := (nmP tx le (sk tx le ra))) (fa := fa111) (tx := tx) (hle := by first | assumption | omega) (htx := by first | assumption | omega) (hra := by first | assumption | omega) (wc := 61) (hw0 := by first | assumption | omega) (hw := by first | assumption | omega))  gX6_entry_X6_sign rfl rfl rfl (by decide +kernel) ⟨Nat.le_of_ble_eq_true rfl, Nat.le_of_ble_eq_true rfl⟩ rfl hK hP hD [0, 2] rfl (by decide)  rfl rfl rfl hl.1 rfl (Nat.le_of_ble_eq_true rfl) dX6_entry_48 ⟨Nat.le_of_ble_eq_true rfl, Nat.le_of_ble_eq_true rfl⟩) hP hD hS [0, 2] rfl (fun r48 H locs hB48 back hS => ?_)
        obtain ⟨ra148, fa148, he48, hqr48, hqf48, hql48, hP1⟩ := hB48
        obtain rfl := Eq.symm he48
        obtain ⟨hP, hD⟩ := back [ob mo 6 [.ref u0, .ref u1, .ref u2, .ref u3, .ref u4, .ref u5, .int (nI sm), .int (nI sa), .int (nI le), .int (nI ra148), .int (nI fa148)], ar G u5 100 (fun j => nI (tx j))] rfl hP1
        have hP : va_P G.1 vwCl [ob mo 6 [.ref u0, .ref u1, .ref u2, .ref u3, .ref u4, .ref u5, .int (nI sm), .int (nI sa), .int (nI le), .int (nI ra148), .int (nI fa148)], ar G u0 481 nw, ar G u5 100 (fun j => nI (tx j))] H := hP
        have hD : va_D A [ob mo 6 [.ref u0, .ref u1, .ref u2, .ref u3, .ref u4, .ref u5, .int (nI sm), .int (nI sa), .int (nI le), .int (nI ra148), .int (nI fa148)], ar G u0 481 nw, ar G u5 100 (fun j => nI (tx j))] := hD
        refine r_if_ne (P := (decide (sg tx le (sk tx le (nmP tx le (sk tx le ra))) = 61)) = false) (tgt := 57) hx hb dX6_entry_51 (by decide) (bI_eq0) (fun cq51 => ?_) (fun cq51 => ?_)
        · have z48 : sg tx le (sk tx le (nmP tx le (sk tx le ra))) = 61 := of_decide_eq_true (Bool.of_not_eq_false cq51)
          rw [if_pos z48] at hqr48
          subst hqr48
          have skg2 := sk_ge tx le (nmP tx le (sk tx le ra))
          have skg3 := sk_ge tx le (sk tx le (nmP tx le (sk tx le ra)) + 1)
          have nr2 := nmR_le tx le (sk tx le (sk tx le (nmP tx le (sk tx le ra)) + 1))
          have skl3 := sk_le (t := tx) hql48
          refine lv_aload_n hx hb dX6_entry_57 rfl (lv_at hl 2 rfl) ?_
          refine g_I (k_V (q0 := 0) (ci := 6) (n := 0) (As := []) (rest := []) (wc := [ob mo 6 [.ref u0, .ref u1, .ref u2, .ref u3, .ref u4, .ref u5, .int (nI sm), .int (nI sa), .int (nI le), .int (nI (sk tx le (nmP tx le (sk tx le ra)) + 1)), .int (nI fa148)], ar G u5 100 (fun j => nI (tx j))]) hx hb hml hown hts (c_X6_here (l := l) (G := G) (mo := mo) (u0 := u0) (u1 := u1) (u2 := u2) (u3 := u3) (u4 := u4) (u5 := u5) (sm := sm) (sa := sa) (le := le) (ra := (sk tx le (nmP tx le (sk tx le ra)) + 1)) (fa := fa148) (tx := tx) (hle := by first | assumption | omega) (htx := by first | assumption | omega) (hra := by first | assumption | omega))  gX6_entry_X6_here rfl rfl rfl (by decide +kernel) ⟨Nat.le_of_ble_eq_true rfl, Nat.le_of_ble_eq_true rfl⟩ rfl hK hP hD [0, 2] rfl (by decide)  rfl rfl rfl hl.1 rfl (Nat.le_of_ble_eq_true rfl) dX6_entry_58 ⟨Nat.le_of_ble_eq_true rfl, Nat.le_of_ble_eq_true rfl⟩) hP hD hS [0, 2] rfl (fun r58 H locs hB58 back hS => ?_)
          obtain ⟨he58, hP1⟩ := hB58
          obtain rfl := Eq.symm he58
          obtain ⟨hP, hD⟩ := back [ob mo 6 [.ref u0, .ref u1, .ref u2, .ref u3, .ref u4, .ref u5, .int (nI sm), .int (nI sa), .int (nI le), .int (nI (sk tx le (sk tx le (nmP tx le (sk tx le ra)) + 1))), .int (nI fa148)], ar G u5 100 (fun j => nI (tx j))] rfl hP1
          have hP : va_P G.1 vwCl [ob mo 6 [.ref u0, .ref u1, .ref u2, .ref u3, .ref u4, .ref u5, .int (nI sm), .int (nI sa), .int (nI le), .int (nI (sk tx le (sk tx le (nmP tx le (sk tx le ra)) + 1))), .int (nI fa148)], ar G u0 481 nw, ar G u5 100 (fun j => nI (tx j))] H := hP
          have hD : va_D A [ob mo 6 [.ref u0, .ref u1, .ref u2, .ref u3, .ref u4, .ref u5, .int (nI sm), .int (nI sa), .int (nI le), .int (nI (sk tx le (sk tx le (nmP tx le (sk tx le ra)) + 1))), .int (nI fa148)], ar G u0 481 nw, ar G u5 100 (fun j => nI (tx j))] := hD
          refine lv_pop hx hb dX6_entry_61 rfl ?_
          refine lv_aload_n hx hb dX6_entry_62 rfl (lv_at hl 2 rfl) ?_
          refine va_get (D := G.1) (ci := 6) (v := .int (nI (sk tx le (sk tx le (nmP tx le (sk tx le ra)) + 1)))) (C := RX6) (T := TX6) (N := 11) hx hb hts iqX6_entry_X6 hown hK.1 hP 0 rfl rfl 9 (by decide) (hts (.fieldLink RX6 114 "PushedTablesModel" "readAt" "I") (List.mem_of_getElem? (i := 1) rfl)) (fun _ h9 => h9) rfl dX6_entry_63 ?_
          refine lv_istore_n (lv' := [(3, .int (nI (sk tx le (sk tx le (nmP tx le (sk tx le ra)) + 1)))), (4, .int (e9 (nmR tx le (sk tx le ra)))), (0, .ref mo), (1, .int (nI r)), (2, .int (e1 bf0))]) hx hb dX6_entry_66 rfl hl (by decide) rfl (fun ls hl => ?_)
          refine lv_aload_n hx hb dX6_entry_67 rfl (lv_at hl 2 rfl) ?_
          refine g_I (k_V (q0 := 0) (ci := 6) (n := 0) (As := []) (rest := []) (wc := [ob mo 6 [.ref u0, .ref u1, .ref u2, .ref u3, .ref u4, .ref u5, .int (nI sm), .int (nI sa), .int (nI le), .int (nI (sk tx le (sk tx le (nmP tx le (sk tx le ra)) + 1))), .int (nI fa148)], ar G u5 100 (fun j => nI (tx j))]) hx hb hml hown hts (c_X6_number (l := l) (G := G) (mo := mo) (u0 := u0) (u1 := u1) (u2 := u2) (u3 := u3) (u4 := u4) (u5 := u5) (sm := sm) (sa := sa) (le := le) (ra := (sk tx le (sk tx le (nmP tx le (sk tx le ra)) + 1))) (fa := fa148) (tx := tx) (hle := by first | assumption | omega) (htx := by first | assumption | omega) (hra := by first | assumption | omega) (s9 := (sk tx le (sk tx le (nmP tx le (sk tx le ra)) + 1))) (hs9 := (sk_sk tx le _)))  gX6_entry_X6_number rfl rfl rfl (by decide +kernel) ⟨Nat.le_of_ble_eq_true rfl, Nat.le_of_ble_eq_true rfl⟩ rfl hK hP hD [0, 2] rfl (by decide)  rfl rfl rfl hl.1 rfl (Nat.le_of_ble_eq_true rfl) dX6_entry_68 ⟨Nat.le_of_ble_eq_true rfl, Nat.le_of_ble_eq_true rfl⟩) hP hD hS [0, 2] rfl (fun r68 H locs hB68 back hS => ?_)
          obtain ⟨ra168, fa168, he68, hqr68, hqf68, hql68, hP1⟩ := hB68
          obtain rfl := Eq.symm he68
          obtain ⟨hP, hD⟩ := back [ob mo 6 [.ref u0, .ref u1, .ref u2, .ref u3, .ref u4, .ref u5, .int (nI sm), .int (nI sa), .int (nI le), .int (nI ra168), .int (nI fa168)], ar G u5 100 (fun j => nI (tx j))] rfl hP1
          have hP : va_P G.1 vwCl [ob mo 6 [.ref u0, .ref u1, .ref u2, .ref u3, .ref u4, .ref u5, .int (nI sm), .int (nI sa), .int (nI le), .int (nI ra168), .int (nI fa168)], ar G u0 481 nw, ar G u5 100 (fun j => nI (tx j))] H := hP
          have hD : va_D A [ob mo 6 [.ref u0, .ref u1, .ref u2, .ref u3, .ref u4, .ref u5, .int (nI sm), .int (nI sa), .int (nI le), .int (nI ra168), .int (nI fa168)], ar G u0 481 nw, ar G u5 100 (fun j => nI (tx j))] := hD
          subst hqr68
          refine lv_istore (lv' := [(5, .int (e9 (nmR tx le (sk tx le (sk tx le (nmP tx le (sk tx le ra)) + 1))))), (3, .int (nI (sk tx le (sk tx le (nmP tx le (sk tx le ra)) + 1)))), (4, .int (e9 (nmR tx le (sk tx le ra)))), (0, .ref mo), (1, .int (nI r)), (2, .int (e1 bf0))]) hx hb dX6_entry_71 hl (by decide) rfl (fun ls hl => ?_)
          refine lv_iload hx hb dX6_entry_73 (lv_at hl 0 rfl) ?_
          refine lv_bipush (v := (e9 1000)) hx hb dX6_entry_75 (by decide) ?_
          refine r_icmp_ne (P := (nmR tx le (sk tx le (sk tx le (nmP tx le (sk tx le ra)) + 1))) = 1000) (tgt := 83) hx hb dX6_entry_77 (by decide) (e9_inj (by omega) (by omega)) (fun cq77 => ?_) (fun cq77 => ?_)
          · have o2 := nmR_ne cq77
            have v2 := nmV_lt (nmO_dg o2).1
            have hv2 := nmR_t o2
            have ng2 := nmP_gt (nmO_dg o2).1
            refine lv_iload hx hb dX6_entry_83 (lv_at hl 0 rfl) ?_
            refine r_top (y := (nI (nmV tx le (sk tx le (sk tx le (nmP tx le (sk tx le ra)) + 1))))) ((congrArg e9 hv2).trans (e9_n (by omega))) ?_
            refine lv_aload_n hx hb dX6_entry_85 rfl (lv_at hl 3 rfl) ?_
            refine va_get (D := G.1) (ci := 6) (v := .ref u0) (C := RX6) (T := TX6) (N := 11) hx hb hts iqX6_entry_X6 hown hK.1 hP 0 rfl rfl 0 (by decide) (hts (.fieldLink RX6 7 "PushedTablesModel" "now" "[I") (List.mem_of_getElem? (i := 2) rfl)) (fun _ h9 => h9) rfl dX6_entry_86 ?_
            refine lv_iconst (v := (nI 1)) hx hb dX6_entry_89 (by decide) ?_
            refine lv_iload_n hx hb dX6_entry_90 rfl (lv_at hl 4 rfl) ?_
            refine r_iadd (v := 1 + r) hx hb dX6_entry_91 rfl ?_
            refine r_iald (e1 := 1 + r) (v := (nI (dd σ r))) hx hb hK.1 hP 1 0 rfl rfl (by omega) (by first | decide | assumption) (hR.d (by omega)) dX6_entry_92 ?_
            refine r_icmp_ne (P := (nmV tx le (sk tx le (sk tx le (nmP tx le (sk tx le ra)) + 1))) = (dd σ r)) (tgt := 102) hx hb dX6_entry_93 (by decide) (nI_eq (by omega) (by omega)) (fun cq93 => ?_) (fun cq93 => ?_)
            · refine lv_aload_n hx hb dX6_entry_102 rfl (lv_at hl 3 rfl) ?_
              refine va_get (D := G.1) (ci := 6) (v := .ref u0) (C := RX6) (T := TX6) (N := 11) hx hb hts iqX6_entry_X6 hown hK.1 hP 0 rfl rfl 0 (by decide) (hts (.fieldLink RX6 7 "PushedTablesModel" "now" "[I") (List.mem_of_getElem? (i := 2) rfl)) (fun _ h9 => h9) rfl dX6_entry_103 ?_
              refine lv_bipush (v := (nI 25)) hx hb dX6_entry_106 (by decide) ?_
              refine lv_iload_n hx hb dX6_entry_108 rfl (lv_at hl 4 rfl) ?_
              refine r_iadd (v := 25 + r) hx hb dX6_entry_109 rfl ?_
              refine lv_dup2_11 hx hb dX6_entry_110 rfl rfl ?_
              refine r_iald (e1 := 25 + r) (v := (nI (cols σ r))) hx hb hK.1 hP 1 0 rfl rfl (by omega) (by first | decide | assumption) (hR.e (by omega)) dX6_entry_111 ?_
              refine lv_iconst (v := (nI 1)) hx hb dX6_entry_112 (by decide) ?_
              refine lv_iload hx hb dX6_entry_113 (lv_at hl 2 rfl) ?_
              refine r_top (y := (nI (nmV tx le (sk tx le ra)))) ((congrArg e9 hv1).trans (e9_n (by omega))) ?_
              refine lv_ishl hx hb dX6_entry_115 ?_
              refine r_top (y := (nI (2 ^ (nmV tx le (sk tx le ra))))) (r_shl1 (by omega)) ?_
              refine lv_ior hx hb dX6_entry_116 ?_
              refine r_top (y := (nI ((cols σ r) ||| (2 ^ (nmV tx le (sk tx le ra)))))) (fa_or _ _) ?_
              refine r_iast (e1 := 25 + r) (x := (nI ((cols σ r) ||| (2 ^ (nmV tx le (sk tx le ra)))))) (g := upd nw (25 + r) (nI ((cols σ r) ||| (2 ^ (nmV tx le (sk tx le ra)))))) hx hb hK.1 hP hD hS 1 0 rfl rfl (by omega) (by first | decide | assumption) (rfl) dX6_entry_117 (fun H locs hP hD hS => ?_)
              have hP : va_P G.1 vwCl [ob mo 6 [.ref u0, .ref u1, .ref u2, .ref u3, .ref u4, .ref u5, .int (nI sm), .int (nI sa), .int (nI le), .int (nI (nmP tx le (sk tx le (sk tx le (nmP tx le (sk tx le ra)) + 1)))), .int (nI fa168)], ar G u0 481 (upd nw (25 + r) (nI ((cols σ r) ||| (2 ^ (nmV tx le (sk tx le ra)))))), ar G u5 100 (fun j => nI (tx j))] H := hP
              have hD : va_D A [ob mo 6 [.ref u0, .ref u1, .ref u2, .ref u3, .ref u4, .ref u5, .int (nI sm), .int (nI sa), .int (nI le), .int (nI (nmP tx le (sk tx le (sk tx le (nmP tx le (sk tx le ra)) + 1)))), .int (nI fa168)], ar G u0 481 (upd nw (25 + r) (nI ((cols σ r) ||| (2 ^ (nmV tx le (sk tx le ra)))))), ar G u5 100 (fun j => nI (tx j))] := hD
              refine lv_aload_n hx hb dX6_entry_118 rfl (lv_at hl 3 rfl) ?_
              refine va_get (D := G.1) (ci := 6) (v := .ref u0) (C := RX6) (T := TX6) (N := 11) hx hb hts iqX6_entry_X6 hown hK.1 hP 0 rfl rfl 0 (by decide) (hts (.fieldLink RX6 7 "PushedTablesModel" "now" "[I") (List.mem_of_getElem? (i := 2) rfl)) (fun _ h9 => h9) rfl dX6_entry_119 ?_
              refine lv_bipush (v := (nI 73)) hx hb dX6_entry_122 (by decide) ?_
              refine lv_bipush (v := (nI 16)) hx hb dX6_entry_124 (by decide) ?_
              refine lv_iload_n hx hb dX6_entry_126 rfl (lv_at hl 4 rfl) ?_
              refine r_imul (v := 16 * r) hx hb dX6_entry_127 rfl ?_
              refine r_iadd (v := 73 + (16 * r)) hx hb dX6_entry_128 rfl ?_
              refine lv_iload hx hb dX6_entry_129 (lv_at hl 2 rfl) ?_
              refine r_top (y := (nI (nmV tx le (sk tx le ra)))) ((congrArg e9 hv1).trans (e9_n (by omega))) ?_
              refine r_iadd (v := (73 + (16 * r)) + (nmV tx le (sk tx le ra))) hx hb dX6_entry_131 rfl ?_
              refine lv_iload hx hb dX6_entry_132 (lv_at hl 0 rfl) ?_
              refine r_top (y := (nI (nmV tx le (sk tx le (sk tx le (nmP tx le (sk tx le ra)) + 1))))) ((congrArg e9 hv2).trans (e9_n (by omega))) ?_
              refine r_iast (e1 := (73 + (16 * r)) + (nmV tx le (sk tx le ra))) (x := (nI (nmV tx le (sk tx le (sk tx le (nmP tx le (sk tx le ra)) + 1))))) (g := upd (upd nw (25 + r) (nI ((cols σ r) ||| (2 ^ (nmV tx le (sk tx le ra)))))) ((73 + (16 * r)) + (nmV tx le (sk tx le ra))) (nI (nmV tx le (sk tx le (sk tx le (nmP tx le (sk tx le ra)) + 1))))) hx hb hK.1 hP hD hS 1 0 rfl rfl (by omega) (by first | decide | assumption) (rfl) dX6_entry_134 (fun H locs hP hD hS => ?_)
              have hP : va_P G.1 vwCl [ob mo 6 [.ref u0, .ref u1, .ref u2, .ref u3, .ref u4, .ref u5, .int (nI sm), .int (nI sa), .int (nI le), .int (nI (nmP tx le (sk tx le (sk tx le (nmP tx le (sk tx le ra)) + 1)))), .int (nI fa168)], ar G u0 481 (upd (upd nw (25 + r) (nI ((cols σ r) ||| (2 ^ (nmV tx le (sk tx le ra)))))) ((73 + (16 * r)) + (nmV tx le (sk tx le ra))) (nI (nmV tx le (sk tx le (sk tx le (nmP tx le (sk tx le ra)) + 1))))), ar G u5 100 (fun j => nI (tx j))] H := hP
              have hD : va_D A [ob mo 6 [.ref u0, .ref u1, .ref u2, .ref u3, .ref u4, .ref u5, .int (nI sm), .int (nI sa), .int (nI le), .int (nI (nmP tx le (sk tx le (sk tx le (nmP tx le (sk tx le ra)) + 1)))), .int (nI fa168)], ar G u0 481 (upd (upd nw (25 + r) (nI ((cols σ r) ||| (2 ^ (nmV tx le (sk tx le ra)))))) ((73 + (16 * r)) + (nmV tx le (sk tx le ra))) (nI (nmV tx le (sk tx le (sk tx le (nmP tx le (sk tx le ra)) + 1))))), ar G u5 100 (fun j => nI (tx j))] := hD
              refine lv_iload hx hb dX6_entry_135 (lv_at hl 2 rfl) ?_
              refine r_top (y := (nI (nmV tx le (sk tx le ra)))) ((congrArg e9 hv1).trans (e9_n (by omega))) ?_
              have hE : enO tx le d9 bf0 ra = (true, nmP tx le (sk tx le (sk tx le (nmP tx le (sk tx le ra)) + 1)), nmV tx le (sk tx le ra), nmV tx le (sk tx le (sk tx le (nmP tx le (sk tx le ra)) + 1))) := enO_6 o1 ⟨cq36, c29⟩ z48 o2 (fun z => cq93 (z.trans hd9.symm))
              exact hret _ _ _ _ _ hS dX6_entry_137 (⟨_, nmP tx le (sk tx le (sk tx le (nmP tx le (sk tx le ra)) + 1)), fa168, nmV tx le (sk tx le ra), (e9_n (by omega)).symm, fun _ => by rw [hE]; exact ⟨rfl, rfl, rfl, rc_t hR h24 hr cq36 cq93, v2, by omega⟩, fun z => absurd z (by omega), Or.inl cq36, hql68, hP⟩)
            · refine lv_aload_n hx hb dX6_entry_96 rfl (lv_at hl 3 rfl) ?_
              refine lv_iload_n hx hb dX6_entry_97 rfl (lv_at hl 1 rfl) ?_
              refine g_I (k_V (q0 := 0) (ci := 6) (n := 1) (As := [.int (nI (sk tx le (sk tx le (nmP tx le (sk tx le ra)) + 1)))]) (rest := []) (wc := [ob mo 6 [.ref u0, .ref u1, .ref u2, .ref u3, .ref u4, .ref u5, .int (nI sm), .int (nI sa), .int (nI le), .int (nI (nmP tx le (sk tx le (sk tx le (nmP tx le (sk tx le ra)) + 1)))), .int (nI fa168)]]) hx hb hml hown hts (c_X6_fails (l := l) (G := G) (mo := mo) (u0 := u0) (u1 := u1) (u2 := u2) (u3 := u3) (u4 := u4) (u5 := u5) (sm := sm) (sa := sa) (le := le) (ra := (nmP tx le (sk tx le (sk tx le (nmP tx le (sk tx le ra)) + 1)))) (fa := fa168) (a := (sk tx le (sk tx le (nmP tx le (sk tx le ra)) + 1))))  gX6_entry_X6_fails rfl rfl rfl (by decide +kernel) ⟨Nat.le_of_ble_eq_true rfl, Nat.le_of_ble_eq_true rfl⟩ rfl hK hP hD [0] rfl (by decide)  rfl rfl rfl hl.1 rfl (Nat.le_of_ble_eq_true rfl) dX6_entry_98 ⟨Nat.le_of_ble_eq_true rfl, Nat.le_of_ble_eq_true rfl⟩) hP hD hS [0] rfl (fun r98 H locs hB98 back hS => ?_)
              obtain ⟨he98, hP1⟩ := hB98
              obtain rfl := Eq.symm he98
              obtain ⟨hP, hD⟩ := back [ob mo 6 [.ref u0, .ref u1, .ref u2, .ref u3, .ref u4, .ref u5, .int (nI sm), .int (nI sa), .int (nI le), .int (nI (nmP tx le (sk tx le (sk tx le (nmP tx le (sk tx le ra)) + 1)))), .int (nI (sk tx le (sk tx le (nmP tx le (sk tx le ra)) + 1)))]] rfl hP1
              have hP : va_P G.1 vwCl [ob mo 6 [.ref u0, .ref u1, .ref u2, .ref u3, .ref u4, .ref u5, .int (nI sm), .int (nI sa), .int (nI le), .int (nI (nmP tx le (sk tx le (sk tx le (nmP tx le (sk tx le ra)) + 1)))), .int (nI (sk tx le (sk tx le (nmP tx le (sk tx le ra)) + 1)))], ar G u0 481 nw, ar G u5 100 (fun j => nI (tx j))] H := hP
              have hD : va_D A [ob mo 6 [.ref u0, .ref u1, .ref u2, .ref u3, .ref u4, .ref u5, .int (nI sm), .int (nI sa), .int (nI le), .int (nI (nmP tx le (sk tx le (sk tx le (nmP tx le (sk tx le ra)) + 1)))), .int (nI (sk tx le (sk tx le (nmP tx le (sk tx le ra)) + 1)))], ar G u0 481 nw, ar G u5 100 (fun j => nI (tx j))] := hD
              have hE : enO tx le d9 bf0 ra = (false, sk tx le (sk tx le (nmP tx le (sk tx le ra)) + 1), 0, 0) := enO_5 o1 ⟨cq36, c29⟩ z48 o2 (cq93.trans hd9)
              exact hret _ _ _ _ _ hS dX6_entry_101 (⟨nw, nmP tx le (sk tx le (sk tx le (nmP tx le (sk tx le ra)) + 1)), sk tx le (sk tx le (nmP tx le (sk tx le ra)) + 1), 1000, rfl, fun z => absurd rfl z, fun _ => by rw [hE]; exact ⟨rfl, rfl⟩, Or.inr rfl, hql68, hP⟩)
          · have o2 := nmR_eq cq77
            refine lv_bipush (v := (e9 1000)) hx hb dX6_entry_80 (by decide) ?_
            have hE : enO tx le d9 bf0 ra = (false, nmP tx le (sk tx le (sk tx le (nmP tx le (sk tx le ra)) + 1)), 0, 0) := enO_4 o1 ⟨cq36, c29⟩ z48 o2
            exact hret _ _ _ _ _ hS dX6_entry_82 (⟨nw, nmP tx le (sk tx le (sk tx le (nmP tx le (sk tx le ra)) + 1)), fa168, 1000, rfl, fun z => absurd rfl z, fun _ => by rw [hE]; exact ⟨rfl, hqf68 o2⟩, Or.inr rfl, hql68, hP⟩)
        · have z48 : sg tx le (sk tx le (nmP tx le (sk tx le ra))) ≠ 61 := of_decide_eq_false cq51
          rw [if_neg z48] at hqr48
          refine lv_bipush (v := (e9 1000)) hx hb dX6_entry_54 (by decide) ?_
          have hE : enO tx le d9 bf0 ra = (false, sk tx le (nmP tx le (sk tx le ra)), 0, 0) := enO_3 o1 ⟨cq36, c29⟩ z48
          exact hret _ _ _ _ _ hS dX6_entry_56 (⟨nw, ra148, fa148, 1000, rfl, fun z => absurd rfl z, fun _ => by rw [hE]; exact ⟨rfl, hqf48 z48⟩, Or.inr rfl, hql48, hP⟩)
      · refine lv_aload_n hx hb dX6_entry_39 rfl (lv_at hl 2 rfl) ?_
        refine lv_iload_n hx hb dX6_entry_40 rfl (lv_at hl 1 rfl) ?_
        refine g_I (k_V (q0 := 0) (ci := 6) (n := 1) (As := [.int (nI (sk tx le ra))]) (rest := []) (wc := [ob mo 6 [.ref u0, .ref u1, .ref u2, .ref u3, .ref u4, .ref u5, .int (nI sm), .int (nI sa), .int (nI le), .int (nI (nmP tx le (sk tx le ra))), .int (nI fa111)]]) hx hb hml hown hts (c_X6_fails (l := l) (G := G) (mo := mo) (u0 := u0) (u1 := u1) (u2 := u2) (u3 := u3) (u4 := u4) (u5 := u5) (sm := sm) (sa := sa) (le := le) (ra := (nmP tx le (sk tx le ra))) (fa := fa111) (a := (sk tx le ra)))  gX6_entry_X6_fails rfl rfl rfl (by decide +kernel) ⟨Nat.le_of_ble_eq_true rfl, Nat.le_of_ble_eq_true rfl⟩ rfl hK hP hD [0] rfl (by decide)  rfl rfl rfl hl.1 rfl (Nat.le_of_ble_eq_true rfl) dX6_entry_41 ⟨Nat.le_of_ble_eq_true rfl, Nat.le_of_ble_eq_true rfl⟩) hP hD hS [0] rfl (fun r41 H locs hB41 back hS => ?_)
        obtain ⟨he41, hP1⟩ := hB41
        obtain rfl := Eq.symm he41
        obtain ⟨hP, hD⟩ := back [ob mo 6 [.ref u0, .ref u1, .ref u2, .ref u3, .ref u4, .ref u5, .int (nI sm), .int (nI sa), .int (nI le), .int (nI (nmP tx le (sk tx le ra))), .int (nI (sk tx le ra))]] rfl hP1
        have hP : va_P G.1 vwCl [ob mo 6 [.ref u0, .ref u1, .ref u2, .ref u3, .ref u4, .ref u5, .int (nI sm), .int (nI sa), .int (nI le), .int (nI (nmP tx le (sk tx le ra))), .int (nI (sk tx le ra))], ar G u0 481 nw, ar G u5 100 (fun j => nI (tx j))] H := hP
        have hD : va_D A [ob mo 6 [.ref u0, .ref u1, .ref u2, .ref u3, .ref u4, .ref u5, .int (nI sm), .int (nI sa), .int (nI le), .int (nI (nmP tx le (sk tx le ra))), .int (nI (sk tx le ra))], ar G u0 481 nw, ar G u5 100 (fun j => nI (tx j))] := hD
        have hE : enO tx le d9 bf0 ra = (false, sk tx le ra, 0, 0) := enO_2 o1 (fun z => cq36 z.1)
        exact hret _ _ _ _ _ hS dX6_entry_44 (⟨nw, nmP tx le (sk tx le ra), sk tx le ra, 1000, rfl, fun z => absurd rfl z, fun _ => by rw [hE]; exact ⟨rfl, rfl⟩, Or.inr rfl, by omega, hP⟩)
  · have o1 := nmR_eq cq20
    refine lv_bipush (v := (e9 1000)) hx hb dX6_entry_23 (by decide) ?_
    have hE : enO tx le d9 bf0 ra = (false, nmP tx le (sk tx le ra), 0, 0) := enO_1 o1
    exact hret _ _ _ _ _ hS dX6_entry_25 (⟨nw, nmP tx le (sk tx le ra), fa111, 1000, rfl, fun z => absurd rfl z, fun _ => by rw [hE]; exact ⟨rfl, hqf11 o1⟩, Or.inr rfl, by omega, hP⟩)
