/-! rows that come, values that change -/
def adS (σ : Sg) (v : Nat) : Sg := (nn σ + 1, va_up (dd σ) (nn σ) v, fl16 (vv σ) (nn σ) v, va_up (ff σ) (nn σ) 1000, ss σ)
def chS (σ : Sg) (k v : Nat) : Sg := (nn σ, dd σ, va_up (vv σ) k v, ff σ, ss σ)
def cdV (σ : Sg) (r v c : Nat) : Nat → Nat := fun j => if r * 16 ≤ j ∧ j < r * 16 + c ∧ vv σ j = dd σ r then v else vv σ j
def cdS (σ : Sg) (r v : Nat) : Sg := (nn σ, va_up (dd σ) r v, cdV σ r v 16, ff σ, ss σ)
theorem Bd_adS {σ : Sg} (h : Bd σ) (hn : nn σ < 24) {v : Nat} (hv : v < 100) : Bd (adS σ v) := ⟨hn, up_all (P := fun z => z < 100) h.2.1 hv, fl16_lt h.2.2.1 hv, up_all (P := fun z => z < 24 ∨ z = 1000) h.2.2.2.1 (Or.inr rfl), h.2.2.2.2⟩
theorem Bd_chS {σ : Sg} (h : Bd σ) {k v : Nat} (hv : v < 100) : Bd (chS σ k v) := ⟨h.1, h.2.1, up_all (P := fun z => z < 100) h.2.2.1 hv, h.2.2.2⟩
theorem cdV_lt {σ : Sg} (h : Bd σ) {r v c : Nat} (hv : v < 100) : ∀ k, cdV σ r v c k < 100 := fun k => by
  unfold cdV; split
  · exact hv
  · exact h.v k
theorem Bd_cdS {σ : Sg} (h : Bd σ) {r v : Nat} (hv : v < 100) : Bd (cdS σ r v) := ⟨h.1, up_all (P := fun z => z < 100) h.2.1 hv, cdV_lt h hv, h.2.2.2⟩
theorem cdV_0 (σ : Sg) (r v : Nat) : vv σ = cdV σ r v 0 := by
  funext j; unfold cdV; rw [if_neg]; omega
theorem cdV_at (σ : Sg) (r v c : Nat) : cdV σ r v c (r * 16 + c) = vv σ (r * 16 + c) := by
  unfold cdV; rw [if_neg]; omega
theorem cdV_e {σ : Sg} {r v c : Nat} (h : vv σ (r * 16 + c) ≠ dd σ r) : cdV σ r v c = cdV σ r v (c + 1) := by
  funext j; unfold cdV
  by_cases q : r * 16 ≤ j ∧ j < r * 16 + c ∧ vv σ j = dd σ r
  · rw [if_pos q, if_pos ⟨q.1, by omega, q.2.2⟩]
  · rw [if_neg q, if_neg]
    rintro ⟨a, b, e⟩
    rcases Nat.lt_or_ge j (r * 16 + c) with w | w
    · exact q ⟨a, w, e⟩
    · have : j = r * 16 + c := by omega
      subst this; exact h e
theorem cdV_d {σ : Sg} {r v c : Nat} (h : vv σ (r * 16 + c) = dd σ r) : va_up (cdV σ r v c) (r * 16 + c) v = cdV σ r v (c + 1) := by
  funext j; unfold va_up cdV
  by_cases e : j = r * 16 + c
  · subst e; rw [if_pos rfl, if_pos ⟨by omega, by omega, h⟩]
  · rw [if_neg e]
    by_cases q : r * 16 ≤ j ∧ j < r * 16 + c ∧ vv σ j = dd σ r
    · rw [if_pos q, if_pos ⟨q.1, by omega, q.2.2⟩]
    · rw [if_neg q, if_neg (fun z => q ⟨z.1, by omega, z.2.2⟩)]
theorem iqX1_addRow_X1 : ∀ w ∈ u_ws RX1 TX1 5, w ∈ wsX1_addRow := by decide +kernel
set_option maxHeartbeats 1000000 in
set_option maxRecDepth 100000 in
theorem c_X1_addRow (l : Launch) (G : kG) (o a1 a2 a3 a4 : Nat) (σ : Sg) (v : Nat) (hB : Bd σ) (hn : nn σ < 24) (hv : v < 100) : Met l yX1_addRow wsX1_addRow ({ frames := 2, cells := 0, slots := 0, locals := 46 } : Room) (cP G [.ref o, .int (nI v)] [ob o 1 [.int (nI (nn σ)), .ref a1, .ref a2, .ref a3, .ref a4], ar G a1 24 (fun j => nI ((dd σ) j)), ar G a2 384 (fun j => nI ((vv σ) j)), ar G a3 24 (fun j => e9 ((ff σ) j)), ar G a4 24 (fun j => e9 ((ss σ) j))]) (qI (fun rv H => rv = (nI (nn σ)) ∧ va_P G.1 vwCl [ob o 1 [.int (nI (nn (adS σ v))), .ref a1, .ref a2, .ref a3, .ref a4], ar G a1 24 (fun j => nI ((dd (adS σ v)) j)), ar G a2 384 (fun j => nI ((vv (adS σ v)) j)), ar G a3 24 (fun j => e9 ((ff (adS σ v)) j)), ar G a4 24 (fun j => e9 ((ss (adS σ v)) j))] H) (mA [ob o 1 [.int (nI (nn σ)), .ref a1, .ref a2, .ref a3, .ref a4], ar G a1 24 (fun j => nI ((dd σ) j)), ar G a2 384 (fun j => nI ((vv σ) j)), ar G a3 24 (fun j => e9 ((ff σ) j)), ar G a4 24 (fun j => e9 ((ss σ) j))])) 0 0 (mA [ob o 1 [.int (nI (nn σ)), .ref a1, .ref a2, .ref a3, .ref a4], ar G a1 24 (fun j => nI ((dd σ) j)), ar G a2 384 (fun j => nI ((vv σ) j)), ar G a3 24 (fun j => e9 ((ff σ) j)), ar G a4 24 (fun j => e9 ((ss σ) j))]) := by
  refine met_muI (cc := cX1_addRow) (maxL := 3) (ty := .int) (own := RX1) (by decide) rfl rfl (fun _ _ _ => rfl) (Nat.le_of_ble_eq_true rfl) ?_
  intro p e s m args below meth cod Q A hx hb hml hown hts hK hP hD hS hret ls hl
  have hl : lv_has ls 3 [(0, .ref o), (1, .int (nI v))] := hl
  refine lv_aload_n hx hb dX1_addRow_0 rfl (lv_at hl 0 rfl) ?_
  refine va_get (D := G.1) (ci := 1) (v := .int (nI (nn σ))) (C := RX1) (T := TX1) (N := 5) hx hb hts iqX1_addRow_X1 hown hK.1 hP 0 rfl rfl 0 (by decide) (hts (.fieldLink RX1 9 "PushedTables$State" "rowCount" "I") (List.mem_of_getElem? (i := 1) rfl)) (fun _ h9 => h9) rfl dX1_addRow_1 ?_
  refine r_if_lt (P := False) (tgt := 16) hx hb dX1_addRow_4 (by decide) (nI_lt0 (by omega)) (fun cq4 => ?_) (fun cq4 => ?_)
  · exact cq4.elim
  · refine lv_aload_n hx hb dX1_addRow_7 rfl (lv_at hl 0 rfl) ?_
    refine va_get (D := G.1) (ci := 1) (v := .int (nI (nn σ))) (C := RX1) (T := TX1) (N := 5) hx hb hts iqX1_addRow_X1 hown hK.1 hP 0 rfl rfl 0 (by decide) (hts (.fieldLink RX1 9 "PushedTables$State" "rowCount" "I") (List.mem_of_getElem? (i := 1) rfl)) (fun _ h9 => h9) rfl dX1_addRow_8 ?_
    refine lv_bipush (v := (nI 24)) hx hb dX1_addRow_11 (by decide) ?_
    refine r_icmp_lt (P := (nn σ) < 24) (tgt := 19) hx hb dX1_addRow_13 (by decide) (nI_ltI (by omega) (by omega)) (fun cq13 => ?_) (fun cq13 => ?_)
    · refine lv_aload_n hx hb dX1_addRow_19 rfl (lv_at hl 0 rfl) ?_
      refine va_get (D := G.1) (ci := 1) (v := .int (nI (nn σ))) (C := RX1) (T := TX1) (N := 5) hx hb hts iqX1_addRow_X1 hown hK.1 hP 0 rfl rfl 0 (by decide) (hts (.fieldLink RX1 9 "PushedTables$State" "rowCount" "I") (List.mem_of_getElem? (i := 1) rfl)) (fun _ h9 => h9) rfl dX1_addRow_20 ?_
      refine lv_istore_n (lv' := [(2, .int (nI (nn σ))), (0, .ref o), (1, .int (nI v))]) hx hb dX1_addRow_23 rfl hl (by decide) rfl (fun ls hl => ?_)
      refine lv_aload_n hx hb dX1_addRow_24 rfl (lv_at hl 1 rfl) ?_
      refine va_get (D := G.1) (ci := 1) (v := .ref a1) (C := RX1) (T := TX1) (N := 5) hx hb hts iqX1_addRow_X1 hown hK.1 hP 0 rfl rfl 1 (by decide) (hts (.fieldLink RX1 15 "PushedTables$State" "defaults" "[I") (List.mem_of_getElem? (i := 2) rfl)) (fun _ h9 => h9) rfl dX1_addRow_25 ?_
      refine lv_iload_n hx hb dX1_addRow_28 rfl (lv_at hl 0 rfl) ?_
      refine lv_iload_n hx hb dX1_addRow_29 rfl (lv_at hl 2 rfl) ?_
      refine r_iast (e1 := nn σ) (x := (nI v)) (g := (fun j => nI ((va_up (dd σ) (nn σ) v) j))) hx hb hK.1 hP hD hS 1 0 rfl rfl (by omega) (by first | decide | assumption) (up_nI _ _ _) dX1_addRow_30 (fun H locs hP hD hS => ?_)
      have hP : va_P G.1 vwCl [ob o 1 [.int (nI (nn σ)), .ref a1, .ref a2, .ref a3, .ref a4], ar G a1 24 (fun j => nI ((va_up (dd σ) (nn σ) v) j)), ar G a2 384 (fun j => nI ((vv σ) j)), ar G a3 24 (fun j => e9 ((ff σ) j)), ar G a4 24 (fun j => e9 ((ss σ) j))] H := hP
      have hD : va_D A [ob o 1 [.int (nI (nn σ)), .ref a1, .ref a2, .ref a3, .ref a4], ar G a1 24 (fun j => nI ((va_up (dd σ) (nn σ) v) j)), ar G a2 384 (fun j => nI ((vv σ) j)), ar G a3 24 (fun j => e9 ((ff σ) j)), ar G a4 24 (fun j => e9 ((ss σ) j))] := hD
      refine lv_aload_n hx hb dX1_addRow_31 rfl (lv_at hl 1 rfl) ?_
      refine va_get (D := G.1) (ci := 1) (v := .ref a2) (C := RX1) (T := TX1) (N := 5) hx hb hts iqX1_addRow_X1 hown hK.1 hP 0 rfl rfl 2 (by decide) (hts (.fieldLink RX1 19 "PushedTables$State" "values" "[I") (List.mem_of_getElem? (i := 3) rfl)) (fun _ h9 => h9) rfl dX1_addRow_32 ?_
      refine lv_iload_n hx hb dX1_addRow_35 rfl (lv_at hl 0 rfl) ?_
      refine lv_bipush (v := (nI 16)) hx hb dX1_addRow_36 (by decide) ?_
      refine r_imul (v := (nn σ) * 16) hx hb dX1_addRow_38 rfl ?_
      refine lv_iload_n hx hb dX1_addRow_39 rfl (lv_at hl 0 rfl) ?_
      refine lv_iconst (v := (nI 1)) hx hb dX1_addRow_40 (by decide) ?_
      refine r_iadd (v := (nn σ) + 1) hx hb dX1_addRow_41 rfl ?_
      refine lv_bipush (v := (nI 16)) hx hb dX1_addRow_42 (by decide) ?_
      refine r_imul (v := ((nn σ) + 1) * 16) hx hb dX1_addRow_44 rfl ?_
      refine lv_iload_n hx hb dX1_addRow_45 rfl (lv_at hl 2 rfl) ?_
      refine g_V (k_S (n := 4) (As := [.ref a2, .int (nI ((nn σ) * 16)), .int (nI (((nn σ) + 1) * 16)), .int (nI v)]) (rest := []) (wc := [ar G a2 384 (fun j => nI ((vv σ) j))]) hx hb hml hown hts (c_J7_fill_fda19 (l := l) (G := G) (a := a2) (N := 384) (lo := (nn σ) * 16) (hi := ((nn σ) + 1) * 16) (f := (fun j => nI ((vv σ) j))) (v := nI v) (hN := by decide) (h1 := by first | assumption | omega) (h2 := by first | assumption | omega))  gX1_addRow_J7_fill_fda19 rfl rfl rfl (by decide +kernel) ⟨Nat.le_of_ble_eq_true rfl, Nat.le_of_ble_eq_true rfl⟩ rfl hK hP hD [2] rfl (by decide)  hl.1 rfl (Nat.le_of_ble_eq_true rfl) dX1_addRow_46 ⟨Nat.le_of_ble_eq_true rfl, Nat.le_of_ble_eq_true rfl⟩) hP hD hS [2] rfl (fun H locs hB46 back hS => ?_)
      have hP1 := hB46
      obtain ⟨hP, hD⟩ := back [ar G a2 384 (fun j => if ((nn σ) * 16) ≤ j ∧ j < (((nn σ) + 1) * 16) then (nI v) else (fun j => nI ((vv σ) j)) j)] rfl hP1
      have hP : va_P G.1 vwCl [ob o 1 [.int (nI (nn σ)), .ref a1, .ref a2, .ref a3, .ref a4], ar G a1 24 (fun j => nI ((va_up (dd σ) (nn σ) v) j)), ar G a2 384 (fun j => if ((nn σ) * 16) ≤ j ∧ j < (((nn σ) + 1) * 16) then (nI v) else (fun j => nI ((vv σ) j)) j), ar G a3 24 (fun j => e9 ((ff σ) j)), ar G a4 24 (fun j => e9 ((ss σ) j))] H := hP
      have hD : va_D A [ob o 1 [.int (nI (nn σ)), .ref a1, .ref a2, .ref a3, .ref a4], ar G a1 24 (fun j => nI ((va_up (dd σ) (nn σ) v) j)), ar G a2 384 (fun j => if ((nn σ) * 16) ≤ j ∧ j < (((nn σ) + 1) * 16) then (nI v) else (fun j => nI ((vv σ) j)) j), ar G a3 24 (fun j => e9 ((ff σ) j)), ar G a4 24 (fun j => e9 ((ss σ) j))] := hD
      have hP := P_ext hP 2 (fun j => nI ((fl16 (vv σ) (nn σ) v) j)) rfl (fun j _ => by unfold fl16; split <;> rfl)
      have hD := D_ext hD 2 (e' := (.inl (G.2.1, 384, .inl (fun j => nI ((fl16 (vv σ) (nn σ) v) j))))) rfl
      have hP : va_P G.1 vwCl [ob o 1 [.int (nI (nn σ)), .ref a1, .ref a2, .ref a3, .ref a4], ar G a1 24 (fun j => nI ((va_up (dd σ) (nn σ) v) j)), ar G a2 384 (fun j => nI ((fl16 (vv σ) (nn σ) v) j)), ar G a3 24 (fun j => e9 ((ff σ) j)), ar G a4 24 (fun j => e9 ((ss σ) j))] H := hP
      have hD : va_D A [ob o 1 [.int (nI (nn σ)), .ref a1, .ref a2, .ref a3, .ref a4], ar G a1 24 (fun j => nI ((va_up (dd σ) (nn σ) v) j)), ar G a2 384 (fun j => nI ((fl16 (vv σ) (nn σ) v) j)), ar G a3 24 (fun j => e9 ((ff σ) j)), ar G a4 24 (fun j => e9 ((ss σ) j))] := hD
      refine lv_aload_n hx hb dX1_addRow_49 rfl (lv_at hl 1 rfl) ?_
      refine va_get (D := G.1) (ci := 1) (v := .ref a3) (C := RX1) (T := TX1) (N := 5) hx hb hts iqX1_addRow_X1 hown hK.1 hP 0 rfl rfl 3 (by decide) (hts (.fieldLink RX1 22 "PushedTables$State" "forms" "[I") (List.mem_of_getElem? (i := 4) rfl)) (fun _ h9 => h9) rfl dX1_addRow_50 ?_
      refine lv_iload_n hx hb dX1_addRow_53 rfl (lv_at hl 0 rfl) ?_
      refine lv_bipush (v := (e9 1000)) hx hb dX1_addRow_54 (by decide) ?_
      refine r_iast (e1 := nn σ) (x := (e9 1000)) (g := (fun j => e9 ((va_up (ff σ) (nn σ) 1000) j))) hx hb hK.1 hP hD hS 3 0 rfl rfl (by omega) (by first | decide | assumption) (up_e9 _ _ _) dX1_addRow_56 (fun H locs hP hD hS => ?_)
      have hP : va_P G.1 vwCl [ob o 1 [.int (nI (nn σ)), .ref a1, .ref a2, .ref a3, .ref a4], ar G a1 24 (fun j => nI ((va_up (dd σ) (nn σ) v) j)), ar G a2 384 (fun j => nI ((fl16 (vv σ) (nn σ) v) j)), ar G a3 24 (fun j => e9 ((va_up (ff σ) (nn σ) 1000) j)), ar G a4 24 (fun j => e9 ((ss σ) j))] H := hP
      have hD : va_D A [ob o 1 [.int (nI (nn σ)), .ref a1, .ref a2, .ref a3, .ref a4], ar G a1 24 (fun j => nI ((va_up (dd σ) (nn σ) v) j)), ar G a2 384 (fun j => nI ((fl16 (vv σ) (nn σ) v) j)), ar G a3 24 (fun j => e9 ((va_up (ff σ) (nn σ) 1000) j)), ar G a4 24 (fun j => e9 ((ss σ) j))] := hD
      refine lv_aload_n hx hb dX1_addRow_57 rfl (lv_at hl 1 rfl) ?_
      refine lv_dup hx hb dX1_addRow_58 rfl ?_
      refine va_get (D := G.1) (ci := 1) (v := .int (nI (nn σ))) (C := RX1) (T := TX1) (N := 5) hx hb hts iqX1_addRow_X1 hown hK.1 hP 0 rfl rfl 0 (by decide) (hts (.fieldLink RX1 9 "PushedTables$State" "rowCount" "I") (List.mem_of_getElem? (i := 1) rfl)) (fun _ h9 => h9) rfl dX1_addRow_59 ?_
      refine lv_iconst (v := (nI 1)) hx hb dX1_addRow_62 (by decide) ?_
      refine r_iadd (v := (nn σ) + 1) hx hb dX1_addRow_63 rfl ?_
      refine va_put (D := G.1) (ci := 1) (v := .int (nI ((nn σ) + 1))) (ty := .int) (C := RX1) (T := TX1) (N := 5) hx hb hts iqX1_addRow_X1 tyX1 tyX1_ok nmX1 hown hK.1 hP hD hS 0 rfl rfl 0 (by decide) (hts (.fieldLink RX1 9 "PushedTables$State" "rowCount" "I") (List.mem_of_getElem? (i := 1) rfl)) (fun _ h9 => h9) rfl (by decide +kernel) rfl rfl (Nat.le_of_ble_eq_true rfl) dX1_addRow_64 (fun H locs hP hD hS => ?_)
      have hP : va_P G.1 vwCl [ob o 1 [.int (nI ((nn σ) + 1)), .ref a1, .ref a2, .ref a3, .ref a4], ar G a1 24 (fun j => nI ((va_up (dd σ) (nn σ) v) j)), ar G a2 384 (fun j => nI ((fl16 (vv σ) (nn σ) v) j)), ar G a3 24 (fun j => e9 ((va_up (ff σ) (nn σ) 1000) j)), ar G a4 24 (fun j => e9 ((ss σ) j))] H := hP
      have hD : va_D A [ob o 1 [.int (nI ((nn σ) + 1)), .ref a1, .ref a2, .ref a3, .ref a4], ar G a1 24 (fun j => nI ((va_up (dd σ) (nn σ) v) j)), ar G a2 384 (fun j => nI ((fl16 (vv σ) (nn σ) v) j)), ar G a3 24 (fun j => e9 ((va_up (ff σ) (nn σ) 1000) j)), ar G a4 24 (fun j => e9 ((ss σ) j))] := hD
      refine lv_iload_n hx hb dX1_addRow_67 rfl (lv_at hl 0 rfl) ?_
      exact hret _ _ _ _ _ hS dX1_addRow_68 (⟨rfl, hP⟩)
    · exact absurd hn cq13

theorem iqX1_changeValue_X1 : ∀ w ∈ u_ws RX1 TX1 5, w ∈ wsX1_changeValue := by decide +kernel
set_option maxHeartbeats 1000000 in
set_option maxRecDepth 100000 in
theorem c_X1_changeValue (l : Launch) (G : kG) (o a1 a2 a3 a4 : Nat) (σ : Sg) (r c v : Nat) (hr : r < 24) (hc : c < 16) : Met l yX1_changeValue wsX1_changeValue ({ frames := 1, cells := 0, slots := 0, locals := 22 } : Room) (cP G [.ref o, .int (nI r), .int (nI c), .int (nI v)] [ob o 1 [.int (nI (nn σ)), .ref a1, .ref a2, .ref a3, .ref a4], ar G a1 24 (fun j => nI ((dd σ) j)), ar G a2 384 (fun j => nI ((vv σ) j)), ar G a3 24 (fun j => e9 ((ff σ) j)), ar G a4 24 (fun j => e9 ((ss σ) j))]) (qV (fun H => va_P G.1 vwCl [ob o 1 [.int (nI (nn σ)), .ref a1, .ref a2, .ref a3, .ref a4], ar G a1 24 (fun j => nI ((dd σ) j)), ar G a2 384 (fun j => nI ((va_up (vv σ) (r * 16 + c) v) j)), ar G a3 24 (fun j => e9 ((ff σ) j)), ar G a4 24 (fun j => e9 ((ss σ) j))] H) (mA [ob o 1 [.int (nI (nn σ)), .ref a1, .ref a2, .ref a3, .ref a4], ar G a1 24 (fun j => nI ((dd σ) j)), ar G a2 384 (fun j => nI ((vv σ) j)), ar G a3 24 (fun j => e9 ((ff σ) j)), ar G a4 24 (fun j => e9 ((ss σ) j))])) 0 0 (mA [ob o 1 [.int (nI (nn σ)), .ref a1, .ref a2, .ref a3, .ref a4], ar G a1 24 (fun j => nI ((dd σ) j)), ar G a2 384 (fun j => nI ((vv σ) j)), ar G a3 24 (fun j => e9 ((ff σ) j)), ar G a4 24 (fun j => e9 ((ss σ) j))]) := by
  refine met_muV (cc := cX1_changeValue) (maxL := 4) (own := RX1) (by decide) rfl rfl (Nat.le_of_ble_eq_true rfl) ?_
  intro p e s m args below meth cod Q A hx hb hml hown hts hK hP hD hS hret ls hl
  have hl : lv_has ls 4 [(0, .ref o), (1, .int (nI r)), (2, .int (nI c)), (3, .int (nI v))] := hl
  refine lv_aload_n hx hb dX1_changeValue_0 rfl (lv_at hl 0 rfl) ?_
  refine va_get (D := G.1) (ci := 1) (v := .ref a2) (C := RX1) (T := TX1) (N := 5) hx hb hts iqX1_changeValue_X1 hown hK.1 hP 0 rfl rfl 2 (by decide) (hts (.fieldLink RX1 19 "PushedTables$State" "values" "[I") (List.mem_of_getElem? (i := 1) rfl)) (fun _ h9 => h9) rfl dX1_changeValue_1 ?_
  refine lv_iload_n hx hb dX1_changeValue_4 rfl (lv_at hl 1 rfl) ?_
  refine lv_bipush (v := (nI 16)) hx hb dX1_changeValue_5 (by decide) ?_
  refine r_imul (v := r * 16) hx hb dX1_changeValue_7 rfl ?_
  refine lv_iload_n hx hb dX1_changeValue_8 rfl (lv_at hl 2 rfl) ?_
  refine r_iadd (v := (r * 16) + c) hx hb dX1_changeValue_9 rfl ?_
  refine lv_iload_n hx hb dX1_changeValue_10 rfl (lv_at hl 3 rfl) ?_
  refine g_V (k_SN (n := 3) (As := [.ref a2, .int (nI ((r * 16) + c)), .int (nI v)]) (rest := []) (wc := [ar G a2 384 (fun j => nI ((vv σ) j))]) hx hb hml hown hts (c_X5_putAt_n (l := l) (G := G) (a := a2) (N := 384) (k := (r * 16) + c) (x := v) (f := vv σ) (hN := by first | assumption | omega) (hk := by first | assumption | omega))  gX1_changeValue_X5_putAt_n50 hK.2.2.2.2.1 (hts (.initialized RX5) (List.mem_of_getElem? (i := 3) rfl)) (hts (.static yX5_putAt) (List.mem_of_getElem? (i := 2) rfl)) rfl rfl rfl (by decide +kernel) ⟨Nat.le_of_ble_eq_true rfl, Nat.le_of_ble_eq_true rfl⟩ rfl hK hP hD [2] rfl (by decide)  hl.1 rfl (Nat.le_of_ble_eq_true rfl) dX1_changeValue_11 ⟨Nat.le_of_ble_eq_true rfl, Nat.le_of_ble_eq_true rfl⟩) hP hD hS [2] rfl (fun H locs hB11 back hS => ?_)
  have hP1 := hB11
  obtain ⟨hP, hD⟩ := back [ar G a2 384 (fun j => nI ((va_up (vv σ) ((r * 16) + c) v) j))] rfl hP1
  have hP : va_P G.1 vwCl [ob o 1 [.int (nI (nn σ)), .ref a1, .ref a2, .ref a3, .ref a4], ar G a1 24 (fun j => nI ((dd σ) j)), ar G a2 384 (fun j => nI ((va_up (vv σ) ((r * 16) + c) v) j)), ar G a3 24 (fun j => e9 ((ff σ) j)), ar G a4 24 (fun j => e9 ((ss σ) j))] H := hP
  have hD : va_D A [ob o 1 [.int (nI (nn σ)), .ref a1, .ref a2, .ref a3, .ref a4], ar G a1 24 (fun j => nI ((dd σ) j)), ar G a2 384 (fun j => nI ((va_up (vv σ) ((r * 16) + c) v) j)), ar G a3 24 (fun j => e9 ((ff σ) j)), ar G a4 24 (fun j => e9 ((ss σ) j))] := hD
  exact hret _ _ _ _ hS dX1_changeValue_14 (hP)

theorem iqX1_changeDefault_X1 : ∀ w ∈ u_ws RX1 TX1 5, w ∈ wsX1_changeDefault := by decide +kernel
set_option maxHeartbeats 1000000 in
set_option maxRecDepth 100000 in
theorem c_X1_changeDefault (l : Launch) (G : kG) (o a1 a2 a3 a4 : Nat) (σ : Sg) (r v : Nat) (hB : Bd σ) (hr : r < 24) (hv : v < 100) : Met l yX1_changeDefault wsX1_changeDefault ({ frames := 2, cells := 0, slots := 0, locals := 45 } : Room) (cP G [.ref o, .int (nI r), .int (nI v)] [ob o 1 [.int (nI (nn σ)), .ref a1, .ref a2, .ref a3, .ref a4], ar G a1 24 (fun j => nI ((dd σ) j)), ar G a2 384 (fun j => nI ((vv σ) j)), ar G a3 24 (fun j => e9 ((ff σ) j)), ar G a4 24 (fun j => e9 ((ss σ) j))]) (qV (fun H => va_P G.1 vwCl [ob o 1 [.int (nI (nn (cdS σ r v))), .ref a1, .ref a2, .ref a3, .ref a4], ar G a1 24 (fun j => nI ((dd (cdS σ r v)) j)), ar G a2 384 (fun j => nI ((vv (cdS σ r v)) j)), ar G a3 24 (fun j => e9 ((ff (cdS σ r v)) j)), ar G a4 24 (fun j => e9 ((ss (cdS σ r v)) j))] H) (mA [ob o 1 [.int (nI (nn σ)), .ref a1, .ref a2, .ref a3, .ref a4], ar G a1 24 (fun j => nI ((dd σ) j)), ar G a2 384 (fun j => nI ((vv σ) j)), ar G a3 24 (fun j => e9 ((ff σ) j)), ar G a4 24 (fun j => e9 ((ss σ) j))])) 0 0 (mA [ob o 1 [.int (nI (nn σ)), .ref a1, .ref a2, .ref a3, .ref a4], ar G a1 24 (fun j => nI ((dd σ) j)), ar G a2 384 (fun j => nI ((vv σ) j)), ar G a3 24 (fun j => e9 ((ff σ) j)), ar G a4 24 (fun j => e9 ((ss σ) j))]) := by
  refine met_muV (cc := cX1_changeDefault) (maxL := 4) (own := RX1) (by decide) rfl rfl (Nat.le_of_ble_eq_true rfl) ?_
  intro p e s m args below meth cod Q A hx hb hml hown hts hK hP hD hS hret ls hl
  have hl : lv_has ls 4 [(0, .ref o), (1, .int (nI r)), (2, .int (nI v))] := hl
  refine lv_iconst (v := (nI 0)) hx hb dX1_changeDefault_0 (by decide) ?_
  refine lv_istore_n (lv' := [(3, .int (nI 0)), (0, .ref o), (1, .int (nI r)), (2, .int (nI v))]) hx hb dX1_changeDefault_1 rfl hl (by decide) rfl (fun ls hl => ?_)
  have L2 : ∀ (fu : Nat) (c : Nat) (gv : Nat → Nat), 17 - c < fu → c ≤ 16 → gv = cdV σ r v c → (∀ k, gv k < 100) → ∀ (H : Heap) (locs : List Loc), va_P G.1 vwCl [ob o 1 [.int (nI (nn σ)), .ref a1, .ref a2, .ref a3, .ref a4], ar G a1 24 (fun j => nI ((dd σ) j)), ar G a2 384 (fun j => nI (gv j)), ar G a3 24 (fun j => e9 ((ff σ) j)), ar G a4 24 (fun j => e9 ((ss σ) j))] H → va_D A [ob o 1 [.int (nI (nn σ)), .ref a1, .ref a2, .ref a3, .ref a4], ar G a1 24 (fun j => nI ((dd σ) j)), ar G a2 384 (fun j => nI (gv j)), ar G a3 24 (fun j => e9 ((ff σ) j)), ar G a4 24 (fun j => e9 ((ss σ) j))] → va_S A s.heap H locs → ∀ (ls : Array Slot), lv_has ls 4 [(0, .ref o), (1, .int (nI r)), (2, .int (nI v)), (3, .int (nI c))] → W p l e ({ frames := 2, cells := 0, slots := 0, locals := 45 } : Room) s m args below meth cod H locs 0 0 Q (F0 m 2 ls []) := by
    intro fu
    induction fu with
    | zero => intro c gv hm; exact absurd hm (Nat.not_lt_zero _)
    | succ fu ih2 =>
      intro c gv hm2 hc hg hbg H locs hP hD hS ls hl
      have hP : va_P G.1 vwCl [ob o 1 [.int (nI (nn σ)), .ref a1, .ref a2, .ref a3, .ref a4], ar G a1 24 (fun j => nI ((dd σ) j)), ar G a2 384 (fun j => nI (gv j)), ar G a3 24 (fun j => e9 ((ff σ) j)), ar G a4 24 (fun j => e9 ((ss σ) j))] H := hP
      have hD : va_D A [ob o 1 [.int (nI (nn σ)), .ref a1, .ref a2, .ref a3, .ref a4], ar G a1 24 (fun j => nI ((dd σ) j)), ar G a2 384 (fun j => nI (gv j)), ar G a3 24 (fun j => e9 ((ff σ) j)), ar G a4 24 (fun j => e9 ((ss σ) j))] := hD
      refine lv_iload_n hx hb dX1_changeDefault_2 rfl (lv_at hl 3 rfl) ?_
      refine lv_bipush (v := (nI 16)) hx hb dX1_changeDefault_3 (by decide) ?_
      refine r_icmp_ge (P := 16 ≤ c) (tgt := 30) hx hb dX1_changeDefault_5 (by decide) (nI_leI (by omega) (by omega)) (fun cq5 => ?_) (fun cq5 => ?_)
      · refine lv_aload_n hx hb dX1_changeDefault_30 rfl (lv_at hl 0 rfl) ?_
        refine va_get (D := G.1) (ci := 1) (v := .ref a1) (C := RX1) (T := TX1) (N := 5) hx hb hts iqX1_changeDefault_X1 hown hK.1 hP 0 rfl rfl 1 (by decide) (hts (.fieldLink RX1 15 "PushedTables$State" "defaults" "[I") (List.mem_of_getElem? (i := 1) rfl)) (fun _ h9 => h9) rfl dX1_changeDefault_31 ?_
        refine lv_iload_n hx hb dX1_changeDefault_34 rfl (lv_at hl 1 rfl) ?_
        refine lv_iload_n hx hb dX1_changeDefault_35 rfl (lv_at hl 2 rfl) ?_
        refine g_V (k_SN (n := 3) (As := [.ref a1, .int (nI r), .int (nI v)]) (rest := []) (wc := [ar G a1 24 (fun j => nI ((dd σ) j))]) hx hb hml hown hts (c_X5_putAt_n (l := l) (G := G) (a := a1) (N := 24) (k := r) (x := v) (f := dd σ) (hN := by first | assumption | omega) (hk := by first | assumption | omega))  gX1_changeDefault_X5_putAt_n50 hK.2.2.2.2.1 (hts (.initialized RX5) (List.mem_of_getElem? (i := 9) rfl)) (hts (.static yX5_putAt) (List.mem_of_getElem? (i := 15) rfl)) rfl rfl rfl (by decide +kernel) ⟨Nat.le_of_ble_eq_true rfl, Nat.le_of_ble_eq_true rfl⟩ rfl hK hP hD [1] rfl (by decide)  hl.1 rfl (Nat.le_of_ble_eq_true rfl) dX1_changeDefault_36 ⟨Nat.le_of_ble_eq_true rfl, Nat.le_of_ble_eq_true rfl⟩) hP hD hS [1] rfl (fun H locs hB36 back hS => ?_)
        have hP1 := hB36
        obtain ⟨hP, hD⟩ := back [ar G a1 24 (fun j => nI ((va_up (dd σ) r v) j))] rfl hP1
        have hP : va_P G.1 vwCl [ob o 1 [.int (nI (nn σ)), .ref a1, .ref a2, .ref a3, .ref a4], ar G a1 24 (fun j => nI ((va_up (dd σ) r v) j)), ar G a2 384 (fun j => nI (gv j)), ar G a3 24 (fun j => e9 ((ff σ) j)), ar G a4 24 (fun j => e9 ((ss σ) j))] H := hP
        have hD : va_D A [ob o 1 [.int (nI (nn σ)), .ref a1, .ref a2, .ref a3, .ref a4], ar G a1 24 (fun j => nI ((va_up (dd σ) r v) j)), ar G a2 384 (fun j => nI (gv j)), ar G a3 24 (fun j => e9 ((ff σ) j)), ar G a4 24 (fun j => e9 ((ss σ) j))] := hD
        obtain rfl : c = 16 := by omega
        subst hg
        exact hret _ _ _ _ hS dX1_changeDefault_39 (hP)
      · have hB1 : Bd (nn σ, dd σ, gv, ff σ, ss σ) := ⟨hB.1, hB.2.1, hbg, hB.2.2.2⟩
        refine lv_aload_n hx hb dX1_changeDefault_8 rfl (lv_at hl 0 rfl) ?_
        refine lv_iload_n hx hb dX1_changeDefault_9 rfl (lv_at hl 1 rfl) ?_
        refine lv_iload_n hx hb dX1_changeDefault_10 rfl (lv_at hl 3 rfl) ?_
        refine g_ro (k_V (q0 := 0) (ci := 1) (n := 2) (As := [.int (nI r), .int (nI c)]) (rest := []) (wc := [ob o 1 [.int (nI (nn σ)), .ref a1, .ref a2, .ref a3, .ref a4], ar G a1 24 (fun j => nI ((dd σ) j)), ar G a2 384 (fun j => nI (gv j)), ar G a3 24 (fun j => e9 ((ff σ) j)), ar G a4 24 (fun j => e9 ((ss σ) j))]) hx hb hml hown hts (c_X1_isEntry (l := l) (G := G) (o := o) (a1 := a1) (a2 := a2) (a3 := a3) (a4 := a4) (σ := (nn σ, dd σ, gv, ff σ, ss σ)) (r := r) (c := c) (hB := by first | assumption | omega) (hr := by first | assumption | omega) (hc := by first | assumption | omega))  gX1_changeDefault_X1_isEntry rfl rfl rfl (by decide +kernel) ⟨Nat.le_of_ble_eq_true rfl, Nat.le_of_ble_eq_true rfl⟩ rfl hK hP hD [0, 1, 2, 3, 4] rfl (by decide)  rfl rfl rfl hl.1 rfl (Nat.le_of_ble_eq_true rfl) dX1_changeDefault_11 ⟨Nat.le_of_ble_eq_true rfl, Nat.le_of_ble_eq_true rfl⟩) (fun r11 h11 => ?_)
        obtain rfl : (bI (ent (nn σ, dd σ, gv, ff σ, ss σ) r c)) = r11 := Eq.symm h11
        refine r_if_ne (P := (ent (nn σ, dd σ, gv, ff σ, ss σ) r c) = false) (tgt := 24) hx hb dX1_changeDefault_14 (by decide) (bI_eq0) (fun cq14 => ?_) (fun cq14 => ?_)
        · have E1 := ent_t.mp (Bool.of_not_eq_false cq14)
          have E2 : vv σ (r * 16 + c) ≠ dd σ r := fun z => E1 (by show gv (r * 16 + c) = dd σ r; rw [hg, cdV_at]; exact z)
          refine r_iinc (v := c + 1) (lv' := [(3, .int (nI (c + 1))), (0, .ref o), (1, .int (nI r)), (2, .int (nI v))]) hx hb dX1_changeDefault_24 hl (k := 3) rfl (nI_1 _) (by decide) rfl (fun ls hl => ?_)
          refine lv_goto (tgt := 2) hx hb dX1_changeDefault_27 (by decide) ?_
          exact ih2 (c + 1) gv (by omega) (by omega) (by rw [hg]; exact cdV_e E2) (hbg) _ _ hP hD hS ls (lv_sub hl [1, 2, 3, 0] rfl)
        · have E1 := ent_f.mp cq14
          have E2 : vv σ (r * 16 + c) = dd σ r := by rw [← cdV_at σ r v c, ← hg]; exact E1
          refine lv_aload_n hx hb dX1_changeDefault_17 rfl (lv_at hl 0 rfl) ?_
          refine lv_iload_n hx hb dX1_changeDefault_18 rfl (lv_at hl 1 rfl) ?_
          refine lv_iload_n hx hb dX1_changeDefault_19 rfl (lv_at hl 3 rfl) ?_
          refine lv_iload_n hx hb dX1_changeDefault_20 rfl (lv_at hl 2 rfl) ?_
          refine g_V (k_V (q0 := 0) (ci := 1) (n := 3) (As := [.int (nI r), .int (nI c), .int (nI v)]) (rest := []) (wc := [ob o 1 [.int (nI (nn σ)), .ref a1, .ref a2, .ref a3, .ref a4], ar G a1 24 (fun j => nI ((dd σ) j)), ar G a2 384 (fun j => nI (gv j)), ar G a3 24 (fun j => e9 ((ff σ) j)), ar G a4 24 (fun j => e9 ((ss σ) j))]) hx hb hml hown hts (c_X1_changeValue (l := l) (G := G) (o := o) (a1 := a1) (a2 := a2) (a3 := a3) (a4 := a4) (σ := (nn σ, dd σ, gv, ff σ, ss σ)) (r := r) (c := c) (v := v) (hr := by first | assumption | omega) (hc := by first | assumption | omega))  gX1_changeDefault_X1_changeValue rfl rfl rfl (by decide +kernel) ⟨Nat.le_of_ble_eq_true rfl, Nat.le_of_ble_eq_true rfl⟩ rfl hK hP hD [0, 1, 2, 3, 4] rfl (by decide)  rfl rfl rfl hl.1 rfl (Nat.le_of_ble_eq_true rfl) dX1_changeDefault_21 ⟨Nat.le_of_ble_eq_true rfl, Nat.le_of_ble_eq_true rfl⟩) hP hD hS [0, 1, 2, 3, 4] rfl (fun H locs hB21 back hS => ?_)
          have hP1 := hB21
          obtain ⟨hP, hD⟩ := back [ob o 1 [.int (nI (nn σ)), .ref a1, .ref a2, .ref a3, .ref a4], ar G a1 24 (fun j => nI ((dd σ) j)), ar G a2 384 (fun j => nI ((va_up (gv) (r * 16 + c) v) j)), ar G a3 24 (fun j => e9 ((ff σ) j)), ar G a4 24 (fun j => e9 ((ss σ) j))] rfl hP1
          have hP : va_P G.1 vwCl [ob o 1 [.int (nI (nn σ)), .ref a1, .ref a2, .ref a3, .ref a4], ar G a1 24 (fun j => nI ((dd σ) j)), ar G a2 384 (fun j => nI ((va_up (gv) (r * 16 + c) v) j)), ar G a3 24 (fun j => e9 ((ff σ) j)), ar G a4 24 (fun j => e9 ((ss σ) j))] H := hP
          have hD : va_D A [ob o 1 [.int (nI (nn σ)), .ref a1, .ref a2, .ref a3, .ref a4], ar G a1 24 (fun j => nI ((dd σ) j)), ar G a2 384 (fun j => nI ((va_up (gv) (r * 16 + c) v) j)), ar G a3 24 (fun j => e9 ((ff σ) j)), ar G a4 24 (fun j => e9 ((ss σ) j))] := hD
          refine r_iinc (v := c + 1) (lv' := [(3, .int (nI (c + 1))), (0, .ref o), (1, .int (nI r)), (2, .int (nI v))]) hx hb dX1_changeDefault_24 hl (k := 3) rfl (nI_1 _) (by decide) rfl (fun ls hl => ?_)
          refine lv_goto (tgt := 2) hx hb dX1_changeDefault_27 (by decide) ?_
          exact ih2 (c + 1) (va_up (gv) (r * 16 + c) v) (by omega) (by omega) (by rw [hg]; exact cdV_d E2) (up_all (P := fun z => z < 100) hbg hv) _ _ hP hD hS ls (lv_sub hl [1, 2, 3, 0] rfl)
  exact L2 ((17 - 0) + 1) 0 (vv σ) (Nat.lt_succ_self _) (by omega) (cdV_0 σ r v) (hB.2.2.1) _ _ hP hD hS ls (lv_sub hl [1, 2, 3, 0] rfl)

theorem iqX1_slimDefault_X1 : ∀ w ∈ u_ws RX1 TX1 5, w ∈ wsX1_slimDefault := by decide +kernel
set_option maxHeartbeats 1000000 in
set_option maxRecDepth 100000 in
theorem c_X1_slimDefault (l : Launch) (G : kG) (o a1 a2 a3 a4 : Nat) (σ : Sg) (r : Nat) (hB : Bd σ) (hr : r < 24) : Met l yX1_slimDefault wsX1_slimDefault ({ frames := 4, cells := 0, slots := 0, locals := 93 } : Room) (cP G [.ref o, .int (nI r)] [ob o 1 [.int (nI (nn σ)), .ref a1, .ref a2, .ref a3, .ref a4], ar G a1 24 (fun j => nI ((dd σ) j)), ar G a2 384 (fun j => nI ((vv σ) j)), ar G a3 24 (fun j => e9 ((ff σ) j)), ar G a4 24 (fun j => e9 ((ss σ) j))]) (qV (fun H => va_P G.1 vwCl [ob o 1 [.int (nI (nn σ)), .ref a1, .ref a2, .ref a3, .ref a4], ar G a1 24 (fun j => nI ((va_up (dd σ) r (mv σ r)) j)), ar G a2 384 (fun j => nI ((vv σ) j)), ar G a3 24 (fun j => e9 ((ff σ) j)), ar G a4 24 (fun j => e9 ((ss σ) j))] H) (mA [ob o 1 [.int (nI (nn σ)), .ref a1, .ref a2, .ref a3, .ref a4], ar G a1 24 (fun j => nI ((dd σ) j)), ar G a2 384 (fun j => nI ((vv σ) j)), ar G a3 24 (fun j => e9 ((ff σ) j)), ar G a4 24 (fun j => e9 ((ss σ) j))])) 0 0 (mA [ob o 1 [.int (nI (nn σ)), .ref a1, .ref a2, .ref a3, .ref a4], ar G a1 24 (fun j => nI ((dd σ) j)), ar G a2 384 (fun j => nI ((vv σ) j)), ar G a3 24 (fun j => e9 ((ff σ) j)), ar G a4 24 (fun j => e9 ((ss σ) j))]) := by
  refine met_muV (cc := cX1_slimDefault) (maxL := 2) (own := RX1) (by decide) rfl rfl (Nat.le_of_ble_eq_true rfl) ?_
  intro p e s m args below meth cod Q A hx hb hml hown hts hK hP hD hS hret ls hl
  have hl : lv_has ls 2 [(0, .ref o), (1, .int (nI r))] := hl
  refine lv_aload_n hx hb dX1_slimDefault_0 rfl (lv_at hl 0 rfl) ?_
  refine va_get (D := G.1) (ci := 1) (v := .ref a1) (C := RX1) (T := TX1) (N := 5) hx hb hts iqX1_slimDefault_X1 hown hK.1 hP 0 rfl rfl 1 (by decide) (hts (.fieldLink RX1 15 "PushedTables$State" "defaults" "[I") (List.mem_of_getElem? (i := 1) rfl)) (fun _ h9 => h9) rfl dX1_slimDefault_1 ?_
  refine lv_iload_n hx hb dX1_slimDefault_4 rfl (lv_at hl 1 rfl) ?_
  refine lv_aload_n hx hb dX1_slimDefault_5 rfl (lv_at hl 0 rfl) ?_
  refine lv_iload_n hx hb dX1_slimDefault_6 rfl (lv_at hl 1 rfl) ?_
  refine g_ro (k_V (q0 := 0) (ci := 1) (n := 1) (As := [.int (nI r)]) (rest := [.int (nI r), .ref a1]) (wc := [ob o 1 [.int (nI (nn σ)), .ref a1, .ref a2, .ref a3, .ref a4], ar G a1 24 (fun j => nI ((dd σ) j)), ar G a2 384 (fun j => nI ((vv σ) j)), ar G a3 24 (fun j => e9 ((ff σ) j)), ar G a4 24 (fun j => e9 ((ss σ) j))]) hx hb hml hown hts (c_X1_commonestValue (l := l) (G := G) (o := o) (a1 := a1) (a2 := a2) (a3 := a3) (a4 := a4) (σ := σ) (r := r) (hB := by first | assumption | omega) (hr := by first | assumption | omega))  gX1_slimDefault_X1_commonestValue rfl rfl rfl (by decide +kernel) ⟨Nat.le_of_ble_eq_true rfl, Nat.le_of_ble_eq_true rfl⟩ rfl hK hP hD [0, 1, 2, 3, 4] rfl (by decide)  rfl rfl rfl hl.1 rfl (Nat.le_of_ble_eq_true rfl) dX1_slimDefault_7 ⟨Nat.le_of_ble_eq_true rfl, Nat.le_of_ble_eq_true rfl⟩) (fun r7 h7 => ?_)
  obtain rfl : (nI (mv σ r)) = r7 := Eq.symm h7
  have b7 := mv_lt σ r
  refine g_V (k_SN (n := 3) (As := [.ref a1, .int (nI r), .int (nI (mv σ r))]) (rest := []) (wc := [ar G a1 24 (fun j => nI ((dd σ) j))]) hx hb hml hown hts (c_X5_putAt_n (l := l) (G := G) (a := a1) (N := 24) (k := r) (x := mv σ r) (f := dd σ) (hN := by first | assumption | omega) (hk := by first | assumption | omega))  gX1_slimDefault_X5_putAt_n50 hK.2.2.2.2.1 (hts (.initialized RX5) (List.mem_of_getElem? (i := 13) rfl)) (hts (.static yX5_putAt) (List.mem_of_getElem? (i := 19) rfl)) rfl rfl rfl (by decide +kernel) ⟨Nat.le_of_ble_eq_true rfl, Nat.le_of_ble_eq_true rfl⟩ rfl hK hP hD [1] rfl (by decide)  hl.1 rfl (Nat.le_of_ble_eq_true rfl) dX1_slimDefault_10 ⟨Nat.le_of_ble_eq_true rfl, Nat.le_of_ble_eq_true rfl⟩) hP hD hS [1] rfl (fun H locs hB10 back hS => ?_)
  have hP1 := hB10
  obtain ⟨hP, hD⟩ := back [ar G a1 24 (fun j => nI ((va_up (dd σ) r (mv σ r)) j))] rfl hP1
  have hP : va_P G.1 vwCl [ob o 1 [.int (nI (nn σ)), .ref a1, .ref a2, .ref a3, .ref a4], ar G a1 24 (fun j => nI ((va_up (dd σ) r (mv σ r)) j)), ar G a2 384 (fun j => nI ((vv σ) j)), ar G a3 24 (fun j => e9 ((ff σ) j)), ar G a4 24 (fun j => e9 ((ss σ) j))] H := hP
  have hD : va_D A [ob o 1 [.int (nI (nn σ)), .ref a1, .ref a2, .ref a3, .ref a4], ar G a1 24 (fun j => nI ((va_up (dd σ) r (mv σ r)) j)), ar G a2 384 (fun j => nI ((vv σ) j)), ar G a3 24 (fun j => e9 ((ff σ) j)), ar G a4 24 (fun j => e9 ((ss σ) j))] := hD
  exact hret _ _ _ _ hS dX1_slimDefault_13 (hP)
