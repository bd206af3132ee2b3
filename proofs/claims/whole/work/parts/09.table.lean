theorem iqX1_copyFrom_X1 : ∀ w ∈ u_ws RX1 TX1 5, w ∈ wsX1_copyFrom := by decide +kernel
set_option maxHeartbeats 1000000 in
set_option maxRecDepth 100000 in
theorem c_X1_copyFrom (l : Launch) (G : kG) (o a1 a2 a3 a4 : Nat) (σ : Sg) (o2 d1 d2 d3 d4 : Nat) (ρ : Sg) : Met l yX1_copyFrom wsX1_copyFrom ({ frames := 1, cells := 0, slots := 0, locals := 40 } : Room) (cP G [.ref o, .ref o2] [ob o 1 [.int (nI (nn σ)), .ref a1, .ref a2, .ref a3, .ref a4], ar G a1 24 (fun j => nI ((dd σ) j)), ar G a2 384 (fun j => nI ((vv σ) j)), ar G a3 24 (fun j => e9 ((ff σ) j)), ar G a4 24 (fun j => e9 ((ss σ) j)), ob o2 1 [.int (nI (nn ρ)), .ref d1, .ref d2, .ref d3, .ref d4], ar G d1 24 (fun j => nI ((dd ρ) j)), ar G d2 384 (fun j => nI ((vv ρ) j)), ar G d3 24 (fun j => e9 ((ff ρ) j)), ar G d4 24 (fun j => e9 ((ss ρ) j))]) (qV (fun H => va_P G.1 vwCl [ob o 1 [.int (nI (nn ρ)), .ref a1, .ref a2, .ref a3, .ref a4], ar G a1 24 (fun j => nI ((dd ρ) j)), ar G a2 384 (fun j => nI ((vv ρ) j)), ar G a3 24 (fun j => e9 ((ff ρ) j)), ar G a4 24 (fun j => e9 ((ss ρ) j)), ob o2 1 [.int (nI (nn ρ)), .ref d1, .ref d2, .ref d3, .ref d4], ar G d1 24 (fun j => nI ((dd ρ) j)), ar G d2 384 (fun j => nI ((vv ρ) j)), ar G d3 24 (fun j => e9 ((ff ρ) j)), ar G d4 24 (fun j => e9 ((ss ρ) j))] H) (mA [ob o 1 [.int (nI (nn σ)), .ref a1, .ref a2, .ref a3, .ref a4], ar G a1 24 (fun j => nI ((dd σ) j)), ar G a2 384 (fun j => nI ((vv σ) j)), ar G a3 24 (fun j => e9 ((ff σ) j)), ar G a4 24 (fun j => e9 ((ss σ) j)), ob o2 1 [.int (nI (nn ρ)), .ref d1, .ref d2, .ref d3, .ref d4], ar G d1 24 (fun j => nI ((dd ρ) j)), ar G d2 384 (fun j => nI ((vv ρ) j)), ar G d3 24 (fun j => e9 ((ff ρ) j)), ar G d4 24 (fun j => e9 ((ss ρ) j))])) 0 0 (mA [ob o 1 [.int (nI (nn σ)), .ref a1, .ref a2, .ref a3, .ref a4], ar G a1 24 (fun j => nI ((dd σ) j)), ar G a2 384 (fun j => nI ((vv σ) j)), ar G a3 24 (fun j => e9 ((ff σ) j)), ar G a4 24 (fun j => e9 ((ss σ) j)), ob o2 1 [.int (nI (nn ρ)), .ref d1, .ref d2, .ref d3, .ref d4], ar G d1 24 (fun j => nI ((dd ρ) j)), ar G d2 384 (fun j => nI ((vv ρ) j)), ar G d3 24 (fun j => e9 ((ff ρ) j)), ar G d4 24 (fun j => e9 ((ss ρ) j))]) := by
  refine met_muV (cc := cX1_copyFrom) (maxL := 2) (own := RX1) (by decide) rfl rfl (Nat.le_of_ble_eq_true rfl) ?_
  intro p e s m args below meth cod Q A hx hb hml hown hts hK hP hD hS hret ls hl
  have hl : lv_has ls 2 [(0, .ref o), (1, .ref o2)] := hl
  refine lv_aload_n hx hb dX1_copyFrom_0 rfl (lv_at hl 0 rfl) ?_
  refine lv_aload_n hx hb dX1_copyFrom_1 rfl (lv_at hl 1 rfl) ?_
  refine va_get (D := G.1) (ci := 1) (v := .int (nI (nn ρ))) (C := RX1) (T := TX1) (N := 5) hx hb hts iqX1_copyFrom_X1 hown hK.1 hP 5 rfl rfl 0 (by decide) (hts (.fieldLink RX1 9 "PushedTables$State" "rowCount" "I") (List.mem_of_getElem? (i := 1) rfl)) (fun _ h9 => h9) rfl dX1_copyFrom_2 ?_
  refine va_put (D := G.1) (ci := 1) (v := .int (nI (nn ρ))) (ty := .int) (C := RX1) (T := TX1) (N := 5) hx hb hts iqX1_copyFrom_X1 tyX1 tyX1_ok nmX1 hown hK.1 hP hD hS 0 rfl rfl 0 (by decide) (hts (.fieldLink RX1 9 "PushedTables$State" "rowCount" "I") (List.mem_of_getElem? (i := 1) rfl)) (fun _ h9 => h9) rfl (by decide +kernel) rfl rfl (Nat.le_of_ble_eq_true rfl) dX1_copyFrom_5 (fun H locs hP hD hS => ?_)
  have hP : va_P G.1 vwCl [ob o 1 [.int (nI (nn ρ)), .ref a1, .ref a2, .ref a3, .ref a4], ar G a1 24 (fun j => nI ((dd σ) j)), ar G a2 384 (fun j => nI ((vv σ) j)), ar G a3 24 (fun j => e9 ((ff σ) j)), ar G a4 24 (fun j => e9 ((ss σ) j)), ob o2 1 [.int (nI (nn ρ)), .ref d1, .ref d2, .ref d3, .ref d4], ar G d1 24 (fun j => nI ((dd ρ) j)), ar G d2 384 (fun j => nI ((vv ρ) j)), ar G d3 24 (fun j => e9 ((ff ρ) j)), ar G d4 24 (fun j => e9 ((ss ρ) j))] H := hP
  have hD : va_D A [ob o 1 [.int (nI (nn ρ)), .ref a1, .ref a2, .ref a3, .ref a4], ar G a1 24 (fun j => nI ((dd σ) j)), ar G a2 384 (fun j => nI ((vv σ) j)), ar G a3 24 (fun j => e9 ((ff σ) j)), ar G a4 24 (fun j => e9 ((ss σ) j)), ob o2 1 [.int (nI (nn ρ)), .ref d1, .ref d2, .ref d3, .ref d4], ar G d1 24 (fun j => nI ((dd ρ) j)), ar G d2 384 (fun j => nI ((vv ρ) j)), ar G d3 24 (fun j => e9 ((ff ρ) j)), ar G d4 24 (fun j => e9 ((ss ρ) j))] := hD
  refine lv_aload_n hx hb dX1_copyFrom_8 rfl (lv_at hl 1 rfl) ?_
  refine va_get (D := G.1) (ci := 1) (v := .ref d1) (C := RX1) (T := TX1) (N := 5) hx hb hts iqX1_copyFrom_X1 hown hK.1 hP 5 rfl rfl 1 (by decide) (hts (.fieldLink RX1 15 "PushedTables$State" "defaults" "[I") (List.mem_of_getElem? (i := 2) rfl)) (fun _ h9 => h9) rfl dX1_copyFrom_9 ?_
  refine lv_iconst (v := (nI 0)) hx hb dX1_copyFrom_12 (by decide) ?_
  refine lv_aload_n hx hb dX1_copyFrom_13 rfl (lv_at hl 0 rfl) ?_
  refine va_get (D := G.1) (ci := 1) (v := .ref a1) (C := RX1) (T := TX1) (N := 5) hx hb hts iqX1_copyFrom_X1 hown hK.1 hP 0 rfl rfl 1 (by decide) (hts (.fieldLink RX1 15 "PushedTables$State" "defaults" "[I") (List.mem_of_getElem? (i := 2) rfl)) (fun _ h9 => h9) rfl dX1_copyFrom_14 ?_
  refine lv_iconst (v := (nI 0)) hx hb dX1_copyFrom_17 (by decide) ?_
  refine lv_bipush (v := (nI 24)) hx hb dX1_copyFrom_18 (by decide) ?_
  refine r_copy hx hb (by rw [hml]; exact hl.1.symm) hown (hts (.methodLink RX1 31 arraycopyName) (List.mem_of_getElem? (i := 3) rfl)) (hts (.native arraycopyName) (List.mem_of_getElem? (i := 4) rfl)) (hts (.static arraycopyName) (List.mem_of_getElem? (i := 5) rfl)) (hts (.initialized "java/lang/System") (List.mem_of_getElem? (i := 6) rfl)) hK.1 hP hD hS 6 1 0 0 rfl rfl rfl rfl (by decide) (by decide) dX1_copyFrom_20 (fun H locs hP hD hS => ?_)
  have hP : va_P G.1 vwCl [ob o 1 [.int (nI (nn ρ)), .ref a1, .ref a2, .ref a3, .ref a4], ar G a1 24 (fun j => nI ((dd ρ) j)), ar G a2 384 (fun j => nI ((vv σ) j)), ar G a3 24 (fun j => e9 ((ff σ) j)), ar G a4 24 (fun j => e9 ((ss σ) j)), ob o2 1 [.int (nI (nn ρ)), .ref d1, .ref d2, .ref d3, .ref d4], ar G d1 24 (fun j => nI ((dd ρ) j)), ar G d2 384 (fun j => nI ((vv ρ) j)), ar G d3 24 (fun j => e9 ((ff ρ) j)), ar G d4 24 (fun j => e9 ((ss ρ) j))] H := hP
  have hD : va_D A [ob o 1 [.int (nI (nn ρ)), .ref a1, .ref a2, .ref a3, .ref a4], ar G a1 24 (fun j => nI ((dd ρ) j)), ar G a2 384 (fun j => nI ((vv σ) j)), ar G a3 24 (fun j => e9 ((ff σ) j)), ar G a4 24 (fun j => e9 ((ss σ) j)), ob o2 1 [.int (nI (nn ρ)), .ref d1, .ref d2, .ref d3, .ref d4], ar G d1 24 (fun j => nI ((dd ρ) j)), ar G d2 384 (fun j => nI ((vv ρ) j)), ar G d3 24 (fun j => e9 ((ff ρ) j)), ar G d4 24 (fun j => e9 ((ss ρ) j))] := hD
  refine lv_aload_n hx hb dX1_copyFrom_23 rfl (lv_at hl 1 rfl) ?_
  refine va_get (D := G.1) (ci := 1) (v := .ref d2) (C := RX1) (T := TX1) (N := 5) hx hb hts iqX1_copyFrom_X1 hown hK.1 hP 5 rfl rfl 2 (by decide) (hts (.fieldLink RX1 19 "PushedTables$State" "values" "[I") (List.mem_of_getElem? (i := 7) rfl)) (fun _ h9 => h9) rfl dX1_copyFrom_24 ?_
  refine lv_iconst (v := (nI 0)) hx hb dX1_copyFrom_27 (by decide) ?_
  refine lv_aload_n hx hb dX1_copyFrom_28 rfl (lv_at hl 0 rfl) ?_
  refine va_get (D := G.1) (ci := 1) (v := .ref a2) (C := RX1) (T := TX1) (N := 5) hx hb hts iqX1_copyFrom_X1 hown hK.1 hP 0 rfl rfl 2 (by decide) (hts (.fieldLink RX1 19 "PushedTables$State" "values" "[I") (List.mem_of_getElem? (i := 7) rfl)) (fun _ h9 => h9) rfl dX1_copyFrom_29 ?_
  refine lv_iconst (v := (nI 0)) hx hb dX1_copyFrom_32 (by decide) ?_
  refine lv_sipush (v := (nI 384)) hx hb dX1_copyFrom_33 (by decide) ?_
  refine r_copy hx hb (by rw [hml]; exact hl.1.symm) hown (hts (.methodLink RX1 31 arraycopyName) (List.mem_of_getElem? (i := 3) rfl)) (hts (.native arraycopyName) (List.mem_of_getElem? (i := 4) rfl)) (hts (.static arraycopyName) (List.mem_of_getElem? (i := 5) rfl)) (hts (.initialized "java/lang/System") (List.mem_of_getElem? (i := 6) rfl)) hK.1 hP hD hS 7 2 0 0 rfl rfl rfl rfl (by decide) (by decide) dX1_copyFrom_36 (fun H locs hP hD hS => ?_)
  have hP : va_P G.1 vwCl [ob o 1 [.int (nI (nn ρ)), .ref a1, .ref a2, .ref a3, .ref a4], ar G a1 24 (fun j => nI ((dd ρ) j)), ar G a2 384 (fun j => nI ((vv ρ) j)), ar G a3 24 (fun j => e9 ((ff σ) j)), ar G a4 24 (fun j => e9 ((ss σ) j)), ob o2 1 [.int (nI (nn ρ)), .ref d1, .ref d2, .ref d3, .ref d4], ar G d1 24 (fun j => nI ((dd ρ) j)), ar G d2 384 (fun j => nI ((vv ρ) j)), ar G d3 24 (fun j => e9 ((ff ρ) j)), ar G d4 24 (fun j => e9 ((ss ρ) j))] H := hP
  have hD : va_D A [ob o 1 [.int (nI (nn ρ)), .ref a1, .ref a2, .ref a3, .ref a4], ar G a1 24 (fun j => nI ((dd ρ) j)), ar G a2 384 (fun j => nI ((vv ρ) j)), ar G a3 24 (fun j => e9 ((ff σ) j)), ar G a4 24 (fun j => e9 ((ss σ) j)), ob o2 1 [.int (nI (nn ρ)), .ref d1, .ref d2, .ref d3, .ref d4], ar G d1 24 (fun j => nI ((dd ρ) j)), ar G d2 384 (fun j => nI ((vv ρ) j)), ar G d3 24 (fun j => e9 ((ff ρ) j)), ar G d4 24 (fun j => e9 ((ss ρ) j))] := hD
  refine lv_aload_n hx hb dX1_copyFrom_39 rfl (lv_at hl 1 rfl) ?_
  refine va_get (D := G.1) (ci := 1) (v := .ref d3) (C := RX1) (T := TX1) (N := 5) hx hb hts iqX1_copyFrom_X1 hown hK.1 hP 5 rfl rfl 3 (by decide) (hts (.fieldLink RX1 22 "PushedTables$State" "forms" "[I") (List.mem_of_getElem? (i := 8) rfl)) (fun _ h9 => h9) rfl dX1_copyFrom_40 ?_
  refine lv_iconst (v := (nI 0)) hx hb dX1_copyFrom_43 (by decide) ?_
  refine lv_aload_n hx hb dX1_copyFrom_44 rfl (lv_at hl 0 rfl) ?_
  refine va_get (D := G.1) (ci := 1) (v := .ref a3) (C := RX1) (T := TX1) (N := 5) hx hb hts iqX1_copyFrom_X1 hown hK.1 hP 0 rfl rfl 3 (by decide) (hts (.fieldLink RX1 22 "PushedTables$State" "forms" "[I") (List.mem_of_getElem? (i := 8) rfl)) (fun _ h9 => h9) rfl dX1_copyFrom_45 ?_
  refine lv_iconst (v := (nI 0)) hx hb dX1_copyFrom_48 (by decide) ?_
  refine lv_bipush (v := (nI 24)) hx hb dX1_copyFrom_49 (by decide) ?_
  refine r_copy hx hb (by rw [hml]; exact hl.1.symm) hown (hts (.methodLink RX1 31 arraycopyName) (List.mem_of_getElem? (i := 3) rfl)) (hts (.native arraycopyName) (List.mem_of_getElem? (i := 4) rfl)) (hts (.static arraycopyName) (List.mem_of_getElem? (i := 5) rfl)) (hts (.initialized "java/lang/System") (List.mem_of_getElem? (i := 6) rfl)) hK.1 hP hD hS 8 3 0 0 rfl rfl rfl rfl (by decide) (by decide) dX1_copyFrom_51 (fun H locs hP hD hS => ?_)
  have hP : va_P G.1 vwCl [ob o 1 [.int (nI (nn ρ)), .ref a1, .ref a2, .ref a3, .ref a4], ar G a1 24 (fun j => nI ((dd ρ) j)), ar G a2 384 (fun j => nI ((vv ρ) j)), ar G a3 24 (fun j => e9 ((ff ρ) j)), ar G a4 24 (fun j => e9 ((ss σ) j)), ob o2 1 [.int (nI (nn ρ)), .ref d1, .ref d2, .ref d3, .ref d4], ar G d1 24 (fun j => nI ((dd ρ) j)), ar G d2 384 (fun j => nI ((vv ρ) j)), ar G d3 24 (fun j => e9 ((ff ρ) j)), ar G d4 24 (fun j => e9 ((ss ρ) j))] H := hP
  have hD : va_D A [ob o 1 [.int (nI (nn ρ)), .ref a1, .ref a2, .ref a3, .ref a4], ar G a1 24 (fun j => nI ((dd ρ) j)), ar G a2 384 (fun j => nI ((vv ρ) j)), ar G a3 24 (fun j => e9 ((ff ρ) j)), ar G a4 24 (fun j => e9 ((ss σ) j)), ob o2 1 [.int (nI (nn ρ)), .ref d1, .ref d2, .ref d3, .ref d4], ar G d1 24 (fun j => nI ((dd ρ) j)), ar G d2 384 (fun j => nI ((vv ρ) j)), ar G d3 24 (fun j => e9 ((ff ρ) j)), ar G d4 24 (fun j => e9 ((ss ρ) j))] := hD
  refine lv_aload_n hx hb dX1_copyFrom_54 rfl (lv_at hl 1 rfl) ?_
  refine va_get (D := G.1) (ci := 1) (v := .ref d4) (C := RX1) (T := TX1) (N := 5) hx hb hts iqX1_copyFrom_X1 hown hK.1 hP 5 rfl rfl 4 (by decide) (hts (.fieldLink RX1 25 "PushedTables$State" "shifts" "[I") (List.mem_of_getElem? (i := 9) rfl)) (fun _ h9 => h9) rfl dX1_copyFrom_55 ?_
  refine lv_iconst (v := (nI 0)) hx hb dX1_copyFrom_58 (by decide) ?_
  refine lv_aload_n hx hb dX1_copyFrom_59 rfl (lv_at hl 0 rfl) ?_
  refine va_get (D := G.1) (ci := 1) (v := .ref a4) (C := RX1) (T := TX1) (N := 5) hx hb hts iqX1_copyFrom_X1 hown hK.1 hP 0 rfl rfl 4 (by decide) (hts (.fieldLink RX1 25 "PushedTables$State" "shifts" "[I") (List.mem_of_getElem? (i := 9) rfl)) (fun _ h9 => h9) rfl dX1_copyFrom_60 ?_
  refine lv_iconst (v := (nI 0)) hx hb dX1_copyFrom_63 (by decide) ?_
  refine lv_bipush (v := (nI 24)) hx hb dX1_copyFrom_64 (by decide) ?_
  refine r_copy hx hb (by rw [hml]; exact hl.1.symm) hown (hts (.methodLink RX1 31 arraycopyName) (List.mem_of_getElem? (i := 3) rfl)) (hts (.native arraycopyName) (List.mem_of_getElem? (i := 4) rfl)) (hts (.static arraycopyName) (List.mem_of_getElem? (i := 5) rfl)) (hts (.initialized "java/lang/System") (List.mem_of_getElem? (i := 6) rfl)) hK.1 hP hD hS 9 4 0 0 rfl rfl rfl rfl (by decide) (by decide) dX1_copyFrom_66 (fun H locs hP hD hS => ?_)
  have hP : va_P G.1 vwCl [ob o 1 [.int (nI (nn ρ)), .ref a1, .ref a2, .ref a3, .ref a4], ar G a1 24 (fun j => nI ((dd ρ) j)), ar G a2 384 (fun j => nI ((vv ρ) j)), ar G a3 24 (fun j => e9 ((ff ρ) j)), ar G a4 24 (fun j => e9 ((ss ρ) j)), ob o2 1 [.int (nI (nn ρ)), .ref d1, .ref d2, .ref d3, .ref d4], ar G d1 24 (fun j => nI ((dd ρ) j)), ar G d2 384 (fun j => nI ((vv ρ) j)), ar G d3 24 (fun j => e9 ((ff ρ) j)), ar G d4 24 (fun j => e9 ((ss ρ) j))] H := hP
  have hD : va_D A [ob o 1 [.int (nI (nn ρ)), .ref a1, .ref a2, .ref a3, .ref a4], ar G a1 24 (fun j => nI ((dd ρ) j)), ar G a2 384 (fun j => nI ((vv ρ) j)), ar G a3 24 (fun j => e9 ((ff ρ) j)), ar G a4 24 (fun j => e9 ((ss ρ) j)), ob o2 1 [.int (nI (nn ρ)), .ref d1, .ref d2, .ref d3, .ref d4], ar G d1 24 (fun j => nI ((dd ρ) j)), ar G d2 384 (fun j => nI ((vv ρ) j)), ar G d3 24 (fun j => e9 ((ff ρ) j)), ar G d4 24 (fun j => e9 ((ss ρ) j))] := hD
  exact hret _ _ _ _ hS dX1_copyFrom_69 (hP)

theorem iqX3_fillCellsOf_X3 : ∀ w ∈ u_ws RX3 TX3 2, w ∈ wsX3_fillCellsOf := by decide +kernel
set_option maxHeartbeats 1000000 in
set_option maxRecDepth 100000 in
theorem c_X3_fillCellsOf (l : Launch) (G : kG) (t : Nat) (o a1 a2 a3 a4 : Nat) (σ : Sg) (q b1 b2 : Nat) (cv cm : Nat → Nat) (hB : Bd σ) (hv : Bc 100 cv) (hm : Bc 24 cm) (r : Nat) (hr : r < 24) : Met l yX3_fillCellsOf wsX3_fillCellsOf ({ frames := 2, cells := 0, slots := 0, locals := 45 } : Room) (cP G [.ref t, .int (nI r)] [ob t 3 [.ref o, .ref q], ob o 1 [.int (nI (nn σ)), .ref a1, .ref a2, .ref a3, .ref a4], ar G a1 24 (fun j => nI ((dd σ) j)), ar G a2 384 (fun j => nI ((vv σ) j)), ar G a3 24 (fun j => e9 ((ff σ) j)), ar G a4 24 (fun j => e9 ((ss σ) j)), ob q 2 [.ref b1, .ref b2], ar G b1 800 (fun j => e9 (cv j)), ar G b2 800 (fun j => e9 (cm j))]) (qV (fun H => ∃ (cv1 : Nat → Nat) (cm1 : Nat → Nat), (σ, cv1, cm1) = fcT σ cv cm r ∧ Bc 100 cv1 ∧ Bc 24 cm1 ∧ va_P G.1 vwCl [ob t 3 [.ref o, .ref q], ob o 1 [.int (nI (nn σ)), .ref a1, .ref a2, .ref a3, .ref a4], ar G a1 24 (fun j => nI ((dd σ) j)), ar G a2 384 (fun j => nI ((vv σ) j)), ar G a3 24 (fun j => e9 ((ff σ) j)), ar G a4 24 (fun j => e9 ((ss σ) j)), ob q 2 [.ref b1, .ref b2], ar G b1 800 (fun j => e9 (cv1 j)), ar G b2 800 (fun j => e9 (cm1 j))] H) (mA [ob t 3 [.ref o, .ref q], ob o 1 [.int (nI (nn σ)), .ref a1, .ref a2, .ref a3, .ref a4], ar G a1 24 (fun j => nI ((dd σ) j)), ar G a2 384 (fun j => nI ((vv σ) j)), ar G a3 24 (fun j => e9 ((ff σ) j)), ar G a4 24 (fun j => e9 ((ss σ) j)), ob q 2 [.ref b1, .ref b2], ar G b1 800 (fun j => e9 (cv j)), ar G b2 800 (fun j => e9 (cm j))])) 0 0 (mA [ob t 3 [.ref o, .ref q], ob o 1 [.int (nI (nn σ)), .ref a1, .ref a2, .ref a3, .ref a4], ar G a1 24 (fun j => nI ((dd σ) j)), ar G a2 384 (fun j => nI ((vv σ) j)), ar G a3 24 (fun j => e9 ((ff σ) j)), ar G a4 24 (fun j => e9 ((ss σ) j)), ob q 2 [.ref b1, .ref b2], ar G b1 800 (fun j => e9 (cv j)), ar G b2 800 (fun j => e9 (cm j))]) := by
  refine met_muV (cc := cX3_fillCellsOf) (maxL := 5) (own := RX3) (by decide) rfl rfl (Nat.le_of_ble_eq_true rfl) ?_
  intro p e s m args below meth cod Q A hx hb hml hown hts hK hP hD hS hret ls hl
  have hl : lv_has ls 5 [(0, .ref t), (1, .int (nI r))] := hl
  refine lv_aload_n hx hb dX3_fillCellsOf_0 rfl (lv_at hl 0 rfl) ?_
  refine va_get (D := G.1) (ci := 3) (v := .ref o) (C := RX3) (T := TX3) (N := 2) hx hb hts iqX3_fillCellsOf_X3 hown hK.1 hP 0 rfl rfl 0 (by decide) (hts (.fieldLink RX3 12 "PushedTables$Table" "state" "LPushedTables$State;") (List.mem_of_getElem? (i := 1) rfl)) (fun _ h9 => h9) rfl dX3_fillCellsOf_1 ?_
  refine lv_iload_n hx hb dX3_fillCellsOf_4 rfl (lv_at hl 1 rfl) ?_
  refine g_ro (k_V (q0 := 1) (ci := 1) (n := 1) (As := [.int (nI r)]) (rest := []) (wc := [ob o 1 [.int (nI (nn σ)), .ref a1, .ref a2, .ref a3, .ref a4], ar G a1 24 (fun j => nI ((dd σ) j)), ar G a2 384 (fun j => nI ((vv σ) j)), ar G a3 24 (fun j => e9 ((ff σ) j)), ar G a4 24 (fun j => e9 ((ss σ) j))]) hx hb hml hown hts (c_X1_formOf (l := l) (G := G) (o := o) (a1 := a1) (a2 := a2) (a3 := a3) (a4 := a4) (σ := σ) (r := r) (hB := by first | assumption | omega) (hr := by first | assumption | omega))  gX3_fillCellsOf_X1_formOf rfl rfl rfl (by decide +kernel) ⟨Nat.le_of_ble_eq_true rfl, Nat.le_of_ble_eq_true rfl⟩ rfl hK hP hD [1, 2, 3, 4, 5] rfl (by decide)  rfl rfl rfl hl.1 rfl (Nat.le_of_ble_eq_true rfl) dX3_fillCellsOf_5 ⟨Nat.le_of_ble_eq_true rfl, Nat.le_of_ble_eq_true rfl⟩) (fun r5 h5 => ?_)
  obtain rfl : (e9 (ff σ r)) = r5 := Eq.symm h5
  have b5 := Bd.f (by assumption : Bd σ) r
  refine lv_istore_n (lv' := [(2, .int (e9 (ff σ r))), (0, .ref t), (1, .int (nI r))]) hx hb dX3_fillCellsOf_8 rfl hl (by decide) rfl (fun ls hl => ?_)
  refine lv_aload_n hx hb dX3_fillCellsOf_9 rfl (lv_at hl 1 rfl) ?_
  refine va_get (D := G.1) (ci := 3) (v := .ref o) (C := RX3) (T := TX3) (N := 2) hx hb hts iqX3_fillCellsOf_X3 hown hK.1 hP 0 rfl rfl 0 (by decide) (hts (.fieldLink RX3 12 "PushedTables$Table" "state" "LPushedTables$State;") (List.mem_of_getElem? (i := 1) rfl)) (fun _ h9 => h9) rfl dX3_fillCellsOf_10 ?_
  refine lv_iload_n hx hb dX3_fillCellsOf_13 rfl (lv_at hl 0 rfl) ?_
  refine g_ro (k_V (q0 := 1) (ci := 1) (n := 1) (As := [.int (e9 (ff σ r))]) (rest := []) (wc := [ob o 1 [.int (nI (nn σ)), .ref a1, .ref a2, .ref a3, .ref a4], ar G a1 24 (fun j => nI ((dd σ) j)), ar G a2 384 (fun j => nI ((vv σ) j)), ar G a3 24 (fun j => e9 ((ff σ) j)), ar G a4 24 (fun j => e9 ((ss σ) j))]) hx hb hml hown hts (c_X1_shiftOf (l := l) (G := G) (o := o) (a1 := a1) (a2 := a2) (a3 := a3) (a4 := a4) (σ := σ) (f := ff σ r) (xf := (e9 (ff σ r))) (hxf := rfl) (hB := by first | assumption | omega) (hf := by first | assumption | omega))  gX3_fillCellsOf_X1_shiftOf rfl rfl rfl (by decide +kernel) ⟨Nat.le_of_ble_eq_true rfl, Nat.le_of_ble_eq_true rfl⟩ rfl hK hP hD [1, 2, 3, 4, 5] rfl (by decide)  rfl rfl rfl hl.1 rfl (Nat.le_of_ble_eq_true rfl) dX3_fillCellsOf_14 ⟨Nat.le_of_ble_eq_true rfl, Nat.le_of_ble_eq_true rfl⟩) (fun r14 h14 => ?_)
  obtain rfl : (e9 (shf σ (ff σ r))) = r14 := Eq.symm h14
  have b14 := shf_le (by assumption : Bd σ) (ff σ r)
  refine lv_istore_n (lv' := [(3, .int (e9 (shf σ (ff σ r)))), (2, .int (e9 (ff σ r))), (0, .ref t), (1, .int (nI r))]) hx hb dX3_fillCellsOf_17 rfl hl (by decide) rfl (fun ls hl => ?_)
  refine lv_iload_n hx hb dX3_fillCellsOf_18 rfl (lv_at hl 0 rfl) ?_
  refine lv_bipush (v := (e9 1000)) hx hb dX3_fillCellsOf_19 (by decide) ?_
  refine r_icmp_ne (P := (shf σ (ff σ r)) = 1000) (tgt := 25) hx hb dX3_fillCellsOf_21 (by decide) (e9_inj (by omega) (by omega)) (fun cq21 => ?_) (fun cq21 => ?_)
  · refine lv_iconst (v := (nI 0)) hx hb dX3_fillCellsOf_25 (by decide) ?_
    refine lv_istore (lv' := [(4, .int (nI 0)), (3, .int (e9 (shf σ (ff σ r)))), (2, .int (e9 (ff σ r))), (0, .ref t), (1, .int (nI r))]) hx hb dX3_fillCellsOf_26 hl (by decide) rfl (fun ls hl => ?_)
    have L28 : ∀ (fu : Nat) (c : Nat) (gv : Nat → Nat) (gm : Nat → Nat), 17 - c < fu → c ≤ 16 → gv = flV σ cv r (shf σ (ff σ r)) c → gm = flM σ cm r (shf σ (ff σ r)) c → ∀ (H : Heap) (locs : List Loc), va_P G.1 vwCl [ob t 3 [.ref o, .ref q], ob o 1 [.int (nI (nn σ)), .ref a1, .ref a2, .ref a3, .ref a4], ar G a1 24 (fun j => nI ((dd σ) j)), ar G a2 384 (fun j => nI ((vv σ) j)), ar G a3 24 (fun j => e9 ((ff σ) j)), ar G a4 24 (fun j => e9 ((ss σ) j)), ob q 2 [.ref b1, .ref b2], ar G b1 800 (fun j => e9 (gv j)), ar G b2 800 (fun j => e9 (gm j))] H → va_D A [ob t 3 [.ref o, .ref q], ob o 1 [.int (nI (nn σ)), .ref a1, .ref a2, .ref a3, .ref a4], ar G a1 24 (fun j => nI ((dd σ) j)), ar G a2 384 (fun j => nI ((vv σ) j)), ar G a3 24 (fun j => e9 ((ff σ) j)), ar G a4 24 (fun j => e9 ((ss σ) j)), ob q 2 [.ref b1, .ref b2], ar G b1 800 (fun j => e9 (gv j)), ar G b2 800 (fun j => e9 (gm j))] → va_S A s.heap H locs → ∀ (ls : Array Slot), lv_has ls 5 [(0, .ref t), (1, .int (nI r)), (2, .int (e9 (ff σ r))), (3, .int (e9 (shf σ (ff σ r)))), (4, .int (nI c))] → W p l e ({ frames := 2, cells := 0, slots := 0, locals := 45 } : Room) s m args below meth cod H locs 0 0 Q (F0 m 28 ls []) := by
      intro fu
      induction fu with
      | zero => intro c gv gm hm; exact absurd hm (Nat.not_lt_zero _)
      | succ fu ih28 =>
        intro c gv gm hm28 hc hgv hgm H locs hP hD hS ls hl
        have hP : va_P G.1 vwCl [ob t 3 [.ref o, .ref q], ob o 1 [.int (nI (nn σ)), .ref a1, .ref a2, .ref a3, .ref a4], ar G a1 24 (fun j => nI ((dd σ) j)), ar G a2 384 (fun j => nI ((vv σ) j)), ar G a3 24 (fun j => e9 ((ff σ) j)), ar G a4 24 (fun j => e9 ((ss σ) j)), ob q 2 [.ref b1, .ref b2], ar G b1 800 (fun j => e9 (gv j)), ar G b2 800 (fun j => e9 (gm j))] H := hP
        have hD : va_D A [ob t 3 [.ref o, .ref q], ob o 1 [.int (nI (nn σ)), .ref a1, .ref a2, .ref a3, .ref a4], ar G a1 24 (fun j => nI ((dd σ) j)), ar G a2 384 (fun j => nI ((vv σ) j)), ar G a3 24 (fun j => e9 ((ff σ) j)), ar G a4 24 (fun j => e9 ((ss σ) j)), ob q 2 [.ref b1, .ref b2], ar G b1 800 (fun j => e9 (gv j)), ar G b2 800 (fun j => e9 (gm j))] := hD
        refine lv_iload hx hb dX3_fillCellsOf_28 (lv_at hl 4 rfl) ?_
        refine lv_bipush (v := (nI 16)) hx hb dX3_fillCellsOf_30 (by decide) ?_
        refine r_icmp_ge (P := 16 ≤ c) (tgt := 76) hx hb dX3_fillCellsOf_32 (by decide) (nI_leI (by omega) (by omega)) (fun cq32 => ?_) (fun cq32 => ?_)
        · obtain rfl : c = 16 := by omega
          exact hret _ _ _ _ hS dX3_fillCellsOf_76 (⟨gv, gm, by unfold fcT; rw [if_neg cq21, hgv, hgm], by rw [hgv]; exact flV_Bc hB hv, by rw [hgm]; exact flM_Bc hB hm, hP⟩)
        · refine lv_aload_n hx hb dX3_fillCellsOf_35 rfl (lv_at hl 0 rfl) ?_
          refine va_get (D := G.1) (ci := 3) (v := .ref o) (C := RX3) (T := TX3) (N := 2) hx hb hts iqX3_fillCellsOf_X3 hown hK.1 hP 0 rfl rfl 0 (by decide) (hts (.fieldLink RX3 12 "PushedTables$Table" "state" "LPushedTables$State;") (List.mem_of_getElem? (i := 1) rfl)) (fun _ h9 => h9) rfl dX3_fillCellsOf_36 ?_
          refine lv_iload_n hx hb dX3_fillCellsOf_39 rfl (lv_at hl 1 rfl) ?_
          refine lv_iload hx hb dX3_fillCellsOf_40 (lv_at hl 4 rfl) ?_
          refine g_ro (k_V (q0 := 1) (ci := 1) (n := 2) (As := [.int (nI r), .int (nI c)]) (rest := []) (wc := [ob o 1 [.int (nI (nn σ)), .ref a1, .ref a2, .ref a3, .ref a4], ar G a1 24 (fun j => nI ((dd σ) j)), ar G a2 384 (fun j => nI ((vv σ) j)), ar G a3 24 (fun j => e9 ((ff σ) j)), ar G a4 24 (fun j => e9 ((ss σ) j))]) hx hb hml hown hts (c_X1_isEntry (l := l) (G := G) (o := o) (a1 := a1) (a2 := a2) (a3 := a3) (a4 := a4) (σ := σ) (r := r) (c := c) (hB := by first | assumption | omega) (hr := by first | assumption | omega) (hc := by first | assumption | omega))  gX3_fillCellsOf_X1_isEntry rfl rfl rfl (by decide +kernel) ⟨Nat.le_of_ble_eq_true rfl, Nat.le_of_ble_eq_true rfl⟩ rfl hK hP hD [1, 2, 3, 4, 5] rfl (by decide)  rfl rfl rfl hl.1 rfl (Nat.le_of_ble_eq_true rfl) dX3_fillCellsOf_42 ⟨Nat.le_of_ble_eq_true rfl, Nat.le_of_ble_eq_true rfl⟩) (fun r42 h42 => ?_)
          obtain rfl : (bI (ent σ r c)) = r42 := Eq.symm h42
          refine r_if_eq (P := (ent σ r c) = false) (tgt := 70) hx hb dX3_fillCellsOf_45 (by decide) (bI_eq0) (fun cq45 => ?_) (fun cq45 => ?_)
          · refine r_iinc (v := c + 1) (lv' := [(4, .int (nI (c + 1))), (0, .ref t), (1, .int (nI r)), (2, .int (e9 (ff σ r))), (3, .int (e9 (shf σ (ff σ r))))]) hx hb dX3_fillCellsOf_70 hl (k := 4) rfl (nI_1 _) (by decide) rfl (fun ls hl => ?_)
            refine lv_goto (tgt := 28) hx hb dX3_fillCellsOf_73 (by decide) ?_
            exact ih28 (c + 1) gv gm (by omega) (by omega) (by rw [hgv]; exact (fl_f cq45).1) (by rw [hgm]; exact (fl_f cq45).2) _ _ hP hD hS ls (lv_sub hl [1, 2, 3, 4, 0] rfl)
          · refine lv_aload_n hx hb dX3_fillCellsOf_48 rfl (lv_at hl 0 rfl) ?_
            refine va_get (D := G.1) (ci := 3) (v := .ref q) (C := RX3) (T := TX3) (N := 2) hx hb hts iqX3_fillCellsOf_X3 hown hK.1 hP 0 rfl rfl 1 (by decide) (hts (.fieldLink RX3 21 "PushedTables$Table" "store" "LPushedTables$Store;") (List.mem_of_getElem? (i := 2) rfl)) (fun _ h9 => h9) rfl dX3_fillCellsOf_49 ?_
            refine lv_iload_n hx hb dX3_fillCellsOf_52 rfl (lv_at hl 3 rfl) ?_
            refine r_top (y := (nI (shf σ (ff σ r)))) (e9_n cq21) ?_
            refine lv_iload hx hb dX3_fillCellsOf_53 (lv_at hl 4 rfl) ?_
            refine r_iadd (v := (shf σ (ff σ r)) + c) hx hb dX3_fillCellsOf_55 rfl ?_
            refine lv_aload_n hx hb dX3_fillCellsOf_56 rfl (lv_at hl 0 rfl) ?_
            refine va_get (D := G.1) (ci := 3) (v := .ref o) (C := RX3) (T := TX3) (N := 2) hx hb hts iqX3_fillCellsOf_X3 hown hK.1 hP 0 rfl rfl 0 (by decide) (hts (.fieldLink RX3 12 "PushedTables$Table" "state" "LPushedTables$State;") (List.mem_of_getElem? (i := 1) rfl)) (fun _ h9 => h9) rfl dX3_fillCellsOf_57 ?_
            refine lv_iload_n hx hb dX3_fillCellsOf_60 rfl (lv_at hl 1 rfl) ?_
            refine lv_iload hx hb dX3_fillCellsOf_61 (lv_at hl 4 rfl) ?_
            refine g_ro (k_V (q0 := 1) (ci := 1) (n := 2) (As := [.int (nI r), .int (nI c)]) (rest := [.int (nI ((shf σ (ff σ r)) + c)), .ref q]) (wc := [ob o 1 [.int (nI (nn σ)), .ref a1, .ref a2, .ref a3, .ref a4], ar G a1 24 (fun j => nI ((dd σ) j)), ar G a2 384 (fun j => nI ((vv σ) j)), ar G a3 24 (fun j => e9 ((ff σ) j)), ar G a4 24 (fun j => e9 ((ss σ) j))]) hx hb hml hown hts (c_X1_valueAt (l := l) (G := G) (o := o) (a1 := a1) (a2 := a2) (a3 := a3) (a4 := a4) (σ := σ) (r := r) (c := c) (hB := by first | assumption | omega) (hr := by first | assumption | omega) (hc := by first | assumption | omega))  gX3_fillCellsOf_X1_valueAt rfl rfl rfl (by decide +kernel) ⟨Nat.le_of_ble_eq_true rfl, Nat.le_of_ble_eq_true rfl⟩ rfl hK hP hD [1, 2, 3, 4, 5] rfl (by decide)  rfl rfl rfl hl.1 rfl (Nat.le_of_ble_eq_true rfl) dX3_fillCellsOf_63 ⟨Nat.le_of_ble_eq_true rfl, Nat.le_of_ble_eq_true rfl⟩) (fun r63 h63 => ?_)
            obtain rfl : (nI (vv σ (r * 16 + c))) = r63 := Eq.symm h63
            have b63 := Bd.v (by assumption : Bd σ) (r * 16 + c)
            refine lv_iload_n hx hb dX3_fillCellsOf_66 rfl (lv_at hl 2 rfl) ?_
            refine g_V (k_V (q0 := 6) (ci := 2) (n := 3) (As := [.int (nI ((shf σ (ff σ r)) + c)), .int (nI (vv σ (r * 16 + c))), .int (e9 (ff σ r))]) (rest := []) (wc := [ob q 2 [.ref b1, .ref b2], ar G b1 800 (fun j => e9 (gv j)), ar G b2 800 (fun j => e9 (gm j))]) hx hb hml hown hts (c_X2_fillCell (l := l) (G := G) (q := q) (b1 := b1) (b2 := b2) (cv := gv) (cm := gm) (k := (shf σ (ff σ r)) + c) (x := vv σ (r * 16 + c)) (f := ff σ r) (xx := (nI (vv σ (r * 16 + c)))) (xf := (e9 (ff σ r))) (hxx := (e9_n (by omega)).symm) (hxf := rfl) (hk := by first | assumption | omega))  gX3_fillCellsOf_X2_fillCell rfl rfl rfl (by decide +kernel) ⟨Nat.le_of_ble_eq_true rfl, Nat.le_of_ble_eq_true rfl⟩ rfl hK hP hD [6, 7, 8] rfl (by decide)  rfl rfl rfl hl.1 rfl (Nat.le_of_ble_eq_true rfl) dX3_fillCellsOf_67 ⟨Nat.le_of_ble_eq_true rfl, Nat.le_of_ble_eq_true rfl⟩) hP hD hS [6, 7, 8] rfl (fun H locs hB67 back hS => ?_)
            have hP1 := hB67
            obtain ⟨hP, hD⟩ := back [ob q 2 [.ref b1, .ref b2], ar G b1 800 (fun j => e9 ((va_up gv ((shf σ (ff σ r)) + c) (vv σ (r * 16 + c))) j)), ar G b2 800 (fun j => e9 ((va_up gm ((shf σ (ff σ r)) + c) (ff σ r)) j))] rfl hP1
            have hP : va_P G.1 vwCl [ob t 3 [.ref o, .ref q], ob o 1 [.int (nI (nn σ)), .ref a1, .ref a2, .ref a3, .ref a4], ar G a1 24 (fun j => nI ((dd σ) j)), ar G a2 384 (fun j => nI ((vv σ) j)), ar G a3 24 (fun j => e9 ((ff σ) j)), ar G a4 24 (fun j => e9 ((ss σ) j)), ob q 2 [.ref b1, .ref b2], ar G b1 800 (fun j => e9 ((va_up gv ((shf σ (ff σ r)) + c) (vv σ (r * 16 + c))) j)), ar G b2 800 (fun j => e9 ((va_up gm ((shf σ (ff σ r)) + c) (ff σ r)) j))] H := hP
            have hD : va_D A [ob t 3 [.ref o, .ref q], ob o 1 [.int (nI (nn σ)), .ref a1, .ref a2, .ref a3, .ref a4], ar G a1 24 (fun j => nI ((dd σ) j)), ar G a2 384 (fun j => nI ((vv σ) j)), ar G a3 24 (fun j => e9 ((ff σ) j)), ar G a4 24 (fun j => e9 ((ss σ) j)), ob q 2 [.ref b1, .ref b2], ar G b1 800 (fun j => e9 ((va_up gv ((shf σ (ff σ r)) + c) (vv σ (r * 16 + c))) j)), ar G b2 800 (fun j => e9 ((va_up gm ((shf σ (ff σ r)) + c) (ff σ r)) j))] := hD
            refine r_iinc (v := c + 1) (lv' := [(4, .int (nI (c + 1))), (0, .ref t), (1, .int (nI r)), (2, .int (e9 (ff σ r))), (3, .int (e9 (shf σ (ff σ r))))]) hx hb dX3_fillCellsOf_70 hl (k := 4) rfl (nI_1 _) (by decide) rfl (fun ls hl => ?_)
            refine lv_goto (tgt := 28) hx hb dX3_fillCellsOf_73 (by decide) ?_
            exact ih28 (c + 1) (va_up gv ((shf σ (ff σ r)) + c) (vv σ (r * 16 + c))) (va_up gm ((shf σ (ff σ r)) + c) (ff σ r)) (by omega) (by omega) (by rw [hgv]; exact flV_t (Bool.of_not_eq_false cq45)) (by rw [hgm]; exact flM_t (Bool.of_not_eq_false cq45)) _ _ hP hD hS ls (lv_sub hl [1, 2, 3, 4, 0] rfl)
    exact L28 ((17 - 0) + 1) 0 cv cm (Nat.lt_succ_self _) (by omega) (fl_0.1.symm) (fl_0.2.symm) _ _ hP hD hS ls (lv_sub hl [3, 4, 2, 1, 0] rfl)
  · exact hret _ _ _ _ hS dX3_fillCellsOf_24 (⟨cv, cm, by unfold fcT; rw [if_pos cq21], by first | assumption | omega, by first | assumption | omega, hP⟩)

theorem iqX3_takeOutAll_X3 : ∀ w ∈ u_ws RX3 TX3 2, w ∈ wsX3_takeOutAll := by decide +kernel
set_option maxHeartbeats 1000000 in
set_option maxRecDepth 100000 in
theorem c_X3_takeOutAll (l : Launch) (G : kG) (t : Nat) (o a1 a2 a3 a4 : Nat) (σ : Sg) (q b1 b2 : Nat) (cv cm : Nat → Nat) (hB : Bd σ) (hv : Bc 100 cv) (hm : Bc 24 cm) : Met l yX3_takeOutAll wsX3_takeOutAll ({ frames := 2, cells := 0, slots := 0, locals := 43 } : Room) (cP G [.ref t] [ob t 3 [.ref o, .ref q], ob o 1 [.int (nI (nn σ)), .ref a1, .ref a2, .ref a3, .ref a4], ar G a1 24 (fun j => nI ((dd σ) j)), ar G a2 384 (fun j => nI ((vv σ) j)), ar G a3 24 (fun j => e9 ((ff σ) j)), ar G a4 24 (fun j => e9 ((ss σ) j)), ob q 2 [.ref b1, .ref b2], ar G b1 800 (fun j => e9 (cv j)), ar G b2 800 (fun j => e9 (cm j))]) (qV (fun H => va_P G.1 vwCl [ob t 3 [.ref o, .ref q], ob o 1 [.int (nI (nn σ)), .ref a1, .ref a2, .ref a3, .ref a4], ar G a1 24 (fun j => nI ((dd σ) j)), ar G a2 384 (fun j => nI ((vv σ) j)), ar G a3 24 (fun j => e9 ((fun _ => 1000) j)), ar G a4 24 (fun j => e9 ((fun _ => 1000) j)), ob q 2 [.ref b1, .ref b2], ar G b1 800 (fun j => e9 ((fun _ => 1000) j)), ar G b2 800 (fun j => e9 ((fun _ => 1000) j))] H) (mA [ob t 3 [.ref o, .ref q], ob o 1 [.int (nI (nn σ)), .ref a1, .ref a2, .ref a3, .ref a4], ar G a1 24 (fun j => nI ((dd σ) j)), ar G a2 384 (fun j => nI ((vv σ) j)), ar G a3 24 (fun j => e9 ((ff σ) j)), ar G a4 24 (fun j => e9 ((ss σ) j)), ob q 2 [.ref b1, .ref b2], ar G b1 800 (fun j => e9 (cv j)), ar G b2 800 (fun j => e9 (cm j))])) 0 0 (mA [ob t 3 [.ref o, .ref q], ob o 1 [.int (nI (nn σ)), .ref a1, .ref a2, .ref a3, .ref a4], ar G a1 24 (fun j => nI ((dd σ) j)), ar G a2 384 (fun j => nI ((vv σ) j)), ar G a3 24 (fun j => e9 ((ff σ) j)), ar G a4 24 (fun j => e9 ((ss σ) j)), ob q 2 [.ref b1, .ref b2], ar G b1 800 (fun j => e9 (cv j)), ar G b2 800 (fun j => e9 (cm j))]) := by
  refine met_muV (cc := cX3_takeOutAll) (maxL := 1) (own := RX3) (by decide) rfl rfl (Nat.le_of_ble_eq_true rfl) ?_
  intro p e s m args below meth cod Q A hx hb hml hown hts hK hP hD hS hret ls hl
  have hl : lv_has ls 1 [(0, .ref t)] := hl
  refine lv_aload_n hx hb dX3_takeOutAll_0 rfl (lv_at hl 0 rfl) ?_
  refine va_get (D := G.1) (ci := 3) (v := .ref o) (C := RX3) (T := TX3) (N := 2) hx hb hts iqX3_takeOutAll_X3 hown hK.1 hP 0 rfl rfl 0 (by decide) (hts (.fieldLink RX3 12 "PushedTables$Table" "state" "LPushedTables$State;") (List.mem_of_getElem? (i := 1) rfl)) (fun _ h9 => h9) rfl dX3_takeOutAll_1 ?_
  refine g_V (k_V (q0 := 1) (ci := 1) (n := 0) (As := []) (rest := []) (wc := [ob o 1 [.int (nI (nn σ)), .ref a1, .ref a2, .ref a3, .ref a4], ar G a1 24 (fun j => nI ((dd σ) j)), ar G a2 384 (fun j => nI ((vv σ) j)), ar G a3 24 (fun j => e9 ((ff σ) j)), ar G a4 24 (fun j => e9 ((ss σ) j))]) hx hb hml hown hts (c_X1_forgetForms (l := l) (G := G) (o := o) (a1 := a1) (a2 := a2) (a3 := a3) (a4 := a4) (σ := σ))  gX3_takeOutAll_X1_forgetForms rfl rfl rfl (by decide +kernel) ⟨Nat.le_of_ble_eq_true rfl, Nat.le_of_ble_eq_true rfl⟩ rfl hK hP hD [1, 2, 3, 4, 5] rfl (by decide)  rfl rfl rfl hl.1 rfl (Nat.le_of_ble_eq_true rfl) dX3_takeOutAll_4 ⟨Nat.le_of_ble_eq_true rfl, Nat.le_of_ble_eq_true rfl⟩) hP hD hS [1, 2, 3, 4, 5] rfl (fun H locs hB4 back hS => ?_)
  have hP1 := hB4
  obtain ⟨hP, hD⟩ := back [ob o 1 [.int (nI (nn σ)), .ref a1, .ref a2, .ref a3, .ref a4], ar G a1 24 (fun j => nI ((dd σ) j)), ar G a2 384 (fun j => nI ((vv σ) j)), ar G a3 24 (fun j => e9 ((fun _ => 1000) j)), ar G a4 24 (fun j => e9 ((fun _ => 1000) j))] rfl hP1
  have hP : va_P G.1 vwCl [ob t 3 [.ref o, .ref q], ob o 1 [.int (nI (nn σ)), .ref a1, .ref a2, .ref a3, .ref a4], ar G a1 24 (fun j => nI ((dd σ) j)), ar G a2 384 (fun j => nI ((vv σ) j)), ar G a3 24 (fun j => e9 ((fun _ => 1000) j)), ar G a4 24 (fun j => e9 ((fun _ => 1000) j)), ob q 2 [.ref b1, .ref b2], ar G b1 800 (fun j => e9 (cv j)), ar G b2 800 (fun j => e9 (cm j))] H := hP
  have hD : va_D A [ob t 3 [.ref o, .ref q], ob o 1 [.int (nI (nn σ)), .ref a1, .ref a2, .ref a3, .ref a4], ar G a1 24 (fun j => nI ((dd σ) j)), ar G a2 384 (fun j => nI ((vv σ) j)), ar G a3 24 (fun j => e9 ((fun _ => 1000) j)), ar G a4 24 (fun j => e9 ((fun _ => 1000) j)), ob q 2 [.ref b1, .ref b2], ar G b1 800 (fun j => e9 (cv j)), ar G b2 800 (fun j => e9 (cm j))] := hD
  refine lv_aload_n hx hb dX3_takeOutAll_7 rfl (lv_at hl 0 rfl) ?_
  refine va_get (D := G.1) (ci := 3) (v := .ref q) (C := RX3) (T := TX3) (N := 2) hx hb hts iqX3_takeOutAll_X3 hown hK.1 hP 0 rfl rfl 1 (by decide) (hts (.fieldLink RX3 21 "PushedTables$Table" "store" "LPushedTables$Store;") (List.mem_of_getElem? (i := 2) rfl)) (fun _ h9 => h9) rfl dX3_takeOutAll_8 ?_
  refine g_V (k_V (q0 := 6) (ci := 2) (n := 0) (As := []) (rest := []) (wc := [ob q 2 [.ref b1, .ref b2], ar G b1 800 (fun j => e9 (cv j)), ar G b2 800 (fun j => e9 (cm j))]) hx hb hml hown hts (c_X2_emptyAll (l := l) (G := G) (q := q) (b1 := b1) (b2 := b2) (cv := cv) (cm := cm))  gX3_takeOutAll_X2_emptyAll rfl rfl rfl (by decide +kernel) ⟨Nat.le_of_ble_eq_true rfl, Nat.le_of_ble_eq_true rfl⟩ rfl hK hP hD [6, 7, 8] rfl (by decide)  rfl rfl rfl hl.1 rfl (Nat.le_of_ble_eq_true rfl) dX3_takeOutAll_11 ⟨Nat.le_of_ble_eq_true rfl, Nat.le_of_ble_eq_true rfl⟩) hP hD hS [6, 7, 8] rfl (fun H locs hB11 back hS => ?_)
  have hP1 := hB11
  obtain ⟨hP, hD⟩ := back [ob q 2 [.ref b1, .ref b2], ar G b1 800 (fun j => e9 ((fun _ => 1000) j)), ar G b2 800 (fun j => e9 ((fun _ => 1000) j))] rfl hP1
  have hP : va_P G.1 vwCl [ob t 3 [.ref o, .ref q], ob o 1 [.int (nI (nn σ)), .ref a1, .ref a2, .ref a3, .ref a4], ar G a1 24 (fun j => nI ((dd σ) j)), ar G a2 384 (fun j => nI ((vv σ) j)), ar G a3 24 (fun j => e9 ((fun _ => 1000) j)), ar G a4 24 (fun j => e9 ((fun _ => 1000) j)), ob q 2 [.ref b1, .ref b2], ar G b1 800 (fun j => e9 ((fun _ => 1000) j)), ar G b2 800 (fun j => e9 ((fun _ => 1000) j))] H := hP
  have hD : va_D A [ob t 3 [.ref o, .ref q], ob o 1 [.int (nI (nn σ)), .ref a1, .ref a2, .ref a3, .ref a4], ar G a1 24 (fun j => nI ((dd σ) j)), ar G a2 384 (fun j => nI ((vv σ) j)), ar G a3 24 (fun j => e9 ((fun _ => 1000) j)), ar G a4 24 (fun j => e9 ((fun _ => 1000) j)), ob q 2 [.ref b1, .ref b2], ar G b1 800 (fun j => e9 ((fun _ => 1000) j)), ar G b2 800 (fun j => e9 ((fun _ => 1000) j))] := hD
  exact hret _ _ _ _ hS dX3_takeOutAll_14 (hP)

theorem iqX3_hasEntriesOf_X3 : ∀ w ∈ u_ws RX3 TX3 2, w ∈ wsX3_hasEntriesOf := by decide +kernel
set_option maxHeartbeats 1000000 in
set_option maxRecDepth 100000 in
theorem c_X3_hasEntriesOf (l : Launch) (G : kG) (t : Nat) (o a1 a2 a3 a4 : Nat) (σ : Sg) (q b1 b2 : Nat) (cv cm : Nat → Nat) (hB : Bd σ) (hv : Bc 100 cv) (hm : Bc 24 cm) (f r : Nat) (xf : Int32) (hxf : xf = e9 f) (hf : f < 24 ∨ f = 1000) (hr : r < 24) : Met l yX3_hasEntriesOf wsX3_hasEntriesOf ({ frames := 2, cells := 0, slots := 0, locals := 43 } : Room) (cP G [.ref t, .int xf, .int (nI r)] [ob t 3 [.ref o, .ref q], ob o 1 [.int (nI (nn σ)), .ref a1, .ref a2, .ref a3, .ref a4], ar G a1 24 (fun j => nI ((dd σ) j)), ar G a2 384 (fun j => nI ((vv σ) j)), ar G a3 24 (fun j => e9 ((ff σ) j)), ar G a4 24 (fun j => e9 ((ss σ) j)), ob q 2 [.ref b1, .ref b2], ar G b1 800 (fun j => e9 (cv j)), ar G b2 800 (fun j => e9 (cm j))]) (vp_Si (fun rv => rv = (bI (hasE σ cv cm f r)))) 0 0 (fun _ => False) := by
  subst hxf
  refine met_ro (cc := cX3_hasEntriesOf) (maxL := 6) (ty := .boolean) (own := RX3) (by decide) rfl rfl (fun _ h => by rw [h]; exact bI_nar _) (Nat.le_of_ble_eq_true rfl) ?_
  intro p e s m args below meth cod Q hx hb hml hown hts hK hP hD hret ls hl
  have hl : lv_has ls 6 [(0, .ref t), (1, .int (e9 f)), (2, .int (nI r))] := hl
  refine lv_aload_n hx hb dX3_hasEntriesOf_0 rfl (lv_at hl 0 rfl) ?_
  refine va_get (D := G.1) (ci := 3) (v := .ref o) (C := RX3) (T := TX3) (N := 2) hx hb hts iqX3_hasEntriesOf_X3 hown hK.1 hP 0 rfl rfl 0 (by decide) (hts (.fieldLink RX3 12 "PushedTables$Table" "state" "LPushedTables$State;") (List.mem_of_getElem? (i := 1) rfl)) (fun _ h9 => h9) rfl dX3_hasEntriesOf_1 ?_
  refine lv_iload_n hx hb dX3_hasEntriesOf_4 rfl (lv_at hl 1 rfl) ?_
  refine g_ro (k_V (q0 := 1) (ci := 1) (n := 1) (As := [.int (e9 f)]) (rest := []) (wc := [ob o 1 [.int (nI (nn σ)), .ref a1, .ref a2, .ref a3, .ref a4], ar G a1 24 (fun j => nI ((dd σ) j)), ar G a2 384 (fun j => nI ((vv σ) j)), ar G a3 24 (fun j => e9 ((ff σ) j)), ar G a4 24 (fun j => e9 ((ss σ) j))]) hx hb hml hown hts (c_X1_shiftOf (l := l) (G := G) (o := o) (a1 := a1) (a2 := a2) (a3 := a3) (a4 := a4) (σ := σ) (f := f) (xf := (e9 f)) (hxf := rfl) (hB := by first | assumption | omega) (hf := by first | assumption | omega))  gX3_hasEntriesOf_X1_shiftOf rfl rfl rfl (by decide +kernel) ⟨Nat.le_of_ble_eq_true rfl, Nat.le_of_ble_eq_true rfl⟩ rfl hK hP hD [1, 2, 3, 4, 5] rfl (by decide)  rfl rfl rfl hl.1 rfl (Nat.le_of_ble_eq_true rfl) dX3_hasEntriesOf_5 ⟨Nat.le_of_ble_eq_true rfl, Nat.le_of_ble_eq_true rfl⟩) (fun r5 h5 => ?_)
  obtain rfl : (e9 (shf σ f)) = r5 := Eq.symm h5
  have b5 := shf_le (by assumption : Bd σ) f
  refine lv_istore_n (lv' := [(3, .int (e9 (shf σ f))), (0, .ref t), (1, .int (e9 f)), (2, .int (nI r))]) hx hb dX3_hasEntriesOf_8 rfl hl (by decide) rfl (fun ls hl => ?_)
  refine lv_iload_n hx hb dX3_hasEntriesOf_9 rfl (lv_at hl 0 rfl) ?_
  refine lv_bipush (v := (e9 1000)) hx hb dX3_hasEntriesOf_10 (by decide) ?_
  refine r_icmp_ne (P := (shf σ f) = 1000) (tgt := 17) hx hb dX3_hasEntriesOf_12 (by decide) (e9_inj (by omega) (by omega)) (fun cq12 => ?_) (fun cq12 => ?_)
  · refine lv_iconst (v := (nI 0)) hx hb dX3_hasEntriesOf_17 (by decide) ?_
    refine lv_istore (lv' := [(4, .int (nI 0)), (3, .int (e9 (shf σ f))), (0, .ref t), (1, .int (e9 f)), (2, .int (nI r))]) hx hb dX3_hasEntriesOf_18 hl (by decide) rfl (fun ls hl => ?_)
    have L20 : ∀ (fu : Nat) (c : Nat), 17 - c < fu → c ≤ 16 → (∀ j, j < c → (cm (shf σ f + j) = f ↔ ent σ r j = true) ∧ (cm (shf σ f + j) = f → cv (shf σ f + j) = vv σ (r * 16 + j))) → ∀ (ls : Array Slot), lv_has ls 6 [(0, .ref t), (1, .int (e9 f)), (2, .int (nI r)), (3, .int (e9 (shf σ f))), (4, .int (nI c))] → W p l e ({ frames := 2, cells := 0, slots := 0, locals := 43 } : Room) s m args below meth cod s.heap [] 0 0 Q (F0 m 20 ls []) := by
      intro fu
      induction fu with
      | zero => intro c hm; exact absurd hm (Nat.not_lt_zero _)
      | succ fu ih20 =>
        intro c hm20 hc hn ls hl
        refine lv_iload hx hb dX3_hasEntriesOf_20 (lv_at hl 4 rfl) ?_
        refine lv_bipush (v := (nI 16)) hx hb dX3_hasEntriesOf_22 (by decide) ?_
        refine r_icmp_ge (P := 16 ≤ c) (tgt := 103) hx hb dX3_hasEntriesOf_24 (by decide) (nI_leI (by omega) (by omega)) (fun cq24 => ?_) (fun cq24 => ?_)
        · refine lv_iconst (v := (nI 1)) hx hb dX3_hasEntriesOf_103 (by decide) ?_
          exact hret _ _ _ dX3_hasEntriesOf_104 (bIt (dcd_t.mpr ⟨cq12, fun j hj => hn j (by omega)⟩))
        · have s12 := shf_le hB f
          refine lv_aload_n hx hb dX3_hasEntriesOf_27 rfl (lv_at hl 0 rfl) ?_
          refine va_get (D := G.1) (ci := 3) (v := .ref q) (C := RX3) (T := TX3) (N := 2) hx hb hts iqX3_hasEntriesOf_X3 hown hK.1 hP 0 rfl rfl 1 (by decide) (hts (.fieldLink RX3 21 "PushedTables$Table" "store" "LPushedTables$Store;") (List.mem_of_getElem? (i := 2) rfl)) (fun _ h9 => h9) rfl dX3_hasEntriesOf_28 ?_
          refine lv_iload_n hx hb dX3_hasEntriesOf_31 rfl (lv_at hl 3 rfl) ?_
          refine r_top (y := (nI (shf σ f))) (e9_n cq12) ?_
          refine lv_iload hx hb dX3_hasEntriesOf_32 (lv_at hl 4 rfl) ?_
          refine r_iadd (v := (shf σ f) + c) hx hb dX3_hasEntriesOf_34 rfl ?_
          refine g_ro (k_V (q0 := 6) (ci := 2) (n := 1) (As := [.int (nI ((shf σ f) + c))]) (rest := []) (wc := [ob q 2 [.ref b1, .ref b2], ar G b1 800 (fun j => e9 (cv j)), ar G b2 800 (fun j => e9 (cm j))]) hx hb hml hown hts (c_X2_markAt (l := l) (G := G) (q := q) (b1 := b1) (b2 := b2) (cv := cv) (cm := cm) (k := (shf σ f) + c) (hm := by first | assumption | omega) (hk := by first | assumption | omega))  gX3_hasEntriesOf_X2_markAt rfl rfl rfl (by decide +kernel) ⟨Nat.le_of_ble_eq_true rfl, Nat.le_of_ble_eq_true rfl⟩ rfl hK hP hD [6, 7, 8] rfl (by decide)  rfl rfl rfl hl.1 rfl (Nat.le_of_ble_eq_true rfl) dX3_hasEntriesOf_35 ⟨Nat.le_of_ble_eq_true rfl, Nat.le_of_ble_eq_true rfl⟩) (fun r35 h35 => ?_)
          obtain rfl : (e9 (cm ((shf σ f) + c))) = r35 := Eq.symm h35
          have b35 := Bc.at (by assumption : Bc 24 cm) ((shf σ f) + c)
          refine lv_iload_n hx hb dX3_hasEntriesOf_38 rfl (lv_at hl 1 rfl) ?_
          refine r_icmp_ne (P := (cm ((shf σ f) + c)) = f) (tgt := 46) hx hb dX3_hasEntriesOf_39 (by decide) (e9_inj (by omega) (by omega)) (fun cq39 => ?_) (fun cq39 => ?_)
          · refine lv_iconst (v := (bI false)) hx hb dX3_hasEntriesOf_46 (by decide) ?_
            refine lv_istore (lv' := [(5, .int (bI false)), (0, .ref t), (1, .int (e9 f)), (2, .int (nI r)), (3, .int (e9 (shf σ f))), (4, .int (nI c))]) hx hb dX3_hasEntriesOf_47 hl (by decide) rfl (fun ls hl => ?_)
            refine lv_iload hx hb dX3_hasEntriesOf_49 (lv_at hl 0 rfl) ?_
            refine lv_aload_n hx hb dX3_hasEntriesOf_51 rfl (lv_at hl 1 rfl) ?_
            refine va_get (D := G.1) (ci := 3) (v := .ref o) (C := RX3) (T := TX3) (N := 2) hx hb hts iqX3_hasEntriesOf_X3 hown hK.1 hP 0 rfl rfl 0 (by decide) (hts (.fieldLink RX3 12 "PushedTables$Table" "state" "LPushedTables$State;") (List.mem_of_getElem? (i := 1) rfl)) (fun _ h9 => h9) rfl dX3_hasEntriesOf_52 ?_
            refine lv_iload_n hx hb dX3_hasEntriesOf_55 rfl (lv_at hl 3 rfl) ?_
            refine lv_iload hx hb dX3_hasEntriesOf_56 (lv_at hl 5 rfl) ?_
            refine g_ro (k_V (q0 := 1) (ci := 1) (n := 2) (As := [.int (nI r), .int (nI c)]) (rest := [.int (bI false)]) (wc := [ob o 1 [.int (nI (nn σ)), .ref a1, .ref a2, .ref a3, .ref a4], ar G a1 24 (fun j => nI ((dd σ) j)), ar G a2 384 (fun j => nI ((vv σ) j)), ar G a3 24 (fun j => e9 ((ff σ) j)), ar G a4 24 (fun j => e9 ((ss σ) j))]) hx hb hml hown hts (c_X1_isEntry (l := l) (G := G) (o := o) (a1 := a1) (a2 := a2) (a3 := a3) (a4 := a4) (σ := σ) (r := r) (c := c) (hB := by first | assumption | omega) (hr := by first | assumption | omega) (hc := by first | assumption | omega))  gX3_hasEntriesOf_X1_isEntry rfl rfl rfl (by decide +kernel) ⟨Nat.le_of_ble_eq_true rfl, Nat.le_of_ble_eq_true rfl⟩ rfl hK hP hD [1, 2, 3, 4, 5] rfl (by decide)  rfl rfl rfl hl.1 rfl (Nat.le_of_ble_eq_true rfl) dX3_hasEntriesOf_58 ⟨Nat.le_of_ble_eq_true rfl, Nat.le_of_ble_eq_true rfl⟩) (fun r58 h58 => ?_)
            obtain rfl : (bI (ent σ r c)) = r58 := Eq.symm h58
            refine r_icmp_eq (P := false = (ent σ r c)) (tgt := 66) hx hb dX3_hasEntriesOf_61 (by decide) (bI_inj) (fun cq61 => ?_) (fun cq61 => ?_)
            · refine lv_iload hx hb dX3_hasEntriesOf_66 (lv_at hl 0 rfl) ?_
              refine r_if_eq (P := false = false) (tgt := 97) hx hb dX3_hasEntriesOf_68 (by decide) (bI_eq0) (fun cq68 => ?_) (fun cq68 => ?_)
              · refine r_iinc (v := c + 1) (lv' := [(4, .int (nI (c + 1))), (5, .int (bI false)), (0, .ref t), (1, .int (e9 f)), (2, .int (nI r)), (3, .int (e9 (shf σ f)))]) hx hb dX3_hasEntriesOf_97 hl (k := 5) rfl (nI_1 _) (by decide) rfl (fun ls hl => ?_)
                refine lv_goto (tgt := 20) hx hb dX3_hasEntriesOf_100 (by decide) ?_
                exact ih20 (c + 1) (by omega) (by omega) (lt_s hn ⟨⟨fun z => absurd z cq39, fun z => by rw [← cq61] at z; cases z⟩, fun z => absurd z cq39⟩) ls (lv_sub hl [2, 3, 4, 5, 0] rfl)
              · exact absurd rfl cq68
            · refine lv_iconst (v := (nI 0)) hx hb dX3_hasEntriesOf_64 (by decide) ?_
              exact hret _ _ _ dX3_hasEntriesOf_65 (bIf (hasE_f (fun z => cq39 ((z.2 c (by omega)).1.mpr (Bool.of_not_eq_false (fun w => cq61 w.symm))))))
          · refine lv_iconst (v := (bI true)) hx hb dX3_hasEntriesOf_42 (by decide) ?_
            refine lv_goto (tgt := 47) hx hb dX3_hasEntriesOf_43 (by decide) ?_
            refine lv_istore (lv' := [(5, .int (bI true)), (0, .ref t), (1, .int (e9 f)), (2, .int (nI r)), (3, .int (e9 (shf σ f))), (4, .int (nI c))]) hx hb dX3_hasEntriesOf_47 hl (by decide) rfl (fun ls hl => ?_)
            refine lv_iload hx hb dX3_hasEntriesOf_49 (lv_at hl 0 rfl) ?_
            refine lv_aload_n hx hb dX3_hasEntriesOf_51 rfl (lv_at hl 1 rfl) ?_
            refine va_get (D := G.1) (ci := 3) (v := .ref o) (C := RX3) (T := TX3) (N := 2) hx hb hts iqX3_hasEntriesOf_X3 hown hK.1 hP 0 rfl rfl 0 (by decide) (hts (.fieldLink RX3 12 "PushedTables$Table" "state" "LPushedTables$State;") (List.mem_of_getElem? (i := 1) rfl)) (fun _ h9 => h9) rfl dX3_hasEntriesOf_52 ?_
            refine lv_iload_n hx hb dX3_hasEntriesOf_55 rfl (lv_at hl 3 rfl) ?_
            refine lv_iload hx hb dX3_hasEntriesOf_56 (lv_at hl 5 rfl) ?_
            refine g_ro (k_V (q0 := 1) (ci := 1) (n := 2) (As := [.int (nI r), .int (nI c)]) (rest := [.int (bI true)]) (wc := [ob o 1 [.int (nI (nn σ)), .ref a1, .ref a2, .ref a3, .ref a4], ar G a1 24 (fun j => nI ((dd σ) j)), ar G a2 384 (fun j => nI ((vv σ) j)), ar G a3 24 (fun j => e9 ((ff σ) j)), ar G a4 24 (fun j => e9 ((ss σ) j))]) hx hb hml hown hts (c_X1_isEntry (l := l) (G := G) (o := o) (a1 := a1) (a2 := a2) (a3 := a3) (a4 := a4) (σ := σ) (r := r) (c := c) (hB := by first | assumption | omega) (hr := by first | assumption | omega) (hc := by first | assumption | omega))  gX3_hasEntriesOf_X1_isEntry rfl rfl rfl (by decide +kernel) ⟨Nat.le_of_ble_eq_true rfl, Nat.le_of_ble_eq_true rfl⟩ rfl hK hP hD [1, 2, 3, 4, 5] rfl (by decide)  rfl rfl rfl hl.1 rfl (Nat.le_of_ble_eq_true rfl) dX3_hasEntriesOf_58 ⟨Nat.le_of_ble_eq_true rfl, Nat.le_of_ble_eq_true rfl⟩) (fun r58 h58 => ?_)
            obtain rfl : (bI (ent σ r c)) = r58 := Eq.symm h58
            refine r_icmp_eq (P := true = (ent σ r c)) (tgt := 66) hx hb dX3_hasEntriesOf_61 (by decide) (bI_inj) (fun cq61 => ?_) (fun cq61 => ?_)
            · refine lv_iload hx hb dX3_hasEntriesOf_66 (lv_at hl 0 rfl) ?_
              refine r_if_eq (P := true = false) (tgt := 97) hx hb dX3_hasEntriesOf_68 (by decide) (bI_eq0) (fun cq68 => ?_) (fun cq68 => ?_)
              · exact absurd cq68 (by decide)
              · refine lv_aload_n hx hb dX3_hasEntriesOf_71 rfl (lv_at hl 1 rfl) ?_
                refine va_get (D := G.1) (ci := 3) (v := .ref q) (C := RX3) (T := TX3) (N := 2) hx hb hts iqX3_hasEntriesOf_X3 hown hK.1 hP 0 rfl rfl 1 (by decide) (hts (.fieldLink RX3 21 "PushedTables$Table" "store" "LPushedTables$Store;") (List.mem_of_getElem? (i := 2) rfl)) (fun _ h9 => h9) rfl dX3_hasEntriesOf_72 ?_
                refine lv_iload_n hx hb dX3_hasEntriesOf_75 rfl (lv_at hl 4 rfl) ?_
                refine r_top (y := (nI (shf σ f))) (e9_n cq12) ?_
                refine lv_iload hx hb dX3_hasEntriesOf_76 (lv_at hl 5 rfl) ?_
                refine r_iadd (v := (shf σ f) + c) hx hb dX3_hasEntriesOf_78 rfl ?_
                refine g_ro (k_V (q0 := 6) (ci := 2) (n := 1) (As := [.int (nI ((shf σ f) + c))]) (rest := []) (wc := [ob q 2 [.ref b1, .ref b2], ar G b1 800 (fun j => e9 (cv j)), ar G b2 800 (fun j => e9 (cm j))]) hx hb hml hown hts (c_X2_valueAt (l := l) (G := G) (q := q) (b1 := b1) (b2 := b2) (cv := cv) (cm := cm) (k := (shf σ f) + c) (hv := by first | assumption | omega) (hk := by first | assumption | omega))  gX3_hasEntriesOf_X2_valueAt rfl rfl rfl (by decide +kernel) ⟨Nat.le_of_ble_eq_true rfl, Nat.le_of_ble_eq_true rfl⟩ rfl hK hP hD [6, 7, 8] rfl (by decide)  rfl rfl rfl hl.1 rfl (Nat.le_of_ble_eq_true rfl) dX3_hasEntriesOf_79 ⟨Nat.le_of_ble_eq_true rfl, Nat.le_of_ble_eq_true rfl⟩) (fun r79 h79 => ?_)
                obtain rfl : (e9 (cv ((shf σ f) + c))) = r79 := Eq.symm h79
                have b79 := Bc.at (by assumption : Bc 100 cv) ((shf σ f) + c)
                refine lv_aload_n hx hb dX3_hasEntriesOf_82 rfl (lv_at hl 1 rfl) ?_
                refine va_get (D := G.1) (ci := 3) (v := .ref o) (C := RX3) (T := TX3) (N := 2) hx hb hts iqX3_hasEntriesOf_X3 hown hK.1 hP 0 rfl rfl 0 (by decide) (hts (.fieldLink RX3 12 "PushedTables$Table" "state" "LPushedTables$State;") (List.mem_of_getElem? (i := 1) rfl)) (fun _ h9 => h9) rfl dX3_hasEntriesOf_83 ?_
                refine lv_iload_n hx hb dX3_hasEntriesOf_86 rfl (lv_at hl 3 rfl) ?_
                refine lv_iload hx hb dX3_hasEntriesOf_87 (lv_at hl 5 rfl) ?_
                refine g_ro (k_V (q0 := 1) (ci := 1) (n := 2) (As := [.int (nI r), .int (nI c)]) (rest := [.int (e9 (cv ((shf σ f) + c)))]) (wc := [ob o 1 [.int (nI (nn σ)), .ref a1, .ref a2, .ref a3, .ref a4], ar G a1 24 (fun j => nI ((dd σ) j)), ar G a2 384 (fun j => nI ((vv σ) j)), ar G a3 24 (fun j => e9 ((ff σ) j)), ar G a4 24 (fun j => e9 ((ss σ) j))]) hx hb hml hown hts (c_X1_valueAt (l := l) (G := G) (o := o) (a1 := a1) (a2 := a2) (a3 := a3) (a4 := a4) (σ := σ) (r := r) (c := c) (hB := by first | assumption | omega) (hr := by first | assumption | omega) (hc := by first | assumption | omega))  gX3_hasEntriesOf_X1_valueAt rfl rfl rfl (by decide +kernel) ⟨Nat.le_of_ble_eq_true rfl, Nat.le_of_ble_eq_true rfl⟩ rfl hK hP hD [1, 2, 3, 4, 5] rfl (by decide)  rfl rfl rfl hl.1 rfl (Nat.le_of_ble_eq_true rfl) dX3_hasEntriesOf_89 ⟨Nat.le_of_ble_eq_true rfl, Nat.le_of_ble_eq_true rfl⟩) (fun r89 h89 => ?_)
                obtain rfl : (nI (vv σ (r * 16 + c))) = r89 := Eq.symm h89
                have b89 := Bd.v (by assumption : Bd σ) (r * 16 + c)
                refine r_icmp_eq (P := (cv ((shf σ f) + c)) = (vv σ (r * 16 + c))) (tgt := 97) hx hb dX3_hasEntriesOf_92 (by decide) (e9_nI (by omega) (by omega)) (fun cq92 => ?_) (fun cq92 => ?_)
                · refine r_iinc (v := c + 1) (lv' := [(4, .int (nI (c + 1))), (5, .int (bI true)), (0, .ref t), (1, .int (e9 f)), (2, .int (nI r)), (3, .int (e9 (shf σ f)))]) hx hb dX3_hasEntriesOf_97 hl (k := 5) rfl (nI_1 _) (by decide) rfl (fun ls hl => ?_)
                  refine lv_goto (tgt := 20) hx hb dX3_hasEntriesOf_100 (by decide) ?_
                  exact ih20 (c + 1) (by omega) (by omega) (lt_s hn ⟨⟨fun _ => cq61.symm, fun _ => cq39⟩, fun _ => cq92⟩) ls (lv_sub hl [2, 3, 4, 5, 0] rfl)
                · refine lv_iconst (v := (nI 0)) hx hb dX3_hasEntriesOf_95 (by decide) ?_
                  exact hret _ _ _ dX3_hasEntriesOf_96 (bIf (hasE_f (fun z => cq92 ((z.2 c (by omega)).2 cq39))))
            · refine lv_iconst (v := (nI 0)) hx hb dX3_hasEntriesOf_64 (by decide) ?_
              exact hret _ _ _ dX3_hasEntriesOf_65 (bIf (hasE_f (fun z => cq61 ((z.2 c (by omega)).1.mp cq39).symm)))
    exact L20 ((17 - 0) + 1) 0 (Nat.lt_succ_self _) (by omega) (fun j hj => absurd hj (Nat.not_lt_zero j)) ls (lv_sub hl [2, 3, 4, 1, 0] rfl)
  · refine lv_iconst (v := (nI 0)) hx hb dX3_hasEntriesOf_15 (by decide) ?_
    exact hret _ _ _ dX3_hasEntriesOf_16 (bIf (hasE_f (fun z => z.1 cq12)))

set_option maxHeartbeats 1000000 in
set_option maxRecDepth 100000 in
theorem c_X3_formWithEntriesOf (l : Launch) (G : kG) (t : Nat) (o a1 a2 a3 a4 : Nat) (σ : Sg) (q b1 b2 : Nat) (cv cm : Nat → Nat) (hB : Bd σ) (hv : Bc 100 cv) (hm : Bc 24 cm) (r : Nat) (hr : r < 24) : Met l yX3_formWithEntriesOf wsX3_formWithEntriesOf ({ frames := 3, cells := 0, slots := 0, locals := 68 } : Room) (cP G [.ref t, .int (nI r)] [ob t 3 [.ref o, .ref q], ob o 1 [.int (nI (nn σ)), .ref a1, .ref a2, .ref a3, .ref a4], ar G a1 24 (fun j => nI ((dd σ) j)), ar G a2 384 (fun j => nI ((vv σ) j)), ar G a3 24 (fun j => e9 ((ff σ) j)), ar G a4 24 (fun j => e9 ((ss σ) j)), ob q 2 [.ref b1, .ref b2], ar G b1 800 (fun j => e9 (cv j)), ar G b2 800 (fun j => e9 (cm j))]) (vp_Si (fun rv => rv = (e9 (fwe σ cv cm r)))) 0 0 (fun _ => False) := by
  refine met_ro (cc := cX3_formWithEntriesOf) (maxL := 3) (ty := .int) (own := RX3) (by decide) rfl rfl (fun _ _ => rfl) (Nat.le_of_ble_eq_true rfl) ?_
  intro p e s m args below meth cod Q hx hb hml hown hts hK hP hD hret ls hl
  have hl : lv_has ls 3 [(0, .ref t), (1, .int (nI r))] := hl
  refine lv_iconst (v := (nI 0)) hx hb dX3_formWithEntriesOf_0 (by decide) ?_
  refine lv_istore_n (lv' := [(2, .int (nI 0)), (0, .ref t), (1, .int (nI r))]) hx hb dX3_formWithEntriesOf_1 rfl hl (by decide) rfl (fun ls hl => ?_)
  have L2 : ∀ (fu : Nat) (f : Nat), 25 - f < fu → f ≤ 24 → (∀ j, j < f → hasE σ cv cm j r = false) → ∀ (ls : Array Slot), lv_has ls 3 [(0, .ref t), (1, .int (nI r)), (2, .int (nI f))] → W p l e ({ frames := 3, cells := 0, slots := 0, locals := 68 } : Room) s m args below meth cod s.heap [] 0 0 Q (F0 m 2 ls []) := by
    intro fu
    induction fu with
    | zero => intro f hm; exact absurd hm (Nat.not_lt_zero _)
    | succ fu ih2 =>
      intro f hm2 hf hn ls hl
      refine lv_iload_n hx hb dX3_formWithEntriesOf_2 rfl (lv_at hl 2 rfl) ?_
      refine lv_bipush (v := (nI 24)) hx hb dX3_formWithEntriesOf_3 (by decide) ?_
      refine r_icmp_ge (P := 24 ≤ f) (tgt := 25) hx hb dX3_formWithEntriesOf_5 (by decide) (nI_leI (by omega) (by omega)) (fun cq5 => ?_) (fun cq5 => ?_)
      · refine lv_bipush (v := (e9 1000)) hx hb dX3_formWithEntriesOf_25 (by decide) ?_
        exact hret _ _ _ dX3_formWithEntriesOf_27 (by unfold fwe; rw [fst?_none (fun j hj => hn j (by omega))])
      · refine lv_aload_n hx hb dX3_formWithEntriesOf_8 rfl (lv_at hl 0 rfl) ?_
        refine lv_iload_n hx hb dX3_formWithEntriesOf_9 rfl (lv_at hl 2 rfl) ?_
        refine lv_iload_n hx hb dX3_formWithEntriesOf_10 rfl (lv_at hl 1 rfl) ?_
        refine g_ro (k_V (q0 := 0) (ci := 3) (n := 2) (As := [.int (nI f), .int (nI r)]) (rest := []) (wc := [ob t 3 [.ref o, .ref q], ob o 1 [.int (nI (nn σ)), .ref a1, .ref a2, .ref a3, .ref a4], ar G a1 24 (fun j => nI ((dd σ) j)), ar G a2 384 (fun j => nI ((vv σ) j)), ar G a3 24 (fun j => e9 ((ff σ) j)), ar G a4 24 (fun j => e9 ((ss σ) j)), ob q 2 [.ref b1, .ref b2], ar G b1 800 (fun j => e9 (cv j)), ar G b2 800 (fun j => e9 (cm j))]) hx hb hml hown hts (c_X3_hasEntriesOf (l := l) (G := G) (t := t) (o := o) (a1 := a1) (a2 := a2) (a3 := a3) (a4 := a4) (σ := σ) (q := q) (b1 := b1) (b2 := b2) (cv := cv) (cm := cm) (hB := by first | assumption | omega) (hv := by first | assumption | omega) (hm := by first | assumption | omega) (f := f) (r := r) (xf := (nI f)) (hxf := (e9_n (by omega)).symm) (hf := by first | assumption | omega) (hr := by first | assumption | omega))  gX3_formWithEntriesOf_X3_hasEntriesOf rfl rfl rfl (by decide +kernel) ⟨Nat.le_of_ble_eq_true rfl, Nat.le_of_ble_eq_true rfl⟩ rfl hK hP hD [0, 1, 2, 3, 4, 5, 6, 7, 8] rfl (by decide)  rfl rfl rfl hl.1 rfl (Nat.le_of_ble_eq_true rfl) dX3_formWithEntriesOf_11 ⟨Nat.le_of_ble_eq_true rfl, Nat.le_of_ble_eq_true rfl⟩) (fun r11 h11 => ?_)
        obtain rfl : (bI (hasE σ cv cm f r)) = r11 := Eq.symm h11
        refine r_if_eq (P := (hasE σ cv cm f r) = false) (tgt := 19) hx hb dX3_formWithEntriesOf_14 (by decide) (bI_eq0) (fun cq14 => ?_) (fun cq14 => ?_)
        · refine r_iinc (v := f + 1) (lv' := [(2, .int (nI (f + 1))), (0, .ref t), (1, .int (nI r))]) hx hb dX3_formWithEntriesOf_19 hl (k := 2) rfl (nI_1 _) (by decide) rfl (fun ls hl => ?_)
          refine lv_goto (tgt := 2) hx hb dX3_formWithEntriesOf_22 (by decide) ?_
          exact ih2 (f + 1) (by omega) (by omega) (lt_s hn cq14) ls (lv_sub hl [1, 2, 0] rfl)
        · refine lv_iload_n hx hb dX3_formWithEntriesOf_17 rfl (lv_at hl 2 rfl) ?_
          exact hret _ _ _ dX3_formWithEntriesOf_18 (by unfold fwe; rw [fst?_some (k := f) (by omega) (Bool.of_not_eq_false cq14) hn]; exact (e9_n (by omega)).symm)
  exact L2 ((25 - 0) + 1) 0 (Nat.lt_succ_self _) (by omega) (fun j hj => absurd hj (Nat.not_lt_zero j)) ls (lv_sub hl [1, 2, 0] rfl)

theorem iqX3_leaveForm_X3 : ∀ w ∈ u_ws RX3 TX3 2, w ∈ wsX3_leaveForm := by decide +kernel
set_option maxHeartbeats 1000000 in
set_option maxRecDepth 100000 in
theorem c_X3_leaveForm (l : Launch) (G : kG) (t : Nat) (o a1 a2 a3 a4 : Nat) (σ : Sg) (q b1 b2 : Nat) (cv cm : Nat → Nat) (hB : Bd σ) (hv : Bc 100 cv) (hm : Bc 24 cm) (r : Nat) (hr : r < 24) : Met l yX3_leaveForm wsX3_leaveForm ({ frames := 3, cells := 0, slots := 0, locals := 68 } : Room) (cP G [.ref t, .int (nI r)] [ob t 3 [.ref o, .ref q], ob o 1 [.int (nI (nn σ)), .ref a1, .ref a2, .ref a3, .ref a4], ar G a1 24 (fun j => nI ((dd σ) j)), ar G a2 384 (fun j => nI ((vv σ) j)), ar G a3 24 (fun j => e9 ((ff σ) j)), ar G a4 24 (fun j => e9 ((ss σ) j)), ob q 2 [.ref b1, .ref b2], ar G b1 800 (fun j => e9 (cv j)), ar G b2 800 (fun j => e9 (cm j))]) (qV (fun H => ∃ (σ1 : Sg) (cv1 : Nat → Nat) (cm1 : Nat → Nat), (σ1, cv1, cm1) = lvT σ cv cm r ∧ Bd σ1 ∧ Bc 100 cv1 ∧ Bc 24 cm1 ∧ va_P G.1 vwCl [ob t 3 [.ref o, .ref q], ob o 1 [.int (nI (nn σ1)), .ref a1, .ref a2, .ref a3, .ref a4], ar G a1 24 (fun j => nI ((dd σ1) j)), ar G a2 384 (fun j => nI ((vv σ1) j)), ar G a3 24 (fun j => e9 ((ff σ1) j)), ar G a4 24 (fun j => e9 ((ss σ1) j)), ob q 2 [.ref b1, .ref b2], ar G b1 800 (fun j => e9 (cv1 j)), ar G b2 800 (fun j => e9 (cm1 j))] H) (mA [ob t 3 [.ref o, .ref q], ob o 1 [.int (nI (nn σ)), .ref a1, .ref a2, .ref a3, .ref a4], ar G a1 24 (fun j => nI ((dd σ) j)), ar G a2 384 (fun j => nI ((vv σ) j)), ar G a3 24 (fun j => e9 ((ff σ) j)), ar G a4 24 (fun j => e9 ((ss σ) j)), ob q 2 [.ref b1, .ref b2], ar G b1 800 (fun j => e9 (cv j)), ar G b2 800 (fun j => e9 (cm j))])) 0 0 (mA [ob t 3 [.ref o, .ref q], ob o 1 [.int (nI (nn σ)), .ref a1, .ref a2, .ref a3, .ref a4], ar G a1 24 (fun j => nI ((dd σ) j)), ar G a2 384 (fun j => nI ((vv σ) j)), ar G a3 24 (fun j => e9 ((ff σ) j)), ar G a4 24 (fun j => e9 ((ss σ) j)), ob q 2 [.ref b1, .ref b2], ar G b1 800 (fun j => e9 (cv j)), ar G b2 800 (fun j => e9 (cm j))]) := by
  refine met_muV (cc := cX3_leaveForm) (maxL := 4) (own := RX3) (by decide) rfl rfl (Nat.le_of_ble_eq_true rfl) ?_
  intro p e s m args below meth cod Q A hx hb hml hown hts hK hP hD hS hret ls hl
  have hl : lv_has ls 4 [(0, .ref t), (1, .int (nI r))] := hl
  refine lv_aload_n hx hb dX3_leaveForm_0 rfl (lv_at hl 0 rfl) ?_
  refine va_get (D := G.1) (ci := 3) (v := .ref o) (C := RX3) (T := TX3) (N := 2) hx hb hts iqX3_leaveForm_X3 hown hK.1 hP 0 rfl rfl 0 (by decide) (hts (.fieldLink RX3 12 "PushedTables$Table" "state" "LPushedTables$State;") (List.mem_of_getElem? (i := 1) rfl)) (fun _ h9 => h9) rfl dX3_leaveForm_1 ?_
  refine lv_iload_n hx hb dX3_leaveForm_4 rfl (lv_at hl 1 rfl) ?_
  refine g_ro (k_V (q0 := 1) (ci := 1) (n := 1) (As := [.int (nI r)]) (rest := []) (wc := [ob o 1 [.int (nI (nn σ)), .ref a1, .ref a2, .ref a3, .ref a4], ar G a1 24 (fun j => nI ((dd σ) j)), ar G a2 384 (fun j => nI ((vv σ) j)), ar G a3 24 (fun j => e9 ((ff σ) j)), ar G a4 24 (fun j => e9 ((ss σ) j))]) hx hb hml hown hts (c_X1_formOf (l := l) (G := G) (o := o) (a1 := a1) (a2 := a2) (a3 := a3) (a4 := a4) (σ := σ) (r := r) (hB := by first | assumption | omega) (hr := by first | assumption | omega))  gX3_leaveForm_X1_formOf rfl rfl rfl (by decide +kernel) ⟨Nat.le_of_ble_eq_true rfl, Nat.le_of_ble_eq_true rfl⟩ rfl hK hP hD [1, 2, 3, 4, 5] rfl (by decide)  rfl rfl rfl hl.1 rfl (Nat.le_of_ble_eq_true rfl) dX3_leaveForm_5 ⟨Nat.le_of_ble_eq_true rfl, Nat.le_of_ble_eq_true rfl⟩) (fun r5 h5 => ?_)
  obtain rfl : (e9 (ff σ r)) = r5 := Eq.symm h5
  have b5 := Bd.f (by assumption : Bd σ) r
  refine lv_istore_n (lv' := [(2, .int (e9 (ff σ r))), (0, .ref t), (1, .int (nI r))]) hx hb dX3_leaveForm_8 rfl hl (by decide) rfl (fun ls hl => ?_)
  refine lv_aload_n hx hb dX3_leaveForm_9 rfl (lv_at hl 1 rfl) ?_
  refine va_get (D := G.1) (ci := 3) (v := .ref o) (C := RX3) (T := TX3) (N := 2) hx hb hts iqX3_leaveForm_X3 hown hK.1 hP 0 rfl rfl 0 (by decide) (hts (.fieldLink RX3 12 "PushedTables$Table" "state" "LPushedTables$State;") (List.mem_of_getElem? (i := 1) rfl)) (fun _ h9 => h9) rfl dX3_leaveForm_10 ?_
  refine lv_iload_n hx hb dX3_leaveForm_13 rfl (lv_at hl 0 rfl) ?_
  refine g_ro (k_V (q0 := 1) (ci := 1) (n := 1) (As := [.int (e9 (ff σ r))]) (rest := []) (wc := [ob o 1 [.int (nI (nn σ)), .ref a1, .ref a2, .ref a3, .ref a4], ar G a1 24 (fun j => nI ((dd σ) j)), ar G a2 384 (fun j => nI ((vv σ) j)), ar G a3 24 (fun j => e9 ((ff σ) j)), ar G a4 24 (fun j => e9 ((ss σ) j))]) hx hb hml hown hts (c_X1_shiftOf (l := l) (G := G) (o := o) (a1 := a1) (a2 := a2) (a3 := a3) (a4 := a4) (σ := σ) (f := ff σ r) (xf := (e9 (ff σ r))) (hxf := rfl) (hB := by first | assumption | omega) (hf := by first | assumption | omega))  gX3_leaveForm_X1_shiftOf rfl rfl rfl (by decide +kernel) ⟨Nat.le_of_ble_eq_true rfl, Nat.le_of_ble_eq_true rfl⟩ rfl hK hP hD [1, 2, 3, 4, 5] rfl (by decide)  rfl rfl rfl hl.1 rfl (Nat.le_of_ble_eq_true rfl) dX3_leaveForm_14 ⟨Nat.le_of_ble_eq_true rfl, Nat.le_of_ble_eq_true rfl⟩) (fun r14 h14 => ?_)
  obtain rfl : (e9 (shf σ (ff σ r))) = r14 := Eq.symm h14
  have b14 := shf_le (by assumption : Bd σ) (ff σ r)
  refine lv_istore_n (lv' := [(3, .int (e9 (shf σ (ff σ r)))), (2, .int (e9 (ff σ r))), (0, .ref t), (1, .int (nI r))]) hx hb dX3_leaveForm_17 rfl hl (by decide) rfl (fun ls hl => ?_)
  refine lv_aload_n hx hb dX3_leaveForm_18 rfl (lv_at hl 2 rfl) ?_
  refine va_get (D := G.1) (ci := 3) (v := .ref o) (C := RX3) (T := TX3) (N := 2) hx hb hts iqX3_leaveForm_X3 hown hK.1 hP 0 rfl rfl 0 (by decide) (hts (.fieldLink RX3 12 "PushedTables$Table" "state" "LPushedTables$State;") (List.mem_of_getElem? (i := 1) rfl)) (fun _ h9 => h9) rfl dX3_leaveForm_19 ?_
  refine lv_iload_n hx hb dX3_leaveForm_22 rfl (lv_at hl 3 rfl) ?_
  refine lv_bipush (v := (e9 1000)) hx hb dX3_leaveForm_23 (by decide) ?_
  refine g_V (k_V (q0 := 1) (ci := 1) (n := 2) (As := [.int (nI r), .int (e9 1000)]) (rest := []) (wc := [ob o 1 [.int (nI (nn σ)), .ref a1, .ref a2, .ref a3, .ref a4], ar G a1 24 (fun j => nI ((dd σ) j)), ar G a2 384 (fun j => nI ((vv σ) j)), ar G a3 24 (fun j => e9 ((ff σ) j)), ar G a4 24 (fun j => e9 ((ss σ) j))]) hx hb hml hown hts (c_X1_giveForm (l := l) (G := G) (o := o) (a1 := a1) (a2 := a2) (a3 := a3) (a4 := a4) (σ := σ) (r := r) (f := 1000) (xf := (e9 1000)) (hxf := rfl) (hr := by first | assumption | omega))  gX3_leaveForm_X1_giveForm rfl rfl rfl (by decide +kernel) ⟨Nat.le_of_ble_eq_true rfl, Nat.le_of_ble_eq_true rfl⟩ rfl hK hP hD [1, 2, 3, 4, 5] rfl (by decide)  rfl rfl rfl hl.1 rfl (Nat.le_of_ble_eq_true rfl) dX3_leaveForm_25 ⟨Nat.le_of_ble_eq_true rfl, Nat.le_of_ble_eq_true rfl⟩) hP hD hS [1, 2, 3, 4, 5] rfl (fun H locs hB25 back hS => ?_)
  have hP1 := hB25
  obtain ⟨hP, hD⟩ := back [ob o 1 [.int (nI (nn σ)), .ref a1, .ref a2, .ref a3, .ref a4], ar G a1 24 (fun j => nI ((dd σ) j)), ar G a2 384 (fun j => nI ((vv σ) j)), ar G a3 24 (fun j => e9 ((va_up (ff σ) r 1000) j)), ar G a4 24 (fun j => e9 ((ss σ) j))] rfl hP1
  have hP : va_P G.1 vwCl [ob t 3 [.ref o, .ref q], ob o 1 [.int (nI (nn σ)), .ref a1, .ref a2, .ref a3, .ref a4], ar G a1 24 (fun j => nI ((dd σ) j)), ar G a2 384 (fun j => nI ((vv σ) j)), ar G a3 24 (fun j => e9 ((va_up (ff σ) r 1000) j)), ar G a4 24 (fun j => e9 ((ss σ) j)), ob q 2 [.ref b1, .ref b2], ar G b1 800 (fun j => e9 (cv j)), ar G b2 800 (fun j => e9 (cm j))] H := hP
  have hD : va_D A [ob t 3 [.ref o, .ref q], ob o 1 [.int (nI (nn σ)), .ref a1, .ref a2, .ref a3, .ref a4], ar G a1 24 (fun j => nI ((dd σ) j)), ar G a2 384 (fun j => nI ((vv σ) j)), ar G a3 24 (fun j => e9 ((va_up (ff σ) r 1000) j)), ar G a4 24 (fun j => e9 ((ss σ) j)), ob q 2 [.ref b1, .ref b2], ar G b1 800 (fun j => e9 (cv j)), ar G b2 800 (fun j => e9 (cm j))] := hD
  refine lv_iload_n hx hb dX3_leaveForm_28 rfl (lv_at hl 0 rfl) ?_
  refine lv_bipush (v := (e9 1000)) hx hb dX3_leaveForm_29 (by decide) ?_
  refine r_icmp_eq (P := (shf σ (ff σ r)) = 1000) (tgt := 64) hx hb dX3_leaveForm_31 (by decide) (e9_inj (by omega) (by omega)) (fun cq31 => ?_) (fun cq31 => ?_)
  · exact hret _ _ _ _ hS dX3_leaveForm_64 (⟨(nn σ, dd σ, vv σ, va_up (ff σ) r 1000, ss σ), cv, cm, by unfold lvT; rw [if_neg (fun z => z.1 cq31)], Bd_setF hB (Or.inr rfl), by first | assumption | omega, by first | assumption | omega, hP⟩)
  · have hB1 := Bd_setF hB (r := r) (f := 1000) (Or.inr rfl)
    have s31 := shf_le hB (ff σ r)
    have f31 := shf_ne cq31
    refine lv_aload_n hx hb dX3_leaveForm_34 rfl (lv_at hl 2 rfl) ?_
    refine va_get (D := G.1) (ci := 3) (v := .ref o) (C := RX3) (T := TX3) (N := 2) hx hb hts iqX3_leaveForm_X3 hown hK.1 hP 0 rfl rfl 0 (by decide) (hts (.fieldLink RX3 12 "PushedTables$Table" "state" "LPushedTables$State;") (List.mem_of_getElem? (i := 1) rfl)) (fun _ h9 => h9) rfl dX3_leaveForm_35 ?_
    refine lv_iload_n hx hb dX3_leaveForm_38 rfl (lv_at hl 1 rfl) ?_
    refine g_ro (k_V (q0 := 1) (ci := 1) (n := 1) (As := [.int (e9 (ff σ r))]) (rest := []) (wc := [ob o 1 [.int (nI (nn σ)), .ref a1, .ref a2, .ref a3, .ref a4], ar G a1 24 (fun j => nI ((dd σ) j)), ar G a2 384 (fun j => nI ((vv σ) j)), ar G a3 24 (fun j => e9 ((va_up (ff σ) r 1000) j)), ar G a4 24 (fun j => e9 ((ss σ) j))]) hx hb hml hown hts (c_X1_sharersOf (l := l) (G := G) (o := o) (a1 := a1) (a2 := a2) (a3 := a3) (a4 := a4) (σ := (nn σ, dd σ, vv σ, va_up (ff σ) r 1000, ss σ)) (f := ff σ r) (xf := (e9 (ff σ r))) (hxf := rfl) (hB := by first | assumption | omega) (hf := by first | assumption | omega))  gX3_leaveForm_X1_sharersOf rfl rfl rfl (by decide +kernel) ⟨Nat.le_of_ble_eq_true rfl, Nat.le_of_ble_eq_true rfl⟩ rfl hK hP hD [1, 2, 3, 4, 5] rfl (by decide)  rfl rfl rfl hl.1 rfl (Nat.le_of_ble_eq_true rfl) dX3_leaveForm_39 ⟨Nat.le_of_ble_eq_true rfl, Nat.le_of_ble_eq_true rfl⟩) (fun r39 h39 => ?_)
    obtain rfl : (nI (shr (nn σ, dd σ, vv σ, va_up (ff σ) r 1000, ss σ) (ff σ r))) = r39 := Eq.symm h39
    have b39 := shr_le (by assumption : Bd (nn σ, dd σ, vv σ, va_up (ff σ) r 1000, ss σ)) (ff σ r)
    refine r_if_ne (P := (shr (nn σ, dd σ, vv σ, va_up (ff σ) r 1000, ss σ) (ff σ r)) = 0) (tgt := 64) hx hb dX3_leaveForm_42 (by decide) (nI_eq0 (by omega)) (fun cq42 => ?_) (fun cq42 => ?_)
    · exact hret _ _ _ _ hS dX3_leaveForm_64 (⟨(nn σ, dd σ, vv σ, va_up (ff σ) r 1000, ss σ), cv, cm, by unfold lvT; rw [if_neg (fun z => cq42 z.2)], hB1, by first | assumption | omega, by first | assumption | omega, hP⟩)
    · refine lv_aload_n hx hb dX3_leaveForm_45 rfl (lv_at hl 2 rfl) ?_
      refine va_get (D := G.1) (ci := 3) (v := .ref q) (C := RX3) (T := TX3) (N := 2) hx hb hts iqX3_leaveForm_X3 hown hK.1 hP 0 rfl rfl 1 (by decide) (hts (.fieldLink RX3 21 "PushedTables$Table" "store" "LPushedTables$Store;") (List.mem_of_getElem? (i := 2) rfl)) (fun _ h9 => h9) rfl dX3_leaveForm_46 ?_
      refine lv_iload_n hx hb dX3_leaveForm_49 rfl (lv_at hl 1 rfl) ?_
      refine lv_iload_n hx hb dX3_leaveForm_50 rfl (lv_at hl 0 rfl) ?_
      refine g_V (k_V (q0 := 6) (ci := 2) (n := 2) (As := [.int (e9 (ff σ r)), .int (e9 (shf σ (ff σ r)))]) (rest := []) (wc := [ob q 2 [.ref b1, .ref b2], ar G b1 800 (fun j => e9 (cv j)), ar G b2 800 (fun j => e9 (cm j))]) hx hb hml hown hts (c_X2_takeOut (l := l) (G := G) (q := q) (b1 := b1) (b2 := b2) (cv := cv) (cm := cm) (f := ff σ r) (s1 := shf σ (ff σ r)) (xf := (e9 (ff σ r))) (xs1 := (e9 (shf σ (ff σ r)))) (hxf := rfl) (hxs1 := e9_n (by omega)) (hv := by first | assumption | omega) (hm := by first | assumption | omega) (hf := by first | assumption | omega) (hs := by first | assumption | omega))  gX3_leaveForm_X2_takeOut rfl rfl rfl (by decide +kernel) ⟨Nat.le_of_ble_eq_true rfl, Nat.le_of_ble_eq_true rfl⟩ rfl hK hP hD [6, 7, 8] rfl (by decide)  rfl rfl rfl hl.1 rfl (Nat.le_of_ble_eq_true rfl) dX3_leaveForm_51 ⟨Nat.le_of_ble_eq_true rfl, Nat.le_of_ble_eq_true rfl⟩) hP hD hS [6, 7, 8] rfl (fun H locs hB51 back hS => ?_)
      have hP1 := hB51
      obtain ⟨hP, hD⟩ := back [ob q 2 [.ref b1, .ref b2], ar G b1 800 (fun j => e9 ((tkF cv cm (ff σ r) (shf σ (ff σ r)) ((shf σ (ff σ r)) + 16)) j)), ar G b2 800 (fun j => e9 ((tkF cm cm (ff σ r) (shf σ (ff σ r)) ((shf σ (ff σ r)) + 16)) j))] rfl hP1
      have hP : va_P G.1 vwCl [ob t 3 [.ref o, .ref q], ob o 1 [.int (nI (nn σ)), .ref a1, .ref a2, .ref a3, .ref a4], ar G a1 24 (fun j => nI ((dd σ) j)), ar G a2 384 (fun j => nI ((vv σ) j)), ar G a3 24 (fun j => e9 ((va_up (ff σ) r 1000) j)), ar G a4 24 (fun j => e9 ((ss σ) j)), ob q 2 [.ref b1, .ref b2], ar G b1 800 (fun j => e9 ((tkF cv cm (ff σ r) (shf σ (ff σ r)) ((shf σ (ff σ r)) + 16)) j)), ar G b2 800 (fun j => e9 ((tkF cm cm (ff σ r) (shf σ (ff σ r)) ((shf σ (ff σ r)) + 16)) j))] H := hP
      have hD : va_D A [ob t 3 [.ref o, .ref q], ob o 1 [.int (nI (nn σ)), .ref a1, .ref a2, .ref a3, .ref a4], ar G a1 24 (fun j => nI ((dd σ) j)), ar G a2 384 (fun j => nI ((vv σ) j)), ar G a3 24 (fun j => e9 ((va_up (ff σ) r 1000) j)), ar G a4 24 (fun j => e9 ((ss σ) j)), ob q 2 [.ref b1, .ref b2], ar G b1 800 (fun j => e9 ((tkF cv cm (ff σ r) (shf σ (ff σ r)) ((shf σ (ff σ r)) + 16)) j)), ar G b2 800 (fun j => e9 ((tkF cm cm (ff σ r) (shf σ (ff σ r)) ((shf σ (ff σ r)) + 16)) j))] := hD
      refine lv_aload_n hx hb dX3_leaveForm_54 rfl (lv_at hl 2 rfl) ?_
      refine va_get (D := G.1) (ci := 3) (v := .ref o) (C := RX3) (T := TX3) (N := 2) hx hb hts iqX3_leaveForm_X3 hown hK.1 hP 0 rfl rfl 0 (by decide) (hts (.fieldLink RX3 12 "PushedTables$Table" "state" "LPushedTables$State;") (List.mem_of_getElem? (i := 1) rfl)) (fun _ h9 => h9) rfl dX3_leaveForm_55 ?_
      refine lv_iload_n hx hb dX3_leaveForm_58 rfl (lv_at hl 1 rfl) ?_
      refine r_top (y := (nI (ff σ r))) (e9_n (by omega)) ?_
      refine lv_bipush (v := (e9 1000)) hx hb dX3_leaveForm_59 (by decide) ?_
      refine g_V (k_V (q0 := 1) (ci := 1) (n := 2) (As := [.int (nI (ff σ r)), .int (e9 1000)]) (rest := []) (wc := [ob o 1 [.int (nI (nn σ)), .ref a1, .ref a2, .ref a3, .ref a4], ar G a1 24 (fun j => nI ((dd σ) j)), ar G a2 384 (fun j => nI ((vv σ) j)), ar G a3 24 (fun j => e9 ((va_up (ff σ) r 1000) j)), ar G a4 24 (fun j => e9 ((ss σ) j))]) hx hb hml hown hts (c_X1_changeShift (l := l) (G := G) (o := o) (a1 := a1) (a2 := a2) (a3 := a3) (a4 := a4) (σ := (nn σ, dd σ, vv σ, va_up (ff σ) r 1000, ss σ)) (f := ff σ r) (s1 := 1000) (xs1 := (e9 1000)) (hxs1 := rfl) (hf := by first | assumption | omega))  gX3_leaveForm_X1_changeShift rfl rfl rfl (by decide +kernel) ⟨Nat.le_of_ble_eq_true rfl, Nat.le_of_ble_eq_true rfl⟩ rfl hK hP hD [1, 2, 3, 4, 5] rfl (by decide)  rfl rfl rfl hl.1 rfl (Nat.le_of_ble_eq_true rfl) dX3_leaveForm_61 ⟨Nat.le_of_ble_eq_true rfl, Nat.le_of_ble_eq_true rfl⟩) hP hD hS [1, 2, 3, 4, 5] rfl (fun H locs hB61 back hS => ?_)
      have hP1 := hB61
      obtain ⟨hP, hD⟩ := back [ob o 1 [.int (nI (nn σ)), .ref a1, .ref a2, .ref a3, .ref a4], ar G a1 24 (fun j => nI ((dd σ) j)), ar G a2 384 (fun j => nI ((vv σ) j)), ar G a3 24 (fun j => e9 ((va_up (ff σ) r 1000) j)), ar G a4 24 (fun j => e9 ((va_up ((ss σ)) (ff σ r) 1000) j))] rfl hP1
      have hP : va_P G.1 vwCl [ob t 3 [.ref o, .ref q], ob o 1 [.int (nI (nn σ)), .ref a1, .ref a2, .ref a3, .ref a4], ar G a1 24 (fun j => nI ((dd σ) j)), ar G a2 384 (fun j => nI ((vv σ) j)), ar G a3 24 (fun j => e9 ((va_up (ff σ) r 1000) j)), ar G a4 24 (fun j => e9 ((va_up ((ss σ)) (ff σ r) 1000) j)), ob q 2 [.ref b1, .ref b2], ar G b1 800 (fun j => e9 ((tkF cv cm (ff σ r) (shf σ (ff σ r)) ((shf σ (ff σ r)) + 16)) j)), ar G b2 800 (fun j => e9 ((tkF cm cm (ff σ r) (shf σ (ff σ r)) ((shf σ (ff σ r)) + 16)) j))] H := hP
      have hD : va_D A [ob t 3 [.ref o, .ref q], ob o 1 [.int (nI (nn σ)), .ref a1, .ref a2, .ref a3, .ref a4], ar G a1 24 (fun j => nI ((dd σ) j)), ar G a2 384 (fun j => nI ((vv σ) j)), ar G a3 24 (fun j => e9 ((va_up (ff σ) r 1000) j)), ar G a4 24 (fun j => e9 ((va_up ((ss σ)) (ff σ r) 1000) j)), ob q 2 [.ref b1, .ref b2], ar G b1 800 (fun j => e9 ((tkF cv cm (ff σ r) (shf σ (ff σ r)) ((shf σ (ff σ r)) + 16)) j)), ar G b2 800 (fun j => e9 ((tkF cm cm (ff σ r) (shf σ (ff σ r)) ((shf σ (ff σ r)) + 16)) j))] := hD
      exact hret _ _ _ _ hS dX3_leaveForm_64 (⟨((nn σ), (dd σ), (vv σ), (va_up (ff σ) r 1000), va_up ((ss σ)) (ff σ r) 1000), tkF cv cm (ff σ r) (shf σ (ff σ r)) ((shf σ (ff σ r)) + 16), tkF cm cm (ff σ r) (shf σ (ff σ r)) ((shf σ (ff σ r)) + 16), by unfold lvT; rw [if_pos ⟨cq31, cq42⟩], Bd_setS hB1 (Or.inr rfl), tkF_Bc hv, tkF_Bc hm, hP⟩)

theorem iqX3_pushNewForm_X3 : ∀ w ∈ u_ws RX3 TX3 2, w ∈ wsX3_pushNewForm := by decide +kernel
set_option maxHeartbeats 1000000 in
set_option maxRecDepth 100000 in
theorem c_X3_pushNewForm (l : Launch) (G : kG) (t : Nat) (o a1 a2 a3 a4 : Nat) (σ : Sg) (q b1 b2 : Nat) (cv cm : Nat → Nat) (hB : Bd σ) (hv : Bc 100 cv) (hm : Bc 24 cm) (r m2 : Nat) (hr : r < 24) (hm2 : m2 < 65536) : Met l yX3_pushNewForm wsX3_pushNewForm ({ frames := 3, cells := 0, slots := 0, locals := 69 } : Room) (cP G [.ref t, .int (nI r), .int (nI m2)] [ob t 3 [.ref o, .ref q], ob o 1 [.int (nI (nn σ)), .ref a1, .ref a2, .ref a3, .ref a4], ar G a1 24 (fun j => nI ((dd σ) j)), ar G a2 384 (fun j => nI ((vv σ) j)), ar G a3 24 (fun j => e9 ((ff σ) j)), ar G a4 24 (fun j => e9 ((ss σ) j)), ob q 2 [.ref b1, .ref b2], ar G b1 800 (fun j => e9 (cv j)), ar G b2 800 (fun j => e9 (cm j))]) (qV (fun H => ∃ (σ1 : Sg) (cv1 : Nat → Nat) (cm1 : Nat → Nat), (σ1, cv1, cm1) = pnT σ cv cm r m2 ∧ Bd σ1 ∧ Bc 100 cv1 ∧ Bc 24 cm1 ∧ va_P G.1 vwCl [ob t 3 [.ref o, .ref q], ob o 1 [.int (nI (nn σ1)), .ref a1, .ref a2, .ref a3, .ref a4], ar G a1 24 (fun j => nI ((dd σ1) j)), ar G a2 384 (fun j => nI ((vv σ1) j)), ar G a3 24 (fun j => e9 ((ff σ1) j)), ar G a4 24 (fun j => e9 ((ss σ1) j)), ob q 2 [.ref b1, .ref b2], ar G b1 800 (fun j => e9 (cv1 j)), ar G b2 800 (fun j => e9 (cm1 j))] H) (mA [ob t 3 [.ref o, .ref q], ob o 1 [.int (nI (nn σ)), .ref a1, .ref a2, .ref a3, .ref a4], ar G a1 24 (fun j => nI ((dd σ) j)), ar G a2 384 (fun j => nI ((vv σ) j)), ar G a3 24 (fun j => e9 ((ff σ) j)), ar G a4 24 (fun j => e9 ((ss σ) j)), ob q 2 [.ref b1, .ref b2], ar G b1 800 (fun j => e9 (cv j)), ar G b2 800 (fun j => e9 (cm j))])) 0 0 (mA [ob t 3 [.ref o, .ref q], ob o 1 [.int (nI (nn σ)), .ref a1, .ref a2, .ref a3, .ref a4], ar G a1 24 (fun j => nI ((dd σ) j)), ar G a2 384 (fun j => nI ((vv σ) j)), ar G a3 24 (fun j => e9 ((ff σ) j)), ar G a4 24 (fun j => e9 ((ss σ) j)), ob q 2 [.ref b1, .ref b2], ar G b1 800 (fun j => e9 (cv j)), ar G b2 800 (fun j => e9 (cm j))]) := by
  refine met_muV (cc := cX3_pushNewForm) (maxL := 5) (own := RX3) (by decide) rfl rfl (Nat.le_of_ble_eq_true rfl) ?_
  intro p e s m args below meth cod Q A hx hb hml hown hts hK hP hD hS hret ls hl
  have hl : lv_has ls 5 [(0, .ref t), (1, .int (nI r)), (2, .int (nI m2))] := hl
  refine lv_aload_n hx hb dX3_pushNewForm_0 rfl (lv_at hl 0 rfl) ?_
  refine va_get (D := G.1) (ci := 3) (v := .ref o) (C := RX3) (T := TX3) (N := 2) hx hb hts iqX3_pushNewForm_X3 hown hK.1 hP 0 rfl rfl 0 (by decide) (hts (.fieldLink RX3 12 "PushedTables$Table" "state" "LPushedTables$State;") (List.mem_of_getElem? (i := 1) rfl)) (fun _ h9 => h9) rfl dX3_pushNewForm_1 ?_
  refine g_ro (k_V (q0 := 1) (ci := 1) (n := 0) (As := []) (rest := []) (wc := [ob o 1 [.int (nI (nn σ)), .ref a1, .ref a2, .ref a3, .ref a4], ar G a1 24 (fun j => nI ((dd σ) j)), ar G a2 384 (fun j => nI ((vv σ) j)), ar G a3 24 (fun j => e9 ((ff σ) j)), ar G a4 24 (fun j => e9 ((ss σ) j))]) hx hb hml hown hts (c_X1_freeForm (l := l) (G := G) (o := o) (a1 := a1) (a2 := a2) (a3 := a3) (a4 := a4) (σ := σ) (hB := by first | assumption | omega))  gX3_pushNewForm_X1_freeForm rfl rfl rfl (by decide +kernel) ⟨Nat.le_of_ble_eq_true rfl, Nat.le_of_ble_eq_true rfl⟩ rfl hK hP hD [1, 2, 3, 4, 5] rfl (by decide)  rfl rfl rfl hl.1 rfl (Nat.le_of_ble_eq_true rfl) dX3_pushNewForm_4 ⟨Nat.le_of_ble_eq_true rfl, Nat.le_of_ble_eq_true rfl⟩) (fun r4 h4 => ?_)
  obtain rfl : (e9 (frf σ)) = r4 := Eq.symm h4
  have b4 := frf_le σ
  refine lv_istore_n (lv' := [(3, .int (e9 (frf σ))), (0, .ref t), (1, .int (nI r)), (2, .int (nI m2))]) hx hb dX3_pushNewForm_7 rfl hl (by decide) rfl (fun ls hl => ?_)
  refine lv_aload_n hx hb dX3_pushNewForm_8 rfl (lv_at hl 1 rfl) ?_
  refine va_get (D := G.1) (ci := 3) (v := .ref q) (C := RX3) (T := TX3) (N := 2) hx hb hts iqX3_pushNewForm_X3 hown hK.1 hP 0 rfl rfl 1 (by decide) (hts (.fieldLink RX3 21 "PushedTables$Table" "store" "LPushedTables$Store;") (List.mem_of_getElem? (i := 2) rfl)) (fun _ h9 => h9) rfl dX3_pushNewForm_9 ?_
  refine lv_iload_n hx hb dX3_pushNewForm_12 rfl (lv_at hl 3 rfl) ?_
  refine g_ro (k_V (q0 := 6) (ci := 2) (n := 1) (As := [.int (nI m2)]) (rest := []) (wc := [ob q 2 [.ref b1, .ref b2], ar G b1 800 (fun j => e9 (cv j)), ar G b2 800 (fun j => e9 (cm j))]) hx hb hml hown hts (c_X2_firstFit (l := l) (G := G) (q := q) (b1 := b1) (b2 := b2) (cv := cv) (cm := cm) (m2 := m2) (hv := by first | assumption | omega) (hm := by first | assumption | omega) (hm2 := by first | assumption | omega))  gX3_pushNewForm_X2_firstFit rfl rfl rfl (by decide +kernel) ⟨Nat.le_of_ble_eq_true rfl, Nat.le_of_ble_eq_true rfl⟩ rfl hK hP hD [6, 7, 8] rfl (by decide)  rfl rfl rfl hl.1 rfl (Nat.le_of_ble_eq_true rfl) dX3_pushNewForm_13 ⟨Nat.le_of_ble_eq_true rfl, Nat.le_of_ble_eq_true rfl⟩) (fun r13 h13 => ?_)
  obtain rfl : (e9 (ffit cm m2)) = r13 := Eq.symm h13
  have b13 := ffit_le cm m2
  refine lv_istore (lv' := [(4, .int (e9 (ffit cm m2))), (3, .int (e9 (frf σ))), (0, .ref t), (1, .int (nI r)), (2, .int (nI m2))]) hx hb dX3_pushNewForm_16 hl (by decide) rfl (fun ls hl => ?_)
  refine lv_iload_n hx hb dX3_pushNewForm_18 rfl (lv_at hl 1 rfl) ?_
  refine lv_bipush (v := (e9 1000)) hx hb dX3_pushNewForm_19 (by decide) ?_
  refine r_icmp_eq (P := (frf σ) = 1000) (tgt := 31) hx hb dX3_pushNewForm_21 (by decide) (e9_inj (by omega) (by omega)) (fun cq21 => ?_) (fun cq21 => ?_)
  · exact hret _ _ _ _ hS dX3_pushNewForm_31 (⟨σ, cv, cm, by unfold pnT; rw [if_pos (Or.inl cq21)], by first | assumption | omega, by first | assumption | omega, by first | assumption | omega, hP⟩)
  · refine lv_iload hx hb dX3_pushNewForm_24 (lv_at hl 0 rfl) ?_
    refine lv_bipush (v := (e9 1000)) hx hb dX3_pushNewForm_26 (by decide) ?_
    refine r_icmp_ne (P := (ffit cm m2) = 1000) (tgt := 32) hx hb dX3_pushNewForm_28 (by decide) (e9_inj (by omega) (by omega)) (fun cq28 => ?_) (fun cq28 => ?_)
    · refine lv_aload_n hx hb dX3_pushNewForm_32 rfl (lv_at hl 2 rfl) ?_
      refine va_get (D := G.1) (ci := 3) (v := .ref o) (C := RX3) (T := TX3) (N := 2) hx hb hts iqX3_pushNewForm_X3 hown hK.1 hP 0 rfl rfl 0 (by decide) (hts (.fieldLink RX3 12 "PushedTables$Table" "state" "LPushedTables$State;") (List.mem_of_getElem? (i := 1) rfl)) (fun _ h9 => h9) rfl dX3_pushNewForm_33 ?_
      refine lv_iload_n hx hb dX3_pushNewForm_36 rfl (lv_at hl 3 rfl) ?_
      refine lv_iload_n hx hb dX3_pushNewForm_37 rfl (lv_at hl 1 rfl) ?_
      refine g_V (k_V (q0 := 1) (ci := 1) (n := 2) (As := [.int (nI r), .int (e9 (frf σ))]) (rest := []) (wc := [ob o 1 [.int (nI (nn σ)), .ref a1, .ref a2, .ref a3, .ref a4], ar G a1 24 (fun j => nI ((dd σ) j)), ar G a2 384 (fun j => nI ((vv σ) j)), ar G a3 24 (fun j => e9 ((ff σ) j)), ar G a4 24 (fun j => e9 ((ss σ) j))]) hx hb hml hown hts (c_X1_giveForm (l := l) (G := G) (o := o) (a1 := a1) (a2 := a2) (a3 := a3) (a4 := a4) (σ := σ) (r := r) (f := frf σ) (xf := (e9 (frf σ))) (hxf := rfl) (hr := by first | assumption | omega))  gX3_pushNewForm_X1_giveForm rfl rfl rfl (by decide +kernel) ⟨Nat.le_of_ble_eq_true rfl, Nat.le_of_ble_eq_true rfl⟩ rfl hK hP hD [1, 2, 3, 4, 5] rfl (by decide)  rfl rfl rfl hl.1 rfl (Nat.le_of_ble_eq_true rfl) dX3_pushNewForm_38 ⟨Nat.le_of_ble_eq_true rfl, Nat.le_of_ble_eq_true rfl⟩) hP hD hS [1, 2, 3, 4, 5] rfl (fun H locs hB38 back hS => ?_)
      have hP1 := hB38
      obtain ⟨hP, hD⟩ := back [ob o 1 [.int (nI (nn σ)), .ref a1, .ref a2, .ref a3, .ref a4], ar G a1 24 (fun j => nI ((dd σ) j)), ar G a2 384 (fun j => nI ((vv σ) j)), ar G a3 24 (fun j => e9 ((va_up (ff σ) r (frf σ)) j)), ar G a4 24 (fun j => e9 ((ss σ) j))] rfl hP1
      have hP : va_P G.1 vwCl [ob t 3 [.ref o, .ref q], ob o 1 [.int (nI (nn σ)), .ref a1, .ref a2, .ref a3, .ref a4], ar G a1 24 (fun j => nI ((dd σ) j)), ar G a2 384 (fun j => nI ((vv σ) j)), ar G a3 24 (fun j => e9 ((va_up (ff σ) r (frf σ)) j)), ar G a4 24 (fun j => e9 ((ss σ) j)), ob q 2 [.ref b1, .ref b2], ar G b1 800 (fun j => e9 (cv j)), ar G b2 800 (fun j => e9 (cm j))] H := hP
      have hD : va_D A [ob t 3 [.ref o, .ref q], ob o 1 [.int (nI (nn σ)), .ref a1, .ref a2, .ref a3, .ref a4], ar G a1 24 (fun j => nI ((dd σ) j)), ar G a2 384 (fun j => nI ((vv σ) j)), ar G a3 24 (fun j => e9 ((va_up (ff σ) r (frf σ)) j)), ar G a4 24 (fun j => e9 ((ss σ) j)), ob q 2 [.ref b1, .ref b2], ar G b1 800 (fun j => e9 (cv j)), ar G b2 800 (fun j => e9 (cm j))] := hD
      refine lv_aload_n hx hb dX3_pushNewForm_41 rfl (lv_at hl 2 rfl) ?_
      refine va_get (D := G.1) (ci := 3) (v := .ref o) (C := RX3) (T := TX3) (N := 2) hx hb hts iqX3_pushNewForm_X3 hown hK.1 hP 0 rfl rfl 0 (by decide) (hts (.fieldLink RX3 12 "PushedTables$Table" "state" "LPushedTables$State;") (List.mem_of_getElem? (i := 1) rfl)) (fun _ h9 => h9) rfl dX3_pushNewForm_42 ?_
      refine lv_iload_n hx hb dX3_pushNewForm_45 rfl (lv_at hl 1 rfl) ?_
      refine r_top (y := (nI (frf σ))) (e9_n cq21) ?_
      refine lv_iload hx hb dX3_pushNewForm_46 (lv_at hl 0 rfl) ?_
      refine g_V (k_V (q0 := 1) (ci := 1) (n := 2) (As := [.int (nI (frf σ)), .int (e9 (ffit cm m2))]) (rest := []) (wc := [ob o 1 [.int (nI (nn σ)), .ref a1, .ref a2, .ref a3, .ref a4], ar G a1 24 (fun j => nI ((dd σ) j)), ar G a2 384 (fun j => nI ((vv σ) j)), ar G a3 24 (fun j => e9 ((va_up (ff σ) r (frf σ)) j)), ar G a4 24 (fun j => e9 ((ss σ) j))]) hx hb hml hown hts (c_X1_changeShift (l := l) (G := G) (o := o) (a1 := a1) (a2 := a2) (a3 := a3) (a4 := a4) (σ := (nn σ, dd σ, vv σ, va_up (ff σ) r (frf σ), ss σ)) (f := frf σ) (s1 := ffit cm m2) (xs1 := (e9 (ffit cm m2))) (hxs1 := rfl) (hf := by first | assumption | omega))  gX3_pushNewForm_X1_changeShift rfl rfl rfl (by decide +kernel) ⟨Nat.le_of_ble_eq_true rfl, Nat.le_of_ble_eq_true rfl⟩ rfl hK hP hD [1, 2, 3, 4, 5] rfl (by decide)  rfl rfl rfl hl.1 rfl (Nat.le_of_ble_eq_true rfl) dX3_pushNewForm_48 ⟨Nat.le_of_ble_eq_true rfl, Nat.le_of_ble_eq_true rfl⟩) hP hD hS [1, 2, 3, 4, 5] rfl (fun H locs hB48 back hS => ?_)
      have hP1 := hB48
      obtain ⟨hP, hD⟩ := back [ob o 1 [.int (nI (nn σ)), .ref a1, .ref a2, .ref a3, .ref a4], ar G a1 24 (fun j => nI ((dd σ) j)), ar G a2 384 (fun j => nI ((vv σ) j)), ar G a3 24 (fun j => e9 ((va_up (ff σ) r (frf σ)) j)), ar G a4 24 (fun j => e9 ((va_up ((ss σ)) (frf σ) (ffit cm m2)) j))] rfl hP1
      have hP : va_P G.1 vwCl [ob t 3 [.ref o, .ref q], ob o 1 [.int (nI (nn σ)), .ref a1, .ref a2, .ref a3, .ref a4], ar G a1 24 (fun j => nI ((dd σ) j)), ar G a2 384 (fun j => nI ((vv σ) j)), ar G a3 24 (fun j => e9 ((va_up (ff σ) r (frf σ)) j)), ar G a4 24 (fun j => e9 ((va_up ((ss σ)) (frf σ) (ffit cm m2)) j)), ob q 2 [.ref b1, .ref b2], ar G b1 800 (fun j => e9 (cv j)), ar G b2 800 (fun j => e9 (cm j))] H := hP
      have hD : va_D A [ob t 3 [.ref o, .ref q], ob o 1 [.int (nI (nn σ)), .ref a1, .ref a2, .ref a3, .ref a4], ar G a1 24 (fun j => nI ((dd σ) j)), ar G a2 384 (fun j => nI ((vv σ) j)), ar G a3 24 (fun j => e9 ((va_up (ff σ) r (frf σ)) j)), ar G a4 24 (fun j => e9 ((va_up ((ss σ)) (frf σ) (ffit cm m2)) j)), ob q 2 [.ref b1, .ref b2], ar G b1 800 (fun j => e9 (cv j)), ar G b2 800 (fun j => e9 (cm j))] := hD
      have hB1 := Bd_setS (f := frf σ) (s := ffit cm m2) (Bd_setF hB (r := r) (f := frf σ) (frf_le σ)) (ffit_le cm m2)
      refine lv_aload_n hx hb dX3_pushNewForm_51 rfl (lv_at hl 2 rfl) ?_
      refine lv_iload_n hx hb dX3_pushNewForm_52 rfl (lv_at hl 3 rfl) ?_
      refine g_V (k_V (q0 := 0) (ci := 3) (n := 1) (As := [.int (nI r)]) (rest := []) (wc := [ob t 3 [.ref o, .ref q], ob o 1 [.int (nI (nn σ)), .ref a1, .ref a2, .ref a3, .ref a4], ar G a1 24 (fun j => nI ((dd σ) j)), ar G a2 384 (fun j => nI ((vv σ) j)), ar G a3 24 (fun j => e9 ((va_up (ff σ) r (frf σ)) j)), ar G a4 24 (fun j => e9 ((va_up ((ss σ)) (frf σ) (ffit cm m2)) j)), ob q 2 [.ref b1, .ref b2], ar G b1 800 (fun j => e9 (cv j)), ar G b2 800 (fun j => e9 (cm j))]) hx hb hml hown hts (c_X3_fillCellsOf (l := l) (G := G) (t := t) (o := o) (a1 := a1) (a2 := a2) (a3 := a3) (a4 := a4) (σ := ((nn σ), (dd σ), (vv σ), (va_up (ff σ) r (frf σ)), va_up ((ss σ)) (frf σ) (ffit cm m2))) (q := q) (b1 := b1) (b2 := b2) (cv := cv) (cm := cm) (hB := by first | assumption | omega) (hv := by first | assumption | omega) (hm := by first | assumption | omega) (r := r) (hr := by first | assumption | omega))  gX3_pushNewForm_X3_fillCellsOf rfl rfl rfl (by decide +kernel) ⟨Nat.le_of_ble_eq_true rfl, Nat.le_of_ble_eq_true rfl⟩ rfl hK hP hD [0, 1, 2, 3, 4, 5, 6, 7, 8] rfl (by decide)  rfl rfl rfl hl.1 rfl (Nat.le_of_ble_eq_true rfl) dX3_pushNewForm_53 ⟨Nat.le_of_ble_eq_true rfl, Nat.le_of_ble_eq_true rfl⟩) hP hD hS [0, 1, 2, 3, 4, 5, 6, 7, 8] rfl (fun H locs hB53 back hS => ?_)
      obtain ⟨cv153, cm153, hq53, hb253, hb353, hP1⟩ := hB53
      obtain ⟨hP, hD⟩ := back [ob t 3 [.ref o, .ref q], ob o 1 [.int (nI (nn σ)), .ref a1, .ref a2, .ref a3, .ref a4], ar G a1 24 (fun j => nI ((dd σ) j)), ar G a2 384 (fun j => nI ((vv σ) j)), ar G a3 24 (fun j => e9 ((va_up (ff σ) r (frf σ)) j)), ar G a4 24 (fun j => e9 ((va_up ((ss σ)) (frf σ) (ffit cm m2)) j)), ob q 2 [.ref b1, .ref b2], ar G b1 800 (fun j => e9 (cv153 j)), ar G b2 800 (fun j => e9 (cm153 j))] rfl hP1
      have hP : va_P G.1 vwCl [ob t 3 [.ref o, .ref q], ob o 1 [.int (nI (nn σ)), .ref a1, .ref a2, .ref a3, .ref a4], ar G a1 24 (fun j => nI ((dd σ) j)), ar G a2 384 (fun j => nI ((vv σ) j)), ar G a3 24 (fun j => e9 ((va_up (ff σ) r (frf σ)) j)), ar G a4 24 (fun j => e9 ((va_up ((ss σ)) (frf σ) (ffit cm m2)) j)), ob q 2 [.ref b1, .ref b2], ar G b1 800 (fun j => e9 (cv153 j)), ar G b2 800 (fun j => e9 (cm153 j))] H := hP
      have hD : va_D A [ob t 3 [.ref o, .ref q], ob o 1 [.int (nI (nn σ)), .ref a1, .ref a2, .ref a3, .ref a4], ar G a1 24 (fun j => nI ((dd σ) j)), ar G a2 384 (fun j => nI ((vv σ) j)), ar G a3 24 (fun j => e9 ((va_up (ff σ) r (frf σ)) j)), ar G a4 24 (fun j => e9 ((va_up ((ss σ)) (frf σ) (ffit cm m2)) j)), ob q 2 [.ref b1, .ref b2], ar G b1 800 (fun j => e9 (cv153 j)), ar G b2 800 (fun j => e9 (cm153 j))] := hD
      exact hret _ _ _ _ hS dX3_pushNewForm_56 (⟨((nn σ), (dd σ), (vv σ), (va_up (ff σ) r (frf σ)), (va_up ((ss σ)) (frf σ) (ffit cm m2))), cv153, cm153, by unfold pnT; rw [if_neg (fun z => z.elim cq21 cq28)]; exact hq53, hB1, by first | assumption | omega, by first | assumption | omega, hP⟩)
    · exact hret _ _ _ _ hS dX3_pushNewForm_31 (⟨σ, cv, cm, by unfold pnT; rw [if_pos (Or.inr cq28)], by first | assumption | omega, by first | assumption | omega, by first | assumption | omega, hP⟩)

theorem iqX3_lookUp_X3 : ∀ w ∈ u_ws RX3 TX3 2, w ∈ wsX3_lookUp := by decide +kernel
set_option maxHeartbeats 1000000 in
set_option maxRecDepth 100000 in
theorem c_X3_lookUp (l : Launch) (G : kG) (t : Nat) (o a1 a2 a3 a4 : Nat) (σ : Sg) (q b1 b2 : Nat) (cv cm : Nat → Nat) (hB : Bd σ) (hv : Bc 100 cv) (hm : Bc 24 cm) (r c : Nat) (hr : r < 24) (hc : c < 16) : Met l yX3_lookUp wsX3_lookUp ({ frames := 2, cells := 0, slots := 0, locals := 42 } : Room) (cP G [.ref t, .int (nI r), .int (nI c)] [ob t 3 [.ref o, .ref q], ob o 1 [.int (nI (nn σ)), .ref a1, .ref a2, .ref a3, .ref a4], ar G a1 24 (fun j => nI ((dd σ) j)), ar G a2 384 (fun j => nI ((vv σ) j)), ar G a3 24 (fun j => e9 ((ff σ) j)), ar G a4 24 (fun j => e9 ((ss σ) j)), ob q 2 [.ref b1, .ref b2], ar G b1 800 (fun j => e9 (cv j)), ar G b2 800 (fun j => e9 (cm j))]) (vp_Si (fun rv => rv = (e9 (luk σ cv cm r c)))) 0 0 (fun _ => False) := by
  refine met_ro (cc := cX3_lookUp) (maxL := 5) (ty := .int) (own := RX3) (by decide) rfl rfl (fun _ _ => rfl) (Nat.le_of_ble_eq_true rfl) ?_
  intro p e s m args below meth cod Q hx hb hml hown hts hK hP hD hret ls hl
  have hl : lv_has ls 5 [(0, .ref t), (1, .int (nI r)), (2, .int (nI c))] := hl
  refine lv_aload_n hx hb dX3_lookUp_0 rfl (lv_at hl 0 rfl) ?_
  refine va_get (D := G.1) (ci := 3) (v := .ref o) (C := RX3) (T := TX3) (N := 2) hx hb hts iqX3_lookUp_X3 hown hK.1 hP 0 rfl rfl 0 (by decide) (hts (.fieldLink RX3 12 "PushedTables$Table" "state" "LPushedTables$State;") (List.mem_of_getElem? (i := 1) rfl)) (fun _ h9 => h9) rfl dX3_lookUp_1 ?_
  refine lv_iload_n hx hb dX3_lookUp_4 rfl (lv_at hl 1 rfl) ?_
  refine g_ro (k_V (q0 := 1) (ci := 1) (n := 1) (As := [.int (nI r)]) (rest := []) (wc := [ob o 1 [.int (nI (nn σ)), .ref a1, .ref a2, .ref a3, .ref a4], ar G a1 24 (fun j => nI ((dd σ) j)), ar G a2 384 (fun j => nI ((vv σ) j)), ar G a3 24 (fun j => e9 ((ff σ) j)), ar G a4 24 (fun j => e9 ((ss σ) j))]) hx hb hml hown hts (c_X1_formOf (l := l) (G := G) (o := o) (a1 := a1) (a2 := a2) (a3 := a3) (a4 := a4) (σ := σ) (r := r) (hB := by first | assumption | omega) (hr := by first | assumption | omega))  gX3_lookUp_X1_formOf rfl rfl rfl (by decide +kernel) ⟨Nat.le_of_ble_eq_true rfl, Nat.le_of_ble_eq_true rfl⟩ rfl hK hP hD [1, 2, 3, 4, 5] rfl (by decide)  rfl rfl rfl hl.1 rfl (Nat.le_of_ble_eq_true rfl) dX3_lookUp_5 ⟨Nat.le_of_ble_eq_true rfl, Nat.le_of_ble_eq_true rfl⟩) (fun r5 h5 => ?_)
  obtain rfl : (e9 (ff σ r)) = r5 := Eq.symm h5
  have b5 := Bd.f (by assumption : Bd σ) r
  refine lv_istore_n (lv' := [(3, .int (e9 (ff σ r))), (0, .ref t), (1, .int (nI r)), (2, .int (nI c))]) hx hb dX3_lookUp_8 rfl hl (by decide) rfl (fun ls hl => ?_)
  refine lv_aload_n hx hb dX3_lookUp_9 rfl (lv_at hl 1 rfl) ?_
  refine va_get (D := G.1) (ci := 3) (v := .ref o) (C := RX3) (T := TX3) (N := 2) hx hb hts iqX3_lookUp_X3 hown hK.1 hP 0 rfl rfl 0 (by decide) (hts (.fieldLink RX3 12 "PushedTables$Table" "state" "LPushedTables$State;") (List.mem_of_getElem? (i := 1) rfl)) (fun _ h9 => h9) rfl dX3_lookUp_10 ?_
  refine lv_iload_n hx hb dX3_lookUp_13 rfl (lv_at hl 0 rfl) ?_
  refine g_ro (k_V (q0 := 1) (ci := 1) (n := 1) (As := [.int (e9 (ff σ r))]) (rest := []) (wc := [ob o 1 [.int (nI (nn σ)), .ref a1, .ref a2, .ref a3, .ref a4], ar G a1 24 (fun j => nI ((dd σ) j)), ar G a2 384 (fun j => nI ((vv σ) j)), ar G a3 24 (fun j => e9 ((ff σ) j)), ar G a4 24 (fun j => e9 ((ss σ) j))]) hx hb hml hown hts (c_X1_shiftOf (l := l) (G := G) (o := o) (a1 := a1) (a2 := a2) (a3 := a3) (a4 := a4) (σ := σ) (f := ff σ r) (xf := (e9 (ff σ r))) (hxf := rfl) (hB := by first | assumption | omega) (hf := by first | assumption | omega))  gX3_lookUp_X1_shiftOf rfl rfl rfl (by decide +kernel) ⟨Nat.le_of_ble_eq_true rfl, Nat.le_of_ble_eq_true rfl⟩ rfl hK hP hD [1, 2, 3, 4, 5] rfl (by decide)  rfl rfl rfl hl.1 rfl (Nat.le_of_ble_eq_true rfl) dX3_lookUp_14 ⟨Nat.le_of_ble_eq_true rfl, Nat.le_of_ble_eq_true rfl⟩) (fun r14 h14 => ?_)
  obtain rfl : (e9 (shf σ (ff σ r))) = r14 := Eq.symm h14
  have b14 := shf_le (by assumption : Bd σ) (ff σ r)
  refine lv_istore (lv' := [(4, .int (e9 (shf σ (ff σ r)))), (3, .int (e9 (ff σ r))), (0, .ref t), (1, .int (nI r)), (2, .int (nI c))]) hx hb dX3_lookUp_17 hl (by decide) rfl (fun ls hl => ?_)
  refine lv_iload hx hb dX3_lookUp_19 (lv_at hl 0 rfl) ?_
  refine lv_bipush (v := (e9 1000)) hx hb dX3_lookUp_21 (by decide) ?_
  refine r_icmp_eq (P := (shf σ (ff σ r)) = 1000) (tgt := 53) hx hb dX3_lookUp_23 (by decide) (e9_inj (by omega) (by omega)) (fun cq23 => ?_) (fun cq23 => ?_)
  · refine lv_aload_n hx hb dX3_lookUp_53 rfl (lv_at hl 2 rfl) ?_
    refine va_get (D := G.1) (ci := 3) (v := .ref o) (C := RX3) (T := TX3) (N := 2) hx hb hts iqX3_lookUp_X3 hown hK.1 hP 0 rfl rfl 0 (by decide) (hts (.fieldLink RX3 12 "PushedTables$Table" "state" "LPushedTables$State;") (List.mem_of_getElem? (i := 1) rfl)) (fun _ h9 => h9) rfl dX3_lookUp_54 ?_
    refine lv_iload_n hx hb dX3_lookUp_57 rfl (lv_at hl 3 rfl) ?_
    refine g_ro (k_V (q0 := 1) (ci := 1) (n := 1) (As := [.int (nI r)]) (rest := []) (wc := [ob o 1 [.int (nI (nn σ)), .ref a1, .ref a2, .ref a3, .ref a4], ar G a1 24 (fun j => nI ((dd σ) j)), ar G a2 384 (fun j => nI ((vv σ) j)), ar G a3 24 (fun j => e9 ((ff σ) j)), ar G a4 24 (fun j => e9 ((ss σ) j))]) hx hb hml hown hts (c_X1_defaultOf (l := l) (G := G) (o := o) (a1 := a1) (a2 := a2) (a3 := a3) (a4 := a4) (σ := σ) (r := r) (hB := by first | assumption | omega) (hr := by first | assumption | omega))  gX3_lookUp_X1_defaultOf rfl rfl rfl (by decide +kernel) ⟨Nat.le_of_ble_eq_true rfl, Nat.le_of_ble_eq_true rfl⟩ rfl hK hP hD [1, 2, 3, 4, 5] rfl (by decide)  rfl rfl rfl hl.1 rfl (Nat.le_of_ble_eq_true rfl) dX3_lookUp_58 ⟨Nat.le_of_ble_eq_true rfl, Nat.le_of_ble_eq_true rfl⟩) (fun r58 h58 => ?_)
    obtain rfl : (nI (dd σ r)) = r58 := Eq.symm h58
    have b58 := Bd.d (by assumption : Bd σ) r
    exact hret _ _ _ dX3_lookUp_61 (by unfold luk; rw [if_neg (fun z => z.1 cq23)]; exact (e9_n (by omega)).symm)
  · have s23 := shf_le hB (ff σ r)
    refine lv_aload_n hx hb dX3_lookUp_26 rfl (lv_at hl 2 rfl) ?_
    refine va_get (D := G.1) (ci := 3) (v := .ref q) (C := RX3) (T := TX3) (N := 2) hx hb hts iqX3_lookUp_X3 hown hK.1 hP 0 rfl rfl 1 (by decide) (hts (.fieldLink RX3 21 "PushedTables$Table" "store" "LPushedTables$Store;") (List.mem_of_getElem? (i := 2) rfl)) (fun _ h9 => h9) rfl dX3_lookUp_27 ?_
    refine lv_iload hx hb dX3_lookUp_30 (lv_at hl 0 rfl) ?_
    refine r_top (y := (nI (shf σ (ff σ r)))) (e9_n cq23) ?_
    refine lv_iload_n hx hb dX3_lookUp_32 rfl (lv_at hl 4 rfl) ?_
    refine r_iadd (v := (shf σ (ff σ r)) + c) hx hb dX3_lookUp_33 rfl ?_
    refine g_ro (k_V (q0 := 6) (ci := 2) (n := 1) (As := [.int (nI ((shf σ (ff σ r)) + c))]) (rest := []) (wc := [ob q 2 [.ref b1, .ref b2], ar G b1 800 (fun j => e9 (cv j)), ar G b2 800 (fun j => e9 (cm j))]) hx hb hml hown hts (c_X2_markAt (l := l) (G := G) (q := q) (b1 := b1) (b2 := b2) (cv := cv) (cm := cm) (k := (shf σ (ff σ r)) + c) (hm := by first | assumption | omega) (hk := by first | assumption | omega))  gX3_lookUp_X2_markAt rfl rfl rfl (by decide +kernel) ⟨Nat.le_of_ble_eq_true rfl, Nat.le_of_ble_eq_true rfl⟩ rfl hK hP hD [6, 7, 8] rfl (by decide)  rfl rfl rfl hl.1 rfl (Nat.le_of_ble_eq_true rfl) dX3_lookUp_34 ⟨Nat.le_of_ble_eq_true rfl, Nat.le_of_ble_eq_true rfl⟩) (fun r34 h34 => ?_)
    obtain rfl : (e9 (cm ((shf σ (ff σ r)) + c))) = r34 := Eq.symm h34
    have b34 := Bc.at (by assumption : Bc 24 cm) ((shf σ (ff σ r)) + c)
    refine lv_iload_n hx hb dX3_lookUp_37 rfl (lv_at hl 1 rfl) ?_
    refine r_icmp_ne (P := (cm ((shf σ (ff σ r)) + c)) = (ff σ r)) (tgt := 53) hx hb dX3_lookUp_38 (by decide) (e9_inj (by omega) (by omega)) (fun cq38 => ?_) (fun cq38 => ?_)
    · refine lv_aload_n hx hb dX3_lookUp_53 rfl (lv_at hl 2 rfl) ?_
      refine va_get (D := G.1) (ci := 3) (v := .ref o) (C := RX3) (T := TX3) (N := 2) hx hb hts iqX3_lookUp_X3 hown hK.1 hP 0 rfl rfl 0 (by decide) (hts (.fieldLink RX3 12 "PushedTables$Table" "state" "LPushedTables$State;") (List.mem_of_getElem? (i := 1) rfl)) (fun _ h9 => h9) rfl dX3_lookUp_54 ?_
      refine lv_iload_n hx hb dX3_lookUp_57 rfl (lv_at hl 3 rfl) ?_
      refine g_ro (k_V (q0 := 1) (ci := 1) (n := 1) (As := [.int (nI r)]) (rest := []) (wc := [ob o 1 [.int (nI (nn σ)), .ref a1, .ref a2, .ref a3, .ref a4], ar G a1 24 (fun j => nI ((dd σ) j)), ar G a2 384 (fun j => nI ((vv σ) j)), ar G a3 24 (fun j => e9 ((ff σ) j)), ar G a4 24 (fun j => e9 ((ss σ) j))]) hx hb hml hown hts (c_X1_defaultOf (l := l) (G := G) (o := o) (a1 := a1) (a2 := a2) (a3 := a3) (a4 := a4) (σ := σ) (r := r) (hB := by first | assumption | omega) (hr := by first | assumption | omega))  gX3_lookUp_X1_defaultOf rfl rfl rfl (by decide +kernel) ⟨Nat.le_of_ble_eq_true rfl, Nat.le_of_ble_eq_true rfl⟩ rfl hK hP hD [1, 2, 3, 4, 5] rfl (by decide)  rfl rfl rfl hl.1 rfl (Nat.le_of_ble_eq_true rfl) dX3_lookUp_58 ⟨Nat.le_of_ble_eq_true rfl, Nat.le_of_ble_eq_true rfl⟩) (fun r58 h58 => ?_)
      obtain rfl : (nI (dd σ r)) = r58 := Eq.symm h58
      have b58 := Bd.d (by assumption : Bd σ) r
      exact hret _ _ _ dX3_lookUp_61 (by unfold luk; rw [if_neg (fun z => cq38 z.2)]; exact (e9_n (by omega)).symm)
    · refine lv_aload_n hx hb dX3_lookUp_41 rfl (lv_at hl 2 rfl) ?_
      refine va_get (D := G.1) (ci := 3) (v := .ref q) (C := RX3) (T := TX3) (N := 2) hx hb hts iqX3_lookUp_X3 hown hK.1 hP 0 rfl rfl 1 (by decide) (hts (.fieldLink RX3 21 "PushedTables$Table" "store" "LPushedTables$Store;") (List.mem_of_getElem? (i := 2) rfl)) (fun _ h9 => h9) rfl dX3_lookUp_42 ?_
      refine lv_iload hx hb dX3_lookUp_45 (lv_at hl 0 rfl) ?_
      refine r_top (y := (nI (shf σ (ff σ r)))) (e9_n cq23) ?_
      refine lv_iload_n hx hb dX3_lookUp_47 rfl (lv_at hl 4 rfl) ?_
      refine r_iadd (v := (shf σ (ff σ r)) + c) hx hb dX3_lookUp_48 rfl ?_
      refine g_ro (k_V (q0 := 6) (ci := 2) (n := 1) (As := [.int (nI ((shf σ (ff σ r)) + c))]) (rest := []) (wc := [ob q 2 [.ref b1, .ref b2], ar G b1 800 (fun j => e9 (cv j)), ar G b2 800 (fun j => e9 (cm j))]) hx hb hml hown hts (c_X2_valueAt (l := l) (G := G) (q := q) (b1 := b1) (b2 := b2) (cv := cv) (cm := cm) (k := (shf σ (ff σ r)) + c) (hv := by first | assumption | omega) (hk := by first | assumption | omega))  gX3_lookUp_X2_valueAt rfl rfl rfl (by decide +kernel) ⟨Nat.le_of_ble_eq_true rfl, Nat.le_of_ble_eq_true rfl⟩ rfl hK hP hD [6, 7, 8] rfl (by decide)  rfl rfl rfl hl.1 rfl (Nat.le_of_ble_eq_true rfl) dX3_lookUp_49 ⟨Nat.le_of_ble_eq_true rfl, Nat.le_of_ble_eq_true rfl⟩) (fun r49 h49 => ?_)
      obtain rfl : (e9 (cv ((shf σ (ff σ r)) + c))) = r49 := Eq.symm h49
      have b49 := Bc.at (by assumption : Bc 100 cv) ((shf σ (ff σ r)) + c)
      exact hret _ _ _ dX3_lookUp_52 (by unfold luk; rw [if_pos ⟨cq23, cq38⟩])

theorem rfP_e {σ : Sg} {cm : Nat → Nat} {r s1 c : Nat} (hs : s1 = shf σ (ff σ r)) (hc : s1 ≤ c) : rfP σ cm r (c - s1) = (nem cm c && decide (cm c ≠ ff σ r)) := by
  subst hs
  show (nem cm (shf σ (ff σ r) + (c - shf σ (ff σ r))) && decide (cm (shf σ (ff σ r) + (c - shf σ (ff σ r))) ≠ ff σ r)) = _
  rw [win_e hc]
theorem rfP_f {σ : Sg} {cm : Nat → Nat} {r s1 c : Nat} (hs : s1 = shf σ (ff σ r)) (hc : s1 ≤ c) (h : ¬ emp cm c = false ∨ cm c = ff σ r) : rfP σ cm r (c - s1) = false := by
  rw [rfP_e hs hc, Bool.and_eq_false_iff]
  rcases h with h | h
  · exact Or.inl (nem_f h)
  · exact Or.inr (decide_eq_false (p := cm c ≠ ff σ r) (fun z => z h))
theorem rfP_t {σ : Sg} {cm : Nat → Nat} {r s1 c : Nat} (hs : s1 = shf σ (ff σ r)) (hc : s1 ≤ c) (h : emp cm c = false) (h2 : ¬ cm c = ff σ r) : rfP σ cm r (c - s1) = true := by
  rw [rfP_e hs hc, Bool.and_eq_true]
  exact ⟨nem_t h, decide_eq_true (p := cm c ≠ ff σ r) h2⟩
theorem iqX3_refusalsOf_X3 : ∀ w ∈ u_ws RX3 TX3 2, w ∈ wsX3_refusalsOf := by decide +kernel
set_option maxHeartbeats 1000000 in
set_option maxRecDepth 100000 in
theorem c_X3_refusalsOf (l : Launch) (G : kG) (t : Nat) (o a1 a2 a3 a4 : Nat) (σ : Sg) (q b1 b2 : Nat) (cv cm : Nat → Nat) (hB : Bd σ) (hv : Bc 100 cv) (hm : Bc 24 cm) (r : Nat) (hr : r < 24) : Met l yX3_refusalsOf wsX3_refusalsOf ({ frames := 2, cells := 0, slots := 0, locals := 42 } : Room) (cP G [.ref t, .int (nI r)] [ob t 3 [.ref o, .ref q], ob o 1 [.int (nI (nn σ)), .ref a1, .ref a2, .ref a3, .ref a4], ar G a1 24 (fun j => nI ((dd σ) j)), ar G a2 384 (fun j => nI ((vv σ) j)), ar G a3 24 (fun j => e9 ((ff σ) j)), ar G a4 24 (fun j => e9 ((ss σ) j)), ob q 2 [.ref b1, .ref b2], ar G b1 800 (fun j => e9 (cv j)), ar G b2 800 (fun j => e9 (cm j))]) (vp_Si (fun rv => rv = (nI (rfo σ cm r)))) 0 0 (fun _ => False) := by
  refine met_ro (cc := cX3_refusalsOf) (maxL := 6) (ty := .int) (own := RX3) (by decide) rfl rfl (fun _ _ => rfl) (Nat.le_of_ble_eq_true rfl) ?_
  intro p e s m args below meth cod Q hx hb hml hown hts hK hP hD hret ls hl
  have hl : lv_has ls 6 [(0, .ref t), (1, .int (nI r))] := hl
  refine lv_aload_n hx hb dX3_refusalsOf_0 rfl (lv_at hl 0 rfl) ?_
  refine va_get (D := G.1) (ci := 3) (v := .ref o) (C := RX3) (T := TX3) (N := 2) hx hb hts iqX3_refusalsOf_X3 hown hK.1 hP 0 rfl rfl 0 (by decide) (hts (.fieldLink RX3 12 "PushedTables$Table" "state" "LPushedTables$State;") (List.mem_of_getElem? (i := 1) rfl)) (fun _ h9 => h9) rfl dX3_refusalsOf_1 ?_
  refine lv_iload_n hx hb dX3_refusalsOf_4 rfl (lv_at hl 1 rfl) ?_
  refine g_ro (k_V (q0 := 1) (ci := 1) (n := 1) (As := [.int (nI r)]) (rest := []) (wc := [ob o 1 [.int (nI (nn σ)), .ref a1, .ref a2, .ref a3, .ref a4], ar G a1 24 (fun j => nI ((dd σ) j)), ar G a2 384 (fun j => nI ((vv σ) j)), ar G a3 24 (fun j => e9 ((ff σ) j)), ar G a4 24 (fun j => e9 ((ss σ) j))]) hx hb hml hown hts (c_X1_formOf (l := l) (G := G) (o := o) (a1 := a1) (a2 := a2) (a3 := a3) (a4 := a4) (σ := σ) (r := r) (hB := by first | assumption | omega) (hr := by first | assumption | omega))  gX3_refusalsOf_X1_formOf rfl rfl rfl (by decide +kernel) ⟨Nat.le_of_ble_eq_true rfl, Nat.le_of_ble_eq_true rfl⟩ rfl hK hP hD [1, 2, 3, 4, 5] rfl (by decide)  rfl rfl rfl hl.1 rfl (Nat.le_of_ble_eq_true rfl) dX3_refusalsOf_5 ⟨Nat.le_of_ble_eq_true rfl, Nat.le_of_ble_eq_true rfl⟩) (fun r5 h5 => ?_)
  obtain rfl : (e9 (ff σ r)) = r5 := Eq.symm h5
  have b5 := Bd.f (by assumption : Bd σ) r
  refine lv_istore_n (lv' := [(2, .int (e9 (ff σ r))), (0, .ref t), (1, .int (nI r))]) hx hb dX3_refusalsOf_8 rfl hl (by decide) rfl (fun ls hl => ?_)
  refine lv_aload_n hx hb dX3_refusalsOf_9 rfl (lv_at hl 1 rfl) ?_
  refine va_get (D := G.1) (ci := 3) (v := .ref o) (C := RX3) (T := TX3) (N := 2) hx hb hts iqX3_refusalsOf_X3 hown hK.1 hP 0 rfl rfl 0 (by decide) (hts (.fieldLink RX3 12 "PushedTables$Table" "state" "LPushedTables$State;") (List.mem_of_getElem? (i := 1) rfl)) (fun _ h9 => h9) rfl dX3_refusalsOf_10 ?_
  refine lv_iload_n hx hb dX3_refusalsOf_13 rfl (lv_at hl 0 rfl) ?_
  refine g_ro (k_V (q0 := 1) (ci := 1) (n := 1) (As := [.int (e9 (ff σ r))]) (rest := []) (wc := [ob o 1 [.int (nI (nn σ)), .ref a1, .ref a2, .ref a3, .ref a4], ar G a1 24 (fun j => nI ((dd σ) j)), ar G a2 384 (fun j => nI ((vv σ) j)), ar G a3 24 (fun j => e9 ((ff σ) j)), ar G a4 24 (fun j => e9 ((ss σ) j))]) hx hb hml hown hts (c_X1_shiftOf (l := l) (G := G) (o := o) (a1 := a1) (a2 := a2) (a3 := a3) (a4 := a4) (σ := σ) (f := ff σ r) (xf := (e9 (ff σ r))) (hxf := rfl) (hB := by first | assumption | omega) (hf := by first | assumption | omega))  gX3_refusalsOf_X1_shiftOf rfl rfl rfl (by decide +kernel) ⟨Nat.le_of_ble_eq_true rfl, Nat.le_of_ble_eq_true rfl⟩ rfl hK hP hD [1, 2, 3, 4, 5] rfl (by decide)  rfl rfl rfl hl.1 rfl (Nat.le_of_ble_eq_true rfl) dX3_refusalsOf_14 ⟨Nat.le_of_ble_eq_true rfl, Nat.le_of_ble_eq_true rfl⟩) (fun r14 h14 => ?_)
  obtain rfl : (e9 (shf σ (ff σ r))) = r14 := Eq.symm h14
  have b14 := shf_le (by assumption : Bd σ) (ff σ r)
  refine lv_istore_n (lv' := [(3, .int (e9 (shf σ (ff σ r)))), (2, .int (e9 (ff σ r))), (0, .ref t), (1, .int (nI r))]) hx hb dX3_refusalsOf_17 rfl hl (by decide) rfl (fun ls hl => ?_)
  refine lv_iload_n hx hb dX3_refusalsOf_18 rfl (lv_at hl 0 rfl) ?_
  refine lv_bipush (v := (e9 1000)) hx hb dX3_refusalsOf_19 (by decide) ?_
  refine r_icmp_ne (P := (shf σ (ff σ r)) = 1000) (tgt := 26) hx hb dX3_refusalsOf_21 (by decide) (e9_inj (by omega) (by omega)) (fun cq21 => ?_) (fun cq21 => ?_)
  · have s20 := shf_le hB (ff σ r)
    obtain ⟨s1, hs1⟩ : ∃ y, y = shf σ (ff σ r) := ⟨_, rfl⟩
    rw [← hs1] at s20 cq21
    have hs2 : s1 ≤ 784 := by omega
    refine lv_iconst (v := (nI 0)) hx hb dX3_refusalsOf_26 (by decide) ?_
    refine lv_istore (lv' := [(4, .int (nI 0)), (3, .int (e9 (shf σ (ff σ r)))), (2, .int (e9 (ff σ r))), (0, .ref t), (1, .int (nI r))]) hx hb dX3_refusalsOf_27 hl (by decide) rfl (fun ls hl => ?_)
    refine lv_iload_n hx hb dX3_refusalsOf_29 rfl (lv_at hl 1 rfl) ?_
    refine r_top (y := (nI s1)) (by rw [← hs1]; exact e9_n cq21) ?_
    refine lv_istore (lv' := [(5, .int (nI s1)), (4, .int (nI 0)), (3, .int (e9 (shf σ (ff σ r)))), (2, .int (e9 (ff σ r))), (0, .ref t), (1, .int (nI r))]) hx hb dX3_refusalsOf_30 hl (by decide) rfl (fun ls hl => ?_)
    have L32 : ∀ (fu : Nat) (k : Nat) (c : Nat), s1 + 17 - c < fu → s1 ≤ c → c ≤ s1 + 16 → k = fb_ct (rfP σ cm r) (c - s1) → k + s1 ≤ c → ∀ (ls : Array Slot), lv_has ls 6 [(0, .ref t), (1, .int (nI r)), (2, .int (e9 (ff σ r))), (3, .int (e9 (shf σ (ff σ r)))), (4, .int (nI k)), (5, .int (nI c))] → W p l e ({ frames := 2, cells := 0, slots := 0, locals := 42 } : Room) s m args below meth cod s.heap [] 0 0 Q (F0 m 32 ls []) := by
      intro fu
      induction fu with
      | zero => intro k c hm; exact absurd hm (Nat.not_lt_zero _)
      | succ fu ih32 =>
        intro k c hm32 hc1 hc hk hkc ls hl
        refine lv_iload hx hb dX3_refusalsOf_32 (lv_at hl 5 rfl) ?_
        refine lv_iload_n hx hb dX3_refusalsOf_34 rfl (lv_at hl 3 rfl) ?_
        refine r_top (y := (nI s1)) (by rw [← hs1]; exact e9_n cq21) ?_
        refine lv_bipush (v := (nI 16)) hx hb dX3_refusalsOf_35 (by decide) ?_
        refine r_iadd (v := s1 + 16) hx hb dX3_refusalsOf_37 rfl ?_
        refine r_icmp_ge (P := (s1 + 16) ≤ c) (tgt := 75) hx hb dX3_refusalsOf_38 (by decide) (nI_leI (by omega) (by omega)) (fun cq38 => ?_) (fun cq38 => ?_)
        · refine lv_iload hx hb dX3_refusalsOf_75 (lv_at hl 4 rfl) ?_
          exact hret _ _ _ dX3_refusalsOf_77 (by have e : c - s1 = 16 := (by omega); unfold rfo; rw [if_neg (by rw [← hs1]; exact cq21), hk, e])
        · refine lv_aload_n hx hb dX3_refusalsOf_41 rfl (lv_at hl 0 rfl) ?_
          refine va_get (D := G.1) (ci := 3) (v := .ref q) (C := RX3) (T := TX3) (N := 2) hx hb hts iqX3_refusalsOf_X3 hown hK.1 hP 0 rfl rfl 1 (by decide) (hts (.fieldLink RX3 21 "PushedTables$Table" "store" "LPushedTables$Store;") (List.mem_of_getElem? (i := 2) rfl)) (fun _ h9 => h9) rfl dX3_refusalsOf_42 ?_
          refine lv_iload hx hb dX3_refusalsOf_45 (lv_at hl 5 rfl) ?_
          refine g_ro (k_V (q0 := 6) (ci := 2) (n := 1) (As := [.int (nI c)]) (rest := []) (wc := [ob q 2 [.ref b1, .ref b2], ar G b1 800 (fun j => e9 (cv j)), ar G b2 800 (fun j => e9 (cm j))]) hx hb hml hown hts (c_X2_isEmptyAt (l := l) (G := G) (q := q) (b1 := b1) (b2 := b2) (cv := cv) (cm := cm) (k := c) (hv := by first | assumption | omega) (hm := by first | assumption | omega) (hk := by first | assumption | omega))  gX3_refusalsOf_X2_isEmptyAt rfl rfl rfl (by decide +kernel) ⟨Nat.le_of_ble_eq_true rfl, Nat.le_of_ble_eq_true rfl⟩ rfl hK hP hD [6, 7, 8] rfl (by decide)  rfl rfl rfl hl.1 rfl (Nat.le_of_ble_eq_true rfl) dX3_refusalsOf_47 ⟨Nat.le_of_ble_eq_true rfl, Nat.le_of_ble_eq_true rfl⟩) (fun r47 h47 => ?_)
          obtain rfl : (bI (emp cm c)) = r47 := Eq.symm h47
          refine r_if_ne (P := (emp cm c) = false) (tgt := 69) hx hb dX3_refusalsOf_50 (by decide) (bI_eq0) (fun cq50 => ?_) (fun cq50 => ?_)
          · refine r_iinc (v := c + 1) (lv' := [(5, .int (nI (c + 1))), (0, .ref t), (1, .int (nI r)), (2, .int (e9 (ff σ r))), (3, .int (e9 (shf σ (ff σ r)))), (4, .int (nI k))]) hx hb dX3_refusalsOf_69 hl (k := 5) rfl (nI_1 _) (by decide) rfl (fun ls hl => ?_)
            refine lv_goto (tgt := 32) hx hb dX3_refusalsOf_72 (by decide) ?_
            exact ih32 k (c + 1) (by omega) (by omega) (by omega) (win_f hc1 hk (rfP_f hs1 hc1 (Or.inl cq50))) (by omega) ls (lv_sub hl [1, 2, 3, 4, 5, 0] rfl)
          · refine lv_aload_n hx hb dX3_refusalsOf_53 rfl (lv_at hl 0 rfl) ?_
            refine va_get (D := G.1) (ci := 3) (v := .ref q) (C := RX3) (T := TX3) (N := 2) hx hb hts iqX3_refusalsOf_X3 hown hK.1 hP 0 rfl rfl 1 (by decide) (hts (.fieldLink RX3 21 "PushedTables$Table" "store" "LPushedTables$Store;") (List.mem_of_getElem? (i := 2) rfl)) (fun _ h9 => h9) rfl dX3_refusalsOf_54 ?_
            refine lv_iload hx hb dX3_refusalsOf_57 (lv_at hl 5 rfl) ?_
            refine g_ro (k_V (q0 := 6) (ci := 2) (n := 1) (As := [.int (nI c)]) (rest := []) (wc := [ob q 2 [.ref b1, .ref b2], ar G b1 800 (fun j => e9 (cv j)), ar G b2 800 (fun j => e9 (cm j))]) hx hb hml hown hts (c_X2_markAt (l := l) (G := G) (q := q) (b1 := b1) (b2 := b2) (cv := cv) (cm := cm) (k := c) (hm := by first | assumption | omega) (hk := by first | assumption | omega))  gX3_refusalsOf_X2_markAt rfl rfl rfl (by decide +kernel) ⟨Nat.le_of_ble_eq_true rfl, Nat.le_of_ble_eq_true rfl⟩ rfl hK hP hD [6, 7, 8] rfl (by decide)  rfl rfl rfl hl.1 rfl (Nat.le_of_ble_eq_true rfl) dX3_refusalsOf_59 ⟨Nat.le_of_ble_eq_true rfl, Nat.le_of_ble_eq_true rfl⟩) (fun r59 h59 => ?_)
            obtain rfl : (e9 (cm c)) = r59 := Eq.symm h59
            have b59 := Bc.at (by assumption : Bc 24 cm) c
            refine lv_iload_n hx hb dX3_refusalsOf_62 rfl (lv_at hl 2 rfl) ?_
            refine r_icmp_eq (P := (cm c) = (ff σ r)) (tgt := 69) hx hb dX3_refusalsOf_63 (by decide) (e9_inj (by omega) (by omega)) (fun cq63 => ?_) (fun cq63 => ?_)
            · refine r_iinc (v := c + 1) (lv' := [(5, .int (nI (c + 1))), (0, .ref t), (1, .int (nI r)), (2, .int (e9 (ff σ r))), (3, .int (e9 (shf σ (ff σ r)))), (4, .int (nI k))]) hx hb dX3_refusalsOf_69 hl (k := 5) rfl (nI_1 _) (by decide) rfl (fun ls hl => ?_)
              refine lv_goto (tgt := 32) hx hb dX3_refusalsOf_72 (by decide) ?_
              exact ih32 k (c + 1) (by omega) (by omega) (by omega) (win_f hc1 hk (rfP_f hs1 hc1 (Or.inr cq63))) (by omega) ls (lv_sub hl [1, 2, 3, 4, 5, 0] rfl)
            · refine r_iinc (v := k + 1) (lv' := [(4, .int (nI (k + 1))), (0, .ref t), (1, .int (nI r)), (2, .int (e9 (ff σ r))), (3, .int (e9 (shf σ (ff σ r)))), (5, .int (nI c))]) hx hb dX3_refusalsOf_66 hl (k := 4) rfl (nI_1 _) (by decide) rfl (fun ls hl => ?_)
              refine r_iinc (v := c + 1) (lv' := [(5, .int (nI (c + 1))), (4, .int (nI (k + 1))), (0, .ref t), (1, .int (nI r)), (2, .int (e9 (ff σ r))), (3, .int (e9 (shf σ (ff σ r))))]) hx hb dX3_refusalsOf_69 hl (k := 5) rfl (nI_1 _) (by decide) rfl (fun ls hl => ?_)
              refine lv_goto (tgt := 32) hx hb dX3_refusalsOf_72 (by decide) ?_
              exact ih32 (k + 1) (c + 1) (by omega) (by omega) (by omega) (win_t hc1 hk (rfP_t hs1 hc1 cq50 cq63)) (by omega) ls (lv_sub hl [2, 3, 4, 5, 1, 0] rfl)
    exact L32 ((s1 + 17 - s1) + 1) 0 s1 (Nat.lt_succ_self _) (by omega) (by omega) (by rw [Nat.sub_self]; rfl) (by omega) ls (lv_sub hl [4, 5, 3, 2, 1, 0] rfl)
  · refine lv_iconst (v := (nI 0)) hx hb dX3_refusalsOf_24 (by decide) ?_
    exact hret _ _ _ dX3_refusalsOf_25 (by unfold rfo; rw [if_pos cq21])

theorem iqX3_refusals_X3 : ∀ w ∈ u_ws RX3 TX3 2, w ∈ wsX3_refusals := by decide +kernel
theorem iqX3_refusals_X1 : ∀ w ∈ u_ws RX1 TX1 5, w ∈ wsX3_refusals := by decide +kernel
set_option maxHeartbeats 1000000 in
set_option maxRecDepth 100000 in
theorem c_X3_refusals (l : Launch) (G : kG) (t : Nat) (o a1 a2 a3 a4 : Nat) (σ : Sg) (q b1 b2 : Nat) (cv cm : Nat → Nat) (hB : Bd σ) (hv : Bc 100 cv) (hm : Bc 24 cm) : Met l yX3_refusals wsX3_refusals ({ frames := 3, cells := 0, slots := 0, locals := 67 } : Room) (cP G [.ref t] [ob t 3 [.ref o, .ref q], ob o 1 [.int (nI (nn σ)), .ref a1, .ref a2, .ref a3, .ref a4], ar G a1 24 (fun j => nI ((dd σ) j)), ar G a2 384 (fun j => nI ((vv σ) j)), ar G a3 24 (fun j => e9 ((ff σ) j)), ar G a4 24 (fun j => e9 ((ss σ) j)), ob q 2 [.ref b1, .ref b2], ar G b1 800 (fun j => e9 (cv j)), ar G b2 800 (fun j => e9 (cm j))]) (vp_Si (fun rv => rv = (nI (rfs σ cm (nn σ))))) 0 0 (fun _ => False) := by
  refine met_ro (cc := cX3_refusals) (maxL := 3) (ty := .int) (own := RX3) (by decide) rfl rfl (fun _ _ => rfl) (Nat.le_of_ble_eq_true rfl) ?_
  intro p e s m args below meth cod Q hx hb hml hown hts hK hP hD hret ls hl
  have hl : lv_has ls 3 [(0, .ref t)] := hl
  have h24 := hB.n
  refine lv_iconst (v := (nI 0)) hx hb dX3_refusals_0 (by decide) ?_
  refine lv_istore_n (lv' := [(1, .int (nI 0)), (0, .ref t)]) hx hb dX3_refusals_1 rfl hl (by decide) rfl (fun ls hl => ?_)
  refine lv_iconst (v := (nI 0)) hx hb dX3_refusals_2 (by decide) ?_
  refine lv_istore_n (lv' := [(2, .int (nI 0)), (1, .int (nI 0)), (0, .ref t)]) hx hb dX3_refusals_3 rfl hl (by decide) rfl (fun ls hl => ?_)
  have L4 : ∀ (fu : Nat) (k : Nat) (r : Nat), nn σ + 1 - r < fu → r ≤ nn σ → k = rfs σ cm r → k ≤ r * 16 → ∀ (ls : Array Slot), lv_has ls 3 [(0, .ref t), (1, .int (nI k)), (2, .int (nI r))] → W p l e ({ frames := 3, cells := 0, slots := 0, locals := 67 } : Room) s m args below meth cod s.heap [] 0 0 Q (F0 m 4 ls []) := by
    intro fu
    induction fu with
    | zero => intro k r hm; exact absurd hm (Nat.not_lt_zero _)
    | succ fu ih4 =>
      intro k r hm4 hr hk hk2 ls hl
      refine lv_iload_n hx hb dX3_refusals_4 rfl (lv_at hl 2 rfl) ?_
      refine lv_aload_n hx hb dX3_refusals_5 rfl (lv_at hl 0 rfl) ?_
      refine va_get (D := G.1) (ci := 3) (v := .ref o) (C := RX3) (T := TX3) (N := 2) hx hb hts iqX3_refusals_X3 hown hK.1 hP 0 rfl rfl 0 (by decide) (hts (.fieldLink RX3 12 "PushedTables$Table" "state" "LPushedTables$State;") (List.mem_of_getElem? (i := 1) rfl)) (fun _ h9 => h9) rfl dX3_refusals_6 ?_
      refine va_get (D := G.1) (ci := 1) (v := .int (nI (nn σ))) (C := RX1) (T := TX1) (N := 5) hx hb hts iqX3_refusals_X1 hown hK.1 hP 1 rfl rfl 0 (by decide) (hts (.fieldLink RX3 32 "PushedTables$State" "rowCount" "I") (List.mem_of_getElem? (i := 2) rfl)) (fun _ h9 => h9) rfl dX3_refusals_9 ?_
      refine r_icmp_ge (P := (nn σ) ≤ r) (tgt := 29) hx hb dX3_refusals_12 (by decide) (nI_leI (by omega) (by omega)) (fun cq12 => ?_) (fun cq12 => ?_)
      · refine lv_iload_n hx hb dX3_refusals_29 rfl (lv_at hl 1 rfl) ?_
        exact hret _ _ _ dX3_refusals_30 (by have e : r = nn σ := (by omega); rw [hk, e])
      · refine lv_iload_n hx hb dX3_refusals_15 rfl (lv_at hl 1 rfl) ?_
        refine lv_aload_n hx hb dX3_refusals_16 rfl (lv_at hl 0 rfl) ?_
        refine lv_iload_n hx hb dX3_refusals_17 rfl (lv_at hl 2 rfl) ?_
        refine g_ro (k_V (q0 := 0) (ci := 3) (n := 1) (As := [.int (nI r)]) (rest := [.int (nI k)]) (wc := [ob t 3 [.ref o, .ref q], ob o 1 [.int (nI (nn σ)), .ref a1, .ref a2, .ref a3, .ref a4], ar G a1 24 (fun j => nI ((dd σ) j)), ar G a2 384 (fun j => nI ((vv σ) j)), ar G a3 24 (fun j => e9 ((ff σ) j)), ar G a4 24 (fun j => e9 ((ss σ) j)), ob q 2 [.ref b1, .ref b2], ar G b1 800 (fun j => e9 (cv j)), ar G b2 800 (fun j => e9 (cm j))]) hx hb hml hown hts (c_X3_refusalsOf (l := l) (G := G) (t := t) (o := o) (a1 := a1) (a2 := a2) (a3 := a3) (a4 := a4) (σ := σ) (q := q) (b1 := b1) (b2 := b2) (cv := cv) (cm := cm) (hB := by first | assumption | omega) (hv := by first | assumption | omega) (hm := by first | assumption | omega) (r := r) (hr := by first | assumption | omega))  gX3_refusals_X3_refusalsOf rfl rfl rfl (by decide +kernel) ⟨Nat.le_of_ble_eq_true rfl, Nat.le_of_ble_eq_true rfl⟩ rfl hK hP hD [0, 1, 2, 3, 4, 5, 6, 7, 8] rfl (by decide)  rfl rfl rfl hl.1 rfl (Nat.le_of_ble_eq_true rfl) dX3_refusals_18 ⟨Nat.le_of_ble_eq_true rfl, Nat.le_of_ble_eq_true rfl⟩) (fun r18 h18 => ?_)
        obtain rfl : (nI (rfo σ cm r)) = r18 := Eq.symm h18
        have b18 := rfo_le σ cm r
        refine r_iadd (v := k + (rfo σ cm r)) hx hb dX3_refusals_21 rfl ?_
        refine lv_istore_n (lv' := [(1, .int (nI (k + (rfo σ cm r)))), (0, .ref t), (2, .int (nI r))]) hx hb dX3_refusals_22 rfl hl (by decide) rfl (fun ls hl => ?_)
        refine r_iinc (v := r + 1) (lv' := [(2, .int (nI (r + 1))), (1, .int (nI (k + (rfo σ cm r)))), (0, .ref t)]) hx hb dX3_refusals_23 hl (k := 2) rfl (nI_1 _) (by decide) rfl (fun ls hl => ?_)
        refine lv_goto (tgt := 4) hx hb dX3_refusals_26 (by decide) ?_
        exact ih4 (k + (rfo σ cm r)) (r + 1) (by omega) (by omega) (by rw [hk]; rfl) (by omega) ls (lv_sub hl [2, 1, 0] rfl)
  exact L4 ((nn σ + 1 - 0) + 1) 0 0 (Nat.lt_succ_self _) (by omega) (rfl) (by omega) ls (lv_sub hl [2, 1, 0] rfl)
