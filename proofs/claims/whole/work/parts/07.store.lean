theorem iqX1_forgetForms_X1 : ∀ w ∈ u_ws RX1 TX1 5, w ∈ wsX1_forgetForms := by decide +kernel
set_option maxHeartbeats 1000000 in
set_option maxRecDepth 100000 in
theorem c_X1_forgetForms (l : Launch) (G : kG) (o a1 a2 a3 a4 : Nat) (σ : Sg) : Met l yX1_forgetForms wsX1_forgetForms ({ frames := 1, cells := 0, slots := 0, locals := 23 } : Room) (cP G [.ref o] [ob o 1 [.int (nI (nn σ)), .ref a1, .ref a2, .ref a3, .ref a4], ar G a1 24 (fun j => nI ((dd σ) j)), ar G a2 384 (fun j => nI ((vv σ) j)), ar G a3 24 (fun j => e9 ((ff σ) j)), ar G a4 24 (fun j => e9 ((ss σ) j))]) (qV (fun H => va_P G.1 vwCl [ob o 1 [.int (nI (nn σ)), .ref a1, .ref a2, .ref a3, .ref a4], ar G a1 24 (fun j => nI ((dd σ) j)), ar G a2 384 (fun j => nI ((vv σ) j)), ar G a3 24 (fun j => e9 ((fun _ => 1000) j)), ar G a4 24 (fun j => e9 ((fun _ => 1000) j))] H) (mA [ob o 1 [.int (nI (nn σ)), .ref a1, .ref a2, .ref a3, .ref a4], ar G a1 24 (fun j => nI ((dd σ) j)), ar G a2 384 (fun j => nI ((vv σ) j)), ar G a3 24 (fun j => e9 ((ff σ) j)), ar G a4 24 (fun j => e9 ((ss σ) j))])) 0 0 (mA [ob o 1 [.int (nI (nn σ)), .ref a1, .ref a2, .ref a3, .ref a4], ar G a1 24 (fun j => nI ((dd σ) j)), ar G a2 384 (fun j => nI ((vv σ) j)), ar G a3 24 (fun j => e9 ((ff σ) j)), ar G a4 24 (fun j => e9 ((ss σ) j))]) := by
  refine met_muV (cc := cX1_forgetForms) (maxL := 1) (own := RX1) (by decide) rfl rfl (Nat.le_of_ble_eq_true rfl) ?_
  intro p e s m args below meth cod Q A hx hb hml hown hts hK hP hD hS hret ls hl
  have hl : lv_has ls 1 [(0, .ref o)] := hl
  refine lv_aload_n hx hb dX1_forgetForms_0 rfl (lv_at hl 0 rfl) ?_
  refine va_get (D := G.1) (ci := 1) (v := .ref a3) (C := RX1) (T := TX1) (N := 5) hx hb hts iqX1_forgetForms_X1 hown hK.1 hP 0 rfl rfl 3 (by decide) (hts (.fieldLink RX1 22 "PushedTables$State" "forms" "[I") (List.mem_of_getElem? (i := 1) rfl)) (fun _ h9 => h9) rfl dX1_forgetForms_1 ?_
  refine lv_bipush (v := (e9 1000)) hx hb dX1_forgetForms_4 (by decide) ?_
  refine g_V (k_S (n := 2) (As := [.ref a3, .int (e9 1000)]) (rest := []) (wc := [ar G a3 24 (fun j => e9 ((ff σ) j))]) hx hb hml hown hts (c_J7_fill_53178 (l := l) (G := G) (a := a3) (N := 24) (f := (fun j => e9 ((ff σ) j))) (v := e9 1000) (hN := by decide))  gX1_forgetForms_J7_fill_53178 rfl rfl rfl (by decide +kernel) ⟨Nat.le_of_ble_eq_true rfl, Nat.le_of_ble_eq_true rfl⟩ rfl hK hP hD [3] rfl (by decide)  hl.1 rfl (Nat.le_of_ble_eq_true rfl) dX1_forgetForms_6 ⟨Nat.le_of_ble_eq_true rfl, Nat.le_of_ble_eq_true rfl⟩) hP hD hS [3] rfl (fun H locs hB6 back hS => ?_)
  have hP1 := hB6
  obtain ⟨hP, hD⟩ := back [ar G a3 24 (fun _ => (e9 1000))] rfl hP1
  have hP : va_P G.1 vwCl [ob o 1 [.int (nI (nn σ)), .ref a1, .ref a2, .ref a3, .ref a4], ar G a1 24 (fun j => nI ((dd σ) j)), ar G a2 384 (fun j => nI ((vv σ) j)), ar G a3 24 (fun _ => (e9 1000)), ar G a4 24 (fun j => e9 ((ss σ) j))] H := hP
  have hD : va_D A [ob o 1 [.int (nI (nn σ)), .ref a1, .ref a2, .ref a3, .ref a4], ar G a1 24 (fun j => nI ((dd σ) j)), ar G a2 384 (fun j => nI ((vv σ) j)), ar G a3 24 (fun _ => (e9 1000)), ar G a4 24 (fun j => e9 ((ss σ) j))] := hD
  have hP : va_P G.1 vwCl [ob o 1 [.int (nI (nn σ)), .ref a1, .ref a2, .ref a3, .ref a4], ar G a1 24 (fun j => nI ((dd σ) j)), ar G a2 384 (fun j => nI ((vv σ) j)), ar G a3 24 (fun j => e9 ((fun _ => 1000) j)), ar G a4 24 (fun j => e9 ((ss σ) j))] H := hP
  have hD : va_D A [ob o 1 [.int (nI (nn σ)), .ref a1, .ref a2, .ref a3, .ref a4], ar G a1 24 (fun j => nI ((dd σ) j)), ar G a2 384 (fun j => nI ((vv σ) j)), ar G a3 24 (fun j => e9 ((fun _ => 1000) j)), ar G a4 24 (fun j => e9 ((ss σ) j))] := hD
  refine lv_aload_n hx hb dX1_forgetForms_9 rfl (lv_at hl 0 rfl) ?_
  refine va_get (D := G.1) (ci := 1) (v := .ref a4) (C := RX1) (T := TX1) (N := 5) hx hb hts iqX1_forgetForms_X1 hown hK.1 hP 0 rfl rfl 4 (by decide) (hts (.fieldLink RX1 25 "PushedTables$State" "shifts" "[I") (List.mem_of_getElem? (i := 2) rfl)) (fun _ h9 => h9) rfl dX1_forgetForms_10 ?_
  refine lv_bipush (v := (e9 1000)) hx hb dX1_forgetForms_13 (by decide) ?_
  refine g_V (k_S (n := 2) (As := [.ref a4, .int (e9 1000)]) (rest := []) (wc := [ar G a4 24 (fun j => e9 ((ss σ) j))]) hx hb hml hown hts (c_J7_fill_53178 (l := l) (G := G) (a := a4) (N := 24) (f := (fun j => e9 ((ss σ) j))) (v := e9 1000) (hN := by decide))  gX1_forgetForms_J7_fill_53178 rfl rfl rfl (by decide +kernel) ⟨Nat.le_of_ble_eq_true rfl, Nat.le_of_ble_eq_true rfl⟩ rfl hK hP hD [4] rfl (by decide)  hl.1 rfl (Nat.le_of_ble_eq_true rfl) dX1_forgetForms_15 ⟨Nat.le_of_ble_eq_true rfl, Nat.le_of_ble_eq_true rfl⟩) hP hD hS [4] rfl (fun H locs hB15 back hS => ?_)
  have hP1 := hB15
  obtain ⟨hP, hD⟩ := back [ar G a4 24 (fun _ => (e9 1000))] rfl hP1
  have hP : va_P G.1 vwCl [ob o 1 [.int (nI (nn σ)), .ref a1, .ref a2, .ref a3, .ref a4], ar G a1 24 (fun j => nI ((dd σ) j)), ar G a2 384 (fun j => nI ((vv σ) j)), ar G a3 24 (fun j => e9 ((fun _ => 1000) j)), ar G a4 24 (fun _ => (e9 1000))] H := hP
  have hD : va_D A [ob o 1 [.int (nI (nn σ)), .ref a1, .ref a2, .ref a3, .ref a4], ar G a1 24 (fun j => nI ((dd σ) j)), ar G a2 384 (fun j => nI ((vv σ) j)), ar G a3 24 (fun j => e9 ((fun _ => 1000) j)), ar G a4 24 (fun _ => (e9 1000))] := hD
  have hP : va_P G.1 vwCl [ob o 1 [.int (nI (nn σ)), .ref a1, .ref a2, .ref a3, .ref a4], ar G a1 24 (fun j => nI ((dd σ) j)), ar G a2 384 (fun j => nI ((vv σ) j)), ar G a3 24 (fun j => e9 ((fun _ => 1000) j)), ar G a4 24 (fun j => e9 ((fun _ => 1000) j))] H := hP
  have hD : va_D A [ob o 1 [.int (nI (nn σ)), .ref a1, .ref a2, .ref a3, .ref a4], ar G a1 24 (fun j => nI ((dd σ) j)), ar G a2 384 (fun j => nI ((vv σ) j)), ar G a3 24 (fun j => e9 ((fun _ => 1000) j)), ar G a4 24 (fun j => e9 ((fun _ => 1000) j))] := hD
  exact hret _ _ _ _ hS dX1_forgetForms_18 (hP)

theorem iqX2_emptyAll_X2 : ∀ w ∈ u_ws RX2 TX2 2, w ∈ wsX2_emptyAll := by decide +kernel
set_option maxHeartbeats 1000000 in
set_option maxRecDepth 100000 in
theorem c_X2_emptyAll (l : Launch) (G : kG) (q b1 b2 : Nat) (cv cm : Nat → Nat) : Met l yX2_emptyAll wsX2_emptyAll ({ frames := 1, cells := 0, slots := 0, locals := 23 } : Room) (cP G [.ref q] [ob q 2 [.ref b1, .ref b2], ar G b1 800 (fun j => e9 (cv j)), ar G b2 800 (fun j => e9 (cm j))]) (qV (fun H => va_P G.1 vwCl [ob q 2 [.ref b1, .ref b2], ar G b1 800 (fun j => e9 ((fun _ => 1000) j)), ar G b2 800 (fun j => e9 ((fun _ => 1000) j))] H) (mA [ob q 2 [.ref b1, .ref b2], ar G b1 800 (fun j => e9 (cv j)), ar G b2 800 (fun j => e9 (cm j))])) 0 0 (mA [ob q 2 [.ref b1, .ref b2], ar G b1 800 (fun j => e9 (cv j)), ar G b2 800 (fun j => e9 (cm j))]) := by
  refine met_muV (cc := cX2_emptyAll) (maxL := 1) (own := RX2) (by decide) rfl rfl (Nat.le_of_ble_eq_true rfl) ?_
  intro p e s m args below meth cod Q A hx hb hml hown hts hK hP hD hS hret ls hl
  have hl : lv_has ls 1 [(0, .ref q)] := hl
  refine lv_aload_n hx hb dX2_emptyAll_0 rfl (lv_at hl 0 rfl) ?_
  refine va_get (D := G.1) (ci := 2) (v := .ref b1) (C := RX2) (T := TX2) (N := 2) hx hb hts iqX2_emptyAll_X2 hown hK.1 hP 0 rfl rfl 0 (by decide) (hts (.fieldLink RX2 9 "PushedTables$Store" "values" "[I") (List.mem_of_getElem? (i := 1) rfl)) (fun _ h9 => h9) rfl dX2_emptyAll_1 ?_
  refine lv_bipush (v := (e9 1000)) hx hb dX2_emptyAll_4 (by decide) ?_
  refine g_V (k_S (n := 2) (As := [.ref b1, .int (e9 1000)]) (rest := []) (wc := [ar G b1 800 (fun j => e9 (cv j))]) hx hb hml hown hts (c_J7_fill_53178 (l := l) (G := G) (a := b1) (N := 800) (f := (fun j => e9 (cv j))) (v := e9 1000) (hN := by decide))  gX2_emptyAll_J7_fill_53178 rfl rfl rfl (by decide +kernel) ⟨Nat.le_of_ble_eq_true rfl, Nat.le_of_ble_eq_true rfl⟩ rfl hK hP hD [1] rfl (by decide)  hl.1 rfl (Nat.le_of_ble_eq_true rfl) dX2_emptyAll_6 ⟨Nat.le_of_ble_eq_true rfl, Nat.le_of_ble_eq_true rfl⟩) hP hD hS [1] rfl (fun H locs hB6 back hS => ?_)
  have hP1 := hB6
  obtain ⟨hP, hD⟩ := back [ar G b1 800 (fun _ => (e9 1000))] rfl hP1
  have hP : va_P G.1 vwCl [ob q 2 [.ref b1, .ref b2], ar G b1 800 (fun _ => (e9 1000)), ar G b2 800 (fun j => e9 (cm j))] H := hP
  have hD : va_D A [ob q 2 [.ref b1, .ref b2], ar G b1 800 (fun _ => (e9 1000)), ar G b2 800 (fun j => e9 (cm j))] := hD
  have hP : va_P G.1 vwCl [ob q 2 [.ref b1, .ref b2], ar G b1 800 (fun j => e9 ((fun _ => 1000) j)), ar G b2 800 (fun j => e9 (cm j))] H := hP
  have hD : va_D A [ob q 2 [.ref b1, .ref b2], ar G b1 800 (fun j => e9 ((fun _ => 1000) j)), ar G b2 800 (fun j => e9 (cm j))] := hD
  refine lv_aload_n hx hb dX2_emptyAll_9 rfl (lv_at hl 0 rfl) ?_
  refine va_get (D := G.1) (ci := 2) (v := .ref b2) (C := RX2) (T := TX2) (N := 2) hx hb hts iqX2_emptyAll_X2 hown hK.1 hP 0 rfl rfl 1 (by decide) (hts (.fieldLink RX2 15 "PushedTables$Store" "marks" "[I") (List.mem_of_getElem? (i := 2) rfl)) (fun _ h9 => h9) rfl dX2_emptyAll_10 ?_
  refine lv_bipush (v := (e9 1000)) hx hb dX2_emptyAll_13 (by decide) ?_
  refine g_V (k_S (n := 2) (As := [.ref b2, .int (e9 1000)]) (rest := []) (wc := [ar G b2 800 (fun j => e9 (cm j))]) hx hb hml hown hts (c_J7_fill_53178 (l := l) (G := G) (a := b2) (N := 800) (f := (fun j => e9 (cm j))) (v := e9 1000) (hN := by decide))  gX2_emptyAll_J7_fill_53178 rfl rfl rfl (by decide +kernel) ⟨Nat.le_of_ble_eq_true rfl, Nat.le_of_ble_eq_true rfl⟩ rfl hK hP hD [2] rfl (by decide)  hl.1 rfl (Nat.le_of_ble_eq_true rfl) dX2_emptyAll_15 ⟨Nat.le_of_ble_eq_true rfl, Nat.le_of_ble_eq_true rfl⟩) hP hD hS [2] rfl (fun H locs hB15 back hS => ?_)
  have hP1 := hB15
  obtain ⟨hP, hD⟩ := back [ar G b2 800 (fun _ => (e9 1000))] rfl hP1
  have hP : va_P G.1 vwCl [ob q 2 [.ref b1, .ref b2], ar G b1 800 (fun j => e9 ((fun _ => 1000) j)), ar G b2 800 (fun _ => (e9 1000))] H := hP
  have hD : va_D A [ob q 2 [.ref b1, .ref b2], ar G b1 800 (fun j => e9 ((fun _ => 1000) j)), ar G b2 800 (fun _ => (e9 1000))] := hD
  have hP : va_P G.1 vwCl [ob q 2 [.ref b1, .ref b2], ar G b1 800 (fun j => e9 ((fun _ => 1000) j)), ar G b2 800 (fun j => e9 ((fun _ => 1000) j))] H := hP
  have hD : va_D A [ob q 2 [.ref b1, .ref b2], ar G b1 800 (fun j => e9 ((fun _ => 1000) j)), ar G b2 800 (fun j => e9 ((fun _ => 1000) j))] := hD
  exact hret _ _ _ _ hS dX2_emptyAll_18 (hP)

theorem iqX2_fillCell_X2 : ∀ w ∈ u_ws RX2 TX2 2, w ∈ wsX2_fillCell := by decide +kernel
set_option maxHeartbeats 1000000 in
set_option maxRecDepth 100000 in
theorem c_X2_fillCell (l : Launch) (G : kG) (q b1 b2 : Nat) (cv cm : Nat → Nat) (k x f : Nat) (xx xf : Int32) (hxx : xx = e9 x) (hxf : xf = e9 f) (hk : k < 800) : Met l yX2_fillCell wsX2_fillCell ({ frames := 1, cells := 0, slots := 0, locals := 22 } : Room) (cP G [.ref q, .int (nI k), .int xx, .int xf] [ob q 2 [.ref b1, .ref b2], ar G b1 800 (fun j => e9 (cv j)), ar G b2 800 (fun j => e9 (cm j))]) (qV (fun H => va_P G.1 vwCl [ob q 2 [.ref b1, .ref b2], ar G b1 800 (fun j => e9 ((va_up cv k x) j)), ar G b2 800 (fun j => e9 ((va_up cm k f) j))] H) (mA [ob q 2 [.ref b1, .ref b2], ar G b1 800 (fun j => e9 (cv j)), ar G b2 800 (fun j => e9 (cm j))])) 0 0 (mA [ob q 2 [.ref b1, .ref b2], ar G b1 800 (fun j => e9 (cv j)), ar G b2 800 (fun j => e9 (cm j))]) := by
  subst hxx
  subst hxf
  refine met_muV (cc := cX2_fillCell) (maxL := 4) (own := RX2) (by decide) rfl rfl (Nat.le_of_ble_eq_true rfl) ?_
  intro p e s m args below meth cod Q A hx hb hml hown hts hK hP hD hS hret ls hl
  have hl : lv_has ls 4 [(0, .ref q), (1, .int (nI k)), (2, .int (e9 x)), (3, .int (e9 f))] := hl
  refine lv_aload_n hx hb dX2_fillCell_0 rfl (lv_at hl 0 rfl) ?_
  refine va_get (D := G.1) (ci := 2) (v := .ref b1) (C := RX2) (T := TX2) (N := 2) hx hb hts iqX2_fillCell_X2 hown hK.1 hP 0 rfl rfl 0 (by decide) (hts (.fieldLink RX2 9 "PushedTables$Store" "values" "[I") (List.mem_of_getElem? (i := 1) rfl)) (fun _ h9 => h9) rfl dX2_fillCell_1 ?_
  refine lv_iload_n hx hb dX2_fillCell_4 rfl (lv_at hl 1 rfl) ?_
  refine lv_iload_n hx hb dX2_fillCell_5 rfl (lv_at hl 2 rfl) ?_
  refine g_V (k_SN (n := 3) (As := [.ref b1, .int (nI k), .int (e9 x)]) (rest := []) (wc := [ar G b1 800 (fun j => e9 (cv j))]) hx hb hml hown hts (c_X5_putAt_e (l := l) (G := G) (a := b1) (N := 800) (k := k) (x := x) (f := cv) (hN := by first | assumption | omega) (hk := by first | assumption | omega) (xx := (e9 x)) (hxx := rfl))  gX2_fillCell_X5_putAt_n27 hK.2.2.2.2.2.1 (hts (.initialized RX5) (List.mem_of_getElem? (i := 4) rfl)) (hts (.static yX5_putAt) (List.mem_of_getElem? (i := 3) rfl)) rfl rfl rfl (by decide +kernel) ⟨Nat.le_of_ble_eq_true rfl, Nat.le_of_ble_eq_true rfl⟩ rfl hK hP hD [1] rfl (by decide)  hl.1 rfl (Nat.le_of_ble_eq_true rfl) dX2_fillCell_6 ⟨Nat.le_of_ble_eq_true rfl, Nat.le_of_ble_eq_true rfl⟩) hP hD hS [1] rfl (fun H locs hB6 back hS => ?_)
  have hP1 := hB6
  obtain ⟨hP, hD⟩ := back [ar G b1 800 (fun j => e9 ((va_up cv k x) j))] rfl hP1
  have hP : va_P G.1 vwCl [ob q 2 [.ref b1, .ref b2], ar G b1 800 (fun j => e9 ((va_up cv k x) j)), ar G b2 800 (fun j => e9 (cm j))] H := hP
  have hD : va_D A [ob q 2 [.ref b1, .ref b2], ar G b1 800 (fun j => e9 ((va_up cv k x) j)), ar G b2 800 (fun j => e9 (cm j))] := hD
  refine lv_aload_n hx hb dX2_fillCell_9 rfl (lv_at hl 0 rfl) ?_
  refine va_get (D := G.1) (ci := 2) (v := .ref b2) (C := RX2) (T := TX2) (N := 2) hx hb hts iqX2_fillCell_X2 hown hK.1 hP 0 rfl rfl 1 (by decide) (hts (.fieldLink RX2 15 "PushedTables$Store" "marks" "[I") (List.mem_of_getElem? (i := 2) rfl)) (fun _ h9 => h9) rfl dX2_fillCell_10 ?_
  refine lv_iload_n hx hb dX2_fillCell_13 rfl (lv_at hl 1 rfl) ?_
  refine lv_iload_n hx hb dX2_fillCell_14 rfl (lv_at hl 3 rfl) ?_
  refine g_V (k_SN (n := 3) (As := [.ref b2, .int (nI k), .int (e9 f)]) (rest := []) (wc := [ar G b2 800 (fun j => e9 (cm j))]) hx hb hml hown hts (c_X5_putAt_e (l := l) (G := G) (a := b2) (N := 800) (k := k) (x := f) (f := cm) (hN := by first | assumption | omega) (hk := by first | assumption | omega) (xx := (e9 f)) (hxx := rfl))  gX2_fillCell_X5_putAt_n27 hK.2.2.2.2.2.1 (hts (.initialized RX5) (List.mem_of_getElem? (i := 4) rfl)) (hts (.static yX5_putAt) (List.mem_of_getElem? (i := 3) rfl)) rfl rfl rfl (by decide +kernel) ⟨Nat.le_of_ble_eq_true rfl, Nat.le_of_ble_eq_true rfl⟩ rfl hK hP hD [2] rfl (by decide)  hl.1 rfl (Nat.le_of_ble_eq_true rfl) dX2_fillCell_15 ⟨Nat.le_of_ble_eq_true rfl, Nat.le_of_ble_eq_true rfl⟩) hP hD hS [2] rfl (fun H locs hB15 back hS => ?_)
  have hP1 := hB15
  obtain ⟨hP, hD⟩ := back [ar G b2 800 (fun j => e9 ((va_up cm k f) j))] rfl hP1
  have hP : va_P G.1 vwCl [ob q 2 [.ref b1, .ref b2], ar G b1 800 (fun j => e9 ((va_up cv k x) j)), ar G b2 800 (fun j => e9 ((va_up cm k f) j))] H := hP
  have hD : va_D A [ob q 2 [.ref b1, .ref b2], ar G b1 800 (fun j => e9 ((va_up cv k x) j)), ar G b2 800 (fun j => e9 ((va_up cm k f) j))] := hD
  exact hret _ _ _ _ hS dX2_fillCell_18 (hP)

theorem iqX2_isEmptyAt_X2 : ∀ w ∈ u_ws RX2 TX2 2, w ∈ wsX2_isEmptyAt := by decide +kernel
set_option maxHeartbeats 1000000 in
set_option maxRecDepth 100000 in
theorem c_X2_isEmptyAt (l : Launch) (G : kG) (q b1 b2 : Nat) (cv cm : Nat → Nat) (k : Nat) (hv : Bc 100 cv) (hm : Bc 24 cm) (hk : k < 800) : Met l yX2_isEmptyAt wsX2_isEmptyAt ({ frames := 1, cells := 0, slots := 0, locals := 21 } : Room) (cP G [.ref q, .int (nI k)] [ob q 2 [.ref b1, .ref b2], ar G b1 800 (fun j => e9 (cv j)), ar G b2 800 (fun j => e9 (cm j))]) (vp_Si (fun rv => rv = (bI (emp cm k)))) 0 0 (fun _ => False) := by
  refine met_ro (cc := cX2_isEmptyAt) (maxL := 2) (ty := .boolean) (own := RX2) (by decide) rfl rfl (fun _ h => by rw [h]; exact bI_nar _) (Nat.le_of_ble_eq_true rfl) ?_
  intro p e s m args below meth cod Q hx hb hml hown hts hK hP hD hret ls hl
  have hl : lv_has ls 2 [(0, .ref q), (1, .int (nI k))] := hl
  refine lv_aload_n hx hb dX2_isEmptyAt_0 rfl (lv_at hl 0 rfl) ?_
  refine va_get (D := G.1) (ci := 2) (v := .ref b2) (C := RX2) (T := TX2) (N := 2) hx hb hts iqX2_isEmptyAt_X2 hown hK.1 hP 0 rfl rfl 1 (by decide) (hts (.fieldLink RX2 15 "PushedTables$Store" "marks" "[I") (List.mem_of_getElem? (i := 1) rfl)) (fun _ h9 => h9) rfl dX2_isEmptyAt_1 ?_
  refine lv_iload_n hx hb dX2_isEmptyAt_4 rfl (lv_at hl 1 rfl) ?_
  refine g_ro (k_SN (n := 2) (As := [.ref b2, .int (nI k)]) (rest := []) (wc := [ar G b2 800 (fun j => e9 (cm j))]) hx hb hml hown hts (c_X5_numberAt_e (l := l) (G := G) (a := b2) (N := 800) (k := k) (f := cm) (hN := by first | assumption | omega) (hk := by first | assumption | omega))  gX2_isEmptyAt_X5_numberAt_n31 hK.2.2.2.2.2.2.1 (hts (.initialized RX5) (List.mem_of_getElem? (i := 3) rfl)) (hts (.static yX5_numberAt) (List.mem_of_getElem? (i := 2) rfl)) rfl rfl rfl (by decide +kernel) ⟨Nat.le_of_ble_eq_true rfl, Nat.le_of_ble_eq_true rfl⟩ rfl hK hP hD [2] rfl (by decide)  hl.1 rfl (Nat.le_of_ble_eq_true rfl) dX2_isEmptyAt_5 ⟨Nat.le_of_ble_eq_true rfl, Nat.le_of_ble_eq_true rfl⟩) (fun r5 h5 => ?_)
  obtain rfl : (e9 (cm k)) = r5 := Eq.symm h5
  have b5 := Bc.at (by assumption : Bc 24 cm) k
  refine lv_bipush (v := (e9 1000)) hx hb dX2_isEmptyAt_8 (by decide) ?_
  refine r_icmp_ne (P := (cm k) = 1000) (tgt := 17) hx hb dX2_isEmptyAt_10 (by decide) (e9_inj (by omega) (by omega)) (fun cq10 => ?_) (fun cq10 => ?_)
  · refine lv_iconst (v := (nI 0)) hx hb dX2_isEmptyAt_17 (by decide) ?_
    exact hret _ _ _ dX2_isEmptyAt_18 (bIf (decide_eq_false cq10))
  · refine lv_iconst (v := (nI 1)) hx hb dX2_isEmptyAt_13 (by decide) ?_
    refine lv_goto (tgt := 18) hx hb dX2_isEmptyAt_14 (by decide) ?_
    exact hret _ _ _ dX2_isEmptyAt_18 (bIt (decide_eq_true cq10))

theorem iqX2_valueAt_X2 : ∀ w ∈ u_ws RX2 TX2 2, w ∈ wsX2_valueAt := by decide +kernel
set_option maxHeartbeats 1000000 in
set_option maxRecDepth 100000 in
theorem c_X2_valueAt (l : Launch) (G : kG) (q b1 b2 : Nat) (cv cm : Nat → Nat) (k : Nat) (hv : Bc 100 cv) (hk : k < 800) : Met l yX2_valueAt wsX2_valueAt ({ frames := 1, cells := 0, slots := 0, locals := 21 } : Room) (cP G [.ref q, .int (nI k)] [ob q 2 [.ref b1, .ref b2], ar G b1 800 (fun j => e9 (cv j)), ar G b2 800 (fun j => e9 (cm j))]) (vp_Si (fun rv => rv = (e9 (cv k)))) 0 0 (fun _ => False) := by
  refine met_ro (cc := cX2_valueAt) (maxL := 2) (ty := .int) (own := RX2) (by decide) rfl rfl (fun _ _ => rfl) (Nat.le_of_ble_eq_true rfl) ?_
  intro p e s m args below meth cod Q hx hb hml hown hts hK hP hD hret ls hl
  have hl : lv_has ls 2 [(0, .ref q), (1, .int (nI k))] := hl
  refine lv_aload_n hx hb dX2_valueAt_0 rfl (lv_at hl 0 rfl) ?_
  refine va_get (D := G.1) (ci := 2) (v := .ref b1) (C := RX2) (T := TX2) (N := 2) hx hb hts iqX2_valueAt_X2 hown hK.1 hP 0 rfl rfl 0 (by decide) (hts (.fieldLink RX2 9 "PushedTables$Store" "values" "[I") (List.mem_of_getElem? (i := 1) rfl)) (fun _ h9 => h9) rfl dX2_valueAt_1 ?_
  refine lv_iload_n hx hb dX2_valueAt_4 rfl (lv_at hl 1 rfl) ?_
  refine g_ro (k_SN (n := 2) (As := [.ref b1, .int (nI k)]) (rest := []) (wc := [ar G b1 800 (fun j => e9 (cv j))]) hx hb hml hown hts (c_X5_numberAt_e (l := l) (G := G) (a := b1) (N := 800) (k := k) (f := cv) (hN := by first | assumption | omega) (hk := by first | assumption | omega))  gX2_valueAt_X5_numberAt_n31 hK.2.2.2.2.2.2.1 (hts (.initialized RX5) (List.mem_of_getElem? (i := 3) rfl)) (hts (.static yX5_numberAt) (List.mem_of_getElem? (i := 2) rfl)) rfl rfl rfl (by decide +kernel) ⟨Nat.le_of_ble_eq_true rfl, Nat.le_of_ble_eq_true rfl⟩ rfl hK hP hD [1] rfl (by decide)  hl.1 rfl (Nat.le_of_ble_eq_true rfl) dX2_valueAt_5 ⟨Nat.le_of_ble_eq_true rfl, Nat.le_of_ble_eq_true rfl⟩) (fun r5 h5 => ?_)
  obtain rfl : (e9 (cv k)) = r5 := Eq.symm h5
  have b5 := Bc.at (by assumption : Bc 100 cv) k
  exact hret _ _ _ dX2_valueAt_8 (rfl)

theorem iqX2_markAt_X2 : ∀ w ∈ u_ws RX2 TX2 2, w ∈ wsX2_markAt := by decide +kernel
set_option maxHeartbeats 1000000 in
set_option maxRecDepth 100000 in
theorem c_X2_markAt (l : Launch) (G : kG) (q b1 b2 : Nat) (cv cm : Nat → Nat) (k : Nat) (hm : Bc 24 cm) (hk : k < 800) : Met l yX2_markAt wsX2_markAt ({ frames := 1, cells := 0, slots := 0, locals := 21 } : Room) (cP G [.ref q, .int (nI k)] [ob q 2 [.ref b1, .ref b2], ar G b1 800 (fun j => e9 (cv j)), ar G b2 800 (fun j => e9 (cm j))]) (vp_Si (fun rv => rv = (e9 (cm k)))) 0 0 (fun _ => False) := by
  refine met_ro (cc := cX2_markAt) (maxL := 2) (ty := .int) (own := RX2) (by decide) rfl rfl (fun _ _ => rfl) (Nat.le_of_ble_eq_true rfl) ?_
  intro p e s m args below meth cod Q hx hb hml hown hts hK hP hD hret ls hl
  have hl : lv_has ls 2 [(0, .ref q), (1, .int (nI k))] := hl
  refine lv_aload_n hx hb dX2_markAt_0 rfl (lv_at hl 0 rfl) ?_
  refine va_get (D := G.1) (ci := 2) (v := .ref b2) (C := RX2) (T := TX2) (N := 2) hx hb hts iqX2_markAt_X2 hown hK.1 hP 0 rfl rfl 1 (by decide) (hts (.fieldLink RX2 15 "PushedTables$Store" "marks" "[I") (List.mem_of_getElem? (i := 1) rfl)) (fun _ h9 => h9) rfl dX2_markAt_1 ?_
  refine lv_iload_n hx hb dX2_markAt_4 rfl (lv_at hl 1 rfl) ?_
  refine g_ro (k_SN (n := 2) (As := [.ref b2, .int (nI k)]) (rest := []) (wc := [ar G b2 800 (fun j => e9 (cm j))]) hx hb hml hown hts (c_X5_numberAt_e (l := l) (G := G) (a := b2) (N := 800) (k := k) (f := cm) (hN := by first | assumption | omega) (hk := by first | assumption | omega))  gX2_markAt_X5_numberAt_n31 hK.2.2.2.2.2.2.1 (hts (.initialized RX5) (List.mem_of_getElem? (i := 3) rfl)) (hts (.static yX5_numberAt) (List.mem_of_getElem? (i := 2) rfl)) rfl rfl rfl (by decide +kernel) ⟨Nat.le_of_ble_eq_true rfl, Nat.le_of_ble_eq_true rfl⟩ rfl hK hP hD [2] rfl (by decide)  hl.1 rfl (Nat.le_of_ble_eq_true rfl) dX2_markAt_5 ⟨Nat.le_of_ble_eq_true rfl, Nat.le_of_ble_eq_true rfl⟩) (fun r5 h5 => ?_)
  obtain rfl : (e9 (cm k)) = r5 := Eq.symm h5
  have b5 := Bc.at (by assumption : Bc 24 cm) k
  exact hret _ _ _ dX2_markAt_8 (rfl)

set_option maxHeartbeats 1000000 in
set_option maxRecDepth 100000 in
theorem c_X2_takeOut (l : Launch) (G : kG) (q b1 b2 : Nat) (cv cm : Nat → Nat) (f s1 : Nat) (xf xs1 : Int32) (hxf : xf = e9 f) (hxs1 : xs1 = nI s1) (hv : Bc 100 cv) (hm : Bc 24 cm) (hf : f < 24 ∨ f = 1000) (hs : s1 ≤ 784) : Met l yX2_takeOut wsX2_takeOut ({ frames := 2, cells := 0, slots := 0, locals := 45 } : Room) (cP G [.ref q, .int xf, .int xs1] [ob q 2 [.ref b1, .ref b2], ar G b1 800 (fun j => e9 (cv j)), ar G b2 800 (fun j => e9 (cm j))]) (qV (fun H => va_P G.1 vwCl [ob q 2 [.ref b1, .ref b2], ar G b1 800 (fun j => e9 ((tkF cv cm f s1 (s1 + 16)) j)), ar G b2 800 (fun j => e9 ((tkF cm cm f s1 (s1 + 16)) j))] H) (mA [ob q 2 [.ref b1, .ref b2], ar G b1 800 (fun j => e9 (cv j)), ar G b2 800 (fun j => e9 (cm j))])) 0 0 (mA [ob q 2 [.ref b1, .ref b2], ar G b1 800 (fun j => e9 (cv j)), ar G b2 800 (fun j => e9 (cm j))]) := by
  subst hxf
  subst hxs1
  refine met_muV (cc := cX2_takeOut) (maxL := 4) (own := RX2) (by decide) rfl rfl (Nat.le_of_ble_eq_true rfl) ?_
  intro p e s m args below meth cod Q A hx hb hml hown hts hK hP hD hS hret ls hl
  have hl : lv_has ls 4 [(0, .ref q), (1, .int (e9 f)), (2, .int (nI s1))] := hl
  refine lv_iload_n hx hb dX2_takeOut_0 rfl (lv_at hl 2 rfl) ?_
  refine lv_istore_n (lv' := [(3, .int (nI s1)), (0, .ref q), (1, .int (e9 f)), (2, .int (nI s1))]) hx hb dX2_takeOut_1 rfl hl (by decide) rfl (fun ls hl => ?_)
  have L2 : ∀ (fu : Nat) (k : Nat) (gv : Nat → Nat) (gm : Nat → Nat), s1 + 17 - k < fu → s1 ≤ k → k ≤ s1 + 16 → Bc 24 gm → gv = tkF cv cm f s1 k → gm = tkF cm cm f s1 k → ∀ (H : Heap) (locs : List Loc), va_P G.1 vwCl [ob q 2 [.ref b1, .ref b2], ar G b1 800 (fun j => e9 (gv j)), ar G b2 800 (fun j => e9 (gm j))] H → va_D A [ob q 2 [.ref b1, .ref b2], ar G b1 800 (fun j => e9 (gv j)), ar G b2 800 (fun j => e9 (gm j))] → va_S A s.heap H locs → ∀ (ls : Array Slot), lv_has ls 4 [(0, .ref q), (1, .int (e9 f)), (2, .int (nI s1)), (3, .int (nI k))] → W p l e ({ frames := 2, cells := 0, slots := 0, locals := 45 } : Room) s m args below meth cod H locs 0 0 Q (F0 m 2 ls []) := by
    intro fu
    induction fu with
    | zero => intro k gv gm hm; exact absurd hm (Nat.not_lt_zero _)
    | succ fu ih2 =>
      intro k gv gm hm2 hk1 hk2 hgm e1 e2 H locs hP hD hS ls hl
      have hP : va_P G.1 vwCl [ob q 2 [.ref b1, .ref b2], ar G b1 800 (fun j => e9 (gv j)), ar G b2 800 (fun j => e9 (gm j))] H := hP
      have hD : va_D A [ob q 2 [.ref b1, .ref b2], ar G b1 800 (fun j => e9 (gv j)), ar G b2 800 (fun j => e9 (gm j))] := hD
      refine lv_iload_n hx hb dX2_takeOut_2 rfl (lv_at hl 3 rfl) ?_
      refine lv_iload_n hx hb dX2_takeOut_3 rfl (lv_at hl 2 rfl) ?_
      refine lv_bipush (v := (nI 16)) hx hb dX2_takeOut_4 (by decide) ?_
      refine r_iadd (v := s1 + 16) hx hb dX2_takeOut_6 rfl ?_
      refine r_icmp_ge (P := (s1 + 16) ≤ k) (tgt := 34) hx hb dX2_takeOut_7 (by decide) (nI_leI (by omega) (by omega)) (fun cq7 => ?_) (fun cq7 => ?_)
      · obtain rfl : k = s1 + 16 := by omega
        subst e1 e2
        exact hret _ _ _ _ hS dX2_takeOut_34 (hP)
      · refine lv_aload_n hx hb dX2_takeOut_10 rfl (lv_at hl 0 rfl) ?_
        refine lv_iload_n hx hb dX2_takeOut_11 rfl (lv_at hl 3 rfl) ?_
        refine g_ro (k_V (q0 := 0) (ci := 2) (n := 1) (As := [.int (nI k)]) (rest := []) (wc := [ob q 2 [.ref b1, .ref b2], ar G b1 800 (fun j => e9 (gv j)), ar G b2 800 (fun j => e9 (gm j))]) hx hb hml hown hts (c_X2_markAt (l := l) (G := G) (q := q) (b1 := b1) (b2 := b2) (cv := gv) (cm := gm) (k := k) (hm := by first | assumption | omega) (hk := by first | assumption | omega))  gX2_takeOut_X2_markAt rfl rfl rfl (by decide +kernel) ⟨Nat.le_of_ble_eq_true rfl, Nat.le_of_ble_eq_true rfl⟩ rfl hK hP hD [0, 1, 2] rfl (by decide)  rfl rfl rfl hl.1 rfl (Nat.le_of_ble_eq_true rfl) dX2_takeOut_12 ⟨Nat.le_of_ble_eq_true rfl, Nat.le_of_ble_eq_true rfl⟩) (fun r12 h12 => ?_)
        obtain rfl : (e9 (gm k)) = r12 := Eq.symm h12
        have b12 := Bc.at (by assumption : Bc 24 gm) k
        refine lv_iload_n hx hb dX2_takeOut_15 rfl (lv_at hl 1 rfl) ?_
        refine r_icmp_ne (P := (gm k) = f) (tgt := 28) hx hb dX2_takeOut_16 (by decide) (e9_inj (by omega) (by omega)) (fun cq16 => ?_) (fun cq16 => ?_)
        · refine r_iinc (v := k + 1) (lv' := [(3, .int (nI (k + 1))), (0, .ref q), (1, .int (e9 f)), (2, .int (nI s1))]) hx hb dX2_takeOut_28 hl (k := 3) rfl (nI_1 _) (by decide) rfl (fun ls hl => ?_)
          refine lv_goto (tgt := 2) hx hb dX2_takeOut_31 (by decide) ?_
          exact ih2 (k + 1) gv gm (by omega) (by omega) (by omega) (hgm) (by rw [e1]; exact tkF_f (by rw [e2, tkF_at] at cq16; exact cq16)) (by rw [e2]; exact tkF_f (by rw [e2, tkF_at] at cq16; exact cq16)) _ _ hP hD hS ls (lv_sub hl [1, 2, 3, 0] rfl)
        · refine lv_aload_n hx hb dX2_takeOut_19 rfl (lv_at hl 0 rfl) ?_
          refine lv_iload_n hx hb dX2_takeOut_20 rfl (lv_at hl 3 rfl) ?_
          refine lv_bipush (v := (e9 1000)) hx hb dX2_takeOut_21 (by decide) ?_
          refine lv_bipush (v := (e9 1000)) hx hb dX2_takeOut_23 (by decide) ?_
          refine g_V (k_V (q0 := 0) (ci := 2) (n := 3) (As := [.int (nI k), .int (e9 1000), .int (e9 1000)]) (rest := []) (wc := [ob q 2 [.ref b1, .ref b2], ar G b1 800 (fun j => e9 (gv j)), ar G b2 800 (fun j => e9 (gm j))]) hx hb hml hown hts (c_X2_fillCell (l := l) (G := G) (q := q) (b1 := b1) (b2 := b2) (cv := gv) (cm := gm) (k := k) (x := 1000) (f := 1000) (xx := (e9 1000)) (xf := (e9 1000)) (hxx := rfl) (hxf := rfl) (hk := by first | assumption | omega))  gX2_takeOut_X2_fillCell rfl rfl rfl (by decide +kernel) ⟨Nat.le_of_ble_eq_true rfl, Nat.le_of_ble_eq_true rfl⟩ rfl hK hP hD [0, 1, 2] rfl (by decide)  rfl rfl rfl hl.1 rfl (Nat.le_of_ble_eq_true rfl) dX2_takeOut_25 ⟨Nat.le_of_ble_eq_true rfl, Nat.le_of_ble_eq_true rfl⟩) hP hD hS [0, 1, 2] rfl (fun H locs hB25 back hS => ?_)
          have hP1 := hB25
          obtain ⟨hP, hD⟩ := back [ob q 2 [.ref b1, .ref b2], ar G b1 800 (fun j => e9 ((va_up gv k 1000) j)), ar G b2 800 (fun j => e9 ((va_up gm k 1000) j))] rfl hP1
          have hP : va_P G.1 vwCl [ob q 2 [.ref b1, .ref b2], ar G b1 800 (fun j => e9 ((va_up gv k 1000) j)), ar G b2 800 (fun j => e9 ((va_up gm k 1000) j))] H := hP
          have hD : va_D A [ob q 2 [.ref b1, .ref b2], ar G b1 800 (fun j => e9 ((va_up gv k 1000) j)), ar G b2 800 (fun j => e9 ((va_up gm k 1000) j))] := hD
          refine r_iinc (v := k + 1) (lv' := [(3, .int (nI (k + 1))), (0, .ref q), (1, .int (e9 f)), (2, .int (nI s1))]) hx hb dX2_takeOut_28 hl (k := 3) rfl (nI_1 _) (by decide) rfl (fun ls hl => ?_)
          refine lv_goto (tgt := 2) hx hb dX2_takeOut_31 (by decide) ?_
          exact ih2 (k + 1) (va_up gv k 1000) (va_up gm k 1000) (by omega) (by omega) (by omega) (up_Bc hgm (Or.inr rfl)) (by rw [e1]; exact tkF_t hk1 (by rw [e2, tkF_at] at cq16; exact cq16)) (by rw [e2]; exact tkF_t hk1 (by rw [e2, tkF_at] at cq16; exact cq16)) _ _ hP hD hS ls (lv_sub hl [1, 2, 3, 0] rfl)
  exact L2 ((s1 + 17 - s1) + 1) s1 cv cm (Nat.lt_succ_self _) (by omega) (by omega) (hm) ((tkF_0 _ _ _ _).symm) ((tkF_0 _ _ _ _).symm) _ _ hP hD hS ls (lv_sub hl [1, 2, 3, 0] rfl)

theorem win_e {s1 c : Nat} (h : s1 ≤ c) : s1 + (c - s1) = c := by omega
theorem win_f {p : Nat → Bool} {s1 c k : Nat} (h : s1 ≤ c) (hk : k = fb_ct p (c - s1)) (hp : p (c - s1) = false) : k = fb_ct p (c + 1 - s1) := by
  rw [show c + 1 - s1 = c - s1 + 1 by omega]; exact ct_f hp hk
theorem win_t {p : Nat → Bool} {s1 c k : Nat} (h : s1 ≤ c) (hk : k = fb_ct p (c - s1)) (hp : p (c - s1) = true) : k + 1 = fb_ct p (c + 1 - s1) := by
  rw [show c + 1 - s1 = c - s1 + 1 by omega]; exact ct_t hp hk
set_option maxHeartbeats 1000000 in
set_option maxRecDepth 100000 in
theorem c_X2_filledOf (l : Launch) (G : kG) (q b1 b2 : Nat) (cv cm : Nat → Nat) (f s1 : Nat) (xf xs1 : Int32) (hxf : xf = e9 f) (hxs1 : xs1 = nI s1) (hv : Bc 100 cv) (hm : Bc 24 cm) (hf : f < 24 ∨ f = 1000) (hs : s1 ≤ 784) : Met l yX2_filledOf wsX2_filledOf ({ frames := 2, cells := 0, slots := 0, locals := 42 } : Room) (cP G [.ref q, .int xf, .int xs1] [ob q 2 [.ref b1, .ref b2], ar G b1 800 (fun j => e9 (cv j)), ar G b2 800 (fun j => e9 (cm j))]) (vp_Si (fun rv => rv = (nI (wcnt cm f s1)))) 0 0 (fun _ => False) := by
  subst hxf
  subst hxs1
  refine met_ro (cc := cX2_filledOf) (maxL := 5) (ty := .int) (own := RX2) (by decide) rfl rfl (fun _ _ => rfl) (Nat.le_of_ble_eq_true rfl) ?_
  intro p e s m args below meth cod Q hx hb hml hown hts hK hP hD hret ls hl
  have hl : lv_has ls 5 [(0, .ref q), (1, .int (e9 f)), (2, .int (nI s1))] := hl
  refine lv_iconst (v := (nI 0)) hx hb dX2_filledOf_0 (by decide) ?_
  refine lv_istore_n (lv' := [(3, .int (nI 0)), (0, .ref q), (1, .int (e9 f)), (2, .int (nI s1))]) hx hb dX2_filledOf_1 rfl hl (by decide) rfl (fun ls hl => ?_)
  refine lv_iload_n hx hb dX2_filledOf_2 rfl (lv_at hl 3 rfl) ?_
  refine lv_istore (lv' := [(4, .int (nI s1)), (3, .int (nI 0)), (0, .ref q), (1, .int (e9 f)), (2, .int (nI s1))]) hx hb dX2_filledOf_3 hl (by decide) rfl (fun ls hl => ?_)
  have L5 : ∀ (fu : Nat) (k : Nat) (c : Nat), s1 + 17 - c < fu → s1 ≤ c → c ≤ s1 + 16 → k = fb_ct (fun c => decide (cm (s1 + c) = f)) (c - s1) → k + s1 ≤ c → ∀ (ls : Array Slot), lv_has ls 5 [(0, .ref q), (1, .int (e9 f)), (2, .int (nI s1)), (3, .int (nI k)), (4, .int (nI c))] → W p l e ({ frames := 2, cells := 0, slots := 0, locals := 42 } : Room) s m args below meth cod s.heap [] 0 0 Q (F0 m 5 ls []) := by
    intro fu
    induction fu with
    | zero => intro k c hm; exact absurd hm (Nat.not_lt_zero _)
    | succ fu ih5 =>
      intro k c hm5 hc1 hc hk hkc ls hl
      refine lv_iload hx hb dX2_filledOf_5 (lv_at hl 4 rfl) ?_
      refine lv_iload_n hx hb dX2_filledOf_7 rfl (lv_at hl 2 rfl) ?_
      refine lv_bipush (v := (nI 16)) hx hb dX2_filledOf_8 (by decide) ?_
      refine r_iadd (v := s1 + 16) hx hb dX2_filledOf_10 rfl ?_
      refine r_icmp_ge (P := (s1 + 16) ≤ c) (tgt := 33) hx hb dX2_filledOf_11 (by decide) (nI_leI (by omega) (by omega)) (fun cq11 => ?_) (fun cq11 => ?_)
      · refine lv_iload_n hx hb dX2_filledOf_33 rfl (lv_at hl 3 rfl) ?_
        exact hret _ _ _ dX2_filledOf_34 (by have e : c - s1 = 16 := (by omega); rw [hk, e]; rfl)
      · refine lv_aload_n hx hb dX2_filledOf_14 rfl (lv_at hl 0 rfl) ?_
        refine lv_iload hx hb dX2_filledOf_15 (lv_at hl 4 rfl) ?_
        refine g_ro (k_V (q0 := 0) (ci := 2) (n := 1) (As := [.int (nI c)]) (rest := []) (wc := [ob q 2 [.ref b1, .ref b2], ar G b1 800 (fun j => e9 (cv j)), ar G b2 800 (fun j => e9 (cm j))]) hx hb hml hown hts (c_X2_markAt (l := l) (G := G) (q := q) (b1 := b1) (b2 := b2) (cv := cv) (cm := cm) (k := c) (hm := by first | assumption | omega) (hk := by first | assumption | omega))  gX2_filledOf_X2_markAt rfl rfl rfl (by decide +kernel) ⟨Nat.le_of_ble_eq_true rfl, Nat.le_of_ble_eq_true rfl⟩ rfl hK hP hD [0, 1, 2] rfl (by decide)  rfl rfl rfl hl.1 rfl (Nat.le_of_ble_eq_true rfl) dX2_filledOf_17 ⟨Nat.le_of_ble_eq_true rfl, Nat.le_of_ble_eq_true rfl⟩) (fun r17 h17 => ?_)
        obtain rfl : (e9 (cm c)) = r17 := Eq.symm h17
        have b17 := Bc.at (by assumption : Bc 24 cm) c
        refine lv_iload_n hx hb dX2_filledOf_20 rfl (lv_at hl 1 rfl) ?_
        refine r_icmp_ne (P := (cm c) = f) (tgt := 27) hx hb dX2_filledOf_21 (by decide) (e9_inj (by omega) (by omega)) (fun cq21 => ?_) (fun cq21 => ?_)
        · refine r_iinc (v := c + 1) (lv' := [(4, .int (nI (c + 1))), (0, .ref q), (1, .int (e9 f)), (2, .int (nI s1)), (3, .int (nI k))]) hx hb dX2_filledOf_27 hl (k := 4) rfl (nI_1 _) (by decide) rfl (fun ls hl => ?_)
          refine lv_goto (tgt := 5) hx hb dX2_filledOf_30 (by decide) ?_
          exact ih5 k (c + 1) (by omega) (by omega) (by omega) (win_f hc1 hk (decide_eq_false (by rw [win_e hc1]; exact cq21))) (by omega) ls (lv_sub hl [1, 2, 3, 4, 0] rfl)
        · refine r_iinc (v := k + 1) (lv' := [(3, .int (nI (k + 1))), (0, .ref q), (1, .int (e9 f)), (2, .int (nI s1)), (4, .int (nI c))]) hx hb dX2_filledOf_24 hl (k := 3) rfl (nI_1 _) (by decide) rfl (fun ls hl => ?_)
          refine r_iinc (v := c + 1) (lv' := [(4, .int (nI (c + 1))), (3, .int (nI (k + 1))), (0, .ref q), (1, .int (e9 f)), (2, .int (nI s1))]) hx hb dX2_filledOf_27 hl (k := 4) rfl (nI_1 _) (by decide) rfl (fun ls hl => ?_)
          refine lv_goto (tgt := 5) hx hb dX2_filledOf_30 (by decide) ?_
          exact ih5 (k + 1) (c + 1) (by omega) (by omega) (by omega) (win_t hc1 hk (decide_eq_true (by rw [win_e hc1]; exact cq21))) (by omega) ls (lv_sub hl [2, 3, 4, 1, 0] rfl)
  exact L5 ((s1 + 17 - s1) + 1) 0 s1 (Nat.lt_succ_self _) (by omega) (by omega) (by rw [Nat.sub_self]; rfl) (by omega) ls (lv_sub hl [2, 3, 4, 1, 0] rfl)

theorem bit_t {m c : Nat} : (m / 2 ^ c &&& 1) = 1 ↔ m.testBit c = true := by
  rw [Nat.testBit_eq_decide_div_mod_eq, decide_eq_true_iff, Nat.and_one_is_mod]
theorem bit_le (m c : Nat) : (m / 2 ^ c &&& 1) ≤ 1 := Nat.and_le_right
theorem iqX2_fitsAt_X2 : ∀ w ∈ u_ws RX2 TX2 2, w ∈ wsX2_fitsAt := by decide +kernel
set_option maxHeartbeats 1000000 in
set_option maxRecDepth 100000 in
theorem c_X2_fitsAt (l : Launch) (G : kG) (q b1 b2 : Nat) (cv cm : Nat → Nat) (s1 m2 : Nat) (hv : Bc 100 cv) (hm : Bc 24 cm) (hs : s1 ≤ 784) (hm2 : m2 < 65536) : Met l yX2_fitsAt wsX2_fitsAt ({ frames := 1, cells := 0, slots := 0, locals := 21 } : Room) (cP G [.ref q, .int (nI s1), .int (nI m2)] [ob q 2 [.ref b1, .ref b2], ar G b1 800 (fun j => e9 (cv j)), ar G b2 800 (fun j => e9 (cm j))]) (vp_Si (fun rv => rv = (bI (fitb cm m2 s1)))) 0 0 (fun _ => False) := by
  refine met_ro (cc := cX2_fitsAt) (maxL := 4) (ty := .boolean) (own := RX2) (by decide) rfl rfl (fun _ h => by rw [h]; exact bI_nar _) (Nat.le_of_ble_eq_true rfl) ?_
  intro p e s m args below meth cod Q hx hb hml hown hts hK hP hD hret ls hl
  have hl : lv_has ls 4 [(0, .ref q), (1, .int (nI s1)), (2, .int (nI m2))] := hl
  refine lv_iconst (v := (nI 0)) hx hb dX2_fitsAt_0 (by decide) ?_
  refine lv_istore_n (lv' := [(3, .int (nI 0)), (0, .ref q), (1, .int (nI s1)), (2, .int (nI m2))]) hx hb dX2_fitsAt_1 rfl hl (by decide) rfl (fun ls hl => ?_)
  have L2 : ∀ (fu : Nat) (c : Nat), 17 - c < fu → c ≤ 16 → (∀ j, j < c → m2.testBit j = true → cm (s1 + j) = 1000) → ∀ (ls : Array Slot), lv_has ls 4 [(0, .ref q), (1, .int (nI s1)), (2, .int (nI m2)), (3, .int (nI c))] → W p l e ({ frames := 1, cells := 0, slots := 0, locals := 21 } : Room) s m args below meth cod s.heap [] 0 0 Q (F0 m 2 ls []) := by
    intro fu
    induction fu with
    | zero => intro c hm; exact absurd hm (Nat.not_lt_zero _)
    | succ fu ih2 =>
      intro c hm2 hc hn ls hl
      refine lv_iload_n hx hb dX2_fitsAt_2 rfl (lv_at hl 3 rfl) ?_
      refine lv_bipush (v := (nI 16)) hx hb dX2_fitsAt_3 (by decide) ?_
      refine r_icmp_ge (P := 16 ≤ c) (tgt := 40) hx hb dX2_fitsAt_5 (by decide) (nI_leI (by omega) (by omega)) (fun cq5 => ?_) (fun cq5 => ?_)
      · refine lv_iconst (v := (nI 1)) hx hb dX2_fitsAt_40 (by decide) ?_
        exact hret _ _ _ dX2_fitsAt_41 (bIt (fitb_t.mpr (fun j hj => hn j (by omega))))
      · refine lv_iload_n hx hb dX2_fitsAt_8 rfl (lv_at hl 2 rfl) ?_
        refine lv_iload_n hx hb dX2_fitsAt_9 rfl (lv_at hl 3 rfl) ?_
        have b10 : m2 / 2 ^ c ≤ m2 := Nat.div_le_self _ _
        refine lv_ishr hx hb dX2_fitsAt_10 ?_
        refine r_top (y := (nI (m2 / 2 ^ c))) (r_shr (by omega) (by omega)) ?_
        refine lv_iconst (v := (nI 1)) hx hb dX2_fitsAt_11 (by decide) ?_
        refine lv_iand hx hb dX2_fitsAt_12 ?_
        refine r_top (y := (nI ((m2 / 2 ^ c) &&& 1))) (fa_and _ _) ?_
        have b12 := bit_le m2 c
        refine lv_iconst (v := (nI 1)) hx hb dX2_fitsAt_13 (by decide) ?_
        refine r_icmp_ne (P := ((m2 / 2 ^ c) &&& 1) = 1) (tgt := 34) hx hb dX2_fitsAt_14 (by decide) (nI_eq (by omega) (by omega)) (fun cq14 => ?_) (fun cq14 => ?_)
        · refine r_iinc (v := c + 1) (lv' := [(3, .int (nI (c + 1))), (0, .ref q), (1, .int (nI s1)), (2, .int (nI m2))]) hx hb dX2_fitsAt_34 hl (k := 3) rfl (nI_1 _) (by decide) rfl (fun ls hl => ?_)
          refine lv_goto (tgt := 2) hx hb dX2_fitsAt_37 (by decide) ?_
          exact ih2 (c + 1) (by omega) (by omega) (lt_s hn (fun z => absurd (bit_t.mpr z) cq14)) ls (lv_sub hl [1, 2, 3, 0] rfl)
        · refine lv_aload_n hx hb dX2_fitsAt_17 rfl (lv_at hl 0 rfl) ?_
          refine va_get (D := G.1) (ci := 2) (v := .ref b2) (C := RX2) (T := TX2) (N := 2) hx hb hts iqX2_fitsAt_X2 hown hK.1 hP 0 rfl rfl 1 (by decide) (hts (.fieldLink RX2 15 "PushedTables$Store" "marks" "[I") (List.mem_of_getElem? (i := 1) rfl)) (fun _ h9 => h9) rfl dX2_fitsAt_18 ?_
          refine lv_iload_n hx hb dX2_fitsAt_21 rfl (lv_at hl 1 rfl) ?_
          refine lv_iload_n hx hb dX2_fitsAt_22 rfl (lv_at hl 3 rfl) ?_
          refine r_iadd (v := s1 + c) hx hb dX2_fitsAt_23 rfl ?_
          refine g_ro (k_SN (n := 2) (As := [.ref b2, .int (nI (s1 + c))]) (rest := []) (wc := [ar G b2 800 (fun j => e9 (cm j))]) hx hb hml hown hts (c_X5_numberAt_e (l := l) (G := G) (a := b2) (N := 800) (k := s1 + c) (f := cm) (hN := by first | assumption | omega) (hk := by first | assumption | omega))  gX2_fitsAt_X5_numberAt_n31 hK.2.2.2.2.2.2.1 (hts (.initialized RX5) (List.mem_of_getElem? (i := 3) rfl)) (hts (.static yX5_numberAt) (List.mem_of_getElem? (i := 2) rfl)) rfl rfl rfl (by decide +kernel) ⟨Nat.le_of_ble_eq_true rfl, Nat.le_of_ble_eq_true rfl⟩ rfl hK hP hD [2] rfl (by decide)  hl.1 rfl (Nat.le_of_ble_eq_true rfl) dX2_fitsAt_24 ⟨Nat.le_of_ble_eq_true rfl, Nat.le_of_ble_eq_true rfl⟩) (fun r24 h24 => ?_)
          obtain rfl : (e9 (cm (s1 + c))) = r24 := Eq.symm h24
          have b24 := Bc.at (by assumption : Bc 24 cm) (s1 + c)
          refine lv_bipush (v := (e9 1000)) hx hb dX2_fitsAt_27 (by decide) ?_
          refine r_icmp_eq (P := (cm (s1 + c)) = 1000) (tgt := 34) hx hb dX2_fitsAt_29 (by decide) (e9_inj (by omega) (by omega)) (fun cq29 => ?_) (fun cq29 => ?_)
          · refine r_iinc (v := c + 1) (lv' := [(3, .int (nI (c + 1))), (0, .ref q), (1, .int (nI s1)), (2, .int (nI m2))]) hx hb dX2_fitsAt_34 hl (k := 3) rfl (nI_1 _) (by decide) rfl (fun ls hl => ?_)
            refine lv_goto (tgt := 2) hx hb dX2_fitsAt_37 (by decide) ?_
            exact ih2 (c + 1) (by omega) (by omega) (lt_s hn (fun _ => cq29)) ls (lv_sub hl [1, 2, 3, 0] rfl)
          · refine lv_iconst (v := (nI 0)) hx hb dX2_fitsAt_32 (by decide) ?_
            exact hret _ _ _ dX2_fitsAt_33 (bIf (fitb_f.mpr ⟨c, by omega, bit_t.mp cq14, cq29⟩))
  exact L2 ((17 - 0) + 1) 0 (Nat.lt_succ_self _) (by omega) (fun j hj => absurd hj (Nat.not_lt_zero j)) ls (lv_sub hl [1, 2, 3, 0] rfl)

set_option maxHeartbeats 1000000 in
set_option maxRecDepth 100000 in
theorem c_X2_firstFit (l : Launch) (G : kG) (q b1 b2 : Nat) (cv cm : Nat → Nat) (m2 : Nat) (hv : Bc 100 cv) (hm : Bc 24 cm) (hm2 : m2 < 65536) : Met l yX2_firstFit wsX2_firstFit ({ frames := 2, cells := 0, slots := 0, locals := 44 } : Room) (cP G [.ref q, .int (nI m2)] [ob q 2 [.ref b1, .ref b2], ar G b1 800 (fun j => e9 (cv j)), ar G b2 800 (fun j => e9 (cm j))]) (vp_Si (fun rv => rv = (e9 (ffit cm m2)))) 0 0 (fun _ => False) := by
  refine met_ro (cc := cX2_firstFit) (maxL := 3) (ty := .int) (own := RX2) (by decide) rfl rfl (fun _ _ => rfl) (Nat.le_of_ble_eq_true rfl) ?_
  intro p e s m args below meth cod Q hx hb hml hown hts hK hP hD hret ls hl
  have hl : lv_has ls 3 [(0, .ref q), (1, .int (nI m2))] := hl
  refine lv_iconst (v := (nI 0)) hx hb dX2_firstFit_0 (by decide) ?_
  refine lv_istore_n (lv' := [(2, .int (nI 0)), (0, .ref q), (1, .int (nI m2))]) hx hb dX2_firstFit_1 rfl hl (by decide) rfl (fun ls hl => ?_)
  have L2 : ∀ (fu : Nat) (k : Nat), 786 - k < fu → k ≤ 785 → (∀ j, j < k → fitb cm m2 j = false) → ∀ (ls : Array Slot), lv_has ls 3 [(0, .ref q), (1, .int (nI m2)), (2, .int (nI k))] → W p l e ({ frames := 2, cells := 0, slots := 0, locals := 44 } : Room) s m args below meth cod s.heap [] 0 0 Q (F0 m 2 ls []) := by
    intro fu
    induction fu with
    | zero => intro k hm; exact absurd hm (Nat.not_lt_zero _)
    | succ fu ih2 =>
      intro k hm2 hk hn ls hl
      refine lv_iload_n hx hb dX2_firstFit_2 rfl (lv_at hl 2 rfl) ?_
      refine lv_sipush (v := (nI 784)) hx hb dX2_firstFit_3 (by decide) ?_
      refine r_icmp_gt (P := 784 < k) (tgt := 26) hx hb dX2_firstFit_6 (by decide) (nI_ltI (by omega) (by omega)) (fun cq6 => ?_) (fun cq6 => ?_)
      · refine lv_bipush (v := (e9 1000)) hx hb dX2_firstFit_26 (by decide) ?_
        exact hret _ _ _ dX2_firstFit_28 (by unfold ffit; rw [fst?_none (fun j hj => hn j (by omega))])
      · refine lv_aload_n hx hb dX2_firstFit_9 rfl (lv_at hl 0 rfl) ?_
        refine lv_iload_n hx hb dX2_firstFit_10 rfl (lv_at hl 2 rfl) ?_
        refine lv_iload_n hx hb dX2_firstFit_11 rfl (lv_at hl 1 rfl) ?_
        refine g_ro (k_V (q0 := 0) (ci := 2) (n := 2) (As := [.int (nI k), .int (nI m2)]) (rest := []) (wc := [ob q 2 [.ref b1, .ref b2], ar G b1 800 (fun j => e9 (cv j)), ar G b2 800 (fun j => e9 (cm j))]) hx hb hml hown hts (c_X2_fitsAt (l := l) (G := G) (q := q) (b1 := b1) (b2 := b2) (cv := cv) (cm := cm) (s1 := k) (m2 := m2) (hv := by first | assumption | omega) (hm := by first | assumption | omega) (hs := by first | assumption | omega) (hm2 := by first | assumption | omega))  gX2_firstFit_X2_fitsAt rfl rfl rfl (by decide +kernel) ⟨Nat.le_of_ble_eq_true rfl, Nat.le_of_ble_eq_true rfl⟩ rfl hK hP hD [0, 1, 2] rfl (by decide)  rfl rfl rfl hl.1 rfl (Nat.le_of_ble_eq_true rfl) dX2_firstFit_12 ⟨Nat.le_of_ble_eq_true rfl, Nat.le_of_ble_eq_true rfl⟩) (fun r12 h12 => ?_)
        obtain rfl : (bI (fitb cm m2 k)) = r12 := Eq.symm h12
        refine r_if_eq (P := (fitb cm m2 k) = false) (tgt := 20) hx hb dX2_firstFit_15 (by decide) (bI_eq0) (fun cq15 => ?_) (fun cq15 => ?_)
        · refine r_iinc (v := k + 1) (lv' := [(2, .int (nI (k + 1))), (0, .ref q), (1, .int (nI m2))]) hx hb dX2_firstFit_20 hl (k := 2) rfl (nI_1 _) (by decide) rfl (fun ls hl => ?_)
          refine lv_goto (tgt := 2) hx hb dX2_firstFit_23 (by decide) ?_
          exact ih2 (k + 1) (by omega) (by omega) (lt_s hn cq15) ls (lv_sub hl [1, 2, 0] rfl)
        · refine lv_iload_n hx hb dX2_firstFit_18 rfl (lv_at hl 2 rfl) ?_
          exact hret _ _ _ dX2_firstFit_19 (by unfold ffit; rw [fst?_some (k := k) (by omega) (Bool.of_not_eq_false cq15) hn]; exact (e9_n (by omega)).symm)
  exact L2 ((786 - 0) + 1) 0 (Nat.lt_succ_self _) (by omega) (fun j hj => absurd hj (Nat.not_lt_zero j)) ls (lv_sub hl [1, 2, 0] rfl)

theorem lst_t {p : Nat → Bool} {n : Nat} (h : p n = true) : lst p (n + 1) = n + 1 := by unfold lst; rw [if_pos h]
theorem lst_f {p : Nat → Bool} {n : Nat} (h : p n = false) : lst p (n + 1) = lst p n := by
  show (if p n then n + 1 else lst p n) = _
  rw [h]; rfl
theorem nem_t {cm : Nat → Nat} {k : Nat} (h : emp cm k = false) : nem cm k = true := by
  unfold emp at h; unfold nem
  exact decide_eq_true (of_decide_eq_false h)
theorem nem_f {cm : Nat → Nat} {k : Nat} (h : ¬ emp cm k = false) : nem cm k = false := by
  have h := Bool.of_not_eq_false h
  unfold emp at h; unfold nem
  exact decide_eq_false (fun z => z (of_decide_eq_true h))
def up1 (y : Nat) : Nat := if y = 1000 then 0 else y + 1
def dn (y : Nat) : Nat := if y = 0 then 1000 else y - 1
theorem up1_n {y : Nat} (h : ¬ y = 1000) : up1 y = y + 1 := if_neg h
theorem dn_up {y : Nat} (h : y < 1000) : up1 (dn y) = y := by
  unfold up1 dn
  by_cases e : y = 0
  · rw [if_pos e, if_pos rfl, e]
  · rw [if_neg e, if_neg (by omega)]; omega
theorem dn_le {y n : Nat} (h : y < n) : dn y < n ∨ dn y = 1000 := by
  unfold dn; split
  · exact Or.inr rfl
  · exact Or.inl (by omega)
theorem dn_ok {y : Nat} (h : y < 1000) : e1 y + Int32.ofInt (-1) = e1 (dn y) := by
  unfold dn
  by_cases e : y = 0
  · subst e; rfl
  · rw [if_neg e, e1_n (by omega), e1_n (by omega)]; exact r_dec (by omega)
set_option maxHeartbeats 1000000 in
set_option maxRecDepth 100000 in
theorem c_X2_endOfCells (l : Launch) (G : kG) (q b1 b2 : Nat) (cv cm : Nat → Nat) (hv : Bc 100 cv) (hm : Bc 24 cm) : Met l yX2_endOfCells wsX2_endOfCells ({ frames := 2, cells := 0, slots := 0, locals := 42 } : Room) (cP G [.ref q] [ob q 2 [.ref b1, .ref b2], ar G b1 800 (fun j => e9 (cv j)), ar G b2 800 (fun j => e9 (cm j))]) (vp_Si (fun rv => rv = (nI (endc cm)))) 0 0 (fun _ => False) := by
  refine met_ro (cc := cX2_endOfCells) (maxL := 2) (ty := .int) (own := RX2) (by decide) rfl rfl (fun _ _ => rfl) (Nat.le_of_ble_eq_true rfl) ?_
  intro p e s m args below meth cod Q hx hb hml hown hts hK hP hD hret ls hl
  have hl : lv_has ls 2 [(0, .ref q)] := hl
  refine lv_sipush (v := (e1 799)) hx hb dX2_endOfCells_0 (by decide) ?_
  refine lv_istore_n (lv' := [(1, .int (e1 799)), (0, .ref q)]) hx hb dX2_endOfCells_3 rfl hl (by decide) rfl (fun ls hl => ?_)
  have L4 : ∀ (fu : Nat) (y : Nat), up1 y < fu → y < 800 ∨ y = 1000 → endc cm = lst (nem cm) (up1 y) → ∀ (ls : Array Slot), lv_has ls 2 [(0, .ref q), (1, .int (e1 y))] → W p l e ({ frames := 2, cells := 0, slots := 0, locals := 42 } : Room) s m args below meth cod s.heap [] 0 0 Q (F0 m 4 ls []) := by
    intro fu
    induction fu with
    | zero => intro y hm; exact absurd hm (Nat.not_lt_zero _)
    | succ fu ih4 =>
      intro y hm4 hy he ls hl
      refine lv_iload_n hx hb dX2_endOfCells_4 rfl (lv_at hl 1 rfl) ?_
      refine r_if_lt (P := y = 1000) (tgt := 26) hx hb dX2_endOfCells_5 (by decide) (e1_lt0 (by omega)) (fun cq5 => ?_) (fun cq5 => ?_)
      · refine lv_iconst (v := (nI 0)) hx hb dX2_endOfCells_26 (by decide) ?_
        exact hret _ _ _ dX2_endOfCells_27 (by rw [he, cq5]; rfl)
      · refine lv_aload_n hx hb dX2_endOfCells_8 rfl (lv_at hl 0 rfl) ?_
        refine lv_iload_n hx hb dX2_endOfCells_9 rfl (lv_at hl 1 rfl) ?_
        refine r_top (y := (nI y)) (e1_n cq5) ?_
        refine g_ro (k_V (q0 := 0) (ci := 2) (n := 1) (As := [.int (nI y)]) (rest := []) (wc := [ob q 2 [.ref b1, .ref b2], ar G b1 800 (fun j => e9 (cv j)), ar G b2 800 (fun j => e9 (cm j))]) hx hb hml hown hts (c_X2_isEmptyAt (l := l) (G := G) (q := q) (b1 := b1) (b2 := b2) (cv := cv) (cm := cm) (k := y) (hv := by first | assumption | omega) (hm := by first | assumption | omega) (hk := by first | assumption | omega))  gX2_endOfCells_X2_isEmptyAt rfl rfl rfl (by decide +kernel) ⟨Nat.le_of_ble_eq_true rfl, Nat.le_of_ble_eq_true rfl⟩ rfl hK hP hD [0, 1, 2] rfl (by decide)  rfl rfl rfl hl.1 rfl (Nat.le_of_ble_eq_true rfl) dX2_endOfCells_10 ⟨Nat.le_of_ble_eq_true rfl, Nat.le_of_ble_eq_true rfl⟩) (fun r10 h10 => ?_)
        obtain rfl : (bI (emp cm y)) = r10 := Eq.symm h10
        refine r_if_ne (P := (emp cm y) = false) (tgt := 20) hx hb dX2_endOfCells_13 (by decide) (bI_eq0) (fun cq13 => ?_) (fun cq13 => ?_)
        · refine lv_iinc (v := (e1 (dn y))) (lv' := [(1, .int (e1 (dn y))), (0, .ref q)]) hx hb dX2_endOfCells_20 hl (k := 1) rfl (dn_ok (by omega)) (by decide) rfl (fun ls hl => ?_)
          refine lv_goto (tgt := 4) hx hb dX2_endOfCells_23 (by decide) ?_
          exact ih4 (dn y) (by rw [dn_up (by omega)]; rw [up1_n cq5] at hm4; omega) (dn_le (by omega)) (by rw [he, up1_n cq5, dn_up (by omega)]; exact lst_f (nem_f cq13)) ls (lv_sub hl [1, 0] rfl)
        · refine lv_iload_n hx hb dX2_endOfCells_16 rfl (lv_at hl 1 rfl) ?_
          refine r_top (y := (nI y)) (e1_n cq5) ?_
          refine lv_iconst (v := (nI 1)) hx hb dX2_endOfCells_17 (by decide) ?_
          refine r_iadd (v := y + 1) hx hb dX2_endOfCells_18 rfl ?_
          exact hret _ _ _ dX2_endOfCells_19 (by rw [he, up1_n cq5, lst_t (nem_t cq13)])
  exact L4 ((up1 799) + 1) 799 (Nat.lt_succ_self _) (Or.inl (by decide)) (rfl) ls (lv_sub hl [1, 0] rfl)

set_option maxHeartbeats 1000000 in
set_option maxRecDepth 100000 in
theorem c_X2_filledCells (l : Launch) (G : kG) (q b1 b2 : Nat) (cv cm : Nat → Nat) (hv : Bc 100 cv) (hm : Bc 24 cm) : Met l yX2_filledCells wsX2_filledCells ({ frames := 2, cells := 0, slots := 0, locals := 42 } : Room) (cP G [.ref q] [ob q 2 [.ref b1, .ref b2], ar G b1 800 (fun j => e9 (cv j)), ar G b2 800 (fun j => e9 (cm j))]) (vp_Si (fun rv => rv = (nI (fil cm)))) 0 0 (fun _ => False) := by
  refine met_ro (cc := cX2_filledCells) (maxL := 3) (ty := .int) (own := RX2) (by decide) rfl rfl (fun _ _ => rfl) (Nat.le_of_ble_eq_true rfl) ?_
  intro p e s m args below meth cod Q hx hb hml hown hts hK hP hD hret ls hl
  have hl : lv_has ls 3 [(0, .ref q)] := hl
  refine lv_iconst (v := (nI 0)) hx hb dX2_filledCells_0 (by decide) ?_
  refine lv_istore_n (lv' := [(1, .int (nI 0)), (0, .ref q)]) hx hb dX2_filledCells_1 rfl hl (by decide) rfl (fun ls hl => ?_)
  refine lv_iconst (v := (nI 0)) hx hb dX2_filledCells_2 (by decide) ?_
  refine lv_istore_n (lv' := [(2, .int (nI 0)), (1, .int (nI 0)), (0, .ref q)]) hx hb dX2_filledCells_3 rfl hl (by decide) rfl (fun ls hl => ?_)
  have L4 : ∀ (fu : Nat) (c : Nat) (k : Nat), 801 - c < fu → c ≤ 800 → k = fb_ct (nem cm) c → k ≤ c → ∀ (ls : Array Slot), lv_has ls 3 [(0, .ref q), (1, .int (nI k)), (2, .int (nI c))] → W p l e ({ frames := 2, cells := 0, slots := 0, locals := 42 } : Room) s m args below meth cod s.heap [] 0 0 Q (F0 m 4 ls []) := by
    intro fu
    induction fu with
    | zero => intro c k hm; exact absurd hm (Nat.not_lt_zero _)
    | succ fu ih4 =>
      intro c k hm4 hc hk hkc ls hl
      refine lv_iload_n hx hb dX2_filledCells_4 rfl (lv_at hl 2 rfl) ?_
      refine lv_sipush (v := (nI 800)) hx hb dX2_filledCells_5 (by decide) ?_
      refine r_icmp_ge (P := 800 ≤ c) (tgt := 28) hx hb dX2_filledCells_8 (by decide) (nI_leI (by omega) (by omega)) (fun cq8 => ?_) (fun cq8 => ?_)
      · refine lv_iload_n hx hb dX2_filledCells_28 rfl (lv_at hl 1 rfl) ?_
        exact hret _ _ _ dX2_filledCells_29 (by have e : c = 800 := (by omega); rw [hk, e]; rfl)
      · refine lv_aload_n hx hb dX2_filledCells_11 rfl (lv_at hl 0 rfl) ?_
        refine lv_iload_n hx hb dX2_filledCells_12 rfl (lv_at hl 2 rfl) ?_
        refine g_ro (k_V (q0 := 0) (ci := 2) (n := 1) (As := [.int (nI c)]) (rest := []) (wc := [ob q 2 [.ref b1, .ref b2], ar G b1 800 (fun j => e9 (cv j)), ar G b2 800 (fun j => e9 (cm j))]) hx hb hml hown hts (c_X2_isEmptyAt (l := l) (G := G) (q := q) (b1 := b1) (b2 := b2) (cv := cv) (cm := cm) (k := c) (hv := by first | assumption | omega) (hm := by first | assumption | omega) (hk := by first | assumption | omega))  gX2_filledCells_X2_isEmptyAt rfl rfl rfl (by decide +kernel) ⟨Nat.le_of_ble_eq_true rfl, Nat.le_of_ble_eq_true rfl⟩ rfl hK hP hD [0, 1, 2] rfl (by decide)  rfl rfl rfl hl.1 rfl (Nat.le_of_ble_eq_true rfl) dX2_filledCells_13 ⟨Nat.le_of_ble_eq_true rfl, Nat.le_of_ble_eq_true rfl⟩) (fun r13 h13 => ?_)
        obtain rfl : (bI (emp cm c)) = r13 := Eq.symm h13
        refine r_if_ne (P := (emp cm c) = false) (tgt := 22) hx hb dX2_filledCells_16 (by decide) (bI_eq0) (fun cq16 => ?_) (fun cq16 => ?_)
        · refine r_iinc (v := c + 1) (lv' := [(2, .int (nI (c + 1))), (0, .ref q), (1, .int (nI k))]) hx hb dX2_filledCells_22 hl (k := 2) rfl (nI_1 _) (by decide) rfl (fun ls hl => ?_)
          refine lv_goto (tgt := 4) hx hb dX2_filledCells_25 (by decide) ?_
          exact ih4 (c + 1) k (by omega) (by omega) (ct_f (nem_f cq16) hk) (by omega) ls (lv_sub hl [1, 2, 0] rfl)
        · refine r_iinc (v := k + 1) (lv' := [(1, .int (nI (k + 1))), (0, .ref q), (2, .int (nI c))]) hx hb dX2_filledCells_19 hl (k := 1) rfl (nI_1 _) (by decide) rfl (fun ls hl => ?_)
          refine r_iinc (v := c + 1) (lv' := [(2, .int (nI (c + 1))), (1, .int (nI (k + 1))), (0, .ref q)]) hx hb dX2_filledCells_22 hl (k := 2) rfl (nI_1 _) (by decide) rfl (fun ls hl => ?_)
          refine lv_goto (tgt := 4) hx hb dX2_filledCells_25 (by decide) ?_
          exact ih4 (c + 1) (k + 1) (by omega) (by omega) (ct_t (nem_t cq16) hk) (by omega) ls (lv_sub hl [2, 1, 0] rfl)
  exact L4 ((801 - 0) + 1) 0 0 (Nat.lt_succ_self _) (by omega) (rfl) (Nat.le_refl _) ls (lv_sub hl [2, 1, 0] rfl)
