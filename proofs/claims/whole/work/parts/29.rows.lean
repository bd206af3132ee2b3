/-! the reference: rows of a text -/
theorem rwS_ad (σ : Sg) (d r : Nat) (tv : Nat → Nat) : rwS σ d (fun c => fl16 tv r d (r * 16 + c)) = adS σ d := by
  have e : rwV σ d (fun c => fl16 tv r d (r * 16 + c)) 16 = fl16 (vv σ) (nn σ) d := by
    funext j; unfold rwV
    by_cases q : nn σ * 16 ≤ j ∧ j < nn σ * 16 + 16
    · rw [if_pos q]; unfold fl16; dsimp only; rw [if_pos ⟨by omega, by omega⟩, if_pos ⟨by omega, by omega⟩]
    · rw [if_neg q]
  unfold rwS adS; rw [e]
theorem rwS_ch {σ : Sg} {d r c v : Nat} {tv : Nat → Nat} (hc : c < 16) : chS (rwS σ d (fun j => tv (r * 16 + j))) (nn σ * 16 + c) v = rwS σ d (fun j => va_up tv (r * 16 + c) v (r * 16 + j)) := by
  have e : va_up (rwV σ d (fun j => tv (r * 16 + j)) 16) (nn σ * 16 + c) v = rwV σ d (fun j => va_up tv (r * 16 + c) v (r * 16 + j)) 16 := by
    funext j; unfold va_up rwV
    by_cases q : j = nn σ * 16 + c
    · subst q; rw [if_pos rfl, if_pos ⟨by omega, by omega⟩]; dsimp only; rw [if_pos (by omega)]
    · rw [if_neg q]
      by_cases q2 : nn σ * 16 ≤ j ∧ j < nn σ * 16 + 16
      · rw [if_pos q2, if_pos q2]; dsimp only; rw [if_neg (by omega)]
      · rw [if_neg q2, if_neg q2]
  show (_, _, va_up (rwV σ d (fun j => tv (r * 16 + j)) 16) (nn σ * 16 + c) v, _, _) = _
  rw [e]; rfl
theorem rwE_1 {t tv : Nat → Nat} {L r p : Nat} (h : dfO t L p = false) : rwE t L r 0 p tv = some (false, dfP t L p, tv) := if_pos h
theorem reE_n {t tv : Nat → Nat} {L d r n p : Nat} {R : Bool × Nat × (Nat → Nat)} (h : ¬ sg t L (sk t L p) = 59) (hn : ens t L d r n 1000 (sk t L p) tv = some R) : reE t L d r n p tv = some R := by
  unfold reE; rw [if_neg h]; exact hn
theorem reE_y {t tv : Nat → Nat} {L d r n p : Nat} (h : sg t L (sk t L p) = 59) : reE t L d r n p tv = some (true, sk t L p + 1, tv) := if_pos h
theorem ens_end {t tv : Nat → Nat} {L d r bf p q x y : Nat} (h : enO t L d bf p = (true, q, x, y)) (h3 : ¬ sg t L (sk t L q) = 44) : ens t L d r 1 bf p tv = some (decide (sg t L (sk t L q) = 59), (if sg t L (sk t L q) = 59 then sk t L q + 1 else sk t L q), va_up tv (r * 16 + x) y) := by
  by_cases z : sg t L (sk t L q) = 59
  · rw [decide_eq_true z, if_pos z]; exact ens_e h z
  · rw [decide_eq_false z, if_neg z]; exact ens_x h z h3
theorem ens_out {t : Nat → Nat} {L d r : Nat} : ∀ (n bf p : Nat) (tv : Nat → Nat) (R : Bool × Nat × (Nat → Nat)), ens t L d r n bf p tv = some R → ∀ j, j < r * 16 → R.2.2 j = tv j
  | 0, _, _, _, _, h, _, _ => by cases h
  | n + 1, bf, p, tv, R, h, j, hj => by
    rw [ens] at h
    split at h
    · cases h; rfl
    · split at h
      · cases h; exact up_n (by omega)
      · split at h
        · rw [ens_out n _ _ _ _ h j hj]; exact up_n (by omega)
        · cases h; exact up_n (by omega)
theorem rwE_out {t tv : Nat → Nat} {L r n p : Nat} {R : Bool × Nat × (Nat → Nat)} (h : rwE t L r n p tv = some R) {j : Nat} (hj : j < r * 16) : R.2.2 j = tv j := by
  have ef : fl16 tv r (dfV t L p) j = tv j := by unfold fl16; rw [if_neg]; omega
  unfold rwE reE at h
  split at h
  · cases h; rfl
  · split at h
    · cases h; exact ef
    · split at h
      · cases h; exact ef
      · rw [ens_out _ _ _ _ _ h j hj]; exact ef
noncomputable def rfN (σ : Sg) (td tv : Nat → Nat) : Nat → Sg
  | 0 => σ
  | k + 1 => fmT (rwS (rfN σ td tv k) (td k) (fun c => tv (k * 16 + c))) (nn (rfN σ td tv k))
theorem nn_rfN (σ : Sg) (td tv : Nat → Nat) : ∀ k, nn (rfN σ td tv k) = nn σ + k
  | 0 => rfl
  | k + 1 => by
    show nn (fmT _ _) = _
    rw [nn_fmT]
    show nn (rfN σ td tv k) + 1 = _
    rw [nn_rfN σ td tv k]; omega
theorem Bd_rfN {σ : Sg} (h : Bd σ) {td tv : Nat → Nat} (h1 : ∀ k, td k < 100) (h2 : ∀ k, tv k < 100) : ∀ k, nn σ + k ≤ 24 → Bd (rfN σ td tv k)
  | 0, _ => h
  | k + 1, hk => Bd_fmT (Bd_rwS (Bd_rfN h h1 h2 k (by omega)) (by rw [nn_rfN]; omega) (h1 k) (fun c => h2 _)) _
theorem rwS_cong {σ : Sg} {d : Nat} {w w2 : Nat → Nat} (h : ∀ c, c < 16 → w c = w2 c) : rwS σ d w = rwS σ d w2 := by
  have e : rwV σ d w 16 = rwV σ d w2 16 := by
    funext j; unfold rwV
    by_cases q : nn σ * 16 ≤ j ∧ j < nn σ * 16 + 16
    · rw [if_pos q, if_pos q]; exact h _ (by omega)
    · rw [if_neg q, if_neg q]
  unfold rwS; rw [e]
theorem rfN_cong {σ : Sg} {td td2 tv tv2 : Nat → Nat} : ∀ k, (∀ j, j < k → td j = td2 j) → (∀ j, j < k * 16 → tv j = tv2 j) → rfN σ td tv k = rfN σ td2 tv2 k
  | 0, _, _ => rfl
  | k + 1, h1, h2 => by
    show fmT (rwS _ _ _) _ = fmT (rwS _ _ _) _
    rw [rfN_cong k (fun j hj => h1 j (by omega)) (fun j hj => h2 j (by omega)), h1 k (by omega), rwS_cong (fun c hc => h2 (k * 16 + c) (by omega))]
theorem rfN_s {σ : Sg} {td tv tv2 : Nat → Nat} {i d : Nat} {f : Nat → Int32} (h : Rel (fmT (rwS (rfN σ td tv i) d (fun c => tv2 (i * 16 + c))) (nn (rfN σ td tv i))) f) (ht : ∀ j, j < i * 16 → tv2 j = tv j) : Rel (rfN σ (va_up td i d) tv2 (i + 1)) f := by
  have e : rfN σ (va_up td i d) tv2 i = rfN σ td tv i := rfN_cong i (fun j hj => up_n (by omega)) ht
  show Rel (fmT (rwS (rfN σ (va_up td i d) tv2 i) (va_up td i d i) _) (nn (rfN σ (va_up td i d) tv2 i))) f
  rw [e, up_s]; exact h
theorem tr3 {x : Bool × Nat × Nat × Nat} {b : Bool} {q c : Nat} (h1 : x.1 = b) (h2 : q = x.2.1) (h3 : c = x.2.2.1) : x = (b, q, c, x.2.2.2) := by
  obtain ⟨x1, x2, x3, x4⟩ := x
  cases h1; cases h2; cases h3; rfl
theorem iqX6_rowRead_X6 : ∀ w ∈ u_ws RX6 TX6 11, w ∈ wsX6_rowRead := by decide +kernel
set_option maxHeartbeats 1000000 in
set_option maxRecDepth 100000 in
theorem c_X6_rowRead (l : Launch) (G : kG) (mo u0 u1 u2 u3 u4 u5 sm sa le ra fa : Nat) (tx : Nat → Nat) (hle : le ≤ 100) (htx : ∀ k, tx k < 256) (σ : Sg) (nw : Nat → Int32) (hR : Rel σ nw) (hB : Bd σ) (hra : ra ≤ le) (hsk : sk tx le ra = ra) (tr : Nat) (tv : Nat → Nat) (htv : ∀ k, tv k < 100) (hF : ∀ (d : Nat) (w : Nat → Nat), d < 100 → (∀ k, w k < 100) → nn σ < 24 → FP (rwS σ d w) (nn σ)) (mk vl : Nat → Int32) : Met l yX6_rowRead wsX6_rowRead ({ frames := 4, cells := 0, slots := 0, locals := 89 } : Room) (cP G [.ref mo] [ob mo 6 [.ref u0, .ref u1, .ref u2, .ref u3, .ref u4, .ref u5, .int (nI sm), .int (nI sa), .int (nI le), .int (nI ra), .int (nI fa)], ar G u0 481 nw, ar G u3 800 mk, ar G u4 800 vl, ar G u5 100 (fun j => nI (tx j))]) (qI (fun rv H => ∃ (ok : Bool) (nw1 : Nat → Int32) (ra1 : Nat) (fa1 : Nat) (mk1 : Nat → Int32) (vl1 : Nat → Int32), rv = (bI ok) ∧ (nn σ ≠ 24 → ∃ (n q : Nat) (tv2 : Nat → Nat), rwE tx le tr n ra tv = some (ok, q, tv2) ∧ (ok = false → fa1 = q) ∧ (ok = true → ra1 = q ∧ (∀ k, tv2 k < 100) ∧ Rel (fmT (rwS σ (dfV tx le ra) (fun c => tv2 (tr * 16 + c))) (nn σ)) nw1)) ∧ (nn σ = 24 → ok = false ∧ fa1 = ra) ∧ ra1 ≤ le ∧ (ok = true → ra < ra1) ∧ va_P G.1 vwCl [ob mo 6 [.ref u0, .ref u1, .ref u2, .ref u3, .ref u4, .ref u5, .int (nI sm), .int (nI sa), .int (nI le), .int (nI ra1), .int (nI fa1)], ar G u0 481 nw1, ar G u3 800 mk1, ar G u4 800 vl1, ar G u5 100 (fun j => nI (tx j))] H) (mA [ob mo 6 [.ref u0, .ref u1, .ref u2, .ref u3, .ref u4, .ref u5, .int (nI sm), .int (nI sa), .int (nI le), .int (nI ra), .int (nI fa)], ar G u0 481 nw, ar G u3 800 mk, ar G u4 800 vl, ar G u5 100 (fun j => nI (tx j))])) 0 0 (mA [ob mo 6 [.ref u0, .ref u1, .ref u2, .ref u3, .ref u4, .ref u5, .int (nI sm), .int (nI sa), .int (nI le), .int (nI ra), .int (nI fa)], ar G u0 481 nw, ar G u3 800 mk, ar G u4 800 vl, ar G u5 100 (fun j => nI (tx j))]) := by
  refine met_muI (cc := cX6_rowRead) (maxL := 5) (ty := .boolean) (own := RX6) (by decide) rfl rfl (fun _ _ h => by obtain ⟨_, _, _, _, _, _, rfl, _⟩ := h; exact bI_nar _) (Nat.le_of_ble_eq_true rfl) ?_
  intro p e s m args below meth cod Q A hx hb hml hown hts hK hP hD hS hret ls hl
  have hl : lv_has ls 5 [(0, .ref mo)] := hl
  have h24 := hB.n
  refine lv_aload_n hx hb dX6_rowRead_0 rfl (lv_at hl 0 rfl) ?_
  refine va_get (D := G.1) (ci := 6) (v := .ref u0) (C := RX6) (T := TX6) (N := 11) hx hb hts iqX6_rowRead_X6 hown hK.1 hP 0 rfl rfl 0 (by decide) (hts (.fieldLink RX6 7 "PushedTablesModel" "now" "[I") (List.mem_of_getElem? (i := 1) rfl)) (fun _ h9 => h9) rfl dX6_rowRead_1 ?_
  refine lv_iconst (v := (nI 0)) hx hb dX6_rowRead_4 (by decide) ?_
  refine r_iald (e1 := 0) (v := (nI (nn σ))) hx hb hK.1 hP 1 0 rfl rfl (by omega) (by first | decide | assumption) (hR.n) dX6_rowRead_5 ?_
  refine lv_bipush (v := (nI 24)) hx hb dX6_rowRead_6 (by decide) ?_
  refine r_icmp_ne (P := (nn σ) = 24) (tgt := 22) hx hb dX6_rowRead_8 (by decide) (nI_eq (by omega) (by omega)) (fun cq8 => ?_) (fun cq8 => ?_)
  · refine lv_aload_n hx hb dX6_rowRead_22 rfl (lv_at hl 0 rfl) ?_
    refine lv_aload_n hx hb dX6_rowRead_23 rfl (lv_at hl 0 rfl) ?_
    refine va_get (D := G.1) (ci := 6) (v := .int (nI ra)) (C := RX6) (T := TX6) (N := 11) hx hb hts iqX6_rowRead_X6 hown hK.1 hP 0 rfl rfl 9 (by decide) (hts (.fieldLink RX6 114 "PushedTablesModel" "readAt" "I") (List.mem_of_getElem? (i := 2) rfl)) (fun _ h9 => h9) rfl dX6_rowRead_24 ?_
    refine g_ro (k_V (q0 := 0) (ci := 6) (n := 1) (As := [.int (nI ra)]) (rest := []) (wc := [ob mo 6 [.ref u0, .ref u1, .ref u2, .ref u3, .ref u4, .ref u5, .int (nI sm), .int (nI sa), .int (nI le), .int (nI ra), .int (nI fa)], ar G u5 100 (fun j => nI (tx j))]) hx hb hml hown hts (c_X6_isDigit (l := l) (G := G) (mo := mo) (u0 := u0) (u1 := u1) (u2 := u2) (u3 := u3) (u4 := u4) (u5 := u5) (sm := sm) (sa := sa) (le := le) (ra := ra) (fa := fa) (tx := tx) (hle := by first | assumption | omega) (htx := by first | assumption | omega) (a := ra) (ha := by first | assumption | omega))  gX6_rowRead_X6_isDigit rfl rfl rfl (by decide +kernel) ⟨Nat.le_of_ble_eq_true rfl, Nat.le_of_ble_eq_true rfl⟩ rfl hK hP hD [0, 4] rfl (by decide)  rfl rfl rfl hl.1 rfl (Nat.le_of_ble_eq_true rfl) dX6_rowRead_27 ⟨Nat.le_of_ble_eq_true rfl, Nat.le_of_ble_eq_true rfl⟩) (fun r27 h27 => ?_)
    obtain rfl : (bI (dg tx le ra)) = r27 := Eq.symm h27
    refine r_if_eq (P := (dg tx le ra) = false) (tgt := 40) hx hb dX6_rowRead_30 (by decide) (bI_eq0) (fun cq30 => ?_) (fun cq30 => ?_)
    · have d30 := dfP_f cq30
      have hP : va_P G.1 vwCl [ob mo 6 [.ref u0, .ref u1, .ref u2, .ref u3, .ref u4, .ref u5, .int (nI sm), .int (nI sa), .int (nI le), .int (nI (dfP tx le ra)), .int (nI fa)], ar G u0 481 nw, ar G u3 800 mk, ar G u4 800 vl, ar G u5 100 (fun j => nI (tx j))] s.heap := by have h9 := hP; rw [← d30] at h9; exact h9
      have hD : va_D A [ob mo 6 [.ref u0, .ref u1, .ref u2, .ref u3, .ref u4, .ref u5, .int (nI sm), .int (nI sa), .int (nI le), .int (nI (dfP tx le ra)), .int (nI fa)], ar G u0 481 nw, ar G u3 800 mk, ar G u4 800 vl, ar G u5 100 (fun j => nI (tx j))] := by have h9 := hD; rw [← d30] at h9; exact h9
      have o30 := dfO_f cq30
      have v30 := dfV_f cq30
      have hpp : dfP tx le ra ≤ le := by rw [d30]; exact hra
      have hpr : ra ≤ dfP tx le ra := by rw [d30]; exact Nat.le_refl _
      have hd100 : dfV tx le ra < 100 := by rw [v30]; decide
      refine lv_iconst (v := (nI 0)) hx hb dX6_rowRead_40 (by decide) ?_
      refine lv_istore_n (lv' := [(1, .int (nI 0)), (0, .ref mo)]) hx hb dX6_rowRead_41 rfl hl (by decide) rfl (fun ls hl => ?_)
      refine lv_iload_n hx hb dX6_rowRead_42 rfl (lv_at hl 0 rfl) ?_
      refine lv_bipush (v := (e9 1000)) hx hb dX6_rowRead_43 (by decide) ?_
      refine r_icmp_eq (P := 1000 = 0) (tgt := 57) hx hb dX6_rowRead_45 (by decide) (nI_e9 (by omega) (by omega)) (fun cq45 => ?_) (fun cq45 => ?_)
      · exact absurd cq45 (by decide)
      · refine lv_aload_n hx hb dX6_rowRead_48 rfl (lv_at hl 1 rfl) ?_
        refine lv_bipush (v := (nI 58)) hx hb dX6_rowRead_49 (by decide) ?_
        refine g_I (k_V (q0 := 0) (ci := 6) (n := 1) (As := [.int (nI 58)]) (rest := []) (wc := [ob mo 6 [.ref u0, .ref u1, .ref u2, .ref u3, .ref u4, .ref u5, .int (nI sm), .int (nI sa), .int (nI le), .int (nI (dfP tx le ra)), .int (nI fa)], ar G u5 100 (fun j => nI (tx j))]) hx hb hml hown hts (c_X6_sign (l := l) (G := G) (mo := mo) (u0 := u0) (u1 := u1) (u2 := u2) (u3 := u3) (u4 := u4) (u5 := u5) (sm := sm) (sa := sa) (le := le) (ra := dfP tx le ra) (fa := fa) (tx := tx) (hle := by first | assumption | omega) (htx := by first | assumption | omega) (hra := by first | assumption | omega) (wc := 58) (hw0 := by first | assumption | omega) (hw := by first | assumption | omega))  gX6_rowRead_X6_sign rfl rfl rfl (by decide +kernel) ⟨Nat.le_of_ble_eq_true rfl, Nat.le_of_ble_eq_true rfl⟩ rfl hK hP hD [0, 4] rfl (by decide)  rfl rfl rfl hl.1 rfl (Nat.le_of_ble_eq_true rfl) dX6_rowRead_51 ⟨Nat.le_of_ble_eq_true rfl, Nat.le_of_ble_eq_true rfl⟩) hP hD hS [0, 4] rfl (fun r51 H locs hB51 back hS => ?_)
        obtain ⟨ra151, fa151, he51, hqr51, hqf51, hql51, hP1⟩ := hB51
        obtain rfl := Eq.symm he51
        obtain ⟨hP, hD⟩ := back [ob mo 6 [.ref u0, .ref u1, .ref u2, .ref u3, .ref u4, .ref u5, .int (nI sm), .int (nI sa), .int (nI le), .int (nI ra151), .int (nI fa151)], ar G u5 100 (fun j => nI (tx j))] rfl hP1
        have hP : va_P G.1 vwCl [ob mo 6 [.ref u0, .ref u1, .ref u2, .ref u3, .ref u4, .ref u5, .int (nI sm), .int (nI sa), .int (nI le), .int (nI ra151), .int (nI fa151)], ar G u0 481 nw, ar G u3 800 mk, ar G u4 800 vl, ar G u5 100 (fun j => nI (tx j))] H := hP
        have hD : va_D A [ob mo 6 [.ref u0, .ref u1, .ref u2, .ref u3, .ref u4, .ref u5, .int (nI sm), .int (nI sa), .int (nI le), .int (nI ra151), .int (nI fa151)], ar G u0 481 nw, ar G u3 800 mk, ar G u4 800 vl, ar G u5 100 (fun j => nI (tx j))] := hD
        refine r_if_ne (P := (decide (sg tx le (sk tx le (dfP tx le ra)) = 58)) = false) (tgt := 59) hx hb dX6_rowRead_54 (by decide) (bI_eq0) (fun cq54 => ?_) (fun cq54 => ?_)
        · have z54 : sg tx le (sk tx le (dfP tx le ra)) = 58 := of_decide_eq_true (Bool.of_not_eq_false cq54)
          rw [if_pos z54] at hqr51
          subst hqr51
          have skg54 := sk_ge tx le (dfP tx le ra)
          have sgb := sg_lt htx le (sk tx le (sk tx le (dfP tx le ra) + 1))
          have skg74 := sk_ge tx le (sk tx le (dfP tx le ra) + 1)
          have skl74 := sk_le (t := tx) hql51
          refine lv_aload_n hx hb dX6_rowRead_59 rfl (lv_at hl 1 rfl) ?_
          refine va_get (D := G.1) (ci := 6) (v := .ref u0) (C := RX6) (T := TX6) (N := 11) hx hb hts iqX6_rowRead_X6 hown hK.1 hP 0 rfl rfl 0 (by decide) (hts (.fieldLink RX6 7 "PushedTablesModel" "now" "[I") (List.mem_of_getElem? (i := 1) rfl)) (fun _ h9 => h9) rfl dX6_rowRead_60 ?_
          refine lv_iconst (v := (nI 0)) hx hb dX6_rowRead_63 (by decide) ?_
          refine r_iald (e1 := 0) (v := (nI (nn σ))) hx hb hK.1 hP 1 0 rfl rfl (by omega) (by first | decide | assumption) (hR.n) dX6_rowRead_64 ?_
          refine lv_istore_n (lv' := [(2, .int (nI (nn σ))), (1, .int (nI 0)), (0, .ref mo)]) hx hb dX6_rowRead_65 rfl hl (by decide) rfl (fun ls hl => ?_)
          refine lv_aload_n hx hb dX6_rowRead_66 rfl (lv_at hl 2 rfl) ?_
          refine lv_iload_n hx hb dX6_rowRead_67 rfl (lv_at hl 1 rfl) ?_
          refine r_top (y := (nI (dfV tx le ra))) (congrArg nI v30.symm) ?_
          refine g_V (k_V (q0 := 0) (ci := 6) (n := 1) (As := [.int (nI (dfV tx le ra))]) (rest := []) (wc := [ob mo 6 [.ref u0, .ref u1, .ref u2, .ref u3, .ref u4, .ref u5, .int (nI sm), .int (nI sa), .int (nI le), .int (nI (sk tx le (dfP tx le ra) + 1)), .int (nI fa151)], ar G u0 481 nw]) hx hb hml hown hts (c_X6_adds (l := l) (G := G) (mo := mo) (u0 := u0) (u1 := u1) (u2 := u2) (u3 := u3) (u4 := u4) (u5 := u5) (sm := sm) (sa := sa) (le := le) (ra := (sk tx le (dfP tx le ra) + 1)) (fa := fa151) (σ := σ) (nw := nw) (hR := hR) (hB := hB) (v := dfV tx le ra) (hn := by first | assumption | omega))  gX6_rowRead_X6_adds rfl rfl rfl (by decide +kernel) ⟨Nat.le_of_ble_eq_true rfl, Nat.le_of_ble_eq_true rfl⟩ rfl hK hP hD [0, 1] rfl (by decide)  rfl rfl rfl hl.1 rfl (Nat.le_of_ble_eq_true rfl) dX6_rowRead_68 ⟨Nat.le_of_ble_eq_true rfl, Nat.le_of_ble_eq_true rfl⟩) hP hD hS [0, 1] rfl (fun H locs hB68 back hS => ?_)
          obtain ⟨nw168, hq68, hP1⟩ := hB68
          obtain ⟨hP, hD⟩ := back [ob mo 6 [.ref u0, .ref u1, .ref u2, .ref u3, .ref u4, .ref u5, .int (nI sm), .int (nI sa), .int (nI le), .int (nI (sk tx le (dfP tx le ra) + 1)), .int (nI fa151)], ar G u0 481 nw168] rfl hP1
          have hP : va_P G.1 vwCl [ob mo 6 [.ref u0, .ref u1, .ref u2, .ref u3, .ref u4, .ref u5, .int (nI sm), .int (nI sa), .int (nI le), .int (nI (sk tx le (dfP tx le ra) + 1)), .int (nI fa151)], ar G u0 481 nw168, ar G u3 800 mk, ar G u4 800 vl, ar G u5 100 (fun j => nI (tx j))] H := hP
          have hD : va_D A [ob mo 6 [.ref u0, .ref u1, .ref u2, .ref u3, .ref u4, .ref u5, .int (nI sm), .int (nI sa), .int (nI le), .int (nI (sk tx le (dfP tx le ra) + 1)), .int (nI fa151)], ar G u0 481 nw168, ar G u3 800 mk, ar G u4 800 vl, ar G u5 100 (fun j => nI (tx j))] := hD
          refine lv_iconst (v := (e1 1000)) hx hb dX6_rowRead_71 (by decide) ?_
          refine lv_istore_n (lv' := [(3, .int (e1 1000)), (2, .int (nI (nn σ))), (1, .int (nI 0)), (0, .ref mo)]) hx hb dX6_rowRead_72 rfl hl (by decide) rfl (fun ls hl => ?_)
          refine lv_aload_n hx hb dX6_rowRead_73 rfl (lv_at hl 3 rfl) ?_
          refine g_I (k_V (q0 := 0) (ci := 6) (n := 0) (As := []) (rest := []) (wc := [ob mo 6 [.ref u0, .ref u1, .ref u2, .ref u3, .ref u4, .ref u5, .int (nI sm), .int (nI sa), .int (nI le), .int (nI (sk tx le (dfP tx le ra) + 1)), .int (nI fa151)], ar G u5 100 (fun j => nI (tx j))]) hx hb hml hown hts (c_X6_here (l := l) (G := G) (mo := mo) (u0 := u0) (u1 := u1) (u2 := u2) (u3 := u3) (u4 := u4) (u5 := u5) (sm := sm) (sa := sa) (le := le) (ra := (sk tx le (dfP tx le ra) + 1)) (fa := fa151) (tx := tx) (hle := by first | assumption | omega) (htx := by first | assumption | omega) (hra := by first | assumption | omega))  gX6_rowRead_X6_here rfl rfl rfl (by decide +kernel) ⟨Nat.le_of_ble_eq_true rfl, Nat.le_of_ble_eq_true rfl⟩ rfl hK hP hD [0, 4] rfl (by decide)  rfl rfl rfl hl.1 rfl (Nat.le_of_ble_eq_true rfl) dX6_rowRead_74 ⟨Nat.le_of_ble_eq_true rfl, Nat.le_of_ble_eq_true rfl⟩) hP hD hS [0, 4] rfl (fun r74 H locs hB74 back hS => ?_)
          obtain ⟨he74, hP1⟩ := hB74
          obtain rfl := Eq.symm he74
          obtain ⟨hP, hD⟩ := back [ob mo 6 [.ref u0, .ref u1, .ref u2, .ref u3, .ref u4, .ref u5, .int (nI sm), .int (nI sa), .int (nI le), .int (nI (sk tx le (sk tx le (dfP tx le ra) + 1))), .int (nI fa151)], ar G u5 100 (fun j => nI (tx j))] rfl hP1
          have hP : va_P G.1 vwCl [ob mo 6 [.ref u0, .ref u1, .ref u2, .ref u3, .ref u4, .ref u5, .int (nI sm), .int (nI sa), .int (nI le), .int (nI (sk tx le (sk tx le (dfP tx le ra) + 1))), .int (nI fa151)], ar G u0 481 nw168, ar G u3 800 mk, ar G u4 800 vl, ar G u5 100 (fun j => nI (tx j))] H := hP
          have hD : va_D A [ob mo 6 [.ref u0, .ref u1, .ref u2, .ref u3, .ref u4, .ref u5, .int (nI sm), .int (nI sa), .int (nI le), .int (nI (sk tx le (sk tx le (dfP tx le ra) + 1))), .int (nI fa151)], ar G u0 481 nw168, ar G u3 800 mk, ar G u4 800 vl, ar G u5 100 (fun j => nI (tx j))] := hD
          refine lv_bipush (v := (nI 59)) hx hb dX6_rowRead_77 (by decide) ?_
          refine r_icmp_eq (P := (sg tx le (sk tx le (sk tx le (dfP tx le ra) + 1))) = 59) (tgt := 86) hx hb dX6_rowRead_79 (by decide) (nI_eq (by omega) (by omega)) (fun cq79 => ?_) (fun cq79 => ?_)
          · refine lv_iconst (v := (bI false)) hx hb dX6_rowRead_86 (by decide) ?_
            refine lv_istore (lv' := [(4, .int (bI false)), (3, .int (e1 1000)), (2, .int (nI (nn σ))), (1, .int (nI 0)), (0, .ref mo)]) hx hb dX6_rowRead_87 hl (by decide) rfl (fun ls hl => ?_)
            have L89 : ∀ (fu : Nat) (m9 : Bool) (cv : Int32) (bf2 : Nat) (p9 : Nat) (f9 : Nat) (nwx : Nat → Int32) (tvx : Nat → Nat), le + 1 - p9 < fu → p9 ≤ le → sk tx le (dfP tx le ra) + 1 ≤ p9 → cv = e1 bf2 → bf2 < 16 ∨ bf2 = 1000 → (∀ k, tvx k < 100) → Rel (rwS σ (dfV tx le ra) (fun c => tvx (tr * 16 + c))) nwx → (m9 = true → ∀ n R, ens tx le (dfV tx le ra) tr n bf2 p9 tvx = some R → ∃ n2, reE tx le (dfV tx le ra) tr n2 (sk tx le (dfP tx le ra) + 1) (fl16 tv tr (dfV tx le ra)) = some R) → (m9 = false → ∃ n, reE tx le (dfV tx le ra) tr n (sk tx le (dfP tx le ra) + 1) (fl16 tv tr (dfV tx le ra)) = some (decide (sg tx le (sk tx le p9) = 59), (if sg tx le (sk tx le p9) = 59 then sk tx le p9 + 1 else sk tx le p9), tvx)) → ∀ (H : Heap) (locs : List Loc), va_P G.1 vwCl [ob mo 6 [.ref u0, .ref u1, .ref u2, .ref u3, .ref u4, .ref u5, .int (nI sm), .int (nI sa), .int (nI le), .int (nI p9), .int (nI f9)], ar G u0 481 nwx, ar G u3 800 mk, ar G u4 800 vl, ar G u5 100 (fun j => nI (tx j))] H → va_D A [ob mo 6 [.ref u0, .ref u1, .ref u2, .ref u3, .ref u4, .ref u5, .int (nI sm), .int (nI sa), .int (nI le), .int (nI p9), .int (nI f9)], ar G u0 481 nwx, ar G u3 800 mk, ar G u4 800 vl, ar G u5 100 (fun j => nI (tx j))] → va_S A s.heap H locs → ∀ (ls : Array Slot), lv_has ls 5 [(0, .ref mo), (1, .int (nI 0)), (2, .int (nI (nn σ))), (3, .int cv), (4, .int (bI m9))] → W p l e ({ frames := 4, cells := 0, slots := 0, locals := 89 } : Room) s m args below meth cod H locs 0 0 Q (F0 m 89 ls []) := by
              intro fu
              induction fu with
              | zero => intro m9 cv bf2 p9 f9 nwx tvx hm; exact absurd hm (Nat.not_lt_zero _)
              | succ fu ih89 =>
                intro m9 cv bf2 p9 f9 nwx tvx hm89 hp9 hp0 hcv hbf2 htvx hRx hIt hIf H locs hP hD hS ls hl
                have hP : va_P G.1 vwCl [ob mo 6 [.ref u0, .ref u1, .ref u2, .ref u3, .ref u4, .ref u5, .int (nI sm), .int (nI sa), .int (nI le), .int (nI p9), .int (nI f9)], ar G u0 481 nwx, ar G u3 800 mk, ar G u4 800 vl, ar G u5 100 (fun j => nI (tx j))] H := hP
                have hD : va_D A [ob mo 6 [.ref u0, .ref u1, .ref u2, .ref u3, .ref u4, .ref u5, .int (nI sm), .int (nI sa), .int (nI le), .int (nI p9), .int (nI f9)], ar G u0 481 nwx, ar G u3 800 mk, ar G u4 800 vl, ar G u5 100 (fun j => nI (tx j))] := hD
                refine lv_iload hx hb dX6_rowRead_89 (lv_at hl 4 rfl) ?_
                refine r_if_eq (P := m9 = false) (tgt := 147) hx hb dX6_rowRead_91 (by decide) (bI_eq0) (fun cq91 => ?_) (fun cq91 => ?_)
                · refine lv_aload_n hx hb dX6_rowRead_147 rfl (lv_at hl 0 rfl) ?_
                  refine lv_bipush (v := (nI 59)) hx hb dX6_rowRead_148 (by decide) ?_
                  refine g_I (k_V (q0 := 0) (ci := 6) (n := 1) (As := [.int (nI 59)]) (rest := []) (wc := [ob mo 6 [.ref u0, .ref u1, .ref u2, .ref u3, .ref u4, .ref u5, .int (nI sm), .int (nI sa), .int (nI le), .int (nI p9), .int (nI f9)], ar G u5 100 (fun j => nI (tx j))]) hx hb hml hown hts (c_X6_sign (l := l) (G := G) (mo := mo) (u0 := u0) (u1 := u1) (u2 := u2) (u3 := u3) (u4 := u4) (u5 := u5) (sm := sm) (sa := sa) (le := le) (ra := p9) (fa := f9) (tx := tx) (hle := by first | assumption | omega) (htx := by first | assumption | omega) (hra := by first | assumption | omega) (wc := 59) (hw0 := by first | assumption | omega) (hw := by first | assumption | omega))  gX6_rowRead_X6_sign rfl rfl rfl (by decide +kernel) ⟨Nat.le_of_ble_eq_true rfl, Nat.le_of_ble_eq_true rfl⟩ rfl hK hP hD [0, 4] rfl (by decide)  rfl rfl rfl hl.1 rfl (Nat.le_of_ble_eq_true rfl) dX6_rowRead_150 ⟨Nat.le_of_ble_eq_true rfl, Nat.le_of_ble_eq_true rfl⟩) hP hD hS [0, 4] rfl (fun r150 H locs hB150 back hS => ?_)
                  obtain ⟨ra1150, fa1150, he150, hqr150, hqf150, hql150, hP1⟩ := hB150
                  obtain rfl := Eq.symm he150
                  obtain ⟨hP, hD⟩ := back [ob mo 6 [.ref u0, .ref u1, .ref u2, .ref u3, .ref u4, .ref u5, .int (nI sm), .int (nI sa), .int (nI le), .int (nI ra1150), .int (nI fa1150)], ar G u5 100 (fun j => nI (tx j))] rfl hP1
                  have hP : va_P G.1 vwCl [ob mo 6 [.ref u0, .ref u1, .ref u2, .ref u3, .ref u4, .ref u5, .int (nI sm), .int (nI sa), .int (nI le), .int (nI ra1150), .int (nI fa1150)], ar G u0 481 nwx, ar G u3 800 mk, ar G u4 800 vl, ar G u5 100 (fun j => nI (tx j))] H := hP
                  have hD : va_D A [ob mo 6 [.ref u0, .ref u1, .ref u2, .ref u3, .ref u4, .ref u5, .int (nI sm), .int (nI sa), .int (nI le), .int (nI ra1150), .int (nI fa1150)], ar G u0 481 nwx, ar G u3 800 mk, ar G u4 800 vl, ar G u5 100 (fun j => nI (tx j))] := hD
                  refine r_if_ne (P := (decide (sg tx le (sk tx le p9) = 59)) = false) (tgt := 158) hx hb dX6_rowRead_153 (by decide) (bI_eq0) (fun cq153 => ?_) (fun cq153 => ?_)
                  · have z153 : sg tx le (sk tx le p9) = 59 := of_decide_eq_true (Bool.of_not_eq_false cq153)
                    rw [if_pos z153] at hqr150
                    have skg153 := sk_ge tx le p9
                    have hBx : Bd (rwS σ (dfV tx le ra) (fun c => tvx (tr * 16 + c))) := Bd_rwS hB (by omega) hd100 (fun c => htvx _)
                    obtain ⟨hF1, hF2⟩ := hF (dfV tx le ra) (fun c => tvx (tr * 16 + c)) hd100 (fun c => htvx _) (by omega)
                    refine lv_aload_n hx hb dX6_rowRead_158 rfl (lv_at hl 0 rfl) ?_
                    refine lv_iload_n hx hb dX6_rowRead_159 rfl (lv_at hl 2 rfl) ?_
                    refine g_V (k_V (q0 := 0) (ci := 6) (n := 1) (As := [.int (nI (nn σ))]) (rest := []) (wc := [ob mo 6 [.ref u0, .ref u1, .ref u2, .ref u3, .ref u4, .ref u5, .int (nI sm), .int (nI sa), .int (nI le), .int (nI ra1150), .int (nI fa1150)], ar G u0 481 nwx, ar G u3 800 mk, ar G u4 800 vl]) hx hb hml hown hts (c_X6_forms (l := l) (G := G) (mo := mo) (u0 := u0) (u1 := u1) (u2 := u2) (u3 := u3) (u4 := u4) (u5 := u5) (sm := sm) (sa := sa) (le := le) (ra := ra1150) (fa := fa1150) (σ := (rwS σ (dfV tx le ra) (fun c => tvx (tr * 16 + c)))) (nw := nwx) (hR := hRx) (hB := hBx) (hT1 := hF1) (r := nn σ) (hr := (Nat.lt_succ_self _)) (hfr := hF2) (mk := mk) (vl := vl))  gX6_rowRead_X6_forms rfl rfl rfl (by decide +kernel) ⟨Nat.le_of_ble_eq_true rfl, Nat.le_of_ble_eq_true rfl⟩ rfl hK hP hD [0, 1, 2, 3] rfl (by decide)  rfl rfl rfl hl.1 rfl (Nat.le_of_ble_eq_true rfl) dX6_rowRead_160 ⟨Nat.le_of_ble_eq_true rfl, Nat.le_of_ble_eq_true rfl⟩) hP hD hS [0, 1, 2, 3] rfl (fun H locs hB160 back hS => ?_)
                    obtain ⟨nw1160, mk1160, vl1160, hq160, hP1⟩ := hB160
                    obtain ⟨hP, hD⟩ := back [ob mo 6 [.ref u0, .ref u1, .ref u2, .ref u3, .ref u4, .ref u5, .int (nI sm), .int (nI sa), .int (nI le), .int (nI ra1150), .int (nI fa1150)], ar G u0 481 nw1160, ar G u3 800 mk1160, ar G u4 800 vl1160] rfl hP1
                    have hP : va_P G.1 vwCl [ob mo 6 [.ref u0, .ref u1, .ref u2, .ref u3, .ref u4, .ref u5, .int (nI sm), .int (nI sa), .int (nI le), .int (nI ra1150), .int (nI fa1150)], ar G u0 481 nw1160, ar G u3 800 mk1160, ar G u4 800 vl1160, ar G u5 100 (fun j => nI (tx j))] H := hP
                    have hD : va_D A [ob mo 6 [.ref u0, .ref u1, .ref u2, .ref u3, .ref u4, .ref u5, .int (nI sm), .int (nI sa), .int (nI le), .int (nI ra1150), .int (nI fa1150)], ar G u0 481 nw1160, ar G u3 800 mk1160, ar G u4 800 vl1160, ar G u5 100 (fun j => nI (tx j))] := hD
                    refine lv_iconst (v := (nI 1)) hx hb dX6_rowRead_163 (by decide) ?_
                    exact hret _ _ _ _ _ hS dX6_rowRead_164 (⟨true, nw1160, ra1150, fa1150, mk1160, vl1160, rfl, fun _ => by obtain ⟨n2, h9⟩ := hIf cq91; rw [decide_eq_true z153, if_pos z153] at h9; obtain ⟨n3, h8⟩ := rwE_5 (tv := tv) (r := tr) o30 z54 rfl rfl ⟨n2, h9⟩ rfl; exact ⟨n3, _, _, h8, fun z => Bool.noConfusion z, fun _ => ⟨hqr150, htvx, hq160⟩⟩, fun z => absurd z cq8, hql150, fun _ => by omega, hP⟩)
                  · have z153 : ¬ sg tx le (sk tx le p9) = 59 := of_decide_eq_false cq153
                    refine lv_iconst (v := (nI 0)) hx hb dX6_rowRead_156 (by decide) ?_
                    exact hret _ _ _ _ _ hS dX6_rowRead_157 (⟨false, nwx, ra1150, fa1150, mk, vl, rfl, fun _ => by obtain ⟨n2, h9⟩ := hIf cq91; rw [decide_eq_false z153, if_neg z153] at h9; obtain ⟨n3, h8⟩ := rwE_5 (tv := tv) (r := tr) o30 z54 rfl rfl ⟨n2, h9⟩ rfl; exact ⟨n3, _, _, h8, fun _ => hqf150 z153, fun z => Bool.noConfusion z⟩, fun z => absurd z cq8, hql150, fun z => Bool.noConfusion z, hP⟩)
                · have hm91 := Bool.of_not_eq_false cq91
                  have hBx : Bd (rwS σ (dfV tx le ra) (fun c => tvx (tr * 16 + c))) := Bd_rwS hB (by omega) hd100 (fun c => htvx _)
                  refine lv_aload_n hx hb dX6_rowRead_94 rfl (lv_at hl 0 rfl) ?_
                  refine lv_iload_n hx hb dX6_rowRead_95 rfl (lv_at hl 2 rfl) ?_
                  refine lv_iload_n hx hb dX6_rowRead_96 rfl (lv_at hl 3 rfl) ?_
                  refine r_top (y := (e1 bf2)) (hcv) ?_
                  refine g_I (k_V (q0 := 0) (ci := 6) (n := 2) (As := [.int (nI (nn σ)), .int (e1 bf2)]) (rest := []) (wc := [ob mo 6 [.ref u0, .ref u1, .ref u2, .ref u3, .ref u4, .ref u5, .int (nI sm), .int (nI sa), .int (nI le), .int (nI p9), .int (nI f9)], ar G u0 481 nwx, ar G u5 100 (fun j => nI (tx j))]) hx hb hml hown hts (c_X6_entry (l := l) (G := G) (mo := mo) (u0 := u0) (u1 := u1) (u2 := u2) (u3 := u3) (u4 := u4) (u5 := u5) (sm := sm) (sa := sa) (le := le) (ra := p9) (fa := f9) (tx := tx) (hle := by first | assumption | omega) (htx := by first | assumption | omega) (σ := (rwS σ (dfV tx le ra) (fun c => tvx (tr * 16 + c)))) (nw := nwx) (hR := hRx) (hB := hBx) (hra := by first | assumption | omega) (r := nn σ) (bf0 := bf2) (d9 := (dfV tx le ra)) (hr := (Nat.lt_succ_self _)) (hbf := by first | assumption | omega) (hd9 := up_s))  gX6_rowRead_X6_entry rfl rfl rfl (by decide +kernel) ⟨Nat.le_of_ble_eq_true rfl, Nat.le_of_ble_eq_true rfl⟩ rfl hK hP hD [0, 1, 4] rfl (by decide)  rfl rfl rfl hl.1 rfl (Nat.le_of_ble_eq_true rfl) dX6_rowRead_97 ⟨Nat.le_of_ble_eq_true rfl, Nat.le_of_ble_eq_true rfl⟩) hP hD hS [0, 1, 4] rfl (fun r97 H locs hB97 back hS => ?_)
                  obtain ⟨nw197, ra197, fa197, xr97, he97, hqT97, hqF97, hxb97, hql97, hP1⟩ := hB97
                  obtain rfl := Eq.symm he97
                  obtain ⟨hP, hD⟩ := back [ob mo 6 [.ref u0, .ref u1, .ref u2, .ref u3, .ref u4, .ref u5, .int (nI sm), .int (nI sa), .int (nI le), .int (nI ra197), .int (nI fa197)], ar G u0 481 nw197, ar G u5 100 (fun j => nI (tx j))] rfl hP1
                  have hP : va_P G.1 vwCl [ob mo 6 [.ref u0, .ref u1, .ref u2, .ref u3, .ref u4, .ref u5, .int (nI sm), .int (nI sa), .int (nI le), .int (nI ra197), .int (nI fa197)], ar G u0 481 nw197, ar G u3 800 mk, ar G u4 800 vl, ar G u5 100 (fun j => nI (tx j))] H := hP
                  have hD : va_D A [ob mo 6 [.ref u0, .ref u1, .ref u2, .ref u3, .ref u4, .ref u5, .int (nI sm), .int (nI sa), .int (nI le), .int (nI ra197), .int (nI fa197)], ar G u0 481 nw197, ar G u3 800 mk, ar G u4 800 vl, ar G u5 100 (fun j => nI (tx j))] := hD
                  refine lv_istore_n (lv' := [(3, .int (e9 xr97)), (0, .ref mo), (1, .int (nI 0)), (2, .int (nI (nn σ))), (4, .int (bI m9))]) hx hb dX6_rowRead_100 rfl hl (by decide) rfl (fun ls hl => ?_)
                  refine lv_iload_n hx hb dX6_rowRead_101 rfl (lv_at hl 0 rfl) ?_
                  refine lv_bipush (v := (e9 1000)) hx hb dX6_rowRead_102 (by decide) ?_
                  refine r_icmp_ne (P := xr97 = 1000) (tgt := 109) hx hb dX6_rowRead_104 (by decide) (e9_inj (by omega) (by omega)) (fun cq104 => ?_) (fun cq104 => ?_)
                  · obtain ⟨q1, q2, q3, q4, q5, q6⟩ := hqT97 cq104
                    have hEN := tr3 q1 q3 q2
                    have skg97 := sk_ge tx le ra197
                    have skl97 := sk_le (t := tx) hql97
                    have sgb97 := sg_lt htx le (sk tx le ra197)
                    refine lv_aload_n hx hb dX6_rowRead_109 rfl (lv_at hl 1 rfl) ?_
                    refine g_I (k_V (q0 := 0) (ci := 6) (n := 0) (As := []) (rest := []) (wc := [ob mo 6 [.ref u0, .ref u1, .ref u2, .ref u3, .ref u4, .ref u5, .int (nI sm), .int (nI sa), .int (nI le), .int (nI ra197), .int (nI fa197)], ar G u5 100 (fun j => nI (tx j))]) hx hb hml hown hts (c_X6_here (l := l) (G := G) (mo := mo) (u0 := u0) (u1 := u1) (u2 := u2) (u3 := u3) (u4 := u4) (u5 := u5) (sm := sm) (sa := sa) (le := le) (ra := ra197) (fa := fa197) (tx := tx) (hle := by first | assumption | omega) (htx := by first | assumption | omega) (hra := by first | assumption | omega))  gX6_rowRead_X6_here rfl rfl rfl (by decide +kernel) ⟨Nat.le_of_ble_eq_true rfl, Nat.le_of_ble_eq_true rfl⟩ rfl hK hP hD [0, 4] rfl (by decide)  rfl rfl rfl hl.1 rfl (Nat.le_of_ble_eq_true rfl) dX6_rowRead_110 ⟨Nat.le_of_ble_eq_true rfl, Nat.le_of_ble_eq_true rfl⟩) hP hD hS [0, 4] rfl (fun r110 H locs hB110 back hS => ?_)
                    obtain ⟨he110, hP1⟩ := hB110
                    obtain rfl := Eq.symm he110
                    obtain ⟨hP, hD⟩ := back [ob mo 6 [.ref u0, .ref u1, .ref u2, .ref u3, .ref u4, .ref u5, .int (nI sm), .int (nI sa), .int (nI le), .int (nI (sk tx le ra197)), .int (nI fa197)], ar G u5 100 (fun j => nI (tx j))] rfl hP1
                    have hP : va_P G.1 vwCl [ob mo 6 [.ref u0, .ref u1, .ref u2, .ref u3, .ref u4, .ref u5, .int (nI sm), .int (nI sa), .int (nI le), .int (nI (sk tx le ra197)), .int (nI fa197)], ar G u0 481 nw197, ar G u3 800 mk, ar G u4 800 vl, ar G u5 100 (fun j => nI (tx j))] H := hP
                    have hD : va_D A [ob mo 6 [.ref u0, .ref u1, .ref u2, .ref u3, .ref u4, .ref u5, .int (nI sm), .int (nI sa), .int (nI le), .int (nI (sk tx le ra197)), .int (nI fa197)], ar G u0 481 nw197, ar G u3 800 mk, ar G u4 800 vl, ar G u5 100 (fun j => nI (tx j))] := hD
                    refine lv_bipush (v := (nI 44)) hx hb dX6_rowRead_113 (by decide) ?_
                    refine r_icmp_ne (P := (sg tx le (sk tx le ra197)) = 44) (tgt := 122) hx hb dX6_rowRead_115 (by decide) (nI_eq (by omega) (by omega)) (fun cq115 => ?_) (fun cq115 => ?_)
                    · refine lv_iconst (v := (bI false)) hx hb dX6_rowRead_122 (by decide) ?_
                      refine lv_istore (lv' := [(4, .int (bI false)), (3, .int (e9 xr97)), (0, .ref mo), (1, .int (nI 0)), (2, .int (nI (nn σ)))]) hx hb dX6_rowRead_123 hl (by decide) rfl (fun ls hl => ?_)
                      refine lv_aload_n hx hb dX6_rowRead_125 rfl (lv_at hl 2 rfl) ?_
                      refine lv_dup hx hb dX6_rowRead_126 rfl ?_
                      refine va_get (D := G.1) (ci := 6) (v := .int (nI (sk tx le ra197))) (C := RX6) (T := TX6) (N := 11) hx hb hts iqX6_rowRead_X6 hown hK.1 hP 0 rfl rfl 9 (by decide) (hts (.fieldLink RX6 114 "PushedTablesModel" "readAt" "I") (List.mem_of_getElem? (i := 2) rfl)) (fun _ h9 => h9) rfl dX6_rowRead_127 ?_
                      refine lv_iload hx hb dX6_rowRead_130 (lv_at hl 0 rfl) ?_
                      refine r_if_eq (P := false = false) (tgt := 139) hx hb dX6_rowRead_132 (by decide) (bI_eq0) (fun cq132 => ?_) (fun cq132 => ?_)
                      · refine lv_iconst (v := (nI 0)) hx hb dX6_rowRead_139 (by decide) ?_
                        refine r_iadd (v := (sk tx le ra197) + 0) hx hb dX6_rowRead_140 rfl ?_
                        refine va_put (D := G.1) (ci := 6) (v := .int (nI ((sk tx le ra197) + 0))) (ty := .int) (C := RX6) (T := TX6) (N := 11) hx hb hts iqX6_rowRead_X6 tyX6 tyX6_ok nmX6 hown hK.1 hP hD hS 0 rfl rfl 9 (by decide) (hts (.fieldLink RX6 114 "PushedTablesModel" "readAt" "I") (List.mem_of_getElem? (i := 2) rfl)) (fun _ h9 => h9) rfl (by decide +kernel) rfl rfl (Nat.le_of_ble_eq_true rfl) dX6_rowRead_141 (fun H locs hP hD hS => ?_)
                        have hP : va_P G.1 vwCl [ob mo 6 [.ref u0, .ref u1, .ref u2, .ref u3, .ref u4, .ref u5, .int (nI sm), .int (nI sa), .int (nI le), .int (nI ((sk tx le ra197) + 0)), .int (nI fa197)], ar G u0 481 nw197, ar G u3 800 mk, ar G u4 800 vl, ar G u5 100 (fun j => nI (tx j))] H := hP
                        have hD : va_D A [ob mo 6 [.ref u0, .ref u1, .ref u2, .ref u3, .ref u4, .ref u5, .int (nI sm), .int (nI sa), .int (nI le), .int (nI ((sk tx le ra197) + 0)), .int (nI fa197)], ar G u0 481 nw197, ar G u3 800 mk, ar G u4 800 vl, ar G u5 100 (fun j => nI (tx j))] := hD
                        refine lv_goto (tgt := 89) hx hb dX6_rowRead_144 (by decide) ?_
                        exact ih89 false (e9 xr97) xr97 ((sk tx le ra197) + 0) fa197 nw197 (va_up tvx (tr * 16 + xr97) (enO tx le (dfV tx le ra) bf2 p9).2.2.2) (by omega) (by omega) (by omega) ((e9_n cq104).trans (e1_n cq104).symm) (hxb97) (up_all (P := fun z => z < 100) htvx q5) (by have h9 := q4; rw [rwS_ch (tv := tvx) (r := tr) (by omega)] at h9; exact h9) (fun z => Bool.noConfusion z) (fun _ => by simp only [Nat.add_zero, sk_sk]; exact hIt hm91 1 _ (ens_end hEN cq115)) _ _ hP hD hS ls (lv_sub hl [2, 3, 4, 1, 0] rfl)
                      · exact absurd rfl cq132
                    · have sp97 := sg_pos (t := tx) (L := le) (p := sk tx le ra197) (by omega)
                      refine lv_iconst (v := (bI true)) hx hb dX6_rowRead_118 (by decide) ?_
                      refine lv_goto (tgt := 123) hx hb dX6_rowRead_119 (by decide) ?_
                      refine lv_istore (lv' := [(4, .int (bI true)), (3, .int (e9 xr97)), (0, .ref mo), (1, .int (nI 0)), (2, .int (nI (nn σ)))]) hx hb dX6_rowRead_123 hl (by decide) rfl (fun ls hl => ?_)
                      refine lv_aload_n hx hb dX6_rowRead_125 rfl (lv_at hl 2 rfl) ?_
                      refine lv_dup hx hb dX6_rowRead_126 rfl ?_
                      refine va_get (D := G.1) (ci := 6) (v := .int (nI (sk tx le ra197))) (C := RX6) (T := TX6) (N := 11) hx hb hts iqX6_rowRead_X6 hown hK.1 hP 0 rfl rfl 9 (by decide) (hts (.fieldLink RX6 114 "PushedTablesModel" "readAt" "I") (List.mem_of_getElem? (i := 2) rfl)) (fun _ h9 => h9) rfl dX6_rowRead_127 ?_
                      refine lv_iload hx hb dX6_rowRead_130 (lv_at hl 0 rfl) ?_
                      refine r_if_eq (P := true = false) (tgt := 139) hx hb dX6_rowRead_132 (by decide) (bI_eq0) (fun cq132 => ?_) (fun cq132 => ?_)
                      · exact absurd cq132 (by decide)
                      · refine lv_iconst (v := (nI 1)) hx hb dX6_rowRead_135 (by decide) ?_
                        refine lv_goto (tgt := 140) hx hb dX6_rowRead_136 (by decide) ?_
                        refine r_iadd (v := (sk tx le ra197) + 1) hx hb dX6_rowRead_140 rfl ?_
                        refine va_put (D := G.1) (ci := 6) (v := .int (nI ((sk tx le ra197) + 1))) (ty := .int) (C := RX6) (T := TX6) (N := 11) hx hb hts iqX6_rowRead_X6 tyX6 tyX6_ok nmX6 hown hK.1 hP hD hS 0 rfl rfl 9 (by decide) (hts (.fieldLink RX6 114 "PushedTablesModel" "readAt" "I") (List.mem_of_getElem? (i := 2) rfl)) (fun _ h9 => h9) rfl (by decide +kernel) rfl rfl (Nat.le_of_ble_eq_true rfl) dX6_rowRead_141 (fun H locs hP hD hS => ?_)
                        have hP : va_P G.1 vwCl [ob mo 6 [.ref u0, .ref u1, .ref u2, .ref u3, .ref u4, .ref u5, .int (nI sm), .int (nI sa), .int (nI le), .int (nI ((sk tx le ra197) + 1)), .int (nI fa197)], ar G u0 481 nw197, ar G u3 800 mk, ar G u4 800 vl, ar G u5 100 (fun j => nI (tx j))] H := hP
                        have hD : va_D A [ob mo 6 [.ref u0, .ref u1, .ref u2, .ref u3, .ref u4, .ref u5, .int (nI sm), .int (nI sa), .int (nI le), .int (nI ((sk tx le ra197) + 1)), .int (nI fa197)], ar G u0 481 nw197, ar G u3 800 mk, ar G u4 800 vl, ar G u5 100 (fun j => nI (tx j))] := hD
                        refine lv_goto (tgt := 89) hx hb dX6_rowRead_144 (by decide) ?_
                        exact ih89 true (e9 xr97) xr97 ((sk tx le ra197) + 1) fa197 nw197 (va_up tvx (tr * 16 + xr97) (enO tx le (dfV tx le ra) bf2 p9).2.2.2) (by omega) (by omega) (by omega) ((e9_n cq104).trans (e1_n cq104).symm) (hxb97) (up_all (P := fun z => z < 100) htvx q5) (by have h9 := q4; rw [rwS_ch (tv := tvx) (r := tr) (by omega)] at h9; exact h9) (fun _ n R hn => hIt hm91 (n + 1) R (by rw [ens_c hEN (by omega) cq115]; exact hn)) (fun z => Bool.noConfusion z) _ _ hP hD hS ls (lv_sub hl [2, 3, 4, 1, 0] rfl)
                  · refine lv_iconst (v := (nI 0)) hx hb dX6_rowRead_107 (by decide) ?_
                    exact hret _ _ _ _ _ hS dX6_rowRead_108 (⟨false, nw197, ra197, fa197, mk, vl, rfl, fun _ => by obtain ⟨f1, f2⟩ := hqF97 cq104; obtain ⟨n2, h9⟩ := hIt hm91 1 _ (ens_f (tr3 f1 f2 rfl)); obtain ⟨n3, h8⟩ := rwE_5 (tv := tv) (r := tr) o30 z54 rfl rfl ⟨n2, h9⟩ rfl; exact ⟨n3, _, _, h8, fun _ => rfl, fun z => Bool.noConfusion z⟩, fun z => absurd z cq8, hql97, fun z => Bool.noConfusion z, hP⟩)
            exact L89 ((le + 1 - (sk tx le (sk tx le (dfP tx le ra) + 1))) + 1) false (e1 1000) 1000 (sk tx le (sk tx le (dfP tx le ra) + 1)) fa151 nw168 (fl16 tv tr (dfV tx le ra)) (Nat.lt_succ_self _) (by omega) (by omega) (rfl) (Or.inr rfl) (fl16_lt htv hd100) (by rw [rwS_ad]; exact hq68) (fun z => Bool.noConfusion z) (fun _ => ⟨0, by rw [sk_sk, decide_eq_true cq79, if_pos cq79]; exact reE_y cq79⟩) _ _ hP hD hS ls (lv_sub hl [4, 3, 2, 1, 0] rfl)
          · refine lv_iconst (v := (bI true)) hx hb dX6_rowRead_82 (by decide) ?_
            refine lv_goto (tgt := 87) hx hb dX6_rowRead_83 (by decide) ?_
            refine lv_istore (lv' := [(4, .int (bI true)), (3, .int (e1 1000)), (2, .int (nI (nn σ))), (1, .int (nI 0)), (0, .ref mo)]) hx hb dX6_rowRead_87 hl (by decide) rfl (fun ls hl => ?_)
            have L89 : ∀ (fu : Nat) (m9 : Bool) (cv : Int32) (bf2 : Nat) (p9 : Nat) (f9 : Nat) (nwx : Nat → Int32) (tvx : Nat → Nat), le + 1 - p9 < fu → p9 ≤ le → sk tx le (dfP tx le ra) + 1 ≤ p9 → cv = e1 bf2 → bf2 < 16 ∨ bf2 = 1000 → (∀ k, tvx k < 100) → Rel (rwS σ (dfV tx le ra) (fun c => tvx (tr * 16 + c))) nwx → (m9 = true → ∀ n R, ens tx le (dfV tx le ra) tr n bf2 p9 tvx = some R → ∃ n2, reE tx le (dfV tx le ra) tr n2 (sk tx le (dfP tx le ra) + 1) (fl16 tv tr (dfV tx le ra)) = some R) → (m9 = false → ∃ n, reE tx le (dfV tx le ra) tr n (sk tx le (dfP tx le ra) + 1) (fl16 tv tr (dfV tx le ra)) = some (decide (sg tx le (sk tx le p9) = 59), (if sg tx le (sk tx le p9) = 59 then sk tx le p9 + 1 else sk tx le p9), tvx)) → ∀ (H : Heap) (locs : List Loc), va_P G.1 vwCl [ob mo 6 [.ref u0, .ref u1, .ref u2, .ref u3, .ref u4, .ref u5, .int (nI sm), .int (nI sa), .int (nI le), .int (nI p9), .int (nI f9)], ar G u0 481 nwx, ar G u3 800 mk, ar G u4 800 vl, ar G u5 100 (fun j => nI (tx j))] H → va_D A [ob mo 6 [.ref u0, .ref u1, .ref u2, .ref u3, .ref u4, .ref u5, .int (nI sm), .int (nI sa), .int (nI le), .int (nI p9), .int (nI f9)], ar G u0 481 nwx, ar G u3 800 mk, ar G u4 800 vl, ar G u5 100 (fun j => nI (tx j))] → va_S A s.heap H locs → ∀ (ls : Array Slot), lv_has ls 5 [(0, .ref mo), (1, .int (nI 0)), (2, .int (nI (nn σ))), (3, .int cv), (4, .int (bI m9))] → W p l e ({ frames := 4, cells := 0, slots := 0, locals := 89 } : Room) s m args below meth cod H locs 0 0 Q (F0 m 89 ls []) := by
              intro fu
              induction fu with
              | zero => intro m9 cv bf2 p9 f9 nwx tvx hm; exact absurd hm (Nat.not_lt_zero _)
              | succ fu ih89 =>
                intro m9 cv bf2 p9 f9 nwx tvx hm89 hp9 hp0 hcv hbf2 htvx hRx hIt hIf H locs hP hD hS ls hl
                have hP : va_P G.1 vwCl [ob mo 6 [.ref u0, .ref u1, .ref u2, .ref u3, .ref u4, .ref u5, .int (nI sm), .int (nI sa), .int (nI le), .int (nI p9), .int (nI f9)], ar G u0 481 nwx, ar G u3 800 mk, ar G u4 800 vl, ar G u5 100 (fun j => nI (tx j))] H := hP
                have hD : va_D A [ob mo 6 [.ref u0, .ref u1, .ref u2, .ref u3, .ref u4, .ref u5, .int (nI sm), .int (nI sa), .int (nI le), .int (nI p9), .int (nI f9)], ar G u0 481 nwx, ar G u3 800 mk, ar G u4 800 vl, ar G u5 100 (fun j => nI (tx j))] := hD
                refine lv_iload hx hb dX6_rowRead_89 (lv_at hl 4 rfl) ?_
                refine r_if_eq (P := m9 = false) (tgt := 147) hx hb dX6_rowRead_91 (by decide) (bI_eq0) (fun cq91 => ?_) (fun cq91 => ?_)
                · refine lv_aload_n hx hb dX6_rowRead_147 rfl (lv_at hl 0 rfl) ?_
                  refine lv_bipush (v := (nI 59)) hx hb dX6_rowRead_148 (by decide) ?_
                  refine g_I (k_V (q0 := 0) (ci := 6) (n := 1) (As := [.int (nI 59)]) (rest := []) (wc := [ob mo 6 [.ref u0, .ref u1, .ref u2, .ref u3, .ref u4, .ref u5, .int (nI sm), .int (nI sa), .int (nI le), .int (nI p9), .int (nI f9)], ar G u5 100 (fun j => nI (tx j))]) hx hb hml hown hts (c_X6_sign (l := l) (G := G) (mo := mo) (u0 := u0) (u1 := u1) (u2 := u2) (u3 := u3) (u4 := u4) (u5 := u5) (sm := sm) (sa := sa) (le := le) (ra := p9) (fa := f9) (tx := tx) (hle := by first | assumption | omega) (htx := by first | assumption | omega) (hra := by first | assumption | omega) (wc := 59) (hw0 := by first | assumption | omega) (hw := by first | assumption | omega))  gX6_rowRead_X6_sign rfl rfl rfl (by decide +kernel) ⟨Nat.le_of_ble_eq_true rfl, Nat.le_of_ble_eq_true rfl⟩ rfl hK hP hD [0, 4] rfl (by decide)  rfl rfl rfl hl.1 rfl (Nat.le_of_ble_eq_true rfl) dX6_rowRead_150 ⟨Nat.le_of_ble_eq_true rfl, Nat.le_of_ble_eq_true rfl⟩) hP hD hS [0, 4] rfl (fun r150 H locs hB150 back hS => ?_)
                  obtain ⟨ra1150, fa1150, he150, hqr150, hqf150, hql150, hP1⟩ := hB150
                  obtain rfl := Eq.symm he150
                  obtain ⟨hP, hD⟩ := back [ob mo 6 [.ref u0, .ref u1, .ref u2, .ref u3, .ref u4, .ref u5, .int (nI sm), .int (nI sa), .int (nI le), .int (nI ra1150), .int (nI fa1150)], ar G u5 100 (fun j => nI (tx j))] rfl hP1
                  have hP : va_P G.1 vwCl [ob mo 6 [.ref u0, .ref u1, .ref u2, .ref u3, .ref u4, .ref u5, .int (nI sm), .int (nI sa), .int (nI le), .int (nI ra1150), .int (nI fa1150)], ar G u0 481 nwx, ar G u3 800 mk, ar G u4 800 vl, ar G u5 100 (fun j => nI (tx j))] H := hP
                  have hD : va_D A [ob mo 6 [.ref u0, .ref u1, .ref u2, .ref u3, .ref u4, .ref u5, .int (nI sm), .int (nI sa), .int (nI le), .int (nI ra1150), .int (nI fa1150)], ar G u0 481 nwx, ar G u3 800 mk, ar G u4 800 vl, ar G u5 100 (fun j => nI (tx j))] := hD
                  refine r_if_ne (P := (decide (sg tx le (sk tx le p9) = 59)) = false) (tgt := 158) hx hb dX6_rowRead_153 (by decide) (bI_eq0) (fun cq153 => ?_) (fun cq153 => ?_)
                  · have z153 : sg tx le (sk tx le p9) = 59 := of_decide_eq_true (Bool.of_not_eq_false cq153)
                    rw [if_pos z153] at hqr150
                    have skg153 := sk_ge tx le p9
                    have hBx : Bd (rwS σ (dfV tx le ra) (fun c => tvx (tr * 16 + c))) := Bd_rwS hB (by omega) hd100 (fun c => htvx _)
                    obtain ⟨hF1, hF2⟩ := hF (dfV tx le ra) (fun c => tvx (tr * 16 + c)) hd100 (fun c => htvx _) (by omega)
                    refine lv_aload_n hx hb dX6_rowRead_158 rfl (lv_at hl 0 rfl) ?_
                    refine lv_iload_n hx hb dX6_rowRead_159 rfl (lv_at hl 2 rfl) ?_
                    refine g_V (k_V (q0 := 0) (ci := 6) (n := 1) (As := [.int (nI (nn σ))]) (rest := []) (wc := [ob mo 6 [.ref u0, .ref u1, .ref u2, .ref u3, .ref u4, .ref u5, .int (nI sm), .int (nI sa), .int (nI le), .int (nI ra1150), .int (nI fa1150)], ar G u0 481 nwx, ar G u3 800 mk, ar G u4 800 vl]) hx hb hml hown hts (c_X6_forms (l := l) (G := G) (mo := mo) (u0 := u0) (u1 := u1) (u2 := u2) (u3 := u3) (u4 := u4) (u5 := u5) (sm := sm) (sa := sa) (le := le) (ra := ra1150) (fa := fa1150) (σ := (rwS σ (dfV tx le ra) (fun c => tvx (tr * 16 + c)))) (nw := nwx) (hR := hRx) (hB := hBx) (hT1 := hF1) (r := nn σ) (hr := (Nat.lt_succ_self _)) (hfr := hF2) (mk := mk) (vl := vl))  gX6_rowRead_X6_forms rfl rfl rfl (by decide +kernel) ⟨Nat.le_of_ble_eq_true rfl, Nat.le_of_ble_eq_true rfl⟩ rfl hK hP hD [0, 1, 2, 3] rfl (by decide)  rfl rfl rfl hl.1 rfl (Nat.le_of_ble_eq_true rfl) dX6_rowRead_160 ⟨Nat.le_of_ble_eq_true rfl, Nat.le_of_ble_eq_true rfl⟩) hP hD hS [0, 1, 2, 3] rfl (fun H locs hB160 back hS => ?_)
                    obtain ⟨nw1160, mk1160, vl1160, hq160, hP1⟩ := hB160
                    obtain ⟨hP, hD⟩ := back [ob mo 6 [.ref u0, .ref u1, .ref u2, .ref u3, .ref u4, .ref u5, .int (nI sm), .int (nI sa), .int (nI le), .int (nI ra1150), .int (nI fa1150)], ar G u0 481 nw1160, ar G u3 800 mk1160, ar G u4 800 vl1160] rfl hP1
                    have hP : va_P G.1 vwCl [ob mo 6 [.ref u0, .ref u1, .ref u2, .ref u3, .ref u4, .ref u5, .int (nI sm), .int (nI sa), .int (nI le), .int (nI ra1150), .int (nI fa1150)], ar G u0 481 nw1160, ar G u3 800 mk1160, ar G u4 800 vl1160, ar G u5 100 (fun j => nI (tx j))] H := hP
                    have hD : va_D A [ob mo 6 [.ref u0, .ref u1, .ref u2, .ref u3, .ref u4, .ref u5, .int (nI sm), .int (nI sa), .int (nI le), .int (nI ra1150), .int (nI fa1150)], ar G u0 481 nw1160, ar G u3 800 mk1160, ar G u4 800 vl1160, ar G u5 100 (fun j => nI (tx j))] := hD
                    refine lv_iconst (v := (nI 1)) hx hb dX6_rowRead_163 (by decide) ?_
                    exact hret _ _ _ _ _ hS dX6_rowRead_164 (⟨true, nw1160, ra1150, fa1150, mk1160, vl1160, rfl, fun _ => by obtain ⟨n2, h9⟩ := hIf cq91; rw [decide_eq_true z153, if_pos z153] at h9; obtain ⟨n3, h8⟩ := rwE_5 (tv := tv) (r := tr) o30 z54 rfl rfl ⟨n2, h9⟩ rfl; exact ⟨n3, _, _, h8, fun z => Bool.noConfusion z, fun _ => ⟨hqr150, htvx, hq160⟩⟩, fun z => absurd z cq8, hql150, fun _ => by omega, hP⟩)
                  · have z153 : ¬ sg tx le (sk tx le p9) = 59 := of_decide_eq_false cq153
                    refine lv_iconst (v := (nI 0)) hx hb dX6_rowRead_156 (by decide) ?_
                    exact hret _ _ _ _ _ hS dX6_rowRead_157 (⟨false, nwx, ra1150, fa1150, mk, vl, rfl, fun _ => by obtain ⟨n2, h9⟩ := hIf cq91; rw [decide_eq_false z153, if_neg z153] at h9; obtain ⟨n3, h8⟩ := rwE_5 (tv := tv) (r := tr) o30 z54 rfl rfl ⟨n2, h9⟩ rfl; exact ⟨n3, _, _, h8, fun _ => hqf150 z153, fun z => Bool.noConfusion z⟩, fun z => absurd z cq8, hql150, fun z => Bool.noConfusion z, hP⟩)
                · have hm91 := Bool.of_not_eq_false cq91
                  have hBx : Bd (rwS σ (dfV tx le ra) (fun c => tvx (tr * 16 + c))) := Bd_rwS hB (by omega) hd100 (fun c => htvx _)
                  refine lv_aload_n hx hb dX6_rowRead_94 rfl (lv_at hl 0 rfl) ?_
                  refine lv_iload_n hx hb dX6_rowRead_95 rfl (lv_at hl 2 rfl) ?_
                  refine lv_iload_n hx hb dX6_rowRead_96 rfl (lv_at hl 3 rfl) ?_
                  refine r_top (y := (e1 bf2)) (hcv) ?_
                  refine g_I (k_V (q0 := 0) (ci := 6) (n := 2) (As := [.int (nI (nn σ)), .int (e1 bf2)]) (rest := []) (wc := [ob mo 6 [.ref u0, .ref u1, .ref u2, .ref u3, .ref u4, .ref u5, .int (nI sm), .int (nI sa), .int (nI le), .int (nI p9), .int (nI f9)], ar G u0 481 nwx, ar G u5 100 (fun j => nI (tx j))]) hx hb hml hown hts (c_X6_entry (l := l) (G := G) (mo := mo) (u0 := u0) (u1 := u1) (u2 := u2) (u3 := u3) (u4 := u4) (u5 := u5) (sm := sm) (sa := sa) (le := le) (ra := p9) (fa := f9) (tx := tx) (hle := by first | assumption | omega) (htx := by first | assumption | omega) (σ := (rwS σ (dfV tx le ra) (fun c => tvx (tr * 16 + c)))) (nw := nwx) (hR := hRx) (hB := hBx) (hra := by first | assumption | omega) (r := nn σ) (bf0 := bf2) (d9 := (dfV tx le ra)) (hr := (Nat.lt_succ_self _)) (hbf := by first | assumption | omega) (hd9 := up_s))  gX6_rowRead_X6_entry rfl rfl rfl (by decide +kernel) ⟨Nat.le_of_ble_eq_true rfl, Nat.le_of_ble_eq_true rfl⟩ rfl hK hP hD [0, 1, 4] rfl (by decide)  rfl rfl rfl hl.1 rfl (Nat.le_of_ble_eq_true rfl) dX6_rowRead_97 ⟨Nat.le_of_ble_eq_true rfl, Nat.le_of_ble_eq_true rfl⟩) hP hD hS [0, 1, 4] rfl (fun r97 H locs hB97 back hS => ?_)
                  obtain ⟨nw197, ra197, fa197, xr97, he97, hqT97, hqF97, hxb97, hql97, hP1⟩ := hB97
                  obtain rfl := Eq.symm he97
                  obtain ⟨hP, hD⟩ := back [ob mo 6 [.ref u0, .ref u1, .ref u2, .ref u3, .ref u4, .ref u5, .int (nI sm), .int (nI sa), .int (nI le), .int (nI ra197), .int (nI fa197)], ar G u0 481 nw197, ar G u5 100 (fun j => nI (tx j))] rfl hP1
                  have hP : va_P G.1 vwCl [ob mo 6 [.ref u0, .ref u1, .ref u2, .ref u3, .ref u4, .ref u5, .int (nI sm), .int (nI sa), .int (nI le), .int (nI ra197), .int (nI fa197)], ar G u0 481 nw197, ar G u3 800 mk, ar G u4 800 vl, ar G u5 100 (fun j => nI (tx j))] H := hP
                  have hD : va_D A [ob mo 6 [.ref u0, .ref u1, .ref u2, .ref u3, .ref u4, .ref u5, .int (nI sm), .int (nI sa), .int (nI le), .int (nI ra197), .int (nI fa197)], ar G u0 481 nw197, ar G u3 800 mk, ar G u4 800 vl, ar G u5 100 (fun j => nI (tx j))] := hD
                  refine lv_istore_n (lv' := [(3, .int (e9 xr97)), (0, .ref mo), (1, .int (nI 0)), (2, .int (nI (nn σ))), (4, .int (bI m9))]) hx hb dX6_rowRead_100 rfl hl (by decide) rfl (fun ls hl => ?_)
                  refine lv_iload_n hx hb dX6_rowRead_101 rfl (lv_at hl 0 rfl) ?_
                  refine lv_bipush (v := (e9 1000)) hx hb dX6_rowRead_102 (by decide) ?_
                  refine r_icmp_ne (P := xr97 = 1000) (tgt := 109) hx hb dX6_rowRead_104 (by decide) (e9_inj (by omega) (by omega)) (fun cq104 => ?_) (fun cq104 => ?_)
                  · obtain ⟨q1, q2, q3, q4, q5, q6⟩ := hqT97 cq104
                    have hEN := tr3 q1 q3 q2
                    have skg97 := sk_ge tx le ra197
                    have skl97 := sk_le (t := tx) hql97
                    have sgb97 := sg_lt htx le (sk tx le ra197)
                    refine lv_aload_n hx hb dX6_rowRead_109 rfl (lv_at hl 1 rfl) ?_
                    refine g_I (k_V (q0 := 0) (ci := 6) (n := 0) (As := []) (rest := []) (wc := [ob mo 6 [.ref u0, .ref u1, .ref u2, .ref u3, .ref u4, .ref u5, .int (nI sm), .int (nI sa), .int (nI le), .int (nI ra197), .int (nI fa197)], ar G u5 100 (fun j => nI (tx j))]) hx hb hml hown hts (c_X6_here (l := l) (G := G) (mo := mo) (u0 := u0) (u1 := u1) (u2 := u2) (u3 := u3) (u4 := u4) (u5 := u5) (sm := sm) (sa := sa) (le := le) (ra := ra197) (fa := fa197) (tx := tx) (hle := by first | assumption | omega) (htx := by first | assumption | omega) (hra := by first | assumption | omega))  gX6_rowRead_X6_here rfl rfl rfl (by decide +kernel) ⟨Nat.le_of_ble_eq_true rfl, Nat.le_of_ble_eq_true rfl⟩ rfl hK hP hD [0, 4] rfl (by decide)  rfl rfl rfl hl.1 rfl (Nat.le_of_ble_eq_true rfl) dX6_rowRead_110 ⟨Nat.le_of_ble_eq_true rfl, Nat.le_of_ble_eq_true rfl⟩) hP hD hS [0, 4] rfl (fun r110 H locs hB110 back hS => ?_)
                    obtain ⟨he110, hP1⟩ := hB110
                    obtain rfl := Eq.symm he110
                    obtain ⟨hP, hD⟩ := back [ob mo 6 [.ref u0, .ref u1, .ref u2, .ref u3, .ref u4, .ref u5, .int (nI sm), .int (nI sa), .int (nI le), .int (nI (sk tx le ra197)), .int (nI fa197)], ar G u5 100 (fun j => nI (tx j))] rfl hP1
                    have hP : va_P G.1 vwCl [ob mo 6 [.ref u0, .ref u1, .ref u2, .ref u3, .ref u4, .ref u5, .int (nI sm), .int (nI sa), .int (nI le), .int (nI (sk tx le ra197)), .int (nI fa197)], ar G u0 481 nw197, ar G u3 800 mk, ar G u4 800 vl, ar G u5 100 (fun j => nI (tx j))] H := hP
                    have hD : va_D A [ob mo 6 [.ref u0, .ref u1, .ref u2, .ref u3, .ref u4, .ref u5, .int (nI sm), .int (nI sa), .int (nI le), .int (nI (sk tx le ra197)), .int (nI fa197)], ar G u0 481 nw197, ar G u3 800 mk, ar G u4 800 vl, ar G u5 100 (fun j => nI (tx j))] := hD
                    refine lv_bipush (v := (nI 44)) hx hb dX6_rowRead_113 (by decide) ?_
                    refine r_icmp_ne (P := (sg tx le (sk tx le ra197)) = 44) (tgt := 122) hx hb dX6_rowRead_115 (by decide) (nI_eq (by omega) (by omega)) (fun cq115 => ?_) (fun cq115 => ?_)
                    · refine lv_iconst (v := (bI false)) hx hb dX6_rowRead_122 (by decide) ?_
                      refine lv_istore (lv' := [(4, .int (bI false)), (3, .int (e9 xr97)), (0, .ref mo), (1, .int (nI 0)), (2, .int (nI (nn σ)))]) hx hb dX6_rowRead_123 hl (by decide) rfl (fun ls hl => ?_)
                      refine lv_aload_n hx hb dX6_rowRead_125 rfl (lv_at hl 2 rfl) ?_
                      refine lv_dup hx hb dX6_rowRead_126 rfl ?_
                      refine va_get (D := G.1) (ci := 6) (v := .int (nI (sk tx le ra197))) (C := RX6) (T := TX6) (N := 11) hx hb hts iqX6_rowRead_X6 hown hK.1 hP 0 rfl rfl 9 (by decide) (hts (.fieldLink RX6 114 "PushedTablesModel" "readAt" "I") (List.mem_of_getElem? (i := 2) rfl)) (fun _ h9 => h9) rfl dX6_rowRead_127 ?_
                      refine lv_iload hx hb dX6_rowRead_130 (lv_at hl 0 rfl) ?_
                      refine r_if_eq (P := false = false) (tgt := 139) hx hb dX6_rowRead_132 (by decide) (bI_eq0) (fun cq132 => ?_) (fun cq132 => ?_)
                      · refine lv_iconst (v := (nI 0)) hx hb dX6_rowRead_139 (by decide) ?_
                        refine r_iadd (v := (sk tx le ra197) + 0) hx hb dX6_rowRead_140 rfl ?_
                        refine va_put (D := G.1) (ci := 6) (v := .int (nI ((sk tx le ra197) + 0))) (ty := .int) (C := RX6) (T := TX6) (N := 11) hx hb hts iqX6_rowRead_X6 tyX6 tyX6_ok nmX6 hown hK.1 hP hD hS 0 rfl rfl 9 (by decide) (hts (.fieldLink RX6 114 "PushedTablesModel" "readAt" "I") (List.mem_of_getElem? (i := 2) rfl)) (fun _ h9 => h9) rfl (by decide +kernel) rfl rfl (Nat.le_of_ble_eq_true rfl) dX6_rowRead_141 (fun H locs hP hD hS => ?_)
                        have hP : va_P G.1 vwCl [ob mo 6 [.ref u0, .ref u1, .ref u2, .ref u3, .ref u4, .ref u5, .int (nI sm), .int (nI sa), .int (nI le), .int (nI ((sk tx le ra197) + 0)), .int (nI fa197)], ar G u0 481 nw197, ar G u3 800 mk, ar G u4 800 vl, ar G u5 100 (fun j => nI (tx j))] H := hP
                        have hD : va_D A [ob mo 6 [.ref u0, .ref u1, .ref u2, .ref u3, .ref u4, .ref u5, .int (nI sm), .int (nI sa), .int (nI le), .int (nI ((sk tx le ra197) + 0)), .int (nI fa197)], ar G u0 481 nw197, ar G u3 800 mk, ar G u4 800 vl, ar G u5 100 (fun j => nI (tx j))] := hD
                        refine lv_goto (tgt := 89) hx hb dX6_rowRead_144 (by decide) ?_
                        exact ih89 false (e9 xr97) xr97 ((sk tx le ra197) + 0) fa197 nw197 (va_up tvx (tr * 16 + xr97) (enO tx le (dfV tx le ra) bf2 p9).2.2.2) (by omega) (by omega) (by omega) ((e9_n cq104).trans (e1_n cq104).symm) (hxb97) (up_all (P := fun z => z < 100) htvx q5) (by have h9 := q4; rw [rwS_ch (tv := tvx) (r := tr) (by omega)] at h9; exact h9) (fun z => Bool.noConfusion z) (fun _ => by simp only [Nat.add_zero, sk_sk]; exact hIt hm91 1 _ (ens_end hEN cq115)) _ _ hP hD hS ls (lv_sub hl [2, 3, 4, 1, 0] rfl)
                      · exact absurd rfl cq132
                    · have sp97 := sg_pos (t := tx) (L := le) (p := sk tx le ra197) (by omega)
                      refine lv_iconst (v := (bI true)) hx hb dX6_rowRead_118 (by decide) ?_
                      refine lv_goto (tgt := 123) hx hb dX6_rowRead_119 (by decide) ?_
                      refine lv_istore (lv' := [(4, .int (bI true)), (3, .int (e9 xr97)), (0, .ref mo), (1, .int (nI 0)), (2, .int (nI (nn σ)))]) hx hb dX6_rowRead_123 hl (by decide) rfl (fun ls hl => ?_)
                      refine lv_aload_n hx hb dX6_rowRead_125 rfl (lv_at hl 2 rfl) ?_
                      refine lv_dup hx hb dX6_rowRead_126 rfl ?_
                      refine va_get (D := G.1) (ci := 6) (v := .int (nI (sk tx le ra197))) (C := RX6) (T := TX6) (N := 11) hx hb hts iqX6_rowRead_X6 hown hK.1 hP 0 rfl rfl 9 (by decide) (hts (.fieldLink RX6 114 "PushedTablesModel" "readAt" "I") (List.mem_of_getElem? (i := 2) rfl)) (fun _ h9 => h9) rfl dX6_rowRead_127 ?_
                      refine lv_iload hx hb dX6_rowRead_130 (lv_at hl 0 rfl) ?_
                      refine r_if_eq (P := true = false) (tgt := 139) hx hb dX6_rowRead_132 (by decide) (bI_eq0) (fun cq132 => ?_) (fun cq132 => ?_)
                      · exact absurd cq132 (by decide)
                      · refine lv_iconst (v := (nI 1)) hx hb dX6_rowRead_135 (by decide) ?_
                        refine lv_goto (tgt := 140) hx hb dX6_rowRead_136 (by decide) ?_
                        refine r_iadd (v := (sk tx le ra197) + 1) hx hb dX6_rowRead_140 rfl ?_
                        refine va_put (D := G.1) (ci := 6) (v := .int (nI ((sk tx le ra197) + 1))) (ty := .int) (C := RX6) (T := TX6) (N := 11) hx hb hts iqX6_rowRead_X6 tyX6 tyX6_ok nmX6 hown hK.1 hP hD hS 0 rfl rfl 9 (by decide) (hts (.fieldLink RX6 114 "PushedTablesModel" "readAt" "I") (List.mem_of_getElem? (i := 2) rfl)) (fun _ h9 => h9) rfl (by decide +kernel) rfl rfl (Nat.le_of_ble_eq_true rfl) dX6_rowRead_141 (fun H locs hP hD hS => ?_)
                        have hP : va_P G.1 vwCl [ob mo 6 [.ref u0, .ref u1, .ref u2, .ref u3, .ref u4, .ref u5, .int (nI sm), .int (nI sa), .int (nI le), .int (nI ((sk tx le ra197) + 1)), .int (nI fa197)], ar G u0 481 nw197, ar G u3 800 mk, ar G u4 800 vl, ar G u5 100 (fun j => nI (tx j))] H := hP
                        have hD : va_D A [ob mo 6 [.ref u0, .ref u1, .ref u2, .ref u3, .ref u4, .ref u5, .int (nI sm), .int (nI sa), .int (nI le), .int (nI ((sk tx le ra197) + 1)), .int (nI fa197)], ar G u0 481 nw197, ar G u3 800 mk, ar G u4 800 vl, ar G u5 100 (fun j => nI (tx j))] := hD
                        refine lv_goto (tgt := 89) hx hb dX6_rowRead_144 (by decide) ?_
                        exact ih89 true (e9 xr97) xr97 ((sk tx le ra197) + 1) fa197 nw197 (va_up tvx (tr * 16 + xr97) (enO tx le (dfV tx le ra) bf2 p9).2.2.2) (by omega) (by omega) (by omega) ((e9_n cq104).trans (e1_n cq104).symm) (hxb97) (up_all (P := fun z => z < 100) htvx q5) (by have h9 := q4; rw [rwS_ch (tv := tvx) (r := tr) (by omega)] at h9; exact h9) (fun _ n R hn => hIt hm91 (n + 1) R (by rw [ens_c hEN (by omega) cq115]; exact hn)) (fun z => Bool.noConfusion z) _ _ hP hD hS ls (lv_sub hl [2, 3, 4, 1, 0] rfl)
                  · refine lv_iconst (v := (nI 0)) hx hb dX6_rowRead_107 (by decide) ?_
                    exact hret _ _ _ _ _ hS dX6_rowRead_108 (⟨false, nw197, ra197, fa197, mk, vl, rfl, fun _ => by obtain ⟨f1, f2⟩ := hqF97 cq104; obtain ⟨n2, h9⟩ := hIt hm91 1 _ (ens_f (tr3 f1 f2 rfl)); obtain ⟨n3, h8⟩ := rwE_5 (tv := tv) (r := tr) o30 z54 rfl rfl ⟨n2, h9⟩ rfl; exact ⟨n3, _, _, h8, fun _ => rfl, fun z => Bool.noConfusion z⟩, fun z => absurd z cq8, hql97, fun z => Bool.noConfusion z, hP⟩)
            exact L89 ((le + 1 - (sk tx le (sk tx le (dfP tx le ra) + 1))) + 1) true (e1 1000) 1000 (sk tx le (sk tx le (dfP tx le ra) + 1)) fa151 nw168 (fl16 tv tr (dfV tx le ra)) (Nat.lt_succ_self _) (by omega) (by omega) (rfl) (Or.inr rfl) (fl16_lt htv hd100) (by rw [rwS_ad]; exact hq68) (fun _ n R hn => ⟨n, reE_n cq79 hn⟩) (fun z => Bool.noConfusion z) _ _ hP hD hS ls (lv_sub hl [4, 3, 2, 1, 0] rfl)
        · have z54 : ¬ sg tx le (sk tx le (dfP tx le ra)) = 58 := of_decide_eq_false cq54
          rw [if_neg z54] at hqr51
          refine lv_iconst (v := (nI 0)) hx hb dX6_rowRead_57 (by decide) ?_
          exact hret _ _ _ _ _ hS dX6_rowRead_58 (⟨false, nw, ra151, fa151, mk, vl, rfl, fun _ => by obtain ⟨n9, h9⟩ := rwE_2 (tv := tv) (r := tr) o30 z54 rfl rfl; exact ⟨n9, _, _, h9, fun _ => hqf51 z54, fun z => Bool.noConfusion z⟩, fun z => absurd z cq8, hql51, fun z => Bool.noConfusion z, hP⟩)
    · refine lv_aload_n hx hb dX6_rowRead_33 rfl (lv_at hl 0 rfl) ?_
      refine g_I (k_V (q0 := 0) (ci := 6) (n := 0) (As := []) (rest := []) (wc := [ob mo 6 [.ref u0, .ref u1, .ref u2, .ref u3, .ref u4, .ref u5, .int (nI sm), .int (nI sa), .int (nI le), .int (nI ra), .int (nI fa)], ar G u5 100 (fun j => nI (tx j))]) hx hb hml hown hts (c_X6_number (l := l) (G := G) (mo := mo) (u0 := u0) (u1 := u1) (u2 := u2) (u3 := u3) (u4 := u4) (u5 := u5) (sm := sm) (sa := sa) (le := le) (ra := ra) (fa := fa) (tx := tx) (hle := by first | assumption | omega) (htx := by first | assumption | omega) (hra := by first | assumption | omega) (s9 := ra) (hs9 := hsk))  gX6_rowRead_X6_number rfl rfl rfl (by decide +kernel) ⟨Nat.le_of_ble_eq_true rfl, Nat.le_of_ble_eq_true rfl⟩ rfl hK hP hD [0, 4] rfl (by decide)  rfl rfl rfl hl.1 rfl (Nat.le_of_ble_eq_true rfl) dX6_rowRead_34 ⟨Nat.le_of_ble_eq_true rfl, Nat.le_of_ble_eq_true rfl⟩) hP hD hS [0, 4] rfl (fun r34 H locs hB34 back hS => ?_)
      obtain ⟨ra134, fa134, he34, hqr34, hqf34, hql34, hP1⟩ := hB34
      obtain rfl := Eq.symm he34
      obtain ⟨hP, hD⟩ := back [ob mo 6 [.ref u0, .ref u1, .ref u2, .ref u3, .ref u4, .ref u5, .int (nI sm), .int (nI sa), .int (nI le), .int (nI ra134), .int (nI fa134)], ar G u5 100 (fun j => nI (tx j))] rfl hP1
      have hP : va_P G.1 vwCl [ob mo 6 [.ref u0, .ref u1, .ref u2, .ref u3, .ref u4, .ref u5, .int (nI sm), .int (nI sa), .int (nI le), .int (nI ra134), .int (nI fa134)], ar G u0 481 nw, ar G u3 800 mk, ar G u4 800 vl, ar G u5 100 (fun j => nI (tx j))] H := hP
      have hD : va_D A [ob mo 6 [.ref u0, .ref u1, .ref u2, .ref u3, .ref u4, .ref u5, .int (nI sm), .int (nI sa), .int (nI le), .int (nI ra134), .int (nI fa134)], ar G u0 481 nw, ar G u3 800 mk, ar G u4 800 vl, ar G u5 100 (fun j => nI (tx j))] := hD
      have b30 := Bool.of_not_eq_false cq30
      have d30 : ra134 = dfP tx le ra := hqr34.trans (dfP_t b30).symm
      subst d30
      have hpr : ra ≤ dfP tx le ra := by rw [dfP_t b30]; exact nmP_ge
      have v30 := dfV_t b30
      have hd100 : dfV tx le ra < 100 := by rw [v30]; exact nmV_lt b30
      have nr30 := nmR_le tx le ra
      refine lv_goto (tgt := 41) hx hb dX6_rowRead_37 (by decide) ?_
      refine lv_istore_n (lv' := [(1, .int (e9 (nmR tx le ra))), (0, .ref mo)]) hx hb dX6_rowRead_41 rfl hl (by decide) rfl (fun ls hl => ?_)
      refine lv_iload_n hx hb dX6_rowRead_42 rfl (lv_at hl 0 rfl) ?_
      refine lv_bipush (v := (e9 1000)) hx hb dX6_rowRead_43 (by decide) ?_
      refine r_icmp_eq (P := (nmR tx le ra) = 1000) (tgt := 57) hx hb dX6_rowRead_45 (by decide) (e9_inj (by omega) (by omega)) (fun cq45 => ?_) (fun cq45 => ?_)
      · refine lv_iconst (v := (nI 0)) hx hb dX6_rowRead_57 (by decide) ?_
        exact hret _ _ _ _ _ hS dX6_rowRead_58 (⟨false, nw, dfP tx le ra, fa134, mk, vl, rfl, fun _ => ⟨0, _, _, rwE_1 (dfO_n b30 (nmR_eq cq45)), fun _ => (hqf34 (nmR_eq cq45)).trans (dfP_t b30).symm, fun z => Bool.noConfusion z⟩, fun z => absurd z cq8, by omega, fun z => Bool.noConfusion z, hP⟩)
      · have o45 := nmR_ne cq45
        have o30 := dfO_t o45
        refine lv_aload_n hx hb dX6_rowRead_48 rfl (lv_at hl 1 rfl) ?_
        refine lv_bipush (v := (nI 58)) hx hb dX6_rowRead_49 (by decide) ?_
        refine g_I (k_V (q0 := 0) (ci := 6) (n := 1) (As := [.int (nI 58)]) (rest := []) (wc := [ob mo 6 [.ref u0, .ref u1, .ref u2, .ref u3, .ref u4, .ref u5, .int (nI sm), .int (nI sa), .int (nI le), .int (nI (dfP tx le ra)), .int (nI fa134)], ar G u5 100 (fun j => nI (tx j))]) hx hb hml hown hts (c_X6_sign (l := l) (G := G) (mo := mo) (u0 := u0) (u1 := u1) (u2 := u2) (u3 := u3) (u4 := u4) (u5 := u5) (sm := sm) (sa := sa) (le := le) (ra := (dfP tx le ra)) (fa := fa134) (tx := tx) (hle := by first | assumption | omega) (htx := by first | assumption | omega) (hra := by first | assumption | omega) (wc := 58) (hw0 := by first | assumption | omega) (hw := by first | assumption | omega))  gX6_rowRead_X6_sign rfl rfl rfl (by decide +kernel) ⟨Nat.le_of_ble_eq_true rfl, Nat.le_of_ble_eq_true rfl⟩ rfl hK hP hD [0, 4] rfl (by decide)  rfl rfl rfl hl.1 rfl (Nat.le_of_ble_eq_true rfl) dX6_rowRead_51 ⟨Nat.le_of_ble_eq_true rfl, Nat.le_of_ble_eq_true rfl⟩) hP hD hS [0, 4] rfl (fun r51 H locs hB51 back hS => ?_)
        obtain ⟨ra151, fa151, he51, hqr51, hqf51, hql51, hP1⟩ := hB51
        obtain rfl := Eq.symm he51
        obtain ⟨hP, hD⟩ := back [ob mo 6 [.ref u0, .ref u1, .ref u2, .ref u3, .ref u4, .ref u5, .int (nI sm), .int (nI sa), .int (nI le), .int (nI ra151), .int (nI fa151)], ar G u5 100 (fun j => nI (tx j))] rfl hP1
        have hP : va_P G.1 vwCl [ob mo 6 [.ref u0, .ref u1, .ref u2, .ref u3, .ref u4, .ref u5, .int (nI sm), .int (nI sa), .int (nI le), .int (nI ra151), .int (nI fa151)], ar G u0 481 nw, ar G u3 800 mk, ar G u4 800 vl, ar G u5 100 (fun j => nI (tx j))] H := hP
        have hD : va_D A [ob mo 6 [.ref u0, .ref u1, .ref u2, .ref u3, .ref u4, .ref u5, .int (nI sm), .int (nI sa), .int (nI le), .int (nI ra151), .int (nI fa151)], ar G u0 481 nw, ar G u3 800 mk, ar G u4 800 vl, ar G u5 100 (fun j => nI (tx j))] := hD
        refine r_if_ne (P := (decide (sg tx le (sk tx le (dfP tx le ra)) = 58)) = false) (tgt := 59) hx hb dX6_rowRead_54 (by decide) (bI_eq0) (fun cq54 => ?_) (fun cq54 => ?_)
        · have z54 : sg tx le (sk tx le (dfP tx le ra)) = 58 := of_decide_eq_true (Bool.of_not_eq_false cq54)
          rw [if_pos z54] at hqr51
          subst hqr51
          have skg54 := sk_ge tx le (dfP tx le ra)
          have sgb := sg_lt htx le (sk tx le (sk tx le (dfP tx le ra) + 1))
          have skg74 := sk_ge tx le (sk tx le (dfP tx le ra) + 1)
          have skl74 := sk_le (t := tx) hql51
          refine lv_aload_n hx hb dX6_rowRead_59 rfl (lv_at hl 1 rfl) ?_
          refine va_get (D := G.1) (ci := 6) (v := .ref u0) (C := RX6) (T := TX6) (N := 11) hx hb hts iqX6_rowRead_X6 hown hK.1 hP 0 rfl rfl 0 (by decide) (hts (.fieldLink RX6 7 "PushedTablesModel" "now" "[I") (List.mem_of_getElem? (i := 1) rfl)) (fun _ h9 => h9) rfl dX6_rowRead_60 ?_
          refine lv_iconst (v := (nI 0)) hx hb dX6_rowRead_63 (by decide) ?_
          refine r_iald (e1 := 0) (v := (nI (nn σ))) hx hb hK.1 hP 1 0 rfl rfl (by omega) (by first | decide | assumption) (hR.n) dX6_rowRead_64 ?_
          refine lv_istore_n (lv' := [(2, .int (nI (nn σ))), (1, .int (e9 (nmR tx le ra))), (0, .ref mo)]) hx hb dX6_rowRead_65 rfl hl (by decide) rfl (fun ls hl => ?_)
          refine lv_aload_n hx hb dX6_rowRead_66 rfl (lv_at hl 2 rfl) ?_
          refine lv_iload_n hx hb dX6_rowRead_67 rfl (lv_at hl 1 rfl) ?_
          refine r_top (y := (nI (dfV tx le ra))) ((congrArg e9 (nmR_t o45)).trans ((e9_n (by have := nmV_lt b30; omega)).trans (congrArg nI v30.symm))) ?_
          refine g_V (k_V (q0 := 0) (ci := 6) (n := 1) (As := [.int (nI (dfV tx le ra))]) (rest := []) (wc := [ob mo 6 [.ref u0, .ref u1, .ref u2, .ref u3, .ref u4, .ref u5, .int (nI sm), .int (nI sa), .int (nI le), .int (nI (sk tx le (dfP tx le ra) + 1)), .int (nI fa151)], ar G u0 481 nw]) hx hb hml hown hts (c_X6_adds (l := l) (G := G) (mo := mo) (u0 := u0) (u1 := u1) (u2 := u2) (u3 := u3) (u4 := u4) (u5 := u5) (sm := sm) (sa := sa) (le := le) (ra := (sk tx le (dfP tx le ra) + 1)) (fa := fa151) (σ := σ) (nw := nw) (hR := hR) (hB := hB) (v := dfV tx le ra) (hn := by first | assumption | omega))  gX6_rowRead_X6_adds rfl rfl rfl (by decide +kernel) ⟨Nat.le_of_ble_eq_true rfl, Nat.le_of_ble_eq_true rfl⟩ rfl hK hP hD [0, 1] rfl (by decide)  rfl rfl rfl hl.1 rfl (Nat.le_of_ble_eq_true rfl) dX6_rowRead_68 ⟨Nat.le_of_ble_eq_true rfl, Nat.le_of_ble_eq_true rfl⟩) hP hD hS [0, 1] rfl (fun H locs hB68 back hS => ?_)
          obtain ⟨nw168, hq68, hP1⟩ := hB68
          obtain ⟨hP, hD⟩ := back [ob mo 6 [.ref u0, .ref u1, .ref u2, .ref u3, .ref u4, .ref u5, .int (nI sm), .int (nI sa), .int (nI le), .int (nI (sk tx le (dfP tx le ra) + 1)), .int (nI fa151)], ar G u0 481 nw168] rfl hP1
          have hP : va_P G.1 vwCl [ob mo 6 [.ref u0, .ref u1, .ref u2, .ref u3, .ref u4, .ref u5, .int (nI sm), .int (nI sa), .int (nI le), .int (nI (sk tx le (dfP tx le ra) + 1)), .int (nI fa151)], ar G u0 481 nw168, ar G u3 800 mk, ar G u4 800 vl, ar G u5 100 (fun j => nI (tx j))] H := hP
          have hD : va_D A [ob mo 6 [.ref u0, .ref u1, .ref u2, .ref u3, .ref u4, .ref u5, .int (nI sm), .int (nI sa), .int (nI le), .int (nI (sk tx le (dfP tx le ra) + 1)), .int (nI fa151)], ar G u0 481 nw168, ar G u3 800 mk, ar G u4 800 vl, ar G u5 100 (fun j => nI (tx j))] := hD
          refine lv_iconst (v := (e1 1000)) hx hb dX6_rowRead_71 (by decide) ?_
          refine lv_istore_n (lv' := [(3, .int (e1 1000)), (2, .int (nI (nn σ))), (1, .int (e9 (nmR tx le ra))), (0, .ref mo)]) hx hb dX6_rowRead_72 rfl hl (by decide) rfl (fun ls hl => ?_)
          refine lv_aload_n hx hb dX6_rowRead_73 rfl (lv_at hl 3 rfl) ?_
          refine g_I (k_V (q0 := 0) (ci := 6) (n := 0) (As := []) (rest := []) (wc := [ob mo 6 [.ref u0, .ref u1, .ref u2, .ref u3, .ref u4, .ref u5, .int (nI sm), .int (nI sa), .int (nI le), .int (nI (sk tx le (dfP tx le ra) + 1)), .int (nI fa151)], ar G u5 100 (fun j => nI (tx j))]) hx hb hml hown hts (c_X6_here (l := l) (G := G) (mo := mo) (u0 := u0) (u1 := u1) (u2 := u2) (u3 := u3) (u4 := u4) (u5 := u5) (sm := sm) (sa := sa) (le := le) (ra := (sk tx le (dfP tx le ra) + 1)) (fa := fa151) (tx := tx) (hle := by first | assumption | omega) (htx := by first | assumption | omega) (hra := by first | assumption | omega))  gX6_rowRead_X6_here rfl rfl rfl (by decide +kernel) ⟨Nat.le_of_ble_eq_true rfl, Nat.le_of_ble_eq_true rfl⟩ rfl hK hP hD [0, 4] rfl (by decide)  rfl rfl rfl hl.1 rfl (Nat.le_of_ble_eq_true rfl) dX6_rowRead_74 ⟨Nat.le_of_ble_eq_true rfl, Nat.le_of_ble_eq_true rfl⟩) hP hD hS [0, 4] rfl (fun r74 H locs hB74 back hS => ?_)
          obtain ⟨he74, hP1⟩ := hB74
          obtain rfl := Eq.symm he74
          obtain ⟨hP, hD⟩ := back [ob mo 6 [.ref u0, .ref u1, .ref u2, .ref u3, .ref u4, .ref u5, .int (nI sm), .int (nI sa), .int (nI le), .int (nI (sk tx le (sk tx le (dfP tx le ra) + 1))), .int (nI fa151)], ar G u5 100 (fun j => nI (tx j))] rfl hP1
          have hP : va_P G.1 vwCl [ob mo 6 [.ref u0, .ref u1, .ref u2, .ref u3, .ref u4, .ref u5, .int (nI sm), .int (nI sa), .int (nI le), .int (nI (sk tx le (sk tx le (dfP tx le ra) + 1))), .int (nI fa151)], ar G u0 481 nw168, ar G u3 800 mk, ar G u4 800 vl, ar G u5 100 (fun j => nI (tx j))] H := hP
          have hD : va_D A [ob mo 6 [.ref u0, .ref u1, .ref u2, .ref u3, .ref u4, .ref u5, .int (nI sm), .int (nI sa), .int (nI le), .int (nI (sk tx le (sk tx le (dfP tx le ra) + 1))), .int (nI fa151)], ar G u0 481 nw168, ar G u3 800 mk, ar G u4 800 vl, ar G u5 100 (fun j => nI (tx j))] := hD
          refine lv_bipush (v := (nI 59)) hx hb dX6_rowRead_77 (by decide) ?_
          refine r_icmp_eq (P := (sg tx le (sk tx le (sk tx le (dfP tx le ra) + 1))) = 59) (tgt := 86) hx hb dX6_rowRead_79 (by decide) (nI_eq (by omega) (by omega)) (fun cq79 => ?_) (fun cq79 => ?_)
          · refine lv_iconst (v := (bI false)) hx hb dX6_rowRead_86 (by decide) ?_
            refine lv_istore (lv' := [(4, .int (bI false)), (3, .int (e1 1000)), (2, .int (nI (nn σ))), (1, .int (e9 (nmR tx le ra))), (0, .ref mo)]) hx hb dX6_rowRead_87 hl (by decide) rfl (fun ls hl => ?_)
            have L89 : ∀ (fu : Nat) (m9 : Bool) (cv : Int32) (bf2 : Nat) (p9 : Nat) (f9 : Nat) (nwx : Nat → Int32) (tvx : Nat → Nat), le + 1 - p9 < fu → p9 ≤ le → sk tx le (dfP tx le ra) + 1 ≤ p9 → cv = e1 bf2 → bf2 < 16 ∨ bf2 = 1000 → (∀ k, tvx k < 100) → Rel (rwS σ (dfV tx le ra) (fun c => tvx (tr * 16 + c))) nwx → (m9 = true → ∀ n R, ens tx le (dfV tx le ra) tr n bf2 p9 tvx = some R → ∃ n2, reE tx le (dfV tx le ra) tr n2 (sk tx le (dfP tx le ra) + 1) (fl16 tv tr (dfV tx le ra)) = some R) → (m9 = false → ∃ n, reE tx le (dfV tx le ra) tr n (sk tx le (dfP tx le ra) + 1) (fl16 tv tr (dfV tx le ra)) = some (decide (sg tx le (sk tx le p9) = 59), (if sg tx le (sk tx le p9) = 59 then sk tx le p9 + 1 else sk tx le p9), tvx)) → ∀ (H : Heap) (locs : List Loc), va_P G.1 vwCl [ob mo 6 [.ref u0, .ref u1, .ref u2, .ref u3, .ref u4, .ref u5, .int (nI sm), .int (nI sa), .int (nI le), .int (nI p9), .int (nI f9)], ar G u0 481 nwx, ar G u3 800 mk, ar G u4 800 vl, ar G u5 100 (fun j => nI (tx j))] H → va_D A [ob mo 6 [.ref u0, .ref u1, .ref u2, .ref u3, .ref u4, .ref u5, .int (nI sm), .int (nI sa), .int (nI le), .int (nI p9), .int (nI f9)], ar G u0 481 nwx, ar G u3 800 mk, ar G u4 800 vl, ar G u5 100 (fun j => nI (tx j))] → va_S A s.heap H locs → ∀ (ls : Array Slot), lv_has ls 5 [(0, .ref mo), (1, .int (e9 (nmR tx le ra))), (2, .int (nI (nn σ))), (3, .int cv), (4, .int (bI m9))] → W p l e ({ frames := 4, cells := 0, slots := 0, locals := 89 } : Room) s m args below meth cod H locs 0 0 Q (F0 m 89 ls []) := by
              intro fu
              induction fu with
              | zero => intro m9 cv bf2 p9 f9 nwx tvx hm; exact absurd hm (Nat.not_lt_zero _)
              | succ fu ih89 =>
                intro m9 cv bf2 p9 f9 nwx tvx hm89 hp9 hp0 hcv hbf2 htvx hRx hIt hIf H locs hP hD hS ls hl
                have hP : va_P G.1 vwCl [ob mo 6 [.ref u0, .ref u1, .ref u2, .ref u3, .ref u4, .ref u5, .int (nI sm), .int (nI sa), .int (nI le), .int (nI p9), .int (nI f9)], ar G u0 481 nwx, ar G u3 800 mk, ar G u4 800 vl, ar G u5 100 (fun j => nI (tx j))] H := hP
                have hD : va_D A [ob mo 6 [.ref u0, .ref u1, .ref u2, .ref u3, .ref u4, .ref u5, .int (nI sm), .int (nI sa), .int (nI le), .int (nI p9), .int (nI f9)], ar G u0 481 nwx, ar G u3 800 mk, ar G u4 800 vl, ar G u5 100 (fun j => nI (tx j))] := hD
                refine lv_iload hx hb dX6_rowRead_89 (lv_at hl 4 rfl) ?_
                refine r_if_eq (P := m9 = false) (tgt := 147) hx hb dX6_rowRead_91 (by decide) (bI_eq0) (fun cq91 => ?_) (fun cq91 => ?_)
                · refine lv_aload_n hx hb dX6_rowRead_147 rfl (lv_at hl 0 rfl) ?_
                  refine lv_bipush (v := (nI 59)) hx hb dX6_rowRead_148 (by decide) ?_
                  refine g_I (k_V (q0 := 0) (ci := 6) (n := 1) (As := [.int (nI 59)]) (rest := []) (wc := [ob mo 6 [.ref u0, .ref u1, .ref u2, .ref u3, .ref u4, .ref u5, .int (nI sm), .int (nI sa), .int (nI le), .int (nI p9), .int (nI f9)], ar G u5 100 (fun j => nI (tx j))]) hx hb hml hown hts (c_X6_sign (l := l) (G := G) (mo := mo) (u0 := u0) (u1 := u1) (u2 := u2) (u3 := u3) (u4 := u4) (u5 := u5) (sm := sm) (sa := sa) (le := le) (ra := p9) (fa := f9) (tx := tx) (hle := by first | assumption | omega) (htx := by first | assumption | omega) (hra := by first | assumption | omega) (wc := 59) (hw0 := by first | assumption | omega) (hw := by first | assumption | omega))  gX6_rowRead_X6_sign rfl rfl rfl (by decide +kernel) ⟨Nat.le_of_ble_eq_true rfl, Nat.le_of_ble_eq_true rfl⟩ rfl hK hP hD [0, 4] rfl (by decide)  rfl rfl rfl hl.1 rfl (Nat.le_of_ble_eq_true rfl) dX6_rowRead_150 ⟨Nat.le_of_ble_eq_true rfl, Nat.le_of_ble_eq_true rfl⟩) hP hD hS [0, 4] rfl (fun r150 H locs hB150 back hS => ?_)
                  obtain ⟨ra1150, fa1150, he150, hqr150, hqf150, hql150, hP1⟩ := hB150
                  obtain rfl := Eq.symm he150
                  obtain ⟨hP, hD⟩ := back [ob mo 6 [.ref u0, .ref u1, .ref u2, .ref u3, .ref u4, .ref u5, .int (nI sm), .int (nI sa), .int (nI le), .int (nI ra1150), .int (nI fa1150)], ar G u5 100 (fun j => nI (tx j))] rfl hP1
                  have hP : va_P G.1 vwCl [ob mo 6 [.ref u0, .ref u1, .ref u2, .ref u3, .ref u4, .ref u5, .int (nI sm), .int (nI sa), .int (nI le), .int (nI ra1150), .int (nI fa1150)], ar G u0 481 nwx, ar G u3 800 mk, ar G u4 800 vl, ar G u5 100 (fun j => nI (tx j))] H := hP
                  have hD : va_D A [ob mo 6 [.ref u0, .ref u1, .ref u2, .ref u3, .ref u4, .ref u5, .int (nI sm), .int (nI sa), .int (nI le), .int (nI ra1150), .int (nI fa1150)], ar G u0 481 nwx, ar G u3 800 mk, ar G u4 800 vl, ar G u5 100 (fun j => nI (tx j))] := hD
                  refine r_if_ne (P := (decide (sg tx le (sk tx le p9) = 59)) = false) (tgt := 158) hx hb dX6_rowRead_153 (by decide) (bI_eq0) (fun cq153 => ?_) (fun cq153 => ?_)
                  · have z153 : sg tx le (sk tx le p9) = 59 := of_decide_eq_true (Bool.of_not_eq_false cq153)
                    rw [if_pos z153] at hqr150
                    have skg153 := sk_ge tx le p9
                    have hBx : Bd (rwS σ (dfV tx le ra) (fun c => tvx (tr * 16 + c))) := Bd_rwS hB (by omega) hd100 (fun c => htvx _)
                    obtain ⟨hF1, hF2⟩ := hF (dfV tx le ra) (fun c => tvx (tr * 16 + c)) hd100 (fun c => htvx _) (by omega)
                    refine lv_aload_n hx hb dX6_rowRead_158 rfl (lv_at hl 0 rfl) ?_
                    refine lv_iload_n hx hb dX6_rowRead_159 rfl (lv_at hl 2 rfl) ?_
                    refine g_V (k_V (q0 := 0) (ci := 6) (n := 1) (As := [.int (nI (nn σ))]) (rest := []) (wc := [ob mo 6 [.ref u0, .ref u1, .ref u2, .ref u3, .ref u4, .ref u5, .int (nI sm), .int (nI sa), .int (nI le), .int (nI ra1150), .int (nI fa1150)], ar G u0 481 nwx, ar G u3 800 mk, ar G u4 800 vl]) hx hb hml hown hts (c_X6_forms (l := l) (G := G) (mo := mo) (u0 := u0) (u1 := u1) (u2 := u2) (u3 := u3) (u4 := u4) (u5 := u5) (sm := sm) (sa := sa) (le := le) (ra := ra1150) (fa := fa1150) (σ := (rwS σ (dfV tx le ra) (fun c => tvx (tr * 16 + c)))) (nw := nwx) (hR := hRx) (hB := hBx) (hT1 := hF1) (r := nn σ) (hr := (Nat.lt_succ_self _)) (hfr := hF2) (mk := mk) (vl := vl))  gX6_rowRead_X6_forms rfl rfl rfl (by decide +kernel) ⟨Nat.le_of_ble_eq_true rfl, Nat.le_of_ble_eq_true rfl⟩ rfl hK hP hD [0, 1, 2, 3] rfl (by decide)  rfl rfl rfl hl.1 rfl (Nat.le_of_ble_eq_true rfl) dX6_rowRead_160 ⟨Nat.le_of_ble_eq_true rfl, Nat.le_of_ble_eq_true rfl⟩) hP hD hS [0, 1, 2, 3] rfl (fun H locs hB160 back hS => ?_)
                    obtain ⟨nw1160, mk1160, vl1160, hq160, hP1⟩ := hB160
                    obtain ⟨hP, hD⟩ := back [ob mo 6 [.ref u0, .ref u1, .ref u2, .ref u3, .ref u4, .ref u5, .int (nI sm), .int (nI sa), .int (nI le), .int (nI ra1150), .int (nI fa1150)], ar G u0 481 nw1160, ar G u3 800 mk1160, ar G u4 800 vl1160] rfl hP1
                    have hP : va_P G.1 vwCl [ob mo 6 [.ref u0, .ref u1, .ref u2, .ref u3, .ref u4, .ref u5, .int (nI sm), .int (nI sa), .int (nI le), .int (nI ra1150), .int (nI fa1150)], ar G u0 481 nw1160, ar G u3 800 mk1160, ar G u4 800 vl1160, ar G u5 100 (fun j => nI (tx j))] H := hP
                    have hD : va_D A [ob mo 6 [.ref u0, .ref u1, .ref u2, .ref u3, .ref u4, .ref u5, .int (nI sm), .int (nI sa), .int (nI le), .int (nI ra1150), .int (nI fa1150)], ar G u0 481 nw1160, ar G u3 800 mk1160, ar G u4 800 vl1160, ar G u5 100 (fun j => nI (tx j))] := hD
                    refine lv_iconst (v := (nI 1)) hx hb dX6_rowRead_163 (by decide) ?_
                    exact hret _ _ _ _ _ hS dX6_rowRead_164 (⟨true, nw1160, ra1150, fa1150, mk1160, vl1160, rfl, fun _ => by obtain ⟨n2, h9⟩ := hIf cq91; rw [decide_eq_true z153, if_pos z153] at h9; obtain ⟨n3, h8⟩ := rwE_5 (tv := tv) (r := tr) o30 z54 rfl rfl ⟨n2, h9⟩ rfl; exact ⟨n3, _, _, h8, fun z => Bool.noConfusion z, fun _ => ⟨hqr150, htvx, hq160⟩⟩, fun z => absurd z cq8, hql150, fun _ => by omega, hP⟩)
                  · have z153 : ¬ sg tx le (sk tx le p9) = 59 := of_decide_eq_false cq153
                    refine lv_iconst (v := (nI 0)) hx hb dX6_rowRead_156 (by decide) ?_
                    exact hret _ _ _ _ _ hS dX6_rowRead_157 (⟨false, nwx, ra1150, fa1150, mk, vl, rfl, fun _ => by obtain ⟨n2, h9⟩ := hIf cq91; rw [decide_eq_false z153, if_neg z153] at h9; obtain ⟨n3, h8⟩ := rwE_5 (tv := tv) (r := tr) o30 z54 rfl rfl ⟨n2, h9⟩ rfl; exact ⟨n3, _, _, h8, fun _ => hqf150 z153, fun z => Bool.noConfusion z⟩, fun z => absurd z cq8, hql150, fun z => Bool.noConfusion z, hP⟩)
                · have hm91 := Bool.of_not_eq_false cq91
                  have hBx : Bd (rwS σ (dfV tx le ra) (fun c => tvx (tr * 16 + c))) := Bd_rwS hB (by omega) hd100 (fun c => htvx _)
                  refine lv_aload_n hx hb dX6_rowRead_94 rfl (lv_at hl 0 rfl) ?_
                  refine lv_iload_n hx hb dX6_rowRead_95 rfl (lv_at hl 2 rfl) ?_
                  refine lv_iload_n hx hb dX6_rowRead_96 rfl (lv_at hl 3 rfl) ?_
                  refine r_top (y := (e1 bf2)) (hcv) ?_
                  refine g_I (k_V (q0 := 0) (ci := 6) (n := 2) (As := [.int (nI (nn σ)), .int (e1 bf2)]) (rest := []) (wc := [ob mo 6 [.ref u0, .ref u1, .ref u2, .ref u3, .ref u4, .ref u5, .int (nI sm), .int (nI sa), .int (nI le), .int (nI p9), .int (nI f9)], ar G u0 481 nwx, ar G u5 100 (fun j => nI (tx j))]) hx hb hml hown hts (c_X6_entry (l := l) (G := G) (mo := mo) (u0 := u0) (u1 := u1) (u2 := u2) (u3 := u3) (u4 := u4) (u5 := u5) (sm := sm) (sa := sa) (le := le) (ra := p9) (fa := f9) (tx := tx) (hle := by first | assumption | omega) (htx := by first | assumption | omega) (σ := (rwS σ (dfV tx le ra) (fun c => tvx (tr * 16 + c)))) (nw := nwx) (hR := hRx) (hB := hBx) (hra := by first | assumption | omega) (r := nn σ) (bf0 := bf2) (d9 := (dfV tx le ra)) (hr := (Nat.lt_succ_self _)) (hbf := by first | assumption | omega) (hd9 := up_s))  gX6_rowRead_X6_entry rfl rfl rfl (by decide +kernel) ⟨Nat.le_of_ble_eq_true rfl, Nat.le_of_ble_eq_true rfl⟩ rfl hK hP hD [0, 1, 4] rfl (by decide)  rfl rfl rfl hl.1 rfl (Nat.le_of_ble_eq_true rfl) dX6_rowRead_97 ⟨Nat.le_of_ble_eq_true rfl, Nat.le_of_ble_eq_true rfl⟩) hP hD hS [0, 1, 4] rfl (fun r97 H locs hB97 back hS => ?_)
                  obtain ⟨nw197, ra197, fa197, xr97, he97, hqT97, hqF97, hxb97, hql97, hP1⟩ := hB97
                  obtain rfl := Eq.symm he97
                  obtain ⟨hP, hD⟩ := back [ob mo 6 [.ref u0, .ref u1, .ref u2, .ref u3, .ref u4, .ref u5, .int (nI sm), .int (nI sa), .int (nI le), .int (nI ra197), .int (nI fa197)], ar G u0 481 nw197, ar G u5 100 (fun j => nI (tx j))] rfl hP1
                  have hP : va_P G.1 vwCl [ob mo 6 [.ref u0, .ref u1, .ref u2, .ref u3, .ref u4, .ref u5, .int (nI sm), .int (nI sa), .int (nI le), .int (nI ra197), .int (nI fa197)], ar G u0 481 nw197, ar G u3 800 mk, ar G u4 800 vl, ar G u5 100 (fun j => nI (tx j))] H := hP
                  have hD : va_D A [ob mo 6 [.ref u0, .ref u1, .ref u2, .ref u3, .ref u4, .ref u5, .int (nI sm), .int (nI sa), .int (nI le), .int (nI ra197), .int (nI fa197)], ar G u0 481 nw197, ar G u3 800 mk, ar G u4 800 vl, ar G u5 100 (fun j => nI (tx j))] := hD
                  refine lv_istore_n (lv' := [(3, .int (e9 xr97)), (0, .ref mo), (1, .int (e9 (nmR tx le ra))), (2, .int (nI (nn σ))), (4, .int (bI m9))]) hx hb dX6_rowRead_100 rfl hl (by decide) rfl (fun ls hl => ?_)
                  refine lv_iload_n hx hb dX6_rowRead_101 rfl (lv_at hl 0 rfl) ?_
                  refine lv_bipush (v := (e9 1000)) hx hb dX6_rowRead_102 (by decide) ?_
                  refine r_icmp_ne (P := xr97 = 1000) (tgt := 109) hx hb dX6_rowRead_104 (by decide) (e9_inj (by omega) (by omega)) (fun cq104 => ?_) (fun cq104 => ?_)
                  · obtain ⟨q1, q2, q3, q4, q5, q6⟩ := hqT97 cq104
                    have hEN := tr3 q1 q3 q2
                    have skg97 := sk_ge tx le ra197
                    have skl97 := sk_le (t := tx) hql97
                    have sgb97 := sg_lt htx le (sk tx le ra197)
                    refine lv_aload_n hx hb dX6_rowRead_109 rfl (lv_at hl 1 rfl) ?_
                    refine g_I (k_V (q0 := 0) (ci := 6) (n := 0) (As := []) (rest := []) (wc := [ob mo 6 [.ref u0, .ref u1, .ref u2, .ref u3, .ref u4, .ref u5, .int (nI sm), .int (nI sa), .int (nI le), .int (nI ra197), .int (nI fa197)], ar G u5 100 (fun j => nI (tx j))]) hx hb hml hown hts (c_X6_here (l := l) (G := G) (mo := mo) (u0 := u0) (u1 := u1) (u2 := u2) (u3 := u3) (u4 := u4) (u5 := u5) (sm := sm) (sa := sa) (le := le) (ra := ra197) (fa := fa197) (tx := tx) (hle := by first | assumption | omega) (htx := by first | assumption | omega) (hra := by first | assumption | omega))  gX6_rowRead_X6_here rfl rfl rfl (by decide +kernel) ⟨Nat.le_of_ble_eq_true rfl, Nat.le_of_ble_eq_true rfl⟩ rfl hK hP hD [0, 4] rfl (by decide)  rfl rfl rfl hl.1 rfl (Nat.le_of_ble_eq_true rfl) dX6_rowRead_110 ⟨Nat.le_of_ble_eq_true rfl, Nat.le_of_ble_eq_true rfl⟩) hP hD hS [0, 4] rfl (fun r110 H locs hB110 back hS => ?_)
                    obtain ⟨he110, hP1⟩ := hB110
                    obtain rfl := Eq.symm he110
                    obtain ⟨hP, hD⟩ := back [ob mo 6 [.ref u0, .ref u1, .ref u2, .ref u3, .ref u4, .ref u5, .int (nI sm), .int (nI sa), .int (nI le), .int (nI (sk tx le ra197)), .int (nI fa197)], ar G u5 100 (fun j => nI (tx j))] rfl hP1
                    have hP : va_P G.1 vwCl [ob mo 6 [.ref u0, .ref u1, .ref u2, .ref u3, .ref u4, .ref u5, .int (nI sm), .int (nI sa), .int (nI le), .int (nI (sk tx le ra197)), .int (nI fa197)], ar G u0 481 nw197, ar G u3 800 mk, ar G u4 800 vl, ar G u5 100 (fun j => nI (tx j))] H := hP
                    have hD : va_D A [ob mo 6 [.ref u0, .ref u1, .ref u2, .ref u3, .ref u4, .ref u5, .int (nI sm), .int (nI sa), .int (nI le), .int (nI (sk tx le ra197)), .int (nI fa197)], ar G u0 481 nw197, ar G u3 800 mk, ar G u4 800 vl, ar G u5 100 (fun j => nI (tx j))] := hD
                    refine lv_bipush (v := (nI 44)) hx hb dX6_rowRead_113 (by decide) ?_
                    refine r_icmp_ne (P := (sg tx le (sk tx le ra197)) = 44) (tgt := 122) hx hb dX6_rowRead_115 (by decide) (nI_eq (by omega) (by omega)) (fun cq115 => ?_) (fun cq115 => ?_)
                    · refine lv_iconst (v := (bI false)) hx hb dX6_rowRead_122 (by decide) ?_
                      refine lv_istore (lv' := [(4, .int (bI false)), (3, .int (e9 xr97)), (0, .ref mo), (1, .int (e9 (nmR tx le ra))), (2, .int (nI (nn σ)))]) hx hb dX6_rowRead_123 hl (by decide) rfl (fun ls hl => ?_)
                      refine lv_aload_n hx hb dX6_rowRead_125 rfl (lv_at hl 2 rfl) ?_
                      refine lv_dup hx hb dX6_rowRead_126 rfl ?_
                      refine va_get (D := G.1) (ci := 6) (v := .int (nI (sk tx le ra197))) (C := RX6) (T := TX6) (N := 11) hx hb hts iqX6_rowRead_X6 hown hK.1 hP 0 rfl rfl 9 (by decide) (hts (.fieldLink RX6 114 "PushedTablesModel" "readAt" "I") (List.mem_of_getElem? (i := 2) rfl)) (fun _ h9 => h9) rfl dX6_rowRead_127 ?_
                      refine lv_iload hx hb dX6_rowRead_130 (lv_at hl 0 rfl) ?_
                      refine r_if_eq (P := false = false) (tgt := 139) hx hb dX6_rowRead_132 (by decide) (bI_eq0) (fun cq132 => ?_) (fun cq132 => ?_)
                      · refine lv_iconst (v := (nI 0)) hx hb dX6_rowRead_139 (by decide) ?_
                        refine r_iadd (v := (sk tx le ra197) + 0) hx hb dX6_rowRead_140 rfl ?_
                        refine va_put (D := G.1) (ci := 6) (v := .int (nI ((sk tx le ra197) + 0))) (ty := .int) (C := RX6) (T := TX6) (N := 11) hx hb hts iqX6_rowRead_X6 tyX6 tyX6_ok nmX6 hown hK.1 hP hD hS 0 rfl rfl 9 (by decide) (hts (.fieldLink RX6 114 "PushedTablesModel" "readAt" "I") (List.mem_of_getElem? (i := 2) rfl)) (fun _ h9 => h9) rfl (by decide +kernel) rfl rfl (Nat.le_of_ble_eq_true rfl) dX6_rowRead_141 (fun H locs hP hD hS => ?_)
                        have hP : va_P G.1 vwCl [ob mo 6 [.ref u0, .ref u1, .ref u2, .ref u3, .ref u4, .ref u5, .int (nI sm), .int (nI sa), .int (nI le), .int (nI ((sk tx le ra197) + 0)), .int (nI fa197)], ar G u0 481 nw197, ar G u3 800 mk, ar G u4 800 vl, ar G u5 100 (fun j => nI (tx j))] H := hP
                        have hD : va_D A [ob mo 6 [.ref u0, .ref u1, .ref u2, .ref u3, .ref u4, .ref u5, .int (nI sm), .int (nI sa), .int (nI le), .int (nI ((sk tx le ra197) + 0)), .int (nI fa197)], ar G u0 481 nw197, ar G u3 800 mk, ar G u4 800 vl, ar G u5 100 (fun j => nI (tx j))] := hD
                        refine lv_goto (tgt := 89) hx hb dX6_rowRead_144 (by decide) ?_
                        exact ih89 false (e9 xr97) xr97 ((sk tx le ra197) + 0) fa197 nw197 (va_up tvx (tr * 16 + xr97) (enO tx le (dfV tx le ra) bf2 p9).2.2.2) (by omega) (by omega) (by omega) ((e9_n cq104).trans (e1_n cq104).symm) (hxb97) (up_all (P := fun z => z < 100) htvx q5) (by have h9 := q4; rw [rwS_ch (tv := tvx) (r := tr) (by omega)] at h9; exact h9) (fun z => Bool.noConfusion z) (fun _ => by simp only [Nat.add_zero, sk_sk]; exact hIt hm91 1 _ (ens_end hEN cq115)) _ _ hP hD hS ls (lv_sub hl [2, 3, 4, 1, 0] rfl)
                      · exact absurd rfl cq132
                    · have sp97 := sg_pos (t := tx) (L := le) (p := sk tx le ra197) (by omega)
                      refine lv_iconst (v := (bI true)) hx hb dX6_rowRead_118 (by decide) ?_
                      refine lv_goto (tgt := 123) hx hb dX6_rowRead_119 (by decide) ?_
                      refine lv_istore (lv' := [(4, .int (bI true)), (3, .int (e9 xr97)), (0, .ref mo), (1, .int (e9 (nmR tx le ra))), (2, .int (nI (nn σ)))]) hx hb dX6_rowRead_123 hl (by decide) rfl (fun ls hl => ?_)
                      refine lv_aload_n hx hb dX6_rowRead_125 rfl (lv_at hl 2 rfl) ?_
                      refine lv_dup hx hb dX6_rowRead_126 rfl ?_
                      refine va_get (D := G.1) (ci := 6) (v := .int (nI (sk tx le ra197))) (C := RX6) (T := TX6) (N := 11) hx hb hts iqX6_rowRead_X6 hown hK.1 hP 0 rfl rfl 9 (by decide) (hts (.fieldLink RX6 114 "PushedTablesModel" "readAt" "I") (List.mem_of_getElem? (i := 2) rfl)) (fun _ h9 => h9) rfl dX6_rowRead_127 ?_
                      refine lv_iload hx hb dX6_rowRead_130 (lv_at hl 0 rfl) ?_
                      refine r_if_eq (P := true = false) (tgt := 139) hx hb dX6_rowRead_132 (by decide) (bI_eq0) (fun cq132 => ?_) (fun cq132 => ?_)
                      · exact absurd cq132 (by decide)
                      · refine lv_iconst (v := (nI 1)) hx hb dX6_rowRead_135 (by decide) ?_
                        refine lv_goto (tgt := 140) hx hb dX6_rowRead_136 (by decide) ?_
                        refine r_iadd (v := (sk tx le ra197) + 1) hx hb dX6_rowRead_140 rfl ?_
                        refine va_put (D := G.1) (ci := 6) (v := .int (nI ((sk tx le ra197) + 1))) (ty := .int) (C := RX6) (T := TX6) (N := 11) hx hb hts iqX6_rowRead_X6 tyX6 tyX6_ok nmX6 hown hK.1 hP hD hS 0 rfl rfl 9 (by decide) (hts (.fieldLink RX6 114 "PushedTablesModel" "readAt" "I") (List.mem_of_getElem? (i := 2) rfl)) (fun _ h9 => h9) rfl (by decide +kernel) rfl rfl (Nat.le_of_ble_eq_true rfl) dX6_rowRead_141 (fun H locs hP hD hS => ?_)
                        have hP : va_P G.1 vwCl [ob mo 6 [.ref u0, .ref u1, .ref u2, .ref u3, .ref u4, .ref u5, .int (nI sm), .int (nI sa), .int (nI le), .int (nI ((sk tx le ra197) + 1)), .int (nI fa197)], ar G u0 481 nw197, ar G u3 800 mk, ar G u4 800 vl, ar G u5 100 (fun j => nI (tx j))] H := hP
                        have hD : va_D A [ob mo 6 [.ref u0, .ref u1, .ref u2, .ref u3, .ref u4, .ref u5, .int (nI sm), .int (nI sa), .int (nI le), .int (nI ((sk tx le ra197) + 1)), .int (nI fa197)], ar G u0 481 nw197, ar G u3 800 mk, ar G u4 800 vl, ar G u5 100 (fun j => nI (tx j))] := hD
                        refine lv_goto (tgt := 89) hx hb dX6_rowRead_144 (by decide) ?_
                        exact ih89 true (e9 xr97) xr97 ((sk tx le ra197) + 1) fa197 nw197 (va_up tvx (tr * 16 + xr97) (enO tx le (dfV tx le ra) bf2 p9).2.2.2) (by omega) (by omega) (by omega) ((e9_n cq104).trans (e1_n cq104).symm) (hxb97) (up_all (P := fun z => z < 100) htvx q5) (by have h9 := q4; rw [rwS_ch (tv := tvx) (r := tr) (by omega)] at h9; exact h9) (fun _ n R hn => hIt hm91 (n + 1) R (by rw [ens_c hEN (by omega) cq115]; exact hn)) (fun z => Bool.noConfusion z) _ _ hP hD hS ls (lv_sub hl [2, 3, 4, 1, 0] rfl)
                  · refine lv_iconst (v := (nI 0)) hx hb dX6_rowRead_107 (by decide) ?_
                    exact hret _ _ _ _ _ hS dX6_rowRead_108 (⟨false, nw197, ra197, fa197, mk, vl, rfl, fun _ => by obtain ⟨f1, f2⟩ := hqF97 cq104; obtain ⟨n2, h9⟩ := hIt hm91 1 _ (ens_f (tr3 f1 f2 rfl)); obtain ⟨n3, h8⟩ := rwE_5 (tv := tv) (r := tr) o30 z54 rfl rfl ⟨n2, h9⟩ rfl; exact ⟨n3, _, _, h8, fun _ => rfl, fun z => Bool.noConfusion z⟩, fun z => absurd z cq8, hql97, fun z => Bool.noConfusion z, hP⟩)
            exact L89 ((le + 1 - (sk tx le (sk tx le (dfP tx le ra) + 1))) + 1) false (e1 1000) 1000 (sk tx le (sk tx le (dfP tx le ra) + 1)) fa151 nw168 (fl16 tv tr (dfV tx le ra)) (Nat.lt_succ_self _) (by omega) (by omega) (rfl) (Or.inr rfl) (fl16_lt htv hd100) (by rw [rwS_ad]; exact hq68) (fun z => Bool.noConfusion z) (fun _ => ⟨0, by rw [sk_sk, decide_eq_true cq79, if_pos cq79]; exact reE_y cq79⟩) _ _ hP hD hS ls (lv_sub hl [4, 3, 2, 1, 0] rfl)
          · refine lv_iconst (v := (bI true)) hx hb dX6_rowRead_82 (by decide) ?_
            refine lv_goto (tgt := 87) hx hb dX6_rowRead_83 (by decide) ?_
            refine lv_istore (lv' := [(4, .int (bI true)), (3, .int (e1 1000)), (2, .int (nI (nn σ))), (1, .int (e9 (nmR tx le ra))), (0, .ref mo)]) hx hb dX6_rowRead_87 hl (by decide) rfl (fun ls hl => ?_)
            have L89 : ∀ (fu : Nat) (m9 : Bool) (cv : Int32) (bf2 : Nat) (p9 : Nat) (f9 : Nat) (nwx : Nat → Int32) (tvx : Nat → Nat), le + 1 - p9 < fu → p9 ≤ le → sk tx le (dfP tx le ra) + 1 ≤ p9 → cv = e1 bf2 → bf2 < 16 ∨ bf2 = 1000 → (∀ k, tvx k < 100) → Rel (rwS σ (dfV tx le ra) (fun c => tvx (tr * 16 + c))) nwx → (m9 = true → ∀ n R, ens tx le (dfV tx le ra) tr n bf2 p9 tvx = some R → ∃ n2, reE tx le (dfV tx le ra) tr n2 (sk tx le (dfP tx le ra) + 1) (fl16 tv tr (dfV tx le ra)) = some R) → (m9 = false → ∃ n, reE tx le (dfV tx le ra) tr n (sk tx le (dfP tx le ra) + 1) (fl16 tv tr (dfV tx le ra)) = some (decide (sg tx le (sk tx le p9) = 59), (if sg tx le (sk tx le p9) = 59 then sk tx le p9 + 1 else sk tx le p9), tvx)) → ∀ (H : Heap) (locs : List Loc), va_P G.1 vwCl [ob mo 6 [.ref u0, .ref u1, .ref u2, .ref u3, .ref u4, .ref u5, .int (nI sm), .int (nI sa), .int (nI le), .int (nI p9), .int (nI f9)], ar G u0 481 nwx, ar G u3 800 mk, ar G u4 800 vl, ar G u5 100 (fun j => nI (tx j))] H → va_D A [ob mo 6 [.ref u0, .ref u1, .ref u2, .ref u3, .ref u4, .ref u5, .int (nI sm), .int (nI sa), .int (nI le), .int (nI p9), .int (nI f9)], ar G u0 481 nwx, ar G u3 800 mk, ar G u4 800 vl, ar G u5 100 (fun j => nI (tx j))] → va_S A s.heap H locs → ∀ (ls : Array Slot), lv_has ls 5 [(0, .ref mo), (1, .int (e9 (nmR tx le ra))), (2, .int (nI (nn σ))), (3, .int cv), (4, .int (bI m9))] → W p l e ({ frames := 4, cells := 0, slots := 0, locals := 89 } : Room) s m args below meth cod H locs 0 0 Q (F0 m 89 ls []) := by
              intro fu
              induction fu with
              | zero => intro m9 cv bf2 p9 f9 nwx tvx hm; exact absurd hm (Nat.not_lt_zero _)
              | succ fu ih89 =>
                intro m9 cv bf2 p9 f9 nwx tvx hm89 hp9 hp0 hcv hbf2 htvx hRx hIt hIf H locs hP hD hS ls hl
                have hP : va_P G.1 vwCl [ob mo 6 [.ref u0, .ref u1, .ref u2, .ref u3, .ref u4, .ref u5, .int (nI sm), .int (nI sa), .int (nI le), .int (nI p9), .int (nI f9)], ar G u0 481 nwx, ar G u3 800 mk, ar G u4 800 vl, ar G u5 100 (fun j => nI (tx j))] H := hP
                have hD : va_D A [ob mo 6 [.ref u0, .ref u1, .ref u2, .ref u3, .ref u4, .ref u5, .int (nI sm), .int (nI sa), .int (nI le), .int (nI p9), .int (nI f9)], ar G u0 481 nwx, ar G u3 800 mk, ar G u4 800 vl, ar G u5 100 (fun j => nI (tx j))] := hD
                refine lv_iload hx hb dX6_rowRead_89 (lv_at hl 4 rfl) ?_
                refine r_if_eq (P := m9 = false) (tgt := 147) hx hb dX6_rowRead_91 (by decide) (bI_eq0) (fun cq91 => ?_) (fun cq91 => ?_)
                · refine lv_aload_n hx hb dX6_rowRead_147 rfl (lv_at hl 0 rfl) ?_
                  refine lv_bipush (v := (nI 59)) hx hb dX6_rowRead_148 (by decide) ?_
                  refine g_I (k_V (q0 := 0) (ci := 6) (n := 1) (As := [.int (nI 59)]) (rest := []) (wc := [ob mo 6 [.ref u0, .ref u1, .ref u2, .ref u3, .ref u4, .ref u5, .int (nI sm), .int (nI sa), .int (nI le), .int (nI p9), .int (nI f9)], ar G u5 100 (fun j => nI (tx j))]) hx hb hml hown hts (c_X6_sign (l := l) (G := G) (mo := mo) (u0 := u0) (u1 := u1) (u2 := u2) (u3 := u3) (u4 := u4) (u5 := u5) (sm := sm) (sa := sa) (le := le) (ra := p9) (fa := f9) (tx := tx) (hle := by first | assumption | omega) (htx := by first | assumption | omega) (hra := by first | assumption | omega) (wc := 59) (hw0 := by first | assumption | omega) (hw := by first | assumption | omega))  gX6_rowRead_X6_sign rfl rfl rfl (by decide +kernel) ⟨Nat.le_of_ble_eq_true rfl, Nat.le_of_ble_eq_true rfl⟩ rfl hK hP hD [0, 4] rfl (by decide)  rfl rfl rfl hl.1 rfl (Nat.le_of_ble_eq_true rfl) dX6_rowRead_150 ⟨Nat.le_of_ble_eq_true rfl, Nat.le_of_ble_eq_true rfl⟩) hP hD hS [0, 4] rfl (fun r150 H locs hB150 back hS => ?_)
                  obtain ⟨ra1150, fa1150, he150, hqr150, hqf150, hql150, hP1⟩ := hB150
                  obtain rfl := Eq.symm he150
                  obtain ⟨hP, hD⟩ := back [ob mo 6 [.ref u0, .ref u1, .ref u2, .ref u3, .ref u4, .ref u5, .int (nI sm), .int (nI sa), .int (nI le), .int (nI ra1150), .int (nI fa1150)], ar G u5 100 (fun j => nI (tx j))] rfl hP1
                  have hP : va_P G.1 vwCl [ob mo 6 [.ref u0, .ref u1, .ref u2, .ref u3, .ref u4, .ref u5, .int (nI sm), .int (nI sa), .int (nI le), .int (nI ra1150), .int (nI fa1150)], ar G u0 481 nwx, ar G u3 800 mk, ar G u4 800 vl, ar G u5 100 (fun j => nI (tx j))] H := hP
                  have hD : va_D A [ob mo 6 [.ref u0, .ref u1, .ref u2, .ref u3, .ref u4, .ref u5, .int (nI sm), .int (nI sa), .int (nI le), .int (nI ra1150), .int (nI fa1150)], ar G u0 481 nwx, ar G u3 800 mk, ar G u4 800 vl, ar G u5 100 (fun j => nI (tx j))] := hD
                  refine r_if_ne (P := (decide (sg tx le (sk tx le p9) = 59)) = false) (tgt := 158) hx hb dX6_rowRead_153 (by decide) (bI_eq0) (fun cq153 => ?_) (fun cq153 => ?_)
                  · have z153 : sg tx le (sk tx le p9) = 59 := of_decide_eq_true (Bool.of_not_eq_false cq153)
                    rw [if_pos z153] at hqr150
                    have skg153 := sk_ge tx le p9
                    have hBx : Bd (rwS σ (dfV tx le ra) (fun c => tvx (tr * 16 + c))) := Bd_rwS hB (by omega) hd100 (fun c => htvx _)
                    obtain ⟨hF1, hF2⟩ := hF (dfV tx le ra) (fun c => tvx (tr * 16 + c)) hd100 (fun c => htvx _) (by omega)
                    refine lv_aload_n hx hb dX6_rowRead_158 rfl (lv_at hl 0 rfl) ?_
                    refine lv_iload_n hx hb dX6_rowRead_159 rfl (lv_at hl 2 rfl) ?_
                    refine g_V (k_V (q0 := 0) (ci := 6) (n := 1) (As := [.int (nI (nn σ))]) (rest := []) (wc := [ob mo 6 [.ref u0, .ref u1, .ref u2, .ref u3, .ref u4, .ref u5, .int (nI sm), .int (nI sa), .int (nI le), .int (nI ra1150), .int (nI fa1150)], ar G u0 481 nwx, ar G u3 800 mk, ar G u4 800 vl]) hx hb hml hown hts (c_X6_forms (l := l) (G := G) (mo := mo) (u0 := u0) (u1 := u1) (u2 := u2) (u3 := u3) (u4 := u4) (u5 := u5) (sm := sm) (sa := sa) (le := le) (ra := ra1150) (fa := fa1150) (σ := (rwS σ (dfV tx le ra) (fun c => tvx (tr * 16 + c)))) (nw := nwx) (hR := hRx) (hB := hBx) (hT1 := hF1) (r := nn σ) (hr := (Nat.lt_succ_self _)) (hfr := hF2) (mk := mk) (vl := vl))  gX6_rowRead_X6_forms rfl rfl rfl (by decide +kernel) ⟨Nat.le_of_ble_eq_true rfl, Nat.le_of_ble_eq_true rfl⟩ rfl hK hP hD [0, 1, 2, 3] rfl (by decide)  rfl rfl rfl hl.1 rfl (Nat.le_of_ble_eq_true rfl) dX6_rowRead_160 ⟨Nat.le_of_ble_eq_true rfl, Nat.le_of_ble_eq_true rfl⟩) hP hD hS [0, 1, 2, 3] rfl (fun H locs hB160 back hS => ?_)
                    obtain ⟨nw1160, mk1160, vl1160, hq160, hP1⟩ := hB160
                    obtain ⟨hP, hD⟩ := back [ob mo 6 [.ref u0, .ref u1, .ref u2, .ref u3, .ref u4, .ref u5, .int (nI sm), .int (nI sa), .int (nI le), .int (nI ra1150), .int (nI fa1150)], ar G u0 481 nw1160, ar G u3 800 mk1160, ar G u4 800 vl1160] rfl hP1
                    have hP : va_P G.1 vwCl [ob mo 6 [.ref u0, .ref u1, .ref u2, .ref u3, .ref u4, .ref u5, .int (nI sm), .int (nI sa), .int (nI le), .int (nI ra1150), .int (nI fa1150)], ar G u0 481 nw1160, ar G u3 800 mk1160, ar G u4 800 vl1160, ar G u5 100 (fun j => nI (tx j))] H := hP
                    have hD : va_D A [ob mo 6 [.ref u0, .ref u1, .ref u2, .ref u3, .ref u4, .ref u5, .int (nI sm), .int (nI sa), .int (nI le), .int (nI ra1150), .int (nI fa1150)], ar G u0 481 nw1160, ar G u3 800 mk1160, ar G u4 800 vl1160, ar G u5 100 (fun j => nI (tx j))] := hD
                    refine lv_iconst (v := (nI 1)) hx hb dX6_rowRead_163 (by decide) ?_
                    exact hret _ _ _ _ _ hS dX6_rowRead_164 (⟨true, nw1160, ra1150, fa1150, mk1160, vl1160, rfl, fun _ => by obtain ⟨n2, h9⟩ := hIf cq91; rw [decide_eq_true z153, if_pos z153] at h9; obtain ⟨n3, h8⟩ := rwE_5 (tv := tv) (r := tr) o30 z54 rfl rfl ⟨n2, h9⟩ rfl; exact ⟨n3, _, _, h8, fun z => Bool.noConfusion z, fun _ => ⟨hqr150, htvx, hq160⟩⟩, fun z => absurd z cq8, hql150, fun _ => by omega, hP⟩)
                  · have z153 : ¬ sg tx le (sk tx le p9) = 59 := of_decide_eq_false cq153
                    refine lv_iconst (v := (nI 0)) hx hb dX6_rowRead_156 (by decide) ?_
                    exact hret _ _ _ _ _ hS dX6_rowRead_157 (⟨false, nwx, ra1150, fa1150, mk, vl, rfl, fun _ => by obtain ⟨n2, h9⟩ := hIf cq91; rw [decide_eq_false z153, if_neg z153] at h9; obtain ⟨n3, h8⟩ := rwE_5 (tv := tv) (r := tr) o30 z54 rfl rfl ⟨n2, h9⟩ rfl; exact ⟨n3, _, _, h8, fun _ => hqf150 z153, fun z => Bool.noConfusion z⟩, fun z => absurd z cq8, hql150, fun z => Bool.noConfusion z, hP⟩)
                · have hm91 := Bool.of_not_eq_false cq91
                  have hBx : Bd (rwS σ (dfV tx le ra) (fun c => tvx (tr * 16 + c))) := Bd_rwS hB (by omega) hd100 (fun c => htvx _)
                  refine lv_aload_n hx hb dX6_rowRead_94 rfl (lv_at hl 0 rfl) ?_
                  refine lv_iload_n hx hb dX6_rowRead_95 rfl (lv_at hl 2 rfl) ?_
                  refine lv_iload_n hx hb dX6_rowRead_96 rfl (lv_at hl 3 rfl) ?_
                  refine r_top (y := (e1 bf2)) (hcv) ?_
                  refine g_I (k_V (q0 := 0) (ci := 6) (n := 2) (As := [.int (nI (nn σ)), .int (e1 bf2)]) (rest := []) (wc := [ob mo 6 [.ref u0, .ref u1, .ref u2, .ref u3, .ref u4, .ref u5, .int (nI sm), .int (nI sa), .int (nI le), .int (nI p9), .int (nI f9)], ar G u0 481 nwx, ar G u5 100 (fun j => nI (tx j))]) hx hb hml hown hts (c_X6_entry (l := l) (G := G) (mo := mo) (u0 := u0) (u1 := u1) (u2 := u2) (u3 := u3) (u4 := u4) (u5 := u5) (sm := sm) (sa := sa) (le := le) (ra := p9) (fa := f9) (tx := tx) (hle := by first | assumption | omega) (htx := by first | assumption | omega) (σ := (rwS σ (dfV tx le ra) (fun c => tvx (tr * 16 + c)))) (nw := nwx) (hR := hRx) (hB := hBx) (hra := by first | assumption | omega) (r := nn σ) (bf0 := bf2) (d9 := (dfV tx le ra)) (hr := (Nat.lt_succ_self _)) (hbf := by first | assumption | omega) (hd9 := up_s))  gX6_rowRead_X6_entry rfl rfl rfl (by decide +kernel) ⟨Nat.le_of_ble_eq_true rfl, Nat.le_of_ble_eq_true rfl⟩ rfl hK hP hD [0, 1, 4] rfl (by decide)  rfl rfl rfl hl.1 rfl (Nat.le_of_ble_eq_true rfl) dX6_rowRead_97 ⟨Nat.le_of_ble_eq_true rfl, Nat.le_of_ble_eq_true rfl⟩) hP hD hS [0, 1, 4] rfl (fun r97 H locs hB97 back hS => ?_)
                  obtain ⟨nw197, ra197, fa197, xr97, he97, hqT97, hqF97, hxb97, hql97, hP1⟩ := hB97
                  obtain rfl := Eq.symm he97
                  obtain ⟨hP, hD⟩ := back [ob mo 6 [.ref u0, .ref u1, .ref u2, .ref u3, .ref u4, .ref u5, .int (nI sm), .int (nI sa), .int (nI le), .int (nI ra197), .int (nI fa197)], ar G u0 481 nw197, ar G u5 100 (fun j => nI (tx j))] rfl hP1
                  have hP : va_P G.1 vwCl [ob mo 6 [.ref u0, .ref u1, .ref u2, .ref u3, .ref u4, .ref u5, .int (nI sm), .int (nI sa), .int (nI le), .int (nI ra197), .int (nI fa197)], ar G u0 481 nw197, ar G u3 800 mk, ar G u4 800 vl, ar G u5 100 (fun j => nI (tx j))] H := hP
                  have hD : va_D A [ob mo 6 [.ref u0, .ref u1, .ref u2, .ref u3, .ref u4, .ref u5, .int (nI sm), .int (nI sa), .int (nI le), .int (nI ra197), .int (nI fa197)], ar G u0 481 nw197, ar G u3 800 mk, ar G u4 800 vl, ar G u5 100 (fun j => nI (tx j))] := hD
                  refine lv_istore_n (lv' := [(3, .int (e9 xr97)), (0, .ref mo), (1, .int (e9 (nmR tx le ra))), (2, .int (nI (nn σ))), (4, .int (bI m9))]) hx hb dX6_rowRead_100 rfl hl (by decide) rfl (fun ls hl => ?_)
                  refine lv_iload_n hx hb dX6_rowRead_101 rfl (lv_at hl 0 rfl) ?_
                  refine lv_bipush (v := (e9 1000)) hx hb dX6_rowRead_102 (by decide) ?_
                  refine r_icmp_ne (P := xr97 = 1000) (tgt := 109) hx hb dX6_rowRead_104 (by decide) (e9_inj (by omega) (by omega)) (fun cq104 => ?_) (fun cq104 => ?_)
                  · obtain ⟨q1, q2, q3, q4, q5, q6⟩ := hqT97 cq104
                    have hEN := tr3 q1 q3 q2
                    have skg97 := sk_ge tx le ra197
                    have skl97 := sk_le (t := tx) hql97
                    have sgb97 := sg_lt htx le (sk tx le ra197)
                    refine lv_aload_n hx hb dX6_rowRead_109 rfl (lv_at hl 1 rfl) ?_
                    refine g_I (k_V (q0 := 0) (ci := 6) (n := 0) (As := []) (rest := []) (wc := [ob mo 6 [.ref u0, .ref u1, .ref u2, .ref u3, .ref u4, .ref u5, .int (nI sm), .int (nI sa), .int (nI le), .int (nI ra197), .int (nI fa197)], ar G u5 100 (fun j => nI (tx j))]) hx hb hml hown hts (c_X6_here (l := l) (G := G) (mo := mo) (u0 := u0) (u1 := u1) (u2 := u2) (u3 := u3) (u4 := u4) (u5 := u5) (sm := sm) (sa := sa) (le := le) (ra := ra197) (fa := fa197) (tx := tx) (hle := by first | assumption | omega) (htx := by first | assumption | omega) (hra := by first | assumption | omega))  gX6_rowRead_X6_here rfl rfl rfl (by decide +kernel) ⟨Nat.le_of_ble_eq_true rfl, Nat.le_of_ble_eq_true rfl⟩ rfl hK hP hD [0, 4] rfl (by decide)  rfl rfl rfl hl.1 rfl (Nat.le_of_ble_eq_true rfl) dX6_rowRead_110 ⟨Nat.le_of_ble_eq_true rfl, Nat.le_of_ble_eq_true rfl⟩) hP hD hS [0, 4] rfl (fun r110 H locs hB110 back hS => ?_)
                    obtain ⟨he110, hP1⟩ := hB110
                    obtain rfl := Eq.symm he110
                    obtain ⟨hP, hD⟩ := back [ob mo 6 [.ref u0, .ref u1, .ref u2, .ref u3, .ref u4, .ref u5, .int (nI sm), .int (nI sa), .int (nI le), .int (nI (sk tx le ra197)), .int (nI fa197)], ar G u5 100 (fun j => nI (tx j))] rfl hP1
                    have hP : va_P G.1 vwCl [ob mo 6 [.ref u0, .ref u1, .ref u2, .ref u3, .ref u4, .ref u5, .int (nI sm), .int (nI sa), .int (nI le), .int (nI (sk tx le ra197)), .int (nI fa197)], ar G u0 481 nw197, ar G u3 800 mk, ar G u4 800 vl, ar G u5 100 (fun j => nI (tx j))] H := hP
                    have hD : va_D A [ob mo 6 [.ref u0, .ref u1, .ref u2, .ref u3, .ref u4, .ref u5, .int (nI sm), .int (nI sa), .int (nI le), .int (nI (sk tx le ra197)), .int (nI fa197)], ar G u0 481 nw197, ar G u3 800 mk, ar G u4 800 vl, ar G u5 100 (fun j => nI (tx j))] := hD
                    refine lv_bipush (v := (nI 44)) hx hb dX6_rowRead_113 (by decide) ?_
                    refine r_icmp_ne (P := (sg tx le (sk tx le ra197)) = 44) (tgt := 122) hx hb dX6_rowRead_115 (by decide) (nI_eq (by omega) (by omega)) (fun cq115 => ?_) (fun cq115 => ?_)
                    · refine lv_iconst (v := (bI false)) hx hb dX6_rowRead_122 (by decide) ?_
                      refine lv_istore (lv' := [(4, .int (bI false)), (3, .int (e9 xr97)), (0, .ref mo), (1, .int (e9 (nmR tx le ra))), (2, .int (nI (nn σ)))]) hx hb dX6_rowRead_123 hl (by decide) rfl (fun ls hl => ?_)
                      refine lv_aload_n hx hb dX6_rowRead_125 rfl (lv_at hl 2 rfl) ?_
                      refine lv_dup hx hb dX6_rowRead_126 rfl ?_
                      refine va_get (D := G.1) (ci := 6) (v := .int (nI (sk tx le ra197))) (C := RX6) (T := TX6) (N := 11) hx hb hts iqX6_rowRead_X6 hown hK.1 hP 0 rfl rfl 9 (by decide) (hts (.fieldLink RX6 114 "PushedTablesModel" "readAt" "I") (List.mem_of_getElem? (i := 2) rfl)) (fun _ h9 => h9) rfl dX6_rowRead_127 ?_
                      refine lv_iload hx hb dX6_rowRead_130 (lv_at hl 0 rfl) ?_
                      refine r_if_eq (P := false = false) (tgt := 139) hx hb dX6_rowRead_132 (by decide) (bI_eq0) (fun cq132 => ?_) (fun cq132 => ?_)
                      · refine lv_iconst (v := (nI 0)) hx hb dX6_rowRead_139 (by decide) ?_
                        refine r_iadd (v := (sk tx le ra197) + 0) hx hb dX6_rowRead_140 rfl ?_
                        refine va_put (D := G.1) (ci := 6) (v := .int (nI ((sk tx le ra197) + 0))) (ty := .int) (C := RX6) (T := TX6) (N := 11) hx hb hts iqX6_rowRead_X6 tyX6 tyX6_ok nmX6 hown hK.1 hP hD hS 0 rfl rfl 9 (by decide) (hts (.fieldLink RX6 114 "PushedTablesModel" "readAt" "I") (List.mem_of_getElem? (i := 2) rfl)) (fun _ h9 => h9) rfl (by decide +kernel) rfl rfl (Nat.le_of_ble_eq_true rfl) dX6_rowRead_141 (fun H locs hP hD hS => ?_)
                        have hP : va_P G.1 vwCl [ob mo 6 [.ref u0, .ref u1, .ref u2, .ref u3, .ref u4, .ref u5, .int (nI sm), .int (nI sa), .int (nI le), .int (nI ((sk tx le ra197) + 0)), .int (nI fa197)], ar G u0 481 nw197, ar G u3 800 mk, ar G u4 800 vl, ar G u5 100 (fun j => nI (tx j))] H := hP
                        have hD : va_D A [ob mo 6 [.ref u0, .ref u1, .ref u2, .ref u3, .ref u4, .ref u5, .int (nI sm), .int (nI sa), .int (nI le), .int (nI ((sk tx le ra197) + 0)), .int (nI fa197)], ar G u0 481 nw197, ar G u3 800 mk, ar G u4 800 vl, ar G u5 100 (fun j => nI (tx j))] := hD
                        refine lv_goto (tgt := 89) hx hb dX6_rowRead_144 (by decide) ?_
                        exact ih89 false (e9 xr97) xr97 ((sk tx le ra197) + 0) fa197 nw197 (va_up tvx (tr * 16 + xr97) (enO tx le (dfV tx le ra) bf2 p9).2.2.2) (by omega) (by omega) (by omega) ((e9_n cq104).trans (e1_n cq104).symm) (hxb97) (up_all (P := fun z => z < 100) htvx q5) (by have h9 := q4; rw [rwS_ch (tv := tvx) (r := tr) (by omega)] at h9; exact h9) (fun z => Bool.noConfusion z) (fun _ => by simp only [Nat.add_zero, sk_sk]; exact hIt hm91 1 _ (ens_end hEN cq115)) _ _ hP hD hS ls (lv_sub hl [2, 3, 4, 1, 0] rfl)
                      · exact absurd rfl cq132
                    · have sp97 := sg_pos (t := tx) (L := le) (p := sk tx le ra197) (by omega)
                      refine lv_iconst (v := (bI true)) hx hb dX6_rowRead_118 (by decide) ?_
                      refine lv_goto (tgt := 123) hx hb dX6_rowRead_119 (by decide) ?_
                      refine lv_istore (lv' := [(4, .int (bI true)), (3, .int (e9 xr97)), (0, .ref mo), (1, .int (e9 (nmR tx le ra))), (2, .int (nI (nn σ)))]) hx hb dX6_rowRead_123 hl (by decide) rfl (fun ls hl => ?_)
                      refine lv_aload_n hx hb dX6_rowRead_125 rfl (lv_at hl 2 rfl) ?_
                      refine lv_dup hx hb dX6_rowRead_126 rfl ?_
                      refine va_get (D := G.1) (ci := 6) (v := .int (nI (sk tx le ra197))) (C := RX6) (T := TX6) (N := 11) hx hb hts iqX6_rowRead_X6 hown hK.1 hP 0 rfl rfl 9 (by decide) (hts (.fieldLink RX6 114 "PushedTablesModel" "readAt" "I") (List.mem_of_getElem? (i := 2) rfl)) (fun _ h9 => h9) rfl dX6_rowRead_127 ?_
                      refine lv_iload hx hb dX6_rowRead_130 (lv_at hl 0 rfl) ?_
                      refine r_if_eq (P := true = false) (tgt := 139) hx hb dX6_rowRead_132 (by decide) (bI_eq0) (fun cq132 => ?_) (fun cq132 => ?_)
                      · exact absurd cq132 (by decide)
                      · refine lv_iconst (v := (nI 1)) hx hb dX6_rowRead_135 (by decide) ?_
                        refine lv_goto (tgt := 140) hx hb dX6_rowRead_136 (by decide) ?_
                        refine r_iadd (v := (sk tx le ra197) + 1) hx hb dX6_rowRead_140 rfl ?_
                        refine va_put (D := G.1) (ci := 6) (v := .int (nI ((sk tx le ra197) + 1))) (ty := .int) (C := RX6) (T := TX6) (N := 11) hx hb hts iqX6_rowRead_X6 tyX6 tyX6_ok nmX6 hown hK.1 hP hD hS 0 rfl rfl 9 (by decide) (hts (.fieldLink RX6 114 "PushedTablesModel" "readAt" "I") (List.mem_of_getElem? (i := 2) rfl)) (fun _ h9 => h9) rfl (by decide +kernel) rfl rfl (Nat.le_of_ble_eq_true rfl) dX6_rowRead_141 (fun H locs hP hD hS => ?_)
                        have hP : va_P G.1 vwCl [ob mo 6 [.ref u0, .ref u1, .ref u2, .ref u3, .ref u4, .ref u5, .int (nI sm), .int (nI sa), .int (nI le), .int (nI ((sk tx le ra197) + 1)), .int (nI fa197)], ar G u0 481 nw197, ar G u3 800 mk, ar G u4 800 vl, ar G u5 100 (fun j => nI (tx j))] H := hP
                        have hD : va_D A [ob mo 6 [.ref u0, .ref u1, .ref u2, .ref u3, .ref u4, .ref u5, .int (nI sm), .int (nI sa), .int (nI le), .int (nI ((sk tx le ra197) + 1)), .int (nI fa197)], ar G u0 481 nw197, ar G u3 800 mk, ar G u4 800 vl, ar G u5 100 (fun j => nI (tx j))] := hD
                        refine lv_goto (tgt := 89) hx hb dX6_rowRead_144 (by decide) ?_
                        exact ih89 true (e9 xr97) xr97 ((sk tx le ra197) + 1) fa197 nw197 (va_up tvx (tr * 16 + xr97) (enO tx le (dfV tx le ra) bf2 p9).2.2.2) (by omega) (by omega) (by omega) ((e9_n cq104).trans (e1_n cq104).symm) (hxb97) (up_all (P := fun z => z < 100) htvx q5) (by have h9 := q4; rw [rwS_ch (tv := tvx) (r := tr) (by omega)] at h9; exact h9) (fun _ n R hn => hIt hm91 (n + 1) R (by rw [ens_c hEN (by omega) cq115]; exact hn)) (fun z => Bool.noConfusion z) _ _ hP hD hS ls (lv_sub hl [2, 3, 4, 1, 0] rfl)
                  · refine lv_iconst (v := (nI 0)) hx hb dX6_rowRead_107 (by decide) ?_
                    exact hret _ _ _ _ _ hS dX6_rowRead_108 (⟨false, nw197, ra197, fa197, mk, vl, rfl, fun _ => by obtain ⟨f1, f2⟩ := hqF97 cq104; obtain ⟨n2, h9⟩ := hIt hm91 1 _ (ens_f (tr3 f1 f2 rfl)); obtain ⟨n3, h8⟩ := rwE_5 (tv := tv) (r := tr) o30 z54 rfl rfl ⟨n2, h9⟩ rfl; exact ⟨n3, _, _, h8, fun _ => rfl, fun z => Bool.noConfusion z⟩, fun z => absurd z cq8, hql97, fun z => Bool.noConfusion z, hP⟩)
            exact L89 ((le + 1 - (sk tx le (sk tx le (dfP tx le ra) + 1))) + 1) true (e1 1000) 1000 (sk tx le (sk tx le (dfP tx le ra) + 1)) fa151 nw168 (fl16 tv tr (dfV tx le ra)) (Nat.lt_succ_self _) (by omega) (by omega) (rfl) (Or.inr rfl) (fl16_lt htv hd100) (by rw [rwS_ad]; exact hq68) (fun _ n R hn => ⟨n, reE_n cq79 hn⟩) (fun z => Bool.noConfusion z) _ _ hP hD hS ls (lv_sub hl [4, 3, 2, 1, 0] rfl)
        · have z54 : ¬ sg tx le (sk tx le (dfP tx le ra)) = 58 := of_decide_eq_false cq54
          rw [if_neg z54] at hqr51
          refine lv_iconst (v := (nI 0)) hx hb dX6_rowRead_57 (by decide) ?_
          exact hret _ _ _ _ _ hS dX6_rowRead_58 (⟨false, nw, ra151, fa151, mk, vl, rfl, fun _ => by obtain ⟨n9, h9⟩ := rwE_2 (tv := tv) (r := tr) o30 z54 rfl rfl; exact ⟨n9, _, _, h9, fun _ => hqf51 z54, fun z => Bool.noConfusion z⟩, fun z => absurd z cq8, hql51, fun z => Bool.noConfusion z, hP⟩)
  · refine lv_aload_n hx hb dX6_rowRead_11 rfl (lv_at hl 0 rfl) ?_
    refine lv_aload_n hx hb dX6_rowRead_12 rfl (lv_at hl 0 rfl) ?_
    refine va_get (D := G.1) (ci := 6) (v := .int (nI ra)) (C := RX6) (T := TX6) (N := 11) hx hb hts iqX6_rowRead_X6 hown hK.1 hP 0 rfl rfl 9 (by decide) (hts (.fieldLink RX6 114 "PushedTablesModel" "readAt" "I") (List.mem_of_getElem? (i := 2) rfl)) (fun _ h9 => h9) rfl dX6_rowRead_13 ?_
    refine g_I (k_V (q0 := 0) (ci := 6) (n := 1) (As := [.int (nI ra)]) (rest := []) (wc := [ob mo 6 [.ref u0, .ref u1, .ref u2, .ref u3, .ref u4, .ref u5, .int (nI sm), .int (nI sa), .int (nI le), .int (nI ra), .int (nI fa)]]) hx hb hml hown hts (c_X6_fails (l := l) (G := G) (mo := mo) (u0 := u0) (u1 := u1) (u2 := u2) (u3 := u3) (u4 := u4) (u5 := u5) (sm := sm) (sa := sa) (le := le) (ra := ra) (fa := fa) (a := ra))  gX6_rowRead_X6_fails rfl rfl rfl (by decide +kernel) ⟨Nat.le_of_ble_eq_true rfl, Nat.le_of_ble_eq_true rfl⟩ rfl hK hP hD [0] rfl (by decide)  rfl rfl rfl hl.1 rfl (Nat.le_of_ble_eq_true rfl) dX6_rowRead_16 ⟨Nat.le_of_ble_eq_true rfl, Nat.le_of_ble_eq_true rfl⟩) hP hD hS [0] rfl (fun r16 H locs hB16 back hS => ?_)
    obtain ⟨he16, hP1⟩ := hB16
    obtain rfl := Eq.symm he16
    obtain ⟨hP, hD⟩ := back [ob mo 6 [.ref u0, .ref u1, .ref u2, .ref u3, .ref u4, .ref u5, .int (nI sm), .int (nI sa), .int (nI le), .int (nI ra), .int (nI ra)]] rfl hP1
    have hP : va_P G.1 vwCl [ob mo 6 [.ref u0, .ref u1, .ref u2, .ref u3, .ref u4, .ref u5, .int (nI sm), .int (nI sa), .int (nI le), .int (nI ra), .int (nI ra)], ar G u0 481 nw, ar G u3 800 mk, ar G u4 800 vl, ar G u5 100 (fun j => nI (tx j))] H := hP
    have hD : va_D A [ob mo 6 [.ref u0, .ref u1, .ref u2, .ref u3, .ref u4, .ref u5, .int (nI sm), .int (nI sa), .int (nI le), .int (nI ra), .int (nI ra)], ar G u0 481 nw, ar G u3 800 mk, ar G u4 800 vl, ar G u5 100 (fun j => nI (tx j))] := hD
    refine lv_pop hx hb dX6_rowRead_19 rfl ?_
    refine lv_iconst (v := (nI 0)) hx hb dX6_rowRead_20 (by decide) ?_
    exact hret _ _ _ _ _ hS dX6_rowRead_21 (⟨false, nw, ra, ra, mk, vl, rfl, fun z => absurd cq8 z, fun _ => ⟨rfl, rfl⟩, by omega, fun z => Bool.noConfusion z, hP⟩)
