/-! the reference: read; refused calls -/
theorem dfV_l (t : Nat → Nat) (L p : Nat) : dfV t L p < 100 := by
  unfold dfV; split
  · exact nmV_lt (by assumption)
  · decide
theorem tbE_r2 {t : Nat → Nat} {L room r p : Nat} {td tv : Nat → Nat} (h1 : ¬ L ≤ sk t L p) (e : r = room) : tbE t L room 0 1 r p td tv = some (false, sk t L p, 0, td, tv) := by rw [e]; exact tbE_r h1
theorem iqX6_read_X6 : ∀ w ∈ u_ws RX6 TX6 11, w ∈ wsX6_read := by decide +kernel
set_option maxHeartbeats 1000000 in
set_option maxRecDepth 100000 in
theorem c_X6_read (l : Launch) (G : kG) (mo u0 u1 u2 u3 u4 u5 sm sa le ra fa : Nat) (tx : Nat → Nat) (hle : le ≤ 100) (htx : ∀ k, tx k < 256) (σ : Sg) (nw : Nat → Int32) (hR : Rel σ nw) (hB : Bd σ) (bf sts : Nat → Int32) (hsa : sa < 5) (hsm : sm ≤ 5) (htp : ∀ k, k < le → 1 ≤ tx k) (td tv : Nat → Nat) (htd : ∀ k, td k < 100) (htv : ∀ k, tv k < 100) (hF : ∀ (i : Nat) (td2 tv2 : Nat → Nat) (d : Nat) (w : Nat → Nat), (∀ k, td2 k < 100) → (∀ k, tv2 k < 100) → d < 100 → (∀ k, w k < 100) → nn σ + i < 24 → FP (rwS (rfN σ td2 tv2 i) d w) (nn σ + i)) (mk vl : Nat → Int32) : Met l yX6_read wsX6_read ({ frames := 5, cells := 0, slots := 0, locals := 113 } : Room) (cP G [.ref mo] [ob mo 6 [.ref u0, .ref u1, .ref u2, .ref u3, .ref u4, .ref u5, .int (nI sm), .int (nI sa), .int (nI le), .int (nI ra), .int (nI fa)], ar G u0 481 nw, ar G u1 481 bf, ar G u2 2405 sts, ar G u3 800 mk, ar G u4 800 vl, ar G u5 100 (fun j => nI (tx j))]) (qI (fun rv H => ∃ (vr : Int32) (nw1 : Nat → Int32) (bf1 : Nat → Int32) (sts1 : Nat → Int32) (sm1 : Nat) (sa1 : Nat) (le1 : Nat) (ra1 : Nat) (fa1 : Nat) (mk1 : Nat → Int32) (vl1 : Nat → Int32), rv = vr ∧ (∃ (n j : Nat) (R : Bool × Nat × Nat × (Nat → Nat) × (Nat → Nat)), tbE tx le (24 - nn σ) n j 0 0 td tv = some R ∧ ((R.1 = false ∧ vr = (-1000) - nI R.2.1 ∧ le1 = le ∧ sm1 = sm ∧ sa1 = sa ∧ sts1 = sts ∧ Rel σ nw1) ∨ (R.1 = true ∧ vr = nI R.2.2.1 ∧ le1 = 0 ∧ sm1 = (if sm < 5 then sm + 1 else 5) ∧ sa1 = (sa + 1) % 5 ∧ sts1 = fb_put sts nw (481 * sa) 481 ∧ Rel (rfN σ R.2.2.2.1 R.2.2.2.2 R.2.2.1) nw1))) ∧ va_P G.1 vwCl [ob mo 6 [.ref u0, .ref u1, .ref u2, .ref u3, .ref u4, .ref u5, .int (nI sm1), .int (nI sa1), .int (nI le1), .int (nI ra1), .int (nI fa1)], ar G u0 481 nw1, ar G u1 481 bf1, ar G u2 2405 sts1, ar G u3 800 mk1, ar G u4 800 vl1, ar G u5 100 (fun j => nI (tx j))] H) (mA [ob mo 6 [.ref u0, .ref u1, .ref u2, .ref u3, .ref u4, .ref u5, .int (nI sm), .int (nI sa), .int (nI le), .int (nI ra), .int (nI fa)], ar G u0 481 nw, ar G u1 481 bf, ar G u2 2405 sts, ar G u3 800 mk, ar G u4 800 vl, ar G u5 100 (fun j => nI (tx j))])) 0 0 (mA [ob mo 6 [.ref u0, .ref u1, .ref u2, .ref u3, .ref u4, .ref u5, .int (nI sm), .int (nI sa), .int (nI le), .int (nI ra), .int (nI fa)], ar G u0 481 nw, ar G u1 481 bf, ar G u2 2405 sts, ar G u3 800 mk, ar G u4 800 vl, ar G u5 100 (fun j => nI (tx j))]) := by
  refine met_muI (cc := cX6_read) (maxL := 2) (ty := .int) (own := RX6) (by decide) rfl rfl (fun _ _ _ => rfl) (Nat.le_of_ble_eq_true rfl) ?_
  intro p e s m args below meth cod Q A hx hb hml hown hts hK hP hD hS hret ls hl
  have hl : lv_has ls 2 [(0, .ref mo)] := hl
  have h24 := hB.n
  refine lv_aload_n hx hb dX6_read_0 rfl (lv_at hl 0 rfl) ?_
  refine g_V (k_V (q0 := 0) (ci := 6) (n := 0) (As := []) (rest := []) (wc := [ob mo 6 [.ref u0, .ref u1, .ref u2, .ref u3, .ref u4, .ref u5, .int (nI sm), .int (nI sa), .int (nI le), .int (nI ra), .int (nI fa)], ar G u0 481 nw, ar G u1 481 bf]) hx hb hml hown hts (c_X6_copy (l := l) (G := G) (mo := mo) (u0 := u0) (u1 := u1) (u2 := u2) (u3 := u3) (u4 := u4) (u5 := u5) (sm := sm) (sa := sa) (le := le) (ra := ra) (fa := fa) (nw := nw) (bf := bf))  gX6_read_X6_copy rfl rfl rfl (by decide +kernel) ⟨Nat.le_of_ble_eq_true rfl, Nat.le_of_ble_eq_true rfl⟩ rfl hK hP hD [0, 1, 2] rfl (by decide)  rfl rfl rfl hl.1 rfl (Nat.le_of_ble_eq_true rfl) dX6_read_1 ⟨Nat.le_of_ble_eq_true rfl, Nat.le_of_ble_eq_true rfl⟩) hP hD hS [0, 1, 2] rfl (fun H locs hB1 back hS => ?_)
  obtain ⟨bf11, hq1, hP1⟩ := hB1
  obtain ⟨hP, hD⟩ := back [ob mo 6 [.ref u0, .ref u1, .ref u2, .ref u3, .ref u4, .ref u5, .int (nI sm), .int (nI sa), .int (nI le), .int (nI ra), .int (nI fa)], ar G u0 481 nw, ar G u1 481 bf11] rfl hP1
  have hP : va_P G.1 vwCl [ob mo 6 [.ref u0, .ref u1, .ref u2, .ref u3, .ref u4, .ref u5, .int (nI sm), .int (nI sa), .int (nI le), .int (nI ra), .int (nI fa)], ar G u0 481 nw, ar G u1 481 bf11, ar G u2 2405 sts, ar G u3 800 mk, ar G u4 800 vl, ar G u5 100 (fun j => nI (tx j))] H := hP
  have hD : va_D A [ob mo 6 [.ref u0, .ref u1, .ref u2, .ref u3, .ref u4, .ref u5, .int (nI sm), .int (nI sa), .int (nI le), .int (nI ra), .int (nI fa)], ar G u0 481 nw, ar G u1 481 bf11, ar G u2 2405 sts, ar G u3 800 mk, ar G u4 800 vl, ar G u5 100 (fun j => nI (tx j))] := hD
  refine lv_aload_n hx hb dX6_read_4 rfl (lv_at hl 0 rfl) ?_
  refine lv_iconst (v := (nI 0)) hx hb dX6_read_5 (by decide) ?_
  refine va_put (D := G.1) (ci := 6) (v := .int (nI 0)) (ty := .int) (C := RX6) (T := TX6) (N := 11) hx hb hts iqX6_read_X6 tyX6 tyX6_ok nmX6 hown hK.1 hP hD hS 0 rfl rfl 9 (by decide) (hts (.fieldLink RX6 114 "PushedTablesModel" "readAt" "I") (List.mem_of_getElem? (i := 1) rfl)) (fun _ h9 => h9) rfl (by decide +kernel) rfl rfl (Nat.le_of_ble_eq_true rfl) dX6_read_6 (fun H locs hP hD hS => ?_)
  have hP : va_P G.1 vwCl [ob mo 6 [.ref u0, .ref u1, .ref u2, .ref u3, .ref u4, .ref u5, .int (nI sm), .int (nI sa), .int (nI le), .int (nI 0), .int (nI fa)], ar G u0 481 nw, ar G u1 481 bf11, ar G u2 2405 sts, ar G u3 800 mk, ar G u4 800 vl, ar G u5 100 (fun j => nI (tx j))] H := hP
  have hD : va_D A [ob mo 6 [.ref u0, .ref u1, .ref u2, .ref u3, .ref u4, .ref u5, .int (nI sm), .int (nI sa), .int (nI le), .int (nI 0), .int (nI fa)], ar G u0 481 nw, ar G u1 481 bf11, ar G u2 2405 sts, ar G u3 800 mk, ar G u4 800 vl, ar G u5 100 (fun j => nI (tx j))] := hD
  refine lv_iconst (v := (nI 0)) hx hb dX6_read_9 (by decide) ?_
  refine lv_istore_n (lv' := [(1, .int (nI 0)), (0, .ref mo)]) hx hb dX6_read_10 rfl hl (by decide) rfl (fun ls hl => ?_)
  have L11 : ∀ (fu : Nat) (i : Nat) (p9 : Nat) (f9 : Nat) (nwx : Nat → Int32) (mkx : Nat → Int32) (vlx : Nat → Int32) (td3 : Nat → Nat) (tv3 : Nat → Nat), le + 1 - p9 < fu → p9 ≤ le → nn σ + i ≤ 24 → Rel (rfN σ td3 tv3 i) nwx → (∀ k, td3 k < 100) → (∀ k, tv3 k < 100) → (∀ n k R, tbE tx le (24 - nn σ) n k i p9 td3 tv3 = some R → ∃ n2 k2, tbE tx le (24 - nn σ) n2 k2 0 0 td tv = some R) → ∀ (H : Heap) (locs : List Loc), va_P G.1 vwCl [ob mo 6 [.ref u0, .ref u1, .ref u2, .ref u3, .ref u4, .ref u5, .int (nI sm), .int (nI sa), .int (nI le), .int (nI p9), .int (nI f9)], ar G u0 481 nwx, ar G u1 481 bf11, ar G u2 2405 sts, ar G u3 800 mkx, ar G u4 800 vlx, ar G u5 100 (fun j => nI (tx j))] H → va_D A [ob mo 6 [.ref u0, .ref u1, .ref u2, .ref u3, .ref u4, .ref u5, .int (nI sm), .int (nI sa), .int (nI le), .int (nI p9), .int (nI f9)], ar G u0 481 nwx, ar G u1 481 bf11, ar G u2 2405 sts, ar G u3 800 mkx, ar G u4 800 vlx, ar G u5 100 (fun j => nI (tx j))] → va_S A s.heap H locs → ∀ (ls : Array Slot), lv_has ls 2 [(0, .ref mo), (1, .int (nI i))] → W p l e ({ frames := 5, cells := 0, slots := 0, locals := 113 } : Room) s m args below meth cod H locs 0 0 Q (F0 m 11 ls []) := by
    intro fu
    induction fu with
    | zero => intro i p9 f9 nwx mkx vlx td3 tv3 hm; exact absurd hm (Nat.not_lt_zero _)
    | succ fu ih11 =>
      intro i p9 f9 nwx mkx vlx td3 tv3 hm11 hp9 hin hRx htd3 htv3 hI H locs hP hD hS ls hl
      have hP : va_P G.1 vwCl [ob mo 6 [.ref u0, .ref u1, .ref u2, .ref u3, .ref u4, .ref u5, .int (nI sm), .int (nI sa), .int (nI le), .int (nI p9), .int (nI f9)], ar G u0 481 nwx, ar G u1 481 bf11, ar G u2 2405 sts, ar G u3 800 mkx, ar G u4 800 vlx, ar G u5 100 (fun j => nI (tx j))] H := hP
      have hD : va_D A [ob mo 6 [.ref u0, .ref u1, .ref u2, .ref u3, .ref u4, .ref u5, .int (nI sm), .int (nI sa), .int (nI le), .int (nI p9), .int (nI f9)], ar G u0 481 nwx, ar G u1 481 bf11, ar G u2 2405 sts, ar G u3 800 mkx, ar G u4 800 vlx, ar G u5 100 (fun j => nI (tx j))] := hD
      refine lv_aload_n hx hb dX6_read_11 rfl (lv_at hl 0 rfl) ?_
      have nni := nn_rfN σ td3 tv3 i
      have hBx : Bd (rfN σ td3 tv3 i) := Bd_rfN hB htd3 htv3 i hin
      have skg := sk_ge tx le p9
      have skl := sk_le (t := tx) hp9
      have sgb := sg_lt htx le (sk tx le p9)
      refine g_I (k_V (q0 := 0) (ci := 6) (n := 0) (As := []) (rest := []) (wc := [ob mo 6 [.ref u0, .ref u1, .ref u2, .ref u3, .ref u4, .ref u5, .int (nI sm), .int (nI sa), .int (nI le), .int (nI p9), .int (nI f9)], ar G u5 100 (fun j => nI (tx j))]) hx hb hml hown hts (c_X6_here (l := l) (G := G) (mo := mo) (u0 := u0) (u1 := u1) (u2 := u2) (u3 := u3) (u4 := u4) (u5 := u5) (sm := sm) (sa := sa) (le := le) (ra := p9) (fa := f9) (tx := tx) (hle := by first | assumption | omega) (htx := by first | assumption | omega) (hra := by first | assumption | omega))  gX6_read_X6_here rfl rfl rfl (by decide +kernel) ⟨Nat.le_of_ble_eq_true rfl, Nat.le_of_ble_eq_true rfl⟩ rfl hK hP hD [0, 6] rfl (by decide)  rfl rfl rfl hl.1 rfl (Nat.le_of_ble_eq_true rfl) dX6_read_12 ⟨Nat.le_of_ble_eq_true rfl, Nat.le_of_ble_eq_true rfl⟩) hP hD hS [0, 6] rfl (fun r12 H locs hB12 back hS => ?_)
      obtain ⟨he12, hP1⟩ := hB12
      obtain rfl := Eq.symm he12
      obtain ⟨hP, hD⟩ := back [ob mo 6 [.ref u0, .ref u1, .ref u2, .ref u3, .ref u4, .ref u5, .int (nI sm), .int (nI sa), .int (nI le), .int (nI (sk tx le p9)), .int (nI f9)], ar G u5 100 (fun j => nI (tx j))] rfl hP1
      have hP : va_P G.1 vwCl [ob mo 6 [.ref u0, .ref u1, .ref u2, .ref u3, .ref u4, .ref u5, .int (nI sm), .int (nI sa), .int (nI le), .int (nI (sk tx le p9)), .int (nI f9)], ar G u0 481 nwx, ar G u1 481 bf11, ar G u2 2405 sts, ar G u3 800 mkx, ar G u4 800 vlx, ar G u5 100 (fun j => nI (tx j))] H := hP
      have hD : va_D A [ob mo 6 [.ref u0, .ref u1, .ref u2, .ref u3, .ref u4, .ref u5, .int (nI sm), .int (nI sa), .int (nI le), .int (nI (sk tx le p9)), .int (nI f9)], ar G u0 481 nwx, ar G u1 481 bf11, ar G u2 2405 sts, ar G u3 800 mkx, ar G u4 800 vlx, ar G u5 100 (fun j => nI (tx j))] := hD
      refine r_if_eq (P := (sg tx le (sk tx le p9)) = 0) (tgt := 44) hx hb dX6_read_15 (by decide) (nI_eq0 (by omega)) (fun cq15 => ?_) (fun cq15 => ?_)
      · have l15 : le ≤ sk tx le p9 := Nat.le_of_not_lt (fun z => by have := htp _ z; rw [sg_at z] at cq15; omega)
        refine lv_aload_n hx hb dX6_read_44 rfl (lv_at hl 0 rfl) ?_
        refine g_V (k_V (q0 := 0) (ci := 6) (n := 0) (As := []) (rest := []) (wc := [ob mo 6 [.ref u0, .ref u1, .ref u2, .ref u3, .ref u4, .ref u5, .int (nI sm), .int (nI sa), .int (nI le), .int (nI (sk tx le p9)), .int (nI f9)], ar G u1 481 bf11, ar G u2 2405 sts]) hx hb hml hown hts (c_X6_record (l := l) (G := G) (mo := mo) (u0 := u0) (u1 := u1) (u2 := u2) (u3 := u3) (u4 := u4) (u5 := u5) (sm := sm) (sa := sa) (le := le) (ra := (sk tx le p9)) (fa := f9) (bf := bf11) (sts := sts) (hsa := by first | assumption | omega) (hsm := by first | assumption | omega))  gX6_read_X6_record rfl rfl rfl (by decide +kernel) ⟨Nat.le_of_ble_eq_true rfl, Nat.le_of_ble_eq_true rfl⟩ rfl hK hP hD [0, 2, 3] rfl (by decide)  rfl rfl rfl hl.1 rfl (Nat.le_of_ble_eq_true rfl) dX6_read_45 ⟨Nat.le_of_ble_eq_true rfl, Nat.le_of_ble_eq_true rfl⟩) hP hD hS [0, 2, 3] rfl (fun H locs hB45 back hS => ?_)
        obtain ⟨sm145, hqs45, hP1⟩ := hB45
        obtain ⟨hP, hD⟩ := back [ob mo 6 [.ref u0, .ref u1, .ref u2, .ref u3, .ref u4, .ref u5, .int (nI sm145), .int (nI ((sa + 1) % 5)), .int (nI le), .int (nI (sk tx le p9)), .int (nI f9)], ar G u1 481 bf11, ar G u2 2405 (fb_put sts bf11 (481 * sa) 481)] rfl hP1
        have hP : va_P G.1 vwCl [ob mo 6 [.ref u0, .ref u1, .ref u2, .ref u3, .ref u4, .ref u5, .int (nI sm145), .int (nI ((sa + 1) % 5)), .int (nI le), .int (nI (sk tx le p9)), .int (nI f9)], ar G u0 481 nwx, ar G u1 481 bf11, ar G u2 2405 (fb_put sts bf11 (481 * sa) 481), ar G u3 800 mkx, ar G u4 800 vlx, ar G u5 100 (fun j => nI (tx j))] H := hP
        have hD : va_D A [ob mo 6 [.ref u0, .ref u1, .ref u2, .ref u3, .ref u4, .ref u5, .int (nI sm145), .int (nI ((sa + 1) % 5)), .int (nI le), .int (nI (sk tx le p9)), .int (nI f9)], ar G u0 481 nwx, ar G u1 481 bf11, ar G u2 2405 (fb_put sts bf11 (481 * sa) 481), ar G u3 800 mkx, ar G u4 800 vlx, ar G u5 100 (fun j => nI (tx j))] := hD
        refine lv_aload_n hx hb dX6_read_48 rfl (lv_at hl 0 rfl) ?_
        refine lv_iconst (v := (nI 0)) hx hb dX6_read_49 (by decide) ?_
        refine va_put (D := G.1) (ci := 6) (v := .int (nI 0)) (ty := .int) (C := RX6) (T := TX6) (N := 11) hx hb hts iqX6_read_X6 tyX6 tyX6_ok nmX6 hown hK.1 hP hD hS 0 rfl rfl 8 (by decide) (hts (.fieldLink RX6 111 "PushedTablesModel" "letters" "I") (List.mem_of_getElem? (i := 3) rfl)) (fun _ h9 => h9) rfl (by decide +kernel) rfl rfl (Nat.le_of_ble_eq_true rfl) dX6_read_50 (fun H locs hP hD hS => ?_)
        have hP : va_P G.1 vwCl [ob mo 6 [.ref u0, .ref u1, .ref u2, .ref u3, .ref u4, .ref u5, .int (nI sm145), .int (nI ((sa + 1) % 5)), .int (nI 0), .int (nI (sk tx le p9)), .int (nI f9)], ar G u0 481 nwx, ar G u1 481 bf11, ar G u2 2405 (fb_put sts bf11 (481 * sa) 481), ar G u3 800 mkx, ar G u4 800 vlx, ar G u5 100 (fun j => nI (tx j))] H := hP
        have hD : va_D A [ob mo 6 [.ref u0, .ref u1, .ref u2, .ref u3, .ref u4, .ref u5, .int (nI sm145), .int (nI ((sa + 1) % 5)), .int (nI 0), .int (nI (sk tx le p9)), .int (nI f9)], ar G u0 481 nwx, ar G u1 481 bf11, ar G u2 2405 (fb_put sts bf11 (481 * sa) 481), ar G u3 800 mkx, ar G u4 800 vlx, ar G u5 100 (fun j => nI (tx j))] := hD
        refine lv_iload_n hx hb dX6_read_53 rfl (lv_at hl 1 rfl) ?_
        obtain ⟨y1, y2, y3⟩ := hI _ _ _ (tbE_e (room := 24 - nn σ) (r := i) (td := td3) (tv := tv3) l15)
        exact hret _ _ _ _ _ hS dX6_read_54 (⟨(nI i), nwx, bf11, (fb_put sts bf11 (481 * sa) 481), sm145, ((sa + 1) % 5), 0, _, _, mkx, vlx, rfl, ⟨y1, y2, _, y3, Or.inr ⟨rfl, rfl, rfl, hqs45, rfl, fb_put_cong (fun _ _ => rfl) hq1, hRx⟩⟩, hP⟩)
      · have l15 := sg_pos (t := tx) (L := le) (p := sk tx le p9) (by omega)
        refine lv_aload_n hx hb dX6_read_18 rfl (lv_at hl 0 rfl) ?_
        refine g_I (k_V (q0 := 0) (ci := 6) (n := 0) (As := []) (rest := []) (wc := [ob mo 6 [.ref u0, .ref u1, .ref u2, .ref u3, .ref u4, .ref u5, .int (nI sm), .int (nI sa), .int (nI le), .int (nI (sk tx le p9)), .int (nI f9)], ar G u0 481 nwx, ar G u3 800 mkx, ar G u4 800 vlx, ar G u5 100 (fun j => nI (tx j))]) hx hb hml hown hts (c_X6_rowRead (l := l) (G := G) (mo := mo) (u0 := u0) (u1 := u1) (u2 := u2) (u3 := u3) (u4 := u4) (u5 := u5) (sm := sm) (sa := sa) (le := le) (ra := (sk tx le p9)) (fa := f9) (tx := tx) (hle := by first | assumption | omega) (htx := by first | assumption | omega) (σ := (rfN σ td3 tv3 i)) (nw := nwx) (hR := hRx) (hB := hBx) (hra := by first | assumption | omega) (hsk := (sk_sk tx le p9)) (tr := i) (tv := tv3) (htv := by first | assumption | omega) (hF := (fun d w h1 h2 h3 => by have h9 := hF i td3 tv3 d w htd3 htv3 h1 h2 (by omega); rw [nn_rfN]; exact h9)) (mk := mkx) (vl := vlx))  gX6_read_X6_rowRead rfl rfl rfl (by decide +kernel) ⟨Nat.le_of_ble_eq_true rfl, Nat.le_of_ble_eq_true rfl⟩ rfl hK hP hD [0, 1, 4, 5, 6] rfl (by decide)  rfl rfl rfl hl.1 rfl (Nat.le_of_ble_eq_true rfl) dX6_read_19 ⟨Nat.le_of_ble_eq_true rfl, Nat.le_of_ble_eq_true rfl⟩) hP hD hS [0, 1, 4, 5, 6] rfl (fun r19 H locs hB19 back hS => ?_)
        obtain ⟨ok19, nw119, ra119, fa119, mk119, vl119, he19, hE19, hE019, hql19, hpg19, hP1⟩ := hB19
        obtain rfl := Eq.symm he19
        obtain ⟨hP, hD⟩ := back [ob mo 6 [.ref u0, .ref u1, .ref u2, .ref u3, .ref u4, .ref u5, .int (nI sm), .int (nI sa), .int (nI le), .int (nI ra119), .int (nI fa119)], ar G u0 481 nw119, ar G u3 800 mk119, ar G u4 800 vl119, ar G u5 100 (fun j => nI (tx j))] rfl hP1
        have hP : va_P G.1 vwCl [ob mo 6 [.ref u0, .ref u1, .ref u2, .ref u3, .ref u4, .ref u5, .int (nI sm), .int (nI sa), .int (nI le), .int (nI ra119), .int (nI fa119)], ar G u0 481 nw119, ar G u1 481 bf11, ar G u2 2405 sts, ar G u3 800 mk119, ar G u4 800 vl119, ar G u5 100 (fun j => nI (tx j))] H := hP
        have hD : va_D A [ob mo 6 [.ref u0, .ref u1, .ref u2, .ref u3, .ref u4, .ref u5, .int (nI sm), .int (nI sa), .int (nI le), .int (nI ra119), .int (nI fa119)], ar G u0 481 nw119, ar G u1 481 bf11, ar G u2 2405 sts, ar G u3 800 mk119, ar G u4 800 vl119, ar G u5 100 (fun j => nI (tx j))] := hD
        refine r_if_ne (P := ok19 = false) (tgt := 38) hx hb dX6_read_22 (by decide) (bI_eq0) (fun cq22 => ?_) (fun cq22 => ?_)
        · have k19 : ok19 = true := Bool.of_not_eq_false cq22
          have n19 : nn (rfN σ td3 tv3 i) ≠ 24 := fun z => absurd (k19.symm.trans (hE019 z).1) (by decide)
          obtain ⟨x1, x2, x3, x4, x5, x6⟩ := hE19 n19
          rw [k19] at x4
          obtain ⟨x7, x8, x9⟩ := x6 k19
          have x10 := hpg19 k19
          refine r_iinc (v := i + 1) (lv' := [(1, .int (nI (i + 1))), (0, .ref mo)]) hx hb dX6_read_38 hl (k := 1) rfl (nI_1 _) (by decide) rfl (fun ls hl => ?_)
          refine lv_goto (tgt := 11) hx hb dX6_read_41 (by decide) ?_
          exact ih11 (i + 1) ra119 fa119 nw119 mk119 vl119 (va_up td3 i (dfV tx le (sk tx le p9))) x3 (by omega) (hql19) (by omega) (rfN_s x9 (fun j hj => rwE_out x4 hj)) (up_all (P := fun z => z < 100) htd3 (dfV_l _ _ _)) (x8) (fun n k R hR => by rw [x7] at hR; exact hI _ _ R (tbE_s (by omega) (by omega) x4 hR)) _ _ hP hD hS ls (lv_sub hl [1, 0] rfl)
        · have hC9 : ∃ (n j : Nat) (R : Bool × Nat × Nat × (Nat → Nat) × (Nat → Nat)), tbE tx le (24 - nn σ) n j 0 0 td tv = some R ∧ R.1 = false ∧ fa119 = R.2.1 := by
            by_cases z : nn (rfN σ td3 tv3 i) = 24
            · have e := (hE019 z).2
              obtain ⟨a, b, h⟩ := hI _ _ _ (tbE_r2 (room := 24 - nn σ) (r := i) (p := p9) (td := td3) (tv := tv3) (by omega) (by omega))
              exact ⟨a, b, _, h, rfl, e⟩
            · obtain ⟨x1, x2, x3, x4, x5, x6⟩ := hE19 z
              rw [cq22] at x4
              obtain ⟨a, b, h⟩ := hI _ _ _ (tbE_f (room := 24 - nn σ) (td := td3) (by omega) (by omega) x4)
              exact ⟨a, b, _, h, rfl, x5 cq22⟩
          obtain ⟨y1, y2, y3, y4, y5, y6⟩ := hC9
          refine lv_aload_n hx hb dX6_read_25 rfl (lv_at hl 0 rfl) ?_
          refine g_V (k_V (q0 := 0) (ci := 6) (n := 0) (As := []) (rest := []) (wc := [ob mo 6 [.ref u0, .ref u1, .ref u2, .ref u3, .ref u4, .ref u5, .int (nI sm), .int (nI sa), .int (nI le), .int (nI ra119), .int (nI fa119)], ar G u0 481 nw119, ar G u1 481 bf11]) hx hb hml hown hts (c_X6_back (l := l) (G := G) (mo := mo) (u0 := u0) (u1 := u1) (u2 := u2) (u3 := u3) (u4 := u4) (u5 := u5) (sm := sm) (sa := sa) (le := le) (ra := ra119) (fa := fa119) (nw := nw119) (bf := bf11))  gX6_read_X6_back rfl rfl rfl (by decide +kernel) ⟨Nat.le_of_ble_eq_true rfl, Nat.le_of_ble_eq_true rfl⟩ rfl hK hP hD [0, 1, 2] rfl (by decide)  rfl rfl rfl hl.1 rfl (Nat.le_of_ble_eq_true rfl) dX6_read_26 ⟨Nat.le_of_ble_eq_true rfl, Nat.le_of_ble_eq_true rfl⟩) hP hD hS [0, 1, 2] rfl (fun H locs hB26 back hS => ?_)
          obtain ⟨nw126, hq26, hP1⟩ := hB26
          obtain ⟨hP, hD⟩ := back [ob mo 6 [.ref u0, .ref u1, .ref u2, .ref u3, .ref u4, .ref u5, .int (nI sm), .int (nI sa), .int (nI le), .int (nI ra119), .int (nI fa119)], ar G u0 481 nw126, ar G u1 481 bf11] rfl hP1
          have hP : va_P G.1 vwCl [ob mo 6 [.ref u0, .ref u1, .ref u2, .ref u3, .ref u4, .ref u5, .int (nI sm), .int (nI sa), .int (nI le), .int (nI ra119), .int (nI fa119)], ar G u0 481 nw126, ar G u1 481 bf11, ar G u2 2405 sts, ar G u3 800 mk119, ar G u4 800 vl119, ar G u5 100 (fun j => nI (tx j))] H := hP
          have hD : va_D A [ob mo 6 [.ref u0, .ref u1, .ref u2, .ref u3, .ref u4, .ref u5, .int (nI sm), .int (nI sa), .int (nI le), .int (nI ra119), .int (nI fa119)], ar G u0 481 nw126, ar G u1 481 bf11, ar G u2 2405 sts, ar G u3 800 mk119, ar G u4 800 vl119, ar G u5 100 (fun j => nI (tx j))] := hD
          refine lv_sipush (v := (-1000)) hx hb dX6_read_29 (by decide) ?_
          refine lv_aload_n hx hb dX6_read_32 rfl (lv_at hl 0 rfl) ?_
          refine va_get (D := G.1) (ci := 6) (v := .int (nI fa119)) (C := RX6) (T := TX6) (N := 11) hx hb hts iqX6_read_X6 hown hK.1 hP 0 rfl rfl 10 (by decide) (hts (.fieldLink RX6 117 "PushedTablesModel" "failure" "I") (List.mem_of_getElem? (i := 2) rfl)) (fun _ h9 => h9) rfl dX6_read_33 ?_
          refine lv_isub hx hb dX6_read_36 ?_
          refine r_top (y := ((-1000) - nI fa119)) (rfl) ?_
          exact hret _ _ _ _ _ hS dX6_read_37 (⟨((-1000) - nI fa119), nw126, bf11, sts, sm, sa, le, ra119, fa119, mk119, vl119, rfl, ⟨y1, y2, y3, y4, Or.inl ⟨y5, by rw [y6], rfl, rfl, rfl, rfl, Rel_cong hR h24 (fun j hj => (hq26 j hj).trans (hq1 j hj))⟩⟩, hP⟩)
  exact L11 ((le + 1 - 0) + 1) 0 0 fa nw mk vl td tv (Nat.lt_succ_self _) (Nat.zero_le _) (by omega) (hR) (htd) (htv) (fun n k R hR => ⟨n, k, hR⟩) _ _ hP hD hS ls (lv_sub hl [1, 0] rfl)

set_option maxHeartbeats 1000000 in
set_option maxRecDepth 100000 in
theorem c_X6_add_bad (l : Launch) (G : kG) (mo : Nat) (xa : Int32) (hbad : inr xa 0 99 = false) : Met l yX6_add wsX6_add ({ frames := 2, cells := 0, slots := 0, locals := 41 } : Room) (cP G [.ref mo, .int xa] []) (vp_Si (fun rv => rv = (-1))) 0 0 (fun _ => False) := by
  refine met_ro (cc := cX6_add) (maxL := 2) (ty := .int) (own := RX6) (by decide) rfl rfl (fun _ _ => rfl) (Nat.le_of_ble_eq_true rfl) ?_
  intro p e s m args below meth cod Q hx hb hml hown hts hK hP hD hret ls hl
  have hl : lv_has ls 2 [(0, .ref mo), (1, .int xa)] := hl
  refine lv_iload_n hx hb dX6_add_0 rfl (lv_at hl 1 rfl) ?_
  refine lv_iconst (v := (nI 0)) hx hb dX6_add_1 (by decide) ?_
  refine lv_bipush (v := (nI 99)) hx hb dX6_add_2 (by decide) ?_
  refine g_ro (k_S (n := 3) (As := [.int xa, .int (nI 0), .int (nI 99)]) (rest := []) (wc := []) hx hb hml hown hts (c_X6_in (l := l) (G := G) (xa := xa) (xb := nI 0) (xc := nI 99))  gX6_add_X6_in rfl rfl rfl (by decide +kernel) ⟨Nat.le_of_ble_eq_true rfl, Nat.le_of_ble_eq_true rfl⟩ rfl hK hP hD [] rfl (by decide)  hl.1 rfl (Nat.le_of_ble_eq_true rfl) dX6_add_4 ⟨Nat.le_of_ble_eq_true rfl, Nat.le_of_ble_eq_true rfl⟩) (fun r4 h4 => ?_)
  obtain rfl : (bI (ing xa (nI 0) (nI 99))) = r4 := Eq.symm h4
  refine r_if_ne (P := (ing xa (nI 0) (nI 99)) = false) (tgt := 12) hx hb dX6_add_7 (by decide) (bI_eq0) (fun cq7 => ?_) (fun cq7 => ?_)
  · exact (cq7 ((ing_n (by decide) (by decide)).trans hbad)).elim
  · refine lv_iconst (v := (-1)) hx hb dX6_add_10 (by decide) ?_
    exact hret _ _ _ dX6_add_11 (rfl)

theorem iqX6_add_full_X6 : ∀ w ∈ u_ws RX6 TX6 11, w ∈ wsX6_add := by decide +kernel
set_option maxHeartbeats 1000000 in
set_option maxRecDepth 100000 in
theorem c_X6_add_full (l : Launch) (G : kG) (mo u0 u1 u2 u3 u4 u5 sm sa le ra fa : Nat) (σ : Sg) (nw : Nat → Int32) (hR : Rel σ nw) (hB : Bd σ) (v : Nat) (hv9 : v < 100) (hn : nn σ = 24) : Met l yX6_add wsX6_add ({ frames := 2, cells := 0, slots := 0, locals := 41 } : Room) (cP G [.ref mo, .int (nI v)] [ob mo 6 [.ref u0, .ref u1, .ref u2, .ref u3, .ref u4, .ref u5, .int (nI sm), .int (nI sa), .int (nI le), .int (nI ra), .int (nI fa)], ar G u0 481 nw]) (vp_Si (fun rv => rv = (-3))) 0 0 (fun _ => False) := by
  refine met_ro (cc := cX6_add) (maxL := 2) (ty := .int) (own := RX6) (by decide) rfl rfl (fun _ _ => rfl) (Nat.le_of_ble_eq_true rfl) ?_
  intro p e s m args below meth cod Q hx hb hml hown hts hK hP hD hret ls hl
  have hl : lv_has ls 2 [(0, .ref mo), (1, .int (nI v))] := hl
  refine lv_iload_n hx hb dX6_add_0 rfl (lv_at hl 1 rfl) ?_
  refine lv_iconst (v := (nI 0)) hx hb dX6_add_1 (by decide) ?_
  refine lv_bipush (v := (nI 99)) hx hb dX6_add_2 (by decide) ?_
  refine g_ro (k_S (n := 3) (As := [.int (nI v), .int (nI 0), .int (nI 99)]) (rest := []) (wc := []) hx hb hml hown hts (c_X6_in (l := l) (G := G) (xa := nI v) (xb := nI 0) (xc := nI 99))  gX6_add_X6_in rfl rfl rfl (by decide +kernel) ⟨Nat.le_of_ble_eq_true rfl, Nat.le_of_ble_eq_true rfl⟩ rfl hK hP hD [] rfl (by decide)  hl.1 rfl (Nat.le_of_ble_eq_true rfl) dX6_add_4 ⟨Nat.le_of_ble_eq_true rfl, Nat.le_of_ble_eq_true rfl⟩) (fun r4 h4 => ?_)
  obtain rfl : (bI (ing (nI v) (nI 0) (nI 99))) = r4 := Eq.symm h4
  refine r_if_ne (P := (ing (nI v) (nI 0) (nI 99)) = false) (tgt := 12) hx hb dX6_add_7 (by decide) (bI_eq0) (fun cq7 => ?_) (fun cq7 => ?_)
  · refine lv_aload_n hx hb dX6_add_12 rfl (lv_at hl 0 rfl) ?_
    refine va_get (D := G.1) (ci := 6) (v := .ref u0) (C := RX6) (T := TX6) (N := 11) hx hb hts iqX6_add_full_X6 hown hK.1 hP 0 rfl rfl 0 (by decide) (hts (.fieldLink RX6 7 "PushedTablesModel" "now" "[I") (List.mem_of_getElem? (i := 1) rfl)) (fun _ h9 => h9) rfl dX6_add_13 ?_
    refine lv_iconst (v := (nI 0)) hx hb dX6_add_16 (by decide) ?_
    refine r_iald (e1 := 0) (v := (nI (nn σ))) hx hb hK.1 hP 1 0 rfl rfl (by omega) (by first | decide | assumption) (hR.n) dX6_add_17 ?_
    refine lv_bipush (v := (nI 24)) hx hb dX6_add_18 (by decide) ?_
    refine r_icmp_ne (P := (nn σ) = 24) (tgt := 26) hx hb dX6_add_20 (by decide) (nI_eq (by omega) (by omega)) (fun cq20 => ?_) (fun cq20 => ?_)
    · exact absurd hn cq20
    · refine lv_bipush (v := (-3)) hx hb dX6_add_23 (by decide) ?_
      exact hret _ _ _ dX6_add_25 (rfl)
  · exact (no_f (ing_ok (by omega) (by omega) (by decide)) cq7).elim

set_option maxHeartbeats 1000000 in
set_option maxRecDepth 100000 in
theorem c_X6_set_bad (l : Launch) (G : kG) (mo u0 u1 u2 u3 u4 u5 sm sa le ra fa : Nat) (σ : Sg) (nw : Nat → Int32) (hR : Rel σ nw) (hB : Bd σ) (xa xb xc : Int32) (hbad : inr xa 0 ((nn σ : Int) - 1) = false ∨ inr xb 0 15 = false ∨ inr xc 0 99 = false) : Met l yX6_set wsX6_set ({ frames := 4, cells := 0, slots := 0, locals := 91 } : Room) (cP G [.ref mo, .int xa, .int xb, .int xc] [ob mo 6 [.ref u0, .ref u1, .ref u2, .ref u3, .ref u4, .ref u5, .int (nI sm), .int (nI sa), .int (nI le), .int (nI ra), .int (nI fa)], ar G u0 481 nw]) (vp_Si (fun rv => rv = (-1))) 0 0 (fun _ => False) := by
  refine met_ro (cc := cX6_set) (maxL := 5) (ty := .int) (own := RX6) (by decide) rfl rfl (fun _ _ => rfl) (Nat.le_of_ble_eq_true rfl) ?_
  intro p e s m args below meth cod Q hx hb hml hown hts hK hP hD hret ls hl
  have hl : lv_has ls 5 [(0, .ref mo), (1, .int xa), (2, .int xb), (3, .int xc)] := hl
  refine lv_aload_n hx hb dX6_set_0 rfl (lv_at hl 0 rfl) ?_
  refine lv_iload_n hx hb dX6_set_1 rfl (lv_at hl 1 rfl) ?_
  refine g_ro (k_V (q0 := 0) (ci := 6) (n := 1) (As := [.int xa]) (rest := []) (wc := [ob mo 6 [.ref u0, .ref u1, .ref u2, .ref u3, .ref u4, .ref u5, .int (nI sm), .int (nI sa), .int (nI le), .int (nI ra), .int (nI fa)], ar G u0 481 nw]) hx hb hml hown hts (c_X6_isRow (l := l) (G := G) (mo := mo) (u0 := u0) (u1 := u1) (u2 := u2) (u3 := u3) (u4 := u4) (u5 := u5) (sm := sm) (sa := sa) (le := le) (ra := ra) (fa := fa) (σ := by first | assumption | omega) (nw := nw) (hR := by first | assumption | omega) (hB := by first | assumption | omega) (xa := xa))  gX6_set_X6_isRow rfl rfl rfl (by decide +kernel) ⟨Nat.le_of_ble_eq_true rfl, Nat.le_of_ble_eq_true rfl⟩ rfl hK hP hD [0, 1] rfl (by decide)  rfl rfl rfl hl.1 rfl (Nat.le_of_ble_eq_true rfl) dX6_set_2 ⟨Nat.le_of_ble_eq_true rfl, Nat.le_of_ble_eq_true rfl⟩) (fun r2 h2 => ?_)
  obtain rfl : (bI (inr xa 0 ((nn σ : Int) - 1))) = r2 := Eq.symm h2
  refine r_if_eq (P := (inr xa 0 ((nn σ : Int) - 1)) = false) (tgt := 28) hx hb dX6_set_5 (by decide) (bI_eq0) (fun cq5 => ?_) (fun cq5 => ?_)
  · refine lv_iconst (v := (-1)) hx hb dX6_set_28 (by decide) ?_
    exact hret _ _ _ dX6_set_29 (rfl)
  · refine lv_iload_n hx hb dX6_set_8 rfl (lv_at hl 2 rfl) ?_
    refine lv_iconst (v := (nI 0)) hx hb dX6_set_9 (by decide) ?_
    refine lv_bipush (v := (nI 15)) hx hb dX6_set_10 (by decide) ?_
    refine g_ro (k_S (n := 3) (As := [.int xb, .int (nI 0), .int (nI 15)]) (rest := []) (wc := []) hx hb hml hown hts (c_X6_in (l := l) (G := G) (xa := xb) (xb := nI 0) (xc := nI 15))  gX6_set_X6_in rfl rfl rfl (by decide +kernel) ⟨Nat.le_of_ble_eq_true rfl, Nat.le_of_ble_eq_true rfl⟩ rfl hK hP hD [] rfl (by decide)  hl.1 rfl (Nat.le_of_ble_eq_true rfl) dX6_set_12 ⟨Nat.le_of_ble_eq_true rfl, Nat.le_of_ble_eq_true rfl⟩) (fun r12 h12 => ?_)
    obtain rfl : (bI (ing xb (nI 0) (nI 15))) = r12 := Eq.symm h12
    refine r_if_eq (P := (ing xb (nI 0) (nI 15)) = false) (tgt := 28) hx hb dX6_set_15 (by decide) (bI_eq0) (fun cq15 => ?_) (fun cq15 => ?_)
    · refine lv_iconst (v := (-1)) hx hb dX6_set_28 (by decide) ?_
      exact hret _ _ _ dX6_set_29 (rfl)
    · refine lv_iload_n hx hb dX6_set_18 rfl (lv_at hl 3 rfl) ?_
      refine lv_iconst (v := (nI 0)) hx hb dX6_set_19 (by decide) ?_
      refine lv_bipush (v := (nI 99)) hx hb dX6_set_20 (by decide) ?_
      refine g_ro (k_S (n := 3) (As := [.int xc, .int (nI 0), .int (nI 99)]) (rest := []) (wc := []) hx hb hml hown hts (c_X6_in (l := l) (G := G) (xa := xc) (xb := nI 0) (xc := nI 99))  gX6_set_X6_in rfl rfl rfl (by decide +kernel) ⟨Nat.le_of_ble_eq_true rfl, Nat.le_of_ble_eq_true rfl⟩ rfl hK hP hD [] rfl (by decide)  hl.1 rfl (Nat.le_of_ble_eq_true rfl) dX6_set_22 ⟨Nat.le_of_ble_eq_true rfl, Nat.le_of_ble_eq_true rfl⟩) (fun r22 h22 => ?_)
      obtain rfl : (bI (ing xc (nI 0) (nI 99))) = r22 := Eq.symm h22
      refine r_if_ne (P := (ing xc (nI 0) (nI 99)) = false) (tgt := 30) hx hb dX6_set_25 (by decide) (bI_eq0) (fun cq25 => ?_) (fun cq25 => ?_)
      · exact (hbad.elim cq5 (fun z => z.elim (fun z => cq15 ((ing_n (by decide) (by decide)).trans z)) (fun z => cq25 ((ing_n (by decide) (by decide)).trans z)))).elim
      · refine lv_iconst (v := (-1)) hx hb dX6_set_28 (by decide) ?_
        exact hret _ _ _ dX6_set_29 (rfl)

set_option maxHeartbeats 1000000 in
set_option maxRecDepth 100000 in
theorem c_X6_setDefault_bad (l : Launch) (G : kG) (mo u0 u1 u2 u3 u4 u5 sm sa le ra fa : Nat) (σ : Sg) (nw : Nat → Int32) (hR : Rel σ nw) (hB : Bd σ) (xa xb : Int32) (hbad : inr xa 0 ((nn σ : Int) - 1) = false ∨ inr xb 0 99 = false) : Met l yX6_setDefault wsX6_setDefault ({ frames := 4, cells := 0, slots := 0, locals := 91 } : Room) (cP G [.ref mo, .int xa, .int xb] [ob mo 6 [.ref u0, .ref u1, .ref u2, .ref u3, .ref u4, .ref u5, .int (nI sm), .int (nI sa), .int (nI le), .int (nI ra), .int (nI fa)], ar G u0 481 nw]) (vp_Si (fun rv => rv = (-1))) 0 0 (fun _ => False) := by
  refine met_ro (cc := cX6_setDefault) (maxL := 5) (ty := .int) (own := RX6) (by decide) rfl rfl (fun _ _ => rfl) (Nat.le_of_ble_eq_true rfl) ?_
  intro p e s m args below meth cod Q hx hb hml hown hts hK hP hD hret ls hl
  have hl : lv_has ls 5 [(0, .ref mo), (1, .int xa), (2, .int xb)] := hl
  refine lv_aload_n hx hb dX6_setDefault_0 rfl (lv_at hl 0 rfl) ?_
  refine lv_iload_n hx hb dX6_setDefault_1 rfl (lv_at hl 1 rfl) ?_
  refine g_ro (k_V (q0 := 0) (ci := 6) (n := 1) (As := [.int xa]) (rest := []) (wc := [ob mo 6 [.ref u0, .ref u1, .ref u2, .ref u3, .ref u4, .ref u5, .int (nI sm), .int (nI sa), .int (nI le), .int (nI ra), .int (nI fa)], ar G u0 481 nw]) hx hb hml hown hts (c_X6_isRow (l := l) (G := G) (mo := mo) (u0 := u0) (u1 := u1) (u2 := u2) (u3 := u3) (u4 := u4) (u5 := u5) (sm := sm) (sa := sa) (le := le) (ra := ra) (fa := fa) (σ := by first | assumption | omega) (nw := nw) (hR := by first | assumption | omega) (hB := by first | assumption | omega) (xa := xa))  gX6_setDefault_X6_isRow rfl rfl rfl (by decide +kernel) ⟨Nat.le_of_ble_eq_true rfl, Nat.le_of_ble_eq_true rfl⟩ rfl hK hP hD [0, 1] rfl (by decide)  rfl rfl rfl hl.1 rfl (Nat.le_of_ble_eq_true rfl) dX6_setDefault_2 ⟨Nat.le_of_ble_eq_true rfl, Nat.le_of_ble_eq_true rfl⟩) (fun r2 h2 => ?_)
  obtain rfl : (bI (inr xa 0 ((nn σ : Int) - 1))) = r2 := Eq.symm h2
  refine r_if_eq (P := (inr xa 0 ((nn σ : Int) - 1)) = false) (tgt := 18) hx hb dX6_setDefault_5 (by decide) (bI_eq0) (fun cq5 => ?_) (fun cq5 => ?_)
  · refine lv_iconst (v := (-1)) hx hb dX6_setDefault_18 (by decide) ?_
    exact hret _ _ _ dX6_setDefault_19 (rfl)
  · refine lv_iload_n hx hb dX6_setDefault_8 rfl (lv_at hl 2 rfl) ?_
    refine lv_iconst (v := (nI 0)) hx hb dX6_setDefault_9 (by decide) ?_
    refine lv_bipush (v := (nI 99)) hx hb dX6_setDefault_10 (by decide) ?_
    refine g_ro (k_S (n := 3) (As := [.int xb, .int (nI 0), .int (nI 99)]) (rest := []) (wc := []) hx hb hml hown hts (c_X6_in (l := l) (G := G) (xa := xb) (xb := nI 0) (xc := nI 99))  gX6_setDefault_X6_in rfl rfl rfl (by decide +kernel) ⟨Nat.le_of_ble_eq_true rfl, Nat.le_of_ble_eq_true rfl⟩ rfl hK hP hD [] rfl (by decide)  hl.1 rfl (Nat.le_of_ble_eq_true rfl) dX6_setDefault_12 ⟨Nat.le_of_ble_eq_true rfl, Nat.le_of_ble_eq_true rfl⟩) (fun r12 h12 => ?_)
    obtain rfl : (bI (ing xb (nI 0) (nI 99))) = r12 := Eq.symm h12
    refine r_if_ne (P := (ing xb (nI 0) (nI 99)) = false) (tgt := 20) hx hb dX6_setDefault_15 (by decide) (bI_eq0) (fun cq15 => ?_) (fun cq15 => ?_)
    · exact (hbad.elim cq5 (fun z => cq15 ((ing_n (by decide) (by decide)).trans z))).elim
    · refine lv_iconst (v := (-1)) hx hb dX6_setDefault_18 (by decide) ?_
      exact hret _ _ _ dX6_setDefault_19 (rfl)

theorem iqX6_removeLast_bad_X6 : ∀ w ∈ u_ws RX6 TX6 11, w ∈ wsX6_removeLast := by decide +kernel
set_option maxHeartbeats 1000000 in
set_option maxRecDepth 100000 in
theorem c_X6_removeLast_bad (l : Launch) (G : kG) (mo u0 u1 u2 u3 u4 u5 sm sa le ra fa : Nat) (σ : Sg) (nw : Nat → Int32) (hR : Rel σ nw) (hB : Bd σ) (hn : nn σ = 0) : Met l yX6_removeLast wsX6_removeLast ({ frames := 2, cells := 0, slots := 0, locals := 45 } : Room) (cP G [.ref mo] [ob mo 6 [.ref u0, .ref u1, .ref u2, .ref u3, .ref u4, .ref u5, .int (nI sm), .int (nI sa), .int (nI le), .int (nI ra), .int (nI fa)], ar G u0 481 nw]) (vp_Si (fun rv => rv = (-2))) 0 0 (fun _ => False) := by
  refine met_ro (cc := cX6_removeLast) (maxL := 1) (ty := .int) (own := RX6) (by decide) rfl rfl (fun _ _ => rfl) (Nat.le_of_ble_eq_true rfl) ?_
  intro p e s m args below meth cod Q hx hb hml hown hts hK hP hD hret ls hl
  have hl : lv_has ls 1 [(0, .ref mo)] := hl
  have h24 := hB.n
  refine lv_aload_n hx hb dX6_removeLast_0 rfl (lv_at hl 0 rfl) ?_
  refine va_get (D := G.1) (ci := 6) (v := .ref u0) (C := RX6) (T := TX6) (N := 11) hx hb hts iqX6_removeLast_bad_X6 hown hK.1 hP 0 rfl rfl 0 (by decide) (hts (.fieldLink RX6 7 "PushedTablesModel" "now" "[I") (List.mem_of_getElem? (i := 1) rfl)) (fun _ h9 => h9) rfl dX6_removeLast_1 ?_
  refine lv_iconst (v := (nI 0)) hx hb dX6_removeLast_4 (by decide) ?_
  refine r_iald (e1 := 0) (v := (nI (nn σ))) hx hb hK.1 hP 1 0 rfl rfl (by omega) (by first | decide | assumption) (hR.n) dX6_removeLast_5 ?_
  refine r_if_ne (P := (nn σ) = 0) (tgt := 12) hx hb dX6_removeLast_6 (by decide) (nI_eq0 (by omega)) (fun cq6 => ?_) (fun cq6 => ?_)
  · exact absurd hn cq6
  · refine lv_bipush (v := (-2)) hx hb dX6_removeLast_9 (by decide) ?_
    exact hret _ _ _ dX6_removeLast_11 (rfl)

set_option maxHeartbeats 1000000 in
set_option maxRecDepth 100000 in
theorem c_X6_slim_bad (l : Launch) (G : kG) (mo u0 u1 u2 u3 u4 u5 sm sa le ra fa : Nat) (σ : Sg) (nw : Nat → Int32) (hR : Rel σ nw) (hB : Bd σ) (xa : Int32) (hbad : inr xa 0 ((nn σ : Int) - 1) = false) : Met l yX6_slim wsX6_slim ({ frames := 4, cells := 0, slots := 0, locals := 91 } : Room) (cP G [.ref mo, .int xa] [ob mo 6 [.ref u0, .ref u1, .ref u2, .ref u3, .ref u4, .ref u5, .int (nI sm), .int (nI sa), .int (nI le), .int (nI ra), .int (nI fa)], ar G u0 481 nw]) (vp_Si (fun rv => rv = (-1))) 0 0 (fun _ => False) := by
  refine met_ro (cc := cX6_slim) (maxL := 6) (ty := .int) (own := RX6) (by decide) rfl rfl (fun _ _ => rfl) (Nat.le_of_ble_eq_true rfl) ?_
  intro p e s m args below meth cod Q hx hb hml hown hts hK hP hD hret ls hl
  have hl : lv_has ls 6 [(0, .ref mo), (1, .int xa)] := hl
  refine lv_aload_n hx hb dX6_slim_0 rfl (lv_at hl 0 rfl) ?_
  refine lv_iload_n hx hb dX6_slim_1 rfl (lv_at hl 1 rfl) ?_
  refine g_ro (k_V (q0 := 0) (ci := 6) (n := 1) (As := [.int xa]) (rest := []) (wc := [ob mo 6 [.ref u0, .ref u1, .ref u2, .ref u3, .ref u4, .ref u5, .int (nI sm), .int (nI sa), .int (nI le), .int (nI ra), .int (nI fa)], ar G u0 481 nw]) hx hb hml hown hts (c_X6_isRow (l := l) (G := G) (mo := mo) (u0 := u0) (u1 := u1) (u2 := u2) (u3 := u3) (u4 := u4) (u5 := u5) (sm := sm) (sa := sa) (le := le) (ra := ra) (fa := fa) (σ := by first | assumption | omega) (nw := nw) (hR := by first | assumption | omega) (hB := by first | assumption | omega) (xa := xa))  gX6_slim_X6_isRow rfl rfl rfl (by decide +kernel) ⟨Nat.le_of_ble_eq_true rfl, Nat.le_of_ble_eq_true rfl⟩ rfl hK hP hD [0, 1] rfl (by decide)  rfl rfl rfl hl.1 rfl (Nat.le_of_ble_eq_true rfl) dX6_slim_2 ⟨Nat.le_of_ble_eq_true rfl, Nat.le_of_ble_eq_true rfl⟩) (fun r2 h2 => ?_)
  obtain rfl : (bI (inr xa 0 ((nn σ : Int) - 1))) = r2 := Eq.symm h2
  refine r_if_ne (P := (inr xa 0 ((nn σ : Int) - 1)) = false) (tgt := 10) hx hb dX6_slim_5 (by decide) (bI_eq0) (fun cq5 => ?_) (fun cq5 => ?_)
  · exact absurd hbad cq5
  · refine lv_iconst (v := (-1)) hx hb dX6_slim_8 (by decide) ?_
    exact hret _ _ _ dX6_slim_9 (rfl)

theorem iqX6_undo_bad_X6 : ∀ w ∈ u_ws RX6 TX6 11, w ∈ wsX6_undo := by decide +kernel
set_option maxHeartbeats 1000000 in
set_option maxRecDepth 100000 in
theorem c_X6_undo_bad (l : Launch) (G : kG) (mo u0 u1 u2 u3 u4 u5 sm sa le ra fa : Nat) (h0 : sm = 0) : Met l yX6_undo wsX6_undo ({ frames := 0, cells := 0, slots := 0, locals := 0 } : Room) (cP G [.ref mo] [ob mo 6 [.ref u0, .ref u1, .ref u2, .ref u3, .ref u4, .ref u5, .int (nI sm), .int (nI sa), .int (nI le), .int (nI ra), .int (nI fa)]]) (vp_Si (fun rv => rv = (-2))) 0 0 (fun _ => False) := by
  refine met_ro (cc := cX6_undo) (maxL := 2) (ty := .int) (own := RX6) (by decide) rfl rfl (fun _ _ => rfl) (Nat.le_of_ble_eq_true rfl) ?_
  intro p e s m args below meth cod Q hx hb hml hown hts hK hP hD hret ls hl
  have hl : lv_has ls 2 [(0, .ref mo)] := hl
  refine lv_aload_n hx hb dX6_undo_0 rfl (lv_at hl 0 rfl) ?_
  refine va_get (D := G.1) (ci := 6) (v := .int (nI sm)) (C := RX6) (T := TX6) (N := 11) hx hb hts iqX6_undo_bad_X6 hown hK.1 hP 0 rfl rfl 6 (by decide) (hts (.fieldLink RX6 36 "PushedTablesModel" "stateMany" "I") (List.mem_of_getElem? (i := 1) rfl)) (fun _ h9 => h9) rfl dX6_undo_1 ?_
  refine r_if_ne (P := sm = 0) (tgt := 10) hx hb dX6_undo_4 (by decide) (nI_eq0 (by omega)) (fun cq4 => ?_) (fun cq4 => ?_)
  · exact absurd h0 cq4
  · refine lv_bipush (v := (-2)) hx hb dX6_undo_7 (by decide) ?_
    exact hret _ _ _ dX6_undo_9 (rfl)

set_option maxHeartbeats 1000000 in
set_option maxRecDepth 100000 in
theorem c_X6_append_bad (l : Launch) (G : kG) (mo : Nat) (xa : Int32) (hbad : inr xa 1 255 = false) : Met l yX6_append wsX6_append ({ frames := 1, cells := 0, slots := 0, locals := 22 } : Room) (cP G [.ref mo, .int xa] []) (vp_Si (fun rv => rv = (-1))) 0 0 (fun _ => False) := by
  refine met_ro (cc := cX6_append) (maxL := 2) (ty := .int) (own := RX6) (by decide) rfl rfl (fun _ _ => rfl) (Nat.le_of_ble_eq_true rfl) ?_
  intro p e s m args below meth cod Q hx hb hml hown hts hK hP hD hret ls hl
  have hl : lv_has ls 2 [(0, .ref mo), (1, .int xa)] := hl
  refine lv_iload_n hx hb dX6_append_0 rfl (lv_at hl 1 rfl) ?_
  refine lv_iconst (v := (nI 1)) hx hb dX6_append_1 (by decide) ?_
  refine lv_sipush (v := (nI 255)) hx hb dX6_append_2 (by decide) ?_
  refine g_ro (k_S (n := 3) (As := [.int xa, .int (nI 1), .int (nI 255)]) (rest := []) (wc := []) hx hb hml hown hts (c_X6_in (l := l) (G := G) (xa := xa) (xb := nI 1) (xc := nI 255))  gX6_append_X6_in rfl rfl rfl (by decide +kernel) ⟨Nat.le_of_ble_eq_true rfl, Nat.le_of_ble_eq_true rfl⟩ rfl hK hP hD [] rfl (by decide)  hl.1 rfl (Nat.le_of_ble_eq_true rfl) dX6_append_5 ⟨Nat.le_of_ble_eq_true rfl, Nat.le_of_ble_eq_true rfl⟩) (fun r5 h5 => ?_)
  obtain rfl : (bI (ing xa (nI 1) (nI 255))) = r5 := Eq.symm h5
  refine r_if_ne (P := (ing xa (nI 1) (nI 255)) = false) (tgt := 13) hx hb dX6_append_8 (by decide) (bI_eq0) (fun cq8 => ?_) (fun cq8 => ?_)
  · exact (cq8 ((ing_n (by decide) (by decide)).trans hbad)).elim
  · refine lv_iconst (v := (-1)) hx hb dX6_append_11 (by decide) ?_
    exact hret _ _ _ dX6_append_12 (rfl)

theorem iqX6_append_full_X6 : ∀ w ∈ u_ws RX6 TX6 11, w ∈ wsX6_append := by decide +kernel
set_option maxHeartbeats 1000000 in
set_option maxRecDepth 100000 in
theorem c_X6_append_full (l : Launch) (G : kG) (mo u0 u1 u2 u3 u4 u5 sm sa le ra fa : Nat) (w : Nat) (hw1 : 1 ≤ w) (hw : w ≤ 255) (hl2 : le = 100) : Met l yX6_append wsX6_append ({ frames := 1, cells := 0, slots := 0, locals := 22 } : Room) (cP G [.ref mo, .int (nI w)] [ob mo 6 [.ref u0, .ref u1, .ref u2, .ref u3, .ref u4, .ref u5, .int (nI sm), .int (nI sa), .int (nI le), .int (nI ra), .int (nI fa)]]) (vp_Si (fun rv => rv = (-3))) 0 0 (fun _ => False) := by
  refine met_ro (cc := cX6_append) (maxL := 2) (ty := .int) (own := RX6) (by decide) rfl rfl (fun _ _ => rfl) (Nat.le_of_ble_eq_true rfl) ?_
  intro p e s m args below meth cod Q hx hb hml hown hts hK hP hD hret ls hl
  have hl : lv_has ls 2 [(0, .ref mo), (1, .int (nI w))] := hl
  refine lv_iload_n hx hb dX6_append_0 rfl (lv_at hl 1 rfl) ?_
  refine lv_iconst (v := (nI 1)) hx hb dX6_append_1 (by decide) ?_
  refine lv_sipush (v := (nI 255)) hx hb dX6_append_2 (by decide) ?_
  refine g_ro (k_S (n := 3) (As := [.int (nI w), .int (nI 1), .int (nI 255)]) (rest := []) (wc := []) hx hb hml hown hts (c_X6_in (l := l) (G := G) (xa := nI w) (xb := nI 1) (xc := nI 255))  gX6_append_X6_in rfl rfl rfl (by decide +kernel) ⟨Nat.le_of_ble_eq_true rfl, Nat.le_of_ble_eq_true rfl⟩ rfl hK hP hD [] rfl (by decide)  hl.1 rfl (Nat.le_of_ble_eq_true rfl) dX6_append_5 ⟨Nat.le_of_ble_eq_true rfl, Nat.le_of_ble_eq_true rfl⟩) (fun r5 h5 => ?_)
  obtain rfl : (bI (ing (nI w) (nI 1) (nI 255))) = r5 := Eq.symm h5
  refine r_if_ne (P := (ing (nI w) (nI 1) (nI 255)) = false) (tgt := 13) hx hb dX6_append_8 (by decide) (bI_eq0) (fun cq8 => ?_) (fun cq8 => ?_)
  · refine lv_aload_n hx hb dX6_append_13 rfl (lv_at hl 0 rfl) ?_
    refine va_get (D := G.1) (ci := 6) (v := .int (nI le)) (C := RX6) (T := TX6) (N := 11) hx hb hts iqX6_append_full_X6 hown hK.1 hP 0 rfl rfl 8 (by decide) (hts (.fieldLink RX6 111 "PushedTablesModel" "letters" "I") (List.mem_of_getElem? (i := 1) rfl)) (fun _ h9 => h9) rfl dX6_append_14 ?_
    refine lv_bipush (v := (nI 100)) hx hb dX6_append_17 (by decide) ?_
    refine r_icmp_ne (P := le = 100) (tgt := 25) hx hb dX6_append_19 (by decide) (nI_eq (by omega) (by omega)) (fun cq19 => ?_) (fun cq19 => ?_)
    · exact absurd hl2 cq19
    · refine lv_bipush (v := (-3)) hx hb dX6_append_22 (by decide) ?_
      exact hret _ _ _ dX6_append_24 (rfl)
  · exact (no_f (ing_ok (by omega) (by omega) (by decide)) cq8).elim

set_option maxHeartbeats 1000000 in
set_option maxRecDepth 100000 in
theorem c_X6_get_bad (l : Launch) (G : kG) (mo u0 u1 u2 u3 u4 u5 sm sa le ra fa : Nat) (σ : Sg) (nw : Nat → Int32) (hR : Rel σ nw) (hB : Bd σ) (xa xb : Int32) (hbad : inr xa 0 ((nn σ : Int) - 1) = false ∨ inr xb 0 15 = false) : Met l yX6_get wsX6_get ({ frames := 2, cells := 0, slots := 0, locals := 43 } : Room) (cP G [.ref mo, .int xa, .int xb] [ob mo 6 [.ref u0, .ref u1, .ref u2, .ref u3, .ref u4, .ref u5, .int (nI sm), .int (nI sa), .int (nI le), .int (nI ra), .int (nI fa)], ar G u0 481 nw]) (vp_Si (fun rv => rv = (-1))) 0 0 (fun _ => False) := by
  refine met_ro (cc := cX6_get) (maxL := 3) (ty := .int) (own := RX6) (by decide) rfl rfl (fun _ _ => rfl) (Nat.le_of_ble_eq_true rfl) ?_
  intro p e s m args below meth cod Q hx hb hml hown hts hK hP hD hret ls hl
  have hl : lv_has ls 3 [(0, .ref mo), (1, .int xa), (2, .int xb)] := hl
  refine lv_aload_n hx hb dX6_get_0 rfl (lv_at hl 0 rfl) ?_
  refine lv_iload_n hx hb dX6_get_1 rfl (lv_at hl 1 rfl) ?_
  refine g_ro (k_V (q0 := 0) (ci := 6) (n := 1) (As := [.int xa]) (rest := []) (wc := [ob mo 6 [.ref u0, .ref u1, .ref u2, .ref u3, .ref u4, .ref u5, .int (nI sm), .int (nI sa), .int (nI le), .int (nI ra), .int (nI fa)], ar G u0 481 nw]) hx hb hml hown hts (c_X6_isRow (l := l) (G := G) (mo := mo) (u0 := u0) (u1 := u1) (u2 := u2) (u3 := u3) (u4 := u4) (u5 := u5) (sm := sm) (sa := sa) (le := le) (ra := ra) (fa := fa) (σ := by first | assumption | omega) (nw := nw) (hR := by first | assumption | omega) (hB := by first | assumption | omega) (xa := xa))  gX6_get_X6_isRow rfl rfl rfl (by decide +kernel) ⟨Nat.le_of_ble_eq_true rfl, Nat.le_of_ble_eq_true rfl⟩ rfl hK hP hD [0, 1] rfl (by decide)  rfl rfl rfl hl.1 rfl (Nat.le_of_ble_eq_true rfl) dX6_get_2 ⟨Nat.le_of_ble_eq_true rfl, Nat.le_of_ble_eq_true rfl⟩) (fun r2 h2 => ?_)
  obtain rfl : (bI (inr xa 0 ((nn σ : Int) - 1))) = r2 := Eq.symm h2
  refine r_if_eq (P := (inr xa 0 ((nn σ : Int) - 1)) = false) (tgt := 27) hx hb dX6_get_5 (by decide) (bI_eq0) (fun cq5 => ?_) (fun cq5 => ?_)
  · refine lv_iconst (v := (-1)) hx hb dX6_get_27 (by decide) ?_
    exact hret _ _ _ dX6_get_28 (rfl)
  · refine lv_iload_n hx hb dX6_get_8 rfl (lv_at hl 2 rfl) ?_
    refine lv_iconst (v := (nI 0)) hx hb dX6_get_9 (by decide) ?_
    refine lv_bipush (v := (nI 15)) hx hb dX6_get_10 (by decide) ?_
    refine g_ro (k_S (n := 3) (As := [.int xb, .int (nI 0), .int (nI 15)]) (rest := []) (wc := []) hx hb hml hown hts (c_X6_in (l := l) (G := G) (xa := xb) (xb := nI 0) (xc := nI 15))  gX6_get_X6_in rfl rfl rfl (by decide +kernel) ⟨Nat.le_of_ble_eq_true rfl, Nat.le_of_ble_eq_true rfl⟩ rfl hK hP hD [] rfl (by decide)  hl.1 rfl (Nat.le_of_ble_eq_true rfl) dX6_get_12 ⟨Nat.le_of_ble_eq_true rfl, Nat.le_of_ble_eq_true rfl⟩) (fun r12 h12 => ?_)
    obtain rfl : (bI (ing xb (nI 0) (nI 15))) = r12 := Eq.symm h12
    refine r_if_eq (P := (ing xb (nI 0) (nI 15)) = false) (tgt := 27) hx hb dX6_get_15 (by decide) (bI_eq0) (fun cq15 => ?_) (fun cq15 => ?_)
    · refine lv_iconst (v := (-1)) hx hb dX6_get_27 (by decide) ?_
      exact hret _ _ _ dX6_get_28 (rfl)
    · exact (hbad.elim cq5 (fun z => cq15 ((ing_n (by decide) (by decide)).trans z))).elim

set_option maxHeartbeats 1000000 in
set_option maxRecDepth 100000 in
theorem c_X6_like_bad (l : Launch) (G : kG) (mo u0 u1 u2 u3 u4 u5 sm sa le ra fa : Nat) (σ : Sg) (nw : Nat → Int32) (hR : Rel σ nw) (hB : Bd σ) (xa : Int32) (hbad : inr xa 0 ((nn σ : Int) - 1) = false) : Met l yX6_like wsX6_like ({ frames := 2, cells := 0, slots := 0, locals := 43 } : Room) (cP G [.ref mo, .int xa] [ob mo 6 [.ref u0, .ref u1, .ref u2, .ref u3, .ref u4, .ref u5, .int (nI sm), .int (nI sa), .int (nI le), .int (nI ra), .int (nI fa)], ar G u0 481 nw]) (vp_Si (fun rv => rv = (-1))) 0 0 (fun _ => False) := by
  refine met_ro (cc := cX6_like) (maxL := 7) (ty := .int) (own := RX6) (by decide) rfl rfl (fun _ _ => rfl) (Nat.le_of_ble_eq_true rfl) ?_
  intro p e s m args below meth cod Q hx hb hml hown hts hK hP hD hret ls hl
  have hl : lv_has ls 7 [(0, .ref mo), (1, .int xa)] := hl
  refine lv_aload_n hx hb dX6_like_0 rfl (lv_at hl 0 rfl) ?_
  refine lv_iload_n hx hb dX6_like_1 rfl (lv_at hl 1 rfl) ?_
  refine g_ro (k_V (q0 := 0) (ci := 6) (n := 1) (As := [.int xa]) (rest := []) (wc := [ob mo 6 [.ref u0, .ref u1, .ref u2, .ref u3, .ref u4, .ref u5, .int (nI sm), .int (nI sa), .int (nI le), .int (nI ra), .int (nI fa)], ar G u0 481 nw]) hx hb hml hown hts (c_X6_isRow (l := l) (G := G) (mo := mo) (u0 := u0) (u1 := u1) (u2 := u2) (u3 := u3) (u4 := u4) (u5 := u5) (sm := sm) (sa := sa) (le := le) (ra := ra) (fa := fa) (σ := by first | assumption | omega) (nw := nw) (hR := by first | assumption | omega) (hB := by first | assumption | omega) (xa := xa))  gX6_like_X6_isRow rfl rfl rfl (by decide +kernel) ⟨Nat.le_of_ble_eq_true rfl, Nat.le_of_ble_eq_true rfl⟩ rfl hK hP hD [0, 1] rfl (by decide)  rfl rfl rfl hl.1 rfl (Nat.le_of_ble_eq_true rfl) dX6_like_2 ⟨Nat.le_of_ble_eq_true rfl, Nat.le_of_ble_eq_true rfl⟩) (fun r2 h2 => ?_)
  obtain rfl : (bI (inr xa 0 ((nn σ : Int) - 1))) = r2 := Eq.symm h2
  refine r_if_ne (P := (inr xa 0 ((nn σ : Int) - 1)) = false) (tgt := 10) hx hb dX6_like_5 (by decide) (bI_eq0) (fun cq5 => ?_) (fun cq5 => ?_)
  · exact absurd hbad cq5
  · refine lv_iconst (v := (-1)) hx hb dX6_like_8 (by decide) ?_
    exact hret _ _ _ dX6_like_9 (rfl)

set_option maxHeartbeats 1000000 in
set_option maxRecDepth 100000 in
theorem c_X6_form_bad (l : Launch) (G : kG) (mo : Nat) (xa xb : Int32) (hbad : inr xa 0 23 = false ∨ inr xb 0 2 = false) : Met l yX6_form wsX6_form ({ frames := 1, cells := 0, slots := 0, locals := 23 } : Room) (cP G [.ref mo, .int xa, .int xb] []) (vp_Si (fun rv => rv = (-1))) 0 0 (fun _ => False) := by
  refine met_ro (cc := cX6_form) (maxL := 5) (ty := .int) (own := RX6) (by decide) rfl rfl (fun _ _ => rfl) (Nat.le_of_ble_eq_true rfl) ?_
  intro p e s m args below meth cod Q hx hb hml hown hts hK hP hD hret ls hl
  have hl : lv_has ls 5 [(0, .ref mo), (1, .int xa), (2, .int xb)] := hl
  refine lv_iload_n hx hb dX6_form_0 rfl (lv_at hl 1 rfl) ?_
  refine lv_iconst (v := (nI 0)) hx hb dX6_form_1 (by decide) ?_
  refine lv_bipush (v := (nI 23)) hx hb dX6_form_2 (by decide) ?_
  refine g_ro (k_S (n := 3) (As := [.int xa, .int (nI 0), .int (nI 23)]) (rest := []) (wc := []) hx hb hml hown hts (c_X6_in (l := l) (G := G) (xa := xa) (xb := nI 0) (xc := nI 23))  gX6_form_X6_in rfl rfl rfl (by decide +kernel) ⟨Nat.le_of_ble_eq_true rfl, Nat.le_of_ble_eq_true rfl⟩ rfl hK hP hD [] rfl (by decide)  hl.1 rfl (Nat.le_of_ble_eq_true rfl) dX6_form_4 ⟨Nat.le_of_ble_eq_true rfl, Nat.le_of_ble_eq_true rfl⟩) (fun r4 h4 => ?_)
  obtain rfl : (bI (ing xa (nI 0) (nI 23))) = r4 := Eq.symm h4
  refine r_if_eq (P := (ing xa (nI 0) (nI 23)) = false) (tgt := 19) hx hb dX6_form_7 (by decide) (bI_eq0) (fun cq7 => ?_) (fun cq7 => ?_)
  · refine lv_iconst (v := (-1)) hx hb dX6_form_19 (by decide) ?_
    exact hret _ _ _ dX6_form_20 (rfl)
  · refine lv_iload_n hx hb dX6_form_10 rfl (lv_at hl 2 rfl) ?_
    refine lv_iconst (v := (nI 0)) hx hb dX6_form_11 (by decide) ?_
    refine lv_iconst (v := (nI 2)) hx hb dX6_form_12 (by decide) ?_
    refine g_ro (k_S (n := 3) (As := [.int xb, .int (nI 0), .int (nI 2)]) (rest := []) (wc := []) hx hb hml hown hts (c_X6_in (l := l) (G := G) (xa := xb) (xb := nI 0) (xc := nI 2))  gX6_form_X6_in rfl rfl rfl (by decide +kernel) ⟨Nat.le_of_ble_eq_true rfl, Nat.le_of_ble_eq_true rfl⟩ rfl hK hP hD [] rfl (by decide)  hl.1 rfl (Nat.le_of_ble_eq_true rfl) dX6_form_13 ⟨Nat.le_of_ble_eq_true rfl, Nat.le_of_ble_eq_true rfl⟩) (fun r13 h13 => ?_)
    obtain rfl : (bI (ing xb (nI 0) (nI 2))) = r13 := Eq.symm h13
    refine r_if_ne (P := (ing xb (nI 0) (nI 2)) = false) (tgt := 21) hx hb dX6_form_16 (by decide) (bI_eq0) (fun cq16 => ?_) (fun cq16 => ?_)
    · exact (hbad.elim (fun z => cq7 ((ing_n (by decide) (by decide)).trans z)) (fun z => cq16 ((ing_n (by decide) (by decide)).trans z))).elim
    · refine lv_iconst (v := (-1)) hx hb dX6_form_19 (by decide) ?_
      exact hret _ _ _ dX6_form_20 (rfl)

set_option maxHeartbeats 1000000 in
set_option maxRecDepth 100000 in
theorem c_X6_cell_bad (l : Launch) (G : kG) (mo : Nat) (xa xb : Int32) (hbad : inr xa 0 799 = false ∨ inr xb 0 1 = false) : Met l yX6_cell wsX6_cell ({ frames := 2, cells := 0, slots := 0, locals := 44 } : Room) (cP G [.ref mo, .int xa, .int xb] []) (vp_Si (fun rv => rv = (-1))) 0 0 (fun _ => False) := by
  refine met_ro (cc := cX6_cell) (maxL := 3) (ty := .int) (own := RX6) (by decide) rfl rfl (fun _ _ => rfl) (Nat.le_of_ble_eq_true rfl) ?_
  intro p e s m args below meth cod Q hx hb hml hown hts hK hP hD hret ls hl
  have hl : lv_has ls 3 [(0, .ref mo), (1, .int xa), (2, .int xb)] := hl
  refine lv_iload_n hx hb dX6_cell_0 rfl (lv_at hl 1 rfl) ?_
  refine lv_iconst (v := (nI 0)) hx hb dX6_cell_1 (by decide) ?_
  refine lv_sipush (v := (nI 799)) hx hb dX6_cell_2 (by decide) ?_
  refine g_ro (k_S (n := 3) (As := [.int xa, .int (nI 0), .int (nI 799)]) (rest := []) (wc := []) hx hb hml hown hts (c_X6_in (l := l) (G := G) (xa := xa) (xb := nI 0) (xc := nI 799))  gX6_cell_X6_in rfl rfl rfl (by decide +kernel) ⟨Nat.le_of_ble_eq_true rfl, Nat.le_of_ble_eq_true rfl⟩ rfl hK hP hD [] rfl (by decide)  hl.1 rfl (Nat.le_of_ble_eq_true rfl) dX6_cell_5 ⟨Nat.le_of_ble_eq_true rfl, Nat.le_of_ble_eq_true rfl⟩) (fun r5 h5 => ?_)
  obtain rfl : (bI (ing xa (nI 0) (nI 799))) = r5 := Eq.symm h5
  refine r_if_eq (P := (ing xa (nI 0) (nI 799)) = false) (tgt := 20) hx hb dX6_cell_8 (by decide) (bI_eq0) (fun cq8 => ?_) (fun cq8 => ?_)
  · refine lv_iconst (v := (-1)) hx hb dX6_cell_20 (by decide) ?_
    exact hret _ _ _ dX6_cell_21 (rfl)
  · refine lv_iload_n hx hb dX6_cell_11 rfl (lv_at hl 2 rfl) ?_
    refine lv_iconst (v := (nI 0)) hx hb dX6_cell_12 (by decide) ?_
    refine lv_iconst (v := (nI 1)) hx hb dX6_cell_13 (by decide) ?_
    refine g_ro (k_S (n := 3) (As := [.int xb, .int (nI 0), .int (nI 1)]) (rest := []) (wc := []) hx hb hml hown hts (c_X6_in (l := l) (G := G) (xa := xb) (xb := nI 0) (xc := nI 1))  gX6_cell_X6_in rfl rfl rfl (by decide +kernel) ⟨Nat.le_of_ble_eq_true rfl, Nat.le_of_ble_eq_true rfl⟩ rfl hK hP hD [] rfl (by decide)  hl.1 rfl (Nat.le_of_ble_eq_true rfl) dX6_cell_14 ⟨Nat.le_of_ble_eq_true rfl, Nat.le_of_ble_eq_true rfl⟩) (fun r14 h14 => ?_)
    obtain rfl : (bI (ing xb (nI 0) (nI 1))) = r14 := Eq.symm h14
    refine r_if_ne (P := (ing xb (nI 0) (nI 1)) = false) (tgt := 22) hx hb dX6_cell_17 (by decide) (bI_eq0) (fun cq17 => ?_) (fun cq17 => ?_)
    · exact (hbad.elim (fun z => cq8 ((ing_n (by decide) (by decide)).trans z)) (fun z => cq17 ((ing_n (by decide) (by decide)).trans z))).elim
    · refine lv_iconst (v := (-1)) hx hb dX6_cell_20 (by decide) ?_
      exact hret _ _ _ dX6_cell_21 (rfl)

set_option maxHeartbeats 1000000 in
set_option maxRecDepth 100000 in
theorem c_X6_fit_bad (l : Launch) (G : kG) (mo : Nat) (xa : Int32) (hbad : inr xa 1 65535 = false) : Met l yX6_fit wsX6_fit ({ frames := 2, cells := 0, slots := 0, locals := 45 } : Room) (cP G [.ref mo, .int xa] []) (vp_Si (fun rv => rv = (-1))) 0 0 (fun _ => False) := by
  refine met_ro (cc := cX6_fit) (maxL := 2) (ty := .int) (own := RX6) (by decide) rfl rfl (fun _ _ => rfl) (Nat.le_of_ble_eq_true rfl) ?_
  intro p e s m args below meth cod Q hx hb hml hown hts hK hP hD hret ls hl
  have hl : lv_has ls 2 [(0, .ref mo), (1, .int xa)] := hl
  refine lv_iload_n hx hb dX6_fit_0 rfl (lv_at hl 1 rfl) ?_
  refine lv_iconst (v := (nI 1)) hx hb dX6_fit_1 (by decide) ?_
  refine lv_ldc (v := (nI 65535)) hx hb hown (hts (.constant RX6 154 (nI 65535)) (List.mem_of_getElem? (i := 1) rfl)) dX6_fit_2 ?_
  refine g_ro (k_S (n := 3) (As := [.int xa, .int (nI 1), .int (nI 65535)]) (rest := []) (wc := []) hx hb hml hown hts (c_X6_in (l := l) (G := G) (xa := xa) (xb := nI 1) (xc := nI 65535))  gX6_fit_X6_in rfl rfl rfl (by decide +kernel) ⟨Nat.le_of_ble_eq_true rfl, Nat.le_of_ble_eq_true rfl⟩ rfl hK hP hD [] rfl (by decide)  hl.1 rfl (Nat.le_of_ble_eq_true rfl) dX6_fit_4 ⟨Nat.le_of_ble_eq_true rfl, Nat.le_of_ble_eq_true rfl⟩) (fun r4 h4 => ?_)
  obtain rfl : (bI (ing xa (nI 1) (nI 65535))) = r4 := Eq.symm h4
  refine r_if_ne (P := (ing xa (nI 1) (nI 65535)) = false) (tgt := 12) hx hb dX6_fit_7 (by decide) (bI_eq0) (fun cq7 => ?_) (fun cq7 => ?_)
  · exact (cq7 ((ing_n (by decide) (by decide)).trans hbad)).elim
  · refine lv_iconst (v := (-1)) hx hb dX6_fit_10 (by decide) ?_
    exact hret _ _ _ dX6_fit_11 (rfl)

set_option maxHeartbeats 1000000 in
set_option maxRecDepth 100000 in
theorem c_X6_endBy_bad (l : Launch) (G : kG) (mo : Nat) (xa : Int32) (hbad : inr xa 0 1 = false) : Met l yX6_endBy wsX6_endBy ({ frames := 4, cells := 0, slots := 0, locals := 92 } : Room) (cP G [.ref mo, .int xa] []) (vp_Si (fun rv => rv = (-1))) 0 0 (fun _ => False) := by
  refine met_ro (cc := cX6_endBy) (maxL := 3) (ty := .int) (own := RX6) (by decide) rfl rfl (fun _ _ => rfl) (Nat.le_of_ble_eq_true rfl) ?_
  intro p e s m args below meth cod Q hx hb hml hown hts hK hP hD hret ls hl
  have hl : lv_has ls 3 [(0, .ref mo), (1, .int xa)] := hl
  refine lv_iload_n hx hb dX6_endBy_0 rfl (lv_at hl 1 rfl) ?_
  refine lv_iconst (v := (nI 0)) hx hb dX6_endBy_1 (by decide) ?_
  refine lv_iconst (v := (nI 1)) hx hb dX6_endBy_2 (by decide) ?_
  refine g_ro (k_S (n := 3) (As := [.int xa, .int (nI 0), .int (nI 1)]) (rest := []) (wc := []) hx hb hml hown hts (c_X6_in (l := l) (G := G) (xa := xa) (xb := nI 0) (xc := nI 1))  gX6_endBy_X6_in rfl rfl rfl (by decide +kernel) ⟨Nat.le_of_ble_eq_true rfl, Nat.le_of_ble_eq_true rfl⟩ rfl hK hP hD [] rfl (by decide)  hl.1 rfl (Nat.le_of_ble_eq_true rfl) dX6_endBy_3 ⟨Nat.le_of_ble_eq_true rfl, Nat.le_of_ble_eq_true rfl⟩) (fun r3 h3 => ?_)
  obtain rfl : (bI (ing xa (nI 0) (nI 1))) = r3 := Eq.symm h3
  refine r_if_ne (P := (ing xa (nI 0) (nI 1)) = false) (tgt := 11) hx hb dX6_endBy_6 (by decide) (bI_eq0) (fun cq6 => ?_) (fun cq6 => ?_)
  · exact (cq6 ((ing_n (by decide) (by decide)).trans hbad)).elim
  · refine lv_iconst (v := (-1)) hx hb dX6_endBy_9 (by decide) ?_
    exact hret _ _ _ dX6_endBy_10 (rfl)

set_option maxHeartbeats 1000000 in
set_option maxRecDepth 100000 in
theorem c_X6_row_bad (l : Launch) (G : kG) (mo u0 u1 u2 u3 u4 u5 sm sa le ra fa : Nat) (σ : Sg) (nw : Nat → Int32) (hR : Rel σ nw) (hB : Bd σ) (xa xb : Int32) (hbad : inr xa 0 ((nn σ : Int) - 1) = false ∨ inr xb 0 4 = false) : Met l yX6_row wsX6_row ({ frames := 2, cells := 0, slots := 0, locals := 43 } : Room) (cP G [.ref mo, .int xa, .int xb] [ob mo 6 [.ref u0, .ref u1, .ref u2, .ref u3, .ref u4, .ref u5, .int (nI sm), .int (nI sa), .int (nI le), .int (nI ra), .int (nI fa)], ar G u0 481 nw]) (vp_Si (fun rv => rv = (-1))) 0 0 (fun _ => False) := by
  refine met_ro (cc := cX6_row) (maxL := 4) (ty := .int) (own := RX6) (by decide) rfl rfl (fun _ _ => rfl) (Nat.le_of_ble_eq_true rfl) ?_
  intro p e s m args below meth cod Q hx hb hml hown hts hK hP hD hret ls hl
  have hl : lv_has ls 4 [(0, .ref mo), (1, .int xa), (2, .int xb)] := hl
  refine lv_aload_n hx hb dX6_row_0 rfl (lv_at hl 0 rfl) ?_
  refine lv_iload_n hx hb dX6_row_1 rfl (lv_at hl 1 rfl) ?_
  refine g_ro (k_V (q0 := 0) (ci := 6) (n := 1) (As := [.int xa]) (rest := []) (wc := [ob mo 6 [.ref u0, .ref u1, .ref u2, .ref u3, .ref u4, .ref u5, .int (nI sm), .int (nI sa), .int (nI le), .int (nI ra), .int (nI fa)], ar G u0 481 nw]) hx hb hml hown hts (c_X6_isRow (l := l) (G := G) (mo := mo) (u0 := u0) (u1 := u1) (u2 := u2) (u3 := u3) (u4 := u4) (u5 := u5) (sm := sm) (sa := sa) (le := le) (ra := ra) (fa := fa) (σ := by first | assumption | omega) (nw := nw) (hR := by first | assumption | omega) (hB := by first | assumption | omega) (xa := xa))  gX6_row_X6_isRow rfl rfl rfl (by decide +kernel) ⟨Nat.le_of_ble_eq_true rfl, Nat.le_of_ble_eq_true rfl⟩ rfl hK hP hD [0, 1] rfl (by decide)  rfl rfl rfl hl.1 rfl (Nat.le_of_ble_eq_true rfl) dX6_row_2 ⟨Nat.le_of_ble_eq_true rfl, Nat.le_of_ble_eq_true rfl⟩) (fun r2 h2 => ?_)
  obtain rfl : (bI (inr xa 0 ((nn σ : Int) - 1))) = r2 := Eq.symm h2
  refine r_if_eq (P := (inr xa 0 ((nn σ : Int) - 1)) = false) (tgt := 17) hx hb dX6_row_5 (by decide) (bI_eq0) (fun cq5 => ?_) (fun cq5 => ?_)
  · refine lv_iconst (v := (-1)) hx hb dX6_row_17 (by decide) ?_
    exact hret _ _ _ dX6_row_18 (rfl)
  · refine lv_iload_n hx hb dX6_row_8 rfl (lv_at hl 2 rfl) ?_
    refine lv_iconst (v := (nI 0)) hx hb dX6_row_9 (by decide) ?_
    refine lv_iconst (v := (nI 4)) hx hb dX6_row_10 (by decide) ?_
    refine g_ro (k_S (n := 3) (As := [.int xb, .int (nI 0), .int (nI 4)]) (rest := []) (wc := []) hx hb hml hown hts (c_X6_in (l := l) (G := G) (xa := xb) (xb := nI 0) (xc := nI 4))  gX6_row_X6_in rfl rfl rfl (by decide +kernel) ⟨Nat.le_of_ble_eq_true rfl, Nat.le_of_ble_eq_true rfl⟩ rfl hK hP hD [] rfl (by decide)  hl.1 rfl (Nat.le_of_ble_eq_true rfl) dX6_row_11 ⟨Nat.le_of_ble_eq_true rfl, Nat.le_of_ble_eq_true rfl⟩) (fun r11 h11 => ?_)
    obtain rfl : (bI (ing xb (nI 0) (nI 4))) = r11 := Eq.symm h11
    refine r_if_ne (P := (ing xb (nI 0) (nI 4)) = false) (tgt := 19) hx hb dX6_row_14 (by decide) (bI_eq0) (fun cq14 => ?_) (fun cq14 => ?_)
    · exact (hbad.elim cq5 (fun z => cq14 ((ing_n (by decide) (by decide)).trans z))).elim
    · refine lv_iconst (v := (-1)) hx hb dX6_row_17 (by decide) ?_
      exact hret _ _ _ dX6_row_18 (rfl)

set_option maxHeartbeats 1000000 in
set_option maxRecDepth 100000 in
theorem c_X6_count_bad (l : Launch) (G : kG) (mo : Nat) (xa : Int32) (hbad : inr xa 0 8 = false) : Met l yX6_count wsX6_count ({ frames := 3, cells := 0, slots := 0, locals := 69 } : Room) (cP G [.ref mo, .int xa] []) (vp_Si (fun rv => rv = (-1))) 0 0 (fun _ => False) := by
  refine met_ro (cc := cX6_count) (maxL := 4) (ty := .int) (own := RX6) (by decide) rfl rfl (fun _ _ => rfl) (Nat.le_of_ble_eq_true rfl) ?_
  intro p e s m args below meth cod Q hx hb hml hown hts hK hP hD hret ls hl
  have hl : lv_has ls 4 [(0, .ref mo), (1, .int xa)] := hl
  have hb8 := inr_f.mp hbad
  refine lv_iload_n hx hb dX6_count_0 rfl (lv_at hl 1 rfl) ?_
  rcases (show xa.toInt < 0 ∨ 0 ≤ xa.toInt by omega) with cq1 | cq1
  · refine lv_tableOut (tgt := 132) hx hb dX6_count_1 (Or.inl cq1) (by decide) ?_
    refine lv_iconst (v := (-1)) hx hb dX6_count_132 (by decide) ?_
    exact hret _ _ _ dX6_count_133 (rfl)
  rcases (show 8 < xa.toInt ∨ xa.toInt ≤ 8 by omega) with dq1 | dq1
  · refine lv_tableOut (tgt := 132) hx hb dX6_count_1 (Or.inr dq1) (by decide) ?_
    refine lv_iconst (v := (-1)) hx hb dX6_count_132 (by decide) ?_
    exact hret _ _ _ dX6_count_133 (rfl)
  have sw1 : xa.toInt = 0 ∨ xa.toInt = 1 ∨ xa.toInt = 2 ∨ xa.toInt = 3 ∨ xa.toInt = 4 ∨ xa.toInt = 5 ∨ xa.toInt = 6 ∨ xa.toInt = 7 ∨ xa.toInt = 8 := by omega
  rcases sw1 with sw1 | sw1 | sw1 | sw1 | sw1 | sw1 | sw1 | sw1 | sw1
  · exact (hb8 (by omega)).elim
  · exact (hb8 (by omega)).elim
  · exact (hb8 (by omega)).elim
  · exact (hb8 (by omega)).elim
  · exact (hb8 (by omega)).elim
  · exact (hb8 (by omega)).elim
  · exact (hb8 (by omega)).elim
  · exact (hb8 (by omega)).elim
  · exact (hb8 (by omega)).elim
