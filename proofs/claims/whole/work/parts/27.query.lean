/-! the reference: what is asked -/
theorem sh_of {σ : Sg} (h : Bd σ) {r : Nat} (hf : ¬ ff σ r = 1000) : shf σ (ff σ r) = ss σ (ff σ r) := if_pos (by have := h.f r; omega)
theorem rfo_0 {σ : Sg} {cm : Nat → Nat} {r : Nat} (h : ff σ r = 1000) : rfo σ cm r = 0 := by
  unfold rfo; rw [if_pos]; unfold shf; rw [if_neg (by omega)]
theorem rfo_1 {σ : Sg} {cm : Nat → Nat} {r : Nat} (h : Bd σ) (hf : ¬ ff σ r = 1000) (hs : ss σ (ff σ r) ≤ 784) : rfo σ cm r = fb_ct (rfP σ cm r) 16 := by
  unfold rfo; rw [if_neg]; rw [sh_of h hf]; omega
/-- the weight of the last row that has a form -/
def lwF (σ : Sg) (f : Nat) : Nat → Nat
  | 0 => 0
  | k + 1 => if ff σ k = f then pop (cols σ k) else lwF σ f k
theorem lwF_le (σ : Sg) (f : Nat) : ∀ k, lwF σ f k ≤ 16
  | 0 => by unfold lwF; omega
  | k + 1 => by
    unfold lwF; split
    · exact pop_le _
    · exact lwF_le σ f k
theorem lwF_t {σ : Sg} {f k : Nat} (h : ff σ k = f) : pop (cols σ k) = lwF σ f (k + 1) := (if_pos h).symm
theorem lwF_f {σ : Sg} {f k : Nat} (h : ¬ ff σ k = f) : lwF σ f k = lwF σ f (k + 1) := (if_neg h).symm
def fmR (σ : Sg) (f w : Nat) : Int32 := if ss σ f = 1000 then (-9) else if w = 0 then e1 (ss σ f) else if w = 1 then nI (shr σ f) else nI (lwF σ f (nn σ))
def clR (cv cm : Nat → Nat) (k w : Nat) : Int32 := if cm k = 1000 then (-9) else if w = 0 then nI (cv k) else e1 (cm k)
theorem pop_ebT (σ : Sg) (r v : Nat) : pop (ebT σ r v) + cw σ r v = 16 := by
  unfold ebT cw
  rw [pop_msk]
  have h := fb_ct_not (fun c => decide (vv σ (r * 16 + c) = v)) 16
  have e : fb_ct (fun k => !decide (vv σ (r * 16 + k) = v)) 16 = fb_ct (fun j => decide (vv σ (r * 16 + j) ≠ v)) 16 := fb_ct_cong (fun k _ => by simp)
  omega
theorem wt_cw2 (σ : Sg) (r : Nat) : wt σ r + cw σ r (dd σ r) = 16 := by
  have h := pop_ebT σ r (dd σ r)
  have e : ebT σ r (dd σ r) = cols σ r := rfl
  rw [e, pop_cols] at h
  exact h
theorem mv_most {σ : Sg} (h : Bd σ) (r : Nat) : cw σ r (dd σ r) ≤ cw σ r (mv σ r) := by
  obtain ⟨a, b⟩ := mvB_ok (cw σ r) 100
  have a1 := a (dd σ r) (h.d r)
  unfold mv
  rcases b with ⟨b1, b2⟩ | ⟨b1, b2, b3⟩
  · rw [b2] at a1; omega
  · omega
theorem slm_of {σ : Sg} (h : Bd σ) (r : Nat) : pop (ebT σ r (mv σ r)) ≤ pop (cols σ r) ∧ pop (cols σ r) - pop (ebT σ r (mv σ r)) = slmB σ r := by
  have h1 := pop_ebT σ r (mv σ r)
  have h2 := wt_cw2 σ r
  have h3 := mv_most h r
  rw [pop_cols]
  unfold slmB
  omega
theorem lk_no {f : Nat → Nat} {q k b m : Nat} (h : (b, m) = lkB f q k) (hk : ¬ (k ≠ q ∧ (m = 1000 ∨ m < f k))) : (b, m) = lkB f q (k + 1) := by
  rw [lkB_succ, ← h, if_neg hk]
theorem lk_yes {f : Nat → Nat} {q k b m n : Nat} (h : (b, m) = lkB f q k) (hn : n = f k) (hk : k ≠ q ∧ (m = 1000 ∨ m < n)) : (k, n) = lkB f q (k + 1) := by
  rw [hn] at hk
  rw [lkB_succ, ← h, if_pos hk, hn]
theorem iqX6_formMany_X6 : ∀ w ∈ u_ws RX6 TX6 11, w ∈ wsX6_formMany := by decide +kernel
set_option maxHeartbeats 1000000 in
set_option maxRecDepth 100000 in
theorem c_X6_formMany (l : Launch) (G : kG) (mo u0 u1 u2 u3 u4 u5 sm sa le ra fa : Nat) (σ : Sg) (nw : Nat → Int32) (hR : Rel σ nw) (hB : Bd σ)  : Met l yX6_formMany wsX6_formMany ({ frames := 0, cells := 0, slots := 0, locals := 0 } : Room) (cP G [.ref mo] [ob mo 6 [.ref u0, .ref u1, .ref u2, .ref u3, .ref u4, .ref u5, .int (nI sm), .int (nI sa), .int (nI le), .int (nI ra), .int (nI fa)], ar G u0 481 nw]) (vp_Si (fun rv => rv = (nI (fcnt σ)))) 0 0 (fun _ => False) := by
  refine met_ro (cc := cX6_formMany) (maxL := 3) (ty := .int) (own := RX6) (by decide) rfl rfl (fun _ _ => rfl) (Nat.le_of_ble_eq_true rfl) ?_
  intro p e s m args below meth cod Q hx hb hml hown hts hK hP hD hret ls hl
  have hl : lv_has ls 3 [(0, .ref mo)] := hl
  refine lv_iconst (v := (nI 0)) hx hb dX6_formMany_0 (by decide) ?_
  refine lv_istore_n (lv' := [(1, .int (nI 0)), (0, .ref mo)]) hx hb dX6_formMany_1 rfl hl (by decide) rfl (fun ls hl => ?_)
  refine lv_iconst (v := (nI 0)) hx hb dX6_formMany_2 (by decide) ?_
  refine lv_istore_n (lv' := [(2, .int (nI 0)), (1, .int (nI 0)), (0, .ref mo)]) hx hb dX6_formMany_3 rfl hl (by decide) rfl (fun ls hl => ?_)
  have L4 : ∀ (fu : Nat) (f : Nat) (k : Nat), 25 - f < fu → f ≤ 24 → k = fb_ct (fun f => decide (ss σ f ≠ 1000)) f → k ≤ f → ∀ (ls : Array Slot), lv_has ls 3 [(0, .ref mo), (1, .int (nI k)), (2, .int (nI f))] → W p l e ({ frames := 0, cells := 0, slots := 0, locals := 0 } : Room) s m args below meth cod s.heap [] 0 0 Q (F0 m 4 ls []) := by
    intro fu
    induction fu with
    | zero => intro f k hm; exact absurd hm (Nat.not_lt_zero _)
    | succ fu ih4 =>
      intro f k hm4 hf hk hkl ls hl
      refine lv_iload_n hx hb dX6_formMany_4 rfl (lv_at hl 2 rfl) ?_
      refine lv_bipush (v := (nI 24)) hx hb dX6_formMany_5 (by decide) ?_
      refine r_icmp_ge (P := 24 ≤ f) (tgt := 37) hx hb dX6_formMany_7 (by decide) (nI_leI (by omega) (by omega)) (fun cq7 => ?_) (fun cq7 => ?_)
      · refine lv_iload_n hx hb dX6_formMany_37 rfl (lv_at hl 1 rfl) ?_
        exact hret _ _ _ dX6_formMany_38 (by have e : f = 24 := (by omega); rw [hk, e]; rfl)
      · refine lv_iload_n hx hb dX6_formMany_10 rfl (lv_at hl 1 rfl) ?_
        have bs := hB.s f
        refine lv_aload_n hx hb dX6_formMany_11 rfl (lv_at hl 0 rfl) ?_
        refine va_get (D := G.1) (ci := 6) (v := .ref u0) (C := RX6) (T := TX6) (N := 11) hx hb hts iqX6_formMany_X6 hown hK.1 hP 0 rfl rfl 0 (by decide) (hts (.fieldLink RX6 7 "PushedTablesModel" "now" "[I") (List.mem_of_getElem? (i := 1) rfl)) (fun _ h9 => h9) rfl dX6_formMany_12 ?_
        refine lv_sipush (v := (nI 457)) hx hb dX6_formMany_15 (by decide) ?_
        refine lv_iload_n hx hb dX6_formMany_18 rfl (lv_at hl 2 rfl) ?_
        refine r_iadd (v := 457 + f) hx hb dX6_formMany_19 rfl ?_
        refine r_iald (e1 := 457 + f) (v := (e1 (ss σ f))) hx hb hK.1 hP 1 0 rfl rfl (by omega) (by first | decide | assumption) (hR.s (by omega)) dX6_formMany_20 ?_
        refine r_if_lt (P := (ss σ f) = 1000) (tgt := 28) hx hb dX6_formMany_21 (by decide) (e1_lt0 (by omega)) (fun cq21 => ?_) (fun cq21 => ?_)
        · refine lv_iconst (v := (nI 0)) hx hb dX6_formMany_28 (by decide) ?_
          refine r_iadd (v := k + 0) hx hb dX6_formMany_29 rfl ?_
          refine lv_istore_n (lv' := [(1, .int (nI (k + 0))), (0, .ref mo), (2, .int (nI f))]) hx hb dX6_formMany_30 rfl hl (by decide) rfl (fun ls hl => ?_)
          refine r_iinc (v := f + 1) (lv' := [(2, .int (nI (f + 1))), (1, .int (nI (k + 0))), (0, .ref mo)]) hx hb dX6_formMany_31 hl (k := 2) rfl (nI_1 _) (by decide) rfl (fun ls hl => ?_)
          refine lv_goto (tgt := 4) hx hb dX6_formMany_34 (by decide) ?_
          exact ih4 (f + 1) (k + 0) (by omega) (by omega) (ct_f (decide_eq_false (fun z => z cq21)) hk) (by omega) ls (lv_sub hl [2, 1, 0] rfl)
        · refine lv_iconst (v := (nI 1)) hx hb dX6_formMany_24 (by decide) ?_
          refine lv_goto (tgt := 29) hx hb dX6_formMany_25 (by decide) ?_
          refine r_iadd (v := k + 1) hx hb dX6_formMany_29 rfl ?_
          refine lv_istore_n (lv' := [(1, .int (nI (k + 1))), (0, .ref mo), (2, .int (nI f))]) hx hb dX6_formMany_30 rfl hl (by decide) rfl (fun ls hl => ?_)
          refine r_iinc (v := f + 1) (lv' := [(2, .int (nI (f + 1))), (1, .int (nI (k + 1))), (0, .ref mo)]) hx hb dX6_formMany_31 hl (k := 2) rfl (nI_1 _) (by decide) rfl (fun ls hl => ?_)
          refine lv_goto (tgt := 4) hx hb dX6_formMany_34 (by decide) ?_
          exact ih4 (f + 1) (k + 1) (by omega) (by omega) (ct_t (decide_eq_true cq21) hk) (by omega) ls (lv_sub hl [2, 1, 0] rfl)
  exact L4 ((25 - 0) + 1) 0 0 (Nat.lt_succ_self _) (by omega) (rfl) (by omega) ls (lv_sub hl [2, 1, 0] rfl)

theorem iqX6_strangers_X6 : ∀ w ∈ u_ws RX6 TX6 11, w ∈ wsX6_strangers := by decide +kernel
set_option maxHeartbeats 1000000 in
set_option maxRecDepth 100000 in
theorem c_X6_strangers (l : Launch) (G : kG) (mo u0 u1 u2 u3 u4 u5 sm sa le ra fa : Nat) (σ : Sg) (nw : Nat → Int32) (hR : Rel σ nw) (hB : Bd σ) (hT1 : ∀ r, r < nn σ → ff σ r ≠ 1000 → ss σ (ff σ r) ≤ 784) (mk vl : Nat → Int32) : Met l yX6_strangers wsX6_strangers ({ frames := 2, cells := 0, slots := 0, locals := 44 } : Room) (cP G [.ref mo] [ob mo 6 [.ref u0, .ref u1, .ref u2, .ref u3, .ref u4, .ref u5, .int (nI sm), .int (nI sa), .int (nI le), .int (nI ra), .int (nI fa)], ar G u0 481 nw, ar G u3 800 mk, ar G u4 800 vl]) (qI (fun rv H => ∃ (mk1 : Nat → Int32) (vl1 : Nat → Int32), rv = (nI (rfs σ (rsM σ) (nn σ))) ∧ va_P G.1 vwCl [ob mo 6 [.ref u0, .ref u1, .ref u2, .ref u3, .ref u4, .ref u5, .int (nI sm), .int (nI sa), .int (nI le), .int (nI ra), .int (nI fa)], ar G u0 481 nw, ar G u3 800 mk1, ar G u4 800 vl1] H) (mA [ob mo 6 [.ref u0, .ref u1, .ref u2, .ref u3, .ref u4, .ref u5, .int (nI sm), .int (nI sa), .int (nI le), .int (nI ra), .int (nI fa)], ar G u0 481 nw, ar G u3 800 mk, ar G u4 800 vl])) 0 0 (mA [ob mo 6 [.ref u0, .ref u1, .ref u2, .ref u3, .ref u4, .ref u5, .int (nI sm), .int (nI sa), .int (nI le), .int (nI ra), .int (nI fa)], ar G u0 481 nw, ar G u3 800 mk, ar G u4 800 vl]) := by
  refine met_muI (cc := cX6_strangers) (maxL := 6) (ty := .int) (own := RX6) (by decide) rfl rfl (fun _ _ _ => rfl) (Nat.le_of_ble_eq_true rfl) ?_
  intro p e s m args below meth cod Q A hx hb hml hown hts hK hP hD hS hret ls hl
  have hl : lv_has ls 6 [(0, .ref mo)] := hl
  have h24 := hB.n
  refine lv_aload_n hx hb dX6_strangers_0 rfl (lv_at hl 0 rfl) ?_
  refine g_V (k_V (q0 := 0) (ci := 6) (n := 0) (As := []) (rest := []) (wc := [ob mo 6 [.ref u0, .ref u1, .ref u2, .ref u3, .ref u4, .ref u5, .int (nI sm), .int (nI sa), .int (nI le), .int (nI ra), .int (nI fa)], ar G u0 481 nw, ar G u3 800 mk, ar G u4 800 vl]) hx hb hml hown hts (c_X6_layStore (l := l) (G := G) (mo := mo) (u0 := u0) (u1 := u1) (u2 := u2) (u3 := u3) (u4 := u4) (u5 := u5) (sm := sm) (sa := sa) (le := le) (ra := ra) (fa := fa) (σ := by first | assumption | omega) (nw := nw) (hR := by first | assumption | omega) (hB := by first | assumption | omega) (hT1 := by first | assumption | omega) (mk := mk) (vl := vl))  gX6_strangers_X6_layStore rfl rfl rfl (by decide +kernel) ⟨Nat.le_of_ble_eq_true rfl, Nat.le_of_ble_eq_true rfl⟩ rfl hK hP hD [0, 1, 2, 3] rfl (by decide)  rfl rfl rfl hl.1 rfl (Nat.le_of_ble_eq_true rfl) dX6_strangers_1 ⟨Nat.le_of_ble_eq_true rfl, Nat.le_of_ble_eq_true rfl⟩) hP hD hS [0, 1, 2, 3] rfl (fun H locs hB1 back hS => ?_)
  obtain ⟨mk11, vl11, hq1, hP1⟩ := hB1
  obtain ⟨hP, hD⟩ := back [ob mo 6 [.ref u0, .ref u1, .ref u2, .ref u3, .ref u4, .ref u5, .int (nI sm), .int (nI sa), .int (nI le), .int (nI ra), .int (nI fa)], ar G u0 481 nw, ar G u3 800 mk11, ar G u4 800 vl11] rfl hP1
  have hP : va_P G.1 vwCl [ob mo 6 [.ref u0, .ref u1, .ref u2, .ref u3, .ref u4, .ref u5, .int (nI sm), .int (nI sa), .int (nI le), .int (nI ra), .int (nI fa)], ar G u0 481 nw, ar G u3 800 mk11, ar G u4 800 vl11] H := hP
  have hD : va_D A [ob mo 6 [.ref u0, .ref u1, .ref u2, .ref u3, .ref u4, .ref u5, .int (nI sm), .int (nI sa), .int (nI le), .int (nI ra), .int (nI fa)], ar G u0 481 nw, ar G u3 800 mk11, ar G u4 800 vl11] := hD
  refine lv_iconst (v := (nI 0)) hx hb dX6_strangers_4 (by decide) ?_
  refine lv_istore_n (lv' := [(1, .int (nI 0)), (0, .ref mo)]) hx hb dX6_strangers_5 rfl hl (by decide) rfl (fun ls hl => ?_)
  refine lv_iconst (v := (nI 0)) hx hb dX6_strangers_6 (by decide) ?_
  refine lv_istore_n (lv' := [(2, .int (nI 0)), (1, .int (nI 0)), (0, .ref mo)]) hx hb dX6_strangers_7 rfl hl (by decide) rfl (fun ls hl => ?_)
  have L8 : ∀ (fu : Nat) (r : Nat) (k : Nat), nn σ + 1 - r < fu → r ≤ nn σ → k = rfs σ (rsM σ) r → k ≤ r * 16 → ∀ (H : Heap) (locs : List Loc), va_P G.1 vwCl [ob mo 6 [.ref u0, .ref u1, .ref u2, .ref u3, .ref u4, .ref u5, .int (nI sm), .int (nI sa), .int (nI le), .int (nI ra), .int (nI fa)], ar G u0 481 nw, ar G u3 800 mk11, ar G u4 800 vl11] H → va_D A [ob mo 6 [.ref u0, .ref u1, .ref u2, .ref u3, .ref u4, .ref u5, .int (nI sm), .int (nI sa), .int (nI le), .int (nI ra), .int (nI fa)], ar G u0 481 nw, ar G u3 800 mk11, ar G u4 800 vl11] → va_S A s.heap H locs → ∀ (ls : Array Slot), lv_has ls 6 [(0, .ref mo), (1, .int (nI k)), (2, .int (nI r))] → W p l e ({ frames := 2, cells := 0, slots := 0, locals := 44 } : Room) s m args below meth cod H locs 0 0 Q (F0 m 8 ls []) := by
    intro fu
    induction fu with
    | zero => intro r k hm; exact absurd hm (Nat.not_lt_zero _)
    | succ fu ih8 =>
      intro r k hm8 hr hk hkl H locs hP hD hS ls hl
      have hP : va_P G.1 vwCl [ob mo 6 [.ref u0, .ref u1, .ref u2, .ref u3, .ref u4, .ref u5, .int (nI sm), .int (nI sa), .int (nI le), .int (nI ra), .int (nI fa)], ar G u0 481 nw, ar G u3 800 mk11, ar G u4 800 vl11] H := hP
      have hD : va_D A [ob mo 6 [.ref u0, .ref u1, .ref u2, .ref u3, .ref u4, .ref u5, .int (nI sm), .int (nI sa), .int (nI le), .int (nI ra), .int (nI fa)], ar G u0 481 nw, ar G u3 800 mk11, ar G u4 800 vl11] := hD
      refine lv_iload_n hx hb dX6_strangers_8 rfl (lv_at hl 2 rfl) ?_
      refine lv_aload_n hx hb dX6_strangers_9 rfl (lv_at hl 0 rfl) ?_
      refine va_get (D := G.1) (ci := 6) (v := .ref u0) (C := RX6) (T := TX6) (N := 11) hx hb hts iqX6_strangers_X6 hown hK.1 hP 0 rfl rfl 0 (by decide) (hts (.fieldLink RX6 7 "PushedTablesModel" "now" "[I") (List.mem_of_getElem? (i := 1) rfl)) (fun _ h9 => h9) rfl dX6_strangers_10 ?_
      refine lv_iconst (v := (nI 0)) hx hb dX6_strangers_13 (by decide) ?_
      refine r_iald (e1 := 0) (v := (nI (nn σ))) hx hb hK.1 hP 1 0 rfl rfl (by omega) (by first | decide | assumption) (hR.n) dX6_strangers_14 ?_
      refine r_icmp_ge (P := (nn σ) ≤ r) (tgt := 94) hx hb dX6_strangers_15 (by decide) (nI_leI (by omega) (by omega)) (fun cq15 => ?_) (fun cq15 => ?_)
      · refine lv_iload_n hx hb dX6_strangers_94 rfl (lv_at hl 1 rfl) ?_
        obtain rfl : r = nn σ := by omega
        exact hret _ _ _ _ _ hS dX6_strangers_95 (⟨mk11, vl11, by rw [hk], hP⟩)
      · have bfr := hB.f r
        have rfl_ := rfo_le σ (rsM σ) r
        refine lv_aload_n hx hb dX6_strangers_18 rfl (lv_at hl 0 rfl) ?_
        refine va_get (D := G.1) (ci := 6) (v := .ref u0) (C := RX6) (T := TX6) (N := 11) hx hb hts iqX6_strangers_X6 hown hK.1 hP 0 rfl rfl 0 (by decide) (hts (.fieldLink RX6 7 "PushedTablesModel" "now" "[I") (List.mem_of_getElem? (i := 1) rfl)) (fun _ h9 => h9) rfl dX6_strangers_19 ?_
        refine lv_bipush (v := (nI 49)) hx hb dX6_strangers_22 (by decide) ?_
        refine lv_iload_n hx hb dX6_strangers_24 rfl (lv_at hl 2 rfl) ?_
        refine r_iadd (v := 49 + r) hx hb dX6_strangers_25 rfl ?_
        refine r_iald (e1 := 49 + r) (v := (e1 (ff σ r))) hx hb hK.1 hP 1 0 rfl rfl (by omega) (by first | decide | assumption) (hR.f (by omega)) dX6_strangers_26 ?_
        refine lv_istore_n (lv' := [(3, .int (e1 (ff σ r))), (0, .ref mo), (1, .int (nI k)), (2, .int (nI r))]) hx hb dX6_strangers_27 rfl hl (by decide) rfl (fun ls hl => ?_)
        refine lv_iconst (v := (nI 0)) hx hb dX6_strangers_28 (by decide) ?_
        refine lv_istore (lv' := [(4, .int (nI 0)), (3, .int (e1 (ff σ r))), (0, .ref mo), (1, .int (nI k)), (2, .int (nI r))]) hx hb dX6_strangers_29 hl (by decide) rfl (fun ls hl => ?_)
        have L31 : ∀ (fu : Nat) (c : Nat) (k2 : Nat), 17 - c < fu → c ≤ 16 → k2 = k + (if ff σ r = 1000 then 0 else fb_ct (rfP σ (rsM σ) r) c) → k2 ≤ r * 16 + c → ∀ (H : Heap) (locs : List Loc), va_P G.1 vwCl [ob mo 6 [.ref u0, .ref u1, .ref u2, .ref u3, .ref u4, .ref u5, .int (nI sm), .int (nI sa), .int (nI le), .int (nI ra), .int (nI fa)], ar G u0 481 nw, ar G u3 800 mk11, ar G u4 800 vl11] H → va_D A [ob mo 6 [.ref u0, .ref u1, .ref u2, .ref u3, .ref u4, .ref u5, .int (nI sm), .int (nI sa), .int (nI le), .int (nI ra), .int (nI fa)], ar G u0 481 nw, ar G u3 800 mk11, ar G u4 800 vl11] → va_S A s.heap H locs → ∀ (ls : Array Slot), lv_has ls 6 [(0, .ref mo), (1, .int (nI k2)), (2, .int (nI r)), (3, .int (e1 (ff σ r))), (4, .int (nI c))] → W p l e ({ frames := 2, cells := 0, slots := 0, locals := 44 } : Room) s m args below meth cod H locs 0 0 Q (F0 m 31 ls []) := by
          intro fu
          induction fu with
          | zero => intro c k2 hm; exact absurd hm (Nat.not_lt_zero _)
          | succ fu ih31 =>
            intro c k2 hm31 hc hk2 hk2l H locs hP hD hS ls hl
            have hP : va_P G.1 vwCl [ob mo 6 [.ref u0, .ref u1, .ref u2, .ref u3, .ref u4, .ref u5, .int (nI sm), .int (nI sa), .int (nI le), .int (nI ra), .int (nI fa)], ar G u0 481 nw, ar G u3 800 mk11, ar G u4 800 vl11] H := hP
            have hD : va_D A [ob mo 6 [.ref u0, .ref u1, .ref u2, .ref u3, .ref u4, .ref u5, .int (nI sm), .int (nI sa), .int (nI le), .int (nI ra), .int (nI fa)], ar G u0 481 nw, ar G u3 800 mk11, ar G u4 800 vl11] := hD
            refine lv_iload hx hb dX6_strangers_31 (lv_at hl 4 rfl) ?_
            refine lv_bipush (v := (nI 16)) hx hb dX6_strangers_33 (by decide) ?_
            refine r_icmp_ge (P := 16 ≤ c) (tgt := 88) hx hb dX6_strangers_35 (by decide) (nI_leI (by omega) (by omega)) (fun cq35 => ?_) (fun cq35 => ?_)
            · refine r_iinc (v := r + 1) (lv' := [(2, .int (nI (r + 1))), (0, .ref mo), (1, .int (nI k2)), (3, .int (e1 (ff σ r))), (4, .int (nI c))]) hx hb dX6_strangers_88 hl (k := 2) rfl (nI_1 _) (by decide) rfl (fun ls hl => ?_)
              refine lv_goto (tgt := 8) hx hb dX6_strangers_91 (by decide) ?_
              exact ih8 (r + 1) k2 (by omega) (by omega) (by have e : c = 16 := (by omega); rw [hk2, e]; by_cases z : ff σ r = 1000; rw [if_pos z, hk]; show _ = rfs σ (rsM σ) r + rfo σ (rsM σ) r; rw [rfo_0 z]; rw [if_neg z, hk]; show _ = rfs σ (rsM σ) r + rfo σ (rsM σ) r; rw [rfo_1 hB z (hT1 r (by omega) z)]) (by omega) _ _ hP hD hS ls (lv_sub hl [1, 2, 0] rfl)
            · refine lv_iload_n hx hb dX6_strangers_38 rfl (lv_at hl 3 rfl) ?_
              refine r_if_lt (P := (ff σ r) = 1000) (tgt := 88) hx hb dX6_strangers_39 (by decide) (e1_lt0 (by omega)) (fun cq39 => ?_) (fun cq39 => ?_)
              · refine r_iinc (v := r + 1) (lv' := [(2, .int (nI (r + 1))), (0, .ref mo), (1, .int (nI k2)), (3, .int (e1 (ff σ r))), (4, .int (nI c))]) hx hb dX6_strangers_88 hl (k := 2) rfl (nI_1 _) (by decide) rfl (fun ls hl => ?_)
                refine lv_goto (tgt := 8) hx hb dX6_strangers_91 (by decide) ?_
                exact ih8 (r + 1) k2 (by omega) (by omega) (by rw [hk2, if_pos cq39, hk]; show _ = rfs σ (rsM σ) r + rfo σ (rsM σ) r; rw [rfo_0 cq39]) (by omega) _ _ hP hD hS ls (lv_sub hl [1, 2, 0] rfl)
              · have sz1 := hT1 r (by omega) cq39
                have hsf := sh_of hB cq39
                have bm : rsM σ (ss σ (ff σ r) + c) < 24 ∨ rsM σ (ss σ (ff σ r) + c) = 1000 := rsT_Bc hB (nn σ) _
                refine lv_aload_n hx hb dX6_strangers_42 rfl (lv_at hl 0 rfl) ?_
                refine va_get (D := G.1) (ci := 6) (v := .ref u3) (C := RX6) (T := TX6) (N := 11) hx hb hts iqX6_strangers_X6 hown hK.1 hP 0 rfl rfl 3 (by decide) (hts (.fieldLink RX6 19 "PushedTablesModel" "marks" "[I") (List.mem_of_getElem? (i := 2) rfl)) (fun _ h9 => h9) rfl dX6_strangers_43 ?_
                refine lv_aload_n hx hb dX6_strangers_46 rfl (lv_at hl 0 rfl) ?_
                refine va_get (D := G.1) (ci := 6) (v := .ref u0) (C := RX6) (T := TX6) (N := 11) hx hb hts iqX6_strangers_X6 hown hK.1 hP 0 rfl rfl 0 (by decide) (hts (.fieldLink RX6 7 "PushedTablesModel" "now" "[I") (List.mem_of_getElem? (i := 1) rfl)) (fun _ h9 => h9) rfl dX6_strangers_47 ?_
                refine lv_sipush (v := (nI 457)) hx hb dX6_strangers_50 (by decide) ?_
                refine lv_iload_n hx hb dX6_strangers_53 rfl (lv_at hl 3 rfl) ?_
                refine r_top (y := (nI (ff σ r))) (e1_n cq39) ?_
                refine r_iadd (v := 457 + (ff σ r)) hx hb dX6_strangers_54 rfl ?_
                refine r_iald (e1 := 457 + (ff σ r)) (v := (nI (ss σ (ff σ r)))) hx hb hK.1 hP 1 0 rfl rfl (by omega) (by first | decide | assumption) ((hR.s (by omega)).trans (e1_n (by omega))) dX6_strangers_55 ?_
                refine lv_iload hx hb dX6_strangers_56 (lv_at hl 4 rfl) ?_
                refine r_iadd (v := (ss σ (ff σ r)) + c) hx hb dX6_strangers_58 rfl ?_
                refine r_iald (e1 := (ss σ (ff σ r)) + c) (v := (e1 (rsM σ (ss σ (ff σ r) + c)))) hx hb hK.1 hP 2 0 rfl rfl (by omega) (by first | decide | assumption) ((hq1 _ (by omega)).1) dX6_strangers_59 ?_
                refine lv_istore (lv' := [(5, .int (e1 (rsM σ (ss σ (ff σ r) + c)))), (0, .ref mo), (1, .int (nI k2)), (2, .int (nI r)), (3, .int (e1 (ff σ r))), (4, .int (nI c))]) hx hb dX6_strangers_60 hl (by decide) rfl (fun ls hl => ?_)
                refine lv_iload_n hx hb dX6_strangers_62 rfl (lv_at hl 2 rfl) ?_
                refine lv_iload hx hb dX6_strangers_63 (lv_at hl 0 rfl) ?_
                refine lv_iconst (v := (e1 1000)) hx hb dX6_strangers_65 (by decide) ?_
                refine r_icmp_eq (P := (rsM σ (ss σ (ff σ r) + c)) = 1000) (tgt := 79) hx hb dX6_strangers_66 (by decide) (e1_inj (by omega) (by omega)) (fun cq66 => ?_) (fun cq66 => ?_)
                · refine lv_iconst (v := (nI 0)) hx hb dX6_strangers_79 (by decide) ?_
                  refine r_iadd (v := k2 + 0) hx hb dX6_strangers_80 rfl ?_
                  refine lv_istore_n (lv' := [(1, .int (nI (k2 + 0))), (5, .int (e1 (rsM σ (ss σ (ff σ r) + c)))), (0, .ref mo), (2, .int (nI r)), (3, .int (e1 (ff σ r))), (4, .int (nI c))]) hx hb dX6_strangers_81 rfl hl (by decide) rfl (fun ls hl => ?_)
                  refine r_iinc (v := c + 1) (lv' := [(4, .int (nI (c + 1))), (1, .int (nI (k2 + 0))), (5, .int (e1 (rsM σ (ss σ (ff σ r) + c)))), (0, .ref mo), (2, .int (nI r)), (3, .int (e1 (ff σ r)))]) hx hb dX6_strangers_82 hl (k := 5) rfl (nI_1 _) (by decide) rfl (fun ls hl => ?_)
                  refine lv_goto (tgt := 31) hx hb dX6_strangers_85 (by decide) ?_
                  exact ih31 (c + 1) (k2 + 0) (by omega) (by omega) (by have p : rfP σ (rsM σ) r c = false := (by unfold rfP nem; rw [hsf, decide_eq_false (fun z => z cq66), Bool.false_and]); rw [hk2, if_neg cq39, if_neg cq39, fb_ct_succ, p]; rfl) (by omega) _ _ hP hD hS ls (lv_sub hl [3, 1, 4, 5, 0] rfl)
                · refine lv_iload hx hb dX6_strangers_69 (lv_at hl 0 rfl) ?_
                  refine lv_iload_n hx hb dX6_strangers_71 rfl (lv_at hl 4 rfl) ?_
                  refine r_icmp_eq (P := (rsM σ (ss σ (ff σ r) + c)) = (ff σ r)) (tgt := 79) hx hb dX6_strangers_72 (by decide) (e1_inj (by omega) (by omega)) (fun cq72 => ?_) (fun cq72 => ?_)
                  · refine lv_iconst (v := (nI 0)) hx hb dX6_strangers_79 (by decide) ?_
                    refine r_iadd (v := k2 + 0) hx hb dX6_strangers_80 rfl ?_
                    refine lv_istore_n (lv' := [(1, .int (nI (k2 + 0))), (5, .int (e1 (rsM σ (ss σ (ff σ r) + c)))), (0, .ref mo), (2, .int (nI r)), (3, .int (e1 (ff σ r))), (4, .int (nI c))]) hx hb dX6_strangers_81 rfl hl (by decide) rfl (fun ls hl => ?_)
                    refine r_iinc (v := c + 1) (lv' := [(4, .int (nI (c + 1))), (1, .int (nI (k2 + 0))), (5, .int (e1 (rsM σ (ss σ (ff σ r) + c)))), (0, .ref mo), (2, .int (nI r)), (3, .int (e1 (ff σ r)))]) hx hb dX6_strangers_82 hl (k := 5) rfl (nI_1 _) (by decide) rfl (fun ls hl => ?_)
                    refine lv_goto (tgt := 31) hx hb dX6_strangers_85 (by decide) ?_
                    exact ih31 (c + 1) (k2 + 0) (by omega) (by omega) (by have p : rfP σ (rsM σ) r c = false := (by unfold rfP nem; rw [hsf, decide_eq_false (p := _ ≠ ff σ r) (fun z => z cq72), Bool.and_false]); rw [hk2, if_neg cq39, if_neg cq39, fb_ct_succ, p]; rfl) (by omega) _ _ hP hD hS ls (lv_sub hl [3, 1, 4, 5, 0] rfl)
                  · refine lv_iconst (v := (nI 1)) hx hb dX6_strangers_75 (by decide) ?_
                    refine lv_goto (tgt := 80) hx hb dX6_strangers_76 (by decide) ?_
                    refine r_iadd (v := k2 + 1) hx hb dX6_strangers_80 rfl ?_
                    refine lv_istore_n (lv' := [(1, .int (nI (k2 + 1))), (5, .int (e1 (rsM σ (ss σ (ff σ r) + c)))), (0, .ref mo), (2, .int (nI r)), (3, .int (e1 (ff σ r))), (4, .int (nI c))]) hx hb dX6_strangers_81 rfl hl (by decide) rfl (fun ls hl => ?_)
                    refine r_iinc (v := c + 1) (lv' := [(4, .int (nI (c + 1))), (1, .int (nI (k2 + 1))), (5, .int (e1 (rsM σ (ss σ (ff σ r) + c)))), (0, .ref mo), (2, .int (nI r)), (3, .int (e1 (ff σ r)))]) hx hb dX6_strangers_82 hl (k := 5) rfl (nI_1 _) (by decide) rfl (fun ls hl => ?_)
                    refine lv_goto (tgt := 31) hx hb dX6_strangers_85 (by decide) ?_
                    exact ih31 (c + 1) (k2 + 1) (by omega) (by omega) (by have p : rfP σ (rsM σ) r c = true := (by unfold rfP nem; rw [hsf, decide_eq_true cq66, decide_eq_true (p := _ ≠ ff σ r) cq72]; rfl); rw [hk2, if_neg cq39, if_neg cq39, fb_ct_succ, p]; rfl) (by omega) _ _ hP hD hS ls (lv_sub hl [3, 1, 4, 5, 0] rfl)
        exact L31 ((17 - 0) + 1) 0 k (Nat.lt_succ_self _) (by omega) (by split <;> rfl) (by omega) _ _ hP hD hS ls (lv_sub hl [2, 3, 4, 1, 0] rfl)
  exact L8 ((nn σ + 1 - 0) + 1) 0 0 (Nat.lt_succ_self _) (by omega) (rfl) (by omega) _ _ hP hD hS ls (lv_sub hl [2, 1, 0] rfl)

theorem iqX6_count_ok_X6 : ∀ w ∈ u_ws RX6 TX6 11, w ∈ wsX6_count := by decide +kernel
set_option maxHeartbeats 1000000 in
set_option maxRecDepth 100000 in
theorem c_X6_count_ok (l : Launch) (G : kG) (mo u0 u1 u2 u3 u4 u5 sm sa le ra fa : Nat) (σ : Sg) (nw : Nat → Int32) (hR : Rel σ nw) (hB : Bd σ) (hT1 : ∀ r, r < nn σ → ff σ r ≠ 1000 → ss σ (ff σ r) ≤ 784) (w : Nat) (hw : w ≤ 8) (hsm : sm ≤ 5) (hle : le ≤ 100) (mk vl : Nat → Int32) : Met l yX6_count wsX6_count ({ frames := 3, cells := 0, slots := 0, locals := 69 } : Room) (cP G [.ref mo, .int (nI w)] [ob mo 6 [.ref u0, .ref u1, .ref u2, .ref u3, .ref u4, .ref u5, .int (nI sm), .int (nI sa), .int (nI le), .int (nI ra), .int (nI fa)], ar G u0 481 nw, ar G u3 800 mk, ar G u4 800 vl]) (qI (fun rv H => ∃ (mk1 : Nat → Int32) (vl1 : Nat → Int32), rv = (nI (cnF σ (rsM σ) sm le w)) ∧ va_P G.1 vwCl [ob mo 6 [.ref u0, .ref u1, .ref u2, .ref u3, .ref u4, .ref u5, .int (nI sm), .int (nI sa), .int (nI le), .int (nI ra), .int (nI fa)], ar G u0 481 nw, ar G u3 800 mk1, ar G u4 800 vl1] H) (mA [ob mo 6 [.ref u0, .ref u1, .ref u2, .ref u3, .ref u4, .ref u5, .int (nI sm), .int (nI sa), .int (nI le), .int (nI ra), .int (nI fa)], ar G u0 481 nw, ar G u3 800 mk, ar G u4 800 vl])) 0 0 (mA [ob mo 6 [.ref u0, .ref u1, .ref u2, .ref u3, .ref u4, .ref u5, .int (nI sm), .int (nI sa), .int (nI le), .int (nI ra), .int (nI fa)], ar G u0 481 nw, ar G u3 800 mk, ar G u4 800 vl]) := by
  refine met_muI (cc := cX6_count) (maxL := 4) (ty := .int) (own := RX6) (by decide) rfl rfl (fun _ _ _ => rfl) (Nat.le_of_ble_eq_true rfl) ?_
  intro p e s m args below meth cod Q A hx hb hml hown hts hK hP hD hS hret ls hl
  have hl : lv_has ls 4 [(0, .ref mo), (1, .int (nI w))] := hl
  have h24 := hB.n
  have hwi := nI_toInt (n := w) (by omega)
  have fe : fil (rsM σ) ≤ endc (rsM σ) := fil_endc (nem (rsM σ)) 800
  have fe2 := endc_le (rsM σ)
  refine lv_iload_n hx hb dX6_count_0 rfl (lv_at hl 1 rfl) ?_
  rcases (show (nI w).toInt < 0 ∨ 0 ≤ (nI w).toInt by omega) with cq1 | cq1
  · refine lv_tableOut (tgt := 132) hx hb dX6_count_1 (Or.inl cq1) (by decide) ?_
    refine lv_iconst (v := (-1)) hx hb dX6_count_132 (by decide) ?_
    exact hret _ _ _ _ _ hS dX6_count_133 (⟨mk, vl, by exfalso; omega, hP⟩)
  rcases (show 8 < (nI w).toInt ∨ (nI w).toInt ≤ 8 by omega) with dq1 | dq1
  · refine lv_tableOut (tgt := 132) hx hb dX6_count_1 (Or.inr dq1) (by decide) ?_
    refine lv_iconst (v := (-1)) hx hb dX6_count_132 (by decide) ?_
    exact hret _ _ _ _ _ hS dX6_count_133 (⟨mk, vl, by exfalso; omega, hP⟩)
  have sw1 : (nI w).toInt = 0 ∨ (nI w).toInt = 1 ∨ (nI w).toInt = 2 ∨ (nI w).toInt = 3 ∨ (nI w).toInt = 4 ∨ (nI w).toInt = 5 ∨ (nI w).toInt = 6 ∨ (nI w).toInt = 7 ∨ (nI w).toInt = 8 := by omega
  rcases sw1 with sw1 | sw1 | sw1 | sw1 | sw1 | sw1 | sw1 | sw1 | sw1
  · refine lv_tableIn (off := 51) (tgt := 52) hx hb dX6_count_1 (by omega) (by omega) (by rw [sw1]; rfl) (by decide) ?_
    have ew : w = 0 := (by rw [nI_toInt (by omega)] at sw1; omega)
    subst ew
    refine lv_aload_n hx hb dX6_count_52 rfl (lv_at hl 0 rfl) ?_
    refine va_get (D := G.1) (ci := 6) (v := .ref u0) (C := RX6) (T := TX6) (N := 11) hx hb hts iqX6_count_ok_X6 hown hK.1 hP 0 rfl rfl 0 (by decide) (hts (.fieldLink RX6 7 "PushedTablesModel" "now" "[I") (List.mem_of_getElem? (i := 1) rfl)) (fun _ h9 => h9) rfl dX6_count_53 ?_
    refine lv_iconst (v := (nI 0)) hx hb dX6_count_56 (by decide) ?_
    refine r_iald (e1 := 0) (v := (nI (nn σ))) hx hb hK.1 hP 1 0 rfl rfl (by omega) (by first | decide | assumption) (hR.n) dX6_count_57 ?_
    exact hret _ _ _ _ _ hS dX6_count_58 (⟨mk, vl, rfl, hP⟩)
  · refine lv_tableIn (off := 58) (tgt := 59) hx hb dX6_count_1 (by omega) (by omega) (by rw [sw1]; rfl) (by decide) ?_
    have ew : w = 1 := (by rw [nI_toInt (by omega)] at sw1; omega)
    subst ew
    refine lv_aload_n hx hb dX6_count_59 rfl (lv_at hl 0 rfl) ?_
    refine g_ro (k_V (q0 := 0) (ci := 6) (n := 0) (As := []) (rest := []) (wc := [ob mo 6 [.ref u0, .ref u1, .ref u2, .ref u3, .ref u4, .ref u5, .int (nI sm), .int (nI sa), .int (nI le), .int (nI ra), .int (nI fa)], ar G u0 481 nw]) hx hb hml hown hts (c_X6_formMany (l := l) (G := G) (mo := mo) (u0 := u0) (u1 := u1) (u2 := u2) (u3 := u3) (u4 := u4) (u5 := u5) (sm := sm) (sa := sa) (le := le) (ra := ra) (fa := fa) (σ := by first | assumption | omega) (nw := nw) (hR := by first | assumption | omega) (hB := by first | assumption | omega))  gX6_count_X6_formMany rfl rfl rfl (by decide +kernel) ⟨Nat.le_of_ble_eq_true rfl, Nat.le_of_ble_eq_true rfl⟩ rfl hK hP hD [0, 1] rfl (by decide)  rfl rfl rfl hl.1 rfl (Nat.le_of_ble_eq_true rfl) dX6_count_60 ⟨Nat.le_of_ble_eq_true rfl, Nat.le_of_ble_eq_true rfl⟩) (fun r60 h60 => ?_)
    obtain rfl : (nI (fcnt σ)) = r60 := Eq.symm h60
    have b60 := fcnt_le σ
    exact hret _ _ _ _ _ hS dX6_count_63 (⟨mk, vl, rfl, hP⟩)
  · refine lv_tableIn (off := 63) (tgt := 64) hx hb dX6_count_1 (by omega) (by omega) (by rw [sw1]; rfl) (by decide) ?_
    have ew : w = 2 := (by rw [nI_toInt (by omega)] at sw1; omega)
    refine lv_iconst (v := (nI 0)) hx hb dX6_count_64 (by decide) ?_
    refine lv_istore_n (lv' := [(2, .int (nI 0)), (0, .ref mo), (1, .int (nI w))]) hx hb dX6_count_65 rfl hl (by decide) rfl (fun ls hl => ?_)
    refine lv_iconst (v := (nI 0)) hx hb dX6_count_66 (by decide) ?_
    refine lv_istore_n (lv' := [(3, .int (nI 0)), (2, .int (nI 0)), (0, .ref mo), (1, .int (nI w))]) hx hb dX6_count_67 rfl hl (by decide) rfl (fun ls hl => ?_)
    have L68 : ∀ (fu : Nat) (r : Nat) (k : Nat), nn σ + 1 - r < fu → r ≤ nn σ → k = fb_sm (wt σ) r → k ≤ r * 16 → ∀ (H : Heap) (locs : List Loc), va_P G.1 vwCl [ob mo 6 [.ref u0, .ref u1, .ref u2, .ref u3, .ref u4, .ref u5, .int (nI sm), .int (nI sa), .int (nI le), .int (nI ra), .int (nI fa)], ar G u0 481 nw, ar G u3 800 mk, ar G u4 800 vl] H → va_D A [ob mo 6 [.ref u0, .ref u1, .ref u2, .ref u3, .ref u4, .ref u5, .int (nI sm), .int (nI sa), .int (nI le), .int (nI ra), .int (nI fa)], ar G u0 481 nw, ar G u3 800 mk, ar G u4 800 vl] → va_S A s.heap H locs → ∀ (ls : Array Slot), lv_has ls 4 [(0, .ref mo), (1, .int (nI w)), (2, .int (nI k)), (3, .int (nI r))] → W p l e ({ frames := 3, cells := 0, slots := 0, locals := 69 } : Room) s m args below meth cod H locs 0 0 Q (F0 m 68 ls []) := by
      intro fu
      induction fu with
      | zero => intro r k hm; exact absurd hm (Nat.not_lt_zero _)
      | succ fu ih68 =>
        intro r k hm68 hr hk hkl H locs hP hD hS ls hl
        have hP : va_P G.1 vwCl [ob mo 6 [.ref u0, .ref u1, .ref u2, .ref u3, .ref u4, .ref u5, .int (nI sm), .int (nI sa), .int (nI le), .int (nI ra), .int (nI fa)], ar G u0 481 nw, ar G u3 800 mk, ar G u4 800 vl] H := hP
        have hD : va_D A [ob mo 6 [.ref u0, .ref u1, .ref u2, .ref u3, .ref u4, .ref u5, .int (nI sm), .int (nI sa), .int (nI le), .int (nI ra), .int (nI fa)], ar G u0 481 nw, ar G u3 800 mk, ar G u4 800 vl] := hD
        refine lv_iload_n hx hb dX6_count_68 rfl (lv_at hl 3 rfl) ?_
        refine lv_aload_n hx hb dX6_count_69 rfl (lv_at hl 0 rfl) ?_
        refine va_get (D := G.1) (ci := 6) (v := .ref u0) (C := RX6) (T := TX6) (N := 11) hx hb hts iqX6_count_ok_X6 hown hK.1 hP 0 rfl rfl 0 (by decide) (hts (.fieldLink RX6 7 "PushedTablesModel" "now" "[I") (List.mem_of_getElem? (i := 1) rfl)) (fun _ h9 => h9) rfl dX6_count_70 ?_
        refine lv_iconst (v := (nI 0)) hx hb dX6_count_73 (by decide) ?_
        refine r_iald (e1 := 0) (v := (nI (nn σ))) hx hb hK.1 hP 1 0 rfl rfl (by omega) (by first | decide | assumption) (hR.n) dX6_count_74 ?_
        refine r_icmp_ge (P := (nn σ) ≤ r) (tgt := 95) hx hb dX6_count_75 (by decide) (nI_leI (by omega) (by omega)) (fun cq75 => ?_) (fun cq75 => ?_)
        · refine lv_iload_n hx hb dX6_count_95 rfl (lv_at hl 2 rfl) ?_
          exact hret _ _ _ _ _ hS dX6_count_96 (⟨mk, vl, by have e : r = nn σ := (by omega); rw [ew, hk, e]; rfl, hP⟩)
        · have wl := wt_le σ r
          refine lv_iload_n hx hb dX6_count_78 rfl (lv_at hl 2 rfl) ?_
          refine lv_aload_n hx hb dX6_count_79 rfl (lv_at hl 0 rfl) ?_
          refine lv_iload_n hx hb dX6_count_80 rfl (lv_at hl 3 rfl) ?_
          refine g_ro (k_V (q0 := 0) (ci := 6) (n := 1) (As := [.int (nI r)]) (rest := [.int (nI k)]) (wc := [ob mo 6 [.ref u0, .ref u1, .ref u2, .ref u3, .ref u4, .ref u5, .int (nI sm), .int (nI sa), .int (nI le), .int (nI ra), .int (nI fa)], ar G u0 481 nw]) hx hb hml hown hts (c_X6_entries (l := l) (G := G) (mo := mo) (u0 := u0) (u1 := u1) (u2 := u2) (u3 := u3) (u4 := u4) (u5 := u5) (sm := sm) (sa := sa) (le := le) (ra := ra) (fa := fa) (σ := by first | assumption | omega) (nw := nw) (hR := by first | assumption | omega) (hB := by first | assumption | omega) (r := r) (hr := by first | assumption | omega))  gX6_count_X6_entries rfl rfl rfl (by decide +kernel) ⟨Nat.le_of_ble_eq_true rfl, Nat.le_of_ble_eq_true rfl⟩ rfl hK hP hD [0, 1] rfl (by decide)  rfl rfl rfl hl.1 rfl (Nat.le_of_ble_eq_true rfl) dX6_count_81 ⟨Nat.le_of_ble_eq_true rfl, Nat.le_of_ble_eq_true rfl⟩) (fun r81 h81 => ?_)
          obtain rfl : (nI (cols σ r)) = r81 := Eq.symm h81
          have b81 := cols_lt σ r
          refine g_ro (k_S (n := 1) (As := [.int (nI (cols σ r))]) (rest := [.int (nI k)]) (wc := []) hx hb hml hown hts (c_X6_bits (l := l) (G := G) (m2 := cols σ r) (hm2 := by first | assumption | omega))  gX6_count_X6_bits rfl rfl rfl (by decide +kernel) ⟨Nat.le_of_ble_eq_true rfl, Nat.le_of_ble_eq_true rfl⟩ rfl hK hP hD [] rfl (by decide)  hl.1 rfl (Nat.le_of_ble_eq_true rfl) dX6_count_84 ⟨Nat.le_of_ble_eq_true rfl, Nat.le_of_ble_eq_true rfl⟩) (fun r84 h84 => ?_)
          obtain rfl : (nI (pop (cols σ r))) = r84 := Eq.symm h84
          have b84 := pop_le (cols σ r)
          refine r_top (y := (nI (wt σ r))) (congrArg nI (pop_cols σ r)) ?_
          refine r_iadd (v := k + (wt σ r)) hx hb dX6_count_87 rfl ?_
          refine lv_istore_n (lv' := [(2, .int (nI (k + (wt σ r)))), (0, .ref mo), (1, .int (nI w)), (3, .int (nI r))]) hx hb dX6_count_88 rfl hl (by decide) rfl (fun ls hl => ?_)
          refine r_iinc (v := r + 1) (lv' := [(3, .int (nI (r + 1))), (2, .int (nI (k + (wt σ r)))), (0, .ref mo), (1, .int (nI w))]) hx hb dX6_count_89 hl (k := 3) rfl (nI_1 _) (by decide) rfl (fun ls hl => ?_)
          refine lv_goto (tgt := 68) hx hb dX6_count_92 (by decide) ?_
          exact ih68 (r + 1) (k + (wt σ r)) (by omega) (by omega) (by rw [hk]; rfl) (by omega) _ _ hP hD hS ls (lv_sub hl [2, 3, 1, 0] rfl)
    exact L68 ((nn σ + 1 - 0) + 1) 0 0 (Nat.lt_succ_self _) (by omega) (rfl) (by omega) _ _ hP hD hS ls (lv_sub hl [2, 3, 1, 0] rfl)
  · refine lv_tableIn (off := 96) (tgt := 97) hx hb dX6_count_1 (by omega) (by omega) (by rw [sw1]; rfl) (by decide) ?_
    have ew : w = 3 := (by rw [nI_toInt (by omega)] at sw1; omega)
    subst ew
    refine lv_aload_n hx hb dX6_count_97 rfl (lv_at hl 0 rfl) ?_
    refine g_I (k_V (q0 := 0) (ci := 6) (n := 0) (As := []) (rest := []) (wc := [ob mo 6 [.ref u0, .ref u1, .ref u2, .ref u3, .ref u4, .ref u5, .int (nI sm), .int (nI sa), .int (nI le), .int (nI ra), .int (nI fa)], ar G u0 481 nw, ar G u3 800 mk, ar G u4 800 vl]) hx hb hml hown hts (c_X6_full (l := l) (G := G) (mo := mo) (u0 := u0) (u1 := u1) (u2 := u2) (u3 := u3) (u4 := u4) (u5 := u5) (sm := sm) (sa := sa) (le := le) (ra := ra) (fa := fa) (σ := by first | assumption | omega) (nw := nw) (hR := by first | assumption | omega) (hB := by first | assumption | omega) (hT1 := by first | assumption | omega) (mk := mk) (vl := vl))  gX6_count_X6_full rfl rfl rfl (by decide +kernel) ⟨Nat.le_of_ble_eq_true rfl, Nat.le_of_ble_eq_true rfl⟩ rfl hK hP hD [0, 1, 2, 3] rfl (by decide)  rfl rfl rfl hl.1 rfl (Nat.le_of_ble_eq_true rfl) dX6_count_98 ⟨Nat.le_of_ble_eq_true rfl, Nat.le_of_ble_eq_true rfl⟩) hP hD hS [0, 1, 2, 3] rfl (fun r98 H locs hB98 back hS => ?_)
    obtain ⟨mk198, vl198, he98, hP1⟩ := hB98
    obtain rfl := Eq.symm he98
    obtain ⟨hP, hD⟩ := back [ob mo 6 [.ref u0, .ref u1, .ref u2, .ref u3, .ref u4, .ref u5, .int (nI sm), .int (nI sa), .int (nI le), .int (nI ra), .int (nI fa)], ar G u0 481 nw, ar G u3 800 mk198, ar G u4 800 vl198] rfl hP1
    have hP : va_P G.1 vwCl [ob mo 6 [.ref u0, .ref u1, .ref u2, .ref u3, .ref u4, .ref u5, .int (nI sm), .int (nI sa), .int (nI le), .int (nI ra), .int (nI fa)], ar G u0 481 nw, ar G u3 800 mk198, ar G u4 800 vl198] H := hP
    have hD : va_D A [ob mo 6 [.ref u0, .ref u1, .ref u2, .ref u3, .ref u4, .ref u5, .int (nI sm), .int (nI sa), .int (nI le), .int (nI ra), .int (nI fa)], ar G u0 481 nw, ar G u3 800 mk198, ar G u4 800 vl198] := hD
    exact hret _ _ _ _ _ hS dX6_count_101 (⟨mk198, vl198, rfl, hP⟩)
  · refine lv_tableIn (off := 101) (tgt := 102) hx hb dX6_count_1 (by omega) (by omega) (by rw [sw1]; rfl) (by decide) ?_
    have ew : w = 4 := (by rw [nI_toInt (by omega)] at sw1; omega)
    subst ew
    refine lv_aload_n hx hb dX6_count_102 rfl (lv_at hl 0 rfl) ?_
    refine g_I (k_V (q0 := 0) (ci := 6) (n := 0) (As := []) (rest := []) (wc := [ob mo 6 [.ref u0, .ref u1, .ref u2, .ref u3, .ref u4, .ref u5, .int (nI sm), .int (nI sa), .int (nI le), .int (nI ra), .int (nI fa)], ar G u0 481 nw, ar G u3 800 mk, ar G u4 800 vl]) hx hb hml hown hts (c_X6_end (l := l) (G := G) (mo := mo) (u0 := u0) (u1 := u1) (u2 := u2) (u3 := u3) (u4 := u4) (u5 := u5) (sm := sm) (sa := sa) (le := le) (ra := ra) (fa := fa) (σ := by first | assumption | omega) (nw := nw) (hR := by first | assumption | omega) (hB := by first | assumption | omega) (hT1 := by first | assumption | omega) (mk := mk) (vl := vl))  gX6_count_X6_end rfl rfl rfl (by decide +kernel) ⟨Nat.le_of_ble_eq_true rfl, Nat.le_of_ble_eq_true rfl⟩ rfl hK hP hD [0, 1, 2, 3] rfl (by decide)  rfl rfl rfl hl.1 rfl (Nat.le_of_ble_eq_true rfl) dX6_count_103 ⟨Nat.le_of_ble_eq_true rfl, Nat.le_of_ble_eq_true rfl⟩) hP hD hS [0, 1, 2, 3] rfl (fun r103 H locs hB103 back hS => ?_)
    obtain ⟨mk1103, vl1103, he103, hP1⟩ := hB103
    obtain rfl := Eq.symm he103
    obtain ⟨hP, hD⟩ := back [ob mo 6 [.ref u0, .ref u1, .ref u2, .ref u3, .ref u4, .ref u5, .int (nI sm), .int (nI sa), .int (nI le), .int (nI ra), .int (nI fa)], ar G u0 481 nw, ar G u3 800 mk1103, ar G u4 800 vl1103] rfl hP1
    have hP : va_P G.1 vwCl [ob mo 6 [.ref u0, .ref u1, .ref u2, .ref u3, .ref u4, .ref u5, .int (nI sm), .int (nI sa), .int (nI le), .int (nI ra), .int (nI fa)], ar G u0 481 nw, ar G u3 800 mk1103, ar G u4 800 vl1103] H := hP
    have hD : va_D A [ob mo 6 [.ref u0, .ref u1, .ref u2, .ref u3, .ref u4, .ref u5, .int (nI sm), .int (nI sa), .int (nI le), .int (nI ra), .int (nI fa)], ar G u0 481 nw, ar G u3 800 mk1103, ar G u4 800 vl1103] := hD
    exact hret _ _ _ _ _ hS dX6_count_106 (⟨mk1103, vl1103, rfl, hP⟩)
  · refine lv_tableIn (off := 106) (tgt := 107) hx hb dX6_count_1 (by omega) (by omega) (by rw [sw1]; rfl) (by decide) ?_
    have ew : w = 5 := (by rw [nI_toInt (by omega)] at sw1; omega)
    subst ew
    refine lv_aload_n hx hb dX6_count_107 rfl (lv_at hl 0 rfl) ?_
    refine g_I (k_V (q0 := 0) (ci := 6) (n := 0) (As := []) (rest := []) (wc := [ob mo 6 [.ref u0, .ref u1, .ref u2, .ref u3, .ref u4, .ref u5, .int (nI sm), .int (nI sa), .int (nI le), .int (nI ra), .int (nI fa)], ar G u0 481 nw, ar G u3 800 mk, ar G u4 800 vl]) hx hb hml hown hts (c_X6_end (l := l) (G := G) (mo := mo) (u0 := u0) (u1 := u1) (u2 := u2) (u3 := u3) (u4 := u4) (u5 := u5) (sm := sm) (sa := sa) (le := le) (ra := ra) (fa := fa) (σ := by first | assumption | omega) (nw := nw) (hR := by first | assumption | omega) (hB := by first | assumption | omega) (hT1 := by first | assumption | omega) (mk := mk) (vl := vl))  gX6_count_X6_end rfl rfl rfl (by decide +kernel) ⟨Nat.le_of_ble_eq_true rfl, Nat.le_of_ble_eq_true rfl⟩ rfl hK hP hD [0, 1, 2, 3] rfl (by decide)  rfl rfl rfl hl.1 rfl (Nat.le_of_ble_eq_true rfl) dX6_count_108 ⟨Nat.le_of_ble_eq_true rfl, Nat.le_of_ble_eq_true rfl⟩) hP hD hS [0, 1, 2, 3] rfl (fun r108 H locs hB108 back hS => ?_)
    obtain ⟨mk1108, vl1108, he108, hP1⟩ := hB108
    obtain rfl := Eq.symm he108
    obtain ⟨hP, hD⟩ := back [ob mo 6 [.ref u0, .ref u1, .ref u2, .ref u3, .ref u4, .ref u5, .int (nI sm), .int (nI sa), .int (nI le), .int (nI ra), .int (nI fa)], ar G u0 481 nw, ar G u3 800 mk1108, ar G u4 800 vl1108] rfl hP1
    have hP : va_P G.1 vwCl [ob mo 6 [.ref u0, .ref u1, .ref u2, .ref u3, .ref u4, .ref u5, .int (nI sm), .int (nI sa), .int (nI le), .int (nI ra), .int (nI fa)], ar G u0 481 nw, ar G u3 800 mk1108, ar G u4 800 vl1108] H := hP
    have hD : va_D A [ob mo 6 [.ref u0, .ref u1, .ref u2, .ref u3, .ref u4, .ref u5, .int (nI sm), .int (nI sa), .int (nI le), .int (nI ra), .int (nI fa)], ar G u0 481 nw, ar G u3 800 mk1108, ar G u4 800 vl1108] := hD
    refine lv_aload_n hx hb dX6_count_111 rfl (lv_at hl 0 rfl) ?_
    refine g_I (k_V (q0 := 0) (ci := 6) (n := 0) (As := []) (rest := [.int (nI (endc (rsM σ)))]) (wc := [ob mo 6 [.ref u0, .ref u1, .ref u2, .ref u3, .ref u4, .ref u5, .int (nI sm), .int (nI sa), .int (nI le), .int (nI ra), .int (nI fa)], ar G u0 481 nw, ar G u3 800 mk1108, ar G u4 800 vl1108]) hx hb hml hown hts (c_X6_full (l := l) (G := G) (mo := mo) (u0 := u0) (u1 := u1) (u2 := u2) (u3 := u3) (u4 := u4) (u5 := u5) (sm := sm) (sa := sa) (le := le) (ra := ra) (fa := fa) (σ := by first | assumption | omega) (nw := nw) (hR := by first | assumption | omega) (hB := by first | assumption | omega) (hT1 := by first | assumption | omega) (mk := mk1108) (vl := vl1108))  gX6_count_X6_full rfl rfl rfl (by decide +kernel) ⟨Nat.le_of_ble_eq_true rfl, Nat.le_of_ble_eq_true rfl⟩ rfl hK hP hD [0, 1, 2, 3] rfl (by decide)  rfl rfl rfl hl.1 rfl (Nat.le_of_ble_eq_true rfl) dX6_count_112 ⟨Nat.le_of_ble_eq_true rfl, Nat.le_of_ble_eq_true rfl⟩) hP hD hS [0, 1, 2, 3] rfl (fun r112 H locs hB112 back hS => ?_)
    obtain ⟨mk1112, vl1112, he112, hP1⟩ := hB112
    obtain rfl := Eq.symm he112
    obtain ⟨hP, hD⟩ := back [ob mo 6 [.ref u0, .ref u1, .ref u2, .ref u3, .ref u4, .ref u5, .int (nI sm), .int (nI sa), .int (nI le), .int (nI ra), .int (nI fa)], ar G u0 481 nw, ar G u3 800 mk1112, ar G u4 800 vl1112] rfl hP1
    have hP : va_P G.1 vwCl [ob mo 6 [.ref u0, .ref u1, .ref u2, .ref u3, .ref u4, .ref u5, .int (nI sm), .int (nI sa), .int (nI le), .int (nI ra), .int (nI fa)], ar G u0 481 nw, ar G u3 800 mk1112, ar G u4 800 vl1112] H := hP
    have hD : va_D A [ob mo 6 [.ref u0, .ref u1, .ref u2, .ref u3, .ref u4, .ref u5, .int (nI sm), .int (nI sa), .int (nI le), .int (nI ra), .int (nI fa)], ar G u0 481 nw, ar G u3 800 mk1112, ar G u4 800 vl1112] := hD
    refine r_isub (v := (endc (rsM σ)) - (fil (rsM σ))) hx hb dX6_count_115 (by omega) rfl ?_
    exact hret _ _ _ _ _ hS dX6_count_116 (⟨mk1112, vl1112, rfl, hP⟩)
  · refine lv_tableIn (off := 116) (tgt := 117) hx hb dX6_count_1 (by omega) (by omega) (by rw [sw1]; rfl) (by decide) ?_
    have ew : w = 6 := (by rw [nI_toInt (by omega)] at sw1; omega)
    subst ew
    refine lv_aload_n hx hb dX6_count_117 rfl (lv_at hl 0 rfl) ?_
    refine g_I (k_V (q0 := 0) (ci := 6) (n := 0) (As := []) (rest := []) (wc := [ob mo 6 [.ref u0, .ref u1, .ref u2, .ref u3, .ref u4, .ref u5, .int (nI sm), .int (nI sa), .int (nI le), .int (nI ra), .int (nI fa)], ar G u0 481 nw, ar G u3 800 mk, ar G u4 800 vl]) hx hb hml hown hts (c_X6_strangers (l := l) (G := G) (mo := mo) (u0 := u0) (u1 := u1) (u2 := u2) (u3 := u3) (u4 := u4) (u5 := u5) (sm := sm) (sa := sa) (le := le) (ra := ra) (fa := fa) (σ := by first | assumption | omega) (nw := nw) (hR := by first | assumption | omega) (hB := by first | assumption | omega) (hT1 := by first | assumption | omega) (mk := mk) (vl := vl))  gX6_count_X6_strangers rfl rfl rfl (by decide +kernel) ⟨Nat.le_of_ble_eq_true rfl, Nat.le_of_ble_eq_true rfl⟩ rfl hK hP hD [0, 1, 2, 3] rfl (by decide)  rfl rfl rfl hl.1 rfl (Nat.le_of_ble_eq_true rfl) dX6_count_118 ⟨Nat.le_of_ble_eq_true rfl, Nat.le_of_ble_eq_true rfl⟩) hP hD hS [0, 1, 2, 3] rfl (fun r118 H locs hB118 back hS => ?_)
    obtain ⟨mk1118, vl1118, he118, hP1⟩ := hB118
    obtain rfl := Eq.symm he118
    obtain ⟨hP, hD⟩ := back [ob mo 6 [.ref u0, .ref u1, .ref u2, .ref u3, .ref u4, .ref u5, .int (nI sm), .int (nI sa), .int (nI le), .int (nI ra), .int (nI fa)], ar G u0 481 nw, ar G u3 800 mk1118, ar G u4 800 vl1118] rfl hP1
    have hP : va_P G.1 vwCl [ob mo 6 [.ref u0, .ref u1, .ref u2, .ref u3, .ref u4, .ref u5, .int (nI sm), .int (nI sa), .int (nI le), .int (nI ra), .int (nI fa)], ar G u0 481 nw, ar G u3 800 mk1118, ar G u4 800 vl1118] H := hP
    have hD : va_D A [ob mo 6 [.ref u0, .ref u1, .ref u2, .ref u3, .ref u4, .ref u5, .int (nI sm), .int (nI sa), .int (nI le), .int (nI ra), .int (nI fa)], ar G u0 481 nw, ar G u3 800 mk1118, ar G u4 800 vl1118] := hD
    exact hret _ _ _ _ _ hS dX6_count_121 (⟨mk1118, vl1118, rfl, hP⟩)
  · refine lv_tableIn (off := 121) (tgt := 122) hx hb dX6_count_1 (by omega) (by omega) (by rw [sw1]; rfl) (by decide) ?_
    have ew : w = 7 := (by rw [nI_toInt (by omega)] at sw1; omega)
    subst ew
    refine lv_aload_n hx hb dX6_count_122 rfl (lv_at hl 0 rfl) ?_
    refine va_get (D := G.1) (ci := 6) (v := .int (nI sm)) (C := RX6) (T := TX6) (N := 11) hx hb hts iqX6_count_ok_X6 hown hK.1 hP 0 rfl rfl 6 (by decide) (hts (.fieldLink RX6 36 "PushedTablesModel" "stateMany" "I") (List.mem_of_getElem? (i := 2) rfl)) (fun _ h9 => h9) rfl dX6_count_123 ?_
    exact hret _ _ _ _ _ hS dX6_count_126 (⟨mk, vl, rfl, hP⟩)
  · refine lv_tableIn (off := 126) (tgt := 127) hx hb dX6_count_1 (by omega) (by omega) (by rw [sw1]; rfl) (by decide) ?_
    have ew : w = 8 := (by rw [nI_toInt (by omega)] at sw1; omega)
    subst ew
    refine lv_aload_n hx hb dX6_count_127 rfl (lv_at hl 0 rfl) ?_
    refine va_get (D := G.1) (ci := 6) (v := .int (nI le)) (C := RX6) (T := TX6) (N := 11) hx hb hts iqX6_count_ok_X6 hown hK.1 hP 0 rfl rfl 8 (by decide) (hts (.fieldLink RX6 111 "PushedTablesModel" "letters" "I") (List.mem_of_getElem? (i := 3) rfl)) (fun _ h9 => h9) rfl dX6_count_128 ?_
    exact hret _ _ _ _ _ hS dX6_count_131 (⟨mk, vl, rfl, hP⟩)

theorem iqX6_row_ok_X6 : ∀ w ∈ u_ws RX6 TX6 11, w ∈ wsX6_row := by decide +kernel
set_option maxHeartbeats 1000000 in
set_option maxRecDepth 100000 in
theorem c_X6_row_ok (l : Launch) (G : kG) (mo u0 u1 u2 u3 u4 u5 sm sa le ra fa : Nat) (σ : Sg) (nw : Nat → Int32) (hR : Rel σ nw) (hB : Bd σ) (r w : Nat) (hr : r < nn σ) (hw : w ≤ 4) (hT1 : ff σ r ≠ 1000 → ss σ (ff σ r) ≤ 784) : Met l yX6_row wsX6_row ({ frames := 2, cells := 0, slots := 0, locals := 43 } : Room) (cP G [.ref mo, .int (nI r), .int (nI w)] [ob mo 6 [.ref u0, .ref u1, .ref u2, .ref u3, .ref u4, .ref u5, .int (nI sm), .int (nI sa), .int (nI le), .int (nI ra), .int (nI fa)], ar G u0 481 nw]) (vp_Si (fun rv => rv = (rwF σ r w))) 0 0 (fun _ => False) := by
  refine met_ro (cc := cX6_row) (maxL := 4) (ty := .int) (own := RX6) (by decide) rfl rfl (fun _ _ => rfl) (Nat.le_of_ble_eq_true rfl) ?_
  intro p e s m args below meth cod Q hx hb hml hown hts hK hP hD hret ls hl
  have hl : lv_has ls 4 [(0, .ref mo), (1, .int (nI r)), (2, .int (nI w))] := hl
  have h24 := hB.n
  have hwi := nI_toInt (n := w) (by omega)
  have bfr := hB.f r
  have bsf := shf_le hB (ff σ r)
  refine lv_aload_n hx hb dX6_row_0 rfl (lv_at hl 0 rfl) ?_
  refine lv_iload_n hx hb dX6_row_1 rfl (lv_at hl 1 rfl) ?_
  refine g_ro (k_V (q0 := 0) (ci := 6) (n := 1) (As := [.int (nI r)]) (rest := []) (wc := [ob mo 6 [.ref u0, .ref u1, .ref u2, .ref u3, .ref u4, .ref u5, .int (nI sm), .int (nI sa), .int (nI le), .int (nI ra), .int (nI fa)], ar G u0 481 nw]) hx hb hml hown hts (c_X6_isRow (l := l) (G := G) (mo := mo) (u0 := u0) (u1 := u1) (u2 := u2) (u3 := u3) (u4 := u4) (u5 := u5) (sm := sm) (sa := sa) (le := le) (ra := ra) (fa := fa) (σ := by first | assumption | omega) (nw := nw) (hR := by first | assumption | omega) (hB := by first | assumption | omega) (xa := nI r))  gX6_row_X6_isRow rfl rfl rfl (by decide +kernel) ⟨Nat.le_of_ble_eq_true rfl, Nat.le_of_ble_eq_true rfl⟩ rfl hK hP hD [0, 1] rfl (by decide)  rfl rfl rfl hl.1 rfl (Nat.le_of_ble_eq_true rfl) dX6_row_2 ⟨Nat.le_of_ble_eq_true rfl, Nat.le_of_ble_eq_true rfl⟩) (fun r2 h2 => ?_)
  obtain rfl : (bI (inr (nI r) 0 ((nn σ : Int) - 1))) = r2 := Eq.symm h2
  refine r_if_eq (P := (inr (nI r) 0 ((nn σ : Int) - 1)) = false) (tgt := 17) hx hb dX6_row_5 (by decide) (bI_eq0) (fun cq5 => ?_) (fun cq5 => ?_)
  · exact (no_f (inr_rw (by omega) (by omega)) cq5).elim
  · refine lv_iload_n hx hb dX6_row_8 rfl (lv_at hl 2 rfl) ?_
    refine lv_iconst (v := (nI 0)) hx hb dX6_row_9 (by decide) ?_
    refine lv_iconst (v := (nI 4)) hx hb dX6_row_10 (by decide) ?_
    refine g_ro (k_S (n := 3) (As := [.int (nI w), .int (nI 0), .int (nI 4)]) (rest := []) (wc := []) hx hb hml hown hts (c_X6_in (l := l) (G := G) (xa := nI w) (xb := nI 0) (xc := nI 4))  gX6_row_X6_in rfl rfl rfl (by decide +kernel) ⟨Nat.le_of_ble_eq_true rfl, Nat.le_of_ble_eq_true rfl⟩ rfl hK hP hD [] rfl (by decide)  hl.1 rfl (Nat.le_of_ble_eq_true rfl) dX6_row_11 ⟨Nat.le_of_ble_eq_true rfl, Nat.le_of_ble_eq_true rfl⟩) (fun r11 h11 => ?_)
    obtain rfl : (bI (ing (nI w) (nI 0) (nI 4))) = r11 := Eq.symm h11
    refine r_if_ne (P := (ing (nI w) (nI 0) (nI 4)) = false) (tgt := 19) hx hb dX6_row_14 (by decide) (bI_eq0) (fun cq14 => ?_) (fun cq14 => ?_)
    · refine lv_aload_n hx hb dX6_row_19 rfl (lv_at hl 0 rfl) ?_
      refine va_get (D := G.1) (ci := 6) (v := .ref u0) (C := RX6) (T := TX6) (N := 11) hx hb hts iqX6_row_ok_X6 hown hK.1 hP 0 rfl rfl 0 (by decide) (hts (.fieldLink RX6 7 "PushedTablesModel" "now" "[I") (List.mem_of_getElem? (i := 1) rfl)) (fun _ h9 => h9) rfl dX6_row_20 ?_
      refine lv_bipush (v := (nI 49)) hx hb dX6_row_23 (by decide) ?_
      refine lv_iload_n hx hb dX6_row_25 rfl (lv_at hl 1 rfl) ?_
      refine r_iadd (v := 49 + r) hx hb dX6_row_26 rfl ?_
      refine r_iald (e1 := 49 + r) (v := (e1 (ff σ r))) hx hb hK.1 hP 1 0 rfl rfl (by omega) (by first | decide | assumption) (hR.f (by omega)) dX6_row_27 ?_
      refine lv_istore_n (lv' := [(3, .int (e1 (ff σ r))), (0, .ref mo), (1, .int (nI r)), (2, .int (nI w))]) hx hb dX6_row_28 rfl hl (by decide) rfl (fun ls hl => ?_)
      refine lv_iload_n hx hb dX6_row_29 rfl (lv_at hl 3 rfl) ?_
      rcases (show (nI w).toInt < 0 ∨ 0 ≤ (nI w).toInt by omega) with cq30 | cq30
      · refine lv_tableOut (tgt := 109) hx hb dX6_row_30 (Or.inl cq30) (by decide) ?_
        refine lv_aload_n hx hb dX6_row_109 rfl (lv_at hl 1 rfl) ?_
        refine lv_iload_n hx hb dX6_row_110 rfl (lv_at hl 2 rfl) ?_
        refine g_ro (k_V (q0 := 0) (ci := 6) (n := 1) (As := [.int (nI r)]) (rest := []) (wc := [ob mo 6 [.ref u0, .ref u1, .ref u2, .ref u3, .ref u4, .ref u5, .int (nI sm), .int (nI sa), .int (nI le), .int (nI ra), .int (nI fa)], ar G u0 481 nw]) hx hb hml hown hts (c_X6_entries (l := l) (G := G) (mo := mo) (u0 := u0) (u1 := u1) (u2 := u2) (u3 := u3) (u4 := u4) (u5 := u5) (sm := sm) (sa := sa) (le := le) (ra := ra) (fa := fa) (σ := by first | assumption | omega) (nw := nw) (hR := by first | assumption | omega) (hB := by first | assumption | omega) (r := r) (hr := by first | assumption | omega))  gX6_row_X6_entries rfl rfl rfl (by decide +kernel) ⟨Nat.le_of_ble_eq_true rfl, Nat.le_of_ble_eq_true rfl⟩ rfl hK hP hD [0, 1] rfl (by decide)  rfl rfl rfl hl.1 rfl (Nat.le_of_ble_eq_true rfl) dX6_row_111 ⟨Nat.le_of_ble_eq_true rfl, Nat.le_of_ble_eq_true rfl⟩) (fun r111 h111 => ?_)
        obtain rfl : (nI (cols σ r)) = r111 := Eq.symm h111
        have b111 := cols_lt σ r
        exact hret _ _ _ dX6_row_114 (by exfalso; omega)
      rcases (show 3 < (nI w).toInt ∨ (nI w).toInt ≤ 3 by omega) with dq30 | dq30
      · refine lv_tableOut (tgt := 109) hx hb dX6_row_30 (Or.inr dq30) (by decide) ?_
        refine lv_aload_n hx hb dX6_row_109 rfl (lv_at hl 1 rfl) ?_
        refine lv_iload_n hx hb dX6_row_110 rfl (lv_at hl 2 rfl) ?_
        refine g_ro (k_V (q0 := 0) (ci := 6) (n := 1) (As := [.int (nI r)]) (rest := []) (wc := [ob mo 6 [.ref u0, .ref u1, .ref u2, .ref u3, .ref u4, .ref u5, .int (nI sm), .int (nI sa), .int (nI le), .int (nI ra), .int (nI fa)], ar G u0 481 nw]) hx hb hml hown hts (c_X6_entries (l := l) (G := G) (mo := mo) (u0 := u0) (u1 := u1) (u2 := u2) (u3 := u3) (u4 := u4) (u5 := u5) (sm := sm) (sa := sa) (le := le) (ra := ra) (fa := fa) (σ := by first | assumption | omega) (nw := nw) (hR := by first | assumption | omega) (hB := by first | assumption | omega) (r := r) (hr := by first | assumption | omega))  gX6_row_X6_entries rfl rfl rfl (by decide +kernel) ⟨Nat.le_of_ble_eq_true rfl, Nat.le_of_ble_eq_true rfl⟩ rfl hK hP hD [0, 1] rfl (by decide)  rfl rfl rfl hl.1 rfl (Nat.le_of_ble_eq_true rfl) dX6_row_111 ⟨Nat.le_of_ble_eq_true rfl, Nat.le_of_ble_eq_true rfl⟩) (fun r111 h111 => ?_)
        obtain rfl : (nI (cols σ r)) = r111 := Eq.symm h111
        have b111 := cols_lt σ r
        exact hret _ _ _ dX6_row_114 (by have e : w = 4 := (by omega); subst e; rfl)
      have sw30 : (nI w).toInt = 0 ∨ (nI w).toInt = 1 ∨ (nI w).toInt = 2 ∨ (nI w).toInt = 3 := by omega
      rcases sw30 with sw30 | sw30 | sw30 | sw30
      · refine lv_tableIn (off := 30) (tgt := 60) hx hb dX6_row_30 (by omega) (by omega) (by rw [sw30]; rfl) (by decide) ?_
        have ew : w = 0 := (by rw [nI_toInt (by omega)] at sw30; omega)
        subst ew
        refine lv_aload_n hx hb dX6_row_60 rfl (lv_at hl 1 rfl) ?_
        refine va_get (D := G.1) (ci := 6) (v := .ref u0) (C := RX6) (T := TX6) (N := 11) hx hb hts iqX6_row_ok_X6 hown hK.1 hP 0 rfl rfl 0 (by decide) (hts (.fieldLink RX6 7 "PushedTablesModel" "now" "[I") (List.mem_of_getElem? (i := 1) rfl)) (fun _ h9 => h9) rfl dX6_row_61 ?_
        refine lv_iconst (v := (nI 1)) hx hb dX6_row_64 (by decide) ?_
        refine lv_iload_n hx hb dX6_row_65 rfl (lv_at hl 2 rfl) ?_
        refine r_iadd (v := 1 + r) hx hb dX6_row_66 rfl ?_
        refine r_iald (e1 := 1 + r) (v := (nI (dd σ r))) hx hb hK.1 hP 1 0 rfl rfl (by omega) (by first | decide | assumption) (hR.d (by omega)) dX6_row_67 ?_
        exact hret _ _ _ dX6_row_68 (rfl)
      · refine lv_tableIn (off := 39) (tgt := 69) hx hb dX6_row_30 (by omega) (by omega) (by rw [sw30]; rfl) (by decide) ?_
        have ew : w = 1 := (by rw [nI_toInt (by omega)] at sw30; omega)
        subst ew
        refine lv_aload_n hx hb dX6_row_69 rfl (lv_at hl 1 rfl) ?_
        refine lv_iload_n hx hb dX6_row_70 rfl (lv_at hl 2 rfl) ?_
        refine g_ro (k_V (q0 := 0) (ci := 6) (n := 1) (As := [.int (nI r)]) (rest := []) (wc := [ob mo 6 [.ref u0, .ref u1, .ref u2, .ref u3, .ref u4, .ref u5, .int (nI sm), .int (nI sa), .int (nI le), .int (nI ra), .int (nI fa)], ar G u0 481 nw]) hx hb hml hown hts (c_X6_entries (l := l) (G := G) (mo := mo) (u0 := u0) (u1 := u1) (u2 := u2) (u3 := u3) (u4 := u4) (u5 := u5) (sm := sm) (sa := sa) (le := le) (ra := ra) (fa := fa) (σ := by first | assumption | omega) (nw := nw) (hR := by first | assumption | omega) (hB := by first | assumption | omega) (r := r) (hr := by first | assumption | omega))  gX6_row_X6_entries rfl rfl rfl (by decide +kernel) ⟨Nat.le_of_ble_eq_true rfl, Nat.le_of_ble_eq_true rfl⟩ rfl hK hP hD [0, 1] rfl (by decide)  rfl rfl rfl hl.1 rfl (Nat.le_of_ble_eq_true rfl) dX6_row_71 ⟨Nat.le_of_ble_eq_true rfl, Nat.le_of_ble_eq_true rfl⟩) (fun r71 h71 => ?_)
        obtain rfl : (nI (cols σ r)) = r71 := Eq.symm h71
        have b71 := cols_lt σ r
        refine g_ro (k_S (n := 1) (As := [.int (nI (cols σ r))]) (rest := []) (wc := []) hx hb hml hown hts (c_X6_bits (l := l) (G := G) (m2 := cols σ r) (hm2 := by first | assumption | omega))  gX6_row_X6_bits rfl rfl rfl (by decide +kernel) ⟨Nat.le_of_ble_eq_true rfl, Nat.le_of_ble_eq_true rfl⟩ rfl hK hP hD [] rfl (by decide)  hl.1 rfl (Nat.le_of_ble_eq_true rfl) dX6_row_74 ⟨Nat.le_of_ble_eq_true rfl, Nat.le_of_ble_eq_true rfl⟩) (fun r74 h74 => ?_)
        obtain rfl : (nI (pop (cols σ r))) = r74 := Eq.symm h74
        have b74 := pop_le (cols σ r)
        exact hret _ _ _ dX6_row_77 (congrArg nI (pop_cols σ r))
      · refine lv_tableIn (off := 48) (tgt := 78) hx hb dX6_row_30 (by omega) (by omega) (by rw [sw30]; rfl) (by decide) ?_
        have ew : w = 2 := (by rw [nI_toInt (by omega)] at sw30; omega)
        subst ew
        refine lv_iload_n hx hb dX6_row_78 rfl (lv_at hl 0 rfl) ?_
        refine r_if_ge (P := (ff σ r) ≠ 1000) (tgt := 87) hx hb dX6_row_79 (by decide) (e1_ge0 (by omega)) (fun cq79 => ?_) (fun cq79 => ?_)
        · refine lv_iload_n hx hb dX6_row_87 rfl (lv_at hl 0 rfl) ?_
          exact hret _ _ _ dX6_row_88 ((e1_n cq79).trans (e9_n cq79).symm)
        · refine lv_bipush (v := (e9 1000)) hx hb dX6_row_82 (by decide) ?_
          refine lv_goto (tgt := 88) hx hb dX6_row_84 (by decide) ?_
          exact hret _ _ _ dX6_row_88 (by show _ = e9 (ff σ r); rw [Classical.not_not.mp cq79])
      · refine lv_tableIn (off := 59) (tgt := 89) hx hb dX6_row_30 (by omega) (by omega) (by rw [sw30]; rfl) (by decide) ?_
        have ew : w = 3 := (by rw [nI_toInt (by omega)] at sw30; omega)
        subst ew
        refine lv_iload_n hx hb dX6_row_89 rfl (lv_at hl 0 rfl) ?_
        refine r_if_ge (P := (ff σ r) ≠ 1000) (tgt := 98) hx hb dX6_row_90 (by decide) (e1_ge0 (by omega)) (fun cq90 => ?_) (fun cq90 => ?_)
        · have hsf := sh_of hB cq90
          have hs784 := hT1 cq90
          refine lv_aload_n hx hb dX6_row_98 rfl (lv_at hl 1 rfl) ?_
          refine va_get (D := G.1) (ci := 6) (v := .ref u0) (C := RX6) (T := TX6) (N := 11) hx hb hts iqX6_row_ok_X6 hown hK.1 hP 0 rfl rfl 0 (by decide) (hts (.fieldLink RX6 7 "PushedTablesModel" "now" "[I") (List.mem_of_getElem? (i := 1) rfl)) (fun _ h9 => h9) rfl dX6_row_99 ?_
          refine lv_sipush (v := (nI 457)) hx hb dX6_row_102 (by decide) ?_
          refine lv_iload_n hx hb dX6_row_105 rfl (lv_at hl 0 rfl) ?_
          refine r_top (y := (nI (ff σ r))) (e1_n cq90) ?_
          refine r_iadd (v := 457 + (ff σ r)) hx hb dX6_row_106 rfl ?_
          refine r_iald (e1 := 457 + (ff σ r)) (v := (e1 (ss σ (ff σ r)))) hx hb hK.1 hP 1 0 rfl rfl (by omega) (by first | decide | assumption) (hR.s (by omega)) dX6_row_107 ?_
          exact hret _ _ _ dX6_row_108 (by show e1 (ss σ (ff σ r)) = e9 (shf σ (ff σ r)); rw [hsf]; exact (e1_n (by omega)).trans (e9_n (by omega)).symm)
        · refine lv_bipush (v := (e9 1000)) hx hb dX6_row_93 (by decide) ?_
          refine lv_goto (tgt := 108) hx hb dX6_row_95 (by decide) ?_
          exact hret _ _ _ dX6_row_108 (by show _ = e9 (shf σ (ff σ r)); rw [Classical.not_not.mp cq90]; unfold shf; rw [if_neg (by decide)])
    · exact (no_f (ing_ok (by omega) (by omega) (by decide)) cq14).elim

theorem iqX6_form_ok_X6 : ∀ w ∈ u_ws RX6 TX6 11, w ∈ wsX6_form := by decide +kernel
set_option maxHeartbeats 1000000 in
set_option maxRecDepth 100000 in
theorem c_X6_form_ok (l : Launch) (G : kG) (mo u0 u1 u2 u3 u4 u5 sm sa le ra fa : Nat) (σ : Sg) (nw : Nat → Int32) (hR : Rel σ nw) (hB : Bd σ) (f w : Nat) (hf : f < 24) (hw : w ≤ 2) : Met l yX6_form wsX6_form ({ frames := 1, cells := 0, slots := 0, locals := 23 } : Room) (cP G [.ref mo, .int (nI f), .int (nI w)] [ob mo 6 [.ref u0, .ref u1, .ref u2, .ref u3, .ref u4, .ref u5, .int (nI sm), .int (nI sa), .int (nI le), .int (nI ra), .int (nI fa)], ar G u0 481 nw]) (vp_Si (fun rv => rv = (fmR σ f w))) 0 0 (fun _ => False) := by
  refine met_ro (cc := cX6_form) (maxL := 5) (ty := .int) (own := RX6) (by decide) rfl rfl (fun _ _ => rfl) (Nat.le_of_ble_eq_true rfl) ?_
  intro p e s m args below meth cod Q hx hb hml hown hts hK hP hD hret ls hl
  have hl : lv_has ls 5 [(0, .ref mo), (1, .int (nI f)), (2, .int (nI w))] := hl
  have h24 := hB.n
  have bsf := hB.s f
  refine lv_iload_n hx hb dX6_form_0 rfl (lv_at hl 1 rfl) ?_
  refine lv_iconst (v := (nI 0)) hx hb dX6_form_1 (by decide) ?_
  refine lv_bipush (v := (nI 23)) hx hb dX6_form_2 (by decide) ?_
  refine g_ro (k_S (n := 3) (As := [.int (nI f), .int (nI 0), .int (nI 23)]) (rest := []) (wc := []) hx hb hml hown hts (c_X6_in (l := l) (G := G) (xa := nI f) (xb := nI 0) (xc := nI 23))  gX6_form_X6_in rfl rfl rfl (by decide +kernel) ⟨Nat.le_of_ble_eq_true rfl, Nat.le_of_ble_eq_true rfl⟩ rfl hK hP hD [] rfl (by decide)  hl.1 rfl (Nat.le_of_ble_eq_true rfl) dX6_form_4 ⟨Nat.le_of_ble_eq_true rfl, Nat.le_of_ble_eq_true rfl⟩) (fun r4 h4 => ?_)
  obtain rfl : (bI (ing (nI f) (nI 0) (nI 23))) = r4 := Eq.symm h4
  refine r_if_eq (P := (ing (nI f) (nI 0) (nI 23)) = false) (tgt := 19) hx hb dX6_form_7 (by decide) (bI_eq0) (fun cq7 => ?_) (fun cq7 => ?_)
  · exact (no_f (ing_ok (by omega) (by omega) (by decide)) cq7).elim
  · refine lv_iload_n hx hb dX6_form_10 rfl (lv_at hl 2 rfl) ?_
    refine lv_iconst (v := (nI 0)) hx hb dX6_form_11 (by decide) ?_
    refine lv_iconst (v := (nI 2)) hx hb dX6_form_12 (by decide) ?_
    refine g_ro (k_S (n := 3) (As := [.int (nI w), .int (nI 0), .int (nI 2)]) (rest := []) (wc := []) hx hb hml hown hts (c_X6_in (l := l) (G := G) (xa := nI w) (xb := nI 0) (xc := nI 2))  gX6_form_X6_in rfl rfl rfl (by decide +kernel) ⟨Nat.le_of_ble_eq_true rfl, Nat.le_of_ble_eq_true rfl⟩ rfl hK hP hD [] rfl (by decide)  hl.1 rfl (Nat.le_of_ble_eq_true rfl) dX6_form_13 ⟨Nat.le_of_ble_eq_true rfl, Nat.le_of_ble_eq_true rfl⟩) (fun r13 h13 => ?_)
    obtain rfl : (bI (ing (nI w) (nI 0) (nI 2))) = r13 := Eq.symm h13
    refine r_if_ne (P := (ing (nI w) (nI 0) (nI 2)) = false) (tgt := 21) hx hb dX6_form_16 (by decide) (bI_eq0) (fun cq16 => ?_) (fun cq16 => ?_)
    · refine lv_aload_n hx hb dX6_form_21 rfl (lv_at hl 0 rfl) ?_
      refine va_get (D := G.1) (ci := 6) (v := .ref u0) (C := RX6) (T := TX6) (N := 11) hx hb hts iqX6_form_ok_X6 hown hK.1 hP 0 rfl rfl 0 (by decide) (hts (.fieldLink RX6 7 "PushedTablesModel" "now" "[I") (List.mem_of_getElem? (i := 1) rfl)) (fun _ h9 => h9) rfl dX6_form_22 ?_
      refine lv_sipush (v := (nI 457)) hx hb dX6_form_25 (by decide) ?_
      refine lv_iload_n hx hb dX6_form_28 rfl (lv_at hl 1 rfl) ?_
      refine r_iadd (v := 457 + f) hx hb dX6_form_29 rfl ?_
      refine r_iald (e1 := 457 + f) (v := (e1 (ss σ f))) hx hb hK.1 hP 1 0 rfl rfl (by omega) (by first | decide | assumption) (hR.s (by omega)) dX6_form_30 ?_
      refine r_if_ge (P := (ss σ f) ≠ 1000) (tgt := 37) hx hb dX6_form_31 (by decide) (e1_ge0 (by omega)) (fun cq31 => ?_) (fun cq31 => ?_)
      · refine lv_iconst (v := (nI 0)) hx hb dX6_form_37 (by decide) ?_
        refine lv_istore_n (lv' := [(3, .int (nI 0)), (0, .ref mo), (1, .int (nI f)), (2, .int (nI w))]) hx hb dX6_form_38 rfl hl (by decide) rfl (fun ls hl => ?_)
        refine lv_iconst (v := (nI 0)) hx hb dX6_form_39 (by decide) ?_
        refine lv_istore (lv' := [(4, .int (nI 0)), (3, .int (nI 0)), (0, .ref mo), (1, .int (nI f)), (2, .int (nI w))]) hx hb dX6_form_40 hl (by decide) rfl (fun ls hl => ?_)
        have L42 : ∀ (fu : Nat) (r : Nat) (x9 : Nat), nn σ + 1 - r < fu → r ≤ nn σ → x9 = lwF σ f r → ∀ (ls : Array Slot), lv_has ls 5 [(0, .ref mo), (1, .int (nI f)), (2, .int (nI w)), (3, .int (nI x9)), (4, .int (nI r))] → W p l e ({ frames := 1, cells := 0, slots := 0, locals := 23 } : Room) s m args below meth cod s.heap [] 0 0 Q (F0 m 42 ls []) := by
          intro fu
          induction fu with
          | zero => intro r x9 hm; exact absurd hm (Nat.not_lt_zero _)
          | succ fu ih42 =>
            intro r x9 hm42 hr hx9 ls hl
            refine lv_iload hx hb dX6_form_42 (lv_at hl 4 rfl) ?_
            refine lv_aload_n hx hb dX6_form_44 rfl (lv_at hl 0 rfl) ?_
            refine va_get (D := G.1) (ci := 6) (v := .ref u0) (C := RX6) (T := TX6) (N := 11) hx hb hts iqX6_form_ok_X6 hown hK.1 hP 0 rfl rfl 0 (by decide) (hts (.fieldLink RX6 7 "PushedTablesModel" "now" "[I") (List.mem_of_getElem? (i := 1) rfl)) (fun _ h9 => h9) rfl dX6_form_45 ?_
            refine lv_iconst (v := (nI 0)) hx hb dX6_form_48 (by decide) ?_
            refine r_iald (e1 := 0) (v := (nI (nn σ))) hx hb hK.1 hP 1 0 rfl rfl (by omega) (by first | decide | assumption) (hR.n) dX6_form_49 ?_
            refine r_icmp_ge (P := (nn σ) ≤ r) (tgt := 87) hx hb dX6_form_50 (by decide) (nI_leI (by omega) (by omega)) (fun cq50 => ?_) (fun cq50 => ?_)
            · obtain rfl : r = nn σ := by omega
              subst hx9
              refine lv_iload_n hx hb dX6_form_87 rfl (lv_at hl 2 rfl) ?_
              refine r_if_ne (P := w = 0) (tgt := 104) hx hb dX6_form_88 (by decide) (nI_eq0 (by omega)) (fun cq88 => ?_) (fun cq88 => ?_)
              · refine lv_iload_n hx hb dX6_form_104 rfl (lv_at hl 2 rfl) ?_
                refine lv_iconst (v := (nI 1)) hx hb dX6_form_105 (by decide) ?_
                refine r_icmp_ne (P := w = 1) (tgt := 117) hx hb dX6_form_106 (by decide) (nI_eq (by omega) (by omega)) (fun cq106 => ?_) (fun cq106 => ?_)
                · refine lv_iload_n hx hb dX6_form_117 rfl (lv_at hl 3 rfl) ?_
                  exact hret _ _ _ dX6_form_118 (by unfold fmR; rw [if_neg cq31, if_neg cq88, if_neg cq106])
                · refine lv_aload_n hx hb dX6_form_109 rfl (lv_at hl 0 rfl) ?_
                  refine lv_iload_n hx hb dX6_form_110 rfl (lv_at hl 1 rfl) ?_
                  refine g_ro (k_V (q0 := 0) (ci := 6) (n := 1) (As := [.int (nI f)]) (rest := []) (wc := [ob mo 6 [.ref u0, .ref u1, .ref u2, .ref u3, .ref u4, .ref u5, .int (nI sm), .int (nI sa), .int (nI le), .int (nI ra), .int (nI fa)], ar G u0 481 nw]) hx hb hml hown hts (c_X6_sharers (l := l) (G := G) (mo := mo) (u0 := u0) (u1 := u1) (u2 := u2) (u3 := u3) (u4 := u4) (u5 := u5) (sm := sm) (sa := sa) (le := le) (ra := ra) (fa := fa) (σ := by first | assumption | omega) (nw := nw) (hR := by first | assumption | omega) (hB := by first | assumption | omega) (f := f) (xf := (nI f)) (hxf := (e1_n (by omega)).symm) (hf := Or.inl hf))  gX6_form_X6_sharers rfl rfl rfl (by decide +kernel) ⟨Nat.le_of_ble_eq_true rfl, Nat.le_of_ble_eq_true rfl⟩ rfl hK hP hD [0, 1] rfl (by decide)  rfl rfl rfl hl.1 rfl (Nat.le_of_ble_eq_true rfl) dX6_form_111 ⟨Nat.le_of_ble_eq_true rfl, Nat.le_of_ble_eq_true rfl⟩) (fun r111 h111 => ?_)
                  obtain rfl : (nI (shr σ f)) = r111 := Eq.symm h111
                  have b111 := shr_le (by assumption : Bd σ) f
                  refine lv_goto (tgt := 118) hx hb dX6_form_114 (by decide) ?_
                  exact hret _ _ _ dX6_form_118 (by unfold fmR; rw [if_neg cq31, if_neg cq88, if_pos cq106])
              · refine lv_aload_n hx hb dX6_form_91 rfl (lv_at hl 0 rfl) ?_
                refine va_get (D := G.1) (ci := 6) (v := .ref u0) (C := RX6) (T := TX6) (N := 11) hx hb hts iqX6_form_ok_X6 hown hK.1 hP 0 rfl rfl 0 (by decide) (hts (.fieldLink RX6 7 "PushedTablesModel" "now" "[I") (List.mem_of_getElem? (i := 1) rfl)) (fun _ h9 => h9) rfl dX6_form_92 ?_
                refine lv_sipush (v := (nI 457)) hx hb dX6_form_95 (by decide) ?_
                refine lv_iload_n hx hb dX6_form_98 rfl (lv_at hl 1 rfl) ?_
                refine r_iadd (v := 457 + f) hx hb dX6_form_99 rfl ?_
                refine r_iald (e1 := 457 + f) (v := (e1 (ss σ f))) hx hb hK.1 hP 1 0 rfl rfl (by omega) (by first | decide | assumption) (hR.s (by omega)) dX6_form_100 ?_
                refine lv_goto (tgt := 118) hx hb dX6_form_101 (by decide) ?_
                exact hret _ _ _ dX6_form_118 (by unfold fmR; rw [if_neg cq31, if_pos cq88])
            · have bfr := hB.f r
              have lwl := lwF_le σ f r
              refine lv_aload_n hx hb dX6_form_53 rfl (lv_at hl 0 rfl) ?_
              refine va_get (D := G.1) (ci := 6) (v := .ref u0) (C := RX6) (T := TX6) (N := 11) hx hb hts iqX6_form_ok_X6 hown hK.1 hP 0 rfl rfl 0 (by decide) (hts (.fieldLink RX6 7 "PushedTablesModel" "now" "[I") (List.mem_of_getElem? (i := 1) rfl)) (fun _ h9 => h9) rfl dX6_form_54 ?_
              refine lv_bipush (v := (nI 49)) hx hb dX6_form_57 (by decide) ?_
              refine lv_iload hx hb dX6_form_59 (lv_at hl 4 rfl) ?_
              refine r_iadd (v := 49 + r) hx hb dX6_form_61 rfl ?_
              refine r_iald (e1 := 49 + r) (v := (e1 (ff σ r))) hx hb hK.1 hP 1 0 rfl rfl (by omega) (by first | decide | assumption) (hR.f (by omega)) dX6_form_62 ?_
              refine lv_iload_n hx hb dX6_form_63 rfl (lv_at hl 1 rfl) ?_
              refine r_icmp_ne (P := (ff σ r) = f) (tgt := 79) hx hb dX6_form_64 (by decide) (e1_nI (by omega) (by omega)) (fun cq64 => ?_) (fun cq64 => ?_)
              · refine lv_iload_n hx hb dX6_form_79 rfl (lv_at hl 3 rfl) ?_
                refine lv_istore_n (lv' := [(3, .int (nI x9)), (0, .ref mo), (1, .int (nI f)), (2, .int (nI w)), (4, .int (nI r))]) hx hb dX6_form_80 rfl hl (by decide) rfl (fun ls hl => ?_)
                refine r_iinc (v := r + 1) (lv' := [(4, .int (nI (r + 1))), (3, .int (nI x9)), (0, .ref mo), (1, .int (nI f)), (2, .int (nI w))]) hx hb dX6_form_81 hl (k := 4) rfl (nI_1 _) (by decide) rfl (fun ls hl => ?_)
                refine lv_goto (tgt := 42) hx hb dX6_form_84 (by decide) ?_
                exact ih42 (r + 1) x9 (by omega) (by omega) (hx9.trans (lwF_f cq64)) ls (lv_sub hl [2, 3, 4, 1, 0] rfl)
              · refine lv_aload_n hx hb dX6_form_67 rfl (lv_at hl 0 rfl) ?_
                refine lv_iload hx hb dX6_form_68 (lv_at hl 4 rfl) ?_
                refine g_ro (k_V (q0 := 0) (ci := 6) (n := 1) (As := [.int (nI r)]) (rest := []) (wc := [ob mo 6 [.ref u0, .ref u1, .ref u2, .ref u3, .ref u4, .ref u5, .int (nI sm), .int (nI sa), .int (nI le), .int (nI ra), .int (nI fa)], ar G u0 481 nw]) hx hb hml hown hts (c_X6_entries (l := l) (G := G) (mo := mo) (u0 := u0) (u1 := u1) (u2 := u2) (u3 := u3) (u4 := u4) (u5 := u5) (sm := sm) (sa := sa) (le := le) (ra := ra) (fa := fa) (σ := by first | assumption | omega) (nw := nw) (hR := by first | assumption | omega) (hB := by first | assumption | omega) (r := r) (hr := by first | assumption | omega))  gX6_form_X6_entries rfl rfl rfl (by decide +kernel) ⟨Nat.le_of_ble_eq_true rfl, Nat.le_of_ble_eq_true rfl⟩ rfl hK hP hD [0, 1] rfl (by decide)  rfl rfl rfl hl.1 rfl (Nat.le_of_ble_eq_true rfl) dX6_form_70 ⟨Nat.le_of_ble_eq_true rfl, Nat.le_of_ble_eq_true rfl⟩) (fun r70 h70 => ?_)
                obtain rfl : (nI (cols σ r)) = r70 := Eq.symm h70
                have b70 := cols_lt σ r
                refine g_ro (k_S (n := 1) (As := [.int (nI (cols σ r))]) (rest := []) (wc := []) hx hb hml hown hts (c_X6_bits (l := l) (G := G) (m2 := cols σ r) (hm2 := by first | assumption | omega))  gX6_form_X6_bits rfl rfl rfl (by decide +kernel) ⟨Nat.le_of_ble_eq_true rfl, Nat.le_of_ble_eq_true rfl⟩ rfl hK hP hD [] rfl (by decide)  hl.1 rfl (Nat.le_of_ble_eq_true rfl) dX6_form_73 ⟨Nat.le_of_ble_eq_true rfl, Nat.le_of_ble_eq_true rfl⟩) (fun r73 h73 => ?_)
                obtain rfl : (nI (pop (cols σ r))) = r73 := Eq.symm h73
                have b73 := pop_le (cols σ r)
                refine lv_goto (tgt := 80) hx hb dX6_form_76 (by decide) ?_
                refine lv_istore_n (lv' := [(3, .int (nI (pop (cols σ r)))), (0, .ref mo), (1, .int (nI f)), (2, .int (nI w)), (4, .int (nI r))]) hx hb dX6_form_80 rfl hl (by decide) rfl (fun ls hl => ?_)
                refine r_iinc (v := r + 1) (lv' := [(4, .int (nI (r + 1))), (3, .int (nI (pop (cols σ r)))), (0, .ref mo), (1, .int (nI f)), (2, .int (nI w))]) hx hb dX6_form_81 hl (k := 4) rfl (nI_1 _) (by decide) rfl (fun ls hl => ?_)
                refine lv_goto (tgt := 42) hx hb dX6_form_84 (by decide) ?_
                exact ih42 (r + 1) (pop (cols σ r)) (by omega) (by omega) (lwF_t cq64) ls (lv_sub hl [2, 3, 4, 1, 0] rfl)
        exact L42 ((nn σ + 1 - 0) + 1) 0 0 (Nat.lt_succ_self _) (by omega) (rfl) ls (lv_sub hl [2, 3, 4, 1, 0] rfl)
      · refine lv_bipush (v := (e9 1000)) hx hb dX6_form_34 (by decide) ?_
        exact hret _ _ _ dX6_form_36 (by unfold fmR; rw [if_pos (Classical.not_not.mp cq31)]; rfl)
    · exact (no_f (ing_ok (by omega) (by omega) (by decide)) cq16).elim

theorem iqX6_cell_ok_X6 : ∀ w ∈ u_ws RX6 TX6 11, w ∈ wsX6_cell := by decide +kernel
set_option maxHeartbeats 1000000 in
set_option maxRecDepth 100000 in
theorem c_X6_cell_ok (l : Launch) (G : kG) (mo u0 u1 u2 u3 u4 u5 sm sa le ra fa : Nat) (σ : Sg) (nw : Nat → Int32) (hR : Rel σ nw) (hB : Bd σ) (hT1 : ∀ r, r < nn σ → ff σ r ≠ 1000 → ss σ (ff σ r) ≤ 784) (k w : Nat) (hk : k < 800) (hw : w ≤ 1) (mk vl : Nat → Int32) : Met l yX6_cell wsX6_cell ({ frames := 2, cells := 0, slots := 0, locals := 44 } : Room) (cP G [.ref mo, .int (nI k), .int (nI w)] [ob mo 6 [.ref u0, .ref u1, .ref u2, .ref u3, .ref u4, .ref u5, .int (nI sm), .int (nI sa), .int (nI le), .int (nI ra), .int (nI fa)], ar G u0 481 nw, ar G u3 800 mk, ar G u4 800 vl]) (qI (fun rv H => ∃ (mk1 : Nat → Int32) (vl1 : Nat → Int32), rv = (clR (rsV σ) (rsM σ) k w) ∧ va_P G.1 vwCl [ob mo 6 [.ref u0, .ref u1, .ref u2, .ref u3, .ref u4, .ref u5, .int (nI sm), .int (nI sa), .int (nI le), .int (nI ra), .int (nI fa)], ar G u0 481 nw, ar G u3 800 mk1, ar G u4 800 vl1] H) (mA [ob mo 6 [.ref u0, .ref u1, .ref u2, .ref u3, .ref u4, .ref u5, .int (nI sm), .int (nI sa), .int (nI le), .int (nI ra), .int (nI fa)], ar G u0 481 nw, ar G u3 800 mk, ar G u4 800 vl])) 0 0 (mA [ob mo 6 [.ref u0, .ref u1, .ref u2, .ref u3, .ref u4, .ref u5, .int (nI sm), .int (nI sa), .int (nI le), .int (nI ra), .int (nI fa)], ar G u0 481 nw, ar G u3 800 mk, ar G u4 800 vl]) := by
  refine met_muI (cc := cX6_cell) (maxL := 3) (ty := .int) (own := RX6) (by decide) rfl rfl (fun _ _ _ => rfl) (Nat.le_of_ble_eq_true rfl) ?_
  intro p e s m args below meth cod Q A hx hb hml hown hts hK hP hD hS hret ls hl
  have hl : lv_has ls 3 [(0, .ref mo), (1, .int (nI k)), (2, .int (nI w))] := hl
  refine lv_iload_n hx hb dX6_cell_0 rfl (lv_at hl 1 rfl) ?_
  refine lv_iconst (v := (nI 0)) hx hb dX6_cell_1 (by decide) ?_
  refine lv_sipush (v := (nI 799)) hx hb dX6_cell_2 (by decide) ?_
  refine g_ro (k_S (n := 3) (As := [.int (nI k), .int (nI 0), .int (nI 799)]) (rest := []) (wc := []) hx hb hml hown hts (c_X6_in (l := l) (G := G) (xa := nI k) (xb := nI 0) (xc := nI 799))  gX6_cell_X6_in rfl rfl rfl (by decide +kernel) ⟨Nat.le_of_ble_eq_true rfl, Nat.le_of_ble_eq_true rfl⟩ rfl hK hP hD [] rfl (by decide)  hl.1 rfl (Nat.le_of_ble_eq_true rfl) dX6_cell_5 ⟨Nat.le_of_ble_eq_true rfl, Nat.le_of_ble_eq_true rfl⟩) (fun r5 h5 => ?_)
  obtain rfl : (bI (ing (nI k) (nI 0) (nI 799))) = r5 := Eq.symm h5
  refine r_if_eq (P := (ing (nI k) (nI 0) (nI 799)) = false) (tgt := 20) hx hb dX6_cell_8 (by decide) (bI_eq0) (fun cq8 => ?_) (fun cq8 => ?_)
  · exact (no_f (ing_ok (by omega) (by omega) (by decide)) cq8).elim
  · refine lv_iload_n hx hb dX6_cell_11 rfl (lv_at hl 2 rfl) ?_
    refine lv_iconst (v := (nI 0)) hx hb dX6_cell_12 (by decide) ?_
    refine lv_iconst (v := (nI 1)) hx hb dX6_cell_13 (by decide) ?_
    refine g_ro (k_S (n := 3) (As := [.int (nI w), .int (nI 0), .int (nI 1)]) (rest := []) (wc := []) hx hb hml hown hts (c_X6_in (l := l) (G := G) (xa := nI w) (xb := nI 0) (xc := nI 1))  gX6_cell_X6_in rfl rfl rfl (by decide +kernel) ⟨Nat.le_of_ble_eq_true rfl, Nat.le_of_ble_eq_true rfl⟩ rfl hK hP hD [] rfl (by decide)  hl.1 rfl (Nat.le_of_ble_eq_true rfl) dX6_cell_14 ⟨Nat.le_of_ble_eq_true rfl, Nat.le_of_ble_eq_true rfl⟩) (fun r14 h14 => ?_)
    obtain rfl : (bI (ing (nI w) (nI 0) (nI 1))) = r14 := Eq.symm h14
    refine r_if_ne (P := (ing (nI w) (nI 0) (nI 1)) = false) (tgt := 22) hx hb dX6_cell_17 (by decide) (bI_eq0) (fun cq17 => ?_) (fun cq17 => ?_)
    · refine lv_aload_n hx hb dX6_cell_22 rfl (lv_at hl 0 rfl) ?_
      refine g_V (k_V (q0 := 0) (ci := 6) (n := 0) (As := []) (rest := []) (wc := [ob mo 6 [.ref u0, .ref u1, .ref u2, .ref u3, .ref u4, .ref u5, .int (nI sm), .int (nI sa), .int (nI le), .int (nI ra), .int (nI fa)], ar G u0 481 nw, ar G u3 800 mk, ar G u4 800 vl]) hx hb hml hown hts (c_X6_layStore (l := l) (G := G) (mo := mo) (u0 := u0) (u1 := u1) (u2 := u2) (u3 := u3) (u4 := u4) (u5 := u5) (sm := sm) (sa := sa) (le := le) (ra := ra) (fa := fa) (σ := by first | assumption | omega) (nw := nw) (hR := by first | assumption | omega) (hB := by first | assumption | omega) (hT1 := by first | assumption | omega) (mk := mk) (vl := vl))  gX6_cell_X6_layStore rfl rfl rfl (by decide +kernel) ⟨Nat.le_of_ble_eq_true rfl, Nat.le_of_ble_eq_true rfl⟩ rfl hK hP hD [0, 1, 2, 3] rfl (by decide)  rfl rfl rfl hl.1 rfl (Nat.le_of_ble_eq_true rfl) dX6_cell_23 ⟨Nat.le_of_ble_eq_true rfl, Nat.le_of_ble_eq_true rfl⟩) hP hD hS [0, 1, 2, 3] rfl (fun H locs hB23 back hS => ?_)
      obtain ⟨mk123, vl123, hq23, hP1⟩ := hB23
      obtain ⟨hP, hD⟩ := back [ob mo 6 [.ref u0, .ref u1, .ref u2, .ref u3, .ref u4, .ref u5, .int (nI sm), .int (nI sa), .int (nI le), .int (nI ra), .int (nI fa)], ar G u0 481 nw, ar G u3 800 mk123, ar G u4 800 vl123] rfl hP1
      have hP : va_P G.1 vwCl [ob mo 6 [.ref u0, .ref u1, .ref u2, .ref u3, .ref u4, .ref u5, .int (nI sm), .int (nI sa), .int (nI le), .int (nI ra), .int (nI fa)], ar G u0 481 nw, ar G u3 800 mk123, ar G u4 800 vl123] H := hP
      have hD : va_D A [ob mo 6 [.ref u0, .ref u1, .ref u2, .ref u3, .ref u4, .ref u5, .int (nI sm), .int (nI sa), .int (nI le), .int (nI ra), .int (nI fa)], ar G u0 481 nw, ar G u3 800 mk123, ar G u4 800 vl123] := hD
      have bm : rsM σ k < 24 ∨ rsM σ k = 1000 := rsT_Bc hB (nn σ) k
      refine lv_aload_n hx hb dX6_cell_26 rfl (lv_at hl 0 rfl) ?_
      refine va_get (D := G.1) (ci := 6) (v := .ref u3) (C := RX6) (T := TX6) (N := 11) hx hb hts iqX6_cell_ok_X6 hown hK.1 hP 0 rfl rfl 3 (by decide) (hts (.fieldLink RX6 19 "PushedTablesModel" "marks" "[I") (List.mem_of_getElem? (i := 1) rfl)) (fun _ h9 => h9) rfl dX6_cell_27 ?_
      refine lv_iload_n hx hb dX6_cell_30 rfl (lv_at hl 1 rfl) ?_
      refine r_iald (e1 := k) (v := (e1 (rsM σ k))) hx hb hK.1 hP 2 0 rfl rfl (by omega) (by first | decide | assumption) ((hq23 _ hk).1) dX6_cell_31 ?_
      refine lv_iconst (v := (e1 1000)) hx hb dX6_cell_32 (by decide) ?_
      refine r_icmp_ne (P := (rsM σ k) = 1000) (tgt := 41) hx hb dX6_cell_33 (by decide) (e1_inj (by omega) (by omega)) (fun cq33 => ?_) (fun cq33 => ?_)
      · refine lv_iload_n hx hb dX6_cell_41 rfl (lv_at hl 2 rfl) ?_
        refine r_if_ne (P := w = 0) (tgt := 54) hx hb dX6_cell_42 (by decide) (nI_eq0 (by omega)) (fun cq42 => ?_) (fun cq42 => ?_)
        · refine lv_aload_n hx hb dX6_cell_54 rfl (lv_at hl 0 rfl) ?_
          refine va_get (D := G.1) (ci := 6) (v := .ref u3) (C := RX6) (T := TX6) (N := 11) hx hb hts iqX6_cell_ok_X6 hown hK.1 hP 0 rfl rfl 3 (by decide) (hts (.fieldLink RX6 19 "PushedTablesModel" "marks" "[I") (List.mem_of_getElem? (i := 1) rfl)) (fun _ h9 => h9) rfl dX6_cell_55 ?_
          refine lv_iload_n hx hb dX6_cell_58 rfl (lv_at hl 1 rfl) ?_
          refine r_iald (e1 := k) (v := (e1 (rsM σ k))) hx hb hK.1 hP 2 0 rfl rfl (by omega) (by first | decide | assumption) ((hq23 _ hk).1) dX6_cell_59 ?_
          exact hret _ _ _ _ _ hS dX6_cell_60 (⟨mk123, vl123, by unfold clR; rw [if_neg cq33, if_neg cq42], hP⟩)
        · refine lv_aload_n hx hb dX6_cell_45 rfl (lv_at hl 0 rfl) ?_
          refine va_get (D := G.1) (ci := 6) (v := .ref u4) (C := RX6) (T := TX6) (N := 11) hx hb hts iqX6_cell_ok_X6 hown hK.1 hP 0 rfl rfl 4 (by decide) (hts (.fieldLink RX6 22 "PushedTablesModel" "values" "[I") (List.mem_of_getElem? (i := 2) rfl)) (fun _ h9 => h9) rfl dX6_cell_46 ?_
          refine lv_iload_n hx hb dX6_cell_49 rfl (lv_at hl 1 rfl) ?_
          refine r_iald (e1 := k) (v := (nI (rsV σ k))) hx hb hK.1 hP 3 0 rfl rfl (by omega) (by first | decide | assumption) ((hq23 _ hk).2 cq33) dX6_cell_50 ?_
          refine lv_goto (tgt := 60) hx hb dX6_cell_51 (by decide) ?_
          exact hret _ _ _ _ _ hS dX6_cell_60 (⟨mk123, vl123, by unfold clR; rw [if_neg cq33, if_pos cq42], hP⟩)
      · refine lv_bipush (v := (e9 1000)) hx hb dX6_cell_36 (by decide) ?_
        refine lv_goto (tgt := 60) hx hb dX6_cell_38 (by decide) ?_
        exact hret _ _ _ _ _ hS dX6_cell_60 (⟨mk123, vl123, by unfold clR; rw [if_pos cq33]; rfl, hP⟩)
    · exact (no_f (ing_ok (by omega) (by omega) (by decide)) cq17).elim

set_option maxHeartbeats 1000000 in
set_option maxRecDepth 100000 in
theorem c_X6_fit_ok (l : Launch) (G : kG) (mo u0 u1 u2 u3 u4 u5 sm sa le ra fa : Nat) (σ : Sg) (nw : Nat → Int32) (hR : Rel σ nw) (hB : Bd σ) (hT1 : ∀ r, r < nn σ → ff σ r ≠ 1000 → ss σ (ff σ r) ≤ 784) (m2 : Nat) (h1 : 1 ≤ m2) (h2 : m2 ≤ 65535) (mk vl : Nat → Int32) : Met l yX6_fit wsX6_fit ({ frames := 2, cells := 0, slots := 0, locals := 45 } : Room) (cP G [.ref mo, .int (nI m2)] [ob mo 6 [.ref u0, .ref u1, .ref u2, .ref u3, .ref u4, .ref u5, .int (nI sm), .int (nI sa), .int (nI le), .int (nI ra), .int (nI fa)], ar G u0 481 nw, ar G u3 800 mk, ar G u4 800 vl]) (qI (fun rv H => ∃ (mk1 : Nat → Int32) (vl1 : Nat → Int32), rv = (nI (ftR (rsM σ) m2)) ∧ va_P G.1 vwCl [ob mo 6 [.ref u0, .ref u1, .ref u2, .ref u3, .ref u4, .ref u5, .int (nI sm), .int (nI sa), .int (nI le), .int (nI ra), .int (nI fa)], ar G u0 481 nw, ar G u3 800 mk1, ar G u4 800 vl1] H) (mA [ob mo 6 [.ref u0, .ref u1, .ref u2, .ref u3, .ref u4, .ref u5, .int (nI sm), .int (nI sa), .int (nI le), .int (nI ra), .int (nI fa)], ar G u0 481 nw, ar G u3 800 mk, ar G u4 800 vl])) 0 0 (mA [ob mo 6 [.ref u0, .ref u1, .ref u2, .ref u3, .ref u4, .ref u5, .int (nI sm), .int (nI sa), .int (nI le), .int (nI ra), .int (nI fa)], ar G u0 481 nw, ar G u3 800 mk, ar G u4 800 vl]) := by
  refine met_muI (cc := cX6_fit) (maxL := 2) (ty := .int) (own := RX6) (by decide) rfl rfl (fun _ _ _ => rfl) (Nat.le_of_ble_eq_true rfl) ?_
  intro p e s m args below meth cod Q A hx hb hml hown hts hK hP hD hS hret ls hl
  have hl : lv_has ls 2 [(0, .ref mo), (1, .int (nI m2))] := hl
  refine lv_iload_n hx hb dX6_fit_0 rfl (lv_at hl 1 rfl) ?_
  refine lv_iconst (v := (nI 1)) hx hb dX6_fit_1 (by decide) ?_
  refine lv_ldc (v := (nI 65535)) hx hb hown (hts (.constant RX6 154 (nI 65535)) (List.mem_of_getElem? (i := 1) rfl)) dX6_fit_2 ?_
  refine g_ro (k_S (n := 3) (As := [.int (nI m2), .int (nI 1), .int (nI 65535)]) (rest := []) (wc := []) hx hb hml hown hts (c_X6_in (l := l) (G := G) (xa := nI m2) (xb := nI 1) (xc := nI 65535))  gX6_fit_X6_in rfl rfl rfl (by decide +kernel) ⟨Nat.le_of_ble_eq_true rfl, Nat.le_of_ble_eq_true rfl⟩ rfl hK hP hD [] rfl (by decide)  hl.1 rfl (Nat.le_of_ble_eq_true rfl) dX6_fit_4 ⟨Nat.le_of_ble_eq_true rfl, Nat.le_of_ble_eq_true rfl⟩) (fun r4 h4 => ?_)
  obtain rfl : (bI (ing (nI m2) (nI 1) (nI 65535))) = r4 := Eq.symm h4
  refine r_if_ne (P := (ing (nI m2) (nI 1) (nI 65535)) = false) (tgt := 12) hx hb dX6_fit_7 (by decide) (bI_eq0) (fun cq7 => ?_) (fun cq7 => ?_)
  · refine lv_aload_n hx hb dX6_fit_12 rfl (lv_at hl 0 rfl) ?_
    refine g_V (k_V (q0 := 0) (ci := 6) (n := 0) (As := []) (rest := []) (wc := [ob mo 6 [.ref u0, .ref u1, .ref u2, .ref u3, .ref u4, .ref u5, .int (nI sm), .int (nI sa), .int (nI le), .int (nI ra), .int (nI fa)], ar G u0 481 nw, ar G u3 800 mk, ar G u4 800 vl]) hx hb hml hown hts (c_X6_layStore (l := l) (G := G) (mo := mo) (u0 := u0) (u1 := u1) (u2 := u2) (u3 := u3) (u4 := u4) (u5 := u5) (sm := sm) (sa := sa) (le := le) (ra := ra) (fa := fa) (σ := by first | assumption | omega) (nw := nw) (hR := by first | assumption | omega) (hB := by first | assumption | omega) (hT1 := by first | assumption | omega) (mk := mk) (vl := vl))  gX6_fit_X6_layStore rfl rfl rfl (by decide +kernel) ⟨Nat.le_of_ble_eq_true rfl, Nat.le_of_ble_eq_true rfl⟩ rfl hK hP hD [0, 1, 2, 3] rfl (by decide)  rfl rfl rfl hl.1 rfl (Nat.le_of_ble_eq_true rfl) dX6_fit_13 ⟨Nat.le_of_ble_eq_true rfl, Nat.le_of_ble_eq_true rfl⟩) hP hD hS [0, 1, 2, 3] rfl (fun H locs hB13 back hS => ?_)
    obtain ⟨mk113, vl113, hq13, hP1⟩ := hB13
    obtain ⟨hP, hD⟩ := back [ob mo 6 [.ref u0, .ref u1, .ref u2, .ref u3, .ref u4, .ref u5, .int (nI sm), .int (nI sa), .int (nI le), .int (nI ra), .int (nI fa)], ar G u0 481 nw, ar G u3 800 mk113, ar G u4 800 vl113] rfl hP1
    have hP : va_P G.1 vwCl [ob mo 6 [.ref u0, .ref u1, .ref u2, .ref u3, .ref u4, .ref u5, .int (nI sm), .int (nI sa), .int (nI le), .int (nI ra), .int (nI fa)], ar G u0 481 nw, ar G u3 800 mk113, ar G u4 800 vl113] H := hP
    have hD : va_D A [ob mo 6 [.ref u0, .ref u1, .ref u2, .ref u3, .ref u4, .ref u5, .int (nI sm), .int (nI sa), .int (nI le), .int (nI ra), .int (nI fa)], ar G u0 481 nw, ar G u3 800 mk113, ar G u4 800 vl113] := hD
    refine lv_aload_n hx hb dX6_fit_16 rfl (lv_at hl 0 rfl) ?_
    refine lv_iload_n hx hb dX6_fit_17 rfl (lv_at hl 1 rfl) ?_
    refine g_ro (k_V (q0 := 0) (ci := 6) (n := 1) (As := [.int (nI m2)]) (rest := []) (wc := [ob mo 6 [.ref u0, .ref u1, .ref u2, .ref u3, .ref u4, .ref u5, .int (nI sm), .int (nI sa), .int (nI le), .int (nI ra), .int (nI fa)], ar G u3 800 mk113]) hx hb hml hown hts (c_X6_fits (l := l) (G := G) (mo := mo) (u0 := u0) (u1 := u1) (u2 := u2) (u3 := u3) (u4 := u4) (u5 := u5) (sm := sm) (sa := sa) (le := le) (ra := ra) (fa := fa) (cm := (rsM σ)) (gv := (rsV σ)) (mk := mk113) (vl := vl113) (hm := (rsT_Bc hB _)) (hq := hq13) (m2 := m2) (hm2 := by first | assumption | omega))  gX6_fit_X6_fits rfl rfl rfl (by decide +kernel) ⟨Nat.le_of_ble_eq_true rfl, Nat.le_of_ble_eq_true rfl⟩ rfl hK hP hD [0, 2] rfl (by decide)  rfl rfl rfl hl.1 rfl (Nat.le_of_ble_eq_true rfl) dX6_fit_18 ⟨Nat.le_of_ble_eq_true rfl, Nat.le_of_ble_eq_true rfl⟩) (fun r18 h18 => ?_)
    obtain rfl : (nI (ftR (rsM σ) m2)) = r18 := Eq.symm h18
    have b18 := ftR_le (rsM σ) m2
    exact hret _ _ _ _ _ hS dX6_fit_21 (⟨mk113, vl113, rfl, hP⟩)
  · exact (no_f (ing_ok (by omega) (by omega) (by decide)) cq7).elim

theorem iqX6_slimmer_X6 : ∀ w ∈ u_ws RX6 TX6 11, w ∈ wsX6_slimmer := by decide +kernel
set_option maxHeartbeats 1000000 in
set_option maxRecDepth 100000 in
theorem c_X6_slimmer (l : Launch) (G : kG) (mo u0 u1 u2 u3 u4 u5 sm sa le ra fa : Nat) (σ : Sg) (nw : Nat → Int32) (hR : Rel σ nw) (hB : Bd σ)  : Met l yX6_slimmer wsX6_slimmer ({ frames := 3, cells := 0, slots := 0, locals := 69 } : Room) (cP G [.ref mo] [ob mo 6 [.ref u0, .ref u1, .ref u2, .ref u3, .ref u4, .ref u5, .int (nI sm), .int (nI sa), .int (nI le), .int (nI ra), .int (nI fa)], ar G u0 481 nw]) (vp_Si (fun rv => rv = (nI (fb_sm (slmB σ) (nn σ))))) 0 0 (fun _ => False) := by
  refine met_ro (cc := cX6_slimmer) (maxL := 3) (ty := .int) (own := RX6) (by decide) rfl rfl (fun _ _ => rfl) (Nat.le_of_ble_eq_true rfl) ?_
  intro p e s m args below meth cod Q hx hb hml hown hts hK hP hD hret ls hl
  have hl : lv_has ls 3 [(0, .ref mo)] := hl
  have h24 := hB.n
  refine lv_iconst (v := (nI 0)) hx hb dX6_slimmer_0 (by decide) ?_
  refine lv_istore_n (lv' := [(1, .int (nI 0)), (0, .ref mo)]) hx hb dX6_slimmer_1 rfl hl (by decide) rfl (fun ls hl => ?_)
  refine lv_iconst (v := (nI 0)) hx hb dX6_slimmer_2 (by decide) ?_
  refine lv_istore_n (lv' := [(2, .int (nI 0)), (1, .int (nI 0)), (0, .ref mo)]) hx hb dX6_slimmer_3 rfl hl (by decide) rfl (fun ls hl => ?_)
  have L4 : ∀ (fu : Nat) (r : Nat) (k : Nat), nn σ + 1 - r < fu → r ≤ nn σ → k = fb_sm (slmB σ) r → k ≤ r * 16 → ∀ (ls : Array Slot), lv_has ls 3 [(0, .ref mo), (1, .int (nI k)), (2, .int (nI r))] → W p l e ({ frames := 3, cells := 0, slots := 0, locals := 69 } : Room) s m args below meth cod s.heap [] 0 0 Q (F0 m 4 ls []) := by
    intro fu
    induction fu with
    | zero => intro r k hm; exact absurd hm (Nat.not_lt_zero _)
    | succ fu ih4 =>
      intro r k hm4 hr hk hkl ls hl
      refine lv_iload_n hx hb dX6_slimmer_4 rfl (lv_at hl 2 rfl) ?_
      refine lv_aload_n hx hb dX6_slimmer_5 rfl (lv_at hl 0 rfl) ?_
      refine va_get (D := G.1) (ci := 6) (v := .ref u0) (C := RX6) (T := TX6) (N := 11) hx hb hts iqX6_slimmer_X6 hown hK.1 hP 0 rfl rfl 0 (by decide) (hts (.fieldLink RX6 7 "PushedTablesModel" "now" "[I") (List.mem_of_getElem? (i := 1) rfl)) (fun _ h9 => h9) rfl dX6_slimmer_6 ?_
      refine lv_iconst (v := (nI 0)) hx hb dX6_slimmer_9 (by decide) ?_
      refine r_iald (e1 := 0) (v := (nI (nn σ))) hx hb hK.1 hP 1 0 rfl rfl (by omega) (by first | decide | assumption) (hR.n) dX6_slimmer_10 ?_
      refine r_icmp_ge (P := (nn σ) ≤ r) (tgt := 46) hx hb dX6_slimmer_11 (by decide) (nI_leI (by omega) (by omega)) (fun cq11 => ?_) (fun cq11 => ?_)
      · refine lv_iload_n hx hb dX6_slimmer_46 rfl (lv_at hl 1 rfl) ?_
        exact hret _ _ _ dX6_slimmer_47 (by have e : r = nn σ := (by omega); rw [hk, e])
      · have cl := cols_lt σ r
        have el := ebT_lt σ r (mv σ r)
        have ml := mv_lt σ r
        have sl := slmB_le σ r
        obtain ⟨so1, so2⟩ := slm_of hB r
        refine lv_iload_n hx hb dX6_slimmer_14 rfl (lv_at hl 1 rfl) ?_
        refine lv_aload_n hx hb dX6_slimmer_15 rfl (lv_at hl 0 rfl) ?_
        refine lv_iload_n hx hb dX6_slimmer_16 rfl (lv_at hl 2 rfl) ?_
        refine g_ro (k_V (q0 := 0) (ci := 6) (n := 1) (As := [.int (nI r)]) (rest := [.int (nI k)]) (wc := [ob mo 6 [.ref u0, .ref u1, .ref u2, .ref u3, .ref u4, .ref u5, .int (nI sm), .int (nI sa), .int (nI le), .int (nI ra), .int (nI fa)], ar G u0 481 nw]) hx hb hml hown hts (c_X6_entries (l := l) (G := G) (mo := mo) (u0 := u0) (u1 := u1) (u2 := u2) (u3 := u3) (u4 := u4) (u5 := u5) (sm := sm) (sa := sa) (le := le) (ra := ra) (fa := fa) (σ := by first | assumption | omega) (nw := nw) (hR := by first | assumption | omega) (hB := by first | assumption | omega) (r := r) (hr := by first | assumption | omega))  gX6_slimmer_X6_entries rfl rfl rfl (by decide +kernel) ⟨Nat.le_of_ble_eq_true rfl, Nat.le_of_ble_eq_true rfl⟩ rfl hK hP hD [0, 1] rfl (by decide)  rfl rfl rfl hl.1 rfl (Nat.le_of_ble_eq_true rfl) dX6_slimmer_17 ⟨Nat.le_of_ble_eq_true rfl, Nat.le_of_ble_eq_true rfl⟩) (fun r17 h17 => ?_)
        obtain rfl : (nI (cols σ r)) = r17 := Eq.symm h17
        have b17 := cols_lt σ r
        refine g_ro (k_S (n := 1) (As := [.int (nI (cols σ r))]) (rest := [.int (nI k)]) (wc := []) hx hb hml hown hts (c_X6_bits (l := l) (G := G) (m2 := cols σ r) (hm2 := by first | assumption | omega))  gX6_slimmer_X6_bits rfl rfl rfl (by decide +kernel) ⟨Nat.le_of_ble_eq_true rfl, Nat.le_of_ble_eq_true rfl⟩ rfl hK hP hD [] rfl (by decide)  hl.1 rfl (Nat.le_of_ble_eq_true rfl) dX6_slimmer_20 ⟨Nat.le_of_ble_eq_true rfl, Nat.le_of_ble_eq_true rfl⟩) (fun r20 h20 => ?_)
        obtain rfl : (nI (pop (cols σ r))) = r20 := Eq.symm h20
        have b20 := pop_le (cols σ r)
        refine lv_aload_n hx hb dX6_slimmer_23 rfl (lv_at hl 0 rfl) ?_
        refine lv_iload_n hx hb dX6_slimmer_24 rfl (lv_at hl 2 rfl) ?_
        refine lv_aload_n hx hb dX6_slimmer_25 rfl (lv_at hl 0 rfl) ?_
        refine lv_iload_n hx hb dX6_slimmer_26 rfl (lv_at hl 2 rfl) ?_
        refine g_ro (k_V (q0 := 0) (ci := 6) (n := 1) (As := [.int (nI r)]) (rest := [.int (nI r), .ref mo, .int (nI (pop (cols σ r))), .int (nI k)]) (wc := [ob mo 6 [.ref u0, .ref u1, .ref u2, .ref u3, .ref u4, .ref u5, .int (nI sm), .int (nI sa), .int (nI le), .int (nI ra), .int (nI fa)], ar G u0 481 nw]) hx hb hml hown hts (c_X6_most (l := l) (G := G) (mo := mo) (u0 := u0) (u1 := u1) (u2 := u2) (u3 := u3) (u4 := u4) (u5 := u5) (sm := sm) (sa := sa) (le := le) (ra := ra) (fa := fa) (σ := by first | assumption | omega) (nw := nw) (hR := by first | assumption | omega) (hB := by first | assumption | omega) (r := r) (hr := by first | assumption | omega))  gX6_slimmer_X6_most rfl rfl rfl (by decide +kernel) ⟨Nat.le_of_ble_eq_true rfl, Nat.le_of_ble_eq_true rfl⟩ rfl hK hP hD [0, 1] rfl (by decide)  rfl rfl rfl hl.1 rfl (Nat.le_of_ble_eq_true rfl) dX6_slimmer_27 ⟨Nat.le_of_ble_eq_true rfl, Nat.le_of_ble_eq_true rfl⟩) (fun r27 h27 => ?_)
        obtain rfl : (nI (mv σ r)) = r27 := Eq.symm h27
        have b27 := mv_lt σ r
        refine lv_iconst (v := (bI true)) hx hb dX6_slimmer_30 (by decide) ?_
        refine g_ro (k_V (q0 := 0) (ci := 6) (n := 3) (As := [.int (nI r), .int (nI (mv σ r)), .int (bI true)]) (rest := [.int (nI (pop (cols σ r))), .int (nI k)]) (wc := [ob mo 6 [.ref u0, .ref u1, .ref u2, .ref u3, .ref u4, .ref u5, .int (nI sm), .int (nI sa), .int (nI le), .int (nI ra), .int (nI fa)], ar G u0 481 nw]) hx hb hml hown hts (c_X6_entriesBy_t (l := l) (G := G) (mo := mo) (u0 := u0) (u1 := u1) (u2 := u2) (u3 := u3) (u4 := u4) (u5 := u5) (sm := sm) (sa := sa) (le := le) (ra := ra) (fa := fa) (σ := by first | assumption | omega) (nw := nw) (hR := by first | assumption | omega) (hB := by first | assumption | omega) (r := r) (v := mv σ r) (hr := by first | assumption | omega) (hv9 := by first | assumption | omega))  gX6_slimmer_X6_entriesBy rfl rfl rfl (by decide +kernel) ⟨Nat.le_of_ble_eq_true rfl, Nat.le_of_ble_eq_true rfl⟩ rfl hK hP hD [0, 1] rfl (by decide)  rfl rfl rfl hl.1 rfl (Nat.le_of_ble_eq_true rfl) dX6_slimmer_31 ⟨Nat.le_of_ble_eq_true rfl, Nat.le_of_ble_eq_true rfl⟩) (fun r31 h31 => ?_)
        obtain rfl : (nI (ebT σ r (mv σ r))) = r31 := Eq.symm h31
        have b31 := ebT_lt σ r (mv σ r)
        refine g_ro (k_S (n := 1) (As := [.int (nI (ebT σ r (mv σ r)))]) (rest := [.int (nI (pop (cols σ r))), .int (nI k)]) (wc := []) hx hb hml hown hts (c_X6_bits (l := l) (G := G) (m2 := ebT σ r (mv σ r)) (hm2 := by first | assumption | omega))  gX6_slimmer_X6_bits rfl rfl rfl (by decide +kernel) ⟨Nat.le_of_ble_eq_true rfl, Nat.le_of_ble_eq_true rfl⟩ rfl hK hP hD [] rfl (by decide)  hl.1 rfl (Nat.le_of_ble_eq_true rfl) dX6_slimmer_34 ⟨Nat.le_of_ble_eq_true rfl, Nat.le_of_ble_eq_true rfl⟩) (fun r34 h34 => ?_)
        obtain rfl : (nI (pop (ebT σ r (mv σ r)))) = r34 := Eq.symm h34
        have b34 := pop_le (ebT σ r (mv σ r))
        refine r_isub (v := (pop (cols σ r)) - (pop (ebT σ r (mv σ r)))) hx hb dX6_slimmer_37 (by omega) rfl ?_
        refine r_top (y := (nI (slmB σ r))) (congrArg nI so2) ?_
        refine r_iadd (v := k + (slmB σ r)) hx hb dX6_slimmer_38 rfl ?_
        refine lv_istore_n (lv' := [(1, .int (nI (k + (slmB σ r)))), (0, .ref mo), (2, .int (nI r))]) hx hb dX6_slimmer_39 rfl hl (by decide) rfl (fun ls hl => ?_)
        refine r_iinc (v := r + 1) (lv' := [(2, .int (nI (r + 1))), (1, .int (nI (k + (slmB σ r)))), (0, .ref mo)]) hx hb dX6_slimmer_40 hl (k := 2) rfl (nI_1 _) (by decide) rfl (fun ls hl => ?_)
        refine lv_goto (tgt := 4) hx hb dX6_slimmer_43 (by decide) ?_
        exact ih4 (r + 1) (k + (slmB σ r)) (by omega) (by omega) (by rw [hk]; rfl) (by omega) ls (lv_sub hl [2, 1, 0] rfl)
  exact L4 ((nn σ + 1 - 0) + 1) 0 0 (Nat.lt_succ_self _) (by omega) (rfl) (by omega) ls (lv_sub hl [2, 1, 0] rfl)

theorem iqX6_like_ok_X6 : ∀ w ∈ u_ws RX6 TX6 11, w ∈ wsX6_like := by decide +kernel
set_option maxHeartbeats 1000000 in
set_option maxRecDepth 100000 in
theorem c_X6_like_ok (l : Launch) (G : kG) (mo u0 u1 u2 u3 u4 u5 sm sa le ra fa : Nat) (σ : Sg) (nw : Nat → Int32) (hR : Rel σ nw) (hB : Bd σ) (r : Nat) (hr : r < nn σ) : Met l yX6_like wsX6_like ({ frames := 2, cells := 0, slots := 0, locals := 43 } : Room) (cP G [.ref mo, .int (nI r)] [ob mo 6 [.ref u0, .ref u1, .ref u2, .ref u3, .ref u4, .ref u5, .int (nI sm), .int (nI sa), .int (nI le), .int (nI ra), .int (nI fa)], ar G u0 481 nw]) (vp_Si (fun rv => rv = (e9 ((lkB (eqc σ r) r (nn σ)).1)))) 0 0 (fun _ => False) := by
  refine met_ro (cc := cX6_like) (maxL := 7) (ty := .int) (own := RX6) (by decide) rfl rfl (fun _ _ => rfl) (Nat.le_of_ble_eq_true rfl) ?_
  intro p e s m args below meth cod Q hx hb hml hown hts hK hP hD hret ls hl
  have hl : lv_has ls 7 [(0, .ref mo), (1, .int (nI r))] := hl
  have h24 := hB.n
  refine lv_aload_n hx hb dX6_like_0 rfl (lv_at hl 0 rfl) ?_
  refine lv_iload_n hx hb dX6_like_1 rfl (lv_at hl 1 rfl) ?_
  refine g_ro (k_V (q0 := 0) (ci := 6) (n := 1) (As := [.int (nI r)]) (rest := []) (wc := [ob mo 6 [.ref u0, .ref u1, .ref u2, .ref u3, .ref u4, .ref u5, .int (nI sm), .int (nI sa), .int (nI le), .int (nI ra), .int (nI fa)], ar G u0 481 nw]) hx hb hml hown hts (c_X6_isRow (l := l) (G := G) (mo := mo) (u0 := u0) (u1 := u1) (u2 := u2) (u3 := u3) (u4 := u4) (u5 := u5) (sm := sm) (sa := sa) (le := le) (ra := ra) (fa := fa) (σ := by first | assumption | omega) (nw := nw) (hR := by first | assumption | omega) (hB := by first | assumption | omega) (xa := nI r))  gX6_like_X6_isRow rfl rfl rfl (by decide +kernel) ⟨Nat.le_of_ble_eq_true rfl, Nat.le_of_ble_eq_true rfl⟩ rfl hK hP hD [0, 1] rfl (by decide)  rfl rfl rfl hl.1 rfl (Nat.le_of_ble_eq_true rfl) dX6_like_2 ⟨Nat.le_of_ble_eq_true rfl, Nat.le_of_ble_eq_true rfl⟩) (fun r2 h2 => ?_)
  obtain rfl : (bI (inr (nI r) 0 ((nn σ : Int) - 1))) = r2 := Eq.symm h2
  refine r_if_ne (P := (inr (nI r) 0 ((nn σ : Int) - 1)) = false) (tgt := 10) hx hb dX6_like_5 (by decide) (bI_eq0) (fun cq5 => ?_) (fun cq5 => ?_)
  · refine lv_bipush (v := (e9 1000)) hx hb dX6_like_10 (by decide) ?_
    refine lv_istore_n (lv' := [(2, .int (e9 1000)), (0, .ref mo), (1, .int (nI r))]) hx hb dX6_like_12 rfl hl (by decide) rfl (fun ls hl => ?_)
    refine lv_iconst (v := (e1 1000)) hx hb dX6_like_13 (by decide) ?_
    refine lv_istore_n (lv' := [(3, .int (e1 1000)), (2, .int (e9 1000)), (0, .ref mo), (1, .int (nI r))]) hx hb dX6_like_14 rfl hl (by decide) rfl (fun ls hl => ?_)
    refine lv_iconst (v := (nI 0)) hx hb dX6_like_15 (by decide) ?_
    refine lv_istore (lv' := [(4, .int (nI 0)), (3, .int (e1 1000)), (2, .int (e9 1000)), (0, .ref mo), (1, .int (nI r))]) hx hb dX6_like_16 hl (by decide) rfl (fun ls hl => ?_)
    have L18 : ∀ (fu : Nat) (b : Nat) (x8 : Nat) (q : Nat), nn σ + 1 - q < fu → q ≤ nn σ → (b, x8) = lkB (eqc σ r) r q → x8 ≤ 16 ∨ x8 = 1000 → ∀ (ls : Array Slot), lv_has ls 7 [(0, .ref mo), (1, .int (nI r)), (2, .int (e9 b)), (3, .int (e1 x8)), (4, .int (nI q))] → W p l e ({ frames := 2, cells := 0, slots := 0, locals := 43 } : Room) s m args below meth cod s.heap [] 0 0 Q (F0 m 18 ls []) := by
      intro fu
      induction fu with
      | zero => intro b x8 q hm; exact absurd hm (Nat.not_lt_zero _)
      | succ fu ih18 =>
        intro b x8 q hm18 hq hm hm2 ls hl
        refine lv_iload hx hb dX6_like_18 (lv_at hl 4 rfl) ?_
        refine lv_aload_n hx hb dX6_like_20 rfl (lv_at hl 0 rfl) ?_
        refine va_get (D := G.1) (ci := 6) (v := .ref u0) (C := RX6) (T := TX6) (N := 11) hx hb hts iqX6_like_ok_X6 hown hK.1 hP 0 rfl rfl 0 (by decide) (hts (.fieldLink RX6 7 "PushedTablesModel" "now" "[I") (List.mem_of_getElem? (i := 1) rfl)) (fun _ h9 => h9) rfl dX6_like_21 ?_
        refine lv_iconst (v := (nI 0)) hx hb dX6_like_24 (by decide) ?_
        refine r_iald (e1 := 0) (v := (nI (nn σ))) hx hb hK.1 hP 1 0 rfl rfl (by omega) (by first | decide | assumption) (hR.n) dX6_like_25 ?_
        refine r_icmp_ge (P := (nn σ) ≤ q) (tgt := 100) hx hb dX6_like_26 (by decide) (nI_leI (by omega) (by omega)) (fun cq26 => ?_) (fun cq26 => ?_)
        · refine lv_iload_n hx hb dX6_like_100 rfl (lv_at hl 2 rfl) ?_
          exact hret _ _ _ dX6_like_101 (by have e : q = nn σ := (by omega); rw [← e, ← hm])
        · refine lv_iconst (v := (nI 0)) hx hb dX6_like_29 (by decide) ?_
          refine lv_istore (lv' := [(5, .int (nI 0)), (0, .ref mo), (1, .int (nI r)), (2, .int (e9 b)), (3, .int (e1 x8)), (4, .int (nI q))]) hx hb dX6_like_30 hl (by decide) rfl (fun ls hl => ?_)
          refine lv_iconst (v := (nI 0)) hx hb dX6_like_32 (by decide) ?_
          refine lv_istore (lv' := [(6, .int (nI 0)), (5, .int (nI 0)), (0, .ref mo), (1, .int (nI r)), (2, .int (e9 b)), (3, .int (e1 x8)), (4, .int (nI q))]) hx hb dX6_like_33 hl (by decide) rfl (fun ls hl => ?_)
          have L35 : ∀ (fu : Nat) (c : Nat) (c9 : Nat), 17 - c < fu → c ≤ 16 → c9 = fb_ct (fun c => decide (vv σ (r * 16 + c) = vv σ (q * 16 + c))) c → c9 ≤ c → ∀ (ls : Array Slot), lv_has ls 7 [(0, .ref mo), (1, .int (nI r)), (2, .int (e9 b)), (3, .int (e1 x8)), (4, .int (nI q)), (5, .int (nI c9)), (6, .int (nI c))] → W p l e ({ frames := 2, cells := 0, slots := 0, locals := 43 } : Room) s m args below meth cod s.heap [] 0 0 Q (F0 m 35 ls []) := by
            intro fu
            induction fu with
            | zero => intro c c9 hm; exact absurd hm (Nat.not_lt_zero _)
            | succ fu ih35 =>
              intro c c9 hm35 hc hc9 hc9l ls hl
              refine lv_iload hx hb dX6_like_35 (lv_at hl 6 rfl) ?_
              refine lv_bipush (v := (nI 16)) hx hb dX6_like_37 (by decide) ?_
              refine r_icmp_ge (P := 16 ≤ c) (tgt := 76) hx hb dX6_like_39 (by decide) (nI_leI (by omega) (by omega)) (fun cq39 => ?_) (fun cq39 => ?_)
              · have hk9 : c9 = eqc σ r q := (by have e : c = 16 := (by omega); rw [hc9, e]; rfl)
                have ecl := eqc_le σ r q
                refine lv_iload hx hb dX6_like_76 (lv_at hl 4 rfl) ?_
                refine lv_iload_n hx hb dX6_like_78 rfl (lv_at hl 1 rfl) ?_
                refine r_icmp_eq (P := q = r) (tgt := 94) hx hb dX6_like_79 (by decide) (nI_eq (by omega) (by omega)) (fun cq79 => ?_) (fun cq79 => ?_)
                · refine r_iinc (v := q + 1) (lv' := [(4, .int (nI (q + 1))), (0, .ref mo), (1, .int (nI r)), (2, .int (e9 b)), (3, .int (e1 x8)), (5, .int (nI c9)), (6, .int (nI c))]) hx hb dX6_like_94 hl (k := 4) rfl (nI_1 _) (by decide) rfl (fun ls hl => ?_)
                  refine lv_goto (tgt := 18) hx hb dX6_like_97 (by decide) ?_
                  exact ih18 b x8 (q + 1) (by omega) (by omega) (lk_no hm (fun z => z.1 cq79)) (hm2) ls (lv_sub hl [1, 2, 3, 4, 0] rfl)
                · refine lv_iload hx hb dX6_like_82 (lv_at hl 5 rfl) ?_
                  refine lv_iload_n hx hb dX6_like_84 rfl (lv_at hl 3 rfl) ?_
                  refine r_icmp_le (P := ¬ (x8 = 1000 ∨ x8 < c9)) (tgt := 94) hx hb dX6_like_85 (by decide) (e1_ltn (by omega) (by omega)) (fun cq85 => ?_) (fun cq85 => ?_)
                  · refine r_iinc (v := q + 1) (lv' := [(4, .int (nI (q + 1))), (0, .ref mo), (1, .int (nI r)), (2, .int (e9 b)), (3, .int (e1 x8)), (5, .int (nI c9)), (6, .int (nI c))]) hx hb dX6_like_94 hl (k := 4) rfl (nI_1 _) (by decide) rfl (fun ls hl => ?_)
                    refine lv_goto (tgt := 18) hx hb dX6_like_97 (by decide) ?_
                    exact ih18 b x8 (q + 1) (by omega) (by omega) (lk_no hm (fun z => cq85 (by rw [hk9]; exact z.2))) (hm2) ls (lv_sub hl [1, 2, 3, 4, 0] rfl)
                  · refine lv_iload hx hb dX6_like_88 (lv_at hl 4 rfl) ?_
                    refine r_top (y := (e9 q)) ((e9_n (by omega)).symm) ?_
                    refine lv_istore_n (lv' := [(2, .int (e9 q)), (0, .ref mo), (1, .int (nI r)), (3, .int (e1 x8)), (4, .int (nI q)), (5, .int (nI c9)), (6, .int (nI c))]) hx hb dX6_like_90 rfl hl (by decide) rfl (fun ls hl => ?_)
                    refine lv_iload hx hb dX6_like_91 (lv_at hl 5 rfl) ?_
                    refine r_top (y := (e1 c9)) ((e1_n (by omega)).symm) ?_
                    refine lv_istore_n (lv' := [(3, .int (e1 c9)), (2, .int (e9 q)), (0, .ref mo), (1, .int (nI r)), (4, .int (nI q)), (5, .int (nI c9)), (6, .int (nI c))]) hx hb dX6_like_93 rfl hl (by decide) rfl (fun ls hl => ?_)
                    refine r_iinc (v := q + 1) (lv' := [(4, .int (nI (q + 1))), (3, .int (e1 c9)), (2, .int (e9 q)), (0, .ref mo), (1, .int (nI r)), (5, .int (nI c9)), (6, .int (nI c))]) hx hb dX6_like_94 hl (k := 4) rfl (nI_1 _) (by decide) rfl (fun ls hl => ?_)
                    refine lv_goto (tgt := 18) hx hb dX6_like_97 (by decide) ?_
                    exact ih18 q c9 (q + 1) (by omega) (by omega) (lk_yes hm hk9 ⟨cq79, Classical.not_not.mp cq85⟩) (Or.inl (by omega)) ls (lv_sub hl [3, 4, 2, 1, 0] rfl)
              · have bv1 := hB.v (q * 16 + c)
                have bv2 := hB.v (r * 16 + c)
                refine lv_iload hx hb dX6_like_42 (lv_at hl 5 rfl) ?_
                refine lv_aload_n hx hb dX6_like_44 rfl (lv_at hl 0 rfl) ?_
                refine lv_iload hx hb dX6_like_45 (lv_at hl 4 rfl) ?_
                refine lv_iload hx hb dX6_like_47 (lv_at hl 6 rfl) ?_
                refine g_ro (k_V (q0 := 0) (ci := 6) (n := 2) (As := [.int (nI q), .int (nI c)]) (rest := [.int (nI c9)]) (wc := [ob mo 6 [.ref u0, .ref u1, .ref u2, .ref u3, .ref u4, .ref u5, .int (nI sm), .int (nI sa), .int (nI le), .int (nI ra), .int (nI fa)], ar G u0 481 nw]) hx hb hml hown hts (c_X6_valueOf (l := l) (G := G) (mo := mo) (u0 := u0) (u1 := u1) (u2 := u2) (u3 := u3) (u4 := u4) (u5 := u5) (sm := sm) (sa := sa) (le := le) (ra := ra) (fa := fa) (σ := by first | assumption | omega) (nw := nw) (hR := by first | assumption | omega) (hB := by first | assumption | omega) (r := q) (c := c) (hr := by first | assumption | omega) (hc := by first | assumption | omega))  gX6_like_X6_valueOf rfl rfl rfl (by decide +kernel) ⟨Nat.le_of_ble_eq_true rfl, Nat.le_of_ble_eq_true rfl⟩ rfl hK hP hD [0, 1] rfl (by decide)  rfl rfl rfl hl.1 rfl (Nat.le_of_ble_eq_true rfl) dX6_like_49 ⟨Nat.le_of_ble_eq_true rfl, Nat.le_of_ble_eq_true rfl⟩) (fun r49 h49 => ?_)
                obtain rfl : (nI (vv σ (q * 16 + c))) = r49 := Eq.symm h49
                have b49 := (by assumption : Bd σ).v (q * 16 + c)
                refine lv_aload_n hx hb dX6_like_52 rfl (lv_at hl 0 rfl) ?_
                refine lv_iload_n hx hb dX6_like_53 rfl (lv_at hl 1 rfl) ?_
                refine lv_iload hx hb dX6_like_54 (lv_at hl 6 rfl) ?_
                refine g_ro (k_V (q0 := 0) (ci := 6) (n := 2) (As := [.int (nI r), .int (nI c)]) (rest := [.int (nI (vv σ (q * 16 + c))), .int (nI c9)]) (wc := [ob mo 6 [.ref u0, .ref u1, .ref u2, .ref u3, .ref u4, .ref u5, .int (nI sm), .int (nI sa), .int (nI le), .int (nI ra), .int (nI fa)], ar G u0 481 nw]) hx hb hml hown hts (c_X6_valueOf (l := l) (G := G) (mo := mo) (u0 := u0) (u1 := u1) (u2 := u2) (u3 := u3) (u4 := u4) (u5 := u5) (sm := sm) (sa := sa) (le := le) (ra := ra) (fa := fa) (σ := by first | assumption | omega) (nw := nw) (hR := by first | assumption | omega) (hB := by first | assumption | omega) (r := r) (c := c) (hr := by first | assumption | omega) (hc := by first | assumption | omega))  gX6_like_X6_valueOf rfl rfl rfl (by decide +kernel) ⟨Nat.le_of_ble_eq_true rfl, Nat.le_of_ble_eq_true rfl⟩ rfl hK hP hD [0, 1] rfl (by decide)  rfl rfl rfl hl.1 rfl (Nat.le_of_ble_eq_true rfl) dX6_like_56 ⟨Nat.le_of_ble_eq_true rfl, Nat.le_of_ble_eq_true rfl⟩) (fun r56 h56 => ?_)
                obtain rfl : (nI (vv σ (r * 16 + c))) = r56 := Eq.symm h56
                have b56 := (by assumption : Bd σ).v (r * 16 + c)
                refine r_icmp_ne (P := (vv σ (q * 16 + c)) = (vv σ (r * 16 + c))) (tgt := 66) hx hb dX6_like_59 (by decide) (nI_eq (by omega) (by omega)) (fun cq59 => ?_) (fun cq59 => ?_)
                · refine lv_iconst (v := (nI 0)) hx hb dX6_like_66 (by decide) ?_
                  refine r_iadd (v := c9 + 0) hx hb dX6_like_67 rfl ?_
                  refine lv_istore (lv' := [(5, .int (nI (c9 + 0))), (0, .ref mo), (1, .int (nI r)), (2, .int (e9 b)), (3, .int (e1 x8)), (4, .int (nI q)), (6, .int (nI c))]) hx hb dX6_like_68 hl (by decide) rfl (fun ls hl => ?_)
                  refine r_iinc (v := c + 1) (lv' := [(6, .int (nI (c + 1))), (5, .int (nI (c9 + 0))), (0, .ref mo), (1, .int (nI r)), (2, .int (e9 b)), (3, .int (e1 x8)), (4, .int (nI q))]) hx hb dX6_like_70 hl (k := 6) rfl (nI_1 _) (by decide) rfl (fun ls hl => ?_)
                  refine lv_goto (tgt := 35) hx hb dX6_like_73 (by decide) ?_
                  exact ih35 (c + 1) (c9 + 0) (by omega) (by omega) (ct_f (decide_eq_false (fun z => cq59 z.symm)) hc9) (by omega) ls (lv_sub hl [2, 3, 4, 5, 6, 1, 0] rfl)
                · refine lv_iconst (v := (nI 1)) hx hb dX6_like_62 (by decide) ?_
                  refine lv_goto (tgt := 67) hx hb dX6_like_63 (by decide) ?_
                  refine r_iadd (v := c9 + 1) hx hb dX6_like_67 rfl ?_
                  refine lv_istore (lv' := [(5, .int (nI (c9 + 1))), (0, .ref mo), (1, .int (nI r)), (2, .int (e9 b)), (3, .int (e1 x8)), (4, .int (nI q)), (6, .int (nI c))]) hx hb dX6_like_68 hl (by decide) rfl (fun ls hl => ?_)
                  refine r_iinc (v := c + 1) (lv' := [(6, .int (nI (c + 1))), (5, .int (nI (c9 + 1))), (0, .ref mo), (1, .int (nI r)), (2, .int (e9 b)), (3, .int (e1 x8)), (4, .int (nI q))]) hx hb dX6_like_70 hl (k := 6) rfl (nI_1 _) (by decide) rfl (fun ls hl => ?_)
                  refine lv_goto (tgt := 35) hx hb dX6_like_73 (by decide) ?_
                  exact ih35 (c + 1) (c9 + 1) (by omega) (by omega) (ct_t (decide_eq_true cq59.symm) hc9) (by omega) ls (lv_sub hl [2, 3, 4, 5, 6, 1, 0] rfl)
          exact L35 ((17 - 0) + 1) 0 0 (Nat.lt_succ_self _) (by omega) (rfl) (by omega) ls (lv_sub hl [2, 3, 4, 5, 6, 1, 0] rfl)
    exact L18 ((nn σ + 1 - 0) + 1) 1000 1000 0 (Nat.lt_succ_self _) (by omega) (rfl) (Or.inr rfl) ls (lv_sub hl [3, 4, 2, 1, 0] rfl)
  · exact (no_f (inr_rw (by omega) (by omega)) cq5).elim

set_option maxHeartbeats 1000000 in
set_option maxRecDepth 100000 in
theorem c_X6_get_ok (l : Launch) (G : kG) (mo u0 u1 u2 u3 u4 u5 sm sa le ra fa : Nat) (σ : Sg) (nw : Nat → Int32) (hR : Rel σ nw) (hB : Bd σ) (r c : Nat) (hr : r < nn σ) (hc : c < 16) : Met l yX6_get wsX6_get ({ frames := 2, cells := 0, slots := 0, locals := 43 } : Room) (cP G [.ref mo, .int (nI r), .int (nI c)] [ob mo 6 [.ref u0, .ref u1, .ref u2, .ref u3, .ref u4, .ref u5, .int (nI sm), .int (nI sa), .int (nI le), .int (nI ra), .int (nI fa)], ar G u0 481 nw]) (vp_Si (fun rv => rv = (nI (vv σ (r * 16 + c))))) 0 0 (fun _ => False) := by
  refine met_ro (cc := cX6_get) (maxL := 3) (ty := .int) (own := RX6) (by decide) rfl rfl (fun _ _ => rfl) (Nat.le_of_ble_eq_true rfl) ?_
  intro p e s m args below meth cod Q hx hb hml hown hts hK hP hD hret ls hl
  have hl : lv_has ls 3 [(0, .ref mo), (1, .int (nI r)), (2, .int (nI c))] := hl
  have h24 := hB.n
  refine lv_aload_n hx hb dX6_get_0 rfl (lv_at hl 0 rfl) ?_
  refine lv_iload_n hx hb dX6_get_1 rfl (lv_at hl 1 rfl) ?_
  refine g_ro (k_V (q0 := 0) (ci := 6) (n := 1) (As := [.int (nI r)]) (rest := []) (wc := [ob mo 6 [.ref u0, .ref u1, .ref u2, .ref u3, .ref u4, .ref u5, .int (nI sm), .int (nI sa), .int (nI le), .int (nI ra), .int (nI fa)], ar G u0 481 nw]) hx hb hml hown hts (c_X6_isRow (l := l) (G := G) (mo := mo) (u0 := u0) (u1 := u1) (u2 := u2) (u3 := u3) (u4 := u4) (u5 := u5) (sm := sm) (sa := sa) (le := le) (ra := ra) (fa := fa) (σ := by first | assumption | omega) (nw := nw) (hR := by first | assumption | omega) (hB := by first | assumption | omega) (xa := nI r))  gX6_get_X6_isRow rfl rfl rfl (by decide +kernel) ⟨Nat.le_of_ble_eq_true rfl, Nat.le_of_ble_eq_true rfl⟩ rfl hK hP hD [0, 1] rfl (by decide)  rfl rfl rfl hl.1 rfl (Nat.le_of_ble_eq_true rfl) dX6_get_2 ⟨Nat.le_of_ble_eq_true rfl, Nat.le_of_ble_eq_true rfl⟩) (fun r2 h2 => ?_)
  obtain rfl : (bI (inr (nI r) 0 ((nn σ : Int) - 1))) = r2 := Eq.symm h2
  refine r_if_eq (P := (inr (nI r) 0 ((nn σ : Int) - 1)) = false) (tgt := 27) hx hb dX6_get_5 (by decide) (bI_eq0) (fun cq5 => ?_) (fun cq5 => ?_)
  · exact (no_f (inr_rw (by omega) (by omega)) cq5).elim
  · refine lv_iload_n hx hb dX6_get_8 rfl (lv_at hl 2 rfl) ?_
    refine lv_iconst (v := (nI 0)) hx hb dX6_get_9 (by decide) ?_
    refine lv_bipush (v := (nI 15)) hx hb dX6_get_10 (by decide) ?_
    refine g_ro (k_S (n := 3) (As := [.int (nI c), .int (nI 0), .int (nI 15)]) (rest := []) (wc := []) hx hb hml hown hts (c_X6_in (l := l) (G := G) (xa := nI c) (xb := nI 0) (xc := nI 15))  gX6_get_X6_in rfl rfl rfl (by decide +kernel) ⟨Nat.le_of_ble_eq_true rfl, Nat.le_of_ble_eq_true rfl⟩ rfl hK hP hD [] rfl (by decide)  hl.1 rfl (Nat.le_of_ble_eq_true rfl) dX6_get_12 ⟨Nat.le_of_ble_eq_true rfl, Nat.le_of_ble_eq_true rfl⟩) (fun r12 h12 => ?_)
    obtain rfl : (bI (ing (nI c) (nI 0) (nI 15))) = r12 := Eq.symm h12
    refine r_if_eq (P := (ing (nI c) (nI 0) (nI 15)) = false) (tgt := 27) hx hb dX6_get_15 (by decide) (bI_eq0) (fun cq15 => ?_) (fun cq15 => ?_)
    · exact (no_f (ing_ok (by omega) (by omega) (by decide)) cq15).elim
    · refine lv_aload_n hx hb dX6_get_18 rfl (lv_at hl 0 rfl) ?_
      refine lv_iload_n hx hb dX6_get_19 rfl (lv_at hl 1 rfl) ?_
      refine lv_iload_n hx hb dX6_get_20 rfl (lv_at hl 2 rfl) ?_
      refine g_ro (k_V (q0 := 0) (ci := 6) (n := 2) (As := [.int (nI r), .int (nI c)]) (rest := []) (wc := [ob mo 6 [.ref u0, .ref u1, .ref u2, .ref u3, .ref u4, .ref u5, .int (nI sm), .int (nI sa), .int (nI le), .int (nI ra), .int (nI fa)], ar G u0 481 nw]) hx hb hml hown hts (c_X6_valueOf (l := l) (G := G) (mo := mo) (u0 := u0) (u1 := u1) (u2 := u2) (u3 := u3) (u4 := u4) (u5 := u5) (sm := sm) (sa := sa) (le := le) (ra := ra) (fa := fa) (σ := by first | assumption | omega) (nw := nw) (hR := by first | assumption | omega) (hB := by first | assumption | omega) (r := r) (c := c) (hr := by first | assumption | omega) (hc := by first | assumption | omega))  gX6_get_X6_valueOf rfl rfl rfl (by decide +kernel) ⟨Nat.le_of_ble_eq_true rfl, Nat.le_of_ble_eq_true rfl⟩ rfl hK hP hD [0, 1] rfl (by decide)  rfl rfl rfl hl.1 rfl (Nat.le_of_ble_eq_true rfl) dX6_get_21 ⟨Nat.le_of_ble_eq_true rfl, Nat.le_of_ble_eq_true rfl⟩) (fun r21 h21 => ?_)
      obtain rfl : (nI (vv σ (r * 16 + c))) = r21 := Eq.symm h21
      have b21 := (by assumption : Bd σ).v (r * 16 + c)
      refine lv_goto (tgt := 28) hx hb dX6_get_24 (by decide) ?_
      exact hret _ _ _ dX6_get_28 (rfl)

theorem iqX6_append_ok_X6 : ∀ w ∈ u_ws RX6 TX6 11, w ∈ wsX6_append := by decide +kernel
set_option maxHeartbeats 1000000 in
set_option maxRecDepth 100000 in
theorem c_X6_append_ok (l : Launch) (G : kG) (mo u0 u1 u2 u3 u4 u5 sm sa le ra fa : Nat) (tx : Nat → Nat) (w : Nat) (hw1 : 1 ≤ w) (hw : w ≤ 255) (hl2 : le < 100) : Met l yX6_append wsX6_append ({ frames := 1, cells := 0, slots := 0, locals := 22 } : Room) (cP G [.ref mo, .int (nI w)] [ob mo 6 [.ref u0, .ref u1, .ref u2, .ref u3, .ref u4, .ref u5, .int (nI sm), .int (nI sa), .int (nI le), .int (nI ra), .int (nI fa)], ar G u5 100 (fun j => nI (tx j))]) (qI (fun rv H => rv = (nI (le + 1)) ∧ va_P G.1 vwCl [ob mo 6 [.ref u0, .ref u1, .ref u2, .ref u3, .ref u4, .ref u5, .int (nI sm), .int (nI sa), .int (nI (le + 1)), .int (nI ra), .int (nI fa)], ar G u5 100 (fun j => nI ((va_up tx le w) j))] H) (mA [ob mo 6 [.ref u0, .ref u1, .ref u2, .ref u3, .ref u4, .ref u5, .int (nI sm), .int (nI sa), .int (nI le), .int (nI ra), .int (nI fa)], ar G u5 100 (fun j => nI (tx j))])) 0 0 (mA [ob mo 6 [.ref u0, .ref u1, .ref u2, .ref u3, .ref u4, .ref u5, .int (nI sm), .int (nI sa), .int (nI le), .int (nI ra), .int (nI fa)], ar G u5 100 (fun j => nI (tx j))]) := by
  refine met_muI (cc := cX6_append) (maxL := 2) (ty := .int) (own := RX6) (by decide) rfl rfl (fun _ _ _ => rfl) (Nat.le_of_ble_eq_true rfl) ?_
  intro p e s m args below meth cod Q A hx hb hml hown hts hK hP hD hS hret ls hl
  have hl : lv_has ls 2 [(0, .ref mo), (1, .int (nI w))] := hl
  refine lv_iload_n hx hb dX6_append_0 rfl (lv_at hl 1 rfl) ?_
  refine lv_iconst (v := (nI 1)) hx hb dX6_append_1 (by decide) ?_
  refine lv_sipush (v := (nI 255)) hx hb dX6_append_2 (by decide) ?_
  refine g_ro (k_S (n := 3) (As := [.int (nI w), .int (nI 1), .int (nI 255)]) (rest := []) (wc := []) hx hb hml hown hts (c_X6_in (l := l) (G := G) (xa := nI w) (xb := nI 1) (xc := nI 255))  gX6_append_X6_in rfl rfl rfl (by decide +kernel) ⟨Nat.le_of_ble_eq_true rfl, Nat.le_of_ble_eq_true rfl⟩ rfl hK hP hD [] rfl (by decide)  hl.1 rfl (Nat.le_of_ble_eq_true rfl) dX6_append_5 ⟨Nat.le_of_ble_eq_true rfl, Nat.le_of_ble_eq_true rfl⟩) (fun r5 h5 => ?_)
  obtain rfl : (bI (ing (nI w) (nI 1) (nI 255))) = r5 := Eq.symm h5
  refine r_if_ne (P := (ing (nI w) (nI 1) (nI 255)) = false) (tgt := 13) hx hb dX6_append_8 (by decide) (bI_eq0) (fun cq8 => ?_) (fun cq8 => ?_)
  · refine lv_aload_n hx hb dX6_append_13 rfl (lv_at hl 0 rfl) ?_
    refine va_get (D := G.1) (ci := 6) (v := .int (nI le)) (C := RX6) (T := TX6) (N := 11) hx hb hts iqX6_append_ok_X6 hown hK.1 hP 0 rfl rfl 8 (by decide) (hts (.fieldLink RX6 111 "PushedTablesModel" "letters" "I") (List.mem_of_getElem? (i := 1) rfl)) (fun _ h9 => h9) rfl dX6_append_14 ?_
    refine lv_bipush (v := (nI 100)) hx hb dX6_append_17 (by decide) ?_
    refine r_icmp_ne (P := le = 100) (tgt := 25) hx hb dX6_append_19 (by decide) (nI_eq (by omega) (by omega)) (fun cq19 => ?_) (fun cq19 => ?_)
    · refine lv_aload_n hx hb dX6_append_25 rfl (lv_at hl 0 rfl) ?_
      refine va_get (D := G.1) (ci := 6) (v := .ref u5) (C := RX6) (T := TX6) (N := 11) hx hb hts iqX6_append_ok_X6 hown hK.1 hP 0 rfl rfl 5 (by decide) (hts (.fieldLink RX6 25 "PushedTablesModel" "text" "[I") (List.mem_of_getElem? (i := 2) rfl)) (fun _ h9 => h9) rfl dX6_append_26 ?_
      refine lv_aload_n hx hb dX6_append_29 rfl (lv_at hl 0 rfl) ?_
      refine va_get (D := G.1) (ci := 6) (v := .int (nI le)) (C := RX6) (T := TX6) (N := 11) hx hb hts iqX6_append_ok_X6 hown hK.1 hP 0 rfl rfl 8 (by decide) (hts (.fieldLink RX6 111 "PushedTablesModel" "letters" "I") (List.mem_of_getElem? (i := 1) rfl)) (fun _ h9 => h9) rfl dX6_append_30 ?_
      refine lv_iload_n hx hb dX6_append_33 rfl (lv_at hl 1 rfl) ?_
      refine r_iast (e1 := le) (x := (nI w)) (g := (fun j => nI ((va_up tx le w) j))) hx hb hK.1 hP hD hS 1 0 rfl rfl (by omega) (by first | decide | assumption) (up_nI _ _ _) dX6_append_34 (fun H locs hP hD hS => ?_)
      have hP : va_P G.1 vwCl [ob mo 6 [.ref u0, .ref u1, .ref u2, .ref u3, .ref u4, .ref u5, .int (nI sm), .int (nI sa), .int (nI le), .int (nI ra), .int (nI fa)], ar G u5 100 (fun j => nI ((va_up tx le w) j))] H := hP
      have hD : va_D A [ob mo 6 [.ref u0, .ref u1, .ref u2, .ref u3, .ref u4, .ref u5, .int (nI sm), .int (nI sa), .int (nI le), .int (nI ra), .int (nI fa)], ar G u5 100 (fun j => nI ((va_up tx le w) j))] := hD
      refine lv_aload_n hx hb dX6_append_35 rfl (lv_at hl 0 rfl) ?_
      refine lv_dup hx hb dX6_append_36 rfl ?_
      refine va_get (D := G.1) (ci := 6) (v := .int (nI le)) (C := RX6) (T := TX6) (N := 11) hx hb hts iqX6_append_ok_X6 hown hK.1 hP 0 rfl rfl 8 (by decide) (hts (.fieldLink RX6 111 "PushedTablesModel" "letters" "I") (List.mem_of_getElem? (i := 1) rfl)) (fun _ h9 => h9) rfl dX6_append_37 ?_
      refine lv_iconst (v := (nI 1)) hx hb dX6_append_40 (by decide) ?_
      refine r_iadd (v := le + 1) hx hb dX6_append_41 rfl ?_
      refine va_put (D := G.1) (ci := 6) (v := .int (nI (le + 1))) (ty := .int) (C := RX6) (T := TX6) (N := 11) hx hb hts iqX6_append_ok_X6 tyX6 tyX6_ok nmX6 hown hK.1 hP hD hS 0 rfl rfl 8 (by decide) (hts (.fieldLink RX6 111 "PushedTablesModel" "letters" "I") (List.mem_of_getElem? (i := 1) rfl)) (fun _ h9 => h9) rfl (by decide +kernel) rfl rfl (Nat.le_of_ble_eq_true rfl) dX6_append_42 (fun H locs hP hD hS => ?_)
      have hP : va_P G.1 vwCl [ob mo 6 [.ref u0, .ref u1, .ref u2, .ref u3, .ref u4, .ref u5, .int (nI sm), .int (nI sa), .int (nI (le + 1)), .int (nI ra), .int (nI fa)], ar G u5 100 (fun j => nI ((va_up tx le w) j))] H := hP
      have hD : va_D A [ob mo 6 [.ref u0, .ref u1, .ref u2, .ref u3, .ref u4, .ref u5, .int (nI sm), .int (nI sa), .int (nI (le + 1)), .int (nI ra), .int (nI fa)], ar G u5 100 (fun j => nI ((va_up tx le w) j))] := hD
      refine lv_aload_n hx hb dX6_append_45 rfl (lv_at hl 0 rfl) ?_
      refine va_get (D := G.1) (ci := 6) (v := .int (nI (le + 1))) (C := RX6) (T := TX6) (N := 11) hx hb hts iqX6_append_ok_X6 hown hK.1 hP 0 rfl rfl 8 (by decide) (hts (.fieldLink RX6 111 "PushedTablesModel" "letters" "I") (List.mem_of_getElem? (i := 1) rfl)) (fun _ h9 => h9) rfl dX6_append_46 ?_
      exact hret _ _ _ _ _ hS dX6_append_49 (⟨rfl, hP⟩)
    · exact absurd cq19 (by omega)
  · exact (no_f (ing_ok (by omega) (by omega) (by decide)) cq8).elim

theorem iqX6_clearText_X6 : ∀ w ∈ u_ws RX6 TX6 11, w ∈ wsX6_clearText := by decide +kernel
set_option maxHeartbeats 1000000 in
set_option maxRecDepth 100000 in
theorem c_X6_clearText (l : Launch) (G : kG) (mo u0 u1 u2 u3 u4 u5 sm sa le ra fa : Nat)  : Met l yX6_clearText wsX6_clearText ({ frames := 0, cells := 0, slots := 0, locals := 0 } : Room) (cP G [.ref mo] [ob mo 6 [.ref u0, .ref u1, .ref u2, .ref u3, .ref u4, .ref u5, .int (nI sm), .int (nI sa), .int (nI le), .int (nI ra), .int (nI fa)]]) (qI (fun rv H => rv = (nI le) ∧ va_P G.1 vwCl [ob mo 6 [.ref u0, .ref u1, .ref u2, .ref u3, .ref u4, .ref u5, .int (nI sm), .int (nI sa), .int (nI 0), .int (nI ra), .int (nI fa)]] H) (mA [ob mo 6 [.ref u0, .ref u1, .ref u2, .ref u3, .ref u4, .ref u5, .int (nI sm), .int (nI sa), .int (nI le), .int (nI ra), .int (nI fa)]])) 0 0 (mA [ob mo 6 [.ref u0, .ref u1, .ref u2, .ref u3, .ref u4, .ref u5, .int (nI sm), .int (nI sa), .int (nI le), .int (nI ra), .int (nI fa)]]) := by
  refine met_muI (cc := cX6_clearText) (maxL := 2) (ty := .int) (own := RX6) (by decide) rfl rfl (fun _ _ _ => rfl) (Nat.le_of_ble_eq_true rfl) ?_
  intro p e s m args below meth cod Q A hx hb hml hown hts hK hP hD hS hret ls hl
  have hl : lv_has ls 2 [(0, .ref mo)] := hl
  refine lv_aload_n hx hb dX6_clearText_0 rfl (lv_at hl 0 rfl) ?_
  refine va_get (D := G.1) (ci := 6) (v := .int (nI le)) (C := RX6) (T := TX6) (N := 11) hx hb hts iqX6_clearText_X6 hown hK.1 hP 0 rfl rfl 8 (by decide) (hts (.fieldLink RX6 111 "PushedTablesModel" "letters" "I") (List.mem_of_getElem? (i := 1) rfl)) (fun _ h9 => h9) rfl dX6_clearText_1 ?_
  refine lv_istore_n (lv' := [(1, .int (nI le)), (0, .ref mo)]) hx hb dX6_clearText_4 rfl hl (by decide) rfl (fun ls hl => ?_)
  refine lv_aload_n hx hb dX6_clearText_5 rfl (lv_at hl 1 rfl) ?_
  refine lv_iconst (v := (nI 0)) hx hb dX6_clearText_6 (by decide) ?_
  refine va_put (D := G.1) (ci := 6) (v := .int (nI 0)) (ty := .int) (C := RX6) (T := TX6) (N := 11) hx hb hts iqX6_clearText_X6 tyX6 tyX6_ok nmX6 hown hK.1 hP hD hS 0 rfl rfl 8 (by decide) (hts (.fieldLink RX6 111 "PushedTablesModel" "letters" "I") (List.mem_of_getElem? (i := 1) rfl)) (fun _ h9 => h9) rfl (by decide +kernel) rfl rfl (Nat.le_of_ble_eq_true rfl) dX6_clearText_7 (fun H locs hP hD hS => ?_)
  have hP : va_P G.1 vwCl [ob mo 6 [.ref u0, .ref u1, .ref u2, .ref u3, .ref u4, .ref u5, .int (nI sm), .int (nI sa), .int (nI 0), .int (nI ra), .int (nI fa)]] H := hP
  have hD : va_D A [ob mo 6 [.ref u0, .ref u1, .ref u2, .ref u3, .ref u4, .ref u5, .int (nI sm), .int (nI sa), .int (nI 0), .int (nI ra), .int (nI fa)]] := hD
  refine lv_iload_n hx hb dX6_clearText_10 rfl (lv_at hl 0 rfl) ?_
  exact hret _ _ _ _ _ hS dX6_clearText_11 (⟨rfl, hP⟩)
