/-! the reference: copies, the history, rows that come -/
theorem up_cpy {m g : Nat → Int32} {k j : Nat} (h : ∀ j, j < k → m j = g j) (hj : j < k + 1) : upd m k (g k) j = g j := by
  unfold upd; split
  · rename_i e; rw [e]
  · exact h j (by omega)
theorem Rel_cong {σ : Sg} {f g : Nat → Int32} (h : Rel σ f) (hn : nn σ ≤ 24) (e : ∀ j, j < 481 → g j = f j) : Rel σ g := by
  refine ⟨?_, fun q hq => ?_, fun q hq => ?_, fun q hq => ?_, fun q c hq hc he => ?_, fun k hk => ?_⟩
  · rw [e _ (by omega)]; exact h.n
  · rw [e _ (by omega)]; exact h.d hq
  · rw [e _ (by omega)]; exact h.e hq
  · rw [e _ (by omega)]; exact h.f hq
  · rw [e _ (by omega)]; exact h.v hq hc he
  · rw [e _ (by omega)]; exact h.s hk
theorem ent_ad {σ : Sg} {v r c : Nat} (hr : r < nn σ) (hc : c < 16) : ent (adS σ v) r c = ent σ r c ∧ vv (adS σ v) (r * 16 + c) = vv σ (r * 16 + c) := by
  have e1 : vv (adS σ v) (r * 16 + c) = vv σ (r * 16 + c) := by
    show fl16 (vv σ) (nn σ) v (r * 16 + c) = _
    unfold fl16; rw [if_neg]; omega
  have e2 : dd (adS σ v) r = dd σ r := up_n (by omega)
  refine ⟨?_, e1⟩
  unfold ent; rw [e1, e2]
theorem ent_an {σ : Sg} {v c : Nat} (hc : c < 16) : ent (adS σ v) (nn σ) c = false := by
  rw [ent_f]
  show fl16 (vv σ) (nn σ) v (nn σ * 16 + c) = va_up (dd σ) (nn σ) v (nn σ)
  rw [up_s]; unfold fl16; rw [if_pos ⟨by omega, by omega⟩]
theorem msk_z {p : Nat → Bool} : ∀ {n : Nat}, (∀ k, k < n → p k = false) → msk p n = 0
  | 0, _ => rfl
  | n + 1, h => by rw [msk_succ, msk_z (fun k hk => h k (by omega)), h n (by omega)]; rfl
theorem cols_an (σ : Sg) (v : Nat) : cols (adS σ v) (nn σ) = 0 := msk_z (fun k hk => ent_an hk)
theorem Rel_ad {σ : Sg} {f : Nat → Int32} (h : Rel σ f) (hn : nn σ < 24) (v : Nat) : Rel (adS σ v) (upd (upd (upd (upd f (1 + nn σ) (nI v)) (25 + nn σ) (nI 0)) (49 + nn σ) (e1 1000)) 0 (nI (nn σ + 1))) := by
  refine ⟨u_s, fun q hq => ?_, fun q hq => ?_, fun q hq => ?_, fun q c hq hc he => ?_, fun k hk => ?_⟩
  · have hq' : q < nn σ + 1 := hq
    rw [u_n (by omega), u_n (by omega), u_n (by omega)]
    show _ = nI (va_up (dd σ) (nn σ) v q)
    by_cases e : q = nn σ
    · rw [e, u_s, up_s]
    · rw [u_n (by omega), up_n e]; exact h.d (by omega)
  · have hq' : q < nn σ + 1 := hq
    rw [u_n (by omega), u_n (by omega)]
    by_cases e : q = nn σ
    · rw [e, u_s, cols_an]
    · rw [u_n (by omega), u_n (by omega), h.e (by omega), cols_cong (fun c hc => (ent_ad (v := v) (show q < nn σ by omega) hc).1)]
  · have hq' : q < nn σ + 1 := hq
    rw [u_n (by omega)]
    show _ = e1 (va_up (ff σ) (nn σ) 1000 q)
    by_cases e : q = nn σ
    · rw [e, u_s, up_s]
    · rw [u_n (by omega), u_n (by omega), u_n (by omega), up_n e]; exact h.f (by omega)
  · have hq' : q < nn σ + 1 := hq
    by_cases e : q = nn σ
    · rw [e, ent_an hc] at he; cases he
    · obtain ⟨a, b⟩ := ent_ad (v := v) (show q < nn σ by omega) hc
      rw [u_n (by omega), u_n (by omega), u_n (by omega), u_n (by omega), b]
      exact h.v (by omega) hc (a.symm.trans he)
  · rw [u_n (by omega), u_n (by omega), u_n (by omega), u_n (by omega)]; exact h.s hk
theorem ing_ok {a b c : Nat} (h1 : b ≤ a) (h2 : a ≤ c) (hc : c < 2 ^ 31) : ing (nI a) (nI b) (nI c) = true := by
  rw [ing_n (by omega) hc, inr_t, nI_toInt (by omega)]; omega
theorem inr_rw {r n : Nat} (h : r < n) (hn : n ≤ 24) : inr (nI r) 0 ((n : Int) - 1) = true := by
  rw [inr_t, nI_toInt (by omega)]; omega
theorem iqX6_copy_X6 : ∀ w ∈ u_ws RX6 TX6 11, w ∈ wsX6_copy := by decide +kernel
set_option maxHeartbeats 1000000 in
set_option maxRecDepth 100000 in
theorem c_X6_copy (l : Launch) (G : kG) (mo u0 u1 u2 u3 u4 u5 sm sa le ra fa : Nat) (nw bf : Nat → Int32) : Met l yX6_copy wsX6_copy ({ frames := 0, cells := 0, slots := 0, locals := 0 } : Room) (cP G [.ref mo] [ob mo 6 [.ref u0, .ref u1, .ref u2, .ref u3, .ref u4, .ref u5, .int (nI sm), .int (nI sa), .int (nI le), .int (nI ra), .int (nI fa)], ar G u0 481 nw, ar G u1 481 bf]) (qV (fun H => ∃ (bf1 : Nat → Int32), (∀ j, j < 481 → bf1 j = nw j) ∧ va_P G.1 vwCl [ob mo 6 [.ref u0, .ref u1, .ref u2, .ref u3, .ref u4, .ref u5, .int (nI sm), .int (nI sa), .int (nI le), .int (nI ra), .int (nI fa)], ar G u0 481 nw, ar G u1 481 bf1] H) (mA [ob mo 6 [.ref u0, .ref u1, .ref u2, .ref u3, .ref u4, .ref u5, .int (nI sm), .int (nI sa), .int (nI le), .int (nI ra), .int (nI fa)], ar G u0 481 nw, ar G u1 481 bf])) 0 0 (mA [ob mo 6 [.ref u0, .ref u1, .ref u2, .ref u3, .ref u4, .ref u5, .int (nI sm), .int (nI sa), .int (nI le), .int (nI ra), .int (nI fa)], ar G u0 481 nw, ar G u1 481 bf]) := by
  refine met_muV (cc := cX6_copy) (maxL := 2) (own := RX6) (by decide) rfl rfl (Nat.le_of_ble_eq_true rfl) ?_
  intro p e s m args below meth cod Q A hx hb hml hown hts hK hP hD hS hret ls hl
  have hl : lv_has ls 2 [(0, .ref mo)] := hl
  refine lv_iconst (v := (nI 0)) hx hb dX6_copy_0 (by decide) ?_
  refine lv_istore_n (lv' := [(1, .int (nI 0)), (0, .ref mo)]) hx hb dX6_copy_1 rfl hl (by decide) rfl (fun ls hl => ?_)
  have L2 : ∀ (fu : Nat) (k : Nat) (b2 : Nat → Int32), 482 - k < fu → k ≤ 481 → (∀ j, j < k → b2 j = nw j) → ∀ (H : Heap) (locs : List Loc), va_P G.1 vwCl [ob mo 6 [.ref u0, .ref u1, .ref u2, .ref u3, .ref u4, .ref u5, .int (nI sm), .int (nI sa), .int (nI le), .int (nI ra), .int (nI fa)], ar G u0 481 nw, ar G u1 481 b2] H → va_D A [ob mo 6 [.ref u0, .ref u1, .ref u2, .ref u3, .ref u4, .ref u5, .int (nI sm), .int (nI sa), .int (nI le), .int (nI ra), .int (nI fa)], ar G u0 481 nw, ar G u1 481 b2] → va_S A s.heap H locs → ∀ (ls : Array Slot), lv_has ls 2 [(0, .ref mo), (1, .int (nI k))] → W p l e ({ frames := 0, cells := 0, slots := 0, locals := 0 } : Room) s m args below meth cod H locs 0 0 Q (F0 m 2 ls []) := by
    intro fu
    induction fu with
    | zero => intro k b2 hm; exact absurd hm (Nat.not_lt_zero _)
    | succ fu ih2 =>
      intro k b2 hm2 hk hc2 H locs hP hD hS ls hl
      have hP : va_P G.1 vwCl [ob mo 6 [.ref u0, .ref u1, .ref u2, .ref u3, .ref u4, .ref u5, .int (nI sm), .int (nI sa), .int (nI le), .int (nI ra), .int (nI fa)], ar G u0 481 nw, ar G u1 481 b2] H := hP
      have hD : va_D A [ob mo 6 [.ref u0, .ref u1, .ref u2, .ref u3, .ref u4, .ref u5, .int (nI sm), .int (nI sa), .int (nI le), .int (nI ra), .int (nI fa)], ar G u0 481 nw, ar G u1 481 b2] := hD
      refine lv_iload_n hx hb dX6_copy_2 rfl (lv_at hl 1 rfl) ?_
      refine lv_sipush (v := (nI 481)) hx hb dX6_copy_3 (by decide) ?_
      refine r_icmp_ge (P := 481 ≤ k) (tgt := 27) hx hb dX6_copy_6 (by decide) (nI_leI (by omega) (by omega)) (fun cq6 => ?_) (fun cq6 => ?_)
      · exact hret _ _ _ _ hS dX6_copy_27 (⟨b2, fun j hj => hc2 j (by omega), hP⟩)
      · refine lv_aload_n hx hb dX6_copy_9 rfl (lv_at hl 0 rfl) ?_
        refine va_get (D := G.1) (ci := 6) (v := .ref u1) (C := RX6) (T := TX6) (N := 11) hx hb hts iqX6_copy_X6 hown hK.1 hP 0 rfl rfl 1 (by decide) (hts (.fieldLink RX6 13 "PushedTablesModel" "before" "[I") (List.mem_of_getElem? (i := 1) rfl)) (fun _ h9 => h9) rfl dX6_copy_10 ?_
        refine lv_iload_n hx hb dX6_copy_13 rfl (lv_at hl 1 rfl) ?_
        refine lv_aload_n hx hb dX6_copy_14 rfl (lv_at hl 0 rfl) ?_
        refine va_get (D := G.1) (ci := 6) (v := .ref u0) (C := RX6) (T := TX6) (N := 11) hx hb hts iqX6_copy_X6 hown hK.1 hP 0 rfl rfl 0 (by decide) (hts (.fieldLink RX6 7 "PushedTablesModel" "now" "[I") (List.mem_of_getElem? (i := 2) rfl)) (fun _ h9 => h9) rfl dX6_copy_15 ?_
        refine lv_iload_n hx hb dX6_copy_18 rfl (lv_at hl 1 rfl) ?_
        refine r_iald (e1 := k) (v := (nw k)) hx hb hK.1 hP 1 0 rfl rfl (by omega) (by first | decide | assumption) (rfl) dX6_copy_19 ?_
        refine r_iast (e1 := k) (x := (nw k)) (g := upd b2 k (nw k)) hx hb hK.1 hP hD hS 2 0 rfl rfl (by omega) (by first | decide | assumption) (rfl) dX6_copy_20 (fun H locs hP hD hS => ?_)
        have hP : va_P G.1 vwCl [ob mo 6 [.ref u0, .ref u1, .ref u2, .ref u3, .ref u4, .ref u5, .int (nI sm), .int (nI sa), .int (nI le), .int (nI ra), .int (nI fa)], ar G u0 481 nw, ar G u1 481 (upd b2 k (nw k))] H := hP
        have hD : va_D A [ob mo 6 [.ref u0, .ref u1, .ref u2, .ref u3, .ref u4, .ref u5, .int (nI sm), .int (nI sa), .int (nI le), .int (nI ra), .int (nI fa)], ar G u0 481 nw, ar G u1 481 (upd b2 k (nw k))] := hD
        refine r_iinc (v := k + 1) (lv' := [(1, .int (nI (k + 1))), (0, .ref mo)]) hx hb dX6_copy_21 hl (k := 1) rfl (nI_1 _) (by decide) rfl (fun ls hl => ?_)
        refine lv_goto (tgt := 2) hx hb dX6_copy_24 (by decide) ?_
        exact ih2 (k + 1) (upd b2 k (nw k)) (by omega) (by omega) (fun j hj => up_cpy hc2 hj) _ _ hP hD hS ls (lv_sub hl [1, 0] rfl)
  exact L2 ((482 - 0) + 1) 0 bf (Nat.lt_succ_self _) (by omega) (fun j hj => absurd hj (Nat.not_lt_zero j)) _ _ hP hD hS ls (lv_sub hl [1, 0] rfl)

theorem iqX6_back_X6 : ∀ w ∈ u_ws RX6 TX6 11, w ∈ wsX6_back := by decide +kernel
set_option maxHeartbeats 1000000 in
set_option maxRecDepth 100000 in
theorem c_X6_back (l : Launch) (G : kG) (mo u0 u1 u2 u3 u4 u5 sm sa le ra fa : Nat) (nw bf : Nat → Int32) : Met l yX6_back wsX6_back ({ frames := 0, cells := 0, slots := 0, locals := 0 } : Room) (cP G [.ref mo] [ob mo 6 [.ref u0, .ref u1, .ref u2, .ref u3, .ref u4, .ref u5, .int (nI sm), .int (nI sa), .int (nI le), .int (nI ra), .int (nI fa)], ar G u0 481 nw, ar G u1 481 bf]) (qV (fun H => ∃ (nw1 : Nat → Int32), (∀ j, j < 481 → nw1 j = bf j) ∧ va_P G.1 vwCl [ob mo 6 [.ref u0, .ref u1, .ref u2, .ref u3, .ref u4, .ref u5, .int (nI sm), .int (nI sa), .int (nI le), .int (nI ra), .int (nI fa)], ar G u0 481 nw1, ar G u1 481 bf] H) (mA [ob mo 6 [.ref u0, .ref u1, .ref u2, .ref u3, .ref u4, .ref u5, .int (nI sm), .int (nI sa), .int (nI le), .int (nI ra), .int (nI fa)], ar G u0 481 nw, ar G u1 481 bf])) 0 0 (mA [ob mo 6 [.ref u0, .ref u1, .ref u2, .ref u3, .ref u4, .ref u5, .int (nI sm), .int (nI sa), .int (nI le), .int (nI ra), .int (nI fa)], ar G u0 481 nw, ar G u1 481 bf]) := by
  refine met_muV (cc := cX6_back) (maxL := 2) (own := RX6) (by decide) rfl rfl (Nat.le_of_ble_eq_true rfl) ?_
  intro p e s m args below meth cod Q A hx hb hml hown hts hK hP hD hS hret ls hl
  have hl : lv_has ls 2 [(0, .ref mo)] := hl
  refine lv_iconst (v := (nI 0)) hx hb dX6_back_0 (by decide) ?_
  refine lv_istore_n (lv' := [(1, .int (nI 0)), (0, .ref mo)]) hx hb dX6_back_1 rfl hl (by decide) rfl (fun ls hl => ?_)
  have L2 : ∀ (fu : Nat) (k : Nat) (b2 : Nat → Int32), 482 - k < fu → k ≤ 481 → (∀ j, j < k → b2 j = bf j) → ∀ (H : Heap) (locs : List Loc), va_P G.1 vwCl [ob mo 6 [.ref u0, .ref u1, .ref u2, .ref u3, .ref u4, .ref u5, .int (nI sm), .int (nI sa), .int (nI le), .int (nI ra), .int (nI fa)], ar G u0 481 b2, ar G u1 481 bf] H → va_D A [ob mo 6 [.ref u0, .ref u1, .ref u2, .ref u3, .ref u4, .ref u5, .int (nI sm), .int (nI sa), .int (nI le), .int (nI ra), .int (nI fa)], ar G u0 481 b2, ar G u1 481 bf] → va_S A s.heap H locs → ∀ (ls : Array Slot), lv_has ls 2 [(0, .ref mo), (1, .int (nI k))] → W p l e ({ frames := 0, cells := 0, slots := 0, locals := 0 } : Room) s m args below meth cod H locs 0 0 Q (F0 m 2 ls []) := by
    intro fu
    induction fu with
    | zero => intro k b2 hm; exact absurd hm (Nat.not_lt_zero _)
    | succ fu ih2 =>
      intro k b2 hm2 hk hc2 H locs hP hD hS ls hl
      have hP : va_P G.1 vwCl [ob mo 6 [.ref u0, .ref u1, .ref u2, .ref u3, .ref u4, .ref u5, .int (nI sm), .int (nI sa), .int (nI le), .int (nI ra), .int (nI fa)], ar G u0 481 b2, ar G u1 481 bf] H := hP
      have hD : va_D A [ob mo 6 [.ref u0, .ref u1, .ref u2, .ref u3, .ref u4, .ref u5, .int (nI sm), .int (nI sa), .int (nI le), .int (nI ra), .int (nI fa)], ar G u0 481 b2, ar G u1 481 bf] := hD
      refine lv_iload_n hx hb dX6_back_2 rfl (lv_at hl 1 rfl) ?_
      refine lv_sipush (v := (nI 481)) hx hb dX6_back_3 (by decide) ?_
      refine r_icmp_ge (P := 481 ≤ k) (tgt := 27) hx hb dX6_back_6 (by decide) (nI_leI (by omega) (by omega)) (fun cq6 => ?_) (fun cq6 => ?_)
      · exact hret _ _ _ _ hS dX6_back_27 (⟨b2, fun j hj => hc2 j (by omega), hP⟩)
      · refine lv_aload_n hx hb dX6_back_9 rfl (lv_at hl 0 rfl) ?_
        refine va_get (D := G.1) (ci := 6) (v := .ref u0) (C := RX6) (T := TX6) (N := 11) hx hb hts iqX6_back_X6 hown hK.1 hP 0 rfl rfl 0 (by decide) (hts (.fieldLink RX6 7 "PushedTablesModel" "now" "[I") (List.mem_of_getElem? (i := 1) rfl)) (fun _ h9 => h9) rfl dX6_back_10 ?_
        refine lv_iload_n hx hb dX6_back_13 rfl (lv_at hl 1 rfl) ?_
        refine lv_aload_n hx hb dX6_back_14 rfl (lv_at hl 0 rfl) ?_
        refine va_get (D := G.1) (ci := 6) (v := .ref u1) (C := RX6) (T := TX6) (N := 11) hx hb hts iqX6_back_X6 hown hK.1 hP 0 rfl rfl 1 (by decide) (hts (.fieldLink RX6 13 "PushedTablesModel" "before" "[I") (List.mem_of_getElem? (i := 2) rfl)) (fun _ h9 => h9) rfl dX6_back_15 ?_
        refine lv_iload_n hx hb dX6_back_18 rfl (lv_at hl 1 rfl) ?_
        refine r_iald (e1 := k) (v := (bf k)) hx hb hK.1 hP 2 0 rfl rfl (by omega) (by first | decide | assumption) (rfl) dX6_back_19 ?_
        refine r_iast (e1 := k) (x := (bf k)) (g := upd b2 k (bf k)) hx hb hK.1 hP hD hS 1 0 rfl rfl (by omega) (by first | decide | assumption) (rfl) dX6_back_20 (fun H locs hP hD hS => ?_)
        have hP : va_P G.1 vwCl [ob mo 6 [.ref u0, .ref u1, .ref u2, .ref u3, .ref u4, .ref u5, .int (nI sm), .int (nI sa), .int (nI le), .int (nI ra), .int (nI fa)], ar G u0 481 (upd b2 k (bf k)), ar G u1 481 bf] H := hP
        have hD : va_D A [ob mo 6 [.ref u0, .ref u1, .ref u2, .ref u3, .ref u4, .ref u5, .int (nI sm), .int (nI sa), .int (nI le), .int (nI ra), .int (nI fa)], ar G u0 481 (upd b2 k (bf k)), ar G u1 481 bf] := hD
        refine r_iinc (v := k + 1) (lv' := [(1, .int (nI (k + 1))), (0, .ref mo)]) hx hb dX6_back_21 hl (k := 1) rfl (nI_1 _) (by decide) rfl (fun ls hl => ?_)
        refine lv_goto (tgt := 2) hx hb dX6_back_24 (by decide) ?_
        exact ih2 (k + 1) (upd b2 k (bf k)) (by omega) (by omega) (fun j hj => up_cpy hc2 hj) _ _ hP hD hS ls (lv_sub hl [1, 0] rfl)
  exact L2 ((482 - 0) + 1) 0 nw (Nat.lt_succ_self _) (by omega) (fun j hj => absurd hj (Nat.not_lt_zero j)) _ _ hP hD hS ls (lv_sub hl [1, 0] rfl)

theorem iqX6_record_X6 : ∀ w ∈ u_ws RX6 TX6 11, w ∈ wsX6_record := by decide +kernel
set_option maxHeartbeats 1000000 in
set_option maxRecDepth 100000 in
theorem c_X6_record (l : Launch) (G : kG) (mo u0 u1 u2 u3 u4 u5 sm sa le ra fa : Nat) (bf sts : Nat → Int32) (hsa : sa < 5) (hsm : sm ≤ 5)  : Met l yX6_record wsX6_record ({ frames := 0, cells := 0, slots := 0, locals := 0 } : Room) (cP G [.ref mo] [ob mo 6 [.ref u0, .ref u1, .ref u2, .ref u3, .ref u4, .ref u5, .int (nI sm), .int (nI sa), .int (nI le), .int (nI ra), .int (nI fa)], ar G u1 481 bf, ar G u2 2405 sts]) (qV (fun H => ∃ (sm1 : Nat), (sm1 = (if sm < 5 then sm + 1 else 5)) ∧ va_P G.1 vwCl [ob mo 6 [.ref u0, .ref u1, .ref u2, .ref u3, .ref u4, .ref u5, .int (nI sm1), .int (nI ((sa + 1) % 5)), .int (nI le), .int (nI ra), .int (nI fa)], ar G u1 481 bf, ar G u2 2405 (fb_put sts bf (481 * sa) 481)] H) (mA [ob mo 6 [.ref u0, .ref u1, .ref u2, .ref u3, .ref u4, .ref u5, .int (nI sm), .int (nI sa), .int (nI le), .int (nI ra), .int (nI fa)], ar G u1 481 bf, ar G u2 2405 sts])) 0 0 (mA [ob mo 6 [.ref u0, .ref u1, .ref u2, .ref u3, .ref u4, .ref u5, .int (nI sm), .int (nI sa), .int (nI le), .int (nI ra), .int (nI fa)], ar G u1 481 bf, ar G u2 2405 sts]) := by
  refine met_muV (cc := cX6_record) (maxL := 2) (own := RX6) (by decide) rfl rfl (Nat.le_of_ble_eq_true rfl) ?_
  intro p e s m args below meth cod Q A hx hb hml hown hts hK hP hD hS hret ls hl
  have hl : lv_has ls 2 [(0, .ref mo)] := hl
  refine lv_iconst (v := (nI 0)) hx hb dX6_record_0 (by decide) ?_
  refine lv_istore_n (lv' := [(1, .int (nI 0)), (0, .ref mo)]) hx hb dX6_record_1 rfl hl (by decide) rfl (fun ls hl => ?_)
  have L2 : ∀ (fu : Nat) (k : Nat) (t2 : Nat → Int32), 482 - k < fu → k ≤ 481 → t2 = fb_put sts bf (481 * sa) k → ∀ (H : Heap) (locs : List Loc), va_P G.1 vwCl [ob mo 6 [.ref u0, .ref u1, .ref u2, .ref u3, .ref u4, .ref u5, .int (nI sm), .int (nI sa), .int (nI le), .int (nI ra), .int (nI fa)], ar G u1 481 bf, ar G u2 2405 t2] H → va_D A [ob mo 6 [.ref u0, .ref u1, .ref u2, .ref u3, .ref u4, .ref u5, .int (nI sm), .int (nI sa), .int (nI le), .int (nI ra), .int (nI fa)], ar G u1 481 bf, ar G u2 2405 t2] → va_S A s.heap H locs → ∀ (ls : Array Slot), lv_has ls 2 [(0, .ref mo), (1, .int (nI k))] → W p l e ({ frames := 0, cells := 0, slots := 0, locals := 0 } : Room) s m args below meth cod H locs 0 0 Q (F0 m 2 ls []) := by
    intro fu
    induction fu with
    | zero => intro k t2 hm; exact absurd hm (Nat.not_lt_zero _)
    | succ fu ih2 =>
      intro k t2 hm2 hk hc2 H locs hP hD hS ls hl
      have hP : va_P G.1 vwCl [ob mo 6 [.ref u0, .ref u1, .ref u2, .ref u3, .ref u4, .ref u5, .int (nI sm), .int (nI sa), .int (nI le), .int (nI ra), .int (nI fa)], ar G u1 481 bf, ar G u2 2405 t2] H := hP
      have hD : va_D A [ob mo 6 [.ref u0, .ref u1, .ref u2, .ref u3, .ref u4, .ref u5, .int (nI sm), .int (nI sa), .int (nI le), .int (nI ra), .int (nI fa)], ar G u1 481 bf, ar G u2 2405 t2] := hD
      refine lv_iload_n hx hb dX6_record_2 rfl (lv_at hl 1 rfl) ?_
      refine lv_sipush (v := (nI 481)) hx hb dX6_record_3 (by decide) ?_
      refine r_icmp_ge (P := 481 ≤ k) (tgt := 36) hx hb dX6_record_6 (by decide) (nI_leI (by omega) (by omega)) (fun cq6 => ?_) (fun cq6 => ?_)
      · obtain rfl : k = 481 := by omega
        refine lv_aload_n hx hb dX6_record_36 rfl (lv_at hl 0 rfl) ?_
        refine lv_aload_n hx hb dX6_record_37 rfl (lv_at hl 0 rfl) ?_
        refine va_get (D := G.1) (ci := 6) (v := .int (nI sa)) (C := RX6) (T := TX6) (N := 11) hx hb hts iqX6_record_X6 hown hK.1 hP 0 rfl rfl 7 (by decide) (hts (.fieldLink RX6 32 "PushedTablesModel" "stateAt" "I") (List.mem_of_getElem? (i := 2) rfl)) (fun _ h9 => h9) rfl dX6_record_38 ?_
        refine lv_iconst (v := (nI 1)) hx hb dX6_record_41 (by decide) ?_
        refine r_iadd (v := sa + 1) hx hb dX6_record_42 rfl ?_
        refine lv_iconst (v := (nI 5)) hx hb dX6_record_43 (by decide) ?_
        refine r_irem (v := (sa + 1) % 5) hx hb dX6_record_44 (by omega) (by omega) (by omega) rfl ?_
        refine va_put (D := G.1) (ci := 6) (v := .int (nI ((sa + 1) % 5))) (ty := .int) (C := RX6) (T := TX6) (N := 11) hx hb hts iqX6_record_X6 tyX6 tyX6_ok nmX6 hown hK.1 hP hD hS 0 rfl rfl 7 (by decide) (hts (.fieldLink RX6 32 "PushedTablesModel" "stateAt" "I") (List.mem_of_getElem? (i := 2) rfl)) (fun _ h9 => h9) rfl (by decide +kernel) rfl rfl (Nat.le_of_ble_eq_true rfl) dX6_record_45 (fun H locs hP hD hS => ?_)
        have hP : va_P G.1 vwCl [ob mo 6 [.ref u0, .ref u1, .ref u2, .ref u3, .ref u4, .ref u5, .int (nI sm), .int (nI ((sa + 1) % 5)), .int (nI le), .int (nI ra), .int (nI fa)], ar G u1 481 bf, ar G u2 2405 t2] H := hP
        have hD : va_D A [ob mo 6 [.ref u0, .ref u1, .ref u2, .ref u3, .ref u4, .ref u5, .int (nI sm), .int (nI ((sa + 1) % 5)), .int (nI le), .int (nI ra), .int (nI fa)], ar G u1 481 bf, ar G u2 2405 t2] := hD
        refine lv_aload_n hx hb dX6_record_48 rfl (lv_at hl 0 rfl) ?_
        refine lv_aload_n hx hb dX6_record_49 rfl (lv_at hl 0 rfl) ?_
        refine va_get (D := G.1) (ci := 6) (v := .int (nI sm)) (C := RX6) (T := TX6) (N := 11) hx hb hts iqX6_record_X6 hown hK.1 hP 0 rfl rfl 6 (by decide) (hts (.fieldLink RX6 36 "PushedTablesModel" "stateMany" "I") (List.mem_of_getElem? (i := 4) rfl)) (fun _ h9 => h9) rfl dX6_record_50 ?_
        refine lv_iconst (v := (nI 5)) hx hb dX6_record_53 (by decide) ?_
        refine r_icmp_ge (P := 5 ≤ sm) (tgt := 66) hx hb dX6_record_54 (by decide) (nI_leI (by omega) (by omega)) (fun cq54 => ?_) (fun cq54 => ?_)
        · refine lv_iconst (v := (nI 5)) hx hb dX6_record_66 (by decide) ?_
          refine va_put (D := G.1) (ci := 6) (v := .int (nI 5)) (ty := .int) (C := RX6) (T := TX6) (N := 11) hx hb hts iqX6_record_X6 tyX6 tyX6_ok nmX6 hown hK.1 hP hD hS 0 rfl rfl 6 (by decide) (hts (.fieldLink RX6 36 "PushedTablesModel" "stateMany" "I") (List.mem_of_getElem? (i := 4) rfl)) (fun _ h9 => h9) rfl (by decide +kernel) rfl rfl (Nat.le_of_ble_eq_true rfl) dX6_record_67 (fun H locs hP hD hS => ?_)
          have hP : va_P G.1 vwCl [ob mo 6 [.ref u0, .ref u1, .ref u2, .ref u3, .ref u4, .ref u5, .int (nI 5), .int (nI ((sa + 1) % 5)), .int (nI le), .int (nI ra), .int (nI fa)], ar G u1 481 bf, ar G u2 2405 t2] H := hP
          have hD : va_D A [ob mo 6 [.ref u0, .ref u1, .ref u2, .ref u3, .ref u4, .ref u5, .int (nI 5), .int (nI ((sa + 1) % 5)), .int (nI le), .int (nI ra), .int (nI fa)], ar G u1 481 bf, ar G u2 2405 t2] := hD
          subst hc2
          exact hret _ _ _ _ hS dX6_record_70 (⟨5, (if_neg (by omega)).symm, hP⟩)
        · refine lv_aload_n hx hb dX6_record_57 rfl (lv_at hl 0 rfl) ?_
          refine va_get (D := G.1) (ci := 6) (v := .int (nI sm)) (C := RX6) (T := TX6) (N := 11) hx hb hts iqX6_record_X6 hown hK.1 hP 0 rfl rfl 6 (by decide) (hts (.fieldLink RX6 36 "PushedTablesModel" "stateMany" "I") (List.mem_of_getElem? (i := 4) rfl)) (fun _ h9 => h9) rfl dX6_record_58 ?_
          refine lv_iconst (v := (nI 1)) hx hb dX6_record_61 (by decide) ?_
          refine r_iadd (v := sm + 1) hx hb dX6_record_62 rfl ?_
          refine lv_goto (tgt := 67) hx hb dX6_record_63 (by decide) ?_
          refine va_put (D := G.1) (ci := 6) (v := .int (nI (sm + 1))) (ty := .int) (C := RX6) (T := TX6) (N := 11) hx hb hts iqX6_record_X6 tyX6 tyX6_ok nmX6 hown hK.1 hP hD hS 0 rfl rfl 6 (by decide) (hts (.fieldLink RX6 36 "PushedTablesModel" "stateMany" "I") (List.mem_of_getElem? (i := 4) rfl)) (fun _ h9 => h9) rfl (by decide +kernel) rfl rfl (Nat.le_of_ble_eq_true rfl) dX6_record_67 (fun H locs hP hD hS => ?_)
          have hP : va_P G.1 vwCl [ob mo 6 [.ref u0, .ref u1, .ref u2, .ref u3, .ref u4, .ref u5, .int (nI (sm + 1)), .int (nI ((sa + 1) % 5)), .int (nI le), .int (nI ra), .int (nI fa)], ar G u1 481 bf, ar G u2 2405 t2] H := hP
          have hD : va_D A [ob mo 6 [.ref u0, .ref u1, .ref u2, .ref u3, .ref u4, .ref u5, .int (nI (sm + 1)), .int (nI ((sa + 1) % 5)), .int (nI le), .int (nI ra), .int (nI fa)], ar G u1 481 bf, ar G u2 2405 t2] := hD
          subst hc2
          exact hret _ _ _ _ hS dX6_record_70 (⟨sm + 1, (if_pos (by omega)).symm, hP⟩)
      · refine lv_aload_n hx hb dX6_record_9 rfl (lv_at hl 0 rfl) ?_
        refine va_get (D := G.1) (ci := 6) (v := .ref u2) (C := RX6) (T := TX6) (N := 11) hx hb hts iqX6_record_X6 hown hK.1 hP 0 rfl rfl 2 (by decide) (hts (.fieldLink RX6 16 "PushedTablesModel" "states" "[I") (List.mem_of_getElem? (i := 1) rfl)) (fun _ h9 => h9) rfl dX6_record_10 ?_
        refine lv_sipush (v := (nI 481)) hx hb dX6_record_13 (by decide) ?_
        refine lv_aload_n hx hb dX6_record_16 rfl (lv_at hl 0 rfl) ?_
        refine va_get (D := G.1) (ci := 6) (v := .int (nI sa)) (C := RX6) (T := TX6) (N := 11) hx hb hts iqX6_record_X6 hown hK.1 hP 0 rfl rfl 7 (by decide) (hts (.fieldLink RX6 32 "PushedTablesModel" "stateAt" "I") (List.mem_of_getElem? (i := 2) rfl)) (fun _ h9 => h9) rfl dX6_record_17 ?_
        refine r_imul (v := 481 * sa) hx hb dX6_record_20 rfl ?_
        refine lv_iload_n hx hb dX6_record_21 rfl (lv_at hl 1 rfl) ?_
        refine r_iadd (v := (481 * sa) + k) hx hb dX6_record_22 rfl ?_
        refine lv_aload_n hx hb dX6_record_23 rfl (lv_at hl 0 rfl) ?_
        refine va_get (D := G.1) (ci := 6) (v := .ref u1) (C := RX6) (T := TX6) (N := 11) hx hb hts iqX6_record_X6 hown hK.1 hP 0 rfl rfl 1 (by decide) (hts (.fieldLink RX6 13 "PushedTablesModel" "before" "[I") (List.mem_of_getElem? (i := 3) rfl)) (fun _ h9 => h9) rfl dX6_record_24 ?_
        refine lv_iload_n hx hb dX6_record_27 rfl (lv_at hl 1 rfl) ?_
        refine r_iald (e1 := k) (v := (bf k)) hx hb hK.1 hP 1 0 rfl rfl (by omega) (by first | decide | assumption) (rfl) dX6_record_28 ?_
        refine r_iast (e1 := (481 * sa) + k) (x := (bf k)) (g := upd t2 ((481 * sa) + k) (bf k)) hx hb hK.1 hP hD hS 2 0 rfl rfl (by omega) (by first | decide | assumption) (rfl) dX6_record_29 (fun H locs hP hD hS => ?_)
        have hP : va_P G.1 vwCl [ob mo 6 [.ref u0, .ref u1, .ref u2, .ref u3, .ref u4, .ref u5, .int (nI sm), .int (nI sa), .int (nI le), .int (nI ra), .int (nI fa)], ar G u1 481 bf, ar G u2 2405 (upd t2 ((481 * sa) + k) (bf k))] H := hP
        have hD : va_D A [ob mo 6 [.ref u0, .ref u1, .ref u2, .ref u3, .ref u4, .ref u5, .int (nI sm), .int (nI sa), .int (nI le), .int (nI ra), .int (nI fa)], ar G u1 481 bf, ar G u2 2405 (upd t2 ((481 * sa) + k) (bf k))] := hD
        refine r_iinc (v := k + 1) (lv' := [(1, .int (nI (k + 1))), (0, .ref mo)]) hx hb dX6_record_30 hl (k := 1) rfl (nI_1 _) (by decide) rfl (fun ls hl => ?_)
        refine lv_goto (tgt := 2) hx hb dX6_record_33 (by decide) ?_
        exact ih2 (k + 1) (upd t2 ((481 * sa) + k) (bf k)) (by omega) (by omega) (by rw [hc2]; exact fb_put_succ _ _ _ _) _ _ hP hD hS ls (lv_sub hl [1, 0] rfl)
  exact L2 ((482 - 0) + 1) 0 sts (Nat.lt_succ_self _) (by omega) ((fb_put_0 _ _ _).symm) _ _ hP hD hS ls (lv_sub hl [1, 0] rfl)

set_option maxHeartbeats 1000000 in
set_option maxRecDepth 100000 in
theorem c_X6_remember (l : Launch) (G : kG) (mo u0 u1 u2 u3 u4 u5 sm sa le ra fa : Nat) (nw : Nat → Int32) (bf sts : Nat → Int32) (hsa : sa < 5) (hsm : sm ≤ 5)  : Met l yX6_remember wsX6_remember ({ frames := 1, cells := 0, slots := 0, locals := 21 } : Room) (cP G [.ref mo] [ob mo 6 [.ref u0, .ref u1, .ref u2, .ref u3, .ref u4, .ref u5, .int (nI sm), .int (nI sa), .int (nI le), .int (nI ra), .int (nI fa)], ar G u0 481 nw, ar G u1 481 bf, ar G u2 2405 sts]) (qV (fun H => ∃ (sm1 : Nat) (bf1 : Nat → Int32) (sts1 : Nat → Int32), (sm1 = (if sm < 5 then sm + 1 else 5)) ∧ sts1 = fb_put sts nw (481 * sa) 481 ∧ va_P G.1 vwCl [ob mo 6 [.ref u0, .ref u1, .ref u2, .ref u3, .ref u4, .ref u5, .int (nI sm1), .int (nI ((sa + 1) % 5)), .int (nI le), .int (nI ra), .int (nI fa)], ar G u0 481 nw, ar G u1 481 bf1, ar G u2 2405 sts1] H) (mA [ob mo 6 [.ref u0, .ref u1, .ref u2, .ref u3, .ref u4, .ref u5, .int (nI sm), .int (nI sa), .int (nI le), .int (nI ra), .int (nI fa)], ar G u0 481 nw, ar G u1 481 bf, ar G u2 2405 sts])) 0 0 (mA [ob mo 6 [.ref u0, .ref u1, .ref u2, .ref u3, .ref u4, .ref u5, .int (nI sm), .int (nI sa), .int (nI le), .int (nI ra), .int (nI fa)], ar G u0 481 nw, ar G u1 481 bf, ar G u2 2405 sts]) := by
  refine met_muV (cc := cX6_remember) (maxL := 1) (own := RX6) (by decide) rfl rfl (Nat.le_of_ble_eq_true rfl) ?_
  intro p e s m args below meth cod Q A hx hb hml hown hts hK hP hD hS hret ls hl
  have hl : lv_has ls 1 [(0, .ref mo)] := hl
  refine lv_aload_n hx hb dX6_remember_0 rfl (lv_at hl 0 rfl) ?_
  refine g_V (k_V (q0 := 0) (ci := 6) (n := 0) (As := []) (rest := []) (wc := [ob mo 6 [.ref u0, .ref u1, .ref u2, .ref u3, .ref u4, .ref u5, .int (nI sm), .int (nI sa), .int (nI le), .int (nI ra), .int (nI fa)], ar G u0 481 nw, ar G u1 481 bf]) hx hb hml hown hts (c_X6_copy (l := l) (G := G) (mo := mo) (u0 := u0) (u1 := u1) (u2 := u2) (u3 := u3) (u4 := u4) (u5 := u5) (sm := sm) (sa := sa) (le := le) (ra := ra) (fa := fa) (nw := nw) (bf := bf))  gX6_remember_X6_copy rfl rfl rfl (by decide +kernel) ⟨Nat.le_of_ble_eq_true rfl, Nat.le_of_ble_eq_true rfl⟩ rfl hK hP hD [0, 1, 2] rfl (by decide)  rfl rfl rfl hl.1 rfl (Nat.le_of_ble_eq_true rfl) dX6_remember_1 ⟨Nat.le_of_ble_eq_true rfl, Nat.le_of_ble_eq_true rfl⟩) hP hD hS [0, 1, 2] rfl (fun H locs hB1 back hS => ?_)
  obtain ⟨bf11, hq1, hP1⟩ := hB1
  obtain ⟨hP, hD⟩ := back [ob mo 6 [.ref u0, .ref u1, .ref u2, .ref u3, .ref u4, .ref u5, .int (nI sm), .int (nI sa), .int (nI le), .int (nI ra), .int (nI fa)], ar G u0 481 nw, ar G u1 481 bf11] rfl hP1
  have hP : va_P G.1 vwCl [ob mo 6 [.ref u0, .ref u1, .ref u2, .ref u3, .ref u4, .ref u5, .int (nI sm), .int (nI sa), .int (nI le), .int (nI ra), .int (nI fa)], ar G u0 481 nw, ar G u1 481 bf11, ar G u2 2405 sts] H := hP
  have hD : va_D A [ob mo 6 [.ref u0, .ref u1, .ref u2, .ref u3, .ref u4, .ref u5, .int (nI sm), .int (nI sa), .int (nI le), .int (nI ra), .int (nI fa)], ar G u0 481 nw, ar G u1 481 bf11, ar G u2 2405 sts] := hD
  refine lv_aload_n hx hb dX6_remember_4 rfl (lv_at hl 0 rfl) ?_
  refine g_V (k_V (q0 := 0) (ci := 6) (n := 0) (As := []) (rest := []) (wc := [ob mo 6 [.ref u0, .ref u1, .ref u2, .ref u3, .ref u4, .ref u5, .int (nI sm), .int (nI sa), .int (nI le), .int (nI ra), .int (nI fa)], ar G u1 481 bf11, ar G u2 2405 sts]) hx hb hml hown hts (c_X6_record (l := l) (G := G) (mo := mo) (u0 := u0) (u1 := u1) (u2 := u2) (u3 := u3) (u4 := u4) (u5 := u5) (sm := sm) (sa := sa) (le := le) (ra := ra) (fa := fa) (bf := bf11) (sts := sts) (hsa := by first | assumption | omega) (hsm := by first | assumption | omega))  gX6_remember_X6_record rfl rfl rfl (by decide +kernel) ⟨Nat.le_of_ble_eq_true rfl, Nat.le_of_ble_eq_true rfl⟩ rfl hK hP hD [0, 2, 3] rfl (by decide)  rfl rfl rfl hl.1 rfl (Nat.le_of_ble_eq_true rfl) dX6_remember_5 ⟨Nat.le_of_ble_eq_true rfl, Nat.le_of_ble_eq_true rfl⟩) hP hD hS [0, 2, 3] rfl (fun H locs hB5 back hS => ?_)
  obtain ⟨sm15, hqs5, hP1⟩ := hB5
  obtain ⟨hP, hD⟩ := back [ob mo 6 [.ref u0, .ref u1, .ref u2, .ref u3, .ref u4, .ref u5, .int (nI sm15), .int (nI ((sa + 1) % 5)), .int (nI le), .int (nI ra), .int (nI fa)], ar G u1 481 bf11, ar G u2 2405 (fb_put sts bf11 (481 * sa) 481)] rfl hP1
  have hP : va_P G.1 vwCl [ob mo 6 [.ref u0, .ref u1, .ref u2, .ref u3, .ref u4, .ref u5, .int (nI sm15), .int (nI ((sa + 1) % 5)), .int (nI le), .int (nI ra), .int (nI fa)], ar G u0 481 nw, ar G u1 481 bf11, ar G u2 2405 (fb_put sts bf11 (481 * sa) 481)] H := hP
  have hD : va_D A [ob mo 6 [.ref u0, .ref u1, .ref u2, .ref u3, .ref u4, .ref u5, .int (nI sm15), .int (nI ((sa + 1) % 5)), .int (nI le), .int (nI ra), .int (nI fa)], ar G u0 481 nw, ar G u1 481 bf11, ar G u2 2405 (fb_put sts bf11 (481 * sa) 481)] := hD
  exact hret _ _ _ _ hS dX6_remember_8 (⟨sm15, bf11, (fb_put sts bf11 (481 * sa) 481), hqs5, fb_put_cong (fun _ _ => rfl) hq1, hP⟩)

theorem iqX6_undo_ok_X6 : ∀ w ∈ u_ws RX6 TX6 11, w ∈ wsX6_undo := by decide +kernel
set_option maxHeartbeats 1000000 in
set_option maxRecDepth 100000 in
theorem c_X6_undo_ok (l : Launch) (G : kG) (mo u0 u1 u2 u3 u4 u5 sm sa le ra fa : Nat) (nw sts : Nat → Int32) (hsa : sa < 5) (hsm : sm ≤ 5) (h0 : 0 < sm) : Met l yX6_undo wsX6_undo ({ frames := 0, cells := 0, slots := 0, locals := 0 } : Room) (cP G [.ref mo] [ob mo 6 [.ref u0, .ref u1, .ref u2, .ref u3, .ref u4, .ref u5, .int (nI sm), .int (nI sa), .int (nI le), .int (nI ra), .int (nI fa)], ar G u0 481 nw, ar G u2 2405 sts]) (qI (fun rv H => ∃ (nw1 : Nat → Int32), rv = (nI (sm - 1)) ∧ (∀ j, j < 481 → nw1 j = sts (481 * ((sa + 5 - 1) % 5) + j)) ∧ va_P G.1 vwCl [ob mo 6 [.ref u0, .ref u1, .ref u2, .ref u3, .ref u4, .ref u5, .int (nI (sm - 1)), .int (nI ((sa + 5 - 1) % 5)), .int (nI le), .int (nI ra), .int (nI fa)], ar G u0 481 nw1, ar G u2 2405 sts] H) (mA [ob mo 6 [.ref u0, .ref u1, .ref u2, .ref u3, .ref u4, .ref u5, .int (nI sm), .int (nI sa), .int (nI le), .int (nI ra), .int (nI fa)], ar G u0 481 nw, ar G u2 2405 sts])) 0 0 (mA [ob mo 6 [.ref u0, .ref u1, .ref u2, .ref u3, .ref u4, .ref u5, .int (nI sm), .int (nI sa), .int (nI le), .int (nI ra), .int (nI fa)], ar G u0 481 nw, ar G u2 2405 sts]) := by
  refine met_muI (cc := cX6_undo) (maxL := 2) (ty := .int) (own := RX6) (by decide) rfl rfl (fun _ _ _ => rfl) (Nat.le_of_ble_eq_true rfl) ?_
  intro p e s m args below meth cod Q A hx hb hml hown hts hK hP hD hS hret ls hl
  have hl : lv_has ls 2 [(0, .ref mo)] := hl
  refine lv_aload_n hx hb dX6_undo_0 rfl (lv_at hl 0 rfl) ?_
  refine va_get (D := G.1) (ci := 6) (v := .int (nI sm)) (C := RX6) (T := TX6) (N := 11) hx hb hts iqX6_undo_ok_X6 hown hK.1 hP 0 rfl rfl 6 (by decide) (hts (.fieldLink RX6 36 "PushedTablesModel" "stateMany" "I") (List.mem_of_getElem? (i := 1) rfl)) (fun _ h9 => h9) rfl dX6_undo_1 ?_
  refine r_if_ne (P := sm = 0) (tgt := 10) hx hb dX6_undo_4 (by decide) (nI_eq0 (by omega)) (fun cq4 => ?_) (fun cq4 => ?_)
  · refine lv_aload_n hx hb dX6_undo_10 rfl (lv_at hl 0 rfl) ?_
    refine lv_aload_n hx hb dX6_undo_11 rfl (lv_at hl 0 rfl) ?_
    refine va_get (D := G.1) (ci := 6) (v := .int (nI sa)) (C := RX6) (T := TX6) (N := 11) hx hb hts iqX6_undo_ok_X6 hown hK.1 hP 0 rfl rfl 7 (by decide) (hts (.fieldLink RX6 32 "PushedTablesModel" "stateAt" "I") (List.mem_of_getElem? (i := 2) rfl)) (fun _ h9 => h9) rfl dX6_undo_12 ?_
    refine lv_iconst (v := (nI 5)) hx hb dX6_undo_15 (by decide) ?_
    refine r_iadd (v := sa + 5) hx hb dX6_undo_16 rfl ?_
    refine lv_iconst (v := (nI 1)) hx hb dX6_undo_17 (by decide) ?_
    refine r_isub (v := (sa + 5) - 1) hx hb dX6_undo_18 (by omega) rfl ?_
    refine lv_iconst (v := (nI 5)) hx hb dX6_undo_19 (by decide) ?_
    refine r_irem (v := ((sa + 5) - 1) % 5) hx hb dX6_undo_20 (by omega) (by omega) (by omega) rfl ?_
    refine va_put (D := G.1) (ci := 6) (v := .int (nI (((sa + 5) - 1) % 5))) (ty := .int) (C := RX6) (T := TX6) (N := 11) hx hb hts iqX6_undo_ok_X6 tyX6 tyX6_ok nmX6 hown hK.1 hP hD hS 0 rfl rfl 7 (by decide) (hts (.fieldLink RX6 32 "PushedTablesModel" "stateAt" "I") (List.mem_of_getElem? (i := 2) rfl)) (fun _ h9 => h9) rfl (by decide +kernel) rfl rfl (Nat.le_of_ble_eq_true rfl) dX6_undo_21 (fun H locs hP hD hS => ?_)
    have hP : va_P G.1 vwCl [ob mo 6 [.ref u0, .ref u1, .ref u2, .ref u3, .ref u4, .ref u5, .int (nI sm), .int (nI (((sa + 5) - 1) % 5)), .int (nI le), .int (nI ra), .int (nI fa)], ar G u0 481 nw, ar G u2 2405 sts] H := hP
    have hD : va_D A [ob mo 6 [.ref u0, .ref u1, .ref u2, .ref u3, .ref u4, .ref u5, .int (nI sm), .int (nI (((sa + 5) - 1) % 5)), .int (nI le), .int (nI ra), .int (nI fa)], ar G u0 481 nw, ar G u2 2405 sts] := hD
    refine lv_aload_n hx hb dX6_undo_24 rfl (lv_at hl 0 rfl) ?_
    refine lv_dup hx hb dX6_undo_25 rfl ?_
    refine va_get (D := G.1) (ci := 6) (v := .int (nI sm)) (C := RX6) (T := TX6) (N := 11) hx hb hts iqX6_undo_ok_X6 hown hK.1 hP 0 rfl rfl 6 (by decide) (hts (.fieldLink RX6 36 "PushedTablesModel" "stateMany" "I") (List.mem_of_getElem? (i := 1) rfl)) (fun _ h9 => h9) rfl dX6_undo_26 ?_
    refine lv_iconst (v := (nI 1)) hx hb dX6_undo_29 (by decide) ?_
    refine r_isub (v := sm - 1) hx hb dX6_undo_30 (by omega) rfl ?_
    refine va_put (D := G.1) (ci := 6) (v := .int (nI (sm - 1))) (ty := .int) (C := RX6) (T := TX6) (N := 11) hx hb hts iqX6_undo_ok_X6 tyX6 tyX6_ok nmX6 hown hK.1 hP hD hS 0 rfl rfl 6 (by decide) (hts (.fieldLink RX6 36 "PushedTablesModel" "stateMany" "I") (List.mem_of_getElem? (i := 1) rfl)) (fun _ h9 => h9) rfl (by decide +kernel) rfl rfl (Nat.le_of_ble_eq_true rfl) dX6_undo_31 (fun H locs hP hD hS => ?_)
    have hP : va_P G.1 vwCl [ob mo 6 [.ref u0, .ref u1, .ref u2, .ref u3, .ref u4, .ref u5, .int (nI (sm - 1)), .int (nI (((sa + 5) - 1) % 5)), .int (nI le), .int (nI ra), .int (nI fa)], ar G u0 481 nw, ar G u2 2405 sts] H := hP
    have hD : va_D A [ob mo 6 [.ref u0, .ref u1, .ref u2, .ref u3, .ref u4, .ref u5, .int (nI (sm - 1)), .int (nI (((sa + 5) - 1) % 5)), .int (nI le), .int (nI ra), .int (nI fa)], ar G u0 481 nw, ar G u2 2405 sts] := hD
    refine lv_iconst (v := (nI 0)) hx hb dX6_undo_34 (by decide) ?_
    refine lv_istore_n (lv' := [(1, .int (nI 0)), (0, .ref mo)]) hx hb dX6_undo_35 rfl hl (by decide) rfl (fun ls hl => ?_)
    have L36 : ∀ (fu : Nat) (k : Nat) (n2 : Nat → Int32), 482 - k < fu → k ≤ 481 → (∀ j, j < k → n2 j = sts (481 * ((sa + 5 - 1) % 5) + j)) → ∀ (H : Heap) (locs : List Loc), va_P G.1 vwCl [ob mo 6 [.ref u0, .ref u1, .ref u2, .ref u3, .ref u4, .ref u5, .int (nI (sm - 1)), .int (nI (((sa + 5) - 1) % 5)), .int (nI le), .int (nI ra), .int (nI fa)], ar G u0 481 n2, ar G u2 2405 sts] H → va_D A [ob mo 6 [.ref u0, .ref u1, .ref u2, .ref u3, .ref u4, .ref u5, .int (nI (sm - 1)), .int (nI (((sa + 5) - 1) % 5)), .int (nI le), .int (nI ra), .int (nI fa)], ar G u0 481 n2, ar G u2 2405 sts] → va_S A s.heap H locs → ∀ (ls : Array Slot), lv_has ls 2 [(0, .ref mo), (1, .int (nI k))] → W p l e ({ frames := 0, cells := 0, slots := 0, locals := 0 } : Room) s m args below meth cod H locs 0 0 Q (F0 m 36 ls []) := by
      intro fu
      induction fu with
      | zero => intro k n2 hm; exact absurd hm (Nat.not_lt_zero _)
      | succ fu ih36 =>
        intro k n2 hm36 hk hc2 H locs hP hD hS ls hl
        have hP : va_P G.1 vwCl [ob mo 6 [.ref u0, .ref u1, .ref u2, .ref u3, .ref u4, .ref u5, .int (nI (sm - 1)), .int (nI (((sa + 5) - 1) % 5)), .int (nI le), .int (nI ra), .int (nI fa)], ar G u0 481 n2, ar G u2 2405 sts] H := hP
        have hD : va_D A [ob mo 6 [.ref u0, .ref u1, .ref u2, .ref u3, .ref u4, .ref u5, .int (nI (sm - 1)), .int (nI (((sa + 5) - 1) % 5)), .int (nI le), .int (nI ra), .int (nI fa)], ar G u0 481 n2, ar G u2 2405 sts] := hD
        refine lv_iload_n hx hb dX6_undo_36 rfl (lv_at hl 1 rfl) ?_
        refine lv_sipush (v := (nI 481)) hx hb dX6_undo_37 (by decide) ?_
        refine r_icmp_ge (P := 481 ≤ k) (tgt := 70) hx hb dX6_undo_40 (by decide) (nI_leI (by omega) (by omega)) (fun cq40 => ?_) (fun cq40 => ?_)
        · refine lv_aload_n hx hb dX6_undo_70 rfl (lv_at hl 0 rfl) ?_
          refine va_get (D := G.1) (ci := 6) (v := .int (nI (sm - 1))) (C := RX6) (T := TX6) (N := 11) hx hb hts iqX6_undo_ok_X6 hown hK.1 hP 0 rfl rfl 6 (by decide) (hts (.fieldLink RX6 36 "PushedTablesModel" "stateMany" "I") (List.mem_of_getElem? (i := 1) rfl)) (fun _ h9 => h9) rfl dX6_undo_71 ?_
          exact hret _ _ _ _ _ hS dX6_undo_74 (⟨n2, rfl, fun j hj => hc2 j (by omega), hP⟩)
        · refine lv_aload_n hx hb dX6_undo_43 rfl (lv_at hl 0 rfl) ?_
          refine va_get (D := G.1) (ci := 6) (v := .ref u0) (C := RX6) (T := TX6) (N := 11) hx hb hts iqX6_undo_ok_X6 hown hK.1 hP 0 rfl rfl 0 (by decide) (hts (.fieldLink RX6 7 "PushedTablesModel" "now" "[I") (List.mem_of_getElem? (i := 3) rfl)) (fun _ h9 => h9) rfl dX6_undo_44 ?_
          refine lv_iload_n hx hb dX6_undo_47 rfl (lv_at hl 1 rfl) ?_
          refine lv_aload_n hx hb dX6_undo_48 rfl (lv_at hl 0 rfl) ?_
          refine va_get (D := G.1) (ci := 6) (v := .ref u2) (C := RX6) (T := TX6) (N := 11) hx hb hts iqX6_undo_ok_X6 hown hK.1 hP 0 rfl rfl 2 (by decide) (hts (.fieldLink RX6 16 "PushedTablesModel" "states" "[I") (List.mem_of_getElem? (i := 4) rfl)) (fun _ h9 => h9) rfl dX6_undo_49 ?_
          refine lv_sipush (v := (nI 481)) hx hb dX6_undo_52 (by decide) ?_
          refine lv_aload_n hx hb dX6_undo_55 rfl (lv_at hl 0 rfl) ?_
          refine va_get (D := G.1) (ci := 6) (v := .int (nI (((sa + 5) - 1) % 5))) (C := RX6) (T := TX6) (N := 11) hx hb hts iqX6_undo_ok_X6 hown hK.1 hP 0 rfl rfl 7 (by decide) (hts (.fieldLink RX6 32 "PushedTablesModel" "stateAt" "I") (List.mem_of_getElem? (i := 2) rfl)) (fun _ h9 => h9) rfl dX6_undo_56 ?_
          refine r_imul (v := 481 * (((sa + 5) - 1) % 5)) hx hb dX6_undo_59 rfl ?_
          refine lv_iload_n hx hb dX6_undo_60 rfl (lv_at hl 1 rfl) ?_
          refine r_iadd (v := (481 * (((sa + 5) - 1) % 5)) + k) hx hb dX6_undo_61 rfl ?_
          refine r_iald (e1 := (481 * (((sa + 5) - 1) % 5)) + k) (v := (sts ((481 * (((sa + 5) - 1) % 5)) + k))) hx hb hK.1 hP 2 0 rfl rfl (by omega) (by first | decide | assumption) (rfl) dX6_undo_62 ?_
          refine r_iast (e1 := k) (x := (sts ((481 * (((sa + 5) - 1) % 5)) + k))) (g := upd n2 k (sts ((481 * (((sa + 5) - 1) % 5)) + k))) hx hb hK.1 hP hD hS 1 0 rfl rfl (by omega) (by first | decide | assumption) (rfl) dX6_undo_63 (fun H locs hP hD hS => ?_)
          have hP : va_P G.1 vwCl [ob mo 6 [.ref u0, .ref u1, .ref u2, .ref u3, .ref u4, .ref u5, .int (nI (sm - 1)), .int (nI (((sa + 5) - 1) % 5)), .int (nI le), .int (nI ra), .int (nI fa)], ar G u0 481 (upd n2 k (sts ((481 * (((sa + 5) - 1) % 5)) + k))), ar G u2 2405 sts] H := hP
          have hD : va_D A [ob mo 6 [.ref u0, .ref u1, .ref u2, .ref u3, .ref u4, .ref u5, .int (nI (sm - 1)), .int (nI (((sa + 5) - 1) % 5)), .int (nI le), .int (nI ra), .int (nI fa)], ar G u0 481 (upd n2 k (sts ((481 * (((sa + 5) - 1) % 5)) + k))), ar G u2 2405 sts] := hD
          refine r_iinc (v := k + 1) (lv' := [(1, .int (nI (k + 1))), (0, .ref mo)]) hx hb dX6_undo_64 hl (k := 1) rfl (nI_1 _) (by decide) rfl (fun ls hl => ?_)
          refine lv_goto (tgt := 36) hx hb dX6_undo_67 (by decide) ?_
          exact ih36 (k + 1) (upd n2 k (sts ((481 * (((sa + 5) - 1) % 5)) + k))) (by omega) (by omega) (fun j hj => up_cpy (g := fun j => sts (481 * ((sa + 5 - 1) % 5) + j)) hc2 hj) _ _ hP hD hS ls (lv_sub hl [1, 0] rfl)
    exact L36 ((482 - 0) + 1) 0 nw (Nat.lt_succ_self _) (by omega) (fun j hj => absurd hj (Nat.not_lt_zero j)) _ _ hP hD hS ls (lv_sub hl [1, 0] rfl)
  · exact absurd cq4 (by omega)

theorem iqX6_adds_X6 : ∀ w ∈ u_ws RX6 TX6 11, w ∈ wsX6_adds := by decide +kernel
set_option maxHeartbeats 1000000 in
set_option maxRecDepth 100000 in
theorem c_X6_adds (l : Launch) (G : kG) (mo u0 u1 u2 u3 u4 u5 sm sa le ra fa : Nat) (σ : Sg) (nw : Nat → Int32) (hR : Rel σ nw) (hB : Bd σ) (v : Nat) (hn : nn σ < 24) : Met l yX6_adds wsX6_adds ({ frames := 0, cells := 0, slots := 0, locals := 0 } : Room) (cP G [.ref mo, .int (nI v)] [ob mo 6 [.ref u0, .ref u1, .ref u2, .ref u3, .ref u4, .ref u5, .int (nI sm), .int (nI sa), .int (nI le), .int (nI ra), .int (nI fa)], ar G u0 481 nw]) (qV (fun H => ∃ (nw1 : Nat → Int32), Rel (adS σ v) nw1 ∧ va_P G.1 vwCl [ob mo 6 [.ref u0, .ref u1, .ref u2, .ref u3, .ref u4, .ref u5, .int (nI sm), .int (nI sa), .int (nI le), .int (nI ra), .int (nI fa)], ar G u0 481 nw1] H) (mA [ob mo 6 [.ref u0, .ref u1, .ref u2, .ref u3, .ref u4, .ref u5, .int (nI sm), .int (nI sa), .int (nI le), .int (nI ra), .int (nI fa)], ar G u0 481 nw])) 0 0 (mA [ob mo 6 [.ref u0, .ref u1, .ref u2, .ref u3, .ref u4, .ref u5, .int (nI sm), .int (nI sa), .int (nI le), .int (nI ra), .int (nI fa)], ar G u0 481 nw]) := by
  refine met_muV (cc := cX6_adds) (maxL := 3) (own := RX6) (by decide) rfl rfl (Nat.le_of_ble_eq_true rfl) ?_
  intro p e s m args below meth cod Q A hx hb hml hown hts hK hP hD hS hret ls hl
  have hl : lv_has ls 3 [(0, .ref mo), (1, .int (nI v))] := hl
  refine lv_aload_n hx hb dX6_adds_0 rfl (lv_at hl 0 rfl) ?_
  refine va_get (D := G.1) (ci := 6) (v := .ref u0) (C := RX6) (T := TX6) (N := 11) hx hb hts iqX6_adds_X6 hown hK.1 hP 0 rfl rfl 0 (by decide) (hts (.fieldLink RX6 7 "PushedTablesModel" "now" "[I") (List.mem_of_getElem? (i := 1) rfl)) (fun _ h9 => h9) rfl dX6_adds_1 ?_
  refine lv_iconst (v := (nI 0)) hx hb dX6_adds_4 (by decide) ?_
  refine r_iald (e1 := 0) (v := (nI (nn σ))) hx hb hK.1 hP 1 0 rfl rfl (by omega) (by first | decide | assumption) (hR.n) dX6_adds_5 ?_
  refine lv_istore_n (lv' := [(2, .int (nI (nn σ))), (0, .ref mo), (1, .int (nI v))]) hx hb dX6_adds_6 rfl hl (by decide) rfl (fun ls hl => ?_)
  refine lv_aload_n hx hb dX6_adds_7 rfl (lv_at hl 1 rfl) ?_
  refine va_get (D := G.1) (ci := 6) (v := .ref u0) (C := RX6) (T := TX6) (N := 11) hx hb hts iqX6_adds_X6 hown hK.1 hP 0 rfl rfl 0 (by decide) (hts (.fieldLink RX6 7 "PushedTablesModel" "now" "[I") (List.mem_of_getElem? (i := 1) rfl)) (fun _ h9 => h9) rfl dX6_adds_8 ?_
  refine lv_iconst (v := (nI 1)) hx hb dX6_adds_11 (by decide) ?_
  refine lv_iload_n hx hb dX6_adds_12 rfl (lv_at hl 0 rfl) ?_
  refine r_iadd (v := 1 + (nn σ)) hx hb dX6_adds_13 rfl ?_
  refine lv_iload_n hx hb dX6_adds_14 rfl (lv_at hl 2 rfl) ?_
  refine r_iast (e1 := 1 + (nn σ)) (x := (nI v)) (g := upd nw (1 + (nn σ)) (nI v)) hx hb hK.1 hP hD hS 1 0 rfl rfl (by omega) (by first | decide | assumption) (rfl) dX6_adds_15 (fun H locs hP hD hS => ?_)
  have hP : va_P G.1 vwCl [ob mo 6 [.ref u0, .ref u1, .ref u2, .ref u3, .ref u4, .ref u5, .int (nI sm), .int (nI sa), .int (nI le), .int (nI ra), .int (nI fa)], ar G u0 481 (upd nw (1 + (nn σ)) (nI v))] H := hP
  have hD : va_D A [ob mo 6 [.ref u0, .ref u1, .ref u2, .ref u3, .ref u4, .ref u5, .int (nI sm), .int (nI sa), .int (nI le), .int (nI ra), .int (nI fa)], ar G u0 481 (upd nw (1 + (nn σ)) (nI v))] := hD
  refine lv_aload_n hx hb dX6_adds_16 rfl (lv_at hl 1 rfl) ?_
  refine va_get (D := G.1) (ci := 6) (v := .ref u0) (C := RX6) (T := TX6) (N := 11) hx hb hts iqX6_adds_X6 hown hK.1 hP 0 rfl rfl 0 (by decide) (hts (.fieldLink RX6 7 "PushedTablesModel" "now" "[I") (List.mem_of_getElem? (i := 1) rfl)) (fun _ h9 => h9) rfl dX6_adds_17 ?_
  refine lv_bipush (v := (nI 25)) hx hb dX6_adds_20 (by decide) ?_
  refine lv_iload_n hx hb dX6_adds_22 rfl (lv_at hl 0 rfl) ?_
  refine r_iadd (v := 25 + (nn σ)) hx hb dX6_adds_23 rfl ?_
  refine lv_iconst (v := (nI 0)) hx hb dX6_adds_24 (by decide) ?_
  refine r_iast (e1 := 25 + (nn σ)) (x := (nI 0)) (g := upd (upd nw (1 + (nn σ)) (nI v)) (25 + (nn σ)) (nI 0)) hx hb hK.1 hP hD hS 1 0 rfl rfl (by omega) (by first | decide | assumption) (rfl) dX6_adds_25 (fun H locs hP hD hS => ?_)
  have hP : va_P G.1 vwCl [ob mo 6 [.ref u0, .ref u1, .ref u2, .ref u3, .ref u4, .ref u5, .int (nI sm), .int (nI sa), .int (nI le), .int (nI ra), .int (nI fa)], ar G u0 481 (upd (upd nw (1 + (nn σ)) (nI v)) (25 + (nn σ)) (nI 0))] H := hP
  have hD : va_D A [ob mo 6 [.ref u0, .ref u1, .ref u2, .ref u3, .ref u4, .ref u5, .int (nI sm), .int (nI sa), .int (nI le), .int (nI ra), .int (nI fa)], ar G u0 481 (upd (upd nw (1 + (nn σ)) (nI v)) (25 + (nn σ)) (nI 0))] := hD
  refine lv_aload_n hx hb dX6_adds_26 rfl (lv_at hl 1 rfl) ?_
  refine va_get (D := G.1) (ci := 6) (v := .ref u0) (C := RX6) (T := TX6) (N := 11) hx hb hts iqX6_adds_X6 hown hK.1 hP 0 rfl rfl 0 (by decide) (hts (.fieldLink RX6 7 "PushedTablesModel" "now" "[I") (List.mem_of_getElem? (i := 1) rfl)) (fun _ h9 => h9) rfl dX6_adds_27 ?_
  refine lv_bipush (v := (nI 49)) hx hb dX6_adds_30 (by decide) ?_
  refine lv_iload_n hx hb dX6_adds_32 rfl (lv_at hl 0 rfl) ?_
  refine r_iadd (v := 49 + (nn σ)) hx hb dX6_adds_33 rfl ?_
  refine lv_iconst (v := (e1 1000)) hx hb dX6_adds_34 (by decide) ?_
  refine r_iast (e1 := 49 + (nn σ)) (x := (e1 1000)) (g := upd (upd (upd nw (1 + (nn σ)) (nI v)) (25 + (nn σ)) (nI 0)) (49 + (nn σ)) (e1 1000)) hx hb hK.1 hP hD hS 1 0 rfl rfl (by omega) (by first | decide | assumption) (rfl) dX6_adds_35 (fun H locs hP hD hS => ?_)
  have hP : va_P G.1 vwCl [ob mo 6 [.ref u0, .ref u1, .ref u2, .ref u3, .ref u4, .ref u5, .int (nI sm), .int (nI sa), .int (nI le), .int (nI ra), .int (nI fa)], ar G u0 481 (upd (upd (upd nw (1 + (nn σ)) (nI v)) (25 + (nn σ)) (nI 0)) (49 + (nn σ)) (e1 1000))] H := hP
  have hD : va_D A [ob mo 6 [.ref u0, .ref u1, .ref u2, .ref u3, .ref u4, .ref u5, .int (nI sm), .int (nI sa), .int (nI le), .int (nI ra), .int (nI fa)], ar G u0 481 (upd (upd (upd nw (1 + (nn σ)) (nI v)) (25 + (nn σ)) (nI 0)) (49 + (nn σ)) (e1 1000))] := hD
  refine lv_aload_n hx hb dX6_adds_36 rfl (lv_at hl 1 rfl) ?_
  refine va_get (D := G.1) (ci := 6) (v := .ref u0) (C := RX6) (T := TX6) (N := 11) hx hb hts iqX6_adds_X6 hown hK.1 hP 0 rfl rfl 0 (by decide) (hts (.fieldLink RX6 7 "PushedTablesModel" "now" "[I") (List.mem_of_getElem? (i := 1) rfl)) (fun _ h9 => h9) rfl dX6_adds_37 ?_
  refine lv_iconst (v := (nI 0)) hx hb dX6_adds_40 (by decide) ?_
  refine lv_dup2_11 hx hb dX6_adds_41 rfl rfl ?_
  refine r_iald (e1 := 0) (v := (nI (nn σ))) hx hb hK.1 hP 1 0 rfl rfl (by omega) (by first | decide | assumption) (by show (upd (upd (upd nw (1 + nn σ) (nI v)) (25 + nn σ) (nI 0)) (49 + nn σ) (e1 1000)) 0 = _; rw [u_n (by omega), u_n (by omega), u_n (by omega)]; exact hR.n) dX6_adds_42 ?_
  refine lv_iconst (v := (nI 1)) hx hb dX6_adds_43 (by decide) ?_
  refine r_iadd (v := (nn σ) + 1) hx hb dX6_adds_44 rfl ?_
  refine r_iast (e1 := 0) (x := (nI ((nn σ) + 1))) (g := upd (upd (upd (upd nw (1 + (nn σ)) (nI v)) (25 + (nn σ)) (nI 0)) (49 + (nn σ)) (e1 1000)) 0 (nI ((nn σ) + 1))) hx hb hK.1 hP hD hS 1 0 rfl rfl (by omega) (by first | decide | assumption) (rfl) dX6_adds_45 (fun H locs hP hD hS => ?_)
  have hP : va_P G.1 vwCl [ob mo 6 [.ref u0, .ref u1, .ref u2, .ref u3, .ref u4, .ref u5, .int (nI sm), .int (nI sa), .int (nI le), .int (nI ra), .int (nI fa)], ar G u0 481 (upd (upd (upd (upd nw (1 + (nn σ)) (nI v)) (25 + (nn σ)) (nI 0)) (49 + (nn σ)) (e1 1000)) 0 (nI ((nn σ) + 1)))] H := hP
  have hD : va_D A [ob mo 6 [.ref u0, .ref u1, .ref u2, .ref u3, .ref u4, .ref u5, .int (nI sm), .int (nI sa), .int (nI le), .int (nI ra), .int (nI fa)], ar G u0 481 (upd (upd (upd (upd nw (1 + (nn σ)) (nI v)) (25 + (nn σ)) (nI 0)) (49 + (nn σ)) (e1 1000)) 0 (nI ((nn σ) + 1)))] := hD
  exact hret _ _ _ _ hS dX6_adds_46 (⟨upd (upd (upd (upd nw (1 + (nn σ)) (nI v)) (25 + (nn σ)) (nI 0)) (49 + (nn σ)) (e1 1000)) 0 (nI ((nn σ) + 1)), Rel_ad hR hn v, hP⟩)

theorem iqX6_add_ok_X6 : ∀ w ∈ u_ws RX6 TX6 11, w ∈ wsX6_add := by decide +kernel
set_option maxHeartbeats 1000000 in
set_option maxRecDepth 100000 in
theorem c_X6_add_ok (l : Launch) (G : kG) (mo u0 u1 u2 u3 u4 u5 sm sa le ra fa : Nat) (σ : Sg) (nw : Nat → Int32) (hR : Rel σ nw) (hB : Bd σ) (bf sts : Nat → Int32) (hsa : sa < 5) (hsm : sm ≤ 5) (v : Nat) (hv9 : v < 100) (hn : nn σ < 24) : Met l yX6_add wsX6_add ({ frames := 2, cells := 0, slots := 0, locals := 41 } : Room) (cP G [.ref mo, .int (nI v)] [ob mo 6 [.ref u0, .ref u1, .ref u2, .ref u3, .ref u4, .ref u5, .int (nI sm), .int (nI sa), .int (nI le), .int (nI ra), .int (nI fa)], ar G u0 481 nw, ar G u1 481 bf, ar G u2 2405 sts]) (qI (fun rv H => ∃ (nw1 : Nat → Int32) (bf1 : Nat → Int32) (sts1 : Nat → Int32) (sm1 : Nat), rv = (nI (nn σ)) ∧ (sm1 = (if sm < 5 then sm + 1 else 5)) ∧ sts1 = fb_put sts nw (481 * sa) 481 ∧ Rel (adS σ v) nw1 ∧ va_P G.1 vwCl [ob mo 6 [.ref u0, .ref u1, .ref u2, .ref u3, .ref u4, .ref u5, .int (nI sm1), .int (nI ((sa + 1) % 5)), .int (nI le), .int (nI ra), .int (nI fa)], ar G u0 481 nw1, ar G u1 481 bf1, ar G u2 2405 sts1] H) (mA [ob mo 6 [.ref u0, .ref u1, .ref u2, .ref u3, .ref u4, .ref u5, .int (nI sm), .int (nI sa), .int (nI le), .int (nI ra), .int (nI fa)], ar G u0 481 nw, ar G u1 481 bf, ar G u2 2405 sts])) 0 0 (mA [ob mo 6 [.ref u0, .ref u1, .ref u2, .ref u3, .ref u4, .ref u5, .int (nI sm), .int (nI sa), .int (nI le), .int (nI ra), .int (nI fa)], ar G u0 481 nw, ar G u1 481 bf, ar G u2 2405 sts]) := by
  refine met_muI (cc := cX6_add) (maxL := 2) (ty := .int) (own := RX6) (by decide) rfl rfl (fun _ _ _ => rfl) (Nat.le_of_ble_eq_true rfl) ?_
  intro p e s m args below meth cod Q A hx hb hml hown hts hK hP hD hS hret ls hl
  have hl : lv_has ls 2 [(0, .ref mo), (1, .int (nI v))] := hl
  refine lv_iload_n hx hb dX6_add_0 rfl (lv_at hl 1 rfl) ?_
  refine lv_iconst (v := (nI 0)) hx hb dX6_add_1 (by decide) ?_
  refine lv_bipush (v := (nI 99)) hx hb dX6_add_2 (by decide) ?_
  refine g_ro (k_S (n := 3) (As := [.int (nI v), .int (nI 0), .int (nI 99)]) (rest := []) (wc := []) hx hb hml hown hts (c_X6_in (l := l) (G := G) (xa := nI v) (xb := nI 0) (xc := nI 99))  gX6_add_X6_in rfl rfl rfl (by decide +kernel) ⟨Nat.le_of_ble_eq_true rfl, Nat.le_of_ble_eq_true rfl⟩ rfl hK hP hD [] rfl (by decide)  hl.1 rfl (Nat.le_of_ble_eq_true rfl) dX6_add_4 ⟨Nat.le_of_ble_eq_true rfl, Nat.le_of_ble_eq_true rfl⟩) (fun r4 h4 => ?_)
  obtain rfl : (bI (ing (nI v) (nI 0) (nI 99))) = r4 := Eq.symm h4
  refine r_if_ne (P := (ing (nI v) (nI 0) (nI 99)) = false) (tgt := 12) hx hb dX6_add_7 (by decide) (bI_eq0) (fun cq7 => ?_) (fun cq7 => ?_)
  · refine lv_aload_n hx hb dX6_add_12 rfl (lv_at hl 0 rfl) ?_
    refine va_get (D := G.1) (ci := 6) (v := .ref u0) (C := RX6) (T := TX6) (N := 11) hx hb hts iqX6_add_ok_X6 hown hK.1 hP 0 rfl rfl 0 (by decide) (hts (.fieldLink RX6 7 "PushedTablesModel" "now" "[I") (List.mem_of_getElem? (i := 1) rfl)) (fun _ h9 => h9) rfl dX6_add_13 ?_
    refine lv_iconst (v := (nI 0)) hx hb dX6_add_16 (by decide) ?_
    refine r_iald (e1 := 0) (v := (nI (nn σ))) hx hb hK.1 hP 1 0 rfl rfl (by omega) (by first | decide | assumption) (hR.n) dX6_add_17 ?_
    refine lv_bipush (v := (nI 24)) hx hb dX6_add_18 (by decide) ?_
    refine r_icmp_ne (P := (nn σ) = 24) (tgt := 26) hx hb dX6_add_20 (by decide) (nI_eq (by omega) (by omega)) (fun cq20 => ?_) (fun cq20 => ?_)
    · refine lv_aload_n hx hb dX6_add_26 rfl (lv_at hl 0 rfl) ?_
      refine g_V (k_V (q0 := 0) (ci := 6) (n := 0) (As := []) (rest := []) (wc := [ob mo 6 [.ref u0, .ref u1, .ref u2, .ref u3, .ref u4, .ref u5, .int (nI sm), .int (nI sa), .int (nI le), .int (nI ra), .int (nI fa)], ar G u0 481 nw, ar G u1 481 bf, ar G u2 2405 sts]) hx hb hml hown hts (c_X6_remember (l := l) (G := G) (mo := mo) (u0 := u0) (u1 := u1) (u2 := u2) (u3 := u3) (u4 := u4) (u5 := u5) (sm := sm) (sa := sa) (le := le) (ra := ra) (fa := fa) (nw := nw) (bf := bf) (sts := sts) (hsa := by first | assumption | omega) (hsm := by first | assumption | omega))  gX6_add_X6_remember rfl rfl rfl (by decide +kernel) ⟨Nat.le_of_ble_eq_true rfl, Nat.le_of_ble_eq_true rfl⟩ rfl hK hP hD [0, 1, 2, 3] rfl (by decide)  rfl rfl rfl hl.1 rfl (Nat.le_of_ble_eq_true rfl) dX6_add_27 ⟨Nat.le_of_ble_eq_true rfl, Nat.le_of_ble_eq_true rfl⟩) hP hD hS [0, 1, 2, 3] rfl (fun H locs hB27 back hS => ?_)
      obtain ⟨sm127, bf127, sts127, hqs27, hqt27, hP1⟩ := hB27
      obtain ⟨hP, hD⟩ := back [ob mo 6 [.ref u0, .ref u1, .ref u2, .ref u3, .ref u4, .ref u5, .int (nI sm127), .int (nI ((sa + 1) % 5)), .int (nI le), .int (nI ra), .int (nI fa)], ar G u0 481 nw, ar G u1 481 bf127, ar G u2 2405 sts127] rfl hP1
      have hP : va_P G.1 vwCl [ob mo 6 [.ref u0, .ref u1, .ref u2, .ref u3, .ref u4, .ref u5, .int (nI sm127), .int (nI ((sa + 1) % 5)), .int (nI le), .int (nI ra), .int (nI fa)], ar G u0 481 nw, ar G u1 481 bf127, ar G u2 2405 sts127] H := hP
      have hD : va_D A [ob mo 6 [.ref u0, .ref u1, .ref u2, .ref u3, .ref u4, .ref u5, .int (nI sm127), .int (nI ((sa + 1) % 5)), .int (nI le), .int (nI ra), .int (nI fa)], ar G u0 481 nw, ar G u1 481 bf127, ar G u2 2405 sts127] := hD
      refine lv_aload_n hx hb dX6_add_30 rfl (lv_at hl 0 rfl) ?_
      refine lv_iload_n hx hb dX6_add_31 rfl (lv_at hl 1 rfl) ?_
      refine g_V (k_V (q0 := 0) (ci := 6) (n := 1) (As := [.int (nI v)]) (rest := []) (wc := [ob mo 6 [.ref u0, .ref u1, .ref u2, .ref u3, .ref u4, .ref u5, .int (nI sm127), .int (nI ((sa + 1) % 5)), .int (nI le), .int (nI ra), .int (nI fa)], ar G u0 481 nw]) hx hb hml hown hts (c_X6_adds (l := l) (G := G) (mo := mo) (u0 := u0) (u1 := u1) (u2 := u2) (u3 := u3) (u4 := u4) (u5 := u5) (sm := sm127) (sa := ((sa + 1) % 5)) (le := le) (ra := ra) (fa := fa) (σ := by first | assumption | omega) (nw := nw) (hR := by first | assumption | omega) (hB := by first | assumption | omega) (v := v) (hn := by first | assumption | omega))  gX6_add_X6_adds rfl rfl rfl (by decide +kernel) ⟨Nat.le_of_ble_eq_true rfl, Nat.le_of_ble_eq_true rfl⟩ rfl hK hP hD [0, 1] rfl (by decide)  rfl rfl rfl hl.1 rfl (Nat.le_of_ble_eq_true rfl) dX6_add_32 ⟨Nat.le_of_ble_eq_true rfl, Nat.le_of_ble_eq_true rfl⟩) hP hD hS [0, 1] rfl (fun H locs hB32 back hS => ?_)
      obtain ⟨nw132, hq32, hP1⟩ := hB32
      obtain ⟨hP, hD⟩ := back [ob mo 6 [.ref u0, .ref u1, .ref u2, .ref u3, .ref u4, .ref u5, .int (nI sm127), .int (nI ((sa + 1) % 5)), .int (nI le), .int (nI ra), .int (nI fa)], ar G u0 481 nw132] rfl hP1
      have hP : va_P G.1 vwCl [ob mo 6 [.ref u0, .ref u1, .ref u2, .ref u3, .ref u4, .ref u5, .int (nI sm127), .int (nI ((sa + 1) % 5)), .int (nI le), .int (nI ra), .int (nI fa)], ar G u0 481 nw132, ar G u1 481 bf127, ar G u2 2405 sts127] H := hP
      have hD : va_D A [ob mo 6 [.ref u0, .ref u1, .ref u2, .ref u3, .ref u4, .ref u5, .int (nI sm127), .int (nI ((sa + 1) % 5)), .int (nI le), .int (nI ra), .int (nI fa)], ar G u0 481 nw132, ar G u1 481 bf127, ar G u2 2405 sts127] := hD
      refine lv_aload_n hx hb dX6_add_35 rfl (lv_at hl 0 rfl) ?_
      refine va_get (D := G.1) (ci := 6) (v := .ref u0) (C := RX6) (T := TX6) (N := 11) hx hb hts iqX6_add_ok_X6 hown hK.1 hP 0 rfl rfl 0 (by decide) (hts (.fieldLink RX6 7 "PushedTablesModel" "now" "[I") (List.mem_of_getElem? (i := 1) rfl)) (fun _ h9 => h9) rfl dX6_add_36 ?_
      refine lv_iconst (v := (nI 0)) hx hb dX6_add_39 (by decide) ?_
      refine r_iald (e1 := 0) (v := (nI (nn σ + 1))) hx hb hK.1 hP 1 0 rfl rfl (by omega) (by first | decide | assumption) (hq32.n) dX6_add_40 ?_
      refine lv_iconst (v := (nI 1)) hx hb dX6_add_41 (by decide) ?_
      refine r_isub (v := (nn σ + 1) - 1) hx hb dX6_add_42 (by omega) rfl ?_
      exact hret _ _ _ _ _ hS dX6_add_43 (⟨nw132, bf127, sts127, sm127, rfl, hqs27, hqt27, hq32, hP⟩)
    · exact absurd cq20 (by omega)
  · exact (no_f (ing_ok (by omega) (by omega) (by decide)) cq7).elim
