def alP (σ : Sg) (a b c : Nat) : Prop := cols σ a = cols σ b ∧ ∀ j, j < c → ent σ a j = true → vv σ (a * 16 + j) = vv σ (b * 16 + j)
theorem al_c {σ : Sg} {a b c : Nat} {w : Bool} (h : w = dcd (alP σ a b c)) (hw : ¬ w = false) : cols σ a = cols σ b := (dcd_t.mp (h.symm.trans (Bool.of_not_eq_false hw))).1
theorem al_s {σ : Sg} {a b c : Nat} {w : Bool} (h : w = dcd (alP σ a b c)) (hw : ¬ w = false) (hs : ent σ a c = true → vv σ (a * 16 + c) = vv σ (b * 16 + c)) : true = dcd (alP σ a b (c + 1)) := by
  obtain ⟨h1, h2⟩ := dcd_t.mp (h.symm.trans (Bool.of_not_eq_false hw))
  refine (dcd_t.mpr ⟨h1, fun j hj => ?_⟩).symm
  rcases Nat.lt_or_ge j c with q | q
  · exact h2 j q
  · have e : j = c := by omega
    rw [e]; exact hs
theorem al_e {σ : Sg} {a b c : Nat} (h : 16 ≤ c ∨ dcd (alP σ a b c) = false) (hc : c ≤ 16 := by omega) : dcd (alP σ a b c) = alk σ a b := by
  have key : alk σ a b = true → alP σ a b c := fun z => by
    have z := dcd_t.mp z
    exact ⟨msk_cong (fun j hj => (z j hj).1), fun j hj he => (z j (by omega)).2 he⟩
  rcases h with h | h
  · have e : c = 16 := by omega
    subst e
    cases hk : alk σ a b with
    | true => exact dcd_t.mpr (key hk)
    | false => exact dcd_f.mpr (fun z => dcd_f.mp hk (fun j hj => ⟨cols_ext z.1 hj, z.2 j hj⟩))
  · rw [h]
    cases hk : alk σ a b with
    | true => exact absurd (key hk) (dcd_f.mp h)
    | false => rfl
theorem iqX6_areAlike_X6 : ∀ w ∈ u_ws RX6 TX6 11, w ∈ wsX6_areAlike := by decide +kernel
set_option maxHeartbeats 1000000 in
set_option maxRecDepth 100000 in
theorem c_X6_areAlike (l : Launch) (G : kG) (mo u0 u1 u2 u3 u4 u5 sm sa le ra fa : Nat) (σ : Sg) (nw : Nat → Int32) (hR : Rel σ nw) (hB : Bd σ) (r1 r2 : Nat) (hr1 : r1 < nn σ) (hr2 : r2 < nn σ) : Met l yX6_areAlike wsX6_areAlike ({ frames := 1, cells := 0, slots := 0, locals := 21 } : Room) (cP G [.ref mo, .int (nI r1), .int (nI r2)] [ob mo 6 [.ref u0, .ref u1, .ref u2, .ref u3, .ref u4, .ref u5, .int (nI sm), .int (nI sa), .int (nI le), .int (nI ra), .int (nI fa)], ar G u0 481 nw]) (vp_Si (fun rv => rv = (bI (alk σ r1 r2)))) 0 0 (fun _ => False) := by
  refine met_ro (cc := cX6_areAlike) (maxL := 5) (ty := .boolean) (own := RX6) (by decide) rfl rfl (fun _ h => by rw [h]; exact bI_nar _) (Nat.le_of_ble_eq_true rfl) ?_
  intro p e s m args below meth cod Q hx hb hml hown hts hK hP hD hret ls hl
  have hl : lv_has ls 5 [(0, .ref mo), (1, .int (nI r1)), (2, .int (nI r2))] := hl
  have h24 := hB.n
  refine lv_aload_n hx hb dX6_areAlike_0 rfl (lv_at hl 0 rfl) ?_
  refine lv_iload_n hx hb dX6_areAlike_1 rfl (lv_at hl 1 rfl) ?_
  refine g_ro (k_V (q0 := 0) (ci := 6) (n := 1) (As := [.int (nI r1)]) (rest := []) (wc := [ob mo 6 [.ref u0, .ref u1, .ref u2, .ref u3, .ref u4, .ref u5, .int (nI sm), .int (nI sa), .int (nI le), .int (nI ra), .int (nI fa)], ar G u0 481 nw]) hx hb hml hown hts (c_X6_entries (l := l) (G := G) (mo := mo) (u0 := u0) (u1 := u1) (u2 := u2) (u3 := u3) (u4 := u4) (u5 := u5) (sm := sm) (sa := sa) (le := le) (ra := ra) (fa := fa) (σ := by first | assumption | omega) (nw := nw) (hR := by first | assumption | omega) (hB := by first | assumption | omega) (r := r1) (hr := by first | assumption | omega))  gX6_areAlike_X6_entries rfl rfl rfl (by decide +kernel) ⟨Nat.le_of_ble_eq_true rfl, Nat.le_of_ble_eq_true rfl⟩ rfl hK hP hD [0, 1] rfl (by decide)  rfl rfl rfl hl.1 rfl (Nat.le_of_ble_eq_true rfl) dX6_areAlike_2 ⟨Nat.le_of_ble_eq_true rfl, Nat.le_of_ble_eq_true rfl⟩) (fun r2 h2 => ?_)
  obtain rfl : (nI (cols σ r1)) = r2 := Eq.symm h2
  have b2 := cols_lt σ r1
  refine lv_aload_n hx hb dX6_areAlike_5 rfl (lv_at hl 0 rfl) ?_
  refine lv_iload_n hx hb dX6_areAlike_6 rfl (lv_at hl 2 rfl) ?_
  refine g_ro (k_V (q0 := 0) (ci := 6) (n := 1) (As := [.int (nI r2)]) (rest := [.int (nI (cols σ r1))]) (wc := [ob mo 6 [.ref u0, .ref u1, .ref u2, .ref u3, .ref u4, .ref u5, .int (nI sm), .int (nI sa), .int (nI le), .int (nI ra), .int (nI fa)], ar G u0 481 nw]) hx hb hml hown hts (c_X6_entries (l := l) (G := G) (mo := mo) (u0 := u0) (u1 := u1) (u2 := u2) (u3 := u3) (u4 := u4) (u5 := u5) (sm := sm) (sa := sa) (le := le) (ra := ra) (fa := fa) (σ := by first | assumption | omega) (nw := nw) (hR := by first | assumption | omega) (hB := by first | assumption | omega) (r := r2) (hr := by first | assumption | omega))  gX6_areAlike_X6_entries rfl rfl rfl (by decide +kernel) ⟨Nat.le_of_ble_eq_true rfl, Nat.le_of_ble_eq_true rfl⟩ rfl hK hP hD [0, 1] rfl (by decide)  rfl rfl rfl hl.1 rfl (Nat.le_of_ble_eq_true rfl) dX6_areAlike_7 ⟨Nat.le_of_ble_eq_true rfl, Nat.le_of_ble_eq_true rfl⟩) (fun r7 h7 => ?_)
  obtain rfl : (nI (cols σ r2)) = r7 := Eq.symm h7
  have b7 := cols_lt σ r2
  refine r_icmp_ne (P := (cols σ r1) = (cols σ r2)) (tgt := 17) hx hb dX6_areAlike_10 (by decide) (nI_eq (by omega) (by omega)) (fun cq10 => ?_) (fun cq10 => ?_)
  · refine lv_iconst (v := (bI false)) hx hb dX6_areAlike_17 (by decide) ?_
    refine lv_istore_n (lv' := [(3, .int (bI false)), (0, .ref mo), (1, .int (nI r1)), (2, .int (nI r2))]) hx hb dX6_areAlike_18 rfl hl (by decide) rfl (fun ls hl => ?_)
    refine lv_iconst (v := (nI 0)) hx hb dX6_areAlike_19 (by decide) ?_
    refine lv_istore (lv' := [(4, .int (nI 0)), (3, .int (bI false)), (0, .ref mo), (1, .int (nI r1)), (2, .int (nI r2))]) hx hb dX6_areAlike_20 hl (by decide) rfl (fun ls hl => ?_)
    have L22 : ∀ (fu : Nat) (c : Nat) (w : Bool), 17 - c < fu → c ≤ 16 → w = dcd (alP σ r1 r2 c) → ∀ (ls : Array Slot), lv_has ls 5 [(0, .ref mo), (1, .int (nI r1)), (2, .int (nI r2)), (3, .int (bI w)), (4, .int (nI c))] → W p l e ({ frames := 1, cells := 0, slots := 0, locals := 21 } : Room) s m args below meth cod s.heap [] 0 0 Q (F0 m 22 ls []) := by
      intro fu
      induction fu with
      | zero => intro c w hm; exact absurd hm (Nat.not_lt_zero _)
      | succ fu ih22 =>
        intro c w hm22 hc hw ls hl
        refine lv_iload hx hb dX6_areAlike_22 (lv_at hl 4 rfl) ?_
        refine lv_bipush (v := (nI 16)) hx hb dX6_areAlike_24 (by decide) ?_
        refine r_icmp_ge (P := 16 ≤ c) (tgt := 91) hx hb dX6_areAlike_26 (by decide) (nI_leI (by omega) (by omega)) (fun cq26 => ?_) (fun cq26 => ?_)
        · refine lv_iload_n hx hb dX6_areAlike_91 rfl (lv_at hl 3 rfl) ?_
          exact hret _ _ _ dX6_areAlike_92 (by rw [hw]; exact congrArg bI (al_e (Or.inl (by omega))))
        · refine lv_iload_n hx hb dX6_areAlike_29 rfl (lv_at hl 3 rfl) ?_
          refine r_if_eq (P := w = false) (tgt := 91) hx hb dX6_areAlike_30 (by decide) (bI_eq0) (fun cq30 => ?_) (fun cq30 => ?_)
          · refine lv_iload_n hx hb dX6_areAlike_91 rfl (lv_at hl 3 rfl) ?_
            exact hret _ _ _ dX6_areAlike_92 (by rw [hw]; exact congrArg bI (al_e (Or.inr (hw.symm.trans cq30))))
          · refine lv_aload_n hx hb dX6_areAlike_33 rfl (lv_at hl 0 rfl) ?_
            refine lv_iload_n hx hb dX6_areAlike_34 rfl (lv_at hl 1 rfl) ?_
            refine g_ro (k_V (q0 := 0) (ci := 6) (n := 1) (As := [.int (nI r1)]) (rest := []) (wc := [ob mo 6 [.ref u0, .ref u1, .ref u2, .ref u3, .ref u4, .ref u5, .int (nI sm), .int (nI sa), .int (nI le), .int (nI ra), .int (nI fa)], ar G u0 481 nw]) hx hb hml hown hts (c_X6_entries (l := l) (G := G) (mo := mo) (u0 := u0) (u1 := u1) (u2 := u2) (u3 := u3) (u4 := u4) (u5 := u5) (sm := sm) (sa := sa) (le := le) (ra := ra) (fa := fa) (σ := by first | assumption | omega) (nw := nw) (hR := by first | assumption | omega) (hB := by first | assumption | omega) (r := r1) (hr := by first | assumption | omega))  gX6_areAlike_X6_entries rfl rfl rfl (by decide +kernel) ⟨Nat.le_of_ble_eq_true rfl, Nat.le_of_ble_eq_true rfl⟩ rfl hK hP hD [0, 1] rfl (by decide)  rfl rfl rfl hl.1 rfl (Nat.le_of_ble_eq_true rfl) dX6_areAlike_35 ⟨Nat.le_of_ble_eq_true rfl, Nat.le_of_ble_eq_true rfl⟩) (fun r35 h35 => ?_)
            obtain rfl : (nI (cols σ r1)) = r35 := Eq.symm h35
            have b35 := cols_lt σ r1
            refine lv_iload hx hb dX6_areAlike_38 (lv_at hl 4 rfl) ?_
            refine g_ro (k_S (n := 2) (As := [.int (nI (cols σ r1)), .int (nI c)]) (rest := []) (wc := []) hx hb hml hown hts (c_X6_has (l := l) (G := G) (m2 := cols σ r1) (c := c) (hm2 := by first | assumption | omega) (hc := by first | assumption | omega))  gX6_areAlike_X6_has rfl rfl rfl (by decide +kernel) ⟨Nat.le_of_ble_eq_true rfl, Nat.le_of_ble_eq_true rfl⟩ rfl hK hP hD [] rfl (by decide)  hl.1 rfl (Nat.le_of_ble_eq_true rfl) dX6_areAlike_40 ⟨Nat.le_of_ble_eq_true rfl, Nat.le_of_ble_eq_true rfl⟩) (fun r40 h40 => ?_)
            obtain rfl : (bI ((cols σ r1).testBit c)) = r40 := Eq.symm h40
            refine r_if_eq (P := ((cols σ r1).testBit c) = false) (tgt := 79) hx hb dX6_areAlike_43 (by decide) (bI_eq0) (fun cq43 => ?_) (fun cq43 => ?_)
            · refine lv_iconst (v := (bI true)) hx hb dX6_areAlike_79 (by decide) ?_
              refine lv_goto (tgt := 84) hx hb dX6_areAlike_80 (by decide) ?_
              refine lv_istore_n (lv' := [(3, .int (bI true)), (0, .ref mo), (1, .int (nI r1)), (2, .int (nI r2)), (4, .int (nI c))]) hx hb dX6_areAlike_84 rfl hl (by decide) rfl (fun ls hl => ?_)
              refine r_iinc (v := c + 1) (lv' := [(4, .int (nI (c + 1))), (3, .int (bI true)), (0, .ref mo), (1, .int (nI r1)), (2, .int (nI r2))]) hx hb dX6_areAlike_85 hl (k := 4) rfl (nI_1 _) (by decide) rfl (fun ls hl => ?_)
              refine lv_goto (tgt := 22) hx hb dX6_areAlike_88 (by decide) ?_
              exact ih22 (c + 1) true (by omega) (by omega) (al_s hw cq30 (fun z => absurd ((cols_bit σ r1 (by omega)).trans z) (by rw [cq43]; decide))) ls (lv_sub hl [2, 3, 4, 1, 0] rfl)
            · have he1 : ent σ r1 c = true := by rw [← cols_bit σ r1 (by omega)]; exact Bool.of_not_eq_false cq43
              have he2 : ent σ r2 c = true := by rw [← cols_ext (al_c hw cq30) (by omega)]; exact he1
              have bv1 := hB.v (r1 * 16 + c)
              have bv2 := hB.v (r2 * 16 + c)
              refine lv_aload_n hx hb dX6_areAlike_46 rfl (lv_at hl 0 rfl) ?_
              refine va_get (D := G.1) (ci := 6) (v := .ref u0) (C := RX6) (T := TX6) (N := 11) hx hb hts iqX6_areAlike_X6 hown hK.1 hP 0 rfl rfl 0 (by decide) (hts (.fieldLink RX6 7 "PushedTablesModel" "now" "[I") (List.mem_of_getElem? (i := 1) rfl)) (fun _ h9 => h9) rfl dX6_areAlike_47 ?_
              refine lv_bipush (v := (nI 73)) hx hb dX6_areAlike_50 (by decide) ?_
              refine lv_bipush (v := (nI 16)) hx hb dX6_areAlike_52 (by decide) ?_
              refine lv_iload_n hx hb dX6_areAlike_54 rfl (lv_at hl 1 rfl) ?_
              refine r_imul (v := 16 * r1) hx hb dX6_areAlike_55 rfl ?_
              refine r_iadd (v := 73 + (16 * r1)) hx hb dX6_areAlike_56 rfl ?_
              refine lv_iload hx hb dX6_areAlike_57 (lv_at hl 4 rfl) ?_
              refine r_iadd (v := (73 + (16 * r1)) + c) hx hb dX6_areAlike_59 rfl ?_
              refine r_iald (e1 := (73 + (16 * r1)) + c) (v := (nI (vv σ (r1 * 16 + c)))) hx hb hK.1 hP 1 0 rfl rfl (by omega) (by first | decide | assumption) (hR.v hr1 (by omega) he1) dX6_areAlike_60 ?_
              refine lv_aload_n hx hb dX6_areAlike_61 rfl (lv_at hl 0 rfl) ?_
              refine va_get (D := G.1) (ci := 6) (v := .ref u0) (C := RX6) (T := TX6) (N := 11) hx hb hts iqX6_areAlike_X6 hown hK.1 hP 0 rfl rfl 0 (by decide) (hts (.fieldLink RX6 7 "PushedTablesModel" "now" "[I") (List.mem_of_getElem? (i := 1) rfl)) (fun _ h9 => h9) rfl dX6_areAlike_62 ?_
              refine lv_bipush (v := (nI 73)) hx hb dX6_areAlike_65 (by decide) ?_
              refine lv_bipush (v := (nI 16)) hx hb dX6_areAlike_67 (by decide) ?_
              refine lv_iload_n hx hb dX6_areAlike_69 rfl (lv_at hl 2 rfl) ?_
              refine r_imul (v := 16 * r2) hx hb dX6_areAlike_70 rfl ?_
              refine r_iadd (v := 73 + (16 * r2)) hx hb dX6_areAlike_71 rfl ?_
              refine lv_iload hx hb dX6_areAlike_72 (lv_at hl 4 rfl) ?_
              refine r_iadd (v := (73 + (16 * r2)) + c) hx hb dX6_areAlike_74 rfl ?_
              refine r_iald (e1 := (73 + (16 * r2)) + c) (v := (nI (vv σ (r2 * 16 + c)))) hx hb hK.1 hP 1 0 rfl rfl (by omega) (by first | decide | assumption) (hR.v hr2 (by omega) he2) dX6_areAlike_75 ?_
              refine r_icmp_ne (P := (vv σ (r1 * 16 + c)) = (vv σ (r2 * 16 + c))) (tgt := 83) hx hb dX6_areAlike_76 (by decide) (nI_eq (by omega) (by omega)) (fun cq76 => ?_) (fun cq76 => ?_)
              · refine lv_iconst (v := (bI false)) hx hb dX6_areAlike_83 (by decide) ?_
                refine lv_istore_n (lv' := [(3, .int (bI false)), (0, .ref mo), (1, .int (nI r1)), (2, .int (nI r2)), (4, .int (nI c))]) hx hb dX6_areAlike_84 rfl hl (by decide) rfl (fun ls hl => ?_)
                refine r_iinc (v := c + 1) (lv' := [(4, .int (nI (c + 1))), (3, .int (bI false)), (0, .ref mo), (1, .int (nI r1)), (2, .int (nI r2))]) hx hb dX6_areAlike_85 hl (k := 4) rfl (nI_1 _) (by decide) rfl (fun ls hl => ?_)
                refine lv_goto (tgt := 22) hx hb dX6_areAlike_88 (by decide) ?_
                exact ih22 (c + 1) false (by omega) (by omega) ((dcd_f.mpr (fun z => cq76 (z.2 c (by omega) he1))).symm) ls (lv_sub hl [2, 3, 4, 1, 0] rfl)
              · refine lv_iconst (v := (bI true)) hx hb dX6_areAlike_79 (by decide) ?_
                refine lv_goto (tgt := 84) hx hb dX6_areAlike_80 (by decide) ?_
                refine lv_istore_n (lv' := [(3, .int (bI true)), (0, .ref mo), (1, .int (nI r1)), (2, .int (nI r2)), (4, .int (nI c))]) hx hb dX6_areAlike_84 rfl hl (by decide) rfl (fun ls hl => ?_)
                refine r_iinc (v := c + 1) (lv' := [(4, .int (nI (c + 1))), (3, .int (bI true)), (0, .ref mo), (1, .int (nI r1)), (2, .int (nI r2))]) hx hb dX6_areAlike_85 hl (k := 4) rfl (nI_1 _) (by decide) rfl (fun ls hl => ?_)
                refine lv_goto (tgt := 22) hx hb dX6_areAlike_88 (by decide) ?_
                exact ih22 (c + 1) true (by omega) (by omega) (al_s hw cq30 (fun _ => cq76)) ls (lv_sub hl [2, 3, 4, 1, 0] rfl)
    exact L22 ((17 - 0) + 1) 0 false (Nat.lt_succ_self _) (by omega) ((dcd_f.mpr (fun z => cq10 z.1)).symm) ls (lv_sub hl [2, 3, 4, 1, 0] rfl)
  · refine lv_iconst (v := (bI true)) hx hb dX6_areAlike_13 (by decide) ?_
    refine lv_goto (tgt := 18) hx hb dX6_areAlike_14 (by decide) ?_
    refine lv_istore_n (lv' := [(3, .int (bI true)), (0, .ref mo), (1, .int (nI r1)), (2, .int (nI r2))]) hx hb dX6_areAlike_18 rfl hl (by decide) rfl (fun ls hl => ?_)
    refine lv_iconst (v := (nI 0)) hx hb dX6_areAlike_19 (by decide) ?_
    refine lv_istore (lv' := [(4, .int (nI 0)), (3, .int (bI true)), (0, .ref mo), (1, .int (nI r1)), (2, .int (nI r2))]) hx hb dX6_areAlike_20 hl (by decide) rfl (fun ls hl => ?_)
    have L22 : ∀ (fu : Nat) (c : Nat) (w : Bool), 17 - c < fu → c ≤ 16 → w = dcd (alP σ r1 r2 c) → ∀ (ls : Array Slot), lv_has ls 5 [(0, .ref mo), (1, .int (nI r1)), (2, .int (nI r2)), (3, .int (bI w)), (4, .int (nI c))] → W p l e ({ frames := 1, cells := 0, slots := 0, locals := 21 } : Room) s m args below meth cod s.heap [] 0 0 Q (F0 m 22 ls []) := by
      intro fu
      induction fu with
      | zero => intro c w hm; exact absurd hm (Nat.not_lt_zero _)
      | succ fu ih22 =>
        intro c w hm22 hc hw ls hl
        refine lv_iload hx hb dX6_areAlike_22 (lv_at hl 4 rfl) ?_
        refine lv_bipush (v := (nI 16)) hx hb dX6_areAlike_24 (by decide) ?_
        refine r_icmp_ge (P := 16 ≤ c) (tgt := 91) hx hb dX6_areAlike_26 (by decide) (nI_leI (by omega) (by omega)) (fun cq26 => ?_) (fun cq26 => ?_)
        · refine lv_iload_n hx hb dX6_areAlike_91 rfl (lv_at hl 3 rfl) ?_
          exact hret _ _ _ dX6_areAlike_92 (by rw [hw]; exact congrArg bI (al_e (Or.inl (by omega))))
        · refine lv_iload_n hx hb dX6_areAlike_29 rfl (lv_at hl 3 rfl) ?_
          refine r_if_eq (P := w = false) (tgt := 91) hx hb dX6_areAlike_30 (by decide) (bI_eq0) (fun cq30 => ?_) (fun cq30 => ?_)
          · refine lv_iload_n hx hb dX6_areAlike_91 rfl (lv_at hl 3 rfl) ?_
            exact hret _ _ _ dX6_areAlike_92 (by rw [hw]; exact congrArg bI (al_e (Or.inr (hw.symm.trans cq30))))
          · refine lv_aload_n hx hb dX6_areAlike_33 rfl (lv_at hl 0 rfl) ?_
            refine lv_iload_n hx hb dX6_areAlike_34 rfl (lv_at hl 1 rfl) ?_
            refine g_ro (k_V (q0 := 0) (ci := 6) (n := 1) (As := [.int (nI r1)]) (rest := []) (wc := [ob mo 6 [.ref u0, .ref u1, .ref u2, .ref u3, .ref u4, .ref u5, .int (nI sm), .int (nI sa), .int (nI le), .int (nI ra), .int (nI fa)], ar G u0 481 nw]) hx hb hml hown hts (c_X6_entries (l := l) (G := G) (mo := mo) (u0 := u0) (u1 := u1) (u2 := u2) (u3 := u3) (u4 := u4) (u5 := u5) (sm := sm) (sa := sa) (le := le) (ra := ra) (fa := fa) (σ := by first | assumption | omega) (nw := nw) (hR := by first | assumption | omega) (hB := by first | assumption | omega) (r := r1) (hr := by first | assumption | omega))  gX6_areAlike_X6_entries rfl rfl rfl (by decide +kernel) ⟨Nat.le_of_ble_eq_true rfl, Nat.le_of_ble_eq_true rfl⟩ rfl hK hP hD [0, 1] rfl (by decide)  rfl rfl rfl hl.1 rfl (Nat.le_of_ble_eq_true rfl) dX6_areAlike_35 ⟨Nat.le_of_ble_eq_true rfl, Nat.le_of_ble_eq_true rfl⟩) (fun r35 h35 => ?_)
            obtain rfl : (nI (cols σ r1)) = r35 := Eq.symm h35
            have b35 := cols_lt σ r1
            refine lv_iload hx hb dX6_areAlike_38 (lv_at hl 4 rfl) ?_
            refine g_ro (k_S (n := 2) (As := [.int (nI (cols σ r1)), .int (nI c)]) (rest := []) (wc := []) hx hb hml hown hts (c_X6_has (l := l) (G := G) (m2 := cols σ r1) (c := c) (hm2 := by first | assumption | omega) (hc := by first | assumption | omega))  gX6_areAlike_X6_has rfl rfl rfl (by decide +kernel) ⟨Nat.le_of_ble_eq_true rfl, Nat.le_of_ble_eq_true rfl⟩ rfl hK hP hD [] rfl (by decide)  hl.1 rfl (Nat.le_of_ble_eq_true rfl) dX6_areAlike_40 ⟨Nat.le_of_ble_eq_true rfl, Nat.le_of_ble_eq_true rfl⟩) (fun r40 h40 => ?_)
            obtain rfl : (bI ((cols σ r1).testBit c)) = r40 := Eq.symm h40
            refine r_if_eq (P := ((cols σ r1).testBit c) = false) (tgt := 79) hx hb dX6_areAlike_43 (by decide) (bI_eq0) (fun cq43 => ?_) (fun cq43 => ?_)
            · refine lv_iconst (v := (bI true)) hx hb dX6_areAlike_79 (by decide) ?_
              refine lv_goto (tgt := 84) hx hb dX6_areAlike_80 (by decide) ?_
              refine lv_istore_n (lv' := [(3, .int (bI true)), (0, .ref mo), (1, .int (nI r1)), (2, .int (nI r2)), (4, .int (nI c))]) hx hb dX6_areAlike_84 rfl hl (by decide) rfl (fun ls hl => ?_)
              refine r_iinc (v := c + 1) (lv' := [(4, .int (nI (c + 1))), (3, .int (bI true)), (0, .ref mo), (1, .int (nI r1)), (2, .int (nI r2))]) hx hb dX6_areAlike_85 hl (k := 4) rfl (nI_1 _) (by decide) rfl (fun ls hl => ?_)
              refine lv_goto (tgt := 22) hx hb dX6_areAlike_88 (by decide) ?_
              exact ih22 (c + 1) true (by omega) (by omega) (al_s hw cq30 (fun z => absurd ((cols_bit σ r1 (by omega)).trans z) (by rw [cq43]; decide))) ls (lv_sub hl [2, 3, 4, 1, 0] rfl)
            · have he1 : ent σ r1 c = true := by rw [← cols_bit σ r1 (by omega)]; exact Bool.of_not_eq_false cq43
              have he2 : ent σ r2 c = true := by rw [← cols_ext (al_c hw cq30) (by omega)]; exact he1
              have bv1 := hB.v (r1 * 16 + c)
              have bv2 := hB.v (r2 * 16 + c)
              refine lv_aload_n hx hb dX6_areAlike_46 rfl (lv_at hl 0 rfl) ?_
              refine va_get (D := G.1) (ci := 6) (v := .ref u0) (C := RX6) (T := TX6) (N := 11) hx hb hts iqX6_areAlike_X6 hown hK.1 hP 0 rfl rfl 0 (by decide) (hts (.fieldLink RX6 7 "PushedTablesModel" "now" "[I") (List.mem_of_getElem? (i := 1) rfl)) (fun _ h9 => h9) rfl dX6_areAlike_47 ?_
              refine lv_bipush (v := (nI 73)) hx hb dX6_areAlike_50 (by decide) ?_
              refine lv_bipush (v := (nI 16)) hx hb dX6_areAlike_52 (by decide) ?_
              refine lv_iload_n hx hb dX6_areAlike_54 rfl (lv_at hl 1 rfl) ?_
              refine r_imul (v := 16 * r1) hx hb dX6_areAlike_55 rfl ?_
              refine r_iadd (v := 73 + (16 * r1)) hx hb dX6_areAlike_56 rfl ?_
              refine lv_iload hx hb dX6_areAlike_57 (lv_at hl 4 rfl) ?_
              refine r_iadd (v := (73 + (16 * r1)) + c) hx hb dX6_areAlike_59 rfl ?_
              refine r_iald (e1 := (73 + (16 * r1)) + c) (v := (nI (vv σ (r1 * 16 + c)))) hx hb hK.1 hP 1 0 rfl rfl (by omega) (by first | decide | assumption) (hR.v hr1 (by omega) he1) dX6_areAlike_60 ?_
              refine lv_aload_n hx hb dX6_areAlike_61 rfl (lv_at hl 0 rfl) ?_
              refine va_get (D := G.1) (ci := 6) (v := .ref u0) (C := RX6) (T := TX6) (N := 11) hx hb hts iqX6_areAlike_X6 hown hK.1 hP 0 rfl rfl 0 (by decide) (hts (.fieldLink RX6 7 "PushedTablesModel" "now" "[I") (List.mem_of_getElem? (i := 1) rfl)) (fun _ h9 => h9) rfl dX6_areAlike_62 ?_
              refine lv_bipush (v := (nI 73)) hx hb dX6_areAlike_65 (by decide) ?_
              refine lv_bipush (v := (nI 16)) hx hb dX6_areAlike_67 (by decide) ?_
              refine lv_iload_n hx hb dX6_areAlike_69 rfl (lv_at hl 2 rfl) ?_
              refine r_imul (v := 16 * r2) hx hb dX6_areAlike_70 rfl ?_
              refine r_iadd (v := 73 + (16 * r2)) hx hb dX6_areAlike_71 rfl ?_
              refine lv_iload hx hb dX6_areAlike_72 (lv_at hl 4 rfl) ?_
              refine r_iadd (v := (73 + (16 * r2)) + c) hx hb dX6_areAlike_74 rfl ?_
              refine r_iald (e1 := (73 + (16 * r2)) + c) (v := (nI (vv σ (r2 * 16 + c)))) hx hb hK.1 hP 1 0 rfl rfl (by omega) (by first | decide | assumption) (hR.v hr2 (by omega) he2) dX6_areAlike_75 ?_
              refine r_icmp_ne (P := (vv σ (r1 * 16 + c)) = (vv σ (r2 * 16 + c))) (tgt := 83) hx hb dX6_areAlike_76 (by decide) (nI_eq (by omega) (by omega)) (fun cq76 => ?_) (fun cq76 => ?_)
              · refine lv_iconst (v := (bI false)) hx hb dX6_areAlike_83 (by decide) ?_
                refine lv_istore_n (lv' := [(3, .int (bI false)), (0, .ref mo), (1, .int (nI r1)), (2, .int (nI r2)), (4, .int (nI c))]) hx hb dX6_areAlike_84 rfl hl (by decide) rfl (fun ls hl => ?_)
                refine r_iinc (v := c + 1) (lv' := [(4, .int (nI (c + 1))), (3, .int (bI false)), (0, .ref mo), (1, .int (nI r1)), (2, .int (nI r2))]) hx hb dX6_areAlike_85 hl (k := 4) rfl (nI_1 _) (by decide) rfl (fun ls hl => ?_)
                refine lv_goto (tgt := 22) hx hb dX6_areAlike_88 (by decide) ?_
                exact ih22 (c + 1) false (by omega) (by omega) ((dcd_f.mpr (fun z => cq76 (z.2 c (by omega) he1))).symm) ls (lv_sub hl [2, 3, 4, 1, 0] rfl)
              · refine lv_iconst (v := (bI true)) hx hb dX6_areAlike_79 (by decide) ?_
                refine lv_goto (tgt := 84) hx hb dX6_areAlike_80 (by decide) ?_
                refine lv_istore_n (lv' := [(3, .int (bI true)), (0, .ref mo), (1, .int (nI r1)), (2, .int (nI r2)), (4, .int (nI c))]) hx hb dX6_areAlike_84 rfl hl (by decide) rfl (fun ls hl => ?_)
                refine r_iinc (v := c + 1) (lv' := [(4, .int (nI (c + 1))), (3, .int (bI true)), (0, .ref mo), (1, .int (nI r1)), (2, .int (nI r2))]) hx hb dX6_areAlike_85 hl (k := 4) rfl (nI_1 _) (by decide) rfl (fun ls hl => ?_)
                refine lv_goto (tgt := 22) hx hb dX6_areAlike_88 (by decide) ?_
                exact ih22 (c + 1) true (by omega) (by omega) (al_s hw cq30 (fun _ => cq76)) ls (lv_sub hl [2, 3, 4, 1, 0] rfl)
    exact L22 ((17 - 0) + 1) 0 true (Nat.lt_succ_self _) (by omega) ((dcd_t.mpr ⟨cq10, fun j hj => absurd hj (Nat.not_lt_zero j)⟩).symm) ls (lv_sub hl [2, 3, 4, 1, 0] rfl)

def Rc (gm gv : Nat → Nat) (mk vl : Nat → Int32) : Prop := ∀ k, k < 800 → mk k = e1 (gm k) ∧ (gm k ≠ 1000 → vl k = nI (gv k))
theorem Rc_up {gm gv : Nat → Nat} {mk vl : Nat → Int32} (h : Rc gm gv mk vl) (j f v : Nat) : Rc (va_up gm j f) (va_up gv j v) (upd mk j (e1 f)) (upd vl j (nI v)) := fun k hk => by
  unfold va_up upd
  by_cases e : k = j
  · rw [if_pos e, if_pos e, if_pos e, if_pos e]; exact ⟨rfl, fun _ => rfl⟩
  · rw [if_neg e, if_neg e, if_neg e, if_neg e]; exact h k hk
def lyM (σ : Sg) (g : Nat → Nat) (r c : Nat) : Nat → Nat := if ff σ r = 1000 then g else flM σ g r (ss σ (ff σ r)) c
def lyV (σ : Sg) (g : Nat → Nat) (r c : Nat) : Nat → Nat := if ff σ r = 1000 then g else flV σ g r (ss σ (ff σ r)) c
theorem ly_0 {σ : Sg} {gm gv : Nat → Nat} {r : Nat} : lyM σ gm r 0 = gm ∧ lyV σ gv r 0 = gv := by
  unfold lyM lyV; split
  · exact ⟨rfl, rfl⟩
  · exact ⟨fl_0.2, fl_0.1⟩
theorem ly_f {σ : Sg} {gm gv : Nat → Nat} {r c : Nat} {mk vl : Nat → Int32} (h : Rc (lyM σ gm r c) (lyV σ gv r c) mk vl) (he : ent σ r c = false) : Rc (lyM σ gm r (c + 1)) (lyV σ gv r (c + 1)) mk vl := by
  have e1 : lyM σ gm r (c + 1) = lyM σ gm r c := by
    unfold lyM; split
    · rfl
    · exact (fl_f he).2.symm
  have e2 : lyV σ gv r (c + 1) = lyV σ gv r c := by
    unfold lyV; split
    · rfl
    · exact (fl_f he).1.symm
  rw [e1, e2]; exact h
theorem ly_t {σ : Sg} {gm gv : Nat → Nat} {r c : Nat} {mk vl : Nat → Int32} (h : Rc (lyM σ gm r c) (lyV σ gv r c) mk vl) (hf : ff σ r ≠ 1000) (he : ent σ r c = true) : Rc (lyM σ gm r (c + 1)) (lyV σ gv r (c + 1)) (upd mk (ss σ (ff σ r) + c) (e1 (ff σ r))) (upd vl (ss σ (ff σ r) + c) (nI (vv σ (r * 16 + c)))) := by
  have h2 := Rc_up h (ss σ (ff σ r) + c) (ff σ r) (vv σ (r * 16 + c))
  unfold lyM lyV at *
  rw [if_neg hf, if_neg hf] at h2 ⊢
  rw [flM_t he, flV_t he] at h2
  exact h2
theorem ly_e {σ : Sg} {r c : Nat} {gm gv : Nat → Nat} {mk vl : Nat → Int32} (h : Rc (lyM σ gm r c) (lyV σ gv r c) mk vl) (hB : Bd σ) (h1 : ff σ r ≠ 1000 → ss σ (ff σ r) ≤ 784) (hc : 16 ≤ c ∨ ff σ r = 1000) (hc2 : c ≤ 16) : Rc (fcT σ gv gm r).2.2 (fcT σ gv gm r).2.1 mk vl := by
  unfold lyM lyV at h
  unfold fcT
  have hb := hB.f r
  by_cases e : ff σ r = 1000
  · rw [if_pos e, if_pos e] at h
    rw [if_pos (by unfold shf; rw [if_neg (by omega)])]
    exact h
  · rw [if_neg e, if_neg e] at h
    have hs := h1 e
    have e2 : shf σ (ff σ r) = ss σ (ff σ r) := if_pos (by omega)
    have e3 : c = 16 := by omega
    rw [if_neg (by rw [e2]; omega), e2]
    rw [e3] at h
    exact h
theorem up_one {m : Nat → Int32} {k j : Nat} {x : Int32} (h : ∀ j, j < k → m j = x) (hj : j < k + 1) : upd m k x j = x := by
  unfold upd; split
  · rfl
  · exact h j (by omega)
theorem iqX6_layStore_X6 : ∀ w ∈ u_ws RX6 TX6 11, w ∈ wsX6_layStore := by decide +kernel
set_option maxHeartbeats 1000000 in
set_option maxRecDepth 100000 in
theorem c_X6_layStore (l : Launch) (G : kG) (mo u0 u1 u2 u3 u4 u5 sm sa le ra fa : Nat) (σ : Sg) (nw : Nat → Int32) (hR : Rel σ nw) (hB : Bd σ) (hT1 : ∀ r, r < nn σ → ff σ r ≠ 1000 → ss σ (ff σ r) ≤ 784) (mk vl : Nat → Int32) : Met l yX6_layStore wsX6_layStore ({ frames := 1, cells := 0, slots := 0, locals := 21 } : Room) (cP G [.ref mo] [ob mo 6 [.ref u0, .ref u1, .ref u2, .ref u3, .ref u4, .ref u5, .int (nI sm), .int (nI sa), .int (nI le), .int (nI ra), .int (nI fa)], ar G u0 481 nw, ar G u3 800 mk, ar G u4 800 vl]) (qV (fun H => ∃ (mk1 : Nat → Int32) (vl1 : Nat → Int32), Rc (rsT σ (nn σ)).2.2 (rsT σ (nn σ)).2.1 mk1 vl1 ∧ va_P G.1 vwCl [ob mo 6 [.ref u0, .ref u1, .ref u2, .ref u3, .ref u4, .ref u5, .int (nI sm), .int (nI sa), .int (nI le), .int (nI ra), .int (nI fa)], ar G u0 481 nw, ar G u3 800 mk1, ar G u4 800 vl1] H) (mA [ob mo 6 [.ref u0, .ref u1, .ref u2, .ref u3, .ref u4, .ref u5, .int (nI sm), .int (nI sa), .int (nI le), .int (nI ra), .int (nI fa)], ar G u0 481 nw, ar G u3 800 mk, ar G u4 800 vl])) 0 0 (mA [ob mo 6 [.ref u0, .ref u1, .ref u2, .ref u3, .ref u4, .ref u5, .int (nI sm), .int (nI sa), .int (nI le), .int (nI ra), .int (nI fa)], ar G u0 481 nw, ar G u3 800 mk, ar G u4 800 vl]) := by
  refine met_muV (cc := cX6_layStore) (maxL := 4) (own := RX6) (by decide) rfl rfl (Nat.le_of_ble_eq_true rfl) ?_
  intro p e s m args below meth cod Q A hx hb hml hown hts hK hP hD hS hret ls hl
  have hl : lv_has ls 4 [(0, .ref mo)] := hl
  have h24 := hB.n
  refine lv_iconst (v := (nI 0)) hx hb dX6_layStore_0 (by decide) ?_
  refine lv_istore_n (lv' := [(1, .int (nI 0)), (0, .ref mo)]) hx hb dX6_layStore_1 rfl hl (by decide) rfl (fun ls hl => ?_)
  have L2 : ∀ (fu : Nat) (k : Nat) (m1 : Nat → Int32), 801 - k < fu → k ≤ 800 → (∀ j, j < k → m1 j = e1 1000) → ∀ (H : Heap) (locs : List Loc), va_P G.1 vwCl [ob mo 6 [.ref u0, .ref u1, .ref u2, .ref u3, .ref u4, .ref u5, .int (nI sm), .int (nI sa), .int (nI le), .int (nI ra), .int (nI fa)], ar G u0 481 nw, ar G u3 800 m1, ar G u4 800 vl] H → va_D A [ob mo 6 [.ref u0, .ref u1, .ref u2, .ref u3, .ref u4, .ref u5, .int (nI sm), .int (nI sa), .int (nI le), .int (nI ra), .int (nI fa)], ar G u0 481 nw, ar G u3 800 m1, ar G u4 800 vl] → va_S A s.heap H locs → ∀ (ls : Array Slot), lv_has ls 4 [(0, .ref mo), (1, .int (nI k))] → W p l e ({ frames := 1, cells := 0, slots := 0, locals := 21 } : Room) s m args below meth cod H locs 0 0 Q (F0 m 2 ls []) := by
    intro fu
    induction fu with
    | zero => intro k m1 hm; exact absurd hm (Nat.not_lt_zero _)
    | succ fu ih2 =>
      intro k m1 hm2 hk hm1 H locs hP hD hS ls hl
      have hP : va_P G.1 vwCl [ob mo 6 [.ref u0, .ref u1, .ref u2, .ref u3, .ref u4, .ref u5, .int (nI sm), .int (nI sa), .int (nI le), .int (nI ra), .int (nI fa)], ar G u0 481 nw, ar G u3 800 m1, ar G u4 800 vl] H := hP
      have hD : va_D A [ob mo 6 [.ref u0, .ref u1, .ref u2, .ref u3, .ref u4, .ref u5, .int (nI sm), .int (nI sa), .int (nI le), .int (nI ra), .int (nI fa)], ar G u0 481 nw, ar G u3 800 m1, ar G u4 800 vl] := hD
      refine lv_iload_n hx hb dX6_layStore_2 rfl (lv_at hl 1 rfl) ?_
      refine lv_sipush (v := (nI 800)) hx hb dX6_layStore_3 (by decide) ?_
      refine r_icmp_ge (P := 800 ≤ k) (tgt := 22) hx hb dX6_layStore_6 (by decide) (nI_leI (by omega) (by omega)) (fun cq6 => ?_) (fun cq6 => ?_)
      · refine lv_iconst (v := (nI 0)) hx hb dX6_layStore_22 (by decide) ?_
        refine lv_istore_n (lv' := [(1, .int (nI 0)), (0, .ref mo)]) hx hb dX6_layStore_23 rfl hl (by decide) rfl (fun ls hl => ?_)
        have L24 : ∀ (fu : Nat) (r : Nat) (m2 : Nat → Int32) (v2 : Nat → Int32), nn σ + 1 - r < fu → r ≤ nn σ → Rc (rsT σ r).2.2 (rsT σ r).2.1 m2 v2 → ∀ (H : Heap) (locs : List Loc), va_P G.1 vwCl [ob mo 6 [.ref u0, .ref u1, .ref u2, .ref u3, .ref u4, .ref u5, .int (nI sm), .int (nI sa), .int (nI le), .int (nI ra), .int (nI fa)], ar G u0 481 nw, ar G u3 800 m2, ar G u4 800 v2] H → va_D A [ob mo 6 [.ref u0, .ref u1, .ref u2, .ref u3, .ref u4, .ref u5, .int (nI sm), .int (nI sa), .int (nI le), .int (nI ra), .int (nI fa)], ar G u0 481 nw, ar G u3 800 m2, ar G u4 800 v2] → va_S A s.heap H locs → ∀ (ls : Array Slot), lv_has ls 4 [(0, .ref mo), (1, .int (nI r))] → W p l e ({ frames := 1, cells := 0, slots := 0, locals := 21 } : Room) s m args below meth cod H locs 0 0 Q (F0 m 24 ls []) := by
          intro fu
          induction fu with
          | zero => intro r m2 v2 hm; exact absurd hm (Nat.not_lt_zero _)
          | succ fu ih24 =>
            intro r m2 v2 hm24 hr hq2 H locs hP hD hS ls hl
            have hP : va_P G.1 vwCl [ob mo 6 [.ref u0, .ref u1, .ref u2, .ref u3, .ref u4, .ref u5, .int (nI sm), .int (nI sa), .int (nI le), .int (nI ra), .int (nI fa)], ar G u0 481 nw, ar G u3 800 m2, ar G u4 800 v2] H := hP
            have hD : va_D A [ob mo 6 [.ref u0, .ref u1, .ref u2, .ref u3, .ref u4, .ref u5, .int (nI sm), .int (nI sa), .int (nI le), .int (nI ra), .int (nI fa)], ar G u0 481 nw, ar G u3 800 m2, ar G u4 800 v2] := hD
            refine lv_iload_n hx hb dX6_layStore_24 rfl (lv_at hl 1 rfl) ?_
            refine lv_aload_n hx hb dX6_layStore_25 rfl (lv_at hl 0 rfl) ?_
            refine va_get (D := G.1) (ci := 6) (v := .ref u0) (C := RX6) (T := TX6) (N := 11) hx hb hts iqX6_layStore_X6 hown hK.1 hP 0 rfl rfl 0 (by decide) (hts (.fieldLink RX6 7 "PushedTablesModel" "now" "[I") (List.mem_of_getElem? (i := 2) rfl)) (fun _ h9 => h9) rfl dX6_layStore_26 ?_
            refine lv_iconst (v := (nI 0)) hx hb dX6_layStore_29 (by decide) ?_
            refine r_iald (e1 := 0) (v := (nI (nn σ))) hx hb hK.1 hP 1 0 rfl rfl (by omega) (by first | decide | assumption) (hR.n) dX6_layStore_30 ?_
            refine r_icmp_ge (P := (nn σ) ≤ r) (tgt := 129) hx hb dX6_layStore_31 (by decide) (nI_leI (by omega) (by omega)) (fun cq31 => ?_) (fun cq31 => ?_)
            · obtain rfl : r = nn σ := by omega
              exact hret _ _ _ _ hS dX6_layStore_129 (⟨m2, v2, hq2, hP⟩)
            · refine lv_aload_n hx hb dX6_layStore_34 rfl (lv_at hl 0 rfl) ?_
              refine va_get (D := G.1) (ci := 6) (v := .ref u0) (C := RX6) (T := TX6) (N := 11) hx hb hts iqX6_layStore_X6 hown hK.1 hP 0 rfl rfl 0 (by decide) (hts (.fieldLink RX6 7 "PushedTablesModel" "now" "[I") (List.mem_of_getElem? (i := 2) rfl)) (fun _ h9 => h9) rfl dX6_layStore_35 ?_
              refine lv_bipush (v := (nI 49)) hx hb dX6_layStore_38 (by decide) ?_
              refine lv_iload_n hx hb dX6_layStore_40 rfl (lv_at hl 1 rfl) ?_
              refine r_iadd (v := 49 + r) hx hb dX6_layStore_41 rfl ?_
              refine r_iald (e1 := 49 + r) (v := (e1 (ff σ r))) hx hb hK.1 hP 1 0 rfl rfl (by omega) (by first | decide | assumption) (hR.f (by omega)) dX6_layStore_42 ?_
              refine lv_istore_n (lv' := [(2, .int (e1 (ff σ r))), (0, .ref mo), (1, .int (nI r))]) hx hb dX6_layStore_43 rfl hl (by decide) rfl (fun ls hl => ?_)
              have bff := hB.f r
              refine lv_iconst (v := (nI 0)) hx hb dX6_layStore_44 (by decide) ?_
              refine lv_istore_n (lv' := [(3, .int (nI 0)), (2, .int (e1 (ff σ r))), (0, .ref mo), (1, .int (nI r))]) hx hb dX6_layStore_45 rfl hl (by decide) rfl (fun ls hl => ?_)
              have L46 : ∀ (fu : Nat) (c : Nat) (m3 : Nat → Int32) (v3 : Nat → Int32), 17 - c < fu → c ≤ 16 → Rc (lyM σ (rsT σ r).2.2 r c) (lyV σ (rsT σ r).2.1 r c) m3 v3 → ∀ (H : Heap) (locs : List Loc), va_P G.1 vwCl [ob mo 6 [.ref u0, .ref u1, .ref u2, .ref u3, .ref u4, .ref u5, .int (nI sm), .int (nI sa), .int (nI le), .int (nI ra), .int (nI fa)], ar G u0 481 nw, ar G u3 800 m3, ar G u4 800 v3] H → va_D A [ob mo 6 [.ref u0, .ref u1, .ref u2, .ref u3, .ref u4, .ref u5, .int (nI sm), .int (nI sa), .int (nI le), .int (nI ra), .int (nI fa)], ar G u0 481 nw, ar G u3 800 m3, ar G u4 800 v3] → va_S A s.heap H locs → ∀ (ls : Array Slot), lv_has ls 4 [(0, .ref mo), (1, .int (nI r)), (2, .int (e1 (ff σ r))), (3, .int (nI c))] → W p l e ({ frames := 1, cells := 0, slots := 0, locals := 21 } : Room) s m args below meth cod H locs 0 0 Q (F0 m 46 ls []) := by
                intro fu
                induction fu with
                | zero => intro c m3 v3 hm; exact absurd hm (Nat.not_lt_zero _)
                | succ fu ih46 =>
                  intro c m3 v3 hm46 hc hq3 H locs hP hD hS ls hl
                  have hP : va_P G.1 vwCl [ob mo 6 [.ref u0, .ref u1, .ref u2, .ref u3, .ref u4, .ref u5, .int (nI sm), .int (nI sa), .int (nI le), .int (nI ra), .int (nI fa)], ar G u0 481 nw, ar G u3 800 m3, ar G u4 800 v3] H := hP
                  have hD : va_D A [ob mo 6 [.ref u0, .ref u1, .ref u2, .ref u3, .ref u4, .ref u5, .int (nI sm), .int (nI sa), .int (nI le), .int (nI ra), .int (nI fa)], ar G u0 481 nw, ar G u3 800 m3, ar G u4 800 v3] := hD
                  refine lv_iload_n hx hb dX6_layStore_46 rfl (lv_at hl 3 rfl) ?_
                  refine lv_bipush (v := (nI 16)) hx hb dX6_layStore_47 (by decide) ?_
                  refine r_icmp_ge (P := 16 ≤ c) (tgt := 123) hx hb dX6_layStore_49 (by decide) (nI_leI (by omega) (by omega)) (fun cq49 => ?_) (fun cq49 => ?_)
                  · refine r_iinc (v := r + 1) (lv' := [(1, .int (nI (r + 1))), (0, .ref mo), (2, .int (e1 (ff σ r))), (3, .int (nI c))]) hx hb dX6_layStore_123 hl (k := 1) rfl (nI_1 _) (by decide) rfl (fun ls hl => ?_)
                    refine lv_goto (tgt := 24) hx hb dX6_layStore_126 (by decide) ?_
                    exact ih24 (r + 1) m3 v3 (by omega) (by omega) (ly_e hq3 hB (hT1 r (by omega)) (Or.inl (by omega)) (by omega)) _ _ hP hD hS ls (lv_sub hl [1, 0] rfl)
                  · refine lv_iload_n hx hb dX6_layStore_52 rfl (lv_at hl 2 rfl) ?_
                    refine r_if_lt (P := (ff σ r) = 1000) (tgt := 123) hx hb dX6_layStore_53 (by decide) (e1_lt0 (by omega)) (fun cq53 => ?_) (fun cq53 => ?_)
                    · refine r_iinc (v := r + 1) (lv' := [(1, .int (nI (r + 1))), (0, .ref mo), (2, .int (e1 (ff σ r))), (3, .int (nI c))]) hx hb dX6_layStore_123 hl (k := 1) rfl (nI_1 _) (by decide) rfl (fun ls hl => ?_)
                      refine lv_goto (tgt := 24) hx hb dX6_layStore_126 (by decide) ?_
                      exact ih24 (r + 1) m3 v3 (by omega) (by omega) (ly_e hq3 hB (hT1 r (by omega)) (Or.inr cq53) (by omega)) _ _ hP hD hS ls (lv_sub hl [1, 0] rfl)
                    · have b53 := hT1 r (by omega) cq53
                      refine lv_aload_n hx hb dX6_layStore_56 rfl (lv_at hl 0 rfl) ?_
                      refine lv_iload_n hx hb dX6_layStore_57 rfl (lv_at hl 1 rfl) ?_
                      refine g_ro (k_V (q0 := 0) (ci := 6) (n := 1) (As := [.int (nI r)]) (rest := []) (wc := [ob mo 6 [.ref u0, .ref u1, .ref u2, .ref u3, .ref u4, .ref u5, .int (nI sm), .int (nI sa), .int (nI le), .int (nI ra), .int (nI fa)], ar G u0 481 nw]) hx hb hml hown hts (c_X6_entries (l := l) (G := G) (mo := mo) (u0 := u0) (u1 := u1) (u2 := u2) (u3 := u3) (u4 := u4) (u5 := u5) (sm := sm) (sa := sa) (le := le) (ra := ra) (fa := fa) (σ := by first | assumption | omega) (nw := nw) (hR := by first | assumption | omega) (hB := by first | assumption | omega) (r := r) (hr := by first | assumption | omega))  gX6_layStore_X6_entries rfl rfl rfl (by decide +kernel) ⟨Nat.le_of_ble_eq_true rfl, Nat.le_of_ble_eq_true rfl⟩ rfl hK hP hD [0, 1] rfl (by decide)  rfl rfl rfl hl.1 rfl (Nat.le_of_ble_eq_true rfl) dX6_layStore_58 ⟨Nat.le_of_ble_eq_true rfl, Nat.le_of_ble_eq_true rfl⟩) (fun r58 h58 => ?_)
                      obtain rfl : (nI (cols σ r)) = r58 := Eq.symm h58
                      have b58 := cols_lt σ r
                      refine lv_iload_n hx hb dX6_layStore_61 rfl (lv_at hl 3 rfl) ?_
                      refine g_ro (k_S (n := 2) (As := [.int (nI (cols σ r)), .int (nI c)]) (rest := []) (wc := []) hx hb hml hown hts (c_X6_has (l := l) (G := G) (m2 := cols σ r) (c := c) (hm2 := by first | assumption | omega) (hc := by first | assumption | omega))  gX6_layStore_X6_has rfl rfl rfl (by decide +kernel) ⟨Nat.le_of_ble_eq_true rfl, Nat.le_of_ble_eq_true rfl⟩ rfl hK hP hD [] rfl (by decide)  hl.1 rfl (Nat.le_of_ble_eq_true rfl) dX6_layStore_62 ⟨Nat.le_of_ble_eq_true rfl, Nat.le_of_ble_eq_true rfl⟩) (fun r62 h62 => ?_)
                      obtain rfl : (bI ((cols σ r).testBit c)) = r62 := Eq.symm h62
                      refine r_if_eq (P := ((cols σ r).testBit c) = false) (tgt := 117) hx hb dX6_layStore_65 (by decide) (bI_eq0) (fun cq65 => ?_) (fun cq65 => ?_)
                      · refine r_iinc (v := c + 1) (lv' := [(3, .int (nI (c + 1))), (0, .ref mo), (1, .int (nI r)), (2, .int (e1 (ff σ r)))]) hx hb dX6_layStore_117 hl (k := 3) rfl (nI_1 _) (by decide) rfl (fun ls hl => ?_)
                        refine lv_goto (tgt := 46) hx hb dX6_layStore_120 (by decide) ?_
                        exact ih46 (c + 1) m3 v3 (by omega) (by omega) (ly_f hq3 (by rw [← cols_bit σ r (by omega)]; exact cq65)) _ _ hP hD hS ls (lv_sub hl [1, 2, 3, 0] rfl)
                      · have he1 : ent σ r c = true := by rw [← cols_bit σ r (by omega)]; exact Bool.of_not_eq_false cq65
                        have bv1 := hB.v (r * 16 + c)
                        refine lv_aload_n hx hb dX6_layStore_68 rfl (lv_at hl 0 rfl) ?_
                        refine va_get (D := G.1) (ci := 6) (v := .ref u3) (C := RX6) (T := TX6) (N := 11) hx hb hts iqX6_layStore_X6 hown hK.1 hP 0 rfl rfl 3 (by decide) (hts (.fieldLink RX6 19 "PushedTablesModel" "marks" "[I") (List.mem_of_getElem? (i := 1) rfl)) (fun _ h9 => h9) rfl dX6_layStore_69 ?_
                        refine lv_aload_n hx hb dX6_layStore_72 rfl (lv_at hl 0 rfl) ?_
                        refine va_get (D := G.1) (ci := 6) (v := .ref u0) (C := RX6) (T := TX6) (N := 11) hx hb hts iqX6_layStore_X6 hown hK.1 hP 0 rfl rfl 0 (by decide) (hts (.fieldLink RX6 7 "PushedTablesModel" "now" "[I") (List.mem_of_getElem? (i := 2) rfl)) (fun _ h9 => h9) rfl dX6_layStore_73 ?_
                        refine lv_sipush (v := (nI 457)) hx hb dX6_layStore_76 (by decide) ?_
                        refine lv_iload_n hx hb dX6_layStore_79 rfl (lv_at hl 2 rfl) ?_
                        refine r_top (y := (nI (ff σ r))) (e1_n cq53) ?_
                        refine r_iadd (v := 457 + (ff σ r)) hx hb dX6_layStore_80 rfl ?_
                        refine r_iald (e1 := 457 + (ff σ r)) (v := (nI (ss σ (ff σ r)))) hx hb hK.1 hP 1 0 rfl rfl (by omega) (by first | decide | assumption) ((hR.s (by omega)).trans (e1_n (by omega))) dX6_layStore_81 ?_
                        refine lv_iload_n hx hb dX6_layStore_82 rfl (lv_at hl 3 rfl) ?_
                        refine r_iadd (v := (ss σ (ff σ r)) + c) hx hb dX6_layStore_83 rfl ?_
                        refine lv_iload_n hx hb dX6_layStore_84 rfl (lv_at hl 2 rfl) ?_
                        refine r_iast (e1 := (ss σ (ff σ r)) + c) (x := (e1 (ff σ r))) (g := upd m3 ((ss σ (ff σ r)) + c) (e1 (ff σ r))) hx hb hK.1 hP hD hS 2 0 rfl rfl (by omega) (by first | decide | assumption) (rfl) dX6_layStore_85 (fun H locs hP hD hS => ?_)
                        have hP : va_P G.1 vwCl [ob mo 6 [.ref u0, .ref u1, .ref u2, .ref u3, .ref u4, .ref u5, .int (nI sm), .int (nI sa), .int (nI le), .int (nI ra), .int (nI fa)], ar G u0 481 nw, ar G u3 800 (upd m3 ((ss σ (ff σ r)) + c) (e1 (ff σ r))), ar G u4 800 v3] H := hP
                        have hD : va_D A [ob mo 6 [.ref u0, .ref u1, .ref u2, .ref u3, .ref u4, .ref u5, .int (nI sm), .int (nI sa), .int (nI le), .int (nI ra), .int (nI fa)], ar G u0 481 nw, ar G u3 800 (upd m3 ((ss σ (ff σ r)) + c) (e1 (ff σ r))), ar G u4 800 v3] := hD
                        refine lv_aload_n hx hb dX6_layStore_86 rfl (lv_at hl 0 rfl) ?_
                        refine va_get (D := G.1) (ci := 6) (v := .ref u4) (C := RX6) (T := TX6) (N := 11) hx hb hts iqX6_layStore_X6 hown hK.1 hP 0 rfl rfl 4 (by decide) (hts (.fieldLink RX6 22 "PushedTablesModel" "values" "[I") (List.mem_of_getElem? (i := 3) rfl)) (fun _ h9 => h9) rfl dX6_layStore_87 ?_
                        refine lv_aload_n hx hb dX6_layStore_90 rfl (lv_at hl 0 rfl) ?_
                        refine va_get (D := G.1) (ci := 6) (v := .ref u0) (C := RX6) (T := TX6) (N := 11) hx hb hts iqX6_layStore_X6 hown hK.1 hP 0 rfl rfl 0 (by decide) (hts (.fieldLink RX6 7 "PushedTablesModel" "now" "[I") (List.mem_of_getElem? (i := 2) rfl)) (fun _ h9 => h9) rfl dX6_layStore_91 ?_
                        refine lv_sipush (v := (nI 457)) hx hb dX6_layStore_94 (by decide) ?_
                        refine lv_iload_n hx hb dX6_layStore_97 rfl (lv_at hl 2 rfl) ?_
                        refine r_top (y := (nI (ff σ r))) (e1_n cq53) ?_
                        refine r_iadd (v := 457 + (ff σ r)) hx hb dX6_layStore_98 rfl ?_
                        refine r_iald (e1 := 457 + (ff σ r)) (v := (nI (ss σ (ff σ r)))) hx hb hK.1 hP 1 0 rfl rfl (by omega) (by first | decide | assumption) ((hR.s (by omega)).trans (e1_n (by omega))) dX6_layStore_99 ?_
                        refine lv_iload_n hx hb dX6_layStore_100 rfl (lv_at hl 3 rfl) ?_
                        refine r_iadd (v := (ss σ (ff σ r)) + c) hx hb dX6_layStore_101 rfl ?_
                        refine lv_aload_n hx hb dX6_layStore_102 rfl (lv_at hl 0 rfl) ?_
                        refine va_get (D := G.1) (ci := 6) (v := .ref u0) (C := RX6) (T := TX6) (N := 11) hx hb hts iqX6_layStore_X6 hown hK.1 hP 0 rfl rfl 0 (by decide) (hts (.fieldLink RX6 7 "PushedTablesModel" "now" "[I") (List.mem_of_getElem? (i := 2) rfl)) (fun _ h9 => h9) rfl dX6_layStore_103 ?_
                        refine lv_bipush (v := (nI 73)) hx hb dX6_layStore_106 (by decide) ?_
                        refine lv_bipush (v := (nI 16)) hx hb dX6_layStore_108 (by decide) ?_
                        refine lv_iload_n hx hb dX6_layStore_110 rfl (lv_at hl 1 rfl) ?_
                        refine r_imul (v := 16 * r) hx hb dX6_layStore_111 rfl ?_
                        refine r_iadd (v := 73 + (16 * r)) hx hb dX6_layStore_112 rfl ?_
                        refine lv_iload_n hx hb dX6_layStore_113 rfl (lv_at hl 3 rfl) ?_
                        refine r_iadd (v := (73 + (16 * r)) + c) hx hb dX6_layStore_114 rfl ?_
                        refine r_iald (e1 := (73 + (16 * r)) + c) (v := (nI (vv σ (r * 16 + c)))) hx hb hK.1 hP 1 0 rfl rfl (by omega) (by first | decide | assumption) (hR.v (by omega) (by omega) he1) dX6_layStore_115 ?_
                        refine r_iast (e1 := (ss σ (ff σ r)) + c) (x := (nI (vv σ (r * 16 + c)))) (g := upd v3 ((ss σ (ff σ r)) + c) (nI (vv σ (r * 16 + c)))) hx hb hK.1 hP hD hS 3 0 rfl rfl (by omega) (by first | decide | assumption) (rfl) dX6_layStore_116 (fun H locs hP hD hS => ?_)
                        have hP : va_P G.1 vwCl [ob mo 6 [.ref u0, .ref u1, .ref u2, .ref u3, .ref u4, .ref u5, .int (nI sm), .int (nI sa), .int (nI le), .int (nI ra), .int (nI fa)], ar G u0 481 nw, ar G u3 800 (upd m3 ((ss σ (ff σ r)) + c) (e1 (ff σ r))), ar G u4 800 (upd v3 ((ss σ (ff σ r)) + c) (nI (vv σ (r * 16 + c))))] H := hP
                        have hD : va_D A [ob mo 6 [.ref u0, .ref u1, .ref u2, .ref u3, .ref u4, .ref u5, .int (nI sm), .int (nI sa), .int (nI le), .int (nI ra), .int (nI fa)], ar G u0 481 nw, ar G u3 800 (upd m3 ((ss σ (ff σ r)) + c) (e1 (ff σ r))), ar G u4 800 (upd v3 ((ss σ (ff σ r)) + c) (nI (vv σ (r * 16 + c))))] := hD
                        refine r_iinc (v := c + 1) (lv' := [(3, .int (nI (c + 1))), (0, .ref mo), (1, .int (nI r)), (2, .int (e1 (ff σ r)))]) hx hb dX6_layStore_117 hl (k := 3) rfl (nI_1 _) (by decide) rfl (fun ls hl => ?_)
                        refine lv_goto (tgt := 46) hx hb dX6_layStore_120 (by decide) ?_
                        exact ih46 (c + 1) (upd m3 ((ss σ (ff σ r)) + c) (e1 (ff σ r))) (upd v3 ((ss σ (ff σ r)) + c) (nI (vv σ (r * 16 + c)))) (by omega) (by omega) (ly_t hq3 cq53 he1) _ _ hP hD hS ls (lv_sub hl [1, 2, 3, 0] rfl)
              exact L46 ((17 - 0) + 1) 0 m2 v2 (Nat.lt_succ_self _) (by omega) (by rw [(ly_0 (gm := (rsT σ r).2.2) (gv := (rsT σ r).2.1)).1, (ly_0 (gm := (rsT σ r).2.2) (gv := (rsT σ r).2.1)).2]; exact hq2) _ _ hP hD hS ls (lv_sub hl [2, 3, 1, 0] rfl)
        exact L24 ((nn σ + 1 - 0) + 1) 0 m1 vl (Nat.lt_succ_self _) (by omega) (fun j hj => ⟨hm1 j (by omega), fun z => absurd rfl z⟩) _ _ hP hD hS ls (lv_sub hl [1, 0] rfl)
      · refine lv_aload_n hx hb dX6_layStore_9 rfl (lv_at hl 0 rfl) ?_
        refine va_get (D := G.1) (ci := 6) (v := .ref u3) (C := RX6) (T := TX6) (N := 11) hx hb hts iqX6_layStore_X6 hown hK.1 hP 0 rfl rfl 3 (by decide) (hts (.fieldLink RX6 19 "PushedTablesModel" "marks" "[I") (List.mem_of_getElem? (i := 1) rfl)) (fun _ h9 => h9) rfl dX6_layStore_10 ?_
        refine lv_iload_n hx hb dX6_layStore_13 rfl (lv_at hl 1 rfl) ?_
        refine lv_iconst (v := (e1 1000)) hx hb dX6_layStore_14 (by decide) ?_
        refine r_iast (e1 := k) (x := (e1 1000)) (g := upd m1 k (e1 1000)) hx hb hK.1 hP hD hS 2 0 rfl rfl (by omega) (by first | decide | assumption) (rfl) dX6_layStore_15 (fun H locs hP hD hS => ?_)
        have hP : va_P G.1 vwCl [ob mo 6 [.ref u0, .ref u1, .ref u2, .ref u3, .ref u4, .ref u5, .int (nI sm), .int (nI sa), .int (nI le), .int (nI ra), .int (nI fa)], ar G u0 481 nw, ar G u3 800 (upd m1 k (e1 1000)), ar G u4 800 vl] H := hP
        have hD : va_D A [ob mo 6 [.ref u0, .ref u1, .ref u2, .ref u3, .ref u4, .ref u5, .int (nI sm), .int (nI sa), .int (nI le), .int (nI ra), .int (nI fa)], ar G u0 481 nw, ar G u3 800 (upd m1 k (e1 1000)), ar G u4 800 vl] := hD
        refine r_iinc (v := k + 1) (lv' := [(1, .int (nI (k + 1))), (0, .ref mo)]) hx hb dX6_layStore_16 hl (k := 1) rfl (nI_1 _) (by decide) rfl (fun ls hl => ?_)
        refine lv_goto (tgt := 2) hx hb dX6_layStore_19 (by decide) ?_
        exact ih2 (k + 1) (upd m1 k (e1 1000)) (by omega) (by omega) (fun j hj => up_one hm1 hj) _ _ hP hD hS ls (lv_sub hl [1, 0] rfl)
  exact L2 ((801 - 0) + 1) 0 mk (Nat.lt_succ_self _) (by omega) (fun j hj => absurd hj (Nat.not_lt_zero j)) _ _ hP hD hS ls (lv_sub hl [1, 0] rfl)

def ftP (cm : Nat → Nat) (m k c : Nat) : Prop := ∀ j, j < c → m.testBit j = true → cm (k + j) = 1000
theorem ft_s {cm : Nat → Nat} {m k c : Nat} {w : Bool} (h : w = dcd (ftP cm m k c)) (hw : ¬ w = false) (hs : m.testBit c = true → cm (k + c) = 1000) : true = dcd (ftP cm m k (c + 1)) := by
  have h1 := dcd_t.mp (h.symm.trans (Bool.of_not_eq_false hw))
  refine (dcd_t.mpr (fun j hj => ?_)).symm
  rcases Nat.lt_or_ge j c with q | q
  · exact h1 j q
  · have e : j = c := by omega
    rw [e]; exact hs
theorem ft_x {cm : Nat → Nat} {m k c : Nat} {w : Bool} (h : w = dcd (ftP cm m k c)) (hw : w = false) (hc : c ≤ 16 := by omega) : fitb cm m k = false := by
  refine Bool.eq_false_iff.mpr (fun z => dcd_f.mp (h.symm.trans hw) (fun j hj => fitb_t.mp z j (by omega)))
theorem ft_y {cm : Nat → Nat} {m k c : Nat} {w : Bool} (h : w = dcd (ftP cm m k c)) (hw : ¬ w = false) (hc : 16 ≤ c) (hn : ∀ j, j < k → fitb cm m j = false) (hk : k ≤ 784) : k = ftR cm m := by
  have h1 := dcd_t.mp (h.symm.trans (Bool.of_not_eq_false hw))
  have e : ffit cm m = k := fst?_some (by omega) (fitb_t.mpr (fun j hj => h1 j (by omega))) hn
  unfold ftR; rw [e, if_neg (by omega)]
theorem ft_n {cm : Nat → Nat} {m : Nat} (hn : ∀ j, j < 785 → fitb cm m j = false) : 784 = ftR cm m := by
  have e : ffit cm m = 1000 := fst?_none hn
  unfold ftR; rw [e]; rfl
theorem iqX6_fits_X6 : ∀ w ∈ u_ws RX6 TX6 11, w ∈ wsX6_fits := by decide +kernel
set_option maxHeartbeats 1000000 in
set_option maxRecDepth 100000 in
theorem c_X6_fits (l : Launch) (G : kG) (mo u0 u1 u2 u3 u4 u5 sm sa le ra fa : Nat) (cm gv : Nat → Nat) (mk vl : Nat → Int32) (hm : Bc 24 cm) (hq : Rc cm gv mk vl) (m2 : Nat) (hm2 : m2 < 65536) : Met l yX6_fits wsX6_fits ({ frames := 1, cells := 0, slots := 0, locals := 21 } : Room) (cP G [.ref mo, .int (nI m2)] [ob mo 6 [.ref u0, .ref u1, .ref u2, .ref u3, .ref u4, .ref u5, .int (nI sm), .int (nI sa), .int (nI le), .int (nI ra), .int (nI fa)], ar G u3 800 mk]) (vp_Si (fun rv => rv = (nI (ftR cm m2)))) 0 0 (fun _ => False) := by
  refine met_ro (cc := cX6_fits) (maxL := 5) (ty := .int) (own := RX6) (by decide) rfl rfl (fun _ _ => rfl) (Nat.le_of_ble_eq_true rfl) ?_
  intro p e s m args below meth cod Q hx hb hml hown hts hK hP hD hret ls hl
  have hl : lv_has ls 5 [(0, .ref mo), (1, .int (nI m2))] := hl
  refine lv_iconst (v := (nI 0)) hx hb dX6_fits_0 (by decide) ?_
  refine lv_istore_n (lv' := [(2, .int (nI 0)), (0, .ref mo), (1, .int (nI m2))]) hx hb dX6_fits_1 rfl hl (by decide) rfl (fun ls hl => ?_)
  have L2 : ∀ (fu : Nat) (k : Nat), 786 - k < fu → k ≤ 785 → (∀ j, j < k → fitb cm m2 j = false) → ∀ (ls : Array Slot), lv_has ls 5 [(0, .ref mo), (1, .int (nI m2)), (2, .int (nI k))] → W p l e ({ frames := 1, cells := 0, slots := 0, locals := 21 } : Room) s m args below meth cod s.heap [] 0 0 Q (F0 m 2 ls []) := by
    intro fu
    induction fu with
    | zero => intro k hm; exact absurd hm (Nat.not_lt_zero _)
    | succ fu ih2 =>
      intro k hm2 hk hn ls hl
      refine lv_iload_n hx hb dX6_fits_2 rfl (lv_at hl 2 rfl) ?_
      refine lv_sipush (v := (nI 784)) hx hb dX6_fits_3 (by decide) ?_
      refine r_icmp_gt (P := 784 < k) (tgt := 71) hx hb dX6_fits_6 (by decide) (nI_ltI (by omega) (by omega)) (fun cq6 => ?_) (fun cq6 => ?_)
      · refine lv_sipush (v := (nI 784)) hx hb dX6_fits_71 (by decide) ?_
        exact hret _ _ _ dX6_fits_74 (congrArg nI (ft_n (fun j hj => hn j (by omega))))
      · refine lv_iconst (v := (bI true)) hx hb dX6_fits_9 (by decide) ?_
        refine lv_istore_n (lv' := [(3, .int (bI true)), (0, .ref mo), (1, .int (nI m2)), (2, .int (nI k))]) hx hb dX6_fits_10 rfl hl (by decide) rfl (fun ls hl => ?_)
        refine lv_iconst (v := (nI 0)) hx hb dX6_fits_11 (by decide) ?_
        refine lv_istore (lv' := [(4, .int (nI 0)), (3, .int (bI true)), (0, .ref mo), (1, .int (nI m2)), (2, .int (nI k))]) hx hb dX6_fits_12 hl (by decide) rfl (fun ls hl => ?_)
        have L14 : ∀ (fu : Nat) (c : Nat) (w : Bool), 17 - c < fu → c ≤ 16 → w = dcd (ftP cm m2 k c) → ∀ (ls : Array Slot), lv_has ls 5 [(0, .ref mo), (1, .int (nI m2)), (2, .int (nI k)), (3, .int (bI w)), (4, .int (nI c))] → W p l e ({ frames := 1, cells := 0, slots := 0, locals := 21 } : Room) s m args below meth cod s.heap [] 0 0 Q (F0 m 14 ls []) := by
          intro fu
          induction fu with
          | zero => intro c w hm; exact absurd hm (Nat.not_lt_zero _)
          | succ fu ih14 =>
            intro c w hm14 hc hw ls hl
            refine lv_iload hx hb dX6_fits_14 (lv_at hl 4 rfl) ?_
            refine lv_bipush (v := (nI 16)) hx hb dX6_fits_16 (by decide) ?_
            refine r_icmp_ge (P := 16 ≤ c) (tgt := 59) hx hb dX6_fits_18 (by decide) (nI_leI (by omega) (by omega)) (fun cq18 => ?_) (fun cq18 => ?_)
            · refine lv_iload_n hx hb dX6_fits_59 rfl (lv_at hl 3 rfl) ?_
              refine r_if_eq (P := w = false) (tgt := 65) hx hb dX6_fits_60 (by decide) (bI_eq0) (fun cq60 => ?_) (fun cq60 => ?_)
              · refine r_iinc (v := k + 1) (lv' := [(2, .int (nI (k + 1))), (0, .ref mo), (1, .int (nI m2)), (3, .int (bI w)), (4, .int (nI c))]) hx hb dX6_fits_65 hl (k := 2) rfl (nI_1 _) (by decide) rfl (fun ls hl => ?_)
                refine lv_goto (tgt := 2) hx hb dX6_fits_68 (by decide) ?_
                exact ih2 (k + 1) (by omega) (by omega) (lt_s hn (ft_x hw cq60)) ls (lv_sub hl [1, 2, 0] rfl)
              · refine lv_iload_n hx hb dX6_fits_63 rfl (lv_at hl 2 rfl) ?_
                exact hret _ _ _ dX6_fits_64 (congrArg nI (ft_y hw cq60 (by omega) hn (by omega)))
            · refine lv_iload_n hx hb dX6_fits_21 rfl (lv_at hl 3 rfl) ?_
              refine r_if_eq (P := w = false) (tgt := 59) hx hb dX6_fits_22 (by decide) (bI_eq0) (fun cq22 => ?_) (fun cq22 => ?_)
              · refine lv_iload_n hx hb dX6_fits_59 rfl (lv_at hl 3 rfl) ?_
                refine r_if_eq (P := w = false) (tgt := 65) hx hb dX6_fits_60 (by decide) (bI_eq0) (fun cq60 => ?_) (fun cq60 => ?_)
                · refine r_iinc (v := k + 1) (lv' := [(2, .int (nI (k + 1))), (0, .ref mo), (1, .int (nI m2)), (3, .int (bI w)), (4, .int (nI c))]) hx hb dX6_fits_65 hl (k := 2) rfl (nI_1 _) (by decide) rfl (fun ls hl => ?_)
                  refine lv_goto (tgt := 2) hx hb dX6_fits_68 (by decide) ?_
                  exact ih2 (k + 1) (by omega) (by omega) (lt_s hn (ft_x hw cq60)) ls (lv_sub hl [1, 2, 0] rfl)
                · refine lv_iload_n hx hb dX6_fits_63 rfl (lv_at hl 2 rfl) ?_
                  exact hret _ _ _ dX6_fits_64 (absurd cq22 cq60)
              · refine lv_iload_n hx hb dX6_fits_25 rfl (lv_at hl 1 rfl) ?_
                refine lv_iload hx hb dX6_fits_26 (lv_at hl 4 rfl) ?_
                refine g_ro (k_S (n := 2) (As := [.int (nI m2), .int (nI c)]) (rest := []) (wc := []) hx hb hml hown hts (c_X6_has (l := l) (G := G) (m2 := m2) (c := c) (hm2 := by first | assumption | omega) (hc := by first | assumption | omega))  gX6_fits_X6_has rfl rfl rfl (by decide +kernel) ⟨Nat.le_of_ble_eq_true rfl, Nat.le_of_ble_eq_true rfl⟩ rfl hK hP hD [] rfl (by decide)  hl.1 rfl (Nat.le_of_ble_eq_true rfl) dX6_fits_28 ⟨Nat.le_of_ble_eq_true rfl, Nat.le_of_ble_eq_true rfl⟩) (fun r28 h28 => ?_)
                obtain rfl : (bI (m2.testBit c)) = r28 := Eq.symm h28
                refine r_if_eq (P := (m2.testBit c) = false) (tgt := 47) hx hb dX6_fits_31 (by decide) (bI_eq0) (fun cq31 => ?_) (fun cq31 => ?_)
                · refine lv_iconst (v := (bI true)) hx hb dX6_fits_47 (by decide) ?_
                  refine lv_goto (tgt := 52) hx hb dX6_fits_48 (by decide) ?_
                  refine lv_istore_n (lv' := [(3, .int (bI true)), (0, .ref mo), (1, .int (nI m2)), (2, .int (nI k)), (4, .int (nI c))]) hx hb dX6_fits_52 rfl hl (by decide) rfl (fun ls hl => ?_)
                  refine r_iinc (v := c + 1) (lv' := [(4, .int (nI (c + 1))), (3, .int (bI true)), (0, .ref mo), (1, .int (nI m2)), (2, .int (nI k))]) hx hb dX6_fits_53 hl (k := 4) rfl (nI_1 _) (by decide) rfl (fun ls hl => ?_)
                  refine lv_goto (tgt := 14) hx hb dX6_fits_56 (by decide) ?_
                  exact ih14 (c + 1) true (by omega) (by omega) (ft_s hw cq22 (fun z => absurd z (by rw [cq31]; decide))) ls (lv_sub hl [2, 3, 4, 1, 0] rfl)
                · have b31 := hm (k + c)
                  refine lv_aload_n hx hb dX6_fits_34 rfl (lv_at hl 0 rfl) ?_
                  refine va_get (D := G.1) (ci := 6) (v := .ref u3) (C := RX6) (T := TX6) (N := 11) hx hb hts iqX6_fits_X6 hown hK.1 hP 0 rfl rfl 3 (by decide) (hts (.fieldLink RX6 19 "PushedTablesModel" "marks" "[I") (List.mem_of_getElem? (i := 1) rfl)) (fun _ h9 => h9) rfl dX6_fits_35 ?_
                  refine lv_iload_n hx hb dX6_fits_38 rfl (lv_at hl 2 rfl) ?_
                  refine lv_iload hx hb dX6_fits_39 (lv_at hl 4 rfl) ?_
                  refine r_iadd (v := k + c) hx hb dX6_fits_41 rfl ?_
                  refine r_iald (e1 := k + c) (v := (e1 (cm (k + c)))) hx hb hK.1 hP 1 0 rfl rfl (by omega) (by first | decide | assumption) ((hq _ (by omega)).1) dX6_fits_42 ?_
                  refine lv_iconst (v := (e1 1000)) hx hb dX6_fits_43 (by decide) ?_
                  refine r_icmp_ne (P := (cm (k + c)) = 1000) (tgt := 51) hx hb dX6_fits_44 (by decide) (e1_inj (by omega) (by omega)) (fun cq44 => ?_) (fun cq44 => ?_)
                  · refine lv_iconst (v := (bI false)) hx hb dX6_fits_51 (by decide) ?_
                    refine lv_istore_n (lv' := [(3, .int (bI false)), (0, .ref mo), (1, .int (nI m2)), (2, .int (nI k)), (4, .int (nI c))]) hx hb dX6_fits_52 rfl hl (by decide) rfl (fun ls hl => ?_)
                    refine r_iinc (v := c + 1) (lv' := [(4, .int (nI (c + 1))), (3, .int (bI false)), (0, .ref mo), (1, .int (nI m2)), (2, .int (nI k))]) hx hb dX6_fits_53 hl (k := 4) rfl (nI_1 _) (by decide) rfl (fun ls hl => ?_)
                    refine lv_goto (tgt := 14) hx hb dX6_fits_56 (by decide) ?_
                    exact ih14 (c + 1) false (by omega) (by omega) ((dcd_f.mpr (fun z => cq44 (z c (by omega) (Bool.of_not_eq_false cq31)))).symm) ls (lv_sub hl [2, 3, 4, 1, 0] rfl)
                  · refine lv_iconst (v := (bI true)) hx hb dX6_fits_47 (by decide) ?_
                    refine lv_goto (tgt := 52) hx hb dX6_fits_48 (by decide) ?_
                    refine lv_istore_n (lv' := [(3, .int (bI true)), (0, .ref mo), (1, .int (nI m2)), (2, .int (nI k)), (4, .int (nI c))]) hx hb dX6_fits_52 rfl hl (by decide) rfl (fun ls hl => ?_)
                    refine r_iinc (v := c + 1) (lv' := [(4, .int (nI (c + 1))), (3, .int (bI true)), (0, .ref mo), (1, .int (nI m2)), (2, .int (nI k))]) hx hb dX6_fits_53 hl (k := 4) rfl (nI_1 _) (by decide) rfl (fun ls hl => ?_)
                    refine lv_goto (tgt := 14) hx hb dX6_fits_56 (by decide) ?_
                    exact ih14 (c + 1) true (by omega) (by omega) (ft_s hw cq22 (fun _ => cq44)) ls (lv_sub hl [2, 3, 4, 1, 0] rfl)
        exact L14 ((17 - 0) + 1) 0 true (Nat.lt_succ_self _) (by omega) ((dcd_t.mpr (fun j hj => absurd hj (Nat.not_lt_zero j))).symm) ls (lv_sub hl [2, 3, 4, 1, 0] rfl)
  exact L2 ((786 - 0) + 1) 0 (Nat.lt_succ_self _) (by omega) (fun j hj => absurd hj (Nat.not_lt_zero j)) ls (lv_sub hl [1, 2, 0] rfl)
