/-! the reference: all pushed anew, the end -/
noncomputable def fwI (w : Nat) (σ : Sg) : Nat → Sg
  | 0 => σ
  | k + 1 => if wt (fwI w σ k) k = w then fmT (fwI w σ k) k else fwI w σ k
noncomputable def fwO (n : Nat) (σ : Sg) : Nat → Sg
  | 0 => σ
  | j + 1 => fwI (16 - j) (fwO n σ j) n
noncomputable def fwN (σ : Sg) : Nat → Sg
  | 0 => σ
  | k + 1 => fmT (fwN σ k) k
theorem fwI_t {w : Nat} {σ : Sg} {k : Nat} (h : wt (fwI w σ k) k = w) : fwI w σ (k + 1) = fmT (fwI w σ k) k := if_pos h
theorem fwI_f {w : Nat} {σ : Sg} {k : Nat} (h : ¬ wt (fwI w σ k) k = w) : fwI w σ (k + 1) = fwI w σ k := if_neg h
theorem fwO_s {n : Nat} {σ : Sg} {w : Nat} (h1 : 1 ≤ w) (h2 : w ≤ 16) : fwI w (fwO n σ (16 - w)) n = fwO n σ (16 - (w - 1)) := by
  have e : 16 - (w - 1) = (16 - w) + 1 := by omega
  rw [e]
  show _ = fwI (16 - (16 - w)) _ n
  rw [show 16 - (16 - w) = w by omega]
theorem nn_fwI (w : Nat) (σ : Sg) : ∀ k, nn (fwI w σ k) = nn σ
  | 0 => rfl
  | k + 1 => by
    unfold fwI; split
    · rw [nn_fmT]; exact nn_fwI w σ k
    · exact nn_fwI w σ k
theorem nn_fwO (n : Nat) (σ : Sg) : ∀ j, nn (fwO n σ j) = nn σ
  | 0 => rfl
  | j + 1 => by show nn (fwI _ _ n) = _; rw [nn_fwI]; exact nn_fwO n σ j
theorem nn_fwN (σ : Sg) : ∀ k, nn (fwN σ k) = nn σ
  | 0 => rfl
  | k + 1 => by show nn (fmT _ k) = _; rw [nn_fmT]; exact nn_fwN σ k
theorem Bd_fwI {w : Nat} {σ : Sg} (h : Bd σ) : ∀ k, Bd (fwI w σ k)
  | 0 => h
  | k + 1 => by
    unfold fwI; split
    · exact Bd_fmT (Bd_fwI h k) k
    · exact Bd_fwI h k
theorem Bd_fwO {n : Nat} {σ : Sg} (h : Bd σ) : ∀ j, Bd (fwO n σ j)
  | 0 => h
  | j + 1 => Bd_fwI (Bd_fwO h j) n
theorem Bd_fwN {σ : Sg} (h : Bd σ) : ∀ k, Bd (fwN σ k)
  | 0 => h
  | k + 1 => Bd_fmT (Bd_fwN h k) k
/-- by numbers: all of it when the weight is 16 -/
noncomputable def fnI (w : Nat) (σ : Sg) (n k : Nat) : Sg := if w = 16 then fwN σ k else fwN σ n
theorem fnI_t {w : Nat} {σ : Sg} {n k : Nat} (h : w = 16) : fnI w σ n k = fwN σ k := if_pos h
theorem fnI_f {w : Nat} {σ : Sg} {n k : Nat} (h : ¬ w = 16) : fnI w σ n k = fwN σ n := if_neg h
noncomputable def fnO (w : Nat) (σ : Sg) (n : Nat) : Sg := if w = 16 then σ else fwN σ n
abbrev bareS (σ : Sg) : Sg := (bare σ).1
theorem Rel_br {σ : Sg} {f g : Nat → Int32} (h : Rel σ f) (hn : nn σ ≤ 24) (h1 : ∀ j, j < 49 → g j = f j) (h2 : ∀ j, j < 24 → g (49 + j) = e1 1000) (h3 : ∀ j, 73 ≤ j → j < 457 → g j = f j) (h4 : ∀ j, j < 24 → g (457 + j) = e1 1000) : Rel (bareS σ) g := by
  refine ⟨?_, fun q hq => ?_, fun q hq => ?_, fun q hq => ?_, fun q j hq hj he => ?_, fun k hk => ?_⟩
  · rw [h1 _ (by omega)]; exact h.n
  · have hq' : q < nn σ := hq
    rw [h1 _ (by omega)]; exact h.d hq'
  · have hq' : q < nn σ := hq
    rw [h1 _ (by omega)]; exact h.e hq'
  · have hq' : q < nn σ := hq
    exact h2 q (by omega)
  · have hq' : q < nn σ := hq
    rw [h3 _ (by omega) (by omega)]; exact h.v hq' hj he
  · exact h4 k hk
theorem nn_bare (σ : Sg) : nn (bareS σ) = nn σ := rfl
/-- what the preparing loop has done -/
def bpI (f g : Nat → Int32) (k : Nat) : Prop := (∀ j, j < 49 → g j = f j) ∧ (∀ j, j < k → g (49 + j) = e1 1000) ∧ (∀ j, 73 ≤ j → j < 457 → g j = f j) ∧ (∀ j, j < k → g (457 + j) = e1 1000)
theorem bpI_0 (f : Nat → Int32) : bpI f f 0 := ⟨fun _ _ => rfl, fun j hj => absurd hj (Nat.not_lt_zero j), fun _ _ _ => rfl, fun j hj => absurd hj (Nat.not_lt_zero j)⟩
theorem bpI_s {f g : Nat → Int32} {k : Nat} (h : bpI f g k) (hk : k < 24) : bpI f (upd (upd g (457 + k) (e1 1000)) (49 + k) (e1 1000)) (k + 1) := by
  obtain ⟨h1, h2, h3, h4⟩ := h
  refine ⟨fun j hj => ?_, fun j hj => ?_, fun j hj hj2 => ?_, fun j hj => ?_⟩
  · rw [u_n (by omega), u_n (by omega)]; exact h1 j hj
  · by_cases e : j = k
    · rw [e, u_s]
    · rw [u_n (by omega), u_n (by omega)]; exact h2 j (by omega)
  · rw [u_n (by omega), u_n (by omega)]; exact h3 j hj hj2
  · rw [u_n (by omega)]
    by_cases e : j = k
    · rw [e, u_s]
    · rw [u_n (by omega)]; exact h4 j (by omega)
theorem e1_m {x : Nat} (h : x ≤ 1000) : e1 x = -1 ↔ x = 1000 := e1_inj (y := 1000) h (by decide)
abbrev rsM (σ : Sg) : Nat → Nat := (rsT σ (nn σ)).2.2
abbrev rsV (σ : Sg) : Nat → Nat := (rsT σ (nn σ)).2.1
theorem wt_le1000 (σ : Sg) (r : Nat) : wt σ r ≤ 16 := wt_le σ r
theorem iqX6_pushes_t_X6 : ∀ w ∈ u_ws RX6 TX6 11, w ∈ wsX6_pushes := by decide +kernel
set_option maxHeartbeats 1000000 in
set_option maxRecDepth 100000 in
theorem c_X6_pushes_t (l : Launch) (G : kG) (mo u0 u1 u2 u3 u4 u5 sm sa le ra fa : Nat) (σ : Sg) (nw : Nat → Int32) (hR : Rel σ nw) (hB : Bd σ) (hF : ∀ w k, 1 ≤ w → w ≤ 16 → k < nn σ → wt (fwI w (fwO (nn σ) (bareS σ) (16 - w)) k) k = w → FP (fwI w (fwO (nn σ) (bareS σ) (16 - w)) k) k) (mk vl : Nat → Int32) : Met l yX6_pushes wsX6_pushes ({ frames := 3, cells := 0, slots := 0, locals := 69 } : Room) (cP G [.ref mo, .int (bI true)] [ob mo 6 [.ref u0, .ref u1, .ref u2, .ref u3, .ref u4, .ref u5, .int (nI sm), .int (nI sa), .int (nI le), .int (nI ra), .int (nI fa)], ar G u0 481 nw, ar G u3 800 mk, ar G u4 800 vl]) (qV (fun H => ∃ (nw1 : Nat → Int32) (mk1 : Nat → Int32) (vl1 : Nat → Int32), Rel (fwO (nn σ) (bareS σ) 16) nw1 ∧ va_P G.1 vwCl [ob mo 6 [.ref u0, .ref u1, .ref u2, .ref u3, .ref u4, .ref u5, .int (nI sm), .int (nI sa), .int (nI le), .int (nI ra), .int (nI fa)], ar G u0 481 nw1, ar G u3 800 mk1, ar G u4 800 vl1] H) (mA [ob mo 6 [.ref u0, .ref u1, .ref u2, .ref u3, .ref u4, .ref u5, .int (nI sm), .int (nI sa), .int (nI le), .int (nI ra), .int (nI fa)], ar G u0 481 nw, ar G u3 800 mk, ar G u4 800 vl])) 0 0 (mA [ob mo 6 [.ref u0, .ref u1, .ref u2, .ref u3, .ref u4, .ref u5, .int (nI sm), .int (nI sa), .int (nI le), .int (nI ra), .int (nI fa)], ar G u0 481 nw, ar G u3 800 mk, ar G u4 800 vl]) := by
  refine met_muV (cc := cX6_pushes) (maxL := 4) (own := RX6) (by decide) rfl rfl (Nat.le_of_ble_eq_true rfl) ?_
  intro p e s m args below meth cod Q A hx hb hml hown hts hK hP hD hS hret ls hl
  have hl : lv_has ls 4 [(0, .ref mo), (1, .int (bI true))] := hl
  have h24 := hB.n
  refine lv_iconst (v := (nI 0)) hx hb dX6_pushes_0 (by decide) ?_
  refine lv_istore_n (lv' := [(2, .int (nI 0)), (0, .ref mo), (1, .int (bI true))]) hx hb dX6_pushes_1 rfl hl (by decide) rfl (fun ls hl => ?_)
  have L2 : ∀ (fu : Nat) (k : Nat) (g2 : Nat → Int32), 25 - k < fu → k ≤ 24 → bpI nw g2 k → ∀ (H : Heap) (locs : List Loc), va_P G.1 vwCl [ob mo 6 [.ref u0, .ref u1, .ref u2, .ref u3, .ref u4, .ref u5, .int (nI sm), .int (nI sa), .int (nI le), .int (nI ra), .int (nI fa)], ar G u0 481 g2, ar G u3 800 mk, ar G u4 800 vl] H → va_D A [ob mo 6 [.ref u0, .ref u1, .ref u2, .ref u3, .ref u4, .ref u5, .int (nI sm), .int (nI sa), .int (nI le), .int (nI ra), .int (nI fa)], ar G u0 481 g2, ar G u3 800 mk, ar G u4 800 vl] → va_S A s.heap H locs → ∀ (ls : Array Slot), lv_has ls 4 [(0, .ref mo), (1, .int (bI true)), (2, .int (nI k))] → W p l e ({ frames := 3, cells := 0, slots := 0, locals := 69 } : Room) s m args below meth cod H locs 0 0 Q (F0 m 2 ls []) := by
    intro fu
    induction fu with
    | zero => intro k g2 hm; exact absurd hm (Nat.not_lt_zero _)
    | succ fu ih2 =>
      intro k g2 hm2 hk hp H locs hP hD hS ls hl
      have hP : va_P G.1 vwCl [ob mo 6 [.ref u0, .ref u1, .ref u2, .ref u3, .ref u4, .ref u5, .int (nI sm), .int (nI sa), .int (nI le), .int (nI ra), .int (nI fa)], ar G u0 481 g2, ar G u3 800 mk, ar G u4 800 vl] H := hP
      have hD : va_D A [ob mo 6 [.ref u0, .ref u1, .ref u2, .ref u3, .ref u4, .ref u5, .int (nI sm), .int (nI sa), .int (nI le), .int (nI ra), .int (nI fa)], ar G u0 481 g2, ar G u3 800 mk, ar G u4 800 vl] := hD
      refine lv_iload_n hx hb dX6_pushes_2 rfl (lv_at hl 2 rfl) ?_
      refine lv_bipush (v := (nI 24)) hx hb dX6_pushes_3 (by decide) ?_
      refine r_icmp_ge (P := 24 ≤ k) (tgt := 35) hx hb dX6_pushes_5 (by decide) (nI_leI (by omega) (by omega)) (fun cq5 => ?_) (fun cq5 => ?_)
      · obtain rfl : k = 24 := by omega
        have hR0 := Rel_br hR h24 hp.1 hp.2.1 hp.2.2.1 hp.2.2.2
        have hB0 := Bd_bare hB
        refine lv_bipush (v := (nI 16)) hx hb dX6_pushes_35 (by decide) ?_
        refine lv_istore_n (lv' := [(2, .int (nI 16)), (0, .ref mo), (1, .int (bI true))]) hx hb dX6_pushes_37 rfl hl (by decide) rfl (fun ls hl => ?_)
        have L38 : ∀ (fu : Nat) (w : Nat) (n3 : Nat → Int32) (m3 : Nat → Int32) (v3 : Nat → Int32), w + 1 < fu → w ≤ 16 → Rel (fwO (nn σ) (bareS σ) (16 - w)) n3 → ∀ (H : Heap) (locs : List Loc), va_P G.1 vwCl [ob mo 6 [.ref u0, .ref u1, .ref u2, .ref u3, .ref u4, .ref u5, .int (nI sm), .int (nI sa), .int (nI le), .int (nI ra), .int (nI fa)], ar G u0 481 n3, ar G u3 800 m3, ar G u4 800 v3] H → va_D A [ob mo 6 [.ref u0, .ref u1, .ref u2, .ref u3, .ref u4, .ref u5, .int (nI sm), .int (nI sa), .int (nI le), .int (nI ra), .int (nI fa)], ar G u0 481 n3, ar G u3 800 m3, ar G u4 800 v3] → va_S A s.heap H locs → ∀ (ls : Array Slot), lv_has ls 4 [(0, .ref mo), (1, .int (bI true)), (2, .int (nI w))] → W p l e ({ frames := 3, cells := 0, slots := 0, locals := 69 } : Room) s m args below meth cod H locs 0 0 Q (F0 m 38 ls []) := by
          intro fu
          induction fu with
          | zero => intro w n3 m3 v3 hm; exact absurd hm (Nat.not_lt_zero _)
          | succ fu ih38 =>
            intro w n3 m3 v3 hm38 hw hRw H locs hP hD hS ls hl
            have hP : va_P G.1 vwCl [ob mo 6 [.ref u0, .ref u1, .ref u2, .ref u3, .ref u4, .ref u5, .int (nI sm), .int (nI sa), .int (nI le), .int (nI ra), .int (nI fa)], ar G u0 481 n3, ar G u3 800 m3, ar G u4 800 v3] H := hP
            have hD : va_D A [ob mo 6 [.ref u0, .ref u1, .ref u2, .ref u3, .ref u4, .ref u5, .int (nI sm), .int (nI sa), .int (nI le), .int (nI ra), .int (nI fa)], ar G u0 481 n3, ar G u3 800 m3, ar G u4 800 v3] := hD
            refine lv_iload_n hx hb dX6_pushes_38 rfl (lv_at hl 2 rfl) ?_
            refine r_if_le (P := w = 0) (tgt := 96) hx hb dX6_pushes_39 (by decide) (nI_le0 (by omega)) (fun cq39 => ?_) (fun cq39 => ?_)
            · obtain rfl : w = 0 := by omega
              exact hret _ _ _ _ hS dX6_pushes_96 (⟨n3, m3, v3, hRw, hP⟩)
            · have hBw := Bd_fwO (n := nn σ) hB0 (16 - w)
              refine lv_iconst (v := (nI 0)) hx hb dX6_pushes_42 (by decide) ?_
              refine lv_istore_n (lv' := [(3, .int (nI 0)), (0, .ref mo), (1, .int (bI true)), (2, .int (nI w))]) hx hb dX6_pushes_43 rfl hl (by decide) rfl (fun ls hl => ?_)
              have L44 : ∀ (fu : Nat) (r : Nat) (n4 : Nat → Int32) (m4 : Nat → Int32) (v4 : Nat → Int32), nn σ + 1 - r < fu → r ≤ nn σ → Rel (fwI w (fwO (nn σ) (bareS σ) (16 - w)) r) n4 → ∀ (H : Heap) (locs : List Loc), va_P G.1 vwCl [ob mo 6 [.ref u0, .ref u1, .ref u2, .ref u3, .ref u4, .ref u5, .int (nI sm), .int (nI sa), .int (nI le), .int (nI ra), .int (nI fa)], ar G u0 481 n4, ar G u3 800 m4, ar G u4 800 v4] H → va_D A [ob mo 6 [.ref u0, .ref u1, .ref u2, .ref u3, .ref u4, .ref u5, .int (nI sm), .int (nI sa), .int (nI le), .int (nI ra), .int (nI fa)], ar G u0 481 n4, ar G u3 800 m4, ar G u4 800 v4] → va_S A s.heap H locs → ∀ (ls : Array Slot), lv_has ls 4 [(0, .ref mo), (1, .int (bI true)), (2, .int (nI w)), (3, .int (nI r))] → W p l e ({ frames := 3, cells := 0, slots := 0, locals := 69 } : Room) s m args below meth cod H locs 0 0 Q (F0 m 44 ls []) := by
                intro fu
                induction fu with
                | zero => intro r n4 m4 v4 hm; exact absurd hm (Nat.not_lt_zero _)
                | succ fu ih44 =>
                  intro r n4 m4 v4 hm44 hr hR2 H locs hP hD hS ls hl
                  have hP : va_P G.1 vwCl [ob mo 6 [.ref u0, .ref u1, .ref u2, .ref u3, .ref u4, .ref u5, .int (nI sm), .int (nI sa), .int (nI le), .int (nI ra), .int (nI fa)], ar G u0 481 n4, ar G u3 800 m4, ar G u4 800 v4] H := hP
                  have hD : va_D A [ob mo 6 [.ref u0, .ref u1, .ref u2, .ref u3, .ref u4, .ref u5, .int (nI sm), .int (nI sa), .int (nI le), .int (nI ra), .int (nI fa)], ar G u0 481 n4, ar G u3 800 m4, ar G u4 800 v4] := hD
                  refine lv_iload_n hx hb dX6_pushes_44 rfl (lv_at hl 3 rfl) ?_
                  have hnr : nn (fwI w (fwO (nn σ) (bareS σ) (16 - w)) r) = nn σ := by rw [nn_fwI, nn_fwO]
                  have hBr := Bd_fwI (w := w) hBw r
                  have hwl := wt_le (fwI w (fwO (nn σ) (bareS σ) (16 - w)) r) r
                  refine lv_aload_n hx hb dX6_pushes_45 rfl (lv_at hl 0 rfl) ?_
                  refine va_get (D := G.1) (ci := 6) (v := .ref u0) (C := RX6) (T := TX6) (N := 11) hx hb hts iqX6_pushes_t_X6 hown hK.1 hP 0 rfl rfl 0 (by decide) (hts (.fieldLink RX6 7 "PushedTablesModel" "now" "[I") (List.mem_of_getElem? (i := 1) rfl)) (fun _ h9 => h9) rfl dX6_pushes_46 ?_
                  refine lv_iconst (v := (nI 0)) hx hb dX6_pushes_49 (by decide) ?_
                  refine r_iald (e1 := 0) (v := (nI (nn σ))) hx hb hK.1 hP 1 0 rfl rfl (by omega) (by first | decide | assumption) (hR2.n.trans (congrArg nI hnr)) dX6_pushes_50 ?_
                  refine r_icmp_ge (P := (nn σ) ≤ r) (tgt := 90) hx hb dX6_pushes_51 (by decide) (nI_leI (by omega) (by omega)) (fun cq51 => ?_) (fun cq51 => ?_)
                  · have hre : r = nn σ := by omega
                    rw [hre] at hR2
                    refine r_iinc (v := w - 1) (lv' := [(2, .int (nI (w - 1))), (0, .ref mo), (1, .int (bI true)), (3, .int (nI r))]) hx hb dX6_pushes_90 hl (k := 2) rfl (r_dec (by omega)) (by decide) rfl (fun ls hl => ?_)
                    refine lv_goto (tgt := 38) hx hb dX6_pushes_93 (by decide) ?_
                    exact ih38 (w - 1) n4 m4 v4 (by omega) (by omega) (by rw [← fwO_s (by omega) hw]; exact hR2) _ _ hP hD hS ls (lv_sub hl [1, 2, 0] rfl)
                  · refine lv_iload_n hx hb dX6_pushes_54 rfl (lv_at hl 1 rfl) ?_
                    refine r_if_eq (P := true = false) (tgt := 73) hx hb dX6_pushes_55 (by decide) (bI_eq0) (fun cq55 => ?_) (fun cq55 => ?_)
                    · exact absurd cq55 (by decide)
                    · refine lv_aload_n hx hb dX6_pushes_58 rfl (lv_at hl 0 rfl) ?_
                      refine lv_iload_n hx hb dX6_pushes_59 rfl (lv_at hl 3 rfl) ?_
                      refine g_ro (k_V (q0 := 0) (ci := 6) (n := 1) (As := [.int (nI r)]) (rest := []) (wc := [ob mo 6 [.ref u0, .ref u1, .ref u2, .ref u3, .ref u4, .ref u5, .int (nI sm), .int (nI sa), .int (nI le), .int (nI ra), .int (nI fa)], ar G u0 481 n4]) hx hb hml hown hts (c_X6_entries (l := l) (G := G) (mo := mo) (u0 := u0) (u1 := u1) (u2 := u2) (u3 := u3) (u4 := u4) (u5 := u5) (sm := sm) (sa := sa) (le := le) (ra := ra) (fa := fa) (σ := (fwI w (fwO (nn σ) (bareS σ) (16 - w)) r)) (nw := n4) (hR := hR2) (hB := hBr) (r := r) (hr := (by rw [hnr]; omega)))  gX6_pushes_X6_entries rfl rfl rfl (by decide +kernel) ⟨Nat.le_of_ble_eq_true rfl, Nat.le_of_ble_eq_true rfl⟩ rfl hK hP hD [0, 1] rfl (by decide)  rfl rfl rfl hl.1 rfl (Nat.le_of_ble_eq_true rfl) dX6_pushes_60 ⟨Nat.le_of_ble_eq_true rfl, Nat.le_of_ble_eq_true rfl⟩) (fun r60 h60 => ?_)
                      obtain rfl : (nI (cols (fwI w (fwO (nn σ) (bareS σ) (16 - w)) r) r)) = r60 := Eq.symm h60
                      have b60 := cols_lt (fwI w (fwO (nn σ) (bareS σ) (16 - w)) r) r
                      refine g_ro (k_S (n := 1) (As := [.int (nI (cols (fwI w (fwO (nn σ) (bareS σ) (16 - w)) r) r))]) (rest := []) (wc := []) hx hb hml hown hts (c_X6_bits (l := l) (G := G) (m2 := cols (fwI w (fwO (nn σ) (bareS σ) (16 - w)) r) r) (hm2 := by first | assumption | omega))  gX6_pushes_X6_bits rfl rfl rfl (by decide +kernel) ⟨Nat.le_of_ble_eq_true rfl, Nat.le_of_ble_eq_true rfl⟩ rfl hK hP hD [] rfl (by decide)  hl.1 rfl (Nat.le_of_ble_eq_true rfl) dX6_pushes_63 ⟨Nat.le_of_ble_eq_true rfl, Nat.le_of_ble_eq_true rfl⟩) (fun r63 h63 => ?_)
                      obtain rfl : (nI (pop (cols (fwI w (fwO (nn σ) (bareS σ) (16 - w)) r) r))) = r63 := Eq.symm h63
                      have b63 := pop_le (cols (fwI w (fwO (nn σ) (bareS σ) (16 - w)) r) r)
                      refine lv_iload_n hx hb dX6_pushes_66 rfl (lv_at hl 2 rfl) ?_
                      refine r_icmp_ne (P := (pop (cols (fwI w (fwO (nn σ) (bareS σ) (16 - w)) r) r)) = w) (tgt := 84) hx hb dX6_pushes_67 (by decide) (nI_eq (by omega) (by omega)) (fun cq67 => ?_) (fun cq67 => ?_)
                      · have cw67 := cq67
                        rw [pop_cols] at cw67
                        refine r_iinc (v := r + 1) (lv' := [(3, .int (nI (r + 1))), (0, .ref mo), (1, .int (bI true)), (2, .int (nI w))]) hx hb dX6_pushes_84 hl (k := 3) rfl (nI_1 _) (by decide) rfl (fun ls hl => ?_)
                        refine lv_goto (tgt := 44) hx hb dX6_pushes_87 (by decide) ?_
                        exact ih44 (r + 1) n4 m4 v4 (by omega) (by omega) (by rw [fwI_f cw67]; exact hR2) _ _ hP hD hS ls (lv_sub hl [1, 2, 3, 0] rfl)
                      · have cw67 := cq67
                        rw [pop_cols] at cw67
                        refine lv_goto (tgt := 79) hx hb dX6_pushes_70 (by decide) ?_
                        refine lv_aload_n hx hb dX6_pushes_79 rfl (lv_at hl 0 rfl) ?_
                        refine lv_iload_n hx hb dX6_pushes_80 rfl (lv_at hl 3 rfl) ?_
                        refine g_V (k_V (q0 := 0) (ci := 6) (n := 1) (As := [.int (nI r)]) (rest := []) (wc := [ob mo 6 [.ref u0, .ref u1, .ref u2, .ref u3, .ref u4, .ref u5, .int (nI sm), .int (nI sa), .int (nI le), .int (nI ra), .int (nI fa)], ar G u0 481 n4, ar G u3 800 m4, ar G u4 800 v4]) hx hb hml hown hts (c_X6_forms (l := l) (G := G) (mo := mo) (u0 := u0) (u1 := u1) (u2 := u2) (u3 := u3) (u4 := u4) (u5 := u5) (sm := sm) (sa := sa) (le := le) (ra := ra) (fa := fa) (σ := (fwI w (fwO (nn σ) (bareS σ) (16 - w)) r)) (nw := n4) (hR := hR2) (hB := hBr) (hT1 := (hF w r (by omega) hw (by omega) cw67).1) (r := r) (hr := (by rw [hnr]; omega)) (hfr := (hF w r (by omega) hw (by omega) cw67).2) (mk := m4) (vl := v4))  gX6_pushes_X6_forms rfl rfl rfl (by decide +kernel) ⟨Nat.le_of_ble_eq_true rfl, Nat.le_of_ble_eq_true rfl⟩ rfl hK hP hD [0, 1, 2, 3] rfl (by decide)  rfl rfl rfl hl.1 rfl (Nat.le_of_ble_eq_true rfl) dX6_pushes_81 ⟨Nat.le_of_ble_eq_true rfl, Nat.le_of_ble_eq_true rfl⟩) hP hD hS [0, 1, 2, 3] rfl (fun H locs hB81 back hS => ?_)
                        obtain ⟨nw181, mk181, vl181, hq81, hP1⟩ := hB81
                        obtain ⟨hP, hD⟩ := back [ob mo 6 [.ref u0, .ref u1, .ref u2, .ref u3, .ref u4, .ref u5, .int (nI sm), .int (nI sa), .int (nI le), .int (nI ra), .int (nI fa)], ar G u0 481 nw181, ar G u3 800 mk181, ar G u4 800 vl181] rfl hP1
                        have hP : va_P G.1 vwCl [ob mo 6 [.ref u0, .ref u1, .ref u2, .ref u3, .ref u4, .ref u5, .int (nI sm), .int (nI sa), .int (nI le), .int (nI ra), .int (nI fa)], ar G u0 481 nw181, ar G u3 800 mk181, ar G u4 800 vl181] H := hP
                        have hD : va_D A [ob mo 6 [.ref u0, .ref u1, .ref u2, .ref u3, .ref u4, .ref u5, .int (nI sm), .int (nI sa), .int (nI le), .int (nI ra), .int (nI fa)], ar G u0 481 nw181, ar G u3 800 mk181, ar G u4 800 vl181] := hD
                        refine r_iinc (v := r + 1) (lv' := [(3, .int (nI (r + 1))), (0, .ref mo), (1, .int (bI true)), (2, .int (nI w))]) hx hb dX6_pushes_84 hl (k := 3) rfl (nI_1 _) (by decide) rfl (fun ls hl => ?_)
                        refine lv_goto (tgt := 44) hx hb dX6_pushes_87 (by decide) ?_
                        exact ih44 (r + 1) nw181 mk181 vl181 (by omega) (by omega) (by rw [fwI_t cw67]; exact hq81) _ _ hP hD hS ls (lv_sub hl [1, 2, 3, 0] rfl)
              exact L44 ((nn σ + 1 - 0) + 1) 0 n3 m3 v3 (Nat.lt_succ_self _) (by omega) (hRw) _ _ hP hD hS ls (lv_sub hl [1, 2, 3, 0] rfl)
        exact L38 ((16 + 1) + 1) 16 g2 mk vl (Nat.lt_succ_self _) (by omega) (hR0) _ _ hP hD hS ls (lv_sub hl [1, 2, 0] rfl)
      · refine lv_aload_n hx hb dX6_pushes_8 rfl (lv_at hl 0 rfl) ?_
        refine va_get (D := G.1) (ci := 6) (v := .ref u0) (C := RX6) (T := TX6) (N := 11) hx hb hts iqX6_pushes_t_X6 hown hK.1 hP 0 rfl rfl 0 (by decide) (hts (.fieldLink RX6 7 "PushedTablesModel" "now" "[I") (List.mem_of_getElem? (i := 1) rfl)) (fun _ h9 => h9) rfl dX6_pushes_9 ?_
        refine lv_sipush (v := (nI 457)) hx hb dX6_pushes_12 (by decide) ?_
        refine lv_iload_n hx hb dX6_pushes_15 rfl (lv_at hl 2 rfl) ?_
        refine r_iadd (v := 457 + k) hx hb dX6_pushes_16 rfl ?_
        refine lv_iconst (v := (e1 1000)) hx hb dX6_pushes_17 (by decide) ?_
        refine r_iast (e1 := 457 + k) (x := (e1 1000)) (g := upd g2 (457 + k) (e1 1000)) hx hb hK.1 hP hD hS 1 0 rfl rfl (by omega) (by first | decide | assumption) (rfl) dX6_pushes_18 (fun H locs hP hD hS => ?_)
        have hP : va_P G.1 vwCl [ob mo 6 [.ref u0, .ref u1, .ref u2, .ref u3, .ref u4, .ref u5, .int (nI sm), .int (nI sa), .int (nI le), .int (nI ra), .int (nI fa)], ar G u0 481 (upd g2 (457 + k) (e1 1000)), ar G u3 800 mk, ar G u4 800 vl] H := hP
        have hD : va_D A [ob mo 6 [.ref u0, .ref u1, .ref u2, .ref u3, .ref u4, .ref u5, .int (nI sm), .int (nI sa), .int (nI le), .int (nI ra), .int (nI fa)], ar G u0 481 (upd g2 (457 + k) (e1 1000)), ar G u3 800 mk, ar G u4 800 vl] := hD
        refine lv_aload_n hx hb dX6_pushes_19 rfl (lv_at hl 0 rfl) ?_
        refine va_get (D := G.1) (ci := 6) (v := .ref u0) (C := RX6) (T := TX6) (N := 11) hx hb hts iqX6_pushes_t_X6 hown hK.1 hP 0 rfl rfl 0 (by decide) (hts (.fieldLink RX6 7 "PushedTablesModel" "now" "[I") (List.mem_of_getElem? (i := 1) rfl)) (fun _ h9 => h9) rfl dX6_pushes_20 ?_
        refine lv_bipush (v := (nI 49)) hx hb dX6_pushes_23 (by decide) ?_
        refine lv_iload_n hx hb dX6_pushes_25 rfl (lv_at hl 2 rfl) ?_
        refine r_iadd (v := 49 + k) hx hb dX6_pushes_26 rfl ?_
        refine lv_iconst (v := (e1 1000)) hx hb dX6_pushes_27 (by decide) ?_
        refine r_iast (e1 := 49 + k) (x := (e1 1000)) (g := upd (upd g2 (457 + k) (e1 1000)) (49 + k) (e1 1000)) hx hb hK.1 hP hD hS 1 0 rfl rfl (by omega) (by first | decide | assumption) (rfl) dX6_pushes_28 (fun H locs hP hD hS => ?_)
        have hP : va_P G.1 vwCl [ob mo 6 [.ref u0, .ref u1, .ref u2, .ref u3, .ref u4, .ref u5, .int (nI sm), .int (nI sa), .int (nI le), .int (nI ra), .int (nI fa)], ar G u0 481 (upd (upd g2 (457 + k) (e1 1000)) (49 + k) (e1 1000)), ar G u3 800 mk, ar G u4 800 vl] H := hP
        have hD : va_D A [ob mo 6 [.ref u0, .ref u1, .ref u2, .ref u3, .ref u4, .ref u5, .int (nI sm), .int (nI sa), .int (nI le), .int (nI ra), .int (nI fa)], ar G u0 481 (upd (upd g2 (457 + k) (e1 1000)) (49 + k) (e1 1000)), ar G u3 800 mk, ar G u4 800 vl] := hD
        refine r_iinc (v := k + 1) (lv' := [(2, .int (nI (k + 1))), (0, .ref mo), (1, .int (bI true))]) hx hb dX6_pushes_29 hl (k := 2) rfl (nI_1 _) (by decide) rfl (fun ls hl => ?_)
        refine lv_goto (tgt := 2) hx hb dX6_pushes_32 (by decide) ?_
        exact ih2 (k + 1) (upd (upd g2 (457 + k) (e1 1000)) (49 + k) (e1 1000)) (by omega) (by omega) (bpI_s hp (by omega)) _ _ hP hD hS ls (lv_sub hl [1, 2, 0] rfl)
  exact L2 ((25 - 0) + 1) 0 nw (Nat.lt_succ_self _) (by omega) (bpI_0 nw) _ _ hP hD hS ls (lv_sub hl [1, 2, 0] rfl)

theorem iqX6_pushes_f_X6 : ∀ w ∈ u_ws RX6 TX6 11, w ∈ wsX6_pushes := by decide +kernel
set_option maxHeartbeats 1000000 in
set_option maxRecDepth 100000 in
theorem c_X6_pushes_f (l : Launch) (G : kG) (mo u0 u1 u2 u3 u4 u5 sm sa le ra fa : Nat) (σ : Sg) (nw : Nat → Int32) (hR : Rel σ nw) (hB : Bd σ) (hF : ∀ k, k < nn σ → FP (fwN (bareS σ) k) k) (mk vl : Nat → Int32) : Met l yX6_pushes wsX6_pushes ({ frames := 3, cells := 0, slots := 0, locals := 69 } : Room) (cP G [.ref mo, .int (bI false)] [ob mo 6 [.ref u0, .ref u1, .ref u2, .ref u3, .ref u4, .ref u5, .int (nI sm), .int (nI sa), .int (nI le), .int (nI ra), .int (nI fa)], ar G u0 481 nw, ar G u3 800 mk, ar G u4 800 vl]) (qV (fun H => ∃ (nw1 : Nat → Int32) (mk1 : Nat → Int32) (vl1 : Nat → Int32), Rel (fwN (bareS σ) (nn σ)) nw1 ∧ va_P G.1 vwCl [ob mo 6 [.ref u0, .ref u1, .ref u2, .ref u3, .ref u4, .ref u5, .int (nI sm), .int (nI sa), .int (nI le), .int (nI ra), .int (nI fa)], ar G u0 481 nw1, ar G u3 800 mk1, ar G u4 800 vl1] H) (mA [ob mo 6 [.ref u0, .ref u1, .ref u2, .ref u3, .ref u4, .ref u5, .int (nI sm), .int (nI sa), .int (nI le), .int (nI ra), .int (nI fa)], ar G u0 481 nw, ar G u3 800 mk, ar G u4 800 vl])) 0 0 (mA [ob mo 6 [.ref u0, .ref u1, .ref u2, .ref u3, .ref u4, .ref u5, .int (nI sm), .int (nI sa), .int (nI le), .int (nI ra), .int (nI fa)], ar G u0 481 nw, ar G u3 800 mk, ar G u4 800 vl]) := by
  refine met_muV (cc := cX6_pushes) (maxL := 4) (own := RX6) (by decide) rfl rfl (Nat.le_of_ble_eq_true rfl) ?_
  intro p e s m args below meth cod Q A hx hb hml hown hts hK hP hD hS hret ls hl
  have hl : lv_has ls 4 [(0, .ref mo), (1, .int (bI false))] := hl
  have h24 := hB.n
  refine lv_iconst (v := (nI 0)) hx hb dX6_pushes_0 (by decide) ?_
  refine lv_istore_n (lv' := [(2, .int (nI 0)), (0, .ref mo), (1, .int (bI false))]) hx hb dX6_pushes_1 rfl hl (by decide) rfl (fun ls hl => ?_)
  have L2 : ∀ (fu : Nat) (k : Nat) (g2 : Nat → Int32), 25 - k < fu → k ≤ 24 → bpI nw g2 k → ∀ (H : Heap) (locs : List Loc), va_P G.1 vwCl [ob mo 6 [.ref u0, .ref u1, .ref u2, .ref u3, .ref u4, .ref u5, .int (nI sm), .int (nI sa), .int (nI le), .int (nI ra), .int (nI fa)], ar G u0 481 g2, ar G u3 800 mk, ar G u4 800 vl] H → va_D A [ob mo 6 [.ref u0, .ref u1, .ref u2, .ref u3, .ref u4, .ref u5, .int (nI sm), .int (nI sa), .int (nI le), .int (nI ra), .int (nI fa)], ar G u0 481 g2, ar G u3 800 mk, ar G u4 800 vl] → va_S A s.heap H locs → ∀ (ls : Array Slot), lv_has ls 4 [(0, .ref mo), (1, .int (bI false)), (2, .int (nI k))] → W p l e ({ frames := 3, cells := 0, slots := 0, locals := 69 } : Room) s m args below meth cod H locs 0 0 Q (F0 m 2 ls []) := by
    intro fu
    induction fu with
    | zero => intro k g2 hm; exact absurd hm (Nat.not_lt_zero _)
    | succ fu ih2 =>
      intro k g2 hm2 hk hp H locs hP hD hS ls hl
      have hP : va_P G.1 vwCl [ob mo 6 [.ref u0, .ref u1, .ref u2, .ref u3, .ref u4, .ref u5, .int (nI sm), .int (nI sa), .int (nI le), .int (nI ra), .int (nI fa)], ar G u0 481 g2, ar G u3 800 mk, ar G u4 800 vl] H := hP
      have hD : va_D A [ob mo 6 [.ref u0, .ref u1, .ref u2, .ref u3, .ref u4, .ref u5, .int (nI sm), .int (nI sa), .int (nI le), .int (nI ra), .int (nI fa)], ar G u0 481 g2, ar G u3 800 mk, ar G u4 800 vl] := hD
      refine lv_iload_n hx hb dX6_pushes_2 rfl (lv_at hl 2 rfl) ?_
      refine lv_bipush (v := (nI 24)) hx hb dX6_pushes_3 (by decide) ?_
      refine r_icmp_ge (P := 24 ≤ k) (tgt := 35) hx hb dX6_pushes_5 (by decide) (nI_leI (by omega) (by omega)) (fun cq5 => ?_) (fun cq5 => ?_)
      · obtain rfl : k = 24 := by omega
        have hR0 := Rel_br hR h24 hp.1 hp.2.1 hp.2.2.1 hp.2.2.2
        have hB0 := Bd_bare hB
        refine lv_bipush (v := (nI 16)) hx hb dX6_pushes_35 (by decide) ?_
        refine lv_istore_n (lv' := [(2, .int (nI 16)), (0, .ref mo), (1, .int (bI false))]) hx hb dX6_pushes_37 rfl hl (by decide) rfl (fun ls hl => ?_)
        have L38 : ∀ (fu : Nat) (w : Nat) (n3 : Nat → Int32) (m3 : Nat → Int32) (v3 : Nat → Int32), w + 1 < fu → w ≤ 16 → Rel (fnO w (bareS σ) (nn σ)) n3 → ∀ (H : Heap) (locs : List Loc), va_P G.1 vwCl [ob mo 6 [.ref u0, .ref u1, .ref u2, .ref u3, .ref u4, .ref u5, .int (nI sm), .int (nI sa), .int (nI le), .int (nI ra), .int (nI fa)], ar G u0 481 n3, ar G u3 800 m3, ar G u4 800 v3] H → va_D A [ob mo 6 [.ref u0, .ref u1, .ref u2, .ref u3, .ref u4, .ref u5, .int (nI sm), .int (nI sa), .int (nI le), .int (nI ra), .int (nI fa)], ar G u0 481 n3, ar G u3 800 m3, ar G u4 800 v3] → va_S A s.heap H locs → ∀ (ls : Array Slot), lv_has ls 4 [(0, .ref mo), (1, .int (bI false)), (2, .int (nI w))] → W p l e ({ frames := 3, cells := 0, slots := 0, locals := 69 } : Room) s m args below meth cod H locs 0 0 Q (F0 m 38 ls []) := by
          intro fu
          induction fu with
          | zero => intro w n3 m3 v3 hm; exact absurd hm (Nat.not_lt_zero _)
          | succ fu ih38 =>
            intro w n3 m3 v3 hm38 hw hRw H locs hP hD hS ls hl
            have hP : va_P G.1 vwCl [ob mo 6 [.ref u0, .ref u1, .ref u2, .ref u3, .ref u4, .ref u5, .int (nI sm), .int (nI sa), .int (nI le), .int (nI ra), .int (nI fa)], ar G u0 481 n3, ar G u3 800 m3, ar G u4 800 v3] H := hP
            have hD : va_D A [ob mo 6 [.ref u0, .ref u1, .ref u2, .ref u3, .ref u4, .ref u5, .int (nI sm), .int (nI sa), .int (nI le), .int (nI ra), .int (nI fa)], ar G u0 481 n3, ar G u3 800 m3, ar G u4 800 v3] := hD
            refine lv_iload_n hx hb dX6_pushes_38 rfl (lv_at hl 2 rfl) ?_
            refine r_if_le (P := w = 0) (tgt := 96) hx hb dX6_pushes_39 (by decide) (nI_le0 (by omega)) (fun cq39 => ?_) (fun cq39 => ?_)
            · obtain rfl : w = 0 := by omega
              exact hret _ _ _ _ hS dX6_pushes_96 (⟨n3, m3, v3, hRw, hP⟩)
            · refine lv_iconst (v := (nI 0)) hx hb dX6_pushes_42 (by decide) ?_
              refine lv_istore_n (lv' := [(3, .int (nI 0)), (0, .ref mo), (1, .int (bI false)), (2, .int (nI w))]) hx hb dX6_pushes_43 rfl hl (by decide) rfl (fun ls hl => ?_)
              have L44 : ∀ (fu : Nat) (r : Nat) (n4 : Nat → Int32) (m4 : Nat → Int32) (v4 : Nat → Int32), nn σ + 1 - r < fu → r ≤ nn σ → Rel (fnI w (bareS σ) (nn σ) r) n4 → ∀ (H : Heap) (locs : List Loc), va_P G.1 vwCl [ob mo 6 [.ref u0, .ref u1, .ref u2, .ref u3, .ref u4, .ref u5, .int (nI sm), .int (nI sa), .int (nI le), .int (nI ra), .int (nI fa)], ar G u0 481 n4, ar G u3 800 m4, ar G u4 800 v4] H → va_D A [ob mo 6 [.ref u0, .ref u1, .ref u2, .ref u3, .ref u4, .ref u5, .int (nI sm), .int (nI sa), .int (nI le), .int (nI ra), .int (nI fa)], ar G u0 481 n4, ar G u3 800 m4, ar G u4 800 v4] → va_S A s.heap H locs → ∀ (ls : Array Slot), lv_has ls 4 [(0, .ref mo), (1, .int (bI false)), (2, .int (nI w)), (3, .int (nI r))] → W p l e ({ frames := 3, cells := 0, slots := 0, locals := 69 } : Room) s m args below meth cod H locs 0 0 Q (F0 m 44 ls []) := by
                intro fu
                induction fu with
                | zero => intro r n4 m4 v4 hm; exact absurd hm (Nat.not_lt_zero _)
                | succ fu ih44 =>
                  intro r n4 m4 v4 hm44 hr hR2 H locs hP hD hS ls hl
                  have hP : va_P G.1 vwCl [ob mo 6 [.ref u0, .ref u1, .ref u2, .ref u3, .ref u4, .ref u5, .int (nI sm), .int (nI sa), .int (nI le), .int (nI ra), .int (nI fa)], ar G u0 481 n4, ar G u3 800 m4, ar G u4 800 v4] H := hP
                  have hD : va_D A [ob mo 6 [.ref u0, .ref u1, .ref u2, .ref u3, .ref u4, .ref u5, .int (nI sm), .int (nI sa), .int (nI le), .int (nI ra), .int (nI fa)], ar G u0 481 n4, ar G u3 800 m4, ar G u4 800 v4] := hD
                  refine lv_iload_n hx hb dX6_pushes_44 rfl (lv_at hl 3 rfl) ?_
                  have hnr : nn (fnI w (bareS σ) (nn σ) r) = nn σ := by unfold fnI; split <;> exact nn_fwN _ _
                  refine lv_aload_n hx hb dX6_pushes_45 rfl (lv_at hl 0 rfl) ?_
                  refine va_get (D := G.1) (ci := 6) (v := .ref u0) (C := RX6) (T := TX6) (N := 11) hx hb hts iqX6_pushes_f_X6 hown hK.1 hP 0 rfl rfl 0 (by decide) (hts (.fieldLink RX6 7 "PushedTablesModel" "now" "[I") (List.mem_of_getElem? (i := 1) rfl)) (fun _ h9 => h9) rfl dX6_pushes_46 ?_
                  refine lv_iconst (v := (nI 0)) hx hb dX6_pushes_49 (by decide) ?_
                  refine r_iald (e1 := 0) (v := (nI (nn σ))) hx hb hK.1 hP 1 0 rfl rfl (by omega) (by first | decide | assumption) (hR2.n.trans (congrArg nI hnr)) dX6_pushes_50 ?_
                  refine r_icmp_ge (P := (nn σ) ≤ r) (tgt := 90) hx hb dX6_pushes_51 (by decide) (nI_leI (by omega) (by omega)) (fun cq51 => ?_) (fun cq51 => ?_)
                  · have hre : r = nn σ := by omega
                    rw [hre] at hR2
                    refine r_iinc (v := w - 1) (lv' := [(2, .int (nI (w - 1))), (0, .ref mo), (1, .int (bI false)), (3, .int (nI r))]) hx hb dX6_pushes_90 hl (k := 2) rfl (r_dec (by omega)) (by decide) rfl (fun ls hl => ?_)
                    refine lv_goto (tgt := 38) hx hb dX6_pushes_93 (by decide) ?_
                    exact ih38 (w - 1) n4 m4 v4 (by omega) (by omega) (by have e : fnO (w - 1) (bareS σ) (nn σ) = fnI w (bareS σ) (nn σ) (nn σ) := (by unfold fnO fnI; rw [if_neg (by omega)]; split <;> rfl); rw [e]; exact hR2) _ _ hP hD hS ls (lv_sub hl [1, 2, 0] rfl)
                  · refine lv_iload_n hx hb dX6_pushes_54 rfl (lv_at hl 1 rfl) ?_
                    refine r_if_eq (P := false = false) (tgt := 73) hx hb dX6_pushes_55 (by decide) (bI_eq0) (fun cq55 => ?_) (fun cq55 => ?_)
                    · refine lv_iload_n hx hb dX6_pushes_73 rfl (lv_at hl 2 rfl) ?_
                      refine lv_bipush (v := (nI 16)) hx hb dX6_pushes_74 (by decide) ?_
                      refine r_icmp_ne (P := w = 16) (tgt := 84) hx hb dX6_pushes_76 (by decide) (nI_eq (by omega) (by omega)) (fun cq76 => ?_) (fun cq76 => ?_)
                      · refine r_iinc (v := r + 1) (lv' := [(3, .int (nI (r + 1))), (0, .ref mo), (1, .int (bI false)), (2, .int (nI w))]) hx hb dX6_pushes_84 hl (k := 3) rfl (nI_1 _) (by decide) rfl (fun ls hl => ?_)
                        refine lv_goto (tgt := 44) hx hb dX6_pushes_87 (by decide) ?_
                        exact ih44 (r + 1) n4 m4 v4 (by omega) (by omega) (by rw [fnI_f cq76]; rw [fnI_f cq76] at hR2; exact hR2) _ _ hP hD hS ls (lv_sub hl [1, 2, 3, 0] rfl)
                      · have hRr : Rel (fwN (bareS σ) r) n4 := by rw [fnI_t cq76] at hR2; exact hR2
                        refine lv_aload_n hx hb dX6_pushes_79 rfl (lv_at hl 0 rfl) ?_
                        refine lv_iload_n hx hb dX6_pushes_80 rfl (lv_at hl 3 rfl) ?_
                        refine g_V (k_V (q0 := 0) (ci := 6) (n := 1) (As := [.int (nI r)]) (rest := []) (wc := [ob mo 6 [.ref u0, .ref u1, .ref u2, .ref u3, .ref u4, .ref u5, .int (nI sm), .int (nI sa), .int (nI le), .int (nI ra), .int (nI fa)], ar G u0 481 n4, ar G u3 800 m4, ar G u4 800 v4]) hx hb hml hown hts (c_X6_forms (l := l) (G := G) (mo := mo) (u0 := u0) (u1 := u1) (u2 := u2) (u3 := u3) (u4 := u4) (u5 := u5) (sm := sm) (sa := sa) (le := le) (ra := ra) (fa := fa) (σ := (fwN (bareS σ) r)) (nw := n4) (hR := hRr) (hB := (Bd_fwN hB0 r)) (hT1 := (hF r (by omega)).1) (r := r) (hr := (by rw [nn_fwN]; show r < nn σ; omega)) (hfr := (hF r (by omega)).2) (mk := m4) (vl := v4))  gX6_pushes_X6_forms rfl rfl rfl (by decide +kernel) ⟨Nat.le_of_ble_eq_true rfl, Nat.le_of_ble_eq_true rfl⟩ rfl hK hP hD [0, 1, 2, 3] rfl (by decide)  rfl rfl rfl hl.1 rfl (Nat.le_of_ble_eq_true rfl) dX6_pushes_81 ⟨Nat.le_of_ble_eq_true rfl, Nat.le_of_ble_eq_true rfl⟩) hP hD hS [0, 1, 2, 3] rfl (fun H locs hB81 back hS => ?_)
                        obtain ⟨nw181, mk181, vl181, hq81, hP1⟩ := hB81
                        obtain ⟨hP, hD⟩ := back [ob mo 6 [.ref u0, .ref u1, .ref u2, .ref u3, .ref u4, .ref u5, .int (nI sm), .int (nI sa), .int (nI le), .int (nI ra), .int (nI fa)], ar G u0 481 nw181, ar G u3 800 mk181, ar G u4 800 vl181] rfl hP1
                        have hP : va_P G.1 vwCl [ob mo 6 [.ref u0, .ref u1, .ref u2, .ref u3, .ref u4, .ref u5, .int (nI sm), .int (nI sa), .int (nI le), .int (nI ra), .int (nI fa)], ar G u0 481 nw181, ar G u3 800 mk181, ar G u4 800 vl181] H := hP
                        have hD : va_D A [ob mo 6 [.ref u0, .ref u1, .ref u2, .ref u3, .ref u4, .ref u5, .int (nI sm), .int (nI sa), .int (nI le), .int (nI ra), .int (nI fa)], ar G u0 481 nw181, ar G u3 800 mk181, ar G u4 800 vl181] := hD
                        refine r_iinc (v := r + 1) (lv' := [(3, .int (nI (r + 1))), (0, .ref mo), (1, .int (bI false)), (2, .int (nI w))]) hx hb dX6_pushes_84 hl (k := 3) rfl (nI_1 _) (by decide) rfl (fun ls hl => ?_)
                        refine lv_goto (tgt := 44) hx hb dX6_pushes_87 (by decide) ?_
                        exact ih44 (r + 1) nw181 mk181 vl181 (by omega) (by omega) (by rw [fnI_t cq76]; exact hq81) _ _ hP hD hS ls (lv_sub hl [1, 2, 3, 0] rfl)
                    · exact absurd rfl cq55
              exact L44 ((nn σ + 1 - 0) + 1) 0 n3 m3 v3 (Nat.lt_succ_self _) (by omega) (by have e : fnI w (bareS σ) (nn σ) 0 = fnO w (bareS σ) (nn σ) := rfl; rw [e]; exact hRw) _ _ hP hD hS ls (lv_sub hl [1, 2, 3, 0] rfl)
        exact L38 ((16 + 1) + 1) 16 g2 mk vl (Nat.lt_succ_self _) (by omega) (hR0) _ _ hP hD hS ls (lv_sub hl [1, 2, 0] rfl)
      · refine lv_aload_n hx hb dX6_pushes_8 rfl (lv_at hl 0 rfl) ?_
        refine va_get (D := G.1) (ci := 6) (v := .ref u0) (C := RX6) (T := TX6) (N := 11) hx hb hts iqX6_pushes_f_X6 hown hK.1 hP 0 rfl rfl 0 (by decide) (hts (.fieldLink RX6 7 "PushedTablesModel" "now" "[I") (List.mem_of_getElem? (i := 1) rfl)) (fun _ h9 => h9) rfl dX6_pushes_9 ?_
        refine lv_sipush (v := (nI 457)) hx hb dX6_pushes_12 (by decide) ?_
        refine lv_iload_n hx hb dX6_pushes_15 rfl (lv_at hl 2 rfl) ?_
        refine r_iadd (v := 457 + k) hx hb dX6_pushes_16 rfl ?_
        refine lv_iconst (v := (e1 1000)) hx hb dX6_pushes_17 (by decide) ?_
        refine r_iast (e1 := 457 + k) (x := (e1 1000)) (g := upd g2 (457 + k) (e1 1000)) hx hb hK.1 hP hD hS 1 0 rfl rfl (by omega) (by first | decide | assumption) (rfl) dX6_pushes_18 (fun H locs hP hD hS => ?_)
        have hP : va_P G.1 vwCl [ob mo 6 [.ref u0, .ref u1, .ref u2, .ref u3, .ref u4, .ref u5, .int (nI sm), .int (nI sa), .int (nI le), .int (nI ra), .int (nI fa)], ar G u0 481 (upd g2 (457 + k) (e1 1000)), ar G u3 800 mk, ar G u4 800 vl] H := hP
        have hD : va_D A [ob mo 6 [.ref u0, .ref u1, .ref u2, .ref u3, .ref u4, .ref u5, .int (nI sm), .int (nI sa), .int (nI le), .int (nI ra), .int (nI fa)], ar G u0 481 (upd g2 (457 + k) (e1 1000)), ar G u3 800 mk, ar G u4 800 vl] := hD
        refine lv_aload_n hx hb dX6_pushes_19 rfl (lv_at hl 0 rfl) ?_
        refine va_get (D := G.1) (ci := 6) (v := .ref u0) (C := RX6) (T := TX6) (N := 11) hx hb hts iqX6_pushes_f_X6 hown hK.1 hP 0 rfl rfl 0 (by decide) (hts (.fieldLink RX6 7 "PushedTablesModel" "now" "[I") (List.mem_of_getElem? (i := 1) rfl)) (fun _ h9 => h9) rfl dX6_pushes_20 ?_
        refine lv_bipush (v := (nI 49)) hx hb dX6_pushes_23 (by decide) ?_
        refine lv_iload_n hx hb dX6_pushes_25 rfl (lv_at hl 2 rfl) ?_
        refine r_iadd (v := 49 + k) hx hb dX6_pushes_26 rfl ?_
        refine lv_iconst (v := (e1 1000)) hx hb dX6_pushes_27 (by decide) ?_
        refine r_iast (e1 := 49 + k) (x := (e1 1000)) (g := upd (upd g2 (457 + k) (e1 1000)) (49 + k) (e1 1000)) hx hb hK.1 hP hD hS 1 0 rfl rfl (by omega) (by first | decide | assumption) (rfl) dX6_pushes_28 (fun H locs hP hD hS => ?_)
        have hP : va_P G.1 vwCl [ob mo 6 [.ref u0, .ref u1, .ref u2, .ref u3, .ref u4, .ref u5, .int (nI sm), .int (nI sa), .int (nI le), .int (nI ra), .int (nI fa)], ar G u0 481 (upd (upd g2 (457 + k) (e1 1000)) (49 + k) (e1 1000)), ar G u3 800 mk, ar G u4 800 vl] H := hP
        have hD : va_D A [ob mo 6 [.ref u0, .ref u1, .ref u2, .ref u3, .ref u4, .ref u5, .int (nI sm), .int (nI sa), .int (nI le), .int (nI ra), .int (nI fa)], ar G u0 481 (upd (upd g2 (457 + k) (e1 1000)) (49 + k) (e1 1000)), ar G u3 800 mk, ar G u4 800 vl] := hD
        refine r_iinc (v := k + 1) (lv' := [(2, .int (nI (k + 1))), (0, .ref mo), (1, .int (bI false))]) hx hb dX6_pushes_29 hl (k := 2) rfl (nI_1 _) (by decide) rfl (fun ls hl => ?_)
        refine lv_goto (tgt := 2) hx hb dX6_pushes_32 (by decide) ?_
        exact ih2 (k + 1) (upd (upd g2 (457 + k) (e1 1000)) (49 + k) (e1 1000)) (by omega) (by omega) (bpI_s hp (by omega)) _ _ hP hD hS ls (lv_sub hl [1, 2, 0] rfl)
  exact L2 ((25 - 0) + 1) 0 nw (Nat.lt_succ_self _) (by omega) (bpI_0 nw) _ _ hP hD hS ls (lv_sub hl [1, 2, 0] rfl)

theorem iqX6_end_X6 : ∀ w ∈ u_ws RX6 TX6 11, w ∈ wsX6_end := by decide +kernel
set_option maxHeartbeats 1000000 in
set_option maxRecDepth 100000 in
theorem c_X6_end (l : Launch) (G : kG) (mo u0 u1 u2 u3 u4 u5 sm sa le ra fa : Nat) (σ : Sg) (nw : Nat → Int32) (hR : Rel σ nw) (hB : Bd σ) (hT1 : ∀ r, r < nn σ → ff σ r ≠ 1000 → ss σ (ff σ r) ≤ 784) (mk vl : Nat → Int32) : Met l yX6_end wsX6_end ({ frames := 2, cells := 0, slots := 0, locals := 44 } : Room) (cP G [.ref mo] [ob mo 6 [.ref u0, .ref u1, .ref u2, .ref u3, .ref u4, .ref u5, .int (nI sm), .int (nI sa), .int (nI le), .int (nI ra), .int (nI fa)], ar G u0 481 nw, ar G u3 800 mk, ar G u4 800 vl]) (qI (fun rv H => ∃ (mk1 : Nat → Int32) (vl1 : Nat → Int32), rv = (nI (endc (rsM σ))) ∧ va_P G.1 vwCl [ob mo 6 [.ref u0, .ref u1, .ref u2, .ref u3, .ref u4, .ref u5, .int (nI sm), .int (nI sa), .int (nI le), .int (nI ra), .int (nI fa)], ar G u0 481 nw, ar G u3 800 mk1, ar G u4 800 vl1] H) (mA [ob mo 6 [.ref u0, .ref u1, .ref u2, .ref u3, .ref u4, .ref u5, .int (nI sm), .int (nI sa), .int (nI le), .int (nI ra), .int (nI fa)], ar G u0 481 nw, ar G u3 800 mk, ar G u4 800 vl])) 0 0 (mA [ob mo 6 [.ref u0, .ref u1, .ref u2, .ref u3, .ref u4, .ref u5, .int (nI sm), .int (nI sa), .int (nI le), .int (nI ra), .int (nI fa)], ar G u0 481 nw, ar G u3 800 mk, ar G u4 800 vl]) := by
  refine met_muI (cc := cX6_end) (maxL := 3) (ty := .int) (own := RX6) (by decide) rfl rfl (fun _ _ _ => rfl) (Nat.le_of_ble_eq_true rfl) ?_
  intro p e s m args below meth cod Q A hx hb hml hown hts hK hP hD hS hret ls hl
  have hl : lv_has ls 3 [(0, .ref mo)] := hl
  refine lv_aload_n hx hb dX6_end_0 rfl (lv_at hl 0 rfl) ?_
  refine g_V (k_V (q0 := 0) (ci := 6) (n := 0) (As := []) (rest := []) (wc := [ob mo 6 [.ref u0, .ref u1, .ref u2, .ref u3, .ref u4, .ref u5, .int (nI sm), .int (nI sa), .int (nI le), .int (nI ra), .int (nI fa)], ar G u0 481 nw, ar G u3 800 mk, ar G u4 800 vl]) hx hb hml hown hts (c_X6_layStore (l := l) (G := G) (mo := mo) (u0 := u0) (u1 := u1) (u2 := u2) (u3 := u3) (u4 := u4) (u5 := u5) (sm := sm) (sa := sa) (le := le) (ra := ra) (fa := fa) (σ := by first | assumption | omega) (nw := nw) (hR := by first | assumption | omega) (hB := by first | assumption | omega) (hT1 := by first | assumption | omega) (mk := mk) (vl := vl))  gX6_end_X6_layStore rfl rfl rfl (by decide +kernel) ⟨Nat.le_of_ble_eq_true rfl, Nat.le_of_ble_eq_true rfl⟩ rfl hK hP hD [0, 1, 2, 3] rfl (by decide)  rfl rfl rfl hl.1 rfl (Nat.le_of_ble_eq_true rfl) dX6_end_1 ⟨Nat.le_of_ble_eq_true rfl, Nat.le_of_ble_eq_true rfl⟩) hP hD hS [0, 1, 2, 3] rfl (fun H locs hB1 back hS => ?_)
  obtain ⟨mk11, vl11, hq1, hP1⟩ := hB1
  obtain ⟨hP, hD⟩ := back [ob mo 6 [.ref u0, .ref u1, .ref u2, .ref u3, .ref u4, .ref u5, .int (nI sm), .int (nI sa), .int (nI le), .int (nI ra), .int (nI fa)], ar G u0 481 nw, ar G u3 800 mk11, ar G u4 800 vl11] rfl hP1
  have hP : va_P G.1 vwCl [ob mo 6 [.ref u0, .ref u1, .ref u2, .ref u3, .ref u4, .ref u5, .int (nI sm), .int (nI sa), .int (nI le), .int (nI ra), .int (nI fa)], ar G u0 481 nw, ar G u3 800 mk11, ar G u4 800 vl11] H := hP
  have hD : va_D A [ob mo 6 [.ref u0, .ref u1, .ref u2, .ref u3, .ref u4, .ref u5, .int (nI sm), .int (nI sa), .int (nI le), .int (nI ra), .int (nI fa)], ar G u0 481 nw, ar G u3 800 mk11, ar G u4 800 vl11] := hD
  refine lv_iconst (v := (nI 0)) hx hb dX6_end_4 (by decide) ?_
  refine lv_istore_n (lv' := [(1, .int (nI 0)), (0, .ref mo)]) hx hb dX6_end_5 rfl hl (by decide) rfl (fun ls hl => ?_)
  refine lv_iconst (v := (nI 0)) hx hb dX6_end_6 (by decide) ?_
  refine lv_istore_n (lv' := [(2, .int (nI 0)), (1, .int (nI 0)), (0, .ref mo)]) hx hb dX6_end_7 rfl hl (by decide) rfl (fun ls hl => ?_)
  have L8 : ∀ (fu : Nat) (c : Nat) (e8 : Nat), 801 - c < fu → c ≤ 800 → e8 = lst (nem (rsM σ)) c → ∀ (H : Heap) (locs : List Loc), va_P G.1 vwCl [ob mo 6 [.ref u0, .ref u1, .ref u2, .ref u3, .ref u4, .ref u5, .int (nI sm), .int (nI sa), .int (nI le), .int (nI ra), .int (nI fa)], ar G u0 481 nw, ar G u3 800 mk11, ar G u4 800 vl11] H → va_D A [ob mo 6 [.ref u0, .ref u1, .ref u2, .ref u3, .ref u4, .ref u5, .int (nI sm), .int (nI sa), .int (nI le), .int (nI ra), .int (nI fa)], ar G u0 481 nw, ar G u3 800 mk11, ar G u4 800 vl11] → va_S A s.heap H locs → ∀ (ls : Array Slot), lv_has ls 3 [(0, .ref mo), (1, .int (nI e8)), (2, .int (nI c))] → W p l e ({ frames := 2, cells := 0, slots := 0, locals := 44 } : Room) s m args below meth cod H locs 0 0 Q (F0 m 8 ls []) := by
    intro fu
    induction fu with
    | zero => intro c e8 hm; exact absurd hm (Nat.not_lt_zero _)
    | succ fu ih8 =>
      intro c e8 hm8 hc he8 H locs hP hD hS ls hl
      have hP : va_P G.1 vwCl [ob mo 6 [.ref u0, .ref u1, .ref u2, .ref u3, .ref u4, .ref u5, .int (nI sm), .int (nI sa), .int (nI le), .int (nI ra), .int (nI fa)], ar G u0 481 nw, ar G u3 800 mk11, ar G u4 800 vl11] H := hP
      have hD : va_D A [ob mo 6 [.ref u0, .ref u1, .ref u2, .ref u3, .ref u4, .ref u5, .int (nI sm), .int (nI sa), .int (nI le), .int (nI ra), .int (nI fa)], ar G u0 481 nw, ar G u3 800 mk11, ar G u4 800 vl11] := hD
      refine lv_iload_n hx hb dX6_end_8 rfl (lv_at hl 2 rfl) ?_
      refine lv_sipush (v := (nI 800)) hx hb dX6_end_9 (by decide) ?_
      refine r_icmp_ge (P := 800 ≤ c) (tgt := 39) hx hb dX6_end_12 (by decide) (nI_leI (by omega) (by omega)) (fun cq12 => ?_) (fun cq12 => ?_)
      · refine lv_iload_n hx hb dX6_end_39 rfl (lv_at hl 1 rfl) ?_
        exact hret _ _ _ _ _ hS dX6_end_40 (⟨mk11, vl11, by have e : c = 800 := (by omega); rw [he8, e]; rfl, hP⟩)
      · have bm : rsM σ c < 24 ∨ rsM σ c = 1000 := rsT_Bc hB (nn σ) c
        refine lv_aload_n hx hb dX6_end_15 rfl (lv_at hl 0 rfl) ?_
        refine va_get (D := G.1) (ci := 6) (v := .ref u3) (C := RX6) (T := TX6) (N := 11) hx hb hts iqX6_end_X6 hown hK.1 hP 0 rfl rfl 3 (by decide) (hts (.fieldLink RX6 19 "PushedTablesModel" "marks" "[I") (List.mem_of_getElem? (i := 1) rfl)) (fun _ h9 => h9) rfl dX6_end_16 ?_
        refine lv_iload_n hx hb dX6_end_19 rfl (lv_at hl 2 rfl) ?_
        refine r_iald (e1 := c) (v := (e1 (rsM σ c))) hx hb hK.1 hP 2 0 rfl rfl (by omega) (by first | decide | assumption) ((hq1 _ (by omega)).1) dX6_end_20 ?_
        refine lv_iconst (v := (e1 1000)) hx hb dX6_end_21 (by decide) ?_
        refine r_icmp_ne (P := (rsM σ c) = 1000) (tgt := 29) hx hb dX6_end_22 (by decide) (e1_inj (by omega) (by omega)) (fun cq22 => ?_) (fun cq22 => ?_)
        · refine lv_iload_n hx hb dX6_end_29 rfl (lv_at hl 2 rfl) ?_
          refine lv_iconst (v := (nI 1)) hx hb dX6_end_30 (by decide) ?_
          refine r_iadd (v := c + 1) hx hb dX6_end_31 rfl ?_
          refine lv_istore_n (lv' := [(1, .int (nI (c + 1))), (0, .ref mo), (2, .int (nI c))]) hx hb dX6_end_32 rfl hl (by decide) rfl (fun ls hl => ?_)
          refine r_iinc (v := c + 1) (lv' := [(2, .int (nI (c + 1))), (1, .int (nI (c + 1))), (0, .ref mo)]) hx hb dX6_end_33 hl (k := 2) rfl (nI_1 _) (by decide) rfl (fun ls hl => ?_)
          refine lv_goto (tgt := 8) hx hb dX6_end_36 (by decide) ?_
          exact ih8 (c + 1) (c + 1) (by omega) (by omega) ((lst_t (p := nem (rsM σ)) (decide_eq_true cq22)).symm) _ _ hP hD hS ls (lv_sub hl [2, 1, 0] rfl)
        · refine lv_iload_n hx hb dX6_end_25 rfl (lv_at hl 1 rfl) ?_
          refine lv_goto (tgt := 32) hx hb dX6_end_26 (by decide) ?_
          refine lv_istore_n (lv' := [(1, .int (nI e8)), (0, .ref mo), (2, .int (nI c))]) hx hb dX6_end_32 rfl hl (by decide) rfl (fun ls hl => ?_)
          refine r_iinc (v := c + 1) (lv' := [(2, .int (nI (c + 1))), (1, .int (nI e8)), (0, .ref mo)]) hx hb dX6_end_33 hl (k := 2) rfl (nI_1 _) (by decide) rfl (fun ls hl => ?_)
          refine lv_goto (tgt := 8) hx hb dX6_end_36 (by decide) ?_
          exact ih8 (c + 1) e8 (by omega) (by omega) (he8.trans (lst_f (p := nem (rsM σ)) (decide_eq_false (fun z => z cq22))).symm) _ _ hP hD hS ls (lv_sub hl [2, 1, 0] rfl)
  exact L8 ((801 - 0) + 1) 0 0 (Nat.lt_succ_self _) (by omega) (rfl) _ _ hP hD hS ls (lv_sub hl [2, 1, 0] rfl)

theorem iqX6_full_X6 : ∀ w ∈ u_ws RX6 TX6 11, w ∈ wsX6_full := by decide +kernel
set_option maxHeartbeats 1000000 in
set_option maxRecDepth 100000 in
theorem c_X6_full (l : Launch) (G : kG) (mo u0 u1 u2 u3 u4 u5 sm sa le ra fa : Nat) (σ : Sg) (nw : Nat → Int32) (hR : Rel σ nw) (hB : Bd σ) (hT1 : ∀ r, r < nn σ → ff σ r ≠ 1000 → ss σ (ff σ r) ≤ 784) (mk vl : Nat → Int32) : Met l yX6_full wsX6_full ({ frames := 2, cells := 0, slots := 0, locals := 44 } : Room) (cP G [.ref mo] [ob mo 6 [.ref u0, .ref u1, .ref u2, .ref u3, .ref u4, .ref u5, .int (nI sm), .int (nI sa), .int (nI le), .int (nI ra), .int (nI fa)], ar G u0 481 nw, ar G u3 800 mk, ar G u4 800 vl]) (qI (fun rv H => ∃ (mk1 : Nat → Int32) (vl1 : Nat → Int32), rv = (nI (fil (rsM σ))) ∧ va_P G.1 vwCl [ob mo 6 [.ref u0, .ref u1, .ref u2, .ref u3, .ref u4, .ref u5, .int (nI sm), .int (nI sa), .int (nI le), .int (nI ra), .int (nI fa)], ar G u0 481 nw, ar G u3 800 mk1, ar G u4 800 vl1] H) (mA [ob mo 6 [.ref u0, .ref u1, .ref u2, .ref u3, .ref u4, .ref u5, .int (nI sm), .int (nI sa), .int (nI le), .int (nI ra), .int (nI fa)], ar G u0 481 nw, ar G u3 800 mk, ar G u4 800 vl])) 0 0 (mA [ob mo 6 [.ref u0, .ref u1, .ref u2, .ref u3, .ref u4, .ref u5, .int (nI sm), .int (nI sa), .int (nI le), .int (nI ra), .int (nI fa)], ar G u0 481 nw, ar G u3 800 mk, ar G u4 800 vl]) := by
  refine met_muI (cc := cX6_full) (maxL := 3) (ty := .int) (own := RX6) (by decide) rfl rfl (fun _ _ _ => rfl) (Nat.le_of_ble_eq_true rfl) ?_
  intro p e s m args below meth cod Q A hx hb hml hown hts hK hP hD hS hret ls hl
  have hl : lv_has ls 3 [(0, .ref mo)] := hl
  refine lv_aload_n hx hb dX6_full_0 rfl (lv_at hl 0 rfl) ?_
  refine g_V (k_V (q0 := 0) (ci := 6) (n := 0) (As := []) (rest := []) (wc := [ob mo 6 [.ref u0, .ref u1, .ref u2, .ref u3, .ref u4, .ref u5, .int (nI sm), .int (nI sa), .int (nI le), .int (nI ra), .int (nI fa)], ar G u0 481 nw, ar G u3 800 mk, ar G u4 800 vl]) hx hb hml hown hts (c_X6_layStore (l := l) (G := G) (mo := mo) (u0 := u0) (u1 := u1) (u2 := u2) (u3 := u3) (u4 := u4) (u5 := u5) (sm := sm) (sa := sa) (le := le) (ra := ra) (fa := fa) (σ := by first | assumption | omega) (nw := nw) (hR := by first | assumption | omega) (hB := by first | assumption | omega) (hT1 := by first | assumption | omega) (mk := mk) (vl := vl))  gX6_full_X6_layStore rfl rfl rfl (by decide +kernel) ⟨Nat.le_of_ble_eq_true rfl, Nat.le_of_ble_eq_true rfl⟩ rfl hK hP hD [0, 1, 2, 3] rfl (by decide)  rfl rfl rfl hl.1 rfl (Nat.le_of_ble_eq_true rfl) dX6_full_1 ⟨Nat.le_of_ble_eq_true rfl, Nat.le_of_ble_eq_true rfl⟩) hP hD hS [0, 1, 2, 3] rfl (fun H locs hB1 back hS => ?_)
  obtain ⟨mk11, vl11, hq1, hP1⟩ := hB1
  obtain ⟨hP, hD⟩ := back [ob mo 6 [.ref u0, .ref u1, .ref u2, .ref u3, .ref u4, .ref u5, .int (nI sm), .int (nI sa), .int (nI le), .int (nI ra), .int (nI fa)], ar G u0 481 nw, ar G u3 800 mk11, ar G u4 800 vl11] rfl hP1
  have hP : va_P G.1 vwCl [ob mo 6 [.ref u0, .ref u1, .ref u2, .ref u3, .ref u4, .ref u5, .int (nI sm), .int (nI sa), .int (nI le), .int (nI ra), .int (nI fa)], ar G u0 481 nw, ar G u3 800 mk11, ar G u4 800 vl11] H := hP
  have hD : va_D A [ob mo 6 [.ref u0, .ref u1, .ref u2, .ref u3, .ref u4, .ref u5, .int (nI sm), .int (nI sa), .int (nI le), .int (nI ra), .int (nI fa)], ar G u0 481 nw, ar G u3 800 mk11, ar G u4 800 vl11] := hD
  refine lv_iconst (v := (nI 0)) hx hb dX6_full_4 (by decide) ?_
  refine lv_istore_n (lv' := [(1, .int (nI 0)), (0, .ref mo)]) hx hb dX6_full_5 rfl hl (by decide) rfl (fun ls hl => ?_)
  refine lv_iconst (v := (nI 0)) hx hb dX6_full_6 (by decide) ?_
  refine lv_istore_n (lv' := [(2, .int (nI 0)), (1, .int (nI 0)), (0, .ref mo)]) hx hb dX6_full_7 rfl hl (by decide) rfl (fun ls hl => ?_)
  have L8 : ∀ (fu : Nat) (c : Nat) (e8 : Nat), 801 - c < fu → c ≤ 800 → e8 = fb_ct (nem (rsM σ)) c → e8 ≤ c → ∀ (H : Heap) (locs : List Loc), va_P G.1 vwCl [ob mo 6 [.ref u0, .ref u1, .ref u2, .ref u3, .ref u4, .ref u5, .int (nI sm), .int (nI sa), .int (nI le), .int (nI ra), .int (nI fa)], ar G u0 481 nw, ar G u3 800 mk11, ar G u4 800 vl11] H → va_D A [ob mo 6 [.ref u0, .ref u1, .ref u2, .ref u3, .ref u4, .ref u5, .int (nI sm), .int (nI sa), .int (nI le), .int (nI ra), .int (nI fa)], ar G u0 481 nw, ar G u3 800 mk11, ar G u4 800 vl11] → va_S A s.heap H locs → ∀ (ls : Array Slot), lv_has ls 3 [(0, .ref mo), (1, .int (nI e8)), (2, .int (nI c))] → W p l e ({ frames := 2, cells := 0, slots := 0, locals := 44 } : Room) s m args below meth cod H locs 0 0 Q (F0 m 8 ls []) := by
    intro fu
    induction fu with
    | zero => intro c e8 hm; exact absurd hm (Nat.not_lt_zero _)
    | succ fu ih8 =>
      intro c e8 hm8 hc he8 hel H locs hP hD hS ls hl
      have hP : va_P G.1 vwCl [ob mo 6 [.ref u0, .ref u1, .ref u2, .ref u3, .ref u4, .ref u5, .int (nI sm), .int (nI sa), .int (nI le), .int (nI ra), .int (nI fa)], ar G u0 481 nw, ar G u3 800 mk11, ar G u4 800 vl11] H := hP
      have hD : va_D A [ob mo 6 [.ref u0, .ref u1, .ref u2, .ref u3, .ref u4, .ref u5, .int (nI sm), .int (nI sa), .int (nI le), .int (nI ra), .int (nI fa)], ar G u0 481 nw, ar G u3 800 mk11, ar G u4 800 vl11] := hD
      refine lv_iload_n hx hb dX6_full_8 rfl (lv_at hl 2 rfl) ?_
      refine lv_sipush (v := (nI 800)) hx hb dX6_full_9 (by decide) ?_
      refine r_icmp_ge (P := 800 ≤ c) (tgt := 39) hx hb dX6_full_12 (by decide) (nI_leI (by omega) (by omega)) (fun cq12 => ?_) (fun cq12 => ?_)
      · refine lv_iload_n hx hb dX6_full_39 rfl (lv_at hl 1 rfl) ?_
        exact hret _ _ _ _ _ hS dX6_full_40 (⟨mk11, vl11, by have e : c = 800 := (by omega); rw [he8, e]; rfl, hP⟩)
      · have bm : rsM σ c < 24 ∨ rsM σ c = 1000 := rsT_Bc hB (nn σ) c
        refine lv_iload_n hx hb dX6_full_15 rfl (lv_at hl 1 rfl) ?_
        refine lv_aload_n hx hb dX6_full_16 rfl (lv_at hl 0 rfl) ?_
        refine va_get (D := G.1) (ci := 6) (v := .ref u3) (C := RX6) (T := TX6) (N := 11) hx hb hts iqX6_full_X6 hown hK.1 hP 0 rfl rfl 3 (by decide) (hts (.fieldLink RX6 19 "PushedTablesModel" "marks" "[I") (List.mem_of_getElem? (i := 1) rfl)) (fun _ h9 => h9) rfl dX6_full_17 ?_
        refine lv_iload_n hx hb dX6_full_20 rfl (lv_at hl 2 rfl) ?_
        refine r_iald (e1 := c) (v := (e1 (rsM σ c))) hx hb hK.1 hP 2 0 rfl rfl (by omega) (by first | decide | assumption) ((hq1 _ (by omega)).1) dX6_full_21 ?_
        refine lv_iconst (v := (e1 1000)) hx hb dX6_full_22 (by decide) ?_
        refine r_icmp_ne (P := (rsM σ c) = 1000) (tgt := 30) hx hb dX6_full_23 (by decide) (e1_inj (by omega) (by omega)) (fun cq23 => ?_) (fun cq23 => ?_)
        · refine lv_iconst (v := (nI 1)) hx hb dX6_full_30 (by decide) ?_
          refine r_iadd (v := e8 + 1) hx hb dX6_full_31 rfl ?_
          refine lv_istore_n (lv' := [(1, .int (nI (e8 + 1))), (0, .ref mo), (2, .int (nI c))]) hx hb dX6_full_32 rfl hl (by decide) rfl (fun ls hl => ?_)
          refine r_iinc (v := c + 1) (lv' := [(2, .int (nI (c + 1))), (1, .int (nI (e8 + 1))), (0, .ref mo)]) hx hb dX6_full_33 hl (k := 2) rfl (nI_1 _) (by decide) rfl (fun ls hl => ?_)
          refine lv_goto (tgt := 8) hx hb dX6_full_36 (by decide) ?_
          exact ih8 (c + 1) (e8 + 1) (by omega) (by omega) (ct_t (p := nem (rsM σ)) (decide_eq_true cq23) he8) (by omega) _ _ hP hD hS ls (lv_sub hl [2, 1, 0] rfl)
        · refine lv_iconst (v := (nI 0)) hx hb dX6_full_26 (by decide) ?_
          refine lv_goto (tgt := 31) hx hb dX6_full_27 (by decide) ?_
          refine r_iadd (v := e8 + 0) hx hb dX6_full_31 rfl ?_
          refine lv_istore_n (lv' := [(1, .int (nI (e8 + 0))), (0, .ref mo), (2, .int (nI c))]) hx hb dX6_full_32 rfl hl (by decide) rfl (fun ls hl => ?_)
          refine r_iinc (v := c + 1) (lv' := [(2, .int (nI (c + 1))), (1, .int (nI (e8 + 0))), (0, .ref mo)]) hx hb dX6_full_33 hl (k := 2) rfl (nI_1 _) (by decide) rfl (fun ls hl => ?_)
          refine lv_goto (tgt := 8) hx hb dX6_full_36 (by decide) ?_
          exact ih8 (c + 1) (e8 + 0) (by omega) (by omega) (ct_f (p := nem (rsM σ)) (decide_eq_false (fun z => z cq23)) he8) (by omega) _ _ hP hD hS ls (lv_sub hl [2, 1, 0] rfl)
  exact L8 ((801 - 0) + 1) 0 0 (Nat.lt_succ_self _) (by omega) (rfl) (by omega) _ _ hP hD hS ls (lv_sub hl [2, 1, 0] rfl)

set_option maxHeartbeats 1000000 in
set_option maxRecDepth 100000 in
theorem c_X6_push_ok (l : Launch) (G : kG) (mo u0 u1 u2 u3 u4 u5 sm sa le ra fa : Nat) (σ : Sg) (nw : Nat → Int32) (hR : Rel σ nw) (hB : Bd σ) (bf sts : Nat → Int32) (hsa : sa < 5) (hsm : sm ≤ 5) (hF : ∀ w k, 1 ≤ w → w ≤ 16 → k < nn σ → wt (fwI w (fwO (nn σ) (bareS σ) (16 - w)) k) k = w → FP (fwI w (fwO (nn σ) (bareS σ) (16 - w)) k) k) (hT2 : ∀ r, r < nn σ → ff (fwO (nn σ) (bareS σ) 16) r ≠ 1000 → ss (fwO (nn σ) (bareS σ) 16) (ff (fwO (nn σ) (bareS σ) 16) r) ≤ 784) (mk vl : Nat → Int32) : Met l yX6_push wsX6_push ({ frames := 4, cells := 0, slots := 0, locals := 92 } : Room) (cP G [.ref mo] [ob mo 6 [.ref u0, .ref u1, .ref u2, .ref u3, .ref u4, .ref u5, .int (nI sm), .int (nI sa), .int (nI le), .int (nI ra), .int (nI fa)], ar G u0 481 nw, ar G u1 481 bf, ar G u2 2405 sts, ar G u3 800 mk, ar G u4 800 vl]) (qI (fun rv H => ∃ (nw1 : Nat → Int32) (bf1 : Nat → Int32) (sts1 : Nat → Int32) (sm1 : Nat) (mk1 : Nat → Int32) (vl1 : Nat → Int32), rv = (nI (endc (rsM (fwO (nn σ) (bareS σ) 16)))) ∧ (sm1 = (if sm < 5 then sm + 1 else 5)) ∧ sts1 = fb_put sts nw (481 * sa) 481 ∧ Rel (fwO (nn σ) (bareS σ) 16) nw1 ∧ va_P G.1 vwCl [ob mo 6 [.ref u0, .ref u1, .ref u2, .ref u3, .ref u4, .ref u5, .int (nI sm1), .int (nI ((sa + 1) % 5)), .int (nI le), .int (nI ra), .int (nI fa)], ar G u0 481 nw1, ar G u1 481 bf1, ar G u2 2405 sts1, ar G u3 800 mk1, ar G u4 800 vl1] H) (mA [ob mo 6 [.ref u0, .ref u1, .ref u2, .ref u3, .ref u4, .ref u5, .int (nI sm), .int (nI sa), .int (nI le), .int (nI ra), .int (nI fa)], ar G u0 481 nw, ar G u1 481 bf, ar G u2 2405 sts, ar G u3 800 mk, ar G u4 800 vl])) 0 0 (mA [ob mo 6 [.ref u0, .ref u1, .ref u2, .ref u3, .ref u4, .ref u5, .int (nI sm), .int (nI sa), .int (nI le), .int (nI ra), .int (nI fa)], ar G u0 481 nw, ar G u1 481 bf, ar G u2 2405 sts, ar G u3 800 mk, ar G u4 800 vl]) := by
  refine met_muI (cc := cX6_push) (maxL := 1) (ty := .int) (own := RX6) (by decide) rfl rfl (fun _ _ _ => rfl) (Nat.le_of_ble_eq_true rfl) ?_
  intro p e s m args below meth cod Q A hx hb hml hown hts hK hP hD hS hret ls hl
  have hl : lv_has ls 1 [(0, .ref mo)] := hl
  refine lv_aload_n hx hb dX6_push_0 rfl (lv_at hl 0 rfl) ?_
  refine g_V (k_V (q0 := 0) (ci := 6) (n := 0) (As := []) (rest := []) (wc := [ob mo 6 [.ref u0, .ref u1, .ref u2, .ref u3, .ref u4, .ref u5, .int (nI sm), .int (nI sa), .int (nI le), .int (nI ra), .int (nI fa)], ar G u0 481 nw, ar G u1 481 bf, ar G u2 2405 sts]) hx hb hml hown hts (c_X6_remember (l := l) (G := G) (mo := mo) (u0 := u0) (u1 := u1) (u2 := u2) (u3 := u3) (u4 := u4) (u5 := u5) (sm := sm) (sa := sa) (le := le) (ra := ra) (fa := fa) (nw := nw) (bf := bf) (sts := sts) (hsa := by first | assumption | omega) (hsm := by first | assumption | omega))  gX6_push_X6_remember rfl rfl rfl (by decide +kernel) ⟨Nat.le_of_ble_eq_true rfl, Nat.le_of_ble_eq_true rfl⟩ rfl hK hP hD [0, 1, 2, 3] rfl (by decide)  rfl rfl rfl hl.1 rfl (Nat.le_of_ble_eq_true rfl) dX6_push_1 ⟨Nat.le_of_ble_eq_true rfl, Nat.le_of_ble_eq_true rfl⟩) hP hD hS [0, 1, 2, 3] rfl (fun H locs hB1 back hS => ?_)
  obtain ⟨sm11, bf11, sts11, hqs1, hqt1, hP1⟩ := hB1
  obtain ⟨hP, hD⟩ := back [ob mo 6 [.ref u0, .ref u1, .ref u2, .ref u3, .ref u4, .ref u5, .int (nI sm11), .int (nI ((sa + 1) % 5)), .int (nI le), .int (nI ra), .int (nI fa)], ar G u0 481 nw, ar G u1 481 bf11, ar G u2 2405 sts11] rfl hP1
  have hP : va_P G.1 vwCl [ob mo 6 [.ref u0, .ref u1, .ref u2, .ref u3, .ref u4, .ref u5, .int (nI sm11), .int (nI ((sa + 1) % 5)), .int (nI le), .int (nI ra), .int (nI fa)], ar G u0 481 nw, ar G u1 481 bf11, ar G u2 2405 sts11, ar G u3 800 mk, ar G u4 800 vl] H := hP
  have hD : va_D A [ob mo 6 [.ref u0, .ref u1, .ref u2, .ref u3, .ref u4, .ref u5, .int (nI sm11), .int (nI ((sa + 1) % 5)), .int (nI le), .int (nI ra), .int (nI fa)], ar G u0 481 nw, ar G u1 481 bf11, ar G u2 2405 sts11, ar G u3 800 mk, ar G u4 800 vl] := hD
  refine lv_aload_n hx hb dX6_push_4 rfl (lv_at hl 0 rfl) ?_
  refine lv_iconst (v := (bI true)) hx hb dX6_push_5 (by decide) ?_
  refine g_V (k_V (q0 := 0) (ci := 6) (n := 1) (As := [.int (bI true)]) (rest := []) (wc := [ob mo 6 [.ref u0, .ref u1, .ref u2, .ref u3, .ref u4, .ref u5, .int (nI sm11), .int (nI ((sa + 1) % 5)), .int (nI le), .int (nI ra), .int (nI fa)], ar G u0 481 nw, ar G u3 800 mk, ar G u4 800 vl]) hx hb hml hown hts (c_X6_pushes_t (l := l) (G := G) (mo := mo) (u0 := u0) (u1 := u1) (u2 := u2) (u3 := u3) (u4 := u4) (u5 := u5) (sm := sm11) (sa := ((sa + 1) % 5)) (le := le) (ra := ra) (fa := fa) (σ := σ) (nw := nw) (hR := hR) (hB := hB) (hF := by first | assumption | omega) (mk := mk) (vl := vl))  gX6_push_X6_pushes rfl rfl rfl (by decide +kernel) ⟨Nat.le_of_ble_eq_true rfl, Nat.le_of_ble_eq_true rfl⟩ rfl hK hP hD [0, 1, 4, 5] rfl (by decide)  rfl rfl rfl hl.1 rfl (Nat.le_of_ble_eq_true rfl) dX6_push_6 ⟨Nat.le_of_ble_eq_true rfl, Nat.le_of_ble_eq_true rfl⟩) hP hD hS [0, 1, 4, 5] rfl (fun H locs hB6 back hS => ?_)
  obtain ⟨nw16, mk16, vl16, hq6, hP1⟩ := hB6
  obtain ⟨hP, hD⟩ := back [ob mo 6 [.ref u0, .ref u1, .ref u2, .ref u3, .ref u4, .ref u5, .int (nI sm11), .int (nI ((sa + 1) % 5)), .int (nI le), .int (nI ra), .int (nI fa)], ar G u0 481 nw16, ar G u3 800 mk16, ar G u4 800 vl16] rfl hP1
  have hP : va_P G.1 vwCl [ob mo 6 [.ref u0, .ref u1, .ref u2, .ref u3, .ref u4, .ref u5, .int (nI sm11), .int (nI ((sa + 1) % 5)), .int (nI le), .int (nI ra), .int (nI fa)], ar G u0 481 nw16, ar G u1 481 bf11, ar G u2 2405 sts11, ar G u3 800 mk16, ar G u4 800 vl16] H := hP
  have hD : va_D A [ob mo 6 [.ref u0, .ref u1, .ref u2, .ref u3, .ref u4, .ref u5, .int (nI sm11), .int (nI ((sa + 1) % 5)), .int (nI le), .int (nI ra), .int (nI fa)], ar G u0 481 nw16, ar G u1 481 bf11, ar G u2 2405 sts11, ar G u3 800 mk16, ar G u4 800 vl16] := hD
  have hBt := Bd_fwO (n := nn σ) (Bd_bare hB) 16
  refine lv_aload_n hx hb dX6_push_9 rfl (lv_at hl 0 rfl) ?_
  refine g_I (k_V (q0 := 0) (ci := 6) (n := 0) (As := []) (rest := []) (wc := [ob mo 6 [.ref u0, .ref u1, .ref u2, .ref u3, .ref u4, .ref u5, .int (nI sm11), .int (nI ((sa + 1) % 5)), .int (nI le), .int (nI ra), .int (nI fa)], ar G u0 481 nw16, ar G u3 800 mk16, ar G u4 800 vl16]) hx hb hml hown hts (c_X6_end (l := l) (G := G) (mo := mo) (u0 := u0) (u1 := u1) (u2 := u2) (u3 := u3) (u4 := u4) (u5 := u5) (sm := sm11) (sa := ((sa + 1) % 5)) (le := le) (ra := ra) (fa := fa) (σ := (fwO (nn σ) (bareS σ) 16)) (nw := nw16) (hR := hq6) (hB := hBt) (hT1 := (fun r hr => hT2 r (by rw [nn_fwO, nn_bare] at hr; exact hr))) (mk := mk16) (vl := vl16))  gX6_push_X6_end rfl rfl rfl (by decide +kernel) ⟨Nat.le_of_ble_eq_true rfl, Nat.le_of_ble_eq_true rfl⟩ rfl hK hP hD [0, 1, 4, 5] rfl (by decide)  rfl rfl rfl hl.1 rfl (Nat.le_of_ble_eq_true rfl) dX6_push_10 ⟨Nat.le_of_ble_eq_true rfl, Nat.le_of_ble_eq_true rfl⟩) hP hD hS [0, 1, 4, 5] rfl (fun r10 H locs hB10 back hS => ?_)
  obtain ⟨mk110, vl110, he10, hP1⟩ := hB10
  obtain rfl := Eq.symm he10
  obtain ⟨hP, hD⟩ := back [ob mo 6 [.ref u0, .ref u1, .ref u2, .ref u3, .ref u4, .ref u5, .int (nI sm11), .int (nI ((sa + 1) % 5)), .int (nI le), .int (nI ra), .int (nI fa)], ar G u0 481 nw16, ar G u3 800 mk110, ar G u4 800 vl110] rfl hP1
  have hP : va_P G.1 vwCl [ob mo 6 [.ref u0, .ref u1, .ref u2, .ref u3, .ref u4, .ref u5, .int (nI sm11), .int (nI ((sa + 1) % 5)), .int (nI le), .int (nI ra), .int (nI fa)], ar G u0 481 nw16, ar G u1 481 bf11, ar G u2 2405 sts11, ar G u3 800 mk110, ar G u4 800 vl110] H := hP
  have hD : va_D A [ob mo 6 [.ref u0, .ref u1, .ref u2, .ref u3, .ref u4, .ref u5, .int (nI sm11), .int (nI ((sa + 1) % 5)), .int (nI le), .int (nI ra), .int (nI fa)], ar G u0 481 nw16, ar G u1 481 bf11, ar G u2 2405 sts11, ar G u3 800 mk110, ar G u4 800 vl110] := hD
  exact hret _ _ _ _ _ hS dX6_push_13 (⟨nw16, bf11, sts11, sm11, mk110, vl110, rfl, hqs1, hqt1, hq6, hP⟩)

set_option maxHeartbeats 1000000 in
set_option maxRecDepth 100000 in
theorem c_X6_endBy_0 (l : Launch) (G : kG) (mo u0 u1 u2 u3 u4 u5 sm sa le ra fa : Nat) (σ : Sg) (nw : Nat → Int32) (hR : Rel σ nw) (hB : Bd σ) (bf : Nat → Int32) (hF : ∀ w k, 1 ≤ w → w ≤ 16 → k < nn σ → wt (fwI w (fwO (nn σ) (bareS σ) (16 - w)) k) k = w → FP (fwI w (fwO (nn σ) (bareS σ) (16 - w)) k) k) (hT2 : ∀ r, r < nn σ → ff (fwO (nn σ) (bareS σ) 16) r ≠ 1000 → ss (fwO (nn σ) (bareS σ) 16) (ff (fwO (nn σ) (bareS σ) 16) r) ≤ 784) (mk vl : Nat → Int32) : Met l yX6_endBy wsX6_endBy ({ frames := 4, cells := 0, slots := 0, locals := 92 } : Room) (cP G [.ref mo, .int (nI 0)] [ob mo 6 [.ref u0, .ref u1, .ref u2, .ref u3, .ref u4, .ref u5, .int (nI sm), .int (nI sa), .int (nI le), .int (nI ra), .int (nI fa)], ar G u0 481 nw, ar G u1 481 bf, ar G u3 800 mk, ar G u4 800 vl]) (qI (fun rv H => ∃ (nw1 : Nat → Int32) (bf1 : Nat → Int32) (mk1 : Nat → Int32) (vl1 : Nat → Int32), rv = (nI (endc (rsM (fwO (nn σ) (bareS σ) 16)))) ∧ Rel σ nw1 ∧ va_P G.1 vwCl [ob mo 6 [.ref u0, .ref u1, .ref u2, .ref u3, .ref u4, .ref u5, .int (nI sm), .int (nI sa), .int (nI le), .int (nI ra), .int (nI fa)], ar G u0 481 nw1, ar G u1 481 bf1, ar G u3 800 mk1, ar G u4 800 vl1] H) (mA [ob mo 6 [.ref u0, .ref u1, .ref u2, .ref u3, .ref u4, .ref u5, .int (nI sm), .int (nI sa), .int (nI le), .int (nI ra), .int (nI fa)], ar G u0 481 nw, ar G u1 481 bf, ar G u3 800 mk, ar G u4 800 vl])) 0 0 (mA [ob mo 6 [.ref u0, .ref u1, .ref u2, .ref u3, .ref u4, .ref u5, .int (nI sm), .int (nI sa), .int (nI le), .int (nI ra), .int (nI fa)], ar G u0 481 nw, ar G u1 481 bf, ar G u3 800 mk, ar G u4 800 vl]) := by
  refine met_muI (cc := cX6_endBy) (maxL := 3) (ty := .int) (own := RX6) (by decide) rfl rfl (fun _ _ _ => rfl) (Nat.le_of_ble_eq_true rfl) ?_
  intro p e s m args below meth cod Q A hx hb hml hown hts hK hP hD hS hret ls hl
  have hl : lv_has ls 3 [(0, .ref mo), (1, .int (nI 0))] := hl
  refine lv_iload_n hx hb dX6_endBy_0 rfl (lv_at hl 1 rfl) ?_
  refine lv_iconst (v := (nI 0)) hx hb dX6_endBy_1 (by decide) ?_
  refine lv_iconst (v := (nI 1)) hx hb dX6_endBy_2 (by decide) ?_
  refine g_ro (k_S (n := 3) (As := [.int (nI 0), .int (nI 0), .int (nI 1)]) (rest := []) (wc := []) hx hb hml hown hts (c_X6_in (l := l) (G := G) (xa := nI 0) (xb := nI 0) (xc := nI 1))  gX6_endBy_X6_in rfl rfl rfl (by decide +kernel) ⟨Nat.le_of_ble_eq_true rfl, Nat.le_of_ble_eq_true rfl⟩ rfl hK hP hD [] rfl (by decide)  hl.1 rfl (Nat.le_of_ble_eq_true rfl) dX6_endBy_3 ⟨Nat.le_of_ble_eq_true rfl, Nat.le_of_ble_eq_true rfl⟩) (fun r3 h3 => ?_)
  obtain rfl : (bI (ing (nI 0) (nI 0) (nI 1))) = r3 := Eq.symm h3
  refine r_if_ne (P := (ing (nI 0) (nI 0) (nI 1)) = false) (tgt := 11) hx hb dX6_endBy_6 (by decide) (bI_eq0) (fun cq6 => ?_) (fun cq6 => ?_)
  · refine lv_aload_n hx hb dX6_endBy_11 rfl (lv_at hl 0 rfl) ?_
    refine g_V (k_V (q0 := 0) (ci := 6) (n := 0) (As := []) (rest := []) (wc := [ob mo 6 [.ref u0, .ref u1, .ref u2, .ref u3, .ref u4, .ref u5, .int (nI sm), .int (nI sa), .int (nI le), .int (nI ra), .int (nI fa)], ar G u0 481 nw, ar G u1 481 bf]) hx hb hml hown hts (c_X6_copy (l := l) (G := G) (mo := mo) (u0 := u0) (u1 := u1) (u2 := u2) (u3 := u3) (u4 := u4) (u5 := u5) (sm := sm) (sa := sa) (le := le) (ra := ra) (fa := fa) (nw := nw) (bf := bf))  gX6_endBy_X6_copy rfl rfl rfl (by decide +kernel) ⟨Nat.le_of_ble_eq_true rfl, Nat.le_of_ble_eq_true rfl⟩ rfl hK hP hD [0, 1, 2] rfl (by decide)  rfl rfl rfl hl.1 rfl (Nat.le_of_ble_eq_true rfl) dX6_endBy_12 ⟨Nat.le_of_ble_eq_true rfl, Nat.le_of_ble_eq_true rfl⟩) hP hD hS [0, 1, 2] rfl (fun H locs hB12 back hS => ?_)
    obtain ⟨bf112, hq12, hP1⟩ := hB12
    obtain ⟨hP, hD⟩ := back [ob mo 6 [.ref u0, .ref u1, .ref u2, .ref u3, .ref u4, .ref u5, .int (nI sm), .int (nI sa), .int (nI le), .int (nI ra), .int (nI fa)], ar G u0 481 nw, ar G u1 481 bf112] rfl hP1
    have hP : va_P G.1 vwCl [ob mo 6 [.ref u0, .ref u1, .ref u2, .ref u3, .ref u4, .ref u5, .int (nI sm), .int (nI sa), .int (nI le), .int (nI ra), .int (nI fa)], ar G u0 481 nw, ar G u1 481 bf112, ar G u3 800 mk, ar G u4 800 vl] H := hP
    have hD : va_D A [ob mo 6 [.ref u0, .ref u1, .ref u2, .ref u3, .ref u4, .ref u5, .int (nI sm), .int (nI sa), .int (nI le), .int (nI ra), .int (nI fa)], ar G u0 481 nw, ar G u1 481 bf112, ar G u3 800 mk, ar G u4 800 vl] := hD
    refine lv_aload_n hx hb dX6_endBy_15 rfl (lv_at hl 0 rfl) ?_
    refine lv_iload_n hx hb dX6_endBy_16 rfl (lv_at hl 1 rfl) ?_
    refine r_if_ne (P := 0 = 0) (tgt := 24) hx hb dX6_endBy_17 (by decide) (nI_eq0 (by omega)) (fun cq17 => ?_) (fun cq17 => ?_)
    · exact absurd rfl cq17
    · refine lv_iconst (v := (bI true)) hx hb dX6_endBy_20 (by decide) ?_
      refine lv_goto (tgt := 25) hx hb dX6_endBy_21 (by decide) ?_
      refine g_V (k_V (q0 := 0) (ci := 6) (n := 1) (As := [.int (bI true)]) (rest := []) (wc := [ob mo 6 [.ref u0, .ref u1, .ref u2, .ref u3, .ref u4, .ref u5, .int (nI sm), .int (nI sa), .int (nI le), .int (nI ra), .int (nI fa)], ar G u0 481 nw, ar G u3 800 mk, ar G u4 800 vl]) hx hb hml hown hts (c_X6_pushes_t (l := l) (G := G) (mo := mo) (u0 := u0) (u1 := u1) (u2 := u2) (u3 := u3) (u4 := u4) (u5 := u5) (sm := sm) (sa := sa) (le := le) (ra := ra) (fa := fa) (σ := σ) (nw := nw) (hR := hR) (hB := hB) (hF := by first | assumption | omega) (mk := mk) (vl := vl))  gX6_endBy_X6_pushes rfl rfl rfl (by decide +kernel) ⟨Nat.le_of_ble_eq_true rfl, Nat.le_of_ble_eq_true rfl⟩ rfl hK hP hD [0, 1, 3, 4] rfl (by decide)  rfl rfl rfl hl.1 rfl (Nat.le_of_ble_eq_true rfl) dX6_endBy_25 ⟨Nat.le_of_ble_eq_true rfl, Nat.le_of_ble_eq_true rfl⟩) hP hD hS [0, 1, 3, 4] rfl (fun H locs hB25 back hS => ?_)
      obtain ⟨nw125, mk125, vl125, hq25, hP1⟩ := hB25
      obtain ⟨hP, hD⟩ := back [ob mo 6 [.ref u0, .ref u1, .ref u2, .ref u3, .ref u4, .ref u5, .int (nI sm), .int (nI sa), .int (nI le), .int (nI ra), .int (nI fa)], ar G u0 481 nw125, ar G u3 800 mk125, ar G u4 800 vl125] rfl hP1
      have hP : va_P G.1 vwCl [ob mo 6 [.ref u0, .ref u1, .ref u2, .ref u3, .ref u4, .ref u5, .int (nI sm), .int (nI sa), .int (nI le), .int (nI ra), .int (nI fa)], ar G u0 481 nw125, ar G u1 481 bf112, ar G u3 800 mk125, ar G u4 800 vl125] H := hP
      have hD : va_D A [ob mo 6 [.ref u0, .ref u1, .ref u2, .ref u3, .ref u4, .ref u5, .int (nI sm), .int (nI sa), .int (nI le), .int (nI ra), .int (nI fa)], ar G u0 481 nw125, ar G u1 481 bf112, ar G u3 800 mk125, ar G u4 800 vl125] := hD
      have hBt := Bd_fwO (n := nn σ) (Bd_bare hB) 16
      have h24 := hB.n
      refine lv_aload_n hx hb dX6_endBy_28 rfl (lv_at hl 0 rfl) ?_
      refine g_I (k_V (q0 := 0) (ci := 6) (n := 0) (As := []) (rest := []) (wc := [ob mo 6 [.ref u0, .ref u1, .ref u2, .ref u3, .ref u4, .ref u5, .int (nI sm), .int (nI sa), .int (nI le), .int (nI ra), .int (nI fa)], ar G u0 481 nw125, ar G u3 800 mk125, ar G u4 800 vl125]) hx hb hml hown hts (c_X6_end (l := l) (G := G) (mo := mo) (u0 := u0) (u1 := u1) (u2 := u2) (u3 := u3) (u4 := u4) (u5 := u5) (sm := sm) (sa := sa) (le := le) (ra := ra) (fa := fa) (σ := (fwO (nn σ) (bareS σ) 16)) (nw := nw125) (hR := hq25) (hB := hBt) (hT1 := (fun r hr => hT2 r (by rw [nn_fwO, nn_bare] at hr; exact hr))) (mk := mk125) (vl := vl125))  gX6_endBy_X6_end rfl rfl rfl (by decide +kernel) ⟨Nat.le_of_ble_eq_true rfl, Nat.le_of_ble_eq_true rfl⟩ rfl hK hP hD [0, 1, 3, 4] rfl (by decide)  rfl rfl rfl hl.1 rfl (Nat.le_of_ble_eq_true rfl) dX6_endBy_29 ⟨Nat.le_of_ble_eq_true rfl, Nat.le_of_ble_eq_true rfl⟩) hP hD hS [0, 1, 3, 4] rfl (fun r29 H locs hB29 back hS => ?_)
      obtain ⟨mk129, vl129, he29, hP1⟩ := hB29
      obtain rfl := Eq.symm he29
      obtain ⟨hP, hD⟩ := back [ob mo 6 [.ref u0, .ref u1, .ref u2, .ref u3, .ref u4, .ref u5, .int (nI sm), .int (nI sa), .int (nI le), .int (nI ra), .int (nI fa)], ar G u0 481 nw125, ar G u3 800 mk129, ar G u4 800 vl129] rfl hP1
      have hP : va_P G.1 vwCl [ob mo 6 [.ref u0, .ref u1, .ref u2, .ref u3, .ref u4, .ref u5, .int (nI sm), .int (nI sa), .int (nI le), .int (nI ra), .int (nI fa)], ar G u0 481 nw125, ar G u1 481 bf112, ar G u3 800 mk129, ar G u4 800 vl129] H := hP
      have hD : va_D A [ob mo 6 [.ref u0, .ref u1, .ref u2, .ref u3, .ref u4, .ref u5, .int (nI sm), .int (nI sa), .int (nI le), .int (nI ra), .int (nI fa)], ar G u0 481 nw125, ar G u1 481 bf112, ar G u3 800 mk129, ar G u4 800 vl129] := hD
      refine lv_istore_n (lv' := [(2, .int (nI (endc (rsM (fwO (nn σ) (bareS σ) 16))))), (0, .ref mo), (1, .int (nI 0))]) hx hb dX6_endBy_32 rfl hl (by decide) rfl (fun ls hl => ?_)
      refine lv_aload_n hx hb dX6_endBy_33 rfl (lv_at hl 1 rfl) ?_
      refine g_V (k_V (q0 := 0) (ci := 6) (n := 0) (As := []) (rest := []) (wc := [ob mo 6 [.ref u0, .ref u1, .ref u2, .ref u3, .ref u4, .ref u5, .int (nI sm), .int (nI sa), .int (nI le), .int (nI ra), .int (nI fa)], ar G u0 481 nw125, ar G u1 481 bf112]) hx hb hml hown hts (c_X6_back (l := l) (G := G) (mo := mo) (u0 := u0) (u1 := u1) (u2 := u2) (u3 := u3) (u4 := u4) (u5 := u5) (sm := sm) (sa := sa) (le := le) (ra := ra) (fa := fa) (nw := nw125) (bf := bf112))  gX6_endBy_X6_back rfl rfl rfl (by decide +kernel) ⟨Nat.le_of_ble_eq_true rfl, Nat.le_of_ble_eq_true rfl⟩ rfl hK hP hD [0, 1, 2] rfl (by decide)  rfl rfl rfl hl.1 rfl (Nat.le_of_ble_eq_true rfl) dX6_endBy_34 ⟨Nat.le_of_ble_eq_true rfl, Nat.le_of_ble_eq_true rfl⟩) hP hD hS [0, 1, 2] rfl (fun H locs hB34 back hS => ?_)
      obtain ⟨nw134, hq34, hP1⟩ := hB34
      obtain ⟨hP, hD⟩ := back [ob mo 6 [.ref u0, .ref u1, .ref u2, .ref u3, .ref u4, .ref u5, .int (nI sm), .int (nI sa), .int (nI le), .int (nI ra), .int (nI fa)], ar G u0 481 nw134, ar G u1 481 bf112] rfl hP1
      have hP : va_P G.1 vwCl [ob mo 6 [.ref u0, .ref u1, .ref u2, .ref u3, .ref u4, .ref u5, .int (nI sm), .int (nI sa), .int (nI le), .int (nI ra), .int (nI fa)], ar G u0 481 nw134, ar G u1 481 bf112, ar G u3 800 mk129, ar G u4 800 vl129] H := hP
      have hD : va_D A [ob mo 6 [.ref u0, .ref u1, .ref u2, .ref u3, .ref u4, .ref u5, .int (nI sm), .int (nI sa), .int (nI le), .int (nI ra), .int (nI fa)], ar G u0 481 nw134, ar G u1 481 bf112, ar G u3 800 mk129, ar G u4 800 vl129] := hD
      refine lv_iload_n hx hb dX6_endBy_37 rfl (lv_at hl 0 rfl) ?_
      exact hret _ _ _ _ _ hS dX6_endBy_38 (⟨nw134, bf112, mk129, vl129, rfl, Rel_cong hR h24 (fun j hj => (hq34 j hj).trans (hq12 j hj)), hP⟩)
  · exact (no_f (ing_ok (by omega) (by omega) (by decide)) cq6).elim

set_option maxHeartbeats 1000000 in
set_option maxRecDepth 100000 in
theorem c_X6_endBy_1 (l : Launch) (G : kG) (mo u0 u1 u2 u3 u4 u5 sm sa le ra fa : Nat) (σ : Sg) (nw : Nat → Int32) (hR : Rel σ nw) (hB : Bd σ) (bf : Nat → Int32) (hF : ∀ k, k < nn σ → FP (fwN (bareS σ) k) k) (hT2 : ∀ r, r < nn σ → ff (fwN (bareS σ) (nn σ)) r ≠ 1000 → ss (fwN (bareS σ) (nn σ)) (ff (fwN (bareS σ) (nn σ)) r) ≤ 784) (mk vl : Nat → Int32) : Met l yX6_endBy wsX6_endBy ({ frames := 4, cells := 0, slots := 0, locals := 92 } : Room) (cP G [.ref mo, .int (nI 1)] [ob mo 6 [.ref u0, .ref u1, .ref u2, .ref u3, .ref u4, .ref u5, .int (nI sm), .int (nI sa), .int (nI le), .int (nI ra), .int (nI fa)], ar G u0 481 nw, ar G u1 481 bf, ar G u3 800 mk, ar G u4 800 vl]) (qI (fun rv H => ∃ (nw1 : Nat → Int32) (bf1 : Nat → Int32) (mk1 : Nat → Int32) (vl1 : Nat → Int32), rv = (nI (endc (rsM (fwN (bareS σ) (nn σ))))) ∧ Rel σ nw1 ∧ va_P G.1 vwCl [ob mo 6 [.ref u0, .ref u1, .ref u2, .ref u3, .ref u4, .ref u5, .int (nI sm), .int (nI sa), .int (nI le), .int (nI ra), .int (nI fa)], ar G u0 481 nw1, ar G u1 481 bf1, ar G u3 800 mk1, ar G u4 800 vl1] H) (mA [ob mo 6 [.ref u0, .ref u1, .ref u2, .ref u3, .ref u4, .ref u5, .int (nI sm), .int (nI sa), .int (nI le), .int (nI ra), .int (nI fa)], ar G u0 481 nw, ar G u1 481 bf, ar G u3 800 mk, ar G u4 800 vl])) 0 0 (mA [ob mo 6 [.ref u0, .ref u1, .ref u2, .ref u3, .ref u4, .ref u5, .int (nI sm), .int (nI sa), .int (nI le), .int (nI ra), .int (nI fa)], ar G u0 481 nw, ar G u1 481 bf, ar G u3 800 mk, ar G u4 800 vl]) := by
  refine met_muI (cc := cX6_endBy) (maxL := 3) (ty := .int) (own := RX6) (by decide) rfl rfl (fun _ _ _ => rfl) (Nat.le_of_ble_eq_true rfl) ?_
  intro p e s m args below meth cod Q A hx hb hml hown hts hK hP hD hS hret ls hl
  have hl : lv_has ls 3 [(0, .ref mo), (1, .int (nI 1))] := hl
  refine lv_iload_n hx hb dX6_endBy_0 rfl (lv_at hl 1 rfl) ?_
  refine lv_iconst (v := (nI 0)) hx hb dX6_endBy_1 (by decide) ?_
  refine lv_iconst (v := (nI 1)) hx hb dX6_endBy_2 (by decide) ?_
  refine g_ro (k_S (n := 3) (As := [.int (nI 1), .int (nI 0), .int (nI 1)]) (rest := []) (wc := []) hx hb hml hown hts (c_X6_in (l := l) (G := G) (xa := nI 1) (xb := nI 0) (xc := nI 1))  gX6_endBy_X6_in rfl rfl rfl (by decide +kernel) ⟨Nat.le_of_ble_eq_true rfl, Nat.le_of_ble_eq_true rfl⟩ rfl hK hP hD [] rfl (by decide)  hl.1 rfl (Nat.le_of_ble_eq_true rfl) dX6_endBy_3 ⟨Nat.le_of_ble_eq_true rfl, Nat.le_of_ble_eq_true rfl⟩) (fun r3 h3 => ?_)
  obtain rfl : (bI (ing (nI 1) (nI 0) (nI 1))) = r3 := Eq.symm h3
  refine r_if_ne (P := (ing (nI 1) (nI 0) (nI 1)) = false) (tgt := 11) hx hb dX6_endBy_6 (by decide) (bI_eq0) (fun cq6 => ?_) (fun cq6 => ?_)
  · refine lv_aload_n hx hb dX6_endBy_11 rfl (lv_at hl 0 rfl) ?_
    refine g_V (k_V (q0 := 0) (ci := 6) (n := 0) (As := []) (rest := []) (wc := [ob mo 6 [.ref u0, .ref u1, .ref u2, .ref u3, .ref u4, .ref u5, .int (nI sm), .int (nI sa), .int (nI le), .int (nI ra), .int (nI fa)], ar G u0 481 nw, ar G u1 481 bf]) hx hb hml hown hts (c_X6_copy (l := l) (G := G) (mo := mo) (u0 := u0) (u1 := u1) (u2 := u2) (u3 := u3) (u4 := u4) (u5 := u5) (sm := sm) (sa := sa) (le := le) (ra := ra) (fa := fa) (nw := nw) (bf := bf))  gX6_endBy_X6_copy rfl rfl rfl (by decide +kernel) ⟨Nat.le_of_ble_eq_true rfl, Nat.le_of_ble_eq_true rfl⟩ rfl hK hP hD [0, 1, 2] rfl (by decide)  rfl rfl rfl hl.1 rfl (Nat.le_of_ble_eq_true rfl) dX6_endBy_12 ⟨Nat.le_of_ble_eq_true rfl, Nat.le_of_ble_eq_true rfl⟩) hP hD hS [0, 1, 2] rfl (fun H locs hB12 back hS => ?_)
    obtain ⟨bf112, hq12, hP1⟩ := hB12
    obtain ⟨hP, hD⟩ := back [ob mo 6 [.ref u0, .ref u1, .ref u2, .ref u3, .ref u4, .ref u5, .int (nI sm), .int (nI sa), .int (nI le), .int (nI ra), .int (nI fa)], ar G u0 481 nw, ar G u1 481 bf112] rfl hP1
    have hP : va_P G.1 vwCl [ob mo 6 [.ref u0, .ref u1, .ref u2, .ref u3, .ref u4, .ref u5, .int (nI sm), .int (nI sa), .int (nI le), .int (nI ra), .int (nI fa)], ar G u0 481 nw, ar G u1 481 bf112, ar G u3 800 mk, ar G u4 800 vl] H := hP
    have hD : va_D A [ob mo 6 [.ref u0, .ref u1, .ref u2, .ref u3, .ref u4, .ref u5, .int (nI sm), .int (nI sa), .int (nI le), .int (nI ra), .int (nI fa)], ar G u0 481 nw, ar G u1 481 bf112, ar G u3 800 mk, ar G u4 800 vl] := hD
    refine lv_aload_n hx hb dX6_endBy_15 rfl (lv_at hl 0 rfl) ?_
    refine lv_iload_n hx hb dX6_endBy_16 rfl (lv_at hl 1 rfl) ?_
    refine r_if_ne (P := 1 = 0) (tgt := 24) hx hb dX6_endBy_17 (by decide) (nI_eq0 (by omega)) (fun cq17 => ?_) (fun cq17 => ?_)
    · refine lv_iconst (v := (bI false)) hx hb dX6_endBy_24 (by decide) ?_
      refine g_V (k_V (q0 := 0) (ci := 6) (n := 1) (As := [.int (bI false)]) (rest := []) (wc := [ob mo 6 [.ref u0, .ref u1, .ref u2, .ref u3, .ref u4, .ref u5, .int (nI sm), .int (nI sa), .int (nI le), .int (nI ra), .int (nI fa)], ar G u0 481 nw, ar G u3 800 mk, ar G u4 800 vl]) hx hb hml hown hts (c_X6_pushes_f (l := l) (G := G) (mo := mo) (u0 := u0) (u1 := u1) (u2 := u2) (u3 := u3) (u4 := u4) (u5 := u5) (sm := sm) (sa := sa) (le := le) (ra := ra) (fa := fa) (σ := σ) (nw := nw) (hR := hR) (hB := hB) (hF := by first | assumption | omega) (mk := mk) (vl := vl))  gX6_endBy_X6_pushes rfl rfl rfl (by decide +kernel) ⟨Nat.le_of_ble_eq_true rfl, Nat.le_of_ble_eq_true rfl⟩ rfl hK hP hD [0, 1, 3, 4] rfl (by decide)  rfl rfl rfl hl.1 rfl (Nat.le_of_ble_eq_true rfl) dX6_endBy_25 ⟨Nat.le_of_ble_eq_true rfl, Nat.le_of_ble_eq_true rfl⟩) hP hD hS [0, 1, 3, 4] rfl (fun H locs hB25 back hS => ?_)
      obtain ⟨nw125, mk125, vl125, hq25, hP1⟩ := hB25
      obtain ⟨hP, hD⟩ := back [ob mo 6 [.ref u0, .ref u1, .ref u2, .ref u3, .ref u4, .ref u5, .int (nI sm), .int (nI sa), .int (nI le), .int (nI ra), .int (nI fa)], ar G u0 481 nw125, ar G u3 800 mk125, ar G u4 800 vl125] rfl hP1
      have hP : va_P G.1 vwCl [ob mo 6 [.ref u0, .ref u1, .ref u2, .ref u3, .ref u4, .ref u5, .int (nI sm), .int (nI sa), .int (nI le), .int (nI ra), .int (nI fa)], ar G u0 481 nw125, ar G u1 481 bf112, ar G u3 800 mk125, ar G u4 800 vl125] H := hP
      have hD : va_D A [ob mo 6 [.ref u0, .ref u1, .ref u2, .ref u3, .ref u4, .ref u5, .int (nI sm), .int (nI sa), .int (nI le), .int (nI ra), .int (nI fa)], ar G u0 481 nw125, ar G u1 481 bf112, ar G u3 800 mk125, ar G u4 800 vl125] := hD
      have hBt := Bd_fwN (Bd_bare hB) (nn σ)
      have h24 := hB.n
      refine lv_aload_n hx hb dX6_endBy_28 rfl (lv_at hl 0 rfl) ?_
      refine g_I (k_V (q0 := 0) (ci := 6) (n := 0) (As := []) (rest := []) (wc := [ob mo 6 [.ref u0, .ref u1, .ref u2, .ref u3, .ref u4, .ref u5, .int (nI sm), .int (nI sa), .int (nI le), .int (nI ra), .int (nI fa)], ar G u0 481 nw125, ar G u3 800 mk125, ar G u4 800 vl125]) hx hb hml hown hts (c_X6_end (l := l) (G := G) (mo := mo) (u0 := u0) (u1 := u1) (u2 := u2) (u3 := u3) (u4 := u4) (u5 := u5) (sm := sm) (sa := sa) (le := le) (ra := ra) (fa := fa) (σ := (fwN (bareS σ) (nn σ))) (nw := nw125) (hR := hq25) (hB := hBt) (hT1 := (fun r hr => hT2 r (by rw [nn_fwN, nn_bare] at hr; exact hr))) (mk := mk125) (vl := vl125))  gX6_endBy_X6_end rfl rfl rfl (by decide +kernel) ⟨Nat.le_of_ble_eq_true rfl, Nat.le_of_ble_eq_true rfl⟩ rfl hK hP hD [0, 1, 3, 4] rfl (by decide)  rfl rfl rfl hl.1 rfl (Nat.le_of_ble_eq_true rfl) dX6_endBy_29 ⟨Nat.le_of_ble_eq_true rfl, Nat.le_of_ble_eq_true rfl⟩) hP hD hS [0, 1, 3, 4] rfl (fun r29 H locs hB29 back hS => ?_)
      obtain ⟨mk129, vl129, he29, hP1⟩ := hB29
      obtain rfl := Eq.symm he29
      obtain ⟨hP, hD⟩ := back [ob mo 6 [.ref u0, .ref u1, .ref u2, .ref u3, .ref u4, .ref u5, .int (nI sm), .int (nI sa), .int (nI le), .int (nI ra), .int (nI fa)], ar G u0 481 nw125, ar G u3 800 mk129, ar G u4 800 vl129] rfl hP1
      have hP : va_P G.1 vwCl [ob mo 6 [.ref u0, .ref u1, .ref u2, .ref u3, .ref u4, .ref u5, .int (nI sm), .int (nI sa), .int (nI le), .int (nI ra), .int (nI fa)], ar G u0 481 nw125, ar G u1 481 bf112, ar G u3 800 mk129, ar G u4 800 vl129] H := hP
      have hD : va_D A [ob mo 6 [.ref u0, .ref u1, .ref u2, .ref u3, .ref u4, .ref u5, .int (nI sm), .int (nI sa), .int (nI le), .int (nI ra), .int (nI fa)], ar G u0 481 nw125, ar G u1 481 bf112, ar G u3 800 mk129, ar G u4 800 vl129] := hD
      refine lv_istore_n (lv' := [(2, .int (nI (endc (rsM (fwN (bareS σ) (nn σ)))))), (0, .ref mo), (1, .int (nI 1))]) hx hb dX6_endBy_32 rfl hl (by decide) rfl (fun ls hl => ?_)
      refine lv_aload_n hx hb dX6_endBy_33 rfl (lv_at hl 1 rfl) ?_
      refine g_V (k_V (q0 := 0) (ci := 6) (n := 0) (As := []) (rest := []) (wc := [ob mo 6 [.ref u0, .ref u1, .ref u2, .ref u3, .ref u4, .ref u5, .int (nI sm), .int (nI sa), .int (nI le), .int (nI ra), .int (nI fa)], ar G u0 481 nw125, ar G u1 481 bf112]) hx hb hml hown hts (c_X6_back (l := l) (G := G) (mo := mo) (u0 := u0) (u1 := u1) (u2 := u2) (u3 := u3) (u4 := u4) (u5 := u5) (sm := sm) (sa := sa) (le := le) (ra := ra) (fa := fa) (nw := nw125) (bf := bf112))  gX6_endBy_X6_back rfl rfl rfl (by decide +kernel) ⟨Nat.le_of_ble_eq_true rfl, Nat.le_of_ble_eq_true rfl⟩ rfl hK hP hD [0, 1, 2] rfl (by decide)  rfl rfl rfl hl.1 rfl (Nat.le_of_ble_eq_true rfl) dX6_endBy_34 ⟨Nat.le_of_ble_eq_true rfl, Nat.le_of_ble_eq_true rfl⟩) hP hD hS [0, 1, 2] rfl (fun H locs hB34 back hS => ?_)
      obtain ⟨nw134, hq34, hP1⟩ := hB34
      obtain ⟨hP, hD⟩ := back [ob mo 6 [.ref u0, .ref u1, .ref u2, .ref u3, .ref u4, .ref u5, .int (nI sm), .int (nI sa), .int (nI le), .int (nI ra), .int (nI fa)], ar G u0 481 nw134, ar G u1 481 bf112] rfl hP1
      have hP : va_P G.1 vwCl [ob mo 6 [.ref u0, .ref u1, .ref u2, .ref u3, .ref u4, .ref u5, .int (nI sm), .int (nI sa), .int (nI le), .int (nI ra), .int (nI fa)], ar G u0 481 nw134, ar G u1 481 bf112, ar G u3 800 mk129, ar G u4 800 vl129] H := hP
      have hD : va_D A [ob mo 6 [.ref u0, .ref u1, .ref u2, .ref u3, .ref u4, .ref u5, .int (nI sm), .int (nI sa), .int (nI le), .int (nI ra), .int (nI fa)], ar G u0 481 nw134, ar G u1 481 bf112, ar G u3 800 mk129, ar G u4 800 vl129] := hD
      refine lv_iload_n hx hb dX6_endBy_37 rfl (lv_at hl 0 rfl) ?_
      exact hret _ _ _ _ _ hS dX6_endBy_38 (⟨nw134, bf112, mk129, vl129, rfl, Rel_cong hR h24 (fun j hj => (hq34 j hj).trans (hq12 j hj)), hP⟩)
    · exact absurd cq17 (by decide)
  · exact (no_f (ing_ok (by omega) (by omega) (by decide)) cq6).elim
