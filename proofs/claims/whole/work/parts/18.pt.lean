theorem Bd_slS {σ : Sg} (h : Bd σ) {r v : Nat} (hv : v < 100) : Bd (nn σ, va_up (dd σ) r v, vv σ, ff σ, ss σ) := ⟨h.1, up_all (P := fun z => z < 100) h.2.1 hv, h.2.2⟩
theorem Bd_dec {σ : Sg} (h : Bd σ) : Bd (nn σ - 1, dd σ, vv σ, ff σ, ss σ) := ⟨Nat.le_trans (Nat.sub_le _ _) h.1, h.2⟩
theorem fil_endc : ∀ (p : Nat → Bool) (n : Nat), fb_ct p n ≤ lst p n
  | p, 0 => Nat.le_refl 0
  | p, n + 1 => by
    have h := fil_endc p n
    have h2 := fb_ct_le p (n + 1)
    rw [fb_ct_succ]
    show _ ≤ if p n then n + 1 else lst p n
    split
    · rename_i q; rw [fb_ct_succ, if_pos q] at h2; exact h2
    · exact h
def rwV (σ : Sg) (d : Nat) (w : Nat → Nat) (c : Nat) : Nat → Nat := fun j => if nn σ * 16 ≤ j ∧ j < nn σ * 16 + c then w (j - nn σ * 16) else fl16 (vv σ) (nn σ) d j
def rwS (σ : Sg) (d : Nat) (w : Nat → Nat) : Sg := (nn σ + 1, va_up (dd σ) (nn σ) d, rwV σ d w 16, va_up (ff σ) (nn σ) 1000, ss σ)
noncomputable def adT (t : Tb) (d : Nat) (w : Nat → Nat) : Tb := stT (rwS t.1 d w) t.2.1 t.2.2 (nn t.1)
noncomputable def adN (t : Tb) (td tv : Nat → Nat) : Nat → Tb
  | 0 => t
  | k + 1 => adT (adN t td tv k) (td k) (fun c => tv (k * 16 + c))
theorem rwV_0 (σ : Sg) (d : Nat) (w : Nat → Nat) : fl16 (vv σ) (nn σ) d = rwV σ d w 0 := by
  funext j; unfold rwV; rw [if_neg]; omega
theorem rwV_s (σ : Sg) (d : Nat) (w : Nat → Nat) (c : Nat) : va_up (rwV σ d w c) (nn σ * 16 + c) (w c) = rwV σ d w (c + 1) := by
  funext j; unfold va_up rwV
  by_cases e : j = nn σ * 16 + c
  · subst e; rw [if_pos rfl, if_pos ⟨by omega, by omega⟩, Nat.add_sub_cancel_left]
  · rw [if_neg e]
    by_cases q : nn σ * 16 ≤ j ∧ j < nn σ * 16 + c
    · rw [if_pos q, if_pos ⟨q.1, by omega⟩]
    · rw [if_neg q, if_neg (fun z => q ⟨z.1, by omega⟩)]
theorem rwV_lt {σ : Sg} (h : Bd σ) {d : Nat} (hd : d < 100) {w : Nat → Nat} (hw : ∀ k, w k < 100) (c : Nat) : ∀ k, rwV σ d w c k < 100 := fun k => by
  unfold rwV; split
  · exact hw _
  · exact fl16_lt h.2.2.1 hd k
theorem Bd_rwS {σ : Sg} (h : Bd σ) (hn : nn σ < 24) {d : Nat} (hd : d < 100) {w : Nat → Nat} (hw : ∀ k, w k < 100) : Bd (rwS σ d w) := ⟨hn, up_all (P := fun z => z < 100) h.2.1 hd, rwV_lt h hd hw 16, up_all (P := fun z => z < 24 ∨ z = 1000) h.2.2.2.1 (Or.inr rfl), h.2.2.2.2⟩
theorem nn_adT (t : Tb) (d : Nat) (w : Nat → Nat) : nn (adT t d w).1 = nn t.1 + 1 := nn_stT _ _ _ _
theorem nn_adN (t : Tb) (td tv : Nat → Nat) : ∀ k, nn (adN t td tv k).1 = nn t.1 + k
  | 0 => rfl
  | k + 1 => by show nn (adT _ _ _).1 = _; rw [nn_adT, nn_adN t td tv k]; omega
theorem iqX5_set_ok_X5 : ∀ w ∈ u_ws RX5 TX5 4, w ∈ wsX5_set := by decide +kernel
theorem iqX5_set_ok_X3 : ∀ w ∈ u_ws RX3 TX3 2, w ∈ wsX5_set := by decide +kernel
set_option maxHeartbeats 1000000 in
set_option maxRecDepth 100000 in
theorem c_X5_set_ok (l : Launch) (G : kG) (z t t2 h x : Nat) (o a1 a2 a3 a4 : Nat) (σ : Sg) (q b1 b2 : Nat) (cv cm : Nat → Nat) (st : Nat) (y0 y1 y2 y3 y4 : Nat → Nat) (k sz : Nat) (cs : Nat → Sg) (hk : k < 5) (hsz : sz ≤ 5) (hB : Bd σ) (hv : Bc 100 cv) (hm : Bc 24 cm) (r c v : Nat) (hr : r < nn σ) (hc : c < 16) (hv9 : v < 100) : Met l yX5_set wsX5_set ({ frames := 5, cells := 0, slots := 0, locals := 116 } : Room) (cP G [.ref z, .int (nI r), .int (nI c), .int (nI v)] (bl [[ob z 5 [.ref t, .ref t2, .ref h, .ref x]], [ob t 3 [.ref o, .ref q]], wS G o a1 a2 a3 a4 σ, wT G q b1 b2 cv cm, [ob h 0 [.int (nI sz), .ref st], arS G st 5 (fun j => some (y0 (rgt k j)))], wHs G y0 y1 y2 y3 y4 cs])) (qI (fun rv H => ∃ (k1 : Nat) (sz1 : Nat) (cs1 : Nat → Sg) (σ1 : Sg) (cv1 : Nat → Nat) (cm1 : Nat → Nat), rv = (nI (vv σ (r * 16 + c))) ∧ (k1 = (if sz < 5 then k else (k + 1) % 5)) ∧ (sz1 = (if sz < 5 then sz + 1 else 5)) ∧ cs1 = va_up cs (rgt k sz) σ ∧ (σ1, cv1, cm1) = stT (chS σ (r * 16 + c) v) cv cm r ∧ Bd σ1 ∧ Bc 100 cv1 ∧ Bc 24 cm1 ∧ va_P G.1 vwCl (bl [[ob z 5 [.ref t, .ref t2, .ref h, .ref x]], [ob t 3 [.ref o, .ref q]], wS G o a1 a2 a3 a4 σ1, wT G q b1 b2 cv1 cm1, [ob h 0 [.int (nI sz1), .ref st], arS G st 5 (fun j => some (y0 (rgt k1 j)))], wHs G y0 y1 y2 y3 y4 cs1]) H) (mA (bl [[ob z 5 [.ref t, .ref t2, .ref h, .ref x]], [ob t 3 [.ref o, .ref q]], wS G o a1 a2 a3 a4 σ, wT G q b1 b2 cv cm, [ob h 0 [.int (nI sz), .ref st], arS G st 5 (fun j => some (y0 (rgt k j)))], wHs G y0 y1 y2 y3 y4 cs]))) 0 0 (mA (bl [[ob z 5 [.ref t, .ref t2, .ref h, .ref x]], [ob t 3 [.ref o, .ref q]], wS G o a1 a2 a3 a4 σ, wT G q b1 b2 cv cm, [ob h 0 [.int (nI sz), .ref st], arS G st 5 (fun j => some (y0 (rgt k j)))], wHs G y0 y1 y2 y3 y4 cs])) := by
  refine met_muI (cc := cX5_set) (maxL := 5) (ty := .int) (own := RX5) (by decide) rfl rfl (fun _ _ _ => rfl) (Nat.le_of_ble_eq_true rfl) ?_
  intro p e s m args below meth cod Q A hx hb hml hown hts hK hP hD hS hret ls hl
  have hl : lv_has ls 5 [(0, .ref z), (1, .int (nI r)), (2, .int (nI c)), (3, .int (nI v))] := hl
  have h24 := hB.n
  refine lv_aload_n hx hb dX5_set_0 rfl (lv_at hl 0 rfl) ?_
  refine lv_iload_n hx hb dX5_set_1 rfl (lv_at hl 1 rfl) ?_
  refine g_ro (k_V (q0 := 0) (ci := 5) (n := 1) (As := [.int (nI r)]) (rest := []) (wc := [ob z 5 [.ref t, .ref t2, .ref h, .ref x], ob t 3 [.ref o, .ref q], ob o 1 [.int (nI (nn σ)), .ref a1, .ref a2, .ref a3, .ref a4]]) hx hb hml hown hts (c_X5_isRow (l := l) (G := G) (z := z) (t := t) (t2 := t2) (h := h) (x := x) (o := o) (a1 := a1) (a2 := a2) (a3 := a3) (a4 := a4) (q := q) (n0 := nn σ) (xa := nI r) (hn := by first | assumption | omega))  gX5_set_X5_isRow rfl rfl rfl (by decide +kernel) ⟨Nat.le_of_ble_eq_true rfl, Nat.le_of_ble_eq_true rfl⟩ rfl hK hP hD [0, 1, 2] rfl (by decide)  rfl rfl rfl hl.1 rfl (Nat.le_of_ble_eq_true rfl) dX5_set_2 ⟨Nat.le_of_ble_eq_true rfl, Nat.le_of_ble_eq_true rfl⟩) (fun r2 h2 => ?_)
  obtain rfl : (bI (inr (nI r) 0 (((nn σ) : Int) - 1))) = r2 := Eq.symm h2
  refine r_if_eq (P := (inr (nI r) 0 (((nn σ) : Int) - 1)) = false) (tgt := 22) hx hb dX5_set_5 (by decide) (bI_eq0) (fun cq5 => ?_) (fun cq5 => ?_)
  · exact (no_f (inr_nI (by omega) (by omega)) cq5).elim
  · refine lv_iload_n hx hb dX5_set_8 rfl (lv_at hl 2 rfl) ?_
    refine g_ro (k_S (n := 1) (As := [.int (nI c)]) (rest := []) (wc := []) hx hb hml hown hts (c_X5_isColumn (l := l) (G := G) (xa := nI c))  gX5_set_X5_isColumn rfl rfl rfl (by decide +kernel) ⟨Nat.le_of_ble_eq_true rfl, Nat.le_of_ble_eq_true rfl⟩ rfl hK hP hD [] rfl (by decide)  hl.1 rfl (Nat.le_of_ble_eq_true rfl) dX5_set_9 ⟨Nat.le_of_ble_eq_true rfl, Nat.le_of_ble_eq_true rfl⟩) (fun r9 h9 => ?_)
    obtain rfl : (bI (inr (nI c) 0 15)) = r9 := Eq.symm h9
    refine r_if_eq (P := (inr (nI c) 0 15) = false) (tgt := 22) hx hb dX5_set_12 (by decide) (bI_eq0) (fun cq12 => ?_) (fun cq12 => ?_)
    · exact (no_f (inr_nI (by omega) (by omega)) cq12).elim
    · refine lv_iload_n hx hb dX5_set_15 rfl (lv_at hl 3 rfl) ?_
      refine g_ro (k_S (n := 1) (As := [.int (nI v)]) (rest := []) (wc := []) hx hb hml hown hts (c_X5_isValue (l := l) (G := G) (xa := nI v))  gX5_set_X5_isValue rfl rfl rfl (by decide +kernel) ⟨Nat.le_of_ble_eq_true rfl, Nat.le_of_ble_eq_true rfl⟩ rfl hK hP hD [] rfl (by decide)  hl.1 rfl (Nat.le_of_ble_eq_true rfl) dX5_set_16 ⟨Nat.le_of_ble_eq_true rfl, Nat.le_of_ble_eq_true rfl⟩) (fun r16 h16 => ?_)
      obtain rfl : (bI (inr (nI v) 0 99)) = r16 := Eq.symm h16
      refine r_if_ne (P := (inr (nI v) 0 99) = false) (tgt := 24) hx hb dX5_set_19 (by decide) (bI_eq0) (fun cq19 => ?_) (fun cq19 => ?_)
      · refine lv_aload_n hx hb dX5_set_24 rfl (lv_at hl 0 rfl) ?_
        refine va_get (D := G.1) (ci := 5) (v := .ref h) (C := RX5) (T := TX5) (N := 4) hx hb hts iqX5_set_ok_X5 hown hK.1 hP 0 rfl rfl 2 (by decide) (hts (.fieldLink RX5 22 "PushedTables" "history" "LPushedTables$History;") (List.mem_of_getElem? (i := 1) rfl)) (fun _ h9 => h9) rfl dX5_set_25 ?_
        refine lv_aload_n hx hb dX5_set_28 rfl (lv_at hl 0 rfl) ?_
        refine va_get (D := G.1) (ci := 5) (v := .ref t) (C := RX5) (T := TX5) (N := 4) hx hb hts iqX5_set_ok_X5 hown hK.1 hP 0 rfl rfl 0 (by decide) (hts (.fieldLink RX5 12 "PushedTables" "table" "LPushedTables$Table;") (List.mem_of_getElem? (i := 2) rfl)) (fun _ h9 => h9) rfl dX5_set_29 ?_
        refine va_get (D := G.1) (ci := 3) (v := .ref o) (C := RX3) (T := TX3) (N := 2) hx hb hts iqX5_set_ok_X3 hown hK.1 hP 1 rfl rfl 0 (by decide) (hts (.fieldLink RX5 37 "PushedTables$Table" "state" "LPushedTables$State;") (List.mem_of_getElem? (i := 3) rfl)) (fun _ h9 => h9) rfl dX5_set_32 ?_
        have hPc := bl_sub hP (is := [4, 5, 2]) (bc := [[ob h 0 [.int (nI sz), .ref st], arS G st 5 (fun j => some (y0 (rgt k j)))], wHs G y0 y1 y2 y3 y4 cs, wS G o a1 a2 a3 a4 σ]) rfl
        have hDc := bl_subD hD [4, 5, 2] [[ob h 0 [.int (nI sz), .ref st], arS G st 5 (fun j => some (y0 (rgt k j)))], wHs G y0 y1 y2 y3 y4 cs, wS G o a1 a2 a3 a4 σ] (by decide) rfl
        refine g_VB (bc := [[ob h 0 [.int (nI sz), .ref st], arS G st 5 (fun j => some (y0 (rgt k j)))], wHs G y0 y1 y2 y3 y4 cs, wS G o a1 a2 a3 a4 σ]) (k_W (q0 := 0) (ci := 0) (n := 1) (As := [.ref o]) (rest := []) hx hb hml hown hts (c_X0_remember (l := l) (G := G) (h := h) (st := st) (y0 := y0) (y1 := y1) (y2 := y2) (y3 := y3) (y4 := y4) (k := k) (sz := sz) (cs := cs) (hk := by first | assumption | omega) (hsz := by first | assumption | omega) (o2 := o) (d1 := a1) (d2 := a2) (d3 := a3) (d4 := a4) (ρ := σ)) gX5_set_X0_remember rfl rfl rfl (by decide +kernel) ⟨Nat.le_of_ble_eq_true rfl, Nat.le_of_ble_eq_true rfl⟩ rfl hK hPc hDc rfl rfl rfl hl.1 rfl (Nat.le_of_ble_eq_true rfl) dX5_set_35 ⟨Nat.le_of_ble_eq_true rfl, Nat.le_of_ble_eq_true rfl⟩) hP hD hS [4, 5, 2] (by decide) rfl (fun H locs hB35 back hS => ?_)
        obtain ⟨k135, sz135, cs135, hqk35, hqs35, hqc35, hP1⟩ := hB35
        obtain ⟨hP, hD⟩ := back [[ob h 0 [.int (nI sz135), .ref st], arS G st 5 (fun j => some (y0 (rgt k135 j)))], wHs G y0 y1 y2 y3 y4 cs135, wS G o a1 a2 a3 a4 σ] rfl hP1
        have hP : va_P G.1 vwCl (bl [[ob z 5 [.ref t, .ref t2, .ref h, .ref x]], [ob t 3 [.ref o, .ref q]], wS G o a1 a2 a3 a4 σ, wT G q b1 b2 cv cm, [ob h 0 [.int (nI sz135), .ref st], arS G st 5 (fun j => some (y0 (rgt k135 j)))], wHs G y0 y1 y2 y3 y4 cs135]) H := hP
        have hD : va_D A (bl [[ob z 5 [.ref t, .ref t2, .ref h, .ref x]], [ob t 3 [.ref o, .ref q]], wS G o a1 a2 a3 a4 σ, wT G q b1 b2 cv cm, [ob h 0 [.int (nI sz135), .ref st], arS G st 5 (fun j => some (y0 (rgt k135 j)))], wHs G y0 y1 y2 y3 y4 cs135]) := hD
        refine lv_aload_n hx hb dX5_set_38 rfl (lv_at hl 0 rfl) ?_
        refine va_get (D := G.1) (ci := 5) (v := .ref t) (C := RX5) (T := TX5) (N := 4) hx hb hts iqX5_set_ok_X5 hown hK.1 hP 0 rfl rfl 0 (by decide) (hts (.fieldLink RX5 12 "PushedTables" "table" "LPushedTables$Table;") (List.mem_of_getElem? (i := 2) rfl)) (fun _ h9 => h9) rfl dX5_set_39 ?_
        refine va_get (D := G.1) (ci := 3) (v := .ref o) (C := RX3) (T := TX3) (N := 2) hx hb hts iqX5_set_ok_X3 hown hK.1 hP 1 rfl rfl 0 (by decide) (hts (.fieldLink RX5 37 "PushedTables$Table" "state" "LPushedTables$State;") (List.mem_of_getElem? (i := 3) rfl)) (fun _ h9 => h9) rfl dX5_set_42 ?_
        refine lv_iload_n hx hb dX5_set_45 rfl (lv_at hl 1 rfl) ?_
        refine lv_iload_n hx hb dX5_set_46 rfl (lv_at hl 2 rfl) ?_
        have hPc := bl_sub hP (is := [2]) (bc := [wS G o a1 a2 a3 a4 σ]) rfl
        have hDc := bl_subD hD [2] [wS G o a1 a2 a3 a4 σ] (by decide) rfl
        refine g_ro (k_W (q0 := 0) (ci := 1) (n := 2) (As := [.int (nI r), .int (nI c)]) (rest := []) hx hb hml hown hts (c_X1_valueAt (l := l) (G := G) (o := o) (a1 := a1) (a2 := a2) (a3 := a3) (a4 := a4) (σ := σ) (r := r) (c := c) (hB := by first | assumption | omega) (hr := by first | assumption | omega) (hc := by first | assumption | omega)) gX5_set_X1_valueAt rfl rfl rfl (by decide +kernel) ⟨Nat.le_of_ble_eq_true rfl, Nat.le_of_ble_eq_true rfl⟩ rfl hK hPc hDc rfl rfl rfl hl.1 rfl (Nat.le_of_ble_eq_true rfl) dX5_set_47 ⟨Nat.le_of_ble_eq_true rfl, Nat.le_of_ble_eq_true rfl⟩) (fun r47 h47 => ?_)
        obtain rfl : (nI (vv σ (r * 16 + c))) = r47 := Eq.symm h47
        have b47 := Bd.v (by assumption : Bd σ) (r * 16 + c)
        refine lv_istore (lv' := [(4, .int (nI (vv σ (r * 16 + c)))), (0, .ref z), (1, .int (nI r)), (2, .int (nI c)), (3, .int (nI v))]) hx hb dX5_set_50 hl (by decide) rfl (fun ls hl => ?_)
        refine lv_aload_n hx hb dX5_set_52 rfl (lv_at hl 1 rfl) ?_
        refine va_get (D := G.1) (ci := 5) (v := .ref t) (C := RX5) (T := TX5) (N := 4) hx hb hts iqX5_set_ok_X5 hown hK.1 hP 0 rfl rfl 0 (by decide) (hts (.fieldLink RX5 12 "PushedTables" "table" "LPushedTables$Table;") (List.mem_of_getElem? (i := 2) rfl)) (fun _ h9 => h9) rfl dX5_set_53 ?_
        refine va_get (D := G.1) (ci := 3) (v := .ref o) (C := RX3) (T := TX3) (N := 2) hx hb hts iqX5_set_ok_X3 hown hK.1 hP 1 rfl rfl 0 (by decide) (hts (.fieldLink RX5 37 "PushedTables$Table" "state" "LPushedTables$State;") (List.mem_of_getElem? (i := 3) rfl)) (fun _ h9 => h9) rfl dX5_set_56 ?_
        refine lv_iload_n hx hb dX5_set_59 rfl (lv_at hl 2 rfl) ?_
        refine lv_iload_n hx hb dX5_set_60 rfl (lv_at hl 3 rfl) ?_
        refine lv_iload_n hx hb dX5_set_61 rfl (lv_at hl 4 rfl) ?_
        have hPc := bl_sub hP (is := [2]) (bc := [wS G o a1 a2 a3 a4 σ]) rfl
        have hDc := bl_subD hD [2] [wS G o a1 a2 a3 a4 σ] (by decide) rfl
        refine g_VB (bc := [wS G o a1 a2 a3 a4 σ]) (k_W (q0 := 0) (ci := 1) (n := 3) (As := [.int (nI r), .int (nI c), .int (nI v)]) (rest := []) hx hb hml hown hts (c_X1_changeValue (l := l) (G := G) (o := o) (a1 := a1) (a2 := a2) (a3 := a3) (a4 := a4) (σ := σ) (r := r) (c := c) (v := v) (hr := by first | assumption | omega) (hc := by first | assumption | omega)) gX5_set_X1_changeValue rfl rfl rfl (by decide +kernel) ⟨Nat.le_of_ble_eq_true rfl, Nat.le_of_ble_eq_true rfl⟩ rfl hK hPc hDc rfl rfl rfl hl.1 rfl (Nat.le_of_ble_eq_true rfl) dX5_set_62 ⟨Nat.le_of_ble_eq_true rfl, Nat.le_of_ble_eq_true rfl⟩) hP hD hS [2] (by decide) rfl (fun H locs hB62 back hS => ?_)
        have hP1 := hB62
        obtain ⟨hP, hD⟩ := back [wS G o a1 a2 a3 a4 (nn σ, dd σ, va_up (vv σ) (r * 16 + c) v, ff σ, ss σ)] rfl hP1
        have hP : va_P G.1 vwCl (bl [[ob z 5 [.ref t, .ref t2, .ref h, .ref x]], [ob t 3 [.ref o, .ref q]], wS G o a1 a2 a3 a4 (nn σ, dd σ, va_up (vv σ) (r * 16 + c) v, ff σ, ss σ), wT G q b1 b2 cv cm, [ob h 0 [.int (nI sz135), .ref st], arS G st 5 (fun j => some (y0 (rgt k135 j)))], wHs G y0 y1 y2 y3 y4 cs135]) H := hP
        have hD : va_D A (bl [[ob z 5 [.ref t, .ref t2, .ref h, .ref x]], [ob t 3 [.ref o, .ref q]], wS G o a1 a2 a3 a4 (nn σ, dd σ, va_up (vv σ) (r * 16 + c) v, ff σ, ss σ), wT G q b1 b2 cv cm, [ob h 0 [.int (nI sz135), .ref st], arS G st 5 (fun j => some (y0 (rgt k135 j)))], wHs G y0 y1 y2 y3 y4 cs135]) := hD
        have hB2 : Bd (nn σ, dd σ, va_up (vv σ) (r * 16 + c) v, ff σ, ss σ) := Bd_chS hB hv9
        refine lv_aload_n hx hb dX5_set_65 rfl (lv_at hl 1 rfl) ?_
        refine va_get (D := G.1) (ci := 5) (v := .ref t) (C := RX5) (T := TX5) (N := 4) hx hb hts iqX5_set_ok_X5 hown hK.1 hP 0 rfl rfl 0 (by decide) (hts (.fieldLink RX5 12 "PushedTables" "table" "LPushedTables$Table;") (List.mem_of_getElem? (i := 2) rfl)) (fun _ h9 => h9) rfl dX5_set_66 ?_
        refine lv_iload_n hx hb dX5_set_69 rfl (lv_at hl 2 rfl) ?_
        have hPc := bl_sub hP (is := [1, 2, 3]) (bc := [[ob t 3 [.ref o, .ref q]], wS G o a1 a2 a3 a4 (nn σ, dd σ, va_up (vv σ) (r * 16 + c) v, ff σ, ss σ), wT G q b1 b2 cv cm]) rfl
        have hDc := bl_subD hD [1, 2, 3] [[ob t 3 [.ref o, .ref q]], wS G o a1 a2 a3 a4 (nn σ, dd σ, va_up (vv σ) (r * 16 + c) v, ff σ, ss σ), wT G q b1 b2 cv cm] (by decide) rfl
        refine g_VB (bc := [[ob t 3 [.ref o, .ref q]], wS G o a1 a2 a3 a4 (nn σ, dd σ, va_up (vv σ) (r * 16 + c) v, ff σ, ss σ), wT G q b1 b2 cv cm]) (k_W (q0 := 0) (ci := 3) (n := 1) (As := [.int (nI r)]) (rest := []) hx hb hml hown hts (c_X3_settle (l := l) (G := G) (t := t) (o := o) (a1 := a1) (a2 := a2) (a3 := a3) (a4 := a4) (σ := (nn σ, dd σ, va_up (vv σ) (r * 16 + c) v, ff σ, ss σ)) (q := q) (b1 := b1) (b2 := b2) (cv := cv) (cm := cm) (hB := by first | assumption | omega) (hv := by first | assumption | omega) (hm := by first | assumption | omega) (r := r) (hr := by first | assumption | omega)) gX5_set_X3_settle rfl rfl rfl (by decide +kernel) ⟨Nat.le_of_ble_eq_true rfl, Nat.le_of_ble_eq_true rfl⟩ rfl hK hPc hDc rfl rfl rfl hl.1 rfl (Nat.le_of_ble_eq_true rfl) dX5_set_70 ⟨Nat.le_of_ble_eq_true rfl, Nat.le_of_ble_eq_true rfl⟩) hP hD hS [1, 2, 3] (by decide) rfl (fun H locs hB70 back hS => ?_)
        obtain ⟨σ170, cv170, cm170, hq70, hb170, hb270, hb370, hP1⟩ := hB70
        obtain ⟨hP, hD⟩ := back [[ob t 3 [.ref o, .ref q]], wS G o a1 a2 a3 a4 σ170, wT G q b1 b2 cv170 cm170] rfl hP1
        have hP : va_P G.1 vwCl (bl [[ob z 5 [.ref t, .ref t2, .ref h, .ref x]], [ob t 3 [.ref o, .ref q]], wS G o a1 a2 a3 a4 σ170, wT G q b1 b2 cv170 cm170, [ob h 0 [.int (nI sz135), .ref st], arS G st 5 (fun j => some (y0 (rgt k135 j)))], wHs G y0 y1 y2 y3 y4 cs135]) H := hP
        have hD : va_D A (bl [[ob z 5 [.ref t, .ref t2, .ref h, .ref x]], [ob t 3 [.ref o, .ref q]], wS G o a1 a2 a3 a4 σ170, wT G q b1 b2 cv170 cm170, [ob h 0 [.int (nI sz135), .ref st], arS G st 5 (fun j => some (y0 (rgt k135 j)))], wHs G y0 y1 y2 y3 y4 cs135]) := hD
        refine lv_iload hx hb dX5_set_73 (lv_at hl 0 rfl) ?_
        exact hret _ _ _ _ _ hS dX5_set_75 (⟨k135, sz135, cs135, σ170, cv170, cm170, rfl, hqk35, hqs35, hqc35, hq70, by first | assumption | omega, by first | assumption | omega, by first | assumption | omega, hP⟩)
      · exact (no_f (inr_nI (by omega) (by omega)) cq19).elim

theorem iqX5_add_ok_X5 : ∀ w ∈ u_ws RX5 TX5 4, w ∈ wsX5_add := by decide +kernel
theorem iqX5_add_ok_X3 : ∀ w ∈ u_ws RX3 TX3 2, w ∈ wsX5_add := by decide +kernel
theorem iqX5_add_ok_X1 : ∀ w ∈ u_ws RX1 TX1 5, w ∈ wsX5_add := by decide +kernel
set_option maxHeartbeats 1000000 in
set_option maxRecDepth 100000 in
theorem c_X5_add_ok (l : Launch) (G : kG) (z t t2 h x : Nat) (o a1 a2 a3 a4 : Nat) (σ : Sg) (q b1 b2 : Nat) (cv cm : Nat → Nat) (st : Nat) (y0 y1 y2 y3 y4 : Nat → Nat) (k sz : Nat) (cs : Nat → Sg) (hk : k < 5) (hsz : sz ≤ 5) (hB : Bd σ) (hv : Bc 100 cv) (hm : Bc 24 cm) (v : Nat) (hn : nn σ < 24) (hv9 : v < 100) : Met l yX5_add wsX5_add ({ frames := 3, cells := 0, slots := 0, locals := 82 } : Room) (cP G [.ref z, .int (nI v)] (bl [[ob z 5 [.ref t, .ref t2, .ref h, .ref x]], [ob t 3 [.ref o, .ref q]], wS G o a1 a2 a3 a4 σ, [ob h 0 [.int (nI sz), .ref st], arS G st 5 (fun j => some (y0 (rgt k j)))], wHs G y0 y1 y2 y3 y4 cs])) (qI (fun rv H => ∃ (k1 : Nat) (sz1 : Nat) (cs1 : Nat → Sg), rv = (nI (nn σ)) ∧ (k1 = (if sz < 5 then k else (k + 1) % 5)) ∧ (sz1 = (if sz < 5 then sz + 1 else 5)) ∧ cs1 = va_up cs (rgt k sz) σ ∧ va_P G.1 vwCl (bl [[ob z 5 [.ref t, .ref t2, .ref h, .ref x]], [ob t 3 [.ref o, .ref q]], wS G o a1 a2 a3 a4 (adS σ v), [ob h 0 [.int (nI sz1), .ref st], arS G st 5 (fun j => some (y0 (rgt k1 j)))], wHs G y0 y1 y2 y3 y4 cs1]) H) (mA (bl [[ob z 5 [.ref t, .ref t2, .ref h, .ref x]], [ob t 3 [.ref o, .ref q]], wS G o a1 a2 a3 a4 σ, [ob h 0 [.int (nI sz), .ref st], arS G st 5 (fun j => some (y0 (rgt k j)))], wHs G y0 y1 y2 y3 y4 cs]))) 0 0 (mA (bl [[ob z 5 [.ref t, .ref t2, .ref h, .ref x]], [ob t 3 [.ref o, .ref q]], wS G o a1 a2 a3 a4 σ, [ob h 0 [.int (nI sz), .ref st], arS G st 5 (fun j => some (y0 (rgt k j)))], wHs G y0 y1 y2 y3 y4 cs])) := by
  refine met_muI (cc := cX5_add) (maxL := 2) (ty := .int) (own := RX5) (by decide) rfl rfl (fun _ _ _ => rfl) (Nat.le_of_ble_eq_true rfl) ?_
  intro p e s m args below meth cod Q A hx hb hml hown hts hK hP hD hS hret ls hl
  have hl : lv_has ls 2 [(0, .ref z), (1, .int (nI v))] := hl
  have h24 := hB.n
  refine lv_iload_n hx hb dX5_add_0 rfl (lv_at hl 1 rfl) ?_
  refine g_ro (k_S (n := 1) (As := [.int (nI v)]) (rest := []) (wc := []) hx hb hml hown hts (c_X5_isValue (l := l) (G := G) (xa := nI v))  gX5_add_X5_isValue rfl rfl rfl (by decide +kernel) ⟨Nat.le_of_ble_eq_true rfl, Nat.le_of_ble_eq_true rfl⟩ rfl hK hP hD [] rfl (by decide)  hl.1 rfl (Nat.le_of_ble_eq_true rfl) dX5_add_1 ⟨Nat.le_of_ble_eq_true rfl, Nat.le_of_ble_eq_true rfl⟩) (fun r1 h1 => ?_)
  obtain rfl : (bI (inr (nI v) 0 99)) = r1 := Eq.symm h1
  refine r_if_ne (P := (inr (nI v) 0 99) = false) (tgt := 9) hx hb dX5_add_4 (by decide) (bI_eq0) (fun cq4 => ?_) (fun cq4 => ?_)
  · refine lv_aload_n hx hb dX5_add_9 rfl (lv_at hl 0 rfl) ?_
    refine va_get (D := G.1) (ci := 5) (v := .ref t) (C := RX5) (T := TX5) (N := 4) hx hb hts iqX5_add_ok_X5 hown hK.1 hP 0 rfl rfl 0 (by decide) (hts (.fieldLink RX5 12 "PushedTables" "table" "LPushedTables$Table;") (List.mem_of_getElem? (i := 1) rfl)) (fun _ h9 => h9) rfl dX5_add_10 ?_
    refine va_get (D := G.1) (ci := 3) (v := .ref o) (C := RX3) (T := TX3) (N := 2) hx hb hts iqX5_add_ok_X3 hown hK.1 hP 1 rfl rfl 0 (by decide) (hts (.fieldLink RX5 37 "PushedTables$Table" "state" "LPushedTables$State;") (List.mem_of_getElem? (i := 2) rfl)) (fun _ h9 => h9) rfl dX5_add_13 ?_
    refine va_get (D := G.1) (ci := 1) (v := .int (nI (nn σ))) (C := RX1) (T := TX1) (N := 5) hx hb hts iqX5_add_ok_X1 hown hK.1 hP 2 rfl rfl 0 (by decide) (hts (.fieldLink RX5 41 "PushedTables$State" "rowCount" "I") (List.mem_of_getElem? (i := 3) rfl)) (fun _ h9 => h9) rfl dX5_add_16 ?_
    refine lv_bipush (v := (nI 24)) hx hb dX5_add_19 (by decide) ?_
    refine r_icmp_lt (P := (nn σ) < 24) (tgt := 27) hx hb dX5_add_21 (by decide) (nI_ltI (by omega) (by omega)) (fun cq21 => ?_) (fun cq21 => ?_)
    · refine lv_aload_n hx hb dX5_add_27 rfl (lv_at hl 0 rfl) ?_
      refine va_get (D := G.1) (ci := 5) (v := .ref h) (C := RX5) (T := TX5) (N := 4) hx hb hts iqX5_add_ok_X5 hown hK.1 hP 0 rfl rfl 2 (by decide) (hts (.fieldLink RX5 22 "PushedTables" "history" "LPushedTables$History;") (List.mem_of_getElem? (i := 4) rfl)) (fun _ h9 => h9) rfl dX5_add_28 ?_
      refine lv_aload_n hx hb dX5_add_31 rfl (lv_at hl 0 rfl) ?_
      refine va_get (D := G.1) (ci := 5) (v := .ref t) (C := RX5) (T := TX5) (N := 4) hx hb hts iqX5_add_ok_X5 hown hK.1 hP 0 rfl rfl 0 (by decide) (hts (.fieldLink RX5 12 "PushedTables" "table" "LPushedTables$Table;") (List.mem_of_getElem? (i := 1) rfl)) (fun _ h9 => h9) rfl dX5_add_32 ?_
      refine va_get (D := G.1) (ci := 3) (v := .ref o) (C := RX3) (T := TX3) (N := 2) hx hb hts iqX5_add_ok_X3 hown hK.1 hP 1 rfl rfl 0 (by decide) (hts (.fieldLink RX5 37 "PushedTables$Table" "state" "LPushedTables$State;") (List.mem_of_getElem? (i := 2) rfl)) (fun _ h9 => h9) rfl dX5_add_35 ?_
      have hPc := bl_sub hP (is := [3, 4, 2]) (bc := [[ob h 0 [.int (nI sz), .ref st], arS G st 5 (fun j => some (y0 (rgt k j)))], wHs G y0 y1 y2 y3 y4 cs, wS G o a1 a2 a3 a4 σ]) rfl
      have hDc := bl_subD hD [3, 4, 2] [[ob h 0 [.int (nI sz), .ref st], arS G st 5 (fun j => some (y0 (rgt k j)))], wHs G y0 y1 y2 y3 y4 cs, wS G o a1 a2 a3 a4 σ] (by decide) rfl
      refine g_VB (bc := [[ob h 0 [.int (nI sz), .ref st], arS G st 5 (fun j => some (y0 (rgt k j)))], wHs G y0 y1 y2 y3 y4 cs, wS G o a1 a2 a3 a4 σ]) (k_W (q0 := 0) (ci := 0) (n := 1) (As := [.ref o]) (rest := []) hx hb hml hown hts (c_X0_remember (l := l) (G := G) (h := h) (st := st) (y0 := y0) (y1 := y1) (y2 := y2) (y3 := y3) (y4 := y4) (k := k) (sz := sz) (cs := cs) (hk := by first | assumption | omega) (hsz := by first | assumption | omega) (o2 := o) (d1 := a1) (d2 := a2) (d3 := a3) (d4 := a4) (ρ := σ)) gX5_add_X0_remember rfl rfl rfl (by decide +kernel) ⟨Nat.le_of_ble_eq_true rfl, Nat.le_of_ble_eq_true rfl⟩ rfl hK hPc hDc rfl rfl rfl hl.1 rfl (Nat.le_of_ble_eq_true rfl) dX5_add_38 ⟨Nat.le_of_ble_eq_true rfl, Nat.le_of_ble_eq_true rfl⟩) hP hD hS [3, 4, 2] (by decide) rfl (fun H locs hB38 back hS => ?_)
      obtain ⟨k138, sz138, cs138, hqk38, hqs38, hqc38, hP1⟩ := hB38
      obtain ⟨hP, hD⟩ := back [[ob h 0 [.int (nI sz138), .ref st], arS G st 5 (fun j => some (y0 (rgt k138 j)))], wHs G y0 y1 y2 y3 y4 cs138, wS G o a1 a2 a3 a4 σ] rfl hP1
      have hP : va_P G.1 vwCl (bl [[ob z 5 [.ref t, .ref t2, .ref h, .ref x]], [ob t 3 [.ref o, .ref q]], wS G o a1 a2 a3 a4 σ, [ob h 0 [.int (nI sz138), .ref st], arS G st 5 (fun j => some (y0 (rgt k138 j)))], wHs G y0 y1 y2 y3 y4 cs138]) H := hP
      have hD : va_D A (bl [[ob z 5 [.ref t, .ref t2, .ref h, .ref x]], [ob t 3 [.ref o, .ref q]], wS G o a1 a2 a3 a4 σ, [ob h 0 [.int (nI sz138), .ref st], arS G st 5 (fun j => some (y0 (rgt k138 j)))], wHs G y0 y1 y2 y3 y4 cs138]) := hD
      refine lv_aload_n hx hb dX5_add_41 rfl (lv_at hl 0 rfl) ?_
      refine va_get (D := G.1) (ci := 5) (v := .ref t) (C := RX5) (T := TX5) (N := 4) hx hb hts iqX5_add_ok_X5 hown hK.1 hP 0 rfl rfl 0 (by decide) (hts (.fieldLink RX5 12 "PushedTables" "table" "LPushedTables$Table;") (List.mem_of_getElem? (i := 1) rfl)) (fun _ h9 => h9) rfl dX5_add_42 ?_
      refine va_get (D := G.1) (ci := 3) (v := .ref o) (C := RX3) (T := TX3) (N := 2) hx hb hts iqX5_add_ok_X3 hown hK.1 hP 1 rfl rfl 0 (by decide) (hts (.fieldLink RX5 37 "PushedTables$Table" "state" "LPushedTables$State;") (List.mem_of_getElem? (i := 2) rfl)) (fun _ h9 => h9) rfl dX5_add_45 ?_
      refine lv_iload_n hx hb dX5_add_48 rfl (lv_at hl 1 rfl) ?_
      have hPc := bl_sub hP (is := [2]) (bc := [wS G o a1 a2 a3 a4 σ]) rfl
      have hDc := bl_subD hD [2] [wS G o a1 a2 a3 a4 σ] (by decide) rfl
      refine g_IB (bc := [wS G o a1 a2 a3 a4 σ]) (k_W (q0 := 0) (ci := 1) (n := 1) (As := [.int (nI v)]) (rest := []) hx hb hml hown hts (c_X1_addRow (l := l) (G := G) (o := o) (a1 := a1) (a2 := a2) (a3 := a3) (a4 := a4) (σ := σ) (v := v) (hB := by first | assumption | omega) (hn := by first | assumption | omega) (hv := by first | assumption | omega)) gX5_add_X1_addRow rfl rfl rfl (by decide +kernel) ⟨Nat.le_of_ble_eq_true rfl, Nat.le_of_ble_eq_true rfl⟩ rfl hK hPc hDc rfl rfl rfl hl.1 rfl (Nat.le_of_ble_eq_true rfl) dX5_add_49 ⟨Nat.le_of_ble_eq_true rfl, Nat.le_of_ble_eq_true rfl⟩) hP hD hS [2] (by decide) rfl (fun r49 H locs hB49 back hS => ?_)
      obtain ⟨he49, hP1⟩ := hB49
      obtain rfl := Eq.symm he49
      obtain ⟨hP, hD⟩ := back [wS G o a1 a2 a3 a4 (adS σ v)] rfl hP1
      have hP : va_P G.1 vwCl (bl [[ob z 5 [.ref t, .ref t2, .ref h, .ref x]], [ob t 3 [.ref o, .ref q]], wS G o a1 a2 a3 a4 (adS σ v), [ob h 0 [.int (nI sz138), .ref st], arS G st 5 (fun j => some (y0 (rgt k138 j)))], wHs G y0 y1 y2 y3 y4 cs138]) H := hP
      have hD : va_D A (bl [[ob z 5 [.ref t, .ref t2, .ref h, .ref x]], [ob t 3 [.ref o, .ref q]], wS G o a1 a2 a3 a4 (adS σ v), [ob h 0 [.int (nI sz138), .ref st], arS G st 5 (fun j => some (y0 (rgt k138 j)))], wHs G y0 y1 y2 y3 y4 cs138]) := hD
      exact hret _ _ _ _ _ hS dX5_add_52 (⟨k138, sz138, cs138, rfl, hqk38, hqs38, hqc38, hP⟩)
    · exact absurd hn cq21
  · exact (no_f (inr_nI (by omega) (by omega)) cq4).elim

theorem iqX5_setDefault_ok_X5 : ∀ w ∈ u_ws RX5 TX5 4, w ∈ wsX5_setDefault := by decide +kernel
theorem iqX5_setDefault_ok_X3 : ∀ w ∈ u_ws RX3 TX3 2, w ∈ wsX5_setDefault := by decide +kernel
set_option maxHeartbeats 1000000 in
set_option maxRecDepth 100000 in
theorem c_X5_setDefault_ok (l : Launch) (G : kG) (z t t2 h x : Nat) (o a1 a2 a3 a4 : Nat) (σ : Sg) (q b1 b2 : Nat) (cv cm : Nat → Nat) (st : Nat) (y0 y1 y2 y3 y4 : Nat → Nat) (k sz : Nat) (cs : Nat → Sg) (hk : k < 5) (hsz : sz ≤ 5) (hB : Bd σ) (hv : Bc 100 cv) (hm : Bc 24 cm) (r v : Nat) (hr : r < nn σ) (hv9 : v < 100) : Met l yX5_setDefault wsX5_setDefault ({ frames := 5, cells := 0, slots := 0, locals := 116 } : Room) (cP G [.ref z, .int (nI r), .int (nI v)] (bl [[ob z 5 [.ref t, .ref t2, .ref h, .ref x]], [ob t 3 [.ref o, .ref q]], wS G o a1 a2 a3 a4 σ, wT G q b1 b2 cv cm, [ob h 0 [.int (nI sz), .ref st], arS G st 5 (fun j => some (y0 (rgt k j)))], wHs G y0 y1 y2 y3 y4 cs])) (qI (fun rv H => ∃ (k1 : Nat) (sz1 : Nat) (cs1 : Nat → Sg) (σ1 : Sg) (cv1 : Nat → Nat) (cm1 : Nat → Nat), rv = (nI (wt σ1 r)) ∧ (k1 = (if sz < 5 then k else (k + 1) % 5)) ∧ (sz1 = (if sz < 5 then sz + 1 else 5)) ∧ cs1 = va_up cs (rgt k sz) σ ∧ (σ1, cv1, cm1) = stT (cdS σ r v) cv cm r ∧ Bd σ1 ∧ Bc 100 cv1 ∧ Bc 24 cm1 ∧ va_P G.1 vwCl (bl [[ob z 5 [.ref t, .ref t2, .ref h, .ref x]], [ob t 3 [.ref o, .ref q]], wS G o a1 a2 a3 a4 σ1, wT G q b1 b2 cv1 cm1, [ob h 0 [.int (nI sz1), .ref st], arS G st 5 (fun j => some (y0 (rgt k1 j)))], wHs G y0 y1 y2 y3 y4 cs1]) H) (mA (bl [[ob z 5 [.ref t, .ref t2, .ref h, .ref x]], [ob t 3 [.ref o, .ref q]], wS G o a1 a2 a3 a4 σ, wT G q b1 b2 cv cm, [ob h 0 [.int (nI sz), .ref st], arS G st 5 (fun j => some (y0 (rgt k j)))], wHs G y0 y1 y2 y3 y4 cs]))) 0 0 (mA (bl [[ob z 5 [.ref t, .ref t2, .ref h, .ref x]], [ob t 3 [.ref o, .ref q]], wS G o a1 a2 a3 a4 σ, wT G q b1 b2 cv cm, [ob h 0 [.int (nI sz), .ref st], arS G st 5 (fun j => some (y0 (rgt k j)))], wHs G y0 y1 y2 y3 y4 cs])) := by
  refine met_muI (cc := cX5_setDefault) (maxL := 3) (ty := .int) (own := RX5) (by decide) rfl rfl (fun _ _ _ => rfl) (Nat.le_of_ble_eq_true rfl) ?_
  intro p e s m args below meth cod Q A hx hb hml hown hts hK hP hD hS hret ls hl
  have hl : lv_has ls 3 [(0, .ref z), (1, .int (nI r)), (2, .int (nI v))] := hl
  have h24 := hB.n
  refine lv_aload_n hx hb dX5_setDefault_0 rfl (lv_at hl 0 rfl) ?_
  refine lv_iload_n hx hb dX5_setDefault_1 rfl (lv_at hl 1 rfl) ?_
  refine g_ro (k_V (q0 := 0) (ci := 5) (n := 1) (As := [.int (nI r)]) (rest := []) (wc := [ob z 5 [.ref t, .ref t2, .ref h, .ref x], ob t 3 [.ref o, .ref q], ob o 1 [.int (nI (nn σ)), .ref a1, .ref a2, .ref a3, .ref a4]]) hx hb hml hown hts (c_X5_isRow (l := l) (G := G) (z := z) (t := t) (t2 := t2) (h := h) (x := x) (o := o) (a1 := a1) (a2 := a2) (a3 := a3) (a4 := a4) (q := q) (n0 := nn σ) (xa := nI r) (hn := by first | assumption | omega))  gX5_setDefault_X5_isRow rfl rfl rfl (by decide +kernel) ⟨Nat.le_of_ble_eq_true rfl, Nat.le_of_ble_eq_true rfl⟩ rfl hK hP hD [0, 1, 2] rfl (by decide)  rfl rfl rfl hl.1 rfl (Nat.le_of_ble_eq_true rfl) dX5_setDefault_2 ⟨Nat.le_of_ble_eq_true rfl, Nat.le_of_ble_eq_true rfl⟩) (fun r2 h2 => ?_)
  obtain rfl : (bI (inr (nI r) 0 (((nn σ) : Int) - 1))) = r2 := Eq.symm h2
  refine r_if_eq (P := (inr (nI r) 0 (((nn σ) : Int) - 1)) = false) (tgt := 15) hx hb dX5_setDefault_5 (by decide) (bI_eq0) (fun cq5 => ?_) (fun cq5 => ?_)
  · exact (no_f (inr_nI (by omega) (by omega)) cq5).elim
  · refine lv_iload_n hx hb dX5_setDefault_8 rfl (lv_at hl 2 rfl) ?_
    refine g_ro (k_S (n := 1) (As := [.int (nI v)]) (rest := []) (wc := []) hx hb hml hown hts (c_X5_isValue (l := l) (G := G) (xa := nI v))  gX5_setDefault_X5_isValue rfl rfl rfl (by decide +kernel) ⟨Nat.le_of_ble_eq_true rfl, Nat.le_of_ble_eq_true rfl⟩ rfl hK hP hD [] rfl (by decide)  hl.1 rfl (Nat.le_of_ble_eq_true rfl) dX5_setDefault_9 ⟨Nat.le_of_ble_eq_true rfl, Nat.le_of_ble_eq_true rfl⟩) (fun r9 h9 => ?_)
    obtain rfl : (bI (inr (nI v) 0 99)) = r9 := Eq.symm h9
    refine r_if_ne (P := (inr (nI v) 0 99) = false) (tgt := 17) hx hb dX5_setDefault_12 (by decide) (bI_eq0) (fun cq12 => ?_) (fun cq12 => ?_)
    · refine lv_aload_n hx hb dX5_setDefault_17 rfl (lv_at hl 0 rfl) ?_
      refine va_get (D := G.1) (ci := 5) (v := .ref h) (C := RX5) (T := TX5) (N := 4) hx hb hts iqX5_setDefault_ok_X5 hown hK.1 hP 0 rfl rfl 2 (by decide) (hts (.fieldLink RX5 22 "PushedTables" "history" "LPushedTables$History;") (List.mem_of_getElem? (i := 1) rfl)) (fun _ h9 => h9) rfl dX5_setDefault_18 ?_
      refine lv_aload_n hx hb dX5_setDefault_21 rfl (lv_at hl 0 rfl) ?_
      refine va_get (D := G.1) (ci := 5) (v := .ref t) (C := RX5) (T := TX5) (N := 4) hx hb hts iqX5_setDefault_ok_X5 hown hK.1 hP 0 rfl rfl 0 (by decide) (hts (.fieldLink RX5 12 "PushedTables" "table" "LPushedTables$Table;") (List.mem_of_getElem? (i := 2) rfl)) (fun _ h9 => h9) rfl dX5_setDefault_22 ?_
      refine va_get (D := G.1) (ci := 3) (v := .ref o) (C := RX3) (T := TX3) (N := 2) hx hb hts iqX5_setDefault_ok_X3 hown hK.1 hP 1 rfl rfl 0 (by decide) (hts (.fieldLink RX5 37 "PushedTables$Table" "state" "LPushedTables$State;") (List.mem_of_getElem? (i := 3) rfl)) (fun _ h9 => h9) rfl dX5_setDefault_25 ?_
      have hPc := bl_sub hP (is := [4, 5, 2]) (bc := [[ob h 0 [.int (nI sz), .ref st], arS G st 5 (fun j => some (y0 (rgt k j)))], wHs G y0 y1 y2 y3 y4 cs, wS G o a1 a2 a3 a4 σ]) rfl
      have hDc := bl_subD hD [4, 5, 2] [[ob h 0 [.int (nI sz), .ref st], arS G st 5 (fun j => some (y0 (rgt k j)))], wHs G y0 y1 y2 y3 y4 cs, wS G o a1 a2 a3 a4 σ] (by decide) rfl
      refine g_VB (bc := [[ob h 0 [.int (nI sz), .ref st], arS G st 5 (fun j => some (y0 (rgt k j)))], wHs G y0 y1 y2 y3 y4 cs, wS G o a1 a2 a3 a4 σ]) (k_W (q0 := 0) (ci := 0) (n := 1) (As := [.ref o]) (rest := []) hx hb hml hown hts (c_X0_remember (l := l) (G := G) (h := h) (st := st) (y0 := y0) (y1 := y1) (y2 := y2) (y3 := y3) (y4 := y4) (k := k) (sz := sz) (cs := cs) (hk := by first | assumption | omega) (hsz := by first | assumption | omega) (o2 := o) (d1 := a1) (d2 := a2) (d3 := a3) (d4 := a4) (ρ := σ)) gX5_setDefault_X0_remember rfl rfl rfl (by decide +kernel) ⟨Nat.le_of_ble_eq_true rfl, Nat.le_of_ble_eq_true rfl⟩ rfl hK hPc hDc rfl rfl rfl hl.1 rfl (Nat.le_of_ble_eq_true rfl) dX5_setDefault_28 ⟨Nat.le_of_ble_eq_true rfl, Nat.le_of_ble_eq_true rfl⟩) hP hD hS [4, 5, 2] (by decide) rfl (fun H locs hB28 back hS => ?_)
      obtain ⟨k128, sz128, cs128, hqk28, hqs28, hqc28, hP1⟩ := hB28
      obtain ⟨hP, hD⟩ := back [[ob h 0 [.int (nI sz128), .ref st], arS G st 5 (fun j => some (y0 (rgt k128 j)))], wHs G y0 y1 y2 y3 y4 cs128, wS G o a1 a2 a3 a4 σ] rfl hP1
      have hP : va_P G.1 vwCl (bl [[ob z 5 [.ref t, .ref t2, .ref h, .ref x]], [ob t 3 [.ref o, .ref q]], wS G o a1 a2 a3 a4 σ, wT G q b1 b2 cv cm, [ob h 0 [.int (nI sz128), .ref st], arS G st 5 (fun j => some (y0 (rgt k128 j)))], wHs G y0 y1 y2 y3 y4 cs128]) H := hP
      have hD : va_D A (bl [[ob z 5 [.ref t, .ref t2, .ref h, .ref x]], [ob t 3 [.ref o, .ref q]], wS G o a1 a2 a3 a4 σ, wT G q b1 b2 cv cm, [ob h 0 [.int (nI sz128), .ref st], arS G st 5 (fun j => some (y0 (rgt k128 j)))], wHs G y0 y1 y2 y3 y4 cs128]) := hD
      refine lv_aload_n hx hb dX5_setDefault_31 rfl (lv_at hl 0 rfl) ?_
      refine va_get (D := G.1) (ci := 5) (v := .ref t) (C := RX5) (T := TX5) (N := 4) hx hb hts iqX5_setDefault_ok_X5 hown hK.1 hP 0 rfl rfl 0 (by decide) (hts (.fieldLink RX5 12 "PushedTables" "table" "LPushedTables$Table;") (List.mem_of_getElem? (i := 2) rfl)) (fun _ h9 => h9) rfl dX5_setDefault_32 ?_
      refine va_get (D := G.1) (ci := 3) (v := .ref o) (C := RX3) (T := TX3) (N := 2) hx hb hts iqX5_setDefault_ok_X3 hown hK.1 hP 1 rfl rfl 0 (by decide) (hts (.fieldLink RX5 37 "PushedTables$Table" "state" "LPushedTables$State;") (List.mem_of_getElem? (i := 3) rfl)) (fun _ h9 => h9) rfl dX5_setDefault_35 ?_
      refine lv_iload_n hx hb dX5_setDefault_38 rfl (lv_at hl 1 rfl) ?_
      refine lv_iload_n hx hb dX5_setDefault_39 rfl (lv_at hl 2 rfl) ?_
      have hPc := bl_sub hP (is := [2]) (bc := [wS G o a1 a2 a3 a4 σ]) rfl
      have hDc := bl_subD hD [2] [wS G o a1 a2 a3 a4 σ] (by decide) rfl
      refine g_VB (bc := [wS G o a1 a2 a3 a4 σ]) (k_W (q0 := 0) (ci := 1) (n := 2) (As := [.int (nI r), .int (nI v)]) (rest := []) hx hb hml hown hts (c_X1_changeDefault (l := l) (G := G) (o := o) (a1 := a1) (a2 := a2) (a3 := a3) (a4 := a4) (σ := σ) (r := r) (v := v) (hB := by first | assumption | omega) (hr := by first | assumption | omega) (hv := by first | assumption | omega)) gX5_setDefault_X1_changeDefault rfl rfl rfl (by decide +kernel) ⟨Nat.le_of_ble_eq_true rfl, Nat.le_of_ble_eq_true rfl⟩ rfl hK hPc hDc rfl rfl rfl hl.1 rfl (Nat.le_of_ble_eq_true rfl) dX5_setDefault_40 ⟨Nat.le_of_ble_eq_true rfl, Nat.le_of_ble_eq_true rfl⟩) hP hD hS [2] (by decide) rfl (fun H locs hB40 back hS => ?_)
      have hP1 := hB40
      obtain ⟨hP, hD⟩ := back [wS G o a1 a2 a3 a4 (cdS σ r v)] rfl hP1
      have hP : va_P G.1 vwCl (bl [[ob z 5 [.ref t, .ref t2, .ref h, .ref x]], [ob t 3 [.ref o, .ref q]], wS G o a1 a2 a3 a4 (cdS σ r v), wT G q b1 b2 cv cm, [ob h 0 [.int (nI sz128), .ref st], arS G st 5 (fun j => some (y0 (rgt k128 j)))], wHs G y0 y1 y2 y3 y4 cs128]) H := hP
      have hD : va_D A (bl [[ob z 5 [.ref t, .ref t2, .ref h, .ref x]], [ob t 3 [.ref o, .ref q]], wS G o a1 a2 a3 a4 (cdS σ r v), wT G q b1 b2 cv cm, [ob h 0 [.int (nI sz128), .ref st], arS G st 5 (fun j => some (y0 (rgt k128 j)))], wHs G y0 y1 y2 y3 y4 cs128]) := hD
      have hB2 := Bd_cdS hB (r := r) hv9
      refine lv_aload_n hx hb dX5_setDefault_43 rfl (lv_at hl 0 rfl) ?_
      refine va_get (D := G.1) (ci := 5) (v := .ref t) (C := RX5) (T := TX5) (N := 4) hx hb hts iqX5_setDefault_ok_X5 hown hK.1 hP 0 rfl rfl 0 (by decide) (hts (.fieldLink RX5 12 "PushedTables" "table" "LPushedTables$Table;") (List.mem_of_getElem? (i := 2) rfl)) (fun _ h9 => h9) rfl dX5_setDefault_44 ?_
      refine lv_iload_n hx hb dX5_setDefault_47 rfl (lv_at hl 1 rfl) ?_
      have hPc := bl_sub hP (is := [1, 2, 3]) (bc := [[ob t 3 [.ref o, .ref q]], wS G o a1 a2 a3 a4 (cdS σ r v), wT G q b1 b2 cv cm]) rfl
      have hDc := bl_subD hD [1, 2, 3] [[ob t 3 [.ref o, .ref q]], wS G o a1 a2 a3 a4 (cdS σ r v), wT G q b1 b2 cv cm] (by decide) rfl
      refine g_VB (bc := [[ob t 3 [.ref o, .ref q]], wS G o a1 a2 a3 a4 (cdS σ r v), wT G q b1 b2 cv cm]) (k_W (q0 := 0) (ci := 3) (n := 1) (As := [.int (nI r)]) (rest := []) hx hb hml hown hts (c_X3_settle (l := l) (G := G) (t := t) (o := o) (a1 := a1) (a2 := a2) (a3 := a3) (a4 := a4) (σ := (cdS σ r v)) (q := q) (b1 := b1) (b2 := b2) (cv := cv) (cm := cm) (hB := by first | assumption | omega) (hv := by first | assumption | omega) (hm := by first | assumption | omega) (r := r) (hr := by first | assumption | omega)) gX5_setDefault_X3_settle rfl rfl rfl (by decide +kernel) ⟨Nat.le_of_ble_eq_true rfl, Nat.le_of_ble_eq_true rfl⟩ rfl hK hPc hDc rfl rfl rfl hl.1 rfl (Nat.le_of_ble_eq_true rfl) dX5_setDefault_48 ⟨Nat.le_of_ble_eq_true rfl, Nat.le_of_ble_eq_true rfl⟩) hP hD hS [1, 2, 3] (by decide) rfl (fun H locs hB48 back hS => ?_)
      obtain ⟨σ148, cv148, cm148, hq48, hb148, hb248, hb348, hP1⟩ := hB48
      obtain ⟨hP, hD⟩ := back [[ob t 3 [.ref o, .ref q]], wS G o a1 a2 a3 a4 σ148, wT G q b1 b2 cv148 cm148] rfl hP1
      have hP : va_P G.1 vwCl (bl [[ob z 5 [.ref t, .ref t2, .ref h, .ref x]], [ob t 3 [.ref o, .ref q]], wS G o a1 a2 a3 a4 σ148, wT G q b1 b2 cv148 cm148, [ob h 0 [.int (nI sz128), .ref st], arS G st 5 (fun j => some (y0 (rgt k128 j)))], wHs G y0 y1 y2 y3 y4 cs128]) H := hP
      have hD : va_D A (bl [[ob z 5 [.ref t, .ref t2, .ref h, .ref x]], [ob t 3 [.ref o, .ref q]], wS G o a1 a2 a3 a4 σ148, wT G q b1 b2 cv148 cm148, [ob h 0 [.int (nI sz128), .ref st], arS G st 5 (fun j => some (y0 (rgt k128 j)))], wHs G y0 y1 y2 y3 y4 cs128]) := hD
      refine lv_aload_n hx hb dX5_setDefault_51 rfl (lv_at hl 0 rfl) ?_
      refine va_get (D := G.1) (ci := 5) (v := .ref t) (C := RX5) (T := TX5) (N := 4) hx hb hts iqX5_setDefault_ok_X5 hown hK.1 hP 0 rfl rfl 0 (by decide) (hts (.fieldLink RX5 12 "PushedTables" "table" "LPushedTables$Table;") (List.mem_of_getElem? (i := 2) rfl)) (fun _ h9 => h9) rfl dX5_setDefault_52 ?_
      refine va_get (D := G.1) (ci := 3) (v := .ref o) (C := RX3) (T := TX3) (N := 2) hx hb hts iqX5_setDefault_ok_X3 hown hK.1 hP 1 rfl rfl 0 (by decide) (hts (.fieldLink RX5 37 "PushedTables$Table" "state" "LPushedTables$State;") (List.mem_of_getElem? (i := 3) rfl)) (fun _ h9 => h9) rfl dX5_setDefault_55 ?_
      refine lv_iload_n hx hb dX5_setDefault_58 rfl (lv_at hl 1 rfl) ?_
      have hPc := bl_sub hP (is := [2]) (bc := [wS G o a1 a2 a3 a4 σ148]) rfl
      have hDc := bl_subD hD [2] [wS G o a1 a2 a3 a4 σ148] (by decide) rfl
      refine g_ro (k_W (q0 := 0) (ci := 1) (n := 1) (As := [.int (nI r)]) (rest := []) hx hb hml hown hts (c_X1_weightOf (l := l) (G := G) (o := o) (a1 := a1) (a2 := a2) (a3 := a3) (a4 := a4) (σ := σ148) (r := r) (hB := by first | assumption | omega) (hr := by first | assumption | omega)) gX5_setDefault_X1_weightOf rfl rfl rfl (by decide +kernel) ⟨Nat.le_of_ble_eq_true rfl, Nat.le_of_ble_eq_true rfl⟩ rfl hK hPc hDc rfl rfl rfl hl.1 rfl (Nat.le_of_ble_eq_true rfl) dX5_setDefault_59 ⟨Nat.le_of_ble_eq_true rfl, Nat.le_of_ble_eq_true rfl⟩) (fun r59 h59 => ?_)
      obtain rfl : (nI (wt σ148 r)) = r59 := Eq.symm h59
      have b59 := wt_le σ148 r
      exact hret _ _ _ _ _ hS dX5_setDefault_62 (⟨k128, sz128, cs128, σ148, cv148, cm148, rfl, hqk28, hqs28, hqc28, hq48, by first | assumption | omega, by first | assumption | omega, by first | assumption | omega, hP⟩)
    · exact (no_f (inr_nI (by omega) (by omega)) cq12).elim

theorem iqX5_removeLast_ok_X5 : ∀ w ∈ u_ws RX5 TX5 4, w ∈ wsX5_removeLast := by decide +kernel
theorem iqX5_removeLast_ok_X3 : ∀ w ∈ u_ws RX3 TX3 2, w ∈ wsX5_removeLast := by decide +kernel
theorem iqX5_removeLast_ok_X1 : ∀ w ∈ u_ws RX1 TX1 5, w ∈ wsX5_removeLast := by decide +kernel
set_option maxHeartbeats 1000000 in
set_option maxRecDepth 100000 in
theorem c_X5_removeLast_ok (l : Launch) (G : kG) (z t t2 h x : Nat) (o a1 a2 a3 a4 : Nat) (σ : Sg) (q b1 b2 : Nat) (cv cm : Nat → Nat) (st : Nat) (y0 y1 y2 y3 y4 : Nat → Nat) (k sz : Nat) (cs : Nat → Sg) (hk : k < 5) (hsz : sz ≤ 5) (hB : Bd σ) (hv : Bc 100 cv) (hm : Bc 24 cm) (h0 : 0 < nn σ) : Met l yX5_removeLast wsX5_removeLast ({ frames := 4, cells := 0, slots := 0, locals := 91 } : Room) (cP G [.ref z] (bl [[ob z 5 [.ref t, .ref t2, .ref h, .ref x]], [ob t 3 [.ref o, .ref q]], wS G o a1 a2 a3 a4 σ, wT G q b1 b2 cv cm, [ob h 0 [.int (nI sz), .ref st], arS G st 5 (fun j => some (y0 (rgt k j)))], wHs G y0 y1 y2 y3 y4 cs])) (qI (fun rv H => ∃ (k1 : Nat) (sz1 : Nat) (cs1 : Nat → Sg) (σ1 : Sg) (cv1 : Nat → Nat) (cm1 : Nat → Nat), rv = (nI (nn σ - 1)) ∧ (k1 = (if sz < 5 then k else (k + 1) % 5)) ∧ (sz1 = (if sz < 5 then sz + 1 else 5)) ∧ cs1 = va_up cs (rgt k sz) σ ∧ (σ1, cv1, cm1) = lvT σ cv cm (nn σ - 1) ∧ Bd σ1 ∧ Bc 100 cv1 ∧ Bc 24 cm1 ∧ va_P G.1 vwCl (bl [[ob z 5 [.ref t, .ref t2, .ref h, .ref x]], [ob t 3 [.ref o, .ref q]], wS G o a1 a2 a3 a4 (nn σ1 - 1, dd σ1, vv σ1, ff σ1, ss σ1), wT G q b1 b2 cv1 cm1, [ob h 0 [.int (nI sz1), .ref st], arS G st 5 (fun j => some (y0 (rgt k1 j)))], wHs G y0 y1 y2 y3 y4 cs1]) H) (mA (bl [[ob z 5 [.ref t, .ref t2, .ref h, .ref x]], [ob t 3 [.ref o, .ref q]], wS G o a1 a2 a3 a4 σ, wT G q b1 b2 cv cm, [ob h 0 [.int (nI sz), .ref st], arS G st 5 (fun j => some (y0 (rgt k j)))], wHs G y0 y1 y2 y3 y4 cs]))) 0 0 (mA (bl [[ob z 5 [.ref t, .ref t2, .ref h, .ref x]], [ob t 3 [.ref o, .ref q]], wS G o a1 a2 a3 a4 σ, wT G q b1 b2 cv cm, [ob h 0 [.int (nI sz), .ref st], arS G st 5 (fun j => some (y0 (rgt k j)))], wHs G y0 y1 y2 y3 y4 cs])) := by
  refine met_muI (cc := cX5_removeLast) (maxL := 1) (ty := .int) (own := RX5) (by decide) rfl rfl (fun _ _ _ => rfl) (Nat.le_of_ble_eq_true rfl) ?_
  intro p e s m args below meth cod Q A hx hb hml hown hts hK hP hD hS hret ls hl
  have hl : lv_has ls 1 [(0, .ref z)] := hl
  have h24 := hB.n
  refine lv_aload_n hx hb dX5_removeLast_0 rfl (lv_at hl 0 rfl) ?_
  refine va_get (D := G.1) (ci := 5) (v := .ref t) (C := RX5) (T := TX5) (N := 4) hx hb hts iqX5_removeLast_ok_X5 hown hK.1 hP 0 rfl rfl 0 (by decide) (hts (.fieldLink RX5 12 "PushedTables" "table" "LPushedTables$Table;") (List.mem_of_getElem? (i := 1) rfl)) (fun _ h9 => h9) rfl dX5_removeLast_1 ?_
  refine va_get (D := G.1) (ci := 3) (v := .ref o) (C := RX3) (T := TX3) (N := 2) hx hb hts iqX5_removeLast_ok_X3 hown hK.1 hP 1 rfl rfl 0 (by decide) (hts (.fieldLink RX5 37 "PushedTables$Table" "state" "LPushedTables$State;") (List.mem_of_getElem? (i := 2) rfl)) (fun _ h9 => h9) rfl dX5_removeLast_4 ?_
  refine va_get (D := G.1) (ci := 1) (v := .int (nI (nn σ))) (C := RX1) (T := TX1) (N := 5) hx hb hts iqX5_removeLast_ok_X1 hown hK.1 hP 2 rfl rfl 0 (by decide) (hts (.fieldLink RX5 41 "PushedTables$State" "rowCount" "I") (List.mem_of_getElem? (i := 3) rfl)) (fun _ h9 => h9) rfl dX5_removeLast_7 ?_
  refine r_if_gt (P := 0 < (nn σ)) (tgt := 16) hx hb dX5_removeLast_10 (by decide) (nI_gt0 (by omega)) (fun cq10 => ?_) (fun cq10 => ?_)
  · refine lv_aload_n hx hb dX5_removeLast_16 rfl (lv_at hl 0 rfl) ?_
    refine va_get (D := G.1) (ci := 5) (v := .ref h) (C := RX5) (T := TX5) (N := 4) hx hb hts iqX5_removeLast_ok_X5 hown hK.1 hP 0 rfl rfl 2 (by decide) (hts (.fieldLink RX5 22 "PushedTables" "history" "LPushedTables$History;") (List.mem_of_getElem? (i := 4) rfl)) (fun _ h9 => h9) rfl dX5_removeLast_17 ?_
    refine lv_aload_n hx hb dX5_removeLast_20 rfl (lv_at hl 0 rfl) ?_
    refine va_get (D := G.1) (ci := 5) (v := .ref t) (C := RX5) (T := TX5) (N := 4) hx hb hts iqX5_removeLast_ok_X5 hown hK.1 hP 0 rfl rfl 0 (by decide) (hts (.fieldLink RX5 12 "PushedTables" "table" "LPushedTables$Table;") (List.mem_of_getElem? (i := 1) rfl)) (fun _ h9 => h9) rfl dX5_removeLast_21 ?_
    refine va_get (D := G.1) (ci := 3) (v := .ref o) (C := RX3) (T := TX3) (N := 2) hx hb hts iqX5_removeLast_ok_X3 hown hK.1 hP 1 rfl rfl 0 (by decide) (hts (.fieldLink RX5 37 "PushedTables$Table" "state" "LPushedTables$State;") (List.mem_of_getElem? (i := 2) rfl)) (fun _ h9 => h9) rfl dX5_removeLast_24 ?_
    have hPc := bl_sub hP (is := [4, 5, 2]) (bc := [[ob h 0 [.int (nI sz), .ref st], arS G st 5 (fun j => some (y0 (rgt k j)))], wHs G y0 y1 y2 y3 y4 cs, wS G o a1 a2 a3 a4 σ]) rfl
    have hDc := bl_subD hD [4, 5, 2] [[ob h 0 [.int (nI sz), .ref st], arS G st 5 (fun j => some (y0 (rgt k j)))], wHs G y0 y1 y2 y3 y4 cs, wS G o a1 a2 a3 a4 σ] (by decide) rfl
    refine g_VB (bc := [[ob h 0 [.int (nI sz), .ref st], arS G st 5 (fun j => some (y0 (rgt k j)))], wHs G y0 y1 y2 y3 y4 cs, wS G o a1 a2 a3 a4 σ]) (k_W (q0 := 0) (ci := 0) (n := 1) (As := [.ref o]) (rest := []) hx hb hml hown hts (c_X0_remember (l := l) (G := G) (h := h) (st := st) (y0 := y0) (y1 := y1) (y2 := y2) (y3 := y3) (y4 := y4) (k := k) (sz := sz) (cs := cs) (hk := by first | assumption | omega) (hsz := by first | assumption | omega) (o2 := o) (d1 := a1) (d2 := a2) (d3 := a3) (d4 := a4) (ρ := σ)) gX5_removeLast_X0_remember rfl rfl rfl (by decide +kernel) ⟨Nat.le_of_ble_eq_true rfl, Nat.le_of_ble_eq_true rfl⟩ rfl hK hPc hDc rfl rfl rfl hl.1 rfl (Nat.le_of_ble_eq_true rfl) dX5_removeLast_27 ⟨Nat.le_of_ble_eq_true rfl, Nat.le_of_ble_eq_true rfl⟩) hP hD hS [4, 5, 2] (by decide) rfl (fun H locs hB27 back hS => ?_)
    obtain ⟨k127, sz127, cs127, hqk27, hqs27, hqc27, hP1⟩ := hB27
    obtain ⟨hP, hD⟩ := back [[ob h 0 [.int (nI sz127), .ref st], arS G st 5 (fun j => some (y0 (rgt k127 j)))], wHs G y0 y1 y2 y3 y4 cs127, wS G o a1 a2 a3 a4 σ] rfl hP1
    have hP : va_P G.1 vwCl (bl [[ob z 5 [.ref t, .ref t2, .ref h, .ref x]], [ob t 3 [.ref o, .ref q]], wS G o a1 a2 a3 a4 σ, wT G q b1 b2 cv cm, [ob h 0 [.int (nI sz127), .ref st], arS G st 5 (fun j => some (y0 (rgt k127 j)))], wHs G y0 y1 y2 y3 y4 cs127]) H := hP
    have hD : va_D A (bl [[ob z 5 [.ref t, .ref t2, .ref h, .ref x]], [ob t 3 [.ref o, .ref q]], wS G o a1 a2 a3 a4 σ, wT G q b1 b2 cv cm, [ob h 0 [.int (nI sz127), .ref st], arS G st 5 (fun j => some (y0 (rgt k127 j)))], wHs G y0 y1 y2 y3 y4 cs127]) := hD
    refine lv_aload_n hx hb dX5_removeLast_30 rfl (lv_at hl 0 rfl) ?_
    refine va_get (D := G.1) (ci := 5) (v := .ref t) (C := RX5) (T := TX5) (N := 4) hx hb hts iqX5_removeLast_ok_X5 hown hK.1 hP 0 rfl rfl 0 (by decide) (hts (.fieldLink RX5 12 "PushedTables" "table" "LPushedTables$Table;") (List.mem_of_getElem? (i := 1) rfl)) (fun _ h9 => h9) rfl dX5_removeLast_31 ?_
    refine lv_aload_n hx hb dX5_removeLast_34 rfl (lv_at hl 0 rfl) ?_
    refine va_get (D := G.1) (ci := 5) (v := .ref t) (C := RX5) (T := TX5) (N := 4) hx hb hts iqX5_removeLast_ok_X5 hown hK.1 hP 0 rfl rfl 0 (by decide) (hts (.fieldLink RX5 12 "PushedTables" "table" "LPushedTables$Table;") (List.mem_of_getElem? (i := 1) rfl)) (fun _ h9 => h9) rfl dX5_removeLast_35 ?_
    refine va_get (D := G.1) (ci := 3) (v := .ref o) (C := RX3) (T := TX3) (N := 2) hx hb hts iqX5_removeLast_ok_X3 hown hK.1 hP 1 rfl rfl 0 (by decide) (hts (.fieldLink RX5 37 "PushedTables$Table" "state" "LPushedTables$State;") (List.mem_of_getElem? (i := 2) rfl)) (fun _ h9 => h9) rfl dX5_removeLast_38 ?_
    refine va_get (D := G.1) (ci := 1) (v := .int (nI (nn σ))) (C := RX1) (T := TX1) (N := 5) hx hb hts iqX5_removeLast_ok_X1 hown hK.1 hP 2 rfl rfl 0 (by decide) (hts (.fieldLink RX5 41 "PushedTables$State" "rowCount" "I") (List.mem_of_getElem? (i := 3) rfl)) (fun _ h9 => h9) rfl dX5_removeLast_41 ?_
    refine lv_iconst (v := (nI 1)) hx hb dX5_removeLast_44 (by decide) ?_
    refine r_isub (v := (nn σ) - 1) hx hb dX5_removeLast_45 (by omega) rfl ?_
    have hPc := bl_sub hP (is := [1, 2, 3]) (bc := [[ob t 3 [.ref o, .ref q]], wS G o a1 a2 a3 a4 σ, wT G q b1 b2 cv cm]) rfl
    have hDc := bl_subD hD [1, 2, 3] [[ob t 3 [.ref o, .ref q]], wS G o a1 a2 a3 a4 σ, wT G q b1 b2 cv cm] (by decide) rfl
    refine g_VB (bc := [[ob t 3 [.ref o, .ref q]], wS G o a1 a2 a3 a4 σ, wT G q b1 b2 cv cm]) (k_W (q0 := 0) (ci := 3) (n := 1) (As := [.int (nI ((nn σ) - 1))]) (rest := []) hx hb hml hown hts (c_X3_leaveForm (l := l) (G := G) (t := t) (o := o) (a1 := a1) (a2 := a2) (a3 := a3) (a4 := a4) (σ := σ) (q := q) (b1 := b1) (b2 := b2) (cv := cv) (cm := cm) (hB := by first | assumption | omega) (hv := by first | assumption | omega) (hm := by first | assumption | omega) (r := (nn σ) - 1) (hr := by first | assumption | omega)) gX5_removeLast_X3_leaveForm rfl rfl rfl (by decide +kernel) ⟨Nat.le_of_ble_eq_true rfl, Nat.le_of_ble_eq_true rfl⟩ rfl hK hPc hDc rfl rfl rfl hl.1 rfl (Nat.le_of_ble_eq_true rfl) dX5_removeLast_46 ⟨Nat.le_of_ble_eq_true rfl, Nat.le_of_ble_eq_true rfl⟩) hP hD hS [1, 2, 3] (by decide) rfl (fun H locs hB46 back hS => ?_)
    obtain ⟨σ146, cv146, cm146, hq46, hb146, hb246, hb346, hP1⟩ := hB46
    obtain ⟨hP, hD⟩ := back [[ob t 3 [.ref o, .ref q]], wS G o a1 a2 a3 a4 σ146, wT G q b1 b2 cv146 cm146] rfl hP1
    have hP : va_P G.1 vwCl (bl [[ob z 5 [.ref t, .ref t2, .ref h, .ref x]], [ob t 3 [.ref o, .ref q]], wS G o a1 a2 a3 a4 σ146, wT G q b1 b2 cv146 cm146, [ob h 0 [.int (nI sz127), .ref st], arS G st 5 (fun j => some (y0 (rgt k127 j)))], wHs G y0 y1 y2 y3 y4 cs127]) H := hP
    have hD : va_D A (bl [[ob z 5 [.ref t, .ref t2, .ref h, .ref x]], [ob t 3 [.ref o, .ref q]], wS G o a1 a2 a3 a4 σ146, wT G q b1 b2 cv146 cm146, [ob h 0 [.int (nI sz127), .ref st], arS G st 5 (fun j => some (y0 (rgt k127 j)))], wHs G y0 y1 y2 y3 y4 cs127]) := hD
    have hn1 : nn σ146 = nn σ := by rw [← nn_lvT σ cv cm (nn σ - 1), ← hq46]
    refine lv_aload_n hx hb dX5_removeLast_49 rfl (lv_at hl 0 rfl) ?_
    refine va_get (D := G.1) (ci := 5) (v := .ref t) (C := RX5) (T := TX5) (N := 4) hx hb hts iqX5_removeLast_ok_X5 hown hK.1 hP 0 rfl rfl 0 (by decide) (hts (.fieldLink RX5 12 "PushedTables" "table" "LPushedTables$Table;") (List.mem_of_getElem? (i := 1) rfl)) (fun _ h9 => h9) rfl dX5_removeLast_50 ?_
    refine va_get (D := G.1) (ci := 3) (v := .ref o) (C := RX3) (T := TX3) (N := 2) hx hb hts iqX5_removeLast_ok_X3 hown hK.1 hP 1 rfl rfl 0 (by decide) (hts (.fieldLink RX5 37 "PushedTables$Table" "state" "LPushedTables$State;") (List.mem_of_getElem? (i := 2) rfl)) (fun _ h9 => h9) rfl dX5_removeLast_53 ?_
    refine lv_dup hx hb dX5_removeLast_56 rfl ?_
    refine va_get (D := G.1) (ci := 1) (v := .int (nI (nn σ146))) (C := RX1) (T := TX1) (N := 5) hx hb hts iqX5_removeLast_ok_X1 hown hK.1 hP 2 rfl rfl 0 (by decide) (hts (.fieldLink RX5 41 "PushedTables$State" "rowCount" "I") (List.mem_of_getElem? (i := 3) rfl)) (fun _ h9 => h9) rfl dX5_removeLast_57 ?_
    refine lv_iconst (v := (nI 1)) hx hb dX5_removeLast_60 (by decide) ?_
    refine r_isub (v := (nn σ146) - 1) hx hb dX5_removeLast_61 (by omega) rfl ?_
    refine va_put (D := G.1) (ci := 1) (v := .int (nI ((nn σ146) - 1))) (ty := .int) (C := RX1) (T := TX1) (N := 5) hx hb hts iqX5_removeLast_ok_X1 tyX1 tyX1_ok nmX1 hown hK.1 hP hD hS 2 rfl rfl 0 (by decide) (hts (.fieldLink RX5 41 "PushedTables$State" "rowCount" "I") (List.mem_of_getElem? (i := 3) rfl)) (fun _ h9 => h9) rfl (by decide +kernel) rfl rfl (Nat.le_of_ble_eq_true rfl) dX5_removeLast_62 (fun H locs hP hD hS => ?_)
    have hP : va_P G.1 vwCl (bl [[ob z 5 [.ref t, .ref t2, .ref h, .ref x]], [ob t 3 [.ref o, .ref q]], wS G o a1 a2 a3 a4 ((nn σ146) - 1, dd σ146, vv σ146, ff σ146, ss σ146), wT G q b1 b2 cv146 cm146, [ob h 0 [.int (nI sz127), .ref st], arS G st 5 (fun j => some (y0 (rgt k127 j)))], wHs G y0 y1 y2 y3 y4 cs127]) H := hP
    have hD : va_D A (bl [[ob z 5 [.ref t, .ref t2, .ref h, .ref x]], [ob t 3 [.ref o, .ref q]], wS G o a1 a2 a3 a4 ((nn σ146) - 1, dd σ146, vv σ146, ff σ146, ss σ146), wT G q b1 b2 cv146 cm146, [ob h 0 [.int (nI sz127), .ref st], arS G st 5 (fun j => some (y0 (rgt k127 j)))], wHs G y0 y1 y2 y3 y4 cs127]) := hD
    refine lv_aload_n hx hb dX5_removeLast_65 rfl (lv_at hl 0 rfl) ?_
    refine va_get (D := G.1) (ci := 5) (v := .ref t) (C := RX5) (T := TX5) (N := 4) hx hb hts iqX5_removeLast_ok_X5 hown hK.1 hP 0 rfl rfl 0 (by decide) (hts (.fieldLink RX5 12 "PushedTables" "table" "LPushedTables$Table;") (List.mem_of_getElem? (i := 1) rfl)) (fun _ h9 => h9) rfl dX5_removeLast_66 ?_
    refine va_get (D := G.1) (ci := 3) (v := .ref o) (C := RX3) (T := TX3) (N := 2) hx hb hts iqX5_removeLast_ok_X3 hown hK.1 hP 1 rfl rfl 0 (by decide) (hts (.fieldLink RX5 37 "PushedTables$Table" "state" "LPushedTables$State;") (List.mem_of_getElem? (i := 2) rfl)) (fun _ h9 => h9) rfl dX5_removeLast_69 ?_
    refine va_get (D := G.1) (ci := 1) (v := .int (nI ((nn σ146) - 1))) (C := RX1) (T := TX1) (N := 5) hx hb hts iqX5_removeLast_ok_X1 hown hK.1 hP 2 rfl rfl 0 (by decide) (hts (.fieldLink RX5 41 "PushedTables$State" "rowCount" "I") (List.mem_of_getElem? (i := 3) rfl)) (fun _ h9 => h9) rfl dX5_removeLast_72 ?_
    exact hret _ _ _ _ _ hS dX5_removeLast_75 (⟨k127, sz127, cs127, σ146, cv146, cm146, by rw [hn1], hqk27, hqs27, hqc27, hq46, by first | assumption | omega, by first | assumption | omega, by first | assumption | omega, hP⟩)
  · exact absurd h0 cq10

theorem iqX5_slim_ok_X5 : ∀ w ∈ u_ws RX5 TX5 4, w ∈ wsX5_slim := by decide +kernel
theorem iqX5_slim_ok_X3 : ∀ w ∈ u_ws RX3 TX3 2, w ∈ wsX5_slim := by decide +kernel
set_option maxHeartbeats 1000000 in
set_option maxRecDepth 100000 in
theorem c_X5_slim_ok (l : Launch) (G : kG) (z t t2 h x : Nat) (o a1 a2 a3 a4 : Nat) (σ : Sg) (q b1 b2 : Nat) (cv cm : Nat → Nat) (st : Nat) (y0 y1 y2 y3 y4 : Nat → Nat) (k sz : Nat) (cs : Nat → Sg) (hk : k < 5) (hsz : sz ≤ 5) (hB : Bd σ) (hv : Bc 100 cv) (hm : Bc 24 cm) (r : Nat) (hr : r < nn σ) : Met l yX5_slim wsX5_slim ({ frames := 5, cells := 0, slots := 0, locals := 116 } : Room) (cP G [.ref z, .int (nI r)] (bl [[ob z 5 [.ref t, .ref t2, .ref h, .ref x]], [ob t 3 [.ref o, .ref q]], wS G o a1 a2 a3 a4 σ, wT G q b1 b2 cv cm, [ob h 0 [.int (nI sz), .ref st], arS G st 5 (fun j => some (y0 (rgt k j)))], wHs G y0 y1 y2 y3 y4 cs])) (qI (fun rv H => ∃ (k1 : Nat) (sz1 : Nat) (cs1 : Nat → Sg) (σ1 : Sg) (cv1 : Nat → Nat) (cm1 : Nat → Nat), rv = (nI (dd σ1 r)) ∧ (k1 = (if sz < 5 then k else (k + 1) % 5)) ∧ (sz1 = (if sz < 5 then sz + 1 else 5)) ∧ cs1 = va_up cs (rgt k sz) σ ∧ (σ1, cv1, cm1) = stT (nn σ, va_up (dd σ) r (mv σ r), vv σ, ff σ, ss σ) cv cm r ∧ Bd σ1 ∧ Bc 100 cv1 ∧ Bc 24 cm1 ∧ va_P G.1 vwCl (bl [[ob z 5 [.ref t, .ref t2, .ref h, .ref x]], [ob t 3 [.ref o, .ref q]], wS G o a1 a2 a3 a4 σ1, wT G q b1 b2 cv1 cm1, [ob h 0 [.int (nI sz1), .ref st], arS G st 5 (fun j => some (y0 (rgt k1 j)))], wHs G y0 y1 y2 y3 y4 cs1]) H) (mA (bl [[ob z 5 [.ref t, .ref t2, .ref h, .ref x]], [ob t 3 [.ref o, .ref q]], wS G o a1 a2 a3 a4 σ, wT G q b1 b2 cv cm, [ob h 0 [.int (nI sz), .ref st], arS G st 5 (fun j => some (y0 (rgt k j)))], wHs G y0 y1 y2 y3 y4 cs]))) 0 0 (mA (bl [[ob z 5 [.ref t, .ref t2, .ref h, .ref x]], [ob t 3 [.ref o, .ref q]], wS G o a1 a2 a3 a4 σ, wT G q b1 b2 cv cm, [ob h 0 [.int (nI sz), .ref st], arS G st 5 (fun j => some (y0 (rgt k j)))], wHs G y0 y1 y2 y3 y4 cs])) := by
  refine met_muI (cc := cX5_slim) (maxL := 2) (ty := .int) (own := RX5) (by decide) rfl rfl (fun _ _ _ => rfl) (Nat.le_of_ble_eq_true rfl) ?_
  intro p e s m args below meth cod Q A hx hb hml hown hts hK hP hD hS hret ls hl
  have hl : lv_has ls 2 [(0, .ref z), (1, .int (nI r))] := hl
  have h24 := hB.n
  refine lv_aload_n hx hb dX5_slim_0 rfl (lv_at hl 0 rfl) ?_
  refine lv_iload_n hx hb dX5_slim_1 rfl (lv_at hl 1 rfl) ?_
  refine g_ro (k_V (q0 := 0) (ci := 5) (n := 1) (As := [.int (nI r)]) (rest := []) (wc := [ob z 5 [.ref t, .ref t2, .ref h, .ref x], ob t 3 [.ref o, .ref q], ob o 1 [.int (nI (nn σ)), .ref a1, .ref a2, .ref a3, .ref a4]]) hx hb hml hown hts (c_X5_isRow (l := l) (G := G) (z := z) (t := t) (t2 := t2) (h := h) (x := x) (o := o) (a1 := a1) (a2 := a2) (a3 := a3) (a4 := a4) (q := q) (n0 := nn σ) (xa := nI r) (hn := by first | assumption | omega))  gX5_slim_X5_isRow rfl rfl rfl (by decide +kernel) ⟨Nat.le_of_ble_eq_true rfl, Nat.le_of_ble_eq_true rfl⟩ rfl hK hP hD [0, 1, 2] rfl (by decide)  rfl rfl rfl hl.1 rfl (Nat.le_of_ble_eq_true rfl) dX5_slim_2 ⟨Nat.le_of_ble_eq_true rfl, Nat.le_of_ble_eq_true rfl⟩) (fun r2 h2 => ?_)
  obtain rfl : (bI (inr (nI r) 0 (((nn σ) : Int) - 1))) = r2 := Eq.symm h2
  refine r_if_ne (P := (inr (nI r) 0 (((nn σ) : Int) - 1)) = false) (tgt := 10) hx hb dX5_slim_5 (by decide) (bI_eq0) (fun cq5 => ?_) (fun cq5 => ?_)
  · refine lv_aload_n hx hb dX5_slim_10 rfl (lv_at hl 0 rfl) ?_
    refine va_get (D := G.1) (ci := 5) (v := .ref h) (C := RX5) (T := TX5) (N := 4) hx hb hts iqX5_slim_ok_X5 hown hK.1 hP 0 rfl rfl 2 (by decide) (hts (.fieldLink RX5 22 "PushedTables" "history" "LPushedTables$History;") (List.mem_of_getElem? (i := 1) rfl)) (fun _ h9 => h9) rfl dX5_slim_11 ?_
    refine lv_aload_n hx hb dX5_slim_14 rfl (lv_at hl 0 rfl) ?_
    refine va_get (D := G.1) (ci := 5) (v := .ref t) (C := RX5) (T := TX5) (N := 4) hx hb hts iqX5_slim_ok_X5 hown hK.1 hP 0 rfl rfl 0 (by decide) (hts (.fieldLink RX5 12 "PushedTables" "table" "LPushedTables$Table;") (List.mem_of_getElem? (i := 2) rfl)) (fun _ h9 => h9) rfl dX5_slim_15 ?_
    refine va_get (D := G.1) (ci := 3) (v := .ref o) (C := RX3) (T := TX3) (N := 2) hx hb hts iqX5_slim_ok_X3 hown hK.1 hP 1 rfl rfl 0 (by decide) (hts (.fieldLink RX5 37 "PushedTables$Table" "state" "LPushedTables$State;") (List.mem_of_getElem? (i := 3) rfl)) (fun _ h9 => h9) rfl dX5_slim_18 ?_
    have hPc := bl_sub hP (is := [4, 5, 2]) (bc := [[ob h 0 [.int (nI sz), .ref st], arS G st 5 (fun j => some (y0 (rgt k j)))], wHs G y0 y1 y2 y3 y4 cs, wS G o a1 a2 a3 a4 σ]) rfl
    have hDc := bl_subD hD [4, 5, 2] [[ob h 0 [.int (nI sz), .ref st], arS G st 5 (fun j => some (y0 (rgt k j)))], wHs G y0 y1 y2 y3 y4 cs, wS G o a1 a2 a3 a4 σ] (by decide) rfl
    refine g_VB (bc := [[ob h 0 [.int (nI sz), .ref st], arS G st 5 (fun j => some (y0 (rgt k j)))], wHs G y0 y1 y2 y3 y4 cs, wS G o a1 a2 a3 a4 σ]) (k_W (q0 := 0) (ci := 0) (n := 1) (As := [.ref o]) (rest := []) hx hb hml hown hts (c_X0_remember (l := l) (G := G) (h := h) (st := st) (y0 := y0) (y1 := y1) (y2 := y2) (y3 := y3) (y4 := y4) (k := k) (sz := sz) (cs := cs) (hk := by first | assumption | omega) (hsz := by first | assumption | omega) (o2 := o) (d1 := a1) (d2 := a2) (d3 := a3) (d4 := a4) (ρ := σ)) gX5_slim_X0_remember rfl rfl rfl (by decide +kernel) ⟨Nat.le_of_ble_eq_true rfl, Nat.le_of_ble_eq_true rfl⟩ rfl hK hPc hDc rfl rfl rfl hl.1 rfl (Nat.le_of_ble_eq_true rfl) dX5_slim_21 ⟨Nat.le_of_ble_eq_true rfl, Nat.le_of_ble_eq_true rfl⟩) hP hD hS [4, 5, 2] (by decide) rfl (fun H locs hB21 back hS => ?_)
    obtain ⟨k121, sz121, cs121, hqk21, hqs21, hqc21, hP1⟩ := hB21
    obtain ⟨hP, hD⟩ := back [[ob h 0 [.int (nI sz121), .ref st], arS G st 5 (fun j => some (y0 (rgt k121 j)))], wHs G y0 y1 y2 y3 y4 cs121, wS G o a1 a2 a3 a4 σ] rfl hP1
    have hP : va_P G.1 vwCl (bl [[ob z 5 [.ref t, .ref t2, .ref h, .ref x]], [ob t 3 [.ref o, .ref q]], wS G o a1 a2 a3 a4 σ, wT G q b1 b2 cv cm, [ob h 0 [.int (nI sz121), .ref st], arS G st 5 (fun j => some (y0 (rgt k121 j)))], wHs G y0 y1 y2 y3 y4 cs121]) H := hP
    have hD : va_D A (bl [[ob z 5 [.ref t, .ref t2, .ref h, .ref x]], [ob t 3 [.ref o, .ref q]], wS G o a1 a2 a3 a4 σ, wT G q b1 b2 cv cm, [ob h 0 [.int (nI sz121), .ref st], arS G st 5 (fun j => some (y0 (rgt k121 j)))], wHs G y0 y1 y2 y3 y4 cs121]) := hD
    refine lv_aload_n hx hb dX5_slim_24 rfl (lv_at hl 0 rfl) ?_
    refine va_get (D := G.1) (ci := 5) (v := .ref t) (C := RX5) (T := TX5) (N := 4) hx hb hts iqX5_slim_ok_X5 hown hK.1 hP 0 rfl rfl 0 (by decide) (hts (.fieldLink RX5 12 "PushedTables" "table" "LPushedTables$Table;") (List.mem_of_getElem? (i := 2) rfl)) (fun _ h9 => h9) rfl dX5_slim_25 ?_
    refine va_get (D := G.1) (ci := 3) (v := .ref o) (C := RX3) (T := TX3) (N := 2) hx hb hts iqX5_slim_ok_X3 hown hK.1 hP 1 rfl rfl 0 (by decide) (hts (.fieldLink RX5 37 "PushedTables$Table" "state" "LPushedTables$State;") (List.mem_of_getElem? (i := 3) rfl)) (fun _ h9 => h9) rfl dX5_slim_28 ?_
    refine lv_iload_n hx hb dX5_slim_31 rfl (lv_at hl 1 rfl) ?_
    have hPc := bl_sub hP (is := [2]) (bc := [wS G o a1 a2 a3 a4 σ]) rfl
    have hDc := bl_subD hD [2] [wS G o a1 a2 a3 a4 σ] (by decide) rfl
    refine g_VB (bc := [wS G o a1 a2 a3 a4 σ]) (k_W (q0 := 0) (ci := 1) (n := 1) (As := [.int (nI r)]) (rest := []) hx hb hml hown hts (c_X1_slimDefault (l := l) (G := G) (o := o) (a1 := a1) (a2 := a2) (a3 := a3) (a4 := a4) (σ := σ) (r := r) (hB := by first | assumption | omega) (hr := by first | assumption | omega)) gX5_slim_X1_slimDefault rfl rfl rfl (by decide +kernel) ⟨Nat.le_of_ble_eq_true rfl, Nat.le_of_ble_eq_true rfl⟩ rfl hK hPc hDc rfl rfl rfl hl.1 rfl (Nat.le_of_ble_eq_true rfl) dX5_slim_32 ⟨Nat.le_of_ble_eq_true rfl, Nat.le_of_ble_eq_true rfl⟩) hP hD hS [2] (by decide) rfl (fun H locs hB32 back hS => ?_)
    have hP1 := hB32
    obtain ⟨hP, hD⟩ := back [wS G o a1 a2 a3 a4 (nn σ, va_up (dd σ) r (mv σ r), vv σ, ff σ, ss σ)] rfl hP1
    have hP : va_P G.1 vwCl (bl [[ob z 5 [.ref t, .ref t2, .ref h, .ref x]], [ob t 3 [.ref o, .ref q]], wS G o a1 a2 a3 a4 (nn σ, va_up (dd σ) r (mv σ r), vv σ, ff σ, ss σ), wT G q b1 b2 cv cm, [ob h 0 [.int (nI sz121), .ref st], arS G st 5 (fun j => some (y0 (rgt k121 j)))], wHs G y0 y1 y2 y3 y4 cs121]) H := hP
    have hD : va_D A (bl [[ob z 5 [.ref t, .ref t2, .ref h, .ref x]], [ob t 3 [.ref o, .ref q]], wS G o a1 a2 a3 a4 (nn σ, va_up (dd σ) r (mv σ r), vv σ, ff σ, ss σ), wT G q b1 b2 cv cm, [ob h 0 [.int (nI sz121), .ref st], arS G st 5 (fun j => some (y0 (rgt k121 j)))], wHs G y0 y1 y2 y3 y4 cs121]) := hD
    have hB2 := Bd_slS hB (r := r) (mv_lt σ r)
    refine lv_aload_n hx hb dX5_slim_35 rfl (lv_at hl 0 rfl) ?_
    refine va_get (D := G.1) (ci := 5) (v := .ref t) (C := RX5) (T := TX5) (N := 4) hx hb hts iqX5_slim_ok_X5 hown hK.1 hP 0 rfl rfl 0 (by decide) (hts (.fieldLink RX5 12 "PushedTables" "table" "LPushedTables$Table;") (List.mem_of_getElem? (i := 2) rfl)) (fun _ h9 => h9) rfl dX5_slim_36 ?_
    refine lv_iload_n hx hb dX5_slim_39 rfl (lv_at hl 1 rfl) ?_
    have hPc := bl_sub hP (is := [1, 2, 3]) (bc := [[ob t 3 [.ref o, .ref q]], wS G o a1 a2 a3 a4 (nn σ, va_up (dd σ) r (mv σ r), vv σ, ff σ, ss σ), wT G q b1 b2 cv cm]) rfl
    have hDc := bl_subD hD [1, 2, 3] [[ob t 3 [.ref o, .ref q]], wS G o a1 a2 a3 a4 (nn σ, va_up (dd σ) r (mv σ r), vv σ, ff σ, ss σ), wT G q b1 b2 cv cm] (by decide) rfl
    refine g_VB (bc := [[ob t 3 [.ref o, .ref q]], wS G o a1 a2 a3 a4 (nn σ, va_up (dd σ) r (mv σ r), vv σ, ff σ, ss σ), wT G q b1 b2 cv cm]) (k_W (q0 := 0) (ci := 3) (n := 1) (As := [.int (nI r)]) (rest := []) hx hb hml hown hts (c_X3_settle (l := l) (G := G) (t := t) (o := o) (a1 := a1) (a2 := a2) (a3 := a3) (a4 := a4) (σ := (nn σ, va_up (dd σ) r (mv σ r), vv σ, ff σ, ss σ)) (q := q) (b1 := b1) (b2 := b2) (cv := cv) (cm := cm) (hB := by first | assumption | omega) (hv := by first | assumption | omega) (hm := by first | assumption | omega) (r := r) (hr := by first | assumption | omega)) gX5_slim_X3_settle rfl rfl rfl (by decide +kernel) ⟨Nat.le_of_ble_eq_true rfl, Nat.le_of_ble_eq_true rfl⟩ rfl hK hPc hDc rfl rfl rfl hl.1 rfl (Nat.le_of_ble_eq_true rfl) dX5_slim_40 ⟨Nat.le_of_ble_eq_true rfl, Nat.le_of_ble_eq_true rfl⟩) hP hD hS [1, 2, 3] (by decide) rfl (fun H locs hB40 back hS => ?_)
    obtain ⟨σ140, cv140, cm140, hq40, hb140, hb240, hb340, hP1⟩ := hB40
    obtain ⟨hP, hD⟩ := back [[ob t 3 [.ref o, .ref q]], wS G o a1 a2 a3 a4 σ140, wT G q b1 b2 cv140 cm140] rfl hP1
    have hP : va_P G.1 vwCl (bl [[ob z 5 [.ref t, .ref t2, .ref h, .ref x]], [ob t 3 [.ref o, .ref q]], wS G o a1 a2 a3 a4 σ140, wT G q b1 b2 cv140 cm140, [ob h 0 [.int (nI sz121), .ref st], arS G st 5 (fun j => some (y0 (rgt k121 j)))], wHs G y0 y1 y2 y3 y4 cs121]) H := hP
    have hD : va_D A (bl [[ob z 5 [.ref t, .ref t2, .ref h, .ref x]], [ob t 3 [.ref o, .ref q]], wS G o a1 a2 a3 a4 σ140, wT G q b1 b2 cv140 cm140, [ob h 0 [.int (nI sz121), .ref st], arS G st 5 (fun j => some (y0 (rgt k121 j)))], wHs G y0 y1 y2 y3 y4 cs121]) := hD
    refine lv_aload_n hx hb dX5_slim_43 rfl (lv_at hl 0 rfl) ?_
    refine va_get (D := G.1) (ci := 5) (v := .ref t) (C := RX5) (T := TX5) (N := 4) hx hb hts iqX5_slim_ok_X5 hown hK.1 hP 0 rfl rfl 0 (by decide) (hts (.fieldLink RX5 12 "PushedTables" "table" "LPushedTables$Table;") (List.mem_of_getElem? (i := 2) rfl)) (fun _ h9 => h9) rfl dX5_slim_44 ?_
    refine va_get (D := G.1) (ci := 3) (v := .ref o) (C := RX3) (T := TX3) (N := 2) hx hb hts iqX5_slim_ok_X3 hown hK.1 hP 1 rfl rfl 0 (by decide) (hts (.fieldLink RX5 37 "PushedTables$Table" "state" "LPushedTables$State;") (List.mem_of_getElem? (i := 3) rfl)) (fun _ h9 => h9) rfl dX5_slim_47 ?_
    refine lv_iload_n hx hb dX5_slim_50 rfl (lv_at hl 1 rfl) ?_
    have hPc := bl_sub hP (is := [2]) (bc := [wS G o a1 a2 a3 a4 σ140]) rfl
    have hDc := bl_subD hD [2] [wS G o a1 a2 a3 a4 σ140] (by decide) rfl
    refine g_ro (k_W (q0 := 0) (ci := 1) (n := 1) (As := [.int (nI r)]) (rest := []) hx hb hml hown hts (c_X1_defaultOf (l := l) (G := G) (o := o) (a1 := a1) (a2 := a2) (a3 := a3) (a4 := a4) (σ := σ140) (r := r) (hB := by first | assumption | omega) (hr := by first | assumption | omega)) gX5_slim_X1_defaultOf rfl rfl rfl (by decide +kernel) ⟨Nat.le_of_ble_eq_true rfl, Nat.le_of_ble_eq_true rfl⟩ rfl hK hPc hDc rfl rfl rfl hl.1 rfl (Nat.le_of_ble_eq_true rfl) dX5_slim_51 ⟨Nat.le_of_ble_eq_true rfl, Nat.le_of_ble_eq_true rfl⟩) (fun r51 h51 => ?_)
    obtain rfl : (nI (dd σ140 r)) = r51 := Eq.symm h51
    have b51 := Bd.d (by assumption : Bd σ140) r
    exact hret _ _ _ _ _ hS dX5_slim_54 (⟨k121, sz121, cs121, σ140, cv140, cm140, rfl, hqk21, hqs21, hqc21, hq40, by first | assumption | omega, by first | assumption | omega, by first | assumption | omega, hP⟩)
  · exact (no_f (inr_nI (by omega) (by omega)) cq5).elim

theorem iqX5_push_ok_X5 : ∀ w ∈ u_ws RX5 TX5 4, w ∈ wsX5_push := by decide +kernel
theorem iqX5_push_ok_X3 : ∀ w ∈ u_ws RX3 TX3 2, w ∈ wsX5_push := by decide +kernel
set_option maxHeartbeats 1000000 in
set_option maxRecDepth 100000 in
theorem c_X5_push_ok (l : Launch) (G : kG) (z t t2 h x : Nat) (o a1 a2 a3 a4 : Nat) (σ : Sg) (q b1 b2 : Nat) (cv cm : Nat → Nat) (st : Nat) (y0 y1 y2 y3 y4 : Nat → Nat) (k sz : Nat) (cs : Nat → Sg) (hk : k < 5) (hsz : sz ≤ 5) (hB : Bd σ) (hv : Bc 100 cv) (hm : Bc 24 cm) : Met l yX5_push wsX5_push ({ frames := 6, cells := 0, slots := 0, locals := 138 } : Room) (cP G [.ref z] (bl [[ob z 5 [.ref t, .ref t2, .ref h, .ref x]], [ob t 3 [.ref o, .ref q]], wS G o a1 a2 a3 a4 σ, wT G q b1 b2 cv cm, [ob h 0 [.int (nI sz), .ref st], arS G st 5 (fun j => some (y0 (rgt k j)))], wHs G y0 y1 y2 y3 y4 cs])) (qI (fun rv H => ∃ (k1 : Nat) (sz1 : Nat) (cs1 : Nat → Sg) (σ1 : Sg) (cv1 : Nat → Nat) (cm1 : Nat → Nat), rv = (nI (endc cm1)) ∧ (k1 = (if sz < 5 then k else (k + 1) % 5)) ∧ (sz1 = (if sz < 5 then sz + 1 else 5)) ∧ cs1 = va_up cs (rgt k sz) σ ∧ (σ1, cv1, cm1) = paw σ ∧ Bd σ1 ∧ Bc 100 cv1 ∧ Bc 24 cm1 ∧ va_P G.1 vwCl (bl [[ob z 5 [.ref t, .ref t2, .ref h, .ref x]], [ob t 3 [.ref o, .ref q]], wS G o a1 a2 a3 a4 σ1, wT G q b1 b2 cv1 cm1, [ob h 0 [.int (nI sz1), .ref st], arS G st 5 (fun j => some (y0 (rgt k1 j)))], wHs G y0 y1 y2 y3 y4 cs1]) H) (mA (bl [[ob z 5 [.ref t, .ref t2, .ref h, .ref x]], [ob t 3 [.ref o, .ref q]], wS G o a1 a2 a3 a4 σ, wT G q b1 b2 cv cm, [ob h 0 [.int (nI sz), .ref st], arS G st 5 (fun j => some (y0 (rgt k j)))], wHs G y0 y1 y2 y3 y4 cs]))) 0 0 (mA (bl [[ob z 5 [.ref t, .ref t2, .ref h, .ref x]], [ob t 3 [.ref o, .ref q]], wS G o a1 a2 a3 a4 σ, wT G q b1 b2 cv cm, [ob h 0 [.int (nI sz), .ref st], arS G st 5 (fun j => some (y0 (rgt k j)))], wHs G y0 y1 y2 y3 y4 cs])) := by
  refine met_muI (cc := cX5_push) (maxL := 1) (ty := .int) (own := RX5) (by decide) rfl rfl (fun _ _ _ => rfl) (Nat.le_of_ble_eq_true rfl) ?_
  intro p e s m args below meth cod Q A hx hb hml hown hts hK hP hD hS hret ls hl
  have hl : lv_has ls 1 [(0, .ref z)] := hl
  refine lv_aload_n hx hb dX5_push_0 rfl (lv_at hl 0 rfl) ?_
  refine va_get (D := G.1) (ci := 5) (v := .ref h) (C := RX5) (T := TX5) (N := 4) hx hb hts iqX5_push_ok_X5 hown hK.1 hP 0 rfl rfl 2 (by decide) (hts (.fieldLink RX5 22 "PushedTables" "history" "LPushedTables$History;") (List.mem_of_getElem? (i := 1) rfl)) (fun _ h9 => h9) rfl dX5_push_1 ?_
  refine lv_aload_n hx hb dX5_push_4 rfl (lv_at hl 0 rfl) ?_
  refine va_get (D := G.1) (ci := 5) (v := .ref t) (C := RX5) (T := TX5) (N := 4) hx hb hts iqX5_push_ok_X5 hown hK.1 hP 0 rfl rfl 0 (by decide) (hts (.fieldLink RX5 12 "PushedTables" "table" "LPushedTables$Table;") (List.mem_of_getElem? (i := 2) rfl)) (fun _ h9 => h9) rfl dX5_push_5 ?_
  refine va_get (D := G.1) (ci := 3) (v := .ref o) (C := RX3) (T := TX3) (N := 2) hx hb hts iqX5_push_ok_X3 hown hK.1 hP 1 rfl rfl 0 (by decide) (hts (.fieldLink RX5 37 "PushedTables$Table" "state" "LPushedTables$State;") (List.mem_of_getElem? (i := 3) rfl)) (fun _ h9 => h9) rfl dX5_push_8 ?_
  have hPc := bl_sub hP (is := [4, 5, 2]) (bc := [[ob h 0 [.int (nI sz), .ref st], arS G st 5 (fun j => some (y0 (rgt k j)))], wHs G y0 y1 y2 y3 y4 cs, wS G o a1 a2 a3 a4 σ]) rfl
  have hDc := bl_subD hD [4, 5, 2] [[ob h 0 [.int (nI sz), .ref st], arS G st 5 (fun j => some (y0 (rgt k j)))], wHs G y0 y1 y2 y3 y4 cs, wS G o a1 a2 a3 a4 σ] (by decide) rfl
  refine g_VB (bc := [[ob h 0 [.int (nI sz), .ref st], arS G st 5 (fun j => some (y0 (rgt k j)))], wHs G y0 y1 y2 y3 y4 cs, wS G o a1 a2 a3 a4 σ]) (k_W (q0 := 0) (ci := 0) (n := 1) (As := [.ref o]) (rest := []) hx hb hml hown hts (c_X0_remember (l := l) (G := G) (h := h) (st := st) (y0 := y0) (y1 := y1) (y2 := y2) (y3 := y3) (y4 := y4) (k := k) (sz := sz) (cs := cs) (hk := by first | assumption | omega) (hsz := by first | assumption | omega) (o2 := o) (d1 := a1) (d2 := a2) (d3 := a3) (d4 := a4) (ρ := σ)) gX5_push_X0_remember rfl rfl rfl (by decide +kernel) ⟨Nat.le_of_ble_eq_true rfl, Nat.le_of_ble_eq_true rfl⟩ rfl hK hPc hDc rfl rfl rfl hl.1 rfl (Nat.le_of_ble_eq_true rfl) dX5_push_11 ⟨Nat.le_of_ble_eq_true rfl, Nat.le_of_ble_eq_true rfl⟩) hP hD hS [4, 5, 2] (by decide) rfl (fun H locs hB11 back hS => ?_)
  obtain ⟨k111, sz111, cs111, hqk11, hqs11, hqc11, hP1⟩ := hB11
  obtain ⟨hP, hD⟩ := back [[ob h 0 [.int (nI sz111), .ref st], arS G st 5 (fun j => some (y0 (rgt k111 j)))], wHs G y0 y1 y2 y3 y4 cs111, wS G o a1 a2 a3 a4 σ] rfl hP1
  have hP : va_P G.1 vwCl (bl [[ob z 5 [.ref t, .ref t2, .ref h, .ref x]], [ob t 3 [.ref o, .ref q]], wS G o a1 a2 a3 a4 σ, wT G q b1 b2 cv cm, [ob h 0 [.int (nI sz111), .ref st], arS G st 5 (fun j => some (y0 (rgt k111 j)))], wHs G y0 y1 y2 y3 y4 cs111]) H := hP
  have hD : va_D A (bl [[ob z 5 [.ref t, .ref t2, .ref h, .ref x]], [ob t 3 [.ref o, .ref q]], wS G o a1 a2 a3 a4 σ, wT G q b1 b2 cv cm, [ob h 0 [.int (nI sz111), .ref st], arS G st 5 (fun j => some (y0 (rgt k111 j)))], wHs G y0 y1 y2 y3 y4 cs111]) := hD
  refine lv_aload_n hx hb dX5_push_14 rfl (lv_at hl 0 rfl) ?_
  refine va_get (D := G.1) (ci := 5) (v := .ref t) (C := RX5) (T := TX5) (N := 4) hx hb hts iqX5_push_ok_X5 hown hK.1 hP 0 rfl rfl 0 (by decide) (hts (.fieldLink RX5 12 "PushedTables" "table" "LPushedTables$Table;") (List.mem_of_getElem? (i := 2) rfl)) (fun _ h9 => h9) rfl dX5_push_15 ?_
  have hPc := bl_sub hP (is := [1, 2, 3]) (bc := [[ob t 3 [.ref o, .ref q]], wS G o a1 a2 a3 a4 σ, wT G q b1 b2 cv cm]) rfl
  have hDc := bl_subD hD [1, 2, 3] [[ob t 3 [.ref o, .ref q]], wS G o a1 a2 a3 a4 σ, wT G q b1 b2 cv cm] (by decide) rfl
  refine g_VB (bc := [[ob t 3 [.ref o, .ref q]], wS G o a1 a2 a3 a4 σ, wT G q b1 b2 cv cm]) (k_W (q0 := 0) (ci := 3) (n := 0) (As := []) (rest := []) hx hb hml hown hts (c_X3_pushAnewByWeights (l := l) (G := G) (t := t) (o := o) (a1 := a1) (a2 := a2) (a3 := a3) (a4 := a4) (σ := σ) (q := q) (b1 := b1) (b2 := b2) (cv := cv) (cm := cm) (hB := by first | assumption | omega) (hv := by first | assumption | omega) (hm := by first | assumption | omega)) gX5_push_X3_pushAnewByWeights rfl rfl rfl (by decide +kernel) ⟨Nat.le_of_ble_eq_true rfl, Nat.le_of_ble_eq_true rfl⟩ rfl hK hPc hDc rfl rfl rfl hl.1 rfl (Nat.le_of_ble_eq_true rfl) dX5_push_18 ⟨Nat.le_of_ble_eq_true rfl, Nat.le_of_ble_eq_true rfl⟩) hP hD hS [1, 2, 3] (by decide) rfl (fun H locs hB18 back hS => ?_)
  obtain ⟨σ118, cv118, cm118, hq18, hb118, hb218, hb318, hP1⟩ := hB18
  obtain ⟨hP, hD⟩ := back [[ob t 3 [.ref o, .ref q]], wS G o a1 a2 a3 a4 σ118, wT G q b1 b2 cv118 cm118] rfl hP1
  have hP : va_P G.1 vwCl (bl [[ob z 5 [.ref t, .ref t2, .ref h, .ref x]], [ob t 3 [.ref o, .ref q]], wS G o a1 a2 a3 a4 σ118, wT G q b1 b2 cv118 cm118, [ob h 0 [.int (nI sz111), .ref st], arS G st 5 (fun j => some (y0 (rgt k111 j)))], wHs G y0 y1 y2 y3 y4 cs111]) H := hP
  have hD : va_D A (bl [[ob z 5 [.ref t, .ref t2, .ref h, .ref x]], [ob t 3 [.ref o, .ref q]], wS G o a1 a2 a3 a4 σ118, wT G q b1 b2 cv118 cm118, [ob h 0 [.int (nI sz111), .ref st], arS G st 5 (fun j => some (y0 (rgt k111 j)))], wHs G y0 y1 y2 y3 y4 cs111]) := hD
  refine lv_aload_n hx hb dX5_push_21 rfl (lv_at hl 0 rfl) ?_
  refine va_get (D := G.1) (ci := 5) (v := .ref t) (C := RX5) (T := TX5) (N := 4) hx hb hts iqX5_push_ok_X5 hown hK.1 hP 0 rfl rfl 0 (by decide) (hts (.fieldLink RX5 12 "PushedTables" "table" "LPushedTables$Table;") (List.mem_of_getElem? (i := 2) rfl)) (fun _ h9 => h9) rfl dX5_push_22 ?_
  refine va_get (D := G.1) (ci := 3) (v := .ref q) (C := RX3) (T := TX3) (N := 2) hx hb hts iqX5_push_ok_X3 hown hK.1 hP 1 rfl rfl 1 (by decide) (hts (.fieldLink RX5 92 "PushedTables$Table" "store" "LPushedTables$Store;") (List.mem_of_getElem? (i := 4) rfl)) (fun _ h9 => h9) rfl dX5_push_25 ?_
  have hPc := bl_sub hP (is := [3]) (bc := [wT G q b1 b2 cv118 cm118]) rfl
  have hDc := bl_subD hD [3] [wT G q b1 b2 cv118 cm118] (by decide) rfl
  refine g_ro (k_W (q0 := 0) (ci := 2) (n := 0) (As := []) (rest := []) hx hb hml hown hts (c_X2_endOfCells (l := l) (G := G) (q := q) (b1 := b1) (b2 := b2) (cv := cv118) (cm := cm118) (hv := by first | assumption | omega) (hm := by first | assumption | omega)) gX5_push_X2_endOfCells rfl rfl rfl (by decide +kernel) ⟨Nat.le_of_ble_eq_true rfl, Nat.le_of_ble_eq_true rfl⟩ rfl hK hPc hDc rfl rfl rfl hl.1 rfl (Nat.le_of_ble_eq_true rfl) dX5_push_28 ⟨Nat.le_of_ble_eq_true rfl, Nat.le_of_ble_eq_true rfl⟩) (fun r28 h28 => ?_)
  obtain rfl : (nI (endc cm118)) = r28 := Eq.symm h28
  have b28 := endc_le cm118
  exact hret _ _ _ _ _ hS dX5_push_31 (⟨k111, sz111, cs111, σ118, cv118, cm118, rfl, hqk11, hqs11, hqc11, hq18, by first | assumption | omega, by first | assumption | omega, by first | assumption | omega, hP⟩)

theorem iqX5_undo_ok_X5 : ∀ w ∈ u_ws RX5 TX5 4, w ∈ wsX5_undo := by decide +kernel
theorem iqX5_undo_ok_X0 : ∀ w ∈ u_ws RX0 TX0 2, w ∈ wsX5_undo := by decide +kernel
set_option maxHeartbeats 1000000 in
set_option maxRecDepth 100000 in
theorem c_X5_undo_ok (l : Launch) (G : kG) (z t t2 h x : Nat) (o a1 a2 a3 a4 : Nat) (σ : Sg) (q b1 b2 : Nat) (cv cm : Nat → Nat) (st : Nat) (y0 y1 y2 y3 y4 : Nat → Nat) (k sz : Nat) (cs : Nat → Sg) (hk : k < 5) (hsz : sz ≤ 5) (hB : Bd σ) (hv : Bc 100 cv) (hm : Bc 24 cm) (h0 : 0 < sz) (hcs : ∀ i, Bd (cs i)) : Met l yX5_undo wsX5_undo ({ frames := 4, cells := 0, slots := 0, locals := 91 } : Room) (cP G [.ref z] (bl [[ob z 5 [.ref t, .ref t2, .ref h, .ref x]], [ob t 3 [.ref o, .ref q]], wS G o a1 a2 a3 a4 σ, wT G q b1 b2 cv cm, [ob h 0 [.int (nI sz), .ref st], arS G st 5 (fun j => some (y0 (rgt k j)))], wHs G y0 y1 y2 y3 y4 cs])) (qI (fun rv H => ∃ (σ1 : Sg) (cv1 : Nat → Nat) (cm1 : Nat → Nat), rv = (nI (sz - 1)) ∧ (σ1, cv1, cm1) = rsT (cs (rgt k (sz - 1))) (nn (cs (rgt k (sz - 1)))) ∧ Bd σ1 ∧ Bc 100 cv1 ∧ Bc 24 cm1 ∧ va_P G.1 vwCl (bl [[ob z 5 [.ref t, .ref t2, .ref h, .ref x]], [ob t 3 [.ref o, .ref q]], wS G o a1 a2 a3 a4 σ1, wT G q b1 b2 cv1 cm1, [ob h 0 [.int (nI (sz - 1)), .ref st], arS G st 5 (fun j => some (y0 (rgt k j)))], wHs G y0 y1 y2 y3 y4 cs]) H) (mA (bl [[ob z 5 [.ref t, .ref t2, .ref h, .ref x]], [ob t 3 [.ref o, .ref q]], wS G o a1 a2 a3 a4 σ, wT G q b1 b2 cv cm, [ob h 0 [.int (nI sz), .ref st], arS G st 5 (fun j => some (y0 (rgt k j)))], wHs G y0 y1 y2 y3 y4 cs]))) 0 0 (mA (bl [[ob z 5 [.ref t, .ref t2, .ref h, .ref x]], [ob t 3 [.ref o, .ref q]], wS G o a1 a2 a3 a4 σ, wT G q b1 b2 cv cm, [ob h 0 [.int (nI sz), .ref st], arS G st 5 (fun j => some (y0 (rgt k j)))], wHs G y0 y1 y2 y3 y4 cs])) := by
  refine met_muI (cc := cX5_undo) (maxL := 2) (ty := .int) (own := RX5) (by decide) rfl rfl (fun _ _ _ => rfl) (Nat.le_of_ble_eq_true rfl) ?_
  intro p e s m args below meth cod Q A hx hb hml hown hts hK hP hD hS hret ls hl
  have hl : lv_has ls 2 [(0, .ref z)] := hl
  have hP : va_P G.1 vwCl (bl [[ob z 5 [.ref t, .ref t2, .ref h, .ref x]], [ob t 3 [.ref o, .ref q]], wS G o a1 a2 a3 a4 σ, wT G q b1 b2 cv cm, [ob h 0 [.int (nI sz), .ref st], arS G st 5 (fun j => some (y0 (rgt k j)))], wS G (y0 0) (y1 0) (y2 0) (y3 0) (y4 0) (cs 0), wS G (y0 1) (y1 1) (y2 1) (y3 1) (y4 1) (cs 1), wS G (y0 2) (y1 2) (y2 2) (y3 2) (y4 2) (cs 2), wS G (y0 3) (y1 3) (y2 3) (y3 3) (y4 3) (cs 3), wS G (y0 4) (y1 4) (y2 4) (y3 4) (y4 4) (cs 4)]) s.heap := hP
  have hD : va_D A (bl [[ob z 5 [.ref t, .ref t2, .ref h, .ref x]], [ob t 3 [.ref o, .ref q]], wS G o a1 a2 a3 a4 σ, wT G q b1 b2 cv cm, [ob h 0 [.int (nI sz), .ref st], arS G st 5 (fun j => some (y0 (rgt k j)))], wS G (y0 0) (y1 0) (y2 0) (y3 0) (y4 0) (cs 0), wS G (y0 1) (y1 1) (y2 1) (y3 1) (y4 1) (cs 1), wS G (y0 2) (y1 2) (y2 2) (y3 2) (y4 2) (cs 2), wS G (y0 3) (y1 3) (y2 3) (y3 3) (y4 3) (cs 3), wS G (y0 4) (y1 4) (y2 4) (y3 4) (y4 4) (cs 4)]) := hD
  refine lv_aload_n hx hb dX5_undo_0 rfl (lv_at hl 0 rfl) ?_
  refine va_get (D := G.1) (ci := 5) (v := .ref h) (C := RX5) (T := TX5) (N := 4) hx hb hts iqX5_undo_ok_X5 hown hK.1 hP 0 rfl rfl 2 (by decide) (hts (.fieldLink RX5 22 "PushedTables" "history" "LPushedTables$History;") (List.mem_of_getElem? (i := 1) rfl)) (fun _ h9 => h9) rfl dX5_undo_1 ?_
  have hPc := bl_sub hP (is := [4]) (bc := [[ob h 0 [.int (nI sz), .ref st], arS G st 5 (fun j => some (y0 (rgt k j)))]]) rfl
  have hDc := bl_subD hD [4] [[ob h 0 [.int (nI sz), .ref st], arS G st 5 (fun j => some (y0 (rgt k j)))]] (by decide) rfl
  refine g_RB (bc := [[ob h 0 [.int (nI sz), .ref st], arS G st 5 (fun j => some (y0 (rgt k j)))]]) (k_W (q0 := 0) (ci := 0) (n := 0) (As := []) (rest := []) hx hb hml hown hts (c_X0_takeLatest (l := l) (G := G) (h := h) (st := st) (y0 := y0) (y1 := y1) (y2 := y2) (y3 := y3) (y4 := y4) (k := k) (sz := sz) (cs := cs) (hk := by first | assumption | omega) (hsz := by first | assumption | omega) (h1 := by first | assumption | omega)) gX5_undo_X0_takeLatest rfl rfl rfl (by decide +kernel) ⟨Nat.le_of_ble_eq_true rfl, Nat.le_of_ble_eq_true rfl⟩ rfl hK hPc hDc rfl rfl rfl hl.1 rfl (Nat.le_of_ble_eq_true rfl) dX5_undo_4 ⟨Nat.le_of_ble_eq_true rfl, Nat.le_of_ble_eq_true rfl⟩) hP hD hS [4] (by decide) rfl (fun r4 H locs hB4 back hS => ?_)
  obtain ⟨he4, hP1⟩ := hB4
  obtain rfl := Eq.symm he4
  obtain ⟨hP, hD⟩ := back [[ob h 0 [.int (nI (sz - 1)), .ref st], arS G st 5 (fun j => some (y0 (rgt k j)))]] rfl hP1
  have hP : va_P G.1 vwCl (bl [[ob z 5 [.ref t, .ref t2, .ref h, .ref x]], [ob t 3 [.ref o, .ref q]], wS G o a1 a2 a3 a4 σ, wT G q b1 b2 cv cm, [ob h 0 [.int (nI (sz - 1)), .ref st], arS G st 5 (fun j => some (y0 (rgt k j)))], wS G (y0 0) (y1 0) (y2 0) (y3 0) (y4 0) (cs 0), wS G (y0 1) (y1 1) (y2 1) (y3 1) (y4 1) (cs 1), wS G (y0 2) (y1 2) (y2 2) (y3 2) (y4 2) (cs 2), wS G (y0 3) (y1 3) (y2 3) (y3 3) (y4 3) (cs 3), wS G (y0 4) (y1 4) (y2 4) (y3 4) (y4 4) (cs 4)]) H := hP
  have hD : va_D A (bl [[ob z 5 [.ref t, .ref t2, .ref h, .ref x]], [ob t 3 [.ref o, .ref q]], wS G o a1 a2 a3 a4 σ, wT G q b1 b2 cv cm, [ob h 0 [.int (nI (sz - 1)), .ref st], arS G st 5 (fun j => some (y0 (rgt k j)))], wS G (y0 0) (y1 0) (y2 0) (y3 0) (y4 0) (cs 0), wS G (y0 1) (y1 1) (y2 1) (y3 1) (y4 1) (cs 1), wS G (y0 2) (y1 2) (y2 2) (y3 2) (y4 2) (cs 2), wS G (y0 3) (y1 3) (y2 3) (y3 3) (y4 3) (cs 3), wS G (y0 4) (y1 4) (y2 4) (y3 4) (y4 4) (cs 4)]) := hD
  rcases five (rgt_lt k (sz - 1)) with eq | eq | eq | eq | eq
  · rw [eq]
    have hB2 := hcs 0
    refine lv_astore_n (lv' := [(1, .ref (y0 0)), (0, .ref z)]) hx hb dX5_undo_7 rfl hl (by decide) rfl (fun ls hl => ?_)
    refine lv_aload_n hx hb dX5_undo_8 rfl (lv_at hl 0 rfl) ?_
    refine lv_ifnonnull (tgt := 15) hx hb dX5_undo_9 (by decide) ?_
    refine lv_aload_n hx hb dX5_undo_15 rfl (lv_at hl 1 rfl) ?_
    refine va_get (D := G.1) (ci := 5) (v := .ref t) (C := RX5) (T := TX5) (N := 4) hx hb hts iqX5_undo_ok_X5 hown hK.1 hP 0 rfl rfl 0 (by decide) (hts (.fieldLink RX5 12 "PushedTables" "table" "LPushedTables$Table;") (List.mem_of_getElem? (i := 2) rfl)) (fun _ h9 => h9) rfl dX5_undo_16 ?_
    refine lv_aload_n hx hb dX5_undo_19 rfl (lv_at hl 0 rfl) ?_
    have hPc := bl_sub hP (is := [1, 2, 3, 5]) (bc := [[ob t 3 [.ref o, .ref q]], wS G o a1 a2 a3 a4 σ, wT G q b1 b2 cv cm, wS G (y0 0) (y1 0) (y2 0) (y3 0) (y4 0) (cs 0)]) rfl
    have hDc := bl_subD hD [1, 2, 3, 5] [[ob t 3 [.ref o, .ref q]], wS G o a1 a2 a3 a4 σ, wT G q b1 b2 cv cm, wS G (y0 0) (y1 0) (y2 0) (y3 0) (y4 0) (cs 0)] (by decide) rfl
    refine g_VB (bc := [[ob t 3 [.ref o, .ref q]], wS G o a1 a2 a3 a4 σ, wT G q b1 b2 cv cm, wS G (y0 0) (y1 0) (y2 0) (y3 0) (y4 0) (cs 0)]) (k_W (q0 := 0) (ci := 3) (n := 1) (As := [.ref (y0 0)]) (rest := []) hx hb hml hown hts (c_X3_restore (l := l) (G := G) (t := t) (o := o) (a1 := a1) (a2 := a2) (a3 := a3) (a4 := a4) (σ := σ) (q := q) (b1 := b1) (b2 := b2) (cv := cv) (cm := cm) (hB := by first | assumption | omega) (hv := by first | assumption | omega) (hm := by first | assumption | omega) (o2 := (y0 0)) (d1 := (y1 0)) (d2 := (y2 0)) (d3 := (y3 0)) (d4 := (y4 0)) (ρ := (cs 0)) (hB2 := by first | assumption | omega)) gX5_undo_X3_restore rfl rfl rfl (by decide +kernel) ⟨Nat.le_of_ble_eq_true rfl, Nat.le_of_ble_eq_true rfl⟩ rfl hK hPc hDc rfl rfl rfl hl.1 rfl (Nat.le_of_ble_eq_true rfl) dX5_undo_20 ⟨Nat.le_of_ble_eq_true rfl, Nat.le_of_ble_eq_true rfl⟩) hP hD hS [1, 2, 3, 5] (by decide) rfl (fun H locs hB20 back hS => ?_)
    obtain ⟨cv120, cm120, hq20, hb220, hb320, hP1⟩ := hB20
    obtain ⟨hP, hD⟩ := back [[ob t 3 [.ref o, .ref q]], wS G o a1 a2 a3 a4 (cs 0), wT G q b1 b2 cv120 cm120, wS G (y0 0) (y1 0) (y2 0) (y3 0) (y4 0) (cs 0)] rfl hP1
    have hP : va_P G.1 vwCl (bl [[ob z 5 [.ref t, .ref t2, .ref h, .ref x]], [ob t 3 [.ref o, .ref q]], wS G o a1 a2 a3 a4 (cs 0), wT G q b1 b2 cv120 cm120, [ob h 0 [.int (nI (sz - 1)), .ref st], arS G st 5 (fun j => some (y0 (rgt k j)))], wS G (y0 0) (y1 0) (y2 0) (y3 0) (y4 0) (cs 0), wS G (y0 1) (y1 1) (y2 1) (y3 1) (y4 1) (cs 1), wS G (y0 2) (y1 2) (y2 2) (y3 2) (y4 2) (cs 2), wS G (y0 3) (y1 3) (y2 3) (y3 3) (y4 3) (cs 3), wS G (y0 4) (y1 4) (y2 4) (y3 4) (y4 4) (cs 4)]) H := hP
    have hD : va_D A (bl [[ob z 5 [.ref t, .ref t2, .ref h, .ref x]], [ob t 3 [.ref o, .ref q]], wS G o a1 a2 a3 a4 (cs 0), wT G q b1 b2 cv120 cm120, [ob h 0 [.int (nI (sz - 1)), .ref st], arS G st 5 (fun j => some (y0 (rgt k j)))], wS G (y0 0) (y1 0) (y2 0) (y3 0) (y4 0) (cs 0), wS G (y0 1) (y1 1) (y2 1) (y3 1) (y4 1) (cs 1), wS G (y0 2) (y1 2) (y2 2) (y3 2) (y4 2) (cs 2), wS G (y0 3) (y1 3) (y2 3) (y3 3) (y4 3) (cs 3), wS G (y0 4) (y1 4) (y2 4) (y3 4) (y4 4) (cs 4)]) := hD
    refine lv_aload_n hx hb dX5_undo_23 rfl (lv_at hl 1 rfl) ?_
    refine va_get (D := G.1) (ci := 5) (v := .ref h) (C := RX5) (T := TX5) (N := 4) hx hb hts iqX5_undo_ok_X5 hown hK.1 hP 0 rfl rfl 2 (by decide) (hts (.fieldLink RX5 22 "PushedTables" "history" "LPushedTables$History;") (List.mem_of_getElem? (i := 1) rfl)) (fun _ h9 => h9) rfl dX5_undo_24 ?_
    refine va_get (D := G.1) (ci := 0) (v := .int (nI (sz - 1))) (C := RX0) (T := TX0) (N := 2) hx hb hts iqX5_undo_ok_X0 hown hK.1 hP 10 rfl rfl 0 (by decide) (hts (.fieldLink RX5 109 "PushedTables$History" "size" "I") (List.mem_of_getElem? (i := 3) rfl)) (fun _ h9 => h9) rfl dX5_undo_27 ?_
    exact hret _ _ _ _ _ hS dX5_undo_30 (⟨(cs 0), cv120, cm120, rfl, by rw [eq]; exact hq20, hB2, by first | assumption | omega, by first | assumption | omega, hP⟩)
  · rw [eq]
    have hB2 := hcs 1
    refine lv_astore_n (lv' := [(1, .ref (y0 1)), (0, .ref z)]) hx hb dX5_undo_7 rfl hl (by decide) rfl (fun ls hl => ?_)
    refine lv_aload_n hx hb dX5_undo_8 rfl (lv_at hl 0 rfl) ?_
    refine lv_ifnonnull (tgt := 15) hx hb dX5_undo_9 (by decide) ?_
    refine lv_aload_n hx hb dX5_undo_15 rfl (lv_at hl 1 rfl) ?_
    refine va_get (D := G.1) (ci := 5) (v := .ref t) (C := RX5) (T := TX5) (N := 4) hx hb hts iqX5_undo_ok_X5 hown hK.1 hP 0 rfl rfl 0 (by decide) (hts (.fieldLink RX5 12 "PushedTables" "table" "LPushedTables$Table;") (List.mem_of_getElem? (i := 2) rfl)) (fun _ h9 => h9) rfl dX5_undo_16 ?_
    refine lv_aload_n hx hb dX5_undo_19 rfl (lv_at hl 0 rfl) ?_
    have hPc := bl_sub hP (is := [1, 2, 3, 6]) (bc := [[ob t 3 [.ref o, .ref q]], wS G o a1 a2 a3 a4 σ, wT G q b1 b2 cv cm, wS G (y0 1) (y1 1) (y2 1) (y3 1) (y4 1) (cs 1)]) rfl
    have hDc := bl_subD hD [1, 2, 3, 6] [[ob t 3 [.ref o, .ref q]], wS G o a1 a2 a3 a4 σ, wT G q b1 b2 cv cm, wS G (y0 1) (y1 1) (y2 1) (y3 1) (y4 1) (cs 1)] (by decide) rfl
    refine g_VB (bc := [[ob t 3 [.ref o, .ref q]], wS G o a1 a2 a3 a4 σ, wT G q b1 b2 cv cm, wS G (y0 1) (y1 1) (y2 1) (y3 1) (y4 1) (cs 1)]) (k_W (q0 := 0) (ci := 3) (n := 1) (As := [.ref (y0 1)]) (rest := []) hx hb hml hown hts (c_X3_restore (l := l) (G := G) (t := t) (o := o) (a1 := a1) (a2 := a2) (a3 := a3) (a4 := a4) (σ := σ) (q := q) (b1 := b1) (b2 := b2) (cv := cv) (cm := cm) (hB := by first | assumption | omega) (hv := by first | assumption | omega) (hm := by first | assumption | omega) (o2 := (y0 1)) (d1 := (y1 1)) (d2 := (y2 1)) (d3 := (y3 1)) (d4 := (y4 1)) (ρ := (cs 1)) (hB2 := by first | assumption | omega)) gX5_undo_X3_restore rfl rfl rfl (by decide +kernel) ⟨Nat.le_of_ble_eq_true rfl, Nat.le_of_ble_eq_true rfl⟩ rfl hK hPc hDc rfl rfl rfl hl.1 rfl (Nat.le_of_ble_eq_true rfl) dX5_undo_20 ⟨Nat.le_of_ble_eq_true rfl, Nat.le_of_ble_eq_true rfl⟩) hP hD hS [1, 2, 3, 6] (by decide) rfl (fun H locs hB20 back hS => ?_)
    obtain ⟨cv120, cm120, hq20, hb220, hb320, hP1⟩ := hB20
    obtain ⟨hP, hD⟩ := back [[ob t 3 [.ref o, .ref q]], wS G o a1 a2 a3 a4 (cs 1), wT G q b1 b2 cv120 cm120, wS G (y0 1) (y1 1) (y2 1) (y3 1) (y4 1) (cs 1)] rfl hP1
    have hP : va_P G.1 vwCl (bl [[ob z 5 [.ref t, .ref t2, .ref h, .ref x]], [ob t 3 [.ref o, .ref q]], wS G o a1 a2 a3 a4 (cs 1), wT G q b1 b2 cv120 cm120, [ob h 0 [.int (nI (sz - 1)), .ref st], arS G st 5 (fun j => some (y0 (rgt k j)))], wS G (y0 0) (y1 0) (y2 0) (y3 0) (y4 0) (cs 0), wS G (y0 1) (y1 1) (y2 1) (y3 1) (y4 1) (cs 1), wS G (y0 2) (y1 2) (y2 2) (y3 2) (y4 2) (cs 2), wS G (y0 3) (y1 3) (y2 3) (y3 3) (y4 3) (cs 3), wS G (y0 4) (y1 4) (y2 4) (y3 4) (y4 4) (cs 4)]) H := hP
    have hD : va_D A (bl [[ob z 5 [.ref t, .ref t2, .ref h, .ref x]], [ob t 3 [.ref o, .ref q]], wS G o a1 a2 a3 a4 (cs 1), wT G q b1 b2 cv120 cm120, [ob h 0 [.int (nI (sz - 1)), .ref st], arS G st 5 (fun j => some (y0 (rgt k j)))], wS G (y0 0) (y1 0) (y2 0) (y3 0) (y4 0) (cs 0), wS G (y0 1) (y1 1) (y2 1) (y3 1) (y4 1) (cs 1), wS G (y0 2) (y1 2) (y2 2) (y3 2) (y4 2) (cs 2), wS G (y0 3) (y1 3) (y2 3) (y3 3) (y4 3) (cs 3), wS G (y0 4) (y1 4) (y2 4) (y3 4) (y4 4) (cs 4)]) := hD
    refine lv_aload_n hx hb dX5_undo_23 rfl (lv_at hl 1 rfl) ?_
    refine va_get (D := G.1) (ci := 5) (v := .ref h) (C := RX5) (T := TX5) (N := 4) hx hb hts iqX5_undo_ok_X5 hown hK.1 hP 0 rfl rfl 2 (by decide) (hts (.fieldLink RX5 22 "PushedTables" "history" "LPushedTables$History;") (List.mem_of_getElem? (i := 1) rfl)) (fun _ h9 => h9) rfl dX5_undo_24 ?_
    refine va_get (D := G.1) (ci := 0) (v := .int (nI (sz - 1))) (C := RX0) (T := TX0) (N := 2) hx hb hts iqX5_undo_ok_X0 hown hK.1 hP 10 rfl rfl 0 (by decide) (hts (.fieldLink RX5 109 "PushedTables$History" "size" "I") (List.mem_of_getElem? (i := 3) rfl)) (fun _ h9 => h9) rfl dX5_undo_27 ?_
    exact hret _ _ _ _ _ hS dX5_undo_30 (⟨(cs 1), cv120, cm120, rfl, by rw [eq]; exact hq20, hB2, by first | assumption | omega, by first | assumption | omega, hP⟩)
  · rw [eq]
    have hB2 := hcs 2
    refine lv_astore_n (lv' := [(1, .ref (y0 2)), (0, .ref z)]) hx hb dX5_undo_7 rfl hl (by decide) rfl (fun ls hl => ?_)
    refine lv_aload_n hx hb dX5_undo_8 rfl (lv_at hl 0 rfl) ?_
    refine lv_ifnonnull (tgt := 15) hx hb dX5_undo_9 (by decide) ?_
    refine lv_aload_n hx hb dX5_undo_15 rfl (lv_at hl 1 rfl) ?_
    refine va_get (D := G.1) (ci := 5) (v := .ref t) (C := RX5) (T := TX5) (N := 4) hx hb hts iqX5_undo_ok_X5 hown hK.1 hP 0 rfl rfl 0 (by decide) (hts (.fieldLink RX5 12 "PushedTables" "table" "LPushedTables$Table;") (List.mem_of_getElem? (i := 2) rfl)) (fun _ h9 => h9) rfl dX5_undo_16 ?_
    refine lv_aload_n hx hb dX5_undo_19 rfl (lv_at hl 0 rfl) ?_
    have hPc := bl_sub hP (is := [1, 2, 3, 7]) (bc := [[ob t 3 [.ref o, .ref q]], wS G o a1 a2 a3 a4 σ, wT G q b1 b2 cv cm, wS G (y0 2) (y1 2) (y2 2) (y3 2) (y4 2) (cs 2)]) rfl
    have hDc := bl_subD hD [1, 2, 3, 7] [[ob t 3 [.ref o, .ref q]], wS G o a1 a2 a3 a4 σ, wT G q b1 b2 cv cm, wS G (y0 2) (y1 2) (y2 2) (y3 2) (y4 2) (cs 2)] (by decide) rfl
    refine g_VB (bc := [[ob t 3 [.ref o, .ref q]], wS G o a1 a2 a3 a4 σ, wT G q b1 b2 cv cm, wS G (y0 2) (y1 2) (y2 2) (y3 2) (y4 2) (cs 2)]) (k_W (q0 := 0) (ci := 3) (n := 1) (As := [.ref (y0 2)]) (rest := []) hx hb hml hown hts (c_X3_restore (l := l) (G := G) (t := t) (o := o) (a1 := a1) (a2 := a2) (a3 := a3) (a4 := a4) (σ := σ) (q := q) (b1 := b1) (b2 := b2) (cv := cv) (cm := cm) (hB := by first | assumption | omega) (hv := by first | assumption | omega) (hm := by first | assumption | omega) (o2 := (y0 2)) (d1 := (y1 2)) (d2 := (y2 2)) (d3 := (y3 2)) (d4 := (y4 2)) (ρ := (cs 2)) (hB2 := by first | assumption | omega)) gX5_undo_X3_restore rfl rfl rfl (by decide +kernel) ⟨Nat.le_of_ble_eq_true rfl, Nat.le_of_ble_eq_true rfl⟩ rfl hK hPc hDc rfl rfl rfl hl.1 rfl (Nat.le_of_ble_eq_true rfl) dX5_undo_20 ⟨Nat.le_of_ble_eq_true rfl, Nat.le_of_ble_eq_true rfl⟩) hP hD hS [1, 2, 3, 7] (by decide) rfl (fun H locs hB20 back hS => ?_)
    obtain ⟨cv120, cm120, hq20, hb220, hb320, hP1⟩ := hB20
    obtain ⟨hP, hD⟩ := back [[ob t 3 [.ref o, .ref q]], wS G o a1 a2 a3 a4 (cs 2), wT G q b1 b2 cv120 cm120, wS G (y0 2) (y1 2) (y2 2) (y3 2) (y4 2) (cs 2)] rfl hP1
    have hP : va_P G.1 vwCl (bl [[ob z 5 [.ref t, .ref t2, .ref h, .ref x]], [ob t 3 [.ref o, .ref q]], wS G o a1 a2 a3 a4 (cs 2), wT G q b1 b2 cv120 cm120, [ob h 0 [.int (nI (sz - 1)), .ref st], arS G st 5 (fun j => some (y0 (rgt k j)))], wS G (y0 0) (y1 0) (y2 0) (y3 0) (y4 0) (cs 0), wS G (y0 1) (y1 1) (y2 1) (y3 1) (y4 1) (cs 1), wS G (y0 2) (y1 2) (y2 2) (y3 2) (y4 2) (cs 2), wS G (y0 3) (y1 3) (y2 3) (y3 3) (y4 3) (cs 3), wS G (y0 4) (y1 4) (y2 4) (y3 4) (y4 4) (cs 4)]) H := hP
    have hD : va_D A (bl [[ob z 5 [.ref t, .ref t2, .ref h, .ref x]], [ob t 3 [.ref o, .ref q]], wS G o a1 a2 a3 a4 (cs 2), wT G q b1 b2 cv120 cm120, [ob h 0 [.int (nI (sz - 1)), .ref st], arS G st 5 (fun j => some (y0 (rgt k j)))], wS G (y0 0) (y1 0) (y2 0) (y3 0) (y4 0) (cs 0), wS G (y0 1) (y1 1) (y2 1) (y3 1) (y4 1) (cs 1), wS G (y0 2) (y1 2) (y2 2) (y3 2) (y4 2) (cs 2), wS G (y0 3) (y1 3) (y2 3) (y3 3) (y4 3) (cs 3), wS G (y0 4) (y1 4) (y2 4) (y3 4) (y4 4) (cs 4)]) := hD
    refine lv_aload_n hx hb dX5_undo_23 rfl (lv_at hl 1 rfl) ?_
    refine va_get (D := G.1) (ci := 5) (v := .ref h) (C := RX5) (T := TX5) (N := 4) hx hb hts iqX5_undo_ok_X5 hown hK.1 hP 0 rfl rfl 2 (by decide) (hts (.fieldLink RX5 22 "PushedTables" "history" "LPushedTables$History;") (List.mem_of_getElem? (i := 1) rfl)) (fun _ h9 => h9) rfl dX5_undo_24 ?_
    refine va_get (D := G.1) (ci := 0) (v := .int (nI (sz - 1))) (C := RX0) (T := TX0) (N := 2) hx hb hts iqX5_undo_ok_X0 hown hK.1 hP 10 rfl rfl 0 (by decide) (hts (.fieldLink RX5 109 "PushedTables$History" "size" "I") (List.mem_of_getElem? (i := 3) rfl)) (fun _ h9 => h9) rfl dX5_undo_27 ?_
    exact hret _ _ _ _ _ hS dX5_undo_30 (⟨(cs 2), cv120, cm120, rfl, by rw [eq]; exact hq20, hB2, by first | assumption | omega, by first | assumption | omega, hP⟩)
  · rw [eq]
    have hB2 := hcs 3
    refine lv_astore_n (lv' := [(1, .ref (y0 3)), (0, .ref z)]) hx hb dX5_undo_7 rfl hl (by decide) rfl (fun ls hl => ?_)
    refine lv_aload_n hx hb dX5_undo_8 rfl (lv_at hl 0 rfl) ?_
    refine lv_ifnonnull (tgt := 15) hx hb dX5_undo_9 (by decide) ?_
    refine lv_aload_n hx hb dX5_undo_15 rfl (lv_at hl 1 rfl) ?_
    refine va_get (D := G.1) (ci := 5) (v := .ref t) (C := RX5) (T := TX5) (N := 4) hx hb hts iqX5_undo_ok_X5 hown hK.1 hP 0 rfl rfl 0 (by decide) (hts (.fieldLink RX5 12 "PushedTables" "table" "LPushedTables$Table;") (List.mem_of_getElem? (i := 2) rfl)) (fun _ h9 => h9) rfl dX5_undo_16 ?_
    refine lv_aload_n hx hb dX5_undo_19 rfl (lv_at hl 0 rfl) ?_
    have hPc := bl_sub hP (is := [1, 2, 3, 8]) (bc := [[ob t 3 [.ref o, .ref q]], wS G o a1 a2 a3 a4 σ, wT G q b1 b2 cv cm, wS G (y0 3) (y1 3) (y2 3) (y3 3) (y4 3) (cs 3)]) rfl
    have hDc := bl_subD hD [1, 2, 3, 8] [[ob t 3 [.ref o, .ref q]], wS G o a1 a2 a3 a4 σ, wT G q b1 b2 cv cm, wS G (y0 3) (y1 3) (y2 3) (y3 3) (y4 3) (cs 3)] (by decide) rfl
    refine g_VB (bc := [[ob t 3 [.ref o, .ref q]], wS G o a1 a2 a3 a4 σ, wT G q b1 b2 cv cm, wS G (y0 3) (y1 3) (y2 3) (y3 3) (y4 3) (cs 3)]) (k_W (q0 := 0) (ci := 3) (n := 1) (As := [.ref (y0 3)]) (rest := []) hx hb hml hown hts (c_X3_restore (l := l) (G := G) (t := t) (o := o) (a1 := a1) (a2 := a2) (a3 := a3) (a4 := a4) (σ := σ) (q := q) (b1 := b1) (b2 := b2) (cv := cv) (cm := cm) (hB := by first | assumption | omega) (hv := by first | assumption | omega) (hm := by first | assumption | omega) (o2 := (y0 3)) (d1 := (y1 3)) (d2 := (y2 3)) (d3 := (y3 3)) (d4 := (y4 3)) (ρ := (cs 3)) (hB2 := by first | assumption | omega)) gX5_undo_X3_restore rfl rfl rfl (by decide +kernel) ⟨Nat.le_of_ble_eq_true rfl, Nat.le_of_ble_eq_true rfl⟩ rfl hK hPc hDc rfl rfl rfl hl.1 rfl (Nat.le_of_ble_eq_true rfl) dX5_undo_20 ⟨Nat.le_of_ble_eq_true rfl, Nat.le_of_ble_eq_true rfl⟩) hP hD hS [1, 2, 3, 8] (by decide) rfl (fun H locs hB20 back hS => ?_)
    obtain ⟨cv120, cm120, hq20, hb220, hb320, hP1⟩ := hB20
    obtain ⟨hP, hD⟩ := back [[ob t 3 [.ref o, .ref q]], wS G o a1 a2 a3 a4 (cs 3), wT G q b1 b2 cv120 cm120, wS G (y0 3) (y1 3) (y2 3) (y3 3) (y4 3) (cs 3)] rfl hP1
    have hP : va_P G.1 vwCl (bl [[ob z 5 [.ref t, .ref t2, .ref h, .ref x]], [ob t 3 [.ref o, .ref q]], wS G o a1 a2 a3 a4 (cs 3), wT G q b1 b2 cv120 cm120, [ob h 0 [.int (nI (sz - 1)), .ref st], arS G st 5 (fun j => some (y0 (rgt k j)))], wS G (y0 0) (y1 0) (y2 0) (y3 0) (y4 0) (cs 0), wS G (y0 1) (y1 1) (y2 1) (y3 1) (y4 1) (cs 1), wS G (y0 2) (y1 2) (y2 2) (y3 2) (y4 2) (cs 2), wS G (y0 3) (y1 3) (y2 3) (y3 3) (y4 3) (cs 3), wS G (y0 4) (y1 4) (y2 4) (y3 4) (y4 4) (cs 4)]) H := hP
    have hD : va_D A (bl [[ob z 5 [.ref t, .ref t2, .ref h, .ref x]], [ob t 3 [.ref o, .ref q]], wS G o a1 a2 a3 a4 (cs 3), wT G q b1 b2 cv120 cm120, [ob h 0 [.int (nI (sz - 1)), .ref st], arS G st 5 (fun j => some (y0 (rgt k j)))], wS G (y0 0) (y1 0) (y2 0) (y3 0) (y4 0) (cs 0), wS G (y0 1) (y1 1) (y2 1) (y3 1) (y4 1) (cs 1), wS G (y0 2) (y1 2) (y2 2) (y3 2) (y4 2) (cs 2), wS G (y0 3) (y1 3) (y2 3) (y3 3) (y4 3) (cs 3), wS G (y0 4) (y1 4) (y2 4) (y3 4) (y4 4) (cs 4)]) := hD
    refine lv_aload_n hx hb dX5_undo_23 rfl (lv_at hl 1 rfl) ?_
    refine va_get (D := G.1) (ci := 5) (v := .ref h) (C := RX5) (T := TX5) (N := 4) hx hb hts iqX5_undo_ok_X5 hown hK.1 hP 0 rfl rfl 2 (by decide) (hts (.fieldLink RX5 22 "PushedTables" "history" "LPushedTables$History;") (List.mem_of_getElem? (i := 1) rfl)) (fun _ h9 => h9) rfl dX5_undo_24 ?_
    refine va_get (D := G.1) (ci := 0) (v := .int (nI (sz - 1))) (C := RX0) (T := TX0) (N := 2) hx hb hts iqX5_undo_ok_X0 hown hK.1 hP 10 rfl rfl 0 (by decide) (hts (.fieldLink RX5 109 "PushedTables$History" "size" "I") (List.mem_of_getElem? (i := 3) rfl)) (fun _ h9 => h9) rfl dX5_undo_27 ?_
    exact hret _ _ _ _ _ hS dX5_undo_30 (⟨(cs 3), cv120, cm120, rfl, by rw [eq]; exact hq20, hB2, by first | assumption | omega, by first | assumption | omega, hP⟩)
  · rw [eq]
    have hB2 := hcs 4
    refine lv_astore_n (lv' := [(1, .ref (y0 4)), (0, .ref z)]) hx hb dX5_undo_7 rfl hl (by decide) rfl (fun ls hl => ?_)
    refine lv_aload_n hx hb dX5_undo_8 rfl (lv_at hl 0 rfl) ?_
    refine lv_ifnonnull (tgt := 15) hx hb dX5_undo_9 (by decide) ?_
    refine lv_aload_n hx hb dX5_undo_15 rfl (lv_at hl 1 rfl) ?_
    refine va_get (D := G.1) (ci := 5) (v := .ref t) (C := RX5) (T := TX5) (N := 4) hx hb hts iqX5_undo_ok_X5 hown hK.1 hP 0 rfl rfl 0 (by decide) (hts (.fieldLink RX5 12 "PushedTables" "table" "LPushedTables$Table;") (List.mem_of_getElem? (i := 2) rfl)) (fun _ h9 => h9) rfl dX5_undo_16 ?_
    refine lv_aload_n hx hb dX5_undo_19 rfl (lv_at hl 0 rfl) ?_
    have hPc := bl_sub hP (is := [1, 2, 3, 9]) (bc := [[ob t 3 [.ref o, .ref q]], wS G o a1 a2 a3 a4 σ, wT G q b1 b2 cv cm, wS G (y0 4) (y1 4) (y2 4) (y3 4) (y4 4) (cs 4)]) rfl
    have hDc := bl_subD hD [1, 2, 3, 9] [[ob t 3 [.ref o, .ref q]], wS G o a1 a2 a3 a4 σ, wT G q b1 b2 cv cm, wS G (y0 4) (y1 4) (y2 4) (y3 4) (y4 4) (cs 4)] (by decide) rfl
    refine g_VB (bc := [[ob t 3 [.ref o, .ref q]], wS G o a1 a2 a3 a4 σ, wT G q b1 b2 cv cm, wS G (y0 4) (y1 4) (y2 4) (y3 4) (y4 4) (cs 4)]) (k_W (q0 := 0) (ci := 3) (n := 1) (As := [.ref (y0 4)]) (rest := []) hx hb hml hown hts (c_X3_restore (l := l) (G := G) (t := t) (o := o) (a1 := a1) (a2 := a2) (a3 := a3) (a4 := a4) (σ := σ) (q := q) (b1 := b1) (b2 := b2) (cv := cv) (cm := cm) (hB := by first | assumption | omega) (hv := by first | assumption | omega) (hm := by first | assumption | omega) (o2 := (y0 4)) (d1 := (y1 4)) (d2 := (y2 4)) (d3 := (y3 4)) (d4 := (y4 4)) (ρ := (cs 4)) (hB2 := by first | assumption | omega)) gX5_undo_X3_restore rfl rfl rfl (by decide +kernel) ⟨Nat.le_of_ble_eq_true rfl, Nat.le_of_ble_eq_true rfl⟩ rfl hK hPc hDc rfl rfl rfl hl.1 rfl (Nat.le_of_ble_eq_true rfl) dX5_undo_20 ⟨Nat.le_of_ble_eq_true rfl, Nat.le_of_ble_eq_true rfl⟩) hP hD hS [1, 2, 3, 9] (by decide) rfl (fun H locs hB20 back hS => ?_)
    obtain ⟨cv120, cm120, hq20, hb220, hb320, hP1⟩ := hB20
    obtain ⟨hP, hD⟩ := back [[ob t 3 [.ref o, .ref q]], wS G o a1 a2 a3 a4 (cs 4), wT G q b1 b2 cv120 cm120, wS G (y0 4) (y1 4) (y2 4) (y3 4) (y4 4) (cs 4)] rfl hP1
    have hP : va_P G.1 vwCl (bl [[ob z 5 [.ref t, .ref t2, .ref h, .ref x]], [ob t 3 [.ref o, .ref q]], wS G o a1 a2 a3 a4 (cs 4), wT G q b1 b2 cv120 cm120, [ob h 0 [.int (nI (sz - 1)), .ref st], arS G st 5 (fun j => some (y0 (rgt k j)))], wS G (y0 0) (y1 0) (y2 0) (y3 0) (y4 0) (cs 0), wS G (y0 1) (y1 1) (y2 1) (y3 1) (y4 1) (cs 1), wS G (y0 2) (y1 2) (y2 2) (y3 2) (y4 2) (cs 2), wS G (y0 3) (y1 3) (y2 3) (y3 3) (y4 3) (cs 3), wS G (y0 4) (y1 4) (y2 4) (y3 4) (y4 4) (cs 4)]) H := hP
    have hD : va_D A (bl [[ob z 5 [.ref t, .ref t2, .ref h, .ref x]], [ob t 3 [.ref o, .ref q]], wS G o a1 a2 a3 a4 (cs 4), wT G q b1 b2 cv120 cm120, [ob h 0 [.int (nI (sz - 1)), .ref st], arS G st 5 (fun j => some (y0 (rgt k j)))], wS G (y0 0) (y1 0) (y2 0) (y3 0) (y4 0) (cs 0), wS G (y0 1) (y1 1) (y2 1) (y3 1) (y4 1) (cs 1), wS G (y0 2) (y1 2) (y2 2) (y3 2) (y4 2) (cs 2), wS G (y0 3) (y1 3) (y2 3) (y3 3) (y4 3) (cs 3), wS G (y0 4) (y1 4) (y2 4) (y3 4) (y4 4) (cs 4)]) := hD
    refine lv_aload_n hx hb dX5_undo_23 rfl (lv_at hl 1 rfl) ?_
    refine va_get (D := G.1) (ci := 5) (v := .ref h) (C := RX5) (T := TX5) (N := 4) hx hb hts iqX5_undo_ok_X5 hown hK.1 hP 0 rfl rfl 2 (by decide) (hts (.fieldLink RX5 22 "PushedTables" "history" "LPushedTables$History;") (List.mem_of_getElem? (i := 1) rfl)) (fun _ h9 => h9) rfl dX5_undo_24 ?_
    refine va_get (D := G.1) (ci := 0) (v := .int (nI (sz - 1))) (C := RX0) (T := TX0) (N := 2) hx hb hts iqX5_undo_ok_X0 hown hK.1 hP 10 rfl rfl 0 (by decide) (hts (.fieldLink RX5 109 "PushedTables$History" "size" "I") (List.mem_of_getElem? (i := 3) rfl)) (fun _ h9 => h9) rfl dX5_undo_27 ?_
    exact hret _ _ _ _ _ hS dX5_undo_30 (⟨(cs 4), cv120, cm120, rfl, by rw [eq]; exact hq20, hB2, by first | assumption | omega, by first | assumption | omega, hP⟩)

theorem iqX5_append_ok_X5 : ∀ w ∈ u_ws RX5 TX5 4, w ∈ wsX5_append := by decide +kernel
theorem iqX5_append_ok_X4 : ∀ w ∈ u_ws RX4 TX4 8, w ∈ wsX5_append := by decide +kernel
set_option maxHeartbeats 1000000 in
set_option maxRecDepth 100000 in
theorem c_X5_append_ok (l : Launch) (G : kG) (z t t2 h x : Nat) (g1 g2 g3 L pl nu np rr : Nat) (tx td tv : Nat → Nat) (hL : L ≤ 100) (ht : ∀ k, tx k < 256) (w : Nat) (hw1 : 1 ≤ w) (hw : w ≤ 255) (hL2 : L < 100) : Met l yX5_append wsX5_append ({ frames := 1, cells := 0, slots := 0, locals := 21 } : Room) (cP G [.ref z, .int (nI w)] (bl [[ob z 5 [.ref t, .ref t2, .ref h, .ref x]], wX G x g1 g2 g3 L pl nu np rr tx td tv])) (qI (fun rv H => rv = (nI (L + 1)) ∧ va_P G.1 vwCl (bl [[ob z 5 [.ref t, .ref t2, .ref h, .ref x]], wX G x g1 g2 g3 (L + 1) pl nu np rr (va_up tx L w) td tv]) H) (mA (bl [[ob z 5 [.ref t, .ref t2, .ref h, .ref x]], wX G x g1 g2 g3 L pl nu np rr tx td tv]))) 0 0 (mA (bl [[ob z 5 [.ref t, .ref t2, .ref h, .ref x]], wX G x g1 g2 g3 L pl nu np rr tx td tv])) := by
  refine met_muI (cc := cX5_append) (maxL := 2) (ty := .int) (own := RX5) (by decide) rfl rfl (fun _ _ _ => rfl) (Nat.le_of_ble_eq_true rfl) ?_
  intro p e s m args below meth cod Q A hx hb hml hown hts hK hP hD hS hret ls hl
  have hl : lv_has ls 2 [(0, .ref z), (1, .int (nI w))] := hl
  refine lv_iload_n hx hb dX5_append_0 rfl (lv_at hl 1 rfl) ?_
  refine lv_iconst (v := (nI 1)) hx hb dX5_append_1 (by decide) ?_
  refine r_icmp_lt (P := w < 1) (tgt := 12) hx hb dX5_append_2 (by decide) (nI_ltI (by omega) (by omega)) (fun cq2 => ?_) (fun cq2 => ?_)
  · exact absurd cq2 (by omega)
  · refine lv_iload_n hx hb dX5_append_5 rfl (lv_at hl 1 rfl) ?_
    refine lv_sipush (v := (nI 255)) hx hb dX5_append_6 (by decide) ?_
    refine r_icmp_le (P := w ≤ 255) (tgt := 14) hx hb dX5_append_9 (by decide) (nI_leI (by omega) (by omega)) (fun cq9 => ?_) (fun cq9 => ?_)
    · refine lv_aload_n hx hb dX5_append_14 rfl (lv_at hl 0 rfl) ?_
      refine va_get (D := G.1) (ci := 5) (v := .ref x) (C := RX5) (T := TX5) (N := 4) hx hb hts iqX5_append_ok_X5 hown hK.1 hP 0 rfl rfl 3 (by decide) (hts (.fieldLink RX5 29 "PushedTables" "text" "LPushedTables$Text;") (List.mem_of_getElem? (i := 1) rfl)) (fun _ h9 => h9) rfl dX5_append_15 ?_
      refine va_get (D := G.1) (ci := 4) (v := .int (nI L)) (C := RX4) (T := TX4) (N := 8) hx hb hts iqX5_append_ok_X4 hown hK.1 hP 1 rfl rfl 0 (by decide) (hts (.fieldLink RX5 112 "PushedTables$Text" "length" "I") (List.mem_of_getElem? (i := 2) rfl)) (fun _ h9 => h9) rfl dX5_append_18 ?_
      refine lv_bipush (v := (nI 100)) hx hb dX5_append_21 (by decide) ?_
      refine r_icmp_lt (P := L < 100) (tgt := 29) hx hb dX5_append_23 (by decide) (nI_ltI (by omega) (by omega)) (fun cq23 => ?_) (fun cq23 => ?_)
      · refine lv_aload_n hx hb dX5_append_29 rfl (lv_at hl 0 rfl) ?_
        refine va_get (D := G.1) (ci := 5) (v := .ref x) (C := RX5) (T := TX5) (N := 4) hx hb hts iqX5_append_ok_X5 hown hK.1 hP 0 rfl rfl 3 (by decide) (hts (.fieldLink RX5 29 "PushedTables" "text" "LPushedTables$Text;") (List.mem_of_getElem? (i := 1) rfl)) (fun _ h9 => h9) rfl dX5_append_30 ?_
        refine lv_iload_n hx hb dX5_append_33 rfl (lv_at hl 1 rfl) ?_
        refine lv_i2c (v := (nI w)) hx hb dX5_append_34 ((sb_byte w (by omega)).2.1) ?_
        have hPc := bl_sub hP (is := [1]) (bc := [wX G x g1 g2 g3 L pl nu np rr tx td tv]) rfl
        have hDc := bl_subD hD [1] [wX G x g1 g2 g3 L pl nu np rr tx td tv] (by decide) rfl
        refine g_VB (bc := [wX G x g1 g2 g3 L pl nu np rr tx td tv]) (k_W (q0 := 0) (ci := 4) (n := 1) (As := [.int (nI w)]) (rest := []) hx hb hml hown hts (c_X4_appendSign (l := l) (G := G) (x := x) (g1 := g1) (g2 := g2) (g3 := g3) (L := L) (pl := pl) (nu := nu) (np := np) (rr := rr) (t := tx) (td := td) (tv := tv) (hL := by first | assumption | omega) (ht := by first | assumption | omega) (w := w) (hw := by first | assumption | omega) (hL2 := by first | assumption | omega)) gX5_append_X4_appendSign rfl rfl rfl (by decide +kernel) ⟨Nat.le_of_ble_eq_true rfl, Nat.le_of_ble_eq_true rfl⟩ rfl hK hPc hDc rfl rfl rfl hl.1 rfl (Nat.le_of_ble_eq_true rfl) dX5_append_35 ⟨Nat.le_of_ble_eq_true rfl, Nat.le_of_ble_eq_true rfl⟩) hP hD hS [1] (by decide) rfl (fun H locs hB35 back hS => ?_)
        have hP1 := hB35
        obtain ⟨hP, hD⟩ := back [wX G x g1 g2 g3 (L + 1) pl nu np rr (va_up tx L w) td tv] rfl hP1
        have hP : va_P G.1 vwCl (bl [[ob z 5 [.ref t, .ref t2, .ref h, .ref x]], wX G x g1 g2 g3 (L + 1) pl nu np rr (va_up tx L w) td tv]) H := hP
        have hD : va_D A (bl [[ob z 5 [.ref t, .ref t2, .ref h, .ref x]], wX G x g1 g2 g3 (L + 1) pl nu np rr (va_up tx L w) td tv]) := hD
        refine lv_aload_n hx hb dX5_append_38 rfl (lv_at hl 0 rfl) ?_
        refine va_get (D := G.1) (ci := 5) (v := .ref x) (C := RX5) (T := TX5) (N := 4) hx hb hts iqX5_append_ok_X5 hown hK.1 hP 0 rfl rfl 3 (by decide) (hts (.fieldLink RX5 29 "PushedTables" "text" "LPushedTables$Text;") (List.mem_of_getElem? (i := 1) rfl)) (fun _ h9 => h9) rfl dX5_append_39 ?_
        refine va_get (D := G.1) (ci := 4) (v := .int (nI (L + 1))) (C := RX4) (T := TX4) (N := 8) hx hb hts iqX5_append_ok_X4 hown hK.1 hP 1 rfl rfl 0 (by decide) (hts (.fieldLink RX5 112 "PushedTables$Text" "length" "I") (List.mem_of_getElem? (i := 2) rfl)) (fun _ h9 => h9) rfl dX5_append_42 ?_
        exact hret _ _ _ _ _ hS dX5_append_45 (⟨rfl, hP⟩)
      · exact absurd hL2 cq23
    · exact absurd hw cq9

theorem iqX5_clearText_X5 : ∀ w ∈ u_ws RX5 TX5 4, w ∈ wsX5_clearText := by decide +kernel
theorem iqX5_clearText_X4 : ∀ w ∈ u_ws RX4 TX4 8, w ∈ wsX5_clearText := by decide +kernel
set_option maxHeartbeats 1000000 in
set_option maxRecDepth 100000 in
theorem c_X5_clearText (l : Launch) (G : kG) (z t t2 h x : Nat) (g1 g2 g3 L pl nu np rr : Nat) (tx td tv : Nat → Nat) (hL : L ≤ 100) (ht : ∀ k, tx k < 256) : Met l yX5_clearText wsX5_clearText ({ frames := 0, cells := 0, slots := 0, locals := 0 } : Room) (cP G [.ref z] (bl [[ob z 5 [.ref t, .ref t2, .ref h, .ref x]], wX G x g1 g2 g3 L pl nu np rr tx td tv])) (qI (fun rv H => rv = (nI L) ∧ va_P G.1 vwCl (bl [[ob z 5 [.ref t, .ref t2, .ref h, .ref x]], wX G x g1 g2 g3 0 pl nu np rr tx td tv]) H) (mA (bl [[ob z 5 [.ref t, .ref t2, .ref h, .ref x]], wX G x g1 g2 g3 L pl nu np rr tx td tv]))) 0 0 (mA (bl [[ob z 5 [.ref t, .ref t2, .ref h, .ref x]], wX G x g1 g2 g3 L pl nu np rr tx td tv])) := by
  refine met_muI (cc := cX5_clearText) (maxL := 2) (ty := .int) (own := RX5) (by decide) rfl rfl (fun _ _ _ => rfl) (Nat.le_of_ble_eq_true rfl) ?_
  intro p e s m args below meth cod Q A hx hb hml hown hts hK hP hD hS hret ls hl
  have hl : lv_has ls 2 [(0, .ref z)] := hl
  refine lv_aload_n hx hb dX5_clearText_0 rfl (lv_at hl 0 rfl) ?_
  refine va_get (D := G.1) (ci := 5) (v := .ref x) (C := RX5) (T := TX5) (N := 4) hx hb hts iqX5_clearText_X5 hown hK.1 hP 0 rfl rfl 3 (by decide) (hts (.fieldLink RX5 29 "PushedTables" "text" "LPushedTables$Text;") (List.mem_of_getElem? (i := 1) rfl)) (fun _ h9 => h9) rfl dX5_clearText_1 ?_
  refine va_get (D := G.1) (ci := 4) (v := .int (nI L)) (C := RX4) (T := TX4) (N := 8) hx hb hts iqX5_clearText_X4 hown hK.1 hP 1 rfl rfl 0 (by decide) (hts (.fieldLink RX5 112 "PushedTables$Text" "length" "I") (List.mem_of_getElem? (i := 2) rfl)) (fun _ h9 => h9) rfl dX5_clearText_4 ?_
  refine lv_istore_n (lv' := [(1, .int (nI L)), (0, .ref z)]) hx hb dX5_clearText_7 rfl hl (by decide) rfl (fun ls hl => ?_)
  refine lv_aload_n hx hb dX5_clearText_8 rfl (lv_at hl 1 rfl) ?_
  refine va_get (D := G.1) (ci := 5) (v := .ref x) (C := RX5) (T := TX5) (N := 4) hx hb hts iqX5_clearText_X5 hown hK.1 hP 0 rfl rfl 3 (by decide) (hts (.fieldLink RX5 29 "PushedTables" "text" "LPushedTables$Text;") (List.mem_of_getElem? (i := 1) rfl)) (fun _ h9 => h9) rfl dX5_clearText_9 ?_
  refine lv_iconst (v := (nI 0)) hx hb dX5_clearText_12 (by decide) ?_
  refine va_put (D := G.1) (ci := 4) (v := .int (nI 0)) (ty := .int) (C := RX4) (T := TX4) (N := 8) hx hb hts iqX5_clearText_X4 tyX4 tyX4_ok nmX4 hown hK.1 hP hD hS 1 rfl rfl 0 (by decide) (hts (.fieldLink RX5 112 "PushedTables$Text" "length" "I") (List.mem_of_getElem? (i := 2) rfl)) (fun _ h9 => h9) rfl (by decide +kernel) rfl rfl (Nat.le_of_ble_eq_true rfl) dX5_clearText_13 (fun H locs hP hD hS => ?_)
  have hP : va_P G.1 vwCl (bl [[ob z 5 [.ref t, .ref t2, .ref h, .ref x]], wX G x g1 g2 g3 0 pl nu np rr tx td tv]) H := hP
  have hD : va_D A (bl [[ob z 5 [.ref t, .ref t2, .ref h, .ref x]], wX G x g1 g2 g3 0 pl nu np rr tx td tv]) := hD
  refine lv_iload_n hx hb dX5_clearText_16 rfl (lv_at hl 0 rfl) ?_
  exact hret _ _ _ _ _ hS dX5_clearText_17 (⟨rfl, hP⟩)

theorem iqX5_get_ok_X5 : ∀ w ∈ u_ws RX5 TX5 4, w ∈ wsX5_get := by decide +kernel
set_option maxHeartbeats 1000000 in
set_option maxRecDepth 100000 in
theorem c_X5_get_ok (l : Launch) (G : kG) (z t t2 h x : Nat) (o a1 a2 a3 a4 : Nat) (σ : Sg) (q b1 b2 : Nat) (cv cm : Nat → Nat) (hB : Bd σ) (hv : Bc 100 cv) (hm : Bc 24 cm) (r c : Nat) (hr : r < nn σ) (hc : c < 16) : Met l yX5_get wsX5_get ({ frames := 3, cells := 0, slots := 0, locals := 66 } : Room) (cP G [.ref z, .int (nI r), .int (nI c)] (bl [[ob z 5 [.ref t, .ref t2, .ref h, .ref x]], [ob t 3 [.ref o, .ref q]], wS G o a1 a2 a3 a4 σ, wT G q b1 b2 cv cm])) (vp_Si (fun rv => rv = (e9 (luk σ cv cm r c)))) 0 0 (fun _ => False) := by
  refine met_ro (cc := cX5_get) (maxL := 3) (ty := .int) (own := RX5) (by decide) rfl rfl (fun _ _ => rfl) (Nat.le_of_ble_eq_true rfl) ?_
  intro p e s m args below meth cod Q hx hb hml hown hts hK hP hD hret ls hl
  have hl : lv_has ls 3 [(0, .ref z), (1, .int (nI r)), (2, .int (nI c))] := hl
  have h24 := hB.n
  refine lv_aload_n hx hb dX5_get_0 rfl (lv_at hl 0 rfl) ?_
  refine lv_iload_n hx hb dX5_get_1 rfl (lv_at hl 1 rfl) ?_
  refine g_ro (k_V (q0 := 0) (ci := 5) (n := 1) (As := [.int (nI r)]) (rest := []) (wc := [ob z 5 [.ref t, .ref t2, .ref h, .ref x], ob t 3 [.ref o, .ref q], ob o 1 [.int (nI (nn σ)), .ref a1, .ref a2, .ref a3, .ref a4]]) hx hb hml hown hts (c_X5_isRow (l := l) (G := G) (z := z) (t := t) (t2 := t2) (h := h) (x := x) (o := o) (a1 := a1) (a2 := a2) (a3 := a3) (a4 := a4) (q := q) (n0 := nn σ) (xa := nI r) (hn := by first | assumption | omega))  gX5_get_X5_isRow rfl rfl rfl (by decide +kernel) ⟨Nat.le_of_ble_eq_true rfl, Nat.le_of_ble_eq_true rfl⟩ rfl hK hP hD [0, 1, 2] rfl (by decide)  rfl rfl rfl hl.1 rfl (Nat.le_of_ble_eq_true rfl) dX5_get_2 ⟨Nat.le_of_ble_eq_true rfl, Nat.le_of_ble_eq_true rfl⟩) (fun r2 h2 => ?_)
  obtain rfl : (bI (inr (nI r) 0 (((nn σ) : Int) - 1))) = r2 := Eq.symm h2
  refine r_if_eq (P := (inr (nI r) 0 (((nn σ) : Int) - 1)) = false) (tgt := 15) hx hb dX5_get_5 (by decide) (bI_eq0) (fun cq5 => ?_) (fun cq5 => ?_)
  · exact (no_f (inr_nI (by omega) (by omega)) cq5).elim
  · refine lv_iload_n hx hb dX5_get_8 rfl (lv_at hl 2 rfl) ?_
    refine g_ro (k_S (n := 1) (As := [.int (nI c)]) (rest := []) (wc := []) hx hb hml hown hts (c_X5_isColumn (l := l) (G := G) (xa := nI c))  gX5_get_X5_isColumn rfl rfl rfl (by decide +kernel) ⟨Nat.le_of_ble_eq_true rfl, Nat.le_of_ble_eq_true rfl⟩ rfl hK hP hD [] rfl (by decide)  hl.1 rfl (Nat.le_of_ble_eq_true rfl) dX5_get_9 ⟨Nat.le_of_ble_eq_true rfl, Nat.le_of_ble_eq_true rfl⟩) (fun r9 h9 => ?_)
    obtain rfl : (bI (inr (nI c) 0 15)) = r9 := Eq.symm h9
    refine r_if_ne (P := (inr (nI c) 0 15) = false) (tgt := 17) hx hb dX5_get_12 (by decide) (bI_eq0) (fun cq12 => ?_) (fun cq12 => ?_)
    · refine lv_aload_n hx hb dX5_get_17 rfl (lv_at hl 0 rfl) ?_
      refine va_get (D := G.1) (ci := 5) (v := .ref t) (C := RX5) (T := TX5) (N := 4) hx hb hts iqX5_get_ok_X5 hown hK.1 hP 0 rfl rfl 0 (by decide) (hts (.fieldLink RX5 12 "PushedTables" "table" "LPushedTables$Table;") (List.mem_of_getElem? (i := 1) rfl)) (fun _ h9 => h9) rfl dX5_get_18 ?_
      refine lv_iload_n hx hb dX5_get_21 rfl (lv_at hl 1 rfl) ?_
      refine lv_iload_n hx hb dX5_get_22 rfl (lv_at hl 2 rfl) ?_
      have hPc := bl_sub hP (is := [1, 2, 3]) (bc := [[ob t 3 [.ref o, .ref q]], wS G o a1 a2 a3 a4 σ, wT G q b1 b2 cv cm]) rfl
      have hDc := bl_subD hD [1, 2, 3] [[ob t 3 [.ref o, .ref q]], wS G o a1 a2 a3 a4 σ, wT G q b1 b2 cv cm] (by decide) rfl
      refine g_ro (k_W (q0 := 0) (ci := 3) (n := 2) (As := [.int (nI r), .int (nI c)]) (rest := []) hx hb hml hown hts (c_X3_lookUp (l := l) (G := G) (t := t) (o := o) (a1 := a1) (a2 := a2) (a3 := a3) (a4 := a4) (σ := σ) (q := q) (b1 := b1) (b2 := b2) (cv := cv) (cm := cm) (hB := by first | assumption | omega) (hv := by first | assumption | omega) (hm := by first | assumption | omega) (r := r) (c := c) (hr := by first | assumption | omega) (hc := by first | assumption | omega)) gX5_get_X3_lookUp rfl rfl rfl (by decide +kernel) ⟨Nat.le_of_ble_eq_true rfl, Nat.le_of_ble_eq_true rfl⟩ rfl hK hPc hDc rfl rfl rfl hl.1 rfl (Nat.le_of_ble_eq_true rfl) dX5_get_23 ⟨Nat.le_of_ble_eq_true rfl, Nat.le_of_ble_eq_true rfl⟩) (fun r23 h23 => ?_)
      obtain rfl : (e9 (luk σ cv cm r c)) = r23 := Eq.symm h23
      exact hret _ _ _ dX5_get_26 (rfl)
    · exact (no_f (inr_nI (by omega) (by omega)) cq12).elim

theorem iqX5_like_ok_X5 : ∀ w ∈ u_ws RX5 TX5 4, w ∈ wsX5_like := by decide +kernel
theorem iqX5_like_ok_X3 : ∀ w ∈ u_ws RX3 TX3 2, w ∈ wsX5_like := by decide +kernel
set_option maxHeartbeats 1000000 in
set_option maxRecDepth 100000 in
theorem c_X5_like_ok (l : Launch) (G : kG) (z t t2 h x : Nat) (o a1 a2 a3 a4 : Nat) (σ : Sg) (q b1 b2 : Nat) (cv cm : Nat → Nat) (hB : Bd σ) (hv : Bc 100 cv) (hm : Bc 24 cm) (r : Nat) (hr : r < nn σ) : Met l yX5_like wsX5_like ({ frames := 4, cells := 0, slots := 0, locals := 92 } : Room) (cP G [.ref z, .int (nI r)] (bl [[ob z 5 [.ref t, .ref t2, .ref h, .ref x]], [ob t 3 [.ref o, .ref q]], wS G o a1 a2 a3 a4 σ, wT G q b1 b2 cv cm])) (vp_Si (fun rv => rv = (e9 ((lkB (eqc σ r) r (nn σ)).1)))) 0 0 (fun _ => False) := by
  refine met_ro (cc := cX5_like) (maxL := 2) (ty := .int) (own := RX5) (by decide) rfl rfl (fun _ _ => rfl) (Nat.le_of_ble_eq_true rfl) ?_
  intro p e s m args below meth cod Q hx hb hml hown hts hK hP hD hret ls hl
  have hl : lv_has ls 2 [(0, .ref z), (1, .int (nI r))] := hl
  have h24 := hB.n
  refine lv_aload_n hx hb dX5_like_0 rfl (lv_at hl 0 rfl) ?_
  refine lv_iload_n hx hb dX5_like_1 rfl (lv_at hl 1 rfl) ?_
  refine g_ro (k_V (q0 := 0) (ci := 5) (n := 1) (As := [.int (nI r)]) (rest := []) (wc := [ob z 5 [.ref t, .ref t2, .ref h, .ref x], ob t 3 [.ref o, .ref q], ob o 1 [.int (nI (nn σ)), .ref a1, .ref a2, .ref a3, .ref a4]]) hx hb hml hown hts (c_X5_isRow (l := l) (G := G) (z := z) (t := t) (t2 := t2) (h := h) (x := x) (o := o) (a1 := a1) (a2 := a2) (a3 := a3) (a4 := a4) (q := q) (n0 := nn σ) (xa := nI r) (hn := by first | assumption | omega))  gX5_like_X5_isRow rfl rfl rfl (by decide +kernel) ⟨Nat.le_of_ble_eq_true rfl, Nat.le_of_ble_eq_true rfl⟩ rfl hK hP hD [0, 1, 2] rfl (by decide)  rfl rfl rfl hl.1 rfl (Nat.le_of_ble_eq_true rfl) dX5_like_2 ⟨Nat.le_of_ble_eq_true rfl, Nat.le_of_ble_eq_true rfl⟩) (fun r2 h2 => ?_)
  obtain rfl : (bI (inr (nI r) 0 (((nn σ) : Int) - 1))) = r2 := Eq.symm h2
  refine r_if_ne (P := (inr (nI r) 0 (((nn σ) : Int) - 1)) = false) (tgt := 10) hx hb dX5_like_5 (by decide) (bI_eq0) (fun cq5 => ?_) (fun cq5 => ?_)
  · refine lv_aload_n hx hb dX5_like_10 rfl (lv_at hl 0 rfl) ?_
    refine va_get (D := G.1) (ci := 5) (v := .ref t) (C := RX5) (T := TX5) (N := 4) hx hb hts iqX5_like_ok_X5 hown hK.1 hP 0 rfl rfl 0 (by decide) (hts (.fieldLink RX5 12 "PushedTables" "table" "LPushedTables$Table;") (List.mem_of_getElem? (i := 1) rfl)) (fun _ h9 => h9) rfl dX5_like_11 ?_
    refine va_get (D := G.1) (ci := 3) (v := .ref o) (C := RX3) (T := TX3) (N := 2) hx hb hts iqX5_like_ok_X3 hown hK.1 hP 1 rfl rfl 0 (by decide) (hts (.fieldLink RX5 37 "PushedTables$Table" "state" "LPushedTables$State;") (List.mem_of_getElem? (i := 2) rfl)) (fun _ h9 => h9) rfl dX5_like_14 ?_
    refine lv_iload_n hx hb dX5_like_17 rfl (lv_at hl 1 rfl) ?_
    have hPc := bl_sub hP (is := [2]) (bc := [wS G o a1 a2 a3 a4 σ]) rfl
    have hDc := bl_subD hD [2] [wS G o a1 a2 a3 a4 σ] (by decide) rfl
    refine g_ro (k_W (q0 := 0) (ci := 1) (n := 1) (As := [.int (nI r)]) (rest := []) hx hb hml hown hts (c_X1_mostLike (l := l) (G := G) (o := o) (a1 := a1) (a2 := a2) (a3 := a3) (a4 := a4) (σ := σ) (r := r) (hB := by first | assumption | omega) (hr := by first | assumption | omega)) gX5_like_X1_mostLike rfl rfl rfl (by decide +kernel) ⟨Nat.le_of_ble_eq_true rfl, Nat.le_of_ble_eq_true rfl⟩ rfl hK hPc hDc rfl rfl rfl hl.1 rfl (Nat.le_of_ble_eq_true rfl) dX5_like_18 ⟨Nat.le_of_ble_eq_true rfl, Nat.le_of_ble_eq_true rfl⟩) (fun r18 h18 => ?_)
    obtain rfl : (e9 ((lkB (eqc σ r) r (nn σ)).1)) = r18 := Eq.symm h18
    exact hret _ _ _ dX5_like_21 (rfl)
  · exact (no_f (inr_nI (by omega) (by omega)) cq5).elim

theorem iqX5_fit_ok_X5 : ∀ w ∈ u_ws RX5 TX5 4, w ∈ wsX5_fit := by decide +kernel
theorem iqX5_fit_ok_X3 : ∀ w ∈ u_ws RX3 TX3 2, w ∈ wsX5_fit := by decide +kernel
set_option maxHeartbeats 1000000 in
set_option maxRecDepth 100000 in
theorem c_X5_fit_ok (l : Launch) (G : kG) (z t t2 h x : Nat) (o a1 a2 a3 a4 : Nat) (σ : Sg) (q b1 b2 : Nat) (cv cm : Nat → Nat) (hB : Bd σ) (hv : Bc 100 cv) (hm : Bc 24 cm) (m2 : Nat) (h1 : 1 ≤ m2) (h2 : m2 ≤ 65535) : Met l yX5_fit wsX5_fit ({ frames := 3, cells := 0, slots := 0, locals := 66 } : Room) (cP G [.ref z, .int (nI m2)] (bl [[ob z 5 [.ref t, .ref t2, .ref h, .ref x]], [ob t 3 [.ref o, .ref q]], wS G o a1 a2 a3 a4 σ, wT G q b1 b2 cv cm])) (vp_Si (fun rv => rv = (e9 (ffit cm m2)))) 0 0 (fun _ => False) := by
  refine met_ro (cc := cX5_fit) (maxL := 2) (ty := .int) (own := RX5) (by decide) rfl rfl (fun _ _ => rfl) (Nat.le_of_ble_eq_true rfl) ?_
  intro p e s m args below meth cod Q hx hb hml hown hts hK hP hD hret ls hl
  have hl : lv_has ls 2 [(0, .ref z), (1, .int (nI m2))] := hl
  refine lv_iload_n hx hb dX5_fit_0 rfl (lv_at hl 1 rfl) ?_
  refine lv_iconst (v := (nI 1)) hx hb dX5_fit_1 (by decide) ?_
  refine r_icmp_lt (P := m2 < 1) (tgt := 11) hx hb dX5_fit_2 (by decide) (nI_ltI (by omega) (by omega)) (fun cq2 => ?_) (fun cq2 => ?_)
  · exact absurd cq2 (by omega)
  · refine lv_iload_n hx hb dX5_fit_5 rfl (lv_at hl 1 rfl) ?_
    refine lv_ldc (v := (nI 65535)) hx hb hown (hts (.constant RX5 166 (nI 65535)) (List.mem_of_getElem? (i := 1) rfl)) dX5_fit_6 ?_
    refine r_icmp_le (P := m2 ≤ 65535) (tgt := 13) hx hb dX5_fit_8 (by decide) (nI_leI (by omega) (by omega)) (fun cq8 => ?_) (fun cq8 => ?_)
    · refine lv_aload_n hx hb dX5_fit_13 rfl (lv_at hl 0 rfl) ?_
      refine va_get (D := G.1) (ci := 5) (v := .ref t) (C := RX5) (T := TX5) (N := 4) hx hb hts iqX5_fit_ok_X5 hown hK.1 hP 0 rfl rfl 0 (by decide) (hts (.fieldLink RX5 12 "PushedTables" "table" "LPushedTables$Table;") (List.mem_of_getElem? (i := 2) rfl)) (fun _ h9 => h9) rfl dX5_fit_14 ?_
      refine va_get (D := G.1) (ci := 3) (v := .ref q) (C := RX3) (T := TX3) (N := 2) hx hb hts iqX5_fit_ok_X3 hown hK.1 hP 1 rfl rfl 1 (by decide) (hts (.fieldLink RX5 92 "PushedTables$Table" "store" "LPushedTables$Store;") (List.mem_of_getElem? (i := 3) rfl)) (fun _ h9 => h9) rfl dX5_fit_17 ?_
      refine lv_iload_n hx hb dX5_fit_20 rfl (lv_at hl 1 rfl) ?_
      have hPc := bl_sub hP (is := [3]) (bc := [wT G q b1 b2 cv cm]) rfl
      have hDc := bl_subD hD [3] [wT G q b1 b2 cv cm] (by decide) rfl
      refine g_ro (k_W (q0 := 0) (ci := 2) (n := 1) (As := [.int (nI m2)]) (rest := []) hx hb hml hown hts (c_X2_firstFit (l := l) (G := G) (q := q) (b1 := b1) (b2 := b2) (cv := cv) (cm := cm) (m2 := m2) (hv := by first | assumption | omega) (hm := by first | assumption | omega) (hm2 := by first | assumption | omega)) gX5_fit_X2_firstFit rfl rfl rfl (by decide +kernel) ⟨Nat.le_of_ble_eq_true rfl, Nat.le_of_ble_eq_true rfl⟩ rfl hK hPc hDc rfl rfl rfl hl.1 rfl (Nat.le_of_ble_eq_true rfl) dX5_fit_21 ⟨Nat.le_of_ble_eq_true rfl, Nat.le_of_ble_eq_true rfl⟩) (fun r21 h21 => ?_)
      obtain rfl : (e9 (ffit cm m2)) = r21 := Eq.symm h21
      have b21 := ffit_le cm m2
      exact hret _ _ _ dX5_fit_24 (rfl)
    · exact absurd h2 cq8

theorem iqX5_slimmer_X5 : ∀ w ∈ u_ws RX5 TX5 4, w ∈ wsX5_slimmer := by decide +kernel
theorem iqX5_slimmer_X3 : ∀ w ∈ u_ws RX3 TX3 2, w ∈ wsX5_slimmer := by decide +kernel
theorem iqX5_slimmer_X1 : ∀ w ∈ u_ws RX1 TX1 5, w ∈ wsX5_slimmer := by decide +kernel
set_option maxHeartbeats 1000000 in
set_option maxRecDepth 100000 in
theorem c_X5_slimmer (l : Launch) (G : kG) (z t t2 h x : Nat) (o a1 a2 a3 a4 : Nat) (σ : Sg) (q b1 b2 : Nat) (cv cm : Nat → Nat) (hB : Bd σ) (hv : Bc 100 cv) (hm : Bc 24 cm) : Met l yX5_slimmer wsX5_slimmer ({ frames := 5, cells := 0, slots := 0, locals := 115 } : Room) (cP G [.ref z] (bl [[ob z 5 [.ref t, .ref t2, .ref h, .ref x]], [ob t 3 [.ref o, .ref q]], wS G o a1 a2 a3 a4 σ, wT G q b1 b2 cv cm])) (vp_Si (fun rv => rv = (nI (fb_sm (slmB σ) (nn σ))))) 0 0 (fun _ => False) := by
  refine met_ro (cc := cX5_slimmer) (maxL := 3) (ty := .int) (own := RX5) (by decide) rfl rfl (fun _ _ => rfl) (Nat.le_of_ble_eq_true rfl) ?_
  intro p e s m args below meth cod Q hx hb hml hown hts hK hP hD hret ls hl
  have hl : lv_has ls 3 [(0, .ref z)] := hl
  have h24 := hB.n
  refine lv_iconst (v := (nI 0)) hx hb dX5_slimmer_0 (by decide) ?_
  refine lv_istore_n (lv' := [(1, .int (nI 0)), (0, .ref z)]) hx hb dX5_slimmer_1 rfl hl (by decide) rfl (fun ls hl => ?_)
  refine lv_iconst (v := (nI 0)) hx hb dX5_slimmer_2 (by decide) ?_
  refine lv_istore_n (lv' := [(2, .int (nI 0)), (1, .int (nI 0)), (0, .ref z)]) hx hb dX5_slimmer_3 rfl hl (by decide) rfl (fun ls hl => ?_)
  have L4 : ∀ (fu : Nat) (k9 : Nat) (r : Nat), nn σ + 1 - r < fu → r ≤ nn σ → k9 = fb_sm (slmB σ) r → k9 ≤ r * 16 → ∀ (ls : Array Slot), lv_has ls 3 [(0, .ref z), (1, .int (nI k9)), (2, .int (nI r))] → W p l e ({ frames := 5, cells := 0, slots := 0, locals := 115 } : Room) s m args below meth cod s.heap [] 0 0 Q (F0 m 4 ls []) := by
    intro fu
    induction fu with
    | zero => intro k9 r hm; exact absurd hm (Nat.not_lt_zero _)
    | succ fu ih4 =>
      intro k9 r hm4 hr hk9 hk2 ls hl
      refine lv_iload_n hx hb dX5_slimmer_4 rfl (lv_at hl 2 rfl) ?_
      refine lv_aload_n hx hb dX5_slimmer_5 rfl (lv_at hl 0 rfl) ?_
      refine va_get (D := G.1) (ci := 5) (v := .ref t) (C := RX5) (T := TX5) (N := 4) hx hb hts iqX5_slimmer_X5 hown hK.1 hP 0 rfl rfl 0 (by decide) (hts (.fieldLink RX5 12 "PushedTables" "table" "LPushedTables$Table;") (List.mem_of_getElem? (i := 1) rfl)) (fun _ h9 => h9) rfl dX5_slimmer_6 ?_
      refine va_get (D := G.1) (ci := 3) (v := .ref o) (C := RX3) (T := TX3) (N := 2) hx hb hts iqX5_slimmer_X3 hown hK.1 hP 1 rfl rfl 0 (by decide) (hts (.fieldLink RX5 37 "PushedTables$Table" "state" "LPushedTables$State;") (List.mem_of_getElem? (i := 2) rfl)) (fun _ h9 => h9) rfl dX5_slimmer_9 ?_
      refine va_get (D := G.1) (ci := 1) (v := .int (nI (nn σ))) (C := RX1) (T := TX1) (N := 5) hx hb hts iqX5_slimmer_X1 hown hK.1 hP 2 rfl rfl 0 (by decide) (hts (.fieldLink RX5 41 "PushedTables$State" "rowCount" "I") (List.mem_of_getElem? (i := 3) rfl)) (fun _ h9 => h9) rfl dX5_slimmer_12 ?_
      refine r_icmp_ge (P := (nn σ) ≤ r) (tgt := 38) hx hb dX5_slimmer_15 (by decide) (nI_leI (by omega) (by omega)) (fun cq15 => ?_) (fun cq15 => ?_)
      · refine lv_iload_n hx hb dX5_slimmer_38 rfl (lv_at hl 1 rfl) ?_
        exact hret _ _ _ dX5_slimmer_39 (by have e : r = nn σ := (by omega); rw [hk9, e])
      · refine lv_iload_n hx hb dX5_slimmer_18 rfl (lv_at hl 1 rfl) ?_
        refine lv_aload_n hx hb dX5_slimmer_19 rfl (lv_at hl 0 rfl) ?_
        refine va_get (D := G.1) (ci := 5) (v := .ref t) (C := RX5) (T := TX5) (N := 4) hx hb hts iqX5_slimmer_X5 hown hK.1 hP 0 rfl rfl 0 (by decide) (hts (.fieldLink RX5 12 "PushedTables" "table" "LPushedTables$Table;") (List.mem_of_getElem? (i := 1) rfl)) (fun _ h9 => h9) rfl dX5_slimmer_20 ?_
        refine va_get (D := G.1) (ci := 3) (v := .ref o) (C := RX3) (T := TX3) (N := 2) hx hb hts iqX5_slimmer_X3 hown hK.1 hP 1 rfl rfl 0 (by decide) (hts (.fieldLink RX5 37 "PushedTables$Table" "state" "LPushedTables$State;") (List.mem_of_getElem? (i := 2) rfl)) (fun _ h9 => h9) rfl dX5_slimmer_23 ?_
        refine lv_iload_n hx hb dX5_slimmer_26 rfl (lv_at hl 2 rfl) ?_
        have hPc := bl_sub hP (is := [2]) (bc := [wS G o a1 a2 a3 a4 σ]) rfl
        have hDc := bl_subD hD [2] [wS G o a1 a2 a3 a4 σ] (by decide) rfl
        refine g_ro (k_W (q0 := 0) (ci := 1) (n := 1) (As := [.int (nI r)]) (rest := [.int (nI k9)]) hx hb hml hown hts (c_X1_slimmerBy (l := l) (G := G) (o := o) (a1 := a1) (a2 := a2) (a3 := a3) (a4 := a4) (σ := σ) (r := r) (hB := by first | assumption | omega) (hr := by first | assumption | omega)) gX5_slimmer_X1_slimmerBy rfl rfl rfl (by decide +kernel) ⟨Nat.le_of_ble_eq_true rfl, Nat.le_of_ble_eq_true rfl⟩ rfl hK hPc hDc rfl rfl rfl hl.1 rfl (Nat.le_of_ble_eq_true rfl) dX5_slimmer_27 ⟨Nat.le_of_ble_eq_true rfl, Nat.le_of_ble_eq_true rfl⟩) (fun r27 h27 => ?_)
        obtain rfl : (nI (slmB σ r)) = r27 := Eq.symm h27
        have b27 := slmB_le σ r
        have sl := slmB_le σ r
        refine r_iadd (v := k9 + (slmB σ r)) hx hb dX5_slimmer_30 rfl ?_
        refine lv_istore_n (lv' := [(1, .int (nI (k9 + (slmB σ r)))), (0, .ref z), (2, .int (nI r))]) hx hb dX5_slimmer_31 rfl hl (by decide) rfl (fun ls hl => ?_)
        refine r_iinc (v := r + 1) (lv' := [(2, .int (nI (r + 1))), (1, .int (nI (k9 + (slmB σ r)))), (0, .ref z)]) hx hb dX5_slimmer_32 hl (k := 2) rfl (nI_1 _) (by decide) rfl (fun ls hl => ?_)
        refine lv_goto (tgt := 4) hx hb dX5_slimmer_35 (by decide) ?_
        exact ih4 (k9 + (slmB σ r)) (r + 1) (by omega) (by omega) (by rw [hk9]; rfl) (by omega) ls (lv_sub hl [2, 1, 0] rfl)
  exact L4 ((nn σ + 1 - 0) + 1) 0 0 (Nat.lt_succ_self _) (by omega) (rfl) (by omega) ls (lv_sub hl [2, 1, 0] rfl)

theorem iqX5_cell_ok_X5 : ∀ w ∈ u_ws RX5 TX5 4, w ∈ wsX5_cell := by decide +kernel
theorem iqX5_cell_ok_X3 : ∀ w ∈ u_ws RX3 TX3 2, w ∈ wsX5_cell := by decide +kernel
set_option maxHeartbeats 1000000 in
set_option maxRecDepth 100000 in
theorem c_X5_cell_ok (l : Launch) (G : kG) (z t t2 h x : Nat) (o a1 a2 a3 a4 : Nat) (σ : Sg) (q b1 b2 : Nat) (cv cm : Nat → Nat) (hB : Bd σ) (hv : Bc 100 cv) (hm : Bc 24 cm) (k w : Nat) (hk : k < 800) (hw : w ≤ 1) : Met l yX5_cell wsX5_cell ({ frames := 2, cells := 0, slots := 0, locals := 42 } : Room) (cP G [.ref z, .int (nI k), .int (nI w)] (bl [[ob z 5 [.ref t, .ref t2, .ref h, .ref x]], [ob t 3 [.ref o, .ref q]], wS G o a1 a2 a3 a4 σ, wT G q b1 b2 cv cm])) (vp_Si (fun rv => rv = (e9 (if w = 0 then cv k else cm k)))) 0 0 (fun _ => False) := by
  refine met_ro (cc := cX5_cell) (maxL := 3) (ty := .int) (own := RX5) (by decide) rfl rfl (fun _ _ => rfl) (Nat.le_of_ble_eq_true rfl) ?_
  intro p e s m args below meth cod Q hx hb hml hown hts hK hP hD hret ls hl
  have hl : lv_has ls 3 [(0, .ref z), (1, .int (nI k)), (2, .int (nI w))] := hl
  refine lv_iload_n hx hb dX5_cell_0 rfl (lv_at hl 1 rfl) ?_
  refine r_if_lt (P := False) (tgt := 20) hx hb dX5_cell_1 (by decide) (nI_lt0 (by omega)) (fun cq1 => ?_) (fun cq1 => ?_)
  · exact cq1.elim
  · refine lv_iload_n hx hb dX5_cell_4 rfl (lv_at hl 1 rfl) ?_
    refine lv_sipush (v := (nI 800)) hx hb dX5_cell_5 (by decide) ?_
    refine r_icmp_ge (P := 800 ≤ k) (tgt := 20) hx hb dX5_cell_8 (by decide) (nI_leI (by omega) (by omega)) (fun cq8 => ?_) (fun cq8 => ?_)
    · exact absurd cq8 (by omega)
    · refine lv_iload_n hx hb dX5_cell_11 rfl (lv_at hl 2 rfl) ?_
      refine r_if_lt (P := False) (tgt := 20) hx hb dX5_cell_12 (by decide) (nI_lt0 (by omega)) (fun cq12 => ?_) (fun cq12 => ?_)
      · exact cq12.elim
      · refine lv_iload_n hx hb dX5_cell_15 rfl (lv_at hl 2 rfl) ?_
        refine lv_iconst (v := (nI 1)) hx hb dX5_cell_16 (by decide) ?_
        refine r_icmp_le (P := w ≤ 1) (tgt := 22) hx hb dX5_cell_17 (by decide) (nI_leI (by omega) (by omega)) (fun cq17 => ?_) (fun cq17 => ?_)
        · refine lv_iload_n hx hb dX5_cell_22 rfl (lv_at hl 2 rfl) ?_
          refine r_if_ne (P := w = 0) (tgt := 40) hx hb dX5_cell_23 (by decide) (nI_eq0 (by omega)) (fun cq23 => ?_) (fun cq23 => ?_)
          · refine lv_aload_n hx hb dX5_cell_40 rfl (lv_at hl 0 rfl) ?_
            refine va_get (D := G.1) (ci := 5) (v := .ref t) (C := RX5) (T := TX5) (N := 4) hx hb hts iqX5_cell_ok_X5 hown hK.1 hP 0 rfl rfl 0 (by decide) (hts (.fieldLink RX5 12 "PushedTables" "table" "LPushedTables$Table;") (List.mem_of_getElem? (i := 1) rfl)) (fun _ h9 => h9) rfl dX5_cell_41 ?_
            refine va_get (D := G.1) (ci := 3) (v := .ref q) (C := RX3) (T := TX3) (N := 2) hx hb hts iqX5_cell_ok_X3 hown hK.1 hP 1 rfl rfl 1 (by decide) (hts (.fieldLink RX5 92 "PushedTables$Table" "store" "LPushedTables$Store;") (List.mem_of_getElem? (i := 2) rfl)) (fun _ h9 => h9) rfl dX5_cell_44 ?_
            refine lv_iload_n hx hb dX5_cell_47 rfl (lv_at hl 1 rfl) ?_
            have hPc := bl_sub hP (is := [3]) (bc := [wT G q b1 b2 cv cm]) rfl
            have hDc := bl_subD hD [3] [wT G q b1 b2 cv cm] (by decide) rfl
            refine g_ro (k_W (q0 := 0) (ci := 2) (n := 1) (As := [.int (nI k)]) (rest := []) hx hb hml hown hts (c_X2_markAt (l := l) (G := G) (q := q) (b1 := b1) (b2 := b2) (cv := cv) (cm := cm) (k := k) (hm := by first | assumption | omega) (hk := by first | assumption | omega)) gX5_cell_X2_markAt rfl rfl rfl (by decide +kernel) ⟨Nat.le_of_ble_eq_true rfl, Nat.le_of_ble_eq_true rfl⟩ rfl hK hPc hDc rfl rfl rfl hl.1 rfl (Nat.le_of_ble_eq_true rfl) dX5_cell_48 ⟨Nat.le_of_ble_eq_true rfl, Nat.le_of_ble_eq_true rfl⟩) (fun r48 h48 => ?_)
            obtain rfl : (e9 (cm k)) = r48 := Eq.symm h48
            have b48 := Bc.at (by assumption : Bc 24 cm) k
            exact hret _ _ _ dX5_cell_51 (by rw [if_neg cq23])
          · refine lv_aload_n hx hb dX5_cell_26 rfl (lv_at hl 0 rfl) ?_
            refine va_get (D := G.1) (ci := 5) (v := .ref t) (C := RX5) (T := TX5) (N := 4) hx hb hts iqX5_cell_ok_X5 hown hK.1 hP 0 rfl rfl 0 (by decide) (hts (.fieldLink RX5 12 "PushedTables" "table" "LPushedTables$Table;") (List.mem_of_getElem? (i := 1) rfl)) (fun _ h9 => h9) rfl dX5_cell_27 ?_
            refine va_get (D := G.1) (ci := 3) (v := .ref q) (C := RX3) (T := TX3) (N := 2) hx hb hts iqX5_cell_ok_X3 hown hK.1 hP 1 rfl rfl 1 (by decide) (hts (.fieldLink RX5 92 "PushedTables$Table" "store" "LPushedTables$Store;") (List.mem_of_getElem? (i := 2) rfl)) (fun _ h9 => h9) rfl dX5_cell_30 ?_
            refine lv_iload_n hx hb dX5_cell_33 rfl (lv_at hl 1 rfl) ?_
            have hPc := bl_sub hP (is := [3]) (bc := [wT G q b1 b2 cv cm]) rfl
            have hDc := bl_subD hD [3] [wT G q b1 b2 cv cm] (by decide) rfl
            refine g_ro (k_W (q0 := 0) (ci := 2) (n := 1) (As := [.int (nI k)]) (rest := []) hx hb hml hown hts (c_X2_valueAt (l := l) (G := G) (q := q) (b1 := b1) (b2 := b2) (cv := cv) (cm := cm) (k := k) (hv := by first | assumption | omega) (hk := by first | assumption | omega)) gX5_cell_X2_valueAt rfl rfl rfl (by decide +kernel) ⟨Nat.le_of_ble_eq_true rfl, Nat.le_of_ble_eq_true rfl⟩ rfl hK hPc hDc rfl rfl rfl hl.1 rfl (Nat.le_of_ble_eq_true rfl) dX5_cell_34 ⟨Nat.le_of_ble_eq_true rfl, Nat.le_of_ble_eq_true rfl⟩) (fun r34 h34 => ?_)
            obtain rfl : (e9 (cv k)) = r34 := Eq.symm h34
            have b34 := Bc.at (by assumption : Bc 100 cv) k
            refine lv_goto (tgt := 51) hx hb dX5_cell_37 (by decide) ?_
            exact hret _ _ _ dX5_cell_51 (by rw [if_pos cq23])
        · exact absurd hw cq17

def fmF (σ : Sg) (cm : Nat → Nat) (f w : Nat) : Int32 := if shf σ f = 1000 ∨ w = 0 then e9 (shf σ f) else if w = 1 then nI (shr σ f) else nI (wcnt cm f (shf σ f))
theorem iqX5_form_ok_X5 : ∀ w ∈ u_ws RX5 TX5 4, w ∈ wsX5_form := by decide +kernel
theorem iqX5_form_ok_X3 : ∀ w ∈ u_ws RX3 TX3 2, w ∈ wsX5_form := by decide +kernel
set_option maxHeartbeats 1000000 in
set_option maxRecDepth 100000 in
theorem c_X5_form_ok (l : Launch) (G : kG) (z t t2 h x : Nat) (o a1 a2 a3 a4 : Nat) (σ : Sg) (q b1 b2 : Nat) (cv cm : Nat → Nat) (hB : Bd σ) (hv : Bc 100 cv) (hm : Bc 24 cm) (f w : Nat) (hf : f < 24) (hw : w ≤ 2) : Met l yX5_form wsX5_form ({ frames := 3, cells := 0, slots := 0, locals := 66 } : Room) (cP G [.ref z, .int (nI f), .int (nI w)] (bl [[ob z 5 [.ref t, .ref t2, .ref h, .ref x]], [ob t 3 [.ref o, .ref q]], wS G o a1 a2 a3 a4 σ, wT G q b1 b2 cv cm])) (vp_Si (fun rv => rv = (fmF σ cm f w))) 0 0 (fun _ => False) := by
  refine met_ro (cc := cX5_form) (maxL := 4) (ty := .int) (own := RX5) (by decide) rfl rfl (fun _ _ => rfl) (Nat.le_of_ble_eq_true rfl) ?_
  intro p e s m args below meth cod Q hx hb hml hown hts hK hP hD hret ls hl
  have hl : lv_has ls 4 [(0, .ref z), (1, .int (nI f)), (2, .int (nI w))] := hl
  refine lv_iload_n hx hb dX5_form_0 rfl (lv_at hl 1 rfl) ?_
  refine r_if_lt (P := False) (tgt := 19) hx hb dX5_form_1 (by decide) (nI_lt0 (by omega)) (fun cq1 => ?_) (fun cq1 => ?_)
  · exact cq1.elim
  · refine lv_iload_n hx hb dX5_form_4 rfl (lv_at hl 1 rfl) ?_
    refine lv_bipush (v := (nI 24)) hx hb dX5_form_5 (by decide) ?_
    refine r_icmp_ge (P := 24 ≤ f) (tgt := 19) hx hb dX5_form_7 (by decide) (nI_leI (by omega) (by omega)) (fun cq7 => ?_) (fun cq7 => ?_)
    · exact absurd cq7 (by omega)
    · refine lv_iload_n hx hb dX5_form_10 rfl (lv_at hl 2 rfl) ?_
      refine r_if_lt (P := False) (tgt := 19) hx hb dX5_form_11 (by decide) (nI_lt0 (by omega)) (fun cq11 => ?_) (fun cq11 => ?_)
      · exact cq11.elim
      · refine lv_iload_n hx hb dX5_form_14 rfl (lv_at hl 2 rfl) ?_
        refine lv_iconst (v := (nI 2)) hx hb dX5_form_15 (by decide) ?_
        refine r_icmp_le (P := w ≤ 2) (tgt := 21) hx hb dX5_form_16 (by decide) (nI_leI (by omega) (by omega)) (fun cq16 => ?_) (fun cq16 => ?_)
        · refine lv_aload_n hx hb dX5_form_21 rfl (lv_at hl 0 rfl) ?_
          refine va_get (D := G.1) (ci := 5) (v := .ref t) (C := RX5) (T := TX5) (N := 4) hx hb hts iqX5_form_ok_X5 hown hK.1 hP 0 rfl rfl 0 (by decide) (hts (.fieldLink RX5 12 "PushedTables" "table" "LPushedTables$Table;") (List.mem_of_getElem? (i := 1) rfl)) (fun _ h9 => h9) rfl dX5_form_22 ?_
          refine va_get (D := G.1) (ci := 3) (v := .ref o) (C := RX3) (T := TX3) (N := 2) hx hb hts iqX5_form_ok_X3 hown hK.1 hP 1 rfl rfl 0 (by decide) (hts (.fieldLink RX5 37 "PushedTables$Table" "state" "LPushedTables$State;") (List.mem_of_getElem? (i := 2) rfl)) (fun _ h9 => h9) rfl dX5_form_25 ?_
          refine lv_iload_n hx hb dX5_form_28 rfl (lv_at hl 1 rfl) ?_
          have hPc := bl_sub hP (is := [2]) (bc := [wS G o a1 a2 a3 a4 σ]) rfl
          have hDc := bl_subD hD [2] [wS G o a1 a2 a3 a4 σ] (by decide) rfl
          refine g_ro (k_W (q0 := 0) (ci := 1) (n := 1) (As := [.int (nI f)]) (rest := []) hx hb hml hown hts (c_X1_shiftOf (l := l) (G := G) (o := o) (a1 := a1) (a2 := a2) (a3 := a3) (a4 := a4) (σ := σ) (f := f) (xf := (nI f)) (hxf := (e9_n (by omega)).symm) (hB := by first | assumption | omega) (hf := Or.inl hf)) gX5_form_X1_shiftOf rfl rfl rfl (by decide +kernel) ⟨Nat.le_of_ble_eq_true rfl, Nat.le_of_ble_eq_true rfl⟩ rfl hK hPc hDc rfl rfl rfl hl.1 rfl (Nat.le_of_ble_eq_true rfl) dX5_form_29 ⟨Nat.le_of_ble_eq_true rfl, Nat.le_of_ble_eq_true rfl⟩) (fun r29 h29 => ?_)
          obtain rfl : (e9 (shf σ f)) = r29 := Eq.symm h29
          have b29 := shf_le (by assumption : Bd σ) f
          refine lv_istore_n (lv' := [(3, .int (e9 (shf σ f))), (0, .ref z), (1, .int (nI f)), (2, .int (nI w))]) hx hb dX5_form_32 rfl hl (by decide) rfl (fun ls hl => ?_)
          refine lv_iload_n hx hb dX5_form_33 rfl (lv_at hl 0 rfl) ?_
          refine lv_bipush (v := (e9 1000)) hx hb dX5_form_34 (by decide) ?_
          refine r_icmp_eq (P := (shf σ f) = 1000) (tgt := 43) hx hb dX5_form_36 (by decide) (e9_inj (by omega) (by omega)) (fun cq36 => ?_) (fun cq36 => ?_)
          · refine lv_iload_n hx hb dX5_form_43 rfl (lv_at hl 0 rfl) ?_
            exact hret _ _ _ dX5_form_44 (by unfold fmF; rw [if_pos (Or.inl cq36)])
          · refine lv_iload_n hx hb dX5_form_39 rfl (lv_at hl 3 rfl) ?_
            refine r_if_ne (P := w = 0) (tgt := 45) hx hb dX5_form_40 (by decide) (nI_eq0 (by omega)) (fun cq40 => ?_) (fun cq40 => ?_)
            · have s36 := shf_le hB f
              refine lv_iload_n hx hb dX5_form_45 rfl (lv_at hl 3 rfl) ?_
              refine lv_iconst (v := (nI 1)) hx hb dX5_form_46 (by decide) ?_
              refine r_icmp_ne (P := w = 1) (tgt := 64) hx hb dX5_form_47 (by decide) (nI_eq (by omega) (by omega)) (fun cq47 => ?_) (fun cq47 => ?_)
              · refine lv_aload_n hx hb dX5_form_64 rfl (lv_at hl 1 rfl) ?_
                refine va_get (D := G.1) (ci := 5) (v := .ref t) (C := RX5) (T := TX5) (N := 4) hx hb hts iqX5_form_ok_X5 hown hK.1 hP 0 rfl rfl 0 (by decide) (hts (.fieldLink RX5 12 "PushedTables" "table" "LPushedTables$Table;") (List.mem_of_getElem? (i := 1) rfl)) (fun _ h9 => h9) rfl dX5_form_65 ?_
                refine va_get (D := G.1) (ci := 3) (v := .ref q) (C := RX3) (T := TX3) (N := 2) hx hb hts iqX5_form_ok_X3 hown hK.1 hP 1 rfl rfl 1 (by decide) (hts (.fieldLink RX5 92 "PushedTables$Table" "store" "LPushedTables$Store;") (List.mem_of_getElem? (i := 3) rfl)) (fun _ h9 => h9) rfl dX5_form_68 ?_
                refine lv_iload_n hx hb dX5_form_71 rfl (lv_at hl 2 rfl) ?_
                refine lv_iload_n hx hb dX5_form_72 rfl (lv_at hl 0 rfl) ?_
                have hPc := bl_sub hP (is := [3]) (bc := [wT G q b1 b2 cv cm]) rfl
                have hDc := bl_subD hD [3] [wT G q b1 b2 cv cm] (by decide) rfl
                refine g_ro (k_W (q0 := 0) (ci := 2) (n := 2) (As := [.int (nI f), .int (e9 (shf σ f))]) (rest := []) hx hb hml hown hts (c_X2_filledOf (l := l) (G := G) (q := q) (b1 := b1) (b2 := b2) (cv := cv) (cm := cm) (f := f) (s1 := shf σ f) (xf := (nI f)) (xs1 := (e9 (shf σ f))) (hxf := (e9_n (by omega)).symm) (hxs1 := e9_n (by omega)) (hv := by first | assumption | omega) (hm := by first | assumption | omega) (hf := Or.inl hf) (hs := by first | assumption | omega)) gX5_form_X2_filledOf rfl rfl rfl (by decide +kernel) ⟨Nat.le_of_ble_eq_true rfl, Nat.le_of_ble_eq_true rfl⟩ rfl hK hPc hDc rfl rfl rfl hl.1 rfl (Nat.le_of_ble_eq_true rfl) dX5_form_73 ⟨Nat.le_of_ble_eq_true rfl, Nat.le_of_ble_eq_true rfl⟩) (fun r73 h73 => ?_)
                obtain rfl : (nI (wcnt cm f (shf σ f))) = r73 := Eq.symm h73
                have b73 := wcnt_le cm f (shf σ f)
                exact hret _ _ _ dX5_form_76 (by unfold fmF; rw [if_neg (fun z => z.elim cq36 cq40), if_neg cq47])
              · refine lv_aload_n hx hb dX5_form_50 rfl (lv_at hl 1 rfl) ?_
                refine va_get (D := G.1) (ci := 5) (v := .ref t) (C := RX5) (T := TX5) (N := 4) hx hb hts iqX5_form_ok_X5 hown hK.1 hP 0 rfl rfl 0 (by decide) (hts (.fieldLink RX5 12 "PushedTables" "table" "LPushedTables$Table;") (List.mem_of_getElem? (i := 1) rfl)) (fun _ h9 => h9) rfl dX5_form_51 ?_
                refine va_get (D := G.1) (ci := 3) (v := .ref o) (C := RX3) (T := TX3) (N := 2) hx hb hts iqX5_form_ok_X3 hown hK.1 hP 1 rfl rfl 0 (by decide) (hts (.fieldLink RX5 37 "PushedTables$Table" "state" "LPushedTables$State;") (List.mem_of_getElem? (i := 2) rfl)) (fun _ h9 => h9) rfl dX5_form_54 ?_
                refine lv_iload_n hx hb dX5_form_57 rfl (lv_at hl 2 rfl) ?_
                have hPc := bl_sub hP (is := [2]) (bc := [wS G o a1 a2 a3 a4 σ]) rfl
                have hDc := bl_subD hD [2] [wS G o a1 a2 a3 a4 σ] (by decide) rfl
                refine g_ro (k_W (q0 := 0) (ci := 1) (n := 1) (As := [.int (nI f)]) (rest := []) hx hb hml hown hts (c_X1_sharersOf (l := l) (G := G) (o := o) (a1 := a1) (a2 := a2) (a3 := a3) (a4 := a4) (σ := σ) (f := f) (xf := (nI f)) (hxf := (e9_n (by omega)).symm) (hB := by first | assumption | omega) (hf := Or.inl hf)) gX5_form_X1_sharersOf rfl rfl rfl (by decide +kernel) ⟨Nat.le_of_ble_eq_true rfl, Nat.le_of_ble_eq_true rfl⟩ rfl hK hPc hDc rfl rfl rfl hl.1 rfl (Nat.le_of_ble_eq_true rfl) dX5_form_58 ⟨Nat.le_of_ble_eq_true rfl, Nat.le_of_ble_eq_true rfl⟩) (fun r58 h58 => ?_)
                obtain rfl : (nI (shr σ f)) = r58 := Eq.symm h58
                have b58 := shr_le (by assumption : Bd σ) f
                refine lv_goto (tgt := 76) hx hb dX5_form_61 (by decide) ?_
                exact hret _ _ _ dX5_form_76 (by unfold fmF; rw [if_neg (fun z => z.elim cq36 cq40), if_pos cq47])
            · refine lv_iload_n hx hb dX5_form_43 rfl (lv_at hl 0 rfl) ?_
              exact hret _ _ _ dX5_form_44 (by unfold fmF; rw [if_pos (Or.inr cq40)])
        · exact absurd hw cq16

def rwF (σ : Sg) (r w : Nat) : Int32 := if w = 0 then nI (dd σ r) else if w = 1 then nI (wt σ r) else if w = 2 then e9 (ff σ r) else if w = 3 then e9 (shf σ (ff σ r)) else nI (cols σ r)
theorem iqX5_row_ok_X5 : ∀ w ∈ u_ws RX5 TX5 4, w ∈ wsX5_row := by decide +kernel
theorem iqX5_row_ok_X3 : ∀ w ∈ u_ws RX3 TX3 2, w ∈ wsX5_row := by decide +kernel
set_option maxHeartbeats 1000000 in
set_option maxRecDepth 100000 in
theorem c_X5_row_ok (l : Launch) (G : kG) (z t t2 h x : Nat) (o a1 a2 a3 a4 : Nat) (σ : Sg) (q b1 b2 : Nat) (cv cm : Nat → Nat) (hB : Bd σ) (hv : Bc 100 cv) (hm : Bc 24 cm) (r w : Nat) (hr : r < nn σ) (hw : w ≤ 4) : Met l yX5_row wsX5_row ({ frames := 4, cells := 0, slots := 0, locals := 87 } : Room) (cP G [.ref z, .int (nI r), .int (nI w)] (bl [[ob z 5 [.ref t, .ref t2, .ref h, .ref x]], [ob t 3 [.ref o, .ref q]], wS G o a1 a2 a3 a4 σ, wT G q b1 b2 cv cm])) (vp_Si (fun rv => rv = (rwF σ r w))) 0 0 (fun _ => False) := by
  refine met_ro (cc := cX5_row) (maxL := 3) (ty := .int) (own := RX5) (by decide) rfl rfl (fun _ _ => rfl) (Nat.le_of_ble_eq_true rfl) ?_
  intro p e s m args below meth cod Q hx hb hml hown hts hK hP hD hret ls hl
  have hl : lv_has ls 3 [(0, .ref z), (1, .int (nI r)), (2, .int (nI w))] := hl
  have h24 := hB.n
  have hwi := nI_toInt (n := w) (by omega)
  refine lv_aload_n hx hb dX5_row_0 rfl (lv_at hl 0 rfl) ?_
  refine lv_iload_n hx hb dX5_row_1 rfl (lv_at hl 1 rfl) ?_
  refine g_ro (k_V (q0 := 0) (ci := 5) (n := 1) (As := [.int (nI r)]) (rest := []) (wc := [ob z 5 [.ref t, .ref t2, .ref h, .ref x], ob t 3 [.ref o, .ref q], ob o 1 [.int (nI (nn σ)), .ref a1, .ref a2, .ref a3, .ref a4]]) hx hb hml hown hts (c_X5_isRow (l := l) (G := G) (z := z) (t := t) (t2 := t2) (h := h) (x := x) (o := o) (a1 := a1) (a2 := a2) (a3 := a3) (a4 := a4) (q := q) (n0 := nn σ) (xa := nI r) (hn := by first | assumption | omega))  gX5_row_X5_isRow rfl rfl rfl (by decide +kernel) ⟨Nat.le_of_ble_eq_true rfl, Nat.le_of_ble_eq_true rfl⟩ rfl hK hP hD [0, 1, 2] rfl (by decide)  rfl rfl rfl hl.1 rfl (Nat.le_of_ble_eq_true rfl) dX5_row_2 ⟨Nat.le_of_ble_eq_true rfl, Nat.le_of_ble_eq_true rfl⟩) (fun r2 h2 => ?_)
  obtain rfl : (bI (inr (nI r) 0 (((nn σ) : Int) - 1))) = r2 := Eq.symm h2
  refine r_if_ne (P := (inr (nI r) 0 (((nn σ) : Int) - 1)) = false) (tgt := 10) hx hb dX5_row_5 (by decide) (bI_eq0) (fun cq5 => ?_) (fun cq5 => ?_)
  · refine lv_iload_n hx hb dX5_row_10 rfl (lv_at hl 2 rfl) ?_
    rcases (show (nI w).toInt < 0 ∨ 0 ≤ (nI w).toInt by omega) with cq11 | cq11
    · refine lv_tableOut (tgt := 114) hx hb dX5_row_11 (Or.inl cq11) (by decide) ?_
      refine lv_iconst (v := (-1)) hx hb dX5_row_114 (by decide) ?_
      exact hret _ _ _ dX5_row_115 (by exfalso; omega)
    rcases (show 4 < (nI w).toInt ∨ (nI w).toInt ≤ 4 by omega) with dq11 | dq11
    · refine lv_tableOut (tgt := 114) hx hb dX5_row_11 (Or.inr dq11) (by decide) ?_
      refine lv_iconst (v := (-1)) hx hb dX5_row_114 (by decide) ?_
      exact hret _ _ _ dX5_row_115 (by exfalso; omega)
    have sw11 : (nI w).toInt = 0 ∨ (nI w).toInt = 1 ∨ (nI w).toInt = 2 ∨ (nI w).toInt = 3 ∨ (nI w).toInt = 4 := by omega
    rcases sw11 with sw11 | sw11 | sw11 | sw11 | sw11
    · refine lv_tableIn (off := 33) (tgt := 44) hx hb dX5_row_11 (by omega) (by omega) (by rw [sw11]; rfl) (by decide) ?_
      have ew : w = 0 := (by rw [nI_toInt (by omega)] at sw11; omega)
      subst ew
      refine lv_aload_n hx hb dX5_row_44 rfl (lv_at hl 0 rfl) ?_
      refine va_get (D := G.1) (ci := 5) (v := .ref t) (C := RX5) (T := TX5) (N := 4) hx hb hts iqX5_row_ok_X5 hown hK.1 hP 0 rfl rfl 0 (by decide) (hts (.fieldLink RX5 12 "PushedTables" "table" "LPushedTables$Table;") (List.mem_of_getElem? (i := 1) rfl)) (fun _ h9 => h9) rfl dX5_row_45 ?_
      refine va_get (D := G.1) (ci := 3) (v := .ref o) (C := RX3) (T := TX3) (N := 2) hx hb hts iqX5_row_ok_X3 hown hK.1 hP 1 rfl rfl 0 (by decide) (hts (.fieldLink RX5 37 "PushedTables$Table" "state" "LPushedTables$State;") (List.mem_of_getElem? (i := 2) rfl)) (fun _ h9 => h9) rfl dX5_row_48 ?_
      refine lv_iload_n hx hb dX5_row_51 rfl (lv_at hl 1 rfl) ?_
      have hPc := bl_sub hP (is := [2]) (bc := [wS G o a1 a2 a3 a4 σ]) rfl
      have hDc := bl_subD hD [2] [wS G o a1 a2 a3 a4 σ] (by decide) rfl
      refine g_ro (k_W (q0 := 0) (ci := 1) (n := 1) (As := [.int (nI r)]) (rest := []) hx hb hml hown hts (c_X1_defaultOf (l := l) (G := G) (o := o) (a1 := a1) (a2 := a2) (a3 := a3) (a4 := a4) (σ := σ) (r := r) (hB := by first | assumption | omega) (hr := by first | assumption | omega)) gX5_row_X1_defaultOf rfl rfl rfl (by decide +kernel) ⟨Nat.le_of_ble_eq_true rfl, Nat.le_of_ble_eq_true rfl⟩ rfl hK hPc hDc rfl rfl rfl hl.1 rfl (Nat.le_of_ble_eq_true rfl) dX5_row_52 ⟨Nat.le_of_ble_eq_true rfl, Nat.le_of_ble_eq_true rfl⟩) (fun r52 h52 => ?_)
      obtain rfl : (nI (dd σ r)) = r52 := Eq.symm h52
      have b52 := Bd.d (by assumption : Bd σ) r
      exact hret _ _ _ dX5_row_55 (rfl)
    · refine lv_tableIn (off := 45) (tgt := 56) hx hb dX5_row_11 (by omega) (by omega) (by rw [sw11]; rfl) (by decide) ?_
      have ew : w = 1 := (by rw [nI_toInt (by omega)] at sw11; omega)
      subst ew
      refine lv_aload_n hx hb dX5_row_56 rfl (lv_at hl 0 rfl) ?_
      refine va_get (D := G.1) (ci := 5) (v := .ref t) (C := RX5) (T := TX5) (N := 4) hx hb hts iqX5_row_ok_X5 hown hK.1 hP 0 rfl rfl 0 (by decide) (hts (.fieldLink RX5 12 "PushedTables" "table" "LPushedTables$Table;") (List.mem_of_getElem? (i := 1) rfl)) (fun _ h9 => h9) rfl dX5_row_57 ?_
      refine va_get (D := G.1) (ci := 3) (v := .ref o) (C := RX3) (T := TX3) (N := 2) hx hb hts iqX5_row_ok_X3 hown hK.1 hP 1 rfl rfl 0 (by decide) (hts (.fieldLink RX5 37 "PushedTables$Table" "state" "LPushedTables$State;") (List.mem_of_getElem? (i := 2) rfl)) (fun _ h9 => h9) rfl dX5_row_60 ?_
      refine lv_iload_n hx hb dX5_row_63 rfl (lv_at hl 1 rfl) ?_
      have hPc := bl_sub hP (is := [2]) (bc := [wS G o a1 a2 a3 a4 σ]) rfl
      have hDc := bl_subD hD [2] [wS G o a1 a2 a3 a4 σ] (by decide) rfl
      refine g_ro (k_W (q0 := 0) (ci := 1) (n := 1) (As := [.int (nI r)]) (rest := []) hx hb hml hown hts (c_X1_weightOf (l := l) (G := G) (o := o) (a1 := a1) (a2 := a2) (a3 := a3) (a4 := a4) (σ := σ) (r := r) (hB := by first | assumption | omega) (hr := by first | assumption | omega)) gX5_row_X1_weightOf rfl rfl rfl (by decide +kernel) ⟨Nat.le_of_ble_eq_true rfl, Nat.le_of_ble_eq_true rfl⟩ rfl hK hPc hDc rfl rfl rfl hl.1 rfl (Nat.le_of_ble_eq_true rfl) dX5_row_64 ⟨Nat.le_of_ble_eq_true rfl, Nat.le_of_ble_eq_true rfl⟩) (fun r64 h64 => ?_)
      obtain rfl : (nI (wt σ r)) = r64 := Eq.symm h64
      have b64 := wt_le σ r
      exact hret _ _ _ dX5_row_67 (rfl)
    · refine lv_tableIn (off := 57) (tgt := 68) hx hb dX5_row_11 (by omega) (by omega) (by rw [sw11]; rfl) (by decide) ?_
      have ew : w = 2 := (by rw [nI_toInt (by omega)] at sw11; omega)
      subst ew
      refine lv_aload_n hx hb dX5_row_68 rfl (lv_at hl 0 rfl) ?_
      refine va_get (D := G.1) (ci := 5) (v := .ref t) (C := RX5) (T := TX5) (N := 4) hx hb hts iqX5_row_ok_X5 hown hK.1 hP 0 rfl rfl 0 (by decide) (hts (.fieldLink RX5 12 "PushedTables" "table" "LPushedTables$Table;") (List.mem_of_getElem? (i := 1) rfl)) (fun _ h9 => h9) rfl dX5_row_69 ?_
      refine va_get (D := G.1) (ci := 3) (v := .ref o) (C := RX3) (T := TX3) (N := 2) hx hb hts iqX5_row_ok_X3 hown hK.1 hP 1 rfl rfl 0 (by decide) (hts (.fieldLink RX5 37 "PushedTables$Table" "state" "LPushedTables$State;") (List.mem_of_getElem? (i := 2) rfl)) (fun _ h9 => h9) rfl dX5_row_72 ?_
      refine lv_iload_n hx hb dX5_row_75 rfl (lv_at hl 1 rfl) ?_
      have hPc := bl_sub hP (is := [2]) (bc := [wS G o a1 a2 a3 a4 σ]) rfl
      have hDc := bl_subD hD [2] [wS G o a1 a2 a3 a4 σ] (by decide) rfl
      refine g_ro (k_W (q0 := 0) (ci := 1) (n := 1) (As := [.int (nI r)]) (rest := []) hx hb hml hown hts (c_X1_formOf (l := l) (G := G) (o := o) (a1 := a1) (a2 := a2) (a3 := a3) (a4 := a4) (σ := σ) (r := r) (hB := by first | assumption | omega) (hr := by first | assumption | omega)) gX5_row_X1_formOf rfl rfl rfl (by decide +kernel) ⟨Nat.le_of_ble_eq_true rfl, Nat.le_of_ble_eq_true rfl⟩ rfl hK hPc hDc rfl rfl rfl hl.1 rfl (Nat.le_of_ble_eq_true rfl) dX5_row_76 ⟨Nat.le_of_ble_eq_true rfl, Nat.le_of_ble_eq_true rfl⟩) (fun r76 h76 => ?_)
      obtain rfl : (e9 (ff σ r)) = r76 := Eq.symm h76
      have b76 := Bd.f (by assumption : Bd σ) r
      exact hret _ _ _ dX5_row_79 (rfl)
    · refine lv_tableIn (off := 69) (tgt := 80) hx hb dX5_row_11 (by omega) (by omega) (by rw [sw11]; rfl) (by decide) ?_
      have ew : w = 3 := (by rw [nI_toInt (by omega)] at sw11; omega)
      subst ew
      refine lv_aload_n hx hb dX5_row_80 rfl (lv_at hl 0 rfl) ?_
      refine va_get (D := G.1) (ci := 5) (v := .ref t) (C := RX5) (T := TX5) (N := 4) hx hb hts iqX5_row_ok_X5 hown hK.1 hP 0 rfl rfl 0 (by decide) (hts (.fieldLink RX5 12 "PushedTables" "table" "LPushedTables$Table;") (List.mem_of_getElem? (i := 1) rfl)) (fun _ h9 => h9) rfl dX5_row_81 ?_
      refine va_get (D := G.1) (ci := 3) (v := .ref o) (C := RX3) (T := TX3) (N := 2) hx hb hts iqX5_row_ok_X3 hown hK.1 hP 1 rfl rfl 0 (by decide) (hts (.fieldLink RX5 37 "PushedTables$Table" "state" "LPushedTables$State;") (List.mem_of_getElem? (i := 2) rfl)) (fun _ h9 => h9) rfl dX5_row_84 ?_
      refine lv_aload_n hx hb dX5_row_87 rfl (lv_at hl 0 rfl) ?_
      refine va_get (D := G.1) (ci := 5) (v := .ref t) (C := RX5) (T := TX5) (N := 4) hx hb hts iqX5_row_ok_X5 hown hK.1 hP 0 rfl rfl 0 (by decide) (hts (.fieldLink RX5 12 "PushedTables" "table" "LPushedTables$Table;") (List.mem_of_getElem? (i := 1) rfl)) (fun _ h9 => h9) rfl dX5_row_88 ?_
      refine va_get (D := G.1) (ci := 3) (v := .ref o) (C := RX3) (T := TX3) (N := 2) hx hb hts iqX5_row_ok_X3 hown hK.1 hP 1 rfl rfl 0 (by decide) (hts (.fieldLink RX5 37 "PushedTables$Table" "state" "LPushedTables$State;") (List.mem_of_getElem? (i := 2) rfl)) (fun _ h9 => h9) rfl dX5_row_91 ?_
      refine lv_iload_n hx hb dX5_row_94 rfl (lv_at hl 1 rfl) ?_
      have hPc := bl_sub hP (is := [2]) (bc := [wS G o a1 a2 a3 a4 σ]) rfl
      have hDc := bl_subD hD [2] [wS G o a1 a2 a3 a4 σ] (by decide) rfl
      refine g_ro (k_W (q0 := 0) (ci := 1) (n := 1) (As := [.int (nI r)]) (rest := [.ref o]) hx hb hml hown hts (c_X1_formOf (l := l) (G := G) (o := o) (a1 := a1) (a2 := a2) (a3 := a3) (a4 := a4) (σ := σ) (r := r) (hB := by first | assumption | omega) (hr := by first | assumption | omega)) gX5_row_X1_formOf rfl rfl rfl (by decide +kernel) ⟨Nat.le_of_ble_eq_true rfl, Nat.le_of_ble_eq_true rfl⟩ rfl hK hPc hDc rfl rfl rfl hl.1 rfl (Nat.le_of_ble_eq_true rfl) dX5_row_95 ⟨Nat.le_of_ble_eq_true rfl, Nat.le_of_ble_eq_true rfl⟩) (fun r95 h95 => ?_)
      obtain rfl : (e9 (ff σ r)) = r95 := Eq.symm h95
      have b95 := Bd.f (by assumption : Bd σ) r
      have hPc := bl_sub hP (is := [2]) (bc := [wS G o a1 a2 a3 a4 σ]) rfl
      have hDc := bl_subD hD [2] [wS G o a1 a2 a3 a4 σ] (by decide) rfl
      refine g_ro (k_W (q0 := 0) (ci := 1) (n := 1) (As := [.int (e9 (ff σ r))]) (rest := []) hx hb hml hown hts (c_X1_shiftOf (l := l) (G := G) (o := o) (a1 := a1) (a2 := a2) (a3 := a3) (a4 := a4) (σ := σ) (f := ff σ r) (xf := (e9 (ff σ r))) (hxf := rfl) (hB := by first | assumption | omega) (hf := by first | assumption | omega)) gX5_row_X1_shiftOf rfl rfl rfl (by decide +kernel) ⟨Nat.le_of_ble_eq_true rfl, Nat.le_of_ble_eq_true rfl⟩ rfl hK hPc hDc rfl rfl rfl hl.1 rfl (Nat.le_of_ble_eq_true rfl) dX5_row_98 ⟨Nat.le_of_ble_eq_true rfl, Nat.le_of_ble_eq_true rfl⟩) (fun r98 h98 => ?_)
      obtain rfl : (e9 (shf σ (ff σ r))) = r98 := Eq.symm h98
      have b98 := shf_le (by assumption : Bd σ) (ff σ r)
      exact hret _ _ _ dX5_row_101 (rfl)
    · refine lv_tableIn (off := 91) (tgt := 102) hx hb dX5_row_11 (by omega) (by omega) (by rw [sw11]; rfl) (by decide) ?_
      have ew : w = 4 := (by rw [nI_toInt (by omega)] at sw11; omega)
      subst ew
      refine lv_aload_n hx hb dX5_row_102 rfl (lv_at hl 0 rfl) ?_
      refine va_get (D := G.1) (ci := 5) (v := .ref t) (C := RX5) (T := TX5) (N := 4) hx hb hts iqX5_row_ok_X5 hown hK.1 hP 0 rfl rfl 0 (by decide) (hts (.fieldLink RX5 12 "PushedTables" "table" "LPushedTables$Table;") (List.mem_of_getElem? (i := 1) rfl)) (fun _ h9 => h9) rfl dX5_row_103 ?_
      refine va_get (D := G.1) (ci := 3) (v := .ref o) (C := RX3) (T := TX3) (N := 2) hx hb hts iqX5_row_ok_X3 hown hK.1 hP 1 rfl rfl 0 (by decide) (hts (.fieldLink RX5 37 "PushedTables$Table" "state" "LPushedTables$State;") (List.mem_of_getElem? (i := 2) rfl)) (fun _ h9 => h9) rfl dX5_row_106 ?_
      refine lv_iload_n hx hb dX5_row_109 rfl (lv_at hl 1 rfl) ?_
      have hPc := bl_sub hP (is := [2]) (bc := [wS G o a1 a2 a3 a4 σ]) rfl
      have hDc := bl_subD hD [2] [wS G o a1 a2 a3 a4 σ] (by decide) rfl
      refine g_ro (k_W (q0 := 0) (ci := 1) (n := 1) (As := [.int (nI r)]) (rest := []) hx hb hml hown hts (c_X1_columnsOf (l := l) (G := G) (o := o) (a1 := a1) (a2 := a2) (a3 := a3) (a4 := a4) (σ := σ) (r := r) (hB := by first | assumption | omega) (hr := by first | assumption | omega)) gX5_row_X1_columnsOf rfl rfl rfl (by decide +kernel) ⟨Nat.le_of_ble_eq_true rfl, Nat.le_of_ble_eq_true rfl⟩ rfl hK hPc hDc rfl rfl rfl hl.1 rfl (Nat.le_of_ble_eq_true rfl) dX5_row_110 ⟨Nat.le_of_ble_eq_true rfl, Nat.le_of_ble_eq_true rfl⟩) (fun r110 h110 => ?_)
      obtain rfl : (nI (cols σ r)) = r110 := Eq.symm h110
      have b110 := cols_lt σ r
      exact hret _ _ _ dX5_row_113 (rfl)
  · exact (no_f (inr_nI (by omega) (by omega)) cq5).elim

def cnF (σ : Sg) (cm : Nat → Nat) (sz L w : Nat) : Nat := if w = 0 then nn σ else if w = 1 then fcnt σ else if w = 2 then wsum σ (nn σ) else if w = 3 then fil cm else if w = 4 then endc cm else if w = 5 then endc cm - fil cm else if w = 6 then rfs σ cm (nn σ) else if w = 7 then sz else L
theorem iqX5_count_ok_X5 : ∀ w ∈ u_ws RX5 TX5 4, w ∈ wsX5_count := by decide +kernel
theorem iqX5_count_ok_X3 : ∀ w ∈ u_ws RX3 TX3 2, w ∈ wsX5_count := by decide +kernel
theorem iqX5_count_ok_X1 : ∀ w ∈ u_ws RX1 TX1 5, w ∈ wsX5_count := by decide +kernel
theorem iqX5_count_ok_X0 : ∀ w ∈ u_ws RX0 TX0 2, w ∈ wsX5_count := by decide +kernel
theorem iqX5_count_ok_X4 : ∀ w ∈ u_ws RX4 TX4 8, w ∈ wsX5_count := by decide +kernel
set_option maxHeartbeats 1000000 in
set_option maxRecDepth 100000 in
theorem c_X5_count_ok (l : Launch) (G : kG) (z t t2 h x : Nat) (o a1 a2 a3 a4 : Nat) (σ : Sg) (q b1 b2 : Nat) (cv cm : Nat → Nat) (hB : Bd σ) (hv : Bc 100 cv) (hm : Bc 24 cm) (st L g1 g2 g3 pl nu np rr sz w : Nat) (hsz : sz ≤ 5) (hL : L ≤ 100) (hw : w ≤ 8) : Met l yX5_count wsX5_count ({ frames := 5, cells := 0, slots := 0, locals := 109 } : Room) (cP G [.ref z, .int (nI w)] (bl [[ob z 5 [.ref t, .ref t2, .ref h, .ref x]], [ob t 3 [.ref o, .ref q]], wS G o a1 a2 a3 a4 σ, wT G q b1 b2 cv cm, [ob h 0 [.int (nI sz), .ref st]], [ob x 4 [.int (nI L), .ref g1, .int (nI pl), .int (nI nu), .int (nI np), .int (nI rr), .ref g2, .ref g3]]])) (vp_Si (fun rv => rv = (nI (cnF σ cm sz L w)))) 0 0 (fun _ => False) := by
  refine met_ro (cc := cX5_count) (maxL := 2) (ty := .int) (own := RX5) (by decide) rfl rfl (fun _ _ => rfl) (Nat.le_of_ble_eq_true rfl) ?_
  intro p e s m args below meth cod Q hx hb hml hown hts hK hP hD hret ls hl
  have hl : lv_has ls 2 [(0, .ref z), (1, .int (nI w))] := hl
  have h24 := hB.n
  have hwi := nI_toInt (n := w) (by omega)
  have fe : fil cm ≤ endc cm := fil_endc (nem cm) 800
  refine lv_iload_n hx hb dX5_count_0 rfl (lv_at hl 1 rfl) ?_
  rcases (show (nI w).toInt < 0 ∨ 0 ≤ (nI w).toInt by omega) with cq1 | cq1
  · refine lv_tableOut (tgt := 153) hx hb dX5_count_1 (Or.inl cq1) (by decide) ?_
    refine lv_iconst (v := (-1)) hx hb dX5_count_153 (by decide) ?_
    exact hret _ _ _ dX5_count_154 (by exfalso; omega)
  rcases (show 8 < (nI w).toInt ∨ (nI w).toInt ≤ 8 by omega) with dq1 | dq1
  · refine lv_tableOut (tgt := 153) hx hb dX5_count_1 (Or.inr dq1) (by decide) ?_
    refine lv_iconst (v := (-1)) hx hb dX5_count_153 (by decide) ?_
    exact hret _ _ _ dX5_count_154 (by exfalso; omega)
  have sw1 : (nI w).toInt = 0 ∨ (nI w).toInt = 1 ∨ (nI w).toInt = 2 ∨ (nI w).toInt = 3 ∨ (nI w).toInt = 4 ∨ (nI w).toInt = 5 ∨ (nI w).toInt = 6 ∨ (nI w).toInt = 7 ∨ (nI w).toInt = 8 := by omega
  rcases sw1 with sw1 | sw1 | sw1 | sw1 | sw1 | sw1 | sw1 | sw1 | sw1
  · refine lv_tableIn (off := 51) (tgt := 52) hx hb dX5_count_1 (by omega) (by omega) (by rw [sw1]; rfl) (by decide) ?_
    have ew : w = 0 := (by rw [nI_toInt (by omega)] at sw1; omega)
    subst ew
    refine lv_aload_n hx hb dX5_count_52 rfl (lv_at hl 0 rfl) ?_
    refine va_get (D := G.1) (ci := 5) (v := .ref t) (C := RX5) (T := TX5) (N := 4) hx hb hts iqX5_count_ok_X5 hown hK.1 hP 0 rfl rfl 0 (by decide) (hts (.fieldLink RX5 12 "PushedTables" "table" "LPushedTables$Table;") (List.mem_of_getElem? (i := 1) rfl)) (fun _ h9 => h9) rfl dX5_count_53 ?_
    refine va_get (D := G.1) (ci := 3) (v := .ref o) (C := RX3) (T := TX3) (N := 2) hx hb hts iqX5_count_ok_X3 hown hK.1 hP 1 rfl rfl 0 (by decide) (hts (.fieldLink RX5 37 "PushedTables$Table" "state" "LPushedTables$State;") (List.mem_of_getElem? (i := 2) rfl)) (fun _ h9 => h9) rfl dX5_count_56 ?_
    refine va_get (D := G.1) (ci := 1) (v := .int (nI (nn σ))) (C := RX1) (T := TX1) (N := 5) hx hb hts iqX5_count_ok_X1 hown hK.1 hP 2 rfl rfl 0 (by decide) (hts (.fieldLink RX5 41 "PushedTables$State" "rowCount" "I") (List.mem_of_getElem? (i := 3) rfl)) (fun _ h9 => h9) rfl dX5_count_59 ?_
    exact hret _ _ _ dX5_count_62 (rfl)
  · refine lv_tableIn (off := 62) (tgt := 63) hx hb dX5_count_1 (by omega) (by omega) (by rw [sw1]; rfl) (by decide) ?_
    have ew : w = 1 := (by rw [nI_toInt (by omega)] at sw1; omega)
    subst ew
    refine lv_aload_n hx hb dX5_count_63 rfl (lv_at hl 0 rfl) ?_
    refine va_get (D := G.1) (ci := 5) (v := .ref t) (C := RX5) (T := TX5) (N := 4) hx hb hts iqX5_count_ok_X5 hown hK.1 hP 0 rfl rfl 0 (by decide) (hts (.fieldLink RX5 12 "PushedTables" "table" "LPushedTables$Table;") (List.mem_of_getElem? (i := 1) rfl)) (fun _ h9 => h9) rfl dX5_count_64 ?_
    refine va_get (D := G.1) (ci := 3) (v := .ref o) (C := RX3) (T := TX3) (N := 2) hx hb hts iqX5_count_ok_X3 hown hK.1 hP 1 rfl rfl 0 (by decide) (hts (.fieldLink RX5 37 "PushedTables$Table" "state" "LPushedTables$State;") (List.mem_of_getElem? (i := 2) rfl)) (fun _ h9 => h9) rfl dX5_count_67 ?_
    have hPc := bl_sub hP (is := [2]) (bc := [wS G o a1 a2 a3 a4 σ]) rfl
    have hDc := bl_subD hD [2] [wS G o a1 a2 a3 a4 σ] (by decide) rfl
    refine g_ro (k_W (q0 := 0) (ci := 1) (n := 0) (As := []) (rest := []) hx hb hml hown hts (c_X1_formCount (l := l) (G := G) (o := o) (a1 := a1) (a2 := a2) (a3 := a3) (a4 := a4) (σ := σ) (hB := by first | assumption | omega)) gX5_count_X1_formCount rfl rfl rfl (by decide +kernel) ⟨Nat.le_of_ble_eq_true rfl, Nat.le_of_ble_eq_true rfl⟩ rfl hK hPc hDc rfl rfl rfl hl.1 rfl (Nat.le_of_ble_eq_true rfl) dX5_count_70 ⟨Nat.le_of_ble_eq_true rfl, Nat.le_of_ble_eq_true rfl⟩) (fun r70 h70 => ?_)
    obtain rfl : (nI (fcnt σ)) = r70 := Eq.symm h70
    have b70 := fcnt_le σ
    exact hret _ _ _ dX5_count_73 (rfl)
  · refine lv_tableIn (off := 73) (tgt := 74) hx hb dX5_count_1 (by omega) (by omega) (by rw [sw1]; rfl) (by decide) ?_
    have ew : w = 2 := (by rw [nI_toInt (by omega)] at sw1; omega)
    subst ew
    refine lv_aload_n hx hb dX5_count_74 rfl (lv_at hl 0 rfl) ?_
    refine va_get (D := G.1) (ci := 5) (v := .ref t) (C := RX5) (T := TX5) (N := 4) hx hb hts iqX5_count_ok_X5 hown hK.1 hP 0 rfl rfl 0 (by decide) (hts (.fieldLink RX5 12 "PushedTables" "table" "LPushedTables$Table;") (List.mem_of_getElem? (i := 1) rfl)) (fun _ h9 => h9) rfl dX5_count_75 ?_
    refine va_get (D := G.1) (ci := 3) (v := .ref o) (C := RX3) (T := TX3) (N := 2) hx hb hts iqX5_count_ok_X3 hown hK.1 hP 1 rfl rfl 0 (by decide) (hts (.fieldLink RX5 37 "PushedTables$Table" "state" "LPushedTables$State;") (List.mem_of_getElem? (i := 2) rfl)) (fun _ h9 => h9) rfl dX5_count_78 ?_
    have hPc := bl_sub hP (is := [2]) (bc := [wS G o a1 a2 a3 a4 σ]) rfl
    have hDc := bl_subD hD [2] [wS G o a1 a2 a3 a4 σ] (by decide) rfl
    refine g_ro (k_W (q0 := 0) (ci := 1) (n := 0) (As := []) (rest := []) hx hb hml hown hts (c_X1_weightSum (l := l) (G := G) (o := o) (a1 := a1) (a2 := a2) (a3 := a3) (a4 := a4) (σ := σ) (hB := by first | assumption | omega)) gX5_count_X1_weightSum rfl rfl rfl (by decide +kernel) ⟨Nat.le_of_ble_eq_true rfl, Nat.le_of_ble_eq_true rfl⟩ rfl hK hPc hDc rfl rfl rfl hl.1 rfl (Nat.le_of_ble_eq_true rfl) dX5_count_81 ⟨Nat.le_of_ble_eq_true rfl, Nat.le_of_ble_eq_true rfl⟩) (fun r81 h81 => ?_)
    obtain rfl : (nI (wsum σ (nn σ))) = r81 := Eq.symm h81
    have b81 := wsum_le σ (nn σ)
    exact hret _ _ _ dX5_count_84 (rfl)
  · refine lv_tableIn (off := 84) (tgt := 85) hx hb dX5_count_1 (by omega) (by omega) (by rw [sw1]; rfl) (by decide) ?_
    have ew : w = 3 := (by rw [nI_toInt (by omega)] at sw1; omega)
    subst ew
    refine lv_aload_n hx hb dX5_count_85 rfl (lv_at hl 0 rfl) ?_
    refine va_get (D := G.1) (ci := 5) (v := .ref t) (C := RX5) (T := TX5) (N := 4) hx hb hts iqX5_count_ok_X5 hown hK.1 hP 0 rfl rfl 0 (by decide) (hts (.fieldLink RX5 12 "PushedTables" "table" "LPushedTables$Table;") (List.mem_of_getElem? (i := 1) rfl)) (fun _ h9 => h9) rfl dX5_count_86 ?_
    refine va_get (D := G.1) (ci := 3) (v := .ref q) (C := RX3) (T := TX3) (N := 2) hx hb hts iqX5_count_ok_X3 hown hK.1 hP 1 rfl rfl 1 (by decide) (hts (.fieldLink RX5 92 "PushedTables$Table" "store" "LPushedTables$Store;") (List.mem_of_getElem? (i := 4) rfl)) (fun _ h9 => h9) rfl dX5_count_89 ?_
    have hPc := bl_sub hP (is := [3]) (bc := [wT G q b1 b2 cv cm]) rfl
    have hDc := bl_subD hD [3] [wT G q b1 b2 cv cm] (by decide) rfl
    refine g_ro (k_W (q0 := 0) (ci := 2) (n := 0) (As := []) (rest := []) hx hb hml hown hts (c_X2_filledCells (l := l) (G := G) (q := q) (b1 := b1) (b2 := b2) (cv := cv) (cm := cm) (hv := by first | assumption | omega) (hm := by first | assumption | omega)) gX5_count_X2_filledCells rfl rfl rfl (by decide +kernel) ⟨Nat.le_of_ble_eq_true rfl, Nat.le_of_ble_eq_true rfl⟩ rfl hK hPc hDc rfl rfl rfl hl.1 rfl (Nat.le_of_ble_eq_true rfl) dX5_count_92 ⟨Nat.le_of_ble_eq_true rfl, Nat.le_of_ble_eq_true rfl⟩) (fun r92 h92 => ?_)
    obtain rfl : (nI (fil cm)) = r92 := Eq.symm h92
    have b92 := fil_le cm
    exact hret _ _ _ dX5_count_95 (rfl)
  · refine lv_tableIn (off := 95) (tgt := 96) hx hb dX5_count_1 (by omega) (by omega) (by rw [sw1]; rfl) (by decide) ?_
    have ew : w = 4 := (by rw [nI_toInt (by omega)] at sw1; omega)
    subst ew
    refine lv_aload_n hx hb dX5_count_96 rfl (lv_at hl 0 rfl) ?_
    refine va_get (D := G.1) (ci := 5) (v := .ref t) (C := RX5) (T := TX5) (N := 4) hx hb hts iqX5_count_ok_X5 hown hK.1 hP 0 rfl rfl 0 (by decide) (hts (.fieldLink RX5 12 "PushedTables" "table" "LPushedTables$Table;") (List.mem_of_getElem? (i := 1) rfl)) (fun _ h9 => h9) rfl dX5_count_97 ?_
    refine va_get (D := G.1) (ci := 3) (v := .ref q) (C := RX3) (T := TX3) (N := 2) hx hb hts iqX5_count_ok_X3 hown hK.1 hP 1 rfl rfl 1 (by decide) (hts (.fieldLink RX5 92 "PushedTables$Table" "store" "LPushedTables$Store;") (List.mem_of_getElem? (i := 4) rfl)) (fun _ h9 => h9) rfl dX5_count_100 ?_
    have hPc := bl_sub hP (is := [3]) (bc := [wT G q b1 b2 cv cm]) rfl
    have hDc := bl_subD hD [3] [wT G q b1 b2 cv cm] (by decide) rfl
    refine g_ro (k_W (q0 := 0) (ci := 2) (n := 0) (As := []) (rest := []) hx hb hml hown hts (c_X2_endOfCells (l := l) (G := G) (q := q) (b1 := b1) (b2 := b2) (cv := cv) (cm := cm) (hv := by first | assumption | omega) (hm := by first | assumption | omega)) gX5_count_X2_endOfCells rfl rfl rfl (by decide +kernel) ⟨Nat.le_of_ble_eq_true rfl, Nat.le_of_ble_eq_true rfl⟩ rfl hK hPc hDc rfl rfl rfl hl.1 rfl (Nat.le_of_ble_eq_true rfl) dX5_count_103 ⟨Nat.le_of_ble_eq_true rfl, Nat.le_of_ble_eq_true rfl⟩) (fun r103 h103 => ?_)
    obtain rfl : (nI (endc cm)) = r103 := Eq.symm h103
    have b103 := endc_le cm
    exact hret _ _ _ dX5_count_106 (rfl)
  · refine lv_tableIn (off := 106) (tgt := 107) hx hb dX5_count_1 (by omega) (by omega) (by rw [sw1]; rfl) (by decide) ?_
    have ew : w = 5 := (by rw [nI_toInt (by omega)] at sw1; omega)
    subst ew
    refine lv_aload_n hx hb dX5_count_107 rfl (lv_at hl 0 rfl) ?_
    refine va_get (D := G.1) (ci := 5) (v := .ref t) (C := RX5) (T := TX5) (N := 4) hx hb hts iqX5_count_ok_X5 hown hK.1 hP 0 rfl rfl 0 (by decide) (hts (.fieldLink RX5 12 "PushedTables" "table" "LPushedTables$Table;") (List.mem_of_getElem? (i := 1) rfl)) (fun _ h9 => h9) rfl dX5_count_108 ?_
    refine va_get (D := G.1) (ci := 3) (v := .ref q) (C := RX3) (T := TX3) (N := 2) hx hb hts iqX5_count_ok_X3 hown hK.1 hP 1 rfl rfl 1 (by decide) (hts (.fieldLink RX5 92 "PushedTables$Table" "store" "LPushedTables$Store;") (List.mem_of_getElem? (i := 4) rfl)) (fun _ h9 => h9) rfl dX5_count_111 ?_
    have hPc := bl_sub hP (is := [3]) (bc := [wT G q b1 b2 cv cm]) rfl
    have hDc := bl_subD hD [3] [wT G q b1 b2 cv cm] (by decide) rfl
    refine g_ro (k_W (q0 := 0) (ci := 2) (n := 0) (As := []) (rest := []) hx hb hml hown hts (c_X2_endOfCells (l := l) (G := G) (q := q) (b1 := b1) (b2 := b2) (cv := cv) (cm := cm) (hv := by first | assumption | omega) (hm := by first | assumption | omega)) gX5_count_X2_endOfCells rfl rfl rfl (by decide +kernel) ⟨Nat.le_of_ble_eq_true rfl, Nat.le_of_ble_eq_true rfl⟩ rfl hK hPc hDc rfl rfl rfl hl.1 rfl (Nat.le_of_ble_eq_true rfl) dX5_count_114 ⟨Nat.le_of_ble_eq_true rfl, Nat.le_of_ble_eq_true rfl⟩) (fun r114 h114 => ?_)
    obtain rfl : (nI (endc cm)) = r114 := Eq.symm h114
    have b114 := endc_le cm
    refine lv_aload_n hx hb dX5_count_117 rfl (lv_at hl 0 rfl) ?_
    refine va_get (D := G.1) (ci := 5) (v := .ref t) (C := RX5) (T := TX5) (N := 4) hx hb hts iqX5_count_ok_X5 hown hK.1 hP 0 rfl rfl 0 (by decide) (hts (.fieldLink RX5 12 "PushedTables" "table" "LPushedTables$Table;") (List.mem_of_getElem? (i := 1) rfl)) (fun _ h9 => h9) rfl dX5_count_118 ?_
    refine va_get (D := G.1) (ci := 3) (v := .ref q) (C := RX3) (T := TX3) (N := 2) hx hb hts iqX5_count_ok_X3 hown hK.1 hP 1 rfl rfl 1 (by decide) (hts (.fieldLink RX5 92 "PushedTables$Table" "store" "LPushedTables$Store;") (List.mem_of_getElem? (i := 4) rfl)) (fun _ h9 => h9) rfl dX5_count_121 ?_
    have hPc := bl_sub hP (is := [3]) (bc := [wT G q b1 b2 cv cm]) rfl
    have hDc := bl_subD hD [3] [wT G q b1 b2 cv cm] (by decide) rfl
    refine g_ro (k_W (q0 := 0) (ci := 2) (n := 0) (As := []) (rest := [.int (nI (endc cm))]) hx hb hml hown hts (c_X2_filledCells (l := l) (G := G) (q := q) (b1 := b1) (b2 := b2) (cv := cv) (cm := cm) (hv := by first | assumption | omega) (hm := by first | assumption | omega)) gX5_count_X2_filledCells rfl rfl rfl (by decide +kernel) ⟨Nat.le_of_ble_eq_true rfl, Nat.le_of_ble_eq_true rfl⟩ rfl hK hPc hDc rfl rfl rfl hl.1 rfl (Nat.le_of_ble_eq_true rfl) dX5_count_124 ⟨Nat.le_of_ble_eq_true rfl, Nat.le_of_ble_eq_true rfl⟩) (fun r124 h124 => ?_)
    obtain rfl : (nI (fil cm)) = r124 := Eq.symm h124
    have b124 := fil_le cm
    refine r_isub (v := (endc cm) - (fil cm)) hx hb dX5_count_127 (by omega) rfl ?_
    exact hret _ _ _ dX5_count_128 (rfl)
  · refine lv_tableIn (off := 128) (tgt := 129) hx hb dX5_count_1 (by omega) (by omega) (by rw [sw1]; rfl) (by decide) ?_
    have ew : w = 6 := (by rw [nI_toInt (by omega)] at sw1; omega)
    subst ew
    refine lv_aload_n hx hb dX5_count_129 rfl (lv_at hl 0 rfl) ?_
    refine va_get (D := G.1) (ci := 5) (v := .ref t) (C := RX5) (T := TX5) (N := 4) hx hb hts iqX5_count_ok_X5 hown hK.1 hP 0 rfl rfl 0 (by decide) (hts (.fieldLink RX5 12 "PushedTables" "table" "LPushedTables$Table;") (List.mem_of_getElem? (i := 1) rfl)) (fun _ h9 => h9) rfl dX5_count_130 ?_
    have hPc := bl_sub hP (is := [1, 2, 3]) (bc := [[ob t 3 [.ref o, .ref q]], wS G o a1 a2 a3 a4 σ, wT G q b1 b2 cv cm]) rfl
    have hDc := bl_subD hD [1, 2, 3] [[ob t 3 [.ref o, .ref q]], wS G o a1 a2 a3 a4 σ, wT G q b1 b2 cv cm] (by decide) rfl
    refine g_ro (k_W (q0 := 0) (ci := 3) (n := 0) (As := []) (rest := []) hx hb hml hown hts (c_X3_refusals (l := l) (G := G) (t := t) (o := o) (a1 := a1) (a2 := a2) (a3 := a3) (a4 := a4) (σ := σ) (q := q) (b1 := b1) (b2 := b2) (cv := cv) (cm := cm) (hB := by first | assumption | omega) (hv := by first | assumption | omega) (hm := by first | assumption | omega)) gX5_count_X3_refusals rfl rfl rfl (by decide +kernel) ⟨Nat.le_of_ble_eq_true rfl, Nat.le_of_ble_eq_true rfl⟩ rfl hK hPc hDc rfl rfl rfl hl.1 rfl (Nat.le_of_ble_eq_true rfl) dX5_count_133 ⟨Nat.le_of_ble_eq_true rfl, Nat.le_of_ble_eq_true rfl⟩) (fun r133 h133 => ?_)
    obtain rfl : (nI (rfs σ cm (nn σ))) = r133 := Eq.symm h133
    have b133 := rfs_le σ cm (nn σ)
    exact hret _ _ _ dX5_count_136 (rfl)
  · refine lv_tableIn (off := 136) (tgt := 137) hx hb dX5_count_1 (by omega) (by omega) (by rw [sw1]; rfl) (by decide) ?_
    have ew : w = 7 := (by rw [nI_toInt (by omega)] at sw1; omega)
    subst ew
    refine lv_aload_n hx hb dX5_count_137 rfl (lv_at hl 0 rfl) ?_
    refine va_get (D := G.1) (ci := 5) (v := .ref h) (C := RX5) (T := TX5) (N := 4) hx hb hts iqX5_count_ok_X5 hown hK.1 hP 0 rfl rfl 2 (by decide) (hts (.fieldLink RX5 22 "PushedTables" "history" "LPushedTables$History;") (List.mem_of_getElem? (i := 5) rfl)) (fun _ h9 => h9) rfl dX5_count_138 ?_
    refine va_get (D := G.1) (ci := 0) (v := .int (nI sz)) (C := RX0) (T := TX0) (N := 2) hx hb hts iqX5_count_ok_X0 hown hK.1 hP 10 rfl rfl 0 (by decide) (hts (.fieldLink RX5 109 "PushedTables$History" "size" "I") (List.mem_of_getElem? (i := 6) rfl)) (fun _ h9 => h9) rfl dX5_count_141 ?_
    exact hret _ _ _ dX5_count_144 (rfl)
  · refine lv_tableIn (off := 144) (tgt := 145) hx hb dX5_count_1 (by omega) (by omega) (by rw [sw1]; rfl) (by decide) ?_
    have ew : w = 8 := (by rw [nI_toInt (by omega)] at sw1; omega)
    subst ew
    refine lv_aload_n hx hb dX5_count_145 rfl (lv_at hl 0 rfl) ?_
    refine va_get (D := G.1) (ci := 5) (v := .ref x) (C := RX5) (T := TX5) (N := 4) hx hb hts iqX5_count_ok_X5 hown hK.1 hP 0 rfl rfl 3 (by decide) (hts (.fieldLink RX5 29 "PushedTables" "text" "LPushedTables$Text;") (List.mem_of_getElem? (i := 7) rfl)) (fun _ h9 => h9) rfl dX5_count_146 ?_
    refine va_get (D := G.1) (ci := 4) (v := .int (nI L)) (C := RX4) (T := TX4) (N := 8) hx hb hts iqX5_count_ok_X4 hown hK.1 hP 11 rfl rfl 0 (by decide) (hts (.fieldLink RX5 112 "PushedTables$Text" "length" "I") (List.mem_of_getElem? (i := 8) rfl)) (fun _ h9 => h9) rfl dX5_count_149 ?_
    exact hret _ _ _ dX5_count_152 (rfl)

theorem iqX5_endBy_ok_X5 : ∀ w ∈ u_ws RX5 TX5 4, w ∈ wsX5_endBy := by decide +kernel
theorem iqX5_endBy_ok_X3 : ∀ w ∈ u_ws RX3 TX3 2, w ∈ wsX5_endBy := by decide +kernel
set_option maxHeartbeats 1000000 in
set_option maxRecDepth 100000 in
theorem c_X5_endBy_ok (l : Launch) (G : kG) (z t t2 h x : Nat) (o a1 a2 a3 a4 : Nat) (σ : Sg) (q b1 b2 : Nat) (cv cm : Nat → Nat) (hB : Bd σ) (hv : Bc 100 cv) (hm : Bc 24 cm) (o2 d1 d2 d3 d4 q2 d5 d6 : Nat) (φ : Sg) (cvf cmf : Nat → Nat) (hBf : Bd φ) (hvf : Bc 100 cvf) (hmf : Bc 24 cmf) (w : Nat) (hw : w ≤ 1) : Met l yX5_endBy wsX5_endBy ({ frames := 6, cells := 0, slots := 0, locals := 138 } : Room) (cP G [.ref z, .int (nI w)] (bl [[ob z 5 [.ref t, .ref t2, .ref h, .ref x]], [ob t 3 [.ref o, .ref q]], wS G o a1 a2 a3 a4 σ, [ob t2 3 [.ref o2, .ref q2]], wS G o2 d1 d2 d3 d4 φ, wT G q2 d5 d6 cvf cmf])) (qI (fun rv H => ∃ (σ1 : Sg) (cv1 : Nat → Nat) (cm1 : Nat → Nat), rv = (nI (endc cm1)) ∧ ((σ1, cv1, cm1) = (if w = 0 then paw σ else pan σ)) ∧ Bd σ1 ∧ Bc 100 cv1 ∧ Bc 24 cm1 ∧ va_P G.1 vwCl (bl [[ob z 5 [.ref t, .ref t2, .ref h, .ref x]], [ob t 3 [.ref o, .ref q]], wS G o a1 a2 a3 a4 σ, [ob t2 3 [.ref o2, .ref q2]], wS G o2 d1 d2 d3 d4 σ1, wT G q2 d5 d6 cv1 cm1]) H) (mA (bl [[ob z 5 [.ref t, .ref t2, .ref h, .ref x]], [ob t 3 [.ref o, .ref q]], wS G o a1 a2 a3 a4 σ, [ob t2 3 [.ref o2, .ref q2]], wS G o2 d1 d2 d3 d4 φ, wT G q2 d5 d6 cvf cmf]))) 0 0 (mA (bl [[ob z 5 [.ref t, .ref t2, .ref h, .ref x]], [ob t 3 [.ref o, .ref q]], wS G o a1 a2 a3 a4 σ, [ob t2 3 [.ref o2, .ref q2]], wS G o2 d1 d2 d3 d4 φ, wT G q2 d5 d6 cvf cmf])) := by
  refine met_muI (cc := cX5_endBy) (maxL := 2) (ty := .int) (own := RX5) (by decide) rfl rfl (fun _ _ _ => rfl) (Nat.le_of_ble_eq_true rfl) ?_
  intro p e s m args below meth cod Q A hx hb hml hown hts hK hP hD hS hret ls hl
  have hl : lv_has ls 2 [(0, .ref z), (1, .int (nI w))] := hl
  refine lv_iload_n hx hb dX5_endBy_0 rfl (lv_at hl 1 rfl) ?_
  refine r_if_eq (P := w = 0) (tgt := 11) hx hb dX5_endBy_1 (by decide) (nI_eq0 (by omega)) (fun cq1 => ?_) (fun cq1 => ?_)
  · refine lv_aload_n hx hb dX5_endBy_11 rfl (lv_at hl 0 rfl) ?_
    refine va_get (D := G.1) (ci := 5) (v := .ref t2) (C := RX5) (T := TX5) (N := 4) hx hb hts iqX5_endBy_ok_X5 hown hK.1 hP 0 rfl rfl 1 (by decide) (hts (.fieldLink RX5 16 "PushedTables" "forecast" "LPushedTables$Table;") (List.mem_of_getElem? (i := 1) rfl)) (fun _ h9 => h9) rfl dX5_endBy_12 ?_
    refine va_get (D := G.1) (ci := 3) (v := .ref o2) (C := RX3) (T := TX3) (N := 2) hx hb hts iqX5_endBy_ok_X3 hown hK.1 hP 7 rfl rfl 0 (by decide) (hts (.fieldLink RX5 37 "PushedTables$Table" "state" "LPushedTables$State;") (List.mem_of_getElem? (i := 2) rfl)) (fun _ h9 => h9) rfl dX5_endBy_15 ?_
    refine lv_aload_n hx hb dX5_endBy_18 rfl (lv_at hl 0 rfl) ?_
    refine va_get (D := G.1) (ci := 5) (v := .ref t) (C := RX5) (T := TX5) (N := 4) hx hb hts iqX5_endBy_ok_X5 hown hK.1 hP 0 rfl rfl 0 (by decide) (hts (.fieldLink RX5 12 "PushedTables" "table" "LPushedTables$Table;") (List.mem_of_getElem? (i := 3) rfl)) (fun _ h9 => h9) rfl dX5_endBy_19 ?_
    refine va_get (D := G.1) (ci := 3) (v := .ref o) (C := RX3) (T := TX3) (N := 2) hx hb hts iqX5_endBy_ok_X3 hown hK.1 hP 1 rfl rfl 0 (by decide) (hts (.fieldLink RX5 37 "PushedTables$Table" "state" "LPushedTables$State;") (List.mem_of_getElem? (i := 2) rfl)) (fun _ h9 => h9) rfl dX5_endBy_22 ?_
    have hPc := bl_sub hP (is := [4, 2]) (bc := [wS G o2 d1 d2 d3 d4 φ, wS G o a1 a2 a3 a4 σ]) rfl
    have hDc := bl_subD hD [4, 2] [wS G o2 d1 d2 d3 d4 φ, wS G o a1 a2 a3 a4 σ] (by decide) rfl
    refine g_VB (bc := [wS G o2 d1 d2 d3 d4 φ, wS G o a1 a2 a3 a4 σ]) (k_W (q0 := 0) (ci := 1) (n := 1) (As := [.ref o]) (rest := []) hx hb hml hown hts (c_X1_copyFrom (l := l) (G := G) (o := o2) (a1 := d1) (a2 := d2) (a3 := d3) (a4 := d4) (σ := φ) (o2 := o) (d1 := a1) (d2 := a2) (d3 := a3) (d4 := a4) (ρ := σ)) gX5_endBy_X1_copyFrom rfl rfl rfl (by decide +kernel) ⟨Nat.le_of_ble_eq_true rfl, Nat.le_of_ble_eq_true rfl⟩ rfl hK hPc hDc rfl rfl rfl hl.1 rfl (Nat.le_of_ble_eq_true rfl) dX5_endBy_25 ⟨Nat.le_of_ble_eq_true rfl, Nat.le_of_ble_eq_true rfl⟩) hP hD hS [4, 2] (by decide) rfl (fun H locs hB25 back hS => ?_)
    have hP1 := hB25
    obtain ⟨hP, hD⟩ := back [wS G o2 d1 d2 d3 d4 σ, wS G o a1 a2 a3 a4 σ] rfl hP1
    have hP : va_P G.1 vwCl (bl [[ob z 5 [.ref t, .ref t2, .ref h, .ref x]], [ob t 3 [.ref o, .ref q]], wS G o a1 a2 a3 a4 σ, [ob t2 3 [.ref o2, .ref q2]], wS G o2 d1 d2 d3 d4 σ, wT G q2 d5 d6 cvf cmf]) H := hP
    have hD : va_D A (bl [[ob z 5 [.ref t, .ref t2, .ref h, .ref x]], [ob t 3 [.ref o, .ref q]], wS G o a1 a2 a3 a4 σ, [ob t2 3 [.ref o2, .ref q2]], wS G o2 d1 d2 d3 d4 σ, wT G q2 d5 d6 cvf cmf]) := hD
    refine lv_iload_n hx hb dX5_endBy_28 rfl (lv_at hl 1 rfl) ?_
    refine r_if_ne (P := w = 0) (tgt := 42) hx hb dX5_endBy_29 (by decide) (nI_eq0 (by omega)) (fun cq29 => ?_) (fun cq29 => ?_)
    · refine lv_aload_n hx hb dX5_endBy_42 rfl (lv_at hl 0 rfl) ?_
      refine va_get (D := G.1) (ci := 5) (v := .ref t2) (C := RX5) (T := TX5) (N := 4) hx hb hts iqX5_endBy_ok_X5 hown hK.1 hP 0 rfl rfl 1 (by decide) (hts (.fieldLink RX5 16 "PushedTables" "forecast" "LPushedTables$Table;") (List.mem_of_getElem? (i := 1) rfl)) (fun _ h9 => h9) rfl dX5_endBy_43 ?_
      have hPc := bl_sub hP (is := [3, 4, 5]) (bc := [[ob t2 3 [.ref o2, .ref q2]], wS G o2 d1 d2 d3 d4 σ, wT G q2 d5 d6 cvf cmf]) rfl
      have hDc := bl_subD hD [3, 4, 5] [[ob t2 3 [.ref o2, .ref q2]], wS G o2 d1 d2 d3 d4 σ, wT G q2 d5 d6 cvf cmf] (by decide) rfl
      refine g_VB (bc := [[ob t2 3 [.ref o2, .ref q2]], wS G o2 d1 d2 d3 d4 σ, wT G q2 d5 d6 cvf cmf]) (k_W (q0 := 0) (ci := 3) (n := 0) (As := []) (rest := []) hx hb hml hown hts (c_X3_pushAnewByNumbers (l := l) (G := G) (t := t2) (o := o2) (a1 := d1) (a2 := d2) (a3 := d3) (a4 := d4) (σ := σ) (q := q2) (b1 := d5) (b2 := d6) (cv := cvf) (cm := cmf) (hB := by first | assumption | omega) (hv := by first | assumption | omega) (hm := by first | assumption | omega)) gX5_endBy_X3_pushAnewByNumbers rfl rfl rfl (by decide +kernel) ⟨Nat.le_of_ble_eq_true rfl, Nat.le_of_ble_eq_true rfl⟩ rfl hK hPc hDc rfl rfl rfl hl.1 rfl (Nat.le_of_ble_eq_true rfl) dX5_endBy_46 ⟨Nat.le_of_ble_eq_true rfl, Nat.le_of_ble_eq_true rfl⟩) hP hD hS [3, 4, 5] (by decide) rfl (fun H locs hB46 back hS => ?_)
      obtain ⟨σ146, cv146, cm146, hq46, hb146, hb246, hb346, hP1⟩ := hB46
      obtain ⟨hP, hD⟩ := back [[ob t2 3 [.ref o2, .ref q2]], wS G o2 d1 d2 d3 d4 σ146, wT G q2 d5 d6 cv146 cm146] rfl hP1
      have hP : va_P G.1 vwCl (bl [[ob z 5 [.ref t, .ref t2, .ref h, .ref x]], [ob t 3 [.ref o, .ref q]], wS G o a1 a2 a3 a4 σ, [ob t2 3 [.ref o2, .ref q2]], wS G o2 d1 d2 d3 d4 σ146, wT G q2 d5 d6 cv146 cm146]) H := hP
      have hD : va_D A (bl [[ob z 5 [.ref t, .ref t2, .ref h, .ref x]], [ob t 3 [.ref o, .ref q]], wS G o a1 a2 a3 a4 σ, [ob t2 3 [.ref o2, .ref q2]], wS G o2 d1 d2 d3 d4 σ146, wT G q2 d5 d6 cv146 cm146]) := hD
      refine lv_aload_n hx hb dX5_endBy_49 rfl (lv_at hl 0 rfl) ?_
      refine va_get (D := G.1) (ci := 5) (v := .ref t2) (C := RX5) (T := TX5) (N := 4) hx hb hts iqX5_endBy_ok_X5 hown hK.1 hP 0 rfl rfl 1 (by decide) (hts (.fieldLink RX5 16 "PushedTables" "forecast" "LPushedTables$Table;") (List.mem_of_getElem? (i := 1) rfl)) (fun _ h9 => h9) rfl dX5_endBy_50 ?_
      refine va_get (D := G.1) (ci := 3) (v := .ref q2) (C := RX3) (T := TX3) (N := 2) hx hb hts iqX5_endBy_ok_X3 hown hK.1 hP 7 rfl rfl 1 (by decide) (hts (.fieldLink RX5 92 "PushedTables$Table" "store" "LPushedTables$Store;") (List.mem_of_getElem? (i := 4) rfl)) (fun _ h9 => h9) rfl dX5_endBy_53 ?_
      have hPc := bl_sub hP (is := [5]) (bc := [wT G q2 d5 d6 cv146 cm146]) rfl
      have hDc := bl_subD hD [5] [wT G q2 d5 d6 cv146 cm146] (by decide) rfl
      refine g_ro (k_W (q0 := 0) (ci := 2) (n := 0) (As := []) (rest := []) hx hb hml hown hts (c_X2_endOfCells (l := l) (G := G) (q := q2) (b1 := d5) (b2 := d6) (cv := cv146) (cm := cm146) (hv := by first | assumption | omega) (hm := by first | assumption | omega)) gX5_endBy_X2_endOfCells rfl rfl rfl (by decide +kernel) ⟨Nat.le_of_ble_eq_true rfl, Nat.le_of_ble_eq_true rfl⟩ rfl hK hPc hDc rfl rfl rfl hl.1 rfl (Nat.le_of_ble_eq_true rfl) dX5_endBy_56 ⟨Nat.le_of_ble_eq_true rfl, Nat.le_of_ble_eq_true rfl⟩) (fun r56 h56 => ?_)
      obtain rfl : (nI (endc cm146)) = r56 := Eq.symm h56
      have b56 := endc_le cm146
      exact hret _ _ _ _ _ hS dX5_endBy_59 (⟨σ146, cv146, cm146, rfl, absurd cq1 cq29, by first | assumption | omega, by first | assumption | omega, by first | assumption | omega, hP⟩)
    · refine lv_aload_n hx hb dX5_endBy_32 rfl (lv_at hl 0 rfl) ?_
      refine va_get (D := G.1) (ci := 5) (v := .ref t2) (C := RX5) (T := TX5) (N := 4) hx hb hts iqX5_endBy_ok_X5 hown hK.1 hP 0 rfl rfl 1 (by decide) (hts (.fieldLink RX5 16 "PushedTables" "forecast" "LPushedTables$Table;") (List.mem_of_getElem? (i := 1) rfl)) (fun _ h9 => h9) rfl dX5_endBy_33 ?_
      have hPc := bl_sub hP (is := [3, 4, 5]) (bc := [[ob t2 3 [.ref o2, .ref q2]], wS G o2 d1 d2 d3 d4 σ, wT G q2 d5 d6 cvf cmf]) rfl
      have hDc := bl_subD hD [3, 4, 5] [[ob t2 3 [.ref o2, .ref q2]], wS G o2 d1 d2 d3 d4 σ, wT G q2 d5 d6 cvf cmf] (by decide) rfl
      refine g_VB (bc := [[ob t2 3 [.ref o2, .ref q2]], wS G o2 d1 d2 d3 d4 σ, wT G q2 d5 d6 cvf cmf]) (k_W (q0 := 0) (ci := 3) (n := 0) (As := []) (rest := []) hx hb hml hown hts (c_X3_pushAnewByWeights (l := l) (G := G) (t := t2) (o := o2) (a1 := d1) (a2 := d2) (a3 := d3) (a4 := d4) (σ := σ) (q := q2) (b1 := d5) (b2 := d6) (cv := cvf) (cm := cmf) (hB := by first | assumption | omega) (hv := by first | assumption | omega) (hm := by first | assumption | omega)) gX5_endBy_X3_pushAnewByWeights rfl rfl rfl (by decide +kernel) ⟨Nat.le_of_ble_eq_true rfl, Nat.le_of_ble_eq_true rfl⟩ rfl hK hPc hDc rfl rfl rfl hl.1 rfl (Nat.le_of_ble_eq_true rfl) dX5_endBy_36 ⟨Nat.le_of_ble_eq_true rfl, Nat.le_of_ble_eq_true rfl⟩) hP hD hS [3, 4, 5] (by decide) rfl (fun H locs hB36 back hS => ?_)
      obtain ⟨σ136, cv136, cm136, hq36, hb136, hb236, hb336, hP1⟩ := hB36
      obtain ⟨hP, hD⟩ := back [[ob t2 3 [.ref o2, .ref q2]], wS G o2 d1 d2 d3 d4 σ136, wT G q2 d5 d6 cv136 cm136] rfl hP1
      have hP : va_P G.1 vwCl (bl [[ob z 5 [.ref t, .ref t2, .ref h, .ref x]], [ob t 3 [.ref o, .ref q]], wS G o a1 a2 a3 a4 σ, [ob t2 3 [.ref o2, .ref q2]], wS G o2 d1 d2 d3 d4 σ136, wT G q2 d5 d6 cv136 cm136]) H := hP
      have hD : va_D A (bl [[ob z 5 [.ref t, .ref t2, .ref h, .ref x]], [ob t 3 [.ref o, .ref q]], wS G o a1 a2 a3 a4 σ, [ob t2 3 [.ref o2, .ref q2]], wS G o2 d1 d2 d3 d4 σ136, wT G q2 d5 d6 cv136 cm136]) := hD
      refine lv_goto (tgt := 49) hx hb dX5_endBy_39 (by decide) ?_
      refine lv_aload_n hx hb dX5_endBy_49 rfl (lv_at hl 0 rfl) ?_
      refine va_get (D := G.1) (ci := 5) (v := .ref t2) (C := RX5) (T := TX5) (N := 4) hx hb hts iqX5_endBy_ok_X5 hown hK.1 hP 0 rfl rfl 1 (by decide) (hts (.fieldLink RX5 16 "PushedTables" "forecast" "LPushedTables$Table;") (List.mem_of_getElem? (i := 1) rfl)) (fun _ h9 => h9) rfl dX5_endBy_50 ?_
      refine va_get (D := G.1) (ci := 3) (v := .ref q2) (C := RX3) (T := TX3) (N := 2) hx hb hts iqX5_endBy_ok_X3 hown hK.1 hP 7 rfl rfl 1 (by decide) (hts (.fieldLink RX5 92 "PushedTables$Table" "store" "LPushedTables$Store;") (List.mem_of_getElem? (i := 4) rfl)) (fun _ h9 => h9) rfl dX5_endBy_53 ?_
      have hPc := bl_sub hP (is := [5]) (bc := [wT G q2 d5 d6 cv136 cm136]) rfl
      have hDc := bl_subD hD [5] [wT G q2 d5 d6 cv136 cm136] (by decide) rfl
      refine g_ro (k_W (q0 := 0) (ci := 2) (n := 0) (As := []) (rest := []) hx hb hml hown hts (c_X2_endOfCells (l := l) (G := G) (q := q2) (b1 := d5) (b2 := d6) (cv := cv136) (cm := cm136) (hv := by first | assumption | omega) (hm := by first | assumption | omega)) gX5_endBy_X2_endOfCells rfl rfl rfl (by decide +kernel) ⟨Nat.le_of_ble_eq_true rfl, Nat.le_of_ble_eq_true rfl⟩ rfl hK hPc hDc rfl rfl rfl hl.1 rfl (Nat.le_of_ble_eq_true rfl) dX5_endBy_56 ⟨Nat.le_of_ble_eq_true rfl, Nat.le_of_ble_eq_true rfl⟩) (fun r56 h56 => ?_)
      obtain rfl : (nI (endc cm136)) = r56 := Eq.symm h56
      have b56 := endc_le cm136
      exact hret _ _ _ _ _ hS dX5_endBy_59 (⟨σ136, cv136, cm136, rfl, by rw [if_pos cq1]; exact hq36, by first | assumption | omega, by first | assumption | omega, by first | assumption | omega, hP⟩)
  · refine lv_iload_n hx hb dX5_endBy_4 rfl (lv_at hl 1 rfl) ?_
    refine lv_iconst (v := (nI 1)) hx hb dX5_endBy_5 (by decide) ?_
    refine r_icmp_eq (P := w = 1) (tgt := 11) hx hb dX5_endBy_6 (by decide) (nI_eq (by omega) (by omega)) (fun cq6 => ?_) (fun cq6 => ?_)
    · refine lv_aload_n hx hb dX5_endBy_11 rfl (lv_at hl 0 rfl) ?_
      refine va_get (D := G.1) (ci := 5) (v := .ref t2) (C := RX5) (T := TX5) (N := 4) hx hb hts iqX5_endBy_ok_X5 hown hK.1 hP 0 rfl rfl 1 (by decide) (hts (.fieldLink RX5 16 "PushedTables" "forecast" "LPushedTables$Table;") (List.mem_of_getElem? (i := 1) rfl)) (fun _ h9 => h9) rfl dX5_endBy_12 ?_
      refine va_get (D := G.1) (ci := 3) (v := .ref o2) (C := RX3) (T := TX3) (N := 2) hx hb hts iqX5_endBy_ok_X3 hown hK.1 hP 7 rfl rfl 0 (by decide) (hts (.fieldLink RX5 37 "PushedTables$Table" "state" "LPushedTables$State;") (List.mem_of_getElem? (i := 2) rfl)) (fun _ h9 => h9) rfl dX5_endBy_15 ?_
      refine lv_aload_n hx hb dX5_endBy_18 rfl (lv_at hl 0 rfl) ?_
      refine va_get (D := G.1) (ci := 5) (v := .ref t) (C := RX5) (T := TX5) (N := 4) hx hb hts iqX5_endBy_ok_X5 hown hK.1 hP 0 rfl rfl 0 (by decide) (hts (.fieldLink RX5 12 "PushedTables" "table" "LPushedTables$Table;") (List.mem_of_getElem? (i := 3) rfl)) (fun _ h9 => h9) rfl dX5_endBy_19 ?_
      refine va_get (D := G.1) (ci := 3) (v := .ref o) (C := RX3) (T := TX3) (N := 2) hx hb hts iqX5_endBy_ok_X3 hown hK.1 hP 1 rfl rfl 0 (by decide) (hts (.fieldLink RX5 37 "PushedTables$Table" "state" "LPushedTables$State;") (List.mem_of_getElem? (i := 2) rfl)) (fun _ h9 => h9) rfl dX5_endBy_22 ?_
      have hPc := bl_sub hP (is := [4, 2]) (bc := [wS G o2 d1 d2 d3 d4 φ, wS G o a1 a2 a3 a4 σ]) rfl
      have hDc := bl_subD hD [4, 2] [wS G o2 d1 d2 d3 d4 φ, wS G o a1 a2 a3 a4 σ] (by decide) rfl
      refine g_VB (bc := [wS G o2 d1 d2 d3 d4 φ, wS G o a1 a2 a3 a4 σ]) (k_W (q0 := 0) (ci := 1) (n := 1) (As := [.ref o]) (rest := []) hx hb hml hown hts (c_X1_copyFrom (l := l) (G := G) (o := o2) (a1 := d1) (a2 := d2) (a3 := d3) (a4 := d4) (σ := φ) (o2 := o) (d1 := a1) (d2 := a2) (d3 := a3) (d4 := a4) (ρ := σ)) gX5_endBy_X1_copyFrom rfl rfl rfl (by decide +kernel) ⟨Nat.le_of_ble_eq_true rfl, Nat.le_of_ble_eq_true rfl⟩ rfl hK hPc hDc rfl rfl rfl hl.1 rfl (Nat.le_of_ble_eq_true rfl) dX5_endBy_25 ⟨Nat.le_of_ble_eq_true rfl, Nat.le_of_ble_eq_true rfl⟩) hP hD hS [4, 2] (by decide) rfl (fun H locs hB25 back hS => ?_)
      have hP1 := hB25
      obtain ⟨hP, hD⟩ := back [wS G o2 d1 d2 d3 d4 σ, wS G o a1 a2 a3 a4 σ] rfl hP1
      have hP : va_P G.1 vwCl (bl [[ob z 5 [.ref t, .ref t2, .ref h, .ref x]], [ob t 3 [.ref o, .ref q]], wS G o a1 a2 a3 a4 σ, [ob t2 3 [.ref o2, .ref q2]], wS G o2 d1 d2 d3 d4 σ, wT G q2 d5 d6 cvf cmf]) H := hP
      have hD : va_D A (bl [[ob z 5 [.ref t, .ref t2, .ref h, .ref x]], [ob t 3 [.ref o, .ref q]], wS G o a1 a2 a3 a4 σ, [ob t2 3 [.ref o2, .ref q2]], wS G o2 d1 d2 d3 d4 σ, wT G q2 d5 d6 cvf cmf]) := hD
      refine lv_iload_n hx hb dX5_endBy_28 rfl (lv_at hl 1 rfl) ?_
      refine r_if_ne (P := w = 0) (tgt := 42) hx hb dX5_endBy_29 (by decide) (nI_eq0 (by omega)) (fun cq29 => ?_) (fun cq29 => ?_)
      · refine lv_aload_n hx hb dX5_endBy_42 rfl (lv_at hl 0 rfl) ?_
        refine va_get (D := G.1) (ci := 5) (v := .ref t2) (C := RX5) (T := TX5) (N := 4) hx hb hts iqX5_endBy_ok_X5 hown hK.1 hP 0 rfl rfl 1 (by decide) (hts (.fieldLink RX5 16 "PushedTables" "forecast" "LPushedTables$Table;") (List.mem_of_getElem? (i := 1) rfl)) (fun _ h9 => h9) rfl dX5_endBy_43 ?_
        have hPc := bl_sub hP (is := [3, 4, 5]) (bc := [[ob t2 3 [.ref o2, .ref q2]], wS G o2 d1 d2 d3 d4 σ, wT G q2 d5 d6 cvf cmf]) rfl
        have hDc := bl_subD hD [3, 4, 5] [[ob t2 3 [.ref o2, .ref q2]], wS G o2 d1 d2 d3 d4 σ, wT G q2 d5 d6 cvf cmf] (by decide) rfl
        refine g_VB (bc := [[ob t2 3 [.ref o2, .ref q2]], wS G o2 d1 d2 d3 d4 σ, wT G q2 d5 d6 cvf cmf]) (k_W (q0 := 0) (ci := 3) (n := 0) (As := []) (rest := []) hx hb hml hown hts (c_X3_pushAnewByNumbers (l := l) (G := G) (t := t2) (o := o2) (a1 := d1) (a2 := d2) (a3 := d3) (a4 := d4) (σ := σ) (q := q2) (b1 := d5) (b2 := d6) (cv := cvf) (cm := cmf) (hB := by first | assumption | omega) (hv := by first | assumption | omega) (hm := by first | assumption | omega)) gX5_endBy_X3_pushAnewByNumbers rfl rfl rfl (by decide +kernel) ⟨Nat.le_of_ble_eq_true rfl, Nat.le_of_ble_eq_true rfl⟩ rfl hK hPc hDc rfl rfl rfl hl.1 rfl (Nat.le_of_ble_eq_true rfl) dX5_endBy_46 ⟨Nat.le_of_ble_eq_true rfl, Nat.le_of_ble_eq_true rfl⟩) hP hD hS [3, 4, 5] (by decide) rfl (fun H locs hB46 back hS => ?_)
        obtain ⟨σ146, cv146, cm146, hq46, hb146, hb246, hb346, hP1⟩ := hB46
        obtain ⟨hP, hD⟩ := back [[ob t2 3 [.ref o2, .ref q2]], wS G o2 d1 d2 d3 d4 σ146, wT G q2 d5 d6 cv146 cm146] rfl hP1
        have hP : va_P G.1 vwCl (bl [[ob z 5 [.ref t, .ref t2, .ref h, .ref x]], [ob t 3 [.ref o, .ref q]], wS G o a1 a2 a3 a4 σ, [ob t2 3 [.ref o2, .ref q2]], wS G o2 d1 d2 d3 d4 σ146, wT G q2 d5 d6 cv146 cm146]) H := hP
        have hD : va_D A (bl [[ob z 5 [.ref t, .ref t2, .ref h, .ref x]], [ob t 3 [.ref o, .ref q]], wS G o a1 a2 a3 a4 σ, [ob t2 3 [.ref o2, .ref q2]], wS G o2 d1 d2 d3 d4 σ146, wT G q2 d5 d6 cv146 cm146]) := hD
        refine lv_aload_n hx hb dX5_endBy_49 rfl (lv_at hl 0 rfl) ?_
        refine va_get (D := G.1) (ci := 5) (v := .ref t2) (C := RX5) (T := TX5) (N := 4) hx hb hts iqX5_endBy_ok_X5 hown hK.1 hP 0 rfl rfl 1 (by decide) (hts (.fieldLink RX5 16 "PushedTables" "forecast" "LPushedTables$Table;") (List.mem_of_getElem? (i := 1) rfl)) (fun _ h9 => h9) rfl dX5_endBy_50 ?_
        refine va_get (D := G.1) (ci := 3) (v := .ref q2) (C := RX3) (T := TX3) (N := 2) hx hb hts iqX5_endBy_ok_X3 hown hK.1 hP 7 rfl rfl 1 (by decide) (hts (.fieldLink RX5 92 "PushedTables$Table" "store" "LPushedTables$Store;") (List.mem_of_getElem? (i := 4) rfl)) (fun _ h9 => h9) rfl dX5_endBy_53 ?_
        have hPc := bl_sub hP (is := [5]) (bc := [wT G q2 d5 d6 cv146 cm146]) rfl
        have hDc := bl_subD hD [5] [wT G q2 d5 d6 cv146 cm146] (by decide) rfl
        refine g_ro (k_W (q0 := 0) (ci := 2) (n := 0) (As := []) (rest := []) hx hb hml hown hts (c_X2_endOfCells (l := l) (G := G) (q := q2) (b1 := d5) (b2 := d6) (cv := cv146) (cm := cm146) (hv := by first | assumption | omega) (hm := by first | assumption | omega)) gX5_endBy_X2_endOfCells rfl rfl rfl (by decide +kernel) ⟨Nat.le_of_ble_eq_true rfl, Nat.le_of_ble_eq_true rfl⟩ rfl hK hPc hDc rfl rfl rfl hl.1 rfl (Nat.le_of_ble_eq_true rfl) dX5_endBy_56 ⟨Nat.le_of_ble_eq_true rfl, Nat.le_of_ble_eq_true rfl⟩) (fun r56 h56 => ?_)
        obtain rfl : (nI (endc cm146)) = r56 := Eq.symm h56
        have b56 := endc_le cm146
        exact hret _ _ _ _ _ hS dX5_endBy_59 (⟨σ146, cv146, cm146, rfl, by rw [if_neg cq1]; exact hq46, by first | assumption | omega, by first | assumption | omega, by first | assumption | omega, hP⟩)
      · refine lv_aload_n hx hb dX5_endBy_32 rfl (lv_at hl 0 rfl) ?_
        refine va_get (D := G.1) (ci := 5) (v := .ref t2) (C := RX5) (T := TX5) (N := 4) hx hb hts iqX5_endBy_ok_X5 hown hK.1 hP 0 rfl rfl 1 (by decide) (hts (.fieldLink RX5 16 "PushedTables" "forecast" "LPushedTables$Table;") (List.mem_of_getElem? (i := 1) rfl)) (fun _ h9 => h9) rfl dX5_endBy_33 ?_
        have hPc := bl_sub hP (is := [3, 4, 5]) (bc := [[ob t2 3 [.ref o2, .ref q2]], wS G o2 d1 d2 d3 d4 σ, wT G q2 d5 d6 cvf cmf]) rfl
        have hDc := bl_subD hD [3, 4, 5] [[ob t2 3 [.ref o2, .ref q2]], wS G o2 d1 d2 d3 d4 σ, wT G q2 d5 d6 cvf cmf] (by decide) rfl
        refine g_VB (bc := [[ob t2 3 [.ref o2, .ref q2]], wS G o2 d1 d2 d3 d4 σ, wT G q2 d5 d6 cvf cmf]) (k_W (q0 := 0) (ci := 3) (n := 0) (As := []) (rest := []) hx hb hml hown hts (c_X3_pushAnewByWeights (l := l) (G := G) (t := t2) (o := o2) (a1 := d1) (a2 := d2) (a3 := d3) (a4 := d4) (σ := σ) (q := q2) (b1 := d5) (b2 := d6) (cv := cvf) (cm := cmf) (hB := by first | assumption | omega) (hv := by first | assumption | omega) (hm := by first | assumption | omega)) gX5_endBy_X3_pushAnewByWeights rfl rfl rfl (by decide +kernel) ⟨Nat.le_of_ble_eq_true rfl, Nat.le_of_ble_eq_true rfl⟩ rfl hK hPc hDc rfl rfl rfl hl.1 rfl (Nat.le_of_ble_eq_true rfl) dX5_endBy_36 ⟨Nat.le_of_ble_eq_true rfl, Nat.le_of_ble_eq_true rfl⟩) hP hD hS [3, 4, 5] (by decide) rfl (fun H locs hB36 back hS => ?_)
        obtain ⟨σ136, cv136, cm136, hq36, hb136, hb236, hb336, hP1⟩ := hB36
        obtain ⟨hP, hD⟩ := back [[ob t2 3 [.ref o2, .ref q2]], wS G o2 d1 d2 d3 d4 σ136, wT G q2 d5 d6 cv136 cm136] rfl hP1
        have hP : va_P G.1 vwCl (bl [[ob z 5 [.ref t, .ref t2, .ref h, .ref x]], [ob t 3 [.ref o, .ref q]], wS G o a1 a2 a3 a4 σ, [ob t2 3 [.ref o2, .ref q2]], wS G o2 d1 d2 d3 d4 σ136, wT G q2 d5 d6 cv136 cm136]) H := hP
        have hD : va_D A (bl [[ob z 5 [.ref t, .ref t2, .ref h, .ref x]], [ob t 3 [.ref o, .ref q]], wS G o a1 a2 a3 a4 σ, [ob t2 3 [.ref o2, .ref q2]], wS G o2 d1 d2 d3 d4 σ136, wT G q2 d5 d6 cv136 cm136]) := hD
        refine lv_goto (tgt := 49) hx hb dX5_endBy_39 (by decide) ?_
        refine lv_aload_n hx hb dX5_endBy_49 rfl (lv_at hl 0 rfl) ?_
        refine va_get (D := G.1) (ci := 5) (v := .ref t2) (C := RX5) (T := TX5) (N := 4) hx hb hts iqX5_endBy_ok_X5 hown hK.1 hP 0 rfl rfl 1 (by decide) (hts (.fieldLink RX5 16 "PushedTables" "forecast" "LPushedTables$Table;") (List.mem_of_getElem? (i := 1) rfl)) (fun _ h9 => h9) rfl dX5_endBy_50 ?_
        refine va_get (D := G.1) (ci := 3) (v := .ref q2) (C := RX3) (T := TX3) (N := 2) hx hb hts iqX5_endBy_ok_X3 hown hK.1 hP 7 rfl rfl 1 (by decide) (hts (.fieldLink RX5 92 "PushedTables$Table" "store" "LPushedTables$Store;") (List.mem_of_getElem? (i := 4) rfl)) (fun _ h9 => h9) rfl dX5_endBy_53 ?_
        have hPc := bl_sub hP (is := [5]) (bc := [wT G q2 d5 d6 cv136 cm136]) rfl
        have hDc := bl_subD hD [5] [wT G q2 d5 d6 cv136 cm136] (by decide) rfl
        refine g_ro (k_W (q0 := 0) (ci := 2) (n := 0) (As := []) (rest := []) hx hb hml hown hts (c_X2_endOfCells (l := l) (G := G) (q := q2) (b1 := d5) (b2 := d6) (cv := cv136) (cm := cm136) (hv := by first | assumption | omega) (hm := by first | assumption | omega)) gX5_endBy_X2_endOfCells rfl rfl rfl (by decide +kernel) ⟨Nat.le_of_ble_eq_true rfl, Nat.le_of_ble_eq_true rfl⟩ rfl hK hPc hDc rfl rfl rfl hl.1 rfl (Nat.le_of_ble_eq_true rfl) dX5_endBy_56 ⟨Nat.le_of_ble_eq_true rfl, Nat.le_of_ble_eq_true rfl⟩) (fun r56 h56 => ?_)
        obtain rfl : (nI (endc cm136)) = r56 := Eq.symm h56
        have b56 := endc_le cm136
        exact hret _ _ _ _ _ hS dX5_endBy_59 (⟨σ136, cv136, cm136, rfl, absurd cq29 cq1, by first | assumption | omega, by first | assumption | omega, by first | assumption | omega, hP⟩)
    · exact absurd (show w = 1 by omega) cq6

theorem iqX5_addRowOfText_X5 : ∀ w ∈ u_ws RX5 TX5 4, w ∈ wsX5_addRowOfText := by decide +kernel
theorem iqX5_addRowOfText_X3 : ∀ w ∈ u_ws RX3 TX3 2, w ∈ wsX5_addRowOfText := by decide +kernel
set_option maxHeartbeats 1000000 in
set_option maxRecDepth 100000 in
theorem c_X5_addRowOfText (l : Launch) (G : kG) (z t t2 h x : Nat) (o a1 a2 a3 a4 : Nat) (σ : Sg) (q b1 b2 : Nat) (cv cm : Nat → Nat) (hB : Bd σ) (hv : Bc 100 cv) (hm : Bc 24 cm) (g1 g2 g3 L pl nu np rr : Nat) (tx td tv : Nat → Nat) (hL : L ≤ 100) (ht : ∀ k, tx k < 256) (htd : ∀ k, td k < 100) (htv : ∀ k, tv k < 100) (i : Nat) (hi : i < 24) (hn : nn σ < 24) : Met l yX5_addRowOfText wsX5_addRowOfText ({ frames := 5, cells := 0, slots := 0, locals := 116 } : Room) (cP G [.ref z, .int (nI i)] (bl [[ob z 5 [.ref t, .ref t2, .ref h, .ref x]], [ob t 3 [.ref o, .ref q]], wS G o a1 a2 a3 a4 σ, wT G q b1 b2 cv cm, wX G x g1 g2 g3 L pl nu np rr tx td tv])) (qV (fun H => ∃ (σ1 : Sg) (cv1 : Nat → Nat) (cm1 : Nat → Nat), (σ1, cv1, cm1) = adT (σ, cv, cm) (td i) (fun c => tv (i * 16 + c)) ∧ Bd σ1 ∧ Bc 100 cv1 ∧ Bc 24 cm1 ∧ va_P G.1 vwCl (bl [[ob z 5 [.ref t, .ref t2, .ref h, .ref x]], [ob t 3 [.ref o, .ref q]], wS G o a1 a2 a3 a4 σ1, wT G q b1 b2 cv1 cm1, wX G x g1 g2 g3 L pl nu np rr tx td tv]) H) (mA (bl [[ob z 5 [.ref t, .ref t2, .ref h, .ref x]], [ob t 3 [.ref o, .ref q]], wS G o a1 a2 a3 a4 σ, wT G q b1 b2 cv cm, wX G x g1 g2 g3 L pl nu np rr tx td tv]))) 0 0 (mA (bl [[ob z 5 [.ref t, .ref t2, .ref h, .ref x]], [ob t 3 [.ref o, .ref q]], wS G o a1 a2 a3 a4 σ, wT G q b1 b2 cv cm, wX G x g1 g2 g3 L pl nu np rr tx td tv])) := by
  refine met_muV (cc := cX5_addRowOfText) (maxL := 4) (own := RX5) (by decide) rfl rfl (Nat.le_of_ble_eq_true rfl) ?_
  intro p e s m args below meth cod Q A hx hb hml hown hts hK hP hD hS hret ls hl
  have hl : lv_has ls 4 [(0, .ref z), (1, .int (nI i))] := hl
  have htdi := htd i
  have htw : ∀ c, (fun c => tv (i * 16 + c)) c < 100 := fun c => htv _
  refine lv_aload_n hx hb dX5_addRowOfText_0 rfl (lv_at hl 0 rfl) ?_
  refine va_get (D := G.1) (ci := 5) (v := .ref t) (C := RX5) (T := TX5) (N := 4) hx hb hts iqX5_addRowOfText_X5 hown hK.1 hP 0 rfl rfl 0 (by decide) (hts (.fieldLink RX5 12 "PushedTables" "table" "LPushedTables$Table;") (List.mem_of_getElem? (i := 1) rfl)) (fun _ h9 => h9) rfl dX5_addRowOfText_1 ?_
  refine va_get (D := G.1) (ci := 3) (v := .ref o) (C := RX3) (T := TX3) (N := 2) hx hb hts iqX5_addRowOfText_X3 hown hK.1 hP 1 rfl rfl 0 (by decide) (hts (.fieldLink RX5 37 "PushedTables$Table" "state" "LPushedTables$State;") (List.mem_of_getElem? (i := 2) rfl)) (fun _ h9 => h9) rfl dX5_addRowOfText_4 ?_
  refine lv_aload_n hx hb dX5_addRowOfText_7 rfl (lv_at hl 0 rfl) ?_
  refine va_get (D := G.1) (ci := 5) (v := .ref x) (C := RX5) (T := TX5) (N := 4) hx hb hts iqX5_addRowOfText_X5 hown hK.1 hP 0 rfl rfl 3 (by decide) (hts (.fieldLink RX5 29 "PushedTables" "text" "LPushedTables$Text;") (List.mem_of_getElem? (i := 3) rfl)) (fun _ h9 => h9) rfl dX5_addRowOfText_8 ?_
  refine lv_iload_n hx hb dX5_addRowOfText_11 rfl (lv_at hl 1 rfl) ?_
  have hPc := bl_sub hP (is := [4]) (bc := [wX G x g1 g2 g3 L pl nu np rr tx td tv]) rfl
  have hDc := bl_subD hD [4] [wX G x g1 g2 g3 L pl nu np rr tx td tv] (by decide) rfl
  refine g_ro (k_W (q0 := 0) (ci := 4) (n := 1) (As := [.int (nI i)]) (rest := [.ref o]) hx hb hml hown hts (c_X4_defaultRead (l := l) (G := G) (x := x) (g1 := g1) (g2 := g2) (g3 := g3) (L := L) (pl := pl) (nu := nu) (np := np) (rr := rr) (t := tx) (td := td) (tv := tv) (hL := by first | assumption | omega) (ht := by first | assumption | omega) (r := i) (hr := by first | assumption | omega)) gX5_addRowOfText_X4_defaultRead rfl rfl rfl (by decide +kernel) ⟨Nat.le_of_ble_eq_true rfl, Nat.le_of_ble_eq_true rfl⟩ rfl hK hPc hDc rfl rfl rfl hl.1 rfl (Nat.le_of_ble_eq_true rfl) dX5_addRowOfText_12 ⟨Nat.le_of_ble_eq_true rfl, Nat.le_of_ble_eq_true rfl⟩) (fun r12 h12 => ?_)
  obtain rfl : (nI (td i)) = r12 := Eq.symm h12
  have hPc := bl_sub hP (is := [2]) (bc := [wS G o a1 a2 a3 a4 σ]) rfl
  have hDc := bl_subD hD [2] [wS G o a1 a2 a3 a4 σ] (by decide) rfl
  refine g_IB (bc := [wS G o a1 a2 a3 a4 σ]) (k_W (q0 := 0) (ci := 1) (n := 1) (As := [.int (nI (td i))]) (rest := []) hx hb hml hown hts (c_X1_addRow (l := l) (G := G) (o := o) (a1 := a1) (a2 := a2) (a3 := a3) (a4 := a4) (σ := σ) (v := td i) (hB := by first | assumption | omega) (hn := by first | assumption | omega) (hv := by first | assumption | omega)) gX5_addRowOfText_X1_addRow rfl rfl rfl (by decide +kernel) ⟨Nat.le_of_ble_eq_true rfl, Nat.le_of_ble_eq_true rfl⟩ rfl hK hPc hDc rfl rfl rfl hl.1 rfl (Nat.le_of_ble_eq_true rfl) dX5_addRowOfText_15 ⟨Nat.le_of_ble_eq_true rfl, Nat.le_of_ble_eq_true rfl⟩) hP hD hS [2] (by decide) rfl (fun r15 H locs hB15 back hS => ?_)
  obtain ⟨he15, hP1⟩ := hB15
  obtain rfl := Eq.symm he15
  obtain ⟨hP, hD⟩ := back [wS G o a1 a2 a3 a4 (adS σ (td i))] rfl hP1
  have hP : va_P G.1 vwCl (bl [[ob z 5 [.ref t, .ref t2, .ref h, .ref x]], [ob t 3 [.ref o, .ref q]], wS G o a1 a2 a3 a4 (adS σ (td i)), wT G q b1 b2 cv cm, wX G x g1 g2 g3 L pl nu np rr tx td tv]) H := hP
  have hD : va_D A (bl [[ob z 5 [.ref t, .ref t2, .ref h, .ref x]], [ob t 3 [.ref o, .ref q]], wS G o a1 a2 a3 a4 (adS σ (td i)), wT G q b1 b2 cv cm, wX G x g1 g2 g3 L pl nu np rr tx td tv]) := hD
  refine lv_istore_n (lv' := [(2, .int (nI (nn σ))), (0, .ref z), (1, .int (nI i))]) hx hb dX5_addRowOfText_18 rfl hl (by decide) rfl (fun ls hl => ?_)
  have h24 := hB.n
  refine lv_iload_n hx hb dX5_addRowOfText_19 rfl (lv_at hl 0 rfl) ?_
  refine lv_bipush (v := (e9 1000)) hx hb dX5_addRowOfText_20 (by decide) ?_
  refine r_icmp_ne (P := 1000 = (nn σ)) (tgt := 26) hx hb dX5_addRowOfText_22 (by decide) (nI_e9 (by omega) (by omega)) (fun cq22 => ?_) (fun cq22 => ?_)
  · refine lv_iconst (v := (nI 0)) hx hb dX5_addRowOfText_26 (by decide) ?_
    refine lv_istore_n (lv' := [(3, .int (nI 0)), (2, .int (nI (nn σ))), (0, .ref z), (1, .int (nI i))]) hx hb dX5_addRowOfText_27 rfl hl (by decide) rfl (fun ls hl => ?_)
    have L28 : ∀ (fu : Nat) (c : Nat) (gv : Nat → Nat), 17 - c < fu → c ≤ 16 → gv = rwV σ (td i) (fun c => tv (i * 16 + c)) c → ∀ (H : Heap) (locs : List Loc), va_P G.1 vwCl (bl [[ob z 5 [.ref t, .ref t2, .ref h, .ref x]], [ob t 3 [.ref o, .ref q]], wS G o a1 a2 a3 a4 (nn (adS σ (td i)), dd (adS σ (td i)), gv, ff (adS σ (td i)), ss (adS σ (td i))), wT G q b1 b2 cv cm, wX G x g1 g2 g3 L pl nu np rr tx td tv]) H → va_D A (bl [[ob z 5 [.ref t, .ref t2, .ref h, .ref x]], [ob t 3 [.ref o, .ref q]], wS G o a1 a2 a3 a4 (nn (adS σ (td i)), dd (adS σ (td i)), gv, ff (adS σ (td i)), ss (adS σ (td i))), wT G q b1 b2 cv cm, wX G x g1 g2 g3 L pl nu np rr tx td tv]) → va_S A s.heap H locs → ∀ (ls : Array Slot), lv_has ls 4 [(0, .ref z), (1, .int (nI i)), (2, .int (nI (nn σ))), (3, .int (nI c))] → W p l e ({ frames := 5, cells := 0, slots := 0, locals := 116 } : Room) s m args below meth cod H locs 0 0 Q (F0 m 28 ls []) := by
      intro fu
      induction fu with
      | zero => intro c gv hm; exact absurd hm (Nat.not_lt_zero _)
      | succ fu ih28 =>
        intro c gv hm28 hc hg H locs hP hD hS ls hl
        have hP : va_P G.1 vwCl (bl [[ob z 5 [.ref t, .ref t2, .ref h, .ref x]], [ob t 3 [.ref o, .ref q]], wS G o a1 a2 a3 a4 (nn (adS σ (td i)), dd (adS σ (td i)), gv, ff (adS σ (td i)), ss (adS σ (td i))), wT G q b1 b2 cv cm, wX G x g1 g2 g3 L pl nu np rr tx td tv]) H := hP
        have hD : va_D A (bl [[ob z 5 [.ref t, .ref t2, .ref h, .ref x]], [ob t 3 [.ref o, .ref q]], wS G o a1 a2 a3 a4 (nn (adS σ (td i)), dd (adS σ (td i)), gv, ff (adS σ (td i)), ss (adS σ (td i))), wT G q b1 b2 cv cm, wX G x g1 g2 g3 L pl nu np rr tx td tv]) := hD
        refine lv_iload_n hx hb dX5_addRowOfText_28 rfl (lv_at hl 3 rfl) ?_
        refine lv_bipush (v := (nI 16)) hx hb dX5_addRowOfText_29 (by decide) ?_
        refine r_icmp_ge (P := 16 ≤ c) (tgt := 61) hx hb dX5_addRowOfText_31 (by decide) (nI_leI (by omega) (by omega)) (fun cq31 => ?_) (fun cq31 => ?_)
        · obtain rfl : c = 16 := by omega
          have hB2 : Bd (nn σ + 1, va_up (dd σ) (nn σ) (td i), gv, va_up (ff σ) (nn σ) 1000, ss σ) := by rw [hg]; exact Bd_rwS hB hn htdi htw
          refine lv_aload_n hx hb dX5_addRowOfText_61 rfl (lv_at hl 0 rfl) ?_
          refine va_get (D := G.1) (ci := 5) (v := .ref t) (C := RX5) (T := TX5) (N := 4) hx hb hts iqX5_addRowOfText_X5 hown hK.1 hP 0 rfl rfl 0 (by decide) (hts (.fieldLink RX5 12 "PushedTables" "table" "LPushedTables$Table;") (List.mem_of_getElem? (i := 1) rfl)) (fun _ h9 => h9) rfl dX5_addRowOfText_62 ?_
          refine lv_iload_n hx hb dX5_addRowOfText_65 rfl (lv_at hl 2 rfl) ?_
          have hPc := bl_sub hP (is := [1, 2, 3]) (bc := [[ob t 3 [.ref o, .ref q]], wS G o a1 a2 a3 a4 (nn (adS σ (td i)), dd (adS σ (td i)), gv, ff (adS σ (td i)), ss (adS σ (td i))), wT G q b1 b2 cv cm]) rfl
          have hDc := bl_subD hD [1, 2, 3] [[ob t 3 [.ref o, .ref q]], wS G o a1 a2 a3 a4 (nn (adS σ (td i)), dd (adS σ (td i)), gv, ff (adS σ (td i)), ss (adS σ (td i))), wT G q b1 b2 cv cm] (by decide) rfl
          refine g_VB (bc := [[ob t 3 [.ref o, .ref q]], wS G o a1 a2 a3 a4 (nn (adS σ (td i)), dd (adS σ (td i)), gv, ff (adS σ (td i)), ss (adS σ (td i))), wT G q b1 b2 cv cm]) (k_W (q0 := 0) (ci := 3) (n := 1) (As := [.int (nI (nn σ))]) (rest := []) hx hb hml hown hts (c_X3_settle (l := l) (G := G) (t := t) (o := o) (a1 := a1) (a2 := a2) (a3 := a3) (a4 := a4) (σ := (nn (adS σ (td i)), dd (adS σ (td i)), gv, ff (adS σ (td i)), ss (adS σ (td i)))) (q := q) (b1 := b1) (b2 := b2) (cv := cv) (cm := cm) (hB := by first | assumption | omega) (hv := by first | assumption | omega) (hm := by first | assumption | omega) (r := nn σ) (hr := by first | assumption | omega)) gX5_addRowOfText_X3_settle rfl rfl rfl (by decide +kernel) ⟨Nat.le_of_ble_eq_true rfl, Nat.le_of_ble_eq_true rfl⟩ rfl hK hPc hDc rfl rfl rfl hl.1 rfl (Nat.le_of_ble_eq_true rfl) dX5_addRowOfText_66 ⟨Nat.le_of_ble_eq_true rfl, Nat.le_of_ble_eq_true rfl⟩) hP hD hS [1, 2, 3] (by decide) rfl (fun H locs hB66 back hS => ?_)
          obtain ⟨σ166, cv166, cm166, hq66, hb166, hb266, hb366, hP1⟩ := hB66
          obtain ⟨hP, hD⟩ := back [[ob t 3 [.ref o, .ref q]], wS G o a1 a2 a3 a4 σ166, wT G q b1 b2 cv166 cm166] rfl hP1
          have hP : va_P G.1 vwCl (bl [[ob z 5 [.ref t, .ref t2, .ref h, .ref x]], [ob t 3 [.ref o, .ref q]], wS G o a1 a2 a3 a4 σ166, wT G q b1 b2 cv166 cm166, wX G x g1 g2 g3 L pl nu np rr tx td tv]) H := hP
          have hD : va_D A (bl [[ob z 5 [.ref t, .ref t2, .ref h, .ref x]], [ob t 3 [.ref o, .ref q]], wS G o a1 a2 a3 a4 σ166, wT G q b1 b2 cv166 cm166, wX G x g1 g2 g3 L pl nu np rr tx td tv]) := hD
          exact hret _ _ _ _ hS dX5_addRowOfText_69 (⟨σ166, cv166, cm166, by rw [hg] at hq66; exact hq66, by first | assumption | omega, by first | assumption | omega, by first | assumption | omega, hP⟩)
        · refine lv_aload_n hx hb dX5_addRowOfText_34 rfl (lv_at hl 0 rfl) ?_
          refine va_get (D := G.1) (ci := 5) (v := .ref t) (C := RX5) (T := TX5) (N := 4) hx hb hts iqX5_addRowOfText_X5 hown hK.1 hP 0 rfl rfl 0 (by decide) (hts (.fieldLink RX5 12 "PushedTables" "table" "LPushedTables$Table;") (List.mem_of_getElem? (i := 1) rfl)) (fun _ h9 => h9) rfl dX5_addRowOfText_35 ?_
          refine va_get (D := G.1) (ci := 3) (v := .ref o) (C := RX3) (T := TX3) (N := 2) hx hb hts iqX5_addRowOfText_X3 hown hK.1 hP 1 rfl rfl 0 (by decide) (hts (.fieldLink RX5 37 "PushedTables$Table" "state" "LPushedTables$State;") (List.mem_of_getElem? (i := 2) rfl)) (fun _ h9 => h9) rfl dX5_addRowOfText_38 ?_
          refine lv_iload_n hx hb dX5_addRowOfText_41 rfl (lv_at hl 2 rfl) ?_
          refine lv_iload_n hx hb dX5_addRowOfText_42 rfl (lv_at hl 3 rfl) ?_
          refine lv_aload_n hx hb dX5_addRowOfText_43 rfl (lv_at hl 0 rfl) ?_
          refine va_get (D := G.1) (ci := 5) (v := .ref x) (C := RX5) (T := TX5) (N := 4) hx hb hts iqX5_addRowOfText_X5 hown hK.1 hP 0 rfl rfl 3 (by decide) (hts (.fieldLink RX5 29 "PushedTables" "text" "LPushedTables$Text;") (List.mem_of_getElem? (i := 3) rfl)) (fun _ h9 => h9) rfl dX5_addRowOfText_44 ?_
          refine lv_iload_n hx hb dX5_addRowOfText_47 rfl (lv_at hl 1 rfl) ?_
          refine lv_iload_n hx hb dX5_addRowOfText_48 rfl (lv_at hl 3 rfl) ?_
          have hPc := bl_sub hP (is := [4]) (bc := [wX G x g1 g2 g3 L pl nu np rr tx td tv]) rfl
          have hDc := bl_subD hD [4] [wX G x g1 g2 g3 L pl nu np rr tx td tv] (by decide) rfl
          refine g_ro (k_W (q0 := 0) (ci := 4) (n := 2) (As := [.int (nI i), .int (nI c)]) (rest := [.int (nI c), .int (nI (nn σ)), .ref o]) hx hb hml hown hts (c_X4_valueRead (l := l) (G := G) (x := x) (g1 := g1) (g2 := g2) (g3 := g3) (L := L) (pl := pl) (nu := nu) (np := np) (rr := rr) (t := tx) (td := td) (tv := tv) (hL := by first | assumption | omega) (ht := by first | assumption | omega) (r := i) (c := c) (hr := by first | assumption | omega) (hc := by first | assumption | omega)) gX5_addRowOfText_X4_valueRead rfl rfl rfl (by decide +kernel) ⟨Nat.le_of_ble_eq_true rfl, Nat.le_of_ble_eq_true rfl⟩ rfl hK hPc hDc rfl rfl rfl hl.1 rfl (Nat.le_of_ble_eq_true rfl) dX5_addRowOfText_49 ⟨Nat.le_of_ble_eq_true rfl, Nat.le_of_ble_eq_true rfl⟩) (fun r49 h49 => ?_)
          obtain rfl : (nI (tv (i * 16 + c))) = r49 := Eq.symm h49
          have hPc := bl_sub hP (is := [2]) (bc := [wS G o a1 a2 a3 a4 (nn (adS σ (td i)), dd (adS σ (td i)), gv, ff (adS σ (td i)), ss (adS σ (td i)))]) rfl
          have hDc := bl_subD hD [2] [wS G o a1 a2 a3 a4 (nn (adS σ (td i)), dd (adS σ (td i)), gv, ff (adS σ (td i)), ss (adS σ (td i)))] (by decide) rfl
          refine g_VB (bc := [wS G o a1 a2 a3 a4 (nn (adS σ (td i)), dd (adS σ (td i)), gv, ff (adS σ (td i)), ss (adS σ (td i)))]) (k_W (q0 := 0) (ci := 1) (n := 3) (As := [.int (nI (nn σ)), .int (nI c), .int (nI (tv (i * 16 + c)))]) (rest := []) hx hb hml hown hts (c_X1_changeValue (l := l) (G := G) (o := o) (a1 := a1) (a2 := a2) (a3 := a3) (a4 := a4) (σ := (nn (adS σ (td i)), dd (adS σ (td i)), gv, ff (adS σ (td i)), ss (adS σ (td i)))) (r := nn σ) (c := c) (v := tv (i * 16 + c)) (hr := by first | assumption | omega) (hc := by first | assumption | omega)) gX5_addRowOfText_X1_changeValue rfl rfl rfl (by decide +kernel) ⟨Nat.le_of_ble_eq_true rfl, Nat.le_of_ble_eq_true rfl⟩ rfl hK hPc hDc rfl rfl rfl hl.1 rfl (Nat.le_of_ble_eq_true rfl) dX5_addRowOfText_52 ⟨Nat.le_of_ble_eq_true rfl, Nat.le_of_ble_eq_true rfl⟩) hP hD hS [2] (by decide) rfl (fun H locs hB52 back hS => ?_)
          have hP1 := hB52
          obtain ⟨hP, hD⟩ := back [wS G o a1 a2 a3 a4 ((nn (adS σ (td i))), (dd (adS σ (td i))), va_up (gv) ((nn σ) * 16 + c) (tv (i * 16 + c)), (ff (adS σ (td i))), (ss (adS σ (td i))))] rfl hP1
          have hP : va_P G.1 vwCl (bl [[ob z 5 [.ref t, .ref t2, .ref h, .ref x]], [ob t 3 [.ref o, .ref q]], wS G o a1 a2 a3 a4 ((nn (adS σ (td i))), (dd (adS σ (td i))), va_up (gv) ((nn σ) * 16 + c) (tv (i * 16 + c)), (ff (adS σ (td i))), (ss (adS σ (td i)))), wT G q b1 b2 cv cm, wX G x g1 g2 g3 L pl nu np rr tx td tv]) H := hP
          have hD : va_D A (bl [[ob z 5 [.ref t, .ref t2, .ref h, .ref x]], [ob t 3 [.ref o, .ref q]], wS G o a1 a2 a3 a4 ((nn (adS σ (td i))), (dd (adS σ (td i))), va_up (gv) ((nn σ) * 16 + c) (tv (i * 16 + c)), (ff (adS σ (td i))), (ss (adS σ (td i)))), wT G q b1 b2 cv cm, wX G x g1 g2 g3 L pl nu np rr tx td tv]) := hD
          refine r_iinc (v := c + 1) (lv' := [(3, .int (nI (c + 1))), (0, .ref z), (1, .int (nI i)), (2, .int (nI (nn σ)))]) hx hb dX5_addRowOfText_55 hl (k := 3) rfl (nI_1 _) (by decide) rfl (fun ls hl => ?_)
          refine lv_goto (tgt := 28) hx hb dX5_addRowOfText_58 (by decide) ?_
          exact ih28 (c + 1) (va_up (gv) ((nn σ) * 16 + c) (tv (i * 16 + c))) (by omega) (by omega) (by rw [hg]; exact rwV_s σ (td i) (fun c => tv (i * 16 + c)) c) _ _ hP hD hS ls (lv_sub hl [1, 2, 3, 0] rfl)
    exact L28 ((17 - 0) + 1) 0 (vv (adS σ (td i))) (Nat.lt_succ_self _) (by omega) (rwV_0 σ (td i) _) _ _ hP hD hS ls (lv_sub hl [2, 3, 1, 0] rfl)
  · omega
