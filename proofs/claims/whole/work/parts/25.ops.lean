/-! the reference: rows that change -/
theorem msk_of {p : Nat → Bool} {x : Nat} (hx : x < 65536) (h : ∀ j, j < 16 → x.testBit j = p j) : x = msk p 16 := by
  refine Nat.eq_of_testBit_eq (fun j => ?_)
  rcases Nat.lt_or_ge j 16 with q | q
  · rw [h j q, msk_bit p 16 j q]
  · have e : ∀ y : Nat, y < 65536 → y.testBit j = false := fun y hy => Nat.testBit_lt_two_pow (Nat.lt_of_lt_of_le hy (Nat.pow_le_pow_right (n := 2) (i := 16) (by decide) q))
    rw [e _ hx, e _ (msk_16 p)]
def clr (m c : Nat) : Nat := msk (fun j => m.testBit j && decide (j ≠ c)) 16
theorem bt_nI (m : Nat) {i : Nat} (h : i < 32) : bt (nI m) i = m.testBit i := by
  show (BitVec.ofNat 32 m).getLsbD i = _
  rw [BitVec.getLsbD_ofNat, decide_eq_true h, Bool.true_and]
theorem bit_clr {m c : Nat} (hm : m < 65536) (hc : c < 16) : nI m &&& (nI (2 ^ c) ^^^ (-1)) = nI (clr m c) := by
  refine b_ext (fun i hi => ?_)
  rw [b_and, b_xor, b_m1 i hi, bt_nI _ hi, bt_nI _ hi, bt_nI _ hi]
  rcases Nat.lt_or_ge i 16 with q | q
  · unfold clr
    rw [msk_bit _ _ _ q, Nat.testBit_two_pow]
    by_cases e : i = c
    · rw [e]; simp
    · have e2 : ¬ c = i := fun z => e z.symm
      simp [e, e2]
  · have t : ∀ y : Nat, y < 65536 → y.testBit i = false := fun y hy => Nat.testBit_lt_two_pow (Nat.lt_of_lt_of_le hy (Nat.pow_le_pow_right (n := 2) (i := 16) (by decide) q))
    rw [t m hm, t (clr m c) (msk_16 _), Bool.false_and]
theorem clr_bit {m c j : Nat} (hj : j < 16) : (clr m c).testBit j = (m.testBit j && decide (j ≠ c)) := msk_bit _ _ _ hj
theorem clr_lt (m c : Nat) : clr m c < 65536 := msk_16 _
/-- one value is changed -/
theorem ent_ch {σ : Sg} {r c v q j : Nat} (hc : c < 16) (hj : j < 16) : ent (chS σ (r * 16 + c) v) q j = if q = r ∧ j = c then decide (v ≠ dd σ r) else ent σ q j := by
  have e : ent (chS σ (r * 16 + c) v) q j = decide (va_up (vv σ) (r * 16 + c) v (q * 16 + j) ≠ dd σ q) := rfl
  rw [e]
  by_cases h : q = r ∧ j = c
  · obtain ⟨rfl, rfl⟩ := h
    rw [if_pos ⟨rfl, rfl⟩, up_s]
  · rw [if_neg h, up_n (by omega)]; rfl
theorem vv_ch {σ : Sg} {r c v q j : Nat} (hc : c < 16) (hj : j < 16) : vv (chS σ (r * 16 + c) v) (q * 16 + j) = if q = r ∧ j = c then v else vv σ (q * 16 + j) := by
  show va_up (vv σ) (r * 16 + c) v (q * 16 + j) = _
  by_cases h : q = r ∧ j = c
  · obtain ⟨rfl, rfl⟩ := h
    rw [if_pos ⟨rfl, rfl⟩, up_s]
  · rw [if_neg h, up_n (by omega)]
theorem cols_ct {σ : Sg} {r c v : Nat} (hc : c < 16) (h : ¬ v = dd σ r) : clr (cols σ r) c ||| 2 ^ c = cols (chS σ (r * 16 + c) v) r := by
  refine msk_of (Nat.or_lt_two_pow (n := 16) (clr_lt _ _) (Nat.pow_lt_pow_right (by decide) hc)) (fun j hj => ?_)
  rw [fb_bit_set, clr_bit hj, cols_bit σ r hj, ent_ch hc hj]
  by_cases e : j = c
  · rw [if_pos ⟨rfl, e⟩, decide_eq_true (p := j = c) e, Bool.or_true, decide_eq_true (p := v ≠ dd σ r) h]
  · rw [if_neg (fun z => e z.2), decide_eq_false (p := j = c) e, Bool.or_false, decide_eq_true (p := j ≠ c) e, Bool.and_true]
theorem cols_cf {σ : Sg} {r c v : Nat} (hc : c < 16) (h : v = dd σ r) : clr (cols σ r) c ||| 0 = cols (chS σ (r * 16 + c) v) r := by
  rw [Nat.or_zero]
  refine msk_of (clr_lt _ _) (fun j hj => ?_)
  rw [clr_bit hj, cols_bit σ r hj, ent_ch hc hj]
  by_cases e : j = c
  · rw [if_pos ⟨rfl, e⟩, decide_eq_false (p := j ≠ c) (fun z => z e), Bool.and_false, decide_eq_false (p := v ≠ dd σ r) (fun z => z h)]
  · rw [if_neg (fun z => e z.2), decide_eq_true (p := j ≠ c) e, Bool.and_true]
theorem cols_c1 {σ : Sg} {r c v : Nat} (hc : c < 16) (h : ¬ v = dd σ r) : cols σ r ||| 2 ^ c = cols (chS σ (r * 16 + c) v) r := by
  refine msk_of (Nat.or_lt_two_pow (n := 16) (cols_lt _ _) (Nat.pow_lt_pow_right (by decide) hc)) (fun j hj => ?_)
  rw [fb_bit_set, cols_bit σ r hj, ent_ch hc hj]
  by_cases e : j = c
  · rw [if_pos ⟨rfl, e⟩, decide_eq_true (p := j = c) e, Bool.or_true, decide_eq_true (p := v ≠ dd σ r) h]
  · rw [if_neg (fun z => e z.2), decide_eq_false (p := j = c) e, Bool.or_false]
theorem Rel_ch {σ : Sg} {f : Nat → Int32} (h : Rel σ f) (hn : nn σ ≤ 24) {r c v m : Nat} (hr : r < nn σ) (hc : c < 16) (hm : m = cols (chS σ (r * 16 + c) v) r) : Rel (chS σ (r * 16 + c) v) (upd (upd f (25 + r) (nI m)) (73 + 16 * r + c) (nI v)) := by
  refine ⟨?_, fun q hq => ?_, fun q hq => ?_, fun q hq => ?_, fun q j hq hj he => ?_, fun k hk => ?_⟩
  · rw [u_n (by omega), u_n (by omega)]; exact h.n
  · have hq' : q < nn σ := hq
    rw [u_n (by omega), u_n (by omega)]; exact h.d hq'
  · have hq' : q < nn σ := hq
    rw [u_n (by omega)]
    by_cases e : q = r
    · rw [e, u_s, hm]
    · rw [u_n (by omega), h.e hq']
      exact congrArg nI (cols_cong (fun j hj => by rw [ent_ch hc hj, if_neg (fun z => e z.1)]))
  · have hq' : q < nn σ := hq
    rw [u_n (by omega), u_n (by omega)]; exact h.f hq'
  · have hq' : q < nn σ := hq
    rw [vv_ch hc hj]
    by_cases e : q = r ∧ j = c
    · rw [if_pos e, e.1, e.2, u_s]
    · rw [ent_ch hc hj, if_neg e] at he
      rw [if_neg e, u_n (by omega), u_n (by omega)]; exact h.v hq' hj he
  · rw [u_n (by omega), u_n (by omega)]; exact h.s hk
/-- a row leaves its form: its values stay -/
theorem dd_lfT (σ : Sg) (r : Nat) : dd (lfT σ r) = dd σ := by unfold lfT; split <;> rfl
theorem vv_lfT (σ : Sg) (r : Nat) : vv (lfT σ r) = vv σ := by unfold lfT; split <;> rfl
theorem ent_lfT (σ : Sg) (r q j : Nat) : ent (lfT σ r) q j = ent σ q j := by unfold lfT; split <;> rfl
theorem cols_lfT (σ : Sg) (r q : Nat) : cols (lfT σ r) q = cols σ q := by unfold lfT; split <;> rfl
/-- what a new form wants -/
def FP (σ : Sg) (r : Nat) : Prop := (∀ q, q < nn σ → ff σ q ≠ 1000 → ss σ (ff σ q) ≤ 784) ∧ (cols σ r ≠ 0 → mnF σ r (nn σ) = 1000 → frf σ ≠ 1000)
noncomputable def rsetT (σ : Sg) (r c v : Nat) : Sg := if vv σ (r * 16 + c) = v then chS σ (r * 16 + c) v else fmT (chS (lfT σ r) (r * 16 + c) v) r
/-- the columns that are entries by another default -/
def ebF (σ : Sg) (r v : Nat) : Nat := msk (fun j => ent σ r j && decide (vv σ (r * 16 + j) ≠ v)) 16
def ebT (σ : Sg) (r v : Nat) : Nat := msk (fun j => decide (vv σ (r * 16 + j) ≠ v)) 16
theorem ebF_lt (σ : Sg) (r v : Nat) : ebF σ r v < 65536 := msk_16 _
theorem ebT_lt (σ : Sg) (r v : Nat) : ebT σ r v < 65536 := msk_16 _
theorem ent_cd {σ : Sg} {r v q j : Nat} (hj : j < 16) : ent (cdS σ r v) q j = if q = r then (ent σ r j && decide (vv σ (r * 16 + j) ≠ v)) else ent σ q j := by
  have e : ent (cdS σ r v) q j = decide (cdV σ r v 16 (q * 16 + j) ≠ va_up (dd σ) r v q) := rfl
  rw [e]
  by_cases h : q = r
  · subst h
    rw [if_pos rfl, up_s]
    unfold cdV
    by_cases h2 : vv σ (q * 16 + j) = dd σ q
    · rw [if_pos ⟨by omega, by omega, h2⟩, ent_f.mpr h2, Bool.false_and]
      exact decide_eq_false (fun z => z rfl)
    · rw [if_neg (fun z => h2 z.2.2), ent_t.mpr h2, Bool.true_and]
  · rw [if_neg h, up_n h]
    unfold cdV
    rw [if_neg (by omega)]; rfl
theorem vv_cd {σ : Sg} {r v q j : Nat} (hj : j < 16) (h : ent (cdS σ r v) q j = true) : vv (cdS σ r v) (q * 16 + j) = vv σ (q * 16 + j) ∧ ent σ q j = true := by
  rw [ent_cd hj] at h
  show cdV σ r v 16 (q * 16 + j) = _ ∧ _
  unfold cdV
  by_cases e : q = r
  · subst e
    rw [if_pos rfl, Bool.and_eq_true] at h
    have h1 := ent_t.mp h.1
    exact ⟨if_neg (fun z => h1 z.2.2), h.1⟩
  · rw [if_neg e] at h
    exact ⟨if_neg (by omega), h⟩
theorem cols_cd (σ : Sg) (r v : Nat) : ebF σ r v = cols (cdS σ r v) r := msk_cong (fun j hj => by rw [ent_cd hj, if_pos rfl])
theorem ebF_lfT (σ : Sg) (r v q : Nat) : ebF (lfT σ r) q v = ebF σ q v := by unfold lfT; split <;> rfl
theorem Rel_cd {σ : Sg} {f : Nat → Int32} (h : Rel σ f) (hn : nn σ ≤ 24) {r v m : Nat} (hr : r < nn σ) (hm : m = ebF σ r v) : Rel (cdS σ r v) (upd (upd f (25 + r) (nI m)) (1 + r) (nI v)) := by
  refine ⟨?_, fun q hq => ?_, fun q hq => ?_, fun q hq => ?_, fun q j hq hj he => ?_, fun k hk => ?_⟩
  · rw [u_n (by omega), u_n (by omega)]; exact h.n
  · have hq' : q < nn σ := hq
    show _ = nI (va_up (dd σ) r v q)
    by_cases e : q = r
    · rw [e, u_s, up_s]
    · rw [u_n (by omega), u_n (by omega), up_n e]; exact h.d hq'
  · have hq' : q < nn σ := hq
    rw [u_n (by omega)]
    by_cases e : q = r
    · rw [e, u_s, hm, cols_cd]
    · rw [u_n (by omega), h.e hq']
      exact congrArg nI (cols_cong (fun j hj => by rw [ent_cd hj, if_neg e]))
  · have hq' : q < nn σ := hq
    rw [u_n (by omega), u_n (by omega)]; exact h.f hq'
  · have hq' : q < nn σ := hq
    obtain ⟨a, b⟩ := vv_cd hj he
    rw [u_n (by omega), u_n (by omega), a]; exact h.v hq' hj b
  · rw [u_n (by omega), u_n (by omega)]; exact h.s hk
noncomputable def rsdT (σ : Sg) (r v : Nat) : Sg := if ebF σ r v = cols σ r then cdS σ r v else fmT (cdS (lfT σ r) r v) r
/-- another default, all values stay -/
abbrev slS (σ : Sg) (r v : Nat) : Sg := (nn σ, va_up (dd σ) r v, vv σ, ff σ, ss σ)
theorem ent_sl {σ : Sg} {r v q j : Nat} : ent (slS σ r v) q j = if q = r then decide (vv σ (r * 16 + j) ≠ v) else ent σ q j := by
  have e : ent (slS σ r v) q j = decide (vv σ (q * 16 + j) ≠ va_up (dd σ) r v q) := rfl
  rw [e]
  by_cases h : q = r
  · subst h; rw [if_pos rfl, up_s]
  · rw [if_neg h, up_n h]; rfl
theorem cols_sl (σ : Sg) (r v : Nat) : ebT σ r v = cols (slS σ r v) r := msk_cong (fun j _ => by rw [ent_sl, if_pos rfl])
theorem Rel_vv {σ : Sg} {f : Nat → Int32} (h : Rel σ f) (hn : nn σ ≤ 24) {r c : Nat} (hr : r < nn σ) (hc : c < 16) : Rel σ (upd f (73 + 16 * r + c) (nI (vv σ (r * 16 + c)))) := by
  refine ⟨?_, fun q hq => ?_, fun q hq => ?_, fun q hq => ?_, fun q j hq hj he => ?_, fun k hk => ?_⟩
  · rw [u_n (by omega)]; exact h.n
  · rw [u_n (by omega)]; exact h.d hq
  · rw [u_n (by omega)]; exact h.e hq
  · rw [u_n (by omega)]; exact h.f hq
  · by_cases e : q = r ∧ j = c
    · obtain ⟨rfl, rfl⟩ := e
      exact u_s
    · rw [u_n (by omega)]; exact h.v hq hj he
  · rw [u_n (by omega)]; exact h.s hk
theorem Rel_sl {σ : Sg} {g : Nat → Int32} (h : Rel σ g) (hn : nn σ ≤ 24) {r v m : Nat} (hr : r < nn σ) (hm : m = ebT σ r v) (hg2 : ∀ c, c < 16 → g (73 + 16 * r + c) = nI (vv σ (r * 16 + c))) : Rel (slS σ r v) (upd (upd g (25 + r) (nI m)) (1 + r) (nI v)) := by
  refine ⟨?_, fun q hq => ?_, fun q hq => ?_, fun q hq => ?_, fun q j hq hj he => ?_, fun k hk => ?_⟩
  · rw [u_n (by omega), u_n (by omega)]; exact h.n
  · have hq' : q < nn σ := hq
    show _ = nI (va_up (dd σ) r v q)
    by_cases e : q = r
    · rw [e, u_s, up_s]
    · rw [u_n (by omega), u_n (by omega), up_n e]; exact h.d hq'
  · have hq' : q < nn σ := hq
    rw [u_n (by omega)]
    by_cases e : q = r
    · rw [e, u_s, hm, cols_sl]
    · rw [u_n (by omega), h.e hq']
      exact congrArg nI (cols_cong (fun j hj => by rw [ent_sl, if_neg e]))
  · have hq' : q < nn σ := hq
    rw [u_n (by omega), u_n (by omega)]; exact h.f hq'
  · have hq' : q < nn σ := hq
    rw [u_n (by omega), u_n (by omega)]
    by_cases e : q = r
    · rw [e]; exact hg2 j hj
    · rw [ent_sl, if_neg e] at he
      exact h.v hq' hj he
  · rw [u_n (by omega), u_n (by omega)]; exact h.s hk
theorem up_vs {σ : Sg} {g : Nat → Int32} {r c j : Nat} (h : ∀ j, j < c → g (73 + 16 * r + j) = nI (vv σ (r * 16 + j))) (hj : j < c + 1) : upd g (73 + 16 * r + c) (nI (vv σ (r * 16 + c))) (73 + 16 * r + j) = nI (vv σ (r * 16 + j)) := by
  by_cases e : j = c
  · rw [e, u_s]
  · rw [u_n (by omega)]; exact h j (by omega)
theorem ebT_lfT (σ : Sg) (r v q : Nat) : ebT (lfT σ r) q v = ebT σ q v := by unfold lfT; split <;> rfl
theorem Bd_sl {σ : Sg} (h : Bd σ) {r v : Nat} (hv : v < 100) : Bd (slS σ r v) := ⟨h.1, up_all (P := fun z => z < 100) h.2.1 hv, h.2.2⟩
noncomputable def rslT (σ : Sg) (r v : Nat) : Sg := if ebT σ r v = cols σ r then slS σ r v else fmT (slS (lfT σ r) r v) r
abbrev dcS (σ : Sg) : Sg := (nn σ - 1, dd σ, vv σ, ff σ, ss σ)
theorem Rel_dc {σ : Sg} {f : Nat → Int32} (h : Rel σ f) (hn : nn σ ≤ 24) : Rel (dcS σ) (upd f 0 (nI (nn σ - 1))) := by
  refine ⟨u_s, fun q hq => ?_, fun q hq => ?_, fun q hq => ?_, fun q j hq hj he => ?_, fun k hk => ?_⟩
  · have hq' : q < nn σ - 1 := hq
    rw [u_n (by omega)]; exact h.d (by omega)
  · have hq' : q < nn σ - 1 := hq
    rw [u_n (by omega)]; exact h.e (by omega)
  · have hq' : q < nn σ - 1 := hq
    rw [u_n (by omega)]; exact h.f (by omega)
  · have hq' : q < nn σ - 1 := hq
    rw [u_n (by omega)]; exact h.v (by omega) hj he
  · rw [u_n (by omega)]; exact h.s hk
theorem mvB_s {f : Nat → Nat} {v b m n : Nat} (h : (b, m) = mvB f v) (hn : n = f v) : ((if m < n then v else b), (if m < n then n else m)) = mvB f (v + 1) := by
  unfold mvB; rw [← h, ← hn]
  show _ = if m < n then (v, n) else (b, m)
  split <;> rfl
set_option maxHeartbeats 1000000 in
set_option maxRecDepth 100000 in
theorem c_X6_leavesFor_t (l : Launch) (G : kG) (mo u0 u1 u2 u3 u4 u5 sm sa le ra fa : Nat) (σ : Sg) (nw : Nat → Int32) (hR : Rel σ nw) (hB : Bd σ) (r : Nat) (hr : r < nn σ) : Met l yX6_leavesFor wsX6_leavesFor ({ frames := 2, cells := 0, slots := 0, locals := 45 } : Room) (cP G [.ref mo, .int (nI r), .int (bI true)] [ob mo 6 [.ref u0, .ref u1, .ref u2, .ref u3, .ref u4, .ref u5, .int (nI sm), .int (nI sa), .int (nI le), .int (nI ra), .int (nI fa)], ar G u0 481 nw]) (qV (fun H => ∃ (nw1 : Nat → Int32), Rel (lfT σ r) nw1 ∧ va_P G.1 vwCl [ob mo 6 [.ref u0, .ref u1, .ref u2, .ref u3, .ref u4, .ref u5, .int (nI sm), .int (nI sa), .int (nI le), .int (nI ra), .int (nI fa)], ar G u0 481 nw1] H) (mA [ob mo 6 [.ref u0, .ref u1, .ref u2, .ref u3, .ref u4, .ref u5, .int (nI sm), .int (nI sa), .int (nI le), .int (nI ra), .int (nI fa)], ar G u0 481 nw])) 0 0 (mA [ob mo 6 [.ref u0, .ref u1, .ref u2, .ref u3, .ref u4, .ref u5, .int (nI sm), .int (nI sa), .int (nI le), .int (nI ra), .int (nI fa)], ar G u0 481 nw]) := by
  refine met_muV (cc := cX6_leavesFor) (maxL := 3) (own := RX6) (by decide) rfl rfl (Nat.le_of_ble_eq_true rfl) ?_
  intro p e s m args below meth cod Q A hx hb hml hown hts hK hP hD hS hret ls hl
  have hl : lv_has ls 3 [(0, .ref mo), (1, .int (nI r)), (2, .int (bI true))] := hl
  refine lv_iload_n hx hb dX6_leavesFor_0 rfl (lv_at hl 2 rfl) ?_
  refine r_if_eq (P := true = false) (tgt := 9) hx hb dX6_leavesFor_1 (by decide) (bI_eq0) (fun cq1 => ?_) (fun cq1 => ?_)
  · exact absurd cq1 (by decide)
  · refine lv_aload_n hx hb dX6_leavesFor_4 rfl (lv_at hl 0 rfl) ?_
    refine lv_iload_n hx hb dX6_leavesFor_5 rfl (lv_at hl 1 rfl) ?_
    refine g_V (k_V (q0 := 0) (ci := 6) (n := 1) (As := [.int (nI r)]) (rest := []) (wc := [ob mo 6 [.ref u0, .ref u1, .ref u2, .ref u3, .ref u4, .ref u5, .int (nI sm), .int (nI sa), .int (nI le), .int (nI ra), .int (nI fa)], ar G u0 481 nw]) hx hb hml hown hts (c_X6_leaves (l := l) (G := G) (mo := mo) (u0 := u0) (u1 := u1) (u2 := u2) (u3 := u3) (u4 := u4) (u5 := u5) (sm := sm) (sa := sa) (le := le) (ra := ra) (fa := fa) (σ := by first | assumption | omega) (nw := nw) (hR := by first | assumption | omega) (hB := by first | assumption | omega) (r := r) (hr := by first | assumption | omega))  gX6_leavesFor_X6_leaves rfl rfl rfl (by decide +kernel) ⟨Nat.le_of_ble_eq_true rfl, Nat.le_of_ble_eq_true rfl⟩ rfl hK hP hD [0, 1] rfl (by decide)  rfl rfl rfl hl.1 rfl (Nat.le_of_ble_eq_true rfl) dX6_leavesFor_6 ⟨Nat.le_of_ble_eq_true rfl, Nat.le_of_ble_eq_true rfl⟩) hP hD hS [0, 1] rfl (fun H locs hB6 back hS => ?_)
    obtain ⟨nw16, hq6, hP1⟩ := hB6
    obtain ⟨hP, hD⟩ := back [ob mo 6 [.ref u0, .ref u1, .ref u2, .ref u3, .ref u4, .ref u5, .int (nI sm), .int (nI sa), .int (nI le), .int (nI ra), .int (nI fa)], ar G u0 481 nw16] rfl hP1
    have hP : va_P G.1 vwCl [ob mo 6 [.ref u0, .ref u1, .ref u2, .ref u3, .ref u4, .ref u5, .int (nI sm), .int (nI sa), .int (nI le), .int (nI ra), .int (nI fa)], ar G u0 481 nw16] H := hP
    have hD : va_D A [ob mo 6 [.ref u0, .ref u1, .ref u2, .ref u3, .ref u4, .ref u5, .int (nI sm), .int (nI sa), .int (nI le), .int (nI ra), .int (nI fa)], ar G u0 481 nw16] := hD
    exact hret _ _ _ _ hS dX6_leavesFor_9 (⟨nw16, hq6, hP⟩)

set_option maxHeartbeats 1000000 in
set_option maxRecDepth 100000 in
theorem c_X6_leavesFor_f (l : Launch) (G : kG) (mo u0 u1 u2 u3 u4 u5 sm sa le ra fa : Nat) (nw : Nat → Int32) (r : Nat) : Met l yX6_leavesFor wsX6_leavesFor ({ frames := 2, cells := 0, slots := 0, locals := 45 } : Room) (cP G [.ref mo, .int (nI r), .int (bI false)] [ob mo 6 [.ref u0, .ref u1, .ref u2, .ref u3, .ref u4, .ref u5, .int (nI sm), .int (nI sa), .int (nI le), .int (nI ra), .int (nI fa)], ar G u0 481 nw]) (qV (fun H => va_P G.1 vwCl [ob mo 6 [.ref u0, .ref u1, .ref u2, .ref u3, .ref u4, .ref u5, .int (nI sm), .int (nI sa), .int (nI le), .int (nI ra), .int (nI fa)], ar G u0 481 nw] H) (mA [ob mo 6 [.ref u0, .ref u1, .ref u2, .ref u3, .ref u4, .ref u5, .int (nI sm), .int (nI sa), .int (nI le), .int (nI ra), .int (nI fa)], ar G u0 481 nw])) 0 0 (mA [ob mo 6 [.ref u0, .ref u1, .ref u2, .ref u3, .ref u4, .ref u5, .int (nI sm), .int (nI sa), .int (nI le), .int (nI ra), .int (nI fa)], ar G u0 481 nw]) := by
  refine met_muV (cc := cX6_leavesFor) (maxL := 3) (own := RX6) (by decide) rfl rfl (Nat.le_of_ble_eq_true rfl) ?_
  intro p e s m args below meth cod Q A hx hb hml hown hts hK hP hD hS hret ls hl
  have hl : lv_has ls 3 [(0, .ref mo), (1, .int (nI r)), (2, .int (bI false))] := hl
  refine lv_iload_n hx hb dX6_leavesFor_0 rfl (lv_at hl 2 rfl) ?_
  refine r_if_eq (P := false = false) (tgt := 9) hx hb dX6_leavesFor_1 (by decide) (bI_eq0) (fun cq1 => ?_) (fun cq1 => ?_)
  · exact hret _ _ _ _ hS dX6_leavesFor_9 (hP)
  · exact absurd rfl cq1

set_option maxHeartbeats 1000000 in
set_option maxRecDepth 100000 in
theorem c_X6_formsFor_t (l : Launch) (G : kG) (mo u0 u1 u2 u3 u4 u5 sm sa le ra fa : Nat) (σ : Sg) (nw : Nat → Int32) (hR : Rel σ nw) (hB : Bd σ) (r : Nat) (hr : r < nn σ) (hF : FP σ r) (mk vl : Nat → Int32) : Met l yX6_formsFor wsX6_formsFor ({ frames := 3, cells := 0, slots := 0, locals := 69 } : Room) (cP G [.ref mo, .int (nI r), .int (bI true)] [ob mo 6 [.ref u0, .ref u1, .ref u2, .ref u3, .ref u4, .ref u5, .int (nI sm), .int (nI sa), .int (nI le), .int (nI ra), .int (nI fa)], ar G u0 481 nw, ar G u3 800 mk, ar G u4 800 vl]) (qV (fun H => ∃ (nw1 : Nat → Int32) (mk1 : Nat → Int32) (vl1 : Nat → Int32), Rel (fmT σ r) nw1 ∧ va_P G.1 vwCl [ob mo 6 [.ref u0, .ref u1, .ref u2, .ref u3, .ref u4, .ref u5, .int (nI sm), .int (nI sa), .int (nI le), .int (nI ra), .int (nI fa)], ar G u0 481 nw1, ar G u3 800 mk1, ar G u4 800 vl1] H) (mA [ob mo 6 [.ref u0, .ref u1, .ref u2, .ref u3, .ref u4, .ref u5, .int (nI sm), .int (nI sa), .int (nI le), .int (nI ra), .int (nI fa)], ar G u0 481 nw, ar G u3 800 mk, ar G u4 800 vl])) 0 0 (mA [ob mo 6 [.ref u0, .ref u1, .ref u2, .ref u3, .ref u4, .ref u5, .int (nI sm), .int (nI sa), .int (nI le), .int (nI ra), .int (nI fa)], ar G u0 481 nw, ar G u3 800 mk, ar G u4 800 vl]) := by
  refine met_muV (cc := cX6_formsFor) (maxL := 3) (own := RX6) (by decide) rfl rfl (Nat.le_of_ble_eq_true rfl) ?_
  intro p e s m args below meth cod Q A hx hb hml hown hts hK hP hD hS hret ls hl
  have hl : lv_has ls 3 [(0, .ref mo), (1, .int (nI r)), (2, .int (bI true))] := hl
  obtain ⟨hF1, hF2⟩ := hF
  refine lv_iload_n hx hb dX6_formsFor_0 rfl (lv_at hl 2 rfl) ?_
  refine r_if_eq (P := true = false) (tgt := 9) hx hb dX6_formsFor_1 (by decide) (bI_eq0) (fun cq1 => ?_) (fun cq1 => ?_)
  · exact absurd cq1 (by decide)
  · refine lv_aload_n hx hb dX6_formsFor_4 rfl (lv_at hl 0 rfl) ?_
    refine lv_iload_n hx hb dX6_formsFor_5 rfl (lv_at hl 1 rfl) ?_
    refine g_V (k_V (q0 := 0) (ci := 6) (n := 1) (As := [.int (nI r)]) (rest := []) (wc := [ob mo 6 [.ref u0, .ref u1, .ref u2, .ref u3, .ref u4, .ref u5, .int (nI sm), .int (nI sa), .int (nI le), .int (nI ra), .int (nI fa)], ar G u0 481 nw, ar G u3 800 mk, ar G u4 800 vl]) hx hb hml hown hts (c_X6_forms (l := l) (G := G) (mo := mo) (u0 := u0) (u1 := u1) (u2 := u2) (u3 := u3) (u4 := u4) (u5 := u5) (sm := sm) (sa := sa) (le := le) (ra := ra) (fa := fa) (σ := σ) (nw := nw) (hR := hR) (hB := hB) (hT1 := hF1) (r := r) (hr := hr) (hfr := hF2) (mk := mk) (vl := vl))  gX6_formsFor_X6_forms rfl rfl rfl (by decide +kernel) ⟨Nat.le_of_ble_eq_true rfl, Nat.le_of_ble_eq_true rfl⟩ rfl hK hP hD [0, 1, 2, 3] rfl (by decide)  rfl rfl rfl hl.1 rfl (Nat.le_of_ble_eq_true rfl) dX6_formsFor_6 ⟨Nat.le_of_ble_eq_true rfl, Nat.le_of_ble_eq_true rfl⟩) hP hD hS [0, 1, 2, 3] rfl (fun H locs hB6 back hS => ?_)
    obtain ⟨nw16, mk16, vl16, hq6, hP1⟩ := hB6
    obtain ⟨hP, hD⟩ := back [ob mo 6 [.ref u0, .ref u1, .ref u2, .ref u3, .ref u4, .ref u5, .int (nI sm), .int (nI sa), .int (nI le), .int (nI ra), .int (nI fa)], ar G u0 481 nw16, ar G u3 800 mk16, ar G u4 800 vl16] rfl hP1
    have hP : va_P G.1 vwCl [ob mo 6 [.ref u0, .ref u1, .ref u2, .ref u3, .ref u4, .ref u5, .int (nI sm), .int (nI sa), .int (nI le), .int (nI ra), .int (nI fa)], ar G u0 481 nw16, ar G u3 800 mk16, ar G u4 800 vl16] H := hP
    have hD : va_D A [ob mo 6 [.ref u0, .ref u1, .ref u2, .ref u3, .ref u4, .ref u5, .int (nI sm), .int (nI sa), .int (nI le), .int (nI ra), .int (nI fa)], ar G u0 481 nw16, ar G u3 800 mk16, ar G u4 800 vl16] := hD
    exact hret _ _ _ _ hS dX6_formsFor_9 (⟨nw16, mk16, vl16, hq6, hP⟩)

set_option maxHeartbeats 1000000 in
set_option maxRecDepth 100000 in
theorem c_X6_formsFor_f (l : Launch) (G : kG) (mo u0 u1 u2 u3 u4 u5 sm sa le ra fa : Nat) (nw : Nat → Int32) (r : Nat) (mk vl : Nat → Int32) : Met l yX6_formsFor wsX6_formsFor ({ frames := 3, cells := 0, slots := 0, locals := 69 } : Room) (cP G [.ref mo, .int (nI r), .int (bI false)] [ob mo 6 [.ref u0, .ref u1, .ref u2, .ref u3, .ref u4, .ref u5, .int (nI sm), .int (nI sa), .int (nI le), .int (nI ra), .int (nI fa)], ar G u0 481 nw, ar G u3 800 mk, ar G u4 800 vl]) (qV (fun H => va_P G.1 vwCl [ob mo 6 [.ref u0, .ref u1, .ref u2, .ref u3, .ref u4, .ref u5, .int (nI sm), .int (nI sa), .int (nI le), .int (nI ra), .int (nI fa)], ar G u0 481 nw, ar G u3 800 mk, ar G u4 800 vl] H) (mA [ob mo 6 [.ref u0, .ref u1, .ref u2, .ref u3, .ref u4, .ref u5, .int (nI sm), .int (nI sa), .int (nI le), .int (nI ra), .int (nI fa)], ar G u0 481 nw, ar G u3 800 mk, ar G u4 800 vl])) 0 0 (mA [ob mo 6 [.ref u0, .ref u1, .ref u2, .ref u3, .ref u4, .ref u5, .int (nI sm), .int (nI sa), .int (nI le), .int (nI ra), .int (nI fa)], ar G u0 481 nw, ar G u3 800 mk, ar G u4 800 vl]) := by
  refine met_muV (cc := cX6_formsFor) (maxL := 3) (own := RX6) (by decide) rfl rfl (Nat.le_of_ble_eq_true rfl) ?_
  intro p e s m args below meth cod Q A hx hb hml hown hts hK hP hD hS hret ls hl
  have hl : lv_has ls 3 [(0, .ref mo), (1, .int (nI r)), (2, .int (bI false))] := hl
  refine lv_iload_n hx hb dX6_formsFor_0 rfl (lv_at hl 2 rfl) ?_
  refine r_if_eq (P := false = false) (tgt := 9) hx hb dX6_formsFor_1 (by decide) (bI_eq0) (fun cq1 => ?_) (fun cq1 => ?_)
  · exact hret _ _ _ _ hS dX6_formsFor_9 (hP)
  · exact absurd rfl cq1

theorem iqX6_set_ok_X6 : ∀ w ∈ u_ws RX6 TX6 11, w ∈ wsX6_set := by decide +kernel
set_option maxHeartbeats 1000000 in
set_option maxRecDepth 100000 in
theorem c_X6_set_ok (l : Launch) (G : kG) (mo u0 u1 u2 u3 u4 u5 sm sa le ra fa : Nat) (σ : Sg) (nw : Nat → Int32) (hR : Rel σ nw) (hB : Bd σ) (bf sts : Nat → Int32) (hsa : sa < 5) (hsm : sm ≤ 5) (r c v : Nat) (hr : r < nn σ) (hc : c < 16) (hv9 : v < 100) (hF : vv σ (r * 16 + c) ≠ v → FP (chS (lfT σ r) (r * 16 + c) v) r) (mk vl : Nat → Int32) : Met l yX6_set wsX6_set ({ frames := 4, cells := 0, slots := 0, locals := 91 } : Room) (cP G [.ref mo, .int (nI r), .int (nI c), .int (nI v)] [ob mo 6 [.ref u0, .ref u1, .ref u2, .ref u3, .ref u4, .ref u5, .int (nI sm), .int (nI sa), .int (nI le), .int (nI ra), .int (nI fa)], ar G u0 481 nw, ar G u1 481 bf, ar G u2 2405 sts, ar G u3 800 mk, ar G u4 800 vl]) (qI (fun rv H => ∃ (nw1 : Nat → Int32) (bf1 : Nat → Int32) (sts1 : Nat → Int32) (sm1 : Nat) (mk1 : Nat → Int32) (vl1 : Nat → Int32), rv = (nI (vv σ (r * 16 + c))) ∧ (sm1 = (if sm < 5 then sm + 1 else 5)) ∧ sts1 = fb_put sts nw (481 * sa) 481 ∧ Rel (rsetT σ r c v) nw1 ∧ va_P G.1 vwCl [ob mo 6 [.ref u0, .ref u1, .ref u2, .ref u3, .ref u4, .ref u5, .int (nI sm1), .int (nI ((sa + 1) % 5)), .int (nI le), .int (nI ra), .int (nI fa)], ar G u0 481 nw1, ar G u1 481 bf1, ar G u2 2405 sts1, ar G u3 800 mk1, ar G u4 800 vl1] H) (mA [ob mo 6 [.ref u0, .ref u1, .ref u2, .ref u3, .ref u4, .ref u5, .int (nI sm), .int (nI sa), .int (nI le), .int (nI ra), .int (nI fa)], ar G u0 481 nw, ar G u1 481 bf, ar G u2 2405 sts, ar G u3 800 mk, ar G u4 800 vl])) 0 0 (mA [ob mo 6 [.ref u0, .ref u1, .ref u2, .ref u3, .ref u4, .ref u5, .int (nI sm), .int (nI sa), .int (nI le), .int (nI ra), .int (nI fa)], ar G u0 481 nw, ar G u1 481 bf, ar G u2 2405 sts, ar G u3 800 mk, ar G u4 800 vl]) := by
  refine met_muI (cc := cX6_set) (maxL := 5) (ty := .int) (own := RX6) (by decide) rfl rfl (fun _ _ _ => rfl) (Nat.le_of_ble_eq_true rfl) ?_
  intro p e s m args below meth cod Q A hx hb hml hown hts hK hP hD hS hret ls hl
  have hl : lv_has ls 5 [(0, .ref mo), (1, .int (nI r)), (2, .int (nI c)), (3, .int (nI v))] := hl
  have h24 := hB.n
  have hcl := cols_lt σ r
  have hvb := hB.v (r * 16 + c)
  have hdb := hB.d r
  refine lv_aload_n hx hb dX6_set_0 rfl (lv_at hl 0 rfl) ?_
  refine lv_iload_n hx hb dX6_set_1 rfl (lv_at hl 1 rfl) ?_
  refine g_ro (k_V (q0 := 0) (ci := 6) (n := 1) (As := [.int (nI r)]) (rest := []) (wc := [ob mo 6 [.ref u0, .ref u1, .ref u2, .ref u3, .ref u4, .ref u5, .int (nI sm), .int (nI sa), .int (nI le), .int (nI ra), .int (nI fa)], ar G u0 481 nw]) hx hb hml hown hts (c_X6_isRow (l := l) (G := G) (mo := mo) (u0 := u0) (u1 := u1) (u2 := u2) (u3 := u3) (u4 := u4) (u5 := u5) (sm := sm) (sa := sa) (le := le) (ra := ra) (fa := fa) (σ := by first | assumption | omega) (nw := nw) (hR := by first | assumption | omega) (hB := by first | assumption | omega) (xa := nI r))  gX6_set_X6_isRow rfl rfl rfl (by decide +kernel) ⟨Nat.le_of_ble_eq_true rfl, Nat.le_of_ble_eq_true rfl⟩ rfl hK hP hD [0, 1] rfl (by decide)  rfl rfl rfl hl.1 rfl (Nat.le_of_ble_eq_true rfl) dX6_set_2 ⟨Nat.le_of_ble_eq_true rfl, Nat.le_of_ble_eq_true rfl⟩) (fun r2 h2 => ?_)
  obtain rfl : (bI (inr (nI r) 0 ((nn σ : Int) - 1))) = r2 := Eq.symm h2
  refine r_if_eq (P := (inr (nI r) 0 ((nn σ : Int) - 1)) = false) (tgt := 28) hx hb dX6_set_5 (by decide) (bI_eq0) (fun cq5 => ?_) (fun cq5 => ?_)
  · exact (no_f (inr_rw (by omega) (by omega)) cq5).elim
  · refine lv_iload_n hx hb dX6_set_8 rfl (lv_at hl 2 rfl) ?_
    refine lv_iconst (v := (nI 0)) hx hb dX6_set_9 (by decide) ?_
    refine lv_bipush (v := (nI 15)) hx hb dX6_set_10 (by decide) ?_
    refine g_ro (k_S (n := 3) (As := [.int (nI c), .int (nI 0), .int (nI 15)]) (rest := []) (wc := []) hx hb hml hown hts (c_X6_in (l := l) (G := G) (xa := nI c) (xb := nI 0) (xc := nI 15))  gX6_set_X6_in rfl rfl rfl (by decide +kernel) ⟨Nat.le_of_ble_eq_true rfl, Nat.le_of_ble_eq_true rfl⟩ rfl hK hP hD [] rfl (by decide)  hl.1 rfl (Nat.le_of_ble_eq_true rfl) dX6_set_12 ⟨Nat.le_of_ble_eq_true rfl, Nat.le_of_ble_eq_true rfl⟩) (fun r12 h12 => ?_)
    obtain rfl : (bI (ing (nI c) (nI 0) (nI 15))) = r12 := Eq.symm h12
    refine r_if_eq (P := (ing (nI c) (nI 0) (nI 15)) = false) (tgt := 28) hx hb dX6_set_15 (by decide) (bI_eq0) (fun cq15 => ?_) (fun cq15 => ?_)
    · exact (no_f (ing_ok (by omega) (by omega) (by decide)) cq15).elim
    · refine lv_iload_n hx hb dX6_set_18 rfl (lv_at hl 3 rfl) ?_
      refine lv_iconst (v := (nI 0)) hx hb dX6_set_19 (by decide) ?_
      refine lv_bipush (v := (nI 99)) hx hb dX6_set_20 (by decide) ?_
      refine g_ro (k_S (n := 3) (As := [.int (nI v), .int (nI 0), .int (nI 99)]) (rest := []) (wc := []) hx hb hml hown hts (c_X6_in (l := l) (G := G) (xa := nI v) (xb := nI 0) (xc := nI 99))  gX6_set_X6_in rfl rfl rfl (by decide +kernel) ⟨Nat.le_of_ble_eq_true rfl, Nat.le_of_ble_eq_true rfl⟩ rfl hK hP hD [] rfl (by decide)  hl.1 rfl (Nat.le_of_ble_eq_true rfl) dX6_set_22 ⟨Nat.le_of_ble_eq_true rfl, Nat.le_of_ble_eq_true rfl⟩) (fun r22 h22 => ?_)
      obtain rfl : (bI (ing (nI v) (nI 0) (nI 99))) = r22 := Eq.symm h22
      refine r_if_ne (P := (ing (nI v) (nI 0) (nI 99)) = false) (tgt := 30) hx hb dX6_set_25 (by decide) (bI_eq0) (fun cq25 => ?_) (fun cq25 => ?_)
      · refine lv_aload_n hx hb dX6_set_30 rfl (lv_at hl 0 rfl) ?_
        refine g_V (k_V (q0 := 0) (ci := 6) (n := 0) (As := []) (rest := []) (wc := [ob mo 6 [.ref u0, .ref u1, .ref u2, .ref u3, .ref u4, .ref u5, .int (nI sm), .int (nI sa), .int (nI le), .int (nI ra), .int (nI fa)], ar G u0 481 nw, ar G u1 481 bf, ar G u2 2405 sts]) hx hb hml hown hts (c_X6_remember (l := l) (G := G) (mo := mo) (u0 := u0) (u1 := u1) (u2 := u2) (u3 := u3) (u4 := u4) (u5 := u5) (sm := sm) (sa := sa) (le := le) (ra := ra) (fa := fa) (nw := nw) (bf := bf) (sts := sts) (hsa := by first | assumption | omega) (hsm := by first | assumption | omega))  gX6_set_X6_remember rfl rfl rfl (by decide +kernel) ⟨Nat.le_of_ble_eq_true rfl, Nat.le_of_ble_eq_true rfl⟩ rfl hK hP hD [0, 1, 2, 3] rfl (by decide)  rfl rfl rfl hl.1 rfl (Nat.le_of_ble_eq_true rfl) dX6_set_31 ⟨Nat.le_of_ble_eq_true rfl, Nat.le_of_ble_eq_true rfl⟩) hP hD hS [0, 1, 2, 3] rfl (fun H locs hB31 back hS => ?_)
        obtain ⟨sm131, bf131, sts131, hqs31, hqt31, hP1⟩ := hB31
        obtain ⟨hP, hD⟩ := back [ob mo 6 [.ref u0, .ref u1, .ref u2, .ref u3, .ref u4, .ref u5, .int (nI sm131), .int (nI ((sa + 1) % 5)), .int (nI le), .int (nI ra), .int (nI fa)], ar G u0 481 nw, ar G u1 481 bf131, ar G u2 2405 sts131] rfl hP1
        have hP : va_P G.1 vwCl [ob mo 6 [.ref u0, .ref u1, .ref u2, .ref u3, .ref u4, .ref u5, .int (nI sm131), .int (nI ((sa + 1) % 5)), .int (nI le), .int (nI ra), .int (nI fa)], ar G u0 481 nw, ar G u1 481 bf131, ar G u2 2405 sts131, ar G u3 800 mk, ar G u4 800 vl] H := hP
        have hD : va_D A [ob mo 6 [.ref u0, .ref u1, .ref u2, .ref u3, .ref u4, .ref u5, .int (nI sm131), .int (nI ((sa + 1) % 5)), .int (nI le), .int (nI ra), .int (nI fa)], ar G u0 481 nw, ar G u1 481 bf131, ar G u2 2405 sts131, ar G u3 800 mk, ar G u4 800 vl] := hD
        refine lv_aload_n hx hb dX6_set_34 rfl (lv_at hl 0 rfl) ?_
        refine lv_iload_n hx hb dX6_set_35 rfl (lv_at hl 1 rfl) ?_
        refine lv_iload_n hx hb dX6_set_36 rfl (lv_at hl 2 rfl) ?_
        refine g_ro (k_V (q0 := 0) (ci := 6) (n := 2) (As := [.int (nI r), .int (nI c)]) (rest := []) (wc := [ob mo 6 [.ref u0, .ref u1, .ref u2, .ref u3, .ref u4, .ref u5, .int (nI sm131), .int (nI ((sa + 1) % 5)), .int (nI le), .int (nI ra), .int (nI fa)], ar G u0 481 nw]) hx hb hml hown hts (c_X6_valueOf (l := l) (G := G) (mo := mo) (u0 := u0) (u1 := u1) (u2 := u2) (u3 := u3) (u4 := u4) (u5 := u5) (sm := sm131) (sa := ((sa + 1) % 5)) (le := le) (ra := ra) (fa := fa) (σ := σ) (nw := nw) (hR := hR) (hB := hB) (r := r) (c := c) (hr := by first | assumption | omega) (hc := by first | assumption | omega))  gX6_set_X6_valueOf rfl rfl rfl (by decide +kernel) ⟨Nat.le_of_ble_eq_true rfl, Nat.le_of_ble_eq_true rfl⟩ rfl hK hP hD [0, 1] rfl (by decide)  rfl rfl rfl hl.1 rfl (Nat.le_of_ble_eq_true rfl) dX6_set_37 ⟨Nat.le_of_ble_eq_true rfl, Nat.le_of_ble_eq_true rfl⟩) (fun r37 h37 => ?_)
        obtain rfl : (nI (vv σ (r * 16 + c))) = r37 := Eq.symm h37
        have b37 := (by assumption : Bd σ).v (r * 16 + c)
        refine lv_istore (lv' := [(4, .int (nI (vv σ (r * 16 + c)))), (0, .ref mo), (1, .int (nI r)), (2, .int (nI c)), (3, .int (nI v))]) hx hb dX6_set_40 hl (by decide) rfl (fun ls hl => ?_)
        refine lv_aload_n hx hb dX6_set_42 rfl (lv_at hl 1 rfl) ?_
        refine lv_iload_n hx hb dX6_set_43 rfl (lv_at hl 2 rfl) ?_
        refine lv_iload hx hb dX6_set_44 (lv_at hl 0 rfl) ?_
        refine lv_iload_n hx hb dX6_set_46 rfl (lv_at hl 4 rfl) ?_
        refine r_icmp_eq (P := (vv σ (r * 16 + c)) = v) (tgt := 54) hx hb dX6_set_47 (by decide) (nI_eq (by omega) (by omega)) (fun cq47 => ?_) (fun cq47 => ?_)
        · refine lv_iconst (v := (bI false)) hx hb dX6_set_54 (by decide) ?_
          refine g_V (k_V (q0 := 0) (ci := 6) (n := 2) (As := [.int (nI r), .int (bI false)]) (rest := []) (wc := [ob mo 6 [.ref u0, .ref u1, .ref u2, .ref u3, .ref u4, .ref u5, .int (nI sm131), .int (nI ((sa + 1) % 5)), .int (nI le), .int (nI ra), .int (nI fa)], ar G u0 481 nw]) hx hb hml hown hts (c_X6_leavesFor_f (l := l) (G := G) (mo := mo) (u0 := u0) (u1 := u1) (u2 := u2) (u3 := u3) (u4 := u4) (u5 := u5) (sm := sm131) (sa := ((sa + 1) % 5)) (le := le) (ra := ra) (fa := fa) (nw := nw) (r := r))  gX6_set_X6_leavesFor rfl rfl rfl (by decide +kernel) ⟨Nat.le_of_ble_eq_true rfl, Nat.le_of_ble_eq_true rfl⟩ rfl hK hP hD [0, 1] rfl (by decide)  rfl rfl rfl hl.1 rfl (Nat.le_of_ble_eq_true rfl) dX6_set_55 ⟨Nat.le_of_ble_eq_true rfl, Nat.le_of_ble_eq_true rfl⟩) hP hD hS [0, 1] rfl (fun H locs hB55 back hS => ?_)
          have hP1 := hB55
          obtain ⟨hP, hD⟩ := back [ob mo 6 [.ref u0, .ref u1, .ref u2, .ref u3, .ref u4, .ref u5, .int (nI sm131), .int (nI ((sa + 1) % 5)), .int (nI le), .int (nI ra), .int (nI fa)], ar G u0 481 nw] rfl hP1
          have hP : va_P G.1 vwCl [ob mo 6 [.ref u0, .ref u1, .ref u2, .ref u3, .ref u4, .ref u5, .int (nI sm131), .int (nI ((sa + 1) % 5)), .int (nI le), .int (nI ra), .int (nI fa)], ar G u0 481 nw, ar G u1 481 bf131, ar G u2 2405 sts131, ar G u3 800 mk, ar G u4 800 vl] H := hP
          have hD : va_D A [ob mo 6 [.ref u0, .ref u1, .ref u2, .ref u3, .ref u4, .ref u5, .int (nI sm131), .int (nI ((sa + 1) % 5)), .int (nI le), .int (nI ra), .int (nI fa)], ar G u0 481 nw, ar G u1 481 bf131, ar G u2 2405 sts131, ar G u3 800 mk, ar G u4 800 vl] := hD
          refine lv_aload_n hx hb dX6_set_58 rfl (lv_at hl 1 rfl) ?_
          refine va_get (D := G.1) (ci := 6) (v := .ref u0) (C := RX6) (T := TX6) (N := 11) hx hb hts iqX6_set_ok_X6 hown hK.1 hP 0 rfl rfl 0 (by decide) (hts (.fieldLink RX6 7 "PushedTablesModel" "now" "[I") (List.mem_of_getElem? (i := 1) rfl)) (fun _ h9 => h9) rfl dX6_set_59 ?_
          refine lv_bipush (v := (nI 25)) hx hb dX6_set_62 (by decide) ?_
          refine lv_iload_n hx hb dX6_set_64 rfl (lv_at hl 2 rfl) ?_
          refine r_iadd (v := 25 + r) hx hb dX6_set_65 rfl ?_
          refine lv_aload_n hx hb dX6_set_66 rfl (lv_at hl 1 rfl) ?_
          refine lv_iload_n hx hb dX6_set_67 rfl (lv_at hl 2 rfl) ?_
          refine g_ro (k_V (q0 := 0) (ci := 6) (n := 1) (As := [.int (nI r)]) (rest := [.int (nI (25 + r)), .ref u0]) (wc := [ob mo 6 [.ref u0, .ref u1, .ref u2, .ref u3, .ref u4, .ref u5, .int (nI sm131), .int (nI ((sa + 1) % 5)), .int (nI le), .int (nI ra), .int (nI fa)], ar G u0 481 nw]) hx hb hml hown hts (c_X6_entries (l := l) (G := G) (mo := mo) (u0 := u0) (u1 := u1) (u2 := u2) (u3 := u3) (u4 := u4) (u5 := u5) (sm := sm131) (sa := ((sa + 1) % 5)) (le := le) (ra := ra) (fa := fa) (σ := σ) (nw := nw) (hR := hR) (hB := hB) (r := r) (hr := by first | assumption | omega))  gX6_set_X6_entries rfl rfl rfl (by decide +kernel) ⟨Nat.le_of_ble_eq_true rfl, Nat.le_of_ble_eq_true rfl⟩ rfl hK hP hD [0, 1] rfl (by decide)  rfl rfl rfl hl.1 rfl (Nat.le_of_ble_eq_true rfl) dX6_set_68 ⟨Nat.le_of_ble_eq_true rfl, Nat.le_of_ble_eq_true rfl⟩) (fun r68 h68 => ?_)
          obtain rfl : (nI (cols σ r)) = r68 := Eq.symm h68
          have b68 := cols_lt σ r
          refine lv_iconst (v := (nI 1)) hx hb dX6_set_71 (by decide) ?_
          refine lv_iload_n hx hb dX6_set_72 rfl (lv_at hl 3 rfl) ?_
          refine lv_ishl hx hb dX6_set_73 ?_
          refine r_top (y := (nI (2 ^ c))) (r_shl1 (by omega)) ?_
          refine lv_iconst (v := (-1)) hx hb dX6_set_74 (by decide) ?_
          refine lv_ixor hx hb dX6_set_75 ?_
          refine r_top (y := (nI (2 ^ c) ^^^ (-1))) (rfl) ?_
          refine lv_iand hx hb dX6_set_76 ?_
          refine r_top (y := (nI (clr (cols σ r) c))) (bit_clr (cols_lt σ r) hc) ?_
          refine lv_iload_n hx hb dX6_set_77 rfl (lv_at hl 4 rfl) ?_
          refine lv_aload_n hx hb dX6_set_78 rfl (lv_at hl 1 rfl) ?_
          refine va_get (D := G.1) (ci := 6) (v := .ref u0) (C := RX6) (T := TX6) (N := 11) hx hb hts iqX6_set_ok_X6 hown hK.1 hP 0 rfl rfl 0 (by decide) (hts (.fieldLink RX6 7 "PushedTablesModel" "now" "[I") (List.mem_of_getElem? (i := 1) rfl)) (fun _ h9 => h9) rfl dX6_set_79 ?_
          refine lv_iconst (v := (nI 1)) hx hb dX6_set_82 (by decide) ?_
          refine lv_iload_n hx hb dX6_set_83 rfl (lv_at hl 2 rfl) ?_
          refine r_iadd (v := 1 + r) hx hb dX6_set_84 rfl ?_
          refine r_iald (e1 := 1 + r) (v := (nI (dd σ r))) hx hb hK.1 hP 1 0 rfl rfl (by omega) (by first | decide | assumption) (hR.d (by omega)) dX6_set_85 ?_
          refine r_icmp_ne (P := v = (dd σ r)) (tgt := 93) hx hb dX6_set_86 (by decide) (nI_eq (by omega) (by omega)) (fun cq86 => ?_) (fun cq86 => ?_)
          · refine lv_iconst (v := (nI 1)) hx hb dX6_set_93 (by decide) ?_
            refine lv_iload_n hx hb dX6_set_94 rfl (lv_at hl 3 rfl) ?_
            refine lv_ishl hx hb dX6_set_95 ?_
            refine r_top (y := (nI (2 ^ c))) (r_shl1 (by omega)) ?_
            refine lv_ior hx hb dX6_set_96 ?_
            refine r_top (y := (nI ((clr (cols σ r) c) ||| (2 ^ c)))) (fa_or _ _) ?_
            refine r_iast (e1 := 25 + r) (x := (nI ((clr (cols σ r) c) ||| (2 ^ c)))) (g := upd nw (25 + r) (nI ((clr (cols σ r) c) ||| (2 ^ c)))) hx hb hK.1 hP hD hS 1 0 rfl rfl (by omega) (by first | decide | assumption) (rfl) dX6_set_97 (fun H locs hP hD hS => ?_)
            have hP : va_P G.1 vwCl [ob mo 6 [.ref u0, .ref u1, .ref u2, .ref u3, .ref u4, .ref u5, .int (nI sm131), .int (nI ((sa + 1) % 5)), .int (nI le), .int (nI ra), .int (nI fa)], ar G u0 481 (upd nw (25 + r) (nI ((clr (cols σ r) c) ||| (2 ^ c)))), ar G u1 481 bf131, ar G u2 2405 sts131, ar G u3 800 mk, ar G u4 800 vl] H := hP
            have hD : va_D A [ob mo 6 [.ref u0, .ref u1, .ref u2, .ref u3, .ref u4, .ref u5, .int (nI sm131), .int (nI ((sa + 1) % 5)), .int (nI le), .int (nI ra), .int (nI fa)], ar G u0 481 (upd nw (25 + r) (nI ((clr (cols σ r) c) ||| (2 ^ c)))), ar G u1 481 bf131, ar G u2 2405 sts131, ar G u3 800 mk, ar G u4 800 vl] := hD
            refine lv_aload_n hx hb dX6_set_98 rfl (lv_at hl 1 rfl) ?_
            refine va_get (D := G.1) (ci := 6) (v := .ref u0) (C := RX6) (T := TX6) (N := 11) hx hb hts iqX6_set_ok_X6 hown hK.1 hP 0 rfl rfl 0 (by decide) (hts (.fieldLink RX6 7 "PushedTablesModel" "now" "[I") (List.mem_of_getElem? (i := 1) rfl)) (fun _ h9 => h9) rfl dX6_set_99 ?_
            refine lv_bipush (v := (nI 73)) hx hb dX6_set_102 (by decide) ?_
            refine lv_bipush (v := (nI 16)) hx hb dX6_set_104 (by decide) ?_
            refine lv_iload_n hx hb dX6_set_106 rfl (lv_at hl 2 rfl) ?_
            refine r_imul (v := 16 * r) hx hb dX6_set_107 rfl ?_
            refine r_iadd (v := 73 + (16 * r)) hx hb dX6_set_108 rfl ?_
            refine lv_iload_n hx hb dX6_set_109 rfl (lv_at hl 3 rfl) ?_
            refine r_iadd (v := (73 + (16 * r)) + c) hx hb dX6_set_110 rfl ?_
            refine lv_iload_n hx hb dX6_set_111 rfl (lv_at hl 4 rfl) ?_
            refine r_iast (e1 := (73 + (16 * r)) + c) (x := (nI v)) (g := upd (upd nw (25 + r) (nI ((clr (cols σ r) c) ||| (2 ^ c)))) ((73 + (16 * r)) + c) (nI v)) hx hb hK.1 hP hD hS 1 0 rfl rfl (by omega) (by first | decide | assumption) (rfl) dX6_set_112 (fun H locs hP hD hS => ?_)
            have hP : va_P G.1 vwCl [ob mo 6 [.ref u0, .ref u1, .ref u2, .ref u3, .ref u4, .ref u5, .int (nI sm131), .int (nI ((sa + 1) % 5)), .int (nI le), .int (nI ra), .int (nI fa)], ar G u0 481 (upd (upd nw (25 + r) (nI ((clr (cols σ r) c) ||| (2 ^ c)))) ((73 + (16 * r)) + c) (nI v)), ar G u1 481 bf131, ar G u2 2405 sts131, ar G u3 800 mk, ar G u4 800 vl] H := hP
            have hD : va_D A [ob mo 6 [.ref u0, .ref u1, .ref u2, .ref u3, .ref u4, .ref u5, .int (nI sm131), .int (nI ((sa + 1) % 5)), .int (nI le), .int (nI ra), .int (nI fa)], ar G u0 481 (upd (upd nw (25 + r) (nI ((clr (cols σ r) c) ||| (2 ^ c)))) ((73 + (16 * r)) + c) (nI v)), ar G u1 481 bf131, ar G u2 2405 sts131, ar G u3 800 mk, ar G u4 800 vl] := hD
            have hR3 := Rel_ch hR h24 hr hc (cols_ct hc cq86)
            refine lv_aload_n hx hb dX6_set_113 rfl (lv_at hl 1 rfl) ?_
            refine lv_iload_n hx hb dX6_set_114 rfl (lv_at hl 2 rfl) ?_
            refine lv_iload hx hb dX6_set_115 (lv_at hl 0 rfl) ?_
            refine lv_iload_n hx hb dX6_set_117 rfl (lv_at hl 4 rfl) ?_
            refine r_icmp_eq (P := (vv σ (r * 16 + c)) = v) (tgt := 125) hx hb dX6_set_118 (by decide) (nI_eq (by omega) (by omega)) (fun cq118 => ?_) (fun cq118 => ?_)
            · refine lv_iconst (v := (bI false)) hx hb dX6_set_125 (by decide) ?_
              refine g_V (k_V (q0 := 0) (ci := 6) (n := 2) (As := [.int (nI r), .int (bI false)]) (rest := []) (wc := [ob mo 6 [.ref u0, .ref u1, .ref u2, .ref u3, .ref u4, .ref u5, .int (nI sm131), .int (nI ((sa + 1) % 5)), .int (nI le), .int (nI ra), .int (nI fa)], ar G u0 481 (upd (upd nw (25 + r) (nI ((clr (cols σ r) c) ||| (2 ^ c)))) ((73 + (16 * r)) + c) (nI v)), ar G u3 800 mk, ar G u4 800 vl]) hx hb hml hown hts (c_X6_formsFor_f (l := l) (G := G) (mo := mo) (u0 := u0) (u1 := u1) (u2 := u2) (u3 := u3) (u4 := u4) (u5 := u5) (sm := sm131) (sa := ((sa + 1) % 5)) (le := le) (ra := ra) (fa := fa) (nw := upd (upd nw (25 + r) (nI ((clr (cols σ r) c) ||| (2 ^ c)))) ((73 + (16 * r)) + c) (nI v)) (r := r) (mk := mk) (vl := vl))  gX6_set_X6_formsFor rfl rfl rfl (by decide +kernel) ⟨Nat.le_of_ble_eq_true rfl, Nat.le_of_ble_eq_true rfl⟩ rfl hK hP hD [0, 1, 4, 5] rfl (by decide)  rfl rfl rfl hl.1 rfl (Nat.le_of_ble_eq_true rfl) dX6_set_126 ⟨Nat.le_of_ble_eq_true rfl, Nat.le_of_ble_eq_true rfl⟩) hP hD hS [0, 1, 4, 5] rfl (fun H locs hB126 back hS => ?_)
              have hP1 := hB126
              obtain ⟨hP, hD⟩ := back [ob mo 6 [.ref u0, .ref u1, .ref u2, .ref u3, .ref u4, .ref u5, .int (nI sm131), .int (nI ((sa + 1) % 5)), .int (nI le), .int (nI ra), .int (nI fa)], ar G u0 481 (upd (upd nw (25 + r) (nI ((clr (cols σ r) c) ||| (2 ^ c)))) ((73 + (16 * r)) + c) (nI v)), ar G u3 800 mk, ar G u4 800 vl] rfl hP1
              have hP : va_P G.1 vwCl [ob mo 6 [.ref u0, .ref u1, .ref u2, .ref u3, .ref u4, .ref u5, .int (nI sm131), .int (nI ((sa + 1) % 5)), .int (nI le), .int (nI ra), .int (nI fa)], ar G u0 481 (upd (upd nw (25 + r) (nI ((clr (cols σ r) c) ||| (2 ^ c)))) ((73 + (16 * r)) + c) (nI v)), ar G u1 481 bf131, ar G u2 2405 sts131, ar G u3 800 mk, ar G u4 800 vl] H := hP
              have hD : va_D A [ob mo 6 [.ref u0, .ref u1, .ref u2, .ref u3, .ref u4, .ref u5, .int (nI sm131), .int (nI ((sa + 1) % 5)), .int (nI le), .int (nI ra), .int (nI fa)], ar G u0 481 (upd (upd nw (25 + r) (nI ((clr (cols σ r) c) ||| (2 ^ c)))) ((73 + (16 * r)) + c) (nI v)), ar G u1 481 bf131, ar G u2 2405 sts131, ar G u3 800 mk, ar G u4 800 vl] := hD
              refine lv_iload hx hb dX6_set_129 (lv_at hl 0 rfl) ?_
              exact hret _ _ _ _ _ hS dX6_set_131 (⟨(upd (upd nw (25 + r) (nI ((clr (cols σ r) c) ||| (2 ^ c)))) ((73 + (16 * r)) + c) (nI v)), bf131, sts131, sm131, mk, vl, rfl, hqs31, hqt31, by unfold rsetT; rw [if_pos cq47]; exact hR3, hP⟩)
            · exact absurd cq47 cq118
          · refine lv_iconst (v := (nI 0)) hx hb dX6_set_89 (by decide) ?_
            refine lv_goto (tgt := 96) hx hb dX6_set_90 (by decide) ?_
            refine lv_ior hx hb dX6_set_96 ?_
            refine r_top (y := (nI ((clr (cols σ r) c) ||| 0))) (fa_or _ _) ?_
            refine r_iast (e1 := 25 + r) (x := (nI ((clr (cols σ r) c) ||| 0))) (g := upd nw (25 + r) (nI ((clr (cols σ r) c) ||| 0))) hx hb hK.1 hP hD hS 1 0 rfl rfl (by omega) (by first | decide | assumption) (rfl) dX6_set_97 (fun H locs hP hD hS => ?_)
            have hP : va_P G.1 vwCl [ob mo 6 [.ref u0, .ref u1, .ref u2, .ref u3, .ref u4, .ref u5, .int (nI sm131), .int (nI ((sa + 1) % 5)), .int (nI le), .int (nI ra), .int (nI fa)], ar G u0 481 (upd nw (25 + r) (nI ((clr (cols σ r) c) ||| 0))), ar G u1 481 bf131, ar G u2 2405 sts131, ar G u3 800 mk, ar G u4 800 vl] H := hP
            have hD : va_D A [ob mo 6 [.ref u0, .ref u1, .ref u2, .ref u3, .ref u4, .ref u5, .int (nI sm131), .int (nI ((sa + 1) % 5)), .int (nI le), .int (nI ra), .int (nI fa)], ar G u0 481 (upd nw (25 + r) (nI ((clr (cols σ r) c) ||| 0))), ar G u1 481 bf131, ar G u2 2405 sts131, ar G u3 800 mk, ar G u4 800 vl] := hD
            refine lv_aload_n hx hb dX6_set_98 rfl (lv_at hl 1 rfl) ?_
            refine va_get (D := G.1) (ci := 6) (v := .ref u0) (C := RX6) (T := TX6) (N := 11) hx hb hts iqX6_set_ok_X6 hown hK.1 hP 0 rfl rfl 0 (by decide) (hts (.fieldLink RX6 7 "PushedTablesModel" "now" "[I") (List.mem_of_getElem? (i := 1) rfl)) (fun _ h9 => h9) rfl dX6_set_99 ?_
            refine lv_bipush (v := (nI 73)) hx hb dX6_set_102 (by decide) ?_
            refine lv_bipush (v := (nI 16)) hx hb dX6_set_104 (by decide) ?_
            refine lv_iload_n hx hb dX6_set_106 rfl (lv_at hl 2 rfl) ?_
            refine r_imul (v := 16 * r) hx hb dX6_set_107 rfl ?_
            refine r_iadd (v := 73 + (16 * r)) hx hb dX6_set_108 rfl ?_
            refine lv_iload_n hx hb dX6_set_109 rfl (lv_at hl 3 rfl) ?_
            refine r_iadd (v := (73 + (16 * r)) + c) hx hb dX6_set_110 rfl ?_
            refine lv_iload_n hx hb dX6_set_111 rfl (lv_at hl 4 rfl) ?_
            refine r_iast (e1 := (73 + (16 * r)) + c) (x := (nI v)) (g := upd (upd nw (25 + r) (nI ((clr (cols σ r) c) ||| 0))) ((73 + (16 * r)) + c) (nI v)) hx hb hK.1 hP hD hS 1 0 rfl rfl (by omega) (by first | decide | assumption) (rfl) dX6_set_112 (fun H locs hP hD hS => ?_)
            have hP : va_P G.1 vwCl [ob mo 6 [.ref u0, .ref u1, .ref u2, .ref u3, .ref u4, .ref u5, .int (nI sm131), .int (nI ((sa + 1) % 5)), .int (nI le), .int (nI ra), .int (nI fa)], ar G u0 481 (upd (upd nw (25 + r) (nI ((clr (cols σ r) c) ||| 0))) ((73 + (16 * r)) + c) (nI v)), ar G u1 481 bf131, ar G u2 2405 sts131, ar G u3 800 mk, ar G u4 800 vl] H := hP
            have hD : va_D A [ob mo 6 [.ref u0, .ref u1, .ref u2, .ref u3, .ref u4, .ref u5, .int (nI sm131), .int (nI ((sa + 1) % 5)), .int (nI le), .int (nI ra), .int (nI fa)], ar G u0 481 (upd (upd nw (25 + r) (nI ((clr (cols σ r) c) ||| 0))) ((73 + (16 * r)) + c) (nI v)), ar G u1 481 bf131, ar G u2 2405 sts131, ar G u3 800 mk, ar G u4 800 vl] := hD
            have hR3 := Rel_ch hR h24 hr hc (cols_cf hc cq86)
            refine lv_aload_n hx hb dX6_set_113 rfl (lv_at hl 1 rfl) ?_
            refine lv_iload_n hx hb dX6_set_114 rfl (lv_at hl 2 rfl) ?_
            refine lv_iload hx hb dX6_set_115 (lv_at hl 0 rfl) ?_
            refine lv_iload_n hx hb dX6_set_117 rfl (lv_at hl 4 rfl) ?_
            refine r_icmp_eq (P := (vv σ (r * 16 + c)) = v) (tgt := 125) hx hb dX6_set_118 (by decide) (nI_eq (by omega) (by omega)) (fun cq118 => ?_) (fun cq118 => ?_)
            · refine lv_iconst (v := (bI false)) hx hb dX6_set_125 (by decide) ?_
              refine g_V (k_V (q0 := 0) (ci := 6) (n := 2) (As := [.int (nI r), .int (bI false)]) (rest := []) (wc := [ob mo 6 [.ref u0, .ref u1, .ref u2, .ref u3, .ref u4, .ref u5, .int (nI sm131), .int (nI ((sa + 1) % 5)), .int (nI le), .int (nI ra), .int (nI fa)], ar G u0 481 (upd (upd nw (25 + r) (nI ((clr (cols σ r) c) ||| 0))) ((73 + (16 * r)) + c) (nI v)), ar G u3 800 mk, ar G u4 800 vl]) hx hb hml hown hts (c_X6_formsFor_f (l := l) (G := G) (mo := mo) (u0 := u0) (u1 := u1) (u2 := u2) (u3 := u3) (u4 := u4) (u5 := u5) (sm := sm131) (sa := ((sa + 1) % 5)) (le := le) (ra := ra) (fa := fa) (nw := upd (upd nw (25 + r) (nI ((clr (cols σ r) c) ||| 0))) ((73 + (16 * r)) + c) (nI v)) (r := r) (mk := mk) (vl := vl))  gX6_set_X6_formsFor rfl rfl rfl (by decide +kernel) ⟨Nat.le_of_ble_eq_true rfl, Nat.le_of_ble_eq_true rfl⟩ rfl hK hP hD [0, 1, 4, 5] rfl (by decide)  rfl rfl rfl hl.1 rfl (Nat.le_of_ble_eq_true rfl) dX6_set_126 ⟨Nat.le_of_ble_eq_true rfl, Nat.le_of_ble_eq_true rfl⟩) hP hD hS [0, 1, 4, 5] rfl (fun H locs hB126 back hS => ?_)
              have hP1 := hB126
              obtain ⟨hP, hD⟩ := back [ob mo 6 [.ref u0, .ref u1, .ref u2, .ref u3, .ref u4, .ref u5, .int (nI sm131), .int (nI ((sa + 1) % 5)), .int (nI le), .int (nI ra), .int (nI fa)], ar G u0 481 (upd (upd nw (25 + r) (nI ((clr (cols σ r) c) ||| 0))) ((73 + (16 * r)) + c) (nI v)), ar G u3 800 mk, ar G u4 800 vl] rfl hP1
              have hP : va_P G.1 vwCl [ob mo 6 [.ref u0, .ref u1, .ref u2, .ref u3, .ref u4, .ref u5, .int (nI sm131), .int (nI ((sa + 1) % 5)), .int (nI le), .int (nI ra), .int (nI fa)], ar G u0 481 (upd (upd nw (25 + r) (nI ((clr (cols σ r) c) ||| 0))) ((73 + (16 * r)) + c) (nI v)), ar G u1 481 bf131, ar G u2 2405 sts131, ar G u3 800 mk, ar G u4 800 vl] H := hP
              have hD : va_D A [ob mo 6 [.ref u0, .ref u1, .ref u2, .ref u3, .ref u4, .ref u5, .int (nI sm131), .int (nI ((sa + 1) % 5)), .int (nI le), .int (nI ra), .int (nI fa)], ar G u0 481 (upd (upd nw (25 + r) (nI ((clr (cols σ r) c) ||| 0))) ((73 + (16 * r)) + c) (nI v)), ar G u1 481 bf131, ar G u2 2405 sts131, ar G u3 800 mk, ar G u4 800 vl] := hD
              refine lv_iload hx hb dX6_set_129 (lv_at hl 0 rfl) ?_
              exact hret _ _ _ _ _ hS dX6_set_131 (⟨(upd (upd nw (25 + r) (nI ((clr (cols σ r) c) ||| 0))) ((73 + (16 * r)) + c) (nI v)), bf131, sts131, sm131, mk, vl, rfl, hqs31, hqt31, by unfold rsetT; rw [if_pos cq47]; exact hR3, hP⟩)
            · exact absurd cq47 cq118
        · have hn2 := nn_lfT σ r
          have hB2 := Bd_lfT hB r
          have hd2 : dd (lfT σ r) r = dd σ r := by rw [dd_lfT]
          refine lv_iconst (v := (bI true)) hx hb dX6_set_50 (by decide) ?_
          refine lv_goto (tgt := 55) hx hb dX6_set_51 (by decide) ?_
          refine g_V (k_V (q0 := 0) (ci := 6) (n := 2) (As := [.int (nI r), .int (bI true)]) (rest := []) (wc := [ob mo 6 [.ref u0, .ref u1, .ref u2, .ref u3, .ref u4, .ref u5, .int (nI sm131), .int (nI ((sa + 1) % 5)), .int (nI le), .int (nI ra), .int (nI fa)], ar G u0 481 nw]) hx hb hml hown hts (c_X6_leavesFor_t (l := l) (G := G) (mo := mo) (u0 := u0) (u1 := u1) (u2 := u2) (u3 := u3) (u4 := u4) (u5 := u5) (sm := sm131) (sa := ((sa + 1) % 5)) (le := le) (ra := ra) (fa := fa) (σ := σ) (nw := nw) (hR := hR) (hB := hB) (r := r) (hr := by first | assumption | omega))  gX6_set_X6_leavesFor rfl rfl rfl (by decide +kernel) ⟨Nat.le_of_ble_eq_true rfl, Nat.le_of_ble_eq_true rfl⟩ rfl hK hP hD [0, 1] rfl (by decide)  rfl rfl rfl hl.1 rfl (Nat.le_of_ble_eq_true rfl) dX6_set_55 ⟨Nat.le_of_ble_eq_true rfl, Nat.le_of_ble_eq_true rfl⟩) hP hD hS [0, 1] rfl (fun H locs hB55 back hS => ?_)
          obtain ⟨nw155, hq55, hP1⟩ := hB55
          obtain ⟨hP, hD⟩ := back [ob mo 6 [.ref u0, .ref u1, .ref u2, .ref u3, .ref u4, .ref u5, .int (nI sm131), .int (nI ((sa + 1) % 5)), .int (nI le), .int (nI ra), .int (nI fa)], ar G u0 481 nw155] rfl hP1
          have hP : va_P G.1 vwCl [ob mo 6 [.ref u0, .ref u1, .ref u2, .ref u3, .ref u4, .ref u5, .int (nI sm131), .int (nI ((sa + 1) % 5)), .int (nI le), .int (nI ra), .int (nI fa)], ar G u0 481 nw155, ar G u1 481 bf131, ar G u2 2405 sts131, ar G u3 800 mk, ar G u4 800 vl] H := hP
          have hD : va_D A [ob mo 6 [.ref u0, .ref u1, .ref u2, .ref u3, .ref u4, .ref u5, .int (nI sm131), .int (nI ((sa + 1) % 5)), .int (nI le), .int (nI ra), .int (nI fa)], ar G u0 481 nw155, ar G u1 481 bf131, ar G u2 2405 sts131, ar G u3 800 mk, ar G u4 800 vl] := hD
          refine lv_aload_n hx hb dX6_set_58 rfl (lv_at hl 1 rfl) ?_
          refine va_get (D := G.1) (ci := 6) (v := .ref u0) (C := RX6) (T := TX6) (N := 11) hx hb hts iqX6_set_ok_X6 hown hK.1 hP 0 rfl rfl 0 (by decide) (hts (.fieldLink RX6 7 "PushedTablesModel" "now" "[I") (List.mem_of_getElem? (i := 1) rfl)) (fun _ h9 => h9) rfl dX6_set_59 ?_
          refine lv_bipush (v := (nI 25)) hx hb dX6_set_62 (by decide) ?_
          refine lv_iload_n hx hb dX6_set_64 rfl (lv_at hl 2 rfl) ?_
          refine r_iadd (v := 25 + r) hx hb dX6_set_65 rfl ?_
          refine lv_aload_n hx hb dX6_set_66 rfl (lv_at hl 1 rfl) ?_
          refine lv_iload_n hx hb dX6_set_67 rfl (lv_at hl 2 rfl) ?_
          refine g_ro (k_V (q0 := 0) (ci := 6) (n := 1) (As := [.int (nI r)]) (rest := [.int (nI (25 + r)), .ref u0]) (wc := [ob mo 6 [.ref u0, .ref u1, .ref u2, .ref u3, .ref u4, .ref u5, .int (nI sm131), .int (nI ((sa + 1) % 5)), .int (nI le), .int (nI ra), .int (nI fa)], ar G u0 481 nw155]) hx hb hml hown hts (c_X6_entries (l := l) (G := G) (mo := mo) (u0 := u0) (u1 := u1) (u2 := u2) (u3 := u3) (u4 := u4) (u5 := u5) (sm := sm131) (sa := ((sa + 1) % 5)) (le := le) (ra := ra) (fa := fa) (σ := (lfT σ r)) (nw := nw155) (hR := hq55) (hB := hB2) (r := r) (hr := by first | assumption | omega))  gX6_set_X6_entries rfl rfl rfl (by decide +kernel) ⟨Nat.le_of_ble_eq_true rfl, Nat.le_of_ble_eq_true rfl⟩ rfl hK hP hD [0, 1] rfl (by decide)  rfl rfl rfl hl.1 rfl (Nat.le_of_ble_eq_true rfl) dX6_set_68 ⟨Nat.le_of_ble_eq_true rfl, Nat.le_of_ble_eq_true rfl⟩) (fun r68 h68 => ?_)
          obtain rfl : (nI (cols (lfT σ r) r)) = r68 := Eq.symm h68
          have b68 := cols_lt (lfT σ r) r
          refine r_top (y := (nI (cols σ r))) (congrArg nI (cols_lfT σ r r)) ?_
          refine lv_iconst (v := (nI 1)) hx hb dX6_set_71 (by decide) ?_
          refine lv_iload_n hx hb dX6_set_72 rfl (lv_at hl 3 rfl) ?_
          refine lv_ishl hx hb dX6_set_73 ?_
          refine r_top (y := (nI (2 ^ c))) (r_shl1 (by omega)) ?_
          refine lv_iconst (v := (-1)) hx hb dX6_set_74 (by decide) ?_
          refine lv_ixor hx hb dX6_set_75 ?_
          refine r_top (y := (nI (2 ^ c) ^^^ (-1))) (rfl) ?_
          refine lv_iand hx hb dX6_set_76 ?_
          refine r_top (y := (nI (clr (cols σ r) c))) (bit_clr (cols_lt σ r) hc) ?_
          refine lv_iload_n hx hb dX6_set_77 rfl (lv_at hl 4 rfl) ?_
          refine lv_aload_n hx hb dX6_set_78 rfl (lv_at hl 1 rfl) ?_
          refine va_get (D := G.1) (ci := 6) (v := .ref u0) (C := RX6) (T := TX6) (N := 11) hx hb hts iqX6_set_ok_X6 hown hK.1 hP 0 rfl rfl 0 (by decide) (hts (.fieldLink RX6 7 "PushedTablesModel" "now" "[I") (List.mem_of_getElem? (i := 1) rfl)) (fun _ h9 => h9) rfl dX6_set_79 ?_
          refine lv_iconst (v := (nI 1)) hx hb dX6_set_82 (by decide) ?_
          refine lv_iload_n hx hb dX6_set_83 rfl (lv_at hl 2 rfl) ?_
          refine r_iadd (v := 1 + r) hx hb dX6_set_84 rfl ?_
          refine r_iald (e1 := 1 + r) (v := (nI (dd σ r))) hx hb hK.1 hP 1 0 rfl rfl (by omega) (by first | decide | assumption) ((hq55.d (by omega)).trans (congrArg nI hd2)) dX6_set_85 ?_
          refine r_icmp_ne (P := v = (dd σ r)) (tgt := 93) hx hb dX6_set_86 (by decide) (nI_eq (by omega) (by omega)) (fun cq86 => ?_) (fun cq86 => ?_)
          · refine lv_iconst (v := (nI 1)) hx hb dX6_set_93 (by decide) ?_
            refine lv_iload_n hx hb dX6_set_94 rfl (lv_at hl 3 rfl) ?_
            refine lv_ishl hx hb dX6_set_95 ?_
            refine r_top (y := (nI (2 ^ c))) (r_shl1 (by omega)) ?_
            refine lv_ior hx hb dX6_set_96 ?_
            refine r_top (y := (nI ((clr (cols σ r) c) ||| (2 ^ c)))) (fa_or _ _) ?_
            refine r_iast (e1 := 25 + r) (x := (nI ((clr (cols σ r) c) ||| (2 ^ c)))) (g := upd nw155 (25 + r) (nI ((clr (cols σ r) c) ||| (2 ^ c)))) hx hb hK.1 hP hD hS 1 0 rfl rfl (by omega) (by first | decide | assumption) (rfl) dX6_set_97 (fun H locs hP hD hS => ?_)
            have hP : va_P G.1 vwCl [ob mo 6 [.ref u0, .ref u1, .ref u2, .ref u3, .ref u4, .ref u5, .int (nI sm131), .int (nI ((sa + 1) % 5)), .int (nI le), .int (nI ra), .int (nI fa)], ar G u0 481 (upd nw155 (25 + r) (nI ((clr (cols σ r) c) ||| (2 ^ c)))), ar G u1 481 bf131, ar G u2 2405 sts131, ar G u3 800 mk, ar G u4 800 vl] H := hP
            have hD : va_D A [ob mo 6 [.ref u0, .ref u1, .ref u2, .ref u3, .ref u4, .ref u5, .int (nI sm131), .int (nI ((sa + 1) % 5)), .int (nI le), .int (nI ra), .int (nI fa)], ar G u0 481 (upd nw155 (25 + r) (nI ((clr (cols σ r) c) ||| (2 ^ c)))), ar G u1 481 bf131, ar G u2 2405 sts131, ar G u3 800 mk, ar G u4 800 vl] := hD
            refine lv_aload_n hx hb dX6_set_98 rfl (lv_at hl 1 rfl) ?_
            refine va_get (D := G.1) (ci := 6) (v := .ref u0) (C := RX6) (T := TX6) (N := 11) hx hb hts iqX6_set_ok_X6 hown hK.1 hP 0 rfl rfl 0 (by decide) (hts (.fieldLink RX6 7 "PushedTablesModel" "now" "[I") (List.mem_of_getElem? (i := 1) rfl)) (fun _ h9 => h9) rfl dX6_set_99 ?_
            refine lv_bipush (v := (nI 73)) hx hb dX6_set_102 (by decide) ?_
            refine lv_bipush (v := (nI 16)) hx hb dX6_set_104 (by decide) ?_
            refine lv_iload_n hx hb dX6_set_106 rfl (lv_at hl 2 rfl) ?_
            refine r_imul (v := 16 * r) hx hb dX6_set_107 rfl ?_
            refine r_iadd (v := 73 + (16 * r)) hx hb dX6_set_108 rfl ?_
            refine lv_iload_n hx hb dX6_set_109 rfl (lv_at hl 3 rfl) ?_
            refine r_iadd (v := (73 + (16 * r)) + c) hx hb dX6_set_110 rfl ?_
            refine lv_iload_n hx hb dX6_set_111 rfl (lv_at hl 4 rfl) ?_
            refine r_iast (e1 := (73 + (16 * r)) + c) (x := (nI v)) (g := upd (upd nw155 (25 + r) (nI ((clr (cols σ r) c) ||| (2 ^ c)))) ((73 + (16 * r)) + c) (nI v)) hx hb hK.1 hP hD hS 1 0 rfl rfl (by omega) (by first | decide | assumption) (rfl) dX6_set_112 (fun H locs hP hD hS => ?_)
            have hP : va_P G.1 vwCl [ob mo 6 [.ref u0, .ref u1, .ref u2, .ref u3, .ref u4, .ref u5, .int (nI sm131), .int (nI ((sa + 1) % 5)), .int (nI le), .int (nI ra), .int (nI fa)], ar G u0 481 (upd (upd nw155 (25 + r) (nI ((clr (cols σ r) c) ||| (2 ^ c)))) ((73 + (16 * r)) + c) (nI v)), ar G u1 481 bf131, ar G u2 2405 sts131, ar G u3 800 mk, ar G u4 800 vl] H := hP
            have hD : va_D A [ob mo 6 [.ref u0, .ref u1, .ref u2, .ref u3, .ref u4, .ref u5, .int (nI sm131), .int (nI ((sa + 1) % 5)), .int (nI le), .int (nI ra), .int (nI fa)], ar G u0 481 (upd (upd nw155 (25 + r) (nI ((clr (cols σ r) c) ||| (2 ^ c)))) ((73 + (16 * r)) + c) (nI v)), ar G u1 481 bf131, ar G u2 2405 sts131, ar G u3 800 mk, ar G u4 800 vl] := hD
            have hR3 := Rel_ch hq55 (by omega) (r := r) (c := c) (v := v) (by omega) hc ((congrArg (fun z => clr z c ||| 2 ^ c) (cols_lfT σ r r).symm).trans (cols_ct hc (by rw [hd2]; exact cq86)))
            refine lv_aload_n hx hb dX6_set_113 rfl (lv_at hl 1 rfl) ?_
            refine lv_iload_n hx hb dX6_set_114 rfl (lv_at hl 2 rfl) ?_
            refine lv_iload hx hb dX6_set_115 (lv_at hl 0 rfl) ?_
            refine lv_iload_n hx hb dX6_set_117 rfl (lv_at hl 4 rfl) ?_
            refine r_icmp_eq (P := (vv σ (r * 16 + c)) = v) (tgt := 125) hx hb dX6_set_118 (by decide) (nI_eq (by omega) (by omega)) (fun cq118 => ?_) (fun cq118 => ?_)
            · exact absurd cq118 cq47
            · refine lv_iconst (v := (bI true)) hx hb dX6_set_121 (by decide) ?_
              refine lv_goto (tgt := 126) hx hb dX6_set_122 (by decide) ?_
              refine g_V (k_V (q0 := 0) (ci := 6) (n := 2) (As := [.int (nI r), .int (bI true)]) (rest := []) (wc := [ob mo 6 [.ref u0, .ref u1, .ref u2, .ref u3, .ref u4, .ref u5, .int (nI sm131), .int (nI ((sa + 1) % 5)), .int (nI le), .int (nI ra), .int (nI fa)], ar G u0 481 (upd (upd nw155 (25 + r) (nI ((clr (cols σ r) c) ||| (2 ^ c)))) ((73 + (16 * r)) + c) (nI v)), ar G u3 800 mk, ar G u4 800 vl]) hx hb hml hown hts (c_X6_formsFor_t (l := l) (G := G) (mo := mo) (u0 := u0) (u1 := u1) (u2 := u2) (u3 := u3) (u4 := u4) (u5 := u5) (sm := sm131) (sa := ((sa + 1) % 5)) (le := le) (ra := ra) (fa := fa) (σ := (chS (lfT σ r) (r * 16 + c) v)) (nw := upd (upd nw155 (25 + r) (nI ((clr (cols σ r) c) ||| (2 ^ c)))) ((73 + (16 * r)) + c) (nI v)) (hR := hR3) (hB := (Bd_chS hB2 hv9)) (r := r) (hr := (show r < nn (lfT σ r) by omega)) (hF := (hF cq47)) (mk := mk) (vl := vl))  gX6_set_X6_formsFor rfl rfl rfl (by decide +kernel) ⟨Nat.le_of_ble_eq_true rfl, Nat.le_of_ble_eq_true rfl⟩ rfl hK hP hD [0, 1, 4, 5] rfl (by decide)  rfl rfl rfl hl.1 rfl (Nat.le_of_ble_eq_true rfl) dX6_set_126 ⟨Nat.le_of_ble_eq_true rfl, Nat.le_of_ble_eq_true rfl⟩) hP hD hS [0, 1, 4, 5] rfl (fun H locs hB126 back hS => ?_)
              obtain ⟨nw1126, mk1126, vl1126, hq126, hP1⟩ := hB126
              obtain ⟨hP, hD⟩ := back [ob mo 6 [.ref u0, .ref u1, .ref u2, .ref u3, .ref u4, .ref u5, .int (nI sm131), .int (nI ((sa + 1) % 5)), .int (nI le), .int (nI ra), .int (nI fa)], ar G u0 481 nw1126, ar G u3 800 mk1126, ar G u4 800 vl1126] rfl hP1
              have hP : va_P G.1 vwCl [ob mo 6 [.ref u0, .ref u1, .ref u2, .ref u3, .ref u4, .ref u5, .int (nI sm131), .int (nI ((sa + 1) % 5)), .int (nI le), .int (nI ra), .int (nI fa)], ar G u0 481 nw1126, ar G u1 481 bf131, ar G u2 2405 sts131, ar G u3 800 mk1126, ar G u4 800 vl1126] H := hP
              have hD : va_D A [ob mo 6 [.ref u0, .ref u1, .ref u2, .ref u3, .ref u4, .ref u5, .int (nI sm131), .int (nI ((sa + 1) % 5)), .int (nI le), .int (nI ra), .int (nI fa)], ar G u0 481 nw1126, ar G u1 481 bf131, ar G u2 2405 sts131, ar G u3 800 mk1126, ar G u4 800 vl1126] := hD
              refine lv_iload hx hb dX6_set_129 (lv_at hl 0 rfl) ?_
              exact hret _ _ _ _ _ hS dX6_set_131 (⟨nw1126, bf131, sts131, sm131, mk1126, vl1126, rfl, hqs31, hqt31, by unfold rsetT; rw [if_neg cq47]; exact hq126, hP⟩)
          · refine lv_iconst (v := (nI 0)) hx hb dX6_set_89 (by decide) ?_
            refine lv_goto (tgt := 96) hx hb dX6_set_90 (by decide) ?_
            refine lv_ior hx hb dX6_set_96 ?_
            refine r_top (y := (nI ((clr (cols σ r) c) ||| 0))) (fa_or _ _) ?_
            refine r_iast (e1 := 25 + r) (x := (nI ((clr (cols σ r) c) ||| 0))) (g := upd nw155 (25 + r) (nI ((clr (cols σ r) c) ||| 0))) hx hb hK.1 hP hD hS 1 0 rfl rfl (by omega) (by first | decide | assumption) (rfl) dX6_set_97 (fun H locs hP hD hS => ?_)
            have hP : va_P G.1 vwCl [ob mo 6 [.ref u0, .ref u1, .ref u2, .ref u3, .ref u4, .ref u5, .int (nI sm131), .int (nI ((sa + 1) % 5)), .int (nI le), .int (nI ra), .int (nI fa)], ar G u0 481 (upd nw155 (25 + r) (nI ((clr (cols σ r) c) ||| 0))), ar G u1 481 bf131, ar G u2 2405 sts131, ar G u3 800 mk, ar G u4 800 vl] H := hP
            have hD : va_D A [ob mo 6 [.ref u0, .ref u1, .ref u2, .ref u3, .ref u4, .ref u5, .int (nI sm131), .int (nI ((sa + 1) % 5)), .int (nI le), .int (nI ra), .int (nI fa)], ar G u0 481 (upd nw155 (25 + r) (nI ((clr (cols σ r) c) ||| 0))), ar G u1 481 bf131, ar G u2 2405 sts131, ar G u3 800 mk, ar G u4 800 vl] := hD
            refine lv_aload_n hx hb dX6_set_98 rfl (lv_at hl 1 rfl) ?_
            refine va_get (D := G.1) (ci := 6) (v := .ref u0) (C := RX6) (T := TX6) (N := 11) hx hb hts iqX6_set_ok_X6 hown hK.1 hP 0 rfl rfl 0 (by decide) (hts (.fieldLink RX6 7 "PushedTablesModel" "now" "[I") (List.mem_of_getElem? (i := 1) rfl)) (fun _ h9 => h9) rfl dX6_set_99 ?_
            refine lv_bipush (v := (nI 73)) hx hb dX6_set_102 (by decide) ?_
            refine lv_bipush (v := (nI 16)) hx hb dX6_set_104 (by decide) ?_
            refine lv_iload_n hx hb dX6_set_106 rfl (lv_at hl 2 rfl) ?_
            refine r_imul (v := 16 * r) hx hb dX6_set_107 rfl ?_
            refine r_iadd (v := 73 + (16 * r)) hx hb dX6_set_108 rfl ?_
            refine lv_iload_n hx hb dX6_set_109 rfl (lv_at hl 3 rfl) ?_
            refine r_iadd (v := (73 + (16 * r)) + c) hx hb dX6_set_110 rfl ?_
            refine lv_iload_n hx hb dX6_set_111 rfl (lv_at hl 4 rfl) ?_
            refine r_iast (e1 := (73 + (16 * r)) + c) (x := (nI v)) (g := upd (upd nw155 (25 + r) (nI ((clr (cols σ r) c) ||| 0))) ((73 + (16 * r)) + c) (nI v)) hx hb hK.1 hP hD hS 1 0 rfl rfl (by omega) (by first | decide | assumption) (rfl) dX6_set_112 (fun H locs hP hD hS => ?_)
            have hP : va_P G.1 vwCl [ob mo 6 [.ref u0, .ref u1, .ref u2, .ref u3, .ref u4, .ref u5, .int (nI sm131), .int (nI ((sa + 1) % 5)), .int (nI le), .int (nI ra), .int (nI fa)], ar G u0 481 (upd (upd nw155 (25 + r) (nI ((clr (cols σ r) c) ||| 0))) ((73 + (16 * r)) + c) (nI v)), ar G u1 481 bf131, ar G u2 2405 sts131, ar G u3 800 mk, ar G u4 800 vl] H := hP
            have hD : va_D A [ob mo 6 [.ref u0, .ref u1, .ref u2, .ref u3, .ref u4, .ref u5, .int (nI sm131), .int (nI ((sa + 1) % 5)), .int (nI le), .int (nI ra), .int (nI fa)], ar G u0 481 (upd (upd nw155 (25 + r) (nI ((clr (cols σ r) c) ||| 0))) ((73 + (16 * r)) + c) (nI v)), ar G u1 481 bf131, ar G u2 2405 sts131, ar G u3 800 mk, ar G u4 800 vl] := hD
            have hR3 := Rel_ch hq55 (by omega) (r := r) (c := c) (v := v) (by omega) hc ((congrArg (fun z => clr z c ||| 0) (cols_lfT σ r r).symm).trans (cols_cf hc (by rw [hd2]; exact cq86)))
            refine lv_aload_n hx hb dX6_set_113 rfl (lv_at hl 1 rfl) ?_
            refine lv_iload_n hx hb dX6_set_114 rfl (lv_at hl 2 rfl) ?_
            refine lv_iload hx hb dX6_set_115 (lv_at hl 0 rfl) ?_
            refine lv_iload_n hx hb dX6_set_117 rfl (lv_at hl 4 rfl) ?_
            refine r_icmp_eq (P := (vv σ (r * 16 + c)) = v) (tgt := 125) hx hb dX6_set_118 (by decide) (nI_eq (by omega) (by omega)) (fun cq118 => ?_) (fun cq118 => ?_)
            · exact absurd cq118 cq47
            · refine lv_iconst (v := (bI true)) hx hb dX6_set_121 (by decide) ?_
              refine lv_goto (tgt := 126) hx hb dX6_set_122 (by decide) ?_
              refine g_V (k_V (q0 := 0) (ci := 6) (n := 2) (As := [.int (nI r), .int (bI true)]) (rest := []) (wc := [ob mo 6 [.ref u0, .ref u1, .ref u2, .ref u3, .ref u4, .ref u5, .int (nI sm131), .int (nI ((sa + 1) % 5)), .int (nI le), .int (nI ra), .int (nI fa)], ar G u0 481 (upd (upd nw155 (25 + r) (nI ((clr (cols σ r) c) ||| 0))) ((73 + (16 * r)) + c) (nI v)), ar G u3 800 mk, ar G u4 800 vl]) hx hb hml hown hts (c_X6_formsFor_t (l := l) (G := G) (mo := mo) (u0 := u0) (u1 := u1) (u2 := u2) (u3 := u3) (u4 := u4) (u5 := u5) (sm := sm131) (sa := ((sa + 1) % 5)) (le := le) (ra := ra) (fa := fa) (σ := (chS (lfT σ r) (r * 16 + c) v)) (nw := upd (upd nw155 (25 + r) (nI ((clr (cols σ r) c) ||| 0))) ((73 + (16 * r)) + c) (nI v)) (hR := hR3) (hB := (Bd_chS hB2 hv9)) (r := r) (hr := (show r < nn (lfT σ r) by omega)) (hF := (hF cq47)) (mk := mk) (vl := vl))  gX6_set_X6_formsFor rfl rfl rfl (by decide +kernel) ⟨Nat.le_of_ble_eq_true rfl, Nat.le_of_ble_eq_true rfl⟩ rfl hK hP hD [0, 1, 4, 5] rfl (by decide)  rfl rfl rfl hl.1 rfl (Nat.le_of_ble_eq_true rfl) dX6_set_126 ⟨Nat.le_of_ble_eq_true rfl, Nat.le_of_ble_eq_true rfl⟩) hP hD hS [0, 1, 4, 5] rfl (fun H locs hB126 back hS => ?_)
              obtain ⟨nw1126, mk1126, vl1126, hq126, hP1⟩ := hB126
              obtain ⟨hP, hD⟩ := back [ob mo 6 [.ref u0, .ref u1, .ref u2, .ref u3, .ref u4, .ref u5, .int (nI sm131), .int (nI ((sa + 1) % 5)), .int (nI le), .int (nI ra), .int (nI fa)], ar G u0 481 nw1126, ar G u3 800 mk1126, ar G u4 800 vl1126] rfl hP1
              have hP : va_P G.1 vwCl [ob mo 6 [.ref u0, .ref u1, .ref u2, .ref u3, .ref u4, .ref u5, .int (nI sm131), .int (nI ((sa + 1) % 5)), .int (nI le), .int (nI ra), .int (nI fa)], ar G u0 481 nw1126, ar G u1 481 bf131, ar G u2 2405 sts131, ar G u3 800 mk1126, ar G u4 800 vl1126] H := hP
              have hD : va_D A [ob mo 6 [.ref u0, .ref u1, .ref u2, .ref u3, .ref u4, .ref u5, .int (nI sm131), .int (nI ((sa + 1) % 5)), .int (nI le), .int (nI ra), .int (nI fa)], ar G u0 481 nw1126, ar G u1 481 bf131, ar G u2 2405 sts131, ar G u3 800 mk1126, ar G u4 800 vl1126] := hD
              refine lv_iload hx hb dX6_set_129 (lv_at hl 0 rfl) ?_
              exact hret _ _ _ _ _ hS dX6_set_131 (⟨nw1126, bf131, sts131, sm131, mk1126, vl1126, rfl, hqs31, hqt31, by unfold rsetT; rw [if_neg cq47]; exact hq126, hP⟩)
      · exact (no_f (ing_ok (by omega) (by omega) (by decide)) cq25).elim

set_option maxHeartbeats 1000000 in
set_option maxRecDepth 100000 in
theorem c_X6_entriesBy_t (l : Launch) (G : kG) (mo u0 u1 u2 u3 u4 u5 sm sa le ra fa : Nat) (σ : Sg) (nw : Nat → Int32) (hR : Rel σ nw) (hB : Bd σ) (r v : Nat) (hr : r < nn σ) (hv9 : v < 100) : Met l yX6_entriesBy wsX6_entriesBy ({ frames := 2, cells := 0, slots := 0, locals := 43 } : Room) (cP G [.ref mo, .int (nI r), .int (nI v), .int (bI true)] [ob mo 6 [.ref u0, .ref u1, .ref u2, .ref u3, .ref u4, .ref u5, .int (nI sm), .int (nI sa), .int (nI le), .int (nI ra), .int (nI fa)], ar G u0 481 nw]) (vp_Si (fun rv => rv = (nI (ebT σ r v)))) 0 0 (fun _ => False) := by
  refine met_ro (cc := cX6_entriesBy) (maxL := 6) (ty := .int) (own := RX6) (by decide) rfl rfl (fun _ _ => rfl) (Nat.le_of_ble_eq_true rfl) ?_
  intro p e s m args below meth cod Q hx hb hml hown hts hK hP hD hret ls hl
  have hl : lv_has ls 6 [(0, .ref mo), (1, .int (nI r)), (2, .int (nI v)), (3, .int (bI true))] := hl
  have h24 := hB.n
  refine lv_iconst (v := (nI 0)) hx hb dX6_entriesBy_0 (by decide) ?_
  refine lv_istore (lv' := [(4, .int (nI 0)), (0, .ref mo), (1, .int (nI r)), (2, .int (nI v)), (3, .int (bI true))]) hx hb dX6_entriesBy_1 hl (by decide) rfl (fun ls hl => ?_)
  refine lv_iconst (v := (nI 0)) hx hb dX6_entriesBy_3 (by decide) ?_
  refine lv_istore (lv' := [(5, .int (nI 0)), (4, .int (nI 0)), (0, .ref mo), (1, .int (nI r)), (2, .int (nI v)), (3, .int (bI true))]) hx hb dX6_entriesBy_4 hl (by decide) rfl (fun ls hl => ?_)
  have L6 : ∀ (fu : Nat) (c : Nat) (m2 : Nat), 17 - c < fu → c ≤ 16 → m2 = msk (fun j => decide (vv σ (r * 16 + j) ≠ v)) c → ∀ (ls : Array Slot), lv_has ls 6 [(0, .ref mo), (1, .int (nI r)), (2, .int (nI v)), (3, .int (bI true)), (4, .int (nI m2)), (5, .int (nI c))] → W p l e ({ frames := 2, cells := 0, slots := 0, locals := 43 } : Room) s m args below meth cod s.heap [] 0 0 Q (F0 m 6 ls []) := by
    intro fu
    induction fu with
    | zero => intro c m2 hm; exact absurd hm (Nat.not_lt_zero _)
    | succ fu ih6 =>
      intro c m2 hm6 hc hm2 ls hl
      refine lv_iload hx hb dX6_entriesBy_6 (lv_at hl 5 rfl) ?_
      refine lv_bipush (v := (nI 16)) hx hb dX6_entriesBy_8 (by decide) ?_
      refine r_icmp_ge (P := 16 ≤ c) (tgt := 60) hx hb dX6_entriesBy_10 (by decide) (nI_leI (by omega) (by omega)) (fun cq10 => ?_) (fun cq10 => ?_)
      · refine lv_iload hx hb dX6_entriesBy_60 (lv_at hl 4 rfl) ?_
        exact hret _ _ _ dX6_entriesBy_62 (by have e : c = 16 := (by omega); rw [hm2, e]; rfl)
      · have hmlt := msk_lt31 (fun j => decide (vv σ (r * 16 + j) ≠ v)) hc
        refine lv_iload hx hb dX6_entriesBy_13 (lv_at hl 4 rfl) ?_
        refine lv_iload_n hx hb dX6_entriesBy_15 rfl (lv_at hl 3 rfl) ?_
        refine r_if_ne (P := true = false) (tgt := 32) hx hb dX6_entriesBy_16 (by decide) (bI_eq0) (fun cq16 => ?_) (fun cq16 => ?_)
        · refine lv_aload_n hx hb dX6_entriesBy_32 rfl (lv_at hl 0 rfl) ?_
          refine lv_iload_n hx hb dX6_entriesBy_33 rfl (lv_at hl 1 rfl) ?_
          refine lv_iload hx hb dX6_entriesBy_34 (lv_at hl 5 rfl) ?_
          have hvb := hB.v (r * 16 + c)
          refine g_ro (k_V (q0 := 0) (ci := 6) (n := 2) (As := [.int (nI r), .int (nI c)]) (rest := [.int (nI m2)]) (wc := [ob mo 6 [.ref u0, .ref u1, .ref u2, .ref u3, .ref u4, .ref u5, .int (nI sm), .int (nI sa), .int (nI le), .int (nI ra), .int (nI fa)], ar G u0 481 nw]) hx hb hml hown hts (c_X6_valueOf (l := l) (G := G) (mo := mo) (u0 := u0) (u1 := u1) (u2 := u2) (u3 := u3) (u4 := u4) (u5 := u5) (sm := sm) (sa := sa) (le := le) (ra := ra) (fa := fa) (σ := by first | assumption | omega) (nw := nw) (hR := by first | assumption | omega) (hB := by first | assumption | omega) (r := r) (c := c) (hr := by first | assumption | omega) (hc := by first | assumption | omega))  gX6_entriesBy_X6_valueOf rfl rfl rfl (by decide +kernel) ⟨Nat.le_of_ble_eq_true rfl, Nat.le_of_ble_eq_true rfl⟩ rfl hK hP hD [0, 1] rfl (by decide)  rfl rfl rfl hl.1 rfl (Nat.le_of_ble_eq_true rfl) dX6_entriesBy_36 ⟨Nat.le_of_ble_eq_true rfl, Nat.le_of_ble_eq_true rfl⟩) (fun r36 h36 => ?_)
          obtain rfl : (nI (vv σ (r * 16 + c))) = r36 := Eq.symm h36
          have b36 := (by assumption : Bd σ).v (r * 16 + c)
          refine lv_iload_n hx hb dX6_entriesBy_39 rfl (lv_at hl 2 rfl) ?_
          refine r_icmp_eq (P := (vv σ (r * 16 + c)) = v) (tgt := 50) hx hb dX6_entriesBy_40 (by decide) (nI_eq (by omega) (by omega)) (fun cq40 => ?_) (fun cq40 => ?_)
          · refine lv_iconst (v := (nI 0)) hx hb dX6_entriesBy_50 (by decide) ?_
            refine lv_ior hx hb dX6_entriesBy_51 ?_
            refine r_top (y := (nI (m2 ||| 0))) (fa_or _ _) ?_
            refine lv_istore (lv' := [(4, .int (nI (m2 ||| 0))), (0, .ref mo), (1, .int (nI r)), (2, .int (nI v)), (3, .int (bI true)), (5, .int (nI c))]) hx hb dX6_entriesBy_52 hl (by decide) rfl (fun ls hl => ?_)
            refine r_iinc (v := c + 1) (lv' := [(5, .int (nI (c + 1))), (4, .int (nI (m2 ||| 0))), (0, .ref mo), (1, .int (nI r)), (2, .int (nI v)), (3, .int (bI true))]) hx hb dX6_entriesBy_54 hl (k := 5) rfl (nI_1 _) (by decide) rfl (fun ls hl => ?_)
            refine lv_goto (tgt := 6) hx hb dX6_entriesBy_57 (by decide) ?_
            exact ih6 (c + 1) (m2 ||| 0) (by omega) (by omega) ((Nat.or_zero _).trans (msk_f (p := (fun j => decide (vv σ (r * 16 + j) ≠ v))) (decide_eq_false (fun z => z cq40)) hm2)) ls (lv_sub hl [2, 3, 4, 5, 1, 0] rfl)
          · refine lv_iconst (v := (nI 1)) hx hb dX6_entriesBy_43 (by decide) ?_
            refine lv_iload hx hb dX6_entriesBy_44 (lv_at hl 5 rfl) ?_
            refine lv_ishl hx hb dX6_entriesBy_46 ?_
            refine r_top (y := (nI (2 ^ c))) (r_shl1 (by omega)) ?_
            refine lv_goto (tgt := 51) hx hb dX6_entriesBy_47 (by decide) ?_
            refine lv_ior hx hb dX6_entriesBy_51 ?_
            refine r_top (y := (nI (m2 ||| (2 ^ c)))) (fa_or _ _) ?_
            refine lv_istore (lv' := [(4, .int (nI (m2 ||| (2 ^ c)))), (0, .ref mo), (1, .int (nI r)), (2, .int (nI v)), (3, .int (bI true)), (5, .int (nI c))]) hx hb dX6_entriesBy_52 hl (by decide) rfl (fun ls hl => ?_)
            refine r_iinc (v := c + 1) (lv' := [(5, .int (nI (c + 1))), (4, .int (nI (m2 ||| (2 ^ c)))), (0, .ref mo), (1, .int (nI r)), (2, .int (nI v)), (3, .int (bI true))]) hx hb dX6_entriesBy_54 hl (k := 5) rfl (nI_1 _) (by decide) rfl (fun ls hl => ?_)
            refine lv_goto (tgt := 6) hx hb dX6_entriesBy_57 (by decide) ?_
            exact ih6 (c + 1) (m2 ||| (2 ^ c)) (by omega) (by omega) (msk_t (p := (fun j => decide (vv σ (r * 16 + j) ≠ v))) (decide_eq_true cq40) hm2) ls (lv_sub hl [2, 3, 4, 5, 1, 0] rfl)
        · exact absurd cq16 (by decide)
  exact L6 ((17 - 0) + 1) 0 0 (Nat.lt_succ_self _) (by omega) (rfl) ls (lv_sub hl [2, 3, 4, 5, 1, 0] rfl)

set_option maxHeartbeats 1000000 in
set_option maxRecDepth 100000 in
theorem c_X6_entriesBy_f (l : Launch) (G : kG) (mo u0 u1 u2 u3 u4 u5 sm sa le ra fa : Nat) (σ : Sg) (nw : Nat → Int32) (hR : Rel σ nw) (hB : Bd σ) (r v : Nat) (hr : r < nn σ) (hv9 : v < 100) : Met l yX6_entriesBy wsX6_entriesBy ({ frames := 2, cells := 0, slots := 0, locals := 43 } : Room) (cP G [.ref mo, .int (nI r), .int (nI v), .int (bI false)] [ob mo 6 [.ref u0, .ref u1, .ref u2, .ref u3, .ref u4, .ref u5, .int (nI sm), .int (nI sa), .int (nI le), .int (nI ra), .int (nI fa)], ar G u0 481 nw]) (vp_Si (fun rv => rv = (nI (ebF σ r v)))) 0 0 (fun _ => False) := by
  refine met_ro (cc := cX6_entriesBy) (maxL := 6) (ty := .int) (own := RX6) (by decide) rfl rfl (fun _ _ => rfl) (Nat.le_of_ble_eq_true rfl) ?_
  intro p e s m args below meth cod Q hx hb hml hown hts hK hP hD hret ls hl
  have hl : lv_has ls 6 [(0, .ref mo), (1, .int (nI r)), (2, .int (nI v)), (3, .int (bI false))] := hl
  have h24 := hB.n
  refine lv_iconst (v := (nI 0)) hx hb dX6_entriesBy_0 (by decide) ?_
  refine lv_istore (lv' := [(4, .int (nI 0)), (0, .ref mo), (1, .int (nI r)), (2, .int (nI v)), (3, .int (bI false))]) hx hb dX6_entriesBy_1 hl (by decide) rfl (fun ls hl => ?_)
  refine lv_iconst (v := (nI 0)) hx hb dX6_entriesBy_3 (by decide) ?_
  refine lv_istore (lv' := [(5, .int (nI 0)), (4, .int (nI 0)), (0, .ref mo), (1, .int (nI r)), (2, .int (nI v)), (3, .int (bI false))]) hx hb dX6_entriesBy_4 hl (by decide) rfl (fun ls hl => ?_)
  have L6 : ∀ (fu : Nat) (c : Nat) (m2 : Nat), 17 - c < fu → c ≤ 16 → m2 = msk (fun j => ent σ r j && decide (vv σ (r * 16 + j) ≠ v)) c → ∀ (ls : Array Slot), lv_has ls 6 [(0, .ref mo), (1, .int (nI r)), (2, .int (nI v)), (3, .int (bI false)), (4, .int (nI m2)), (5, .int (nI c))] → W p l e ({ frames := 2, cells := 0, slots := 0, locals := 43 } : Room) s m args below meth cod s.heap [] 0 0 Q (F0 m 6 ls []) := by
    intro fu
    induction fu with
    | zero => intro c m2 hm; exact absurd hm (Nat.not_lt_zero _)
    | succ fu ih6 =>
      intro c m2 hm6 hc hm2 ls hl
      refine lv_iload hx hb dX6_entriesBy_6 (lv_at hl 5 rfl) ?_
      refine lv_bipush (v := (nI 16)) hx hb dX6_entriesBy_8 (by decide) ?_
      refine r_icmp_ge (P := 16 ≤ c) (tgt := 60) hx hb dX6_entriesBy_10 (by decide) (nI_leI (by omega) (by omega)) (fun cq10 => ?_) (fun cq10 => ?_)
      · refine lv_iload hx hb dX6_entriesBy_60 (lv_at hl 4 rfl) ?_
        exact hret _ _ _ dX6_entriesBy_62 (by have e : c = 16 := (by omega); rw [hm2, e]; rfl)
      · have hmlt := msk_lt31 (fun j => ent σ r j && decide (vv σ (r * 16 + j) ≠ v)) hc
        refine lv_iload hx hb dX6_entriesBy_13 (lv_at hl 4 rfl) ?_
        refine lv_iload_n hx hb dX6_entriesBy_15 rfl (lv_at hl 3 rfl) ?_
        refine r_if_ne (P := false = false) (tgt := 32) hx hb dX6_entriesBy_16 (by decide) (bI_eq0) (fun cq16 => ?_) (fun cq16 => ?_)
        · exact absurd rfl cq16
        · refine lv_aload_n hx hb dX6_entriesBy_19 rfl (lv_at hl 0 rfl) ?_
          refine lv_iload_n hx hb dX6_entriesBy_20 rfl (lv_at hl 1 rfl) ?_
          refine g_ro (k_V (q0 := 0) (ci := 6) (n := 1) (As := [.int (nI r)]) (rest := [.int (nI m2)]) (wc := [ob mo 6 [.ref u0, .ref u1, .ref u2, .ref u3, .ref u4, .ref u5, .int (nI sm), .int (nI sa), .int (nI le), .int (nI ra), .int (nI fa)], ar G u0 481 nw]) hx hb hml hown hts (c_X6_entries (l := l) (G := G) (mo := mo) (u0 := u0) (u1 := u1) (u2 := u2) (u3 := u3) (u4 := u4) (u5 := u5) (sm := sm) (sa := sa) (le := le) (ra := ra) (fa := fa) (σ := by first | assumption | omega) (nw := nw) (hR := by first | assumption | omega) (hB := by first | assumption | omega) (r := r) (hr := by first | assumption | omega))  gX6_entriesBy_X6_entries rfl rfl rfl (by decide +kernel) ⟨Nat.le_of_ble_eq_true rfl, Nat.le_of_ble_eq_true rfl⟩ rfl hK hP hD [0, 1] rfl (by decide)  rfl rfl rfl hl.1 rfl (Nat.le_of_ble_eq_true rfl) dX6_entriesBy_21 ⟨Nat.le_of_ble_eq_true rfl, Nat.le_of_ble_eq_true rfl⟩) (fun r21 h21 => ?_)
          obtain rfl : (nI (cols σ r)) = r21 := Eq.symm h21
          have b21 := cols_lt σ r
          refine lv_iload hx hb dX6_entriesBy_24 (lv_at hl 5 rfl) ?_
          refine g_ro (k_S (n := 2) (As := [.int (nI (cols σ r)), .int (nI c)]) (rest := [.int (nI m2)]) (wc := []) hx hb hml hown hts (c_X6_has (l := l) (G := G) (m2 := cols σ r) (c := c) (hm2 := by first | assumption | omega) (hc := by first | assumption | omega))  gX6_entriesBy_X6_has rfl rfl rfl (by decide +kernel) ⟨Nat.le_of_ble_eq_true rfl, Nat.le_of_ble_eq_true rfl⟩ rfl hK hP hD [] rfl (by decide)  hl.1 rfl (Nat.le_of_ble_eq_true rfl) dX6_entriesBy_26 ⟨Nat.le_of_ble_eq_true rfl, Nat.le_of_ble_eq_true rfl⟩) (fun r26 h26 => ?_)
          obtain rfl : (bI ((cols σ r).testBit c)) = r26 := Eq.symm h26
          have hcb := cols_bit σ r (c := c) (by omega)
          refine r_if_eq (P := ((cols σ r).testBit c) = false) (tgt := 50) hx hb dX6_entriesBy_29 (by decide) (bI_eq0) (fun cq29 => ?_) (fun cq29 => ?_)
          · refine lv_iconst (v := (nI 0)) hx hb dX6_entriesBy_50 (by decide) ?_
            refine lv_ior hx hb dX6_entriesBy_51 ?_
            refine r_top (y := (nI (m2 ||| 0))) (fa_or _ _) ?_
            refine lv_istore (lv' := [(4, .int (nI (m2 ||| 0))), (0, .ref mo), (1, .int (nI r)), (2, .int (nI v)), (3, .int (bI false)), (5, .int (nI c))]) hx hb dX6_entriesBy_52 hl (by decide) rfl (fun ls hl => ?_)
            refine r_iinc (v := c + 1) (lv' := [(5, .int (nI (c + 1))), (4, .int (nI (m2 ||| 0))), (0, .ref mo), (1, .int (nI r)), (2, .int (nI v)), (3, .int (bI false))]) hx hb dX6_entriesBy_54 hl (k := 5) rfl (nI_1 _) (by decide) rfl (fun ls hl => ?_)
            refine lv_goto (tgt := 6) hx hb dX6_entriesBy_57 (by decide) ?_
            exact ih6 (c + 1) (m2 ||| 0) (by omega) (by omega) ((Nat.or_zero _).trans (msk_f (p := (fun j => ent σ r j && decide (vv σ (r * 16 + j) ≠ v))) (by show (ent σ r c && _) = false; rw [← hcb, cq29, Bool.false_and]) hm2)) ls (lv_sub hl [2, 3, 4, 5, 1, 0] rfl)
          · refine lv_aload_n hx hb dX6_entriesBy_32 rfl (lv_at hl 0 rfl) ?_
            refine lv_iload_n hx hb dX6_entriesBy_33 rfl (lv_at hl 1 rfl) ?_
            refine lv_iload hx hb dX6_entriesBy_34 (lv_at hl 5 rfl) ?_
            have hvb := hB.v (r * 16 + c)
            refine g_ro (k_V (q0 := 0) (ci := 6) (n := 2) (As := [.int (nI r), .int (nI c)]) (rest := [.int (nI m2)]) (wc := [ob mo 6 [.ref u0, .ref u1, .ref u2, .ref u3, .ref u4, .ref u5, .int (nI sm), .int (nI sa), .int (nI le), .int (nI ra), .int (nI fa)], ar G u0 481 nw]) hx hb hml hown hts (c_X6_valueOf (l := l) (G := G) (mo := mo) (u0 := u0) (u1 := u1) (u2 := u2) (u3 := u3) (u4 := u4) (u5 := u5) (sm := sm) (sa := sa) (le := le) (ra := ra) (fa := fa) (σ := by first | assumption | omega) (nw := nw) (hR := by first | assumption | omega) (hB := by first | assumption | omega) (r := r) (c := c) (hr := by first | assumption | omega) (hc := by first | assumption | omega))  gX6_entriesBy_X6_valueOf rfl rfl rfl (by decide +kernel) ⟨Nat.le_of_ble_eq_true rfl, Nat.le_of_ble_eq_true rfl⟩ rfl hK hP hD [0, 1] rfl (by decide)  rfl rfl rfl hl.1 rfl (Nat.le_of_ble_eq_true rfl) dX6_entriesBy_36 ⟨Nat.le_of_ble_eq_true rfl, Nat.le_of_ble_eq_true rfl⟩) (fun r36 h36 => ?_)
            obtain rfl : (nI (vv σ (r * 16 + c))) = r36 := Eq.symm h36
            have b36 := (by assumption : Bd σ).v (r * 16 + c)
            refine lv_iload_n hx hb dX6_entriesBy_39 rfl (lv_at hl 2 rfl) ?_
            refine r_icmp_eq (P := (vv σ (r * 16 + c)) = v) (tgt := 50) hx hb dX6_entriesBy_40 (by decide) (nI_eq (by omega) (by omega)) (fun cq40 => ?_) (fun cq40 => ?_)
            · refine lv_iconst (v := (nI 0)) hx hb dX6_entriesBy_50 (by decide) ?_
              refine lv_ior hx hb dX6_entriesBy_51 ?_
              refine r_top (y := (nI (m2 ||| 0))) (fa_or _ _) ?_
              refine lv_istore (lv' := [(4, .int (nI (m2 ||| 0))), (0, .ref mo), (1, .int (nI r)), (2, .int (nI v)), (3, .int (bI false)), (5, .int (nI c))]) hx hb dX6_entriesBy_52 hl (by decide) rfl (fun ls hl => ?_)
              refine r_iinc (v := c + 1) (lv' := [(5, .int (nI (c + 1))), (4, .int (nI (m2 ||| 0))), (0, .ref mo), (1, .int (nI r)), (2, .int (nI v)), (3, .int (bI false))]) hx hb dX6_entriesBy_54 hl (k := 5) rfl (nI_1 _) (by decide) rfl (fun ls hl => ?_)
              refine lv_goto (tgt := 6) hx hb dX6_entriesBy_57 (by decide) ?_
              exact ih6 (c + 1) (m2 ||| 0) (by omega) (by omega) ((Nat.or_zero _).trans (msk_f (p := (fun j => ent σ r j && decide (vv σ (r * 16 + j) ≠ v))) (by show (_ && decide _) = false; rw [decide_eq_false (fun z => z cq40), Bool.and_false]) hm2)) ls (lv_sub hl [2, 3, 4, 5, 1, 0] rfl)
            · refine lv_iconst (v := (nI 1)) hx hb dX6_entriesBy_43 (by decide) ?_
              refine lv_iload hx hb dX6_entriesBy_44 (lv_at hl 5 rfl) ?_
              refine lv_ishl hx hb dX6_entriesBy_46 ?_
              refine r_top (y := (nI (2 ^ c))) (r_shl1 (by omega)) ?_
              refine lv_goto (tgt := 51) hx hb dX6_entriesBy_47 (by decide) ?_
              refine lv_ior hx hb dX6_entriesBy_51 ?_
              refine r_top (y := (nI (m2 ||| (2 ^ c)))) (fa_or _ _) ?_
              refine lv_istore (lv' := [(4, .int (nI (m2 ||| (2 ^ c)))), (0, .ref mo), (1, .int (nI r)), (2, .int (nI v)), (3, .int (bI false)), (5, .int (nI c))]) hx hb dX6_entriesBy_52 hl (by decide) rfl (fun ls hl => ?_)
              refine r_iinc (v := c + 1) (lv' := [(5, .int (nI (c + 1))), (4, .int (nI (m2 ||| (2 ^ c)))), (0, .ref mo), (1, .int (nI r)), (2, .int (nI v)), (3, .int (bI false))]) hx hb dX6_entriesBy_54 hl (k := 5) rfl (nI_1 _) (by decide) rfl (fun ls hl => ?_)
              refine lv_goto (tgt := 6) hx hb dX6_entriesBy_57 (by decide) ?_
              exact ih6 (c + 1) (m2 ||| (2 ^ c)) (by omega) (by omega) (msk_t (p := (fun j => ent σ r j && decide (vv σ (r * 16 + j) ≠ v))) (by show (ent σ r c && decide _) = true; rw [← hcb, Bool.of_not_eq_false cq29, decide_eq_true cq40]; rfl) hm2) ls (lv_sub hl [2, 3, 4, 5, 1, 0] rfl)
  exact L6 ((17 - 0) + 1) 0 0 (Nat.lt_succ_self _) (by omega) (rfl) ls (lv_sub hl [2, 3, 4, 5, 1, 0] rfl)

theorem iqX6_setDefault_ok_X6 : ∀ w ∈ u_ws RX6 TX6 11, w ∈ wsX6_setDefault := by decide +kernel
set_option maxHeartbeats 1000000 in
set_option maxRecDepth 100000 in
theorem c_X6_setDefault_ok (l : Launch) (G : kG) (mo u0 u1 u2 u3 u4 u5 sm sa le ra fa : Nat) (σ : Sg) (nw : Nat → Int32) (hR : Rel σ nw) (hB : Bd σ) (bf sts : Nat → Int32) (hsa : sa < 5) (hsm : sm ≤ 5) (r v : Nat) (hr : r < nn σ) (hv9 : v < 100) (hF : ebF σ r v ≠ cols σ r → FP (cdS (lfT σ r) r v) r) (mk vl : Nat → Int32) : Met l yX6_setDefault wsX6_setDefault ({ frames := 4, cells := 0, slots := 0, locals := 91 } : Room) (cP G [.ref mo, .int (nI r), .int (nI v)] [ob mo 6 [.ref u0, .ref u1, .ref u2, .ref u3, .ref u4, .ref u5, .int (nI sm), .int (nI sa), .int (nI le), .int (nI ra), .int (nI fa)], ar G u0 481 nw, ar G u1 481 bf, ar G u2 2405 sts, ar G u3 800 mk, ar G u4 800 vl]) (qI (fun rv H => ∃ (nw1 : Nat → Int32) (bf1 : Nat → Int32) (sts1 : Nat → Int32) (sm1 : Nat) (mk1 : Nat → Int32) (vl1 : Nat → Int32), rv = (nI (pop (ebF σ r v))) ∧ (sm1 = (if sm < 5 then sm + 1 else 5)) ∧ sts1 = fb_put sts nw (481 * sa) 481 ∧ Rel (rsdT σ r v) nw1 ∧ va_P G.1 vwCl [ob mo 6 [.ref u0, .ref u1, .ref u2, .ref u3, .ref u4, .ref u5, .int (nI sm1), .int (nI ((sa + 1) % 5)), .int (nI le), .int (nI ra), .int (nI fa)], ar G u0 481 nw1, ar G u1 481 bf1, ar G u2 2405 sts1, ar G u3 800 mk1, ar G u4 800 vl1] H) (mA [ob mo 6 [.ref u0, .ref u1, .ref u2, .ref u3, .ref u4, .ref u5, .int (nI sm), .int (nI sa), .int (nI le), .int (nI ra), .int (nI fa)], ar G u0 481 nw, ar G u1 481 bf, ar G u2 2405 sts, ar G u3 800 mk, ar G u4 800 vl])) 0 0 (mA [ob mo 6 [.ref u0, .ref u1, .ref u2, .ref u3, .ref u4, .ref u5, .int (nI sm), .int (nI sa), .int (nI le), .int (nI ra), .int (nI fa)], ar G u0 481 nw, ar G u1 481 bf, ar G u2 2405 sts, ar G u3 800 mk, ar G u4 800 vl]) := by
  refine met_muI (cc := cX6_setDefault) (maxL := 5) (ty := .int) (own := RX6) (by decide) rfl rfl (fun _ _ _ => rfl) (Nat.le_of_ble_eq_true rfl) ?_
  intro p e s m args below meth cod Q A hx hb hml hown hts hK hP hD hS hret ls hl
  have hl : lv_has ls 5 [(0, .ref mo), (1, .int (nI r)), (2, .int (nI v))] := hl
  have h24 := hB.n
  have hcl := cols_lt σ r
  have hel := ebF_lt σ r v
  refine lv_aload_n hx hb dX6_setDefault_0 rfl (lv_at hl 0 rfl) ?_
  refine lv_iload_n hx hb dX6_setDefault_1 rfl (lv_at hl 1 rfl) ?_
  refine g_ro (k_V (q0 := 0) (ci := 6) (n := 1) (As := [.int (nI r)]) (rest := []) (wc := [ob mo 6 [.ref u0, .ref u1, .ref u2, .ref u3, .ref u4, .ref u5, .int (nI sm), .int (nI sa), .int (nI le), .int (nI ra), .int (nI fa)], ar G u0 481 nw]) hx hb hml hown hts (c_X6_isRow (l := l) (G := G) (mo := mo) (u0 := u0) (u1 := u1) (u2 := u2) (u3 := u3) (u4 := u4) (u5 := u5) (sm := sm) (sa := sa) (le := le) (ra := ra) (fa := fa) (σ := by first | assumption | omega) (nw := nw) (hR := by first | assumption | omega) (hB := by first | assumption | omega) (xa := nI r))  gX6_setDefault_X6_isRow rfl rfl rfl (by decide +kernel) ⟨Nat.le_of_ble_eq_true rfl, Nat.le_of_ble_eq_true rfl⟩ rfl hK hP hD [0, 1] rfl (by decide)  rfl rfl rfl hl.1 rfl (Nat.le_of_ble_eq_true rfl) dX6_setDefault_2 ⟨Nat.le_of_ble_eq_true rfl, Nat.le_of_ble_eq_true rfl⟩) (fun r2 h2 => ?_)
  obtain rfl : (bI (inr (nI r) 0 ((nn σ : Int) - 1))) = r2 := Eq.symm h2
  refine r_if_eq (P := (inr (nI r) 0 ((nn σ : Int) - 1)) = false) (tgt := 18) hx hb dX6_setDefault_5 (by decide) (bI_eq0) (fun cq5 => ?_) (fun cq5 => ?_)
  · exact (no_f (inr_rw (by omega) (by omega)) cq5).elim
  · refine lv_iload_n hx hb dX6_setDefault_8 rfl (lv_at hl 2 rfl) ?_
    refine lv_iconst (v := (nI 0)) hx hb dX6_setDefault_9 (by decide) ?_
    refine lv_bipush (v := (nI 99)) hx hb dX6_setDefault_10 (by decide) ?_
    refine g_ro (k_S (n := 3) (As := [.int (nI v), .int (nI 0), .int (nI 99)]) (rest := []) (wc := []) hx hb hml hown hts (c_X6_in (l := l) (G := G) (xa := nI v) (xb := nI 0) (xc := nI 99))  gX6_setDefault_X6_in rfl rfl rfl (by decide +kernel) ⟨Nat.le_of_ble_eq_true rfl, Nat.le_of_ble_eq_true rfl⟩ rfl hK hP hD [] rfl (by decide)  hl.1 rfl (Nat.le_of_ble_eq_true rfl) dX6_setDefault_12 ⟨Nat.le_of_ble_eq_true rfl, Nat.le_of_ble_eq_true rfl⟩) (fun r12 h12 => ?_)
    obtain rfl : (bI (ing (nI v) (nI 0) (nI 99))) = r12 := Eq.symm h12
    refine r_if_ne (P := (ing (nI v) (nI 0) (nI 99)) = false) (tgt := 20) hx hb dX6_setDefault_15 (by decide) (bI_eq0) (fun cq15 => ?_) (fun cq15 => ?_)
    · refine lv_aload_n hx hb dX6_setDefault_20 rfl (lv_at hl 0 rfl) ?_
      refine g_V (k_V (q0 := 0) (ci := 6) (n := 0) (As := []) (rest := []) (wc := [ob mo 6 [.ref u0, .ref u1, .ref u2, .ref u3, .ref u4, .ref u5, .int (nI sm), .int (nI sa), .int (nI le), .int (nI ra), .int (nI fa)], ar G u0 481 nw, ar G u1 481 bf, ar G u2 2405 sts]) hx hb hml hown hts (c_X6_remember (l := l) (G := G) (mo := mo) (u0 := u0) (u1 := u1) (u2 := u2) (u3 := u3) (u4 := u4) (u5 := u5) (sm := sm) (sa := sa) (le := le) (ra := ra) (fa := fa) (nw := nw) (bf := bf) (sts := sts) (hsa := by first | assumption | omega) (hsm := by first | assumption | omega))  gX6_setDefault_X6_remember rfl rfl rfl (by decide +kernel) ⟨Nat.le_of_ble_eq_true rfl, Nat.le_of_ble_eq_true rfl⟩ rfl hK hP hD [0, 1, 2, 3] rfl (by decide)  rfl rfl rfl hl.1 rfl (Nat.le_of_ble_eq_true rfl) dX6_setDefault_21 ⟨Nat.le_of_ble_eq_true rfl, Nat.le_of_ble_eq_true rfl⟩) hP hD hS [0, 1, 2, 3] rfl (fun H locs hB21 back hS => ?_)
      obtain ⟨sm121, bf121, sts121, hqs21, hqt21, hP1⟩ := hB21
      obtain ⟨hP, hD⟩ := back [ob mo 6 [.ref u0, .ref u1, .ref u2, .ref u3, .ref u4, .ref u5, .int (nI sm121), .int (nI ((sa + 1) % 5)), .int (nI le), .int (nI ra), .int (nI fa)], ar G u0 481 nw, ar G u1 481 bf121, ar G u2 2405 sts121] rfl hP1
      have hP : va_P G.1 vwCl [ob mo 6 [.ref u0, .ref u1, .ref u2, .ref u3, .ref u4, .ref u5, .int (nI sm121), .int (nI ((sa + 1) % 5)), .int (nI le), .int (nI ra), .int (nI fa)], ar G u0 481 nw, ar G u1 481 bf121, ar G u2 2405 sts121, ar G u3 800 mk, ar G u4 800 vl] H := hP
      have hD : va_D A [ob mo 6 [.ref u0, .ref u1, .ref u2, .ref u3, .ref u4, .ref u5, .int (nI sm121), .int (nI ((sa + 1) % 5)), .int (nI le), .int (nI ra), .int (nI fa)], ar G u0 481 nw, ar G u1 481 bf121, ar G u2 2405 sts121, ar G u3 800 mk, ar G u4 800 vl] := hD
      refine lv_aload_n hx hb dX6_setDefault_24 rfl (lv_at hl 0 rfl) ?_
      refine lv_iload_n hx hb dX6_setDefault_25 rfl (lv_at hl 1 rfl) ?_
      refine lv_iload_n hx hb dX6_setDefault_26 rfl (lv_at hl 2 rfl) ?_
      refine lv_iconst (v := (bI false)) hx hb dX6_setDefault_27 (by decide) ?_
      refine g_ro (k_V (q0 := 0) (ci := 6) (n := 3) (As := [.int (nI r), .int (nI v), .int (bI false)]) (rest := []) (wc := [ob mo 6 [.ref u0, .ref u1, .ref u2, .ref u3, .ref u4, .ref u5, .int (nI sm121), .int (nI ((sa + 1) % 5)), .int (nI le), .int (nI ra), .int (nI fa)], ar G u0 481 nw]) hx hb hml hown hts (c_X6_entriesBy_f (l := l) (G := G) (mo := mo) (u0 := u0) (u1 := u1) (u2 := u2) (u3 := u3) (u4 := u4) (u5 := u5) (sm := sm121) (sa := ((sa + 1) % 5)) (le := le) (ra := ra) (fa := fa) (σ := σ) (nw := nw) (hR := hR) (hB := hB) (r := r) (v := v) (hr := by first | assumption | omega) (hv9 := by first | assumption | omega))  gX6_setDefault_X6_entriesBy rfl rfl rfl (by decide +kernel) ⟨Nat.le_of_ble_eq_true rfl, Nat.le_of_ble_eq_true rfl⟩ rfl hK hP hD [0, 1] rfl (by decide)  rfl rfl rfl hl.1 rfl (Nat.le_of_ble_eq_true rfl) dX6_setDefault_28 ⟨Nat.le_of_ble_eq_true rfl, Nat.le_of_ble_eq_true rfl⟩) (fun r28 h28 => ?_)
      obtain rfl : (nI (ebF σ r v)) = r28 := Eq.symm h28
      have b28 := ebF_lt σ r v
      refine lv_istore_n (lv' := [(3, .int (nI (ebF σ r v))), (0, .ref mo), (1, .int (nI r)), (2, .int (nI v))]) hx hb dX6_setDefault_31 rfl hl (by decide) rfl (fun ls hl => ?_)
      refine lv_iload_n hx hb dX6_setDefault_32 rfl (lv_at hl 0 rfl) ?_
      refine lv_aload_n hx hb dX6_setDefault_33 rfl (lv_at hl 1 rfl) ?_
      refine lv_iload_n hx hb dX6_setDefault_34 rfl (lv_at hl 2 rfl) ?_
      refine g_ro (k_V (q0 := 0) (ci := 6) (n := 1) (As := [.int (nI r)]) (rest := [.int (nI (ebF σ r v))]) (wc := [ob mo 6 [.ref u0, .ref u1, .ref u2, .ref u3, .ref u4, .ref u5, .int (nI sm121), .int (nI ((sa + 1) % 5)), .int (nI le), .int (nI ra), .int (nI fa)], ar G u0 481 nw]) hx hb hml hown hts (c_X6_entries (l := l) (G := G) (mo := mo) (u0 := u0) (u1 := u1) (u2 := u2) (u3 := u3) (u4 := u4) (u5 := u5) (sm := sm121) (sa := ((sa + 1) % 5)) (le := le) (ra := ra) (fa := fa) (σ := σ) (nw := nw) (hR := hR) (hB := hB) (r := r) (hr := by first | assumption | omega))  gX6_setDefault_X6_entries rfl rfl rfl (by decide +kernel) ⟨Nat.le_of_ble_eq_true rfl, Nat.le_of_ble_eq_true rfl⟩ rfl hK hP hD [0, 1] rfl (by decide)  rfl rfl rfl hl.1 rfl (Nat.le_of_ble_eq_true rfl) dX6_setDefault_35 ⟨Nat.le_of_ble_eq_true rfl, Nat.le_of_ble_eq_true rfl⟩) (fun r35 h35 => ?_)
      obtain rfl : (nI (cols σ r)) = r35 := Eq.symm h35
      have b35 := cols_lt σ r
      refine r_icmp_eq (P := (ebF σ r v) = (cols σ r)) (tgt := 45) hx hb dX6_setDefault_38 (by decide) (nI_eq (by omega) (by omega)) (fun cq38 => ?_) (fun cq38 => ?_)
      · refine lv_iconst (v := (bI false)) hx hb dX6_setDefault_45 (by decide) ?_
        refine lv_istore (lv' := [(4, .int (bI false)), (3, .int (nI (ebF σ r v))), (0, .ref mo), (1, .int (nI r)), (2, .int (nI v))]) hx hb dX6_setDefault_46 hl (by decide) rfl (fun ls hl => ?_)
        refine lv_aload_n hx hb dX6_setDefault_48 rfl (lv_at hl 2 rfl) ?_
        refine lv_iload_n hx hb dX6_setDefault_49 rfl (lv_at hl 3 rfl) ?_
        refine lv_iload hx hb dX6_setDefault_50 (lv_at hl 0 rfl) ?_
        refine g_V (k_V (q0 := 0) (ci := 6) (n := 2) (As := [.int (nI r), .int (bI false)]) (rest := []) (wc := [ob mo 6 [.ref u0, .ref u1, .ref u2, .ref u3, .ref u4, .ref u5, .int (nI sm121), .int (nI ((sa + 1) % 5)), .int (nI le), .int (nI ra), .int (nI fa)], ar G u0 481 nw]) hx hb hml hown hts (c_X6_leavesFor_f (l := l) (G := G) (mo := mo) (u0 := u0) (u1 := u1) (u2 := u2) (u3 := u3) (u4 := u4) (u5 := u5) (sm := sm121) (sa := ((sa + 1) % 5)) (le := le) (ra := ra) (fa := fa) (nw := nw) (r := r))  gX6_setDefault_X6_leavesFor rfl rfl rfl (by decide +kernel) ⟨Nat.le_of_ble_eq_true rfl, Nat.le_of_ble_eq_true rfl⟩ rfl hK hP hD [0, 1] rfl (by decide)  rfl rfl rfl hl.1 rfl (Nat.le_of_ble_eq_true rfl) dX6_setDefault_52 ⟨Nat.le_of_ble_eq_true rfl, Nat.le_of_ble_eq_true rfl⟩) hP hD hS [0, 1] rfl (fun H locs hB52 back hS => ?_)
        have hP1 := hB52
        obtain ⟨hP, hD⟩ := back [ob mo 6 [.ref u0, .ref u1, .ref u2, .ref u3, .ref u4, .ref u5, .int (nI sm121), .int (nI ((sa + 1) % 5)), .int (nI le), .int (nI ra), .int (nI fa)], ar G u0 481 nw] rfl hP1
        have hP : va_P G.1 vwCl [ob mo 6 [.ref u0, .ref u1, .ref u2, .ref u3, .ref u4, .ref u5, .int (nI sm121), .int (nI ((sa + 1) % 5)), .int (nI le), .int (nI ra), .int (nI fa)], ar G u0 481 nw, ar G u1 481 bf121, ar G u2 2405 sts121, ar G u3 800 mk, ar G u4 800 vl] H := hP
        have hD : va_D A [ob mo 6 [.ref u0, .ref u1, .ref u2, .ref u3, .ref u4, .ref u5, .int (nI sm121), .int (nI ((sa + 1) % 5)), .int (nI le), .int (nI ra), .int (nI fa)], ar G u0 481 nw, ar G u1 481 bf121, ar G u2 2405 sts121, ar G u3 800 mk, ar G u4 800 vl] := hD
        refine lv_aload_n hx hb dX6_setDefault_55 rfl (lv_at hl 2 rfl) ?_
        refine va_get (D := G.1) (ci := 6) (v := .ref u0) (C := RX6) (T := TX6) (N := 11) hx hb hts iqX6_setDefault_ok_X6 hown hK.1 hP 0 rfl rfl 0 (by decide) (hts (.fieldLink RX6 7 "PushedTablesModel" "now" "[I") (List.mem_of_getElem? (i := 1) rfl)) (fun _ h9 => h9) rfl dX6_setDefault_56 ?_
        refine lv_bipush (v := (nI 25)) hx hb dX6_setDefault_59 (by decide) ?_
        refine lv_iload_n hx hb dX6_setDefault_61 rfl (lv_at hl 3 rfl) ?_
        refine r_iadd (v := 25 + r) hx hb dX6_setDefault_62 rfl ?_
        refine lv_iload_n hx hb dX6_setDefault_63 rfl (lv_at hl 1 rfl) ?_
        refine r_iast (e1 := 25 + r) (x := (nI (ebF σ r v))) (g := upd nw (25 + r) (nI (ebF σ r v))) hx hb hK.1 hP hD hS 1 0 rfl rfl (by omega) (by first | decide | assumption) (rfl) dX6_setDefault_64 (fun H locs hP hD hS => ?_)
        have hP : va_P G.1 vwCl [ob mo 6 [.ref u0, .ref u1, .ref u2, .ref u3, .ref u4, .ref u5, .int (nI sm121), .int (nI ((sa + 1) % 5)), .int (nI le), .int (nI ra), .int (nI fa)], ar G u0 481 (upd nw (25 + r) (nI (ebF σ r v))), ar G u1 481 bf121, ar G u2 2405 sts121, ar G u3 800 mk, ar G u4 800 vl] H := hP
        have hD : va_D A [ob mo 6 [.ref u0, .ref u1, .ref u2, .ref u3, .ref u4, .ref u5, .int (nI sm121), .int (nI ((sa + 1) % 5)), .int (nI le), .int (nI ra), .int (nI fa)], ar G u0 481 (upd nw (25 + r) (nI (ebF σ r v))), ar G u1 481 bf121, ar G u2 2405 sts121, ar G u3 800 mk, ar G u4 800 vl] := hD
        refine lv_aload_n hx hb dX6_setDefault_65 rfl (lv_at hl 2 rfl) ?_
        refine va_get (D := G.1) (ci := 6) (v := .ref u0) (C := RX6) (T := TX6) (N := 11) hx hb hts iqX6_setDefault_ok_X6 hown hK.1 hP 0 rfl rfl 0 (by decide) (hts (.fieldLink RX6 7 "PushedTablesModel" "now" "[I") (List.mem_of_getElem? (i := 1) rfl)) (fun _ h9 => h9) rfl dX6_setDefault_66 ?_
        refine lv_iconst (v := (nI 1)) hx hb dX6_setDefault_69 (by decide) ?_
        refine lv_iload_n hx hb dX6_setDefault_70 rfl (lv_at hl 3 rfl) ?_
        refine r_iadd (v := 1 + r) hx hb dX6_setDefault_71 rfl ?_
        refine lv_iload_n hx hb dX6_setDefault_72 rfl (lv_at hl 4 rfl) ?_
        refine r_iast (e1 := 1 + r) (x := (nI v)) (g := upd (upd nw (25 + r) (nI (ebF σ r v))) (1 + r) (nI v)) hx hb hK.1 hP hD hS 1 0 rfl rfl (by omega) (by first | decide | assumption) (rfl) dX6_setDefault_73 (fun H locs hP hD hS => ?_)
        have hP : va_P G.1 vwCl [ob mo 6 [.ref u0, .ref u1, .ref u2, .ref u3, .ref u4, .ref u5, .int (nI sm121), .int (nI ((sa + 1) % 5)), .int (nI le), .int (nI ra), .int (nI fa)], ar G u0 481 (upd (upd nw (25 + r) (nI (ebF σ r v))) (1 + r) (nI v)), ar G u1 481 bf121, ar G u2 2405 sts121, ar G u3 800 mk, ar G u4 800 vl] H := hP
        have hD : va_D A [ob mo 6 [.ref u0, .ref u1, .ref u2, .ref u3, .ref u4, .ref u5, .int (nI sm121), .int (nI ((sa + 1) % 5)), .int (nI le), .int (nI ra), .int (nI fa)], ar G u0 481 (upd (upd nw (25 + r) (nI (ebF σ r v))) (1 + r) (nI v)), ar G u1 481 bf121, ar G u2 2405 sts121, ar G u3 800 mk, ar G u4 800 vl] := hD
        have hR3 := Rel_cd hR h24 (r := r) (v := v) hr rfl
        refine lv_aload_n hx hb dX6_setDefault_74 rfl (lv_at hl 2 rfl) ?_
        refine lv_iload_n hx hb dX6_setDefault_75 rfl (lv_at hl 3 rfl) ?_
        refine lv_iload hx hb dX6_setDefault_76 (lv_at hl 0 rfl) ?_
        refine g_V (k_V (q0 := 0) (ci := 6) (n := 2) (As := [.int (nI r), .int (bI false)]) (rest := []) (wc := [ob mo 6 [.ref u0, .ref u1, .ref u2, .ref u3, .ref u4, .ref u5, .int (nI sm121), .int (nI ((sa + 1) % 5)), .int (nI le), .int (nI ra), .int (nI fa)], ar G u0 481 (upd (upd nw (25 + r) (nI (ebF σ r v))) (1 + r) (nI v)), ar G u3 800 mk, ar G u4 800 vl]) hx hb hml hown hts (c_X6_formsFor_f (l := l) (G := G) (mo := mo) (u0 := u0) (u1 := u1) (u2 := u2) (u3 := u3) (u4 := u4) (u5 := u5) (sm := sm121) (sa := ((sa + 1) % 5)) (le := le) (ra := ra) (fa := fa) (nw := upd (upd nw (25 + r) (nI (ebF σ r v))) (1 + r) (nI v)) (r := r) (mk := mk) (vl := vl))  gX6_setDefault_X6_formsFor rfl rfl rfl (by decide +kernel) ⟨Nat.le_of_ble_eq_true rfl, Nat.le_of_ble_eq_true rfl⟩ rfl hK hP hD [0, 1, 4, 5] rfl (by decide)  rfl rfl rfl hl.1 rfl (Nat.le_of_ble_eq_true rfl) dX6_setDefault_78 ⟨Nat.le_of_ble_eq_true rfl, Nat.le_of_ble_eq_true rfl⟩) hP hD hS [0, 1, 4, 5] rfl (fun H locs hB78 back hS => ?_)
        have hP1 := hB78
        obtain ⟨hP, hD⟩ := back [ob mo 6 [.ref u0, .ref u1, .ref u2, .ref u3, .ref u4, .ref u5, .int (nI sm121), .int (nI ((sa + 1) % 5)), .int (nI le), .int (nI ra), .int (nI fa)], ar G u0 481 (upd (upd nw (25 + r) (nI (ebF σ r v))) (1 + r) (nI v)), ar G u3 800 mk, ar G u4 800 vl] rfl hP1
        have hP : va_P G.1 vwCl [ob mo 6 [.ref u0, .ref u1, .ref u2, .ref u3, .ref u4, .ref u5, .int (nI sm121), .int (nI ((sa + 1) % 5)), .int (nI le), .int (nI ra), .int (nI fa)], ar G u0 481 (upd (upd nw (25 + r) (nI (ebF σ r v))) (1 + r) (nI v)), ar G u1 481 bf121, ar G u2 2405 sts121, ar G u3 800 mk, ar G u4 800 vl] H := hP
        have hD : va_D A [ob mo 6 [.ref u0, .ref u1, .ref u2, .ref u3, .ref u4, .ref u5, .int (nI sm121), .int (nI ((sa + 1) % 5)), .int (nI le), .int (nI ra), .int (nI fa)], ar G u0 481 (upd (upd nw (25 + r) (nI (ebF σ r v))) (1 + r) (nI v)), ar G u1 481 bf121, ar G u2 2405 sts121, ar G u3 800 mk, ar G u4 800 vl] := hD
        refine lv_iload_n hx hb dX6_setDefault_81 rfl (lv_at hl 1 rfl) ?_
        refine g_ro (k_S (n := 1) (As := [.int (nI (ebF σ r v))]) (rest := []) (wc := []) hx hb hml hown hts (c_X6_bits (l := l) (G := G) (m2 := ebF σ r v) (hm2 := by first | assumption | omega))  gX6_setDefault_X6_bits rfl rfl rfl (by decide +kernel) ⟨Nat.le_of_ble_eq_true rfl, Nat.le_of_ble_eq_true rfl⟩ rfl hK hP hD [] rfl (by decide)  hl.1 rfl (Nat.le_of_ble_eq_true rfl) dX6_setDefault_82 ⟨Nat.le_of_ble_eq_true rfl, Nat.le_of_ble_eq_true rfl⟩) (fun r82 h82 => ?_)
        obtain rfl : (nI (pop (ebF σ r v))) = r82 := Eq.symm h82
        have b82 := pop_le (ebF σ r v)
        exact hret _ _ _ _ _ hS dX6_setDefault_85 (⟨(upd (upd nw (25 + r) (nI (ebF σ r v))) (1 + r) (nI v)), bf121, sts121, sm121, mk, vl, rfl, hqs21, hqt21, by unfold rsdT; rw [if_pos cq38]; exact hR3, hP⟩)
      · have hn2 := nn_lfT σ r
        have hB2 := Bd_lfT hB r
        refine lv_iconst (v := (bI true)) hx hb dX6_setDefault_41 (by decide) ?_
        refine lv_goto (tgt := 46) hx hb dX6_setDefault_42 (by decide) ?_
        refine lv_istore (lv' := [(4, .int (bI true)), (3, .int (nI (ebF σ r v))), (0, .ref mo), (1, .int (nI r)), (2, .int (nI v))]) hx hb dX6_setDefault_46 hl (by decide) rfl (fun ls hl => ?_)
        refine lv_aload_n hx hb dX6_setDefault_48 rfl (lv_at hl 2 rfl) ?_
        refine lv_iload_n hx hb dX6_setDefault_49 rfl (lv_at hl 3 rfl) ?_
        refine lv_iload hx hb dX6_setDefault_50 (lv_at hl 0 rfl) ?_
        refine g_V (k_V (q0 := 0) (ci := 6) (n := 2) (As := [.int (nI r), .int (bI true)]) (rest := []) (wc := [ob mo 6 [.ref u0, .ref u1, .ref u2, .ref u3, .ref u4, .ref u5, .int (nI sm121), .int (nI ((sa + 1) % 5)), .int (nI le), .int (nI ra), .int (nI fa)], ar G u0 481 nw]) hx hb hml hown hts (c_X6_leavesFor_t (l := l) (G := G) (mo := mo) (u0 := u0) (u1 := u1) (u2 := u2) (u3 := u3) (u4 := u4) (u5 := u5) (sm := sm121) (sa := ((sa + 1) % 5)) (le := le) (ra := ra) (fa := fa) (σ := σ) (nw := nw) (hR := hR) (hB := hB) (r := r) (hr := by first | assumption | omega))  gX6_setDefault_X6_leavesFor rfl rfl rfl (by decide +kernel) ⟨Nat.le_of_ble_eq_true rfl, Nat.le_of_ble_eq_true rfl⟩ rfl hK hP hD [0, 1] rfl (by decide)  rfl rfl rfl hl.1 rfl (Nat.le_of_ble_eq_true rfl) dX6_setDefault_52 ⟨Nat.le_of_ble_eq_true rfl, Nat.le_of_ble_eq_true rfl⟩) hP hD hS [0, 1] rfl (fun H locs hB52 back hS => ?_)
        obtain ⟨nw152, hq52, hP1⟩ := hB52
        obtain ⟨hP, hD⟩ := back [ob mo 6 [.ref u0, .ref u1, .ref u2, .ref u3, .ref u4, .ref u5, .int (nI sm121), .int (nI ((sa + 1) % 5)), .int (nI le), .int (nI ra), .int (nI fa)], ar G u0 481 nw152] rfl hP1
        have hP : va_P G.1 vwCl [ob mo 6 [.ref u0, .ref u1, .ref u2, .ref u3, .ref u4, .ref u5, .int (nI sm121), .int (nI ((sa + 1) % 5)), .int (nI le), .int (nI ra), .int (nI fa)], ar G u0 481 nw152, ar G u1 481 bf121, ar G u2 2405 sts121, ar G u3 800 mk, ar G u4 800 vl] H := hP
        have hD : va_D A [ob mo 6 [.ref u0, .ref u1, .ref u2, .ref u3, .ref u4, .ref u5, .int (nI sm121), .int (nI ((sa + 1) % 5)), .int (nI le), .int (nI ra), .int (nI fa)], ar G u0 481 nw152, ar G u1 481 bf121, ar G u2 2405 sts121, ar G u3 800 mk, ar G u4 800 vl] := hD
        refine lv_aload_n hx hb dX6_setDefault_55 rfl (lv_at hl 2 rfl) ?_
        refine va_get (D := G.1) (ci := 6) (v := .ref u0) (C := RX6) (T := TX6) (N := 11) hx hb hts iqX6_setDefault_ok_X6 hown hK.1 hP 0 rfl rfl 0 (by decide) (hts (.fieldLink RX6 7 "PushedTablesModel" "now" "[I") (List.mem_of_getElem? (i := 1) rfl)) (fun _ h9 => h9) rfl dX6_setDefault_56 ?_
        refine lv_bipush (v := (nI 25)) hx hb dX6_setDefault_59 (by decide) ?_
        refine lv_iload_n hx hb dX6_setDefault_61 rfl (lv_at hl 3 rfl) ?_
        refine r_iadd (v := 25 + r) hx hb dX6_setDefault_62 rfl ?_
        refine lv_iload_n hx hb dX6_setDefault_63 rfl (lv_at hl 1 rfl) ?_
        refine r_iast (e1 := 25 + r) (x := (nI (ebF σ r v))) (g := upd nw152 (25 + r) (nI (ebF σ r v))) hx hb hK.1 hP hD hS 1 0 rfl rfl (by omega) (by first | decide | assumption) (rfl) dX6_setDefault_64 (fun H locs hP hD hS => ?_)
        have hP : va_P G.1 vwCl [ob mo 6 [.ref u0, .ref u1, .ref u2, .ref u3, .ref u4, .ref u5, .int (nI sm121), .int (nI ((sa + 1) % 5)), .int (nI le), .int (nI ra), .int (nI fa)], ar G u0 481 (upd nw152 (25 + r) (nI (ebF σ r v))), ar G u1 481 bf121, ar G u2 2405 sts121, ar G u3 800 mk, ar G u4 800 vl] H := hP
        have hD : va_D A [ob mo 6 [.ref u0, .ref u1, .ref u2, .ref u3, .ref u4, .ref u5, .int (nI sm121), .int (nI ((sa + 1) % 5)), .int (nI le), .int (nI ra), .int (nI fa)], ar G u0 481 (upd nw152 (25 + r) (nI (ebF σ r v))), ar G u1 481 bf121, ar G u2 2405 sts121, ar G u3 800 mk, ar G u4 800 vl] := hD
        refine lv_aload_n hx hb dX6_setDefault_65 rfl (lv_at hl 2 rfl) ?_
        refine va_get (D := G.1) (ci := 6) (v := .ref u0) (C := RX6) (T := TX6) (N := 11) hx hb hts iqX6_setDefault_ok_X6 hown hK.1 hP 0 rfl rfl 0 (by decide) (hts (.fieldLink RX6 7 "PushedTablesModel" "now" "[I") (List.mem_of_getElem? (i := 1) rfl)) (fun _ h9 => h9) rfl dX6_setDefault_66 ?_
        refine lv_iconst (v := (nI 1)) hx hb dX6_setDefault_69 (by decide) ?_
        refine lv_iload_n hx hb dX6_setDefault_70 rfl (lv_at hl 3 rfl) ?_
        refine r_iadd (v := 1 + r) hx hb dX6_setDefault_71 rfl ?_
        refine lv_iload_n hx hb dX6_setDefault_72 rfl (lv_at hl 4 rfl) ?_
        refine r_iast (e1 := 1 + r) (x := (nI v)) (g := upd (upd nw152 (25 + r) (nI (ebF σ r v))) (1 + r) (nI v)) hx hb hK.1 hP hD hS 1 0 rfl rfl (by omega) (by first | decide | assumption) (rfl) dX6_setDefault_73 (fun H locs hP hD hS => ?_)
        have hP : va_P G.1 vwCl [ob mo 6 [.ref u0, .ref u1, .ref u2, .ref u3, .ref u4, .ref u5, .int (nI sm121), .int (nI ((sa + 1) % 5)), .int (nI le), .int (nI ra), .int (nI fa)], ar G u0 481 (upd (upd nw152 (25 + r) (nI (ebF σ r v))) (1 + r) (nI v)), ar G u1 481 bf121, ar G u2 2405 sts121, ar G u3 800 mk, ar G u4 800 vl] H := hP
        have hD : va_D A [ob mo 6 [.ref u0, .ref u1, .ref u2, .ref u3, .ref u4, .ref u5, .int (nI sm121), .int (nI ((sa + 1) % 5)), .int (nI le), .int (nI ra), .int (nI fa)], ar G u0 481 (upd (upd nw152 (25 + r) (nI (ebF σ r v))) (1 + r) (nI v)), ar G u1 481 bf121, ar G u2 2405 sts121, ar G u3 800 mk, ar G u4 800 vl] := hD
        have hR3 := Rel_cd hq52 (by omega) (r := r) (v := v) (by omega) (ebF_lfT σ r v r).symm
        refine lv_aload_n hx hb dX6_setDefault_74 rfl (lv_at hl 2 rfl) ?_
        refine lv_iload_n hx hb dX6_setDefault_75 rfl (lv_at hl 3 rfl) ?_
        refine lv_iload hx hb dX6_setDefault_76 (lv_at hl 0 rfl) ?_
        refine g_V (k_V (q0 := 0) (ci := 6) (n := 2) (As := [.int (nI r), .int (bI true)]) (rest := []) (wc := [ob mo 6 [.ref u0, .ref u1, .ref u2, .ref u3, .ref u4, .ref u5, .int (nI sm121), .int (nI ((sa + 1) % 5)), .int (nI le), .int (nI ra), .int (nI fa)], ar G u0 481 (upd (upd nw152 (25 + r) (nI (ebF σ r v))) (1 + r) (nI v)), ar G u3 800 mk, ar G u4 800 vl]) hx hb hml hown hts (c_X6_formsFor_t (l := l) (G := G) (mo := mo) (u0 := u0) (u1 := u1) (u2 := u2) (u3 := u3) (u4 := u4) (u5 := u5) (sm := sm121) (sa := ((sa + 1) % 5)) (le := le) (ra := ra) (fa := fa) (σ := (cdS (lfT σ r) r v)) (nw := upd (upd nw152 (25 + r) (nI (ebF σ r v))) (1 + r) (nI v)) (hR := hR3) (hB := (Bd_cdS hB2 hv9)) (r := r) (hr := (show r < nn (lfT σ r) by omega)) (hF := (hF cq38)) (mk := mk) (vl := vl))  gX6_setDefault_X6_formsFor rfl rfl rfl (by decide +kernel) ⟨Nat.le_of_ble_eq_true rfl, Nat.le_of_ble_eq_true rfl⟩ rfl hK hP hD [0, 1, 4, 5] rfl (by decide)  rfl rfl rfl hl.1 rfl (Nat.le_of_ble_eq_true rfl) dX6_setDefault_78 ⟨Nat.le_of_ble_eq_true rfl, Nat.le_of_ble_eq_true rfl⟩) hP hD hS [0, 1, 4, 5] rfl (fun H locs hB78 back hS => ?_)
        obtain ⟨nw178, mk178, vl178, hq78, hP1⟩ := hB78
        obtain ⟨hP, hD⟩ := back [ob mo 6 [.ref u0, .ref u1, .ref u2, .ref u3, .ref u4, .ref u5, .int (nI sm121), .int (nI ((sa + 1) % 5)), .int (nI le), .int (nI ra), .int (nI fa)], ar G u0 481 nw178, ar G u3 800 mk178, ar G u4 800 vl178] rfl hP1
        have hP : va_P G.1 vwCl [ob mo 6 [.ref u0, .ref u1, .ref u2, .ref u3, .ref u4, .ref u5, .int (nI sm121), .int (nI ((sa + 1) % 5)), .int (nI le), .int (nI ra), .int (nI fa)], ar G u0 481 nw178, ar G u1 481 bf121, ar G u2 2405 sts121, ar G u3 800 mk178, ar G u4 800 vl178] H := hP
        have hD : va_D A [ob mo 6 [.ref u0, .ref u1, .ref u2, .ref u3, .ref u4, .ref u5, .int (nI sm121), .int (nI ((sa + 1) % 5)), .int (nI le), .int (nI ra), .int (nI fa)], ar G u0 481 nw178, ar G u1 481 bf121, ar G u2 2405 sts121, ar G u3 800 mk178, ar G u4 800 vl178] := hD
        refine lv_iload_n hx hb dX6_setDefault_81 rfl (lv_at hl 1 rfl) ?_
        refine g_ro (k_S (n := 1) (As := [.int (nI (ebF σ r v))]) (rest := []) (wc := []) hx hb hml hown hts (c_X6_bits (l := l) (G := G) (m2 := ebF σ r v) (hm2 := by first | assumption | omega))  gX6_setDefault_X6_bits rfl rfl rfl (by decide +kernel) ⟨Nat.le_of_ble_eq_true rfl, Nat.le_of_ble_eq_true rfl⟩ rfl hK hP hD [] rfl (by decide)  hl.1 rfl (Nat.le_of_ble_eq_true rfl) dX6_setDefault_82 ⟨Nat.le_of_ble_eq_true rfl, Nat.le_of_ble_eq_true rfl⟩) (fun r82 h82 => ?_)
        obtain rfl : (nI (pop (ebF σ r v))) = r82 := Eq.symm h82
        have b82 := pop_le (ebF σ r v)
        exact hret _ _ _ _ _ hS dX6_setDefault_85 (⟨nw178, bf121, sts121, sm121, mk178, vl178, rfl, hqs21, hqt21, by unfold rsdT; rw [if_neg cq38]; exact hq78, hP⟩)
    · exact (no_f (ing_ok (by omega) (by omega) (by decide)) cq15).elim

theorem iqX6_removeLast_ok_X6 : ∀ w ∈ u_ws RX6 TX6 11, w ∈ wsX6_removeLast := by decide +kernel
set_option maxHeartbeats 1000000 in
set_option maxRecDepth 100000 in
theorem c_X6_removeLast_ok (l : Launch) (G : kG) (mo u0 u1 u2 u3 u4 u5 sm sa le ra fa : Nat) (σ : Sg) (nw : Nat → Int32) (hR : Rel σ nw) (hB : Bd σ) (bf sts : Nat → Int32) (hsa : sa < 5) (hsm : sm ≤ 5) (h0 : 0 < nn σ) : Met l yX6_removeLast wsX6_removeLast ({ frames := 2, cells := 0, slots := 0, locals := 45 } : Room) (cP G [.ref mo] [ob mo 6 [.ref u0, .ref u1, .ref u2, .ref u3, .ref u4, .ref u5, .int (nI sm), .int (nI sa), .int (nI le), .int (nI ra), .int (nI fa)], ar G u0 481 nw, ar G u1 481 bf, ar G u2 2405 sts]) (qI (fun rv H => ∃ (nw1 : Nat → Int32) (bf1 : Nat → Int32) (sts1 : Nat → Int32) (sm1 : Nat), rv = (nI (nn σ - 1)) ∧ (sm1 = (if sm < 5 then sm + 1 else 5)) ∧ sts1 = fb_put sts nw (481 * sa) 481 ∧ Rel (dcS (lfT σ (nn σ - 1))) nw1 ∧ va_P G.1 vwCl [ob mo 6 [.ref u0, .ref u1, .ref u2, .ref u3, .ref u4, .ref u5, .int (nI sm1), .int (nI ((sa + 1) % 5)), .int (nI le), .int (nI ra), .int (nI fa)], ar G u0 481 nw1, ar G u1 481 bf1, ar G u2 2405 sts1] H) (mA [ob mo 6 [.ref u0, .ref u1, .ref u2, .ref u3, .ref u4, .ref u5, .int (nI sm), .int (nI sa), .int (nI le), .int (nI ra), .int (nI fa)], ar G u0 481 nw, ar G u1 481 bf, ar G u2 2405 sts])) 0 0 (mA [ob mo 6 [.ref u0, .ref u1, .ref u2, .ref u3, .ref u4, .ref u5, .int (nI sm), .int (nI sa), .int (nI le), .int (nI ra), .int (nI fa)], ar G u0 481 nw, ar G u1 481 bf, ar G u2 2405 sts]) := by
  refine met_muI (cc := cX6_removeLast) (maxL := 1) (ty := .int) (own := RX6) (by decide) rfl rfl (fun _ _ _ => rfl) (Nat.le_of_ble_eq_true rfl) ?_
  intro p e s m args below meth cod Q A hx hb hml hown hts hK hP hD hS hret ls hl
  have hl : lv_has ls 1 [(0, .ref mo)] := hl
  have h24 := hB.n
  refine lv_aload_n hx hb dX6_removeLast_0 rfl (lv_at hl 0 rfl) ?_
  refine va_get (D := G.1) (ci := 6) (v := .ref u0) (C := RX6) (T := TX6) (N := 11) hx hb hts iqX6_removeLast_ok_X6 hown hK.1 hP 0 rfl rfl 0 (by decide) (hts (.fieldLink RX6 7 "PushedTablesModel" "now" "[I") (List.mem_of_getElem? (i := 1) rfl)) (fun _ h9 => h9) rfl dX6_removeLast_1 ?_
  refine lv_iconst (v := (nI 0)) hx hb dX6_removeLast_4 (by decide) ?_
  refine r_iald (e1 := 0) (v := (nI (nn σ))) hx hb hK.1 hP 1 0 rfl rfl (by omega) (by first | decide | assumption) (hR.n) dX6_removeLast_5 ?_
  refine r_if_ne (P := (nn σ) = 0) (tgt := 12) hx hb dX6_removeLast_6 (by decide) (nI_eq0 (by omega)) (fun cq6 => ?_) (fun cq6 => ?_)
  · refine lv_aload_n hx hb dX6_removeLast_12 rfl (lv_at hl 0 rfl) ?_
    refine g_V (k_V (q0 := 0) (ci := 6) (n := 0) (As := []) (rest := []) (wc := [ob mo 6 [.ref u0, .ref u1, .ref u2, .ref u3, .ref u4, .ref u5, .int (nI sm), .int (nI sa), .int (nI le), .int (nI ra), .int (nI fa)], ar G u0 481 nw, ar G u1 481 bf, ar G u2 2405 sts]) hx hb hml hown hts (c_X6_remember (l := l) (G := G) (mo := mo) (u0 := u0) (u1 := u1) (u2 := u2) (u3 := u3) (u4 := u4) (u5 := u5) (sm := sm) (sa := sa) (le := le) (ra := ra) (fa := fa) (nw := nw) (bf := bf) (sts := sts) (hsa := by first | assumption | omega) (hsm := by first | assumption | omega))  gX6_removeLast_X6_remember rfl rfl rfl (by decide +kernel) ⟨Nat.le_of_ble_eq_true rfl, Nat.le_of_ble_eq_true rfl⟩ rfl hK hP hD [0, 1, 2, 3] rfl (by decide)  rfl rfl rfl hl.1 rfl (Nat.le_of_ble_eq_true rfl) dX6_removeLast_13 ⟨Nat.le_of_ble_eq_true rfl, Nat.le_of_ble_eq_true rfl⟩) hP hD hS [0, 1, 2, 3] rfl (fun H locs hB13 back hS => ?_)
    obtain ⟨sm113, bf113, sts113, hqs13, hqt13, hP1⟩ := hB13
    obtain ⟨hP, hD⟩ := back [ob mo 6 [.ref u0, .ref u1, .ref u2, .ref u3, .ref u4, .ref u5, .int (nI sm113), .int (nI ((sa + 1) % 5)), .int (nI le), .int (nI ra), .int (nI fa)], ar G u0 481 nw, ar G u1 481 bf113, ar G u2 2405 sts113] rfl hP1
    have hP : va_P G.1 vwCl [ob mo 6 [.ref u0, .ref u1, .ref u2, .ref u3, .ref u4, .ref u5, .int (nI sm113), .int (nI ((sa + 1) % 5)), .int (nI le), .int (nI ra), .int (nI fa)], ar G u0 481 nw, ar G u1 481 bf113, ar G u2 2405 sts113] H := hP
    have hD : va_D A [ob mo 6 [.ref u0, .ref u1, .ref u2, .ref u3, .ref u4, .ref u5, .int (nI sm113), .int (nI ((sa + 1) % 5)), .int (nI le), .int (nI ra), .int (nI fa)], ar G u0 481 nw, ar G u1 481 bf113, ar G u2 2405 sts113] := hD
    refine lv_aload_n hx hb dX6_removeLast_16 rfl (lv_at hl 0 rfl) ?_
    refine lv_aload_n hx hb dX6_removeLast_17 rfl (lv_at hl 0 rfl) ?_
    refine va_get (D := G.1) (ci := 6) (v := .ref u0) (C := RX6) (T := TX6) (N := 11) hx hb hts iqX6_removeLast_ok_X6 hown hK.1 hP 0 rfl rfl 0 (by decide) (hts (.fieldLink RX6 7 "PushedTablesModel" "now" "[I") (List.mem_of_getElem? (i := 1) rfl)) (fun _ h9 => h9) rfl dX6_removeLast_18 ?_
    refine lv_iconst (v := (nI 0)) hx hb dX6_removeLast_21 (by decide) ?_
    refine r_iald (e1 := 0) (v := (nI (nn σ))) hx hb hK.1 hP 1 0 rfl rfl (by omega) (by first | decide | assumption) (hR.n) dX6_removeLast_22 ?_
    refine lv_iconst (v := (nI 1)) hx hb dX6_removeLast_23 (by decide) ?_
    refine r_isub (v := (nn σ) - 1) hx hb dX6_removeLast_24 (by omega) rfl ?_
    refine g_V (k_V (q0 := 0) (ci := 6) (n := 1) (As := [.int (nI ((nn σ) - 1))]) (rest := []) (wc := [ob mo 6 [.ref u0, .ref u1, .ref u2, .ref u3, .ref u4, .ref u5, .int (nI sm113), .int (nI ((sa + 1) % 5)), .int (nI le), .int (nI ra), .int (nI fa)], ar G u0 481 nw]) hx hb hml hown hts (c_X6_leaves (l := l) (G := G) (mo := mo) (u0 := u0) (u1 := u1) (u2 := u2) (u3 := u3) (u4 := u4) (u5 := u5) (sm := sm113) (sa := ((sa + 1) % 5)) (le := le) (ra := ra) (fa := fa) (σ := σ) (nw := nw) (hR := hR) (hB := hB) (r := (nn σ) - 1) (hr := by first | assumption | omega))  gX6_removeLast_X6_leaves rfl rfl rfl (by decide +kernel) ⟨Nat.le_of_ble_eq_true rfl, Nat.le_of_ble_eq_true rfl⟩ rfl hK hP hD [0, 1] rfl (by decide)  rfl rfl rfl hl.1 rfl (Nat.le_of_ble_eq_true rfl) dX6_removeLast_25 ⟨Nat.le_of_ble_eq_true rfl, Nat.le_of_ble_eq_true rfl⟩) hP hD hS [0, 1] rfl (fun H locs hB25 back hS => ?_)
    obtain ⟨nw125, hq25, hP1⟩ := hB25
    obtain ⟨hP, hD⟩ := back [ob mo 6 [.ref u0, .ref u1, .ref u2, .ref u3, .ref u4, .ref u5, .int (nI sm113), .int (nI ((sa + 1) % 5)), .int (nI le), .int (nI ra), .int (nI fa)], ar G u0 481 nw125] rfl hP1
    have hP : va_P G.1 vwCl [ob mo 6 [.ref u0, .ref u1, .ref u2, .ref u3, .ref u4, .ref u5, .int (nI sm113), .int (nI ((sa + 1) % 5)), .int (nI le), .int (nI ra), .int (nI fa)], ar G u0 481 nw125, ar G u1 481 bf113, ar G u2 2405 sts113] H := hP
    have hD : va_D A [ob mo 6 [.ref u0, .ref u1, .ref u2, .ref u3, .ref u4, .ref u5, .int (nI sm113), .int (nI ((sa + 1) % 5)), .int (nI le), .int (nI ra), .int (nI fa)], ar G u0 481 nw125, ar G u1 481 bf113, ar G u2 2405 sts113] := hD
    have hn2 := nn_lfT σ (nn σ - 1)
    have hR3 := Rel_dc hq25 (by omega)
    rw [hn2] at hR3
    refine lv_aload_n hx hb dX6_removeLast_28 rfl (lv_at hl 0 rfl) ?_
    refine va_get (D := G.1) (ci := 6) (v := .ref u0) (C := RX6) (T := TX6) (N := 11) hx hb hts iqX6_removeLast_ok_X6 hown hK.1 hP 0 rfl rfl 0 (by decide) (hts (.fieldLink RX6 7 "PushedTablesModel" "now" "[I") (List.mem_of_getElem? (i := 1) rfl)) (fun _ h9 => h9) rfl dX6_removeLast_29 ?_
    refine lv_iconst (v := (nI 0)) hx hb dX6_removeLast_32 (by decide) ?_
    refine lv_dup2_11 hx hb dX6_removeLast_33 rfl rfl ?_
    refine r_iald (e1 := 0) (v := (nI (nn σ))) hx hb hK.1 hP 1 0 rfl rfl (by omega) (by first | decide | assumption) (hq25.n.trans (congrArg nI hn2)) dX6_removeLast_34 ?_
    refine lv_iconst (v := (nI 1)) hx hb dX6_removeLast_35 (by decide) ?_
    refine r_isub (v := (nn σ) - 1) hx hb dX6_removeLast_36 (by omega) rfl ?_
    refine r_iast (e1 := 0) (x := (nI ((nn σ) - 1))) (g := upd nw125 0 (nI ((nn σ) - 1))) hx hb hK.1 hP hD hS 1 0 rfl rfl (by omega) (by first | decide | assumption) (rfl) dX6_removeLast_37 (fun H locs hP hD hS => ?_)
    have hP : va_P G.1 vwCl [ob mo 6 [.ref u0, .ref u1, .ref u2, .ref u3, .ref u4, .ref u5, .int (nI sm113), .int (nI ((sa + 1) % 5)), .int (nI le), .int (nI ra), .int (nI fa)], ar G u0 481 (upd nw125 0 (nI ((nn σ) - 1))), ar G u1 481 bf113, ar G u2 2405 sts113] H := hP
    have hD : va_D A [ob mo 6 [.ref u0, .ref u1, .ref u2, .ref u3, .ref u4, .ref u5, .int (nI sm113), .int (nI ((sa + 1) % 5)), .int (nI le), .int (nI ra), .int (nI fa)], ar G u0 481 (upd nw125 0 (nI ((nn σ) - 1))), ar G u1 481 bf113, ar G u2 2405 sts113] := hD
    refine lv_aload_n hx hb dX6_removeLast_38 rfl (lv_at hl 0 rfl) ?_
    refine va_get (D := G.1) (ci := 6) (v := .ref u0) (C := RX6) (T := TX6) (N := 11) hx hb hts iqX6_removeLast_ok_X6 hown hK.1 hP 0 rfl rfl 0 (by decide) (hts (.fieldLink RX6 7 "PushedTablesModel" "now" "[I") (List.mem_of_getElem? (i := 1) rfl)) (fun _ h9 => h9) rfl dX6_removeLast_39 ?_
    refine lv_iconst (v := (nI 0)) hx hb dX6_removeLast_42 (by decide) ?_
    refine r_iald (e1 := 0) (v := (nI (nn σ - 1))) hx hb hK.1 hP 1 0 rfl rfl (by omega) (by first | decide | assumption) (u_s) dX6_removeLast_43 ?_
    exact hret _ _ _ _ _ hS dX6_removeLast_44 (⟨upd nw125 0 (nI ((nn σ) - 1)), bf113, sts113, sm113, rfl, hqs13, hqt13, hR3, hP⟩)
  · exact absurd cq6 (by omega)

set_option maxHeartbeats 1000000 in
set_option maxRecDepth 100000 in
theorem c_X6_most (l : Launch) (G : kG) (mo u0 u1 u2 u3 u4 u5 sm sa le ra fa : Nat) (σ : Sg) (nw : Nat → Int32) (hR : Rel σ nw) (hB : Bd σ) (r : Nat) (hr : r < nn σ) : Met l yX6_most wsX6_most ({ frames := 2, cells := 0, slots := 0, locals := 43 } : Room) (cP G [.ref mo, .int (nI r)] [ob mo 6 [.ref u0, .ref u1, .ref u2, .ref u3, .ref u4, .ref u5, .int (nI sm), .int (nI sa), .int (nI le), .int (nI ra), .int (nI fa)], ar G u0 481 nw]) (vp_Si (fun rv => rv = (nI (mv σ r)))) 0 0 (fun _ => False) := by
  refine met_ro (cc := cX6_most) (maxL := 7) (ty := .int) (own := RX6) (by decide) rfl rfl (fun _ _ => rfl) (Nat.le_of_ble_eq_true rfl) ?_
  intro p e s m args below meth cod Q hx hb hml hown hts hK hP hD hret ls hl
  have hl : lv_has ls 7 [(0, .ref mo), (1, .int (nI r))] := hl
  have h24 := hB.n
  refine lv_iconst (v := (nI 0)) hx hb dX6_most_0 (by decide) ?_
  refine lv_istore_n (lv' := [(2, .int (nI 0)), (0, .ref mo), (1, .int (nI r))]) hx hb dX6_most_1 rfl hl (by decide) rfl (fun ls hl => ?_)
  refine lv_iconst (v := (nI 0)) hx hb dX6_most_2 (by decide) ?_
  refine lv_istore_n (lv' := [(3, .int (nI 0)), (2, .int (nI 0)), (0, .ref mo), (1, .int (nI r))]) hx hb dX6_most_3 rfl hl (by decide) rfl (fun ls hl => ?_)
  refine lv_iconst (v := (nI 0)) hx hb dX6_most_4 (by decide) ?_
  refine lv_istore (lv' := [(4, .int (nI 0)), (3, .int (nI 0)), (2, .int (nI 0)), (0, .ref mo), (1, .int (nI r))]) hx hb dX6_most_5 hl (by decide) rfl (fun ls hl => ?_)
  have L7 : ∀ (fu : Nat) (v : Nat) (b : Nat) (x8 : Nat), 101 - v < fu → v ≤ 100 → (b, x8) = mvB (cw σ r) v → x8 ≤ 16 → ∀ (ls : Array Slot), lv_has ls 7 [(0, .ref mo), (1, .int (nI r)), (2, .int (nI b)), (3, .int (nI x8)), (4, .int (nI v))] → W p l e ({ frames := 2, cells := 0, slots := 0, locals := 43 } : Room) s m args below meth cod s.heap [] 0 0 Q (F0 m 7 ls []) := by
    intro fu
    induction fu with
    | zero => intro v b x8 hm; exact absurd hm (Nat.not_lt_zero _)
    | succ fu ih7 =>
      intro v b x8 hm7 hv1 hbm hm16 ls hl
      refine lv_iload hx hb dX6_most_7 (lv_at hl 4 rfl) ?_
      refine lv_bipush (v := (nI 99)) hx hb dX6_most_9 (by decide) ?_
      refine r_icmp_gt (P := 99 < v) (tgt := 87) hx hb dX6_most_11 (by decide) (nI_ltI (by omega) (by omega)) (fun cq11 => ?_) (fun cq11 => ?_)
      · refine lv_iload_n hx hb dX6_most_87 rfl (lv_at hl 2 rfl) ?_
        exact hret _ _ _ dX6_most_88 (by have e : v = 100 := (by omega); subst e; unfold mv; rw [← hbm])
      · refine lv_iconst (v := (nI 0)) hx hb dX6_most_14 (by decide) ?_
        refine lv_istore (lv' := [(5, .int (nI 0)), (0, .ref mo), (1, .int (nI r)), (2, .int (nI b)), (3, .int (nI x8)), (4, .int (nI v))]) hx hb dX6_most_15 hl (by decide) rfl (fun ls hl => ?_)
        refine lv_iconst (v := (nI 0)) hx hb dX6_most_17 (by decide) ?_
        refine lv_istore (lv' := [(6, .int (nI 0)), (5, .int (nI 0)), (0, .ref mo), (1, .int (nI r)), (2, .int (nI b)), (3, .int (nI x8)), (4, .int (nI v))]) hx hb dX6_most_18 hl (by decide) rfl (fun ls hl => ?_)
        have L20 : ∀ (fu : Nat) (c : Nat) (c9 : Nat), 17 - c < fu → c ≤ 16 → c9 = fb_ct (fun c => decide (vv σ (r * 16 + c) = v)) c → c9 ≤ c → ∀ (ls : Array Slot), lv_has ls 7 [(0, .ref mo), (1, .int (nI r)), (2, .int (nI b)), (3, .int (nI x8)), (4, .int (nI v)), (5, .int (nI c9)), (6, .int (nI c))] → W p l e ({ frames := 2, cells := 0, slots := 0, locals := 43 } : Room) s m args below meth cod s.heap [] 0 0 Q (F0 m 20 ls []) := by
          intro fu
          induction fu with
          | zero => intro c c9 hm; exact absurd hm (Nat.not_lt_zero _)
          | succ fu ih20 =>
            intro c c9 hm20 hc hc9 hc9l ls hl
            refine lv_iload hx hb dX6_most_20 (lv_at hl 6 rfl) ?_
            refine lv_bipush (v := (nI 16)) hx hb dX6_most_22 (by decide) ?_
            refine r_icmp_ge (P := 16 ≤ c) (tgt := 55) hx hb dX6_most_24 (by decide) (nI_leI (by omega) (by omega)) (fun cq24 => ?_) (fun cq24 => ?_)
            · have hcw : c9 = cw σ r v := (by have e : c = 16 := (by omega); rw [hc9, e]; rfl)
              have cwl := cw_le σ r v
              have hst := mvB_s hbm hcw
              refine lv_iload hx hb dX6_most_55 (lv_at hl 5 rfl) ?_
              refine lv_iload_n hx hb dX6_most_57 rfl (lv_at hl 3 rfl) ?_
              refine r_icmp_le (P := c9 ≤ x8) (tgt := 66) hx hb dX6_most_58 (by decide) (nI_leI (by omega) (by omega)) (fun cq58 => ?_) (fun cq58 => ?_)
              · refine lv_iload_n hx hb dX6_most_66 rfl (lv_at hl 2 rfl) ?_
                refine lv_istore_n (lv' := [(2, .int (nI b)), (0, .ref mo), (1, .int (nI r)), (3, .int (nI x8)), (4, .int (nI v)), (5, .int (nI c9)), (6, .int (nI c))]) hx hb dX6_most_67 rfl hl (by decide) rfl (fun ls hl => ?_)
                refine lv_iload hx hb dX6_most_68 (lv_at hl 5 rfl) ?_
                refine lv_iload_n hx hb dX6_most_70 rfl (lv_at hl 3 rfl) ?_
                refine r_icmp_le (P := c9 ≤ x8) (tgt := 79) hx hb dX6_most_71 (by decide) (nI_leI (by omega) (by omega)) (fun cq71 => ?_) (fun cq71 => ?_)
                · refine lv_iload_n hx hb dX6_most_79 rfl (lv_at hl 3 rfl) ?_
                  refine lv_istore_n (lv' := [(3, .int (nI x8)), (2, .int (nI b)), (0, .ref mo), (1, .int (nI r)), (4, .int (nI v)), (5, .int (nI c9)), (6, .int (nI c))]) hx hb dX6_most_80 rfl hl (by decide) rfl (fun ls hl => ?_)
                  refine r_iinc (v := v + 1) (lv' := [(4, .int (nI (v + 1))), (3, .int (nI x8)), (2, .int (nI b)), (0, .ref mo), (1, .int (nI r)), (5, .int (nI c9)), (6, .int (nI c))]) hx hb dX6_most_81 hl (k := 4) rfl (nI_1 _) (by decide) rfl (fun ls hl => ?_)
                  refine lv_goto (tgt := 7) hx hb dX6_most_84 (by decide) ?_
                  exact ih7 (v + 1) b x8 (by omega) (by omega) (by rw [if_neg (Nat.not_lt.mpr cq58), if_neg (Nat.not_lt.mpr cq58)] at hst; exact hst) (by omega) ls (lv_sub hl [3, 4, 2, 1, 0] rfl)
                · refine lv_iload hx hb dX6_most_74 (lv_at hl 5 rfl) ?_
                  refine lv_goto (tgt := 80) hx hb dX6_most_76 (by decide) ?_
                  refine lv_istore_n (lv' := [(3, .int (nI c9)), (2, .int (nI b)), (0, .ref mo), (1, .int (nI r)), (4, .int (nI v)), (5, .int (nI c9)), (6, .int (nI c))]) hx hb dX6_most_80 rfl hl (by decide) rfl (fun ls hl => ?_)
                  refine r_iinc (v := v + 1) (lv' := [(4, .int (nI (v + 1))), (3, .int (nI c9)), (2, .int (nI b)), (0, .ref mo), (1, .int (nI r)), (5, .int (nI c9)), (6, .int (nI c))]) hx hb dX6_most_81 hl (k := 4) rfl (nI_1 _) (by decide) rfl (fun ls hl => ?_)
                  refine lv_goto (tgt := 7) hx hb dX6_most_84 (by decide) ?_
                  exact ih7 (v + 1) b c9 (by omega) (by omega) (absurd cq58 cq71) (by omega) ls (lv_sub hl [3, 4, 2, 1, 0] rfl)
              · refine lv_iload hx hb dX6_most_61 (lv_at hl 4 rfl) ?_
                refine lv_goto (tgt := 67) hx hb dX6_most_63 (by decide) ?_
                refine lv_istore_n (lv' := [(2, .int (nI v)), (0, .ref mo), (1, .int (nI r)), (3, .int (nI x8)), (4, .int (nI v)), (5, .int (nI c9)), (6, .int (nI c))]) hx hb dX6_most_67 rfl hl (by decide) rfl (fun ls hl => ?_)
                refine lv_iload hx hb dX6_most_68 (lv_at hl 5 rfl) ?_
                refine lv_iload_n hx hb dX6_most_70 rfl (lv_at hl 3 rfl) ?_
                refine r_icmp_le (P := c9 ≤ x8) (tgt := 79) hx hb dX6_most_71 (by decide) (nI_leI (by omega) (by omega)) (fun cq71 => ?_) (fun cq71 => ?_)
                · refine lv_iload_n hx hb dX6_most_79 rfl (lv_at hl 3 rfl) ?_
                  refine lv_istore_n (lv' := [(3, .int (nI x8)), (2, .int (nI v)), (0, .ref mo), (1, .int (nI r)), (4, .int (nI v)), (5, .int (nI c9)), (6, .int (nI c))]) hx hb dX6_most_80 rfl hl (by decide) rfl (fun ls hl => ?_)
                  refine r_iinc (v := v + 1) (lv' := [(4, .int (nI (v + 1))), (3, .int (nI x8)), (2, .int (nI v)), (0, .ref mo), (1, .int (nI r)), (5, .int (nI c9)), (6, .int (nI c))]) hx hb dX6_most_81 hl (k := 4) rfl (nI_1 _) (by decide) rfl (fun ls hl => ?_)
                  refine lv_goto (tgt := 7) hx hb dX6_most_84 (by decide) ?_
                  exact ih7 (v + 1) v x8 (by omega) (by omega) (absurd cq71 cq58) (by omega) ls (lv_sub hl [3, 4, 2, 1, 0] rfl)
                · refine lv_iload hx hb dX6_most_74 (lv_at hl 5 rfl) ?_
                  refine lv_goto (tgt := 80) hx hb dX6_most_76 (by decide) ?_
                  refine lv_istore_n (lv' := [(3, .int (nI c9)), (2, .int (nI v)), (0, .ref mo), (1, .int (nI r)), (4, .int (nI v)), (5, .int (nI c9)), (6, .int (nI c))]) hx hb dX6_most_80 rfl hl (by decide) rfl (fun ls hl => ?_)
                  refine r_iinc (v := v + 1) (lv' := [(4, .int (nI (v + 1))), (3, .int (nI c9)), (2, .int (nI v)), (0, .ref mo), (1, .int (nI r)), (5, .int (nI c9)), (6, .int (nI c))]) hx hb dX6_most_81 hl (k := 4) rfl (nI_1 _) (by decide) rfl (fun ls hl => ?_)
                  refine lv_goto (tgt := 7) hx hb dX6_most_84 (by decide) ?_
                  exact ih7 (v + 1) v c9 (by omega) (by omega) (by rw [if_pos (Nat.lt_of_not_le cq58), if_pos (Nat.lt_of_not_le cq58)] at hst; exact hst) (by omega) ls (lv_sub hl [3, 4, 2, 1, 0] rfl)
            · refine lv_iload hx hb dX6_most_27 (lv_at hl 5 rfl) ?_
              refine lv_aload_n hx hb dX6_most_29 rfl (lv_at hl 0 rfl) ?_
              refine lv_iload_n hx hb dX6_most_30 rfl (lv_at hl 1 rfl) ?_
              refine lv_iload hx hb dX6_most_31 (lv_at hl 6 rfl) ?_
              refine g_ro (k_V (q0 := 0) (ci := 6) (n := 2) (As := [.int (nI r), .int (nI c)]) (rest := [.int (nI c9)]) (wc := [ob mo 6 [.ref u0, .ref u1, .ref u2, .ref u3, .ref u4, .ref u5, .int (nI sm), .int (nI sa), .int (nI le), .int (nI ra), .int (nI fa)], ar G u0 481 nw]) hx hb hml hown hts (c_X6_valueOf (l := l) (G := G) (mo := mo) (u0 := u0) (u1 := u1) (u2 := u2) (u3 := u3) (u4 := u4) (u5 := u5) (sm := sm) (sa := sa) (le := le) (ra := ra) (fa := fa) (σ := by first | assumption | omega) (nw := nw) (hR := by first | assumption | omega) (hB := by first | assumption | omega) (r := r) (c := c) (hr := by first | assumption | omega) (hc := by first | assumption | omega))  gX6_most_X6_valueOf rfl rfl rfl (by decide +kernel) ⟨Nat.le_of_ble_eq_true rfl, Nat.le_of_ble_eq_true rfl⟩ rfl hK hP hD [0, 1] rfl (by decide)  rfl rfl rfl hl.1 rfl (Nat.le_of_ble_eq_true rfl) dX6_most_33 ⟨Nat.le_of_ble_eq_true rfl, Nat.le_of_ble_eq_true rfl⟩) (fun r33 h33 => ?_)
              obtain rfl : (nI (vv σ (r * 16 + c))) = r33 := Eq.symm h33
              have b33 := (by assumption : Bd σ).v (r * 16 + c)
              have hvb := hB.v (r * 16 + c)
              refine lv_iload hx hb dX6_most_36 (lv_at hl 4 rfl) ?_
              refine r_icmp_ne (P := (vv σ (r * 16 + c)) = v) (tgt := 45) hx hb dX6_most_38 (by decide) (nI_eq (by omega) (by omega)) (fun cq38 => ?_) (fun cq38 => ?_)
              · refine lv_iconst (v := (nI 0)) hx hb dX6_most_45 (by decide) ?_
                refine r_iadd (v := c9 + 0) hx hb dX6_most_46 rfl ?_
                refine lv_istore (lv' := [(5, .int (nI (c9 + 0))), (0, .ref mo), (1, .int (nI r)), (2, .int (nI b)), (3, .int (nI x8)), (4, .int (nI v)), (6, .int (nI c))]) hx hb dX6_most_47 hl (by decide) rfl (fun ls hl => ?_)
                refine r_iinc (v := c + 1) (lv' := [(6, .int (nI (c + 1))), (5, .int (nI (c9 + 0))), (0, .ref mo), (1, .int (nI r)), (2, .int (nI b)), (3, .int (nI x8)), (4, .int (nI v))]) hx hb dX6_most_49 hl (k := 6) rfl (nI_1 _) (by decide) rfl (fun ls hl => ?_)
                refine lv_goto (tgt := 20) hx hb dX6_most_52 (by decide) ?_
                exact ih20 (c + 1) (c9 + 0) (by omega) (by omega) (ct_f (decide_eq_false cq38) hc9) (by omega) ls (lv_sub hl [2, 3, 4, 5, 6, 1, 0] rfl)
              · refine lv_iconst (v := (nI 1)) hx hb dX6_most_41 (by decide) ?_
                refine lv_goto (tgt := 46) hx hb dX6_most_42 (by decide) ?_
                refine r_iadd (v := c9 + 1) hx hb dX6_most_46 rfl ?_
                refine lv_istore (lv' := [(5, .int (nI (c9 + 1))), (0, .ref mo), (1, .int (nI r)), (2, .int (nI b)), (3, .int (nI x8)), (4, .int (nI v)), (6, .int (nI c))]) hx hb dX6_most_47 hl (by decide) rfl (fun ls hl => ?_)
                refine r_iinc (v := c + 1) (lv' := [(6, .int (nI (c + 1))), (5, .int (nI (c9 + 1))), (0, .ref mo), (1, .int (nI r)), (2, .int (nI b)), (3, .int (nI x8)), (4, .int (nI v))]) hx hb dX6_most_49 hl (k := 6) rfl (nI_1 _) (by decide) rfl (fun ls hl => ?_)
                refine lv_goto (tgt := 20) hx hb dX6_most_52 (by decide) ?_
                exact ih20 (c + 1) (c9 + 1) (by omega) (by omega) (ct_t (decide_eq_true cq38) hc9) (by omega) ls (lv_sub hl [2, 3, 4, 5, 6, 1, 0] rfl)
        exact L20 ((17 - 0) + 1) 0 0 (Nat.lt_succ_self _) (by omega) (rfl) (by omega) ls (lv_sub hl [2, 3, 4, 5, 6, 1, 0] rfl)
  exact L7 ((101 - 0) + 1) 0 0 0 (Nat.lt_succ_self _) (by omega) (rfl) (by omega) ls (lv_sub hl [3, 4, 2, 1, 0] rfl)

theorem iqX6_slim_ok_X6 : ∀ w ∈ u_ws RX6 TX6 11, w ∈ wsX6_slim := by decide +kernel
set_option maxHeartbeats 1000000 in
set_option maxRecDepth 100000 in
theorem c_X6_slim_ok (l : Launch) (G : kG) (mo u0 u1 u2 u3 u4 u5 sm sa le ra fa : Nat) (σ : Sg) (nw : Nat → Int32) (hR : Rel σ nw) (hB : Bd σ) (bf sts : Nat → Int32) (hsa : sa < 5) (hsm : sm ≤ 5) (r : Nat) (hr : r < nn σ) (hF : ebT σ r (mv σ r) ≠ cols σ r → FP (slS (lfT σ r) r (mv σ r)) r) (mk vl : Nat → Int32) : Met l yX6_slim wsX6_slim ({ frames := 4, cells := 0, slots := 0, locals := 91 } : Room) (cP G [.ref mo, .int (nI r)] [ob mo 6 [.ref u0, .ref u1, .ref u2, .ref u3, .ref u4, .ref u5, .int (nI sm), .int (nI sa), .int (nI le), .int (nI ra), .int (nI fa)], ar G u0 481 nw, ar G u1 481 bf, ar G u2 2405 sts, ar G u3 800 mk, ar G u4 800 vl]) (qI (fun rv H => ∃ (nw1 : Nat → Int32) (bf1 : Nat → Int32) (sts1 : Nat → Int32) (sm1 : Nat) (mk1 : Nat → Int32) (vl1 : Nat → Int32), rv = (nI (mv σ r)) ∧ (sm1 = (if sm < 5 then sm + 1 else 5)) ∧ sts1 = fb_put sts nw (481 * sa) 481 ∧ Rel (rslT σ r (mv σ r)) nw1 ∧ va_P G.1 vwCl [ob mo 6 [.ref u0, .ref u1, .ref u2, .ref u3, .ref u4, .ref u5, .int (nI sm1), .int (nI ((sa + 1) % 5)), .int (nI le), .int (nI ra), .int (nI fa)], ar G u0 481 nw1, ar G u1 481 bf1, ar G u2 2405 sts1, ar G u3 800 mk1, ar G u4 800 vl1] H) (mA [ob mo 6 [.ref u0, .ref u1, .ref u2, .ref u3, .ref u4, .ref u5, .int (nI sm), .int (nI sa), .int (nI le), .int (nI ra), .int (nI fa)], ar G u0 481 nw, ar G u1 481 bf, ar G u2 2405 sts, ar G u3 800 mk, ar G u4 800 vl])) 0 0 (mA [ob mo 6 [.ref u0, .ref u1, .ref u2, .ref u3, .ref u4, .ref u5, .int (nI sm), .int (nI sa), .int (nI le), .int (nI ra), .int (nI fa)], ar G u0 481 nw, ar G u1 481 bf, ar G u2 2405 sts, ar G u3 800 mk, ar G u4 800 vl]) := by
  refine met_muI (cc := cX6_slim) (maxL := 6) (ty := .int) (own := RX6) (by decide) rfl rfl (fun _ _ _ => rfl) (Nat.le_of_ble_eq_true rfl) ?_
  intro p e s m args below meth cod Q A hx hb hml hown hts hK hP hD hS hret ls hl
  have hl : lv_has ls 6 [(0, .ref mo), (1, .int (nI r))] := hl
  have h24 := hB.n
  have hcl := cols_lt σ r
  have hel := ebT_lt σ r (mv σ r)
  have hmvl := mv_lt σ r
  refine lv_aload_n hx hb dX6_slim_0 rfl (lv_at hl 0 rfl) ?_
  refine lv_iload_n hx hb dX6_slim_1 rfl (lv_at hl 1 rfl) ?_
  refine g_ro (k_V (q0 := 0) (ci := 6) (n := 1) (As := [.int (nI r)]) (rest := []) (wc := [ob mo 6 [.ref u0, .ref u1, .ref u2, .ref u3, .ref u4, .ref u5, .int (nI sm), .int (nI sa), .int (nI le), .int (nI ra), .int (nI fa)], ar G u0 481 nw]) hx hb hml hown hts (c_X6_isRow (l := l) (G := G) (mo := mo) (u0 := u0) (u1 := u1) (u2 := u2) (u3 := u3) (u4 := u4) (u5 := u5) (sm := sm) (sa := sa) (le := le) (ra := ra) (fa := fa) (σ := by first | assumption | omega) (nw := nw) (hR := by first | assumption | omega) (hB := by first | assumption | omega) (xa := nI r))  gX6_slim_X6_isRow rfl rfl rfl (by decide +kernel) ⟨Nat.le_of_ble_eq_true rfl, Nat.le_of_ble_eq_true rfl⟩ rfl hK hP hD [0, 1] rfl (by decide)  rfl rfl rfl hl.1 rfl (Nat.le_of_ble_eq_true rfl) dX6_slim_2 ⟨Nat.le_of_ble_eq_true rfl, Nat.le_of_ble_eq_true rfl⟩) (fun r2 h2 => ?_)
  obtain rfl : (bI (inr (nI r) 0 ((nn σ : Int) - 1))) = r2 := Eq.symm h2
  refine r_if_ne (P := (inr (nI r) 0 ((nn σ : Int) - 1)) = false) (tgt := 10) hx hb dX6_slim_5 (by decide) (bI_eq0) (fun cq5 => ?_) (fun cq5 => ?_)
  · refine lv_aload_n hx hb dX6_slim_10 rfl (lv_at hl 0 rfl) ?_
    refine g_V (k_V (q0 := 0) (ci := 6) (n := 0) (As := []) (rest := []) (wc := [ob mo 6 [.ref u0, .ref u1, .ref u2, .ref u3, .ref u4, .ref u5, .int (nI sm), .int (nI sa), .int (nI le), .int (nI ra), .int (nI fa)], ar G u0 481 nw, ar G u1 481 bf, ar G u2 2405 sts]) hx hb hml hown hts (c_X6_remember (l := l) (G := G) (mo := mo) (u0 := u0) (u1 := u1) (u2 := u2) (u3 := u3) (u4 := u4) (u5 := u5) (sm := sm) (sa := sa) (le := le) (ra := ra) (fa := fa) (nw := nw) (bf := bf) (sts := sts) (hsa := by first | assumption | omega) (hsm := by first | assumption | omega))  gX6_slim_X6_remember rfl rfl rfl (by decide +kernel) ⟨Nat.le_of_ble_eq_true rfl, Nat.le_of_ble_eq_true rfl⟩ rfl hK hP hD [0, 1, 2, 3] rfl (by decide)  rfl rfl rfl hl.1 rfl (Nat.le_of_ble_eq_true rfl) dX6_slim_11 ⟨Nat.le_of_ble_eq_true rfl, Nat.le_of_ble_eq_true rfl⟩) hP hD hS [0, 1, 2, 3] rfl (fun H locs hB11 back hS => ?_)
    obtain ⟨sm111, bf111, sts111, hqs11, hqt11, hP1⟩ := hB11
    obtain ⟨hP, hD⟩ := back [ob mo 6 [.ref u0, .ref u1, .ref u2, .ref u3, .ref u4, .ref u5, .int (nI sm111), .int (nI ((sa + 1) % 5)), .int (nI le), .int (nI ra), .int (nI fa)], ar G u0 481 nw, ar G u1 481 bf111, ar G u2 2405 sts111] rfl hP1
    have hP : va_P G.1 vwCl [ob mo 6 [.ref u0, .ref u1, .ref u2, .ref u3, .ref u4, .ref u5, .int (nI sm111), .int (nI ((sa + 1) % 5)), .int (nI le), .int (nI ra), .int (nI fa)], ar G u0 481 nw, ar G u1 481 bf111, ar G u2 2405 sts111, ar G u3 800 mk, ar G u4 800 vl] H := hP
    have hD : va_D A [ob mo 6 [.ref u0, .ref u1, .ref u2, .ref u3, .ref u4, .ref u5, .int (nI sm111), .int (nI ((sa + 1) % 5)), .int (nI le), .int (nI ra), .int (nI fa)], ar G u0 481 nw, ar G u1 481 bf111, ar G u2 2405 sts111, ar G u3 800 mk, ar G u4 800 vl] := hD
    refine lv_aload_n hx hb dX6_slim_14 rfl (lv_at hl 0 rfl) ?_
    refine lv_iload_n hx hb dX6_slim_15 rfl (lv_at hl 1 rfl) ?_
    refine g_ro (k_V (q0 := 0) (ci := 6) (n := 1) (As := [.int (nI r)]) (rest := []) (wc := [ob mo 6 [.ref u0, .ref u1, .ref u2, .ref u3, .ref u4, .ref u5, .int (nI sm111), .int (nI ((sa + 1) % 5)), .int (nI le), .int (nI ra), .int (nI fa)], ar G u0 481 nw]) hx hb hml hown hts (c_X6_most (l := l) (G := G) (mo := mo) (u0 := u0) (u1 := u1) (u2 := u2) (u3 := u3) (u4 := u4) (u5 := u5) (sm := sm111) (sa := ((sa + 1) % 5)) (le := le) (ra := ra) (fa := fa) (σ := σ) (nw := nw) (hR := hR) (hB := hB) (r := r) (hr := by first | assumption | omega))  gX6_slim_X6_most rfl rfl rfl (by decide +kernel) ⟨Nat.le_of_ble_eq_true rfl, Nat.le_of_ble_eq_true rfl⟩ rfl hK hP hD [0, 1] rfl (by decide)  rfl rfl rfl hl.1 rfl (Nat.le_of_ble_eq_true rfl) dX6_slim_16 ⟨Nat.le_of_ble_eq_true rfl, Nat.le_of_ble_eq_true rfl⟩) (fun r16 h16 => ?_)
    obtain rfl : (nI (mv σ r)) = r16 := Eq.symm h16
    have b16 := mv_lt σ r
    refine lv_istore_n (lv' := [(2, .int (nI (mv σ r))), (0, .ref mo), (1, .int (nI r))]) hx hb dX6_slim_19 rfl hl (by decide) rfl (fun ls hl => ?_)
    refine lv_aload_n hx hb dX6_slim_20 rfl (lv_at hl 1 rfl) ?_
    refine lv_iload_n hx hb dX6_slim_21 rfl (lv_at hl 2 rfl) ?_
    refine lv_iload_n hx hb dX6_slim_22 rfl (lv_at hl 0 rfl) ?_
    refine lv_iconst (v := (bI true)) hx hb dX6_slim_23 (by decide) ?_
    refine g_ro (k_V (q0 := 0) (ci := 6) (n := 3) (As := [.int (nI r), .int (nI (mv σ r)), .int (bI true)]) (rest := []) (wc := [ob mo 6 [.ref u0, .ref u1, .ref u2, .ref u3, .ref u4, .ref u5, .int (nI sm111), .int (nI ((sa + 1) % 5)), .int (nI le), .int (nI ra), .int (nI fa)], ar G u0 481 nw]) hx hb hml hown hts (c_X6_entriesBy_t (l := l) (G := G) (mo := mo) (u0 := u0) (u1 := u1) (u2 := u2) (u3 := u3) (u4 := u4) (u5 := u5) (sm := sm111) (sa := ((sa + 1) % 5)) (le := le) (ra := ra) (fa := fa) (σ := σ) (nw := nw) (hR := hR) (hB := hB) (r := r) (v := mv σ r) (hr := by first | assumption | omega) (hv9 := by first | assumption | omega))  gX6_slim_X6_entriesBy rfl rfl rfl (by decide +kernel) ⟨Nat.le_of_ble_eq_true rfl, Nat.le_of_ble_eq_true rfl⟩ rfl hK hP hD [0, 1] rfl (by decide)  rfl rfl rfl hl.1 rfl (Nat.le_of_ble_eq_true rfl) dX6_slim_24 ⟨Nat.le_of_ble_eq_true rfl, Nat.le_of_ble_eq_true rfl⟩) (fun r24 h24 => ?_)
    obtain rfl : (nI (ebT σ r (mv σ r))) = r24 := Eq.symm h24
    have b24 := ebT_lt σ r (mv σ r)
    refine lv_istore_n (lv' := [(3, .int (nI (ebT σ r (mv σ r)))), (2, .int (nI (mv σ r))), (0, .ref mo), (1, .int (nI r))]) hx hb dX6_slim_27 rfl hl (by decide) rfl (fun ls hl => ?_)
    refine lv_iload_n hx hb dX6_slim_28 rfl (lv_at hl 0 rfl) ?_
    refine lv_aload_n hx hb dX6_slim_29 rfl (lv_at hl 2 rfl) ?_
    refine lv_iload_n hx hb dX6_slim_30 rfl (lv_at hl 3 rfl) ?_
    refine g_ro (k_V (q0 := 0) (ci := 6) (n := 1) (As := [.int (nI r)]) (rest := [.int (nI (ebT σ r (mv σ r)))]) (wc := [ob mo 6 [.ref u0, .ref u1, .ref u2, .ref u3, .ref u4, .ref u5, .int (nI sm111), .int (nI ((sa + 1) % 5)), .int (nI le), .int (nI ra), .int (nI fa)], ar G u0 481 nw]) hx hb hml hown hts (c_X6_entries (l := l) (G := G) (mo := mo) (u0 := u0) (u1 := u1) (u2 := u2) (u3 := u3) (u4 := u4) (u5 := u5) (sm := sm111) (sa := ((sa + 1) % 5)) (le := le) (ra := ra) (fa := fa) (σ := σ) (nw := nw) (hR := hR) (hB := hB) (r := r) (hr := by first | assumption | omega))  gX6_slim_X6_entries rfl rfl rfl (by decide +kernel) ⟨Nat.le_of_ble_eq_true rfl, Nat.le_of_ble_eq_true rfl⟩ rfl hK hP hD [0, 1] rfl (by decide)  rfl rfl rfl hl.1 rfl (Nat.le_of_ble_eq_true rfl) dX6_slim_31 ⟨Nat.le_of_ble_eq_true rfl, Nat.le_of_ble_eq_true rfl⟩) (fun r31 h31 => ?_)
    obtain rfl : (nI (cols σ r)) = r31 := Eq.symm h31
    have b31 := cols_lt σ r
    refine r_icmp_eq (P := (ebT σ r (mv σ r)) = (cols σ r)) (tgt := 41) hx hb dX6_slim_34 (by decide) (nI_eq (by omega) (by omega)) (fun cq34 => ?_) (fun cq34 => ?_)
    · refine lv_iconst (v := (bI false)) hx hb dX6_slim_41 (by decide) ?_
      refine lv_istore (lv' := [(4, .int (bI false)), (3, .int (nI (ebT σ r (mv σ r)))), (2, .int (nI (mv σ r))), (0, .ref mo), (1, .int (nI r))]) hx hb dX6_slim_42 hl (by decide) rfl (fun ls hl => ?_)
      refine lv_aload_n hx hb dX6_slim_44 rfl (lv_at hl 3 rfl) ?_
      refine lv_iload_n hx hb dX6_slim_45 rfl (lv_at hl 4 rfl) ?_
      refine lv_iload hx hb dX6_slim_46 (lv_at hl 0 rfl) ?_
      refine g_V (k_V (q0 := 0) (ci := 6) (n := 2) (As := [.int (nI r), .int (bI false)]) (rest := []) (wc := [ob mo 6 [.ref u0, .ref u1, .ref u2, .ref u3, .ref u4, .ref u5, .int (nI sm111), .int (nI ((sa + 1) % 5)), .int (nI le), .int (nI ra), .int (nI fa)], ar G u0 481 nw]) hx hb hml hown hts (c_X6_leavesFor_f (l := l) (G := G) (mo := mo) (u0 := u0) (u1 := u1) (u2 := u2) (u3 := u3) (u4 := u4) (u5 := u5) (sm := sm111) (sa := ((sa + 1) % 5)) (le := le) (ra := ra) (fa := fa) (nw := nw) (r := r))  gX6_slim_X6_leavesFor rfl rfl rfl (by decide +kernel) ⟨Nat.le_of_ble_eq_true rfl, Nat.le_of_ble_eq_true rfl⟩ rfl hK hP hD [0, 1] rfl (by decide)  rfl rfl rfl hl.1 rfl (Nat.le_of_ble_eq_true rfl) dX6_slim_48 ⟨Nat.le_of_ble_eq_true rfl, Nat.le_of_ble_eq_true rfl⟩) hP hD hS [0, 1] rfl (fun H locs hB48 back hS => ?_)
      have hP1 := hB48
      obtain ⟨hP, hD⟩ := back [ob mo 6 [.ref u0, .ref u1, .ref u2, .ref u3, .ref u4, .ref u5, .int (nI sm111), .int (nI ((sa + 1) % 5)), .int (nI le), .int (nI ra), .int (nI fa)], ar G u0 481 nw] rfl hP1
      have hP : va_P G.1 vwCl [ob mo 6 [.ref u0, .ref u1, .ref u2, .ref u3, .ref u4, .ref u5, .int (nI sm111), .int (nI ((sa + 1) % 5)), .int (nI le), .int (nI ra), .int (nI fa)], ar G u0 481 nw, ar G u1 481 bf111, ar G u2 2405 sts111, ar G u3 800 mk, ar G u4 800 vl] H := hP
      have hD : va_D A [ob mo 6 [.ref u0, .ref u1, .ref u2, .ref u3, .ref u4, .ref u5, .int (nI sm111), .int (nI ((sa + 1) % 5)), .int (nI le), .int (nI ra), .int (nI fa)], ar G u0 481 nw, ar G u1 481 bf111, ar G u2 2405 sts111, ar G u3 800 mk, ar G u4 800 vl] := hD
      obtain ⟨σ1, hσ1⟩ : ∃ τ, τ = σ := ⟨_, rfl⟩
      have hR1 : Rel σ1 nw := by rw [hσ1]; exact hR
      have hBq : Bd σ1 := by rw [hσ1]; exact hB
      have hn1 : nn σ1 = nn σ := by rw [hσ1]
      have he1 : ebT σ r (mv σ r) = ebT σ1 r (mv σ r) := by rw [hσ1]
      refine lv_iconst (v := (nI 0)) hx hb dX6_slim_51 (by decide) ?_
      refine lv_istore (lv' := [(5, .int (nI 0)), (4, .int (bI false)), (3, .int (nI (ebT σ r (mv σ r)))), (2, .int (nI (mv σ r))), (0, .ref mo), (1, .int (nI r))]) hx hb dX6_slim_52 hl (by decide) rfl (fun ls hl => ?_)
      have L54 : ∀ (fu : Nat) (c : Nat) (gv : Nat → Int32), 17 - c < fu → c ≤ 16 → Rel σ1 gv → (∀ j, j < c → gv (73 + 16 * r + j) = nI (vv σ1 (r * 16 + j))) → ∀ (H : Heap) (locs : List Loc), va_P G.1 vwCl [ob mo 6 [.ref u0, .ref u1, .ref u2, .ref u3, .ref u4, .ref u5, .int (nI sm111), .int (nI ((sa + 1) % 5)), .int (nI le), .int (nI ra), .int (nI fa)], ar G u0 481 gv, ar G u1 481 bf111, ar G u2 2405 sts111, ar G u3 800 mk, ar G u4 800 vl] H → va_D A [ob mo 6 [.ref u0, .ref u1, .ref u2, .ref u3, .ref u4, .ref u5, .int (nI sm111), .int (nI ((sa + 1) % 5)), .int (nI le), .int (nI ra), .int (nI fa)], ar G u0 481 gv, ar G u1 481 bf111, ar G u2 2405 sts111, ar G u3 800 mk, ar G u4 800 vl] → va_S A s.heap H locs → ∀ (ls : Array Slot), lv_has ls 6 [(0, .ref mo), (1, .int (nI r)), (2, .int (nI (mv σ r))), (3, .int (nI (ebT σ r (mv σ r)))), (4, .int (bI false)), (5, .int (nI c))] → W p l e ({ frames := 4, cells := 0, slots := 0, locals := 91 } : Room) s m args below meth cod H locs 0 0 Q (F0 m 54 ls []) := by
        intro fu
        induction fu with
        | zero => intro c gv hm; exact absurd hm (Nat.not_lt_zero _)
        | succ fu ih54 =>
          intro c gv hm54 hc hg hg2 H locs hP hD hS ls hl
          have hP : va_P G.1 vwCl [ob mo 6 [.ref u0, .ref u1, .ref u2, .ref u3, .ref u4, .ref u5, .int (nI sm111), .int (nI ((sa + 1) % 5)), .int (nI le), .int (nI ra), .int (nI fa)], ar G u0 481 gv, ar G u1 481 bf111, ar G u2 2405 sts111, ar G u3 800 mk, ar G u4 800 vl] H := hP
          have hD : va_D A [ob mo 6 [.ref u0, .ref u1, .ref u2, .ref u3, .ref u4, .ref u5, .int (nI sm111), .int (nI ((sa + 1) % 5)), .int (nI le), .int (nI ra), .int (nI fa)], ar G u0 481 gv, ar G u1 481 bf111, ar G u2 2405 sts111, ar G u3 800 mk, ar G u4 800 vl] := hD
          refine lv_iload hx hb dX6_slim_54 (lv_at hl 5 rfl) ?_
          refine lv_bipush (v := (nI 16)) hx hb dX6_slim_56 (by decide) ?_
          refine r_icmp_ge (P := 16 ≤ c) (tgt := 89) hx hb dX6_slim_58 (by decide) (nI_leI (by omega) (by omega)) (fun cq58 => ?_) (fun cq58 => ?_)
          · refine lv_aload_n hx hb dX6_slim_89 rfl (lv_at hl 0 rfl) ?_
            refine va_get (D := G.1) (ci := 6) (v := .ref u0) (C := RX6) (T := TX6) (N := 11) hx hb hts iqX6_slim_ok_X6 hown hK.1 hP 0 rfl rfl 0 (by decide) (hts (.fieldLink RX6 7 "PushedTablesModel" "now" "[I") (List.mem_of_getElem? (i := 1) rfl)) (fun _ h9 => h9) rfl dX6_slim_90 ?_
            refine lv_bipush (v := (nI 25)) hx hb dX6_slim_93 (by decide) ?_
            refine lv_iload_n hx hb dX6_slim_95 rfl (lv_at hl 1 rfl) ?_
            refine r_iadd (v := 25 + r) hx hb dX6_slim_96 rfl ?_
            refine lv_iload_n hx hb dX6_slim_97 rfl (lv_at hl 3 rfl) ?_
            refine r_iast (e1 := 25 + r) (x := (nI (ebT σ r (mv σ r)))) (g := upd gv (25 + r) (nI (ebT σ r (mv σ r)))) hx hb hK.1 hP hD hS 1 0 rfl rfl (by omega) (by first | decide | assumption) (rfl) dX6_slim_98 (fun H locs hP hD hS => ?_)
            have hP : va_P G.1 vwCl [ob mo 6 [.ref u0, .ref u1, .ref u2, .ref u3, .ref u4, .ref u5, .int (nI sm111), .int (nI ((sa + 1) % 5)), .int (nI le), .int (nI ra), .int (nI fa)], ar G u0 481 (upd gv (25 + r) (nI (ebT σ r (mv σ r)))), ar G u1 481 bf111, ar G u2 2405 sts111, ar G u3 800 mk, ar G u4 800 vl] H := hP
            have hD : va_D A [ob mo 6 [.ref u0, .ref u1, .ref u2, .ref u3, .ref u4, .ref u5, .int (nI sm111), .int (nI ((sa + 1) % 5)), .int (nI le), .int (nI ra), .int (nI fa)], ar G u0 481 (upd gv (25 + r) (nI (ebT σ r (mv σ r)))), ar G u1 481 bf111, ar G u2 2405 sts111, ar G u3 800 mk, ar G u4 800 vl] := hD
            refine lv_aload_n hx hb dX6_slim_99 rfl (lv_at hl 0 rfl) ?_
            refine va_get (D := G.1) (ci := 6) (v := .ref u0) (C := RX6) (T := TX6) (N := 11) hx hb hts iqX6_slim_ok_X6 hown hK.1 hP 0 rfl rfl 0 (by decide) (hts (.fieldLink RX6 7 "PushedTablesModel" "now" "[I") (List.mem_of_getElem? (i := 1) rfl)) (fun _ h9 => h9) rfl dX6_slim_100 ?_
            refine lv_iconst (v := (nI 1)) hx hb dX6_slim_103 (by decide) ?_
            refine lv_iload_n hx hb dX6_slim_104 rfl (lv_at hl 1 rfl) ?_
            refine r_iadd (v := 1 + r) hx hb dX6_slim_105 rfl ?_
            refine lv_iload_n hx hb dX6_slim_106 rfl (lv_at hl 2 rfl) ?_
            refine r_iast (e1 := 1 + r) (x := (nI (mv σ r))) (g := upd (upd gv (25 + r) (nI (ebT σ r (mv σ r)))) (1 + r) (nI (mv σ r))) hx hb hK.1 hP hD hS 1 0 rfl rfl (by omega) (by first | decide | assumption) (rfl) dX6_slim_107 (fun H locs hP hD hS => ?_)
            have hP : va_P G.1 vwCl [ob mo 6 [.ref u0, .ref u1, .ref u2, .ref u3, .ref u4, .ref u5, .int (nI sm111), .int (nI ((sa + 1) % 5)), .int (nI le), .int (nI ra), .int (nI fa)], ar G u0 481 (upd (upd gv (25 + r) (nI (ebT σ r (mv σ r)))) (1 + r) (nI (mv σ r))), ar G u1 481 bf111, ar G u2 2405 sts111, ar G u3 800 mk, ar G u4 800 vl] H := hP
            have hD : va_D A [ob mo 6 [.ref u0, .ref u1, .ref u2, .ref u3, .ref u4, .ref u5, .int (nI sm111), .int (nI ((sa + 1) % 5)), .int (nI le), .int (nI ra), .int (nI fa)], ar G u0 481 (upd (upd gv (25 + r) (nI (ebT σ r (mv σ r)))) (1 + r) (nI (mv σ r))), ar G u1 481 bf111, ar G u2 2405 sts111, ar G u3 800 mk, ar G u4 800 vl] := hD
            obtain rfl : c = 16 := by omega
            have hR3 := Rel_sl hg (by omega) (r := r) (v := mv σ r) (by omega) he1 hg2
            refine lv_aload_n hx hb dX6_slim_108 rfl (lv_at hl 0 rfl) ?_
            refine lv_iload_n hx hb dX6_slim_109 rfl (lv_at hl 1 rfl) ?_
            refine lv_iload hx hb dX6_slim_110 (lv_at hl 4 rfl) ?_
            refine g_V (k_V (q0 := 0) (ci := 6) (n := 2) (As := [.int (nI r), .int (bI false)]) (rest := []) (wc := [ob mo 6 [.ref u0, .ref u1, .ref u2, .ref u3, .ref u4, .ref u5, .int (nI sm111), .int (nI ((sa + 1) % 5)), .int (nI le), .int (nI ra), .int (nI fa)], ar G u0 481 (upd (upd gv (25 + r) (nI (ebT σ r (mv σ r)))) (1 + r) (nI (mv σ r))), ar G u3 800 mk, ar G u4 800 vl]) hx hb hml hown hts (c_X6_formsFor_f (l := l) (G := G) (mo := mo) (u0 := u0) (u1 := u1) (u2 := u2) (u3 := u3) (u4 := u4) (u5 := u5) (sm := sm111) (sa := ((sa + 1) % 5)) (le := le) (ra := ra) (fa := fa) (nw := upd (upd gv (25 + r) (nI (ebT σ r (mv σ r)))) (1 + r) (nI (mv σ r))) (r := r) (mk := mk) (vl := vl))  gX6_slim_X6_formsFor rfl rfl rfl (by decide +kernel) ⟨Nat.le_of_ble_eq_true rfl, Nat.le_of_ble_eq_true rfl⟩ rfl hK hP hD [0, 1, 4, 5] rfl (by decide)  rfl rfl rfl hl.1 rfl (Nat.le_of_ble_eq_true rfl) dX6_slim_112 ⟨Nat.le_of_ble_eq_true rfl, Nat.le_of_ble_eq_true rfl⟩) hP hD hS [0, 1, 4, 5] rfl (fun H locs hB112 back hS => ?_)
            have hP1 := hB112
            obtain ⟨hP, hD⟩ := back [ob mo 6 [.ref u0, .ref u1, .ref u2, .ref u3, .ref u4, .ref u5, .int (nI sm111), .int (nI ((sa + 1) % 5)), .int (nI le), .int (nI ra), .int (nI fa)], ar G u0 481 (upd (upd gv (25 + r) (nI (ebT σ r (mv σ r)))) (1 + r) (nI (mv σ r))), ar G u3 800 mk, ar G u4 800 vl] rfl hP1
            have hP : va_P G.1 vwCl [ob mo 6 [.ref u0, .ref u1, .ref u2, .ref u3, .ref u4, .ref u5, .int (nI sm111), .int (nI ((sa + 1) % 5)), .int (nI le), .int (nI ra), .int (nI fa)], ar G u0 481 (upd (upd gv (25 + r) (nI (ebT σ r (mv σ r)))) (1 + r) (nI (mv σ r))), ar G u1 481 bf111, ar G u2 2405 sts111, ar G u3 800 mk, ar G u4 800 vl] H := hP
            have hD : va_D A [ob mo 6 [.ref u0, .ref u1, .ref u2, .ref u3, .ref u4, .ref u5, .int (nI sm111), .int (nI ((sa + 1) % 5)), .int (nI le), .int (nI ra), .int (nI fa)], ar G u0 481 (upd (upd gv (25 + r) (nI (ebT σ r (mv σ r)))) (1 + r) (nI (mv σ r))), ar G u1 481 bf111, ar G u2 2405 sts111, ar G u3 800 mk, ar G u4 800 vl] := hD
            refine lv_iload_n hx hb dX6_slim_115 rfl (lv_at hl 2 rfl) ?_
            exact hret _ _ _ _ _ hS dX6_slim_116 (⟨(upd (upd gv (25 + r) (nI (ebT σ r (mv σ r)))) (1 + r) (nI (mv σ r))), bf111, sts111, sm111, mk, vl, rfl, hqs11, hqt11, by unfold rslT; rw [if_pos cq34]; rw [hσ1] at hR3; exact hR3, hP⟩)
          · refine lv_aload_n hx hb dX6_slim_61 rfl (lv_at hl 0 rfl) ?_
            refine va_get (D := G.1) (ci := 6) (v := .ref u0) (C := RX6) (T := TX6) (N := 11) hx hb hts iqX6_slim_ok_X6 hown hK.1 hP 0 rfl rfl 0 (by decide) (hts (.fieldLink RX6 7 "PushedTablesModel" "now" "[I") (List.mem_of_getElem? (i := 1) rfl)) (fun _ h9 => h9) rfl dX6_slim_62 ?_
            refine lv_bipush (v := (nI 73)) hx hb dX6_slim_65 (by decide) ?_
            refine lv_bipush (v := (nI 16)) hx hb dX6_slim_67 (by decide) ?_
            refine lv_iload_n hx hb dX6_slim_69 rfl (lv_at hl 1 rfl) ?_
            refine r_imul (v := 16 * r) hx hb dX6_slim_70 rfl ?_
            refine r_iadd (v := 73 + (16 * r)) hx hb dX6_slim_71 rfl ?_
            refine lv_iload hx hb dX6_slim_72 (lv_at hl 5 rfl) ?_
            refine r_iadd (v := (73 + (16 * r)) + c) hx hb dX6_slim_74 rfl ?_
            refine lv_aload_n hx hb dX6_slim_75 rfl (lv_at hl 0 rfl) ?_
            refine lv_iload_n hx hb dX6_slim_76 rfl (lv_at hl 1 rfl) ?_
            refine lv_iload hx hb dX6_slim_77 (lv_at hl 5 rfl) ?_
            have hn1b := hBq.n
            refine g_ro (k_V (q0 := 0) (ci := 6) (n := 2) (As := [.int (nI r), .int (nI c)]) (rest := [.int (nI ((73 + (16 * r)) + c)), .ref u0]) (wc := [ob mo 6 [.ref u0, .ref u1, .ref u2, .ref u3, .ref u4, .ref u5, .int (nI sm111), .int (nI ((sa + 1) % 5)), .int (nI le), .int (nI ra), .int (nI fa)], ar G u0 481 gv]) hx hb hml hown hts (c_X6_valueOf (l := l) (G := G) (mo := mo) (u0 := u0) (u1 := u1) (u2 := u2) (u3 := u3) (u4 := u4) (u5 := u5) (sm := sm111) (sa := ((sa + 1) % 5)) (le := le) (ra := ra) (fa := fa) (σ := σ1) (nw := gv) (hR := hg) (hB := hBq) (r := r) (c := c) (hr := by first | assumption | omega) (hc := by first | assumption | omega))  gX6_slim_X6_valueOf rfl rfl rfl (by decide +kernel) ⟨Nat.le_of_ble_eq_true rfl, Nat.le_of_ble_eq_true rfl⟩ rfl hK hP hD [0, 1] rfl (by decide)  rfl rfl rfl hl.1 rfl (Nat.le_of_ble_eq_true rfl) dX6_slim_79 ⟨Nat.le_of_ble_eq_true rfl, Nat.le_of_ble_eq_true rfl⟩) (fun r79 h79 => ?_)
            obtain rfl : (nI (vv σ1 (r * 16 + c))) = r79 := Eq.symm h79
            have b79 := (by assumption : Bd σ1).v (r * 16 + c)
            refine r_iast (e1 := (73 + (16 * r)) + c) (x := (nI (vv σ1 (r * 16 + c)))) (g := upd gv ((73 + (16 * r)) + c) (nI (vv σ1 (r * 16 + c)))) hx hb hK.1 hP hD hS 1 0 rfl rfl (by omega) (by first | decide | assumption) (rfl) dX6_slim_82 (fun H locs hP hD hS => ?_)
            have hP : va_P G.1 vwCl [ob mo 6 [.ref u0, .ref u1, .ref u2, .ref u3, .ref u4, .ref u5, .int (nI sm111), .int (nI ((sa + 1) % 5)), .int (nI le), .int (nI ra), .int (nI fa)], ar G u0 481 (upd gv ((73 + (16 * r)) + c) (nI (vv σ1 (r * 16 + c)))), ar G u1 481 bf111, ar G u2 2405 sts111, ar G u3 800 mk, ar G u4 800 vl] H := hP
            have hD : va_D A [ob mo 6 [.ref u0, .ref u1, .ref u2, .ref u3, .ref u4, .ref u5, .int (nI sm111), .int (nI ((sa + 1) % 5)), .int (nI le), .int (nI ra), .int (nI fa)], ar G u0 481 (upd gv ((73 + (16 * r)) + c) (nI (vv σ1 (r * 16 + c)))), ar G u1 481 bf111, ar G u2 2405 sts111, ar G u3 800 mk, ar G u4 800 vl] := hD
            refine r_iinc (v := c + 1) (lv' := [(5, .int (nI (c + 1))), (0, .ref mo), (1, .int (nI r)), (2, .int (nI (mv σ r))), (3, .int (nI (ebT σ r (mv σ r)))), (4, .int (bI false))]) hx hb dX6_slim_83 hl (k := 5) rfl (nI_1 _) (by decide) rfl (fun ls hl => ?_)
            refine lv_goto (tgt := 54) hx hb dX6_slim_86 (by decide) ?_
            exact ih54 (c + 1) (upd gv ((73 + (16 * r)) + c) (nI (vv σ1 (r * 16 + c)))) (by omega) (by omega) (Rel_vv hg (by omega) (by omega) (by omega)) (fun j hj => up_vs hg2 hj) _ _ hP hD hS ls (lv_sub hl [1, 2, 3, 4, 5, 0] rfl)
      exact L54 ((17 - 0) + 1) 0 nw (Nat.lt_succ_self _) (by omega) (hR1) (fun j hj => absurd hj (Nat.not_lt_zero j)) _ _ hP hD hS ls (lv_sub hl [4, 5, 3, 2, 1, 0] rfl)
    · refine lv_iconst (v := (bI true)) hx hb dX6_slim_37 (by decide) ?_
      refine lv_goto (tgt := 42) hx hb dX6_slim_38 (by decide) ?_
      refine lv_istore (lv' := [(4, .int (bI true)), (3, .int (nI (ebT σ r (mv σ r)))), (2, .int (nI (mv σ r))), (0, .ref mo), (1, .int (nI r))]) hx hb dX6_slim_42 hl (by decide) rfl (fun ls hl => ?_)
      refine lv_aload_n hx hb dX6_slim_44 rfl (lv_at hl 3 rfl) ?_
      refine lv_iload_n hx hb dX6_slim_45 rfl (lv_at hl 4 rfl) ?_
      refine lv_iload hx hb dX6_slim_46 (lv_at hl 0 rfl) ?_
      refine g_V (k_V (q0 := 0) (ci := 6) (n := 2) (As := [.int (nI r), .int (bI true)]) (rest := []) (wc := [ob mo 6 [.ref u0, .ref u1, .ref u2, .ref u3, .ref u4, .ref u5, .int (nI sm111), .int (nI ((sa + 1) % 5)), .int (nI le), .int (nI ra), .int (nI fa)], ar G u0 481 nw]) hx hb hml hown hts (c_X6_leavesFor_t (l := l) (G := G) (mo := mo) (u0 := u0) (u1 := u1) (u2 := u2) (u3 := u3) (u4 := u4) (u5 := u5) (sm := sm111) (sa := ((sa + 1) % 5)) (le := le) (ra := ra) (fa := fa) (σ := σ) (nw := nw) (hR := hR) (hB := hB) (r := r) (hr := by first | assumption | omega))  gX6_slim_X6_leavesFor rfl rfl rfl (by decide +kernel) ⟨Nat.le_of_ble_eq_true rfl, Nat.le_of_ble_eq_true rfl⟩ rfl hK hP hD [0, 1] rfl (by decide)  rfl rfl rfl hl.1 rfl (Nat.le_of_ble_eq_true rfl) dX6_slim_48 ⟨Nat.le_of_ble_eq_true rfl, Nat.le_of_ble_eq_true rfl⟩) hP hD hS [0, 1] rfl (fun H locs hB48 back hS => ?_)
      obtain ⟨nw148, hq48, hP1⟩ := hB48
      obtain ⟨hP, hD⟩ := back [ob mo 6 [.ref u0, .ref u1, .ref u2, .ref u3, .ref u4, .ref u5, .int (nI sm111), .int (nI ((sa + 1) % 5)), .int (nI le), .int (nI ra), .int (nI fa)], ar G u0 481 nw148] rfl hP1
      have hP : va_P G.1 vwCl [ob mo 6 [.ref u0, .ref u1, .ref u2, .ref u3, .ref u4, .ref u5, .int (nI sm111), .int (nI ((sa + 1) % 5)), .int (nI le), .int (nI ra), .int (nI fa)], ar G u0 481 nw148, ar G u1 481 bf111, ar G u2 2405 sts111, ar G u3 800 mk, ar G u4 800 vl] H := hP
      have hD : va_D A [ob mo 6 [.ref u0, .ref u1, .ref u2, .ref u3, .ref u4, .ref u5, .int (nI sm111), .int (nI ((sa + 1) % 5)), .int (nI le), .int (nI ra), .int (nI fa)], ar G u0 481 nw148, ar G u1 481 bf111, ar G u2 2405 sts111, ar G u3 800 mk, ar G u4 800 vl] := hD
      obtain ⟨σ1, hσ1⟩ : ∃ τ, τ = lfT σ r := ⟨_, rfl⟩
      have hR1 : Rel σ1 nw148 := by rw [hσ1]; exact hq48
      have hBq : Bd σ1 := by rw [hσ1]; exact Bd_lfT hB r
      have hn1 : nn σ1 = nn σ := by rw [hσ1]; exact nn_lfT σ r
      have he1 : ebT σ r (mv σ r) = ebT σ1 r (mv σ r) := by rw [hσ1]; exact (ebT_lfT σ r _ r).symm
      refine lv_iconst (v := (nI 0)) hx hb dX6_slim_51 (by decide) ?_
      refine lv_istore (lv' := [(5, .int (nI 0)), (4, .int (bI true)), (3, .int (nI (ebT σ r (mv σ r)))), (2, .int (nI (mv σ r))), (0, .ref mo), (1, .int (nI r))]) hx hb dX6_slim_52 hl (by decide) rfl (fun ls hl => ?_)
      have L54 : ∀ (fu : Nat) (c : Nat) (gv : Nat → Int32), 17 - c < fu → c ≤ 16 → Rel σ1 gv → (∀ j, j < c → gv (73 + 16 * r + j) = nI (vv σ1 (r * 16 + j))) → ∀ (H : Heap) (locs : List Loc), va_P G.1 vwCl [ob mo 6 [.ref u0, .ref u1, .ref u2, .ref u3, .ref u4, .ref u5, .int (nI sm111), .int (nI ((sa + 1) % 5)), .int (nI le), .int (nI ra), .int (nI fa)], ar G u0 481 gv, ar G u1 481 bf111, ar G u2 2405 sts111, ar G u3 800 mk, ar G u4 800 vl] H → va_D A [ob mo 6 [.ref u0, .ref u1, .ref u2, .ref u3, .ref u4, .ref u5, .int (nI sm111), .int (nI ((sa + 1) % 5)), .int (nI le), .int (nI ra), .int (nI fa)], ar G u0 481 gv, ar G u1 481 bf111, ar G u2 2405 sts111, ar G u3 800 mk, ar G u4 800 vl] → va_S A s.heap H locs → ∀ (ls : Array Slot), lv_has ls 6 [(0, .ref mo), (1, .int (nI r)), (2, .int (nI (mv σ r))), (3, .int (nI (ebT σ r (mv σ r)))), (4, .int (bI true)), (5, .int (nI c))] → W p l e ({ frames := 4, cells := 0, slots := 0, locals := 91 } : Room) s m args below meth cod H locs 0 0 Q (F0 m 54 ls []) := by
        intro fu
        induction fu with
        | zero => intro c gv hm; exact absurd hm (Nat.not_lt_zero _)
        | succ fu ih54 =>
          intro c gv hm54 hc hg hg2 H locs hP hD hS ls hl
          have hP : va_P G.1 vwCl [ob mo 6 [.ref u0, .ref u1, .ref u2, .ref u3, .ref u4, .ref u5, .int (nI sm111), .int (nI ((sa + 1) % 5)), .int (nI le), .int (nI ra), .int (nI fa)], ar G u0 481 gv, ar G u1 481 bf111, ar G u2 2405 sts111, ar G u3 800 mk, ar G u4 800 vl] H := hP
          have hD : va_D A [ob mo 6 [.ref u0, .ref u1, .ref u2, .ref u3, .ref u4, .ref u5, .int (nI sm111), .int (nI ((sa + 1) % 5)), .int (nI le), .int (nI ra), .int (nI fa)], ar G u0 481 gv, ar G u1 481 bf111, ar G u2 2405 sts111, ar G u3 800 mk, ar G u4 800 vl] := hD
          refine lv_iload hx hb dX6_slim_54 (lv_at hl 5 rfl) ?_
          refine lv_bipush (v := (nI 16)) hx hb dX6_slim_56 (by decide) ?_
          refine r_icmp_ge (P := 16 ≤ c) (tgt := 89) hx hb dX6_slim_58 (by decide) (nI_leI (by omega) (by omega)) (fun cq58 => ?_) (fun cq58 => ?_)
          · refine lv_aload_n hx hb dX6_slim_89 rfl (lv_at hl 0 rfl) ?_
            refine va_get (D := G.1) (ci := 6) (v := .ref u0) (C := RX6) (T := TX6) (N := 11) hx hb hts iqX6_slim_ok_X6 hown hK.1 hP 0 rfl rfl 0 (by decide) (hts (.fieldLink RX6 7 "PushedTablesModel" "now" "[I") (List.mem_of_getElem? (i := 1) rfl)) (fun _ h9 => h9) rfl dX6_slim_90 ?_
            refine lv_bipush (v := (nI 25)) hx hb dX6_slim_93 (by decide) ?_
            refine lv_iload_n hx hb dX6_slim_95 rfl (lv_at hl 1 rfl) ?_
            refine r_iadd (v := 25 + r) hx hb dX6_slim_96 rfl ?_
            refine lv_iload_n hx hb dX6_slim_97 rfl (lv_at hl 3 rfl) ?_
            refine r_iast (e1 := 25 + r) (x := (nI (ebT σ r (mv σ r)))) (g := upd gv (25 + r) (nI (ebT σ r (mv σ r)))) hx hb hK.1 hP hD hS 1 0 rfl rfl (by omega) (by first | decide | assumption) (rfl) dX6_slim_98 (fun H locs hP hD hS => ?_)
            have hP : va_P G.1 vwCl [ob mo 6 [.ref u0, .ref u1, .ref u2, .ref u3, .ref u4, .ref u5, .int (nI sm111), .int (nI ((sa + 1) % 5)), .int (nI le), .int (nI ra), .int (nI fa)], ar G u0 481 (upd gv (25 + r) (nI (ebT σ r (mv σ r)))), ar G u1 481 bf111, ar G u2 2405 sts111, ar G u3 800 mk, ar G u4 800 vl] H := hP
            have hD : va_D A [ob mo 6 [.ref u0, .ref u1, .ref u2, .ref u3, .ref u4, .ref u5, .int (nI sm111), .int (nI ((sa + 1) % 5)), .int (nI le), .int (nI ra), .int (nI fa)], ar G u0 481 (upd gv (25 + r) (nI (ebT σ r (mv σ r)))), ar G u1 481 bf111, ar G u2 2405 sts111, ar G u3 800 mk, ar G u4 800 vl] := hD
            refine lv_aload_n hx hb dX6_slim_99 rfl (lv_at hl 0 rfl) ?_
            refine va_get (D := G.1) (ci := 6) (v := .ref u0) (C := RX6) (T := TX6) (N := 11) hx hb hts iqX6_slim_ok_X6 hown hK.1 hP 0 rfl rfl 0 (by decide) (hts (.fieldLink RX6 7 "PushedTablesModel" "now" "[I") (List.mem_of_getElem? (i := 1) rfl)) (fun _ h9 => h9) rfl dX6_slim_100 ?_
            refine lv_iconst (v := (nI 1)) hx hb dX6_slim_103 (by decide) ?_
            refine lv_iload_n hx hb dX6_slim_104 rfl (lv_at hl 1 rfl) ?_
            refine r_iadd (v := 1 + r) hx hb dX6_slim_105 rfl ?_
            refine lv_iload_n hx hb dX6_slim_106 rfl (lv_at hl 2 rfl) ?_
            refine r_iast (e1 := 1 + r) (x := (nI (mv σ r))) (g := upd (upd gv (25 + r) (nI (ebT σ r (mv σ r)))) (1 + r) (nI (mv σ r))) hx hb hK.1 hP hD hS 1 0 rfl rfl (by omega) (by first | decide | assumption) (rfl) dX6_slim_107 (fun H locs hP hD hS => ?_)
            have hP : va_P G.1 vwCl [ob mo 6 [.ref u0, .ref u1, .ref u2, .ref u3, .ref u4, .ref u5, .int (nI sm111), .int (nI ((sa + 1) % 5)), .int (nI le), .int (nI ra), .int (nI fa)], ar G u0 481 (upd (upd gv (25 + r) (nI (ebT σ r (mv σ r)))) (1 + r) (nI (mv σ r))), ar G u1 481 bf111, ar G u2 2405 sts111, ar G u3 800 mk, ar G u4 800 vl] H := hP
            have hD : va_D A [ob mo 6 [.ref u0, .ref u1, .ref u2, .ref u3, .ref u4, .ref u5, .int (nI sm111), .int (nI ((sa + 1) % 5)), .int (nI le), .int (nI ra), .int (nI fa)], ar G u0 481 (upd (upd gv (25 + r) (nI (ebT σ r (mv σ r)))) (1 + r) (nI (mv σ r))), ar G u1 481 bf111, ar G u2 2405 sts111, ar G u3 800 mk, ar G u4 800 vl] := hD
            obtain rfl : c = 16 := by omega
            have hR3 := Rel_sl hg (by omega) (r := r) (v := mv σ r) (by omega) he1 hg2
            refine lv_aload_n hx hb dX6_slim_108 rfl (lv_at hl 0 rfl) ?_
            refine lv_iload_n hx hb dX6_slim_109 rfl (lv_at hl 1 rfl) ?_
            refine lv_iload hx hb dX6_slim_110 (lv_at hl 4 rfl) ?_
            refine g_V (k_V (q0 := 0) (ci := 6) (n := 2) (As := [.int (nI r), .int (bI true)]) (rest := []) (wc := [ob mo 6 [.ref u0, .ref u1, .ref u2, .ref u3, .ref u4, .ref u5, .int (nI sm111), .int (nI ((sa + 1) % 5)), .int (nI le), .int (nI ra), .int (nI fa)], ar G u0 481 (upd (upd gv (25 + r) (nI (ebT σ r (mv σ r)))) (1 + r) (nI (mv σ r))), ar G u3 800 mk, ar G u4 800 vl]) hx hb hml hown hts (c_X6_formsFor_t (l := l) (G := G) (mo := mo) (u0 := u0) (u1 := u1) (u2 := u2) (u3 := u3) (u4 := u4) (u5 := u5) (sm := sm111) (sa := ((sa + 1) % 5)) (le := le) (ra := ra) (fa := fa) (σ := (slS σ1 r (mv σ r))) (nw := upd (upd gv (25 + r) (nI (ebT σ r (mv σ r)))) (1 + r) (nI (mv σ r))) (hR := hR3) (hB := (Bd_sl hBq hmvl)) (r := r) (hr := (show r < nn σ1 by omega)) (hF := (by rw [hσ1]; exact hF cq34)) (mk := mk) (vl := vl))  gX6_slim_X6_formsFor rfl rfl rfl (by decide +kernel) ⟨Nat.le_of_ble_eq_true rfl, Nat.le_of_ble_eq_true rfl⟩ rfl hK hP hD [0, 1, 4, 5] rfl (by decide)  rfl rfl rfl hl.1 rfl (Nat.le_of_ble_eq_true rfl) dX6_slim_112 ⟨Nat.le_of_ble_eq_true rfl, Nat.le_of_ble_eq_true rfl⟩) hP hD hS [0, 1, 4, 5] rfl (fun H locs hB112 back hS => ?_)
            obtain ⟨nw1112, mk1112, vl1112, hq112, hP1⟩ := hB112
            obtain ⟨hP, hD⟩ := back [ob mo 6 [.ref u0, .ref u1, .ref u2, .ref u3, .ref u4, .ref u5, .int (nI sm111), .int (nI ((sa + 1) % 5)), .int (nI le), .int (nI ra), .int (nI fa)], ar G u0 481 nw1112, ar G u3 800 mk1112, ar G u4 800 vl1112] rfl hP1
            have hP : va_P G.1 vwCl [ob mo 6 [.ref u0, .ref u1, .ref u2, .ref u3, .ref u4, .ref u5, .int (nI sm111), .int (nI ((sa + 1) % 5)), .int (nI le), .int (nI ra), .int (nI fa)], ar G u0 481 nw1112, ar G u1 481 bf111, ar G u2 2405 sts111, ar G u3 800 mk1112, ar G u4 800 vl1112] H := hP
            have hD : va_D A [ob mo 6 [.ref u0, .ref u1, .ref u2, .ref u3, .ref u4, .ref u5, .int (nI sm111), .int (nI ((sa + 1) % 5)), .int (nI le), .int (nI ra), .int (nI fa)], ar G u0 481 nw1112, ar G u1 481 bf111, ar G u2 2405 sts111, ar G u3 800 mk1112, ar G u4 800 vl1112] := hD
            refine lv_iload_n hx hb dX6_slim_115 rfl (lv_at hl 2 rfl) ?_
            exact hret _ _ _ _ _ hS dX6_slim_116 (⟨nw1112, bf111, sts111, sm111, mk1112, vl1112, rfl, hqs11, hqt11, by unfold rslT; rw [if_neg cq34, ← hσ1]; exact hq112, hP⟩)
          · refine lv_aload_n hx hb dX6_slim_61 rfl (lv_at hl 0 rfl) ?_
            refine va_get (D := G.1) (ci := 6) (v := .ref u0) (C := RX6) (T := TX6) (N := 11) hx hb hts iqX6_slim_ok_X6 hown hK.1 hP 0 rfl rfl 0 (by decide) (hts (.fieldLink RX6 7 "PushedTablesModel" "now" "[I") (List.mem_of_getElem? (i := 1) rfl)) (fun _ h9 => h9) rfl dX6_slim_62 ?_
            refine lv_bipush (v := (nI 73)) hx hb dX6_slim_65 (by decide) ?_
            refine lv_bipush (v := (nI 16)) hx hb dX6_slim_67 (by decide) ?_
            refine lv_iload_n hx hb dX6_slim_69 rfl (lv_at hl 1 rfl) ?_
            refine r_imul (v := 16 * r) hx hb dX6_slim_70 rfl ?_
            refine r_iadd (v := 73 + (16 * r)) hx hb dX6_slim_71 rfl ?_
            refine lv_iload hx hb dX6_slim_72 (lv_at hl 5 rfl) ?_
            refine r_iadd (v := (73 + (16 * r)) + c) hx hb dX6_slim_74 rfl ?_
            refine lv_aload_n hx hb dX6_slim_75 rfl (lv_at hl 0 rfl) ?_
            refine lv_iload_n hx hb dX6_slim_76 rfl (lv_at hl 1 rfl) ?_
            refine lv_iload hx hb dX6_slim_77 (lv_at hl 5 rfl) ?_
            have hn1b := hBq.n
            refine g_ro (k_V (q0 := 0) (ci := 6) (n := 2) (As := [.int (nI r), .int (nI c)]) (rest := [.int (nI ((73 + (16 * r)) + c)), .ref u0]) (wc := [ob mo 6 [.ref u0, .ref u1, .ref u2, .ref u3, .ref u4, .ref u5, .int (nI sm111), .int (nI ((sa + 1) % 5)), .int (nI le), .int (nI ra), .int (nI fa)], ar G u0 481 gv]) hx hb hml hown hts (c_X6_valueOf (l := l) (G := G) (mo := mo) (u0 := u0) (u1 := u1) (u2 := u2) (u3 := u3) (u4 := u4) (u5 := u5) (sm := sm111) (sa := ((sa + 1) % 5)) (le := le) (ra := ra) (fa := fa) (σ := σ1) (nw := gv) (hR := hg) (hB := hBq) (r := r) (c := c) (hr := by first | assumption | omega) (hc := by first | assumption | omega))  gX6_slim_X6_valueOf rfl rfl rfl (by decide +kernel) ⟨Nat.le_of_ble_eq_true rfl, Nat.le_of_ble_eq_true rfl⟩ rfl hK hP hD [0, 1] rfl (by decide)  rfl rfl rfl hl.1 rfl (Nat.le_of_ble_eq_true rfl) dX6_slim_79 ⟨Nat.le_of_ble_eq_true rfl, Nat.le_of_ble_eq_true rfl⟩) (fun r79 h79 => ?_)
            obtain rfl : (nI (vv σ1 (r * 16 + c))) = r79 := Eq.symm h79
            have b79 := (by assumption : Bd σ1).v (r * 16 + c)
            refine r_iast (e1 := (73 + (16 * r)) + c) (x := (nI (vv σ1 (r * 16 + c)))) (g := upd gv ((73 + (16 * r)) + c) (nI (vv σ1 (r * 16 + c)))) hx hb hK.1 hP hD hS 1 0 rfl rfl (by omega) (by first | decide | assumption) (rfl) dX6_slim_82 (fun H locs hP hD hS => ?_)
            have hP : va_P G.1 vwCl [ob mo 6 [.ref u0, .ref u1, .ref u2, .ref u3, .ref u4, .ref u5, .int (nI sm111), .int (nI ((sa + 1) % 5)), .int (nI le), .int (nI ra), .int (nI fa)], ar G u0 481 (upd gv ((73 + (16 * r)) + c) (nI (vv σ1 (r * 16 + c)))), ar G u1 481 bf111, ar G u2 2405 sts111, ar G u3 800 mk, ar G u4 800 vl] H := hP
            have hD : va_D A [ob mo 6 [.ref u0, .ref u1, .ref u2, .ref u3, .ref u4, .ref u5, .int (nI sm111), .int (nI ((sa + 1) % 5)), .int (nI le), .int (nI ra), .int (nI fa)], ar G u0 481 (upd gv ((73 + (16 * r)) + c) (nI (vv σ1 (r * 16 + c)))), ar G u1 481 bf111, ar G u2 2405 sts111, ar G u3 800 mk, ar G u4 800 vl] := hD
            refine r_iinc (v := c + 1) (lv' := [(5, .int (nI (c + 1))), (0, .ref mo), (1, .int (nI r)), (2, .int (nI (mv σ r))), (3, .int (nI (ebT σ r (mv σ r)))), (4, .int (bI true))]) hx hb dX6_slim_83 hl (k := 5) rfl (nI_1 _) (by decide) rfl (fun ls hl => ?_)
            refine lv_goto (tgt := 54) hx hb dX6_slim_86 (by decide) ?_
            exact ih54 (c + 1) (upd gv ((73 + (16 * r)) + c) (nI (vv σ1 (r * 16 + c)))) (by omega) (by omega) (Rel_vv hg (by omega) (by omega) (by omega)) (fun j hj => up_vs hg2 hj) _ _ hP hD hS ls (lv_sub hl [1, 2, 3, 4, 5, 0] rfl)
      exact L54 ((17 - 0) + 1) 0 nw148 (Nat.lt_succ_self _) (by omega) (hR1) (fun j hj => absurd hj (Nat.not_lt_zero j)) _ _ hP hD hS ls (lv_sub hl [4, 5, 3, 2, 1, 0] rfl)
  · exact (no_f (inr_rw (by omega) (by omega)) cq5).elim
