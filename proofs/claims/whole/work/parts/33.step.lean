/-! each action: the class's new state is the reference's, and what holds goes on holding -/
theorem dd_fmT (σ : Sg) (r : Nat) : dd (fmT σ r) = dd σ := by
  unfold fmT; split
  · rfl
  · split <;> rfl
theorem vv_fmT (σ : Sg) (r : Nat) : vv (fmT σ r) = vv σ := by
  unfold fmT; split
  · rfl
  · split <;> rfl
theorem ent_dv {σ τ : Sg} (h1 : dd τ = dd σ) (h2 : vv τ = vv σ) (r c : Nat) : ent τ r c = ent σ r c := by
  show decide (vv τ (r * 16 + c) ≠ dd τ r) = decide (vv σ (r * 16 + c) ≠ dd σ r)
  rw [h1, h2]
theorem cols_dv {σ τ : Sg} (h1 : dd τ = dd σ) (h2 : vv τ = vv σ) (r : Nat) : cols τ r = cols σ r := cols_cong (fun c _ => ent_dv h1 h2 r c)
theorem wt_dv {σ τ : Sg} (h1 : dd τ = dd σ) (h2 : vv τ = vv σ) (r : Nat) : wt τ r = wt σ r := by rw [← pop_cols, ← pop_cols, cols_dv h1 h2]
theorem cols_fmT (σ : Sg) (r q : Nat) : cols (fmT σ r) q = cols σ q := cols_dv (dd_fmT σ r) (vv_fmT σ r) q
theorem lv_chg {σ τ : Sg} {cv cm : Nat → Nat} {r : Nat} (h : Chg σ τ r) : (lvT τ cv cm r).2 = (lvT σ cv cm r).2 ∧ Chg (lvT σ cv cm r).1 (lvT τ cv cm r).1 r := by
  obtain ⟨n, d, v, f, s⟩ := σ
  obtain ⟨n', d', v', f', s'⟩ := τ
  obtain ⟨h1, h2, h3, h4⟩ := h
  have h1 : n' = n := h1
  have h2 : f' = f := h2
  have h3 : s' = s := h3
  subst h1 h2 h3
  by_cases c : shf (n', d, v, f', s') (f' r) ≠ 1000 ∧ shr (setF (n', d, v, f', s') r 1000) (f' r) = 0
  · have e1 : lvT (n', d, v, f', s') cv cm r = _ := if_pos c
    have e2 : lvT (n', d', v', f', s') cv cm r = _ := if_pos c
    rw [e1, e2]
    exact ⟨rfl, rfl, rfl, rfl, h4⟩
  · have e1 : lvT (n', d, v, f', s') cv cm r = _ := if_neg c
    have e2 : lvT (n', d', v', f', s') cv cm r = _ := if_neg c
    rw [e1, e2]
    exact ⟨rfl, rfl, rfl, rfl, h4⟩
theorem J_same {σ τ : Sg} {cv cm : Nat → Nat} (hB : Bd σ) (J : J0 σ cv cm) (h1 : nn τ = nn σ) (h2 : ff τ = ff σ) (h3 : ss τ = ss σ) (h : ∀ q, q < nn σ → ∀ c, c < 16 → ent τ q c = ent σ q c ∧ (ent σ q c = true → vv τ (q * 16 + c) = vv σ (q * 16 + c))) : J0 τ cv cm := by
  refine ⟨fun q hq hf => ?_, fun k hk hm => ?_, J.2.2.1, fun f hf hs => ?_, fun q hq hf => ?_⟩
  · rw [h1] at hq
    rw [h2] at hf ⊢
    obtain ⟨a, b⟩ := J_ss hB J hq hf
    refine (hE_iff (f24 hB hf)).mpr ?_
    rw [h3]
    refine ⟨by omega, fun c hc => ?_⟩
    obtain ⟨b1, b2⟩ := b c hc
    obtain ⟨e1, e2⟩ := h q hq c hc
    rw [e1]
    exact ⟨b1, fun hm => (b2 hm).trans (e2 (b1.mp hm)).symm⟩
  · obtain ⟨q, c, q1, q2, q3, q4, q5⟩ := J.2.1 k hk hm
    exact ⟨q, c, by rw [h1]; exact q1, q2, by rw [h2]; exact q3, by rw [(h q q1 c q2).1]; exact q4, by rw [h2, h3]; exact q5⟩
  · rw [h3] at hs
    obtain ⟨q, q1, q2⟩ := J.2.2.2.1 f hf hs
    exact ⟨q, by rw [h1]; exact q1, by rw [h2]; exact q2⟩
  · rw [h1] at hq
    rw [h2] at hf
    rw [cols_cong (fun c hc => (h q hq c hc).1)]
    exact J.2.2.2.2 q hq hf
def Sam (σ τ : Sg) (r : Nat) : Prop := ∀ c, c < 16 → ent τ r c = ent σ r c ∧ (ent σ r c = true → vv τ (r * 16 + c) = vv σ (r * 16 + c))
theorem Sam.all {σ τ : Sg} {r : Nat} (h : Chg σ τ r) (S : Sam σ τ r) : ∀ q, q < nn σ → ∀ c, c < 16 → ent τ q c = ent σ q c ∧ (ent σ q c = true → vv τ (q * 16 + c) = vv σ (q * 16 + c)) := fun q hq c hc => by
  by_cases e : q = r
  · rw [e]; exact S c hc
  · exact ⟨h.ent hq e hc, fun _ => (h.2.2.2 q hq e).2 c hc⟩
theorem settle_s {σ τ : Sg} {cv cm : Nat → Nat} {r : Nat} (hB : Bd σ) (J : J0 σ cv cm) (F : Full σ) (hr : r < nn σ) (h : Chg σ τ r) (S : Sam σ τ r) : stT τ cv cm r = (τ, cv, cm) ∧ J0 τ cv cm ∧ Full τ := by
  have hall := Sam.all h S
  refine ⟨?_, J_same hB J h.1 h.2.1 h.2.2.1 hall, fun q hq hf => ?_⟩
  · by_cases q : ff σ r = 1000
    · have ht : ff τ r = 1000 := by rw [h.2.1]; exact q
      have hc : cols τ r = 0 := by rw [cols_cong (fun c hc => (S c hc).1)]; exact F r hr q
      rw [st_nw (hE_no (by rw [ht]; exact shf_no τ)), lv_id ht]
      exact if_pos hc
    · obtain ⟨a, b⟩ := J_ss hB J hr q
      refine stT_1 ?_
      rw [h.2.1]
      refine (hE_iff (f24 hB q)).mpr ?_
      rw [h.2.2.1]
      refine ⟨by omega, fun c hc => ?_⟩
      obtain ⟨b1, b2⟩ := b c hc
      obtain ⟨e1, e2⟩ := S c hc
      rw [e1]
      exact ⟨b1, fun hm => (b2 hm).trans (e2 (b1.mp hm)).symm⟩
  · rw [h.1] at hq
    rw [h.2.1] at hf
    rw [cols_cong (fun c hc => (hall q hq c hc).1)]
    exact F q hq hf
theorem settle_n {σ τ : Sg} {cv cm : Nat → Nat} {r : Nat} (hB : Bd σ) (hB2 : Bd τ) (J : J0 σ cv cm) (F : Full σ) (hr : r < nn σ) (h : Chg σ τ r) (S : ¬ Sam σ τ r) :
    FP (lfT τ r) r ∧ (stT τ cv cm r).1 = fmT (lfT τ r) r ∧ J0 (stT τ cv cm r).1 (stT τ cv cm r).2.1 (stT τ cv cm r).2.2 ∧ Full (stT τ cv cm r).1 := by
  have hE : hasE τ cv cm (ff τ r) r = false := by
    rw [h.2.1]
    by_cases q : ff σ r = 1000
    · rw [q]; exact hE_no (shf_no τ)
    · refine Bool.eq_false_iff.mpr (fun z => S (fun c hc => ?_))
      obtain ⟨-, b⟩ := J_ss hB J hr q
      obtain ⟨-, a⟩ := (hE_iff (f24 hB q)).mp z
      rw [h.2.2.1] at a
      obtain ⟨a1, a2⟩ := a c hc
      obtain ⟨b1, b2⟩ := b c hc
      exact ⟨Bool.eq_iff_iff.mpr (a1.symm.trans b1), fun he => (a2 (b1.mpr he)).symm.trans (b2 (b1.mpr he))⟩
  have hss : ff σ r ≠ 1000 → ss σ (ff σ r) ≠ 1000 := fun q => by
    have := (J_ss hB J hr q).1
    omega
  have l1 := lv_lf (cv := cv) (cm := cm) hB hss
  have l2 : (lvT τ cv cm r).1 = lfT τ r := lv_lf hB2 (by rw [h.2.1, h.2.2.1]; exact hss)
  obtain ⟨g1, g2⟩ := lv_chg (cv := cv) (cm := cm) h
  have f1 : ff (lvT σ cv cm r).1 r = 1000 := by rw [ff_lv, up_s]
  have B1 : Bd (lvT σ cv cm r).1 := by rw [l1]; exact Bd_lfT hB r
  have B2 : Bd (lvT τ cv cm r).1 := by rw [l2]; exact Bd_lfT hB2 r
  have J2 : J0 (lvT τ cv cm r).1 (lvT τ cv cm r).2.1 (lvT τ cv cm r).2.2 := by
    rw [g1]; exact J_chg B1 (J_leave hB J hr) g2 f1
  have f2 : ff (lvT τ cv cm r).1 r = 1000 := by rw [ff_lv, up_s]
  have r2 : r < nn (lvT τ cv cm r).1 := by rw [nn_lvT, h.1]; exact hr
  obtain ⟨n1, n2, n3, n4⟩ := nw_all B2 J2 r2 f2
  have hP := FP_ok B2 J2 r2 f2
  rw [st_nw hE]
  rw [l2] at hP n3 n4
  refine ⟨hP, by rw [n1, l2], n2, fun q hq hf => ?_⟩
  rw [n1, l2] at hq hf ⊢
  rw [nn_fmT, nn_lfT, h.1] at hq
  rw [cols_fmT]
  by_cases e : q = r
  · rw [e] at hf ⊢; exact n3 hf
  · rw [n4 q e, ff_lf, up_n e, h.2.1] at hf
    rw [cols_lfT, h.cols hq e]
    exact F q hq hf
/-! the actions -/
theorem lf_ch (σ : Sg) (r k v : Nat) : chS (lfT σ r) k v = lfT (chS σ k v) r := by
  by_cases c : ff σ r ≠ 1000 ∧ shr (setF σ r 1000) (ff σ r) = 0
  · have e1 : lfT σ r = _ := if_pos c
    have e2 : lfT (chS σ k v) r = _ := if_pos c
    rw [e1, e2]; rfl
  · have e1 : lfT σ r = _ := if_neg c
    have e2 : lfT (chS σ k v) r = _ := if_neg c
    rw [e1, e2]; rfl
theorem lf_cd (σ : Sg) (r v : Nat) : cdS (lfT σ r) r v = lfT (cdS σ r v) r := by
  by_cases c : ff σ r ≠ 1000 ∧ shr (setF σ r 1000) (ff σ r) = 0
  · have e1 : lfT σ r = _ := if_pos c
    have e2 : lfT (cdS σ r v) r = _ := if_pos c
    rw [e1, e2]; rfl
  · have e1 : lfT σ r = _ := if_neg c
    have e2 : lfT (cdS σ r v) r = _ := if_neg c
    rw [e1, e2]; rfl
theorem lf_sl (σ : Sg) (r v : Nat) : slS (lfT σ r) r v = lfT (slS σ r v) r := by
  by_cases c : ff σ r ≠ 1000 ∧ shr (setF σ r 1000) (ff σ r) = 0
  · have e1 : lfT σ r = _ := if_pos c
    have e2 : lfT (slS σ r v) r = _ := if_pos c
    rw [e1, e2]
  · have e1 : lfT σ r = _ := if_neg c
    have e2 : lfT (slS σ r v) r = _ := if_neg c
    rw [e1, e2]
theorem Chg_ch {σ : Sg} {r c v : Nat} (hc : c < 16) : Chg σ (chS σ (r * 16 + c) v) r := ⟨rfl, rfl, rfl, fun q _ hqr => ⟨rfl, fun j hj => by rw [vv_ch hc hj, if_neg (fun z => hqr z.1)]⟩⟩
theorem set_ok {σ : Sg} {cv cm : Nat → Nat} {r c v : Nat} (hB : Bd σ) (J : J0 σ cv cm) (F : Full σ) (hr : r < nn σ) (hc : c < 16) (hv : v < 100) :
    (stT (chS σ (r * 16 + c) v) cv cm r).1 = rsetT σ r c v ∧ J0 (stT (chS σ (r * 16 + c) v) cv cm r).1 (stT (chS σ (r * 16 + c) v) cv cm r).2.1 (stT (chS σ (r * 16 + c) v) cv cm r).2.2 ∧ Full (stT (chS σ (r * 16 + c) v) cv cm r).1 ∧ (vv σ (r * 16 + c) ≠ v → FP (chS (lfT σ r) (r * 16 + c) v) r) := by
  by_cases e : vv σ (r * 16 + c) = v
  · have et : chS σ (r * 16 + c) v = σ := by
      show (nn σ, dd σ, va_up (vv σ) (r * 16 + c) v, ff σ, ss σ) = σ
      rw [← e, up_id]
    obtain ⟨a, b, d⟩ := settle_s hB J F hr (Chg_ch (v := v) hc) (fun j hj => by rw [et]; exact ⟨rfl, fun _ => rfl⟩)
    rw [a]
    exact ⟨by unfold rsetT; rw [if_pos e], b, d, fun z => absurd e z⟩
  · have S : ¬ Sam σ (chS σ (r * 16 + c) v) r := fun S => by
      obtain ⟨s1, s2⟩ := S c hc
      rw [ent_ch hc hc, if_pos ⟨rfl, rfl⟩] at s1
      rw [vv_ch hc hc, if_pos ⟨rfl, rfl⟩] at s2
      cases z : ent σ r c with
      | true => exact e (s2 z).symm
      | false =>
        rw [z] at s1
        have h1 := of_decide_eq_false s1
        exact e ((ent_f.mp z).trans (Classical.not_not.mp h1).symm)
    obtain ⟨a, b, d, g⟩ := settle_n hB (Bd_chS hB hv) J F hr (Chg_ch (v := v) hc) S
    rw [← lf_ch] at a b
    exact ⟨by unfold rsetT; rw [if_neg e]; exact b, d, g, fun _ => a⟩
theorem Chg_cd {σ : Sg} {r v : Nat} : Chg σ (cdS σ r v) r := ⟨rfl, rfl, rfl, fun q _ hqr => ⟨up_n hqr, fun j hj => by
  show cdV σ r v 16 (q * 16 + j) = _
  unfold cdV; rw [if_neg]; omega⟩⟩
theorem sam_cd {σ : Sg} {r v : Nat} : Sam σ (cdS σ r v) r ↔ ebF σ r v = cols σ r := by
  rw [cols_cd]
  constructor
  · intro S; exact cols_cong (fun c hc => (S c hc).1)
  · intro e c hc
    have e1 : ent (cdS σ r v) r c = ent σ r c := by rw [← cols_bit _ r hc, ← cols_bit σ r hc, e]
    exact ⟨e1, fun z => (vv_cd hc (e1.trans z)).1⟩
theorem setD_ok {σ : Sg} {cv cm : Nat → Nat} {r v : Nat} (hB : Bd σ) (J : J0 σ cv cm) (F : Full σ) (hr : r < nn σ) (hv : v < 100) :
    (stT (cdS σ r v) cv cm r).1 = rsdT σ r v ∧ J0 (stT (cdS σ r v) cv cm r).1 (stT (cdS σ r v) cv cm r).2.1 (stT (cdS σ r v) cv cm r).2.2 ∧ Full (stT (cdS σ r v) cv cm r).1 ∧ (ebF σ r v ≠ cols σ r → FP (cdS (lfT σ r) r v) r) := by
  by_cases e : ebF σ r v = cols σ r
  · obtain ⟨a, b, d⟩ := settle_s hB J F hr Chg_cd (sam_cd.mpr e)
    rw [a]
    exact ⟨by unfold rsdT; rw [if_pos e], b, d, fun z => absurd e z⟩
  · obtain ⟨a, b, d, g⟩ := settle_n hB (Bd_cdS hB hv) J F hr Chg_cd (fun S => e (sam_cd.mp S))
    rw [← lf_cd] at a b
    exact ⟨by unfold rsdT; rw [if_neg e]; exact b, d, g, fun _ => a⟩
theorem Chg_sl {σ : Sg} {r v : Nat} : Chg σ (slS σ r v) r := ⟨rfl, rfl, rfl, fun q _ hqr => ⟨up_n hqr, fun _ _ => rfl⟩⟩
theorem sam_sl {σ : Sg} {r v : Nat} : Sam σ (slS σ r v) r ↔ ebT σ r v = cols σ r := by
  rw [cols_sl]
  constructor
  · intro S; exact cols_cong (fun c hc => (S c hc).1)
  · intro e c hc
    exact ⟨by rw [← cols_bit _ r hc, ← cols_bit σ r hc, e], fun _ => rfl⟩
theorem slim_ok {σ : Sg} {cv cm : Nat → Nat} {r v : Nat} (hB : Bd σ) (J : J0 σ cv cm) (F : Full σ) (hr : r < nn σ) (hv : v < 100) :
    (stT (slS σ r v) cv cm r).1 = rslT σ r v ∧ J0 (stT (slS σ r v) cv cm r).1 (stT (slS σ r v) cv cm r).2.1 (stT (slS σ r v) cv cm r).2.2 ∧ Full (stT (slS σ r v) cv cm r).1 ∧ (ebT σ r v ≠ cols σ r → FP (slS (lfT σ r) r v) r) := by
  by_cases e : ebT σ r v = cols σ r
  · obtain ⟨a, b, d⟩ := settle_s hB J F hr Chg_sl (sam_sl.mpr e)
    rw [a]
    exact ⟨by unfold rslT; rw [if_pos e], b, d, fun z => absurd e z⟩
  · obtain ⟨a, b, d, g⟩ := settle_n hB (Bd_sl hB hv) J F hr Chg_sl (fun S => e (sam_sl.mp S))
    rw [← lf_sl] at a b
    exact ⟨by unfold rslT; rw [if_neg e]; exact b, d, g, fun _ => a⟩
theorem last_ok {σ : Sg} {cv cm : Nat → Nat} (hB : Bd σ) (J : J0 σ cv cm) (F : Full σ) (h0 : 0 < nn σ) :
    (lvT σ cv cm (nn σ - 1)).1 = lfT σ (nn σ - 1) ∧ J0 (dcS (lvT σ cv cm (nn σ - 1)).1) (lvT σ cv cm (nn σ - 1)).2.1 (lvT σ cv cm (nn σ - 1)).2.2 ∧ Full (dcS (lvT σ cv cm (nn σ - 1)).1) := by
  have hr : nn σ - 1 < nn σ := by omega
  have hss : ff σ (nn σ - 1) ≠ 1000 → ss σ (ff σ (nn σ - 1)) ≠ 1000 := fun q => by
    have := (J_ss hB J hr q).1
    omega
  have l1 := lv_lf (cv := cv) (cm := cm) hB hss
  have J1 := J_leave hB J hr
  have f1 : ff (lvT σ cv cm (nn σ - 1)).1 (nn σ - 1) = 1000 := by rw [ff_lv, up_s]
  have n1 : nn (lvT σ cv cm (nn σ - 1)).1 = nn σ := nn_lvT _ _ _ _
  refine ⟨l1, ⟨fun r hr hf => ?_, fun k hk hm => ?_, J1.2.2.1, fun f hf hs => ?_, fun r hr hf => ?_⟩, fun q hq hf => ?_⟩
  · have hr : r < nn (lvT σ cv cm (nn σ - 1)).1 - 1 := hr
    exact J1.1 r (by omega) hf
  · obtain ⟨r, c, h1, h2⟩ := J1.2.1 k hk hm
    refine ⟨r, c, ?_, h2⟩
    have : r ≠ nn σ - 1 := fun z => h2.2.1 (by rw [z]; exact f1)
    show r < nn (lvT σ cv cm (nn σ - 1)).1 - 1
    omega
  · obtain ⟨r, h1, h2⟩ := J1.2.2.2.1 f hf hs
    refine ⟨r, ?_, h2⟩
    have : r ≠ nn σ - 1 := fun z => by rw [z, f1] at h2; omega
    show r < nn (lvT σ cv cm (nn σ - 1)).1 - 1
    omega
  · have hr : r < nn (lvT σ cv cm (nn σ - 1)).1 - 1 := hr
    exact J1.2.2.2.2 r (by omega) hf
  · have hq : q < nn (lvT σ cv cm (nn σ - 1)).1 - 1 := hq
    have hf : ff (lvT σ cv cm (nn σ - 1)).1 q = 1000 := hf
    rw [ff_lv, up_n (by omega)] at hf
    have e : cols (dcS (lvT σ cv cm (nn σ - 1)).1) q = cols σ q := by
      show cols (lvT σ cv cm (nn σ - 1)).1 q = _
      rw [l1, cols_lfT]
    rw [e]
    exact F q (by omega) hf
/-- a row behind the others, without a form -/
def Ext (σ τ : Sg) : Prop := nn τ = nn σ + 1 ∧ ff τ = va_up (ff σ) (nn σ) 1000 ∧ ss τ = ss σ ∧ ∀ q, q < nn σ → dd τ q = dd σ q ∧ ∀ c, c < 16 → vv τ (q * 16 + c) = vv σ (q * 16 + c)
theorem Ext.ent {σ τ : Sg} (h : Ext σ τ) {q c : Nat} (hq : q < nn σ) (hc : c < 16) : ent τ q c = ent σ q c := by
  obtain ⟨a, b⟩ := h.2.2.2 q hq
  show decide (vv τ (q * 16 + c) ≠ dd τ q) = decide (vv σ (q * 16 + c) ≠ dd σ q)
  rw [a, b c hc]
theorem Ext.cols {σ τ : Sg} (h : Ext σ τ) {q : Nat} (hq : q < nn σ) : cols τ q = cols σ q := cols_cong (fun _ hc => h.ent hq hc)
theorem J_ext {σ τ : Sg} {cv cm : Nat → Nat} (hB : Bd σ) (J : J0 σ cv cm) (h : Ext σ τ) : J0 τ cv cm ∧ ff τ (nn σ) = 1000 := by
  have f0 : ff τ (nn σ) = 1000 := by rw [h.2.1, up_s]
  have fx : ∀ q, q < nn σ → ff τ q = ff σ q := fun q hq => by rw [h.2.1, up_n (by omega)]
  have lt : ∀ q, q < nn τ → ff τ q ≠ 1000 → q < nn σ := fun q hq hf => by
    rw [h.1] at hq
    have : q ≠ nn σ := fun z => hf (by rw [z]; exact f0)
    omega
  refine ⟨⟨fun q hq hf => ?_, fun k hk hm => ?_, J.2.2.1, fun f hf hs => ?_, fun q hq hf => ?_⟩, f0⟩
  · have hq := lt q hq hf
    rw [fx q hq] at hf ⊢
    obtain ⟨a, b⟩ := J_ss hB J hq hf
    refine (hE_iff (f24 hB hf)).mpr ?_
    rw [h.2.2.1]
    refine ⟨by omega, fun c hc => ?_⟩
    rw [h.ent hq hc, (h.2.2.2 q hq).2 c hc]
    exact b c hc
  · obtain ⟨q, c, h1, h2, h3, h4, h5⟩ := J.2.1 k hk hm
    exact ⟨q, c, by rw [h.1]; omega, h2, by rw [fx q h1]; exact h3, by rw [h.ent h1 h2]; exact h4, by rw [fx q h1, h.2.2.1]; exact h5⟩
  · rw [h.2.2.1] at hs
    obtain ⟨q, h1, h2⟩ := J.2.2.2.1 f hf hs
    exact ⟨q, by rw [h.1]; omega, by rw [fx q h1]; exact h2⟩
  · have hq := lt q hq hf
    rw [fx q hq] at hf
    rw [h.cols hq]; exact J.2.2.2.2 q hq hf
theorem Ext_ad (σ : Sg) (v : Nat) : Ext σ (adS σ v) := ⟨rfl, rfl, rfl, fun q hq => ⟨up_n (by omega), fun c hc => (ent_ad hq hc).2⟩⟩
theorem add_ok {σ : Sg} {cv cm : Nat → Nat} {v : Nat} (hB : Bd σ) (J : J0 σ cv cm) (F : Full σ) : J0 (adS σ v) cv cm ∧ Full (adS σ v) := by
  obtain ⟨a, b⟩ := J_ext hB J (Ext_ad σ v)
  refine ⟨a, fun q hq hf => ?_⟩
  have hq : q < nn σ + 1 := hq
  by_cases e : q = nn σ
  · rw [e, cols_an]
  · have e2 : ff (adS σ v) q = ff σ q := up_n e
    rw [e2] at hf
    rw [(Ext_ad σ v).cols (by omega)]
    exact F q (by omega) hf
theorem Ext_rw (σ : Sg) (d : Nat) (w : Nat → Nat) : Ext σ (rwS σ d w) := ⟨rfl, rfl, rfl, fun q hq => ⟨up_n (by omega), fun c hc => by
  show rwV σ d w 16 (q * 16 + c) = _
  unfold rwV fl16; rw [if_neg (by omega), if_neg (by omega)]⟩⟩
theorem adT_ok {t : Tb} {d : Nat} {w : Nat → Nat} (hB : Bd t.1) (J : J0 t.1 t.2.1 t.2.2) (F : Full t.1) (hn : nn t.1 < 24) (hd : d < 100) (hw : ∀ k, w k < 100) :
    (adT t d w).1 = fmT (rwS t.1 d w) (nn t.1) ∧ J0 (adT t d w).1 (adT t d w).2.1 (adT t d w).2.2 ∧ Full (adT t d w).1 ∧ FP (rwS t.1 d w) (nn t.1) := by
  have hX := Ext_rw t.1 d w
  obtain ⟨a, b⟩ := J_ext hB J hX
  have B2 := Bd_rwS hB hn hd hw
  have hr : nn t.1 < nn (rwS t.1 d w) := Nat.lt_succ_self _
  have e : adT t d w = nwT (rwS t.1 d w) t.2.1 t.2.2 (nn t.1) := by
    show stT (rwS t.1 d w) t.2.1 t.2.2 (nn t.1) = _
    rw [st_nw (hE_no (by rw [b]; exact shf_no _)), lv_id b]
  obtain ⟨n1, n2, n3, n4⟩ := nw_all B2 a hr b
  rw [e]
  refine ⟨n1, n2, fun q hq hf => ?_, FP_ok B2 a hr b⟩
  rw [n1] at hq hf ⊢
  rw [nn_fmT] at hq
  have hq : q < nn t.1 + 1 := hq
  rw [cols_fmT]
  by_cases z : q = nn t.1
  · rw [z] at hf ⊢; exact n3 hf
  · have e2 : ff (rwS t.1 d w) q = ff t.1 q := up_n z
    rw [n4 q z, e2] at hf
    rw [hX.cols (by omega)]
    exact F q (by omega) hf
theorem adN_ok {σ : Sg} {cv cm td tv : Nat → Nat} (hB : Bd σ) (J : J0 σ cv cm) (F : Full σ) (htd : ∀ k, td k < 100) (htv : ∀ k, tv k < 100) : ∀ k, nn σ + k ≤ 24 →
    (adN (σ, cv, cm) td tv k).1 = rfN σ td tv k ∧ J0 (adN (σ, cv, cm) td tv k).1 (adN (σ, cv, cm) td tv k).2.1 (adN (σ, cv, cm) td tv k).2.2 ∧ Full (adN (σ, cv, cm) td tv k).1
  | 0, _ => ⟨rfl, J, F⟩
  | k + 1, hk => by
    obtain ⟨a, b, c⟩ := adN_ok hB J F htd htv k (by omega)
    have hB2 : Bd (adN (σ, cv, cm) td tv k).1 := by rw [a]; exact Bd_rfN hB htd htv k (by omega)
    have hn : nn (adN (σ, cv, cm) td tv k).1 < 24 := by rw [nn_adN]; show nn σ + k < 24; omega
    obtain ⟨d, e, f, -⟩ := adT_ok (d := td k) (w := fun c => tv (k * 16 + c)) hB2 b c hn (htd k) (fun c => htv _)
    refine ⟨?_, e, f⟩
    show (adT _ _ _).1 = fmT (rwS (rfN σ td tv k) (td k) (fun c => tv (k * 16 + c))) (nn (rfN σ td tv k))
    rw [d, a]
theorem FP_read {σ : Sg} {cv cm : Nat → Nat} (hB : Bd σ) (J : J0 σ cv cm) (F : Full σ) : ∀ (i : Nat) (td2 tv2 : Nat → Nat) (d : Nat) (w : Nat → Nat), (∀ k, td2 k < 100) → (∀ k, tv2 k < 100) → d < 100 → (∀ k, w k < 100) → nn σ + i < 24 → FP (rwS (rfN σ td2 tv2 i) d w) (nn σ + i) := fun i td2 tv2 d w h1 h2 hd hw hn => by
  obtain ⟨a, b, c⟩ := adN_ok hB J F h1 h2 i (by omega)
  have hB2 : Bd (adN (σ, cv, cm) td2 tv2 i).1 := by rw [a]; exact Bd_rfN hB h1 h2 i (by omega)
  have hn2 : nn (adN (σ, cv, cm) td2 tv2 i).1 = nn σ + i := nn_adN _ _ _ _
  obtain ⟨-, -, -, z⟩ := adT_ok (d := d) (w := w) hB2 b c (by omega) hd hw
  rw [a] at z
  rw [nn_rfN] at z
  exact z
