/-! all pushed anew -/
def PW (σ : Sg) (t : Tb) (P : Nat → Prop) : Prop := nn t.1 = nn σ ∧ dd t.1 = dd σ ∧ vv t.1 = vv σ ∧ Bd t.1 ∧ J0 t.1 t.2.1 t.2.2 ∧ (∀ q, q < nn σ → ff t.1 q ≠ 1000 → P q) ∧ (∀ q, q < nn σ → P q → ff t.1 q = 1000 → cols σ q = 0)
theorem PW.mono {σ : Sg} {t : Tb} {P P2 : Nat → Prop} (h : PW σ t P) (e : ∀ q, q < nn σ → (P q ↔ P2 q)) : PW σ t P2 := by
  obtain ⟨a, b, c, d, J, h1, h2⟩ := h
  exact ⟨a, b, c, d, J, fun q hq hf => (e q hq).mp (h1 q hq hf), fun q hq hp hf => h2 q hq ((e q hq).mpr hp) hf⟩
theorem PW.step {σ : Sg} {t : Tb} {P : Nat → Prop} {k : Nat} (h : PW σ t P) (hk : k < nn σ) (hP : ¬ P k) : PW σ (stU t k) (fun q => P q ∨ q = k) ∧ (stU t k).1 = fmT t.1 k ∧ FP t.1 k := by
  obtain ⟨a, b, c, d, J, h1, h2⟩ := h
  have hf : ff t.1 k = 1000 := Classical.byContradiction (fun z => hP (h1 k hk z))
  have hr : k < nn t.1 := by rw [a]; exact hk
  have e : stU t k = nwT t.1 t.2.1 t.2.2 k := by
    show stT t.1 t.2.1 t.2.2 k = _
    rw [st_nw (hE_no (by rw [hf]; exact shf_no _)), lv_id hf]
  obtain ⟨n1, n2, n3, n4⟩ := nw_all d J hr hf
  have hc : cols t.1 k = cols σ k := cols_dv b c k
  rw [e]
  refine ⟨⟨by rw [n1, nn_fmT]; exact a, by rw [n1, dd_fmT]; exact b, by rw [n1, vv_fmT]; exact c, by rw [n1]; exact Bd_fmT d k, n2, fun q hq hfq => ?_, fun q hq hp hfq => ?_⟩, n1, FP_ok d J hr hf⟩
  · rw [n1] at hfq
    by_cases z : q = k
    · exact Or.inr z
    · rw [n4 q z] at hfq; exact Or.inl (h1 q hq hfq)
  · rw [n1] at hfq
    by_cases z : q = k
    · rw [z] at hfq ⊢; rw [← hc]; exact n3 hfq
    · rw [n4 q z] at hfq
      exact h2 q hq (hp.resolve_right z) hfq
theorem pwI_all {σ : Sg} {t : Tb} {w : Nat} (h : PW σ t (fun q => w < wt σ q)) : ∀ k, k ≤ nn σ →
    PW σ (pwI w t k) (fun q => w < wt σ q ∨ (wt σ q = w ∧ q < k)) ∧ (pwI w t k).1 = fwI w t.1 k ∧ ∀ j, j < k → wt (fwI w t.1 j) j = w → FP (fwI w t.1 j) j
  | 0, _ => ⟨h.mono (fun q _ => ⟨Or.inl, fun z => z.elim id (fun y => absurd y.2 (Nat.not_lt_zero _))⟩), rfl, fun j hj => absurd hj (Nat.not_lt_zero _)⟩
  | k + 1, hk => by
    obtain ⟨a, b, c⟩ := pwI_all h k (by omega)
    have ew : wt (pwI w t k).1 k = wt σ k := wt_dv a.2.1 a.2.2.1 k
    by_cases z : wt σ k = w
    · obtain ⟨s1, s2, s3⟩ := a.step (k := k) (by omega) (fun y => by omega)
      rw [pwI_t (ew.trans z)]
      rw [b] at ew s2 s3
      refine ⟨s1.mono (fun q hq => ?_), by rw [s2, fwI_t (ew.trans z)], fun j hj hw => ?_⟩
      · constructor
        · rintro ((y | y) | y)
          · exact Or.inl y
          · exact Or.inr ⟨y.1, by omega⟩
          · exact Or.inr ⟨by rw [y]; exact z, by omega⟩
        · rintro (y | y)
          · exact Or.inl (Or.inl y)
          · by_cases x : q = k
            · exact Or.inr x
            · exact Or.inl (Or.inr ⟨y.1, by omega⟩)
      · rcases Nat.lt_or_ge j k with y | y
        · exact c j y hw
        · obtain rfl : j = k := by omega
          exact s3
    · have e2 : ¬ wt (pwI w t k).1 k = w := fun y => z (ew.symm.trans y)
      rw [pwI_f e2]
      rw [b] at e2
      refine ⟨a.mono (fun q hq => ?_), by rw [fwI_f e2]; exact b, fun j hj hw => ?_⟩
      · constructor
        · rintro (y | y)
          · exact Or.inl y
          · exact Or.inr ⟨y.1, by omega⟩
        · rintro (y | y)
          · exact Or.inl y
          · have : q ≠ k := fun x => z (by rw [← x]; exact y.1)
            exact Or.inr ⟨y.1, by omega⟩
      · rcases Nat.lt_or_ge j k with y | y
        · exact c j y hw
        · obtain rfl : j = k := by omega
          exact absurd hw e2
theorem PW_bare {σ : Sg} (hB : Bd σ) {P : Nat → Prop} (hP : ∀ q, q < nn σ → ¬ P q) : PW σ (bare σ) P := by
  refine ⟨rfl, rfl, rfl, Bd_bare hB, ⟨fun r hr hf => absurd rfl hf, fun k hk hm => absurd rfl hm, fun _ _ _ => rfl, fun f hf hs => absurd rfl hs, fun r hr hf => absurd rfl hf⟩, fun q hq hf => absurd rfl hf, fun q hq hp => absurd hp (hP q hq)⟩
theorem pwO_all {σ : Sg} (hB : Bd σ) : ∀ j, j ≤ 16 →
    PW σ (pwO (nn σ) (bare σ) j) (fun q => 16 - j < wt σ q) ∧ (pwO (nn σ) (bare σ) j).1 = fwO (nn σ) (bareS σ) j ∧ ∀ w k, 16 - j < w → w ≤ 16 → k < nn σ → wt (fwI w (fwO (nn σ) (bareS σ) (16 - w)) k) k = w → FP (fwI w (fwO (nn σ) (bareS σ) (16 - w)) k) k
  | 0, _ => ⟨PW_bare hB (fun q _ h => by have := wt_le σ q; omega), rfl, fun w k h1 h2 => by omega⟩
  | j + 1, hj => by
    obtain ⟨a, b, c⟩ := pwO_all hB j (by omega)
    obtain ⟨d, e, f⟩ := pwI_all a (nn σ) (Nat.le_refl _)
    rw [b] at e f
    refine ⟨d.mono (fun q hq => ?_), e, fun w k h1 h2 h3 h4 => ?_⟩
    · constructor
      · rintro (y | y) <;> omega
      · intro y
        rcases Nat.lt_or_ge (16 - j) (wt σ q) with x | x
        · exact Or.inl x
        · exact Or.inr ⟨by omega, hq⟩
    · rcases Nat.lt_or_ge (16 - j) w with y | y
      · exact c w k y h2 h3 h4
      · obtain rfl : w = 16 - j := by omega
        rw [show 16 - (16 - j) = j by omega] at h4 ⊢
        exact f k h3 h4
theorem wt_0 {σ : Sg} {q : Nat} (h : wt σ q = 0) : cols σ q = 0 := msk_z (fun k hk => fb_ct_zero.mp h k hk)
theorem paw_ok {σ : Sg} (hB : Bd σ) : (paw σ).1 = fwO (nn σ) (bareS σ) 16 ∧ J0 (paw σ).1 (paw σ).2.1 (paw σ).2.2 ∧ Full (paw σ).1 ∧
    (∀ w k, 1 ≤ w → w ≤ 16 → k < nn σ → wt (fwI w (fwO (nn σ) (bareS σ) (16 - w)) k) k = w → FP (fwI w (fwO (nn σ) (bareS σ) (16 - w)) k) k) ∧
    (∀ r, r < nn σ → ff (fwO (nn σ) (bareS σ) 16) r ≠ 1000 → ss (fwO (nn σ) (bareS σ) 16) (ff (fwO (nn σ) (bareS σ) 16) r) ≤ 784) := by
  obtain ⟨⟨a1, a2, a3, a4, a5, a6, a7⟩, b, c⟩ := pwO_all hB 16 (Nat.le_refl _)
  refine ⟨b, a5, fun q hq hf => ?_, fun w k h1 => c w k (by omega), fun r hr hf => ?_⟩
  · have hq : q < nn (pwO (nn σ) (bare σ) 16).1 := hq
    rw [a1] at hq
    have e : cols (paw σ).1 q = cols σ q := cols_dv a2 a3 q
    rw [e]
    by_cases z : wt σ q = 0
    · exact wt_0 z
    · exact a7 q hq (by omega) hf
  · rw [← b] at hf ⊢
    exact J_t1 a4 a5 r (by rw [a1]; exact hr) hf
theorem pnN_all {σ : Sg} (hB : Bd σ) : ∀ k, k ≤ nn σ → PW σ (pnN (bare σ) k) (fun q => q < k) ∧ (pnN (bare σ) k).1 = fwN (bareS σ) k ∧ ∀ j, j < k → FP (fwN (bareS σ) j) j
  | 0, _ => ⟨PW_bare hB (fun q _ h => Nat.not_lt_zero q h), rfl, fun j hj => absurd hj (Nat.not_lt_zero _)⟩
  | k + 1, hk => by
    obtain ⟨a, b, c⟩ := pnN_all hB k (by omega)
    obtain ⟨s1, s2, s3⟩ := a.step (k := k) (by omega) (fun y => Nat.lt_irrefl _ y)
    rw [b] at s2 s3
    refine ⟨s1.mono (fun q _ => by constructor <;> intro y <;> omega), s2, fun j hj => ?_⟩
    rcases Nat.lt_or_ge j k with y | y
    · exact c j y
    · obtain rfl : j = k := by omega
      exact s3
theorem pan_ok {σ : Sg} (hB : Bd σ) : (pan σ).1 = fwN (bareS σ) (nn σ) ∧ Bd (pan σ).1 ∧ J0 (pan σ).1 (pan σ).2.1 (pan σ).2.2 ∧ (∀ k, k < nn σ → FP (fwN (bareS σ) k) k) ∧
    (∀ r, r < nn σ → ff (fwN (bareS σ) (nn σ)) r ≠ 1000 → ss (fwN (bareS σ) (nn σ)) (ff (fwN (bareS σ) (nn σ)) r) ≤ 784) := by
  obtain ⟨⟨a1, a2, a3, a4, a5, a6, a7⟩, b, c⟩ := pnN_all hB (nn σ) (Nat.le_refl _)
  refine ⟨b, a4, a5, c, fun r hr hf => ?_⟩
  rw [← b] at hf ⊢
  exact J_t1 a4 a5 r (by rw [a1]; exact hr) hf
theorem Bd_paw {σ : Sg} (hB : Bd σ) : Bd (paw σ).1 := (pwO_all hB 16 (Nat.le_refl _)).1.2.2.2.1
/-! answers -/
theorem lst_cong {p q : Nat → Bool} : ∀ {n : Nat}, (∀ k, k < n → p k = q k) → lst p n = lst q n
  | 0, _ => rfl
  | n + 1, h => by rw [lst, lst, h n (by omega), lst_cong (fun k hk => h k (by omega))]
theorem nem_cong {cm cm2 : Nat → Nat} (h : ∀ k, k < 800 → cm2 k = cm k) : ∀ k, k < 800 → nem cm2 k = nem cm k := fun k hk => by unfold nem; rw [h k hk]
theorem endc_cong {cm cm2 : Nat → Nat} (h : ∀ k, k < 800 → cm2 k = cm k) : endc cm2 = endc cm := lst_cong (nem_cong h)
theorem fil_cong {cm cm2 : Nat → Nat} (h : ∀ k, k < 800 → cm2 k = cm k) : fil cm2 = fil cm := fb_ct_cong (nem_cong h)
theorem end_rs {σ : Sg} {cv cm : Nat → Nat} (hB : Bd σ) (J : J0 σ cv cm) : endc (rsM σ) = endc cm := endc_cong (fun _ hk => (J_rs hB J hk).1)
theorem rfs_rs {σ : Sg} {cv cm : Nat → Nat} (hB : Bd σ) (J : J0 σ cv cm) : rfs σ (rsM σ) (nn σ) = rfs σ cm (nn σ) := by
  refine fb_sm_cong (fun r hr => ?_)
  by_cases hf : ff σ r = 1000
  · rw [rfo_0 hf, rfo_0 hf]
  · have hs := (J_ss hB J hr hf).1
    rw [rfo_1 hB hf hs, rfo_1 hB hf hs]
    refine fb_ct_cong (fun c hc => ?_)
    unfold rfP nem
    rw [sh_of hB hf, (J_rs hB J (show ss σ (ff σ r) + c < 800 by omega)).1]
theorem cn_eq {σ : Sg} {cv cm : Nat → Nat} (hB : Bd σ) (J : J0 σ cv cm) (sz L w : Nat) : cnF σ (rsM σ) sz L w = cnF σ cm sz L w := by
  unfold cnF
  rw [end_rs hB J, rfs_rs hB J, fil_cong (fun _ hk => (J_rs hB J hk).1)]
theorem luk_eq {σ : Sg} {cv cm : Nat → Nat} {r c : Nat} (hB : Bd σ) (J : J0 σ cv cm) (F : Full σ) (hr : r < nn σ) (hc : c < 16) : e9 (luk σ cv cm r c) = nI (vv σ (r * 16 + c)) := by
  have hv := hB.v (r * 16 + c)
  have key : luk σ cv cm r c = vv σ (r * 16 + c) := by
    by_cases hf : ff σ r = 1000
    · have e : luk σ cv cm r c = dd σ r := if_neg (fun z => z.1 (by rw [hf]; exact shf_no σ))
      rw [e]
      exact (ent_f.mp (by rw [← cols_bit σ r hc, F r hr hf, Nat.zero_testBit])).symm
    · obtain ⟨s1, t⟩ := J_ss hB J hr hf
      obtain ⟨b1, b2⟩ := t c hc
      have hs := sh_of hB hf
      unfold luk
      rw [hs]
      by_cases z : ent σ r c = true
      · have m := b1.mpr z
        rw [if_pos ⟨by omega, m⟩, b2 m]
      · rw [if_neg (fun y => z (b1.mp y.2))]
        exact (ent_f.mp (Bool.eq_false_iff.mpr z)).symm
  rw [key, e9_n (by omega)]
theorem lwF_last {σ : Sg} {f : Nat} : ∀ n, (∃ r, r < n ∧ ff σ r = f) → ∃ r, r < n ∧ ff σ r = f ∧ lwF σ f n = pop (cols σ r)
  | 0, ⟨r, h, _⟩ => absurd h (Nat.not_lt_zero r)
  | n + 1, ⟨r, h1, h2⟩ => by
    by_cases z : ff σ n = f
    · exact ⟨n, Nat.lt_succ_self n, z, (lwF_t z).symm⟩
    · rw [← lwF_f z]
      have : r ≠ n := fun y => z (by rw [← y]; exact h2)
      obtain ⟨q, q1, q2, q3⟩ := lwF_last n ⟨r, by omega, h2⟩
      exact ⟨q, by omega, q2, q3⟩
theorem fm_eq {σ : Sg} {cv cm : Nat → Nat} {f w : Nat} (hB : Bd σ) (J : J0 σ cv cm) (hf : f < 24) : fmF σ cm f w = fmR σ f w := by
  have hs : shf σ f = ss σ f := if_pos hf
  have hb := hB.s f
  unfold fmF fmR
  rw [hs]
  by_cases z : ss σ f = 1000
  · rw [if_pos (Or.inl z), if_pos z, z]; rfl
  · rw [if_neg z]
    by_cases w0 : w = 0
    · rw [if_pos (Or.inr w0), if_pos w0, e9_n z, e1_n z]
    · rw [if_neg (fun y => y.elim z w0), if_neg w0]
      by_cases w1 : w = 1
      · rw [if_pos w1, if_pos w1]
      · rw [if_neg w1, if_neg w1]
        obtain ⟨r, r1, r2, r3⟩ := lwF_last (nn σ) (J.2.2.2.1 f hf z)
        rw [r3, pop_cols]
        have rf : ff σ r ≠ 1000 := by omega
        obtain ⟨-, t⟩ := J_ss hB J r1 rf
        rw [r2] at t
        have e : wcnt cm f (ss σ f) = wt σ r := fb_ct_cong (fun c hc => by
          have := (t c hc).1
          cases y : ent σ r c with
          | true => exact decide_eq_true (this.mpr y)
          | false => exact decide_eq_false (fun x => absurd (this.mp x) (by rw [y]; decide)))
        rw [e]
theorem cl_eq {σ : Sg} {cv cm : Nat → Nat} {k w : Nat} (hB : Bd σ) (J : J0 σ cv cm) (hk : k < 800) : e9 (if w = 0 then cv k else cm k) = clR (rsV σ) (rsM σ) k w := by
  obtain ⟨e1, e2⟩ := J_rs hB J hk
  unfold clR
  rw [e1, e2]
  by_cases z : cm k = 1000
  · rw [if_pos z, z, J.2.2.1 k hk z]
    split <;> rfl
  · rw [if_neg z]
    obtain ⟨r, c, h1, h2, h3, h4, h5, h6, h7⟩ := J_mark hB J hk z
    by_cases w0 : w = 0
    · rw [if_pos w0, if_pos w0, h7]
      have := hB.v (r * 16 + c)
      rw [e9_n (by omega)]
    · rw [if_neg w0, if_neg w0, e9_n z, e1_n z]
theorem ft_eq {σ : Sg} {cv cm : Nat → Nat} (hB : Bd σ) (J : J0 σ cv cm) (m : Nat) : e9 (ffit cm m) = nI (ftR (rsM σ) m) := by
  rw [ftR_at hB J, e9_n (ft_some hB J m)]
theorem dd_stT (σ : Sg) (cv cm : Nat → Nat) (r : Nat) : dd (stT σ cv cm r).1 = dd σ ∧ vv (stT σ cv cm r).1 = vv σ := by
  have l : ∀ (τ : Sg) (a b : Nat → Nat), dd (lvT τ a b r).1 = dd τ ∧ vv (lvT τ a b r).1 = vv τ := fun τ a b => by
    unfold lvT; split <;> exact ⟨rfl, rfl⟩
  have pn : ∀ (τ : Sg) (a b : Nat → Nat) (m : Nat), dd (pnT τ a b r m).1 = dd τ ∧ vv (pnT τ a b r m).1 = vv τ := fun τ a b m => by
    unfold pnT; split
    · exact ⟨rfl, rfl⟩
    · rw [nn_fcT]; exact ⟨rfl, rfl⟩
  unfold stT
  split
  · exact ⟨rfl, rfl⟩
  · split
    · exact l σ cv cm
    · split
      · obtain ⟨a, b⟩ := pn (setF (lvT σ cv cm r).1 r 1000) (lvT σ cv cm r).2.1 (lvT σ cv cm r).2.2 (cols (lvT σ cv cm r).1 r)
        obtain ⟨c, d⟩ := l σ cv cm
        exact ⟨a.trans c, b.trans d⟩
      · exact l σ cv cm
theorem setD_ans {σ : Sg} {cv cm : Nat → Nat} {r v : Nat} : wt (stT (cdS σ r v) cv cm r).1 r = pop (ebF σ r v) := by
  obtain ⟨a, b⟩ := dd_stT (cdS σ r v) cv cm r
  rw [wt_dv a b, ← pop_cols, cols_cd]
