/-! what holds of a state and its store -/
theorem php {n m : Nat} {B : Nat → Nat → Prop} (h1 : ∀ i, i < n → ∃ q, q < m ∧ B i q) (h2 : ∀ i j q, B i q → B j q → i = j) : n ≤ m := by
  refine Nat.le_of_not_lt (fun hm => ?_)
  obtain ⟨f, hf⟩ : ∃ f : Nat → Nat, ∀ i, i < n → f i < m ∧ B i (f i) := by
    refine ⟨fun i => if h : i < n then Classical.choose (h1 i h) else 0, fun i hi => ?_⟩
    simp only [dif_pos hi]
    exact Classical.choose_spec (h1 i hi)
  obtain ⟨i, j, h3, h4, h5⟩ := fb_twice (fun i hi => (hf i hi).1) hm
  have a := (hf i (by omega)).2
  have b := (hf j h4).2
  rw [h5] at a
  have := h2 i j _ a b
  omega
def J0 (σ : Sg) (cv cm : Nat → Nat) : Prop :=
  (∀ r, r < nn σ → ff σ r ≠ 1000 → hasE σ cv cm (ff σ r) r = true) ∧
  (∀ k, k < 800 → cm k ≠ 1000 → ∃ r c, r < nn σ ∧ c < 16 ∧ ff σ r ≠ 1000 ∧ ent σ r c = true ∧ k = ss σ (ff σ r) + c) ∧
  (∀ k, k < 800 → cm k = 1000 → cv k = 1000) ∧
  (∀ f, f < 24 → ss σ f ≠ 1000 → ∃ r, r < nn σ ∧ ff σ r = f) ∧
  (∀ r, r < nn σ → ff σ r ≠ 1000 → cols σ r ≠ 0)
def Full (σ : Sg) : Prop := ∀ r, r < nn σ → ff σ r = 1000 → cols σ r = 0
theorem hE_iff {σ : Sg} {cv cm : Nat → Nat} {f r : Nat} (hf : f < 24) : hasE σ cv cm f r = true ↔ ss σ f ≠ 1000 ∧ ∀ c, c < 16 → (cm (ss σ f + c) = f ↔ ent σ r c = true) ∧ (cm (ss σ f + c) = f → cv (ss σ f + c) = vv σ (r * 16 + c)) := by
  have e : shf σ f = ss σ f := if_pos hf
  unfold hasE; rw [dcd_t, e]
theorem hE_no {σ : Sg} {cv cm : Nat → Nat} {f r : Nat} (hf : shf σ f = 1000) : hasE σ cv cm f r = false := hasE_f (fun z => z.1 hf)
theorem shf_no (σ : Sg) : shf σ 1000 = 1000 := if_neg (by decide)
theorem f24 {σ : Sg} (hB : Bd σ) {r : Nat} (h : ff σ r ≠ 1000) : ff σ r < 24 := by
  have := hB.f r
  omega
theorem J_ss {σ : Sg} {cv cm : Nat → Nat} (hB : Bd σ) (J : J0 σ cv cm) {r : Nat} (hr : r < nn σ) (hf : ff σ r ≠ 1000) : ss σ (ff σ r) ≤ 784 ∧ ∀ c, c < 16 → (cm (ss σ (ff σ r) + c) = ff σ r ↔ ent σ r c = true) ∧ (cm (ss σ (ff σ r) + c) = ff σ r → cv (ss σ (ff σ r) + c) = vv σ (r * 16 + c)) := by
  obtain ⟨a, b⟩ := (hE_iff (f24 hB hf)).mp (J.1 r hr hf)
  have := hB.s (ff σ r)
  exact ⟨by omega, b⟩
theorem J_t1 {σ : Sg} {cv cm : Nat → Nat} (hB : Bd σ) (J : J0 σ cv cm) : ∀ r, r < nn σ → ff σ r ≠ 1000 → ss σ (ff σ r) ≤ 784 := fun _ hr hf => (J_ss hB J hr hf).1
/-- a cell that is not empty belongs to a row -/
theorem J_mark {σ : Sg} {cv cm : Nat → Nat} (hB : Bd σ) (J : J0 σ cv cm) {k : Nat} (hk : k < 800) (h : cm k ≠ 1000) : ∃ r c, r < nn σ ∧ c < 16 ∧ ff σ r ≠ 1000 ∧ ent σ r c = true ∧ k = ss σ (ff σ r) + c ∧ cm k = ff σ r ∧ cv k = vv σ (r * 16 + c) := by
  obtain ⟨r, c, h1, h2, h3, h4, h5⟩ := J.2.1 k hk h
  obtain ⟨-, b⟩ := J_ss hB J h1 h3
  obtain ⟨b1, b2⟩ := b c h2
  have b3 := b1.mpr h4
  exact ⟨r, c, h1, h2, h3, h4, h5, by rw [h5]; exact b3, by rw [h5]; exact b2 b3⟩
theorem J_used {σ : Sg} {cv cm : Nat → Nat} (hB : Bd σ) (J : J0 σ cv cm) {k : Nat} (hk : k < 800) (h : cm k ≠ 1000) : ss σ (cm k) ≠ 1000 := by
  obtain ⟨r, c, h1, -, h3, -, -, h6, -⟩ := J_mark hB J hk h
  rw [h6]
  have := (J_ss hB J h1 h3).1
  omega
/-! the reference's store is the class's -/
theorem rs_at {σ : Sg} {cv cm : Nat → Nat} (hB : Bd σ) (J : J0 σ cv cm) : ∀ j, j ≤ nn σ → ∀ k, k < 800 →
    ((∃ r c, r < j ∧ c < 16 ∧ ff σ r ≠ 1000 ∧ ent σ r c = true ∧ k = ss σ (ff σ r) + c) → (rsT σ j).2.2 k = cm k ∧ (rsT σ j).2.1 k = cv k) ∧
    ((¬ ∃ r c, r < j ∧ c < 16 ∧ ff σ r ≠ 1000 ∧ ent σ r c = true ∧ k = ss σ (ff σ r) + c) → (rsT σ j).2.2 k = 1000 ∧ (rsT σ j).2.1 k = 1000)
  | 0, _, k, _ => ⟨fun ⟨r, _, h, _⟩ => absurd h (Nat.not_lt_zero r), fun _ => ⟨rfl, rfl⟩⟩
  | j + 1, hj, k, hk => by
    obtain ⟨i1, i2⟩ := rs_at hB J j (by omega) k hk
    show (_ → (fcT σ (rsT σ j).2.1 (rsT σ j).2.2 j).2.2 k = cm k ∧ (fcT σ (rsT σ j).2.1 (rsT σ j).2.2 j).2.1 k = cv k) ∧ (_ → (fcT σ (rsT σ j).2.1 (rsT σ j).2.2 j).2.2 k = 1000 ∧ (fcT σ (rsT σ j).2.1 (rsT σ j).2.2 j).2.1 k = 1000)
    by_cases hf : ff σ j = 1000
    · have e : fcT σ (rsT σ j).2.1 (rsT σ j).2.2 j = (σ, (rsT σ j).2.1, (rsT σ j).2.2) := if_pos (by rw [hf]; exact shf_no σ)
      rw [e]
      have key : (∃ r c, r < j + 1 ∧ c < 16 ∧ ff σ r ≠ 1000 ∧ ent σ r c = true ∧ k = ss σ (ff σ r) + c) → ∃ r c, r < j ∧ c < 16 ∧ ff σ r ≠ 1000 ∧ ent σ r c = true ∧ k = ss σ (ff σ r) + c := by
        rintro ⟨r, c, h1, h2⟩
        rcases Nat.lt_or_ge r j with q | q
        · exact ⟨r, c, q, h2⟩
        · obtain rfl : r = j := by omega
          exact absurd hf h2.2.1
      exact ⟨fun h => i1 (key h), fun h => i2 (fun ⟨r, c, h1, h2⟩ => h ⟨r, c, by omega, h2⟩)⟩
    · obtain ⟨s1, s2⟩ := J_ss hB J (show j < nn σ by omega) hf
      have hs : shf σ (ff σ j) = ss σ (ff σ j) := if_pos (f24 hB hf)
      have e : fcT σ (rsT σ j).2.1 (rsT σ j).2.2 j = (σ, flV σ (rsT σ j).2.1 j (ss σ (ff σ j)) 16, flM σ (rsT σ j).2.2 j (ss σ (ff σ j)) 16) := by
        unfold fcT; rw [hs, if_neg (by omega)]
      rw [e]
      show (_ → flM σ (rsT σ j).2.2 j (ss σ (ff σ j)) 16 k = cm k ∧ flV σ (rsT σ j).2.1 j (ss σ (ff σ j)) 16 k = cv k) ∧ (_ → flM σ (rsT σ j).2.2 j (ss σ (ff σ j)) 16 k = 1000 ∧ flV σ (rsT σ j).2.1 j (ss σ (ff σ j)) 16 k = 1000)
      unfold flM flV
      by_cases q : ss σ (ff σ j) ≤ k ∧ k < ss σ (ff σ j) + 16 ∧ ent σ j (k - ss σ (ff σ j)) = true
      · rw [if_pos q, if_pos q]
        obtain ⟨q1, q2, q3⟩ := q
        have ek : k = ss σ (ff σ j) + (k - ss σ (ff σ j)) := by omega
        obtain ⟨b1, b2⟩ := s2 (k - ss σ (ff σ j)) (by omega)
        have b3 := b1.mpr q3
        have b4 := b2 b3
        rw [← ek] at b3 b4
        exact ⟨fun _ => ⟨b3.symm, b4.symm⟩, fun h => absurd ⟨j, k - ss σ (ff σ j), by omega, by omega, hf, q3, ek⟩ h⟩
      · rw [if_neg q, if_neg q]
        have key : (∃ r c, r < j + 1 ∧ c < 16 ∧ ff σ r ≠ 1000 ∧ ent σ r c = true ∧ k = ss σ (ff σ r) + c) → ∃ r c, r < j ∧ c < 16 ∧ ff σ r ≠ 1000 ∧ ent σ r c = true ∧ k = ss σ (ff σ r) + c := by
          rintro ⟨r, c, h1, h2, h3, h4, h5⟩
          rcases Nat.lt_or_ge r j with q2 | q2
          · exact ⟨r, c, q2, h2, h3, h4, h5⟩
          · obtain rfl : r = j := by omega
            exact absurd ⟨by omega, by omega, by rw [show k - ss σ (ff σ r) = c by omega]; exact h4⟩ q
        exact ⟨fun h => i1 (key h), fun h => i2 (fun ⟨r, c, h1, h2⟩ => h ⟨r, c, by omega, h2⟩)⟩
theorem J_rs {σ : Sg} {cv cm : Nat → Nat} (hB : Bd σ) (J : J0 σ cv cm) {k : Nat} (hk : k < 800) : rsM σ k = cm k ∧ rsV σ k = cv k := by
  obtain ⟨i1, i2⟩ := rs_at hB J (nn σ) (Nat.le_refl _) k hk
  by_cases q : ∃ r c, r < nn σ ∧ c < 16 ∧ ff σ r ≠ 1000 ∧ ent σ r c = true ∧ k = ss σ (ff σ r) + c
  · exact i1 q
  · obtain ⟨a, b⟩ := i2 q
    have h : cm k = 1000 := Classical.byContradiction (fun z => q (J.2.1 k hk z))
    show (rsT σ (nn σ)).2.2 k = cm k ∧ (rsT σ (nn σ)).2.1 k = cv k
    rw [a, b, h, J.2.2.1 k hk h]
    exact ⟨rfl, rfl⟩
theorem J_cong {σ : Sg} {cv cm cv2 cm2 : Nat → Nat} (hB : Bd σ) (J : J0 σ cv cm) (h : ∀ k, k < 800 → cm2 k = cm k ∧ cv2 k = cv k) : J0 σ cv2 cm2 := by
  refine ⟨fun r hr hf => ?_, fun k hk hm => ?_, fun k hk hm => ?_, J.2.2.2.1, J.2.2.2.2⟩
  · obtain ⟨a, b⟩ := J_ss hB J hr hf
    refine (hE_iff (f24 hB hf)).mpr ⟨by omega, fun c hc => ?_⟩
    obtain ⟨e1, e2⟩ := h (ss σ (ff σ r) + c) (by omega)
    rw [e1, e2]; exact b c hc
  · rw [(h k hk).1] at hm; exact J.2.1 k hk hm
  · rw [(h k hk).1] at hm; rw [(h k hk).2]; exact J.2.2.1 k hk hm
theorem J_rsT {σ : Sg} {cv cm : Nat → Nat} (hB : Bd σ) (J : J0 σ cv cm) : J0 σ (rsV σ) (rsM σ) := J_cong hB J (fun _ hk => J_rs hB J hk)
/-! a row without a form may have what entries it likes -/
def Chg (σ τ : Sg) (r : Nat) : Prop := nn τ = nn σ ∧ ff τ = ff σ ∧ ss τ = ss σ ∧ ∀ q, q < nn σ → q ≠ r → dd τ q = dd σ q ∧ ∀ c, c < 16 → vv τ (q * 16 + c) = vv σ (q * 16 + c)
theorem Chg.ent {σ τ : Sg} {r q c : Nat} (h : Chg σ τ r) (hq : q < nn σ) (hr : q ≠ r) (hc : c < 16) : ent τ q c = ent σ q c := by
  obtain ⟨a, b⟩ := h.2.2.2 q hq hr
  show decide (vv τ (q * 16 + c) ≠ dd τ q) = decide (vv σ (q * 16 + c) ≠ dd σ q)
  rw [a, b c hc]
theorem Chg.cols {σ τ : Sg} {r q : Nat} (h : Chg σ τ r) (hq : q < nn σ) (hr : q ≠ r) : cols τ q = cols σ q := cols_cong (fun _ hc => h.ent hq hr hc)
theorem J_chg {σ τ : Sg} {cv cm : Nat → Nat} {r : Nat} (hB : Bd σ) (J : J0 σ cv cm) (h : Chg σ τ r) (hr : ff σ r = 1000) : J0 τ cv cm := by
  have hne : ∀ q, ff σ q ≠ 1000 → q ≠ r := fun q hq e => hq (e ▸ hr)
  refine ⟨fun q hq hf => ?_, fun k hk hm => ?_, J.2.2.1, fun f hf hs => ?_, fun q hq hf => ?_⟩
  · rw [h.1] at hq
    rw [h.2.1] at hf ⊢
    obtain ⟨a, b⟩ := J_ss hB J hq hf
    refine (hE_iff (f24 hB hf)).mpr ?_
    rw [h.2.2.1]
    refine ⟨by omega, fun c hc => ?_⟩
    rw [h.ent hq (hne q hf) hc, (h.2.2.2 q hq (hne q hf)).2 c hc]
    exact b c hc
  · obtain ⟨q, c, h1, h2, h3, h4, h5⟩ := J.2.1 k hk hm
    refine ⟨q, c, by rw [h.1]; exact h1, h2, by rw [h.2.1]; exact h3, ?_, by rw [h.2.1, h.2.2.1]; exact h5⟩
    rw [h.ent h1 (hne q h3) h2]; exact h4
  · rw [h.2.2.1] at hs
    obtain ⟨q, h1, h2⟩ := J.2.2.2.1 f hf hs
    exact ⟨q, by rw [h.1]; exact h1, by rw [h.2.1]; exact h2⟩
  · rw [h.1] at hq
    rw [h.2.1] at hf
    rw [h.cols hq (hne q hf)]; exact J.2.2.2.2 q hq hf
theorem up_id {α : Type} {f : Nat → α} {k : Nat} : va_up f k (f k) = f := by
  funext j; unfold va_up; split
  · rename_i e; rw [e]
  · rfl
theorem setF_id {σ : Sg} {r : Nat} (h : ff σ r = 1000) : setF σ r 1000 = σ := by
  have e : va_up (ff σ) r 1000 = ff σ := by
    have := up_id (f := ff σ) (k := r)
    rw [h] at this; exact this
  show (nn σ, dd σ, vv σ, va_up (ff σ) r 1000, ss σ) = σ
  rw [e]
/-! a row leaves its form -/
theorem lv_id {σ : Sg} {cv cm : Nat → Nat} {r : Nat} (h : ff σ r = 1000) : lvT σ cv cm r = (σ, cv, cm) := by
  have e : lvT σ cv cm r = (setF σ r 1000, cv, cm) := if_neg (fun z => z.1 (by rw [h]; exact shf_no σ))
  rw [e, setF_id h]
theorem lf_id {σ : Sg} {r : Nat} (h : ff σ r = 1000) : lfT σ r = σ := by
  have e : lfT σ r = setF σ r 1000 := if_neg (fun z => z.1 h)
  rw [e, setF_id h]
theorem lv_lf {σ : Sg} {cv cm : Nat → Nat} {r : Nat} (hB : Bd σ) (h : ff σ r ≠ 1000 → ss σ (ff σ r) ≠ 1000) : (lvT σ cv cm r).1 = lfT σ r := by
  by_cases q : ff σ r = 1000
  · rw [lv_id q, lf_id q]
  · have hs : shf σ (ff σ r) ≠ 1000 := by rw [show shf σ (ff σ r) = ss σ (ff σ r) from if_pos (f24 hB q)]; exact h q
    by_cases q2 : shr (setF σ r 1000) (ff σ r) = 0
    · have e1 : lvT σ cv cm r = _ := if_pos ⟨hs, q2⟩
      have e2 : lfT σ r = _ := if_pos ⟨q, q2⟩
      rw [e1, e2]
    · have e1 : lvT σ cv cm r = _ := if_neg (fun z => q2 z.2)
      have e2 : lfT σ r = _ := if_neg (fun z => q2 z.2)
      rw [e1, e2]
theorem ff_lv (σ : Sg) (cv cm : Nat → Nat) (r : Nat) : ff (lvT σ cv cm r).1 = va_up (ff σ) r 1000 := by unfold lvT; split <;> rfl
theorem ff_lf (σ : Sg) (r : Nat) : ff (lfT σ r) = va_up (ff σ) r 1000 := by unfold lfT; split <;> rfl
theorem shr_no {σ : Sg} {f q : Nat} (h : shr σ f = 0) (hq : q < nn σ) : ff σ q ≠ f := fun z => absurd (fb_ct_zero.mp h q hq) (by rw [decide_eq_true z]; decide)
theorem shr_yes {σ : Sg} {f : Nat} (h : shr σ f ≠ 0) : ∃ q, q < nn σ ∧ ff σ q = f := by
  obtain ⟨q, h1, h2⟩ := fb_ct_pos.mp (Nat.pos_of_ne_zero h)
  exact ⟨q, h1, of_decide_eq_true h2⟩
theorem J_leave {σ : Sg} {cv cm : Nat → Nat} {r : Nat} (hB : Bd σ) (J : J0 σ cv cm) (hr : r < nn σ) : J0 (lvT σ cv cm r).1 (lvT σ cv cm r).2.1 (lvT σ cv cm r).2.2 := by
  by_cases q : ff σ r = 1000
  · rw [lv_id q]; exact J
  · have f4 := f24 hB q
    obtain ⟨s1, s2⟩ := J_ss hB J hr q
    have hs : shf σ (ff σ r) = ss σ (ff σ r) := if_pos f4
    have hne : shf σ (ff σ r) ≠ 1000 := by omega
    have up0 : ∀ x, va_up (ff σ) r 1000 x ≠ 1000 → x ≠ r ∧ va_up (ff σ) r 1000 x = ff σ x := fun x hx => by
      have e : x ≠ r := fun z => hx (by rw [z, up_s])
      exact ⟨e, up_n e⟩
    by_cases q2 : shr (setF σ r 1000) (ff σ r) = 0
    · have e1 : lvT σ cv cm r = (setS (setF σ r 1000) (ff σ r) 1000, tkF cv cm (ff σ r) (shf σ (ff σ r)) (shf σ (ff σ r) + 16), tkF cm cm (ff σ r) (shf σ (ff σ r)) (shf σ (ff σ r) + 16)) := if_pos ⟨hne, q2⟩
      rw [e1, hs]
      have no : ∀ x, x < nn σ → x ≠ r → ff σ x ≠ ff σ r := fun x hx hxr => by
        have := shr_no q2 hx
        have e : ff (setF σ r 1000) x = ff σ x := up_n hxr
        rw [e] at this; exact this
      have cut : ∀ k, k < 800 → cm k = ff σ r → ss σ (ff σ r) ≤ k ∧ k < ss σ (ff σ r) + 16 := fun k hk hm => by
        obtain ⟨x, c, h1, h2, h3, h4, h5, h6, -⟩ := J_mark hB J hk (by omega)
        have e : x = r := Classical.byContradiction (fun z => no x h1 z (h6.symm.trans hm))
        rw [e] at h5; omega
      have tk : ∀ (g : Nat → Nat) k, k < 800 → tkF g cm (ff σ r) (ss σ (ff σ r)) (ss σ (ff σ r) + 16) k = if cm k = ff σ r then 1000 else g k := fun g k hk => by
        unfold tkF
        by_cases z : cm k = ff σ r
        · obtain ⟨a, b⟩ := cut k hk z
          rw [if_pos ⟨a, b, z⟩, if_pos z]
        · rw [if_neg (fun y => z y.2.2), if_neg z]
      refine ⟨fun x hx hf => ?_, fun k hk hm => ?_, fun k hk hm => ?_, fun f hf hsf => ?_, fun x hx hf => ?_⟩
      · have hx : x < nn σ := hx
        obtain ⟨xr, xe⟩ := up0 x hf
        have hf' : ff σ x ≠ 1000 := by rw [← xe]; exact hf
        obtain ⟨a, b⟩ := J_ss hB J hx hf'
        have nx := no x hx xr
        show hasE _ _ _ (va_up (ff σ) r 1000 x) x = true
        rw [xe]
        refine (hE_iff (f24 hB hf')).mpr ?_
        have es : ss (setS (setF σ r 1000) (ff σ r) 1000) (ff σ x) = ss σ (ff σ x) := up_n nx
        rw [es]
        refine ⟨by omega, fun c hc => ?_⟩
        obtain ⟨b1, b2⟩ := b c hc
        dsimp only
        rw [tk cm _ (by omega), tk cv _ (by omega)]
        by_cases z : cm (ss σ (ff σ x) + c) = ff σ r
        · rw [if_pos z, if_pos z]
          refine ⟨⟨fun y => absurd y.symm hf', fun y => ?_⟩, fun y => absurd y.symm hf'⟩
          have := b1.mpr y
          exact absurd (this.symm.trans z) nx
        · rw [if_neg z, if_neg z]; exact ⟨b1, b2⟩
      · dsimp only at hm
        rw [tk cm k hk] at hm
        by_cases z : cm k = ff σ r
        · rw [if_pos z] at hm; exact absurd rfl hm
        · rw [if_neg z] at hm
          obtain ⟨x, c, h1, h2, h3, h4, h5, h6, -⟩ := J_mark hB J hk hm
          have xr : x ≠ r := fun y => z (by rw [h6, y])
          have e : ff (setS (setF σ r 1000) (ff σ r) 1000) x = ff σ x := up_n xr
          have es : ss (setS (setF σ r 1000) (ff σ r) 1000) (ff σ x) = ss σ (ff σ x) := up_n (no x h1 xr)
          exact ⟨x, c, h1, h2, by rw [e]; exact h3, h4, by rw [e, es]; exact h5⟩
      · dsimp only at hm ⊢
        rw [tk cm k hk] at hm
        rw [tk cv k hk]
        by_cases z : cm k = ff σ r
        · rw [if_pos z]
        · rw [if_neg z] at hm ⊢; exact J.2.2.1 k hk hm
      · have fne : f ≠ ff σ r := fun z => hsf (by rw [z]; exact up_s)
        have es : ss (setS (setF σ r 1000) (ff σ r) 1000) f = ss σ f := up_n fne
        rw [es] at hsf
        obtain ⟨x, h1, h2⟩ := J.2.2.2.1 f hf hsf
        have xr : x ≠ r := fun z => fne (by rw [← h2, z])
        exact ⟨x, h1, (up_n xr).trans h2⟩
      · obtain ⟨xr, xe⟩ := up0 x hf
        exact J.2.2.2.2 x hx (by rw [← xe]; exact hf)
    · have e1 : lvT σ cv cm r = (setF σ r 1000, cv, cm) := if_neg (fun z => q2 z.2)
      rw [e1]
      obtain ⟨y, hy, hyf⟩ := shr_yes q2
      obtain ⟨yr, ye⟩ := up0 y (by show ff (setF σ r 1000) y ≠ 1000; rw [hyf]; exact q)
      have hy : y < nn σ := hy
      have hyf : ff σ y = ff σ r := by rw [← ye]; exact hyf
      refine ⟨fun x hx hf => ?_, fun k hk hm => ?_, J.2.2.1, fun f hf hsf => ?_, fun x hx hf => ?_⟩
      · obtain ⟨xr, xe⟩ := up0 x hf
        have hf' : ff σ x ≠ 1000 := by rw [← xe]; exact hf
        show hasE (setF σ r 1000) cv cm (va_up (ff σ) r 1000 x) x = true
        rw [xe]
        exact J.1 x hx hf'
      · obtain ⟨x, c, h1, h2, h3, h4, h5⟩ := J.2.1 k hk hm
        by_cases xr : x = r
        · rw [xr] at h4 h5
          obtain ⟨-, t2⟩ := J_ss hB J hy (by rw [hyf]; exact q)
          rw [hyf] at t2
          have ey : ent σ y c = true := (t2 c h2).1.mp ((s2 c h2).1.mpr h4)
          have e : ff (setF σ r 1000) y = ff σ r := (up_n yr).trans hyf
          exact ⟨y, c, hy, h2, by rw [e]; exact q, ey, by rw [e]; exact h5⟩
        · have e : ff (setF σ r 1000) x = ff σ x := up_n xr
          exact ⟨x, c, h1, h2, by rw [e]; exact h3, h4, by rw [e]; exact h5⟩
      · obtain ⟨x, h1, h2⟩ := J.2.2.2.1 f hf hsf
        by_cases xr : x = r
        · exact ⟨y, hy, (up_n yr).trans (hyf.trans (by rw [← xr]; exact h2))⟩
        · exact ⟨x, h1, (up_n xr).trans h2⟩
      · obtain ⟨xr, xe⟩ := up0 x hf
        exact J.2.2.2.2 x hx (by rw [← xe]; exact hf)
