/-! a row gets a form -/
theorem mn_spec (σ : Sg) (r : Nat) : ∀ n, (mnF σ r n = 1000 ∧ ∀ k, k < n → ¬ (k ≠ r ∧ ff σ k ≠ 1000 ∧ alk σ k r = true)) ∨ ((∃ k, k < n ∧ k ≠ r ∧ ff σ k ≠ 1000 ∧ alk σ k r = true ∧ mnF σ r n = ff σ k) ∧ ∀ k, k < n → (k ≠ r ∧ ff σ k ≠ 1000 ∧ alk σ k r = true) → mnF σ r n ≤ ff σ k)
  | 0 => Or.inl ⟨rfl, fun k hk => absurd hk (Nat.not_lt_zero k)⟩
  | n + 1 => by
    have ih := mn_spec σ r n
    by_cases c : n ≠ r ∧ ff σ n ≠ 1000 ∧ alk σ n r = true ∧ (mnF σ r n = 1000 ∨ ff σ n < mnF σ r n)
    · have e := mnF_t c
      refine Or.inr ⟨⟨n, Nat.lt_succ_self n, c.1, c.2.1, c.2.2.1, e.symm⟩, fun k hk hP => ?_⟩
      rw [← e]
      rcases Nat.lt_or_ge k n with q | q
      · rcases ih with ⟨-, h⟩ | ⟨⟨k2, -, -, h3, -, h5⟩, h⟩
        · exact absurd hP (h k q)
        · have := h k q hP
          rcases c.2.2.2 with z | z
          · exact absurd (h5.symm.trans z) h3
          · omega
      · obtain rfl : k = n := by omega
        exact Nat.le_refl _
    · have e := mnF_f c
      rw [← e]
      rcases ih with ⟨h0, h⟩ | ⟨⟨k2, h1, h2, h3, h4, h5⟩, h⟩
      · refine Or.inl ⟨h0, fun k hk hP => ?_⟩
        rcases Nat.lt_or_ge k n with q | q
        · exact h k q hP
        · obtain rfl : k = n := by omega
          exact c ⟨hP.1, hP.2.1, hP.2.2, Or.inl h0⟩
      · refine Or.inr ⟨⟨k2, by omega, h2, h3, h4, h5⟩, fun k hk hP => ?_⟩
        rcases Nat.lt_or_ge k n with q | q
        · exact h k q hP
        · obtain rfl : k = n := by omega
          exact Nat.le_of_not_lt (fun z => c ⟨hP.1, hP.2.1, hP.2.2, Or.inr z⟩)
theorem hE_alk {σ : Sg} {cv cm : Nat → Nat} {f r : Nat} (hB : Bd σ) (J : J0 σ cv cm) (hf : f < 24) : hasE σ cv cm f r = true ↔ ∃ q, q < nn σ ∧ ff σ q = f ∧ ff σ q ≠ 1000 ∧ alk σ q r = true := by
  rw [hE_iff hf]
  constructor
  · rintro ⟨h1, h2⟩
    obtain ⟨q, q1, q2⟩ := J.2.2.2.1 f hf h1
    have q3 : ff σ q ≠ 1000 := by omega
    obtain ⟨-, t⟩ := J_ss hB J q1 q3
    rw [q2] at t
    refine ⟨q, q1, q2, q3, dcd_t.mpr (fun c hc => ?_)⟩
    obtain ⟨a1, a2⟩ := h2 c hc
    obtain ⟨b1, b2⟩ := t c hc
    exact ⟨Bool.eq_iff_iff.mpr (b1.symm.trans a1), fun he => (b2 (b1.mpr he)).symm.trans (a2 (b1.mpr he))⟩
  · rintro ⟨q, q1, q2, q3, q4⟩
    obtain ⟨s1, t⟩ := J_ss hB J q1 q3
    rw [q2] at s1 t
    refine ⟨by omega, fun c hc => ?_⟩
    obtain ⟨b1, b2⟩ := t c hc
    obtain ⟨a1, a2⟩ := dcd_t.mp q4 c hc
    exact ⟨by rw [b1, a1], fun hm => (b2 hm).trans (a2 (b1.mp hm))⟩
theorem fwe_mn {σ : Sg} {cv cm : Nat → Nat} {r : Nat} (hB : Bd σ) (J : J0 σ cv cm) (hff : ff σ r = 1000) : fwe σ cv cm r = mnF σ r (nn σ) := by
  have hne : ∀ q, ff σ q ≠ 1000 → q ≠ r := fun q hq e => hq (e ▸ hff)
  rcases mn_spec σ r (nn σ) with ⟨e, h⟩ | ⟨⟨k, h1, h2, h3, h4, h5⟩, h⟩
  · rw [e]
    refine fst?_none (fun f hf => Bool.eq_false_iff.mpr (fun z => ?_))
    obtain ⟨q, q1, q2, q3, q4⟩ := (hE_alk hB J hf).mp z
    exact h q q1 ⟨hne q q3, q3, q4⟩
  · rw [h5]
    refine fst?_some (f24 hB h3) ((hE_alk hB J (f24 hB h3)).mpr ⟨k, h1, rfl, h3, h4⟩) (fun j hj => Bool.eq_false_iff.mpr (fun z => ?_))
    have := f24 hB h3
    obtain ⟨q, q1, q2, q3, q4⟩ := (hE_alk hB J (show j < 24 by omega)).mp z
    have := h q q1 ⟨hne q q3, q3, q4⟩
    omega
theorem fr_ok {σ : Sg} {cv cm : Nat → Nat} {r : Nat} (hB : Bd σ) (J : J0 σ cv cm) (hr : r < nn σ) (hff : ff σ r = 1000) : frf σ ≠ 1000 := by
  intro e
  have hn : ∀ f, f < 24 → ss σ f ≠ 1000 := fun f hf => of_decide_eq_false (fst?_no (by decide) e hf)
  have h24 := hB.n
  have := php (n := 24) (m := 23) (B := fun f y => ∃ q, q < nn σ ∧ q ≠ r ∧ ff σ q = f ∧ y = if q < r then q else q - 1) (fun f hf => by
    obtain ⟨q, q1, q2⟩ := J.2.2.2.1 f hf (hn f hf)
    have qr : q ≠ r := fun z => by rw [z, hff] at q2; omega
    refine ⟨if q < r then q else q - 1, ?_, q, q1, qr, q2, rfl⟩
    split <;> omega) (by
    rintro i j y ⟨q, q1, q2, q3, q4⟩ ⟨x, x1, x2, x3, x4⟩
    have e : q = x := by
      rw [q4] at x4
      split at x4 <;> split at x4 <;> omega
    rw [← q3, ← x3, e])
  omega
theorem ft_some {σ : Sg} {cv cm : Nat → Nat} (hB : Bd σ) (J : J0 σ cv cm) (m : Nat) : ffit cm m ≠ 1000 := by
  intro e
  have h24 := hB.n
  have := php (n := 25) (m := 24) (B := fun i q => ∃ c c', c < 16 ∧ c' < 16 ∧ 32 * i + c = ss σ (ff σ q) + c') (fun i hi => by
    obtain ⟨c, c1, -, c3⟩ := fitb_f.mp (fst?_no (by decide) e (show 32 * i < 785 by omega))
    obtain ⟨q, c', q1, q2, -, -, q5, -⟩ := J_mark hB J (show 32 * i + c < 800 by omega) c3
    exact ⟨q, by omega, c, c', c1, q2, q5⟩) (by
    rintro i j q ⟨c, c', h1, h2, h3⟩ ⟨d, d', g1, g2, g3⟩
    omega)
  omega
theorem ft_cong {cm cm2 : Nat → Nat} (h : ∀ k, k < 800 → cm2 k = cm k) (m : Nat) : ffit cm2 m = ffit cm m := by
  refine fst?_cong (by decide) (fun s hs => ?_)
  have e : fb_ct (fun c => m.testBit c && nem cm2 (s + c)) 16 = fb_ct (fun c => m.testBit c && nem cm (s + c)) 16 := fb_ct_cong (fun c hc => by unfold nem; rw [h (s + c) (by omega)])
  unfold fitb; rw [e]
theorem ftR_at {σ : Sg} {cv cm : Nat → Nat} (hB : Bd σ) (J : J0 σ cv cm) (m : Nat) : ftR (rsM σ) m = ffit cm m := by
  have e : ffit (rsM σ) m = ffit cm m := ft_cong (fun k hk => (J_rs hB J hk).1) m
  unfold ftR
  rw [e, if_neg (ft_some hB J m)]
noncomputable def nwT (σ : Sg) (cv cm : Nat → Nat) (r : Nat) : Tb := if cols σ r = 0 then (σ, cv, cm) else if fwe σ cv cm r = 1000 then pnT (setF σ r 1000) cv cm r (cols σ r) else (setF σ r (fwe σ cv cm r), cv, cm)
theorem st_nw {σ : Sg} {cv cm : Nat → Nat} {r : Nat} (h : hasE σ cv cm (ff σ r) r = false) : stT σ cv cm r = nwT (lvT σ cv cm r).1 (lvT σ cv cm r).2.1 (lvT σ cv cm r).2.2 r := by
  have e : stT σ cv cm r = _ := if_neg (by rw [h]; decide)
  rw [e]; rfl
theorem FP_ok {σ : Sg} {cv cm : Nat → Nat} {r : Nat} (hB : Bd σ) (J : J0 σ cv cm) (hr : r < nn σ) (hff : ff σ r = 1000) : FP σ r := ⟨J_t1 hB J, fun _ _ => fr_ok hB J hr hff⟩
/-- a new form is pushed -/
theorem J_push {σ : Sg} {cv cm : Nat → Nat} {r f s : Nat} (hB : Bd σ) (J : J0 σ cv cm) (hr : r < nn σ) (hff : ff σ r = 1000) (hc : cols σ r ≠ 0) (hf : f < 24) (hsf : ss σ f = 1000) (hs : s ≤ 784) (hft : fitb cm (cols σ r) s = true) :
    J0 (setS (setF σ r f) f s) (flV (setS (setF σ r f) f s) cv r s 16) (flM (setS (setF σ r f) f s) cm r s 16) := by
  have hft := fitb_t.mp hft
  have fr : ff (setS (setF σ r f) f s) r = f := up_s
  have fx : ∀ x, x ≠ r → ff (setS (setF σ r f) f s) x = ff σ x := fun x hx => up_n hx
  have sf : ss (setS (setF σ r f) f s) f = s := up_s
  have sx : ∀ x, x ≠ f → ss (setS (setF σ r f) f s) x = ss σ x := fun x hx => up_n hx
  have hnf : ∀ x, x < nn σ → ff σ x ≠ 1000 → ff σ x ≠ f := fun x hx h1 e => by
    have := (J_ss hB J hx h1).1
    rw [e] at this; omega
  have hne : ∀ q, ff σ q ≠ 1000 → q ≠ r := fun q hq e => hq (e ▸ hff)
  have new : ∀ k, s ≤ k ∧ k < s + 16 ∧ ent σ r (k - s) = true → cm k = 1000 := fun k ⟨a, b, c⟩ => by
    have := hft (k - s) (by omega) (by rw [cols_bit σ r (by omega)]; exact c)
    rw [show s + (k - s) = k by omega] at this
    exact this
  have cM : ∀ k, flM (setS (setF σ r f) f s) cm r s 16 k = if s ≤ k ∧ k < s + 16 ∧ ent σ r (k - s) = true then f else cm k := fun k => by
    show (if s ≤ k ∧ k < s + 16 ∧ ent σ r (k - s) = true then ff (setS (setF σ r f) f s) r else cm k) = _
    rw [fr]
  have cV : ∀ k, flV (setS (setF σ r f) f s) cv r s 16 k = if s ≤ k ∧ k < s + 16 ∧ ent σ r (k - s) = true then vv σ (r * 16 + (k - s)) else cv k := fun k => rfl
  refine ⟨fun x hx hfx => ?_, fun k hk hm => ?_, fun k hk hm => ?_, fun g hg hsg => ?_, fun x hx hfx => ?_⟩
  · by_cases xr : x = r
    · subst xr
      rw [fr]
      refine (hE_iff hf).mpr ?_
      rw [sf]
      refine ⟨by omega, fun c hc => ?_⟩
      rw [cM, cV]
      show ((if s ≤ s + c ∧ s + c < s + 16 ∧ ent σ x (s + c - s) = true then f else cm (s + c)) = f ↔ ent σ x c = true) ∧ ((if s ≤ s + c ∧ s + c < s + 16 ∧ ent σ x (s + c - s) = true then f else cm (s + c)) = f → _ = vv σ (x * 16 + c))
      rw [show s + c - s = c by omega]
      by_cases z : ent σ x c = true
      · rw [if_pos ⟨by omega, by omega, z⟩, if_pos ⟨by omega, by omega, z⟩]
        exact ⟨⟨fun _ => z, fun _ => rfl⟩, fun _ => rfl⟩
      · rw [if_neg (fun y => z y.2.2), if_neg (fun y => z y.2.2)]
        have nf : cm (s + c) ≠ f := fun y => by
          have := J_used hB J (show s + c < 800 by omega) (by omega)
          rw [y] at this; exact this hsf
        exact ⟨⟨fun y => absurd y nf, fun y => absurd y z⟩, fun y => absurd y nf⟩
    · have hx : x < nn σ := hx
      rw [fx x xr] at hfx ⊢
      obtain ⟨s1, t⟩ := J_ss hB J hx hfx
      have nf := hnf x hx hfx
      refine (hE_iff (f24 hB hfx)).mpr ?_
      rw [sx _ nf]
      refine ⟨by omega, fun c hc => ?_⟩
      obtain ⟨b1, b2⟩ := t c hc
      rw [cM, cV]
      by_cases z : s ≤ ss σ (ff σ x) + c ∧ ss σ (ff σ x) + c < s + 16 ∧ ent σ r (ss σ (ff σ x) + c - s) = true
      · rw [if_pos z]
        have e0 := new _ z
        refine ⟨⟨fun y => absurd y.symm nf, fun y => ?_⟩, fun y => absurd y.symm nf⟩
        exact absurd ((b1.mpr y).symm.trans e0) hfx
      · rw [if_neg z, if_neg z]; exact ⟨b1, b2⟩
  · rw [cM] at hm
    by_cases z : s ≤ k ∧ k < s + 16 ∧ ent σ r (k - s) = true
    · exact ⟨r, k - s, hr, by omega, by rw [fr]; omega, z.2.2, by rw [fr, sf]; omega⟩
    · rw [if_neg z] at hm
      obtain ⟨x, c, h1, h2, h3, h4, h5⟩ := J.2.1 k hk hm
      exact ⟨x, c, h1, h2, by rw [fx x (hne x h3)]; exact h3, h4, by rw [fx x (hne x h3), sx _ (hnf x h1 h3)]; exact h5⟩
  · rw [cM] at hm
    rw [cV]
    by_cases z : s ≤ k ∧ k < s + 16 ∧ ent σ r (k - s) = true
    · rw [if_pos z] at hm; omega
    · rw [if_neg z] at hm
      rw [if_neg z]; exact J.2.2.1 k hk hm
  · by_cases gf : g = f
    · exact ⟨r, hr, by rw [fr, gf]⟩
    · rw [sx g gf] at hsg
      obtain ⟨x, h1, h2⟩ := J.2.2.2.1 g hg hsg
      exact ⟨x, h1, by rw [fx x (hne x (by omega))]; exact h2⟩
  · by_cases xr : x = r
    · rw [xr]; exact hc
    · rw [fx x xr] at hfx
      exact J.2.2.2.2 x hx hfx
theorem J_share {σ : Sg} {cv cm : Nat → Nat} {r f : Nat} (hB : Bd σ) (J : J0 σ cv cm) (hff : ff σ r = 1000) (hc : cols σ r ≠ 0) (hf : f < 24) (hE : hasE σ cv cm f r = true) : J0 (setF σ r f) cv cm := by
  have hne : ∀ q, ff σ q ≠ 1000 → q ≠ r := fun q hq e => hq (e ▸ hff)
  have fr : ff (setF σ r f) r = f := up_s
  have fx : ∀ x, x ≠ r → ff (setF σ r f) x = ff σ x := fun x hx => up_n hx
  refine ⟨fun x hx hfx => ?_, fun k hk hm => ?_, J.2.2.1, fun g hg hsg => ?_, fun x hx hfx => ?_⟩
  · by_cases xr : x = r
    · subst xr; rw [fr]; exact hE
    · rw [fx x xr] at hfx ⊢; exact J.1 x hx hfx
  · obtain ⟨x, c, h1, h2, h3, h4, h5⟩ := J.2.1 k hk hm
    exact ⟨x, c, h1, h2, by rw [fx x (hne x h3)]; exact h3, h4, by rw [fx x (hne x h3)]; exact h5⟩
  · obtain ⟨x, h1, h2⟩ := J.2.2.2.1 g hg hsg
    exact ⟨x, h1, by rw [fx x (hne x (by omega))]; exact h2⟩
  · by_cases xr : x = r
    · rw [xr]; exact hc
    · rw [fx x xr] at hfx; exact J.2.2.2.2 x hx hfx
theorem nw_all {σ : Sg} {cv cm : Nat → Nat} {r : Nat} (hB : Bd σ) (J : J0 σ cv cm) (hr : r < nn σ) (hff : ff σ r = 1000) :
    (nwT σ cv cm r).1 = fmT σ r ∧ J0 (nwT σ cv cm r).1 (nwT σ cv cm r).2.1 (nwT σ cv cm r).2.2 ∧ (ff (fmT σ r) r = 1000 → cols σ r = 0) ∧ ∀ q, q ≠ r → ff (fmT σ r) q = ff σ q := by
  by_cases hc : cols σ r = 0
  · have e1 : nwT σ cv cm r = (σ, cv, cm) := if_pos hc
    have e2 : fmT σ r = σ := by rw [fm_1 hc, setF_id hff]
    rw [e1, e2]
    exact ⟨rfl, J, fun _ => hc, fun _ _ => rfl⟩
  · have hfw := fwe_mn hB J hff
    by_cases hq : fwe σ cv cm r = 1000
    · have hfr := fr_ok hB J hr hff
      obtain ⟨f1, f2, -⟩ := frf_yes hfr
      have hft := ft_some hB J (cols σ r)
      obtain ⟨t1, t2, -⟩ := fst?_yes hft
      have t1 : ffit cm (cols σ r) ≤ 784 := Nat.le_of_lt_succ t1
      have efm : fmT σ r = setS (setF σ r (frf σ)) (frf σ) (ffit cm (cols σ r)) := by
        rw [fm_2 hc (hfw.symm.trans hq) rfl]
        unfold fmS
        rw [ftR_at hB J]
      have ess : shf (setS (setF σ r (frf σ)) (frf σ) (ffit cm (cols σ r))) (ff (setS (setF σ r (frf σ)) (frf σ) (ffit cm (cols σ r))) r) = ffit cm (cols σ r) := by
        have a : ff (setS (setF σ r (frf σ)) (frf σ) (ffit cm (cols σ r))) r = frf σ := up_s
        rw [a]
        have b : shf (setS (setF σ r (frf σ)) (frf σ) (ffit cm (cols σ r))) (frf σ) = ss (setS (setF σ r (frf σ)) (frf σ) (ffit cm (cols σ r))) (frf σ) := if_pos f1
        rw [b]; exact up_s
      have e1 : nwT σ cv cm r = (setS (setF σ r (frf σ)) (frf σ) (ffit cm (cols σ r)), flV (setS (setF σ r (frf σ)) (frf σ) (ffit cm (cols σ r))) cv r (ffit cm (cols σ r)) 16, flM (setS (setF σ r (frf σ)) (frf σ) (ffit cm (cols σ r))) cm r (ffit cm (cols σ r)) 16) := by
        unfold nwT
        rw [if_neg hc, if_pos hq, setF_id hff]
        unfold pnT
        rw [if_neg (fun z => z.elim hfr hft)]
        unfold fcT
        rw [ess, if_neg hft]
      rw [e1, efm]
      refine ⟨rfl, J_push hB J hr hff hc f1 f2 t1 t2, fun z => ?_, fun q hq => up_n hq⟩
      have a : ff (setS (setF σ r (frf σ)) (frf σ) (ffit cm (cols σ r))) r = frf σ := up_s
      rw [a] at z; exact absurd z hfr
    · have e1 : nwT σ cv cm r = (setF σ r (fwe σ cv cm r), cv, cm) := by
        unfold nwT
        rw [if_neg hc, if_neg hq]
      have e2 : fmT σ r = setF σ r (fwe σ cv cm r) := fm_3 hc hfw hq
      obtain ⟨q1, q2, -⟩ := fst?_yes hq
      rw [e1, e2]
      refine ⟨rfl, J_share hB J hff hc q1 q2, fun z => ?_, fun q hq => up_n hq⟩
      have a : ff (setF σ r (fwe σ cv cm r)) r = fwe σ cv cm r := up_s
      rw [a] at z; exact absurd z hq
