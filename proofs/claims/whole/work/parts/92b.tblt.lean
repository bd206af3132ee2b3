/-! what is read is small -/
theorem enO_lt {t : Nat → Nat} {L d bf p : Nat} (h : (enO t L d bf p).1 = true) : (enO t L d bf p).2.2.2 < 100 := by
  cases h1 : nmO t L (sk t L p) with
  | false => rw [enO_1 h1] at h; exact Bool.noConfusion h
  | true =>
    by_cases h2 : nmV t L (sk t L p) < 16 ∧ (bf = 1000 ∨ bf < nmV t L (sk t L p))
    · by_cases h3 : sg t L (sk t L (nmP t L (sk t L p))) = 61
      · cases h4 : nmO t L (sk t L (sk t L (nmP t L (sk t L p)) + 1)) with
        | false => rw [enO_4 h1 h2 h3 h4] at h; exact Bool.noConfusion h
        | true =>
          by_cases h5 : nmV t L (sk t L (sk t L (nmP t L (sk t L p)) + 1)) = d
          · rw [enO_5 h1 h2 h3 h4 h5] at h; exact Bool.noConfusion h
          · rw [enO_6 h1 h2 h3 h4 h5]; exact nmV_lt (nmO_dg h4).1
      · rw [enO_3 h1 h2 h3] at h; exact Bool.noConfusion h
    · rw [enO_2 h1 h2] at h; exact Bool.noConfusion h
theorem ens_lt {t : Nat → Nat} {L d r : Nat} : ∀ (n bf p : Nat) (tv : Nat → Nat) (R : Bool × Nat × (Nat → Nat)), ens t L d r n bf p tv = some R → (∀ k, tv k < 100) → ∀ k, R.2.2 k < 100
  | 0, _, _, _, _, h, _ => by cases h
  | n + 1, bf, p, tv, R, h, htv => by
    rw [ens] at h
    split at h
    · cases h; exact htv
    · rename_i hne
      have hu : ∀ k, va_up tv (r * 16 + (enO t L d bf p).2.2.1) (enO t L d bf p).2.2.2 k < 100 := up_all (P := fun z => z < 100) htv (enO_lt (Bool.of_not_eq_false hne))
      split at h
      · cases h; exact hu
      · split at h
        · exact ens_lt n _ _ _ _ h hu
        · cases h; exact hu
theorem rwE_lt {t tv : Nat → Nat} {L r n p : Nat} {R : Bool × Nat × (Nat → Nat)} (h : rwE t L r n p tv = some R) (htv : ∀ k, tv k < 100) : ∀ k, R.2.2 k < 100 := by
  have ef : ∀ k, fl16 tv r (dfV t L p) k < 100 := fl16_lt htv (dfV_l _ _ _)
  unfold rwE reE at h
  split at h
  · cases h; exact htv
  · split at h
    · cases h; exact ef
    · split at h
      · cases h; exact ef
      · exact ens_lt _ _ _ _ _ h ef
theorem tbE_lt {t : Nat → Nat} {L room n : Nat} : ∀ {k r p : Nat} {td tv : Nat → Nat} {R : Bool × Nat × Nat × (Nat → Nat) × (Nat → Nat)}, tbE t L room n k r p td tv = some R → (∀ k, td k < 100) → (∀ k, tv k < 100) → (∀ k, R.2.2.2.1 k < 100) ∧ (∀ k, R.2.2.2.2 k < 100)
  | 0, _, _, _, _, _, h, _, _ => by cases h
  | k + 1, r, p, td, tv, R, h, htd, htv => by
    by_cases h1 : L ≤ sk t L p
    · rw [tbE, if_pos h1] at h
      cases h; exact ⟨htd, htv⟩
    · by_cases h2 : r = room
      · rw [tbE, if_neg h1, if_pos h2] at h
        cases h; exact ⟨htd, htv⟩
      · rw [tbE_u h1 h2] at h
        cases e : rwE t L r n (sk t L p) tv with
        | none => rw [e] at h; cases h
        | some x =>
          rw [e] at h
          obtain ⟨b, q, tv2⟩ := x
          cases b with
          | false => cases h; exact ⟨htd, htv⟩
          | true => exact tbE_lt h (up_all (P := fun z => z < 100) htd (dfV_l _ _ _)) (rwE_lt e htv)
