/-! the reference's row of numbers, and what it says of a state -/
def Rel (σ : Sg) (f : Nat → Int32) : Prop := f 0 = nI (nn σ) ∧ (∀ r, r < nn σ → f (1 + r) = nI (dd σ r)) ∧ (∀ r, r < nn σ → f (25 + r) = nI (cols σ r)) ∧ (∀ r, r < nn σ → f (49 + r) = e1 (ff σ r)) ∧ (∀ r c, r < nn σ → c < 16 → ent σ r c = true → f (73 + 16 * r + c) = nI (vv σ (r * 16 + c))) ∧ (∀ k, k < 24 → f (457 + k) = e1 (ss σ k))
theorem Rel.n {σ : Sg} {f : Nat → Int32} (h : Rel σ f) : f 0 = nI (nn σ) := h.1
theorem Rel.d {σ : Sg} {f : Nat → Int32} (h : Rel σ f) {r : Nat} (hr : r < nn σ) : f (1 + r) = nI (dd σ r) := h.2.1 r hr
theorem Rel.e {σ : Sg} {f : Nat → Int32} (h : Rel σ f) {r : Nat} (hr : r < nn σ) : f (25 + r) = nI (cols σ r) := h.2.2.1 r hr
theorem Rel.f {σ : Sg} {f : Nat → Int32} (h : Rel σ f) {r : Nat} (hr : r < nn σ) : f (49 + r) = e1 (ff σ r) := h.2.2.2.1 r hr
theorem Rel.v {σ : Sg} {f : Nat → Int32} (h : Rel σ f) {r c : Nat} (hr : r < nn σ) (hc : c < 16) (he : ent σ r c = true) : f (73 + 16 * r + c) = nI (vv σ (r * 16 + c)) := h.2.2.2.2.1 r c hr hc he
theorem Rel.s {σ : Sg} {f : Nat → Int32} (h : Rel σ f) {k : Nat} (hk : k < 24) : f (457 + k) = e1 (ss σ k) := h.2.2.2.2.2 k hk
theorem cols_bit (σ : Sg) (r : Nat) {c : Nat} (hc : c < 16) : (cols σ r).testBit c = ent σ r c := msk_bit _ _ _ hc
theorem u_s {f : Nat → Int32} {k : Nat} {x : Int32} : upd f k x k = x := if_pos rfl
theorem u_n {f : Nat → Int32} {k j : Nat} {x : Int32} (h : j ≠ k) : upd f k x j = f j := if_neg h
theorem cols_cong {σ τ : Sg} {r : Nat} (h : ∀ c, c < 16 → ent σ r c = ent τ r c) : cols σ r = cols τ r := msk_cong h
/-- a row's form is changed -/
theorem Rel_setF {σ : Sg} {f : Nat → Int32} (h : Rel σ f) (hn : nn σ ≤ 24) {r g : Nat} (hr : r < 24) : Rel (setF σ r g) (upd f (49 + r) (e1 g)) := by
  refine ⟨?_, fun q hq => ?_, fun q hq => ?_, fun q hq => ?_, fun q c hq hc he => ?_, fun k hk => ?_⟩
  · rw [u_n (by omega)]; exact h.n
  · have hq' : q < nn σ := hq
    rw [u_n (by omega)]; exact h.d hq'
  · have hq' : q < nn σ := hq
    rw [u_n (by omega)]; exact h.e hq'
  · have hq' : q < nn σ := hq
    by_cases e : q = r
    · subst e
      rw [u_s]
      show e1 g = e1 (va_up (ff σ) q g q)
      rw [up_s]
    · rw [u_n (by omega), h.f hq']
      show e1 _ = e1 (va_up (ff σ) r g q)
      rw [up_n e]
  · have hq' : q < nn σ := hq
    rw [u_n (by omega)]; exact h.v hq' hc he
  · rw [u_n (by omega)]; exact h.s hk
theorem Rel_setS {σ : Sg} {f : Nat → Int32} (h : Rel σ f) (hn : nn σ ≤ 24) {k g : Nat} (hk : k < 24) : Rel (setS σ k g) (upd f (457 + k) (e1 g)) := by
  refine ⟨?_, fun q hq => ?_, fun q hq => ?_, fun q hq => ?_, fun q c hq hc he => ?_, fun j hj => ?_⟩
  · rw [u_n (by omega)]; exact h.n
  · have hq' : q < nn σ := hq
    rw [u_n (by omega)]; exact h.d hq'
  · have hq' : q < nn σ := hq
    rw [u_n (by omega)]; exact h.e hq'
  · have hq' : q < nn σ := hq
    rw [u_n (by omega)]; exact h.f hq'
  · have hq' : q < nn σ := hq
    rw [u_n (by omega)]; exact h.v hq' hc he
  · by_cases e : j = k
    · subst e
      rw [u_s]
      show e1 g = e1 (va_up (ss σ) j g j)
      rw [up_s]
    · rw [u_n (by omega), h.s hj]
      show e1 _ = e1 (va_up (ss σ) k g j)
      rw [up_n e]
/-! ranges of arguments -/
def ing (x a b : Int32) : Bool := decide (a ≤ x ∧ x ≤ b)
theorem ing_n {x : Int32} {a b : Nat} (ha : a < 2 ^ 31) (hb : b < 2 ^ 31) : ing x (nI a) (nI b) = inr x a b :=
  decide_eq_decide.mpr ⟨fun h => ⟨(ii_nle ha).mp h.1, (ii_len hb).mp h.2⟩, fun h => ⟨(ii_nle ha).mpr h.1, (ii_len hb).mpr h.2⟩⟩
theorem ing_1 {x : Int32} {n : Nat} (hn : n ≤ 24) : ing x (nI 0) (nI n - nI 1) = inr x 0 ((n : Int) - 1) := by
  have e : x ≤ nI n - nI 1 ↔ x.toInt ≤ (n : Int) - 1 := by rw [i_le, pk_sub_toInt (by omega) (by decide)]; rfl
  exact decide_eq_decide.mpr ⟨fun h => ⟨(ii_nle (by decide)).mp h.1, e.mp h.2⟩, fun h => ⟨(ii_nle (by decide)).mpr h.1, e.mpr h.2⟩⟩
/-! two rows with the same entries -/
noncomputable def alk (σ : Sg) (a b : Nat) : Bool := dcd (∀ c, c < 16 → ent σ a c = ent σ b c ∧ (ent σ a c = true → vv σ (a * 16 + c) = vv σ (b * 16 + c)))
theorem cols_ext {σ : Sg} {a b : Nat} (h : cols σ a = cols σ b) {c : Nat} (hc : c < 16) : ent σ a c = ent σ b c := by
  rw [← cols_bit σ a hc, ← cols_bit σ b hc, h]
theorem and_half (a b : Nat) : (a &&& b) / 2 = a / 2 &&& b / 2 := by
  have h := Nat.shiftRight_and_distrib (a := a) (b := b) (i := 1)
  simpa [Nat.shiftRight_eq_div_pow] using h
theorem and_odd (a b : Nat) : (a &&& b) % 2 = a &&& (b % 2) := by
  rw [← Nat.and_one_is_mod, ← Nat.and_one_is_mod, Nat.and_assoc]
theorem bc_dec : ∀ (d k : Nat), k < 2 ^ d → ¬ k = 0 → bc_p d (k &&& (k - 1)) + 1 = bc_p d k
  | 0, k, h, h0 => by rw [Nat.pow_zero] at h; omega
  | d + 1, k, h, h0 => by
    show bc_p d ((k &&& (k - 1)) / 2) + (k &&& (k - 1)) % 2 + 1 = bc_p d (k / 2) + k % 2
    rw [and_half, and_odd]
    rw [Nat.pow_succ] at h
    rcases Nat.mod_two_eq_zero_or_one k with q | q
    · have e1 : (k - 1) % 2 = 1 := by omega
      have e2 : (k - 1) / 2 = k / 2 - 1 := by omega
      rw [e1, e2, Nat.and_one_is_mod, q]
      have := bc_dec d (k / 2) (by omega) (by omega)
      omega
    · have e1 : (k - 1) % 2 = 0 := by omega
      have e2 : (k - 1) / 2 = k / 2 := by omega
      rw [e1, e2, Nat.and_zero, Nat.and_self, q]
theorem pop_dec {k : Nat} (hk : k < 65536) (h0 : ¬ k = 0) : pop (k &&& (k - 1)) + 1 = pop k := by
  unfold pop
  rw [← bc_pop, ← bc_pop]
  exact bc_dec 16 k (by omega) h0
noncomputable def ftR (cm : Nat → Nat) (m : Nat) : Nat := if ffit cm m = 1000 then 784 else ffit cm m
theorem ftR_le (cm : Nat → Nat) (m : Nat) : ftR cm m ≤ 784 := by
  unfold ftR
  have := ffit_le cm m
  split <;> omega
