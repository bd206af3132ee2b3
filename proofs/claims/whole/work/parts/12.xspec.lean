/-! reading a text, as functions of the text t, its length L and the place -/
def sg (t : Nat → Nat) (L p : Nat) : Nat := if p < L then t p else 0
theorem sg_lt {t : Nat → Nat} (ht : ∀ k, t k < 256) (L p : Nat) : sg t L p < 256 := by
  unfold sg; split
  · exact ht p
  · omega
def dg (t : Nat → Nat) (L p : Nat) : Bool := decide (48 ≤ sg t L p ∧ sg t L p ≤ 57)
theorem dg_t {t : Nat → Nat} {L p : Nat} : dg t L p = true ↔ 48 ≤ sg t L p ∧ sg t L p ≤ 57 := decide_eq_true_iff
theorem dg_f {t : Nat → Nat} {L p : Nat} : dg t L p = false ↔ ¬ (48 ≤ sg t L p ∧ sg t L p ≤ 57) := decide_eq_false_iff_not
theorem dg_lt {t : Nat → Nat} {L p : Nat} (h : dg t L p = true) : p < L := by
  have := dg_t.mp h
  unfold sg at this
  rcases Nat.lt_or_ge p L with q | q
  · exact q
  · rw [if_neg (by omega)] at this; omega
theorem sg_pos {t : Nat → Nat} {L p : Nat} (h : 0 < sg t L p) : p < L := by
  unfold sg at h
  rcases Nat.lt_or_ge p L with q | q
  · exact q
  · rw [if_neg (by omega)] at h; omega
def skF (t : Nat → Nat) (L : Nat) : Nat → Nat → Nat
  | 0, p => p
  | d + 1, p => if p < L ∧ t p = 32 then skF t L d (p + 1) else p
def sk (t : Nat → Nat) (L p : Nat) : Nat := skF t L (L - p) p
theorem sk_t {t : Nat → Nat} {L p : Nat} (h : p < L) (h2 : t p = 32) : sk t L p = sk t L (p + 1) := by
  unfold sk
  obtain ⟨d, e⟩ : ∃ d, L - p = d + 1 := ⟨L - p - 1, by omega⟩
  rw [e, show L - (p + 1) = d by omega]
  show (if p < L ∧ t p = 32 then skF t L d (p + 1) else p) = _
  rw [if_pos ⟨h, h2⟩]
theorem sk_f {t : Nat → Nat} {L p : Nat} (h : ¬ (p < L ∧ t p = 32)) : sk t L p = p := by
  unfold sk
  cases L - p with
  | zero => rfl
  | succ d =>
    show (if p < L ∧ t p = 32 then skF t L d (p + 1) else p) = _
    rw [if_neg h]
theorem skF_b (t : Nat → Nat) (L : Nat) : ∀ d p, p ≤ skF t L d p ∧ (p ≤ L → skF t L d p ≤ L)
  | 0, p => ⟨Nat.le_refl p, fun h => h⟩
  | d + 1, p => by
    obtain ⟨a, b⟩ := skF_b t L d (p + 1)
    unfold skF; split
    · rename_i q
      exact ⟨by omega, fun _ => b (by omega)⟩
    · exact ⟨Nat.le_refl p, fun h => h⟩
theorem sk_ge (t : Nat → Nat) (L p : Nat) : p ≤ sk t L p := (skF_b t L _ p).1
theorem sk_le {t : Nat → Nat} {L p : Nat} (h : p ≤ L) : sk t L p ≤ L := (skF_b t L _ p).2 h
theorem skF_no (t : Nat → Nat) (L : Nat) : ∀ d p, L - p ≤ d → ¬ (skF t L d p < L ∧ t (skF t L d p) = 32)
  | 0, p, h => by show ¬ (p < L ∧ t p = 32); omega
  | d + 1, p, h => by
    unfold skF; split
    · exact skF_no t L d (p + 1) (by omega)
    · assumption
theorem sk_no (t : Nat → Nat) (L p : Nat) : ¬ (sk t L p < L ∧ t (sk t L p) = 32) := skF_no t L _ p (Nat.le_refl _)
theorem sk_sk (t : Nat → Nat) (L p : Nat) : sk t L (sk t L p) = sk t L p := sk_f (sk_no t L p)
def nmW (t : Nat → Nat) (L s : Nat) : Bool := decide (sg t L s - 48 ≠ 0) && dg t L (s + 1)
def nmV (t : Nat → Nat) (L s : Nat) : Nat := if nmW t L s = true then (sg t L s - 48) * 10 + (sg t L (s + 1) - 48) else sg t L s - 48
def nmE (t : Nat → Nat) (L s : Nat) : Nat := if nmW t L s = true then s + 2 else s + 1
/-- a number from the place s on, which is no space: whether there is one, and where the reading stands then -/
def nmO (t : Nat → Nat) (L s : Nat) : Bool := dg t L s && !dg t L (nmE t L s)
def nmP (t : Nat → Nat) (L s : Nat) : Nat := if dg t L s = true then nmE t L s else s
theorem nmO_dg {t : Nat → Nat} {L s : Nat} (h : nmO t L s = true) : dg t L s = true ∧ dg t L (nmE t L s) = false := by
  unfold nmO at h
  rw [Bool.and_eq_true, Bool.not_eq_true'] at h
  exact h
theorem nmV_lt {t : Nat → Nat} {L s : Nat} (h : dg t L s = true) : nmV t L s < 100 := by
  have h1 := dg_t.mp h
  unfold nmV; split
  · rename_i q
    unfold nmW at q
    rw [Bool.and_eq_true] at q
    have h2 := dg_t.mp q.2
    omega
  · omega
theorem nmE_le {t : Nat → Nat} {L s : Nat} (h : dg t L s = true) : nmE t L s ≤ L := by
  have h1 := dg_lt h
  unfold nmE; split
  · rename_i q
    unfold nmW at q
    rw [Bool.and_eq_true] at q
    have h2 := dg_lt q.2
    omega
  · omega
theorem nmP_le {t : Nat → Nat} {L s : Nat} (h : s ≤ L) : nmP t L s ≤ L := by
  unfold nmP; split
  · exact nmE_le (by assumption)
  · exact h
theorem nmP_ge {t : Nat → Nat} {L s : Nat} : s ≤ nmP t L s := by
  unfold nmP nmE; split
  · split <;> omega
  · exact Nat.le_refl s
theorem nmW_0 {t : Nat → Nat} {L s : Nat} (h : sg t L s - 48 = 0) : nmW t L s = false := by
  unfold nmW
  rw [decide_eq_false (p := sg t L s - 48 ≠ 0) (fun z => z h)]; rfl
theorem nmW_f {t : Nat → Nat} {L s : Nat} (h : dg t L (s + 1) = false) : nmW t L s = false := by
  unfold nmW; rw [h, Bool.and_false]
theorem nmW_t {t : Nat → Nat} {L s : Nat} (h : ¬ sg t L s - 48 = 0) (h2 : dg t L (s + 1) = true) : nmW t L s = true := by
  unfold nmW; rw [decide_eq_true (p := sg t L s - 48 ≠ 0) h, h2]; rfl
theorem nmE_f {t : Nat → Nat} {L s : Nat} (h : nmW t L s = false) : nmE t L s = s + 1 := by unfold nmE; rw [h]; rfl
theorem nmE_t {t : Nat → Nat} {L s : Nat} (h : nmW t L s = true) : nmE t L s = s + 1 + 1 := by unfold nmE; rw [h]; rfl
theorem nmV_f {t : Nat → Nat} {L s : Nat} (h : nmW t L s = false) : nmV t L s = sg t L s - 48 := by unfold nmV; rw [h]; rfl
theorem nmV_t {t : Nat → Nat} {L s : Nat} (h : nmW t L s = true) : nmV t L s = (sg t L s - 48) * 10 + (sg t L (s + 1) - 48) := by unfold nmV; rw [h]; rfl
theorem nmO_t {t : Nat → Nat} {L s : Nat} (h : dg t L s = true) (h2 : dg t L (nmE t L s) = false) : nmO t L s = true := by unfold nmO; rw [h, h2]; rfl
theorem nmO_f {t : Nat → Nat} {L s : Nat} (h2 : dg t L (nmE t L s) = true) : nmO t L s = false := by unfold nmO; rw [h2, Bool.not_true, Bool.and_false]
theorem nmO_n {t : Nat → Nat} {L s : Nat} (h : dg t L s = false) : nmO t L s = false := by unfold nmO; rw [h]; rfl
theorem nmP_t {t : Nat → Nat} {L s : Nat} (h : dg t L s = true) : nmP t L s = nmE t L s := by unfold nmP; rw [if_pos h]
theorem nmP_f {t : Nat → Nat} {L s : Nat} (h : dg t L s = false) : nmP t L s = s := by unfold nmP; rw [if_neg (by rw [h]; decide)]
theorem no_t {P : Prop} {b : Bool} (h : b = false) : b = true → P := fun z => absurd (h.symm.trans z) (by decide)
