/-! the grammar, as functions with fuel -/
/-- one entry behind the column bf (1000: none), of a row with the default d: whether it is read, where the reading stands, its column, its value -/
def enO (t : Nat → Nat) (L d bf p : Nat) : Bool × Nat × Nat × Nat :=
  if nmO t L (sk t L p) = false then (false, nmP t L (sk t L p), 0, 0)
  else if ¬ (nmV t L (sk t L p) < 16 ∧ (bf = 1000 ∨ bf < nmV t L (sk t L p))) then (false, sk t L p, 0, 0)
  else if sg t L (sk t L (nmP t L (sk t L p))) ≠ 61 then (false, sk t L (nmP t L (sk t L p)), 0, 0)
  else if nmO t L (sk t L (sk t L (nmP t L (sk t L p)) + 1)) = false then (false, nmP t L (sk t L (sk t L (nmP t L (sk t L p)) + 1)), 0, 0)
  else if nmV t L (sk t L (sk t L (nmP t L (sk t L p)) + 1)) = d then (false, sk t L (sk t L (nmP t L (sk t L p)) + 1), 0, 0)
  else (true, nmP t L (sk t L (sk t L (nmP t L (sk t L p)) + 1)), nmV t L (sk t L p), nmV t L (sk t L (sk t L (nmP t L (sk t L p)) + 1)))
theorem enO_1 {t : Nat → Nat} {L d bf p : Nat} (h : nmO t L (sk t L p) = false) : enO t L d bf p = (false, nmP t L (sk t L p), 0, 0) := if_pos h
theorem enO_2 {t : Nat → Nat} {L d bf p : Nat} (h : nmO t L (sk t L p) = true) (h2 : ¬ (nmV t L (sk t L p) < 16 ∧ (bf = 1000 ∨ bf < nmV t L (sk t L p)))) : enO t L d bf p = (false, sk t L p, 0, 0) := by
  unfold enO; rw [if_neg (by rw [h]; decide), if_pos h2]
theorem enO_3 {t : Nat → Nat} {L d bf p : Nat} (h : nmO t L (sk t L p) = true) (h2 : nmV t L (sk t L p) < 16 ∧ (bf = 1000 ∨ bf < nmV t L (sk t L p))) (h3 : sg t L (sk t L (nmP t L (sk t L p))) ≠ 61) : enO t L d bf p = (false, sk t L (nmP t L (sk t L p)), 0, 0) := by
  unfold enO; rw [if_neg (by rw [h]; decide), if_neg (fun z => z h2), if_pos h3]
theorem enO_4 {t : Nat → Nat} {L d bf p : Nat} (h : nmO t L (sk t L p) = true) (h2 : nmV t L (sk t L p) < 16 ∧ (bf = 1000 ∨ bf < nmV t L (sk t L p))) (h3 : sg t L (sk t L (nmP t L (sk t L p))) = 61) (h4 : nmO t L (sk t L (sk t L (nmP t L (sk t L p)) + 1)) = false) : enO t L d bf p = (false, nmP t L (sk t L (sk t L (nmP t L (sk t L p)) + 1)), 0, 0) := by
  unfold enO; rw [if_neg (by rw [h]; decide), if_neg (fun z => z h2), if_neg (fun z => z h3), if_pos h4]
theorem enO_5 {t : Nat → Nat} {L d bf p : Nat} (h : nmO t L (sk t L p) = true) (h2 : nmV t L (sk t L p) < 16 ∧ (bf = 1000 ∨ bf < nmV t L (sk t L p))) (h3 : sg t L (sk t L (nmP t L (sk t L p))) = 61) (h4 : nmO t L (sk t L (sk t L (nmP t L (sk t L p)) + 1)) = true) (h5 : nmV t L (sk t L (sk t L (nmP t L (sk t L p)) + 1)) = d) : enO t L d bf p = (false, sk t L (sk t L (nmP t L (sk t L p)) + 1), 0, 0) := by
  unfold enO; rw [if_neg (by rw [h]; decide), if_neg (fun z => z h2), if_neg (fun z => z h3), if_neg (by rw [h4]; decide), if_pos h5]
theorem enO_6 {t : Nat → Nat} {L d bf p : Nat} (h : nmO t L (sk t L p) = true) (h2 : nmV t L (sk t L p) < 16 ∧ (bf = 1000 ∨ bf < nmV t L (sk t L p))) (h3 : sg t L (sk t L (nmP t L (sk t L p))) = 61) (h4 : nmO t L (sk t L (sk t L (nmP t L (sk t L p)) + 1)) = true) (h5 : nmV t L (sk t L (sk t L (nmP t L (sk t L p)) + 1)) ≠ d) : enO t L d bf p = (true, nmP t L (sk t L (sk t L (nmP t L (sk t L p)) + 1)), nmV t L (sk t L p), nmV t L (sk t L (sk t L (nmP t L (sk t L p)) + 1))) := by
  unfold enO; rw [if_neg (by rw [h]; decide), if_neg (fun z => z h2), if_neg (fun z => z h3), if_neg (by rw [h4]; decide), if_neg h5]
/-- the entries of the row r, up to its ';' -/
def ens (t : Nat → Nat) (L d r : Nat) : Nat → Nat → Nat → (Nat → Nat) → Option (Bool × Nat × (Nat → Nat))
  | 0, _, _, _ => none
  | n + 1, bf, p, tv =>
    if (enO t L d bf p).1 = false then some (false, (enO t L d bf p).2.1, tv)
    else if sg t L (sk t L (enO t L d bf p).2.1) = 59 then some (true, sk t L (enO t L d bf p).2.1 + 1, va_up tv (r * 16 + (enO t L d bf p).2.2.1) (enO t L d bf p).2.2.2)
    else if sg t L (sk t L (enO t L d bf p).2.1) = 44 then ens t L d r n (enO t L d bf p).2.2.1 (sk t L (enO t L d bf p).2.1 + 1) (va_up tv (r * 16 + (enO t L d bf p).2.2.1) (enO t L d bf p).2.2.2)
    else some (false, sk t L (enO t L d bf p).2.1, va_up tv (r * 16 + (enO t L d bf p).2.2.1) (enO t L d bf p).2.2.2)
theorem ens_f {t : Nat → Nat} {L d r n bf p q x y : Nat} {tv : Nat → Nat} (h : enO t L d bf p = (false, q, x, y)) : ens t L d r (n + 1) bf p tv = some (false, q, tv) := by
  unfold ens; rw [h]; rfl
theorem ens_e {t : Nat → Nat} {L d r n bf p q x y : Nat} {tv : Nat → Nat} (h : enO t L d bf p = (true, q, x, y)) (h2 : sg t L (sk t L q) = 59) : ens t L d r (n + 1) bf p tv = some (true, sk t L q + 1, va_up tv (r * 16 + x) y) := by
  unfold ens; rw [h]
  show (if true = false then _ else if sg t L (sk t L q) = 59 then _ else _) = _
  rw [if_neg (by decide), if_pos h2]
theorem ens_c {t : Nat → Nat} {L d r n bf p q x y : Nat} {tv : Nat → Nat} (h : enO t L d bf p = (true, q, x, y)) (h2 : ¬ sg t L (sk t L q) = 59) (h3 : sg t L (sk t L q) = 44) : ens t L d r (n + 1) bf p tv = ens t L d r n x (sk t L q + 1) (va_up tv (r * 16 + x) y) := by
  rw [ens, h]
  show (if true = false then _ else if sg t L (sk t L q) = 59 then _ else if sg t L (sk t L q) = 44 then _ else _) = _
  rw [if_neg (by decide), if_neg h2, if_pos h3]
theorem ens_x {t : Nat → Nat} {L d r n bf p q x y : Nat} {tv : Nat → Nat} (h : enO t L d bf p = (true, q, x, y)) (h2 : ¬ sg t L (sk t L q) = 59) (h3 : ¬ sg t L (sk t L q) = 44) : ens t L d r (n + 1) bf p tv = some (false, sk t L q, va_up tv (r * 16 + x) y) := by
  rw [ens, h]
  show (if true = false then _ else if sg t L (sk t L q) = 59 then _ else if sg t L (sk t L q) = 44 then _ else _) = _
  rw [if_neg (by decide), if_neg h2, if_neg h3]
/-- behind the ':' of a row -/
def reE (t : Nat → Nat) (L d r n p : Nat) (tv : Nat → Nat) : Option (Bool × Nat × (Nat → Nat)) :=
  if sg t L (sk t L p) = 59 then some (true, sk t L p + 1, tv) else ens t L d r n 1000 (sk t L p) tv
/-- a row's default, and where the ':' is looked for; whether it is allowed -/
def dfO (t : Nat → Nat) (L p : Nat) : Bool := !dg t L p || nmO t L p
def dfV (t : Nat → Nat) (L p : Nat) : Nat := if dg t L p = true then nmV t L p else 0
def dfP (t : Nat → Nat) (L p : Nat) : Nat := if dg t L p = true then nmP t L p else p
def fl16 (tv : Nat → Nat) (r d : Nat) : Nat → Nat := fun j => if r * 16 ≤ j ∧ j < (r + 1) * 16 then d else tv j
/-- a row that begins at p, which is no space -/
def rwE (t : Nat → Nat) (L r n p : Nat) (tv : Nat → Nat) : Option (Bool × Nat × (Nat → Nat)) :=
  if dfO t L p = false then some (false, dfP t L p, tv)
  else if sg t L (sk t L (dfP t L p)) ≠ 58 then some (false, sk t L (dfP t L p), fl16 tv r (dfV t L p))
  else reE t L (dfV t L p) r n (sk t L (dfP t L p) + 1) (fl16 tv r (dfV t L p))
/-- the table: whether it is read, where the reading stands, how many rows, their defaults and values -/
def tbE (t : Nat → Nat) (L room n : Nat) : Nat → Nat → Nat → (Nat → Nat) → (Nat → Nat) → Option (Bool × Nat × Nat × (Nat → Nat) × (Nat → Nat))
  | 0, _, _, _, _ => none
  | k + 1, r, p, td, tv =>
    if L ≤ sk t L p then some (true, sk t L p, r, td, tv)
    else if r = room then some (false, sk t L p, 0, td, tv)
    else match rwE t L r n (sk t L p) tv with
      | none => none
      | some (false, q, _) => some (false, q, 0, td, tv)
      | some (true, q, tv2) => tbE t L room n k (r + 1) q (va_up td r (dfV t L (sk t L p))) tv2
/-! more fuel changes nothing -/
theorem ens_more {t : Nat → Nat} {L d r : Nat} : ∀ (n bf p : Nat) (tv : Nat → Nat) (R : Bool × Nat × (Nat → Nat)), ens t L d r n bf p tv = some R → ens t L d r (n + 1) bf p tv = some R
  | 0, _, _, _, _, h => by cases h
  | n + 1, bf, p, tv, R, h => by
    rw [ens] at h ⊢
    split at h
    · rename_i q; rw [if_pos q]; exact h
    · rename_i q; rw [if_neg q]
      split at h
      · rename_i q; rw [if_pos q]; exact h
      · rename_i q; rw [if_neg q]
        split at h
        · rename_i q; rw [if_pos q]; exact ens_more n _ _ _ _ h
        · rename_i q; rw [if_neg q]; exact h
theorem ens_le {t : Nat → Nat} {L d r : Nat} {n m bf p : Nat} {tv : Nat → Nat} {R : Bool × Nat × (Nat → Nat)} (h : ens t L d r n bf p tv = some R) (hm : n ≤ m) : ens t L d r m bf p tv = some R := by
  obtain ⟨j, rfl⟩ : ∃ j, m = n + j := ⟨m - n, by omega⟩
  induction j with
  | zero => exact h
  | succ j ih => exact ens_more _ _ _ _ _ (ih (by omega))
theorem reE_le {t : Nat → Nat} {L d r : Nat} {n m p : Nat} {tv : Nat → Nat} {R : Bool × Nat × (Nat → Nat)} (h : reE t L d r n p tv = some R) (hm : n ≤ m) : reE t L d r m p tv = some R := by
  unfold reE at h ⊢
  split
  · rename_i q; rw [if_pos q] at h; exact h
  · rename_i q; rw [if_neg q] at h; exact ens_le h hm
theorem rwE_le {t : Nat → Nat} {L r : Nat} {n m p : Nat} {tv : Nat → Nat} {R : Bool × Nat × (Nat → Nat)} (h : rwE t L r n p tv = some R) (hm : n ≤ m) : rwE t L r m p tv = some R := by
  unfold rwE at h ⊢
  split
  · rename_i q; rw [if_pos q] at h; exact h
  · rename_i q; rw [if_neg q] at h
    split
    · rename_i q; rw [if_pos q] at h; exact h
    · rename_i q; rw [if_neg q] at h; exact reE_le h hm
theorem rwE_one {t : Nat → Nat} {L r : Nat} {n m p : Nat} {tv : Nat → Nat} {R S : Bool × Nat × (Nat → Nat)} (h : rwE t L r n p tv = some R) (h2 : rwE t L r m p tv = some S) : R = S := by
  have a := rwE_le h (Nat.le_max_left n m)
  have b := rwE_le h2 (Nat.le_max_right n m)
  rw [a] at b
  exact Option.some.inj b
theorem tbE_u {t : Nat → Nat} {L room n k r p : Nat} {td tv : Nat → Nat} (h1 : ¬ L ≤ sk t L p) (h2 : r ≠ room) : tbE t L room n (k + 1) r p td tv = (match rwE t L r n (sk t L p) tv with
      | none => none
      | some (false, q, _) => some (false, q, 0, td, tv)
      | some (true, q, tv2) => tbE t L room n k (r + 1) q (va_up td r (dfV t L (sk t L p))) tv2) := by
  rw [tbE, if_neg h1, if_neg h2]
theorem tbE_le {t : Nat → Nat} {L room n m : Nat} (hm : n ≤ m) : ∀ (k r p : Nat) (td tv : Nat → Nat) (R : Bool × Nat × Nat × (Nat → Nat) × (Nat → Nat)), tbE t L room n k r p td tv = some R → tbE t L room m k r p td tv = some R
  | 0, _, _, _, _, _, h => by cases h
  | k + 1, r, p, td, tv, R, h => by
    by_cases h1 : L ≤ sk t L p
    · rw [tbE, if_pos h1] at h ⊢; exact h
    · by_cases h2 : r = room
      · rw [tbE, if_neg h1, if_pos h2] at h ⊢; exact h
      · rw [tbE_u h1 h2] at h ⊢
        cases e : rwE t L r n (sk t L p) tv with
        | none => rw [e] at h; cases h
        | some x =>
          rw [e] at h
          rw [rwE_le e hm]
          obtain ⟨b, q, tv2⟩ := x
          cases b with
          | false => exact h
          | true => exact tbE_le hm k _ _ _ _ _ h
theorem tbE_more {t : Nat → Nat} {L room n : Nat} : ∀ (k r p : Nat) (td tv : Nat → Nat) (R : Bool × Nat × Nat × (Nat → Nat) × (Nat → Nat)), tbE t L room n k r p td tv = some R → tbE t L room n (k + 1) r p td tv = some R
  | 0, _, _, _, _, _, h => by cases h
  | k + 1, r, p, td, tv, R, h => by
    by_cases h1 : L ≤ sk t L p
    · rw [tbE, if_pos h1] at h ⊢; exact h
    · by_cases h2 : r = room
      · rw [tbE, if_neg h1, if_pos h2] at h ⊢; exact h
      · rw [tbE_u h1 h2] at h ⊢
        cases e : rwE t L r n (sk t L p) tv with
        | none => rw [e] at h; cases h
        | some x =>
          rw [e] at h
          obtain ⟨b, q, tv2⟩ := x
          cases b with
          | false => exact h
          | true => exact tbE_more k _ _ _ _ _ h
theorem tbE_one {t : Nat → Nat} {L room n m k j r p : Nat} {td tv : Nat → Nat} {R S : Bool × Nat × Nat × (Nat → Nat) × (Nat → Nat)} (h : tbE t L room n k r p td tv = some R) (h2 : tbE t L room m j r p td tv = some S) : R = S := by
  have up : ∀ {a b c : Nat} {X : Bool × Nat × Nat × (Nat → Nat) × (Nat → Nat)}, tbE t L room a b r p td tv = some X → b ≤ c → tbE t L room a c r p td tv = some X := by
    intro a b c X hX hc
    obtain ⟨i, rfl⟩ : ∃ i, c = b + i := ⟨c - b, by omega⟩
    induction i with
    | zero => exact hX
    | succ i ih => exact tbE_more _ _ _ _ _ _ (ih (by omega))
  have a := up (tbE_le (Nat.le_max_left n m) _ _ _ _ _ _ h) (Nat.le_max_left k j)
  have b := up (tbE_le (Nat.le_max_right n m) _ _ _ _ _ _ h2) (Nat.le_max_right k j)
  rw [a] at b
  exact Option.some.inj b
theorem tbE_s {t : Nat → Nat} {L room n n1 k r p q : Nat} {td tv tv2 : Nat → Nat} {R : Bool × Nat × Nat × (Nat → Nat) × (Nat → Nat)} (h1 : ¬ L ≤ sk t L p) (h2 : r ≠ room) (h3 : rwE t L r n1 (sk t L p) tv = some (true, q, tv2)) (h4 : tbE t L room n k (r + 1) q (va_up td r (dfV t L (sk t L p))) tv2 = some R) : tbE t L room (max n n1) (k + 1) r p td tv = some R := by
  rw [tbE_u h1 h2, rwE_le h3 (Nat.le_max_right n n1)]
  exact tbE_le (Nat.le_max_left n n1) _ _ _ _ _ _ h4
theorem tbE_f {t : Nat → Nat} {L room n1 r p q : Nat} {td tv tv2 : Nat → Nat} (h1 : ¬ L ≤ sk t L p) (h2 : r ≠ room) (h3 : rwE t L r n1 (sk t L p) tv = some (false, q, tv2)) : tbE t L room n1 1 r p td tv = some (false, q, 0, td, tv) := by
  rw [tbE_u h1 h2, h3]
theorem tbE_e {t : Nat → Nat} {L room r p : Nat} {td tv : Nat → Nat} (h1 : L ≤ sk t L p) : tbE t L room 0 1 r p td tv = some (true, sk t L p, r, td, tv) := by
  rw [tbE, if_pos h1]
theorem tbE_r {t : Nat → Nat} {L room p : Nat} {td tv : Nat → Nat} (h1 : ¬ L ≤ sk t L p) : tbE t L room 0 1 room p td tv = some (false, sk t L p, 0, td, tv) := by
  rw [tbE, if_neg h1, if_pos rfl]
/-! arguments in a range -/
def inr (x : Int32) (a b : Int) : Bool := decide (a ≤ x.toInt ∧ x.toInt ≤ b)
theorem inr_t {x : Int32} {a b : Int} : inr x a b = true ↔ a ≤ x.toInt ∧ x.toInt ≤ b := decide_eq_true_iff
theorem inr_f {x : Int32} {a b : Int} : inr x a b = false ↔ ¬ (a ≤ x.toInt ∧ x.toInt ≤ b) := decide_eq_false_iff_not
theorem inrn {c : Nat} (hc : c < 2 ^ 31) {b : Nat} : inr (nI c) 0 b = decide (c ≤ b) := by
  unfold inr; rw [nI_toInt hc]
  by_cases h : c ≤ b
  · rw [decide_eq_true h, decide_eq_true ⟨by omega, by omega⟩]
  · rw [decide_eq_false h, decide_eq_false (fun z => h (by omega))]
theorem ii_nle {x : Int32} {n : Nat} (hn : n < 2 ^ 31) : nI n ≤ x ↔ (n : Int) ≤ x.toInt := by rw [i_le, nI_toInt hn]
theorem ii_len {x : Int32} {n : Nat} (hn : n < 2 ^ 31) : x ≤ nI n ↔ x.toInt ≤ (n : Int) := by rw [i_le, nI_toInt hn]
theorem ii_nlt {x : Int32} {n : Nat} (hn : n < 2 ^ 31) : nI n < x ↔ (n : Int) < x.toInt := by rw [i_lt, nI_toInt hn]
theorem ii_ltn {x : Int32} {n : Nat} (hn : n < 2 ^ 31) : x < nI n ↔ x.toInt < (n : Int) := by rw [i_lt, nI_toInt hn]
theorem ii_eqn {x : Int32} {n : Nat} (hn : n < 2 ^ 31) : x = nI n ↔ x.toInt = (n : Int) := by rw [i_eq, nI_toInt hn]
theorem ii_neq {x : Int32} {n : Nat} (hn : n < 2 ^ 31) : nI n = x ↔ (n : Int) = x.toInt := by rw [i_eq, nI_toInt hn]
theorem ii_lt0 {x : Int32} : x < 0 ↔ x.toInt < 0 := by rw [i_lt, t0]
theorem ii_ge0 {x : Int32} : 0 ≤ x ↔ 0 ≤ x.toInt := by rw [i_le, t0]
theorem ii_gt0 {x : Int32} : 0 < x ↔ 0 < x.toInt := by rw [i_lt, t0]
theorem ii_le0 {x : Int32} : x ≤ 0 ↔ x.toInt ≤ 0 := by rw [i_le, t0]
theorem ii_eq0 {x : Int32} : x = 0 ↔ x.toInt = 0 := by rw [i_eq, t0]
/-- an argument in a range is a number -/
theorem inr_n {x : Int32} {b : Nat} (h : inr x 0 b = true) : ∃ n, n ≤ b ∧ x = nI n := by
  have h := inr_t.mp h
  refine ⟨x.toInt.toNat, by omega, ?_⟩
  have hb := fb_rng x
  rw [i_eq, nI_toInt (by omega)]
  omega
