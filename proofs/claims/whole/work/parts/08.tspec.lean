/-! what the table's methods do, as functions -/
noncomputable def dcd (P : Prop) : Bool := @decide P (Classical.propDecidable P)
theorem dcd_t {P : Prop} : dcd P = true ↔ P := @decide_eq_true_iff P (Classical.propDecidable P)
theorem dcd_f {P : Prop} : dcd P = false ↔ ¬ P := @decide_eq_false_iff_not P (Classical.propDecidable P)
abbrev Tb : Type := Sg × (Nat → Nat) × (Nat → Nat)
abbrev setF (σ : Sg) (r f : Nat) : Sg := (nn σ, dd σ, vv σ, va_up (ff σ) r f, ss σ)
abbrev setS (σ : Sg) (f s : Nat) : Sg := (nn σ, dd σ, vv σ, ff σ, va_up (ss σ) f s)
theorem up_all {P : Nat → Prop} {g : Nat → Nat} (h : ∀ k, P (g k)) {k x : Nat} (hx : P x) : ∀ j, P (va_up g k x j) := fun j => by
  unfold va_up; split
  · exact hx
  · exact h j
theorem Bd_setF {σ : Sg} (h : Bd σ) {r f : Nat} (hf : f < 24 ∨ f = 1000) : Bd (setF σ r f) := ⟨h.1, h.2.1, h.2.2.1, up_all (P := fun x => x < 24 ∨ x = 1000) h.2.2.2.1 hf, h.2.2.2.2⟩
theorem Bd_setS {σ : Sg} (h : Bd σ) {f s : Nat} (hf : s ≤ 784 ∨ s = 1000) : Bd (setS σ f s) := ⟨h.1, h.2.1, h.2.2.1, h.2.2.2.1, up_all (P := fun x => x ≤ 784 ∨ x = 1000) h.2.2.2.2 hf⟩
def lvT (σ : Sg) (cv cm : Nat → Nat) (r : Nat) : Tb :=
  if shf σ (ff σ r) ≠ 1000 ∧ shr (setF σ r 1000) (ff σ r) = 0 then (setS (setF σ r 1000) (ff σ r) 1000, tkF cv cm (ff σ r) (shf σ (ff σ r)) (shf σ (ff σ r) + 16), tkF cm cm (ff σ r) (shf σ (ff σ r)) (shf σ (ff σ r) + 16))
  else (setF σ r 1000, cv, cm)
/-- a form has the entries of a row -/
noncomputable def hasE (σ : Sg) (cv cm : Nat → Nat) (f r : Nat) : Bool := dcd (shf σ f ≠ 1000 ∧ ∀ c, c < 16 → (cm (shf σ f + c) = f ↔ ent σ r c = true) ∧ (cm (shf σ f + c) = f → cv (shf σ f + c) = vv σ (r * 16 + c)))
noncomputable def fwe (σ : Sg) (cv cm : Nat → Nat) (r : Nat) : Nat := fst? (fun f => hasE σ cv cm f r) 24
theorem fwe_le (σ : Sg) (cv cm : Nat → Nat) (r : Nat) : fwe σ cv cm r < 24 ∨ fwe σ cv cm r = 1000 := fst?_le _ _
/-- a row's cells are filled, h columns -/
def flV (σ : Sg) (g : Nat → Nat) (r s h : Nat) : Nat → Nat := fun k => if s ≤ k ∧ k < s + h ∧ ent σ r (k - s) = true then vv σ (r * 16 + (k - s)) else g k
def flM (σ : Sg) (g : Nat → Nat) (r s h : Nat) : Nat → Nat := fun k => if s ≤ k ∧ k < s + h ∧ ent σ r (k - s) = true then ff σ r else g k
theorem fl_0 {σ : Sg} {g : Nat → Nat} {r s : Nat} : flV σ g r s 0 = g ∧ flM σ g r s 0 = g := by
  constructor <;> (funext k; first | unfold flV | unfold flM) <;> (rw [if_neg]; omega)
theorem flV_t {σ : Sg} {g : Nat → Nat} {r s h : Nat} (he : ent σ r h = true) : va_up (flV σ g r s h) (s + h) (vv σ (r * 16 + h)) = flV σ g r s (h + 1) := by
  funext k; unfold va_up flV
  by_cases e : k = s + h
  · subst e
    rw [if_pos rfl, Nat.add_sub_cancel_left, if_pos ⟨by omega, by omega, he⟩]
  · rw [if_neg e]
    by_cases q : s ≤ k ∧ k < s + h ∧ ent σ r (k - s) = true
    · rw [if_pos q, if_pos ⟨q.1, by omega, q.2.2⟩]
    · rw [if_neg q, if_neg (fun z => q ⟨z.1, by omega, z.2.2⟩)]
theorem flM_t {σ : Sg} {g : Nat → Nat} {r s h : Nat} (he : ent σ r h = true) : va_up (flM σ g r s h) (s + h) (ff σ r) = flM σ g r s (h + 1) := by
  funext k; unfold va_up flM
  by_cases e : k = s + h
  · subst e
    rw [if_pos rfl, Nat.add_sub_cancel_left, if_pos ⟨by omega, by omega, he⟩]
  · rw [if_neg e]
    by_cases q : s ≤ k ∧ k < s + h ∧ ent σ r (k - s) = true
    · rw [if_pos q, if_pos ⟨q.1, by omega, q.2.2⟩]
    · rw [if_neg q, if_neg (fun z => q ⟨z.1, by omega, z.2.2⟩)]
theorem fl_f {σ : Sg} {g : Nat → Nat} {r s h : Nat} (he : ent σ r h = false) : flV σ g r s h = flV σ g r s (h + 1) ∧ flM σ g r s h = flM σ g r s (h + 1) := by
  have key : ∀ k, (s ≤ k ∧ k < s + h ∧ ent σ r (k - s) = true) ↔ (s ≤ k ∧ k < s + (h + 1) ∧ ent σ r (k - s) = true) := by
    intro k
    constructor
    · rintro ⟨a, b, c⟩; exact ⟨a, by omega, c⟩
    · rintro ⟨a, b, c⟩
      refine ⟨a, ?_, c⟩
      rcases Nat.lt_or_ge k (s + h) with q | q
      · exact q
      · have : k - s = h := by omega
        rw [this, he] at c; cases c
  constructor <;> (funext k; first | unfold flV | unfold flM) <;> (by_cases q : s ≤ k ∧ k < s + h ∧ ent σ r (k - s) = true)
  · rw [if_pos q, if_pos ((key k).mp q)]
  · rw [if_neg q, if_neg (fun z => q ((key k).mpr z))]
  · rw [if_pos q, if_pos ((key k).mp q)]
  · rw [if_neg q, if_neg (fun z => q ((key k).mpr z))]
theorem flV_Bc {σ : Sg} (h : Bd σ) {g : Nat → Nat} (hg : Bc 100 g) {r s n : Nat} : Bc 100 (flV σ g r s n) := fun k => by
  unfold flV; split
  · exact Or.inl (h.v _)
  · exact hg k
theorem flM_Bc {σ : Sg} (h : Bd σ) {g : Nat → Nat} (hg : Bc 24 g) {r s n : Nat} : Bc 24 (flM σ g r s n) := fun k => by
  unfold flM; split
  · exact h.f r
  · exact hg k
def fcT (σ : Sg) (cv cm : Nat → Nat) (r : Nat) : Tb := if shf σ (ff σ r) = 1000 then (σ, cv, cm) else (σ, flV σ cv r (shf σ (ff σ r)) 16, flM σ cm r (shf σ (ff σ r)) 16)
noncomputable def pnT (σ : Sg) (cv cm : Nat → Nat) (r m2 : Nat) : Tb :=
  if frf σ = 1000 ∨ ffit cm m2 = 1000 then (σ, cv, cm) else fcT (setS (setF σ r (frf σ)) (frf σ) (ffit cm m2)) cv cm r
noncomputable def stT (σ : Sg) (cv cm : Nat → Nat) (r : Nat) : Tb :=
  if hasE σ cv cm (ff σ r) r = true then (σ, cv, cm)
  else if cols (lvT σ cv cm r).1 r = 0 then lvT σ cv cm r
  else if fwe (lvT σ cv cm r).1 (lvT σ cv cm r).2.1 (lvT σ cv cm r).2.2 r = 1000 then pnT (setF (lvT σ cv cm r).1 r 1000) (lvT σ cv cm r).2.1 (lvT σ cv cm r).2.2 r (cols (lvT σ cv cm r).1 r)
  else (setF (lvT σ cv cm r).1 r (fwe (lvT σ cv cm r).1 (lvT σ cv cm r).2.1 (lvT σ cv cm r).2.2 r), (lvT σ cv cm r).2)
noncomputable def stU (t : Tb) (r : Nat) : Tb := stT t.1 t.2.1 t.2.2 r
noncomputable def pwI (w : Nat) (t : Tb) : Nat → Tb
  | 0 => t
  | k + 1 => if wt (pwI w t k).1 k = w then stU (pwI w t k) k else pwI w t k
theorem pwI_t {w : Nat} {t : Tb} {k : Nat} (h : wt (pwI w t k).1 k = w) : pwI w t (k + 1) = stU (pwI w t k) k := if_pos h
theorem pwI_f {w : Nat} {t : Tb} {k : Nat} (h : ¬ wt (pwI w t k).1 k = w) : pwI w t (k + 1) = pwI w t k := if_neg h
noncomputable def pwO (n : Nat) (t : Tb) : Nat → Tb
  | 0 => t
  | j + 1 => pwI (16 - j) (pwO n t j) n
noncomputable def pnN (t : Tb) : Nat → Tb
  | 0 => t
  | k + 1 => stU (pnN t k) k
abbrev bare (σ : Sg) : Tb := ((nn σ, dd σ, vv σ, fun _ => 1000, fun _ => 1000), fun _ => 1000, fun _ => 1000)
noncomputable def paw (σ : Sg) : Tb := pwO (nn σ) (bare σ) 16
noncomputable def pan (σ : Sg) : Tb := pnN (bare σ) (nn σ)
def rsT (σ : Sg) : Nat → Tb
  | 0 => (σ, fun _ => 1000, fun _ => 1000)
  | k + 1 => fcT σ (rsT σ k).2.1 (rsT σ k).2.2 k
def luk (σ : Sg) (cv cm : Nat → Nat) (r c : Nat) : Nat := if shf σ (ff σ r) ≠ 1000 ∧ cm (shf σ (ff σ r) + c) = ff σ r then cv (shf σ (ff σ r) + c) else dd σ r
def rfP (σ : Sg) (cm : Nat → Nat) (r : Nat) : Nat → Bool := fun c => nem cm (shf σ (ff σ r) + c) && decide (cm (shf σ (ff σ r) + c) ≠ ff σ r)
def rfo (σ : Sg) (cm : Nat → Nat) (r : Nat) : Nat := if shf σ (ff σ r) = 1000 then 0 else fb_ct (rfP σ cm r) 16
theorem rfo_le (σ : Sg) (cm : Nat → Nat) (r : Nat) : rfo σ cm r ≤ 16 := by
  unfold rfo; split
  · omega
  · exact fb_ct_le _ _
def rfs (σ : Sg) (cm : Nat → Nat) : Nat → Nat := fb_sm (rfo σ cm)
theorem rfs_le (σ : Sg) (cm : Nat → Nat) (n : Nat) : rfs σ cm n ≤ n * 16 := fb_sm_bound (fun k _ => rfo_le σ cm k)
theorem Bd_bare {σ : Sg} (h : Bd σ) : Bd (nn σ, dd σ, vv σ, fun _ => 1000, fun _ => 1000) := ⟨h.1, h.2.1, h.2.2.1, fun _ => Or.inr rfl, fun _ => Or.inr rfl⟩
theorem Bc_none {n : Nat} : Bc n (fun _ => 1000) := fun _ => Or.inr rfl
theorem hasE_f {σ : Sg} {cv cm : Nat → Nat} {f r : Nat} (h : ¬ (shf σ f ≠ 1000 ∧ ∀ c, c < 16 → (cm (shf σ f + c) = f ↔ ent σ r c = true) ∧ (cm (shf σ f + c) = f → cv (shf σ f + c) = vv σ (r * 16 + c)))) : hasE σ cv cm f r = false := dcd_f.mpr h
theorem stT_1 {σ : Sg} {cv cm : Nat → Nat} {r : Nat} (h : hasE σ cv cm (ff σ r) r = true) : stT σ cv cm r = (σ, cv, cm) := if_pos h
theorem stT_2 {σ σ1 : Sg} {cv cm cv1 cm1 : Nat → Nat} {r : Nat} (h : hasE σ cv cm (ff σ r) r = false) (e : (σ1, cv1, cm1) = lvT σ cv cm r) (hc : cols σ1 r = 0) : stT σ cv cm r = (σ1, cv1, cm1) := by
  unfold stT; rw [if_neg (by rw [h]; exact Bool.false_ne_true), ← e, if_pos hc]
theorem stT_3 {σ σ1 : Sg} {cv cm cv1 cm1 : Nat → Nat} {r : Nat} (h : hasE σ cv cm (ff σ r) r = false) (e : (σ1, cv1, cm1) = lvT σ cv cm r) (hc : ¬ cols σ1 r = 0) (hf : fwe σ1 cv1 cm1 r = 1000) : stT σ cv cm r = pnT (setF σ1 r 1000) cv1 cm1 r (cols σ1 r) := by
  unfold stT; rw [if_neg (by rw [h]; exact Bool.false_ne_true), ← e, if_neg hc, if_pos hf]
theorem stT_4 {σ σ1 : Sg} {cv cm cv1 cm1 : Nat → Nat} {r : Nat} (h : hasE σ cv cm (ff σ r) r = false) (e : (σ1, cv1, cm1) = lvT σ cv cm r) (hc : ¬ cols σ1 r = 0) (hf : ¬ fwe σ1 cv1 cm1 r = 1000) : stT σ cv cm r = (setF σ1 r (fwe σ1 cv1 cm1 r), cv1, cm1) := by
  unfold stT; rw [if_neg (by rw [h]; exact Bool.false_ne_true), ← e, if_neg hc, if_neg hf]
theorem bI_inj {a b : Bool} : bI a = bI b ↔ a = b := by cases a <;> cases b <;> decide
theorem shf_ne {σ : Sg} {f : Nat} (h : ¬ shf σ f = 1000) : f < 24 := by
  rcases Nat.lt_or_ge f 24 with q | q
  · exact q
  · exact absurd (by unfold shf; rw [if_neg (by omega)]) h
theorem nn_lvT (σ : Sg) (cv cm : Nat → Nat) (r : Nat) : nn (lvT σ cv cm r).1 = nn σ := by unfold lvT; split <;> rfl
theorem nn_fcT (σ : Sg) (cv cm : Nat → Nat) (r : Nat) : (fcT σ cv cm r).1 = σ := by unfold fcT; split <;> rfl
theorem nn_pnT (σ : Sg) (cv cm : Nat → Nat) (r m2 : Nat) : nn (pnT σ cv cm r m2).1 = nn σ := by
  unfold pnT; split
  · rfl
  · rw [nn_fcT]
theorem nn_stT (σ : Sg) (cv cm : Nat → Nat) (r : Nat) : nn (stT σ cv cm r).1 = nn σ := by
  unfold stT
  split
  · rfl
  · split
    · exact nn_lvT _ _ _ _
    · split
      · rw [nn_pnT]; exact nn_lvT _ _ _ _
      · exact nn_lvT _ _ _ _
theorem nn_of {σ σ1 : Sg} {cv cm cv1 cm1 : Nat → Nat} {r : Nat} (h : (σ1, cv1, cm1) = stT σ cv cm r) : nn σ1 = nn σ := by
  rw [← nn_stT σ cv cm r, ← h]
