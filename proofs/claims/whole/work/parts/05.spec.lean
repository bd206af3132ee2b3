/-! what a state is, and what is read off it -/
abbrev Sg : Type := Nat × (Nat → Nat) × (Nat → Nat) × (Nat → Nat) × (Nat → Nat)
abbrev nn (σ : Sg) : Nat := σ.1
abbrev dd (σ : Sg) : Nat → Nat := σ.2.1
abbrev vv (σ : Sg) : Nat → Nat := σ.2.2.1
abbrev ff (σ : Sg) : Nat → Nat := σ.2.2.2.1
abbrev ss (σ : Sg) : Nat → Nat := σ.2.2.2.2
def Bd (σ : Sg) : Prop := nn σ ≤ 24 ∧ (∀ k, dd σ k < 100) ∧ (∀ k, vv σ k < 100) ∧ (∀ k, ff σ k < 24 ∨ ff σ k = 1000) ∧ (∀ k, ss σ k ≤ 784 ∨ ss σ k = 1000)
theorem Bd.n {σ : Sg} (h : Bd σ) : nn σ ≤ 24 := h.1
theorem Bd.d {σ : Sg} (h : Bd σ) (k : Nat) : dd σ k < 100 := h.2.1 k
theorem Bd.v {σ : Sg} (h : Bd σ) (k : Nat) : vv σ k < 100 := h.2.2.1 k
theorem Bd.f {σ : Sg} (h : Bd σ) (k : Nat) : ff σ k < 24 ∨ ff σ k = 1000 := h.2.2.2.1 k
theorem Bd.s {σ : Sg} (h : Bd σ) (k : Nat) : ss σ k ≤ 784 ∨ ss σ k = 1000 := h.2.2.2.2 k
/-- a cell of the store: empty, or a small number -/
def Bc (n : Nat) (g : Nat → Nat) : Prop := ∀ k, g k < n ∨ g k = 1000
theorem Bc.at {n : Nat} {g : Nat → Nat} (h : Bc n g) (k : Nat) : g k < n ∨ g k = 1000 := h k
/-! small rows -/
theorem r_dec {x : Nat} (h : 1 ≤ x) : nI x + Int32.ofInt (-1) = nI (x - 1) := by
  obtain ⟨y, rfl⟩ : ∃ y, x = y + 1 := ⟨x - 1, by omega⟩
  exact pk_m1 y
theorem r_shl1 {k : Nat} (h : k < 31) : nI 1 <<< (nI k &&& 31) = nI (2 ^ k) := by
  have := pk_shlN (n := 1) (nI k &&& 31) k (s_l k (by omega)) (by
    rw [Nat.one_mul]
    exact Nat.pow_lt_pow_right (by omega) (by omega))
  rw [this, Nat.one_mul]
theorem r_shr {n k : Nat} (hn : n < 2 ^ 31) (hk : k < 32) : nI n >>> (nI k &&& 31) = nI (n / 2 ^ k) := pk_shrN hn _ k (s_l k hk)
theorem ct_t {p : Nat → Bool} {n k : Nat} (h : p n = true) (hk : k = fb_ct p n) : k + 1 = fb_ct p (n + 1) := by rw [fb_ct_succ, h, hk]; rfl
theorem ct_f {p : Nat → Bool} {n k : Nat} (h : p n = false) (hk : k = fb_ct p n) : k = fb_ct p (n + 1) := by rw [fb_ct_succ, h, hk]; rfl
theorem bIt {b : Bool} (h : b = true) : nI 1 = bI b := by rw [h]; rfl
theorem bIf {b : Bool} (h : b = false) : nI 0 = bI b := by rw [h]; rfl
/-! sets of columns as numbers -/
def msk (p : Nat → Bool) : Nat → Nat
  | 0 => 0
  | k + 1 => msk p k + (if p k then 2 ^ k else 0)
theorem msk_succ (p : Nat → Bool) (k : Nat) : msk p (k + 1) = msk p k + (if p k then 2 ^ k else 0) := rfl
theorem msk_lt (p : Nat → Bool) : ∀ k, msk p k < 2 ^ k
  | 0 => by simp [msk]
  | k + 1 => by
    have h := msk_lt p k
    rw [msk_succ, Nat.pow_succ]
    split <;> omega
theorem msk_16 (p : Nat → Bool) : msk p 16 < 65536 := msk_lt p 16
theorem msk_lt31 (p : Nat → Bool) {k : Nat} (h : k ≤ 16) : msk p k < 2 ^ 31 := Nat.lt_of_lt_of_le (msk_lt p k) (Nat.pow_le_pow_right (by omega) (by omega))
theorem msk_cong {p q : Nat → Bool} : ∀ {n : Nat}, (∀ k, k < n → p k = q k) → msk p n = msk q n
  | 0, _ => rfl
  | n + 1, h => by rw [msk_succ, msk_succ, msk_cong (fun k hk => h k (by omega)), h n (by omega)]
theorem msk_bit (p : Nat → Bool) : ∀ (n i : Nat), i < n → (msk p n).testBit i = p i
  | 0, i, h => absurd h (Nat.not_lt_zero i)
  | n + 1, i, h => by
    have hl := msk_lt p n
    rw [msk_succ]
    by_cases hp : p n = true
    · rw [if_pos hp, Nat.add_comm]
      by_cases hi : i = n
      · subst hi
        rw [Nat.testBit_two_pow_add_eq, Nat.testBit_lt_two_pow hl, hp]; rfl
      · rw [Nat.testBit_two_pow_add_gt (by omega)]
        exact msk_bit p n i (by omega)
    · rw [if_neg hp, Nat.add_zero]
      by_cases hi : i = n
      · subst hi
        rw [Nat.testBit_lt_two_pow hl]
        cases h2 : p i with
        | true => exact absurd h2 hp
        | false => rfl
      · exact msk_bit p n i (by omega)
theorem msk_0 {p : Nat → Bool} {n : Nat} (h : msk p n = 0) {k : Nat} (hk : k < n) : p k = false := by
  rw [← msk_bit p n k hk, h, Nat.zero_testBit]
theorem msk_t {p : Nat → Bool} {n m : Nat} (h : p n = true) (hm : m = msk p n) : m ||| 2 ^ n = msk p (n + 1) := by
  have e := Nat.two_pow_add_eq_or_of_lt (msk_lt p n) 1
  rw [Nat.mul_one] at e
  rw [msk_succ, h, hm, if_pos rfl, Nat.or_comm, ← e, Nat.add_comm]
theorem msk_f {p : Nat → Bool} {n m : Nat} (h : p n = false) (hm : m = msk p n) : m = msk p (n + 1) := by
  rw [msk_succ, h, hm]; simp
/-! how many columns a number has -/
def pop (k : Nat) : Nat := fb_ct (fun i => k.testBit i) 16
theorem pop_le (k : Nat) : pop k ≤ 16 := fb_ct_le _ _
theorem pop_msk (p : Nat → Bool) : pop (msk p 16) = fb_ct p 16 := fb_ct_cong (fun i hi => msk_bit p 16 i hi)
/-! rows -/
def ent (σ : Sg) (r c : Nat) : Bool := decide (vv σ (r * 16 + c) ≠ dd σ r)
theorem ent_t {σ : Sg} {r c : Nat} : ent σ r c = true ↔ vv σ (r * 16 + c) ≠ dd σ r := decide_eq_true_iff
theorem ent_f {σ : Sg} {r c : Nat} : ent σ r c = false ↔ vv σ (r * 16 + c) = dd σ r := by
  unfold ent; rw [decide_eq_false_iff_not, Classical.not_not]
def cols (σ : Sg) (r : Nat) : Nat := msk (ent σ r) 16
def wt (σ : Sg) (r : Nat) : Nat := fb_ct (ent σ r) 16
theorem wt_le (σ : Sg) (r : Nat) : wt σ r ≤ 16 := fb_ct_le _ _
theorem pop_cols (σ : Sg) (r : Nat) : pop (cols σ r) = wt σ r := pop_msk _
theorem cols_lt (σ : Sg) (r : Nat) : cols σ r < 65536 := msk_16 _
def cw (σ : Sg) (r v : Nat) : Nat := fb_ct (fun c => decide (vv σ (r * 16 + c) = v)) 16
theorem cw_le (σ : Sg) (r v : Nat) : cw σ r v ≤ 16 := fb_ct_le _ _
def eqc (σ : Sg) (r q : Nat) : Nat := fb_ct (fun c => decide (vv σ (r * 16 + c) = vv σ (q * 16 + c))) 16
theorem eqc_le (σ : Sg) (r q : Nat) : eqc σ r q ≤ 16 := fb_ct_le _ _
/-- the greatest, the first of several -/
def mvB (f : Nat → Nat) : Nat → Nat × Nat
  | 0 => (0, 0)
  | k + 1 => if (mvB f k).2 < f k then (k, f k) else mvB f k
def mv (σ : Sg) (r : Nat) : Nat := (mvB (cw σ r) 100).1
theorem mvB_ok (f : Nat → Nat) : ∀ n, (∀ u, u < n → f u ≤ (mvB f n).2) ∧ (((mvB f n).1 = 0 ∧ (mvB f n).2 = 0) ∨ ((mvB f n).1 < n ∧ f (mvB f n).1 = (mvB f n).2 ∧ ∀ u, u < (mvB f n).1 → f u < (mvB f n).2))
  | 0 => ⟨fun _ h => absurd h (Nat.not_lt_zero _), Or.inl ⟨rfl, rfl⟩⟩
  | n + 1 => by
    obtain ⟨h1, h2⟩ := mvB_ok f n
    unfold mvB
    split
    · rename_i h
      refine ⟨fun u hu => ?_, Or.inr ⟨Nat.lt_succ_self n, rfl, fun u hu => Nat.lt_of_le_of_lt (h1 u hu) h⟩⟩
      rcases Nat.lt_or_ge u n with q | q
      · exact Nat.le_of_lt (Nat.lt_of_le_of_lt (h1 u q) h)
      · have : u = n := by omega
        subst this; exact Nat.le_refl _
    · rename_i h
      refine ⟨fun u hu => ?_, ?_⟩
      · rcases Nat.lt_or_ge u n with q | q
        · exact h1 u q
        · have : u = n := by omega
          subst this; omega
      · rcases h2 with h2 | ⟨a, b, c⟩
        · exact Or.inl h2
        · exact Or.inr ⟨Nat.lt_succ_of_lt a, b, c⟩
theorem mv_of {σ : Sg} {r v : Nat} (hv : v < 100) (h0 : 0 < cw σ r v) (h1 : ∀ u, u < 100 → cw σ r u ≤ cw σ r v) (h2 : ∀ u, u < v → cw σ r u < cw σ r v) : mv σ r = v ∧ (mvB (cw σ r) 100).2 = cw σ r v := by
  obtain ⟨a, b⟩ := mvB_ok (cw σ r) 100
  have a1 := a v hv
  rcases b with ⟨b1, b2⟩ | ⟨b1, b2, b3⟩
  · omega
  · have e1 := h1 _ b1
    have : (mvB (cw σ r) 100).1 = v := by
      rcases Nat.lt_trichotomy (mvB (cw σ r) 100).1 v with q | q | q
      · have := h2 _ q
        omega
      · exact q
      · have := b3 _ q
        omega
    refine ⟨this, ?_⟩
    rw [this] at b2
    exact b2.symm
theorem mv_lt (σ : Sg) (r : Nat) : mv σ r < 100 := by
  obtain ⟨-, b⟩ := mvB_ok (cw σ r) 100
  rcases b with ⟨b1, -⟩ | ⟨b1, -⟩
  · unfold mv; omega
  · exact b1
/-- the row that is most like a row -/
def lkB (f : Nat → Nat) (q : Nat) : Nat → Nat × Nat
  | 0 => (1000, 1000)
  | k + 1 => if k ≠ q ∧ ((lkB f q k).2 = 1000 ∨ (lkB f q k).2 < f k) then (k, f k) else lkB f q k
theorem lkB_succ (f : Nat → Nat) (q k : Nat) : lkB f q (k + 1) = if k ≠ q ∧ ((lkB f q k).2 = 1000 ∨ (lkB f q k).2 < f k) then (k, f k) else lkB f q k := rfl
theorem lkB_le {f : Nat → Nat} {q : Nat} (hf : ∀ k, f k ≤ 16) : ∀ n, n ≤ 24 → ((lkB f q n).1 < 24 ∨ (lkB f q n).1 = 1000) ∧ ((lkB f q n).2 ≤ 16 ∨ (lkB f q n).2 = 1000)
  | 0, _ => ⟨Or.inr rfl, Or.inr rfl⟩
  | n + 1, h => by
    unfold lkB
    split
    · exact ⟨Or.inl (by show n < 24; omega), Or.inl (hf n)⟩
    · exact lkB_le hf n (by omega)
theorem e1_ltn {m c : Nat} (hm : m ≤ 1000) (hc : c < 1000) : nI c ≤ e1 m ↔ ¬ (m = 1000 ∨ m < c) := by
  rw [i_le, e1_toInt hm, nI_toInt (by omega)]
  split <;> omega
/-- the sum of weights -/
def wsum (σ : Sg) : Nat → Nat := fb_sm (wt σ)
theorem wsum_le (σ : Sg) (n : Nat) : wsum σ n ≤ n * 16 := fb_sm_bound (fun k _ => wt_le σ k)
def fcnt (σ : Sg) : Nat := fb_ct (fun f => decide (ss σ f ≠ 1000)) 24
theorem fcnt_le (σ : Sg) : fcnt σ ≤ 24 := fb_ct_le _ _
def shr (σ : Sg) (f : Nat) : Nat := fb_ct (fun r => decide (ff σ r = f)) (nn σ)
theorem shr_le {σ : Sg} (h : Bd σ) (f : Nat) : shr σ f ≤ 24 := Nat.le_trans (fb_ct_le _ _) h.1
def shf (σ : Sg) (f : Nat) : Nat := if f < 24 then ss σ f else 1000
theorem shf_le {σ : Sg} (h : Bd σ) (f : Nat) : shf σ f ≤ 784 ∨ shf σ f = 1000 := by
  unfold shf; split
  · exact h.s f
  · exact Or.inr rfl
/-- the first place under n of a kind; 1000 if there is none (by choice: nothing unfolds it) -/
def fsP (p : Nat → Bool) (n k : Nat) : Prop := k < n ∧ p k = true ∧ ∀ j, j < k → p j = false
noncomputable def fst? (p : Nat → Bool) (n : Nat) : Nat := @dite Nat (∃ k, fsP p n k) (Classical.propDecidable _) (fun h => Classical.choose h) (fun _ => 1000)
theorem fs_one {p : Nat → Bool} {n k j : Nat} (h : fsP p n k) (h2 : fsP p n j) : k = j := by
  rcases Nat.lt_trichotomy k j with q | q | q
  · have := h2.2.2 k q
    rw [h.2.1] at this; cases this
  · exact q
  · have := h.2.2 j q
    rw [h2.2.1] at this; cases this
theorem fst?_some {p : Nat → Bool} {n k : Nat} (hk : k < n) (h : p k = true) (hb : ∀ j, j < k → p j = false) : fst? p n = k := by
  have he : ∃ k, fsP p n k := ⟨k, hk, h, hb⟩
  have e : fst? p n = Classical.choose he := dif_pos he
  rw [e]
  exact fs_one (Classical.choose_spec he) ⟨hk, h, hb⟩
theorem fst?_none {p : Nat → Bool} {n : Nat} (h : ∀ k, k < n → p k = false) : fst? p n = 1000 := by
  refine dif_neg ?_
  rintro ⟨k, h1, h2, -⟩
  rw [h k h1] at h2; cases h2
theorem fst?_or (p : Nat → Bool) (n : Nat) : fsP p n (fst? p n) ∨ (fst? p n = 1000 ∧ ∀ k, k < n → p k = false) := by
  have h1 := fa_first_le p n
  rcases Nat.lt_or_ge (fa_first p n) n with q | q
  · have a := fa_first_yes p n q
    have b := fa_first_no p n
    rw [fst?_some q a b]
    exact Or.inl ⟨q, a, b⟩
  · have b := fa_first_no p n
    have b' : ∀ k, k < n → p k = false := fun k hk => b k (by omega)
    exact Or.inr ⟨fst?_none b', b'⟩
theorem fst?_le (p : Nat → Bool) (n : Nat) : fst? p n < n ∨ fst? p n = 1000 := (fst?_or p n).elim (fun h => Or.inl h.1) (fun h => Or.inr h.1)
theorem fst?_yes {p : Nat → Bool} {n : Nat} (h : fst? p n ≠ 1000) : fst? p n < n ∧ p (fst? p n) = true ∧ ∀ j, j < fst? p n → p j = false := (fst?_or p n).elim id (fun q => absurd q.1 h)
theorem fst?_no {p : Nat → Bool} {n : Nat} (hn : n ≤ 1000) (h : fst? p n = 1000) {k : Nat} (hk : k < n) : p k = false := by
  rcases fst?_or p n with q | q
  · have := q.1
    omega
  · exact q.2 k hk
theorem fst?_cong {p q : Nat → Bool} {n : Nat} (hn : n ≤ 1000) (h : ∀ k, k < n → p k = q k) : fst? p n = fst? q n := by
  by_cases e : fst? p n = 1000
  · rw [e, fst?_none (fun k hk => by rw [← h k hk]; exact fst?_no hn e hk)]
  · obtain ⟨a, b, c⟩ := fst?_yes e
    exact (fst?_some (p := q) a (by rw [← h _ a]; exact b) (fun j hj => by rw [← h j (by omega)]; exact c j hj)).symm
noncomputable def frf (σ : Sg) : Nat := fst? (fun f => decide (ss σ f = 1000)) 24
theorem frf_le (σ : Sg) : frf σ < 24 ∨ frf σ = 1000 := fst?_le _ _
/-- the last place of a kind, and one more -/
def lst (p : Nat → Bool) : Nat → Nat
  | 0 => 0
  | k + 1 => if p k then k + 1 else lst p k
theorem lst_le (p : Nat → Bool) : ∀ n, lst p n ≤ n
  | 0 => Nat.le_refl 0
  | n + 1 => by
    have := lst_le p n
    unfold lst; split <;> omega
/-! the store -/
def emp (cm : Nat → Nat) (k : Nat) : Bool := decide (cm k = 1000)
def nem (cm : Nat → Nat) (k : Nat) : Bool := decide (cm k ≠ 1000)
def fitb (cm : Nat → Nat) (m s : Nat) : Bool := decide (fb_ct (fun c => m.testBit c && nem cm (s + c)) 16 = 0)
theorem fitb_t {cm : Nat → Nat} {m s : Nat} : fitb cm m s = true ↔ ∀ c, c < 16 → m.testBit c = true → cm (s + c) = 1000 := by
  unfold fitb
  rw [decide_eq_true_iff, fb_ct_zero]
  constructor
  · intro h c hc hb
    have h1 := h c hc
    rw [hb, Bool.true_and] at h1
    exact Classical.not_not.mp (of_decide_eq_false h1)
  · intro h c hc
    cases hb : m.testBit c with
    | false => rfl
    | true => exact decide_eq_false (fun z => z (h c hc hb))
theorem fitb_f {cm : Nat → Nat} {m s : Nat} : fitb cm m s = false ↔ ∃ c, c < 16 ∧ m.testBit c = true ∧ cm (s + c) ≠ 1000 := by
  rw [← Bool.not_eq_true, fitb_t]
  constructor
  · intro h
    by_cases q : ∃ c, c < 16 ∧ m.testBit c = true ∧ cm (s + c) ≠ 1000
    · exact q
    · exact absurd (fun c hc hb => Classical.not_not.mp (fun z => q ⟨c, hc, hb, z⟩)) h
  · rintro ⟨c, h1, h2, h3⟩ h
    exact h3 (h c h1 h2)
noncomputable def ffit (cm : Nat → Nat) (m : Nat) : Nat := fst? (fitb cm m) 785
theorem ffit_le (cm : Nat → Nat) (m : Nat) : ffit cm m ≤ 784 ∨ ffit cm m = 1000 := by
  rcases fst?_le (fitb cm m) 785 with h | h
  · exact Or.inl (by unfold ffit; omega)
  · exact Or.inr h
def endc (cm : Nat → Nat) : Nat := lst (nem cm) 800
theorem endc_le (cm : Nat → Nat) : endc cm ≤ 800 := lst_le _ _
def fil (cm : Nat → Nat) : Nat := fb_ct (nem cm) 800
theorem fil_le (cm : Nat → Nat) : fil cm ≤ 800 := fb_ct_le _ _
/-- cells between s and h that bear the mark f are emptied -/
def tkF (g cm : Nat → Nat) (f s h : Nat) : Nat → Nat := fun k => if s ≤ k ∧ k < h ∧ cm k = f then 1000 else g k
theorem tkF_0 (g cm : Nat → Nat) (f s : Nat) : tkF g cm f s s = g := by
  funext k; unfold tkF; rw [if_neg]; omega
theorem tkF_t {g cm : Nat → Nat} {f s h : Nat} (hs : s ≤ h) (hk : cm h = f) : va_up (tkF g cm f s h) h 1000 = tkF g cm f s (h + 1) := by
  funext k; unfold va_up tkF
  by_cases e : k = h
  · subst e; rw [if_pos rfl, if_pos ⟨hs, by omega, hk⟩]
  · rw [if_neg e]
    by_cases q : s ≤ k ∧ k < h ∧ cm k = f
    · rw [if_pos q, if_pos ⟨q.1, by omega, q.2.2⟩]
    · rw [if_neg q, if_neg (fun z => q ⟨z.1, by omega, z.2.2⟩)]
theorem tkF_f {g cm : Nat → Nat} {f s h : Nat} (hk : cm h ≠ f) : tkF g cm f s h = tkF g cm f s (h + 1) := by
  funext k; unfold tkF
  by_cases q : s ≤ k ∧ k < h ∧ cm k = f
  · rw [if_pos q, if_pos ⟨q.1, by omega, q.2.2⟩]
  · rw [if_neg q, if_neg]
    intro z
    rcases Nat.lt_or_ge k h with w | w
    · exact q ⟨z.1, w, z.2.2⟩
    · have : k = h := by omega
      subst this; exact hk z.2.2
theorem tkF_at {g cm : Nat → Nat} {f s h : Nat} : tkF g cm f s h h = g h := by
  unfold tkF; rw [if_neg]; omega
theorem tkF_Bc {n : Nat} {g cm : Nat → Nat} {f s h : Nat} (hg : Bc n g) : Bc n (tkF g cm f s h) := fun k => by
  unfold tkF; split
  · exact Or.inr rfl
  · exact hg k
theorem up_Bc {n : Nat} {g : Nat → Nat} (hg : Bc n g) {k x : Nat} (hx : x < n ∨ x = 1000) : Bc n (va_up g k x) := fun j => by
  unfold va_up; split
  · exact hx
  · exact hg j
theorem up_s {α : Type} {f : Nat → α} {k : Nat} {x : α} : va_up f k x k = x := if_pos rfl
theorem up_n {α : Type} {f : Nat → α} {k j : Nat} {x : α} (h : j ≠ k) : va_up f k x j = f j := if_neg h
def wcnt (cm : Nat → Nat) (f s : Nat) : Nat := fb_ct (fun c => decide (cm (s + c) = f)) 16
theorem wcnt_le (cm : Nat → Nat) (f s : Nat) : wcnt cm f s ≤ 16 := fb_ct_le _ _
