/-! what the law holds on to from call to call -/
def GI (σ : Sg) (cv cm : Nat → Nat) : Prop := Bd σ ∧ Bc 100 cv ∧ Bc 24 cm ∧ J0 σ cv cm ∧ Full σ
def HS (τ : Sg) (f : Nat → Int32) : Prop := Rel τ f ∧ Full τ ∧ ∃ cv cm, J0 τ cv cm
def HF (k sz : Nat) (cs : Nat → Sg) (sm sa : Nat) (sts : Nat → Int32) : Prop := k < 5 ∧ sz ≤ 5 ∧ (∀ i, Bd (cs i)) ∧ sm = sz ∧ sa = rgt k sz ∧ ∀ i, i < sz → HS (cs (rgt k i)) (fun j => sts (481 * rgt k i + j))
def TF (L : Nat) (tx td tv : Nat → Nat) (le : Nat) (txm : Nat → Nat) : Prop := L ≤ 100 ∧ (∀ k, tx k < 256) ∧ (∀ k, k < L → 1 ≤ tx k) ∧ (∀ k, td k < 100) ∧ (∀ k, tv k < 100) ∧ le = L ∧ txm = tx
def LF (σ φ : Sg) (cv cm cvf cmf : Nat → Nat) (k sz : Nat) (cs : Nat → Sg) (L : Nat) (tx td tv : Nat → Nat) (sm sa le : Nat) (txm : Nat → Nat) (nw sts : Nat → Int32) : Prop :=
  GI σ cv cm ∧ Rel σ nw ∧ (Bd φ ∧ Bc 100 cvf ∧ Bc 24 cmf) ∧ HF k sz cs sm sa sts ∧ TF L tx td tv le txm
theorem HF_act {k sz sm sa k1 sz1 sm1 : Nat} {cs cs1 : Nat → Sg} {sts nw sts1 : Nat → Int32} {σ : Sg} (h : HF k sz cs sm sa sts) (hB : Bd σ) (hS : HS σ nw) (e1 : k1 = (if sz < 5 then k else (k + 1) % 5)) (e2 : sz1 = (if sz < 5 then sz + 1 else 5)) (e3 : cs1 = va_up cs (rgt k sz) σ) (e4 : sm1 = (if sm < 5 then sm + 1 else 5)) (e5 : sts1 = fb_put sts nw (481 * sa) 481) : HF k1 sz1 cs1 sm1 ((sa + 1) % 5) sts1 := by
  obtain ⟨h1, h2, h3, h4, h5, h6⟩ := h
  subst h4 h5 e3 e5
  have new : HS (va_up cs (rgt k sm) σ (rgt k sm)) (fun j => fb_put sts nw (481 * rgt k sm) 481 (481 * rgt k sm + j)) := by
    rw [up_s]
    refine ⟨Rel_cong hS.1 hB.n (fun j hj => ?_), hS.2⟩
    show fb_put sts nw (481 * rgt k sm) 481 (481 * rgt k sm + j) = nw j
    rw [fb_put_in (by omega) (by omega), Nat.add_sub_cancel_left]
  have old : ∀ i, i < sm → rgt k i ≠ rgt k sm → HS (va_up cs (rgt k sm) σ (rgt k i)) (fun j => fb_put sts nw (481 * rgt k sm) 481 (481 * rgt k i + j)) := fun i hi hne => by
    rw [up_n hne]
    obtain ⟨a, b⟩ := h6 i hi
    exact ⟨Rel_cong a (h3 _).n (fun j hj => fb_put_out (by omega)), b⟩
  have hup : ∀ i, Bd (va_up cs (rgt k sm) σ i) := fun i => by
    unfold va_up; split
    · exact hB
    · exact h3 i
  by_cases q : sm < 5
  · rw [if_pos q] at e1 e2 e4
    subst e1 e2 e4
    refine ⟨h1, by omega, hup, rfl, by unfold rgt; omega, fun i hi => ?_⟩
    by_cases z : i = sm
    · rw [z]; exact new
    · exact old i (by omega) (by unfold rgt; omega)
  · rw [if_neg q] at e1 e2 e4
    subst e1 e2 e4
    have e : sm = 5 := by omega
    refine ⟨Nat.mod_lt _ (by decide), Nat.le_refl _, hup, rfl, by unfold rgt; omega, fun i hi => ?_⟩
    rw [rgt_s]
    by_cases z : i = 4
    · rw [z, show 4 + 1 = sm by omega]; exact new
    · exact old (i + 1) (by omega) (by unfold rgt; omega)
theorem HF_undo {k sz sm sa : Nat} {cs : Nat → Sg} {sts : Nat → Int32} (h : HF k sz cs sm sa sts) (h0 : 0 < sz) : HF k (sz - 1) cs (sm - 1) ((sa + 5 - 1) % 5) sts ∧ (sa + 5 - 1) % 5 = rgt k (sz - 1) := by
  obtain ⟨h1, h2, h3, h4, h5, h6⟩ := h
  have e : (sa + 5 - 1) % 5 = rgt k (sz - 1) := by rw [h5]; unfold rgt; omega
  exact ⟨⟨h1, by omega, h3, by omega, e, fun i hi => h6 i (by omega)⟩, e⟩
theorem tri {t : Tb} {a : Sg} {b c : Nat → Nat} (h : (a, b, c) = t) : a = t.1 ∧ b = t.2.1 ∧ c = t.2.2 := by rw [← h]; exact ⟨rfl, rfl, rfl⟩
theorem rsT_1 (σ : Sg) : ∀ n, (rsT σ n).1 = σ
  | 0 => rfl
  | n + 1 => nn_fcT _ _ _ _
theorem inr_1 {x : Int32} {b : Nat} (h : inr x 1 b = true) : ∃ n, 1 ≤ n ∧ n ≤ b ∧ x = nI n := by
  have h := inr_t.mp h
  refine ⟨x.toInt.toNat, by omega, by omega, ?_⟩
  have hb := fb_rng x
  rw [i_eq, nI_toInt (by omega)]
  omega
theorem LF_act {σ φ τ : Sg} {cv cm cvf cmf cv1 cm1 : Nat → Nat} {k sz L sm sa le k1 sz1 sm1 : Nat} {cs cs1 : Nat → Sg} {tx td tv txm : Nat → Nat} {nw sts nw1 sts1 : Nat → Int32} (h : LF σ φ cv cm cvf cmf k sz cs L tx td tv sm sa le txm nw sts) (hG : GI τ cv1 cm1) (hR : Rel τ nw1) (e1 : k1 = (if sz < 5 then k else (k + 1) % 5)) (e2 : sz1 = (if sz < 5 then sz + 1 else 5)) (e3 : cs1 = va_up cs (rgt k sz) σ) (e4 : sm1 = (if sm < 5 then sm + 1 else 5)) (e5 : sts1 = fb_put sts nw (481 * sa) 481) : LF τ φ cv1 cm1 cvf cmf k1 sz1 cs1 L tx td tv sm1 ((sa + 1) % 5) le txm nw1 sts1 :=
  ⟨hG, hR, h.2.2.1, HF_act h.2.2.2.1 h.1.1 ⟨h.2.1, h.1.2.2.2.2, _, _, h.1.2.2.2.1⟩ e1 e2 e3 e4 e5, h.2.2.2.2⟩
theorem LF_same {σ φ : Sg} {cv cm cvf cmf : Nat → Nat} {k sz L sm sa le : Nat} {cs : Nat → Sg} {tx td tv txm : Nat → Nat} {nw sts nw1 : Nat → Int32} (h : LF σ φ cv cm cvf cmf k sz cs L tx td tv sm sa le txm nw sts) (hR : Rel σ nw1) : LF σ φ cv cm cvf cmf k sz cs L tx td tv sm sa le txm nw1 sts := ⟨h.1, hR, h.2.2⟩
