set_option maxHeartbeats 1000000 in
set_option maxRecDepth 100000 in
/-- the bounds are right: nothing happens -/
theorem c_J7_rangeCheck_23922 (l : Launch) (G : kG) (a f t : Nat) (h1 : f ≤ t) (h2 : t ≤ a) (h3 : a < 2 ^ 31) : Met l yJ7_rangeCheck_23922 wsJ7_rangeCheck_23922 ({ frames := 0, cells := 0, slots := 0, locals := 0 } : Room) (cP G [.int (nI a), .int (nI f), .int (nI t)] []) (qV (fun H => va_P G.1 vwCl [] H) (mA [])) 0 0 (mA []) := by
  refine met_muV (cc := cJ7_rangeCheck_23922) (maxL := 3) (own := RJ7) (by decide) rfl rfl (Nat.le_of_ble_eq_true rfl) ?_
  intro p e s m args below meth cod Q A hx hb hml hown hts hK hP hD hS hret ls hl
  have hl : lv_has ls 3 [(0, .int (nI a)), (1, .int (nI f)), (2, .int (nI t))] := hl
  refine lv_iload_n hx hb dJ7_rangeCheck_23922_0 rfl (lv_at hl 1 rfl) ?_
  refine lv_iload_n hx hb dJ7_rangeCheck_23922_1 rfl (lv_at hl 2 rfl) ?_
  refine r_icmp_le (P := f ≤ t) (tgt := 46) hx hb dJ7_rangeCheck_23922_2 (by decide) (nI_leI (by omega) (by omega)) (fun cq2 => ?_) (fun cq2 => ?_)
  · refine lv_iload_n hx hb dJ7_rangeCheck_23922_46 rfl (lv_at hl 1 rfl) ?_
    refine r_if_ge (P := True) (tgt := 59) hx hb dJ7_rangeCheck_23922_47 (by decide) (nI_ge0 (by omega)) (fun cq47 => ?_) (fun cq47 => ?_)
    · refine lv_iload_n hx hb dJ7_rangeCheck_23922_59 rfl (lv_at hl 2 rfl) ?_
      refine lv_iload_n hx hb dJ7_rangeCheck_23922_60 rfl (lv_at hl 0 rfl) ?_
      refine r_icmp_le (P := t ≤ a) (tgt := 73) hx hb dJ7_rangeCheck_23922_61 (by decide) (nI_leI (by omega) (by omega)) (fun cq61 => ?_) (fun cq61 => ?_)
      · exact hret _ _ _ _ hS dJ7_rangeCheck_23922_73 (hP)
      · exact absurd h2 cq61
    · exact absurd trivial cq47
  · exact absurd h1 cq2

set_option maxHeartbeats 1000000 in
set_option maxRecDepth 100000 in
/-- a row is filled -/
theorem c_J7_fill_53178 (l : Launch) (G : kG) (a N : Nat) (f : Nat → Int32) (v : Int32) (hN : N < 2 ^ 31) : Met l yJ7_fill_53178 wsJ7_fill_53178 ({ frames := 0, cells := 0, slots := 0, locals := 0 } : Room) (cP G [.ref a, .int v] [ar G a N f]) (qV (fun H => va_P G.1 vwCl [ar G a N (fun _ => v)] H) (mA [ar G a N f])) 0 0 (mA [ar G a N f]) := by
  refine met_muV (cc := cJ7_fill_53178) (maxL := 4) (own := RJ7) (by decide) rfl rfl (Nat.le_of_ble_eq_true rfl) ?_
  intro p e s m args below meth cod Q A hx hb hml hown hts hK hP hD hS hret ls hl
  have hl : lv_has ls 4 [(0, .ref a), (1, .int v)] := hl
  refine lv_iconst (v := (nI 0)) hx hb dJ7_fill_53178_0 (by decide) ?_
  refine lv_istore_n (lv' := [(2, .int (nI 0)), (0, .ref a), (1, .int v)]) hx hb dJ7_fill_53178_1 rfl hl (by decide) rfl (fun ls hl => ?_)
  refine lv_aload_n hx hb dJ7_fill_53178_2 rfl (lv_at hl 1 rfl) ?_
  refine va_alen (v := (nI N)) hx hb hK.1 hP 0 0 rfl rfl rfl dJ7_fill_53178_3 ?_
  refine lv_istore_n (lv' := [(3, .int (nI N)), (2, .int (nI 0)), (0, .ref a), (1, .int v)]) hx hb dJ7_fill_53178_4 rfl hl (by decide) rfl (fun ls hl => ?_)
  have L5 : ∀ (fu : Nat) (i : Nat) (g : Nat → Int32), N + 1 - i < fu → i ≤ N → (∀ j, j < i → g j = v) → ∀ (H : Heap) (locs : List Loc), va_P G.1 vwCl [ar G a N g] H → va_D A [ar G a N g] → va_S A s.heap H locs → ∀ (ls : Array Slot), lv_has ls 4 [(0, .ref a), (1, .int v), (2, .int (nI i)), (3, .int (nI N))] → W p l e ({ frames := 0, cells := 0, slots := 0, locals := 0 } : Room) s m args below meth cod H locs 0 0 Q (F0 m 5 ls []) := by
    intro fu
    induction fu with
    | zero => intro i g hm; exact absurd hm (Nat.not_lt_zero _)
    | succ fu ih5 =>
      intro i g hm5 hi hg H locs hP hD hS ls hl
      have hP : va_P G.1 vwCl [ar G a N g] H := hP
      have hD : va_D A [ar G a N g] := hD
      refine lv_iload_n hx hb dJ7_fill_53178_5 rfl (lv_at hl 2 rfl) ?_
      refine lv_iload_n hx hb dJ7_fill_53178_6 rfl (lv_at hl 3 rfl) ?_
      refine r_icmp_ge (P := N ≤ i) (tgt := 20) hx hb dJ7_fill_53178_7 (by decide) (nI_leI (by omega) (by omega)) (fun cq7 => ?_) (fun cq7 => ?_)
      · have hP := P_ext hP 0 (fun _ => v) rfl (fun j hj => hg j (by omega))
        exact hret _ _ _ _ hS dJ7_fill_53178_20 (hP)
      · refine lv_aload_n hx hb dJ7_fill_53178_10 rfl (lv_at hl 0 rfl) ?_
        refine lv_iload_n hx hb dJ7_fill_53178_11 rfl (lv_at hl 2 rfl) ?_
        refine lv_iload_n hx hb dJ7_fill_53178_12 rfl (lv_at hl 1 rfl) ?_
        refine r_iast (e1 := i) (x := v) (g := upd g i v) hx hb hK.1 hP hD hS 0 0 rfl rfl (by omega) (by first | decide | assumption) (rfl) dJ7_fill_53178_13 (fun H locs hP hD hS => ?_)
        have hP : va_P G.1 vwCl [ar G a N (upd g i v)] H := hP
        have hD : va_D A [ar G a N (upd g i v)] := hD
        refine r_iinc (v := i + 1) (lv' := [(2, .int (nI (i + 1))), (0, .ref a), (1, .int v), (3, .int (nI N))]) hx hb dJ7_fill_53178_14 hl (k := 2) rfl (nI_1 _) (by decide) rfl (fun ls hl => ?_)
        refine lv_goto (tgt := 5) hx hb dJ7_fill_53178_17 (by decide) ?_
        exact ih5 (i + 1) (upd g i v) (by omega) (by omega) (fun j hj => by unfold upd; split; exact rfl; exact hg j (by omega)) _ _ hP hD hS ls (lv_sub hl [1, 2, 0, 3] rfl)
  exact L5 ((N + 1 - 0) + 1) 0 f (Nat.lt_succ_self _) (by omega) (fun j hj => absurd hj (Nat.not_lt_zero j)) _ _ hP hD hS ls (lv_sub hl [2, 3, 1, 0] rfl)

theorem r_fill {lo i : Nat} {g f : Nat → Int32} {v : Int32} (hl : lo ≤ i) (hg : ∀ j, g j = if lo ≤ j ∧ j < i then v else f j) : ∀ j, upd g i v j = if lo ≤ j ∧ j < i + 1 then v else f j := by
  intro j
  unfold upd
  by_cases e : j = i
  · subst e; rw [if_pos rfl, if_pos ⟨hl, by omega⟩]
  · rw [if_neg e, hg]
    by_cases q : lo ≤ j ∧ j < i
    · rw [if_pos q, if_pos ⟨q.1, by omega⟩]
    · rw [if_neg q, if_neg (fun z => q ⟨z.1, by omega⟩)]
set_option maxHeartbeats 1000000 in
set_option maxRecDepth 100000 in
/-- a part of a row is filled -/
theorem c_J7_fill_fda19 (l : Launch) (G : kG) (a N lo hi : Nat) (f : Nat → Int32) (v : Int32) (hN : N < 2 ^ 31) (h1 : lo ≤ hi) (h2 : hi ≤ N) : Met l yJ7_fill_fda19 wsJ7_fill_fda19 ({ frames := 1, cells := 0, slots := 0, locals := 22 } : Room) (cP G [.ref a, .int (nI lo), .int (nI hi), .int v] [ar G a N f]) (qV (fun H => va_P G.1 vwCl [ar G a N (fun j => if lo ≤ j ∧ j < hi then v else f j)] H) (mA [ar G a N f])) 0 0 (mA [ar G a N f]) := by
  refine met_muV (cc := cJ7_fill_fda19) (maxL := 5) (own := RJ7) (by decide) rfl rfl (Nat.le_of_ble_eq_true rfl) ?_
  intro p e s m args below meth cod Q A hx hb hml hown hts hK hP hD hS hret ls hl
  have hl : lv_has ls 5 [(0, .ref a), (1, .int (nI lo)), (2, .int (nI hi)), (3, .int v)] := hl
  refine lv_aload_n hx hb dJ7_fill_fda19_0 rfl (lv_at hl 0 rfl) ?_
  refine va_alen (v := (nI N)) hx hb hK.1 hP 0 0 rfl rfl rfl dJ7_fill_fda19_1 ?_
  refine lv_iload_n hx hb dJ7_fill_fda19_2 rfl (lv_at hl 1 rfl) ?_
  refine lv_iload_n hx hb dJ7_fill_fda19_3 rfl (lv_at hl 2 rfl) ?_
  refine g_V (k_S (n := 3) (As := [.int (nI N), .int (nI lo), .int (nI hi)]) (rest := []) (wc := []) hx hb hml hown hts (c_J7_rangeCheck_23922 (l := l) (G := G) (a := N) (f := lo) (t := hi) (h1 := by first | assumption | omega) (h2 := by first | assumption | omega) (h3 := by first | assumption | omega))  gJ7_fill_fda19_J7_rangeCheck_23922 rfl rfl rfl (by decide +kernel) ⟨Nat.le_of_ble_eq_true rfl, Nat.le_of_ble_eq_true rfl⟩ rfl hK hP hD [] rfl (by decide)  hl.1 rfl (Nat.le_of_ble_eq_true rfl) dJ7_fill_fda19_4 ⟨Nat.le_of_ble_eq_true rfl, Nat.le_of_ble_eq_true rfl⟩) hP hD hS [] rfl (fun H locs hB4 back hS => ?_)
  have hP1 := hB4
  obtain ⟨hP, hD⟩ := back [] rfl hP1
  have hP : va_P G.1 vwCl [ar G a N f] H := hP
  have hD : va_D A [ar G a N f] := hD
  refine lv_iload_n hx hb dJ7_fill_fda19_7 rfl (lv_at hl 1 rfl) ?_
  refine lv_istore (lv' := [(4, .int (nI lo)), (0, .ref a), (1, .int (nI lo)), (2, .int (nI hi)), (3, .int v)]) hx hb dJ7_fill_fda19_8 hl (by decide) rfl (fun ls hl => ?_)
  have L10 : ∀ (fu : Nat) (i : Nat) (g : Nat → Int32), hi + 1 - i < fu → lo ≤ i → i ≤ hi → (∀ j, g j = if lo ≤ j ∧ j < i then v else f j) → ∀ (H : Heap) (locs : List Loc), va_P G.1 vwCl [ar G a N g] H → va_D A [ar G a N g] → va_S A s.heap H locs → ∀ (ls : Array Slot), lv_has ls 5 [(0, .ref a), (1, .int (nI lo)), (2, .int (nI hi)), (3, .int v), (4, .int (nI i))] → W p l e ({ frames := 1, cells := 0, slots := 0, locals := 22 } : Room) s m args below meth cod H locs 0 0 Q (F0 m 10 ls []) := by
    intro fu
    induction fu with
    | zero => intro i g hm; exact absurd hm (Nat.not_lt_zero _)
    | succ fu ih10 =>
      intro i g hm10 hlo hi2 hg H locs hP hD hS ls hl
      have hP : va_P G.1 vwCl [ar G a N g] H := hP
      have hD : va_D A [ar G a N g] := hD
      refine lv_iload hx hb dJ7_fill_fda19_10 (lv_at hl 4 rfl) ?_
      refine lv_iload_n hx hb dJ7_fill_fda19_12 rfl (lv_at hl 2 rfl) ?_
      refine r_icmp_ge (P := hi ≤ i) (tgt := 27) hx hb dJ7_fill_fda19_13 (by decide) (nI_leI (by omega) (by omega)) (fun cq13 => ?_) (fun cq13 => ?_)
      · obtain rfl : i = hi := by omega
        obtain rfl : g = fun j => if lo ≤ j ∧ j < i then v else f j := funext hg
        exact hret _ _ _ _ hS dJ7_fill_fda19_27 (hP)
      · refine lv_aload_n hx hb dJ7_fill_fda19_16 rfl (lv_at hl 0 rfl) ?_
        refine lv_iload hx hb dJ7_fill_fda19_17 (lv_at hl 4 rfl) ?_
        refine lv_iload_n hx hb dJ7_fill_fda19_19 rfl (lv_at hl 3 rfl) ?_
        refine r_iast (e1 := i) (x := v) (g := upd g i v) hx hb hK.1 hP hD hS 0 0 rfl rfl (by omega) (by first | decide | assumption) (rfl) dJ7_fill_fda19_20 (fun H locs hP hD hS => ?_)
        have hP : va_P G.1 vwCl [ar G a N (upd g i v)] H := hP
        have hD : va_D A [ar G a N (upd g i v)] := hD
        refine r_iinc (v := i + 1) (lv' := [(4, .int (nI (i + 1))), (0, .ref a), (1, .int (nI lo)), (2, .int (nI hi)), (3, .int v)]) hx hb dJ7_fill_fda19_21 hl (k := 4) rfl (nI_1 _) (by decide) rfl (fun ls hl => ?_)
        refine lv_goto (tgt := 10) hx hb dJ7_fill_fda19_24 (by decide) ?_
        exact ih10 (i + 1) (upd g i v) (by omega) (by omega) (by omega) (r_fill hlo hg) _ _ hP hD hS ls (lv_sub hl [1, 2, 3, 4, 0] rfl)
  exact L10 ((hi + 1 - lo) + 1) lo f (Nat.lt_succ_self _) (by omega) (by omega) (fun j => by rw [if_neg]; omega) _ _ hP hD hS ls (lv_sub hl [1, 2, 3, 4, 0] rfl)

def bc_a (k : Nat) : Nat :=
  let v1 := Nat.sub k (Nat.land (Nat.div k 2) 1431655765)
  let v2 := Nat.add (Nat.land v1 858993459) (Nat.land (Nat.div v1 4) 858993459)
  let v3 := Nat.land (Nat.add v2 (Nat.div v2 16)) 252645135
  let v4 := Nat.add v3 (Nat.div v3 256)
  let v5 := Nat.add v4 (Nat.div v4 65536)
  Nat.land v5 63
def bc_p : Nat → Nat → Nat
  | 0, _ => 0
  | d + 1, k => Nat.add (bc_p d (Nat.div k 2)) (Nat.mod k 2)
def bc_all (f : Nat → Bool) : Nat → Nat → Bool
  | 0, a => f a
  | d + 1, a => bc_all f d (Nat.mul a 2) && bc_all f d (Nat.add (Nat.mul a 2) 1)
theorem bc_all_at (f : Nat → Bool) : ∀ (d a : Nat), bc_all f d a = true → ∀ k, k / 2 ^ d = a → f k = true
  | 0, a, h, k, hk => by
    rw [Nat.pow_zero, Nat.div_one] at hk
    subst hk; exact h
  | d + 1, a, h, k, hk => by
    have h' : bc_all f d (a * 2) = true ∧ bc_all f d (a * 2 + 1) = true := by
      have : (bc_all f d (a * 2) && bc_all f d (a * 2 + 1)) = true := h
      simpa using this
    rw [Nat.pow_succ, ← Nat.div_div_eq_div_mul] at hk
    rcases Nat.mod_two_eq_zero_or_one (k / 2 ^ d) with q | q
    · exact bc_all_at f d _ h'.1 k (by omega)
    · exact bc_all_at f d _ h'.2 k (by omega)
theorem bc_pop : ∀ (d k : Nat), bc_p d k = fb_ct (fun i => k.testBit i) d
  | 0, _ => rfl
  | d + 1, k => by
    have h := fb_ct_split (fun i => k.testBit i) 1 d
    rw [Nat.add_comm 1 d] at h
    rw [h]
    have e1 : fb_ct (fun i => k.testBit i) 1 = k % 2 := by
      rw [fb_ct_succ, Nat.testBit_zero]
      show 0 + _ = _
      rcases Nat.mod_two_eq_zero_or_one k with q | q <;> simp [q]
    have e2 : fb_ct (fun i => k.testBit (1 + i)) d = bc_p d (k / 2) := by
      rw [bc_pop d (k / 2)]
      refine fb_ct_cong (fun i _ => ?_)
      rw [Nat.add_comm 1 i, Nat.testBit_succ]
    rw [e1, e2]
    show bc_p d (k / 2) + k % 2 = _
    omega
theorem bc_chk : bc_all (fun k => Nat.beq (bc_a k) (bc_p 16 k)) 16 0 = true := by decide +kernel
theorem bc_ok (k : Nat) (hk : k < 65536) : ((((((k - (k / 2 ^ 1 &&& 1431655765)) &&& 858993459) + ((k - (k / 2 ^ 1 &&& 1431655765)) / 2 ^ 2 &&& 858993459)) + (((k - (k / 2 ^ 1 &&& 1431655765)) &&& 858993459) + ((k - (k / 2 ^ 1 &&& 1431655765)) / 2 ^ 2 &&& 858993459)) / 2 ^ 4 &&& 252645135) + ((((k - (k / 2 ^ 1 &&& 1431655765)) &&& 858993459) + ((k - (k / 2 ^ 1 &&& 1431655765)) / 2 ^ 2 &&& 858993459)) + (((k - (k / 2 ^ 1 &&& 1431655765)) &&& 858993459) + ((k - (k / 2 ^ 1 &&& 1431655765)) / 2 ^ 2 &&& 858993459)) / 2 ^ 4 &&& 252645135) / 2 ^ 8) + (((((k - (k / 2 ^ 1 &&& 1431655765)) &&& 858993459) + ((k - (k / 2 ^ 1 &&& 1431655765)) / 2 ^ 2 &&& 858993459)) + (((k - (k / 2 ^ 1 &&& 1431655765)) &&& 858993459) + ((k - (k / 2 ^ 1 &&& 1431655765)) / 2 ^ 2 &&& 858993459)) / 2 ^ 4 &&& 252645135) + ((((k - (k / 2 ^ 1 &&& 1431655765)) &&& 858993459) + ((k - (k / 2 ^ 1 &&& 1431655765)) / 2 ^ 2 &&& 858993459)) + (((k - (k / 2 ^ 1 &&& 1431655765)) &&& 858993459) + ((k - (k / 2 ^ 1 &&& 1431655765)) / 2 ^ 2 &&& 858993459)) / 2 ^ 4 &&& 252645135) / 2 ^ 8) / 2 ^ 16) &&& 63 = pop k := by
  have h := Nat.eq_of_beq_eq_true (bc_all_at _ 16 0 bc_chk k (by omega))
  have h2 : bc_a k = pop k := h.trans (bc_pop 16 k)
  exact h2
set_option maxHeartbeats 1000000 in
set_option maxRecDepth 100000 in
/-- how many bits of a small number are set -/
theorem c_J6_bitCount_0f7a4 (l : Launch) (G : kG) (k : Nat) (hk : k < 65536) : Met l yJ6_bitCount_0f7a4 wsJ6_bitCount_0f7a4 ({ frames := 0, cells := 0, slots := 0, locals := 0 } : Room) (cP G [.int (nI k)] []) (vp_Si (fun rv => rv = (nI (pop k)))) 0 0 (fun _ => False) := by
  refine met_ro (cc := cJ6_bitCount_0f7a4) (maxL := 1) (ty := .int) (own := RJ6) (by decide) rfl rfl (fun _ _ => rfl) (Nat.le_of_ble_eq_true rfl) ?_
  intro p e s m args below meth cod Q hx hb hml hown hts hK hP hD hret ls hl
  have hl : lv_has ls 1 [(0, .int (nI k))] := hl
  obtain ⟨p1, hp1⟩ : ∃ y, y = k / 2 ^ 1 &&& 1431655765 := ⟨_, rfl⟩
  have q1 : p1 ≤ k := by rw [hp1]; exact Nat.le_trans Nat.and_le_left (Nat.div_le_self _ _)
  obtain ⟨v1, hv1⟩ : ∃ y, y = k - p1 := ⟨_, rfl⟩
  have u1 : v1 < 2 ^ 16 := by omega
  obtain ⟨v2, hv2⟩ : ∃ y, y = (v1 &&& 858993459) + (v1 / 2 ^ 2 &&& 858993459) := ⟨_, rfl⟩
  have u2 : v2 < 2 ^ 18 := by have h1 := @Nat.and_le_left v1 858993459; have h2 := @Nat.and_le_left (v1 / 2 ^ 2) 858993459; omega
  obtain ⟨v3, hv3⟩ : ∃ y, y = v2 + v2 / 2 ^ 4 &&& 252645135 := ⟨_, rfl⟩
  have u3 : v3 < 2 ^ 20 := by have h1 := @Nat.and_le_left (v2 + v2 / 2 ^ 4) 252645135; omega
  obtain ⟨v4, hv4⟩ : ∃ y, y = v3 + v3 / 2 ^ 8 := ⟨_, rfl⟩
  obtain ⟨v5, hv5⟩ : ∃ y, y = v4 + v4 / 2 ^ 16 := ⟨_, rfl⟩
  have hr : v5 &&& 63 = pop k := by rw [hv5, hv4, hv3, hv2, hv1, hp1]; exact bc_ok k hk
  refine lv_iload_n hx hb dJ6_bitCount_0f7a4_0 rfl (lv_at hl 0 rfl) ?_
  refine lv_iload_n hx hb dJ6_bitCount_0f7a4_1 rfl (lv_at hl 0 rfl) ?_
  refine lv_iconst (v := (nI 1)) hx hb dJ6_bitCount_0f7a4_2 (by decide) ?_
  refine lv_iushr (v := (nI (k / 2 ^ 1))) hx hb dJ6_bitCount_0f7a4_3 (pk_ushrN (by omega) _ 1 (by decide)) ?_
  refine lv_ldcw (v := (nI 1431655765)) hx hb hown (hts (.constant RJ6 265 (nI 1431655765)) (List.mem_of_getElem? (i := 1) rfl)) dJ6_bitCount_0f7a4_4 ?_
  refine lv_iand hx hb dJ6_bitCount_0f7a4_7 ?_
  refine r_top (y := (nI p1)) (by rw [hp1]; exact fa_and _ _) ?_
  refine lv_isub hx hb dJ6_bitCount_0f7a4_8 ?_
  refine r_top (y := (nI v1)) (by rw [hv1]; exact pk_sub q1) ?_
  refine lv_istore_n (lv' := [(0, .int (nI v1))]) hx hb dJ6_bitCount_0f7a4_9 rfl hl (by decide) rfl (fun ls hl => ?_)
  refine lv_iload_n hx hb dJ6_bitCount_0f7a4_10 rfl (lv_at hl 0 rfl) ?_
  refine lv_ldcw (v := (nI 858993459)) hx hb hown (hts (.constant RJ6 266 (nI 858993459)) (List.mem_of_getElem? (i := 2) rfl)) dJ6_bitCount_0f7a4_11 ?_
  refine lv_iand hx hb dJ6_bitCount_0f7a4_14 ?_
  refine r_top (y := (nI (v1 &&& 858993459))) (fa_and _ _) ?_
  refine lv_iload_n hx hb dJ6_bitCount_0f7a4_15 rfl (lv_at hl 0 rfl) ?_
  refine lv_iconst (v := (nI 2)) hx hb dJ6_bitCount_0f7a4_16 (by decide) ?_
  refine lv_iushr (v := (nI (v1 / 2 ^ 2))) hx hb dJ6_bitCount_0f7a4_17 (pk_ushrN (by omega) _ 2 (by decide)) ?_
  refine lv_ldcw (v := (nI 858993459)) hx hb hown (hts (.constant RJ6 266 (nI 858993459)) (List.mem_of_getElem? (i := 2) rfl)) dJ6_bitCount_0f7a4_18 ?_
  refine lv_iand hx hb dJ6_bitCount_0f7a4_21 ?_
  refine r_top (y := (nI (v1 / 2 ^ 2 &&& 858993459))) (fa_and _ _) ?_
  refine lv_iadd hx hb dJ6_bitCount_0f7a4_22 ?_
  refine r_top (y := (nI v2)) (by rw [hv2]; exact nI_add _ _) ?_
  refine lv_istore_n (lv' := [(0, .int (nI v2))]) hx hb dJ6_bitCount_0f7a4_23 rfl hl (by decide) rfl (fun ls hl => ?_)
  refine lv_iload_n hx hb dJ6_bitCount_0f7a4_24 rfl (lv_at hl 0 rfl) ?_
  refine lv_iload_n hx hb dJ6_bitCount_0f7a4_25 rfl (lv_at hl 0 rfl) ?_
  refine lv_iconst (v := (nI 4)) hx hb dJ6_bitCount_0f7a4_26 (by decide) ?_
  refine lv_iushr (v := (nI (v2 / 2 ^ 4))) hx hb dJ6_bitCount_0f7a4_27 (pk_ushrN (by omega) _ 4 (by decide)) ?_
  refine r_iadd (v := v2 + (v2 / 2 ^ 4)) hx hb dJ6_bitCount_0f7a4_28 rfl ?_
  refine lv_ldcw (v := (nI 252645135)) hx hb hown (hts (.constant RJ6 267 (nI 252645135)) (List.mem_of_getElem? (i := 3) rfl)) dJ6_bitCount_0f7a4_29 ?_
  refine lv_iand hx hb dJ6_bitCount_0f7a4_32 ?_
  refine r_top (y := (nI v3)) (by rw [hv3]; exact fa_and _ _) ?_
  refine lv_istore_n (lv' := [(0, .int (nI v3))]) hx hb dJ6_bitCount_0f7a4_33 rfl hl (by decide) rfl (fun ls hl => ?_)
  refine lv_iload_n hx hb dJ6_bitCount_0f7a4_34 rfl (lv_at hl 0 rfl) ?_
  refine lv_iload_n hx hb dJ6_bitCount_0f7a4_35 rfl (lv_at hl 0 rfl) ?_
  refine lv_bipush (v := (nI 8)) hx hb dJ6_bitCount_0f7a4_36 (by decide) ?_
  refine lv_iushr (v := (nI (v3 / 2 ^ 8))) hx hb dJ6_bitCount_0f7a4_38 (pk_ushrN (by omega) _ 8 (by decide)) ?_
  refine lv_iadd hx hb dJ6_bitCount_0f7a4_39 ?_
  refine r_top (y := (nI v4)) (by rw [hv4]; exact nI_add _ _) ?_
  refine lv_istore_n (lv' := [(0, .int (nI v4))]) hx hb dJ6_bitCount_0f7a4_40 rfl hl (by decide) rfl (fun ls hl => ?_)
  refine lv_iload_n hx hb dJ6_bitCount_0f7a4_41 rfl (lv_at hl 0 rfl) ?_
  refine lv_iload_n hx hb dJ6_bitCount_0f7a4_42 rfl (lv_at hl 0 rfl) ?_
  refine lv_bipush (v := (nI 16)) hx hb dJ6_bitCount_0f7a4_43 (by decide) ?_
  refine lv_iushr (v := (nI (v4 / 2 ^ 16))) hx hb dJ6_bitCount_0f7a4_45 (pk_ushrN (by omega) _ 16 (by decide)) ?_
  refine lv_iadd hx hb dJ6_bitCount_0f7a4_46 ?_
  refine r_top (y := (nI v5)) (by rw [hv5]; exact nI_add _ _) ?_
  refine lv_istore_n (lv' := [(0, .int (nI v5))]) hx hb dJ6_bitCount_0f7a4_47 rfl hl (by decide) rfl (fun ls hl => ?_)
  refine lv_iload_n hx hb dJ6_bitCount_0f7a4_48 rfl (lv_at hl 0 rfl) ?_
  refine lv_bipush (v := (nI 63)) hx hb dJ6_bitCount_0f7a4_49 (by decide) ?_
  refine lv_iand hx hb dJ6_bitCount_0f7a4_51 ?_
  refine r_top (y := (nI (pop k))) (by rw [fa_and, hr]) ?_
  exact hret _ _ _ dJ6_bitCount_0f7a4_52 (rfl)

set_option maxHeartbeats 1000000 in
set_option maxRecDepth 100000 in
theorem c_X5_numberAt_n (l : Launch) (G : kG) (a N k : Nat) (f : Nat → Nat) (hN : N < 2 ^ 31) (hk : k < N) : Met l yX5_numberAt wsX5_numberAt ({ frames := 0, cells := 0, slots := 0, locals := 0 } : Room) (cP G [.ref a, .int (nI k)] [ar G a N (fun j => nI (f j))]) (vp_Si (fun rv => rv = (nI (f k)))) 0 0 (fun _ => False) := by
  refine met_ro (cc := cX5_numberAt) (maxL := 2) (ty := .int) (own := RX5) (by decide) rfl rfl (fun _ _ => rfl) (Nat.le_of_ble_eq_true rfl) ?_
  intro p e s m args below meth cod Q hx hb hml hown hts hK hP hD hret ls hl
  have hl : lv_has ls 2 [(0, .ref a), (1, .int (nI k))] := hl
  refine lv_iload_n hx hb dX5_numberAt_0 rfl (lv_at hl 1 rfl) ?_
  refine r_if_lt (P := False) (tgt := 16) hx hb dX5_numberAt_1 (by decide) (nI_lt0 (by omega)) (fun cq1 => ?_) (fun cq1 => ?_)
  · exact cq1.elim
  · refine lv_iload_n hx hb dX5_numberAt_4 rfl (lv_at hl 1 rfl) ?_
    refine lv_aload_n hx hb dX5_numberAt_5 rfl (lv_at hl 0 rfl) ?_
    refine va_alen (v := (nI N)) hx hb hK.1 hP 0 0 rfl rfl rfl dX5_numberAt_6 ?_
    refine r_icmp_ge (P := N ≤ k) (tgt := 16) hx hb dX5_numberAt_7 (by decide) (nI_leI (by omega) (by omega)) (fun cq7 => ?_) (fun cq7 => ?_)
    · exact absurd cq7 (by omega)
    · refine lv_aload_n hx hb dX5_numberAt_10 rfl (lv_at hl 0 rfl) ?_
      refine lv_iload_n hx hb dX5_numberAt_11 rfl (lv_at hl 1 rfl) ?_
      refine r_iald (e1 := k) (v := (nI (f k))) hx hb hK.1 hP 0 0 rfl rfl (by omega) (by first | decide | assumption) (rfl) dX5_numberAt_12 ?_
      refine lv_goto (tgt := 18) hx hb dX5_numberAt_13 (by decide) ?_
      exact hret _ _ _ dX5_numberAt_18 (rfl)

set_option maxHeartbeats 1000000 in
set_option maxRecDepth 100000 in
theorem c_X5_numberAt_e (l : Launch) (G : kG) (a N k : Nat) (f : Nat → Nat) (hN : N < 2 ^ 31) (hk : k < N) : Met l yX5_numberAt wsX5_numberAt ({ frames := 0, cells := 0, slots := 0, locals := 0 } : Room) (cP G [.ref a, .int (nI k)] [ar G a N (fun j => e9 (f j))]) (vp_Si (fun rv => rv = (e9 (f k)))) 0 0 (fun _ => False) := by
  refine met_ro (cc := cX5_numberAt) (maxL := 2) (ty := .int) (own := RX5) (by decide) rfl rfl (fun _ _ => rfl) (Nat.le_of_ble_eq_true rfl) ?_
  intro p e s m args below meth cod Q hx hb hml hown hts hK hP hD hret ls hl
  have hl : lv_has ls 2 [(0, .ref a), (1, .int (nI k))] := hl
  refine lv_iload_n hx hb dX5_numberAt_0 rfl (lv_at hl 1 rfl) ?_
  refine r_if_lt (P := False) (tgt := 16) hx hb dX5_numberAt_1 (by decide) (nI_lt0 (by omega)) (fun cq1 => ?_) (fun cq1 => ?_)
  · exact cq1.elim
  · refine lv_iload_n hx hb dX5_numberAt_4 rfl (lv_at hl 1 rfl) ?_
    refine lv_aload_n hx hb dX5_numberAt_5 rfl (lv_at hl 0 rfl) ?_
    refine va_alen (v := (nI N)) hx hb hK.1 hP 0 0 rfl rfl rfl dX5_numberAt_6 ?_
    refine r_icmp_ge (P := N ≤ k) (tgt := 16) hx hb dX5_numberAt_7 (by decide) (nI_leI (by omega) (by omega)) (fun cq7 => ?_) (fun cq7 => ?_)
    · exact absurd cq7 (by omega)
    · refine lv_aload_n hx hb dX5_numberAt_10 rfl (lv_at hl 0 rfl) ?_
      refine lv_iload_n hx hb dX5_numberAt_11 rfl (lv_at hl 1 rfl) ?_
      refine r_iald (e1 := k) (v := (e9 (f k))) hx hb hK.1 hP 0 0 rfl rfl (by omega) (by first | decide | assumption) (rfl) dX5_numberAt_12 ?_
      refine lv_goto (tgt := 18) hx hb dX5_numberAt_13 (by decide) ?_
      exact hret _ _ _ dX5_numberAt_18 (rfl)

set_option maxHeartbeats 1000000 in
set_option maxRecDepth 100000 in
theorem c_X5_numberAt_x (l : Launch) (G : kG) (a N k : Nat) (xk : Int32) (hxk : xk = e9 k) (f : Nat → Nat) (hN : N ≤ 800) (hk : k < N ∨ k = 1000) : Met l yX5_numberAt wsX5_numberAt ({ frames := 0, cells := 0, slots := 0, locals := 0 } : Room) (cP G [.ref a, .int xk] [ar G a N (fun j => e9 (f j))]) (vp_Si (fun rv => rv = (e9 (if k < N then f k else 1000)))) 0 0 (fun _ => False) := by
  subst hxk
  refine met_ro (cc := cX5_numberAt) (maxL := 2) (ty := .int) (own := RX5) (by decide) rfl rfl (fun _ _ => rfl) (Nat.le_of_ble_eq_true rfl) ?_
  intro p e s m args below meth cod Q hx hb hml hown hts hK hP hD hret ls hl
  have hl : lv_has ls 2 [(0, .ref a), (1, .int (e9 k))] := hl
  have hN31 : N < 2 ^ 31 := by omega
  refine lv_iload_n hx hb dX5_numberAt_0 rfl (lv_at hl 1 rfl) ?_
  refine r_if_lt (P := k = 1000) (tgt := 16) hx hb dX5_numberAt_1 (by decide) (e9_lt0 (by omega)) (fun cq1 => ?_) (fun cq1 => ?_)
  · refine lv_bipush (v := (e9 1000)) hx hb dX5_numberAt_16 (by decide) ?_
    exact hret _ _ _ dX5_numberAt_18 (by rw [if_neg (by omega)])
  · refine lv_iload_n hx hb dX5_numberAt_4 rfl (lv_at hl 1 rfl) ?_
    refine r_top (y := (nI k)) (e9_n cq1) ?_
    refine lv_aload_n hx hb dX5_numberAt_5 rfl (lv_at hl 0 rfl) ?_
    refine va_alen (v := (nI N)) hx hb hK.1 hP 0 0 rfl rfl rfl dX5_numberAt_6 ?_
    refine r_icmp_ge (P := N ≤ k) (tgt := 16) hx hb dX5_numberAt_7 (by decide) (nI_leI (by omega) (by omega)) (fun cq7 => ?_) (fun cq7 => ?_)
    · exact absurd cq7 (by omega)
    · refine lv_aload_n hx hb dX5_numberAt_10 rfl (lv_at hl 0 rfl) ?_
      refine lv_iload_n hx hb dX5_numberAt_11 rfl (lv_at hl 1 rfl) ?_
      refine r_top (y := (nI k)) (e9_n cq1) ?_
      refine r_iald (e1 := k) (v := (e9 (f k))) hx hb hK.1 hP 0 0 rfl rfl (by omega) (by first | decide | assumption) (rfl) dX5_numberAt_12 ?_
      refine lv_goto (tgt := 18) hx hb dX5_numberAt_13 (by decide) ?_
      exact hret _ _ _ dX5_numberAt_18 (by rw [if_pos (by omega)])

set_option maxHeartbeats 1000000 in
set_option maxRecDepth 100000 in
theorem c_X5_putAt_n (l : Launch) (G : kG) (a N k x : Nat) (f : Nat → Nat) (hN : N < 2 ^ 31) (hk : k < N) : Met l yX5_putAt wsX5_putAt ({ frames := 0, cells := 0, slots := 0, locals := 0 } : Room) (cP G [.ref a, .int (nI k), .int (nI x)] [ar G a N (fun j => nI (f j))]) (qV (fun H => va_P G.1 vwCl [ar G a N (fun j => nI ((va_up f k x) j))] H) (mA [ar G a N (fun j => nI (f j))])) 0 0 (mA [ar G a N (fun j => nI (f j))]) := by
  refine met_muV (cc := cX5_putAt) (maxL := 3) (own := RX5) (by decide) rfl rfl (Nat.le_of_ble_eq_true rfl) ?_
  intro p e s m args below meth cod Q A hx hb hml hown hts hK hP hD hS hret ls hl
  have hl : lv_has ls 3 [(0, .ref a), (1, .int (nI k)), (2, .int (nI x))] := hl
  refine lv_iload_n hx hb dX5_putAt_0 rfl (lv_at hl 1 rfl) ?_
  refine r_if_lt (P := False) (tgt := 14) hx hb dX5_putAt_1 (by decide) (nI_lt0 (by omega)) (fun cq1 => ?_) (fun cq1 => ?_)
  · exact cq1.elim
  · refine lv_iload_n hx hb dX5_putAt_4 rfl (lv_at hl 1 rfl) ?_
    refine lv_aload_n hx hb dX5_putAt_5 rfl (lv_at hl 0 rfl) ?_
    refine va_alen (v := (nI N)) hx hb hK.1 hP 0 0 rfl rfl rfl dX5_putAt_6 ?_
    refine r_icmp_ge (P := N ≤ k) (tgt := 14) hx hb dX5_putAt_7 (by decide) (nI_leI (by omega) (by omega)) (fun cq7 => ?_) (fun cq7 => ?_)
    · exact absurd cq7 (by omega)
    · refine lv_aload_n hx hb dX5_putAt_10 rfl (lv_at hl 0 rfl) ?_
      refine lv_iload_n hx hb dX5_putAt_11 rfl (lv_at hl 1 rfl) ?_
      refine lv_iload_n hx hb dX5_putAt_12 rfl (lv_at hl 2 rfl) ?_
      refine r_iast (e1 := k) (x := (nI x)) (g := (fun j => nI ((va_up f k x) j))) hx hb hK.1 hP hD hS 0 0 rfl rfl (by omega) (by first | decide | assumption) (up_nI _ _ _) dX5_putAt_13 (fun H locs hP hD hS => ?_)
      have hP : va_P G.1 vwCl [ar G a N (fun j => nI ((va_up f k x) j))] H := hP
      have hD : va_D A [ar G a N (fun j => nI ((va_up f k x) j))] := hD
      exact hret _ _ _ _ hS dX5_putAt_14 (hP)

set_option maxHeartbeats 1000000 in
set_option maxRecDepth 100000 in
theorem c_X5_putAt_e (l : Launch) (G : kG) (a N k x : Nat) (f : Nat → Nat) (hN : N < 2 ^ 31) (hk : k < N) (xx : Int32) (hxx : xx = e9 x) : Met l yX5_putAt wsX5_putAt ({ frames := 0, cells := 0, slots := 0, locals := 0 } : Room) (cP G [.ref a, .int (nI k), .int xx] [ar G a N (fun j => e9 (f j))]) (qV (fun H => va_P G.1 vwCl [ar G a N (fun j => e9 ((va_up f k x) j))] H) (mA [ar G a N (fun j => e9 (f j))])) 0 0 (mA [ar G a N (fun j => e9 (f j))]) := by
  subst hxx
  refine met_muV (cc := cX5_putAt) (maxL := 3) (own := RX5) (by decide) rfl rfl (Nat.le_of_ble_eq_true rfl) ?_
  intro p e s m args below meth cod Q A hx hb hml hown hts hK hP hD hS hret ls hl
  have hl : lv_has ls 3 [(0, .ref a), (1, .int (nI k)), (2, .int (e9 x))] := hl
  refine lv_iload_n hx hb dX5_putAt_0 rfl (lv_at hl 1 rfl) ?_
  refine r_if_lt (P := False) (tgt := 14) hx hb dX5_putAt_1 (by decide) (nI_lt0 (by omega)) (fun cq1 => ?_) (fun cq1 => ?_)
  · exact cq1.elim
  · refine lv_iload_n hx hb dX5_putAt_4 rfl (lv_at hl 1 rfl) ?_
    refine lv_aload_n hx hb dX5_putAt_5 rfl (lv_at hl 0 rfl) ?_
    refine va_alen (v := (nI N)) hx hb hK.1 hP 0 0 rfl rfl rfl dX5_putAt_6 ?_
    refine r_icmp_ge (P := N ≤ k) (tgt := 14) hx hb dX5_putAt_7 (by decide) (nI_leI (by omega) (by omega)) (fun cq7 => ?_) (fun cq7 => ?_)
    · exact absurd cq7 (by omega)
    · refine lv_aload_n hx hb dX5_putAt_10 rfl (lv_at hl 0 rfl) ?_
      refine lv_iload_n hx hb dX5_putAt_11 rfl (lv_at hl 1 rfl) ?_
      refine lv_iload_n hx hb dX5_putAt_12 rfl (lv_at hl 2 rfl) ?_
      refine r_iast (e1 := k) (x := (e9 x)) (g := (fun j => e9 ((va_up f k x) j))) hx hb hK.1 hP hD hS 0 0 rfl rfl (by omega) (by first | decide | assumption) (up_e9 _ _ _) dX5_putAt_13 (fun H locs hP hD hS => ?_)
      have hP : va_P G.1 vwCl [ar G a N (fun j => e9 ((va_up f k x) j))] H := hP
      have hD : va_D A [ar G a N (fun j => e9 ((va_up f k x) j))] := hD
      exact hret _ _ _ _ hS dX5_putAt_14 (hP)

theorem iqX1_defaultOf_X1 : ∀ w ∈ u_ws RX1 TX1 5, w ∈ wsX1_defaultOf := by decide +kernel
set_option maxHeartbeats 1000000 in
set_option maxRecDepth 100000 in
theorem c_X1_defaultOf (l : Launch) (G : kG) (o a1 a2 a3 a4 : Nat) (σ : Sg) (r : Nat) (hB : Bd σ) (hr : r < 24) : Met l yX1_defaultOf wsX1_defaultOf ({ frames := 1, cells := 0, slots := 0, locals := 21 } : Room) (cP G [.ref o, .int (nI r)] [ob o 1 [.int (nI (nn σ)), .ref a1, .ref a2, .ref a3, .ref a4], ar G a1 24 (fun j => nI ((dd σ) j)), ar G a2 384 (fun j => nI ((vv σ) j)), ar G a3 24 (fun j => e9 ((ff σ) j)), ar G a4 24 (fun j => e9 ((ss σ) j))]) (vp_Si (fun rv => rv = (nI (dd σ r)))) 0 0 (fun _ => False) := by
  refine met_ro (cc := cX1_defaultOf) (maxL := 2) (ty := .int) (own := RX1) (by decide) rfl rfl (fun _ _ => rfl) (Nat.le_of_ble_eq_true rfl) ?_
  intro p e s m args below meth cod Q hx hb hml hown hts hK hP hD hret ls hl
  have hl : lv_has ls 2 [(0, .ref o), (1, .int (nI r))] := hl
  refine lv_aload_n hx hb dX1_defaultOf_0 rfl (lv_at hl 0 rfl) ?_
  refine va_get (D := G.1) (ci := 1) (v := .ref a1) (C := RX1) (T := TX1) (N := 5) hx hb hts iqX1_defaultOf_X1 hown hK.1 hP 0 rfl rfl 1 (by decide) (hts (.fieldLink RX1 15 "PushedTables$State" "defaults" "[I") (List.mem_of_getElem? (i := 1) rfl)) (fun _ h9 => h9) rfl dX1_defaultOf_1 ?_
  refine lv_iload_n hx hb dX1_defaultOf_4 rfl (lv_at hl 1 rfl) ?_
  refine g_ro (k_SN (n := 2) (As := [.ref a1, .int (nI r)]) (rest := []) (wc := [ar G a1 24 (fun j => nI ((dd σ) j))]) hx hb hml hown hts (c_X5_numberAt_n (l := l) (G := G) (a := a1) (N := 24) (k := r) (f := dd σ) (hN := by first | assumption | omega) (hk := by first | assumption | omega))  gX1_defaultOf_X5_numberAt_n46 hK.2.2.2.1 (hts (.initialized RX5) (List.mem_of_getElem? (i := 3) rfl)) (hts (.static yX5_numberAt) (List.mem_of_getElem? (i := 2) rfl)) rfl rfl rfl (by decide +kernel) ⟨Nat.le_of_ble_eq_true rfl, Nat.le_of_ble_eq_true rfl⟩ rfl hK hP hD [1] rfl (by decide)  hl.1 rfl (Nat.le_of_ble_eq_true rfl) dX1_defaultOf_5 ⟨Nat.le_of_ble_eq_true rfl, Nat.le_of_ble_eq_true rfl⟩) (fun r5 h5 => ?_)
  obtain rfl : (nI ((dd σ) r)) = r5 := Eq.symm h5
  have b5 := Bd.d (by assumption : Bd σ) r
  exact hret _ _ _ dX1_defaultOf_8 (rfl)

theorem iqX1_formOf_X1 : ∀ w ∈ u_ws RX1 TX1 5, w ∈ wsX1_formOf := by decide +kernel
set_option maxHeartbeats 1000000 in
set_option maxRecDepth 100000 in
theorem c_X1_formOf (l : Launch) (G : kG) (o a1 a2 a3 a4 : Nat) (σ : Sg) (r : Nat) (hB : Bd σ) (hr : r < 24) : Met l yX1_formOf wsX1_formOf ({ frames := 1, cells := 0, slots := 0, locals := 21 } : Room) (cP G [.ref o, .int (nI r)] [ob o 1 [.int (nI (nn σ)), .ref a1, .ref a2, .ref a3, .ref a4], ar G a1 24 (fun j => nI ((dd σ) j)), ar G a2 384 (fun j => nI ((vv σ) j)), ar G a3 24 (fun j => e9 ((ff σ) j)), ar G a4 24 (fun j => e9 ((ss σ) j))]) (vp_Si (fun rv => rv = (e9 (ff σ r)))) 0 0 (fun _ => False) := by
  refine met_ro (cc := cX1_formOf) (maxL := 2) (ty := .int) (own := RX1) (by decide) rfl rfl (fun _ _ => rfl) (Nat.le_of_ble_eq_true rfl) ?_
  intro p e s m args below meth cod Q hx hb hml hown hts hK hP hD hret ls hl
  have hl : lv_has ls 2 [(0, .ref o), (1, .int (nI r))] := hl
  refine lv_aload_n hx hb dX1_formOf_0 rfl (lv_at hl 0 rfl) ?_
  refine va_get (D := G.1) (ci := 1) (v := .ref a3) (C := RX1) (T := TX1) (N := 5) hx hb hts iqX1_formOf_X1 hown hK.1 hP 0 rfl rfl 3 (by decide) (hts (.fieldLink RX1 22 "PushedTables$State" "forms" "[I") (List.mem_of_getElem? (i := 1) rfl)) (fun _ h9 => h9) rfl dX1_formOf_1 ?_
  refine lv_iload_n hx hb dX1_formOf_4 rfl (lv_at hl 1 rfl) ?_
  refine g_ro (k_SN (n := 2) (As := [.ref a3, .int (nI r)]) (rest := []) (wc := [ar G a3 24 (fun j => e9 ((ff σ) j))]) hx hb hml hown hts (c_X5_numberAt_e (l := l) (G := G) (a := a3) (N := 24) (k := r) (f := ff σ) (hN := by first | assumption | omega) (hk := by first | assumption | omega))  gX1_formOf_X5_numberAt_n46 hK.2.2.2.1 (hts (.initialized RX5) (List.mem_of_getElem? (i := 3) rfl)) (hts (.static yX5_numberAt) (List.mem_of_getElem? (i := 2) rfl)) rfl rfl rfl (by decide +kernel) ⟨Nat.le_of_ble_eq_true rfl, Nat.le_of_ble_eq_true rfl⟩ rfl hK hP hD [3] rfl (by decide)  hl.1 rfl (Nat.le_of_ble_eq_true rfl) dX1_formOf_5 ⟨Nat.le_of_ble_eq_true rfl, Nat.le_of_ble_eq_true rfl⟩) (fun r5 h5 => ?_)
  obtain rfl : (e9 ((ff σ) r)) = r5 := Eq.symm h5
  have b5 := Bd.f (by assumption : Bd σ) r
  exact hret _ _ _ dX1_formOf_8 (rfl)

theorem iqX1_shiftOf_X1 : ∀ w ∈ u_ws RX1 TX1 5, w ∈ wsX1_shiftOf := by decide +kernel
set_option maxHeartbeats 1000000 in
set_option maxRecDepth 100000 in
theorem c_X1_shiftOf (l : Launch) (G : kG) (o a1 a2 a3 a4 : Nat) (σ : Sg) (f : Nat) (xf : Int32) (hxf : xf = e9 f) (hB : Bd σ) (hf : f < 24 ∨ f = 1000) : Met l yX1_shiftOf wsX1_shiftOf ({ frames := 1, cells := 0, slots := 0, locals := 21 } : Room) (cP G [.ref o, .int xf] [ob o 1 [.int (nI (nn σ)), .ref a1, .ref a2, .ref a3, .ref a4], ar G a1 24 (fun j => nI ((dd σ) j)), ar G a2 384 (fun j => nI ((vv σ) j)), ar G a3 24 (fun j => e9 ((ff σ) j)), ar G a4 24 (fun j => e9 ((ss σ) j))]) (vp_Si (fun rv => rv = (e9 (shf σ f)))) 0 0 (fun _ => False) := by
  subst hxf
  refine met_ro (cc := cX1_shiftOf) (maxL := 2) (ty := .int) (own := RX1) (by decide) rfl rfl (fun _ _ => rfl) (Nat.le_of_ble_eq_true rfl) ?_
  intro p e s m args below meth cod Q hx hb hml hown hts hK hP hD hret ls hl
  have hl : lv_has ls 2 [(0, .ref o), (1, .int (e9 f))] := hl
  refine lv_aload_n hx hb dX1_shiftOf_0 rfl (lv_at hl 0 rfl) ?_
  refine va_get (D := G.1) (ci := 1) (v := .ref a4) (C := RX1) (T := TX1) (N := 5) hx hb hts iqX1_shiftOf_X1 hown hK.1 hP 0 rfl rfl 4 (by decide) (hts (.fieldLink RX1 25 "PushedTables$State" "shifts" "[I") (List.mem_of_getElem? (i := 1) rfl)) (fun _ h9 => h9) rfl dX1_shiftOf_1 ?_
  refine lv_iload_n hx hb dX1_shiftOf_4 rfl (lv_at hl 1 rfl) ?_
  refine g_ro (k_SN (n := 2) (As := [.ref a4, .int (e9 f)]) (rest := []) (wc := [ar G a4 24 (fun j => e9 ((ss σ) j))]) hx hb hml hown hts (c_X5_numberAt_x (l := l) (G := G) (a := a4) (N := 24) (k := f) (xk := (e9 f)) (hxk := rfl) (f := ss σ) (hN := by first | assumption | omega) (hk := by first | assumption | omega))  gX1_shiftOf_X5_numberAt_n46 hK.2.2.2.1 (hts (.initialized RX5) (List.mem_of_getElem? (i := 3) rfl)) (hts (.static yX5_numberAt) (List.mem_of_getElem? (i := 2) rfl)) rfl rfl rfl (by decide +kernel) ⟨Nat.le_of_ble_eq_true rfl, Nat.le_of_ble_eq_true rfl⟩ rfl hK hP hD [4] rfl (by decide)  hl.1 rfl (Nat.le_of_ble_eq_true rfl) dX1_shiftOf_5 ⟨Nat.le_of_ble_eq_true rfl, Nat.le_of_ble_eq_true rfl⟩) (fun r5 h5 => ?_)
  obtain rfl : (e9 (if f < 24 then (ss σ) f else 1000)) = r5 := Eq.symm h5
  exact hret _ _ _ dX1_shiftOf_8 (rfl)

theorem iqX1_giveForm_X1 : ∀ w ∈ u_ws RX1 TX1 5, w ∈ wsX1_giveForm := by decide +kernel
set_option maxHeartbeats 1000000 in
set_option maxRecDepth 100000 in
theorem c_X1_giveForm (l : Launch) (G : kG) (o a1 a2 a3 a4 : Nat) (σ : Sg) (r f : Nat) (xf : Int32) (hxf : xf = e9 f) (hr : r < 24) : Met l yX1_giveForm wsX1_giveForm ({ frames := 1, cells := 0, slots := 0, locals := 22 } : Room) (cP G [.ref o, .int (nI r), .int xf] [ob o 1 [.int (nI (nn σ)), .ref a1, .ref a2, .ref a3, .ref a4], ar G a1 24 (fun j => nI ((dd σ) j)), ar G a2 384 (fun j => nI ((vv σ) j)), ar G a3 24 (fun j => e9 ((ff σ) j)), ar G a4 24 (fun j => e9 ((ss σ) j))]) (qV (fun H => va_P G.1 vwCl [ob o 1 [.int (nI (nn σ)), .ref a1, .ref a2, .ref a3, .ref a4], ar G a1 24 (fun j => nI ((dd σ) j)), ar G a2 384 (fun j => nI ((vv σ) j)), ar G a3 24 (fun j => e9 ((va_up (ff σ) r f) j)), ar G a4 24 (fun j => e9 ((ss σ) j))] H) (mA [ob o 1 [.int (nI (nn σ)), .ref a1, .ref a2, .ref a3, .ref a4], ar G a1 24 (fun j => nI ((dd σ) j)), ar G a2 384 (fun j => nI ((vv σ) j)), ar G a3 24 (fun j => e9 ((ff σ) j)), ar G a4 24 (fun j => e9 ((ss σ) j))])) 0 0 (mA [ob o 1 [.int (nI (nn σ)), .ref a1, .ref a2, .ref a3, .ref a4], ar G a1 24 (fun j => nI ((dd σ) j)), ar G a2 384 (fun j => nI ((vv σ) j)), ar G a3 24 (fun j => e9 ((ff σ) j)), ar G a4 24 (fun j => e9 ((ss σ) j))]) := by
  subst hxf
  refine met_muV (cc := cX1_giveForm) (maxL := 3) (own := RX1) (by decide) rfl rfl (Nat.le_of_ble_eq_true rfl) ?_
  intro p e s m args below meth cod Q A hx hb hml hown hts hK hP hD hS hret ls hl
  have hl : lv_has ls 3 [(0, .ref o), (1, .int (nI r)), (2, .int (e9 f))] := hl
  refine lv_aload_n hx hb dX1_giveForm_0 rfl (lv_at hl 0 rfl) ?_
  refine va_get (D := G.1) (ci := 1) (v := .ref a3) (C := RX1) (T := TX1) (N := 5) hx hb hts iqX1_giveForm_X1 hown hK.1 hP 0 rfl rfl 3 (by decide) (hts (.fieldLink RX1 22 "PushedTables$State" "forms" "[I") (List.mem_of_getElem? (i := 1) rfl)) (fun _ h9 => h9) rfl dX1_giveForm_1 ?_
  refine lv_iload_n hx hb dX1_giveForm_4 rfl (lv_at hl 1 rfl) ?_
  refine lv_iload_n hx hb dX1_giveForm_5 rfl (lv_at hl 2 rfl) ?_
  refine g_V (k_SN (n := 3) (As := [.ref a3, .int (nI r), .int (e9 f)]) (rest := []) (wc := [ar G a3 24 (fun j => e9 ((ff σ) j))]) hx hb hml hown hts (c_X5_putAt_e (l := l) (G := G) (a := a3) (N := 24) (k := r) (x := f) (f := ff σ) (hN := by first | assumption | omega) (hk := by first | assumption | omega) (xx := (e9 f)) (hxx := rfl))  gX1_giveForm_X5_putAt_n50 hK.2.2.2.2.1 (hts (.initialized RX5) (List.mem_of_getElem? (i := 3) rfl)) (hts (.static yX5_putAt) (List.mem_of_getElem? (i := 2) rfl)) rfl rfl rfl (by decide +kernel) ⟨Nat.le_of_ble_eq_true rfl, Nat.le_of_ble_eq_true rfl⟩ rfl hK hP hD [3] rfl (by decide)  hl.1 rfl (Nat.le_of_ble_eq_true rfl) dX1_giveForm_6 ⟨Nat.le_of_ble_eq_true rfl, Nat.le_of_ble_eq_true rfl⟩) hP hD hS [3] rfl (fun H locs hB6 back hS => ?_)
  have hP1 := hB6
  obtain ⟨hP, hD⟩ := back [ar G a3 24 (fun j => e9 ((va_up (ff σ) r f) j))] rfl hP1
  have hP : va_P G.1 vwCl [ob o 1 [.int (nI (nn σ)), .ref a1, .ref a2, .ref a3, .ref a4], ar G a1 24 (fun j => nI ((dd σ) j)), ar G a2 384 (fun j => nI ((vv σ) j)), ar G a3 24 (fun j => e9 ((va_up (ff σ) r f) j)), ar G a4 24 (fun j => e9 ((ss σ) j))] H := hP
  have hD : va_D A [ob o 1 [.int (nI (nn σ)), .ref a1, .ref a2, .ref a3, .ref a4], ar G a1 24 (fun j => nI ((dd σ) j)), ar G a2 384 (fun j => nI ((vv σ) j)), ar G a3 24 (fun j => e9 ((va_up (ff σ) r f) j)), ar G a4 24 (fun j => e9 ((ss σ) j))] := hD
  exact hret _ _ _ _ hS dX1_giveForm_9 (hP)

theorem iqX1_changeShift_X1 : ∀ w ∈ u_ws RX1 TX1 5, w ∈ wsX1_changeShift := by decide +kernel
set_option maxHeartbeats 1000000 in
set_option maxRecDepth 100000 in
theorem c_X1_changeShift (l : Launch) (G : kG) (o a1 a2 a3 a4 : Nat) (σ : Sg) (f s1 : Nat) (xs1 : Int32) (hxs1 : xs1 = e9 s1) (hf : f < 24) : Met l yX1_changeShift wsX1_changeShift ({ frames := 1, cells := 0, slots := 0, locals := 22 } : Room) (cP G [.ref o, .int (nI f), .int xs1] [ob o 1 [.int (nI (nn σ)), .ref a1, .ref a2, .ref a3, .ref a4], ar G a1 24 (fun j => nI ((dd σ) j)), ar G a2 384 (fun j => nI ((vv σ) j)), ar G a3 24 (fun j => e9 ((ff σ) j)), ar G a4 24 (fun j => e9 ((ss σ) j))]) (qV (fun H => va_P G.1 vwCl [ob o 1 [.int (nI (nn σ)), .ref a1, .ref a2, .ref a3, .ref a4], ar G a1 24 (fun j => nI ((dd σ) j)), ar G a2 384 (fun j => nI ((vv σ) j)), ar G a3 24 (fun j => e9 ((ff σ) j)), ar G a4 24 (fun j => e9 ((va_up (ss σ) f s1) j))] H) (mA [ob o 1 [.int (nI (nn σ)), .ref a1, .ref a2, .ref a3, .ref a4], ar G a1 24 (fun j => nI ((dd σ) j)), ar G a2 384 (fun j => nI ((vv σ) j)), ar G a3 24 (fun j => e9 ((ff σ) j)), ar G a4 24 (fun j => e9 ((ss σ) j))])) 0 0 (mA [ob o 1 [.int (nI (nn σ)), .ref a1, .ref a2, .ref a3, .ref a4], ar G a1 24 (fun j => nI ((dd σ) j)), ar G a2 384 (fun j => nI ((vv σ) j)), ar G a3 24 (fun j => e9 ((ff σ) j)), ar G a4 24 (fun j => e9 ((ss σ) j))]) := by
  subst hxs1
  refine met_muV (cc := cX1_changeShift) (maxL := 3) (own := RX1) (by decide) rfl rfl (Nat.le_of_ble_eq_true rfl) ?_
  intro p e s m args below meth cod Q A hx hb hml hown hts hK hP hD hS hret ls hl
  have hl : lv_has ls 3 [(0, .ref o), (1, .int (nI f)), (2, .int (e9 s1))] := hl
  refine lv_aload_n hx hb dX1_changeShift_0 rfl (lv_at hl 0 rfl) ?_
  refine va_get (D := G.1) (ci := 1) (v := .ref a4) (C := RX1) (T := TX1) (N := 5) hx hb hts iqX1_changeShift_X1 hown hK.1 hP 0 rfl rfl 4 (by decide) (hts (.fieldLink RX1 25 "PushedTables$State" "shifts" "[I") (List.mem_of_getElem? (i := 1) rfl)) (fun _ h9 => h9) rfl dX1_changeShift_1 ?_
  refine lv_iload_n hx hb dX1_changeShift_4 rfl (lv_at hl 1 rfl) ?_
  refine lv_iload_n hx hb dX1_changeShift_5 rfl (lv_at hl 2 rfl) ?_
  refine g_V (k_SN (n := 3) (As := [.ref a4, .int (nI f), .int (e9 s1)]) (rest := []) (wc := [ar G a4 24 (fun j => e9 ((ss σ) j))]) hx hb hml hown hts (c_X5_putAt_e (l := l) (G := G) (a := a4) (N := 24) (k := f) (x := s1) (f := ss σ) (hN := by first | assumption | omega) (hk := by first | assumption | omega) (xx := (e9 s1)) (hxx := rfl))  gX1_changeShift_X5_putAt_n50 hK.2.2.2.2.1 (hts (.initialized RX5) (List.mem_of_getElem? (i := 3) rfl)) (hts (.static yX5_putAt) (List.mem_of_getElem? (i := 2) rfl)) rfl rfl rfl (by decide +kernel) ⟨Nat.le_of_ble_eq_true rfl, Nat.le_of_ble_eq_true rfl⟩ rfl hK hP hD [4] rfl (by decide)  hl.1 rfl (Nat.le_of_ble_eq_true rfl) dX1_changeShift_6 ⟨Nat.le_of_ble_eq_true rfl, Nat.le_of_ble_eq_true rfl⟩) hP hD hS [4] rfl (fun H locs hB6 back hS => ?_)
  have hP1 := hB6
  obtain ⟨hP, hD⟩ := back [ar G a4 24 (fun j => e9 ((va_up (ss σ) f s1) j))] rfl hP1
  have hP : va_P G.1 vwCl [ob o 1 [.int (nI (nn σ)), .ref a1, .ref a2, .ref a3, .ref a4], ar G a1 24 (fun j => nI ((dd σ) j)), ar G a2 384 (fun j => nI ((vv σ) j)), ar G a3 24 (fun j => e9 ((ff σ) j)), ar G a4 24 (fun j => e9 ((va_up (ss σ) f s1) j))] H := hP
  have hD : va_D A [ob o 1 [.int (nI (nn σ)), .ref a1, .ref a2, .ref a3, .ref a4], ar G a1 24 (fun j => nI ((dd σ) j)), ar G a2 384 (fun j => nI ((vv σ) j)), ar G a3 24 (fun j => e9 ((ff σ) j)), ar G a4 24 (fun j => e9 ((va_up (ss σ) f s1) j))] := hD
  exact hret _ _ _ _ hS dX1_changeShift_9 (hP)

theorem iqX1_valueAt_X1 : ∀ w ∈ u_ws RX1 TX1 5, w ∈ wsX1_valueAt := by decide +kernel
set_option maxHeartbeats 1000000 in
set_option maxRecDepth 100000 in
theorem c_X1_valueAt (l : Launch) (G : kG) (o a1 a2 a3 a4 : Nat) (σ : Sg) (r c : Nat) (hB : Bd σ) (hr : r < 24) (hc : c < 16) : Met l yX1_valueAt wsX1_valueAt ({ frames := 1, cells := 0, slots := 0, locals := 21 } : Room) (cP G [.ref o, .int (nI r), .int (nI c)] [ob o 1 [.int (nI (nn σ)), .ref a1, .ref a2, .ref a3, .ref a4], ar G a1 24 (fun j => nI ((dd σ) j)), ar G a2 384 (fun j => nI ((vv σ) j)), ar G a3 24 (fun j => e9 ((ff σ) j)), ar G a4 24 (fun j => e9 ((ss σ) j))]) (vp_Si (fun rv => rv = (nI (vv σ (r * 16 + c))))) 0 0 (fun _ => False) := by
  refine met_ro (cc := cX1_valueAt) (maxL := 3) (ty := .int) (own := RX1) (by decide) rfl rfl (fun _ _ => rfl) (Nat.le_of_ble_eq_true rfl) ?_
  intro p e s m args below meth cod Q hx hb hml hown hts hK hP hD hret ls hl
  have hl : lv_has ls 3 [(0, .ref o), (1, .int (nI r)), (2, .int (nI c))] := hl
  refine lv_aload_n hx hb dX1_valueAt_0 rfl (lv_at hl 0 rfl) ?_
  refine va_get (D := G.1) (ci := 1) (v := .ref a2) (C := RX1) (T := TX1) (N := 5) hx hb hts iqX1_valueAt_X1 hown hK.1 hP 0 rfl rfl 2 (by decide) (hts (.fieldLink RX1 19 "PushedTables$State" "values" "[I") (List.mem_of_getElem? (i := 1) rfl)) (fun _ h9 => h9) rfl dX1_valueAt_1 ?_
  refine lv_iload_n hx hb dX1_valueAt_4 rfl (lv_at hl 1 rfl) ?_
  refine lv_bipush (v := (nI 16)) hx hb dX1_valueAt_5 (by decide) ?_
  refine r_imul (v := r * 16) hx hb dX1_valueAt_7 rfl ?_
  refine lv_iload_n hx hb dX1_valueAt_8 rfl (lv_at hl 2 rfl) ?_
  refine r_iadd (v := (r * 16) + c) hx hb dX1_valueAt_9 rfl ?_
  refine g_ro (k_SN (n := 2) (As := [.ref a2, .int (nI ((r * 16) + c))]) (rest := []) (wc := [ar G a2 384 (fun j => nI ((vv σ) j))]) hx hb hml hown hts (c_X5_numberAt_n (l := l) (G := G) (a := a2) (N := 384) (k := (r * 16) + c) (f := vv σ) (hN := by first | assumption | omega) (hk := by first | assumption | omega))  gX1_valueAt_X5_numberAt_n46 hK.2.2.2.1 (hts (.initialized RX5) (List.mem_of_getElem? (i := 3) rfl)) (hts (.static yX5_numberAt) (List.mem_of_getElem? (i := 2) rfl)) rfl rfl rfl (by decide +kernel) ⟨Nat.le_of_ble_eq_true rfl, Nat.le_of_ble_eq_true rfl⟩ rfl hK hP hD [2] rfl (by decide)  hl.1 rfl (Nat.le_of_ble_eq_true rfl) dX1_valueAt_10 ⟨Nat.le_of_ble_eq_true rfl, Nat.le_of_ble_eq_true rfl⟩) (fun r10 h10 => ?_)
  obtain rfl : (nI ((vv σ) ((r * 16) + c))) = r10 := Eq.symm h10
  have b10 := Bd.v (by assumption : Bd σ) ((r * 16) + c)
  exact hret _ _ _ dX1_valueAt_13 (rfl)

theorem iqX1_isEntry_X1 : ∀ w ∈ u_ws RX1 TX1 5, w ∈ wsX1_isEntry := by decide +kernel
set_option maxHeartbeats 1000000 in
set_option maxRecDepth 100000 in
theorem c_X1_isEntry (l : Launch) (G : kG) (o a1 a2 a3 a4 : Nat) (σ : Sg) (r c : Nat) (hB : Bd σ) (hr : r < 24) (hc : c < 16) : Met l yX1_isEntry wsX1_isEntry ({ frames := 1, cells := 0, slots := 0, locals := 21 } : Room) (cP G [.ref o, .int (nI r), .int (nI c)] [ob o 1 [.int (nI (nn σ)), .ref a1, .ref a2, .ref a3, .ref a4], ar G a1 24 (fun j => nI ((dd σ) j)), ar G a2 384 (fun j => nI ((vv σ) j)), ar G a3 24 (fun j => e9 ((ff σ) j)), ar G a4 24 (fun j => e9 ((ss σ) j))]) (vp_Si (fun rv => rv = (bI (ent σ r c)))) 0 0 (fun _ => False) := by
  refine met_ro (cc := cX1_isEntry) (maxL := 3) (ty := .boolean) (own := RX1) (by decide) rfl rfl (fun _ h => by rw [h]; exact bI_nar _) (Nat.le_of_ble_eq_true rfl) ?_
  intro p e s m args below meth cod Q hx hb hml hown hts hK hP hD hret ls hl
  have hl : lv_has ls 3 [(0, .ref o), (1, .int (nI r)), (2, .int (nI c))] := hl
  refine lv_aload_n hx hb dX1_isEntry_0 rfl (lv_at hl 0 rfl) ?_
  refine va_get (D := G.1) (ci := 1) (v := .ref a2) (C := RX1) (T := TX1) (N := 5) hx hb hts iqX1_isEntry_X1 hown hK.1 hP 0 rfl rfl 2 (by decide) (hts (.fieldLink RX1 19 "PushedTables$State" "values" "[I") (List.mem_of_getElem? (i := 1) rfl)) (fun _ h9 => h9) rfl dX1_isEntry_1 ?_
  refine lv_iload_n hx hb dX1_isEntry_4 rfl (lv_at hl 1 rfl) ?_
  refine lv_bipush (v := (nI 16)) hx hb dX1_isEntry_5 (by decide) ?_
  refine r_imul (v := r * 16) hx hb dX1_isEntry_7 rfl ?_
  refine lv_iload_n hx hb dX1_isEntry_8 rfl (lv_at hl 2 rfl) ?_
  refine r_iadd (v := (r * 16) + c) hx hb dX1_isEntry_9 rfl ?_
  refine g_ro (k_SN (n := 2) (As := [.ref a2, .int (nI ((r * 16) + c))]) (rest := []) (wc := [ar G a2 384 (fun j => nI ((vv σ) j))]) hx hb hml hown hts (c_X5_numberAt_n (l := l) (G := G) (a := a2) (N := 384) (k := (r * 16) + c) (f := vv σ) (hN := by first | assumption | omega) (hk := by first | assumption | omega))  gX1_isEntry_X5_numberAt_n46 hK.2.2.2.1 (hts (.initialized RX5) (List.mem_of_getElem? (i := 4) rfl)) (hts (.static yX5_numberAt) (List.mem_of_getElem? (i := 3) rfl)) rfl rfl rfl (by decide +kernel) ⟨Nat.le_of_ble_eq_true rfl, Nat.le_of_ble_eq_true rfl⟩ rfl hK hP hD [2] rfl (by decide)  hl.1 rfl (Nat.le_of_ble_eq_true rfl) dX1_isEntry_10 ⟨Nat.le_of_ble_eq_true rfl, Nat.le_of_ble_eq_true rfl⟩) (fun r10 h10 => ?_)
  obtain rfl : (nI ((vv σ) ((r * 16) + c))) = r10 := Eq.symm h10
  have b10 := Bd.v (by assumption : Bd σ) ((r * 16) + c)
  refine lv_aload_n hx hb dX1_isEntry_13 rfl (lv_at hl 0 rfl) ?_
  refine va_get (D := G.1) (ci := 1) (v := .ref a1) (C := RX1) (T := TX1) (N := 5) hx hb hts iqX1_isEntry_X1 hown hK.1 hP 0 rfl rfl 1 (by decide) (hts (.fieldLink RX1 15 "PushedTables$State" "defaults" "[I") (List.mem_of_getElem? (i := 2) rfl)) (fun _ h9 => h9) rfl dX1_isEntry_14 ?_
  refine lv_iload_n hx hb dX1_isEntry_17 rfl (lv_at hl 1 rfl) ?_
  refine g_ro (k_SN (n := 2) (As := [.ref a1, .int (nI r)]) (rest := [.int (nI ((vv σ) ((r * 16) + c)))]) (wc := [ar G a1 24 (fun j => nI ((dd σ) j))]) hx hb hml hown hts (c_X5_numberAt_n (l := l) (G := G) (a := a1) (N := 24) (k := r) (f := dd σ) (hN := by first | assumption | omega) (hk := by first | assumption | omega))  gX1_isEntry_X5_numberAt_n46 hK.2.2.2.1 (hts (.initialized RX5) (List.mem_of_getElem? (i := 4) rfl)) (hts (.static yX5_numberAt) (List.mem_of_getElem? (i := 3) rfl)) rfl rfl rfl (by decide +kernel) ⟨Nat.le_of_ble_eq_true rfl, Nat.le_of_ble_eq_true rfl⟩ rfl hK hP hD [1] rfl (by decide)  hl.1 rfl (Nat.le_of_ble_eq_true rfl) dX1_isEntry_18 ⟨Nat.le_of_ble_eq_true rfl, Nat.le_of_ble_eq_true rfl⟩) (fun r18 h18 => ?_)
  obtain rfl : (nI ((dd σ) r)) = r18 := Eq.symm h18
  have b18 := Bd.d (by assumption : Bd σ) r
  refine r_icmp_eq (P := ((vv σ) ((r * 16) + c)) = ((dd σ) r)) (tgt := 28) hx hb dX1_isEntry_21 (by decide) (nI_eq (by omega) (by omega)) (fun cq21 => ?_) (fun cq21 => ?_)
  · refine lv_iconst (v := (nI 0)) hx hb dX1_isEntry_28 (by decide) ?_
    exact hret _ _ _ dX1_isEntry_29 (bIf (ent_f.mpr cq21))
  · refine lv_iconst (v := (nI 1)) hx hb dX1_isEntry_24 (by decide) ?_
    refine lv_goto (tgt := 29) hx hb dX1_isEntry_25 (by decide) ?_
    exact hret _ _ _ dX1_isEntry_29 (bIt (ent_t.mpr cq21))

set_option maxHeartbeats 1000000 in
set_option maxRecDepth 100000 in
theorem c_X1_columnsOf (l : Launch) (G : kG) (o a1 a2 a3 a4 : Nat) (σ : Sg) (r : Nat) (hB : Bd σ) (hr : r < 24) : Met l yX1_columnsOf wsX1_columnsOf ({ frames := 2, cells := 0, slots := 0, locals := 43 } : Room) (cP G [.ref o, .int (nI r)] [ob o 1 [.int (nI (nn σ)), .ref a1, .ref a2, .ref a3, .ref a4], ar G a1 24 (fun j => nI ((dd σ) j)), ar G a2 384 (fun j => nI ((vv σ) j)), ar G a3 24 (fun j => e9 ((ff σ) j)), ar G a4 24 (fun j => e9 ((ss σ) j))]) (vp_Si (fun rv => rv = (nI (cols σ r)))) 0 0 (fun _ => False) := by
  refine met_ro (cc := cX1_columnsOf) (maxL := 4) (ty := .int) (own := RX1) (by decide) rfl rfl (fun _ _ => rfl) (Nat.le_of_ble_eq_true rfl) ?_
  intro p e s m args below meth cod Q hx hb hml hown hts hK hP hD hret ls hl
  have hl : lv_has ls 4 [(0, .ref o), (1, .int (nI r))] := hl
  refine lv_iconst (v := (nI 0)) hx hb dX1_columnsOf_0 (by decide) ?_
  refine lv_istore_n (lv' := [(2, .int (nI 0)), (0, .ref o), (1, .int (nI r))]) hx hb dX1_columnsOf_1 rfl hl (by decide) rfl (fun ls hl => ?_)
  refine lv_iconst (v := (nI 0)) hx hb dX1_columnsOf_2 (by decide) ?_
  refine lv_istore_n (lv' := [(3, .int (nI 0)), (2, .int (nI 0)), (0, .ref o), (1, .int (nI r))]) hx hb dX1_columnsOf_3 rfl hl (by decide) rfl (fun ls hl => ?_)
  have L4 : ∀ (fu : Nat) (k : Nat) (c : Nat), 17 - c < fu → c ≤ 16 → k = msk (ent σ r) c → ∀ (ls : Array Slot), lv_has ls 4 [(0, .ref o), (1, .int (nI r)), (2, .int (nI k)), (3, .int (nI c))] → W p l e ({ frames := 2, cells := 0, slots := 0, locals := 43 } : Room) s m args below meth cod s.heap [] 0 0 Q (F0 m 4 ls []) := by
    intro fu
    induction fu with
    | zero => intro k c hm; exact absurd hm (Nat.not_lt_zero _)
    | succ fu ih4 =>
      intro k c hm4 hc hk ls hl
      refine lv_iload_n hx hb dX1_columnsOf_4 rfl (lv_at hl 3 rfl) ?_
      refine lv_bipush (v := (nI 16)) hx hb dX1_columnsOf_5 (by decide) ?_
      refine r_icmp_ge (P := 16 ≤ c) (tgt := 31) hx hb dX1_columnsOf_7 (by decide) (nI_leI (by omega) (by omega)) (fun cq7 => ?_) (fun cq7 => ?_)
      · refine lv_iload_n hx hb dX1_columnsOf_31 rfl (lv_at hl 2 rfl) ?_
        exact hret _ _ _ dX1_columnsOf_32 (by have e : c = 16 := (by omega); rw [hk, e]; rfl)
      · refine lv_aload_n hx hb dX1_columnsOf_10 rfl (lv_at hl 0 rfl) ?_
        refine lv_iload_n hx hb dX1_columnsOf_11 rfl (lv_at hl 1 rfl) ?_
        refine lv_iload_n hx hb dX1_columnsOf_12 rfl (lv_at hl 3 rfl) ?_
        refine g_ro (k_V (q0 := 0) (ci := 1) (n := 2) (As := [.int (nI r), .int (nI c)]) (rest := []) (wc := [ob o 1 [.int (nI (nn σ)), .ref a1, .ref a2, .ref a3, .ref a4], ar G a1 24 (fun j => nI ((dd σ) j)), ar G a2 384 (fun j => nI ((vv σ) j)), ar G a3 24 (fun j => e9 ((ff σ) j)), ar G a4 24 (fun j => e9 ((ss σ) j))]) hx hb hml hown hts (c_X1_isEntry (l := l) (G := G) (o := o) (a1 := a1) (a2 := a2) (a3 := a3) (a4 := a4) (σ := σ) (r := r) (c := c) (hB := by first | assumption | omega) (hr := by first | assumption | omega) (hc := by first | assumption | omega))  gX1_columnsOf_X1_isEntry rfl rfl rfl (by decide +kernel) ⟨Nat.le_of_ble_eq_true rfl, Nat.le_of_ble_eq_true rfl⟩ rfl hK hP hD [0, 1, 2, 3, 4] rfl (by decide)  rfl rfl rfl hl.1 rfl (Nat.le_of_ble_eq_true rfl) dX1_columnsOf_13 ⟨Nat.le_of_ble_eq_true rfl, Nat.le_of_ble_eq_true rfl⟩) (fun r13 h13 => ?_)
        obtain rfl : (bI (ent σ r c)) = r13 := Eq.symm h13
        refine r_if_eq (P := (ent σ r c) = false) (tgt := 25) hx hb dX1_columnsOf_16 (by decide) (bI_eq0) (fun cq16 => ?_) (fun cq16 => ?_)
        · refine r_iinc (v := c + 1) (lv' := [(3, .int (nI (c + 1))), (0, .ref o), (1, .int (nI r)), (2, .int (nI k))]) hx hb dX1_columnsOf_25 hl (k := 3) rfl (nI_1 _) (by decide) rfl (fun ls hl => ?_)
          refine lv_goto (tgt := 4) hx hb dX1_columnsOf_28 (by decide) ?_
          exact ih4 k (c + 1) (by omega) (by omega) (msk_f cq16 hk) ls (lv_sub hl [1, 2, 3, 0] rfl)
        · refine lv_iload_n hx hb dX1_columnsOf_19 rfl (lv_at hl 2 rfl) ?_
          refine lv_iconst (v := (nI 1)) hx hb dX1_columnsOf_20 (by decide) ?_
          refine lv_iload_n hx hb dX1_columnsOf_21 rfl (lv_at hl 3 rfl) ?_
          refine lv_ishl hx hb dX1_columnsOf_22 ?_
          refine r_top (y := (nI (2 ^ c))) (r_shl1 (by omega)) ?_
          refine lv_ior hx hb dX1_columnsOf_23 ?_
          refine r_top (y := (nI (k ||| (2 ^ c)))) (fa_or _ _) ?_
          refine lv_istore_n (lv' := [(2, .int (nI (k ||| (2 ^ c)))), (0, .ref o), (1, .int (nI r)), (3, .int (nI c))]) hx hb dX1_columnsOf_24 rfl hl (by decide) rfl (fun ls hl => ?_)
          refine r_iinc (v := c + 1) (lv' := [(3, .int (nI (c + 1))), (2, .int (nI (k ||| (2 ^ c)))), (0, .ref o), (1, .int (nI r))]) hx hb dX1_columnsOf_25 hl (k := 3) rfl (nI_1 _) (by decide) rfl (fun ls hl => ?_)
          refine lv_goto (tgt := 4) hx hb dX1_columnsOf_28 (by decide) ?_
          exact ih4 (k ||| (2 ^ c)) (c + 1) (by omega) (by omega) (msk_t (Bool.of_not_eq_false cq16) hk) ls (lv_sub hl [2, 3, 1, 0] rfl)
  exact L4 ((17 - 0) + 1) 0 0 (Nat.lt_succ_self _) (by omega) (rfl) ls (lv_sub hl [2, 3, 1, 0] rfl)

set_option maxHeartbeats 1000000 in
set_option maxRecDepth 100000 in
theorem c_X1_weightOf (l : Launch) (G : kG) (o a1 a2 a3 a4 : Nat) (σ : Sg) (r : Nat) (hB : Bd σ) (hr : r < 24) : Met l yX1_weightOf wsX1_weightOf ({ frames := 3, cells := 0, slots := 0, locals := 66 } : Room) (cP G [.ref o, .int (nI r)] [ob o 1 [.int (nI (nn σ)), .ref a1, .ref a2, .ref a3, .ref a4], ar G a1 24 (fun j => nI ((dd σ) j)), ar G a2 384 (fun j => nI ((vv σ) j)), ar G a3 24 (fun j => e9 ((ff σ) j)), ar G a4 24 (fun j => e9 ((ss σ) j))]) (vp_Si (fun rv => rv = (nI (wt σ r)))) 0 0 (fun _ => False) := by
  refine met_ro (cc := cX1_weightOf) (maxL := 2) (ty := .int) (own := RX1) (by decide) rfl rfl (fun _ _ => rfl) (Nat.le_of_ble_eq_true rfl) ?_
  intro p e s m args below meth cod Q hx hb hml hown hts hK hP hD hret ls hl
  have hl : lv_has ls 2 [(0, .ref o), (1, .int (nI r))] := hl
  refine lv_aload_n hx hb dX1_weightOf_0 rfl (lv_at hl 0 rfl) ?_
  refine lv_iload_n hx hb dX1_weightOf_1 rfl (lv_at hl 1 rfl) ?_
  refine g_ro (k_V (q0 := 0) (ci := 1) (n := 1) (As := [.int (nI r)]) (rest := []) (wc := [ob o 1 [.int (nI (nn σ)), .ref a1, .ref a2, .ref a3, .ref a4], ar G a1 24 (fun j => nI ((dd σ) j)), ar G a2 384 (fun j => nI ((vv σ) j)), ar G a3 24 (fun j => e9 ((ff σ) j)), ar G a4 24 (fun j => e9 ((ss σ) j))]) hx hb hml hown hts (c_X1_columnsOf (l := l) (G := G) (o := o) (a1 := a1) (a2 := a2) (a3 := a3) (a4 := a4) (σ := σ) (r := r) (hB := by first | assumption | omega) (hr := by first | assumption | omega))  gX1_weightOf_X1_columnsOf rfl rfl rfl (by decide +kernel) ⟨Nat.le_of_ble_eq_true rfl, Nat.le_of_ble_eq_true rfl⟩ rfl hK hP hD [0, 1, 2, 3, 4] rfl (by decide)  rfl rfl rfl hl.1 rfl (Nat.le_of_ble_eq_true rfl) dX1_weightOf_2 ⟨Nat.le_of_ble_eq_true rfl, Nat.le_of_ble_eq_true rfl⟩) (fun r2 h2 => ?_)
  obtain rfl : (nI (cols σ r)) = r2 := Eq.symm h2
  have b2 := cols_lt σ r
  refine g_ro (k_S (n := 1) (As := [.int (nI (cols σ r))]) (rest := []) (wc := []) hx hb hml hown hts (c_J6_bitCount_0f7a4 (l := l) (G := G) (k := cols σ r) (hk := cols_lt σ r))  gX1_weightOf_J6_bitCount_0f7a4 rfl rfl rfl (by decide +kernel) ⟨Nat.le_of_ble_eq_true rfl, Nat.le_of_ble_eq_true rfl⟩ rfl hK hP hD [] rfl (by decide)  hl.1 rfl (Nat.le_of_ble_eq_true rfl) dX1_weightOf_5 ⟨Nat.le_of_ble_eq_true rfl, Nat.le_of_ble_eq_true rfl⟩) (fun r5 h5 => ?_)
  obtain rfl : (nI (pop (cols σ r))) = r5 := Eq.symm h5
  have b5 := pop_le (cols σ r)
  exact hret _ _ _ dX1_weightOf_8 (by rw [pop_cols])

set_option maxHeartbeats 1000000 in
set_option maxRecDepth 100000 in
theorem c_X1_cellsWith (l : Launch) (G : kG) (o a1 a2 a3 a4 : Nat) (σ : Sg) (r v : Nat) (hB : Bd σ) (hr : r < 24) (hv : v < 100) : Met l yX1_cellsWith wsX1_cellsWith ({ frames := 2, cells := 0, slots := 0, locals := 43 } : Room) (cP G [.ref o, .int (nI r), .int (nI v)] [ob o 1 [.int (nI (nn σ)), .ref a1, .ref a2, .ref a3, .ref a4], ar G a1 24 (fun j => nI ((dd σ) j)), ar G a2 384 (fun j => nI ((vv σ) j)), ar G a3 24 (fun j => e9 ((ff σ) j)), ar G a4 24 (fun j => e9 ((ss σ) j))]) (vp_Si (fun rv => rv = (nI (cw σ r v)))) 0 0 (fun _ => False) := by
  refine met_ro (cc := cX1_cellsWith) (maxL := 5) (ty := .int) (own := RX1) (by decide) rfl rfl (fun _ _ => rfl) (Nat.le_of_ble_eq_true rfl) ?_
  intro p e s m args below meth cod Q hx hb hml hown hts hK hP hD hret ls hl
  have hl : lv_has ls 5 [(0, .ref o), (1, .int (nI r)), (2, .int (nI v))] := hl
  refine lv_iconst (v := (nI 0)) hx hb dX1_cellsWith_0 (by decide) ?_
  refine lv_istore_n (lv' := [(3, .int (nI 0)), (0, .ref o), (1, .int (nI r)), (2, .int (nI v))]) hx hb dX1_cellsWith_1 rfl hl (by decide) rfl (fun ls hl => ?_)
  refine lv_iconst (v := (nI 0)) hx hb dX1_cellsWith_2 (by decide) ?_
  refine lv_istore (lv' := [(4, .int (nI 0)), (3, .int (nI 0)), (0, .ref o), (1, .int (nI r)), (2, .int (nI v))]) hx hb dX1_cellsWith_3 hl (by decide) rfl (fun ls hl => ?_)
  have L5 : ∀ (fu : Nat) (c : Nat) (k : Nat), 16 + 1 - c < fu → c ≤ 16 → k = fb_ct (fun c => decide (vv σ (r * 16 + c) = v)) c → k ≤ c → ∀ (ls : Array Slot), lv_has ls 5 [(0, .ref o), (1, .int (nI r)), (2, .int (nI v)), (3, .int (nI k)), (4, .int (nI c))] → W p l e ({ frames := 2, cells := 0, slots := 0, locals := 43 } : Room) s m args below meth cod s.heap [] 0 0 Q (F0 m 5 ls []) := by
    intro fu
    induction fu with
    | zero => intro c k hm; exact absurd hm (Nat.not_lt_zero _)
    | succ fu ih5 =>
      intro c k hm5 hc hk hkc ls hl
      refine lv_iload hx hb dX1_cellsWith_5 (lv_at hl 4 rfl) ?_
      refine lv_bipush (v := (nI 16)) hx hb dX1_cellsWith_7 (by decide) ?_
      refine r_icmp_ge (P := 16 ≤ c) (tgt := 32) hx hb dX1_cellsWith_9 (by decide) (nI_leI (by omega) (by omega)) (fun cq9 => ?_) (fun cq9 => ?_)
      · refine lv_iload_n hx hb dX1_cellsWith_32 rfl (lv_at hl 3 rfl) ?_
        exact hret _ _ _ dX1_cellsWith_33 (by have e : c = 16 := (by omega); rw [hk, e]; rfl)
      · refine lv_aload_n hx hb dX1_cellsWith_12 rfl (lv_at hl 0 rfl) ?_
        refine lv_iload_n hx hb dX1_cellsWith_13 rfl (lv_at hl 1 rfl) ?_
        refine lv_iload hx hb dX1_cellsWith_14 (lv_at hl 4 rfl) ?_
        refine g_ro (k_V (q0 := 0) (ci := 1) (n := 2) (As := [.int (nI r), .int (nI c)]) (rest := []) (wc := [ob o 1 [.int (nI (nn σ)), .ref a1, .ref a2, .ref a3, .ref a4], ar G a1 24 (fun j => nI ((dd σ) j)), ar G a2 384 (fun j => nI ((vv σ) j)), ar G a3 24 (fun j => e9 ((ff σ) j)), ar G a4 24 (fun j => e9 ((ss σ) j))]) hx hb hml hown hts (c_X1_valueAt (l := l) (G := G) (o := o) (a1 := a1) (a2 := a2) (a3 := a3) (a4 := a4) (σ := σ) (r := r) (c := c) (hB := by first | assumption | omega) (hr := by first | assumption | omega) (hc := by first | assumption | omega))  gX1_cellsWith_X1_valueAt rfl rfl rfl (by decide +kernel) ⟨Nat.le_of_ble_eq_true rfl, Nat.le_of_ble_eq_true rfl⟩ rfl hK hP hD [0, 1, 2, 3, 4] rfl (by decide)  rfl rfl rfl hl.1 rfl (Nat.le_of_ble_eq_true rfl) dX1_cellsWith_16 ⟨Nat.le_of_ble_eq_true rfl, Nat.le_of_ble_eq_true rfl⟩) (fun r16 h16 => ?_)
        obtain rfl : (nI (vv σ (r * 16 + c))) = r16 := Eq.symm h16
        have b16 := Bd.v (by assumption : Bd σ) (r * 16 + c)
        refine lv_iload_n hx hb dX1_cellsWith_19 rfl (lv_at hl 2 rfl) ?_
        refine r_icmp_ne (P := (vv σ (r * 16 + c)) = v) (tgt := 26) hx hb dX1_cellsWith_20 (by decide) (nI_eq (by omega) (by omega)) (fun cq20 => ?_) (fun cq20 => ?_)
        · refine r_iinc (v := c + 1) (lv' := [(4, .int (nI (c + 1))), (0, .ref o), (1, .int (nI r)), (2, .int (nI v)), (3, .int (nI k))]) hx hb dX1_cellsWith_26 hl (k := 4) rfl (nI_1 _) (by decide) rfl (fun ls hl => ?_)
          refine lv_goto (tgt := 5) hx hb dX1_cellsWith_29 (by decide) ?_
          exact ih5 (c + 1) k (by omega) (by omega) (ct_f (decide_eq_false cq20) hk) (by omega) ls (lv_sub hl [1, 2, 3, 4, 0] rfl)
        · refine r_iinc (v := k + 1) (lv' := [(3, .int (nI (k + 1))), (0, .ref o), (1, .int (nI r)), (2, .int (nI v)), (4, .int (nI c))]) hx hb dX1_cellsWith_23 hl (k := 3) rfl (nI_1 _) (by decide) rfl (fun ls hl => ?_)
          refine r_iinc (v := c + 1) (lv' := [(4, .int (nI (c + 1))), (3, .int (nI (k + 1))), (0, .ref o), (1, .int (nI r)), (2, .int (nI v))]) hx hb dX1_cellsWith_26 hl (k := 4) rfl (nI_1 _) (by decide) rfl (fun ls hl => ?_)
          refine lv_goto (tgt := 5) hx hb dX1_cellsWith_29 (by decide) ?_
          exact ih5 (c + 1) (k + 1) (by omega) (by omega) (ct_t (decide_eq_true cq20) hk) (by omega) ls (lv_sub hl [2, 3, 4, 1, 0] rfl)
  exact L5 ((16 + 1 - 0) + 1) 0 0 (Nat.lt_succ_self _) (by omega) (rfl) (Nat.le_refl _) ls (lv_sub hl [2, 3, 4, 1, 0] rfl)

set_option maxHeartbeats 1000000 in
set_option maxRecDepth 100000 in
theorem c_X1_equalCells (l : Launch) (G : kG) (o a1 a2 a3 a4 : Nat) (σ : Sg) (r t : Nat) (hB : Bd σ) (hr : r < 24) (ht : t < 24) : Met l yX1_equalCells wsX1_equalCells ({ frames := 2, cells := 0, slots := 0, locals := 43 } : Room) (cP G [.ref o, .int (nI r), .int (nI t)] [ob o 1 [.int (nI (nn σ)), .ref a1, .ref a2, .ref a3, .ref a4], ar G a1 24 (fun j => nI ((dd σ) j)), ar G a2 384 (fun j => nI ((vv σ) j)), ar G a3 24 (fun j => e9 ((ff σ) j)), ar G a4 24 (fun j => e9 ((ss σ) j))]) (vp_Si (fun rv => rv = (nI (eqc σ r t)))) 0 0 (fun _ => False) := by
  refine met_ro (cc := cX1_equalCells) (maxL := 5) (ty := .int) (own := RX1) (by decide) rfl rfl (fun _ _ => rfl) (Nat.le_of_ble_eq_true rfl) ?_
  intro p e s m args below meth cod Q hx hb hml hown hts hK hP hD hret ls hl
  have hl : lv_has ls 5 [(0, .ref o), (1, .int (nI r)), (2, .int (nI t))] := hl
  refine lv_iconst (v := (nI 0)) hx hb dX1_equalCells_0 (by decide) ?_
  refine lv_istore_n (lv' := [(3, .int (nI 0)), (0, .ref o), (1, .int (nI r)), (2, .int (nI t))]) hx hb dX1_equalCells_1 rfl hl (by decide) rfl (fun ls hl => ?_)
  refine lv_iconst (v := (nI 0)) hx hb dX1_equalCells_2 (by decide) ?_
  refine lv_istore (lv' := [(4, .int (nI 0)), (3, .int (nI 0)), (0, .ref o), (1, .int (nI r)), (2, .int (nI t))]) hx hb dX1_equalCells_3 hl (by decide) rfl (fun ls hl => ?_)
  have L5 : ∀ (fu : Nat) (c : Nat) (k : Nat), 16 + 1 - c < fu → c ≤ 16 → k = fb_ct (fun c => decide (vv σ (r * 16 + c) = vv σ (t * 16 + c))) c → k ≤ c → ∀ (ls : Array Slot), lv_has ls 5 [(0, .ref o), (1, .int (nI r)), (2, .int (nI t)), (3, .int (nI k)), (4, .int (nI c))] → W p l e ({ frames := 2, cells := 0, slots := 0, locals := 43 } : Room) s m args below meth cod s.heap [] 0 0 Q (F0 m 5 ls []) := by
    intro fu
    induction fu with
    | zero => intro c k hm; exact absurd hm (Nat.not_lt_zero _)
    | succ fu ih5 =>
      intro c k hm5 hc hk hkc ls hl
      refine lv_iload hx hb dX1_equalCells_5 (lv_at hl 4 rfl) ?_
      refine lv_bipush (v := (nI 16)) hx hb dX1_equalCells_7 (by decide) ?_
      refine r_icmp_ge (P := 16 ≤ c) (tgt := 38) hx hb dX1_equalCells_9 (by decide) (nI_leI (by omega) (by omega)) (fun cq9 => ?_) (fun cq9 => ?_)
      · refine lv_iload_n hx hb dX1_equalCells_38 rfl (lv_at hl 3 rfl) ?_
        exact hret _ _ _ dX1_equalCells_39 (by have e : c = 16 := (by omega); rw [hk, e]; rfl)
      · refine lv_aload_n hx hb dX1_equalCells_12 rfl (lv_at hl 0 rfl) ?_
        refine lv_iload_n hx hb dX1_equalCells_13 rfl (lv_at hl 1 rfl) ?_
        refine lv_iload hx hb dX1_equalCells_14 (lv_at hl 4 rfl) ?_
        refine g_ro (k_V (q0 := 0) (ci := 1) (n := 2) (As := [.int (nI r), .int (nI c)]) (rest := []) (wc := [ob o 1 [.int (nI (nn σ)), .ref a1, .ref a2, .ref a3, .ref a4], ar G a1 24 (fun j => nI ((dd σ) j)), ar G a2 384 (fun j => nI ((vv σ) j)), ar G a3 24 (fun j => e9 ((ff σ) j)), ar G a4 24 (fun j => e9 ((ss σ) j))]) hx hb hml hown hts (c_X1_valueAt (l := l) (G := G) (o := o) (a1 := a1) (a2 := a2) (a3 := a3) (a4 := a4) (σ := σ) (r := r) (c := c) (hB := by first | assumption | omega) (hr := by first | assumption | omega) (hc := by first | assumption | omega))  gX1_equalCells_X1_valueAt rfl rfl rfl (by decide +kernel) ⟨Nat.le_of_ble_eq_true rfl, Nat.le_of_ble_eq_true rfl⟩ rfl hK hP hD [0, 1, 2, 3, 4] rfl (by decide)  rfl rfl rfl hl.1 rfl (Nat.le_of_ble_eq_true rfl) dX1_equalCells_16 ⟨Nat.le_of_ble_eq_true rfl, Nat.le_of_ble_eq_true rfl⟩) (fun r16 h16 => ?_)
        obtain rfl : (nI (vv σ (r * 16 + c))) = r16 := Eq.symm h16
        have b16 := Bd.v (by assumption : Bd σ) (r * 16 + c)
        refine lv_aload_n hx hb dX1_equalCells_19 rfl (lv_at hl 0 rfl) ?_
        refine lv_iload_n hx hb dX1_equalCells_20 rfl (lv_at hl 2 rfl) ?_
        refine lv_iload hx hb dX1_equalCells_21 (lv_at hl 4 rfl) ?_
        refine g_ro (k_V (q0 := 0) (ci := 1) (n := 2) (As := [.int (nI t), .int (nI c)]) (rest := [.int (nI (vv σ (r * 16 + c)))]) (wc := [ob o 1 [.int (nI (nn σ)), .ref a1, .ref a2, .ref a3, .ref a4], ar G a1 24 (fun j => nI ((dd σ) j)), ar G a2 384 (fun j => nI ((vv σ) j)), ar G a3 24 (fun j => e9 ((ff σ) j)), ar G a4 24 (fun j => e9 ((ss σ) j))]) hx hb hml hown hts (c_X1_valueAt (l := l) (G := G) (o := o) (a1 := a1) (a2 := a2) (a3 := a3) (a4 := a4) (σ := σ) (r := t) (c := c) (hB := by first | assumption | omega) (hr := by first | assumption | omega) (hc := by first | assumption | omega))  gX1_equalCells_X1_valueAt rfl rfl rfl (by decide +kernel) ⟨Nat.le_of_ble_eq_true rfl, Nat.le_of_ble_eq_true rfl⟩ rfl hK hP hD [0, 1, 2, 3, 4] rfl (by decide)  rfl rfl rfl hl.1 rfl (Nat.le_of_ble_eq_true rfl) dX1_equalCells_23 ⟨Nat.le_of_ble_eq_true rfl, Nat.le_of_ble_eq_true rfl⟩) (fun r23 h23 => ?_)
        obtain rfl : (nI (vv σ (t * 16 + c))) = r23 := Eq.symm h23
        have b23 := Bd.v (by assumption : Bd σ) (t * 16 + c)
        refine r_icmp_ne (P := (vv σ (r * 16 + c)) = (vv σ (t * 16 + c))) (tgt := 32) hx hb dX1_equalCells_26 (by decide) (nI_eq (by omega) (by omega)) (fun cq26 => ?_) (fun cq26 => ?_)
        · refine r_iinc (v := c + 1) (lv' := [(4, .int (nI (c + 1))), (0, .ref o), (1, .int (nI r)), (2, .int (nI t)), (3, .int (nI k))]) hx hb dX1_equalCells_32 hl (k := 4) rfl (nI_1 _) (by decide) rfl (fun ls hl => ?_)
          refine lv_goto (tgt := 5) hx hb dX1_equalCells_35 (by decide) ?_
          exact ih5 (c + 1) k (by omega) (by omega) (ct_f (decide_eq_false cq26) hk) (by omega) ls (lv_sub hl [1, 2, 3, 4, 0] rfl)
        · refine r_iinc (v := k + 1) (lv' := [(3, .int (nI (k + 1))), (0, .ref o), (1, .int (nI r)), (2, .int (nI t)), (4, .int (nI c))]) hx hb dX1_equalCells_29 hl (k := 3) rfl (nI_1 _) (by decide) rfl (fun ls hl => ?_)
          refine r_iinc (v := c + 1) (lv' := [(4, .int (nI (c + 1))), (3, .int (nI (k + 1))), (0, .ref o), (1, .int (nI r)), (2, .int (nI t))]) hx hb dX1_equalCells_32 hl (k := 4) rfl (nI_1 _) (by decide) rfl (fun ls hl => ?_)
          refine lv_goto (tgt := 5) hx hb dX1_equalCells_35 (by decide) ?_
          exact ih5 (c + 1) (k + 1) (by omega) (by omega) (ct_t (decide_eq_true cq26) hk) (by omega) ls (lv_sub hl [2, 3, 4, 1, 0] rfl)
  exact L5 ((16 + 1 - 0) + 1) 0 0 (Nat.lt_succ_self _) (by omega) (rfl) (Nat.le_refl _) ls (lv_sub hl [2, 3, 4, 1, 0] rfl)

theorem shf_at {σ : Sg} {f : Nat} (h : shf σ f = 1000) (hf : f < 24) : ss σ f = 1000 := by unfold shf at h; rw [if_pos hf] at h; exact h
theorem shf_ta {σ : Sg} {f : Nat} (h : ss σ f = 1000) (hf : f < 24) : shf σ f = 1000 := by unfold shf; rw [if_pos hf]; exact h
set_option maxHeartbeats 1000000 in
set_option maxRecDepth 100000 in
theorem c_X1_formCount (l : Launch) (G : kG) (o a1 a2 a3 a4 : Nat) (σ : Sg) (hB : Bd σ) : Met l yX1_formCount wsX1_formCount ({ frames := 2, cells := 0, slots := 0, locals := 42 } : Room) (cP G [.ref o] [ob o 1 [.int (nI (nn σ)), .ref a1, .ref a2, .ref a3, .ref a4], ar G a1 24 (fun j => nI ((dd σ) j)), ar G a2 384 (fun j => nI ((vv σ) j)), ar G a3 24 (fun j => e9 ((ff σ) j)), ar G a4 24 (fun j => e9 ((ss σ) j))]) (vp_Si (fun rv => rv = (nI (fcnt σ)))) 0 0 (fun _ => False) := by
  refine met_ro (cc := cX1_formCount) (maxL := 3) (ty := .int) (own := RX1) (by decide) rfl rfl (fun _ _ => rfl) (Nat.le_of_ble_eq_true rfl) ?_
  intro p e s m args below meth cod Q hx hb hml hown hts hK hP hD hret ls hl
  have hl : lv_has ls 3 [(0, .ref o)] := hl
  refine lv_iconst (v := (nI 0)) hx hb dX1_formCount_0 (by decide) ?_
  refine lv_istore_n (lv' := [(1, .int (nI 0)), (0, .ref o)]) hx hb dX1_formCount_1 rfl hl (by decide) rfl (fun ls hl => ?_)
  refine lv_iconst (v := (nI 0)) hx hb dX1_formCount_2 (by decide) ?_
  refine lv_istore_n (lv' := [(2, .int (nI 0)), (1, .int (nI 0)), (0, .ref o)]) hx hb dX1_formCount_3 rfl hl (by decide) rfl (fun ls hl => ?_)
  have L4 : ∀ (fu : Nat) (c : Nat) (k : Nat), 24 + 1 - c < fu → c ≤ 24 → k = fb_ct (fun f => decide (ss σ f ≠ 1000)) c → k ≤ c → ∀ (ls : Array Slot), lv_has ls 3 [(0, .ref o), (1, .int (nI k)), (2, .int (nI c))] → W p l e ({ frames := 2, cells := 0, slots := 0, locals := 42 } : Room) s m args below meth cod s.heap [] 0 0 Q (F0 m 4 ls []) := by
    intro fu
    induction fu with
    | zero => intro c k hm; exact absurd hm (Nat.not_lt_zero _)
    | succ fu ih4 =>
      intro c k hm4 hc hk hkc ls hl
      refine lv_iload_n hx hb dX1_formCount_4 rfl (lv_at hl 2 rfl) ?_
      refine lv_bipush (v := (nI 24)) hx hb dX1_formCount_5 (by decide) ?_
      refine r_icmp_ge (P := 24 ≤ c) (tgt := 29) hx hb dX1_formCount_7 (by decide) (nI_leI (by omega) (by omega)) (fun cq7 => ?_) (fun cq7 => ?_)
      · refine lv_iload_n hx hb dX1_formCount_29 rfl (lv_at hl 1 rfl) ?_
        exact hret _ _ _ dX1_formCount_30 (by have e : c = 24 := (by omega); rw [hk, e]; rfl)
      · have hc9 : c < 24 := by omega
        refine lv_aload_n hx hb dX1_formCount_10 rfl (lv_at hl 0 rfl) ?_
        refine lv_iload_n hx hb dX1_formCount_11 rfl (lv_at hl 2 rfl) ?_
        refine g_ro (k_V (q0 := 0) (ci := 1) (n := 1) (As := [.int (nI c)]) (rest := []) (wc := [ob o 1 [.int (nI (nn σ)), .ref a1, .ref a2, .ref a3, .ref a4], ar G a1 24 (fun j => nI ((dd σ) j)), ar G a2 384 (fun j => nI ((vv σ) j)), ar G a3 24 (fun j => e9 ((ff σ) j)), ar G a4 24 (fun j => e9 ((ss σ) j))]) hx hb hml hown hts (c_X1_shiftOf (l := l) (G := G) (o := o) (a1 := a1) (a2 := a2) (a3 := a3) (a4 := a4) (σ := σ) (f := c) (xf := (nI c)) (hxf := (e9_n (by omega)).symm) (hB := by first | assumption | omega) (hf := by first | assumption | omega))  gX1_formCount_X1_shiftOf rfl rfl rfl (by decide +kernel) ⟨Nat.le_of_ble_eq_true rfl, Nat.le_of_ble_eq_true rfl⟩ rfl hK hP hD [0, 1, 2, 3, 4] rfl (by decide)  rfl rfl rfl hl.1 rfl (Nat.le_of_ble_eq_true rfl) dX1_formCount_12 ⟨Nat.le_of_ble_eq_true rfl, Nat.le_of_ble_eq_true rfl⟩) (fun r12 h12 => ?_)
        obtain rfl : (e9 (shf σ c)) = r12 := Eq.symm h12
        have b12 := shf_le (by assumption : Bd σ) c
        refine lv_bipush (v := (e9 1000)) hx hb dX1_formCount_15 (by decide) ?_
        refine r_icmp_eq (P := (shf σ c) = 1000) (tgt := 23) hx hb dX1_formCount_17 (by decide) (e9_inj (by omega) (by omega)) (fun cq17 => ?_) (fun cq17 => ?_)
        · refine r_iinc (v := c + 1) (lv' := [(2, .int (nI (c + 1))), (0, .ref o), (1, .int (nI k))]) hx hb dX1_formCount_23 hl (k := 2) rfl (nI_1 _) (by decide) rfl (fun ls hl => ?_)
          refine lv_goto (tgt := 4) hx hb dX1_formCount_26 (by decide) ?_
          exact ih4 (c + 1) k (by omega) (by omega) (ct_f (decide_eq_false (fun z => z (shf_at cq17 hc9))) hk) (by omega) ls (lv_sub hl [1, 2, 0] rfl)
        · refine r_iinc (v := k + 1) (lv' := [(1, .int (nI (k + 1))), (0, .ref o), (2, .int (nI c))]) hx hb dX1_formCount_20 hl (k := 1) rfl (nI_1 _) (by decide) rfl (fun ls hl => ?_)
          refine r_iinc (v := c + 1) (lv' := [(2, .int (nI (c + 1))), (1, .int (nI (k + 1))), (0, .ref o)]) hx hb dX1_formCount_23 hl (k := 2) rfl (nI_1 _) (by decide) rfl (fun ls hl => ?_)
          refine lv_goto (tgt := 4) hx hb dX1_formCount_26 (by decide) ?_
          exact ih4 (c + 1) (k + 1) (by omega) (by omega) (ct_t (decide_eq_true (fun z => cq17 (shf_ta z hc9))) hk) (by omega) ls (lv_sub hl [2, 1, 0] rfl)
  exact L4 ((24 + 1 - 0) + 1) 0 0 (Nat.lt_succ_self _) (by omega) (rfl) (Nat.le_refl _) ls (lv_sub hl [2, 1, 0] rfl)

theorem iqX1_sharersOf_X1 : ∀ w ∈ u_ws RX1 TX1 5, w ∈ wsX1_sharersOf := by decide +kernel
set_option maxHeartbeats 1000000 in
set_option maxRecDepth 100000 in
theorem c_X1_sharersOf (l : Launch) (G : kG) (o a1 a2 a3 a4 : Nat) (σ : Sg) (f : Nat) (xf : Int32) (hxf : xf = e9 f) (hB : Bd σ) (hf : f < 24 ∨ f = 1000) : Met l yX1_sharersOf wsX1_sharersOf ({ frames := 2, cells := 0, slots := 0, locals := 42 } : Room) (cP G [.ref o, .int xf] [ob o 1 [.int (nI (nn σ)), .ref a1, .ref a2, .ref a3, .ref a4], ar G a1 24 (fun j => nI ((dd σ) j)), ar G a2 384 (fun j => nI ((vv σ) j)), ar G a3 24 (fun j => e9 ((ff σ) j)), ar G a4 24 (fun j => e9 ((ss σ) j))]) (vp_Si (fun rv => rv = (nI (shr σ f)))) 0 0 (fun _ => False) := by
  subst hxf
  refine met_ro (cc := cX1_sharersOf) (maxL := 4) (ty := .int) (own := RX1) (by decide) rfl rfl (fun _ _ => rfl) (Nat.le_of_ble_eq_true rfl) ?_
  intro p e s m args below meth cod Q hx hb hml hown hts hK hP hD hret ls hl
  have hl : lv_has ls 4 [(0, .ref o), (1, .int (e9 f))] := hl
  have h24 := hB.n
  refine lv_iconst (v := (nI 0)) hx hb dX1_sharersOf_0 (by decide) ?_
  refine lv_istore_n (lv' := [(2, .int (nI 0)), (0, .ref o), (1, .int (e9 f))]) hx hb dX1_sharersOf_1 rfl hl (by decide) rfl (fun ls hl => ?_)
  refine lv_iconst (v := (nI 0)) hx hb dX1_sharersOf_2 (by decide) ?_
  refine lv_istore_n (lv' := [(3, .int (nI 0)), (2, .int (nI 0)), (0, .ref o), (1, .int (e9 f))]) hx hb dX1_sharersOf_3 rfl hl (by decide) rfl (fun ls hl => ?_)
  have L4 : ∀ (fu : Nat) (c : Nat) (k : Nat), nn σ + 1 - c < fu → c ≤ nn σ → k = fb_ct (fun r => decide (ff σ r = f)) c → k ≤ c → ∀ (ls : Array Slot), lv_has ls 4 [(0, .ref o), (1, .int (e9 f)), (2, .int (nI k)), (3, .int (nI c))] → W p l e ({ frames := 2, cells := 0, slots := 0, locals := 42 } : Room) s m args below meth cod s.heap [] 0 0 Q (F0 m 4 ls []) := by
    intro fu
    induction fu with
    | zero => intro c k hm; exact absurd hm (Nat.not_lt_zero _)
    | succ fu ih4 =>
      intro c k hm4 hc hk hkc ls hl
      refine lv_iload_n hx hb dX1_sharersOf_4 rfl (lv_at hl 3 rfl) ?_
      refine lv_aload_n hx hb dX1_sharersOf_5 rfl (lv_at hl 0 rfl) ?_
      refine va_get (D := G.1) (ci := 1) (v := .int (nI (nn σ))) (C := RX1) (T := TX1) (N := 5) hx hb hts iqX1_sharersOf_X1 hown hK.1 hP 0 rfl rfl 0 (by decide) (hts (.fieldLink RX1 9 "PushedTables$State" "rowCount" "I") (List.mem_of_getElem? (i := 1) rfl)) (fun _ h9 => h9) rfl dX1_sharersOf_6 ?_
      refine r_icmp_ge (P := (nn σ) ≤ c) (tgt := 30) hx hb dX1_sharersOf_9 (by decide) (nI_leI (by omega) (by omega)) (fun cq9 => ?_) (fun cq9 => ?_)
      · refine lv_iload_n hx hb dX1_sharersOf_30 rfl (lv_at hl 2 rfl) ?_
        exact hret _ _ _ dX1_sharersOf_31 (by have e : c = nn σ := (by omega); rw [hk, e]; rfl)
      · refine lv_aload_n hx hb dX1_sharersOf_12 rfl (lv_at hl 0 rfl) ?_
        refine lv_iload_n hx hb dX1_sharersOf_13 rfl (lv_at hl 3 rfl) ?_
        refine g_ro (k_V (q0 := 0) (ci := 1) (n := 1) (As := [.int (nI c)]) (rest := []) (wc := [ob o 1 [.int (nI (nn σ)), .ref a1, .ref a2, .ref a3, .ref a4], ar G a1 24 (fun j => nI ((dd σ) j)), ar G a2 384 (fun j => nI ((vv σ) j)), ar G a3 24 (fun j => e9 ((ff σ) j)), ar G a4 24 (fun j => e9 ((ss σ) j))]) hx hb hml hown hts (c_X1_formOf (l := l) (G := G) (o := o) (a1 := a1) (a2 := a2) (a3 := a3) (a4 := a4) (σ := σ) (r := c) (hB := by first | assumption | omega) (hr := by first | assumption | omega))  gX1_sharersOf_X1_formOf rfl rfl rfl (by decide +kernel) ⟨Nat.le_of_ble_eq_true rfl, Nat.le_of_ble_eq_true rfl⟩ rfl hK hP hD [0, 1, 2, 3, 4] rfl (by decide)  rfl rfl rfl hl.1 rfl (Nat.le_of_ble_eq_true rfl) dX1_sharersOf_14 ⟨Nat.le_of_ble_eq_true rfl, Nat.le_of_ble_eq_true rfl⟩) (fun r14 h14 => ?_)
        obtain rfl : (e9 (ff σ c)) = r14 := Eq.symm h14
        have b14 := Bd.f (by assumption : Bd σ) c
        refine lv_iload_n hx hb dX1_sharersOf_17 rfl (lv_at hl 1 rfl) ?_
        refine r_icmp_ne (P := (ff σ c) = f) (tgt := 24) hx hb dX1_sharersOf_18 (by decide) (e9_inj (by omega) (by omega)) (fun cq18 => ?_) (fun cq18 => ?_)
        · refine r_iinc (v := c + 1) (lv' := [(3, .int (nI (c + 1))), (0, .ref o), (1, .int (e9 f)), (2, .int (nI k))]) hx hb dX1_sharersOf_24 hl (k := 3) rfl (nI_1 _) (by decide) rfl (fun ls hl => ?_)
          refine lv_goto (tgt := 4) hx hb dX1_sharersOf_27 (by decide) ?_
          exact ih4 (c + 1) k (by omega) (by omega) (ct_f (decide_eq_false cq18) hk) (by omega) ls (lv_sub hl [1, 2, 3, 0] rfl)
        · refine r_iinc (v := k + 1) (lv' := [(2, .int (nI (k + 1))), (0, .ref o), (1, .int (e9 f)), (3, .int (nI c))]) hx hb dX1_sharersOf_21 hl (k := 2) rfl (nI_1 _) (by decide) rfl (fun ls hl => ?_)
          refine r_iinc (v := c + 1) (lv' := [(3, .int (nI (c + 1))), (2, .int (nI (k + 1))), (0, .ref o), (1, .int (e9 f))]) hx hb dX1_sharersOf_24 hl (k := 3) rfl (nI_1 _) (by decide) rfl (fun ls hl => ?_)
          refine lv_goto (tgt := 4) hx hb dX1_sharersOf_27 (by decide) ?_
          exact ih4 (c + 1) (k + 1) (by omega) (by omega) (ct_t (decide_eq_true cq18) hk) (by omega) ls (lv_sub hl [2, 3, 1, 0] rfl)
  exact L4 ((nn σ + 1 - 0) + 1) 0 0 (Nat.lt_succ_self _) (by omega) (rfl) (Nat.le_refl _) ls (lv_sub hl [2, 3, 1, 0] rfl)

set_option maxHeartbeats 1000000 in
set_option maxRecDepth 100000 in
theorem c_X1_freeForm (l : Launch) (G : kG) (o a1 a2 a3 a4 : Nat) (σ : Sg) (hB : Bd σ) : Met l yX1_freeForm wsX1_freeForm ({ frames := 2, cells := 0, slots := 0, locals := 42 } : Room) (cP G [.ref o] [ob o 1 [.int (nI (nn σ)), .ref a1, .ref a2, .ref a3, .ref a4], ar G a1 24 (fun j => nI ((dd σ) j)), ar G a2 384 (fun j => nI ((vv σ) j)), ar G a3 24 (fun j => e9 ((ff σ) j)), ar G a4 24 (fun j => e9 ((ss σ) j))]) (vp_Si (fun rv => rv = (e9 (frf σ)))) 0 0 (fun _ => False) := by
  refine met_ro (cc := cX1_freeForm) (maxL := 2) (ty := .int) (own := RX1) (by decide) rfl rfl (fun _ _ => rfl) (Nat.le_of_ble_eq_true rfl) ?_
  intro p e s m args below meth cod Q hx hb hml hown hts hK hP hD hret ls hl
  have hl : lv_has ls 2 [(0, .ref o)] := hl
  refine lv_iconst (v := (nI 0)) hx hb dX1_freeForm_0 (by decide) ?_
  refine lv_istore_n (lv' := [(1, .int (nI 0)), (0, .ref o)]) hx hb dX1_freeForm_1 rfl hl (by decide) rfl (fun ls hl => ?_)
  have L2 : ∀ (fu : Nat) (f : Nat), 25 - f < fu → f ≤ 24 → (∀ j, j < f → decide (ss σ j = 1000) = false) → ∀ (ls : Array Slot), lv_has ls 2 [(0, .ref o), (1, .int (nI f))] → W p l e ({ frames := 2, cells := 0, slots := 0, locals := 42 } : Room) s m args below meth cod s.heap [] 0 0 Q (F0 m 2 ls []) := by
    intro fu
    induction fu with
    | zero => intro f hm; exact absurd hm (Nat.not_lt_zero _)
    | succ fu ih2 =>
      intro f hm2 hf hn ls hl
      refine lv_iload_n hx hb dX1_freeForm_2 rfl (lv_at hl 1 rfl) ?_
      refine lv_bipush (v := (nI 24)) hx hb dX1_freeForm_3 (by decide) ?_
      refine r_icmp_ge (P := 24 ≤ f) (tgt := 26) hx hb dX1_freeForm_5 (by decide) (nI_leI (by omega) (by omega)) (fun cq5 => ?_) (fun cq5 => ?_)
      · refine lv_bipush (v := (e9 1000)) hx hb dX1_freeForm_26 (by decide) ?_
        exact hret _ _ _ dX1_freeForm_28 (by unfold frf; rw [fst?_none (fun k hk => hn k (by omega))])
      · have hf9 : f < 24 := by omega
        refine lv_aload_n hx hb dX1_freeForm_8 rfl (lv_at hl 0 rfl) ?_
        refine lv_iload_n hx hb dX1_freeForm_9 rfl (lv_at hl 1 rfl) ?_
        refine g_ro (k_V (q0 := 0) (ci := 1) (n := 1) (As := [.int (nI f)]) (rest := []) (wc := [ob o 1 [.int (nI (nn σ)), .ref a1, .ref a2, .ref a3, .ref a4], ar G a1 24 (fun j => nI ((dd σ) j)), ar G a2 384 (fun j => nI ((vv σ) j)), ar G a3 24 (fun j => e9 ((ff σ) j)), ar G a4 24 (fun j => e9 ((ss σ) j))]) hx hb hml hown hts (c_X1_shiftOf (l := l) (G := G) (o := o) (a1 := a1) (a2 := a2) (a3 := a3) (a4 := a4) (σ := σ) (f := f) (xf := (nI f)) (hxf := (e9_n (by omega)).symm) (hB := by first | assumption | omega) (hf := by first | assumption | omega))  gX1_freeForm_X1_shiftOf rfl rfl rfl (by decide +kernel) ⟨Nat.le_of_ble_eq_true rfl, Nat.le_of_ble_eq_true rfl⟩ rfl hK hP hD [0, 1, 2, 3, 4] rfl (by decide)  rfl rfl rfl hl.1 rfl (Nat.le_of_ble_eq_true rfl) dX1_freeForm_10 ⟨Nat.le_of_ble_eq_true rfl, Nat.le_of_ble_eq_true rfl⟩) (fun r10 h10 => ?_)
        obtain rfl : (e9 (shf σ f)) = r10 := Eq.symm h10
        have b10 := shf_le (by assumption : Bd σ) f
        refine lv_bipush (v := (e9 1000)) hx hb dX1_freeForm_13 (by decide) ?_
        refine r_icmp_ne (P := (shf σ f) = 1000) (tgt := 20) hx hb dX1_freeForm_15 (by decide) (e9_inj (by omega) (by omega)) (fun cq15 => ?_) (fun cq15 => ?_)
        · refine r_iinc (v := f + 1) (lv' := [(1, .int (nI (f + 1))), (0, .ref o)]) hx hb dX1_freeForm_20 hl (k := 1) rfl (nI_1 _) (by decide) rfl (fun ls hl => ?_)
          refine lv_goto (tgt := 2) hx hb dX1_freeForm_23 (by decide) ?_
          exact ih2 (f + 1) (by omega) (by omega) (lt_s hn (decide_eq_false (fun z => cq15 (shf_ta z hf9)))) ls (lv_sub hl [1, 0] rfl)
        · refine lv_iload_n hx hb dX1_freeForm_18 rfl (lv_at hl 1 rfl) ?_
          exact hret _ _ _ dX1_freeForm_19 (by unfold frf; rw [fst?_some (k := f) (by omega) (decide_eq_true (shf_at cq15 hf9)) hn]; exact (e9_n (by omega)).symm)
  exact L2 ((25 - 0) + 1) 0 (Nat.lt_succ_self _) (by omega) (fun j hj => absurd hj (Nat.not_lt_zero j)) ls (lv_sub hl [1, 0] rfl)

theorem iqX1_weightSum_X1 : ∀ w ∈ u_ws RX1 TX1 5, w ∈ wsX1_weightSum := by decide +kernel
set_option maxHeartbeats 1000000 in
set_option maxRecDepth 100000 in
theorem c_X1_weightSum (l : Launch) (G : kG) (o a1 a2 a3 a4 : Nat) (σ : Sg) (hB : Bd σ) : Met l yX1_weightSum wsX1_weightSum ({ frames := 4, cells := 0, slots := 0, locals := 87 } : Room) (cP G [.ref o] [ob o 1 [.int (nI (nn σ)), .ref a1, .ref a2, .ref a3, .ref a4], ar G a1 24 (fun j => nI ((dd σ) j)), ar G a2 384 (fun j => nI ((vv σ) j)), ar G a3 24 (fun j => e9 ((ff σ) j)), ar G a4 24 (fun j => e9 ((ss σ) j))]) (vp_Si (fun rv => rv = (nI (wsum σ (nn σ))))) 0 0 (fun _ => False) := by
  refine met_ro (cc := cX1_weightSum) (maxL := 3) (ty := .int) (own := RX1) (by decide) rfl rfl (fun _ _ => rfl) (Nat.le_of_ble_eq_true rfl) ?_
  intro p e s m args below meth cod Q hx hb hml hown hts hK hP hD hret ls hl
  have hl : lv_has ls 3 [(0, .ref o)] := hl
  have h24 := hB.n
  refine lv_iconst (v := (nI 0)) hx hb dX1_weightSum_0 (by decide) ?_
  refine lv_istore_n (lv' := [(1, .int (nI 0)), (0, .ref o)]) hx hb dX1_weightSum_1 rfl hl (by decide) rfl (fun ls hl => ?_)
  refine lv_iconst (v := (nI 0)) hx hb dX1_weightSum_2 (by decide) ?_
  refine lv_istore_n (lv' := [(2, .int (nI 0)), (1, .int (nI 0)), (0, .ref o)]) hx hb dX1_weightSum_3 rfl hl (by decide) rfl (fun ls hl => ?_)
  have L4 : ∀ (fu : Nat) (k : Nat) (r : Nat), nn σ + 1 - r < fu → r ≤ nn σ → k = wsum σ r → k ≤ r * 16 → ∀ (ls : Array Slot), lv_has ls 3 [(0, .ref o), (1, .int (nI k)), (2, .int (nI r))] → W p l e ({ frames := 4, cells := 0, slots := 0, locals := 87 } : Room) s m args below meth cod s.heap [] 0 0 Q (F0 m 4 ls []) := by
    intro fu
    induction fu with
    | zero => intro k r hm; exact absurd hm (Nat.not_lt_zero _)
    | succ fu ih4 =>
      intro k r hm4 hr hk hk2 ls hl
      refine lv_iload_n hx hb dX1_weightSum_4 rfl (lv_at hl 2 rfl) ?_
      refine lv_aload_n hx hb dX1_weightSum_5 rfl (lv_at hl 0 rfl) ?_
      refine va_get (D := G.1) (ci := 1) (v := .int (nI (nn σ))) (C := RX1) (T := TX1) (N := 5) hx hb hts iqX1_weightSum_X1 hown hK.1 hP 0 rfl rfl 0 (by decide) (hts (.fieldLink RX1 9 "PushedTables$State" "rowCount" "I") (List.mem_of_getElem? (i := 1) rfl)) (fun _ h9 => h9) rfl dX1_weightSum_6 ?_
      refine r_icmp_ge (P := (nn σ) ≤ r) (tgt := 26) hx hb dX1_weightSum_9 (by decide) (nI_leI (by omega) (by omega)) (fun cq9 => ?_) (fun cq9 => ?_)
      · refine lv_iload_n hx hb dX1_weightSum_26 rfl (lv_at hl 1 rfl) ?_
        exact hret _ _ _ dX1_weightSum_27 (by have e : r = nn σ := (by omega); rw [hk, e])
      · refine lv_iload_n hx hb dX1_weightSum_12 rfl (lv_at hl 1 rfl) ?_
        refine lv_aload_n hx hb dX1_weightSum_13 rfl (lv_at hl 0 rfl) ?_
        refine lv_iload_n hx hb dX1_weightSum_14 rfl (lv_at hl 2 rfl) ?_
        refine g_ro (k_V (q0 := 0) (ci := 1) (n := 1) (As := [.int (nI r)]) (rest := [.int (nI k)]) (wc := [ob o 1 [.int (nI (nn σ)), .ref a1, .ref a2, .ref a3, .ref a4], ar G a1 24 (fun j => nI ((dd σ) j)), ar G a2 384 (fun j => nI ((vv σ) j)), ar G a3 24 (fun j => e9 ((ff σ) j)), ar G a4 24 (fun j => e9 ((ss σ) j))]) hx hb hml hown hts (c_X1_weightOf (l := l) (G := G) (o := o) (a1 := a1) (a2 := a2) (a3 := a3) (a4 := a4) (σ := σ) (r := r) (hB := by first | assumption | omega) (hr := by first | assumption | omega))  gX1_weightSum_X1_weightOf rfl rfl rfl (by decide +kernel) ⟨Nat.le_of_ble_eq_true rfl, Nat.le_of_ble_eq_true rfl⟩ rfl hK hP hD [0, 1, 2, 3, 4] rfl (by decide)  rfl rfl rfl hl.1 rfl (Nat.le_of_ble_eq_true rfl) dX1_weightSum_15 ⟨Nat.le_of_ble_eq_true rfl, Nat.le_of_ble_eq_true rfl⟩) (fun r15 h15 => ?_)
        obtain rfl : (nI (wt σ r)) = r15 := Eq.symm h15
        have b15 := wt_le σ r
        refine r_iadd (v := k + (wt σ r)) hx hb dX1_weightSum_18 rfl ?_
        refine lv_istore_n (lv' := [(1, .int (nI (k + (wt σ r)))), (0, .ref o), (2, .int (nI r))]) hx hb dX1_weightSum_19 rfl hl (by decide) rfl (fun ls hl => ?_)
        refine r_iinc (v := r + 1) (lv' := [(2, .int (nI (r + 1))), (1, .int (nI (k + (wt σ r)))), (0, .ref o)]) hx hb dX1_weightSum_20 hl (k := 2) rfl (nI_1 _) (by decide) rfl (fun ls hl => ?_)
        refine lv_goto (tgt := 4) hx hb dX1_weightSum_23 (by decide) ?_
        exact ih4 (k + (wt σ r)) (r + 1) (by omega) (by omega) (by rw [hk]; rfl) (by omega) ls (lv_sub hl [2, 1, 0] rfl)
  exact L4 ((nn σ + 1 - 0) + 1) 0 0 (Nat.lt_succ_self _) (by omega) (rfl) (by omega) ls (lv_sub hl [2, 1, 0] rfl)

theorem cw_pos {σ : Sg} {r v : Nat} : 0 < cw σ r v ↔ ∃ c, c < 16 ∧ vv σ (r * 16 + c) = v := by
  unfold cw; rw [fb_ct_pos]
  exact ⟨fun ⟨c, h1, h2⟩ => ⟨c, h1, of_decide_eq_true h2⟩, fun ⟨c, h1, h2⟩ => ⟨c, h1, decide_eq_true h2⟩⟩
theorem mv_end {σ : Sg} {r b k c : Nat} (hc : 16 ≤ c) (hb : b < 100) (hk : k = cw σ r b) (hx : ∃ c, c < 16 ∧ vv σ (r * 16 + c) = b) (hm : ∀ j, j < c → cw σ r (vv σ (r * 16 + j)) < k ∨ (cw σ r (vv σ (r * 16 + j)) = k ∧ b ≤ vv σ (r * 16 + j))) : nI b = nI (mv σ r) := by
  have key : ∀ u, cw σ r u < cw σ r b ∨ (cw σ r u = cw σ r b ∧ b ≤ u) ∨ cw σ r u = 0 := by
    intro u
    rcases Nat.eq_zero_or_pos (cw σ r u) with q | q
    · exact Or.inr (Or.inr q)
    · obtain ⟨j, h1, h2⟩ := cw_pos.mp q
      have := hm j (by omega)
      rw [h2, hk] at this
      rcases this with h | h
      · exact Or.inl h
      · exact Or.inr (Or.inl h)
  have h0 : 0 < cw σ r b := cw_pos.mpr hx
  rw [(mv_of hb h0 (fun u _ => by have := key u; omega) (fun u hu => by have := key u; omega)).1]
set_option maxHeartbeats 1000000 in
set_option maxRecDepth 100000 in
theorem c_X1_commonestValue (l : Launch) (G : kG) (o a1 a2 a3 a4 : Nat) (σ : Sg) (r : Nat) (hB : Bd σ) (hr : r < 24) : Met l yX1_commonestValue wsX1_commonestValue ({ frames := 3, cells := 0, slots := 0, locals := 67 } : Room) (cP G [.ref o, .int (nI r)] [ob o 1 [.int (nI (nn σ)), .ref a1, .ref a2, .ref a3, .ref a4], ar G a1 24 (fun j => nI ((dd σ) j)), ar G a2 384 (fun j => nI ((vv σ) j)), ar G a3 24 (fun j => e9 ((ff σ) j)), ar G a4 24 (fun j => e9 ((ss σ) j))]) (vp_Si (fun rv => rv = (nI (mv σ r)))) 0 0 (fun _ => False) := by
  refine met_ro (cc := cX1_commonestValue) (maxL := 7) (ty := .int) (own := RX1) (by decide) rfl rfl (fun _ _ => rfl) (Nat.le_of_ble_eq_true rfl) ?_
  intro p e s m args below meth cod Q hx hb hml hown hts hK hP hD hret ls hl
  have hl : lv_has ls 7 [(0, .ref o), (1, .int (nI r))] := hl
  refine lv_aload_n hx hb dX1_commonestValue_0 rfl (lv_at hl 0 rfl) ?_
  refine lv_iload_n hx hb dX1_commonestValue_1 rfl (lv_at hl 1 rfl) ?_
  refine lv_iconst (v := (nI 0)) hx hb dX1_commonestValue_2 (by decide) ?_
  refine g_ro (k_V (q0 := 0) (ci := 1) (n := 2) (As := [.int (nI r), .int (nI 0)]) (rest := []) (wc := [ob o 1 [.int (nI (nn σ)), .ref a1, .ref a2, .ref a3, .ref a4], ar G a1 24 (fun j => nI ((dd σ) j)), ar G a2 384 (fun j => nI ((vv σ) j)), ar G a3 24 (fun j => e9 ((ff σ) j)), ar G a4 24 (fun j => e9 ((ss σ) j))]) hx hb hml hown hts (c_X1_valueAt (l := l) (G := G) (o := o) (a1 := a1) (a2 := a2) (a3 := a3) (a4 := a4) (σ := σ) (r := r) (c := 0) (hB := by first | assumption | omega) (hr := by first | assumption | omega) (hc := by first | assumption | omega))  gX1_commonestValue_X1_valueAt rfl rfl rfl (by decide +kernel) ⟨Nat.le_of_ble_eq_true rfl, Nat.le_of_ble_eq_true rfl⟩ rfl hK hP hD [0, 1, 2, 3, 4] rfl (by decide)  rfl rfl rfl hl.1 rfl (Nat.le_of_ble_eq_true rfl) dX1_commonestValue_3 ⟨Nat.le_of_ble_eq_true rfl, Nat.le_of_ble_eq_true rfl⟩) (fun r3 h3 => ?_)
  obtain rfl : (nI (vv σ (r * 16 + 0))) = r3 := Eq.symm h3
  have b3 := Bd.v (by assumption : Bd σ) (r * 16 + 0)
  refine lv_istore_n (lv' := [(2, .int (nI (vv σ (r * 16 + 0)))), (0, .ref o), (1, .int (nI r))]) hx hb dX1_commonestValue_6 rfl hl (by decide) rfl (fun ls hl => ?_)
  refine lv_aload_n hx hb dX1_commonestValue_7 rfl (lv_at hl 1 rfl) ?_
  refine lv_iload_n hx hb dX1_commonestValue_8 rfl (lv_at hl 2 rfl) ?_
  refine lv_iload_n hx hb dX1_commonestValue_9 rfl (lv_at hl 0 rfl) ?_
  refine g_ro (k_V (q0 := 0) (ci := 1) (n := 2) (As := [.int (nI r), .int (nI (vv σ (r * 16 + 0)))]) (rest := []) (wc := [ob o 1 [.int (nI (nn σ)), .ref a1, .ref a2, .ref a3, .ref a4], ar G a1 24 (fun j => nI ((dd σ) j)), ar G a2 384 (fun j => nI ((vv σ) j)), ar G a3 24 (fun j => e9 ((ff σ) j)), ar G a4 24 (fun j => e9 ((ss σ) j))]) hx hb hml hown hts (c_X1_cellsWith (l := l) (G := G) (o := o) (a1 := a1) (a2 := a2) (a3 := a3) (a4 := a4) (σ := σ) (r := r) (v := vv σ (r * 16 + 0)) (hB := by first | assumption | omega) (hr := by first | assumption | omega) (hv := by first | assumption | omega))  gX1_commonestValue_X1_cellsWith rfl rfl rfl (by decide +kernel) ⟨Nat.le_of_ble_eq_true rfl, Nat.le_of_ble_eq_true rfl⟩ rfl hK hP hD [0, 1, 2, 3, 4] rfl (by decide)  rfl rfl rfl hl.1 rfl (Nat.le_of_ble_eq_true rfl) dX1_commonestValue_10 ⟨Nat.le_of_ble_eq_true rfl, Nat.le_of_ble_eq_true rfl⟩) (fun r10 h10 => ?_)
  obtain rfl : (nI (cw σ r (vv σ (r * 16 + 0)))) = r10 := Eq.symm h10
  have b10 := cw_le σ r (vv σ (r * 16 + 0))
  refine lv_istore_n (lv' := [(3, .int (nI (cw σ r (vv σ (r * 16 + 0))))), (2, .int (nI (vv σ (r * 16 + 0)))), (0, .ref o), (1, .int (nI r))]) hx hb dX1_commonestValue_13 rfl hl (by decide) rfl (fun ls hl => ?_)
  refine lv_iconst (v := (nI 1)) hx hb dX1_commonestValue_14 (by decide) ?_
  refine lv_istore (lv' := [(4, .int (nI 1)), (3, .int (nI (cw σ r (vv σ (r * 16 + 0))))), (2, .int (nI (vv σ (r * 16 + 0)))), (0, .ref o), (1, .int (nI r))]) hx hb dX1_commonestValue_15 hl (by decide) rfl (fun ls hl => ?_)
  have L17 : ∀ (fu : Nat) (b : Nat) (k : Nat) (c : Nat), 17 - c < fu → c ≤ 16 → b < 100 → k = cw σ r b → k ≤ 16 → (∃ c, c < 16 ∧ vv σ (r * 16 + c) = b) → (∀ j, j < c → cw σ r (vv σ (r * 16 + j)) < k ∨ (cw σ r (vv σ (r * 16 + j)) = k ∧ b ≤ vv σ (r * 16 + j))) → ∀ (ls : Array Slot), lv_has ls 7 [(0, .ref o), (1, .int (nI r)), (2, .int (nI b)), (3, .int (nI k)), (4, .int (nI c))] → W p l e ({ frames := 3, cells := 0, slots := 0, locals := 67 } : Room) s m args below meth cod s.heap [] 0 0 Q (F0 m 17 ls []) := by
    intro fu
    induction fu with
    | zero => intro b k c hm; exact absurd hm (Nat.not_lt_zero _)
    | succ fu ih17 =>
      intro b k c hm17 hc hbb hk hk2 hex hm ls hl
      refine lv_iload hx hb dX1_commonestValue_17 (lv_at hl 4 rfl) ?_
      refine lv_bipush (v := (nI 16)) hx hb dX1_commonestValue_19 (by decide) ?_
      refine r_icmp_ge (P := 16 ≤ c) (tgt := 72) hx hb dX1_commonestValue_21 (by decide) (nI_leI (by omega) (by omega)) (fun cq21 => ?_) (fun cq21 => ?_)
      · refine lv_iload_n hx hb dX1_commonestValue_72 rfl (lv_at hl 2 rfl) ?_
        exact hret _ _ _ dX1_commonestValue_73 (mv_end (by omega) hbb hk hex hm)
      · refine lv_aload_n hx hb dX1_commonestValue_24 rfl (lv_at hl 0 rfl) ?_
        refine lv_iload_n hx hb dX1_commonestValue_25 rfl (lv_at hl 1 rfl) ?_
        refine lv_iload hx hb dX1_commonestValue_26 (lv_at hl 4 rfl) ?_
        refine g_ro (k_V (q0 := 0) (ci := 1) (n := 2) (As := [.int (nI r), .int (nI c)]) (rest := []) (wc := [ob o 1 [.int (nI (nn σ)), .ref a1, .ref a2, .ref a3, .ref a4], ar G a1 24 (fun j => nI ((dd σ) j)), ar G a2 384 (fun j => nI ((vv σ) j)), ar G a3 24 (fun j => e9 ((ff σ) j)), ar G a4 24 (fun j => e9 ((ss σ) j))]) hx hb hml hown hts (c_X1_valueAt (l := l) (G := G) (o := o) (a1 := a1) (a2 := a2) (a3 := a3) (a4 := a4) (σ := σ) (r := r) (c := c) (hB := by first | assumption | omega) (hr := by first | assumption | omega) (hc := by first | assumption | omega))  gX1_commonestValue_X1_valueAt rfl rfl rfl (by decide +kernel) ⟨Nat.le_of_ble_eq_true rfl, Nat.le_of_ble_eq_true rfl⟩ rfl hK hP hD [0, 1, 2, 3, 4] rfl (by decide)  rfl rfl rfl hl.1 rfl (Nat.le_of_ble_eq_true rfl) dX1_commonestValue_28 ⟨Nat.le_of_ble_eq_true rfl, Nat.le_of_ble_eq_true rfl⟩) (fun r28 h28 => ?_)
        obtain rfl : (nI (vv σ (r * 16 + c))) = r28 := Eq.symm h28
        have b28 := Bd.v (by assumption : Bd σ) (r * 16 + c)
        refine lv_istore (lv' := [(5, .int (nI (vv σ (r * 16 + c)))), (0, .ref o), (1, .int (nI r)), (2, .int (nI b)), (3, .int (nI k)), (4, .int (nI c))]) hx hb dX1_commonestValue_31 hl (by decide) rfl (fun ls hl => ?_)
        refine lv_aload_n hx hb dX1_commonestValue_33 rfl (lv_at hl 1 rfl) ?_
        refine lv_iload_n hx hb dX1_commonestValue_34 rfl (lv_at hl 2 rfl) ?_
        refine lv_iload hx hb dX1_commonestValue_35 (lv_at hl 0 rfl) ?_
        refine g_ro (k_V (q0 := 0) (ci := 1) (n := 2) (As := [.int (nI r), .int (nI (vv σ (r * 16 + c)))]) (rest := []) (wc := [ob o 1 [.int (nI (nn σ)), .ref a1, .ref a2, .ref a3, .ref a4], ar G a1 24 (fun j => nI ((dd σ) j)), ar G a2 384 (fun j => nI ((vv σ) j)), ar G a3 24 (fun j => e9 ((ff σ) j)), ar G a4 24 (fun j => e9 ((ss σ) j))]) hx hb hml hown hts (c_X1_cellsWith (l := l) (G := G) (o := o) (a1 := a1) (a2 := a2) (a3 := a3) (a4 := a4) (σ := σ) (r := r) (v := vv σ (r * 16 + c)) (hB := by first | assumption | omega) (hr := by first | assumption | omega) (hv := by first | assumption | omega))  gX1_commonestValue_X1_cellsWith rfl rfl rfl (by decide +kernel) ⟨Nat.le_of_ble_eq_true rfl, Nat.le_of_ble_eq_true rfl⟩ rfl hK hP hD [0, 1, 2, 3, 4] rfl (by decide)  rfl rfl rfl hl.1 rfl (Nat.le_of_ble_eq_true rfl) dX1_commonestValue_37 ⟨Nat.le_of_ble_eq_true rfl, Nat.le_of_ble_eq_true rfl⟩) (fun r37 h37 => ?_)
        obtain rfl : (nI (cw σ r (vv σ (r * 16 + c)))) = r37 := Eq.symm h37
        have b37 := cw_le σ r (vv σ (r * 16 + c))
        refine lv_istore (lv' := [(6, .int (nI (cw σ r (vv σ (r * 16 + c))))), (5, .int (nI (vv σ (r * 16 + c)))), (0, .ref o), (1, .int (nI r)), (2, .int (nI b)), (3, .int (nI k)), (4, .int (nI c))]) hx hb dX1_commonestValue_40 hl (by decide) rfl (fun ls hl => ?_)
        refine lv_iload hx hb dX1_commonestValue_42 (lv_at hl 0 rfl) ?_
        refine lv_iload_n hx hb dX1_commonestValue_44 rfl (lv_at hl 5 rfl) ?_
        refine r_icmp_gt (P := k < (cw σ r (vv σ (r * 16 + c)))) (tgt := 60) hx hb dX1_commonestValue_45 (by decide) (nI_ltI (by omega) (by omega)) (fun cq45 => ?_) (fun cq45 => ?_)
        · refine lv_iload hx hb dX1_commonestValue_60 (lv_at hl 1 rfl) ?_
          refine lv_istore_n (lv' := [(2, .int (nI (vv σ (r * 16 + c)))), (6, .int (nI (cw σ r (vv σ (r * 16 + c))))), (5, .int (nI (vv σ (r * 16 + c)))), (0, .ref o), (1, .int (nI r)), (3, .int (nI k)), (4, .int (nI c))]) hx hb dX1_commonestValue_62 rfl hl (by decide) rfl (fun ls hl => ?_)
          refine lv_iload hx hb dX1_commonestValue_63 (lv_at hl 1 rfl) ?_
          refine lv_istore_n (lv' := [(3, .int (nI (cw σ r (vv σ (r * 16 + c))))), (2, .int (nI (vv σ (r * 16 + c)))), (6, .int (nI (cw σ r (vv σ (r * 16 + c))))), (5, .int (nI (vv σ (r * 16 + c)))), (0, .ref o), (1, .int (nI r)), (4, .int (nI c))]) hx hb dX1_commonestValue_65 rfl hl (by decide) rfl (fun ls hl => ?_)
          refine r_iinc (v := c + 1) (lv' := [(4, .int (nI (c + 1))), (3, .int (nI (cw σ r (vv σ (r * 16 + c))))), (2, .int (nI (vv σ (r * 16 + c)))), (6, .int (nI (cw σ r (vv σ (r * 16 + c))))), (5, .int (nI (vv σ (r * 16 + c)))), (0, .ref o), (1, .int (nI r))]) hx hb dX1_commonestValue_66 hl (k := 6) rfl (nI_1 _) (by decide) rfl (fun ls hl => ?_)
          refine lv_goto (tgt := 17) hx hb dX1_commonestValue_69 (by decide) ?_
          exact ih17 (vv σ (r * 16 + c)) (cw σ r (vv σ (r * 16 + c))) (c + 1) (by omega) (by omega) (by omega) (rfl) (cw_le _ _ _) (⟨c, by omega, rfl⟩) (lt_s (fun j hj => by have := hm j hj; omega) (Or.inr ⟨rfl, Nat.le_refl _⟩)) ls (lv_sub hl [5, 6, 2, 1, 0] rfl)
        · refine lv_iload hx hb dX1_commonestValue_48 (lv_at hl 0 rfl) ?_
          refine lv_iload_n hx hb dX1_commonestValue_50 rfl (lv_at hl 5 rfl) ?_
          refine r_icmp_ne (P := (cw σ r (vv σ (r * 16 + c))) = k) (tgt := 66) hx hb dX1_commonestValue_51 (by decide) (nI_eq (by omega) (by omega)) (fun cq51 => ?_) (fun cq51 => ?_)
          · refine r_iinc (v := c + 1) (lv' := [(4, .int (nI (c + 1))), (6, .int (nI (cw σ r (vv σ (r * 16 + c))))), (5, .int (nI (vv σ (r * 16 + c)))), (0, .ref o), (1, .int (nI r)), (2, .int (nI b)), (3, .int (nI k))]) hx hb dX1_commonestValue_66 hl (k := 6) rfl (nI_1 _) (by decide) rfl (fun ls hl => ?_)
            refine lv_goto (tgt := 17) hx hb dX1_commonestValue_69 (by decide) ?_
            exact ih17 b k (c + 1) (by omega) (by omega) (by omega) (hk) (hk2) (hex) (lt_s hm (by omega)) ls (lv_sub hl [3, 4, 5, 6, 0] rfl)
          · refine lv_iload hx hb dX1_commonestValue_54 (lv_at hl 1 rfl) ?_
            refine lv_iload_n hx hb dX1_commonestValue_56 rfl (lv_at hl 4 rfl) ?_
            refine r_icmp_ge (P := b ≤ (vv σ (r * 16 + c))) (tgt := 66) hx hb dX1_commonestValue_57 (by decide) (nI_leI (by omega) (by omega)) (fun cq57 => ?_) (fun cq57 => ?_)
            · refine r_iinc (v := c + 1) (lv' := [(4, .int (nI (c + 1))), (6, .int (nI (cw σ r (vv σ (r * 16 + c))))), (5, .int (nI (vv σ (r * 16 + c)))), (0, .ref o), (1, .int (nI r)), (2, .int (nI b)), (3, .int (nI k))]) hx hb dX1_commonestValue_66 hl (k := 6) rfl (nI_1 _) (by decide) rfl (fun ls hl => ?_)
              refine lv_goto (tgt := 17) hx hb dX1_commonestValue_69 (by decide) ?_
              exact ih17 b k (c + 1) (by omega) (by omega) (by omega) (hk) (hk2) (hex) (lt_s hm (by omega)) ls (lv_sub hl [3, 4, 5, 6, 0] rfl)
            · refine lv_iload hx hb dX1_commonestValue_60 (lv_at hl 1 rfl) ?_
              refine lv_istore_n (lv' := [(2, .int (nI (vv σ (r * 16 + c)))), (6, .int (nI (cw σ r (vv σ (r * 16 + c))))), (5, .int (nI (vv σ (r * 16 + c)))), (0, .ref o), (1, .int (nI r)), (3, .int (nI k)), (4, .int (nI c))]) hx hb dX1_commonestValue_62 rfl hl (by decide) rfl (fun ls hl => ?_)
              refine lv_iload hx hb dX1_commonestValue_63 (lv_at hl 1 rfl) ?_
              refine lv_istore_n (lv' := [(3, .int (nI (cw σ r (vv σ (r * 16 + c))))), (2, .int (nI (vv σ (r * 16 + c)))), (6, .int (nI (cw σ r (vv σ (r * 16 + c))))), (5, .int (nI (vv σ (r * 16 + c)))), (0, .ref o), (1, .int (nI r)), (4, .int (nI c))]) hx hb dX1_commonestValue_65 rfl hl (by decide) rfl (fun ls hl => ?_)
              refine r_iinc (v := c + 1) (lv' := [(4, .int (nI (c + 1))), (3, .int (nI (cw σ r (vv σ (r * 16 + c))))), (2, .int (nI (vv σ (r * 16 + c)))), (6, .int (nI (cw σ r (vv σ (r * 16 + c))))), (5, .int (nI (vv σ (r * 16 + c)))), (0, .ref o), (1, .int (nI r))]) hx hb dX1_commonestValue_66 hl (k := 6) rfl (nI_1 _) (by decide) rfl (fun ls hl => ?_)
              refine lv_goto (tgt := 17) hx hb dX1_commonestValue_69 (by decide) ?_
              exact ih17 (vv σ (r * 16 + c)) (cw σ r (vv σ (r * 16 + c))) (c + 1) (by omega) (by omega) (by omega) (rfl) (cw_le _ _ _) (⟨c, by omega, rfl⟩) (lt_s (fun j hj => by have := hm j hj; omega) (Or.inr ⟨rfl, Nat.le_refl _⟩)) ls (lv_sub hl [5, 6, 2, 1, 0] rfl)
  exact L17 ((17 - 1) + 1) (vv σ (r * 16 + 0)) (cw σ r (vv σ (r * 16 + 0))) 1 (Nat.lt_succ_self _) (by omega) (by omega) (rfl) (cw_le _ _ _) (⟨0, by omega, rfl⟩) (lt_s lt_0 (Or.inr ⟨rfl, Nat.le_refl _⟩)) ls (lv_sub hl [3, 4, 2, 1, 0] rfl)

theorem mv_cw {σ : Sg} (h : Bd σ) (r : Nat) : cw σ r (dd σ r) ≤ cw σ r (mv σ r) := by
  obtain ⟨a, b⟩ := mvB_ok (cw σ r) 100
  have h1 := a _ (h.d r)
  rcases b with ⟨b1, b2⟩ | ⟨b1, b2, -⟩
  · omega
  · have : cw σ r (mv σ r) = (mvB (cw σ r) 100).2 := b2
    omega
theorem wt_cw (σ : Sg) (r : Nat) : wt σ r + cw σ r (dd σ r) = 16 := by
  have h := fb_ct_not (ent σ r) 16
  have e : fb_ct (fun k => !ent σ r k) 16 = cw σ r (dd σ r) := fb_ct_cong (fun c _ => by unfold ent; by_cases q : vv σ (r * 16 + c) = dd σ r <;> simp [q])
  unfold wt; omega
def slmB (σ : Sg) (r : Nat) : Nat := cw σ r (mv σ r) - cw σ r (dd σ r)
theorem slmB_le (σ : Sg) (r : Nat) : slmB σ r ≤ 16 := by
  have := cw_le σ r (mv σ r)
  unfold slmB; omega
set_option maxHeartbeats 1000000 in
set_option maxRecDepth 100000 in
theorem c_X1_slimmerBy (l : Launch) (G : kG) (o a1 a2 a3 a4 : Nat) (σ : Sg) (r : Nat) (hB : Bd σ) (hr : r < 24) : Met l yX1_slimmerBy wsX1_slimmerBy ({ frames := 4, cells := 0, slots := 0, locals := 93 } : Room) (cP G [.ref o, .int (nI r)] [ob o 1 [.int (nI (nn σ)), .ref a1, .ref a2, .ref a3, .ref a4], ar G a1 24 (fun j => nI ((dd σ) j)), ar G a2 384 (fun j => nI ((vv σ) j)), ar G a3 24 (fun j => e9 ((ff σ) j)), ar G a4 24 (fun j => e9 ((ss σ) j))]) (vp_Si (fun rv => rv = (nI (slmB σ r)))) 0 0 (fun _ => False) := by
  refine met_ro (cc := cX1_slimmerBy) (maxL := 3) (ty := .int) (own := RX1) (by decide) rfl rfl (fun _ _ => rfl) (Nat.le_of_ble_eq_true rfl) ?_
  intro p e s m args below meth cod Q hx hb hml hown hts hK hP hD hret ls hl
  have hl : lv_has ls 3 [(0, .ref o), (1, .int (nI r))] := hl
  have w1 := wt_cw σ r
  have w2 := mv_cw hB r
  have w3 := cw_le σ r (mv σ r)
  refine lv_bipush (v := (nI 16)) hx hb dX1_slimmerBy_0 (by decide) ?_
  refine lv_aload_n hx hb dX1_slimmerBy_2 rfl (lv_at hl 0 rfl) ?_
  refine lv_iload_n hx hb dX1_slimmerBy_3 rfl (lv_at hl 1 rfl) ?_
  refine lv_aload_n hx hb dX1_slimmerBy_4 rfl (lv_at hl 0 rfl) ?_
  refine lv_iload_n hx hb dX1_slimmerBy_5 rfl (lv_at hl 1 rfl) ?_
  refine g_ro (k_V (q0 := 0) (ci := 1) (n := 1) (As := [.int (nI r)]) (rest := [.int (nI r), .ref o, .int (nI 16)]) (wc := [ob o 1 [.int (nI (nn σ)), .ref a1, .ref a2, .ref a3, .ref a4], ar G a1 24 (fun j => nI ((dd σ) j)), ar G a2 384 (fun j => nI ((vv σ) j)), ar G a3 24 (fun j => e9 ((ff σ) j)), ar G a4 24 (fun j => e9 ((ss σ) j))]) hx hb hml hown hts (c_X1_commonestValue (l := l) (G := G) (o := o) (a1 := a1) (a2 := a2) (a3 := a3) (a4 := a4) (σ := σ) (r := r) (hB := by first | assumption | omega) (hr := by first | assumption | omega))  gX1_slimmerBy_X1_commonestValue rfl rfl rfl (by decide +kernel) ⟨Nat.le_of_ble_eq_true rfl, Nat.le_of_ble_eq_true rfl⟩ rfl hK hP hD [0, 1, 2, 3, 4] rfl (by decide)  rfl rfl rfl hl.1 rfl (Nat.le_of_ble_eq_true rfl) dX1_slimmerBy_6 ⟨Nat.le_of_ble_eq_true rfl, Nat.le_of_ble_eq_true rfl⟩) (fun r6 h6 => ?_)
  obtain rfl : (nI (mv σ r)) = r6 := Eq.symm h6
  have b6 := mv_lt σ r
  refine g_ro (k_V (q0 := 0) (ci := 1) (n := 2) (As := [.int (nI r), .int (nI (mv σ r))]) (rest := [.int (nI 16)]) (wc := [ob o 1 [.int (nI (nn σ)), .ref a1, .ref a2, .ref a3, .ref a4], ar G a1 24 (fun j => nI ((dd σ) j)), ar G a2 384 (fun j => nI ((vv σ) j)), ar G a3 24 (fun j => e9 ((ff σ) j)), ar G a4 24 (fun j => e9 ((ss σ) j))]) hx hb hml hown hts (c_X1_cellsWith (l := l) (G := G) (o := o) (a1 := a1) (a2 := a2) (a3 := a3) (a4 := a4) (σ := σ) (r := r) (v := mv σ r) (hB := by first | assumption | omega) (hr := by first | assumption | omega) (hv := by first | assumption | omega))  gX1_slimmerBy_X1_cellsWith rfl rfl rfl (by decide +kernel) ⟨Nat.le_of_ble_eq_true rfl, Nat.le_of_ble_eq_true rfl⟩ rfl hK hP hD [0, 1, 2, 3, 4] rfl (by decide)  rfl rfl rfl hl.1 rfl (Nat.le_of_ble_eq_true rfl) dX1_slimmerBy_9 ⟨Nat.le_of_ble_eq_true rfl, Nat.le_of_ble_eq_true rfl⟩) (fun r9 h9 => ?_)
  obtain rfl : (nI (cw σ r (mv σ r))) = r9 := Eq.symm h9
  have b9 := cw_le σ r (mv σ r)
  refine r_isub (v := 16 - (cw σ r (mv σ r))) hx hb dX1_slimmerBy_12 (by omega) rfl ?_
  refine lv_istore_n (lv' := [(2, .int (nI (16 - (cw σ r (mv σ r))))), (0, .ref o), (1, .int (nI r))]) hx hb dX1_slimmerBy_13 rfl hl (by decide) rfl (fun ls hl => ?_)
  refine lv_aload_n hx hb dX1_slimmerBy_14 rfl (lv_at hl 1 rfl) ?_
  refine lv_iload_n hx hb dX1_slimmerBy_15 rfl (lv_at hl 2 rfl) ?_
  refine g_ro (k_V (q0 := 0) (ci := 1) (n := 1) (As := [.int (nI r)]) (rest := []) (wc := [ob o 1 [.int (nI (nn σ)), .ref a1, .ref a2, .ref a3, .ref a4], ar G a1 24 (fun j => nI ((dd σ) j)), ar G a2 384 (fun j => nI ((vv σ) j)), ar G a3 24 (fun j => e9 ((ff σ) j)), ar G a4 24 (fun j => e9 ((ss σ) j))]) hx hb hml hown hts (c_X1_weightOf (l := l) (G := G) (o := o) (a1 := a1) (a2 := a2) (a3 := a3) (a4 := a4) (σ := σ) (r := r) (hB := by first | assumption | omega) (hr := by first | assumption | omega))  gX1_slimmerBy_X1_weightOf rfl rfl rfl (by decide +kernel) ⟨Nat.le_of_ble_eq_true rfl, Nat.le_of_ble_eq_true rfl⟩ rfl hK hP hD [0, 1, 2, 3, 4] rfl (by decide)  rfl rfl rfl hl.1 rfl (Nat.le_of_ble_eq_true rfl) dX1_slimmerBy_16 ⟨Nat.le_of_ble_eq_true rfl, Nat.le_of_ble_eq_true rfl⟩) (fun r16 h16 => ?_)
  obtain rfl : (nI (wt σ r)) = r16 := Eq.symm h16
  have b16 := wt_le σ r
  refine lv_iload_n hx hb dX1_slimmerBy_19 rfl (lv_at hl 0 rfl) ?_
  refine r_isub (v := (wt σ r) - (16 - (cw σ r (mv σ r)))) hx hb dX1_slimmerBy_20 (by omega) rfl ?_
  exact hret _ _ _ dX1_slimmerBy_21 (by congr 1; unfold slmB; omega)

theorem iqX1_mostLike_X1 : ∀ w ∈ u_ws RX1 TX1 5, w ∈ wsX1_mostLike := by decide +kernel
set_option maxHeartbeats 1000000 in
set_option maxRecDepth 100000 in
theorem c_X1_mostLike (l : Launch) (G : kG) (o a1 a2 a3 a4 : Nat) (σ : Sg) (r : Nat) (hB : Bd σ) (hr : r < 24) : Met l yX1_mostLike wsX1_mostLike ({ frames := 3, cells := 0, slots := 0, locals := 67 } : Room) (cP G [.ref o, .int (nI r)] [ob o 1 [.int (nI (nn σ)), .ref a1, .ref a2, .ref a3, .ref a4], ar G a1 24 (fun j => nI ((dd σ) j)), ar G a2 384 (fun j => nI ((vv σ) j)), ar G a3 24 (fun j => e9 ((ff σ) j)), ar G a4 24 (fun j => e9 ((ss σ) j))]) (vp_Si (fun rv => rv = (e9 ((lkB (eqc σ r) r (nn σ)).1)))) 0 0 (fun _ => False) := by
  refine met_ro (cc := cX1_mostLike) (maxL := 6) (ty := .int) (own := RX1) (by decide) rfl rfl (fun _ _ => rfl) (Nat.le_of_ble_eq_true rfl) ?_
  intro p e s m args below meth cod Q hx hb hml hown hts hK hP hD hret ls hl
  have hl : lv_has ls 6 [(0, .ref o), (1, .int (nI r))] := hl
  have h24 := hB.n
  refine lv_bipush (v := (e9 1000)) hx hb dX1_mostLike_0 (by decide) ?_
  refine lv_istore_n (lv' := [(2, .int (e9 1000)), (0, .ref o), (1, .int (nI r))]) hx hb dX1_mostLike_2 rfl hl (by decide) rfl (fun ls hl => ?_)
  refine lv_iconst (v := (e1 1000)) hx hb dX1_mostLike_3 (by decide) ?_
  refine lv_istore_n (lv' := [(3, .int (e1 1000)), (2, .int (e9 1000)), (0, .ref o), (1, .int (nI r))]) hx hb dX1_mostLike_4 rfl hl (by decide) rfl (fun ls hl => ?_)
  refine lv_iconst (v := (nI 0)) hx hb dX1_mostLike_5 (by decide) ?_
  refine lv_istore (lv' := [(4, .int (nI 0)), (3, .int (e1 1000)), (2, .int (e9 1000)), (0, .ref o), (1, .int (nI r))]) hx hb dX1_mostLike_6 hl (by decide) rfl (fun ls hl => ?_)
  have L8 : ∀ (fu : Nat) (b : Nat) (m2 : Nat) (k : Nat), nn σ + 1 - k < fu → k ≤ nn σ → (b, m2) = lkB (eqc σ r) r k → m2 ≤ 16 ∨ m2 = 1000 → ∀ (ls : Array Slot), lv_has ls 6 [(0, .ref o), (1, .int (nI r)), (2, .int (e9 b)), (3, .int (e1 m2)), (4, .int (nI k))] → W p l e ({ frames := 3, cells := 0, slots := 0, locals := 67 } : Room) s m args below meth cod s.heap [] 0 0 Q (F0 m 8 ls []) := by
    intro fu
    induction fu with
    | zero => intro b m2 k hm; exact absurd hm (Nat.not_lt_zero _)
    | succ fu ih8 =>
      intro b m2 k hm8 hk hm hm2 ls hl
      refine lv_iload hx hb dX1_mostLike_8 (lv_at hl 4 rfl) ?_
      refine lv_aload_n hx hb dX1_mostLike_10 rfl (lv_at hl 0 rfl) ?_
      refine va_get (D := G.1) (ci := 1) (v := .int (nI (nn σ))) (C := RX1) (T := TX1) (N := 5) hx hb hts iqX1_mostLike_X1 hown hK.1 hP 0 rfl rfl 0 (by decide) (hts (.fieldLink RX1 9 "PushedTables$State" "rowCount" "I") (List.mem_of_getElem? (i := 1) rfl)) (fun _ h9 => h9) rfl dX1_mostLike_11 ?_
      refine r_icmp_ge (P := (nn σ) ≤ k) (tgt := 50) hx hb dX1_mostLike_14 (by decide) (nI_leI (by omega) (by omega)) (fun cq14 => ?_) (fun cq14 => ?_)
      · refine lv_iload_n hx hb dX1_mostLike_50 rfl (lv_at hl 2 rfl) ?_
        exact hret _ _ _ dX1_mostLike_51 (by have e : k = nn σ := (by omega); rw [← e, ← hm])
      · refine lv_aload_n hx hb dX1_mostLike_17 rfl (lv_at hl 0 rfl) ?_
        refine lv_iload_n hx hb dX1_mostLike_18 rfl (lv_at hl 1 rfl) ?_
        refine lv_iload hx hb dX1_mostLike_19 (lv_at hl 4 rfl) ?_
        refine g_ro (k_V (q0 := 0) (ci := 1) (n := 2) (As := [.int (nI r), .int (nI k)]) (rest := []) (wc := [ob o 1 [.int (nI (nn σ)), .ref a1, .ref a2, .ref a3, .ref a4], ar G a1 24 (fun j => nI ((dd σ) j)), ar G a2 384 (fun j => nI ((vv σ) j)), ar G a3 24 (fun j => e9 ((ff σ) j)), ar G a4 24 (fun j => e9 ((ss σ) j))]) hx hb hml hown hts (c_X1_equalCells (l := l) (G := G) (o := o) (a1 := a1) (a2 := a2) (a3 := a3) (a4 := a4) (σ := σ) (r := r) (t := k) (hB := by first | assumption | omega) (hr := by first | assumption | omega) (ht := by first | assumption | omega))  gX1_mostLike_X1_equalCells rfl rfl rfl (by decide +kernel) ⟨Nat.le_of_ble_eq_true rfl, Nat.le_of_ble_eq_true rfl⟩ rfl hK hP hD [0, 1, 2, 3, 4] rfl (by decide)  rfl rfl rfl hl.1 rfl (Nat.le_of_ble_eq_true rfl) dX1_mostLike_21 ⟨Nat.le_of_ble_eq_true rfl, Nat.le_of_ble_eq_true rfl⟩) (fun r21 h21 => ?_)
        obtain rfl : (nI (eqc σ r k)) = r21 := Eq.symm h21
        have b21 := eqc_le σ r k
        refine lv_istore (lv' := [(5, .int (nI (eqc σ r k))), (0, .ref o), (1, .int (nI r)), (2, .int (e9 b)), (3, .int (e1 m2)), (4, .int (nI k))]) hx hb dX1_mostLike_24 hl (by decide) rfl (fun ls hl => ?_)
        refine lv_iload hx hb dX1_mostLike_26 (lv_at hl 5 rfl) ?_
        refine lv_iload_n hx hb dX1_mostLike_28 rfl (lv_at hl 2 rfl) ?_
        refine r_icmp_eq (P := k = r) (tgt := 44) hx hb dX1_mostLike_29 (by decide) (nI_eq (by omega) (by omega)) (fun cq29 => ?_) (fun cq29 => ?_)
        · refine r_iinc (v := k + 1) (lv' := [(4, .int (nI (k + 1))), (5, .int (nI (eqc σ r k))), (0, .ref o), (1, .int (nI r)), (2, .int (e9 b)), (3, .int (e1 m2))]) hx hb dX1_mostLike_44 hl (k := 5) rfl (nI_1 _) (by decide) rfl (fun ls hl => ?_)
          refine lv_goto (tgt := 8) hx hb dX1_mostLike_47 (by decide) ?_
          exact ih8 b m2 (k + 1) (by omega) (by omega) (by rw [lkB_succ, if_neg (fun z => z.1 cq29)]; exact hm) (hm2) ls (lv_sub hl [2, 3, 4, 5, 0] rfl)
        · refine lv_iload hx hb dX1_mostLike_32 (lv_at hl 0 rfl) ?_
          refine lv_iload_n hx hb dX1_mostLike_34 rfl (lv_at hl 4 rfl) ?_
          refine r_icmp_le (P := ¬ (m2 = 1000 ∨ m2 < eqc σ r k)) (tgt := 44) hx hb dX1_mostLike_35 (by decide) (e1_ltn (by omega) (by omega)) (fun cq35 => ?_) (fun cq35 => ?_)
          · refine r_iinc (v := k + 1) (lv' := [(4, .int (nI (k + 1))), (5, .int (nI (eqc σ r k))), (0, .ref o), (1, .int (nI r)), (2, .int (e9 b)), (3, .int (e1 m2))]) hx hb dX1_mostLike_44 hl (k := 5) rfl (nI_1 _) (by decide) rfl (fun ls hl => ?_)
            refine lv_goto (tgt := 8) hx hb dX1_mostLike_47 (by decide) ?_
            exact ih8 b m2 (k + 1) (by omega) (by omega) (by rw [lkB_succ, ← hm, if_neg (fun z => cq35 z.2)]) (hm2) ls (lv_sub hl [2, 3, 4, 5, 0] rfl)
          · refine lv_iload hx hb dX1_mostLike_38 (lv_at hl 5 rfl) ?_
            refine r_top (y := (e9 k)) ((e9_n (by omega)).symm) ?_
            refine lv_istore_n (lv' := [(2, .int (e9 k)), (5, .int (nI (eqc σ r k))), (0, .ref o), (1, .int (nI r)), (3, .int (e1 m2)), (4, .int (nI k))]) hx hb dX1_mostLike_40 rfl hl (by decide) rfl (fun ls hl => ?_)
            refine lv_iload hx hb dX1_mostLike_41 (lv_at hl 1 rfl) ?_
            refine r_top (y := (e1 (eqc σ r k))) ((e1_n (by omega)).symm) ?_
            refine lv_istore_n (lv' := [(3, .int (e1 (eqc σ r k))), (2, .int (e9 k)), (5, .int (nI (eqc σ r k))), (0, .ref o), (1, .int (nI r)), (4, .int (nI k))]) hx hb dX1_mostLike_43 rfl hl (by decide) rfl (fun ls hl => ?_)
            refine r_iinc (v := k + 1) (lv' := [(4, .int (nI (k + 1))), (3, .int (e1 (eqc σ r k))), (2, .int (e9 k)), (5, .int (nI (eqc σ r k))), (0, .ref o), (1, .int (nI r))]) hx hb dX1_mostLike_44 hl (k := 5) rfl (nI_1 _) (by decide) rfl (fun ls hl => ?_)
            refine lv_goto (tgt := 8) hx hb dX1_mostLike_47 (by decide) ?_
            exact ih8 k (eqc σ r k) (k + 1) (by omega) (by omega) (by rw [lkB_succ, ← hm, if_pos ⟨cq29, Classical.not_not.mp cq35⟩]) (Or.inl b21) ls (lv_sub hl [4, 5, 2, 1, 0] rfl)
  exact L8 ((nn σ + 1 - 0) + 1) 1000 1000 0 (Nat.lt_succ_self _) (by omega) (rfl) (Or.inr rfl) ls (lv_sub hl [3, 4, 2, 1, 0] rfl)
