/-! rows for the row of states -/
theorem P_extS {D : va_G} {cl : List vw_C} {ws : va_W} {H : Heap} (h : va_P D cl ws H) (k : Nat) {a n : Nat} {cA : ClassId} {f : Nat → Option Nat} (g : Nat → Option Nat) (hk : ws[k]? = some (a, .inl (cA, n, .inr (.inr (.inr (.inr f)))))) (hfg : ∀ j, j < n → f j = g j) : va_P D cl (ws.set k (a, .inl (cA, n, .inr (.inr (.inr (.inr g)))))) H := by
  have hl := (List.getElem?_eq_some_iff.mp hk).1
  intro i q hi
  by_cases e : k = i
  · subst e
    rw [List.getElem?_set_self hl] at hi
    cases hi
    have h1 := h k _ hk
    show H[a]? = some (vp_cell cA (n, .inr (.inr (.inr (.inr g)))))
    have h2 : H[a]? = some (vp_cell cA (n, .inr (.inr (.inr (.inr f))))) := h1
    rw [h2, vp_cell_q, vp_cell_q]
    unfold arrV
    congr 2
    apply congrArg
    funext j
    exact congrArg va_rf (hfg j.val j.isLt)
  · rw [List.getElem?_set_ne e] at hi
    exact h i q hi
section RAA
variable {p : Program} {l : Launch} {e : Env} {R : Room} {s : State} {m : MethodId} {args : Array Value} {below : List Frame} {meth : Method} {c : Code} {H : Heap} {locs : List Loc} {cells slots : Nat} {Q : State → Prop} {cc : ByteArray} {pc : Nat} {ls : Array Slot} {rest : List Value}
variable {D : va_G} {cl : List vw_C} {tys : List (ClassId × FieldType)} {ws : va_W} {A : Nat → Prop} {H0 : Heap} {a : Nat}
theorem r_aast (hx : p.tables.exec = Jvm.exec) (hb : c.code = cc) (hK : va_K D cl tys s) (hP : va_P D cl ws H) (hD : va_D A ws) (hS : va_S A H0 H locs) (q0 t0 : Nat) {cA : ClassId} {n e1 v : Nat} {f : Nat → Option Nat} {r : vw_C} {ci : Nat} (g : Nat → Option Nat) (ha : ws[q0]? = some (a, .inl (cA, n, .inr (.inr (.inr (.inr f)))))) (ht : tys[t0]? = some (cA, .object r.1)) (hv : ∃ (qk : Nat) (vs : List Value), ws[qk]? = some (v, .inr (ci, vs))) (hc : cl[ci]? = some r) (hlt : e1 < n) (hn : n < 2 ^ 31) (hg : va_up f e1 (some v) = g) (hdg : decode cc pc = .ok (.aastore, 1))
    (kk : ∀ (H1 : Heap) (locs1 : List Loc), va_P D cl (ws.set q0 (a, .inl (cA, n, .inr (.inr (.inr (.inr g)))))) H1 → va_D A (ws.set q0 (a, .inl (cA, n, .inr (.inr (.inr (.inr g)))))) → va_S A H0 H1 locs1 → W p l e R s m args below meth c H1 locs1 cells slots Q (F0 m (pc + 1) ls rest)) : W p l e R s m args below meth c H locs cells slots Q (F0 m pc ls (.ref v :: .int (nI e1) :: .ref a :: rest)) := by
  obtain ⟨qk, vs, hv⟩ := hv
  exact va_astq hx hb hK hP hD hS q0 t0 qk ci ha ht hv hc (vp_in_nI hlt hn) hdg (by rw [nI_clamp (by omega), hg]; exact kk)
end RAA
/-- the history: five states that stay where they are, and which of them is the j-th -/
def rgt (k j : Nat) : Nat := (j + k) % 5
theorem rgt_lt (k j : Nat) : rgt k j < 5 := Nat.mod_lt _ (by decide)
theorem five {t : Nat} (h : t < 5) : t = 0 ∨ t = 1 ∨ t = 2 ∨ t = 3 ∨ t = 4 := by omega
theorem rgt_1 (k : Nat) : (rgt ((k + 1) % 5) 4) = k % 5 := by unfold rgt; omega
theorem rgt_s (k j : Nat) : rgt ((k + 1) % 5) j = rgt k (j + 1) := by unfold rgt; omega
