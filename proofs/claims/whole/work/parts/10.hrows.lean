/-! rows for the row of states -/
theorem P_extS {D : va_G} {cl : List vw_C} {ws : va_W} {H : Heap} (h : va_P D cl ws H) (k : Nat) {a n : Nat} {cA : ClassId} {f : Nat → Option Nat} (g : Nat → Option Nat) (hk : ws[k]? = some (a, .inl (cA, n, .inr (.inr (.inr (.inr f)))))) (hfg : ∀ j, j < n → f j = g j) : va_P D cl (ws.set k (a, .inl (cA, n, .inr (.inr (.inr (.inr g)))))) H := by
  have hl := (List.getElem?_eq_some_iff.mp hk).1
  intro i q hi
  by_cases e : k = i
  · subst e
    rw [List.getElem?_set_self hl] at hi
    cases hi
    have h1 := h k _ hk
    show H[a]? = some (vp_cell cA (n, .inr (.inr (.inr (.inr g)))))
    have h2 : H[a]? = some (vp_cell cA (n, .inr (.inr (.inr (.inr f))))) := h1
    rw [h2, vp_cell_q, vp_cell_q]
    unfold arrV
    congr 2
    apply congrArg
    funext j
    exact congrArg va_rf (hfg j.val j.isLt)
  · rw [List.getElem?_set_ne e] at hi
    exact h i q hi
section RAA
variable {p : Program} {l : Launch} {e : Env} {R : Room} {s : State} {m : MethodId} {args : Array Value} {below : List Frame} {meth : Method} {c : Code} {H : Heap} {locs : List Loc} {cells slots : Nat} {Q : State → Prop} {cc : ByteArray} {pc : Nat} {ls : Array Slot} {rest : List Value}
variable {D : va_G} {cl : List vw_C} {tys : List (ClassId × FieldType)} {ws : va_W} {A : Nat → Prop} {H0 : Heap} {a : Nat}
theorem r_aast (hx : p.tables.exec = Jvm.exec) (hb : c.code = cc) (hK : va_K D cl tys s) (hP : va_P D cl ws H) (hD : va_D A ws) (hS : va_S A H0 H locs) (q0 t0 : Nat) {cA : ClassId} {n e1 v : Nat} {f : Nat → Option Nat} {r : vw_C} {ci : Nat} (g : Nat → Option Nat) (ha : ws[q0]? = some (a, .inl (cA, n, .inr (.inr (.inr (.inr f)))))) (ht : tys[t0]? = some (cA, .object r.1)) (hv : ∃ (qk : Nat) (vs : List Value), ws[qk]? = some (v, .inr (ci, vs))) (hc : cl[ci]? = some r) (hlt : e1 < n) (hn : n < 2 ^ 31) (hg : va_up f e1 (some v) = g) (hdg : decode cc pc = .ok (.aastore, 1))
    (kk : ∀ (H1 : Heap) (locs1 : List Loc), va_P D cl (ws.set q0 (a, .inl (cA, n, .inr (.inr (.inr (.inr g)))))) H1 → va_D A (ws.set q0 (a, .inl (cA, n, .inr (.inr (.inr (.inr g)))))) → va_S A H0 H1 locs1 → W p l e R s m args below meth c H1 locs1 cells slots Q (F0 m (pc + 1) ls rest)) : W p l e R s m args below meth c H locs cells slots Q (F0 m pc ls (.ref v :: .int (nI e1) :: .ref a :: rest)) := by
  obtain ⟨qk, vs, hv⟩ := hv
  exact va_astq hx hb hK hP hD hS q0 t0 qk ci ha ht hv hc (vp_in_nI hlt hn) hdg (by rw [nI_clamp (by omega), hg]; exact kk)
end RAA
/-! a method that answers null and changes nothing -/
def qNl : Array Value → State → Outcome → State → Prop := fun _ st oc t => oc = .returned (some .null) ∧ t.heap = st.heap
theorem met_roN {l : Launch} {y : MethodName} {wsm ws' : List Cond} {rm : Room} {G : kG} {av : List Value} {ws : va_W} {cc : ByteArray} {maxL : Nat} {C : String} {own : String} (hy : plainName y.cls = true) (hw : wsm = Cond.code y cc maxL (some (.object C)) :: ws') (hown : y.cls = own) (hlen : (lg_sl av).length ≤ maxL)
    (body : ∀ (p : Program) (e : Env) (s : State) (m : MethodId) (args : Array Value) (below : List Frame) (meth : Method) (c : Code) (Q : State → Prop), p.tables.exec = Jvm.exec → c.code = cc → c.maxLocals = maxL → s.vm.findClass own = some m.cls → (∀ w ∈ wsm, w.before args s = true) → KK G s → va_P G.1 vwCl ws s.heap → va_D (fun _ => True) ws →
      (∀ (pc : Nat) (ls : Array Slot), decode cc pc = .ok (.areturn, 1) → W p l e rm s m args below meth c s.heap [] 0 0 Q (F0 m pc ls [.null])) → ∀ ls : Array Slot, lv_has ls maxL (lv_args 0 av) → W p l e rm s m args below meth c s.heap [] 0 0 Q (F0 m 0 ls [])) :
    Met l y wsm rm (cP G av ws) qNl 0 0 (fun _ => False) := by
  refine Met.ofW (cc := cc) (maxL := maxL) (ret := some (.object C)) hy hw ?_
  intro p e s m args below meth c s₁ B hml hv
  obtain ⟨rfl, hP, hK, hD⟩ := hv
  rw [lg_entry_eq]
  exact body p e s m _ below meth c _ B.exec B.bytes hml (hown ▸ findClass_of_methodNamed B.named) (atoms_spec (ws := wsm) B.pre) hK hP hD (fun pc ls hd => W.aret B.exec B.bytes B.returns (Or.inl ⟨_, rfl⟩) (Or.inl rfl) (fun t ht hW => ⟨rfl, ht⟩) (fun q h => by cases h) hd (hlocks := B.notSynchronized)) _ (lv_entry av hlen)
section RNL
variable {p : Program} {l : Launch} {e : Env} {R : Room} {s : State} {m : MethodId} {args : Array Value} {below : List Frame} {meth : Method} {c : Code} {H : Heap} {locs : List Loc} {cells slots : Nat} {Q : State → Prop} {cc : ByteArray} {pc : Nat} {ls : Array Slot} {rest st0 : List Value}
theorem g_roN {av : Array Value} (hr : va_Run p l e R s m args below meth c H locs cells slots 0 0 (F0 m pc ls st0) rest (qNl av) (fun _ => False)) (kk : W p l e R s m args below meth c H locs cells slots Q (F0 m (pc + 3) ls (.null :: rest))) : W p l e R s m args below meth c H locs cells slots Q (F0 m pc ls st0) := by
  intro T hT X
  obtain ⟨v, st₀, t, T', L, h0, X', hL, e1, -, ⟨hv, hh⟩, st⟩ := hr T hT X
  cases hv
  obtain ⟨t2, a1, b1⟩ := kk T' (by rw [e1, hh, h0]) (Stand.forget X' (fun q h => (hL q h).elim))
  exact ⟨t2, st t2 a1, b1⟩
end RNL
/-- the history: five states that stay where they are, and which of them is the j-th -/
def rgt (k j : Nat) : Nat := (j + k) % 5
theorem rgt_lt (k j : Nat) : rgt k j < 5 := Nat.mod_lt _ (by decide)
theorem five {t : Nat} (h : t < 5) : t = 0 ∨ t = 1 ∨ t = 2 ∨ t = 3 ∨ t = 4 := by omega
theorem rgt_1 (k : Nat) : (rgt ((k + 1) % 5) 4) = k % 5 := by unfold rgt; omega
theorem rgt_s (k j : Nat) : rgt ((k + 1) % 5) j = rgt k (j + 1) := by unfold rgt; omega
