/-! rows of this claim: encodings, contracts' forms, instructions over numbers, calls in place -/
def e9 (x : Nat) : Int32 := if x = 1000 then (-9) else nI x
def e1 (x : Nat) : Int32 := if x = 1000 then (-1) else nI x
def bI (b : Bool) : Int32 := if b then 1 else 0
theorem i_eq {a b : Int32} : a = b ↔ a.toInt = b.toInt := ⟨fun h => by rw [h], fun h => Int32.toInt_inj.mp h⟩
theorem i_le {a b : Int32} : a ≤ b ↔ a.toInt ≤ b.toInt := Int32.le_iff_toInt_le
theorem i_lt {a b : Int32} : a < b ↔ a.toInt < b.toInt := Int32.lt_iff_toInt_lt
theorem e9_toInt {x : Nat} (h : x ≤ 1000) : (e9 x).toInt = if x = 1000 then (-9 : Int) else (x : Int) := by
  unfold e9
  split
  · rfl
  · exact nI_toInt (by omega)
theorem e1_toInt {x : Nat} (h : x ≤ 1000) : (e1 x).toInt = if x = 1000 then (-1 : Int) else (x : Int) := by
  unfold e1
  split
  · rfl
  · exact nI_toInt (by omega)
theorem e9_n {x : Nat} (h : x ≠ 1000) : e9 x = nI x := if_neg h
theorem e1_n {x : Nat} (h : x ≠ 1000) : e1 x = nI x := if_neg h
theorem e9_inj {x y : Nat} (hx : x ≤ 1000) (hy : y ≤ 1000) : e9 x = e9 y ↔ x = y := by
  rw [i_eq, e9_toInt hx, e9_toInt hy]
  split <;> split <;> omega
theorem e1_inj {x y : Nat} (hx : x ≤ 1000) (hy : y ≤ 1000) : e1 x = e1 y ↔ x = y := by
  rw [i_eq, e1_toInt hx, e1_toInt hy]
  split <;> split <;> omega
theorem e9_nI {x y : Nat} (hx : x ≤ 1000) (hy : y < 1000) : e9 x = nI y ↔ x = y := by
  rw [i_eq, e9_toInt hx, nI_toInt (by omega)]
  split <;> omega
theorem e1_nI {x y : Nat} (hx : x ≤ 1000) (hy : y < 1000) : e1 x = nI y ↔ x = y := by
  rw [i_eq, e1_toInt hx, nI_toInt (by omega)]
  split <;> omega
theorem nI_e9 {x y : Nat} (hx : x ≤ 1000) (hy : y < 1000) : nI y = e9 x ↔ x = y := ⟨fun h => (e9_nI hx hy).mp h.symm, fun h => ((e9_nI hx hy).mpr h).symm⟩
theorem nI_e1 {x y : Nat} (hx : x ≤ 1000) (hy : y < 1000) : nI y = e1 x ↔ x = y := ⟨fun h => (e1_nI hx hy).mp h.symm, fun h => ((e1_nI hx hy).mpr h).symm⟩
theorem t0 : (0 : Int32).toInt = 0 := rfl
theorem e9_ge0 {x : Nat} (hx : x ≤ 1000) : 0 ≤ e9 x ↔ x ≠ 1000 := by
  rw [i_le, e9_toInt hx, t0]
  split <;> omega
theorem e1_ge0 {x : Nat} (hx : x ≤ 1000) : 0 ≤ e1 x ↔ x ≠ 1000 := by
  rw [i_le, e1_toInt hx, t0]
  split <;> omega
theorem e9_lt0 {x : Nat} (hx : x ≤ 1000) : e9 x < 0 ↔ x = 1000 := by
  rw [i_lt, e9_toInt hx, t0]
  split <;> omega
theorem e1_lt0 {x : Nat} (hx : x ≤ 1000) : e1 x < 0 ↔ x = 1000 := by
  rw [i_lt, e1_toInt hx, t0]
  split <;> omega
theorem nI_ge0 {x : Nat} (hx : x < 2 ^ 31) : 0 ≤ nI x ↔ True := by
  rw [i_le, nI_toInt hx, t0]
  exact ⟨fun _ => trivial, fun _ => by omega⟩
theorem nI_lt0 {x : Nat} (hx : x < 2 ^ 31) : nI x < 0 ↔ False := by
  rw [i_lt, nI_toInt hx, t0]
  exact ⟨fun h => by omega, fun h => h.elim⟩
theorem nI_eq0 {x : Nat} (hx : x < 2 ^ 31) : nI x = 0 ↔ x = 0 := by
  rw [i_eq, nI_toInt hx, t0]
  omega
theorem nI_le0 {x : Nat} (hx : x < 2 ^ 31) : nI x ≤ 0 ↔ x = 0 := by
  rw [i_le, nI_toInt hx, t0]
  omega
theorem nI_gt0 {x : Nat} (hx : x < 2 ^ 31) : 0 < nI x ↔ 0 < x := by
  rw [i_lt, nI_toInt hx, t0]
  omega
theorem bI_eq0 {b : Bool} : bI b = 0 ↔ b = false := by cases b <;> decide
theorem bI_nar (b : Bool) : narrow .boolean (.int (bI b)) = .int (bI b) := by cases b <;> rfl
theorem bI_fit (b : Bool) : fits .boolean (.int (bI b)) = true := by cases b <;> rfl
theorem up_nI (V : Nat → Nat) (k y : Nat) : upd (fun j => nI (V j)) k (nI y) = fun j => nI (va_up V k y j) := by
  funext j; unfold upd va_up; split <;> rfl
theorem up_e9 (V : Nat → Nat) (k y : Nat) : upd (fun j => e9 (V j)) k (e9 y) = fun j => e9 (va_up V k y j) := by
  funext j; unfold upd va_up; split <;> rfl
theorem up_e9n (V : Nat → Nat) (k y : Nat) (h : y ≠ 1000) : upd (fun j => e9 (V j)) k (nI y) = fun j => e9 (va_up V k y j) := by
  rw [← e9_n h]; exact up_e9 V k y
/-! worlds -/
abbrev kG : Type := va_G × ClassId × ClassId × ClassId
abbrev ar (G : kG) (a n : Nat) (f : Nat → Int32) : Nat × va_E := (a, .inl (G.2.1, n, .inl f))
abbrev arC (G : kG) (a n : Nat) (f : Nat → Int32) : Nat × va_E := (a, .inl (G.2.2.1, n, .inl f))
abbrev arS (G : kG) (a n : Nat) (f : Nat → Option Nat) : Nat × va_E := (a, .inl (G.2.2.2, n, .inr (.inr (.inr (.inr f)))))
abbrev ob (a ci : Nat) (fs : List Value) : Nat × va_E := (a, .inr (ci, fs))
def NW (U : State) : Prop := va_Nw (.methodLinkNest RX5 11 yX3_init RX5) U ∧ va_Nw (.methodLinkNest RX5 28 yX4_init RX5) U ∧ va_Nw (.methodLinkNest RX1 46 yX5_numberAt RX5) U ∧ va_Nw (.methodLinkNest RX1 50 yX5_putAt RX5) U ∧ va_Nw (.methodLinkNest RX2 27 yX5_putAt RX5) U ∧ va_Nw (.methodLinkNest RX2 31 yX5_numberAt RX5) U ∧ va_Nw (.methodLinkNest RX4 38 yX5_numberAt RX5) U ∧ va_Nw (.methodLinkNest RX4 42 yX5_putAt RX5) U ∧ va_Nw (.methodLinkNest RX4 72 yX5_isColumn RX5) U
abbrev kT (G : kG) : List (ClassId × FieldType) := [(G.2.1, .int), (G.2.2.1, .char), (G.2.2.2, .object RX1)]
def KK (G : kG) (U : State) : Prop := va_K G.1 vwCl (kT G) U ∧ NW U
theorem KK.warm {G : kG} {s U : State} (hW : s.WarmedH U.vm) (h : KK G s) : KK G U := ⟨va_K.moved hW.alike h.1, va_Nw.warmM hW h.2.1, va_Nw.warmM hW h.2.2.1, va_Nw.warmM hW h.2.2.2.1, va_Nw.warmM hW h.2.2.2.2.1, va_Nw.warmM hW h.2.2.2.2.2.1, va_Nw.warmM hW h.2.2.2.2.2.2.1, va_Nw.warmM hW h.2.2.2.2.2.2.2.1, va_Nw.warmM hW h.2.2.2.2.2.2.2.2.1, va_Nw.warmM hW h.2.2.2.2.2.2.2.2.2⟩
theorem KK.call {G : kG} {U : State} {g : JFrame} {mk : MethodId} {a : Array Value} (h : KK G U) : KK G (U.calling g mk a) :=
  ⟨va_K.moved (u := U) (U := U.calling g mk a) (Vm.Alike.refl U.vm) h.1, va_Nw.same (u := U) (U := U.calling g mk a) rfl rfl h.2.1, va_Nw.same (u := U) (U := U.calling g mk a) rfl rfl h.2.2.1, va_Nw.same (u := U) (U := U.calling g mk a) rfl rfl h.2.2.2.1, va_Nw.same (u := U) (U := U.calling g mk a) rfl rfl h.2.2.2.2.1, va_Nw.same (u := U) (U := U.calling g mk a) rfl rfl h.2.2.2.2.2.1, va_Nw.same (u := U) (U := U.calling g mk a) rfl rfl h.2.2.2.2.2.2.1, va_Nw.same (u := U) (U := U.calling g mk a) rfl rfl h.2.2.2.2.2.2.2.1, va_Nw.same (u := U) (U := U.calling g mk a) rfl rfl h.2.2.2.2.2.2.2.2.1, va_Nw.same (u := U) (U := U.calling g mk a) rfl rfl h.2.2.2.2.2.2.2.2.2⟩
/-! contracts' forms -/
def mA (ws : va_W) : Nat → Prop := fun q => ∃ (k : Nat) (e : va_E), ws[k]? = some (q, e)
def cP (G : kG) (av : List Value) (ws : va_W) : Array Value → State → Prop := va_Pc av (fun U => va_P G.1 vwCl ws U.heap ∧ KK G U ∧ va_D (fun _ => True) ws)
theorem cP_blind {G : kG} {av : List Value} {ws : va_W} : FrameBlind (cP G av ws) := fun _ _ _ _ q => ⟨q.1, q.2.1, q.2.2.1.call, q.2.2.2⟩
def qV (B : Heap → Prop) (A : Nat → Prop) : Array Value → State → Outcome → State → Prop := fun _ st oc t => (oc = .returned none ∧ B t.heap) ∧ va_F A st t
def qI (B : Int32 → Heap → Prop) (A : Nat → Prop) : Array Value → State → Outcome → State → Prop := fun _ st oc t => (∃ r : Int32, oc = .returned (some (.int r)) ∧ B r t.heap) ∧ va_F A st t
def qR (B : Nat → Heap → Prop) (A : Nat → Prop) : Array Value → State → Outcome → State → Prop := fun _ st oc t => (∃ r : Nat, oc = .returned (some (.ref r)) ∧ B r t.heap) ∧ va_F A st t
theorem met_ro {l : Launch} {y : MethodName} {wsm ws' : List Cond} {rm : Room} {G : kG} {av : List Value} {ws : va_W} {post : Int32 → Prop} {cc : ByteArray} {maxL : Nat} {ty : FieldType} {own : String} (hy : plainName y.cls = true) (hw : wsm = Cond.code y cc maxL (some ty) :: ws') (hown : y.cls = own) (hn : ∀ v, post v → narrow ty (.int v) = .int v) (hlen : (lg_sl av).length ≤ maxL)
    (body : ∀ (p : Program) (e : Env) (s : State) (m : MethodId) (args : Array Value) (below : List Frame) (meth : Method) (c : Code) (Q : State → Prop), p.tables.exec = Jvm.exec → c.code = cc → c.maxLocals = maxL → s.vm.findClass own = some m.cls → (∀ w ∈ wsm, w.before args s = true) → KK G s → va_P G.1 vwCl ws s.heap → va_D (fun _ => True) ws →
      (∀ (v : Int32) (pc : Nat) (ls : Array Slot), decode cc pc = .ok (.ireturn, 1) → post v → W p l e rm s m args below meth c s.heap [] 0 0 Q (F0 m pc ls [.int v])) → ∀ ls : Array Slot, lv_has ls maxL (lv_args 0 av) → W p l e rm s m args below meth c s.heap [] 0 0 Q (F0 m 0 ls [])) :
    Met l y wsm rm (cP G av ws) (vp_Si post) 0 0 (fun _ => False) := by
  refine Met.ofW (cc := cc) (maxL := maxL) (ret := some ty) hy hw ?_
  intro p e s m args below meth c s₁ B hml hv
  obtain ⟨rfl, hP, hK, hD⟩ := hv
  rw [lg_entry_eq]
  exact body p e s m _ below meth c _ B.exec B.bytes hml (hown ▸ findClass_of_methodNamed B.named) (atoms_spec (ws := wsm) B.pre) hK hP hD (fun v pc ls hd hp => W.zret B.exec B.bytes B.returns (hn v hp) (fun t ht hW => ⟨v, rfl, hp, ht⟩) (fun q h => by cases h) hd (hlocks := B.notSynchronized)) _ (lv_entry av hlen)
theorem mD {ws : va_W} {A : Nat → Prop} (h : va_D A ws) : va_D (mA ws) ws := ⟨h.1, fun k q hk => ⟨k, q.2, hk⟩⟩
theorem met_muV {l : Launch} {y : MethodName} {wsm ws' : List Cond} {rm : Room} {G : kG} {av : List Value} {ws : va_W} {B : Heap → Prop} {cc : ByteArray} {maxL : Nat} {own : String} (hy : plainName y.cls = true) (hw : wsm = Cond.code y cc maxL none :: ws') (hown : y.cls = own) (hlen : (lg_sl av).length ≤ maxL)
    (body : ∀ (p : Program) (e : Env) (s : State) (m : MethodId) (args : Array Value) (below : List Frame) (meth : Method) (c : Code) (Q : State → Prop) (A : Nat → Prop), p.tables.exec = Jvm.exec → c.code = cc → c.maxLocals = maxL → s.vm.findClass own = some m.cls → (∀ w ∈ wsm, w.before args s = true) → KK G s → va_P G.1 vwCl ws s.heap → va_D A ws → va_S A s.heap s.heap [] →
      (∀ (H : Heap) (locs : List Loc) (pc : Nat) (ls : Array Slot), va_S A s.heap H locs → decode cc pc = .ok (.return_, 1) → B H → W p l e rm s m args below meth c H locs 0 0 Q (F0 m pc ls [])) → ∀ ls : Array Slot, lv_has ls maxL (lv_args 0 av) → W p l e rm s m args below meth c s.heap [] 0 0 Q (F0 m 0 ls [])) :
    Met l y wsm rm (cP G av ws) (qV B (mA ws)) 0 0 (mA ws) := by
  refine Met.ofW (cc := cc) (maxL := maxL) (ret := none) hy hw ?_
  intro p e s m args below meth c s₁ X hml hv
  obtain ⟨rfl, hP, hK, hD⟩ := hv
  rw [lg_entry_eq]
  exact body p e s m _ below meth c _ (mA ws) X.exec X.bytes hml (hown ▸ findClass_of_methodNamed X.named) (atoms_spec (ws := wsm) X.pre) hK hP (mD hD) va_S.rf (fun H locs pc ls hS hd hB => W.vret X.exec X.bytes X.returns (fun t ht hW => ⟨⟨rfl, by rw [ht]; exact hB⟩, hS.F ht⟩) hS.2.2 hd (hlocks := X.notSynchronized)) _ (lv_entry av hlen)
theorem met_muI {l : Launch} {y : MethodName} {wsm ws' : List Cond} {rm : Room} {G : kG} {av : List Value} {ws : va_W} {B : Int32 → Heap → Prop} {cc : ByteArray} {maxL : Nat} {ty : FieldType} {own : String} (hy : plainName y.cls = true) (hw : wsm = Cond.code y cc maxL (some ty) :: ws') (hown : y.cls = own) (hn : ∀ v H, B v H → narrow ty (.int v) = .int v) (hlen : (lg_sl av).length ≤ maxL)
    (body : ∀ (p : Program) (e : Env) (s : State) (m : MethodId) (args : Array Value) (below : List Frame) (meth : Method) (c : Code) (Q : State → Prop) (A : Nat → Prop), p.tables.exec = Jvm.exec → c.code = cc → c.maxLocals = maxL → s.vm.findClass own = some m.cls → (∀ w ∈ wsm, w.before args s = true) → KK G s → va_P G.1 vwCl ws s.heap → va_D A ws → va_S A s.heap s.heap [] →
      (∀ (H : Heap) (locs : List Loc) (v : Int32) (pc : Nat) (ls : Array Slot), va_S A s.heap H locs → decode cc pc = .ok (.ireturn, 1) → B v H → W p l e rm s m args below meth c H locs 0 0 Q (F0 m pc ls [.int v])) → ∀ ls : Array Slot, lv_has ls maxL (lv_args 0 av) → W p l e rm s m args below meth c s.heap [] 0 0 Q (F0 m 0 ls [])) :
    Met l y wsm rm (cP G av ws) (qI B (mA ws)) 0 0 (mA ws) := by
  refine Met.ofW (cc := cc) (maxL := maxL) (ret := some ty) hy hw ?_
  intro p e s m args below meth c s₁ X hml hv
  obtain ⟨rfl, hP, hK, hD⟩ := hv
  rw [lg_entry_eq]
  exact body p e s m _ below meth c _ (mA ws) X.exec X.bytes hml (hown ▸ findClass_of_methodNamed X.named) (atoms_spec (ws := wsm) X.pre) hK hP (mD hD) va_S.rf (fun H locs v pc ls hS hd hB => W.zret X.exec X.bytes X.returns (hn v H hB) (fun t ht hW => ⟨⟨v, rfl, by rw [ht]; exact hB⟩, hS.F ht⟩) hS.2.2 hd (hlocks := X.notSynchronized)) _ (lv_entry av hlen)
theorem met_muR {l : Launch} {y : MethodName} {wsm ws' : List Cond} {rm : Room} {G : kG} {av : List Value} {ws : va_W} {B : Nat → Heap → Prop} {cc : ByteArray} {maxL : Nat} {C : String} {own : String} (hy : plainName y.cls = true) (hw : wsm = Cond.code y cc maxL (some (.object C)) :: ws') (hown : y.cls = own) (hlen : (lg_sl av).length ≤ maxL)
    (body : ∀ (p : Program) (e : Env) (s : State) (m : MethodId) (args : Array Value) (below : List Frame) (meth : Method) (c : Code) (Q : State → Prop) (A : Nat → Prop), p.tables.exec = Jvm.exec → c.code = cc → c.maxLocals = maxL → s.vm.findClass own = some m.cls → (∀ w ∈ wsm, w.before args s = true) → KK G s → va_P G.1 vwCl ws s.heap → va_D A ws → va_S A s.heap s.heap [] →
      (∀ (H : Heap) (locs : List Loc) (v : Nat) (pc : Nat) (ls : Array Slot), va_S A s.heap H locs → decode cc pc = .ok (.areturn, 1) → B v H → W p l e rm s m args below meth c H locs 0 0 Q (F0 m pc ls [.ref v])) → ∀ ls : Array Slot, lv_has ls maxL (lv_args 0 av) → W p l e rm s m args below meth c s.heap [] 0 0 Q (F0 m 0 ls [])) :
    Met l y wsm rm (cP G av ws) (qR B (mA ws)) 0 0 (mA ws) := by
  refine Met.ofW (cc := cc) (maxL := maxL) (ret := some (.object C)) hy hw ?_
  intro p e s m args below meth c s₁ X hml hv
  obtain ⟨rfl, hP, hK, hD⟩ := hv
  rw [lg_entry_eq]
  exact body p e s m _ below meth c _ (mA ws) X.exec X.bytes hml (hown ▸ findClass_of_methodNamed X.named) (atoms_spec (ws := wsm) X.pre) hK hP (mD hD) va_S.rf (fun H locs v pc ls hS hd hB => W.aret X.exec X.bytes X.returns (Or.inl ⟨_, rfl⟩) (Or.inr ⟨_, rfl⟩) (fun t ht hW => ⟨⟨v, rfl, by rw [ht]; exact hB⟩, hS.F ht⟩) hS.2.2 hd (hlocks := X.notSynchronized)) _ (lv_entry av hlen)
/-! a world with some of its cells put anew -/
def mrg : va_W → List Nat → va_W → va_W
  | ws, i :: is, x :: xs => mrg (ws.set i x) is xs
  | ws, _, _ => ws
theorem mrg_at : ∀ (is : List Nat) (w1 ws : va_W) (k : Nat) (q : Nat × va_E), is.length = w1.length → (mrg ws is w1)[k]? = some q → (∃ j : Nat, is[j]? = some k ∧ w1[j]? = some q) ∨ (k ∉ is ∧ ws[k]? = some q)
  | [], w1, ws, k, q, _, h => by
    refine Or.inr ⟨List.not_mem_nil, ?_⟩
    simpa [mrg] using h
  | i :: is, [], ws, k, q, hl, h => by simp at hl
  | i :: is, x :: xs, ws, k, q, hl, h => by
    have h' : (mrg (ws.set i x) is xs)[k]? = some q := h
    rcases mrg_at is xs (ws.set i x) k q (by simpa using hl) h' with ⟨j, h1, h2⟩ | ⟨h1, h2⟩
    · exact Or.inl ⟨j + 1, by simpa using h1, by simpa using h2⟩
    · by_cases hk : i = k
      · subst hk
        have hlt : i < ws.length := by
          have := (List.getElem?_eq_some_iff.mp h2).1
          simpa using this
        rw [List.getElem?_set_self hlt] at h2
        exact Or.inl ⟨0, by simp, by simpa using h2⟩
      · rw [List.getElem?_set_ne hk] at h2
        exact Or.inr ⟨by simp only [List.mem_cons, not_or]; exact ⟨fun e => hk e.symm, h1⟩, h2⟩
theorem pl_at {α β : Type} {f : α → Option β} {is : List α} {w : List β} (hs : is.map f = w.map some) {k : Nat} {q : β} (hq : w[k]? = some q) : ∃ i, is[k]? = some i ∧ f i = some q := by
  have h1 : (is.map f)[k]? = some (some q) := by rw [hs, List.getElem?_map, hq]; rfl
  rw [List.getElem?_map] at h1
  cases hi : is[k]? with
  | none => rw [hi] at h1; cases h1
  | some i => rw [hi] at h1; exact ⟨i, rfl, Option.some.inj h1⟩
theorem pl_at' {α β : Type} {f : α → Option β} {is : List α} {w : List β} (hs : is.map f = w.map some) {k : Nat} {i : α} (hi : is[k]? = some i) : ∃ q, w[k]? = some q ∧ f i = some q := by
  have h1 : (w.map some)[k]? = some (f i) := by rw [← hs, List.getElem?_map, hi]; rfl
  rw [List.getElem?_map] at h1
  cases hq : w[k]? with
  | none => rw [hq] at h1; cases h1
  | some q => rw [hq] at h1; exact ⟨q, rfl, (Option.some.inj h1).symm⟩
theorem pl_P {D : va_G} {cl : List vw_C} {ws wc : va_W} {H : Heap} (h : va_P D cl ws H) {is : List Nat} (hs : is.map (fun i => ws[i]?) = wc.map some) : va_P D cl wc H := by
  intro k q hq
  obtain ⟨i, -, h2⟩ := pl_at hs hq
  exact h i q h2
theorem mA_sub {A : Nat → Prop} {ws wc : va_W} (hD : va_D A ws) {is : List Nat} (hs : is.map (fun i => ws[i]?) = wc.map some) : ∀ q, mA wc q → A q := by
  rintro q ⟨k, e, hk⟩
  obtain ⟨i, -, h2⟩ := pl_at hs hk
  exact hD.2 i _ h2
theorem mrg_D {A : Nat → Prop} {ws wc w1 : va_W} (hD : va_D A ws) {is : List Nat} (hs : is.map (fun i => ws[i]?) = wc.map some) (ha : w1.map (·.1) = wc.map (·.1)) : va_D A (mrg ws is w1) := by
  have hlen : is.length = w1.length := by
    have h1 := congrArg List.length hs
    have h2 := congrArg List.length ha
    simp only [List.length_map] at h1 h2
    omega
  have key : ∀ (k : Nat) (q : Nat × va_E), (mrg ws is w1)[k]? = some q → ∃ q0, ws[k]? = some q0 ∧ q0.1 = q.1 := by
    intro k q hq
    rcases mrg_at is w1 ws k q hlen hq with ⟨j, h1, h2⟩ | ⟨-, h2⟩
    · obtain ⟨q0, h3, h4⟩ := pl_at' hs h1
      refine ⟨q0, h4, ?_⟩
      have e1 : (w1.map (·.1))[j]? = some q.1 := by rw [List.getElem?_map, h2]; rfl
      rw [ha, List.getElem?_map, h3] at e1
      exact Option.some.inj e1
    · exact ⟨q, h2, rfl⟩
  refine ⟨fun i j x y hi hj hxy => ?_, fun k q hk => ?_⟩
  · obtain ⟨x0, h1, h2⟩ := key i x hi
    obtain ⟨y0, h3, h4⟩ := key j y hj
    exact hD.1 i j x0 y0 h1 h3 (h2.trans (hxy.trans h4.symm))
  · obtain ⟨q0, h1, h2⟩ := key k q hk
    rw [← h2]
    exact hD.2 k q0 h1
theorem mrg_P {A : Nat → Prop} {D : va_G} {cl : List vw_C} {ws wc w1 : va_W} {H H1 : Heap} (hP : va_P D cl ws H) (hD : va_D A ws) {is : List Nat} (hs : is.map (fun i => ws[i]?) = wc.map some) (ha : w1.map (·.1) = wc.map (·.1)) (hk : ∀ q : Nat, q < H.size → ¬ mA wc q → H1[q]? = H[q]?) (hP1 : va_P D cl w1 H1) : va_P D cl (mrg ws is w1) H1 := by
  have hlen : is.length = w1.length := by
    have h1 := congrArg List.length hs
    have h2 := congrArg List.length ha
    simp only [List.length_map] at h1 h2
    omega
  intro k q hq
  rcases mrg_at is w1 ws k q hlen hq with ⟨j, -, h2⟩ | ⟨h1, h2⟩
  · exact hP1 j q h2
  · refine (hP k q h2).kept (hk q.1 (hP k q h2).lt ?_)
    rintro ⟨j, e, hj⟩
    obtain ⟨i, h3, h4⟩ := pl_at hs hj
    have := hD.1 k i q _ h2 h4 rfl
    subst this
    exact h1 (List.mem_of_getElem? h3)
/-- the contents of a row, said otherwise -/
theorem P_ext {D : va_G} {cl : List vw_C} {ws : va_W} {H : Heap} (h : va_P D cl ws H) (k : Nat) {a n : Nat} {cA : ClassId} {f : Nat → Int32} (g : Nat → Int32) (hk : ws[k]? = some (a, .inl (cA, n, .inl f))) (hfg : ∀ j, j < n → f j = g j) : va_P D cl (ws.set k (a, .inl (cA, n, .inl g))) H := by
  have hl := (List.getElem?_eq_some_iff.mp hk).1
  intro i q hi
  by_cases e : k = i
  · subst e
    rw [List.getElem?_set_self hl] at hi
    cases hi
    have h1 := h k _ hk
    show H[a]? = some (vp_cell cA (n, .inl g))
    have h2 : H[a]? = some (vp_cell cA (n, .inl f)) := h1
    rw [h2, vp_cell_i, vp_cell_i]
    unfold arrV
    congr 2
    apply congrArg
    funext j
    exact congrArg Value.int (hfg j.val j.isLt)
  · rw [List.getElem?_set_ne e] at hi
    exact h i q hi
theorem D_ext {A : Nat → Prop} {ws : va_W} (h : va_D A ws) (k : Nat) {a : Nat} {e e' : va_E} (hk : ws[k]? = some (a, e)) : va_D A (ws.set k (a, e')) := h.set hk
