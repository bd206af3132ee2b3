/-! worlds in blocks: a call changes whole blocks, the others stay -/
def bl (bs : List va_W) : va_W := bs.flatten
def bmg : List va_W → List Nat → List va_W → List va_W
  | ws, i :: is, x :: xs => bmg (ws.set i x) is xs
  | ws, _, _ => ws
theorem bmg_at : ∀ (is : List Nat) (w1 ws : List va_W) (k : Nat) (q : va_W), is.length = w1.length → (bmg ws is w1)[k]? = some q → (∃ j : Nat, is[j]? = some k ∧ w1[j]? = some q) ∨ (k ∉ is ∧ ws[k]? = some q)
  | [], w1, ws, k, q, _, h => by
    refine Or.inr ⟨List.not_mem_nil, ?_⟩
    simpa [bmg] using h
  | i :: is, [], ws, k, q, hl, h => by simp at hl
  | i :: is, x :: xs, ws, k, q, hl, h => by
    have h' : (bmg (ws.set i x) is xs)[k]? = some q := h
    rcases bmg_at is xs (ws.set i x) k q (by simpa using hl) h' with ⟨j, h1, h2⟩ | ⟨h1, h2⟩
    · exact Or.inl ⟨j + 1, by simpa using h1, by simpa using h2⟩
    · by_cases hk : i = k
      · subst hk
        have hlt : i < ws.length := by
          have := (List.getElem?_eq_some_iff.mp h2).1
          simpa using this
        rw [List.getElem?_set_self hlt] at h2
        exact Or.inl ⟨0, by simp, by simpa using h2⟩
      · rw [List.getElem?_set_ne hk] at h2
        exact Or.inr ⟨by simp only [List.mem_cons, not_or]; exact ⟨fun e => hk e.symm, h1⟩, h2⟩
theorem va_P_mem {D : va_G} {cl : List vw_C} {ws : va_W} {H : Heap} : va_P D cl ws H ↔ ∀ q ∈ ws, va_at D cl q H :=
  ⟨fun h q hq => by obtain ⟨k, hk⟩ := List.getElem?_of_mem hq; exact h k q hk, fun h k q hk => h q (List.mem_of_getElem? hk)⟩
theorem bl_P {D : va_G} {cl : List vw_C} {bs : List va_W} {H : Heap} : va_P D cl (bl bs) H ↔ ∀ b ∈ bs, va_P D cl b H := by
  rw [va_P_mem]
  constructor
  · intro h b hb
    rw [va_P_mem]
    exact fun q hq => h q (List.mem_flatten.mpr ⟨b, hb, hq⟩)
  · intro h q hq
    obtain ⟨b, hb, hq⟩ := List.mem_flatten.mp hq
    exact va_P_mem.mp (h b hb) q hq
theorem D_app_inv {A : Nat → Prop} {a b : va_W} (h : va_D A (a ++ b)) : va_D A a ∧ va_D A b ∧ ∀ q ∈ a, ∀ q' ∈ b, q.1 ≠ q'.1 := by
  have la : ∀ (k : Nat) (q : Nat × va_E), a[k]? = some q → (a ++ b)[k]? = some q := fun k q hk => by
    rw [List.getElem?_append_left (List.getElem?_eq_some_iff.mp hk).1]; exact hk
  have lb : ∀ (k : Nat) (q : Nat × va_E), b[k]? = some q → (a ++ b)[a.length + k]? = some q := fun k q hk => by
    rw [List.getElem?_append_right (Nat.le_add_right _ _), Nat.add_sub_cancel_left]; exact hk
  refine ⟨⟨fun i j p q hi hj e => h.1 i j p q (la i p hi) (la j q hj) e, fun k q hk => h.2 k q (la k q hk)⟩, ⟨fun i j p q hi hj e => ?_, fun k q hk => h.2 _ q (lb k q hk)⟩, fun q hq q' hq' e => ?_⟩
  · have := h.1 _ _ p q (lb i p hi) (lb j q hj) e
    omega
  · obtain ⟨i, hi⟩ := List.getElem?_of_mem hq
    obtain ⟨j, hj⟩ := List.getElem?_of_mem hq'
    have := h.1 _ _ q q' (la i q hi) (lb j q' hj) e
    have := (List.getElem?_eq_some_iff.mp hi).1
    omega
theorem bl_disj {A : Nat → Prop} : ∀ (bs : List va_W), va_D A (bl bs) → ∀ (k i : Nat) (b b' : va_W), bs[k]? = some b → bs[i]? = some b' → k ≠ i → ∀ q ∈ b, ∀ q' ∈ b', q.1 ≠ q'.1
  | [], _, k, i, b, b', h, _, _, _, _, _, _ => by simp at h
  | c :: bs, hD, k, i, b, b', hk, hi, hne, q, hq, q', hq' => by
    have hD' : va_D A (c ++ bl bs) := hD
    obtain ⟨h1, h2, h3⟩ := D_app_inv hD'
    cases k with
    | zero =>
      cases i with
      | zero => exact absurd rfl hne
      | succ i =>
        have e : c = b := by simpa using hk
        subst e
        exact h3 q hq q' (List.mem_flatten.mpr ⟨b', List.mem_of_getElem? (by simpa using hi), hq'⟩)
    | succ k =>
      cases i with
      | zero =>
        have e : c = b' := by simpa using hi
        subst e
        exact fun z => h3 q' hq' q (List.mem_flatten.mpr ⟨b, List.mem_of_getElem? (by simpa using hk), hq⟩) z.symm
      | succ i => exact bl_disj bs h2 k i b b' (by simpa using hk) (by simpa using hi) (by omega) q hq q' hq'
theorem bl_D1 {A : Nat → Prop} : ∀ (bs : List va_W), va_D A (bl bs) → ∀ b ∈ bs, va_D A b
  | [], _, b, h => by simp at h
  | c :: bs, hD, b, hb => by
    have hD' : va_D A (c ++ bl bs) := hD
    obtain ⟨h1, h2, -⟩ := D_app_inv hD'
    rcases List.mem_cons.mp hb with rfl | hb
    · exact h1
    · exact bl_D1 bs h2 b hb
theorem D_addr {A : Nat → Prop} {ws ws' : va_W} (h : va_D A ws) (e : ws'.map (·.1) = ws.map (·.1)) : va_D A ws' := by
  have key : ∀ (k : Nat) (q : Nat × va_E), ws'[k]? = some q → ∃ q0, ws[k]? = some q0 ∧ q0.1 = q.1 := by
    intro k q hk
    have h1 : (ws'.map (·.1))[k]? = some q.1 := by rw [List.getElem?_map, hk]; rfl
    rw [e, List.getElem?_map] at h1
    cases h2 : ws[k]? with
    | none => rw [h2] at h1; cases h1
    | some q0 => rw [h2] at h1; exact ⟨q0, rfl, Option.some.inj h1⟩
  refine ⟨fun i j x y hi hj hxy => ?_, fun k q hk => ?_⟩
  · obtain ⟨x0, h1, h2⟩ := key i x hi
    obtain ⟨y0, h3, h4⟩ := key j y hj
    exact h.1 i j x0 y0 h1 h3 (h2.trans (hxy.trans h4.symm))
  · obtain ⟨q0, h1, h2⟩ := key k q hk
    rw [← h2]
    exact h.2 k q0 h1
theorem bmg_addr : ∀ (is : List Nat) (bs bc b1 : List va_W), is.map (fun i => bs[i]?) = bc.map some → va_nd is = true → b1.map (List.map (·.1)) = bc.map (List.map (·.1)) → (bmg bs is b1).map (List.map (·.1)) = bs.map (List.map (·.1)) := by
  intro is bs bc b1 hC hn ha
  have hlen : is.length = b1.length := by
    have h1 := congrArg List.length hC
    have h2 := congrArg List.length ha
    simp only [List.length_map] at h1 h2
    omega
  have hl : ∀ (is : List Nat) (b1 bs : List va_W), (bmg bs is b1).length = bs.length := by
    intro is
    induction is with
    | nil => intro b1 bs; cases b1 <;> rfl
    | cons i is ih =>
      intro b1 bs
      cases b1 with
      | nil => rfl
      | cons x xs => show (bmg (bs.set i x) is xs).length = _; rw [ih, List.length_set]
  refine List.ext_getElem? (fun k => ?_)
  rw [List.getElem?_map, List.getElem?_map]
  cases h : (bmg bs is b1)[k]? with
  | none =>
    have : bs.length ≤ k := by
      have := List.getElem?_eq_none_iff.mp h
      rw [hl] at this
      exact this
    rw [List.getElem?_eq_none_iff.mpr this]
  | some q =>
    rcases bmg_at is b1 bs k q hlen h with ⟨j, h1, h2⟩ | ⟨-, h2⟩
    · obtain ⟨c, h3, h4⟩ := pl_at' hC h1
      rw [h4]
      have e1 : (b1.map (List.map (·.1)))[j]? = some (q.map (·.1)) := by rw [List.getElem?_map, h2]; rfl
      rw [ha, List.getElem?_map, h3] at e1
      exact e1.symm
    · rw [h2]
theorem bmg_D {A : Nat → Prop} {bs bc b1 : List va_W} (hD : va_D A (bl bs)) {is : List Nat} (hC : is.map (fun i => bs[i]?) = bc.map some) (hn : va_nd is = true) (ha : b1.map (List.map (·.1)) = bc.map (List.map (·.1))) : va_D A (bl (bmg bs is b1)) := by
  refine D_addr hD ?_
  unfold bl
  rw [List.map_flatten, List.map_flatten, bmg_addr is bs bc b1 hC hn ha]
theorem bmg_P {A : Nat → Prop} {D : va_G} {cl : List vw_C} {bs bc b1 : List va_W} {H H1 : Heap} (hP : va_P D cl (bl bs) H) (hD : va_D A (bl bs)) {is : List Nat} (hC : is.map (fun i => bs[i]?) = bc.map some) (ha : b1.map (List.map (·.1)) = bc.map (List.map (·.1))) (hk : ∀ q : Nat, q < H.size → ¬ mA (bl bc) q → H1[q]? = H[q]?) (hP1 : va_P D cl (bl b1) H1) : va_P D cl (bl (bmg bs is b1)) H1 := by
  have hlen : is.length = b1.length := by
    have h1 := congrArg List.length hC
    have h2 := congrArg List.length ha
    simp only [List.length_map] at h1 h2
    omega
  rw [bl_P]
  intro b hb
  obtain ⟨k, hkb⟩ := List.getElem?_of_mem hb
  rcases bmg_at is b1 bs k b hlen hkb with ⟨j, -, h2⟩ | ⟨h1, h2⟩
  · exact bl_P.mp hP1 b (List.mem_of_getElem? h2)
  · have hb2 := bl_P.mp hP b (List.mem_of_getElem? h2)
    rw [va_P_mem] at hb2 ⊢
    intro q hq
    refine (hb2 q hq).kept (hk q.1 (hb2 q hq).lt ?_)
    rintro ⟨n, e, hn⟩
    obtain ⟨c, hc, hqc⟩ := List.mem_flatten.mp (List.mem_of_getElem? hn)
    obtain ⟨j, hj⟩ := List.getElem?_of_mem hc
    obtain ⟨i, h3, h4⟩ := pl_at hC hj
    exact bl_disj bs hD k i b c h2 h4 (fun z => h1 (z ▸ List.mem_of_getElem? h3)) q hq _ hqc rfl
theorem bl_sub {D : va_G} {cl : List vw_C} {bs bc : List va_W} {H : Heap} (hP : va_P D cl (bl bs) H) {is : List Nat} (hC : is.map (fun i => bs[i]?) = bc.map some) : va_P D cl (bl bc) H := by
  rw [bl_P] at hP ⊢
  intro b hb
  obtain ⟨k, hk⟩ := List.getElem?_of_mem hb
  obtain ⟨i, -, h⟩ := pl_at hC hk
  exact hP b (List.mem_of_getElem? h)
theorem bl_subD {A : Nat → Prop} {bs : List va_W} (hD : va_D A (bl bs)) : ∀ (is : List Nat) (bc : List va_W), va_nd is = true → is.map (fun i => bs[i]?) = bc.map some → va_D A (bl bc)
  | [], bc, _, hC => by
    have : bc = [] := by
      cases bc with
      | nil => rfl
      | cons _ _ => simp at hC
    subst this
    exact ⟨fun i j p q h => by simp [bl] at h, fun k q h => by simp [bl] at h⟩
  | i :: is, bc, hn, hC => by
    cases bc with
    | nil => simp at hC
    | cons c bc =>
      rw [List.map_cons, List.map_cons, List.cons.injEq] at hC
      obtain ⟨h1, h2⟩ := hC
      have hn' : i ∉ is ∧ va_nd is = true := by
        have : (decide (i ∉ is) && va_nd is) = true := hn
        simpa using this
      have a := bl_subD hD is bc hn'.2 h2
      have b := bl_D1 bs hD c (List.mem_of_getElem? h1)
      show va_D A (c ++ bl bc)
      refine va_D.app b a (fun x y p q hx hy e => ?_)
      obtain ⟨c', hc', hq'⟩ := List.mem_flatten.mp (List.mem_of_getElem? hy)
      obtain ⟨j, hj⟩ := List.getElem?_of_mem hc'
      obtain ⟨i', h3, h4⟩ := pl_at h2 hj
      exact bl_disj bs hD i i' c c' h1 h4 (fun z => hn'.1 (z ▸ List.mem_of_getElem? h3)) p (List.mem_of_getElem? hx) q hq' e
theorem bl_mA {A : Nat → Prop} {bs bc : List va_W} (hD : va_D A (bl bs)) {is : List Nat} (hn : va_nd is = true) (hC : is.map (fun i => bs[i]?) = bc.map some) : ∀ q, mA (bl bc) q → A q := by
  rintro q ⟨k, e, hk⟩
  exact (bl_subD hD is bc hn hC).2 k _ hk
def wS (G : kG) (o a1 a2 a3 a4 : Nat) (σ : Sg) : va_W := [ob o 1 [.int (nI (nn σ)), .ref a1, .ref a2, .ref a3, .ref a4], ar G a1 24 (fun j => nI (dd σ j)), ar G a2 384 (fun j => nI (vv σ j)), ar G a3 24 (fun j => e9 (ff σ j)), ar G a4 24 (fun j => e9 (ss σ j))]
def wT (G : kG) (q b1 b2 : Nat) (cv cm : Nat → Nat) : va_W := [ob q 2 [.ref b1, .ref b2], ar G b1 800 (fun j => e9 (cv j)), ar G b2 800 (fun j => e9 (cm j))]
def wHs (G : kG) (y0 y1 y2 y3 y4 : Nat → Nat) (cs : Nat → Sg) : va_W := wS G (y0 0) (y1 0) (y2 0) (y3 0) (y4 0) (cs 0) ++ (wS G (y0 1) (y1 1) (y2 1) (y3 1) (y4 1) (cs 1) ++ (wS G (y0 2) (y1 2) (y2 2) (y3 2) (y4 2) (cs 2) ++ (wS G (y0 3) (y1 3) (y2 3) (y3 3) (y4 3) (cs 3) ++ wS G (y0 4) (y1 4) (y2 4) (y3 4) (y4 4) (cs 4))))
def wX (G : kG) (x g1 g2 g3 L pl nu np rr : Nat) (tx td tv : Nat → Nat) : va_W := [ob x 4 [.int (nI L), .ref g1, .int (nI pl), .int (nI nu), .int (nI np), .int (nI rr), .ref g2, .ref g3], arC G g1 100 (fun j => nI (tx j)), ar G g2 24 (fun j => nI (td j)), ar G g3 384 (fun j => nI (tv j))]
section RBL
variable {p : Program} {l : Launch} {e : Env} {R : Room} {s : State} {m : MethodId} {args : Array Value} {below : List Frame} {meth : Method} {c : Code} {H : Heap} {locs : List Loc} {cells slots : Nat} {Q : State → Prop} {cc : ByteArray} {pc : Nat} {ls : Array Slot} {rest : List Value}
variable {D : va_G} {cl : List vw_C} {A : Nat → Prop} {H0 : Heap}
variable {y : MethodName} {bytes : ByteArray} {maxL nL n index ci q0 : Nat} {ret : Option FieldType} {wsm ws' : List Cond} {rm : Room} {Ts : List Cond} {own C : String} {b : Addr} {As st0 : List Value} {G : kG} {wc : va_W} {free : Addr → Prop} {Qc : Array Value → State → Outcome → State → Prop} {mc ms : Nat} {bs bc : List va_W}
theorem k_W (hx : p.tables.exec = Jvm.exec) (hb : c.code = cc) (hml : c.maxLocals = nL) (hown : s.vm.findClass own = some m.cls) (hts : ∀ w ∈ Ts, w.before args s = true) (hM : Met l y wsm rm (cP G (.ref b :: As) wc) Qc mc ms free) (hG : GoodIn Ts (wsV own index C y wsm)) (hw : wsm = Cond.code y bytes maxL ret :: ws') (hrc : rm.cells = mc) (hrs : rm.slots = ms)
    (hd : y.cls = C ∧ y.cls ≠ "java/lang/invoke/MethodHandle" ∧ y.cls ≠ "java/lang/invoke/VarHandle" ∧ (parseMethodDescriptor y.desc).map (fun d => d.parameters.length) = some n) (hR : rm.frames + 1 ≤ R.frames ∧ 8 + (maxL + 11) + rm.locals ≤ R.locals) (hn : As.length = n)
    (hK : KK G s) (hP : va_P G.1 vwCl wc H) (hD : va_D A wc) {fs : List Value} {r : vw_C} (he : wc[q0]? = some (b, .inr (ci, fs))) (hc : vwCl[ci]? = some r) (hrC : r.1 = C) (hsz : ls.size = nL) (hst : st0 = As.reverse ++ .ref b :: rest) (hroom : (rest.map fun v => v.category).sum ≤ 8) (hdg : decode cc pc = .ok (.invokevirtual index, 3)) (hcs : cells + mc ≤ R.cells ∧ slots + ms ≤ R.slots) :
    va_Run p l e R s m args below meth c H locs cells slots mc ms (F0 m pc ls st0) rest (Qc (Value.ref b :: As).toArray) free :=
  va_runV (As := As) (rest := rest) ⟨hx, hb, hml, hown, hts⟩ hM (cwV n hts hG hw hrc hrs hd hR) ⟨cP_blind, k_recv hK hP he hc hrC, fun U hU hW => ⟨rfl, by rw [hU]; exact hP, hK.warm hW, hD.weaken (fun _ _ _ _ => trivial)⟩⟩ rfl hn hsz hst (lv_room hroom) hdg hcs
theorem g_VB {B : Heap → Prop} {av : Array Value} (hr : va_Run p l e R s m args below meth c H locs cells slots 0 0 (F0 m pc ls st0) rest (qV B (mA (bl bc)) av) (mA (bl bc))) (hP : va_P D cl (bl bs) H) (hD : va_D A (bl bs)) (hS : va_S A H0 H locs) (is : List Nat) (hn : va_nd is = true) (hC : is.map (fun i => bs[i]?) = bc.map some)
    (kk : ∀ (H1 : Heap) (locs1 : List Loc), B H1 → (∀ b1 : List va_W, b1.map (List.map (·.1)) = bc.map (List.map (·.1)) → va_P D cl (bl b1) H1 → va_P D cl (bl (bmg bs is b1)) H1 ∧ va_D A (bl (bmg bs is b1))) → va_S A H0 H1 locs1 → W p l e R s m args below meth c H1 locs1 cells slots Q (F0 m (pc + 3) ls rest)) : W p l e R s m args below meth c H locs cells slots Q (F0 m pc ls st0) := by
  intro T hT X
  obtain ⟨v, st₀, t, T', L, h0, X', hL, e1, e2, ⟨⟨hv, hb⟩, hz, hk⟩, st⟩ := hr T hT X
  cases hv
  rw [h0] at hz hk
  rw [← e1] at hz hk hb
  obtain ⟨t2, a1, b1⟩ := kk T'.heap (locs ++ L) hb (fun b1 ha hP1 => ⟨bmg_P hP hD hC ha hk hP1, bmg_D hD hC hn ha⟩) (g_S hS (bl_mA hD hn hC) hz hk hL) T' rfl X'
  exact ⟨t2, st t2 a1, b1⟩
theorem g_IB {B : Int32 → Heap → Prop} {av : Array Value} (hr : va_Run p l e R s m args below meth c H locs cells slots 0 0 (F0 m pc ls st0) rest (qI B (mA (bl bc)) av) (mA (bl bc))) (hP : va_P D cl (bl bs) H) (hD : va_D A (bl bs)) (hS : va_S A H0 H locs) (is : List Nat) (hn : va_nd is = true) (hC : is.map (fun i => bs[i]?) = bc.map some)
    (kk : ∀ (r : Int32) (H1 : Heap) (locs1 : List Loc), B r H1 → (∀ b1 : List va_W, b1.map (List.map (·.1)) = bc.map (List.map (·.1)) → va_P D cl (bl b1) H1 → va_P D cl (bl (bmg bs is b1)) H1 ∧ va_D A (bl (bmg bs is b1))) → va_S A H0 H1 locs1 → W p l e R s m args below meth c H1 locs1 cells slots Q (F0 m (pc + 3) ls (.int r :: rest))) : W p l e R s m args below meth c H locs cells slots Q (F0 m pc ls st0) := by
  intro T hT X
  obtain ⟨v, st₀, t, T', L, h0, X', hL, e1, e2, ⟨⟨r, hv, hb⟩, hz, hk⟩, st⟩ := hr T hT X
  cases hv
  rw [h0] at hz hk
  rw [← e1] at hz hk hb
  obtain ⟨t2, a1, b1⟩ := kk r T'.heap (locs ++ L) hb (fun b1 ha hP1 => ⟨bmg_P hP hD hC ha hk hP1, bmg_D hD hC hn ha⟩) (g_S hS (bl_mA hD hn hC) hz hk hL) T' rfl X'
  exact ⟨t2, st t2 a1, b1⟩
theorem g_RB {B : Nat → Heap → Prop} {av : Array Value} (hr : va_Run p l e R s m args below meth c H locs cells slots 0 0 (F0 m pc ls st0) rest (qR B (mA (bl bc)) av) (mA (bl bc))) (hP : va_P D cl (bl bs) H) (hD : va_D A (bl bs)) (hS : va_S A H0 H locs) (is : List Nat) (hn : va_nd is = true) (hC : is.map (fun i => bs[i]?) = bc.map some)
    (kk : ∀ (r : Nat) (H1 : Heap) (locs1 : List Loc), B r H1 → (∀ b1 : List va_W, b1.map (List.map (·.1)) = bc.map (List.map (·.1)) → va_P D cl (bl b1) H1 → va_P D cl (bl (bmg bs is b1)) H1 ∧ va_D A (bl (bmg bs is b1))) → va_S A H0 H1 locs1 → W p l e R s m args below meth c H1 locs1 cells slots Q (F0 m (pc + 3) ls (.ref r :: rest))) : W p l e R s m args below meth c H locs cells slots Q (F0 m pc ls st0) := by
  intro T hT X
  obtain ⟨v, st₀, t, T', L, h0, X', hL, e1, e2, ⟨⟨r, hv, hb⟩, hz, hk⟩, st⟩ := hr T hT X
  cases hv
  rw [h0] at hz hk
  rw [← e1] at hz hk hb
  obtain ⟨t2, a1, b1⟩ := kk r T'.heap (locs ++ L) hb (fun b1 ha hP1 => ⟨bmg_P hP hD hC ha hk hP1, bmg_D hD hC hn ha⟩) (g_S hS (bl_mA hD hn hC) hz hk hL) T' rfl X'
  exact ⟨t2, st t2 a1, b1⟩
end RBL
