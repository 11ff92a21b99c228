/-! my own layer over the kit's W: the world, the locals and the stack stand in the judgement itself -/
abbrev vwCl : List vw_C := [(RX0, TX0, 7), (RX1, TX1, 8), (RX2, TX2, 14), (RX3, TX3, 7), (RX4, TX4, 3), (RX5, TX5, 5), (RX6, TX6, 4), (RX7, TX7, 9), (RX8, TX8, 44)]
abbrev kyT (cI cS : ClassId) : List (ClassId × FieldType) := [(cI, .int), (cS, .object RX4)]
/-- what stays the same through a method's body -/
def kyC (p : Program) (s : State) (m : MethodId) (args : Array Value) (c : Code) (cc : ByteArray) (nL : Nat) (own : String) (Ts : List Cond) (D : va_G) (cI cS : ClassId) (A : Nat → Prop) : Prop :=
  p.tables.exec = Jvm.exec ∧ c.code = cc ∧ c.maxLocals = nL ∧ s.vm.findClass own = some m.cls ∧ (∀ w ∈ Ts, w.before args s = true) ∧ va_K D vwCl (kyT cI cS) s ∧ (∀ q : Nat, s.heap.size ≤ q → A q)
def kyW (p : Program) (l : Launch) (e : Env) (R : Room) (s : State) (m : MethodId) (args : Array Value) (below : List Frame) (meth : Method) (c : Code) (D : va_G) (A : Nat → Prop) (nL cells slots : Nat) (Q : State → Prop) (ws : va_W) (lv : List (Nat × Value)) (pc : Nat) (st : List Value) : Prop :=
  ∀ (H : Heap) (locs : List Loc) (ls : Array Slot), va_P D vwCl ws H → va_D A ws → va_S A s.heap H locs → lv_has ls nL lv → W p l e R s m args below meth c H locs cells slots Q (F0 m pc ls st)
/-- a contract: from the cells ws, with the arguments As, the method returns, and 'post' tells its answer and its cells behind it -/
def kyPre (D : va_G) (cI cS : ClassId) (sz : Nat) (ws : va_W) : State → Prop := fun U => U.heap.size = sz ∧ va_P D vwCl ws U.heap ∧ va_K D vwCl (kyT cI cS) U ∧ va_D (fun _ => True) ws
def kyQ (D : va_G) (cI cS : ClassId) (ws : va_W) (sz : Nat) (post : Option Value → va_W → Prop) : Array Value → State → Outcome → State → Prop := fun _ st oc t =>
  (∃ (v : Option Value) (w : va_W), oc = .returned v ∧ post v w ∧ ws.length ≤ w.length ∧ va_P D vwCl w t.heap ∧ va_D (va_A ws sz) w) ∧ va_F (va_A ws sz) st t
def kyM (l : Launch) (y : MethodName) (wsn : List Cond) (rm : Room) (D : va_G) (cI cS : ClassId) (As : List Value) (ws : va_W) (mc ms : Nat) (post : Option Value → va_W → Prop) : Prop :=
  ∀ sz : Nat, Met l y wsn rm (va_Pc As (kyPre D cI cS sz ws)) (kyQ D cI cS ws sz post) mc ms (va_A ws sz)
def kyE (D : va_G) (cI cS : ClassId) (below : List Frame) (args : Array Value) (s : State) (ws : va_W) (post : Option Value → va_W → Prop) (mc ms : Nat) : State → Prop :=
  MQ below (kyQ D cI cS ws s.heap.size post) args s mc ms (va_A ws s.heap.size)
/-- what the callee left at a place of the caller's -/
def kyPos (i : Nat) : List Nat → va_W → Option (Nat × va_E)
  | [], _ => none
  | _ :: _, [] => none
  | j :: js, x :: w => bif Nat.beq i j then some x else kyPos i js w
def kyMap : Nat → va_W → List Nat → va_W → va_W
  | _, [], _, _ => []
  | k, y :: ws, isC, w => (kyPos k isC w).getD y :: kyMap (k + 1) ws isC w
def kyRep (ws : va_W) (isC : List Nat) (w : va_W) : va_W := kyMap 0 ws isC w ++ w.drop isC.length
theorem kyPos_some {i : Nat} : ∀ {isC : List Nat} {w : va_W} {x : Nat × va_E}, kyPos i isC w = some x → ∃ j : Nat, isC[j]? = some i ∧ w[j]? = some x
  | [], _, _, h => by cases h
  | _ :: _, [], _, h => by cases h
  | j :: js, y :: w, x, h => by
    unfold kyPos at h
    cases hb : Nat.beq i j with
    | true =>
      rw [hb] at h
      have e : i = j := Nat.eq_of_beq_eq_true hb
      subst e
      cases h
      exact ⟨0, rfl, rfl⟩
    | false =>
      rw [hb] at h
      obtain ⟨k, h1, h2⟩ := kyPos_some (isC := js) (w := w) h
      exact ⟨k + 1, h1, h2⟩
theorem kyPos_none {i : Nat} : ∀ {isC : List Nat} {w : va_W}, kyPos i isC w = none → isC.length ≤ w.length → i ∉ isC
  | [], _, _, _ => List.not_mem_nil
  | _ :: _, [], _, hl => absurd hl (by simp)
  | j :: js, y :: w, h, hl => by
    unfold kyPos at h
    cases hb : Nat.beq i j with
    | true => rw [hb] at h; cases h
    | false =>
      rw [hb] at h
      have e : i ≠ j := Nat.ne_of_beq_eq_false hb
      have h2 := kyPos_none (isC := js) (w := w) h (by simpa using hl)
      intro hm
      rcases List.mem_cons.mp hm with q | q
      · exact e q
      · exact h2 q
theorem kyMap_len : ∀ (ws : va_W) (k : Nat) (isC : List Nat) (w : va_W), (kyMap k ws isC w).length = ws.length
  | [], _, _, _ => rfl
  | _ :: ws, k, isC, w => by simp [kyMap, kyMap_len ws (k + 1) isC w]
theorem kyMap_at : ∀ (ws : va_W) (k0 : Nat) (isC : List Nat) (w : va_W) (k : Nat) (q : Nat × va_E), (kyMap k0 ws isC w)[k]? = some q → ∃ y, ws[k]? = some y ∧ q = (kyPos (k0 + k) isC w).getD y
  | [], _, _, _, _, _, h => by cases h
  | y :: ws, k0, isC, w, 0, q, h => ⟨y, rfl, (Option.some.inj h).symm⟩
  | y :: ws, k0, isC, w, k + 1, q, h => by
    obtain ⟨z, h1, h2⟩ := kyMap_at ws (k0 + 1) isC w k q h
    exact ⟨z, h1, by rw [h2, show k0 + 1 + k = k0 + (k + 1) by omega]⟩
theorem kyRep_spec (isC : List Nat) (ws w1 : va_W) (_ : ∀ i ∈ isC, i < ws.length) (hlen : isC.length ≤ w1.length) (k : Nat) (q : Nat × va_E) (h : (kyRep ws isC w1)[k]? = some q) :
    (ws[k]? = some q ∧ k ∉ isC) ∨ ∃ j : Nat, w1[j]? = some q ∧ (isC[j]? = some k ∨ (isC.length ≤ j ∧ k = ws.length + (j - isC.length))) := by
  unfold kyRep at h
  rcases Nat.lt_or_ge k ws.length with hk | hk
  · rw [List.getElem?_append_left (by rw [kyMap_len]; exact hk)] at h
    obtain ⟨y, h1, h2⟩ := kyMap_at ws 0 isC w1 k q h
    rw [Nat.zero_add] at h2
    cases hp : kyPos k isC w1 with
    | none =>
      rw [hp] at h2
      exact Or.inl ⟨by rw [h1, h2]; rfl, kyPos_none hp hlen⟩
    | some x =>
      rw [hp] at h2
      obtain ⟨j, h3, h4⟩ := kyPos_some hp
      exact Or.inr ⟨j, by rw [h4, h2]; rfl, Or.inl h3⟩
  · rw [List.getElem?_append_right (by rw [kyMap_len]; exact hk), kyMap_len, List.getElem?_drop] at h
    exact Or.inr ⟨isC.length + (k - ws.length), h, Or.inr ⟨by omega, by omega⟩⟩
/-- behind a call: all cells of the caller -/
theorem kyRep_world {A0 : Nat → Prop} {D : va_G} {ws wc w1 : va_W} {H H1 : Heap} (hP : va_P D vwCl ws H) (hD : va_D A0 ws) (isC : List Nat) (hC : isC.map (fun i => ws[i]?) = wc.map some) (hlen : wc.length ≤ w1.length)
    (hk : ∀ q : Nat, q < H.size → ¬ va_A wc H.size q → H1[q]? = H[q]?) (hF : ∀ q, va_A wc H.size q → A0 q) (hP1 : va_P D vwCl w1 H1) (hD1 : va_D (va_A wc H.size) w1) : va_P D vwCl (kyRep ws isC w1) H1 ∧ va_D A0 (kyRep ws isC w1) := by
  have hl2 : isC.length = wc.length := by have := congrArg List.length hC; simpa using this
  have hi : ∀ i ∈ isC, i < ws.length := by
    intro i hi
    obtain ⟨k, hk⟩ := List.getElem?_of_mem hi
    have h1 : (isC.map (fun i => ws[i]?))[k]? = some (ws[i]?) := by rw [List.getElem?_map, hk]; rfl
    rw [hC, List.getElem?_map] at h1
    rcases Nat.lt_or_ge i ws.length with q | q
    · exact q
    · rw [List.getElem?_eq_none q] at h1
      cases hw : wc[k]? with
      | none => rw [hw] at h1; cases h1
      | some z => rw [hw] at h1; cases h1
  have inC : ∀ (k2 : Nat) (q : Nat × va_E), wc[k2]? = some q → ∃ i, isC[k2]? = some i ∧ ws[i]? = some q := by
    intro k2 q hq
    have h1 : (isC.map (fun i => ws[i]?))[k2]? = some (some q) := by rw [hC, List.getElem?_map, hq]; rfl
    rw [List.getElem?_map] at h1
    cases hi : isC[k2]? with
    | none => rw [hi] at h1; cases h1
    | some i => rw [hi] at h1; exact ⟨i, rfl, Option.some.inj h1⟩
  have apart : ∀ (k : Nat) (q : Nat × va_E), ws[k]? = some q → k ∉ isC → q.1 < H.size ∧ ¬ va_A wc H.size q.1 := by
    intro k q hq hn
    have hl := (hP k q hq).lt
    refine ⟨hl, fun h => ?_⟩
    rcases h with ⟨k2, e, h⟩ | h
    · obtain ⟨i, h3, h4⟩ := inC k2 (q.1, e) h
      have hij := hD.1 k i q (q.1, e) hq h4 rfl
      subst hij
      exact hn (List.mem_of_getElem? h3)
    · omega
  have sp := kyRep_spec isC ws w1 hi (by rw [hl2]; exact hlen)
  refine ⟨fun k q hq => ?_, fun i j x y hx hy hxy => ?_, fun k q hq => ?_⟩
  · rcases sp k q hq with ⟨h1, h2⟩ | ⟨j, h1, -⟩
    · obtain ⟨g1, g2⟩ := apart k q h1 h2
      exact (hP k q h1).kept (hk q.1 g1 g2)
    · exact hP1 j q h1
  · rcases sp i x hx with ⟨h1, h2⟩ | ⟨a, h1, h2⟩
    · rcases sp j y hy with ⟨h3, h4⟩ | ⟨b, h3, h4⟩
      · exact hD.1 i j x y h1 h3 hxy
      · exact absurd (hD1.2 b y h3) (by rw [← hxy]; exact (apart i x h1 h2).2)
    · rcases sp j y hy with ⟨h3, h4⟩ | ⟨b, h3, h4⟩
      · exact absurd (hD1.2 a x h1) (by rw [hxy]; exact (apart j y h3 h4).2)
      · have hab := hD1.1 a b x y h1 h3 hxy
        subst hab
        rcases h2 with h2 | ⟨h2, h5⟩
        · rcases h4 with h4 | ⟨h4, h6⟩
          · exact Option.some.inj (h2.symm.trans h4)
          · rw [List.getElem?_eq_none h4] at h2; cases h2
        · rcases h4 with h4 | ⟨h4, h6⟩
          · rw [List.getElem?_eq_none h2] at h4; cases h4
          · omega
  · rcases sp k q hq with ⟨h1, h2⟩ | ⟨j, h1, -⟩
    · exact hD.2 k q h1
    · exact hF _ (hD1.2 j q h1)
theorem kb0 {P : Prop} [Decidable P] (h : (if P then (1 : Int32) else 0) = 0) : ¬ P := fun q => by rw [if_pos q] at h; exact absurd h (by decide)
theorem kb1 {P : Prop} [Decidable P] (h : ¬ (if P then (1 : Int32) else 0) = 0) : P := by
  by_cases q : P
  · exact q
  · rw [if_neg q] at h; exact absurd rfl h
theorem kb_nar {P : Prop} [Decidable P] : narrow .boolean (.int (if P then (1 : Int32) else 0)) = .int (if P then (1 : Int32) else 0) := by by_cases q : P <;> simp only [q, if_true, if_false] <;> rfl
theorem kyBlind {As : List Value} {D : va_G} {cI cS : ClassId} {sz : Nat} {ws : va_W} : FrameBlind (va_Pc As (kyPre D cI cS sz ws)) := by
  intro a U g mk q
  obtain ⟨q0, q1, qP, qK, qD⟩ := q
  exact ⟨q0, q1, qP, va_K.moved (u := U) (U := U.calling g mk a) (Vm.Alike.refl U.vm) qK, qD⟩
theorem kySub {D : va_G} {ws wc : va_W} {H : Heap} (hP : va_P D vwCl ws H) (isC : List Nat) (hC : isC.map (fun i => ws[i]?) = wc.map some) : va_P D vwCl wc H := by
  intro k q hq
  have h1 : (isC.map (fun i => ws[i]?))[k]? = some (some q) := by rw [hC, List.getElem?_map, hq]; rfl
  rw [List.getElem?_map] at h1
  cases hi : isC[k]? with
  | none => rw [hi] at h1; cases h1
  | some i => rw [hi] at h1; exact hP i q (Option.some.inj h1)
section KY
variable {p : Program} {l : Launch} {e : Env} {R : Room} {s : State} {m : MethodId} {args : Array Value} {below : List Frame} {meth : Method} {c : Code}
variable {D : va_G} {cI cS : ClassId} {A : Nat → Prop} {nL cells slots : Nat} {Q : State → Prop} {cc : ByteArray} {own : String} {Ts : List Cond}
variable {ws : va_W} {lv : List (Nat × Value)} {pc : Nat} {st : List Value}

theorem ky_start {y : MethodName} {wsn wsn' : List Cond} {rm : Room} {ret : Option FieldType} {As : List Value} {ws0 : va_W} {mc ms : Nat} {post : Option Value → va_W → Prop} (hy : plainName y.cls = true) (hw : wsn = Cond.code y cc nL ret :: wsn') (hcls : y.cls = own) (hlen : (lg_sl As).length ≤ nL)
    (body : ∀ (p : Program) (e : Env) (s : State) (m : MethodId) (args : Array Value) (below : List Frame) (meth : Method) (c : Code), kyC p s m args c cc nL own wsn D cI cS (va_A ws0 s.heap.size) → meth.sig.returnType = ret → meth.locks = false → meth.name = y.name →
      kyW p l e rm s m args below meth c D (va_A ws0 s.heap.size) nL 0 0 (kyE D cI cS below args s ws0 post mc ms) ws0 (lv_args 0 As) 0 []) : kyM l y wsn rm D cI cS As ws0 mc ms post := by
  intro sz
  refine Met.ofW (cc := cc) (maxL := nL) (ret := ret) hy hw ?_
  intro p e s m args below meth c s₁ B hml hv
  obtain ⟨rfl, hsz, hP, hK, hD0⟩ := hv
  subst hsz
  have hown : s.vm.findClass own = some m.cls := hcls ▸ findClass_of_methodNamed B.named
  have C : kyC p s m As.toArray c cc nL own wsn D cI cS (va_A ws0 s.heap.size) := ⟨B.exec, B.bytes, hml, hown, atoms_spec (ws := wsn) B.pre, hK, fun q h => Or.inr h⟩
  have hk := body p e s m As.toArray below meth c C B.returns B.notSynchronized (name_of_methodNamed B.named B.method).1
  rw [lg_entry_eq]
  exact hk s.heap [] _ hP hD0.self va_S.rf (lv_entry As hlen)
theorem ky_conv {ws' : va_W} {lv' : List (Nat × Value)} {st' : List Value} (ks : List Nat) (hw : ws = ws') (hl : lv_pick lv ks = lv') (hs : st = st') (kk : kyW p l e R s m args below meth c D A nL cells slots Q ws' lv' pc st') : kyW p l e R s m args below meth c D A nL cells slots Q ws lv pc st := by
  subst hw; subst hs
  exact fun H locs ls hP hD hS h => kk H locs ls hP hD hS (lv_sub h ks hl)
theorem ky_ws {ws' : va_W} {st' : List Value} (hw : ws = ws') (hs : st = st') (kk : kyW p l e R s m args below meth c D A nL cells slots Q ws' lv pc st') : kyW p l e R s m args below meth c D A nL cells slots Q ws lv pc st := by
  subst hw; subst hs
  exact kk
theorem ky_widen {k n : Nat} (h1 : cells ≤ k) (h2 : slots ≤ n) (kk : kyW p l e R s m args below meth c D A nL k n Q ws lv pc st) : kyW p l e R s m args below meth c D A nL cells slots Q ws lv pc st :=
  fun H locs ls hP hD hS hl => W.widen h1 h2 (kk H locs ls hP hD hS hl)
theorem ky_top {v v' : Value} (hv : v = v') (kk : kyW p l e R s m args below meth c D A nL cells slots Q ws lv pc (v' :: st)) : kyW p l e R s m args below meth c D A nL cells slots Q ws lv pc (v :: st) := by
  subst hv
  exact kk
theorem ky_topi {x : Int32} (kk : ∀ y : Int32, y = x → kyW p l e R s m args below meth c D A nL cells slots Q ws lv pc (.int y :: st)) : kyW p l e R s m args below meth c D A nL cells slots Q ws lv pc (.int x :: st) := kk x rfl
/-- a loop (or, with μ = 0 and no use of ih, a place where roads meet) -/
theorem ky_loop {σ : Type} {Wf : σ → va_W} {Lf : σ → List (Nat × Value)} {Sf : σ → List Value} (I : σ → Prop) (μ : σ → Nat)
    (step : ∀ x, I x → (∀ y, μ y < μ x → I y → kyW p l e R s m args below meth c D A nL cells slots Q (Wf y) (Lf y) pc (Sf y)) → kyW p l e R s m args below meth c D A nL cells slots Q (Wf x) (Lf x) pc (Sf x)) (x : σ) (h : I x) : kyW p l e R s m args below meth c D A nL cells slots Q (Wf x) (Lf x) pc (Sf x) := by
  have key : ∀ (n : Nat) (x : σ), μ x < n → I x → kyW p l e R s m args below meth c D A nL cells slots Q (Wf x) (Lf x) pc (Sf x) := by
    intro n
    induction n with
    | zero => intro x hn _; exact absurd hn (Nat.not_lt_zero _)
    | succ n ih => intro x hn hI; exact step x hI (fun y hy hIy => ih y (by omega) hIy)
  exact key (μ x + 1) x (Nat.lt_succ_self _) h
theorem ky_join {σ : Type} {Wf : σ → va_W} {Lf : σ → List (Nat × Value)} {Sf : σ → List Value} (J : σ → Prop) (pcJ : Nat)
    (k : ∀ x, J x → kyW p l e R s m args below meth c D A nL cells slots Q (Wf x) (Lf x) pcJ (Sf x)) (main : (∀ x, J x → kyW p l e R s m args below meth c D A nL cells slots Q (Wf x) (Lf x) pcJ (Sf x)) → kyW p l e R s m args below meth c D A nL cells slots Q ws lv pc st) : kyW p l e R s m args below meth c D A nL cells slots Q ws lv pc st := main k
theorem ky_iconst (C : kyC p s m args c cc nL own Ts D cI cS A) {n : Int} {v : Int32} (hdg : decode cc pc = .ok (.iconst n, 1)) (hv : Int32.ofInt n = v) (kk : kyW p l e R s m args below meth c D A nL cells slots Q ws lv (pc + 1) (.int v :: st)) : kyW p l e R s m args below meth c D A nL cells slots Q ws lv pc st :=
  fun H locs ls hP hD hS hl => lv_iconst C.1 C.2.1 hdg hv (kk H locs ls hP hD hS hl)
theorem ky_bipush (C : kyC p s m args c cc nL own Ts D cI cS A) {n : Int} {v : Int32} (hdg : decode cc pc = .ok (.bipush n, 2)) (hv : (Int8.ofInt n).toInt32 = v) (kk : kyW p l e R s m args below meth c D A nL cells slots Q ws lv (pc + 2) (.int v :: st)) : kyW p l e R s m args below meth c D A nL cells slots Q ws lv pc st :=
  fun H locs ls hP hD hS hl => lv_bipush C.1 C.2.1 hdg hv (kk H locs ls hP hD hS hl)
theorem ky_sipush (C : kyC p s m args c cc nL own Ts D cI cS A) {n : Int} {v : Int32} (hdg : decode cc pc = .ok (.sipush n, 3)) (hv : (Int16.ofInt n).toInt32 = v) (kk : kyW p l e R s m args below meth c D A nL cells slots Q ws lv (pc + 3) (.int v :: st)) : kyW p l e R s m args below meth c D A nL cells slots Q ws lv pc st :=
  fun H locs ls hP hD hS hl => lv_sipush C.1 C.2.1 hdg hv (kk H locs ls hP hD hS hl)
theorem ky_lconst (C : kyC p s m args c cc nL own Ts D cI cS A) {n : Fin 2} {v : Int64} (hdg : decode cc pc = .ok (.lconst n, 1)) (hv : Int64.ofNat (n : Nat) = v) (kk : kyW p l e R s m args below meth c D A nL cells slots Q ws lv (pc + 1) (.long v :: st)) : kyW p l e R s m args below meth c D A nL cells slots Q ws lv pc st :=
  fun H locs ls hP hD hS hl => lv_lconst C.1 C.2.1 hdg hv (kk H locs ls hP hD hS hl)
theorem ky_ldc2 (C : kyC p s m args c cc nL own Ts D cI cS A) {index : Nat} {v : Int64} (hin : Jvm.Cond.constantLong own index v ∈ Ts) (hdg : decode cc pc = .ok (.ldc2_w index, 3)) (kk : kyW p l e R s m args below meth c D A nL cells slots Q ws lv (pc + 3) (.long v :: st)) : kyW p l e R s m args below meth c D A nL cells slots Q ws lv pc st :=
  fun H locs ls hP hD hS hl => lv_ldc2 C.1 C.2.1 C.2.2.2.1 (C.2.2.2.2.1 _ hin) hdg (kk H locs ls hP hD hS hl)
theorem ky_iload_n (C : kyC p s m args c cc nL own Ts D cI cS A) (j : Nat) {k : Fin 4} {i : Nat} {x : Int32} (hdg : decode cc pc = .ok (.iload_n k, 1)) (hi : (k : Nat) = i) (hj : lv[j]? = some (i, .int x)) (kk : kyW p l e R s m args below meth c D A nL cells slots Q ws lv (pc + 1) (.int x :: st)) : kyW p l e R s m args below meth c D A nL cells slots Q ws lv pc st :=
  fun H locs ls hP hD hS hl => lv_iload_n C.1 C.2.1 hdg hi (lv_at hl j hj) (kk H locs ls hP hD hS hl)
theorem ky_iload (C : kyC p s m args c cc nL own Ts D cI cS A) (j : Nat) {i : Nat} {x : Int32} (hdg : decode cc pc = .ok (.iload i, 2)) (hj : lv[j]? = some (i, .int x)) (kk : kyW p l e R s m args below meth c D A nL cells slots Q ws lv (pc + 2) (.int x :: st)) : kyW p l e R s m args below meth c D A nL cells slots Q ws lv pc st :=
  fun H locs ls hP hD hS hl => lv_iload C.1 C.2.1 hdg (lv_at hl j hj) (kk H locs ls hP hD hS hl)
theorem ky_lload_n (C : kyC p s m args c cc nL own Ts D cI cS A) (j : Nat) {k : Fin 4} {i : Nat} {x : Int64} (hdg : decode cc pc = .ok (.lload_n k, 1)) (hi : (k : Nat) = i) (hj : lv[j]? = some (i, .long x)) (kk : kyW p l e R s m args below meth c D A nL cells slots Q ws lv (pc + 1) (.long x :: st)) : kyW p l e R s m args below meth c D A nL cells slots Q ws lv pc st :=
  fun H locs ls hP hD hS hl => lv_lload_n C.1 C.2.1 hdg hi (lv_at hl j hj) (kk H locs ls hP hD hS hl)
theorem ky_lload (C : kyC p s m args c cc nL own Ts D cI cS A) (j : Nat) {i : Nat} {x : Int64} (hdg : decode cc pc = .ok (.lload i, 2)) (hj : lv[j]? = some (i, .long x)) (kk : kyW p l e R s m args below meth c D A nL cells slots Q ws lv (pc + 2) (.long x :: st)) : kyW p l e R s m args below meth c D A nL cells slots Q ws lv pc st :=
  fun H locs ls hP hD hS hl => lv_lload C.1 C.2.1 hdg (lv_at hl j hj) (kk H locs ls hP hD hS hl)
theorem ky_aload_n (C : kyC p s m args c cc nL own Ts D cI cS A) (j : Nat) {k : Fin 4} {i : Nat} {x : Nat} (hdg : decode cc pc = .ok (.aload_n k, 1)) (hi : (k : Nat) = i) (hj : lv[j]? = some (i, .ref x)) (kk : kyW p l e R s m args below meth c D A nL cells slots Q ws lv (pc + 1) (.ref x :: st)) : kyW p l e R s m args below meth c D A nL cells slots Q ws lv pc st :=
  fun H locs ls hP hD hS hl => lv_aload_n C.1 C.2.1 hdg hi (lv_at hl j hj) (kk H locs ls hP hD hS hl)
theorem ky_aload (C : kyC p s m args c cc nL own Ts D cI cS A) (j : Nat) {i : Nat} {x : Nat} (hdg : decode cc pc = .ok (.aload i, 2)) (hj : lv[j]? = some (i, .ref x)) (kk : kyW p l e R s m args below meth c D A nL cells slots Q ws lv (pc + 2) (.ref x :: st)) : kyW p l e R s m args below meth c D A nL cells slots Q ws lv pc st :=
  fun H locs ls hP hD hS hl => lv_aload C.1 C.2.1 hdg (lv_at hl j hj) (kk H locs ls hP hD hS hl)
theorem ky_istore_n (C : kyC p s m args c cc nL own Ts D cI cS A) {k : Fin 4} {i : Nat} {x : Int32} {lv' : List (Nat × Value)} (hdg : decode cc pc = .ok (.istore_n k, 1)) (hi : (k : Nat) = i) (hn : i < nL) (hl2 : (i, Value.int x) :: lv.filter (fun q => !(q.1 == i) && !(q.1 + 1 == i && q.2.category == 2)) = lv') (kk : kyW p l e R s m args below meth c D A nL cells slots Q ws lv' (pc + 1) st) : kyW p l e R s m args below meth c D A nL cells slots Q ws lv pc (.int x :: st) :=
  fun H locs ls hP hD hS hl => lv_istore_n C.1 C.2.1 hdg hi hl hn hl2 (fun ls hl => (kk H locs ls hP hD hS hl))
theorem ky_istore (C : kyC p s m args c cc nL own Ts D cI cS A) {i : Nat} {x : Int32} {lv' : List (Nat × Value)} (hdg : decode cc pc = .ok (.istore i, 2)) (hn : i < nL) (hl2 : (i, Value.int x) :: lv.filter (fun q => !(q.1 == i) && !(q.1 + 1 == i && q.2.category == 2)) = lv') (kk : kyW p l e R s m args below meth c D A nL cells slots Q ws lv' (pc + 2) st) : kyW p l e R s m args below meth c D A nL cells slots Q ws lv pc (.int x :: st) :=
  fun H locs ls hP hD hS hl => lv_istore C.1 C.2.1 hdg hl hn hl2 (fun ls hl => (kk H locs ls hP hD hS hl))
theorem ky_astore_n (C : kyC p s m args c cc nL own Ts D cI cS A) {k : Fin 4} {i : Nat} {x : Nat} {lv' : List (Nat × Value)} (hdg : decode cc pc = .ok (.astore_n k, 1)) (hi : (k : Nat) = i) (hn : i < nL) (hl2 : (i, Value.ref x) :: lv.filter (fun q => !(q.1 == i) && !(q.1 + 1 == i && q.2.category == 2)) = lv') (kk : kyW p l e R s m args below meth c D A nL cells slots Q ws lv' (pc + 1) st) : kyW p l e R s m args below meth c D A nL cells slots Q ws lv pc (.ref x :: st) :=
  fun H locs ls hP hD hS hl => lv_astore_n C.1 C.2.1 hdg hi hl hn hl2 (fun ls hl => (kk H locs ls hP hD hS hl))
theorem ky_astore (C : kyC p s m args c cc nL own Ts D cI cS A) {i : Nat} {x : Nat} {lv' : List (Nat × Value)} (hdg : decode cc pc = .ok (.astore i, 2)) (hn : i < nL) (hl2 : (i, Value.ref x) :: lv.filter (fun q => !(q.1 == i) && !(q.1 + 1 == i && q.2.category == 2)) = lv') (kk : kyW p l e R s m args below meth c D A nL cells slots Q ws lv' (pc + 2) st) : kyW p l e R s m args below meth c D A nL cells slots Q ws lv pc (.ref x :: st) :=
  fun H locs ls hP hD hS hl => lv_astore C.1 C.2.1 hdg hl hn hl2 (fun ls hl => (kk H locs ls hP hD hS hl))
theorem ky_lstore_n (C : kyC p s m args c cc nL own Ts D cI cS A) {k : Fin 4} {i : Nat} {x : Int64} {lv' : List (Nat × Value)} (hdg : decode cc pc = .ok (.lstore_n k, 1)) (hi : (k : Nat) = i) (hn : i + 1 < nL) (hl2 : (i, Value.long x) :: lv.filter (fun q => !(q.1 == i) && (!(q.1 == i + 1) && !(q.1 + 1 == i && q.2.category == 2))) = lv') (kk : kyW p l e R s m args below meth c D A nL cells slots Q ws lv' (pc + 1) st) : kyW p l e R s m args below meth c D A nL cells slots Q ws lv pc (.long x :: st) :=
  fun H locs ls hP hD hS hl => lv_lstore_n C.1 C.2.1 hdg hi hl hn hl2 (fun ls hl => (kk H locs ls hP hD hS hl))
theorem ky_lstore (C : kyC p s m args c cc nL own Ts D cI cS A) {i : Nat} {x : Int64} {lv' : List (Nat × Value)} (hdg : decode cc pc = .ok (.lstore i, 2)) (hn : i + 1 < nL) (hl2 : (i, Value.long x) :: lv.filter (fun q => !(q.1 == i) && (!(q.1 == i + 1) && !(q.1 + 1 == i && q.2.category == 2))) = lv') (kk : kyW p l e R s m args below meth c D A nL cells slots Q ws lv' (pc + 2) st) : kyW p l e R s m args below meth c D A nL cells slots Q ws lv pc (.long x :: st) :=
  fun H locs ls hP hD hS hl => lv_lstore C.1 C.2.1 hdg hl hn hl2 (fun ls hl => (kk H locs ls hP hD hS hl))
theorem ky_iinc (C : kyC p s m args c cc nL own Ts D cI cS A) (j : Nat) {i : Nat} {n : Int} {x v : Int32} {lv' : List (Nat × Value)} (hdg : decode cc pc = .ok (.iinc i n, 3)) (hk : lv[j]? = some (i, .int x)) (hv : x + Int32.ofInt n = v) (hn : i < nL) (hl2 : (i, Value.int v) :: lv.filter (fun q => !(q.1 == i) && !(q.1 + 1 == i && q.2.category == 2)) = lv') (kk : kyW p l e R s m args below meth c D A nL cells slots Q ws lv' (pc + 3) st) : kyW p l e R s m args below meth c D A nL cells slots Q ws lv pc st :=
  fun H locs ls hP hD hS hl => lv_iinc C.1 C.2.1 hdg hl hk hv hn hl2 (fun ls hl => (kk H locs ls hP hD hS hl))
theorem ky_iadd (C : kyC p s m args c cc nL own Ts D cI cS A) {x y v : Int32} (hdg : decode cc pc = .ok (.iadd, 1)) (hv : x + y = v) (kk : kyW p l e R s m args below meth c D A nL cells slots Q ws lv (pc + 1) (.int v :: st)) : kyW p l e R s m args below meth c D A nL cells slots Q ws lv pc (.int y :: .int x :: st) :=
  fun H locs ls hP hD hS hl => lv_iadd C.1 C.2.1 hdg (by rw [hv]; exact (kk H locs ls hP hD hS hl))
theorem ky_isub (C : kyC p s m args c cc nL own Ts D cI cS A) {x y v : Int32} (hdg : decode cc pc = .ok (.isub, 1)) (hv : x - y = v) (kk : kyW p l e R s m args below meth c D A nL cells slots Q ws lv (pc + 1) (.int v :: st)) : kyW p l e R s m args below meth c D A nL cells slots Q ws lv pc (.int y :: .int x :: st) :=
  fun H locs ls hP hD hS hl => lv_isub C.1 C.2.1 hdg (by rw [hv]; exact (kk H locs ls hP hD hS hl))
theorem ky_imul (C : kyC p s m args c cc nL own Ts D cI cS A) {x y v : Int32} (hdg : decode cc pc = .ok (.imul, 1)) (hv : x * y = v) (kk : kyW p l e R s m args below meth c D A nL cells slots Q ws lv (pc + 1) (.int v :: st)) : kyW p l e R s m args below meth c D A nL cells slots Q ws lv pc (.int y :: .int x :: st) :=
  fun H locs ls hP hD hS hl => lv_imul C.1 C.2.1 hdg (by rw [hv]; exact (kk H locs ls hP hD hS hl))
theorem ky_iand (C : kyC p s m args c cc nL own Ts D cI cS A) {x y v : Int32} (hdg : decode cc pc = .ok (.iand, 1)) (hv : x &&& y = v) (kk : kyW p l e R s m args below meth c D A nL cells slots Q ws lv (pc + 1) (.int v :: st)) : kyW p l e R s m args below meth c D A nL cells slots Q ws lv pc (.int y :: .int x :: st) :=
  fun H locs ls hP hD hS hl => lv_iand C.1 C.2.1 hdg (by rw [hv]; exact (kk H locs ls hP hD hS hl))
theorem ky_ior (C : kyC p s m args c cc nL own Ts D cI cS A) {x y v : Int32} (hdg : decode cc pc = .ok (.ior, 1)) (hv : x ||| y = v) (kk : kyW p l e R s m args below meth c D A nL cells slots Q ws lv (pc + 1) (.int v :: st)) : kyW p l e R s m args below meth c D A nL cells slots Q ws lv pc (.int y :: .int x :: st) :=
  fun H locs ls hP hD hS hl => lv_ior C.1 C.2.1 hdg (by rw [hv]; exact (kk H locs ls hP hD hS hl))
theorem ky_ixor (C : kyC p s m args c cc nL own Ts D cI cS A) {x y v : Int32} (hdg : decode cc pc = .ok (.ixor, 1)) (hv : x ^^^ y = v) (kk : kyW p l e R s m args below meth c D A nL cells slots Q ws lv (pc + 1) (.int v :: st)) : kyW p l e R s m args below meth c D A nL cells slots Q ws lv pc (.int y :: .int x :: st) :=
  fun H locs ls hP hD hS hl => lv_ixor C.1 C.2.1 hdg (by rw [hv]; exact (kk H locs ls hP hD hS hl))
theorem ky_idiv (C : kyC p s m args c cc nL own Ts D cI cS A) {x y v : Int32} (hdg : decode cc pc = .ok (.idiv, 1)) (hne : ¬ y = 0) (hv : x / y = v) (kk : kyW p l e R s m args below meth c D A nL cells slots Q ws lv (pc + 1) (.int v :: st)) : kyW p l e R s m args below meth c D A nL cells slots Q ws lv pc (.int y :: .int x :: st) :=
  fun H locs ls hP hD hS hl => lv_idiv C.1 C.2.1 hdg hne (by rw [hv]; exact (kk H locs ls hP hD hS hl))
theorem ky_irem (C : kyC p s m args c cc nL own Ts D cI cS A) {x y v : Int32} (hdg : decode cc pc = .ok (.irem, 1)) (hne : ¬ y = 0) (hv : x - x / y * y = v) (kk : kyW p l e R s m args below meth c D A nL cells slots Q ws lv (pc + 1) (.int v :: st)) : kyW p l e R s m args below meth c D A nL cells slots Q ws lv pc (.int y :: .int x :: st) :=
  fun H locs ls hP hD hS hl => lv_irem C.1 C.2.1 hdg hne (by rw [hv]; exact (kk H locs ls hP hD hS hl))
theorem ky_ishl (C : kyC p s m args c cc nL own Ts D cI cS A) {x y v : Int32} (hdg : decode cc pc = .ok (.ishl, 1)) (hv : x <<< (y &&& 31) = v) (kk : kyW p l e R s m args below meth c D A nL cells slots Q ws lv (pc + 1) (.int v :: st)) : kyW p l e R s m args below meth c D A nL cells slots Q ws lv pc (.int y :: .int x :: st) :=
  fun H locs ls hP hD hS hl => lv_ishl C.1 C.2.1 hdg (by rw [hv]; exact (kk H locs ls hP hD hS hl))
theorem ky_ishr (C : kyC p s m args c cc nL own Ts D cI cS A) {x y v : Int32} (hdg : decode cc pc = .ok (.ishr, 1)) (hv : x >>> (y &&& 31) = v) (kk : kyW p l e R s m args below meth c D A nL cells slots Q ws lv (pc + 1) (.int v :: st)) : kyW p l e R s m args below meth c D A nL cells slots Q ws lv pc (.int y :: .int x :: st) :=
  fun H locs ls hP hD hS hl => lv_ishr C.1 C.2.1 hdg (by rw [hv]; exact (kk H locs ls hP hD hS hl))
theorem ky_ladd (C : kyC p s m args c cc nL own Ts D cI cS A) {x y v : Int64} (hdg : decode cc pc = .ok (.ladd, 1)) (hv : x + y = v) (kk : kyW p l e R s m args below meth c D A nL cells slots Q ws lv (pc + 1) (.long v :: st)) : kyW p l e R s m args below meth c D A nL cells slots Q ws lv pc (.long y :: .long x :: st) :=
  fun H locs ls hP hD hS hl => lv_ladd C.1 C.2.1 hdg (by rw [hv]; exact (kk H locs ls hP hD hS hl))
theorem ky_lsub (C : kyC p s m args c cc nL own Ts D cI cS A) {x y v : Int64} (hdg : decode cc pc = .ok (.lsub, 1)) (hv : x - y = v) (kk : kyW p l e R s m args below meth c D A nL cells slots Q ws lv (pc + 1) (.long v :: st)) : kyW p l e R s m args below meth c D A nL cells slots Q ws lv pc (.long y :: .long x :: st) :=
  fun H locs ls hP hD hS hl => lv_lsub C.1 C.2.1 hdg (by rw [hv]; exact (kk H locs ls hP hD hS hl))
theorem ky_lmul (C : kyC p s m args c cc nL own Ts D cI cS A) {x y v : Int64} (hdg : decode cc pc = .ok (.lmul, 1)) (hv : x * y = v) (kk : kyW p l e R s m args below meth c D A nL cells slots Q ws lv (pc + 1) (.long v :: st)) : kyW p l e R s m args below meth c D A nL cells slots Q ws lv pc (.long y :: .long x :: st) :=
  fun H locs ls hP hD hS hl => lv_lmul C.1 C.2.1 hdg (by rw [hv]; exact (kk H locs ls hP hD hS hl))
theorem ky_ldiv (C : kyC p s m args c cc nL own Ts D cI cS A) {x y v : Int64} (hdg : decode cc pc = .ok (.ldiv, 1)) (hne : ¬ y = 0) (hv : x / y = v) (kk : kyW p l e R s m args below meth c D A nL cells slots Q ws lv (pc + 1) (.long v :: st)) : kyW p l e R s m args below meth c D A nL cells slots Q ws lv pc (.long y :: .long x :: st) :=
  fun H locs ls hP hD hS hl => lv_ldiv C.1 C.2.1 hdg hne (by rw [hv]; exact (kk H locs ls hP hD hS hl))
theorem ky_lrem (C : kyC p s m args c cc nL own Ts D cI cS A) {x y v : Int64} (hdg : decode cc pc = .ok (.lrem, 1)) (hne : ¬ y = 0) (hv : x - x / y * y = v) (kk : kyW p l e R s m args below meth c D A nL cells slots Q ws lv (pc + 1) (.long v :: st)) : kyW p l e R s m args below meth c D A nL cells slots Q ws lv pc (.long y :: .long x :: st) :=
  fun H locs ls hP hD hS hl => lv_lrem C.1 C.2.1 hdg hne (by rw [hv]; exact (kk H locs ls hP hD hS hl))
theorem ky_ineg (C : kyC p s m args c cc nL own Ts D cI cS A) {x v : Int32} (hdg : decode cc pc = .ok (.ineg, 1)) (hv : -x = v) (kk : kyW p l e R s m args below meth c D A nL cells slots Q ws lv (pc + 1) (.int v :: st)) : kyW p l e R s m args below meth c D A nL cells slots Q ws lv pc (.int x :: st) :=
  fun H locs ls hP hD hS hl => lv_ineg C.1 C.2.1 hdg (by rw [hv]; exact (kk H locs ls hP hD hS hl))
theorem ky_lcmp (C : kyC p s m args c cc nL own Ts D cI cS A) {x y : Int64} {v : Int32} (hdg : decode cc pc = .ok (.lcmp, 1)) (hv : lg_cmp x y = v) (kk : kyW p l e R s m args below meth c D A nL cells slots Q ws lv (pc + 1) (.int v :: st)) : kyW p l e R s m args below meth c D A nL cells slots Q ws lv pc (.long y :: .long x :: st) :=
  fun H locs ls hP hD hS hl => W.lcmp C.1 C.2.1 hdg (by rw [hv]; exact (kk H locs ls hP hD hS hl))
theorem ky_i2l (C : kyC p s m args c cc nL own Ts D cI cS A) {x : Int32} {v : Int64} (hdg : decode cc pc = .ok (.i2l, 1)) (hv : x.toInt64 = v) (kk : kyW p l e R s m args below meth c D A nL cells slots Q ws lv (pc + 1) (.long v :: st)) : kyW p l e R s m args below meth c D A nL cells slots Q ws lv pc (.int x :: st) :=
  fun H locs ls hP hD hS hl => lv_i2l C.1 C.2.1 hdg hv (kk H locs ls hP hD hS hl)
theorem ky_i2b (C : kyC p s m args c cc nL own Ts D cI cS A) {x v : Int32} (hdg : decode cc pc = .ok (.i2b, 1)) (hv : x.toInt8.toInt32 = v) (kk : kyW p l e R s m args below meth c D A nL cells slots Q ws lv (pc + 1) (.int v :: st)) : kyW p l e R s m args below meth c D A nL cells slots Q ws lv pc (.int x :: st) :=
  fun H locs ls hP hD hS hl => lv_i2b C.1 C.2.1 hdg hv (kk H locs ls hP hD hS hl)
theorem ky_i2s (C : kyC p s m args c cc nL own Ts D cI cS A) {x v : Int32} (hdg : decode cc pc = .ok (.i2s, 1)) (hv : x.toInt16.toInt32 = v) (kk : kyW p l e R s m args below meth c D A nL cells slots Q ws lv (pc + 1) (.int v :: st)) : kyW p l e R s m args below meth c D A nL cells slots Q ws lv pc (.int x :: st) :=
  fun H locs ls hP hD hS hl => lv_i2s C.1 C.2.1 hdg hv (kk H locs ls hP hD hS hl)
theorem ky_dup (C : kyC p s m args c cc nL own Ts D cI cS A) {va : Value} (hdg : decode cc pc = .ok (.dup, 1)) (hva : va.category = 1) (kk : kyW p l e R s m args below meth c D A nL cells slots Q ws lv (pc + 1) (va :: va :: st)) : kyW p l e R s m args below meth c D A nL cells slots Q ws lv pc (va :: st) :=
  fun H locs ls hP hD hS hl => lv_dup C.1 C.2.1 hdg hva (kk H locs ls hP hD hS hl)
theorem ky_dup2 (C : kyC p s m args c cc nL own Ts D cI cS A) {va vb : Value} (hdg : decode cc pc = .ok (.dup2, 1)) (hva : va.category = 1) (hvb : vb.category = 1) (kk : kyW p l e R s m args below meth c D A nL cells slots Q ws lv (pc + 1) (va :: vb :: va :: vb :: st)) : kyW p l e R s m args below meth c D A nL cells slots Q ws lv pc (va :: vb :: st) :=
  fun H locs ls hP hD hS hl => lv_dup2_11 C.1 C.2.1 hdg hva hvb (kk H locs ls hP hD hS hl)
theorem ky_goto (C : kyC p s m args c cc nL own Ts D cI cS A) {off : Int} {tgt : Nat} (hdg : decode cc pc = .ok (.goto off, 3)) (ht : (pc : Int) + off = (tgt : Int)) (kk : kyW p l e R s m args below meth c D A nL cells slots Q ws lv tgt st) : kyW p l e R s m args below meth c D A nL cells slots Q ws lv pc st :=
  fun H locs ls hP hD hS hl => lv_goto C.1 C.2.1 hdg ht (kk H locs ls hP hD hS hl)
theorem ky_if_eq (C : kyC p s m args c cc nL own Ts D cI cS A) {x : Int32} {off : Int} (tgt : Nat) (hdg : decode cc pc = .ok (.ifCond .eq off, 3)) (ht : (pc : Int) + off = (tgt : Int)) (kt : x = 0 → kyW p l e R s m args below meth c D A nL cells slots Q ws lv tgt st) (kf : ¬ x = 0 → kyW p l e R s m args below meth c D A nL cells slots Q ws lv (pc + 3) st) : kyW p l e R s m args below meth c D A nL cells slots Q ws lv pc (.int x :: st) :=
  fun H locs ls hP hD hS hl => lv_if_eq C.1 C.2.1 hdg ht (fun q => kt q H locs ls hP hD hS hl) (fun q => kf q H locs ls hP hD hS hl)
theorem ky_if_ne (C : kyC p s m args c cc nL own Ts D cI cS A) {x : Int32} {off : Int} (tgt : Nat) (hdg : decode cc pc = .ok (.ifCond .ne off, 3)) (ht : (pc : Int) + off = (tgt : Int)) (kt : ¬ x = 0 → kyW p l e R s m args below meth c D A nL cells slots Q ws lv tgt st) (kf : x = 0 → kyW p l e R s m args below meth c D A nL cells slots Q ws lv (pc + 3) st) : kyW p l e R s m args below meth c D A nL cells slots Q ws lv pc (.int x :: st) :=
  fun H locs ls hP hD hS hl => lv_if_ne C.1 C.2.1 hdg ht (fun q => kt q H locs ls hP hD hS hl) (fun q => kf q H locs ls hP hD hS hl)
theorem ky_if_lt (C : kyC p s m args c cc nL own Ts D cI cS A) {x : Int32} {off : Int} (tgt : Nat) (hdg : decode cc pc = .ok (.ifCond .lt off, 3)) (ht : (pc : Int) + off = (tgt : Int)) (kt : x < 0 → kyW p l e R s m args below meth c D A nL cells slots Q ws lv tgt st) (kf : ¬ x < 0 → kyW p l e R s m args below meth c D A nL cells slots Q ws lv (pc + 3) st) : kyW p l e R s m args below meth c D A nL cells slots Q ws lv pc (.int x :: st) :=
  fun H locs ls hP hD hS hl => lv_if_lt C.1 C.2.1 hdg ht (fun q => kt q H locs ls hP hD hS hl) (fun q => kf q H locs ls hP hD hS hl)
theorem ky_if_ge (C : kyC p s m args c cc nL own Ts D cI cS A) {x : Int32} {off : Int} (tgt : Nat) (hdg : decode cc pc = .ok (.ifCond .ge off, 3)) (ht : (pc : Int) + off = (tgt : Int)) (kt : 0 ≤ x → kyW p l e R s m args below meth c D A nL cells slots Q ws lv tgt st) (kf : ¬ 0 ≤ x → kyW p l e R s m args below meth c D A nL cells slots Q ws lv (pc + 3) st) : kyW p l e R s m args below meth c D A nL cells slots Q ws lv pc (.int x :: st) :=
  fun H locs ls hP hD hS hl => lv_if_ge C.1 C.2.1 hdg ht (fun q => kt q H locs ls hP hD hS hl) (fun q => kf q H locs ls hP hD hS hl)
theorem ky_if_gt (C : kyC p s m args c cc nL own Ts D cI cS A) {x : Int32} {off : Int} (tgt : Nat) (hdg : decode cc pc = .ok (.ifCond .gt off, 3)) (ht : (pc : Int) + off = (tgt : Int)) (kt : 0 < x → kyW p l e R s m args below meth c D A nL cells slots Q ws lv tgt st) (kf : ¬ 0 < x → kyW p l e R s m args below meth c D A nL cells slots Q ws lv (pc + 3) st) : kyW p l e R s m args below meth c D A nL cells slots Q ws lv pc (.int x :: st) :=
  fun H locs ls hP hD hS hl => lv_if_gt C.1 C.2.1 hdg ht (fun q => kt q H locs ls hP hD hS hl) (fun q => kf q H locs ls hP hD hS hl)
theorem ky_if_le (C : kyC p s m args c cc nL own Ts D cI cS A) {x : Int32} {off : Int} (tgt : Nat) (hdg : decode cc pc = .ok (.ifCond .le off, 3)) (ht : (pc : Int) + off = (tgt : Int)) (kt : x ≤ 0 → kyW p l e R s m args below meth c D A nL cells slots Q ws lv tgt st) (kf : ¬ x ≤ 0 → kyW p l e R s m args below meth c D A nL cells slots Q ws lv (pc + 3) st) : kyW p l e R s m args below meth c D A nL cells slots Q ws lv pc (.int x :: st) :=
  fun H locs ls hP hD hS hl => lv_if_le C.1 C.2.1 hdg ht (fun q => kt q H locs ls hP hD hS hl) (fun q => kf q H locs ls hP hD hS hl)
theorem ky_icmp_eq (C : kyC p s m args c cc nL own Ts D cI cS A) {x y : Int32} {off : Int} (tgt : Nat) (hdg : decode cc pc = .ok (.if_icmp .eq off, 3)) (ht : (pc : Int) + off = (tgt : Int)) (kt : x = y → kyW p l e R s m args below meth c D A nL cells slots Q ws lv tgt st) (kf : ¬ x = y → kyW p l e R s m args below meth c D A nL cells slots Q ws lv (pc + 3) st) : kyW p l e R s m args below meth c D A nL cells slots Q ws lv pc (.int y :: .int x :: st) :=
  fun H locs ls hP hD hS hl => lv_icmp_eq C.1 C.2.1 hdg ht (fun q => kt q H locs ls hP hD hS hl) (fun q => kf q H locs ls hP hD hS hl)
theorem ky_icmp_ne (C : kyC p s m args c cc nL own Ts D cI cS A) {x y : Int32} {off : Int} (tgt : Nat) (hdg : decode cc pc = .ok (.if_icmp .ne off, 3)) (ht : (pc : Int) + off = (tgt : Int)) (kt : ¬ x = y → kyW p l e R s m args below meth c D A nL cells slots Q ws lv tgt st) (kf : x = y → kyW p l e R s m args below meth c D A nL cells slots Q ws lv (pc + 3) st) : kyW p l e R s m args below meth c D A nL cells slots Q ws lv pc (.int y :: .int x :: st) :=
  fun H locs ls hP hD hS hl => lv_icmp_ne C.1 C.2.1 hdg ht (fun q => kt q H locs ls hP hD hS hl) (fun q => kf q H locs ls hP hD hS hl)
theorem ky_icmp_lt (C : kyC p s m args c cc nL own Ts D cI cS A) {x y : Int32} {off : Int} (tgt : Nat) (hdg : decode cc pc = .ok (.if_icmp .lt off, 3)) (ht : (pc : Int) + off = (tgt : Int)) (kt : x < y → kyW p l e R s m args below meth c D A nL cells slots Q ws lv tgt st) (kf : ¬ x < y → kyW p l e R s m args below meth c D A nL cells slots Q ws lv (pc + 3) st) : kyW p l e R s m args below meth c D A nL cells slots Q ws lv pc (.int y :: .int x :: st) :=
  fun H locs ls hP hD hS hl => lv_icmp_lt C.1 C.2.1 hdg ht (fun q => kt q H locs ls hP hD hS hl) (fun q => kf q H locs ls hP hD hS hl)
theorem ky_icmp_ge (C : kyC p s m args c cc nL own Ts D cI cS A) {x y : Int32} {off : Int} (tgt : Nat) (hdg : decode cc pc = .ok (.if_icmp .ge off, 3)) (ht : (pc : Int) + off = (tgt : Int)) (kt : y ≤ x → kyW p l e R s m args below meth c D A nL cells slots Q ws lv tgt st) (kf : ¬ y ≤ x → kyW p l e R s m args below meth c D A nL cells slots Q ws lv (pc + 3) st) : kyW p l e R s m args below meth c D A nL cells slots Q ws lv pc (.int y :: .int x :: st) :=
  fun H locs ls hP hD hS hl => lv_icmp_ge C.1 C.2.1 hdg ht (fun q => kt q H locs ls hP hD hS hl) (fun q => kf q H locs ls hP hD hS hl)
theorem ky_icmp_gt (C : kyC p s m args c cc nL own Ts D cI cS A) {x y : Int32} {off : Int} (tgt : Nat) (hdg : decode cc pc = .ok (.if_icmp .gt off, 3)) (ht : (pc : Int) + off = (tgt : Int)) (kt : y < x → kyW p l e R s m args below meth c D A nL cells slots Q ws lv tgt st) (kf : ¬ y < x → kyW p l e R s m args below meth c D A nL cells slots Q ws lv (pc + 3) st) : kyW p l e R s m args below meth c D A nL cells slots Q ws lv pc (.int y :: .int x :: st) :=
  fun H locs ls hP hD hS hl => lv_icmp_gt C.1 C.2.1 hdg ht (fun q => kt q H locs ls hP hD hS hl) (fun q => kf q H locs ls hP hD hS hl)
theorem ky_icmp_le (C : kyC p s m args c cc nL own Ts D cI cS A) {x y : Int32} {off : Int} (tgt : Nat) (hdg : decode cc pc = .ok (.if_icmp .le off, 3)) (ht : (pc : Int) + off = (tgt : Int)) (kt : x ≤ y → kyW p l e R s m args below meth c D A nL cells slots Q ws lv tgt st) (kf : ¬ x ≤ y → kyW p l e R s m args below meth c D A nL cells slots Q ws lv (pc + 3) st) : kyW p l e R s m args below meth c D A nL cells slots Q ws lv pc (.int y :: .int x :: st) :=
  fun H locs ls hP hD hS hl => lv_icmp_le C.1 C.2.1 hdg ht (fun q => kt q H locs ls hP hD hS hl) (fun q => kf q H locs ls hP hD hS hl)
theorem ky_tableOut (C : kyC p s m args c cc nL own Ts D cI cS A) {dflt lo hi : Int} {offs : Array Int} {len : Nat} {x : Int32} (tgt : Nat) (hdg : decode cc pc = .ok (.tableswitch dflt lo hi offs, len)) (h : x.toInt < lo ∨ hi < x.toInt) (ht : (pc : Int) + dflt = (tgt : Int)) (kk : kyW p l e R s m args below meth c D A nL cells slots Q ws lv tgt st) : kyW p l e R s m args below meth c D A nL cells slots Q ws lv pc (.int x :: st) :=
  fun H locs ls hP hD hS hl => lv_tableOut C.1 C.2.1 hdg h ht (kk H locs ls hP hD hS hl)
theorem ky_tableIn (C : kyC p s m args c cc nL own Ts D cI cS A) {dflt lo hi : Int} {offs : Array Int} {len : Nat} {x : Int32} {off : Int} (tgt : Nat) (hdg : decode cc pc = .ok (.tableswitch dflt lo hi offs, len)) (h1 : ¬ x.toInt < lo) (h2 : ¬ hi < x.toInt) (ho : offs[(x.toInt - lo).toNat]? = some off) (ht : (pc : Int) + off = (tgt : Int)) (kk : kyW p l e R s m args below meth c D A nL cells slots Q ws lv tgt st) : kyW p l e R s m args below meth c D A nL cells slots Q ws lv pc (.int x :: st) :=
  fun H locs ls hP hD hS hl => lv_tableIn C.1 C.2.1 hdg h1 h2 ho ht (kk H locs ls hP hD hS hl)
theorem ky_lookup (C : kyC p s m args c cc nL own Ts D cI cS A) {dflt : Int} {ps : Array (Int × Int)} {len : Nat} {x : Int32} {off : Int} (tgt : Nat) (hdg : decode cc pc = .ok (.lookupswitch dflt ps, len)) (hp : (ps.toList.zip (ps.toList.drop 1)).all (fun (a, next) => a.1 < next.1) = true) (ho : Op.lookupswitch.offset ps.toList dflt x.toInt = off) (ht : (pc : Int) + off = (tgt : Int)) (kk : kyW p l e R s m args below meth c D A nL cells slots Q ws lv tgt st) : kyW p l e R s m args below meth c D A nL cells slots Q ws lv pc (.int x :: st) :=
  fun H locs ls hP hD hS hl => lv_lookup C.1 C.2.1 hdg hp ho ht (kk H locs ls hP hD hS hl)
theorem ky_get (C : kyC p s m args c cc nL own Ts D cI cS A) {ref Cn : String} {T : u_T} {N ci index a : Nat} (hin : ∀ w ∈ u_ws Cn T N, w ∈ Ts) (q0 : Nat) {fs : List Value} (he : ws[q0]? = some (a, .inr (ci, fs))) (hc : vwCl[ci]? = some (Cn, T, N)) (k : Nat) (hk : k < N) (hlink : Cond.fieldLink own index ref (T k).2.1 (T k).2.2.1 ∈ Ts) (hsame : (T k).1 = ref) {v : Value} (hv : fs[k]? = some v) (hdg : decode cc pc = .ok (.getfield index, 3))
    (kk : kyW p l e R s m args below meth c D A nL cells slots Q ws lv (pc + 3) (v :: st)) : kyW p l e R s m args below meth c D A nL cells slots Q ws lv pc (.ref a :: st) :=
  fun H locs ls hP hD hS hl => va_get C.1 C.2.1 C.2.2.2.2.1 hin C.2.2.2.1 C.2.2.2.2.2.1 hP q0 he hc k hk (C.2.2.2.2.1 _ hlink) (fun x h => by rw [← hsame]; exact h) hv hdg (kk H locs ls hP hD hS hl)
theorem ky_put (C : kyC p s m args c cc nL own Ts D cI cS A) {ref Cn : String} {T : u_T} {N ci index a : Nat} (hin : ∀ w ∈ u_ws Cn T N, w ∈ Ts) (ty0 : Nat → FieldType) (hty : ∀ k, k < N → parseFieldDescriptor (T k).2.2.1 = some (ty0 k)) (hnm : ∀ a, a < N → ∀ b, b < N → a ≠ b → (T a).2.1 ≠ (T b).2.1) (q0 : Nat) {fs : List Value} (he : ws[q0]? = some (a, .inr (ci, fs))) (hc : vwCl[ci]? = some (Cn, T, N)) (k : Nat) (hk : k < N) (hlink : Cond.fieldLink own index ref (T k).2.1 (T k).2.2.1 ∈ Ts) (hsame : (T k).1 = ref) (hfin : (T k).2.2.2 = false) {v : Value} (hn : narrow (ty0 k) v = v) (hfit : fits (ty0 k) v = true) (hl0 : k < fs.length) (hdg : decode cc pc = .ok (.putfield index, 3)) {ws' : va_W} (hw : ws.set q0 (a, .inr (ci, fs.set k v)) = ws')
    (kk : kyW p l e R s m args below meth c D A nL cells slots Q ws' lv (pc + 3) st) : kyW p l e R s m args below meth c D A nL cells slots Q ws lv pc (v :: .ref a :: st) :=
  fun H locs ls hP hD hS hl => va_put C.1 C.2.1 C.2.2.2.2.1 hin ty0 hty hnm C.2.2.2.1 C.2.2.2.2.2.1 hP hD hS q0 he hc k hk (C.2.2.2.2.1 _ hlink) (fun x h => by rw [← hsame]; exact h) hfin (hty k hk) hn hfit hl0 hdg (fun H1 locs1 hP1 hD1 hS1 => kk H1 locs1 ls (hw ▸ hP1) (hw ▸ hD1) hS1 hl)
theorem ky_putF (C : kyC p s m args c cc nL own Ts D cI cS A) {ref Cn : String} {T : u_T} {N ci index a : Nat} (hin : ∀ w ∈ u_ws Cn T N, w ∈ Ts) (ty0 : Nat → FieldType) (hty : ∀ k, k < N → parseFieldDescriptor (T k).2.2.1 = some (ty0 k)) (hnm : ∀ a, a < N → ∀ b, b < N → a ≠ b → (T a).2.1 ≠ (T b).2.1) (q0 : Nat) {fs : List Value} (he : ws[q0]? = some (a, .inr (ci, fs))) (hc : vwCl[ci]? = some (Cn, T, N)) (k : Nat) (hk : k < N) (hlink : Cond.fieldLink own index ref (T k).2.1 (T k).2.2.1 ∈ Ts) (hsame : (T k).1 = ref) (hfin : (T k).2.2.2 = true) (hin2 : meth.name = "<init>") (hdecl : (T k).1 = own) {v : Value} (hn : narrow (ty0 k) v = v) (hfit : fits (ty0 k) v = true) (hl0 : k < fs.length) (hdg : decode cc pc = .ok (.putfield index, 3)) {ws' : va_W} (hw : ws.set q0 (a, .inr (ci, fs.set k v)) = ws')
    (kk : kyW p l e R s m args below meth c D A nL cells slots Q ws' lv (pc + 3) st) : kyW p l e R s m args below meth c D A nL cells slots Q ws lv pc (v :: .ref a :: st) :=
  fun H locs ls hP hD hS hl => va_putF C.1 C.2.1 C.2.2.2.2.1 hin ty0 hty hnm C.2.2.2.1 C.2.2.2.2.2.1 hP hD hS q0 he hc k hk (C.2.2.2.2.1 _ hlink) (fun x h => by rw [← hsame]; exact h) hfin hin2 hdecl (hty k hk) hn hfit hl0 hdg (fun H1 locs1 hP1 hD1 hS1 => kk H1 locs1 ls (hw ▸ hP1) (hw ▸ hD1) hS1 hl)
theorem ky_iald (C : kyC p s m args c cc nL own Ts D cI cS A) (q0 : Nat) {a n : Nat} {f : Nat → Int32} {i v : Int32} (ha : ws[q0]? = some (a, .inl (cI, n, .inl f))) (hin : vp_in i n) (hdg : decode cc pc = .ok (.iaload, 1)) (hv : f i.toNatClampNeg = v)
    (kk : kyW p l e R s m args below meth c D A nL cells slots Q ws lv (pc + 1) (.int v :: st)) : kyW p l e R s m args below meth c D A nL cells slots Q ws lv pc (.int i :: .ref a :: st) :=
  fun H locs ls hP hD hS hl => va_iald C.1 C.2.1 C.2.2.2.2.2.1 hP q0 0 ha rfl hin hdg (by rw [hv]; exact kk H locs ls hP hD hS hl)
theorem ky_ialdN (C : kyC p s m args c cc nL own Ts D cI cS A) (q0 : Nat) {a n k : Nat} {f : Nat → Int32} {v : Int32} (ha : ws[q0]? = some (a, .inl (cI, n, .inl f))) (hk : k < n) (hn : n < 2 ^ 31) (hdg : decode cc pc = .ok (.iaload, 1)) (hv : f k = v)
    (kk : kyW p l e R s m args below meth c D A nL cells slots Q ws lv (pc + 1) (.int v :: st)) : kyW p l e R s m args below meth c D A nL cells slots Q ws lv pc (.int (nI k) :: .ref a :: st) :=
  ky_iald C q0 ha (vp_in_nI hk hn) hdg (by rw [nI_clamp (Nat.lt_trans hk hn)]; exact hv) kk
theorem ky_iast (C : kyC p s m args c cc nL own Ts D cI cS A) (q0 : Nat) {a n : Nat} {f : Nat → Int32} {i x : Int32} (ha : ws[q0]? = some (a, .inl (cI, n, .inl f))) (hin : vp_in i n) (hdg : decode cc pc = .ok (.iastore, 1)) {ws' : va_W} (hw : ws.set q0 (a, .inl (cI, n, .inl (upd f i.toNatClampNeg x))) = ws')
    (kk : kyW p l e R s m args below meth c D A nL cells slots Q ws' lv (pc + 1) st) : kyW p l e R s m args below meth c D A nL cells slots Q ws lv pc (.int x :: .int i :: .ref a :: st) :=
  fun H locs ls hP hD hS hl => va_iast C.1 C.2.1 C.2.2.2.2.2.1 hP hD hS q0 0 ha rfl hin hdg (fun H1 locs1 hP1 hD1 hS1 => kk H1 locs1 ls (hw ▸ hP1) (hw ▸ hD1) hS1 hl)
theorem ky_iastN (C : kyC p s m args c cc nL own Ts D cI cS A) (q0 : Nat) {a n k : Nat} {f : Nat → Int32} {x : Int32} (ha : ws[q0]? = some (a, .inl (cI, n, .inl f))) (hk : k < n) (hn : n < 2 ^ 31) (hdg : decode cc pc = .ok (.iastore, 1)) {ws' : va_W} (hw : ws.set q0 (a, .inl (cI, n, .inl (upd f k x))) = ws')
    (kk : kyW p l e R s m args below meth c D A nL cells slots Q ws' lv (pc + 1) st) : kyW p l e R s m args below meth c D A nL cells slots Q ws lv pc (.int x :: .int (nI k) :: .ref a :: st) :=
  ky_iast C q0 ha (vp_in_nI hk hn) hdg (by rw [nI_clamp (Nat.lt_trans hk hn)]; exact hw) kk
theorem ky_aald (C : kyC p s m args c cc nL own Ts D cI cS A) (q0 : Nat) {a n k b : Nat} {f : Nat → Option Nat} (ha : ws[q0]? = some (a, .inl (cS, n, .inr (.inr (.inr (.inr f)))))) (hk : k < n) (hn : n < 2 ^ 31) (hf : f k = some b) (hdg : decode cc pc = .ok (.aaload, 1))
    (kk : kyW p l e R s m args below meth c D A nL cells slots Q ws lv (pc + 1) (.ref b :: st)) : kyW p l e R s m args below meth c D A nL cells slots Q ws lv pc (.int (nI k) :: .ref a :: st) :=
  fun H locs ls hP hD hS hl => va_aldq C.1 C.2.1 C.2.2.2.2.2.1 hP q0 1 ha rfl (vp_in_nI hk hn) hdg (by rw [nI_clamp (Nat.lt_trans hk hn), hf]; exact kk H locs ls hP hD hS hl)

theorem kyD {ws wc : va_W} (hD : va_D A ws) (isC : List Nat) (hC : isC.map (fun i => ws[i]?) = wc.map some) (hnd : va_nd isC = true) : va_D (fun _ => True) wc := (hD.sub isC hnd hC).weaken (fun _ _ _ _ => trivial)
theorem ky_callV (C : kyC p s m args c cc nL own Ts D cI cS A) {y : MethodName} {wsn wsn' : List Cond} {rm : Room} {maxL index mc ms : Nat} {ret : Option FieldType} {bytes : ByteArray} {Cn : String} {b : Nat} {As rest : List Value} {wc : va_W} {post : Option Value → va_W → Prop} (n : Nat) (hM : kyM l y wsn rm D cI cS (.ref b :: As) wc mc ms post) (hG : GoodIn Ts (wsV own index Cn y wsn)) (hwn : wsn = Cond.code y bytes maxL ret :: wsn') (hrc : rm.cells = mc) (hrs : rm.slots = ms) (hd : y.cls = Cn ∧ y.cls ≠ "java/lang/invoke/MethodHandle" ∧ y.cls ≠ "java/lang/invoke/VarHandle" ∧ (parseMethodDescriptor y.desc).map (fun d => d.parameters.length) = some n) (q0 ci : Nat) {fs : List Value} {r : vw_C} (hb0 : ws[q0]? = some (b, .inr (ci, fs))) (hr0 : vwCl[ci]? = some r) (hrn : r.1 = Cn) (hR : rm.frames + 1 ≤ R.frames ∧ 8 + (maxL + 11) + rm.locals ≤ R.locals) (hn : As.length = n) (hst : st = As.reverse ++ .ref b :: rest) (hroom : (rest.map fun v => v.category).sum ≤ 8) (hdg : decode cc pc = .ok (.invokevirtual index, 3)) (hf : cells + mc ≤ R.cells ∧ slots + ms ≤ R.slots) (isC : List Nat) (hC : isC.map (fun i => ws[i]?) = wc.map some) (hnd : va_nd isC = true)
    (kk : ∀ (v : Option Value) (w1 : va_W), post v w1 → kyW p l e R s m args below meth c D A nL (cells + mc) (slots + ms) Q (kyRep ws isC w1) lv (pc + 3) (v.toList ++ rest)) : kyW p l e R s m args below meth c D A nL cells slots Q ws lv pc st := by
  intro H locs ls hP hD hS hl
  obtain ⟨hx, hb, hml, hown, hts, hK, hA⟩ := C
  subst hst
  have hPc := kySub hP isC hC
  have hDc : va_D (fun _ => True) wc := kyD hD isC hC hnd
  have hF := va_free hD hS hA isC hC
  have hrun : va_Run p l e R s m args below meth c H locs cells slots mc ms (F0 m pc ls (As.reverse ++ .ref b :: rest)) rest (kyQ D cI cS wc H.size post (.ref b :: As).toArray) (va_A wc H.size) := va_runV (rest := rest) ⟨hx, hb, hml, hown, hts⟩ (hM H.size) (cwV n hts hG hwn hrc hrs hd hR) ⟨kyBlind, (hrn ▸ va_recv hK hP hr0 hb0), fun U hU hW => ⟨rfl, by rw [hU], by rw [hU]; exact hPc, va_K.moved hW.alike hK, hDc⟩⟩ rfl hn hl.1 rfl (lv_room hroom) hdg hf
  intro T hT X
  obtain ⟨v, st₀, t, T', L, h0, X', hL, e1, e2, ⟨⟨v', w1, hv, hp, hlen, hP1, hD1⟩, hz, hk⟩, stp⟩ := hrun T hT X
  cases hv
  rw [h0] at hz hk
  obtain ⟨hPn, hDn⟩ := kyRep_world (H1 := T'.heap) hP hD isC hC hlen (fun q h1 h2 => by rw [e1]; exact hk q h1 h2) hF (by rw [e1]; exact hP1) hD1
  obtain ⟨t2, a1, b1⟩ := kk v w1 hp T'.heap (locs ++ L) ls hPn hDn ⟨Nat.le_trans hS.1 (by rw [e1]; exact hz), fun q h1 h2 => by rw [e1, hk q (Nat.lt_of_lt_of_le h1 hS.1) (fun z => h2 (hF q z))]; exact hS.2.1 q h1 h2, fun q hq => (List.mem_append.mp hq).elim (hS.2.2 q) (fun h => hF _ (hL q h))⟩ hl T' rfl X'
  exact ⟨t2, stp t2 a1, b1⟩
theorem ky_callS (C : kyC p s m args c cc nL own Ts D cI cS A) {y : MethodName} {wsn wsn' : List Cond} {rm : Room} {maxL index mc ms : Nat} {ret : Option FieldType} {bytes : ByteArray}  {As rest : List Value} {wc : va_W} {post : Option Value → va_W → Prop} (n : Nat) (hM : kyM l y wsn rm D cI cS As wc mc ms post) (hG : GoodIn Ts (va_wsS own index y wsn)) (hwn : wsn = Cond.code y bytes maxL ret :: wsn') (hrc : rm.cells = mc) (hrs : rm.slots = ms) (hd : y.cls ≠ "java/lang/invoke/MethodHandle" ∧ y.cls ≠ "java/lang/invoke/VarHandle" ∧ (parseMethodDescriptor y.desc).map (fun d => d.parameters.length) = some n) (hR : rm.frames + 1 ≤ R.frames ∧ 8 + (maxL + 11) + rm.locals ≤ R.locals) (hn : As.length = n) (hst : st = As.reverse ++ rest) (hroom : (rest.map fun v => v.category).sum ≤ 8) (hdg : decode cc pc = .ok (.invokestatic index, 3)) (hf : cells + mc ≤ R.cells ∧ slots + ms ≤ R.slots) (isC : List Nat) (hC : isC.map (fun i => ws[i]?) = wc.map some) (hnd : va_nd isC = true)
    (kk : ∀ (v : Option Value) (w1 : va_W), post v w1 → kyW p l e R s m args below meth c D A nL (cells + mc) (slots + ms) Q (kyRep ws isC w1) lv (pc + 3) (v.toList ++ rest)) : kyW p l e R s m args below meth c D A nL cells slots Q ws lv pc st := by
  intro H locs ls hP hD hS hl
  obtain ⟨hx, hb, hml, hown, hts, hK, hA⟩ := C
  subst hst
  have hPc := kySub hP isC hC
  have hDc : va_D (fun _ => True) wc := kyD hD isC hC hnd
  have hF := va_free hD hS hA isC hC
  have hrun : va_Run p l e R s m args below meth c H locs cells slots mc ms (F0 m pc ls (As.reverse ++ rest)) rest (kyQ D cI cS wc H.size post As.toArray) (va_A wc H.size) := va_runS (rest := rest) ⟨hx, hb, hml, hown, hts⟩ (hM H.size) (va_cwS n hts hG hwn hrc hrs hd hR) ⟨kyBlind, fun U hU hW => ⟨rfl, by rw [hU], by rw [hU]; exact hPc, va_K.moved hW.alike hK, hDc⟩⟩ rfl hn hl.1 rfl (lv_room hroom) hdg hf
  intro T hT X
  obtain ⟨v, st₀, t, T', L, h0, X', hL, e1, e2, ⟨⟨v', w1, hv, hp, hlen, hP1, hD1⟩, hz, hk⟩, stp⟩ := hrun T hT X
  cases hv
  rw [h0] at hz hk
  obtain ⟨hPn, hDn⟩ := kyRep_world (H1 := T'.heap) hP hD isC hC hlen (fun q h1 h2 => by rw [e1]; exact hk q h1 h2) hF (by rw [e1]; exact hP1) hD1
  obtain ⟨t2, a1, b1⟩ := kk v w1 hp T'.heap (locs ++ L) ls hPn hDn ⟨Nat.le_trans hS.1 (by rw [e1]; exact hz), fun q h1 h2 => by rw [e1, hk q (Nat.lt_of_lt_of_le h1 hS.1) (fun z => h2 (hF q z))]; exact hS.2.1 q h1 h2, fun q hq => (List.mem_append.mp hq).elim (hS.2.2 q) (fun h => hF _ (hL q h))⟩ hl T' rfl X'
  exact ⟨t2, stp t2 a1, b1⟩
theorem ky_callI (C : kyC p s m args c cc nL own Ts D cI cS A) {y : MethodName} {wsn wsn' : List Cond} {rm : Room} {maxL index mc ms : Nat} {ret : Option FieldType} {bytes : ByteArray} {b : Nat} {As rest : List Value} {wc : va_W} {post : Option Value → va_W → Prop} (n : Nat) (hM : kyM l y wsn rm D cI cS (.ref b :: As) wc mc ms post) (hG : GoodIn Ts wsn) (hwn : wsn = Cond.code y bytes maxL none :: wsn') (hrc : rm.cells = mc) (hrs : rm.slots = ms) (hini : Cond.initialized y.cls ∈ Ts) (hlk : Cond.methodLink own index y ∈ Ts) (hins : Cond.instanceMethod y ∈ Ts) (hy1 : y.name = "<init>") (hd : y.cls ≠ "java/lang/invoke/MethodHandle" ∧ y.cls ≠ "java/lang/invoke/VarHandle" ∧ (parseMethodDescriptor y.desc).map (fun d => d.parameters.length) = some n) (hR : rm.frames + 1 ≤ R.frames ∧ 8 + (maxL + 11) + rm.locals ≤ R.locals) (hn : As.length = n) (hst : st = As.reverse ++ .ref b :: rest) (hroom : (rest.map fun v => v.category).sum ≤ 8) (hdg : decode cc pc = .ok (.invokespecial index, 3)) (hf : cells + mc ≤ R.cells ∧ slots + ms ≤ R.slots) (isC : List Nat) (hC : isC.map (fun i => ws[i]?) = wc.map some) (hnd : va_nd isC = true)
    (kk : ∀ (v : Option Value) (w1 : va_W), post v w1 → kyW p l e R s m args below meth c D A nL (cells + mc) (slots + ms) Q (kyRep ws isC w1) lv (pc + 3) (v.toList ++ rest)) : kyW p l e R s m args below meth c D A nL cells slots Q ws lv pc st := by
  intro H locs ls hP hD hS hl
  obtain ⟨hx, hb, hml, hown, hts, hK, hA⟩ := C
  subst hst
  have hPc := kySub hP isC hC
  have hDc : va_D (fun _ => True) wc := kyD hD isC hC hnd
  have hF := va_free hD hS hA isC hC
  have hrun : va_Run p l e R s m args below meth c H locs cells slots mc ms (F0 m pc ls (As.reverse ++ .ref b :: rest)) rest (kyQ D cI cS wc H.size post (.ref b :: As).toArray) (va_A wc H.size) := va_runI (rest := rest) ⟨hx, hb, hml, hown, hts⟩ (hM H.size) (cwI n hts hG hwn hrc hrs (hts _ hini) (hts _ hlk) (hts _ hins) hy1 hd hR) ⟨kyBlind, fun U hU hW => ⟨rfl, by rw [hU], by rw [hU]; exact hPc, va_K.moved hW.alike hK, hDc⟩⟩ rfl hn hl.1 rfl (lv_room hroom) hdg hf
  intro T hT X
  obtain ⟨v, st₀, t, T', L, h0, X', hL, e1, e2, ⟨⟨v', w1, hv, hp, hlen, hP1, hD1⟩, hz, hk⟩, stp⟩ := hrun T hT X
  cases hv
  rw [h0] at hz hk
  obtain ⟨hPn, hDn⟩ := kyRep_world (H1 := T'.heap) hP hD isC hC hlen (fun q h1 h2 => by rw [e1]; exact hk q h1 h2) hF (by rw [e1]; exact hP1) hD1
  obtain ⟨t2, a1, b1⟩ := kk v w1 hp T'.heap (locs ++ L) ls hPn hDn ⟨Nat.le_trans hS.1 (by rw [e1]; exact hz), fun q h1 h2 => by rw [e1, hk q (Nat.lt_of_lt_of_le h1 hS.1) (fun z => h2 (hF q z))]; exact hS.2.1 q h1 h2, fun q hq => (List.mem_append.mp hq).elim (hS.2.2 q) (fun h => hF _ (hL q h))⟩ hl T' rfl X'
  exact ⟨t2, stp t2 a1, b1⟩
theorem ky_mmin (C : kyC p s m args c cc nL own Ts D cI cS A) {index : Nat} {x y v : Int32} (hlink : Cond.methodLink own index Lib.Math.min.name ∈ Ts) (hstat : Cond.static Lib.Math.min.name ∈ Ts) (hini : Cond.initialized "java/lang/Math" ∈ Ts) (hcode : Cond.code Lib.Math.min.name Lib.Math.min.code 2 (some .int) ∈ Ts) (hframes : 1 ≤ R.frames) (hlocals : (st.map fun v => v.category).sum + 13 ≤ R.locals) (hc : cells ≤ R.cells) (hs : slots ≤ R.slots) (hdg : decode cc pc = .ok (.invokestatic index, 3)) (hv : (if y < x then y else x) = v)
    (kk : kyW p l e R s m args below meth c D A nL cells slots Q ws lv (pc + 3) (.int v :: st)) : kyW p l e R s m args below meth c D A nL cells slots Q ws lv pc (.int y :: .int x :: st) :=
  fun H locs ls hP hD hS hl => va_mmin C.1 C.2.1 (C.2.2.1.trans hl.1.symm) C.2.2.2.1 (C.2.2.2.2.1 _ hlink) (C.2.2.2.2.1 _ hstat) (C.2.2.2.2.1 _ hini) (C.2.2.2.2.1 _ hcode) hframes hlocals hc hs hdg (by rw [hv]; exact kk H locs ls hP hD hS hl)
theorem ky_mmax (C : kyC p s m args c cc nL own Ts D cI cS A) {index : Nat} {x y v : Int32} (hlink : Cond.methodLink own index Lib.Math.max.name ∈ Ts) (hstat : Cond.static Lib.Math.max.name ∈ Ts) (hini : Cond.initialized "java/lang/Math" ∈ Ts) (hcode : Cond.code Lib.Math.max.name Lib.Math.max.code 2 (some .int) ∈ Ts) (hframes : 1 ≤ R.frames) (hlocals : (st.map fun v => v.category).sum + 13 ≤ R.locals) (hc : cells ≤ R.cells) (hs : slots ≤ R.slots) (hdg : decode cc pc = .ok (.invokestatic index, 3)) (hv : (if x < y then y else x) = v)
    (kk : kyW p l e R s m args below meth c D A nL cells slots Q ws lv (pc + 3) (.int v :: st)) : kyW p l e R s m args below meth c D A nL cells slots Q ws lv pc (.int y :: .int x :: st) :=
  fun H locs ls hP hD hS hl => va_mmax C.1 C.2.1 (C.2.2.1.trans hl.1.symm) C.2.2.2.1 (C.2.2.2.2.1 _ hlink) (C.2.2.2.2.1 _ hstat) (C.2.2.2.2.1 _ hini) (C.2.2.2.2.1 _ hcode) hframes hlocals hc hs hdg (by rw [hv]; exact kk H locs ls hP hD hS hl)
theorem kyAt {D : va_G} {a : Nat} {cA : ClassId} {n : Nat} {f g : Nat → Int32} {H : Heap} (hfg : ∀ j, j < n → f j = g j) (h : va_at D vwCl (a, .inl (cA, n, .inl f)) H) : va_at D vwCl (a, .inl (cA, n, .inl g)) H := by
  have e : vp_cell cA (n, .inl f) = vp_cell cA (n, .inl g) := by
    rw [vp_cell_i, vp_cell_i]
    unfold arrV
    congr 2
    funext j
    show Value.int (f j.val) = Value.int (g j.val)
    rw [hfg j.val j.isLt]
  show H[a]? = some (vp_cell cA (n, .inl g))
  rw [← e]
  exact h
theorem ky_ext (q0 : Nat) {a n : Nat} {cA : ClassId} {f g : Nat → Int32} (ha : ws[q0]? = some (a, .inl (cA, n, .inl f))) (hfg : ∀ j, j < n → f j = g j) {ws' : va_W} (hw : ws.set q0 (a, .inl (cA, n, .inl g)) = ws') (kk : kyW p l e R s m args below meth c D A nL cells slots Q ws' lv pc st) : kyW p l e R s m args below meth c D A nL cells slots Q ws lv pc st :=
  fun H locs ls hP hD hS hl => kk H locs ls (hw ▸ hP.set hD ha (kyAt hfg (hP q0 _ ha)) (fun _ _ => rfl)) (hw ▸ hD.set ha) hS hl
theorem ky_copyi (C : kyC p s m args c cc nL own Ts D cI cS A) {index : Nat} (hlink : Cond.methodLink own index arraycopyName ∈ Ts) (hnat : Cond.native arraycopyName ∈ Ts) (hstat : Cond.static arraycopyName ∈ Ts) (hini : Cond.initialized "java/lang/System" ∈ Ts) (q0 q1 : Nat) {a a0 n0 n1 : Nat} {f g : Nat → Int32} (ha0 : ws[q0]? = some (a0, .inl (cI, n0, .inl f))) (ha1 : ws[q1]? = some (a, .inl (cI, n1, .inl g))) {sp dp n : Int32} (h1 : ¬ sp < 0) (h2 : ¬ dp < 0) (h3 : ¬ n < 0) (h4 : sp.toNatClampNeg + n.toNatClampNeg ≤ n0) (h5 : dp.toNatClampNeg + n.toNatClampNeg ≤ n1) (hframes : 1 ≤ R.frames) (hlocals : (st.map fun v => v.category).sum + (nativeFrameWords "java/lang/System" "arraycopy" 5 + 11) ≤ R.locals) (hdg : decode cc pc = .ok (.invokestatic index, 3)) {ws' : va_W} (hw : ws.set q1 (a, .inl (cI, n1, .inl (va_cpy f g sp.toNatClampNeg dp.toNatClampNeg n.toNatClampNeg))) = ws')
    (kk : kyW p l e R s m args below meth c D A nL cells slots Q ws' lv (pc + 3) st) : kyW p l e R s m args below meth c D A nL cells slots Q ws lv pc (.int n :: .int dp :: .ref a :: .int sp :: .ref a0 :: st) :=
  fun H locs ls hP hD hS hl => va_copyi (ty := .int) C.1 C.2.1 (C.2.2.1.trans hl.1.symm) C.2.2.2.1 (C.2.2.2.2.1 _ hlink) (C.2.2.2.2.1 _ hnat) (C.2.2.2.2.1 _ hstat) (C.2.2.2.2.1 _ hini) C.2.2.2.2.2.1 hP hD hS q0 q1 0 0 ha0 ha1 rfl rfl rfl h1 h2 h3 h4 h5 (fun _ _ => rfl) hframes hlocals hdg (fun H1 locs1 hP1 hD1 hS1 => kk H1 locs1 ls (hw ▸ hP1) (hw ▸ hD1) hS1 hl)
theorem ky_iret {ws0 : va_W} {post : Option Value → va_W → Prop} (C : kyC p s m args c cc nL own Ts D cI cS (va_A ws0 s.heap.size)) (hr : meth.sig.returnType = some .int) (hlocks : meth.locks = false) {v : Int32} (hp : post (some (.int v)) ws) (hlen : ws0.length ≤ ws.length) (hdg : decode cc pc = .ok (.ireturn, 1)) : kyW p l e R s m args below meth c D (va_A ws0 s.heap.size) nL cells slots (kyE D cI cS below args s ws0 post cells slots) ws lv pc [.int v] :=
  fun H locs ls hP hD hS hl => W.iret C.1 C.2.1 hr (fun t ht hW => ⟨⟨some (.int v), ws, rfl, hp, hlen, by rw [ht]; exact hP, hD⟩, hS.F ht⟩) hS.2.2 hdg hlocks
theorem ky_zret {ws0 : va_W} {post : Option Value → va_W → Prop} (C : kyC p s m args c cc nL own Ts D cI cS (va_A ws0 s.heap.size)) (hr : meth.sig.returnType = some .boolean) (hlocks : meth.locks = false) {v : Int32} (hn : narrow .boolean (.int v) = .int v) (hp : post (some (.int v)) ws) (hlen : ws0.length ≤ ws.length) (hdg : decode cc pc = .ok (.ireturn, 1)) : kyW p l e R s m args below meth c D (va_A ws0 s.heap.size) nL cells slots (kyE D cI cS below args s ws0 post cells slots) ws lv pc [.int v] :=
  fun H locs ls hP hD hS hl => W.zret C.1 C.2.1 hr hn (fun t ht hW => ⟨⟨some (.int v), ws, rfl, hp, hlen, by rw [ht]; exact hP, hD⟩, hS.F ht⟩) hS.2.2 hdg hlocks
theorem ky_lret {ws0 : va_W} {post : Option Value → va_W → Prop} (C : kyC p s m args c cc nL own Ts D cI cS (va_A ws0 s.heap.size)) (hr : meth.sig.returnType = some .long) (hlocks : meth.locks = false) {v : Int64} (hp : post (some (.long v)) ws) (hlen : ws0.length ≤ ws.length) (hdg : decode cc pc = .ok (.lreturn, 1)) : kyW p l e R s m args below meth c D (va_A ws0 s.heap.size) nL cells slots (kyE D cI cS below args s ws0 post cells slots) ws lv pc [.long v] :=
  fun H locs ls hP hD hS hl => W.lret C.1 C.2.1 hr (fun t ht hW => ⟨⟨some (.long v), ws, rfl, hp, hlen, by rw [ht]; exact hP, hD⟩, hS.F ht⟩) hS.2.2 hdg hlocks
theorem ky_vret {ws0 : va_W} {post : Option Value → va_W → Prop} (C : kyC p s m args c cc nL own Ts D cI cS (va_A ws0 s.heap.size)) (hr : meth.sig.returnType = none) (hlocks : meth.locks = false) (hp : post none ws) (hlen : ws0.length ≤ ws.length) (hdg : decode cc pc = .ok (.return_, 1)) : kyW p l e R s m args below meth c D (va_A ws0 s.heap.size) nL cells slots (kyE D cI cS below args s ws0 post cells slots) ws lv pc [] :=
  fun H locs ls hP hD hS hl => W.vret C.1 C.2.1 hr (fun t ht hW => ⟨⟨none, ws, rfl, hp, hlen, by rw [ht]; exact hP, hD⟩, hS.F ht⟩) hS.2.2 hdg hlocks
theorem ky_loop1 {T1 : Type} {Wf : T1 → va_W} {Lf : T1 → List (Nat × Value)} {Sf : T1 → List Value} (I : T1 → Prop) (μ : T1 → Nat)
    (step : ∀ (a1 : T1), I a1 → (∀ (b1 : T1), μ b1 < μ a1 → I b1 → kyW p l e R s m args below meth c D A nL cells slots Q (Wf b1) (Lf b1) pc (Sf b1)) → kyW p l e R s m args below meth c D A nL cells slots Q (Wf a1) (Lf a1) pc (Sf a1)) (a1 : T1) (h : I a1) : kyW p l e R s m args below meth c D A nL cells slots Q (Wf a1) (Lf a1) pc (Sf a1) :=
  ky_loop (σ := (T1)) (Wf := fun x => Wf (x)) (Lf := fun x => Lf (x)) (Sf := fun x => Sf (x)) (fun x => I (x)) (fun x => μ (x)) (fun x hx ih => step (x) hx (fun b1 hm hI => ih b1 hm hI)) a1 h
theorem ky_join1 {T1 : Type} {Wf : T1 → va_W} {Lf : T1 → List (Nat × Value)} {Sf : T1 → List Value} (J : T1 → Prop) (pcJ : Nat)
    (k : ∀ (a1 : T1), J a1 → kyW p l e R s m args below meth c D A nL cells slots Q (Wf a1) (Lf a1) pcJ (Sf a1)) (main : (∀ (a1 : T1), J a1 → kyW p l e R s m args below meth c D A nL cells slots Q (Wf a1) (Lf a1) pcJ (Sf a1)) → kyW p l e R s m args below meth c D A nL cells slots Q ws lv pc st) : kyW p l e R s m args below meth c D A nL cells slots Q ws lv pc st := main k
theorem ky_loop2 {T1 T2 : Type} {Wf : T1 → T2 → va_W} {Lf : T1 → T2 → List (Nat × Value)} {Sf : T1 → T2 → List Value} (I : T1 → T2 → Prop) (μ : T1 → T2 → Nat)
    (step : ∀ (a1 : T1) (a2 : T2), I a1 a2 → (∀ (b1 : T1) (b2 : T2), μ b1 b2 < μ a1 a2 → I b1 b2 → kyW p l e R s m args below meth c D A nL cells slots Q (Wf b1 b2) (Lf b1 b2) pc (Sf b1 b2)) → kyW p l e R s m args below meth c D A nL cells slots Q (Wf a1 a2) (Lf a1 a2) pc (Sf a1 a2)) (a1 : T1) (a2 : T2) (h : I a1 a2) : kyW p l e R s m args below meth c D A nL cells slots Q (Wf a1 a2) (Lf a1 a2) pc (Sf a1 a2) :=
  ky_loop (σ := (T1 × T2)) (Wf := fun x => Wf (x.1) (x.2)) (Lf := fun x => Lf (x.1) (x.2)) (Sf := fun x => Sf (x.1) (x.2)) (fun x => I (x.1) (x.2)) (fun x => μ (x.1) (x.2)) (fun x hx ih => step (x.1) (x.2) hx (fun b1 b2 hm hI => ih (b1, b2) hm hI)) (a1, a2) h
theorem ky_join2 {T1 T2 : Type} {Wf : T1 → T2 → va_W} {Lf : T1 → T2 → List (Nat × Value)} {Sf : T1 → T2 → List Value} (J : T1 → T2 → Prop) (pcJ : Nat)
    (k : ∀ (a1 : T1) (a2 : T2), J a1 a2 → kyW p l e R s m args below meth c D A nL cells slots Q (Wf a1 a2) (Lf a1 a2) pcJ (Sf a1 a2)) (main : (∀ (a1 : T1) (a2 : T2), J a1 a2 → kyW p l e R s m args below meth c D A nL cells slots Q (Wf a1 a2) (Lf a1 a2) pcJ (Sf a1 a2)) → kyW p l e R s m args below meth c D A nL cells slots Q ws lv pc st) : kyW p l e R s m args below meth c D A nL cells slots Q ws lv pc st := main k
theorem ky_loop3 {T1 T2 T3 : Type} {Wf : T1 → T2 → T3 → va_W} {Lf : T1 → T2 → T3 → List (Nat × Value)} {Sf : T1 → T2 → T3 → List Value} (I : T1 → T2 → T3 → Prop) (μ : T1 → T2 → T3 → Nat)
    (step : ∀ (a1 : T1) (a2 : T2) (a3 : T3), I a1 a2 a3 → (∀ (b1 : T1) (b2 : T2) (b3 : T3), μ b1 b2 b3 < μ a1 a2 a3 → I b1 b2 b3 → kyW p l e R s m args below meth c D A nL cells slots Q (Wf b1 b2 b3) (Lf b1 b2 b3) pc (Sf b1 b2 b3)) → kyW p l e R s m args below meth c D A nL cells slots Q (Wf a1 a2 a3) (Lf a1 a2 a3) pc (Sf a1 a2 a3)) (a1 : T1) (a2 : T2) (a3 : T3) (h : I a1 a2 a3) : kyW p l e R s m args below meth c D A nL cells slots Q (Wf a1 a2 a3) (Lf a1 a2 a3) pc (Sf a1 a2 a3) :=
  ky_loop (σ := (T1 × T2 × T3)) (Wf := fun x => Wf (x.1) (x.2.1) (x.2.2)) (Lf := fun x => Lf (x.1) (x.2.1) (x.2.2)) (Sf := fun x => Sf (x.1) (x.2.1) (x.2.2)) (fun x => I (x.1) (x.2.1) (x.2.2)) (fun x => μ (x.1) (x.2.1) (x.2.2)) (fun x hx ih => step (x.1) (x.2.1) (x.2.2) hx (fun b1 b2 b3 hm hI => ih (b1, b2, b3) hm hI)) (a1, a2, a3) h
theorem ky_join3 {T1 T2 T3 : Type} {Wf : T1 → T2 → T3 → va_W} {Lf : T1 → T2 → T3 → List (Nat × Value)} {Sf : T1 → T2 → T3 → List Value} (J : T1 → T2 → T3 → Prop) (pcJ : Nat)
    (k : ∀ (a1 : T1) (a2 : T2) (a3 : T3), J a1 a2 a3 → kyW p l e R s m args below meth c D A nL cells slots Q (Wf a1 a2 a3) (Lf a1 a2 a3) pcJ (Sf a1 a2 a3)) (main : (∀ (a1 : T1) (a2 : T2) (a3 : T3), J a1 a2 a3 → kyW p l e R s m args below meth c D A nL cells slots Q (Wf a1 a2 a3) (Lf a1 a2 a3) pcJ (Sf a1 a2 a3)) → kyW p l e R s m args below meth c D A nL cells slots Q ws lv pc st) : kyW p l e R s m args below meth c D A nL cells slots Q ws lv pc st := main k
theorem ky_loop4 {T1 T2 T3 T4 : Type} {Wf : T1 → T2 → T3 → T4 → va_W} {Lf : T1 → T2 → T3 → T4 → List (Nat × Value)} {Sf : T1 → T2 → T3 → T4 → List Value} (I : T1 → T2 → T3 → T4 → Prop) (μ : T1 → T2 → T3 → T4 → Nat)
    (step : ∀ (a1 : T1) (a2 : T2) (a3 : T3) (a4 : T4), I a1 a2 a3 a4 → (∀ (b1 : T1) (b2 : T2) (b3 : T3) (b4 : T4), μ b1 b2 b3 b4 < μ a1 a2 a3 a4 → I b1 b2 b3 b4 → kyW p l e R s m args below meth c D A nL cells slots Q (Wf b1 b2 b3 b4) (Lf b1 b2 b3 b4) pc (Sf b1 b2 b3 b4)) → kyW p l e R s m args below meth c D A nL cells slots Q (Wf a1 a2 a3 a4) (Lf a1 a2 a3 a4) pc (Sf a1 a2 a3 a4)) (a1 : T1) (a2 : T2) (a3 : T3) (a4 : T4) (h : I a1 a2 a3 a4) : kyW p l e R s m args below meth c D A nL cells slots Q (Wf a1 a2 a3 a4) (Lf a1 a2 a3 a4) pc (Sf a1 a2 a3 a4) :=
  ky_loop (σ := (T1 × T2 × T3 × T4)) (Wf := fun x => Wf (x.1) (x.2.1) (x.2.2.1) (x.2.2.2)) (Lf := fun x => Lf (x.1) (x.2.1) (x.2.2.1) (x.2.2.2)) (Sf := fun x => Sf (x.1) (x.2.1) (x.2.2.1) (x.2.2.2)) (fun x => I (x.1) (x.2.1) (x.2.2.1) (x.2.2.2)) (fun x => μ (x.1) (x.2.1) (x.2.2.1) (x.2.2.2)) (fun x hx ih => step (x.1) (x.2.1) (x.2.2.1) (x.2.2.2) hx (fun b1 b2 b3 b4 hm hI => ih (b1, b2, b3, b4) hm hI)) (a1, a2, a3, a4) h
theorem ky_join4 {T1 T2 T3 T4 : Type} {Wf : T1 → T2 → T3 → T4 → va_W} {Lf : T1 → T2 → T3 → T4 → List (Nat × Value)} {Sf : T1 → T2 → T3 → T4 → List Value} (J : T1 → T2 → T3 → T4 → Prop) (pcJ : Nat)
    (k : ∀ (a1 : T1) (a2 : T2) (a3 : T3) (a4 : T4), J a1 a2 a3 a4 → kyW p l e R s m args below meth c D A nL cells slots Q (Wf a1 a2 a3 a4) (Lf a1 a2 a3 a4) pcJ (Sf a1 a2 a3 a4)) (main : (∀ (a1 : T1) (a2 : T2) (a3 : T3) (a4 : T4), J a1 a2 a3 a4 → kyW p l e R s m args below meth c D A nL cells slots Q (Wf a1 a2 a3 a4) (Lf a1 a2 a3 a4) pcJ (Sf a1 a2 a3 a4)) → kyW p l e R s m args below meth c D A nL cells slots Q ws lv pc st) : kyW p l e R s m args below meth c D A nL cells slots Q ws lv pc st := main k
theorem ky_loop5 {T1 T2 T3 T4 T5 : Type} {Wf : T1 → T2 → T3 → T4 → T5 → va_W} {Lf : T1 → T2 → T3 → T4 → T5 → List (Nat × Value)} {Sf : T1 → T2 → T3 → T4 → T5 → List Value} (I : T1 → T2 → T3 → T4 → T5 → Prop) (μ : T1 → T2 → T3 → T4 → T5 → Nat)
    (step : ∀ (a1 : T1) (a2 : T2) (a3 : T3) (a4 : T4) (a5 : T5), I a1 a2 a3 a4 a5 → (∀ (b1 : T1) (b2 : T2) (b3 : T3) (b4 : T4) (b5 : T5), μ b1 b2 b3 b4 b5 < μ a1 a2 a3 a4 a5 → I b1 b2 b3 b4 b5 → kyW p l e R s m args below meth c D A nL cells slots Q (Wf b1 b2 b3 b4 b5) (Lf b1 b2 b3 b4 b5) pc (Sf b1 b2 b3 b4 b5)) → kyW p l e R s m args below meth c D A nL cells slots Q (Wf a1 a2 a3 a4 a5) (Lf a1 a2 a3 a4 a5) pc (Sf a1 a2 a3 a4 a5)) (a1 : T1) (a2 : T2) (a3 : T3) (a4 : T4) (a5 : T5) (h : I a1 a2 a3 a4 a5) : kyW p l e R s m args below meth c D A nL cells slots Q (Wf a1 a2 a3 a4 a5) (Lf a1 a2 a3 a4 a5) pc (Sf a1 a2 a3 a4 a5) :=
  ky_loop (σ := (T1 × T2 × T3 × T4 × T5)) (Wf := fun x => Wf (x.1) (x.2.1) (x.2.2.1) (x.2.2.2.1) (x.2.2.2.2)) (Lf := fun x => Lf (x.1) (x.2.1) (x.2.2.1) (x.2.2.2.1) (x.2.2.2.2)) (Sf := fun x => Sf (x.1) (x.2.1) (x.2.2.1) (x.2.2.2.1) (x.2.2.2.2)) (fun x => I (x.1) (x.2.1) (x.2.2.1) (x.2.2.2.1) (x.2.2.2.2)) (fun x => μ (x.1) (x.2.1) (x.2.2.1) (x.2.2.2.1) (x.2.2.2.2)) (fun x hx ih => step (x.1) (x.2.1) (x.2.2.1) (x.2.2.2.1) (x.2.2.2.2) hx (fun b1 b2 b3 b4 b5 hm hI => ih (b1, b2, b3, b4, b5) hm hI)) (a1, a2, a3, a4, a5) h
theorem ky_join5 {T1 T2 T3 T4 T5 : Type} {Wf : T1 → T2 → T3 → T4 → T5 → va_W} {Lf : T1 → T2 → T3 → T4 → T5 → List (Nat × Value)} {Sf : T1 → T2 → T3 → T4 → T5 → List Value} (J : T1 → T2 → T3 → T4 → T5 → Prop) (pcJ : Nat)
    (k : ∀ (a1 : T1) (a2 : T2) (a3 : T3) (a4 : T4) (a5 : T5), J a1 a2 a3 a4 a5 → kyW p l e R s m args below meth c D A nL cells slots Q (Wf a1 a2 a3 a4 a5) (Lf a1 a2 a3 a4 a5) pcJ (Sf a1 a2 a3 a4 a5)) (main : (∀ (a1 : T1) (a2 : T2) (a3 : T3) (a4 : T4) (a5 : T5), J a1 a2 a3 a4 a5 → kyW p l e R s m args below meth c D A nL cells slots Q (Wf a1 a2 a3 a4 a5) (Lf a1 a2 a3 a4 a5) pcJ (Sf a1 a2 a3 a4 a5)) → kyW p l e R s m args below meth c D A nL cells slots Q ws lv pc st) : kyW p l e R s m args below meth c D A nL cells slots Q ws lv pc st := main k
theorem ky_loop6 {T1 T2 T3 T4 T5 T6 : Type} {Wf : T1 → T2 → T3 → T4 → T5 → T6 → va_W} {Lf : T1 → T2 → T3 → T4 → T5 → T6 → List (Nat × Value)} {Sf : T1 → T2 → T3 → T4 → T5 → T6 → List Value} (I : T1 → T2 → T3 → T4 → T5 → T6 → Prop) (μ : T1 → T2 → T3 → T4 → T5 → T6 → Nat)
    (step : ∀ (a1 : T1) (a2 : T2) (a3 : T3) (a4 : T4) (a5 : T5) (a6 : T6), I a1 a2 a3 a4 a5 a6 → (∀ (b1 : T1) (b2 : T2) (b3 : T3) (b4 : T4) (b5 : T5) (b6 : T6), μ b1 b2 b3 b4 b5 b6 < μ a1 a2 a3 a4 a5 a6 → I b1 b2 b3 b4 b5 b6 → kyW p l e R s m args below meth c D A nL cells slots Q (Wf b1 b2 b3 b4 b5 b6) (Lf b1 b2 b3 b4 b5 b6) pc (Sf b1 b2 b3 b4 b5 b6)) → kyW p l e R s m args below meth c D A nL cells slots Q (Wf a1 a2 a3 a4 a5 a6) (Lf a1 a2 a3 a4 a5 a6) pc (Sf a1 a2 a3 a4 a5 a6)) (a1 : T1) (a2 : T2) (a3 : T3) (a4 : T4) (a5 : T5) (a6 : T6) (h : I a1 a2 a3 a4 a5 a6) : kyW p l e R s m args below meth c D A nL cells slots Q (Wf a1 a2 a3 a4 a5 a6) (Lf a1 a2 a3 a4 a5 a6) pc (Sf a1 a2 a3 a4 a5 a6) :=
  ky_loop (σ := (T1 × T2 × T3 × T4 × T5 × T6)) (Wf := fun x => Wf (x.1) (x.2.1) (x.2.2.1) (x.2.2.2.1) (x.2.2.2.2.1) (x.2.2.2.2.2)) (Lf := fun x => Lf (x.1) (x.2.1) (x.2.2.1) (x.2.2.2.1) (x.2.2.2.2.1) (x.2.2.2.2.2)) (Sf := fun x => Sf (x.1) (x.2.1) (x.2.2.1) (x.2.2.2.1) (x.2.2.2.2.1) (x.2.2.2.2.2)) (fun x => I (x.1) (x.2.1) (x.2.2.1) (x.2.2.2.1) (x.2.2.2.2.1) (x.2.2.2.2.2)) (fun x => μ (x.1) (x.2.1) (x.2.2.1) (x.2.2.2.1) (x.2.2.2.2.1) (x.2.2.2.2.2)) (fun x hx ih => step (x.1) (x.2.1) (x.2.2.1) (x.2.2.2.1) (x.2.2.2.2.1) (x.2.2.2.2.2) hx (fun b1 b2 b3 b4 b5 b6 hm hI => ih (b1, b2, b3, b4, b5, b6) hm hI)) (a1, a2, a3, a4, a5, a6) h
theorem ky_join6 {T1 T2 T3 T4 T5 T6 : Type} {Wf : T1 → T2 → T3 → T4 → T5 → T6 → va_W} {Lf : T1 → T2 → T3 → T4 → T5 → T6 → List (Nat × Value)} {Sf : T1 → T2 → T3 → T4 → T5 → T6 → List Value} (J : T1 → T2 → T3 → T4 → T5 → T6 → Prop) (pcJ : Nat)
    (k : ∀ (a1 : T1) (a2 : T2) (a3 : T3) (a4 : T4) (a5 : T5) (a6 : T6), J a1 a2 a3 a4 a5 a6 → kyW p l e R s m args below meth c D A nL cells slots Q (Wf a1 a2 a3 a4 a5 a6) (Lf a1 a2 a3 a4 a5 a6) pcJ (Sf a1 a2 a3 a4 a5 a6)) (main : (∀ (a1 : T1) (a2 : T2) (a3 : T3) (a4 : T4) (a5 : T5) (a6 : T6), J a1 a2 a3 a4 a5 a6 → kyW p l e R s m args below meth c D A nL cells slots Q (Wf a1 a2 a3 a4 a5 a6) (Lf a1 a2 a3 a4 a5 a6) pcJ (Sf a1 a2 a3 a4 a5 a6)) → kyW p l e R s m args below meth c D A nL cells slots Q ws lv pc st) : kyW p l e R s m args below meth c D A nL cells slots Q ws lv pc st := main k
theorem ky_loop7 {T1 T2 T3 T4 T5 T6 T7 : Type} {Wf : T1 → T2 → T3 → T4 → T5 → T6 → T7 → va_W} {Lf : T1 → T2 → T3 → T4 → T5 → T6 → T7 → List (Nat × Value)} {Sf : T1 → T2 → T3 → T4 → T5 → T6 → T7 → List Value} (I : T1 → T2 → T3 → T4 → T5 → T6 → T7 → Prop) (μ : T1 → T2 → T3 → T4 → T5 → T6 → T7 → Nat)
    (step : ∀ (a1 : T1) (a2 : T2) (a3 : T3) (a4 : T4) (a5 : T5) (a6 : T6) (a7 : T7), I a1 a2 a3 a4 a5 a6 a7 → (∀ (b1 : T1) (b2 : T2) (b3 : T3) (b4 : T4) (b5 : T5) (b6 : T6) (b7 : T7), μ b1 b2 b3 b4 b5 b6 b7 < μ a1 a2 a3 a4 a5 a6 a7 → I b1 b2 b3 b4 b5 b6 b7 → kyW p l e R s m args below meth c D A nL cells slots Q (Wf b1 b2 b3 b4 b5 b6 b7) (Lf b1 b2 b3 b4 b5 b6 b7) pc (Sf b1 b2 b3 b4 b5 b6 b7)) → kyW p l e R s m args below meth c D A nL cells slots Q (Wf a1 a2 a3 a4 a5 a6 a7) (Lf a1 a2 a3 a4 a5 a6 a7) pc (Sf a1 a2 a3 a4 a5 a6 a7)) (a1 : T1) (a2 : T2) (a3 : T3) (a4 : T4) (a5 : T5) (a6 : T6) (a7 : T7) (h : I a1 a2 a3 a4 a5 a6 a7) : kyW p l e R s m args below meth c D A nL cells slots Q (Wf a1 a2 a3 a4 a5 a6 a7) (Lf a1 a2 a3 a4 a5 a6 a7) pc (Sf a1 a2 a3 a4 a5 a6 a7) :=
  ky_loop (σ := (T1 × T2 × T3 × T4 × T5 × T6 × T7)) (Wf := fun x => Wf (x.1) (x.2.1) (x.2.2.1) (x.2.2.2.1) (x.2.2.2.2.1) (x.2.2.2.2.2.1) (x.2.2.2.2.2.2)) (Lf := fun x => Lf (x.1) (x.2.1) (x.2.2.1) (x.2.2.2.1) (x.2.2.2.2.1) (x.2.2.2.2.2.1) (x.2.2.2.2.2.2)) (Sf := fun x => Sf (x.1) (x.2.1) (x.2.2.1) (x.2.2.2.1) (x.2.2.2.2.1) (x.2.2.2.2.2.1) (x.2.2.2.2.2.2)) (fun x => I (x.1) (x.2.1) (x.2.2.1) (x.2.2.2.1) (x.2.2.2.2.1) (x.2.2.2.2.2.1) (x.2.2.2.2.2.2)) (fun x => μ (x.1) (x.2.1) (x.2.2.1) (x.2.2.2.1) (x.2.2.2.2.1) (x.2.2.2.2.2.1) (x.2.2.2.2.2.2)) (fun x hx ih => step (x.1) (x.2.1) (x.2.2.1) (x.2.2.2.1) (x.2.2.2.2.1) (x.2.2.2.2.2.1) (x.2.2.2.2.2.2) hx (fun b1 b2 b3 b4 b5 b6 b7 hm hI => ih (b1, b2, b3, b4, b5, b6, b7) hm hI)) (a1, a2, a3, a4, a5, a6, a7) h
theorem ky_join7 {T1 T2 T3 T4 T5 T6 T7 : Type} {Wf : T1 → T2 → T3 → T4 → T5 → T6 → T7 → va_W} {Lf : T1 → T2 → T3 → T4 → T5 → T6 → T7 → List (Nat × Value)} {Sf : T1 → T2 → T3 → T4 → T5 → T6 → T7 → List Value} (J : T1 → T2 → T3 → T4 → T5 → T6 → T7 → Prop) (pcJ : Nat)
    (k : ∀ (a1 : T1) (a2 : T2) (a3 : T3) (a4 : T4) (a5 : T5) (a6 : T6) (a7 : T7), J a1 a2 a3 a4 a5 a6 a7 → kyW p l e R s m args below meth c D A nL cells slots Q (Wf a1 a2 a3 a4 a5 a6 a7) (Lf a1 a2 a3 a4 a5 a6 a7) pcJ (Sf a1 a2 a3 a4 a5 a6 a7)) (main : (∀ (a1 : T1) (a2 : T2) (a3 : T3) (a4 : T4) (a5 : T5) (a6 : T6) (a7 : T7), J a1 a2 a3 a4 a5 a6 a7 → kyW p l e R s m args below meth c D A nL cells slots Q (Wf a1 a2 a3 a4 a5 a6 a7) (Lf a1 a2 a3 a4 a5 a6 a7) pcJ (Sf a1 a2 a3 a4 a5 a6 a7)) → kyW p l e R s m args below meth c D A nL cells slots Q ws lv pc st) : kyW p l e R s m args below meth c D A nL cells slots Q ws lv pc st := main k
theorem ky_loop8 {T1 T2 T3 T4 T5 T6 T7 T8 : Type} {Wf : T1 → T2 → T3 → T4 → T5 → T6 → T7 → T8 → va_W} {Lf : T1 → T2 → T3 → T4 → T5 → T6 → T7 → T8 → List (Nat × Value)} {Sf : T1 → T2 → T3 → T4 → T5 → T6 → T7 → T8 → List Value} (I : T1 → T2 → T3 → T4 → T5 → T6 → T7 → T8 → Prop) (μ : T1 → T2 → T3 → T4 → T5 → T6 → T7 → T8 → Nat)
    (step : ∀ (a1 : T1) (a2 : T2) (a3 : T3) (a4 : T4) (a5 : T5) (a6 : T6) (a7 : T7) (a8 : T8), I a1 a2 a3 a4 a5 a6 a7 a8 → (∀ (b1 : T1) (b2 : T2) (b3 : T3) (b4 : T4) (b5 : T5) (b6 : T6) (b7 : T7) (b8 : T8), μ b1 b2 b3 b4 b5 b6 b7 b8 < μ a1 a2 a3 a4 a5 a6 a7 a8 → I b1 b2 b3 b4 b5 b6 b7 b8 → kyW p l e R s m args below meth c D A nL cells slots Q (Wf b1 b2 b3 b4 b5 b6 b7 b8) (Lf b1 b2 b3 b4 b5 b6 b7 b8) pc (Sf b1 b2 b3 b4 b5 b6 b7 b8)) → kyW p l e R s m args below meth c D A nL cells slots Q (Wf a1 a2 a3 a4 a5 a6 a7 a8) (Lf a1 a2 a3 a4 a5 a6 a7 a8) pc (Sf a1 a2 a3 a4 a5 a6 a7 a8)) (a1 : T1) (a2 : T2) (a3 : T3) (a4 : T4) (a5 : T5) (a6 : T6) (a7 : T7) (a8 : T8) (h : I a1 a2 a3 a4 a5 a6 a7 a8) : kyW p l e R s m args below meth c D A nL cells slots Q (Wf a1 a2 a3 a4 a5 a6 a7 a8) (Lf a1 a2 a3 a4 a5 a6 a7 a8) pc (Sf a1 a2 a3 a4 a5 a6 a7 a8) :=
  ky_loop (σ := (T1 × T2 × T3 × T4 × T5 × T6 × T7 × T8)) (Wf := fun x => Wf (x.1) (x.2.1) (x.2.2.1) (x.2.2.2.1) (x.2.2.2.2.1) (x.2.2.2.2.2.1) (x.2.2.2.2.2.2.1) (x.2.2.2.2.2.2.2)) (Lf := fun x => Lf (x.1) (x.2.1) (x.2.2.1) (x.2.2.2.1) (x.2.2.2.2.1) (x.2.2.2.2.2.1) (x.2.2.2.2.2.2.1) (x.2.2.2.2.2.2.2)) (Sf := fun x => Sf (x.1) (x.2.1) (x.2.2.1) (x.2.2.2.1) (x.2.2.2.2.1) (x.2.2.2.2.2.1) (x.2.2.2.2.2.2.1) (x.2.2.2.2.2.2.2)) (fun x => I (x.1) (x.2.1) (x.2.2.1) (x.2.2.2.1) (x.2.2.2.2.1) (x.2.2.2.2.2.1) (x.2.2.2.2.2.2.1) (x.2.2.2.2.2.2.2)) (fun x => μ (x.1) (x.2.1) (x.2.2.1) (x.2.2.2.1) (x.2.2.2.2.1) (x.2.2.2.2.2.1) (x.2.2.2.2.2.2.1) (x.2.2.2.2.2.2.2)) (fun x hx ih => step (x.1) (x.2.1) (x.2.2.1) (x.2.2.2.1) (x.2.2.2.2.1) (x.2.2.2.2.2.1) (x.2.2.2.2.2.2.1) (x.2.2.2.2.2.2.2) hx (fun b1 b2 b3 b4 b5 b6 b7 b8 hm hI => ih (b1, b2, b3, b4, b5, b6, b7, b8) hm hI)) (a1, a2, a3, a4, a5, a6, a7, a8) h
theorem ky_join8 {T1 T2 T3 T4 T5 T6 T7 T8 : Type} {Wf : T1 → T2 → T3 → T4 → T5 → T6 → T7 → T8 → va_W} {Lf : T1 → T2 → T3 → T4 → T5 → T6 → T7 → T8 → List (Nat × Value)} {Sf : T1 → T2 → T3 → T4 → T5 → T6 → T7 → T8 → List Value} (J : T1 → T2 → T3 → T4 → T5 → T6 → T7 → T8 → Prop) (pcJ : Nat)
    (k : ∀ (a1 : T1) (a2 : T2) (a3 : T3) (a4 : T4) (a5 : T5) (a6 : T6) (a7 : T7) (a8 : T8), J a1 a2 a3 a4 a5 a6 a7 a8 → kyW p l e R s m args below meth c D A nL cells slots Q (Wf a1 a2 a3 a4 a5 a6 a7 a8) (Lf a1 a2 a3 a4 a5 a6 a7 a8) pcJ (Sf a1 a2 a3 a4 a5 a6 a7 a8)) (main : (∀ (a1 : T1) (a2 : T2) (a3 : T3) (a4 : T4) (a5 : T5) (a6 : T6) (a7 : T7) (a8 : T8), J a1 a2 a3 a4 a5 a6 a7 a8 → kyW p l e R s m args below meth c D A nL cells slots Q (Wf a1 a2 a3 a4 a5 a6 a7 a8) (Lf a1 a2 a3 a4 a5 a6 a7 a8) pcJ (Sf a1 a2 a3 a4 a5 a6 a7 a8)) → kyW p l e R s m args below meth c D A nL cells slots Q ws lv pc st) : kyW p l e R s m args below meth c D A nL cells slots Q ws lv pc st := main k
theorem ky_loop9 {T1 T2 T3 T4 T5 T6 T7 T8 T9 : Type} {Wf : T1 → T2 → T3 → T4 → T5 → T6 → T7 → T8 → T9 → va_W} {Lf : T1 → T2 → T3 → T4 → T5 → T6 → T7 → T8 → T9 → List (Nat × Value)} {Sf : T1 → T2 → T3 → T4 → T5 → T6 → T7 → T8 → T9 → List Value} (I : T1 → T2 → T3 → T4 → T5 → T6 → T7 → T8 → T9 → Prop) (μ : T1 → T2 → T3 → T4 → T5 → T6 → T7 → T8 → T9 → Nat)
    (step : ∀ (a1 : T1) (a2 : T2) (a3 : T3) (a4 : T4) (a5 : T5) (a6 : T6) (a7 : T7) (a8 : T8) (a9 : T9), I a1 a2 a3 a4 a5 a6 a7 a8 a9 → (∀ (b1 : T1) (b2 : T2) (b3 : T3) (b4 : T4) (b5 : T5) (b6 : T6) (b7 : T7) (b8 : T8) (b9 : T9), μ b1 b2 b3 b4 b5 b6 b7 b8 b9 < μ a1 a2 a3 a4 a5 a6 a7 a8 a9 → I b1 b2 b3 b4 b5 b6 b7 b8 b9 → kyW p l e R s m args below meth c D A nL cells slots Q (Wf b1 b2 b3 b4 b5 b6 b7 b8 b9) (Lf b1 b2 b3 b4 b5 b6 b7 b8 b9) pc (Sf b1 b2 b3 b4 b5 b6 b7 b8 b9)) → kyW p l e R s m args below meth c D A nL cells slots Q (Wf a1 a2 a3 a4 a5 a6 a7 a8 a9) (Lf a1 a2 a3 a4 a5 a6 a7 a8 a9) pc (Sf a1 a2 a3 a4 a5 a6 a7 a8 a9)) (a1 : T1) (a2 : T2) (a3 : T3) (a4 : T4) (a5 : T5) (a6 : T6) (a7 : T7) (a8 : T8) (a9 : T9) (h : I a1 a2 a3 a4 a5 a6 a7 a8 a9) : kyW p l e R s m args below meth c D A nL cells slots Q (Wf a1 a2 a3 a4 a5 a6 a7 a8 a9) (Lf a1 a2 a3 a4 a5 a6 a7 a8 a9) pc (Sf a1 a2 a3 a4 a5 a6 a7 a8 a9) :=
  ky_loop (σ := (T1 × T2 × T3 × T4 × T5 × T6 × T7 × T8 × T9)) (Wf := fun x => Wf (x.1) (x.2.1) (x.2.2.1) (x.2.2.2.1) (x.2.2.2.2.1) (x.2.2.2.2.2.1) (x.2.2.2.2.2.2.1) (x.2.2.2.2.2.2.2.1) (x.2.2.2.2.2.2.2.2)) (Lf := fun x => Lf (x.1) (x.2.1) (x.2.2.1) (x.2.2.2.1) (x.2.2.2.2.1) (x.2.2.2.2.2.1) (x.2.2.2.2.2.2.1) (x.2.2.2.2.2.2.2.1) (x.2.2.2.2.2.2.2.2)) (Sf := fun x => Sf (x.1) (x.2.1) (x.2.2.1) (x.2.2.2.1) (x.2.2.2.2.1) (x.2.2.2.2.2.1) (x.2.2.2.2.2.2.1) (x.2.2.2.2.2.2.2.1) (x.2.2.2.2.2.2.2.2)) (fun x => I (x.1) (x.2.1) (x.2.2.1) (x.2.2.2.1) (x.2.2.2.2.1) (x.2.2.2.2.2.1) (x.2.2.2.2.2.2.1) (x.2.2.2.2.2.2.2.1) (x.2.2.2.2.2.2.2.2)) (fun x => μ (x.1) (x.2.1) (x.2.2.1) (x.2.2.2.1) (x.2.2.2.2.1) (x.2.2.2.2.2.1) (x.2.2.2.2.2.2.1) (x.2.2.2.2.2.2.2.1) (x.2.2.2.2.2.2.2.2)) (fun x hx ih => step (x.1) (x.2.1) (x.2.2.1) (x.2.2.2.1) (x.2.2.2.2.1) (x.2.2.2.2.2.1) (x.2.2.2.2.2.2.1) (x.2.2.2.2.2.2.2.1) (x.2.2.2.2.2.2.2.2) hx (fun b1 b2 b3 b4 b5 b6 b7 b8 b9 hm hI => ih (b1, b2, b3, b4, b5, b6, b7, b8, b9) hm hI)) (a1, a2, a3, a4, a5, a6, a7, a8, a9) h
theorem ky_join9 {T1 T2 T3 T4 T5 T6 T7 T8 T9 : Type} {Wf : T1 → T2 → T3 → T4 → T5 → T6 → T7 → T8 → T9 → va_W} {Lf : T1 → T2 → T3 → T4 → T5 → T6 → T7 → T8 → T9 → List (Nat × Value)} {Sf : T1 → T2 → T3 → T4 → T5 → T6 → T7 → T8 → T9 → List Value} (J : T1 → T2 → T3 → T4 → T5 → T6 → T7 → T8 → T9 → Prop) (pcJ : Nat)
    (k : ∀ (a1 : T1) (a2 : T2) (a3 : T3) (a4 : T4) (a5 : T5) (a6 : T6) (a7 : T7) (a8 : T8) (a9 : T9), J a1 a2 a3 a4 a5 a6 a7 a8 a9 → kyW p l e R s m args below meth c D A nL cells slots Q (Wf a1 a2 a3 a4 a5 a6 a7 a8 a9) (Lf a1 a2 a3 a4 a5 a6 a7 a8 a9) pcJ (Sf a1 a2 a3 a4 a5 a6 a7 a8 a9)) (main : (∀ (a1 : T1) (a2 : T2) (a3 : T3) (a4 : T4) (a5 : T5) (a6 : T6) (a7 : T7) (a8 : T8) (a9 : T9), J a1 a2 a3 a4 a5 a6 a7 a8 a9 → kyW p l e R s m args below meth c D A nL cells slots Q (Wf a1 a2 a3 a4 a5 a6 a7 a8 a9) (Lf a1 a2 a3 a4 a5 a6 a7 a8 a9) pcJ (Sf a1 a2 a3 a4 a5 a6 a7 a8 a9)) → kyW p l e R s m args below meth c D A nL cells slots Q ws lv pc st) : kyW p l e R s m args below meth c D A nL cells slots Q ws lv pc st := main k
theorem ky_loop10 {T1 T2 T3 T4 T5 T6 T7 T8 T9 T10 : Type} {Wf : T1 → T2 → T3 → T4 → T5 → T6 → T7 → T8 → T9 → T10 → va_W} {Lf : T1 → T2 → T3 → T4 → T5 → T6 → T7 → T8 → T9 → T10 → List (Nat × Value)} {Sf : T1 → T2 → T3 → T4 → T5 → T6 → T7 → T8 → T9 → T10 → List Value} (I : T1 → T2 → T3 → T4 → T5 → T6 → T7 → T8 → T9 → T10 → Prop) (μ : T1 → T2 → T3 → T4 → T5 → T6 → T7 → T8 → T9 → T10 → Nat)
    (step : ∀ (a1 : T1) (a2 : T2) (a3 : T3) (a4 : T4) (a5 : T5) (a6 : T6) (a7 : T7) (a8 : T8) (a9 : T9) (a10 : T10), I a1 a2 a3 a4 a5 a6 a7 a8 a9 a10 → (∀ (b1 : T1) (b2 : T2) (b3 : T3) (b4 : T4) (b5 : T5) (b6 : T6) (b7 : T7) (b8 : T8) (b9 : T9) (b10 : T10), μ b1 b2 b3 b4 b5 b6 b7 b8 b9 b10 < μ a1 a2 a3 a4 a5 a6 a7 a8 a9 a10 → I b1 b2 b3 b4 b5 b6 b7 b8 b9 b10 → kyW p l e R s m args below meth c D A nL cells slots Q (Wf b1 b2 b3 b4 b5 b6 b7 b8 b9 b10) (Lf b1 b2 b3 b4 b5 b6 b7 b8 b9 b10) pc (Sf b1 b2 b3 b4 b5 b6 b7 b8 b9 b10)) → kyW p l e R s m args below meth c D A nL cells slots Q (Wf a1 a2 a3 a4 a5 a6 a7 a8 a9 a10) (Lf a1 a2 a3 a4 a5 a6 a7 a8 a9 a10) pc (Sf a1 a2 a3 a4 a5 a6 a7 a8 a9 a10)) (a1 : T1) (a2 : T2) (a3 : T3) (a4 : T4) (a5 : T5) (a6 : T6) (a7 : T7) (a8 : T8) (a9 : T9) (a10 : T10) (h : I a1 a2 a3 a4 a5 a6 a7 a8 a9 a10) : kyW p l e R s m args below meth c D A nL cells slots Q (Wf a1 a2 a3 a4 a5 a6 a7 a8 a9 a10) (Lf a1 a2 a3 a4 a5 a6 a7 a8 a9 a10) pc (Sf a1 a2 a3 a4 a5 a6 a7 a8 a9 a10) :=
  ky_loop (σ := (T1 × T2 × T3 × T4 × T5 × T6 × T7 × T8 × T9 × T10)) (Wf := fun x => Wf (x.1) (x.2.1) (x.2.2.1) (x.2.2.2.1) (x.2.2.2.2.1) (x.2.2.2.2.2.1) (x.2.2.2.2.2.2.1) (x.2.2.2.2.2.2.2.1) (x.2.2.2.2.2.2.2.2.1) (x.2.2.2.2.2.2.2.2.2)) (Lf := fun x => Lf (x.1) (x.2.1) (x.2.2.1) (x.2.2.2.1) (x.2.2.2.2.1) (x.2.2.2.2.2.1) (x.2.2.2.2.2.2.1) (x.2.2.2.2.2.2.2.1) (x.2.2.2.2.2.2.2.2.1) (x.2.2.2.2.2.2.2.2.2)) (Sf := fun x => Sf (x.1) (x.2.1) (x.2.2.1) (x.2.2.2.1) (x.2.2.2.2.1) (x.2.2.2.2.2.1) (x.2.2.2.2.2.2.1) (x.2.2.2.2.2.2.2.1) (x.2.2.2.2.2.2.2.2.1) (x.2.2.2.2.2.2.2.2.2)) (fun x => I (x.1) (x.2.1) (x.2.2.1) (x.2.2.2.1) (x.2.2.2.2.1) (x.2.2.2.2.2.1) (x.2.2.2.2.2.2.1) (x.2.2.2.2.2.2.2.1) (x.2.2.2.2.2.2.2.2.1) (x.2.2.2.2.2.2.2.2.2)) (fun x => μ (x.1) (x.2.1) (x.2.2.1) (x.2.2.2.1) (x.2.2.2.2.1) (x.2.2.2.2.2.1) (x.2.2.2.2.2.2.1) (x.2.2.2.2.2.2.2.1) (x.2.2.2.2.2.2.2.2.1) (x.2.2.2.2.2.2.2.2.2)) (fun x hx ih => step (x.1) (x.2.1) (x.2.2.1) (x.2.2.2.1) (x.2.2.2.2.1) (x.2.2.2.2.2.1) (x.2.2.2.2.2.2.1) (x.2.2.2.2.2.2.2.1) (x.2.2.2.2.2.2.2.2.1) (x.2.2.2.2.2.2.2.2.2) hx (fun b1 b2 b3 b4 b5 b6 b7 b8 b9 b10 hm hI => ih (b1, b2, b3, b4, b5, b6, b7, b8, b9, b10) hm hI)) (a1, a2, a3, a4, a5, a6, a7, a8, a9, a10) h
theorem ky_join10 {T1 T2 T3 T4 T5 T6 T7 T8 T9 T10 : Type} {Wf : T1 → T2 → T3 → T4 → T5 → T6 → T7 → T8 → T9 → T10 → va_W} {Lf : T1 → T2 → T3 → T4 → T5 → T6 → T7 → T8 → T9 → T10 → List (Nat × Value)} {Sf : T1 → T2 → T3 → T4 → T5 → T6 → T7 → T8 → T9 → T10 → List Value} (J : T1 → T2 → T3 → T4 → T5 → T6 → T7 → T8 → T9 → T10 → Prop) (pcJ : Nat)
    (k : ∀ (a1 : T1) (a2 : T2) (a3 : T3) (a4 : T4) (a5 : T5) (a6 : T6) (a7 : T7) (a8 : T8) (a9 : T9) (a10 : T10), J a1 a2 a3 a4 a5 a6 a7 a8 a9 a10 → kyW p l e R s m args below meth c D A nL cells slots Q (Wf a1 a2 a3 a4 a5 a6 a7 a8 a9 a10) (Lf a1 a2 a3 a4 a5 a6 a7 a8 a9 a10) pcJ (Sf a1 a2 a3 a4 a5 a6 a7 a8 a9 a10)) (main : (∀ (a1 : T1) (a2 : T2) (a3 : T3) (a4 : T4) (a5 : T5) (a6 : T6) (a7 : T7) (a8 : T8) (a9 : T9) (a10 : T10), J a1 a2 a3 a4 a5 a6 a7 a8 a9 a10 → kyW p l e R s m args below meth c D A nL cells slots Q (Wf a1 a2 a3 a4 a5 a6 a7 a8 a9 a10) (Lf a1 a2 a3 a4 a5 a6 a7 a8 a9 a10) pcJ (Sf a1 a2 a3 a4 a5 a6 a7 a8 a9 a10)) → kyW p l e R s m args below meth c D A nL cells slots Q ws lv pc st) : kyW p l e R s m args below meth c D A nL cells slots Q ws lv pc st := main k
theorem ky_loop11 {T1 T2 T3 T4 T5 T6 T7 T8 T9 T10 T11 : Type} {Wf : T1 → T2 → T3 → T4 → T5 → T6 → T7 → T8 → T9 → T10 → T11 → va_W} {Lf : T1 → T2 → T3 → T4 → T5 → T6 → T7 → T8 → T9 → T10 → T11 → List (Nat × Value)} {Sf : T1 → T2 → T3 → T4 → T5 → T6 → T7 → T8 → T9 → T10 → T11 → List Value} (I : T1 → T2 → T3 → T4 → T5 → T6 → T7 → T8 → T9 → T10 → T11 → Prop) (μ : T1 → T2 → T3 → T4 → T5 → T6 → T7 → T8 → T9 → T10 → T11 → Nat)
    (step : ∀ (a1 : T1) (a2 : T2) (a3 : T3) (a4 : T4) (a5 : T5) (a6 : T6) (a7 : T7) (a8 : T8) (a9 : T9) (a10 : T10) (a11 : T11), I a1 a2 a3 a4 a5 a6 a7 a8 a9 a10 a11 → (∀ (b1 : T1) (b2 : T2) (b3 : T3) (b4 : T4) (b5 : T5) (b6 : T6) (b7 : T7) (b8 : T8) (b9 : T9) (b10 : T10) (b11 : T11), μ b1 b2 b3 b4 b5 b6 b7 b8 b9 b10 b11 < μ a1 a2 a3 a4 a5 a6 a7 a8 a9 a10 a11 → I b1 b2 b3 b4 b5 b6 b7 b8 b9 b10 b11 → kyW p l e R s m args below meth c D A nL cells slots Q (Wf b1 b2 b3 b4 b5 b6 b7 b8 b9 b10 b11) (Lf b1 b2 b3 b4 b5 b6 b7 b8 b9 b10 b11) pc (Sf b1 b2 b3 b4 b5 b6 b7 b8 b9 b10 b11)) → kyW p l e R s m args below meth c D A nL cells slots Q (Wf a1 a2 a3 a4 a5 a6 a7 a8 a9 a10 a11) (Lf a1 a2 a3 a4 a5 a6 a7 a8 a9 a10 a11) pc (Sf a1 a2 a3 a4 a5 a6 a7 a8 a9 a10 a11)) (a1 : T1) (a2 : T2) (a3 : T3) (a4 : T4) (a5 : T5) (a6 : T6) (a7 : T7) (a8 : T8) (a9 : T9) (a10 : T10) (a11 : T11) (h : I a1 a2 a3 a4 a5 a6 a7 a8 a9 a10 a11) : kyW p l e R s m args below meth c D A nL cells slots Q (Wf a1 a2 a3 a4 a5 a6 a7 a8 a9 a10 a11) (Lf a1 a2 a3 a4 a5 a6 a7 a8 a9 a10 a11) pc (Sf a1 a2 a3 a4 a5 a6 a7 a8 a9 a10 a11) :=
  ky_loop (σ := (T1 × T2 × T3 × T4 × T5 × T6 × T7 × T8 × T9 × T10 × T11)) (Wf := fun x => Wf (x.1) (x.2.1) (x.2.2.1) (x.2.2.2.1) (x.2.2.2.2.1) (x.2.2.2.2.2.1) (x.2.2.2.2.2.2.1) (x.2.2.2.2.2.2.2.1) (x.2.2.2.2.2.2.2.2.1) (x.2.2.2.2.2.2.2.2.2.1) (x.2.2.2.2.2.2.2.2.2.2)) (Lf := fun x => Lf (x.1) (x.2.1) (x.2.2.1) (x.2.2.2.1) (x.2.2.2.2.1) (x.2.2.2.2.2.1) (x.2.2.2.2.2.2.1) (x.2.2.2.2.2.2.2.1) (x.2.2.2.2.2.2.2.2.1) (x.2.2.2.2.2.2.2.2.2.1) (x.2.2.2.2.2.2.2.2.2.2)) (Sf := fun x => Sf (x.1) (x.2.1) (x.2.2.1) (x.2.2.2.1) (x.2.2.2.2.1) (x.2.2.2.2.2.1) (x.2.2.2.2.2.2.1) (x.2.2.2.2.2.2.2.1) (x.2.2.2.2.2.2.2.2.1) (x.2.2.2.2.2.2.2.2.2.1) (x.2.2.2.2.2.2.2.2.2.2)) (fun x => I (x.1) (x.2.1) (x.2.2.1) (x.2.2.2.1) (x.2.2.2.2.1) (x.2.2.2.2.2.1) (x.2.2.2.2.2.2.1) (x.2.2.2.2.2.2.2.1) (x.2.2.2.2.2.2.2.2.1) (x.2.2.2.2.2.2.2.2.2.1) (x.2.2.2.2.2.2.2.2.2.2)) (fun x => μ (x.1) (x.2.1) (x.2.2.1) (x.2.2.2.1) (x.2.2.2.2.1) (x.2.2.2.2.2.1) (x.2.2.2.2.2.2.1) (x.2.2.2.2.2.2.2.1) (x.2.2.2.2.2.2.2.2.1) (x.2.2.2.2.2.2.2.2.2.1) (x.2.2.2.2.2.2.2.2.2.2)) (fun x hx ih => step (x.1) (x.2.1) (x.2.2.1) (x.2.2.2.1) (x.2.2.2.2.1) (x.2.2.2.2.2.1) (x.2.2.2.2.2.2.1) (x.2.2.2.2.2.2.2.1) (x.2.2.2.2.2.2.2.2.1) (x.2.2.2.2.2.2.2.2.2.1) (x.2.2.2.2.2.2.2.2.2.2) hx (fun b1 b2 b3 b4 b5 b6 b7 b8 b9 b10 b11 hm hI => ih (b1, b2, b3, b4, b5, b6, b7, b8, b9, b10, b11) hm hI)) (a1, a2, a3, a4, a5, a6, a7, a8, a9, a10, a11) h
theorem ky_join11 {T1 T2 T3 T4 T5 T6 T7 T8 T9 T10 T11 : Type} {Wf : T1 → T2 → T3 → T4 → T5 → T6 → T7 → T8 → T9 → T10 → T11 → va_W} {Lf : T1 → T2 → T3 → T4 → T5 → T6 → T7 → T8 → T9 → T10 → T11 → List (Nat × Value)} {Sf : T1 → T2 → T3 → T4 → T5 → T6 → T7 → T8 → T9 → T10 → T11 → List Value} (J : T1 → T2 → T3 → T4 → T5 → T6 → T7 → T8 → T9 → T10 → T11 → Prop) (pcJ : Nat)
    (k : ∀ (a1 : T1) (a2 : T2) (a3 : T3) (a4 : T4) (a5 : T5) (a6 : T6) (a7 : T7) (a8 : T8) (a9 : T9) (a10 : T10) (a11 : T11), J a1 a2 a3 a4 a5 a6 a7 a8 a9 a10 a11 → kyW p l e R s m args below meth c D A nL cells slots Q (Wf a1 a2 a3 a4 a5 a6 a7 a8 a9 a10 a11) (Lf a1 a2 a3 a4 a5 a6 a7 a8 a9 a10 a11) pcJ (Sf a1 a2 a3 a4 a5 a6 a7 a8 a9 a10 a11)) (main : (∀ (a1 : T1) (a2 : T2) (a3 : T3) (a4 : T4) (a5 : T5) (a6 : T6) (a7 : T7) (a8 : T8) (a9 : T9) (a10 : T10) (a11 : T11), J a1 a2 a3 a4 a5 a6 a7 a8 a9 a10 a11 → kyW p l e R s m args below meth c D A nL cells slots Q (Wf a1 a2 a3 a4 a5 a6 a7 a8 a9 a10 a11) (Lf a1 a2 a3 a4 a5 a6 a7 a8 a9 a10 a11) pcJ (Sf a1 a2 a3 a4 a5 a6 a7 a8 a9 a10 a11)) → kyW p l e R s m args below meth c D A nL cells slots Q ws lv pc st) : kyW p l e R s m args below meth c D A nL cells slots Q ws lv pc st := main k
theorem ky_loop12 {T1 T2 T3 T4 T5 T6 T7 T8 T9 T10 T11 T12 : Type} {Wf : T1 → T2 → T3 → T4 → T5 → T6 → T7 → T8 → T9 → T10 → T11 → T12 → va_W} {Lf : T1 → T2 → T3 → T4 → T5 → T6 → T7 → T8 → T9 → T10 → T11 → T12 → List (Nat × Value)} {Sf : T1 → T2 → T3 → T4 → T5 → T6 → T7 → T8 → T9 → T10 → T11 → T12 → List Value} (I : T1 → T2 → T3 → T4 → T5 → T6 → T7 → T8 → T9 → T10 → T11 → T12 → Prop) (μ : T1 → T2 → T3 → T4 → T5 → T6 → T7 → T8 → T9 → T10 → T11 → T12 → Nat)
    (step : ∀ (a1 : T1) (a2 : T2) (a3 : T3) (a4 : T4) (a5 : T5) (a6 : T6) (a7 : T7) (a8 : T8) (a9 : T9) (a10 : T10) (a11 : T11) (a12 : T12), I a1 a2 a3 a4 a5 a6 a7 a8 a9 a10 a11 a12 → (∀ (b1 : T1) (b2 : T2) (b3 : T3) (b4 : T4) (b5 : T5) (b6 : T6) (b7 : T7) (b8 : T8) (b9 : T9) (b10 : T10) (b11 : T11) (b12 : T12), μ b1 b2 b3 b4 b5 b6 b7 b8 b9 b10 b11 b12 < μ a1 a2 a3 a4 a5 a6 a7 a8 a9 a10 a11 a12 → I b1 b2 b3 b4 b5 b6 b7 b8 b9 b10 b11 b12 → kyW p l e R s m args below meth c D A nL cells slots Q (Wf b1 b2 b3 b4 b5 b6 b7 b8 b9 b10 b11 b12) (Lf b1 b2 b3 b4 b5 b6 b7 b8 b9 b10 b11 b12) pc (Sf b1 b2 b3 b4 b5 b6 b7 b8 b9 b10 b11 b12)) → kyW p l e R s m args below meth c D A nL cells slots Q (Wf a1 a2 a3 a4 a5 a6 a7 a8 a9 a10 a11 a12) (Lf a1 a2 a3 a4 a5 a6 a7 a8 a9 a10 a11 a12) pc (Sf a1 a2 a3 a4 a5 a6 a7 a8 a9 a10 a11 a12)) (a1 : T1) (a2 : T2) (a3 : T3) (a4 : T4) (a5 : T5) (a6 : T6) (a7 : T7) (a8 : T8) (a9 : T9) (a10 : T10) (a11 : T11) (a12 : T12) (h : I a1 a2 a3 a4 a5 a6 a7 a8 a9 a10 a11 a12) : kyW p l e R s m args below meth c D A nL cells slots Q (Wf a1 a2 a3 a4 a5 a6 a7 a8 a9 a10 a11 a12) (Lf a1 a2 a3 a4 a5 a6 a7 a8 a9 a10 a11 a12) pc (Sf a1 a2 a3 a4 a5 a6 a7 a8 a9 a10 a11 a12) :=
  ky_loop (σ := (T1 × T2 × T3 × T4 × T5 × T6 × T7 × T8 × T9 × T10 × T11 × T12)) (Wf := fun x => Wf (x.1) (x.2.1) (x.2.2.1) (x.2.2.2.1) (x.2.2.2.2.1) (x.2.2.2.2.2.1) (x.2.2.2.2.2.2.1) (x.2.2.2.2.2.2.2.1) (x.2.2.2.2.2.2.2.2.1) (x.2.2.2.2.2.2.2.2.2.1) (x.2.2.2.2.2.2.2.2.2.2.1) (x.2.2.2.2.2.2.2.2.2.2.2)) (Lf := fun x => Lf (x.1) (x.2.1) (x.2.2.1) (x.2.2.2.1) (x.2.2.2.2.1) (x.2.2.2.2.2.1) (x.2.2.2.2.2.2.1) (x.2.2.2.2.2.2.2.1) (x.2.2.2.2.2.2.2.2.1) (x.2.2.2.2.2.2.2.2.2.1) (x.2.2.2.2.2.2.2.2.2.2.1) (x.2.2.2.2.2.2.2.2.2.2.2)) (Sf := fun x => Sf (x.1) (x.2.1) (x.2.2.1) (x.2.2.2.1) (x.2.2.2.2.1) (x.2.2.2.2.2.1) (x.2.2.2.2.2.2.1) (x.2.2.2.2.2.2.2.1) (x.2.2.2.2.2.2.2.2.1) (x.2.2.2.2.2.2.2.2.2.1) (x.2.2.2.2.2.2.2.2.2.2.1) (x.2.2.2.2.2.2.2.2.2.2.2)) (fun x => I (x.1) (x.2.1) (x.2.2.1) (x.2.2.2.1) (x.2.2.2.2.1) (x.2.2.2.2.2.1) (x.2.2.2.2.2.2.1) (x.2.2.2.2.2.2.2.1) (x.2.2.2.2.2.2.2.2.1) (x.2.2.2.2.2.2.2.2.2.1) (x.2.2.2.2.2.2.2.2.2.2.1) (x.2.2.2.2.2.2.2.2.2.2.2)) (fun x => μ (x.1) (x.2.1) (x.2.2.1) (x.2.2.2.1) (x.2.2.2.2.1) (x.2.2.2.2.2.1) (x.2.2.2.2.2.2.1) (x.2.2.2.2.2.2.2.1) (x.2.2.2.2.2.2.2.2.1) (x.2.2.2.2.2.2.2.2.2.1) (x.2.2.2.2.2.2.2.2.2.2.1) (x.2.2.2.2.2.2.2.2.2.2.2)) (fun x hx ih => step (x.1) (x.2.1) (x.2.2.1) (x.2.2.2.1) (x.2.2.2.2.1) (x.2.2.2.2.2.1) (x.2.2.2.2.2.2.1) (x.2.2.2.2.2.2.2.1) (x.2.2.2.2.2.2.2.2.1) (x.2.2.2.2.2.2.2.2.2.1) (x.2.2.2.2.2.2.2.2.2.2.1) (x.2.2.2.2.2.2.2.2.2.2.2) hx (fun b1 b2 b3 b4 b5 b6 b7 b8 b9 b10 b11 b12 hm hI => ih (b1, b2, b3, b4, b5, b6, b7, b8, b9, b10, b11, b12) hm hI)) (a1, a2, a3, a4, a5, a6, a7, a8, a9, a10, a11, a12) h
theorem ky_join12 {T1 T2 T3 T4 T5 T6 T7 T8 T9 T10 T11 T12 : Type} {Wf : T1 → T2 → T3 → T4 → T5 → T6 → T7 → T8 → T9 → T10 → T11 → T12 → va_W} {Lf : T1 → T2 → T3 → T4 → T5 → T6 → T7 → T8 → T9 → T10 → T11 → T12 → List (Nat × Value)} {Sf : T1 → T2 → T3 → T4 → T5 → T6 → T7 → T8 → T9 → T10 → T11 → T12 → List Value} (J : T1 → T2 → T3 → T4 → T5 → T6 → T7 → T8 → T9 → T10 → T11 → T12 → Prop) (pcJ : Nat)
    (k : ∀ (a1 : T1) (a2 : T2) (a3 : T3) (a4 : T4) (a5 : T5) (a6 : T6) (a7 : T7) (a8 : T8) (a9 : T9) (a10 : T10) (a11 : T11) (a12 : T12), J a1 a2 a3 a4 a5 a6 a7 a8 a9 a10 a11 a12 → kyW p l e R s m args below meth c D A nL cells slots Q (Wf a1 a2 a3 a4 a5 a6 a7 a8 a9 a10 a11 a12) (Lf a1 a2 a3 a4 a5 a6 a7 a8 a9 a10 a11 a12) pcJ (Sf a1 a2 a3 a4 a5 a6 a7 a8 a9 a10 a11 a12)) (main : (∀ (a1 : T1) (a2 : T2) (a3 : T3) (a4 : T4) (a5 : T5) (a6 : T6) (a7 : T7) (a8 : T8) (a9 : T9) (a10 : T10) (a11 : T11) (a12 : T12), J a1 a2 a3 a4 a5 a6 a7 a8 a9 a10 a11 a12 → kyW p l e R s m args below meth c D A nL cells slots Q (Wf a1 a2 a3 a4 a5 a6 a7 a8 a9 a10 a11 a12) (Lf a1 a2 a3 a4 a5 a6 a7 a8 a9 a10 a11 a12) pcJ (Sf a1 a2 a3 a4 a5 a6 a7 a8 a9 a10 a11 a12)) → kyW p l e R s m args below meth c D A nL cells slots Q ws lv pc st) : kyW p l e R s m args below meth c D A nL cells slots Q ws lv pc st := main k
theorem ky_objInit (C : kyC p s m args c cc nL own Ts D cI cS A) {idx a : Nat} (hlink : Cond.methodLink own idx Lib.objectInit ∈ Ts) (hinst : Cond.instanceMethod Lib.objectInit ∈ Ts) (hcode : Cond.code Lib.objectInit ⟨#[0xb1]⟩ 1 none ∈ Ts) (hd : decode cc pc = .ok (.invokespecial idx, 3)) (hframes : 1 ≤ R.frames) (hlocals : (st.map fun v => v.category).sum + 12 ≤ R.locals)
    (kk : kyW p l e R s m args below meth c D A nL cells slots Q ws lv (pc + 3) st) : kyW p l e R s m args below meth c D A nL cells slots Q ws lv pc (.ref a :: st) :=
  fun H locs ls hP hD hS hl => W.objInit C.1 C.2.1 C.2.2.2.1 (C.2.2.2.2.1 _ hlink) (C.2.2.2.2.1 _ hinst) (C.2.2.2.2.1 _ hcode) rfl (hl.1.trans C.2.2.1.symm) rfl hd hframes (by show 2 * 0 + _ + 12 ≤ _; omega) (W.eq (g2 := F0 m (pc + 3) ls st) rfl (kk H locs ls hP hD hS hl))
theorem ky_callV0 (C : kyC p s m args c cc nL own Ts D cI cS A) {y : MethodName} {wsn wsn' : List Cond} {rm : Room} {maxL index : Nat} {ret : Option FieldType} {bytes : ByteArray} {Cn : String} {b : Nat} {As rest : List Value} {wc : va_W} {post : Option Value → va_W → Prop} (n : Nat) (hM : kyM l y wsn rm D cI cS (.ref b :: As) wc 0 0 post) (hG : GoodIn Ts (wsV own index Cn y wsn)) (hwn : wsn = Cond.code y bytes maxL ret :: wsn') (hrc : rm.cells = 0) (hrs : rm.slots = 0) (hd : y.cls = Cn ∧ y.cls ≠ "java/lang/invoke/MethodHandle" ∧ y.cls ≠ "java/lang/invoke/VarHandle" ∧ (parseMethodDescriptor y.desc).map (fun d => d.parameters.length) = some n) (q0 ci : Nat) {fs : List Value} {r : vw_C} (hb0 : ws[q0]? = some (b, .inr (ci, fs))) (hr0 : vwCl[ci]? = some r) (hrn : r.1 = Cn) (hR : rm.frames + 1 ≤ R.frames ∧ 8 + (maxL + 11) + rm.locals ≤ R.locals) (hn : As.length = n) (hst : st = As.reverse ++ .ref b :: rest) (hroom : (rest.map fun v => v.category).sum ≤ 8) (hdg : decode cc pc = .ok (.invokevirtual index, 3)) (isC : List Nat) (hC : isC.map (fun i => ws[i]?) = wc.map some) (hnd : va_nd isC = true)
    (kk : ∀ (v : Option Value) (w1 : va_W), post v w1 → kyW p l e R s m args below meth c D A nL cells slots Q (kyRep ws isC w1) lv (pc + 3) (v.toList ++ rest)) (hf : cells ≤ R.cells ∧ slots ≤ R.slots := by exact ⟨Nat.le_of_ble_eq_true rfl, Nat.le_of_ble_eq_true rfl⟩) : kyW p l e R s m args below meth c D A nL cells slots Q ws lv pc st :=
  ky_callV C n hM hG hwn hrc hrs hd q0 ci hb0 hr0 hrn hR hn hst hroom hdg hf isC hC hnd kk
theorem ky_callS0 (C : kyC p s m args c cc nL own Ts D cI cS A) {y : MethodName} {wsn wsn' : List Cond} {rm : Room} {maxL index : Nat} {ret : Option FieldType} {bytes : ByteArray}  {As rest : List Value} {wc : va_W} {post : Option Value → va_W → Prop} (n : Nat) (hM : kyM l y wsn rm D cI cS As wc 0 0 post) (hG : GoodIn Ts (va_wsS own index y wsn)) (hwn : wsn = Cond.code y bytes maxL ret :: wsn') (hrc : rm.cells = 0) (hrs : rm.slots = 0) (hd : y.cls ≠ "java/lang/invoke/MethodHandle" ∧ y.cls ≠ "java/lang/invoke/VarHandle" ∧ (parseMethodDescriptor y.desc).map (fun d => d.parameters.length) = some n) (hR : rm.frames + 1 ≤ R.frames ∧ 8 + (maxL + 11) + rm.locals ≤ R.locals) (hn : As.length = n) (hst : st = As.reverse ++ rest) (hroom : (rest.map fun v => v.category).sum ≤ 8) (hdg : decode cc pc = .ok (.invokestatic index, 3)) (isC : List Nat) (hC : isC.map (fun i => ws[i]?) = wc.map some) (hnd : va_nd isC = true)
    (kk : ∀ (v : Option Value) (w1 : va_W), post v w1 → kyW p l e R s m args below meth c D A nL cells slots Q (kyRep ws isC w1) lv (pc + 3) (v.toList ++ rest)) (hf : cells ≤ R.cells ∧ slots ≤ R.slots := by exact ⟨Nat.le_of_ble_eq_true rfl, Nat.le_of_ble_eq_true rfl⟩) : kyW p l e R s m args below meth c D A nL cells slots Q ws lv pc st :=
  ky_callS C n hM hG hwn hrc hrs hd hR hn hst hroom hdg hf isC hC hnd kk
end KY
theorem kn_le {a b : Nat} (ha : a < 2 ^ 31) (hb : b < 2 ^ 31) (h : nI a ≤ nI b) : a ≤ b := (nI_leI ha hb).mp h
theorem kn_nle {a b : Nat} (ha : a < 2 ^ 31) (hb : b < 2 ^ 31) (h : ¬ nI a ≤ nI b) : b < a := by
  rcases Nat.lt_or_ge b a with q | q
  · exact q
  · exact absurd ((nI_leI ha hb).mpr q) h
theorem kn_lt {a b : Nat} (ha : a < 2 ^ 31) (hb : b < 2 ^ 31) (h : nI a < nI b) : a < b := (nI_ltI ha hb).mp h
theorem kn_nlt {a b : Nat} (ha : a < 2 ^ 31) (hb : b < 2 ^ 31) (h : ¬ nI a < nI b) : b ≤ a := by
  rcases Nat.lt_or_ge a b with q | q
  · exact absurd ((nI_ltI ha hb).mpr q) h
  · exact q
theorem kn_eq {a b : Nat} (ha : a < 2 ^ 31) (hb : b < 2 ^ 31) (h : nI a = nI b) : a = b := (nI_eq ha hb).mp h
theorem kn_neq {a b : Nat} (ha : a < 2 ^ 31) (hb : b < 2 ^ 31) (h : ¬ nI a = nI b) : ¬ a = b := fun q => h (by rw [q])
theorem kt_cases (x : Int32) (hi : Nat) (hh : hi < 2 ^ 30) : (x.toInt < 0 ∨ (hi : Int) < x.toInt) ∨ ∃ j : Nat, j < hi + 1 ∧ x = nI j := by
  rcases pk_ix x (n := hi + 1) (by omega) with h | h | h
  · exact Or.inl (Or.inl (by have := Int32.lt_iff_toInt_lt.mp h; simpa using this))
  · refine Or.inl (Or.inr ?_)
    have := Int32.le_iff_toInt_le.mp h
    rw [nI_toInt (by omega)] at this
    omega
  · exact Or.inr h
theorem kt_2 {j : Nat} (h : j < 2) : j = 0 ∨ j = 1 := by omega
theorem kt_3 {j : Nat} (h : j < 3) : j = 0 ∨ j = 1 ∨ j = 2 := by omega
theorem kt_5 {j : Nat} (h : j < 5) : j = 0 ∨ j = 1 ∨ j = 2 ∨ j = 3 ∨ j = 4 := by omega
theorem kt_6 {j : Nat} (h : j < 6) : j = 0 ∨ j = 1 ∨ j = 2 ∨ j = 3 ∨ j = 4 ∨ j = 5 := by omega
/-- an index that was looked at -/
theorem kin_of {i : Int32} {n : Nat} (hn : n < 2 ^ 31) (h0 : ¬ i < 0) (h1 : ¬ nI n ≤ i) : vp_in i n := by
  rcases pk_ix i hn with h | h | ⟨j, hj, rfl⟩
  · exact absurd h h0
  · exact absurd h h1
  · exact vp_in_nI hj hn
