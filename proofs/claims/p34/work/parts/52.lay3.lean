/-! part 52: rows for the law's methods: constants, and contracts of methods that read the script -/
section K3
variable {p : Program} {l : Launch} {e : Env} {R : Room} {s : State} {m : MethodId} {args : Array Value} {below : List Frame} {meth : Method} {c : Code}
variable {D : va_G} {cI cS : ClassId} {A : Nat → Prop} {nL cells slots : Nat} {Q : State → Prop} {cc : ByteArray} {own : String} {Ts : List Cond}
variable {ws : va_W} {lv : List (Nat × Value)} {pc : Nat} {st : List Value}
theorem ky_ldc (C : kyC p s m args c cc nL own Ts D cI cS A) {index : Nat} {v : Int32} (hin : Jvm.Cond.constant own index v ∈ Ts) (hdg : decode cc pc = .ok (.ldc index, 2)) (kk : kyW p l e R s m args below meth c D A nL cells slots Q ws lv (pc + 2) (.int v :: st)) : kyW p l e R s m args below meth c D A nL cells slots Q ws lv pc st :=
  fun H locs ls hP hD hS hl => lv_ldc C.1 C.2.1 C.2.2.2.1 (C.2.2.2.2.1 _ hin) hdg (kk H locs ls hP hD hS hl)
/-- a contract of a body that reads the script at b: it is known at its start, and no cell of the world -/
def kyPreX (D : va_G) (cI cS : ClassId) (b L : Nat) (xs : Nat → Int32) (sz : Nat) (ws : va_W) : State → Prop := fun U => kyPre D cI cS sz ws U ∧ va_X b L xs U U.heap ∧ b < U.heap.size ∧ ∀ (k : Nat) (q : Nat × va_E), ws[k]? = some q → q.1 ≠ b
def kyMX (l : Launch) (y : MethodName) (wsn : List Cond) (rm : Room) (D : va_G) (cI cS : ClassId) (b L : Nat) (xs : Nat → Int32) (As : List Value) (ws : va_W) (mc ms : Nat) (post : Option Value → va_W → Prop) : Prop :=
  ∀ sz : Nat, Met l y wsn rm (va_Pc As (kyPreX D cI cS b L xs sz ws)) (kyQ D cI cS ws sz post) mc ms (va_A ws sz)
theorem kyBlindX {As : List Value} {b L : Nat} {xs : Nat → Int32} {sz : Nat} {ws : va_W} : FrameBlind (va_Pc As (kyPreX D cI cS b L xs sz ws)) := by
  intro a U g mk q
  obtain ⟨q0, ⟨q1, qP, qK, qD⟩, qX, qb, qn⟩ := q
  exact ⟨q0, ⟨q1, qP, va_K.moved (u := U) (U := U.calling g mk a) (Vm.Alike.refl U.vm) qK, qD⟩, va_X.moved (u := U) (U := U.calling g mk a) (Vm.Alike.refl U.vm) qX, qb, qn⟩
theorem ky_startX {y : MethodName} {wsn wsn' : List Cond} {rm : Room} {ret : Option FieldType} {b L : Nat} {xs : Nat → Int32} {As : List Value} {ws0 : va_W} {mc ms : Nat} {post : Option Value → va_W → Prop} (hy : plainName y.cls = true) (hw : wsn = Cond.code y cc nL ret :: wsn') (hcls : y.cls = own) (hlen : (lg_sl As).length ≤ nL)
    (body : ∀ (p : Program) (e : Env) (s : State) (m : MethodId) (args : Array Value) (below : List Frame) (meth : Method) (c : Code), va_X b L xs s s.heap → b < s.heap.size → ¬ va_A ws0 s.heap.size b → kyC p s m args c cc nL own wsn D cI cS (va_A ws0 s.heap.size) → meth.sig.returnType = ret → meth.locks = false → meth.name = y.name →
      kyW p l e rm s m args below meth c D (va_A ws0 s.heap.size) nL 0 0 (kyE D cI cS below args s ws0 post mc ms) ws0 (lv_args 0 As) 0 []) : kyMX l y wsn rm D cI cS b L xs As ws0 mc ms post := by
  intro sz
  refine Met.ofW (cc := cc) (maxL := nL) (ret := ret) hy hw ?_
  intro p e s m args below meth c s₁ B hml hv
  obtain ⟨rfl, ⟨hsz, hP, hK, hD0⟩, hX, hbl, hbn⟩ := hv
  subst hsz
  have hown : s.vm.findClass own = some m.cls := hcls ▸ findClass_of_methodNamed B.named
  have C : kyC p s m As.toArray c cc nL own wsn D cI cS (va_A ws0 s.heap.size) := ⟨B.exec, B.bytes, hml, hown, atoms_spec (ws := wsn) B.pre, hK, fun q h => Or.inr h⟩
  have hbA : ¬ va_A ws0 s.heap.size b := fun z => by
    rcases z with ⟨k, ev, hk⟩ | z
    · exact hbn k (b, ev) hk rfl
    · exact absurd hbl (Nat.not_lt.mpr z)
  have hk := body p e s m As.toArray below meth c hX hbl hbA C B.returns B.notSynchronized (name_of_methodNamed B.named B.method).1
  rw [lg_entry_eq]
  exact hk s.heap [] _ hP hD0.self va_S.rf (lv_entry As hlen)
theorem ky_callSX (C : kyC p s m args c cc nL own Ts D cI cS A) {b L : Nat} {xs : Nat → Int32} (hX : va_X b L xs s s.heap) (hbl : b < s.heap.size) (hbA : ¬ A b) {y : MethodName} {wsn wsn' : List Cond} {rm : Room} {maxL index mc ms : Nat} {ret : Option FieldType} {bytes : ByteArray} {As rest : List Value} {wc : va_W} {post : Option Value → va_W → Prop} (n : Nat) (hM : kyMX l y wsn rm D cI cS b L xs As wc mc ms post) (hG : GoodIn Ts (va_wsS own index y wsn)) (hwn : wsn = Cond.code y bytes maxL ret :: wsn') (hrc : rm.cells = mc) (hrs : rm.slots = ms) (hd : y.cls ≠ "java/lang/invoke/MethodHandle" ∧ y.cls ≠ "java/lang/invoke/VarHandle" ∧ (parseMethodDescriptor y.desc).map (fun d => d.parameters.length) = some n) (hR : rm.frames + 1 ≤ R.frames ∧ 8 + (maxL + 11) + rm.locals ≤ R.locals) (hn : As.length = n) (hst : st = As.reverse ++ rest) (hroom : (rest.map fun v => v.category).sum ≤ 8) (hdg : decode cc pc = .ok (.invokestatic index, 3)) (hf : cells + mc ≤ R.cells ∧ slots + ms ≤ R.slots) (isC : List Nat) (hC : isC.map (fun i => ws[i]?) = wc.map some) (hnd : va_nd isC = true)
    (kk : ∀ (v : Option Value) (w1 : va_W), post v w1 → kyW p l e R s m args below meth c D A nL (cells + mc) (slots + ms) Q (kyRep ws isC w1) lv (pc + 3) (v.toList ++ rest)) : kyW p l e R s m args below meth c D A nL cells slots Q ws lv pc st := by
  intro H locs ls hP hD hS hl
  obtain ⟨hx, hb, hml, hown, hts, hK, hA⟩ := C
  subst hst
  have hPc := kySub hP isC hC
  have hDc : va_D (fun _ => True) wc := kyD hD isC hC hnd
  have hF := va_free hD hS hA isC hC
  have hXH : va_X b L xs s H := hX.kept (hS.2.1 b hbl hbA)
  have hbH : b < H.size := Nat.lt_of_lt_of_le hbl hS.1
  have hbw : ∀ (k : Nat) (q : Nat × va_E), wc[k]? = some q → q.1 ≠ b := fun k q hk z => hbA (z ▸ hF q.1 (va_A.in hk))
  have hrun : va_Run p l e R s m args below meth c H locs cells slots mc ms (F0 m pc ls (As.reverse ++ rest)) rest (kyQ D cI cS wc H.size post As.toArray) (va_A wc H.size) := va_runS (rest := rest) ⟨hx, hb, hml, hown, hts⟩ (hM H.size) (va_cwS n hts hG hwn hrc hrs hd hR) ⟨kyBlindX, fun U hU hW => ⟨rfl, ⟨by rw [hU], by rw [hU]; exact hPc, va_K.moved hW.alike hK, hDc⟩, by rw [hU]; exact va_X.moved hW.alike hXH, by rw [hU]; exact hbH, hbw⟩⟩ rfl hn hl.1 rfl (lv_room hroom) hdg hf
  intro T hT X
  obtain ⟨v, st₀, t, T', L', h0, X', hL, e1, e2, ⟨⟨v', w1, hv, hp, hlen, hP1, hD1⟩, hz, hk⟩, stp⟩ := hrun T hT X
  cases hv
  rw [h0] at hz hk
  obtain ⟨hPn, hDn⟩ := kyRep_world (H1 := T'.heap) hP hD isC hC hlen (fun q h1 h2 => by rw [e1]; exact hk q h1 h2) hF (by rw [e1]; exact hP1) hD1
  obtain ⟨t2, a1, b1⟩ := kk v w1 hp T'.heap (locs ++ L') ls hPn hDn ⟨Nat.le_trans hS.1 (by rw [e1]; exact hz), fun q h1 h2 => by rw [e1, hk q (Nat.lt_of_lt_of_le h1 hS.1) (fun z => h2 (hF q z))]; exact hS.2.1 q h1 h2, fun q hq => (List.mem_append.mp hq).elim (hS.2.2 q) (fun h => hF _ (hL q h))⟩ hl T' rfl X'
  exact ⟨t2, stp t2 a1, b1⟩
theorem ky_callSX0 (C : kyC p s m args c cc nL own Ts D cI cS A) {b L : Nat} {xs : Nat → Int32} (hX : va_X b L xs s s.heap) (hbl : b < s.heap.size) (hbA : ¬ A b) {y : MethodName} {wsn wsn' : List Cond} {rm : Room} {maxL index : Nat} {ret : Option FieldType} {bytes : ByteArray} {As rest : List Value} {wc : va_W} {post : Option Value → va_W → Prop} (n : Nat) (hM : kyMX l y wsn rm D cI cS b L xs As wc 0 0 post) (hG : GoodIn Ts (va_wsS own index y wsn)) (hwn : wsn = Cond.code y bytes maxL ret :: wsn') (hrc : rm.cells = 0) (hrs : rm.slots = 0) (hd : y.cls ≠ "java/lang/invoke/MethodHandle" ∧ y.cls ≠ "java/lang/invoke/VarHandle" ∧ (parseMethodDescriptor y.desc).map (fun d => d.parameters.length) = some n) (hR : rm.frames + 1 ≤ R.frames ∧ 8 + (maxL + 11) + rm.locals ≤ R.locals) (hn : As.length = n) (hst : st = As.reverse ++ rest) (hroom : (rest.map fun v => v.category).sum ≤ 8) (hdg : decode cc pc = .ok (.invokestatic index, 3)) (isC : List Nat) (hC : isC.map (fun i => ws[i]?) = wc.map some) (hnd : va_nd isC = true)
    (kk : ∀ (v : Option Value) (w1 : va_W), post v w1 → kyW p l e R s m args below meth c D A nL cells slots Q (kyRep ws isC w1) lv (pc + 3) (v.toList ++ rest)) (hf : cells ≤ R.cells ∧ slots ≤ R.slots := by exact ⟨Nat.le_of_ble_eq_true rfl, Nat.le_of_ble_eq_true rfl⟩) : kyW p l e R s m args below meth c D A nL cells slots Q ws lv pc st :=
  ky_callSX C hX hbl hbA n hM hG hwn hrc hrs hd hR hn hst hroom hdg hf isC hC hnd kk
end K3
