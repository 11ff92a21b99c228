/-! part 50: rows for what makes cells, and for the law's own road -/
section K2
variable {p : Program} {l : Launch} {e : Env} {R : Room} {s : State} {m : MethodId} {args : Array Value} {below : List Frame} {meth : Method} {c : Code}
variable {D : va_G} {cI cS : ClassId} {A : Nat → Prop} {nL cells slots : Nat} {Q : State → Prop} {cc : ByteArray} {own : String} {Ts : List Cond}
variable {ws : va_W} {lv : List (Nat × Value)} {pc : Nat} {st : List Value}
theorem ky_new (C : kyC p s m args c cc nL own Ts D cI cS A) {Cn : String} {T : u_T} {N ci index : Nat} (hin : ∀ w ∈ u_ws Cn T N, w ∈ Ts) (ty0 : Nat → FieldType) (hty : ∀ k, k < N → parseFieldDescriptor (T k).2.2.1 = some (ty0 k)) (hcl : Cond.classLink own index Cn ∈ Ts) (hinst : Cond.instantiable Cn N ∈ Ts) (hini : Cond.initialized Cn ∈ Ts) (hc : vwCl[ci]? = some (Cn, T, N)) {fs : List Value} (hfs : ∀ j, j < N → defaultValue (ty0 j) = vp_V fs j) (hcells : cells + 1 ≤ R.cells) (hslots : slots + N ≤ R.slots) (hdg : decode cc pc = .ok (.new index, 3))
    (kk : ∀ q : Nat, kyW p l e R s m args below meth c D A nL (cells + 1) (slots + N) Q (ws ++ [(q, .inr (ci, fs))]) lv (pc + 3) (.ref q :: st)) : kyW p l e R s m args below meth c D A nL cells slots Q ws lv pc st :=
  fun H locs ls hP hD hS hl => va_new C.1 C.2.1 C.2.2.2.2.1 hin ty0 hty C.2.2.2.1 (C.2.2.2.2.1 _ hcl) (C.2.2.2.2.1 _ hinst) (C.2.2.2.2.1 _ hini) C.2.2.2.2.2.1 hP hD hS C.2.2.2.2.2.2 hc hfs hcells hslots hdg (fun q H1 hP1 hD1 hS1 => kk q H1 locs ls hP1 hD1 hS1 hl)
theorem ky_newa (C : kyC p s m args c cc nL own Ts D cI cS A) (harr : Cond.arrayClass .int ∈ Ts) {n : Int32} {N' : Nat} (hn : ¬ n < 0) (hN : n.toNatClampNeg = N') (hbytes : N' * 4 ≤ 536870912) (hcells : cells + 1 ≤ R.cells) (hslots : slots + N' ≤ R.slots) (hdg : decode cc pc = .ok (.newarray .int, 2))
    (kk : ∀ q : Nat, kyW p l e R s m args below meth c D A nL (cells + 1) (slots + N') Q (ws ++ [(q, .inl (cI, N', .inl (fun _ => 0)))]) lv (pc + 2) (.ref q :: st)) : kyW p l e R s m args below meth c D A nL cells slots Q ws lv pc (.int n :: st) := by
  intro H locs ls hP hD hS hl
  obtain ⟨hx, hb, hml, hown, hts, hK, hA⟩ := C
  refine va_newa (atype := .int) (ty := .int) (a0 := (N', .inl (fun _ => 0))) hx hb (hts _ harr) rfl hK hP hD hS hA (fun cA => rfl) hn hN hbytes hcells hslots hdg (fun q cA H1 hK1 hP1 hD1 hS1 => ?_)
  have e1 : cA = cI := by
    have h1 := va_nm_int (hK.2 0 _ rfl).2
    have h2 := va_nm_int (hK1.2 2 _ rfl).2
    exact Option.some.inj (h2.symm.trans h1)
  rw [e1] at hP1 hD1
  exact kk q H1 locs ls hP1 hD1 hS1 hl
theorem ky_newq (C : kyC p s m args c cc nL own Ts D cI cS A) {index : Nat} (hcl : Cond.classLink own index RX4 ∈ Ts) (hover : va_AO RX4 s) {n : Int32} {N' : Nat} (hn : ¬ n < 0) (hN : n.toNatClampNeg = N') (hbytes : N' * 4 ≤ 536870912) (hcells : cells + 1 ≤ R.cells) (hslots : slots + N' ≤ R.slots) (hdg : decode cc pc = .ok (.anewarray index, 3))
    (kk : ∀ q : Nat, kyW p l e R s m args below meth c D A nL (cells + 1) (slots + N') Q (ws ++ [(q, .inl (cS, N', .inr (.inr (.inr (.inr (fun _ => none))))))]) lv (pc + 3) (.ref q :: st)) : kyW p l e R s m args below meth c D A nL cells slots Q ws lv pc (.int n :: st) := by
  intro H locs ls hP hD hS hl
  obtain ⟨hx, hb, hml, hown, hts, hK, hA⟩ := C
  refine va_newq hx hb hown (hts _ hcl) hover hK hP hD hS hA hn hN hbytes hcells hslots hdg (fun q cA H1 hK1 hP1 hD1 hS1 => ?_)
  have e1 : cA = cS := by
    have h1 := va_nmO (hK.2 1 _ rfl).2 rfl
    have h2 := va_nmO (hK1.2 2 _ rfl).2 rfl
    exact Option.some.inj (h2.symm.trans h1)
  rw [e1] at hP1 hD1
  exact kk q H1 locs ls hP1 hD1 hS1 hl
theorem ky_astq (C : kyC p s m args c cc nL own Ts D cI cS A) (q0 qk : Nat) {a n k v : Nat} {f : Nat → Option Nat} {vs : List Value} (ha : ws[q0]? = some (a, .inl (cS, n, .inr (.inr (.inr (.inr f)))))) (hv : ws[qk]? = some (v, .inr (4, vs))) (hk : k < n) (hn : n < 2 ^ 31) (hdg : decode cc pc = .ok (.aastore, 1)) {ws' : va_W} (hw : ws.set q0 (a, .inl (cS, n, .inr (.inr (.inr (.inr (va_up f k (some v))))))) = ws')
    (kk : kyW p l e R s m args below meth c D A nL cells slots Q ws' lv (pc + 1) st) : kyW p l e R s m args below meth c D A nL cells slots Q ws lv pc (.ref v :: .int (nI k) :: .ref a :: st) :=
  fun H locs ls hP hD hS hl => va_astq C.1 C.2.1 C.2.2.2.2.2.1 hP hD hS q0 1 qk 4 ha rfl hv rfl (vp_in_nI hk hn) hdg (fun H1 locs1 hP1 hD1 hS1 => by
    rw [nI_clamp (Nat.lt_trans hk hn)] at hP1 hD1
    exact kk H1 locs1 ls (hw ▸ hP1) (hw ▸ hD1) hS1 hl)
theorem kyAtq {D : va_G} {a : Nat} {cA : ClassId} {n : Nat} {f g : Nat → Option Nat} {H : Heap} (hfg : ∀ j, j < n → f j = g j) (h : va_at D vwCl (a, .inl (cA, n, .inr (.inr (.inr (.inr f))))) H) : va_at D vwCl (a, .inl (cA, n, .inr (.inr (.inr (.inr g))))) H := by
  have e : vp_cell cA (n, .inr (.inr (.inr (.inr f)))) = vp_cell cA (n, .inr (.inr (.inr (.inr g)))) := by
    rw [vp_cell_q, vp_cell_q]
    unfold arrV
    congr 2
    funext j
    show va_rf (f j.val) = va_rf (g j.val)
    rw [hfg j.val j.isLt]
  show H[a]? = some (vp_cell cA (n, .inr (.inr (.inr (.inr g)))))
  rw [← e]
  exact h
theorem ky_extq (q0 : Nat) {a n : Nat} {cA : ClassId} {f g : Nat → Option Nat} (ha : ws[q0]? = some (a, .inl (cA, n, .inr (.inr (.inr (.inr f)))))) (hfg : ∀ j, j < n → f j = g j) {ws' : va_W} (hw : ws.set q0 (a, .inl (cA, n, .inr (.inr (.inr (.inr g))))) = ws') (kk : kyW p l e R s m args below meth c D A nL cells slots Q ws' lv pc st) : kyW p l e R s m args below meth c D A nL cells slots Q ws lv pc st :=
  fun H locs ls hP hD hS hl => kk H locs ls (hw ▸ hP.set hD ha (kyAtq hfg (hP q0 _ ha)) (fun _ _ => rfl)) (hw ▸ hD.set ha) hS hl
theorem ky_perm (isC : List Nat) {ws' : va_W} (hC : isC.map (fun i => ws[i]?) = ws'.map some) (hnd : va_nd isC = true) (kk : kyW p l e R s m args below meth c D A nL cells slots Q ws' lv pc st) : kyW p l e R s m args below meth c D A nL cells slots Q ws lv pc st :=
  fun H locs ls hP hD hS hl => kk H locs ls (kySub hP isC hC) (hD.sub isC hnd hC) hS hl
/-- the script -/
theorem ky_sld (C : kyC p s m args c cc nL own Ts D cI cS A) {b L : Nat} {xs : Nat → Int32} (hX : va_X b L xs s s.heap) (hbl : b < s.heap.size) (hbA : ¬ A b) {k : Nat} (hk : k < L) (hL : L < 2 ^ 31) (hdg : decode cc pc = .ok (.iaload, 1)) (kk : kyW p l e R s m args below meth c D A nL cells slots Q ws lv (pc + 1) (.int (xs k) :: st)) : kyW p l e R s m args below meth c D A nL cells slots Q ws lv pc (.int (nI k) :: .ref b :: st) :=
  fun H locs ls hP hD hS hl => va_sld C.1 C.2.1 hX hbl hbA hS (vp_in_nI hk hL) hdg (by rw [nI_clamp (Nat.lt_trans hk hL)]; exact kk H locs ls hP hD hS hl)
theorem ky_slen (C : kyC p s m args c cc nL own Ts D cI cS A) {b L : Nat} {xs : Nat → Int32} (hX : va_X b L xs s s.heap) (hbl : b < s.heap.size) (hbA : ¬ A b) (hdg : decode cc pc = .ok (.arraylength, 1)) (kk : kyW p l e R s m args below meth c D A nL cells slots Q ws lv (pc + 1) (.int (nI L) :: st)) : kyW p l e R s m args below meth c D A nL cells slots Q ws lv pc (.ref b :: st) :=
  fun H locs ls hP hD hS hl => va_slen C.1 C.2.1 hX hbl hbA hS hdg (kk H locs ls hP hD hS hl)
/-- a contract of a body that makes rows of sheets: the class of such rows is known at its start -/
def kyPreO (D : va_G) (cI cS : ClassId) (sz : Nat) (ws : va_W) : State → Prop := fun U => kyPre D cI cS sz ws U ∧ va_AO RX4 U
def kyMO (l : Launch) (y : MethodName) (wsn : List Cond) (rm : Room) (D : va_G) (cI cS : ClassId) (As : List Value) (ws : va_W) (mc ms : Nat) (post : Option Value → va_W → Prop) : Prop :=
  ∀ sz : Nat, Met l y wsn rm (va_Pc As (kyPreO D cI cS sz ws)) (kyQ D cI cS ws sz post) mc ms (va_A ws sz)
theorem kyBlindO {As : List Value} {D : va_G} {cI cS : ClassId} {sz : Nat} {ws : va_W} : FrameBlind (va_Pc As (kyPreO D cI cS sz ws)) := by
  intro a U g mk q
  obtain ⟨q0, ⟨q1, qP, qK, qD⟩, qO⟩ := q
  exact ⟨q0, ⟨q1, qP, va_K.moved (u := U) (U := U.calling g mk a) (Vm.Alike.refl U.vm) qK, qD⟩, va_AO.moved (u := U) (U := U.calling g mk a) (Vm.Alike.refl U.vm) qO⟩
theorem ky_startO {y : MethodName} {wsn wsn' : List Cond} {rm : Room} {ret : Option FieldType} {As : List Value} {ws0 : va_W} {mc ms : Nat} {post : Option Value → va_W → Prop} (hy : plainName y.cls = true) (hw : wsn = Cond.code y cc nL ret :: wsn') (hcls : y.cls = own) (hlen : (lg_sl As).length ≤ nL)
    (body : ∀ (p : Program) (e : Env) (s : State) (m : MethodId) (args : Array Value) (below : List Frame) (meth : Method) (c : Code), va_AO RX4 s → kyC p s m args c cc nL own wsn D cI cS (va_A ws0 s.heap.size) → meth.sig.returnType = ret → meth.locks = false → meth.name = y.name →
      kyW p l e rm s m args below meth c D (va_A ws0 s.heap.size) nL 0 0 (kyE D cI cS below args s ws0 post mc ms) ws0 (lv_args 0 As) 0 []) : kyMO l y wsn rm D cI cS As ws0 mc ms post := by
  intro sz
  refine Met.ofW (cc := cc) (maxL := nL) (ret := ret) hy hw ?_
  intro p e s m args below meth c s₁ B hml hv
  obtain ⟨rfl, ⟨hsz, hP, hK, hD0⟩, hO⟩ := hv
  subst hsz
  have hown : s.vm.findClass own = some m.cls := hcls ▸ findClass_of_methodNamed B.named
  have C : kyC p s m As.toArray c cc nL own wsn D cI cS (va_A ws0 s.heap.size) := ⟨B.exec, B.bytes, hml, hown, atoms_spec (ws := wsn) B.pre, hK, fun q h => Or.inr h⟩
  have hk := body p e s m As.toArray below meth c hO C B.returns B.notSynchronized (name_of_methodNamed B.named B.method).1
  rw [lg_entry_eq]
  exact hk s.heap [] _ hP hD0.self va_S.rf (lv_entry As hlen)
theorem ky_callIO (C : kyC p s m args c cc nL own Ts D cI cS A) (hO : va_AO RX4 s) {y : MethodName} {wsn wsn' : List Cond} {rm : Room} {maxL index mc ms : Nat} {bytes : ByteArray} {b : Nat} {As rest : List Value} {wc : va_W} {post : Option Value → va_W → Prop} (n : Nat) (hM : kyMO l y wsn rm D cI cS (.ref b :: As) wc mc ms post) (hG : GoodIn Ts wsn) (hwn : wsn = Cond.code y bytes maxL none :: wsn') (hrc : rm.cells = mc) (hrs : rm.slots = ms) (hini : Cond.initialized y.cls ∈ Ts) (hlk : Cond.methodLink own index y ∈ Ts) (hins : Cond.instanceMethod y ∈ Ts) (hy1 : y.name = "<init>") (hd : y.cls ≠ "java/lang/invoke/MethodHandle" ∧ y.cls ≠ "java/lang/invoke/VarHandle" ∧ (parseMethodDescriptor y.desc).map (fun d => d.parameters.length) = some n) (hR : rm.frames + 1 ≤ R.frames ∧ 8 + (maxL + 11) + rm.locals ≤ R.locals) (hn : As.length = n) (hst : st = As.reverse ++ .ref b :: rest) (hroom : (rest.map fun v => v.category).sum ≤ 8) (hdg : decode cc pc = .ok (.invokespecial index, 3)) (hf : cells + mc ≤ R.cells ∧ slots + ms ≤ R.slots) (isC : List Nat) (hC : isC.map (fun i => ws[i]?) = wc.map some) (hnd : va_nd isC = true)
    (kk : ∀ (v : Option Value) (w1 : va_W), post v w1 → kyW p l e R s m args below meth c D A nL (cells + mc) (slots + ms) Q (kyRep ws isC w1) lv (pc + 3) (v.toList ++ rest)) : kyW p l e R s m args below meth c D A nL cells slots Q ws lv pc st := by
  intro H locs ls hP hD hS hl
  obtain ⟨hx, hb, hml, hown, hts, hK, hA⟩ := C
  subst hst
  have hPc := kySub hP isC hC
  have hDc : va_D (fun _ => True) wc := kyD hD isC hC hnd
  have hF := va_free hD hS hA isC hC
  have hrun : va_Run p l e R s m args below meth c H locs cells slots mc ms (F0 m pc ls (As.reverse ++ .ref b :: rest)) rest (kyQ D cI cS wc H.size post (.ref b :: As).toArray) (va_A wc H.size) := va_runI (rest := rest) ⟨hx, hb, hml, hown, hts⟩ (hM H.size) (cwI n hts hG hwn hrc hrs (hts _ hini) (hts _ hlk) (hts _ hins) hy1 hd hR) ⟨kyBlindO, fun U hU hW => ⟨rfl, ⟨by rw [hU], by rw [hU]; exact hPc, va_K.moved hW.alike hK, hDc⟩, va_AO.moved hW.alike hO⟩⟩ rfl hn hl.1 rfl (lv_room hroom) hdg hf
  intro T hT X
  obtain ⟨v, st₀, t, T', L, h0, X', hL, e1, e2, ⟨⟨v', w1, hv, hp, hlen, hP1, hD1⟩, hz, hk⟩, stp⟩ := hrun T hT X
  cases hv
  rw [h0] at hz hk
  obtain ⟨hPn, hDn⟩ := kyRep_world (H1 := T'.heap) hP hD isC hC hlen (fun q h1 h2 => by rw [e1]; exact hk q h1 h2) hF (by rw [e1]; exact hP1) hD1
  obtain ⟨t2, a1, b1⟩ := kk v w1 hp T'.heap (locs ++ L) ls hPn hDn ⟨Nat.le_trans hS.1 (by rw [e1]; exact hz), fun q h1 h2 => by rw [e1, hk q (Nat.lt_of_lt_of_le h1 hS.1) (fun z => h2 (hF q z))]; exact hS.2.1 q h1 h2, fun q hq => (List.mem_append.mp hq).elim (hS.2.2 q) (fun h => hF _ (hL q h))⟩ hl T' rfl X'
  exact ⟨t2, stp t2 a1, b1⟩
end K2
