/-! part 11: small methods of Sheet, Land, Sky, Shots -/
/-- what a cell keeps of a number, by its sort -/
def kCut (sort v : Int32) : Int32 := if sort = 0 then v.toInt8.toInt32 else if sort = 1 then v.toInt16.toInt32 else v
theorem ku_zero {g : Nat → Int32} {i : Nat} (h : ∀ j, j < i → g j = 0) {j : Nat} (hj : j < i + 1) : upd g i 0 j = 0 := by
  by_cases e : j = i
  · subst e; exact pk_us
  · rw [pk_un e]; exact h j (by omega)
theorem hiX4_hasRow_X4 : ∀ w ∈ wsX40, w ∈ wsX4_hasRow := fun _ h => (List.mem_cons_of_mem _ (List.mem_append_right _ h))
theorem hdX4_hasRow : yX4_hasRow.cls = RX4 ∧ yX4_hasRow.cls ≠ "java/lang/invoke/MethodHandle" ∧ yX4_hasRow.cls ≠ "java/lang/invoke/VarHandle" ∧ (parseMethodDescriptor yX4_hasRow.desc).map (fun d => d.parameters.length) = some 0 := by decide +kernel
set_option maxRecDepth 100000 in
set_option maxHeartbeats 4000000 in
/-- Sheet.hasRow -/
theorem kX4_hasRow (l : Launch) (D : va_G) (cI cS : ClassId) (h0 : Nat) (hc : Nat) (sort : Int32) (len : Int32) : kyM l yX4_hasRow wsX4_hasRow ({ frames := 0, cells := 0, slots := 0, locals := 0 }) D cI cS [.ref h0] [(h0, .inr (4, [.ref hc, .int sort, .int len]))] 0 0 (fun vR wR => vR = some (.int (if ¬ len = -1 then (1 : Int32) else 0)) ∧ wR = [(h0, .inr (4, [.ref hc, .int sort, .int len]))]) := by
  refine ky_start (own := RX4) (cc := cX4_hasRow) (nL := 1) (ret := (some .boolean)) (by decide) rfl rfl (Nat.le_of_ble_eq_true rfl) ?_
  intro p e s m args below meth c C hr hlk hnm
  refine ky_conv (lv' := [(0, .ref h0)]) (List.range 1) rfl rfl rfl ?_
  refine ky_aload_n C 0 dX4_hasRow_0 rfl rfl ?_
  refine ky_get C (ci := 4) (T := TX4) (N := 3) (Cn := RX4) (ref := "RainAccount$Sheet") hiX4_hasRow_X4 0 rfl rfl 2 (by decide) (List.mem_of_getElem? (i := 1) rfl) rfl (v := .int len) rfl dX4_hasRow_1 ?_
  refine ky_iconst C dX4_hasRow_4 (v := (-1)) (by decide) ?_
  refine ky_icmp_eq C 12 dX4_hasRow_5 (by decide) (fun c_5 => ?_) (fun c_5 => ?_)
  · refine ky_iconst C dX4_hasRow_12 (v := 0) (by decide) ?_
    exact ky_zret C hr hlk rfl ⟨congrArg (fun z => some (Value.int z)) (show (0) = (if ¬ len = -1 then (1 : Int32) else 0) from by simp [c_5]), rfl⟩ (Nat.le_of_ble_eq_true rfl) dX4_hasRow_13
  · refine ky_iconst C dX4_hasRow_8 (v := 1) (by decide) ?_
    refine ky_goto C dX4_hasRow_9 (tgt := 13) (by decide) ?_
    exact ky_zret C hr hlk rfl ⟨congrArg (fun z => some (Value.int z)) (show (1) = (if ¬ len = -1 then (1 : Int32) else 0) from by simp [c_5]), rfl⟩ (Nat.le_of_ble_eq_true rfl) dX4_hasRow_13
theorem hiX4_renew_X4 : ∀ w ∈ wsX40, w ∈ wsX4_renew := fun _ h => (List.mem_cons_of_mem _ (List.mem_append_right _ h))
theorem hdX4_renew : yX4_renew.cls = RX4 ∧ yX4_renew.cls ≠ "java/lang/invoke/MethodHandle" ∧ yX4_renew.cls ≠ "java/lang/invoke/VarHandle" ∧ (parseMethodDescriptor yX4_renew.desc).map (fun d => d.parameters.length) = some 2 := by decide +kernel
set_option maxRecDepth 100000 in
set_option maxHeartbeats 4000000 in
/-- Sheet.renew -/
theorem kX4_renew (l : Launch) (D : va_G) (cI cS : ClassId) (h0 : Nat) (hc : Nat) (sort : Int32) (len : Int32) (f : Nat → Int32) (so2 : Int32) (n : Int32) : kyM l yX4_renew wsX4_renew ({ frames := 0, cells := 0, slots := 0, locals := 0 }) D cI cS [.ref h0, .int so2, .int n] [(h0, .inr (4, [.ref hc, .int sort, .int len])), (hc, .inl (cI, 40, .inl f))] 0 0 (fun vR wR => ∃ f2 : Nat → Int32, vR = none ∧ wR = [(h0, .inr (4, [.ref hc, .int so2, .int n])), (hc, .inl (cI, 40, .inl f2))] ∧ (∀ j, j < 40 → f2 j = 0)) := by
  refine ky_start (own := RX4) (cc := cX4_renew) (nL := 4) (ret := none) (by decide) rfl rfl (Nat.le_of_ble_eq_true rfl) ?_
  intro p e s m args below meth c C hr hlk hnm
  refine ky_conv (lv' := [(0, .ref h0), (1, .int so2), (2, .int n)]) (List.range 3) rfl rfl rfl ?_
  refine ky_aload_n C 0 dX4_renew_0 rfl rfl ?_
  refine ky_iload_n C 1 dX4_renew_1 rfl rfl ?_
  refine ky_put C (ci := 4) (T := TX4) (N := 3) (Cn := RX4) (ref := "RainAccount$Sheet") hiX4_renew_X4 tyX4 tyX4_ok nmX4 0 rfl rfl 1 (by decide) (List.mem_of_getElem? (i := 1) rfl) rfl rfl rfl rfl (Nat.le_of_ble_eq_true rfl) dX4_renew_2 (ws' := [(h0, .inr (4, [.ref hc, .int so2, .int len])), (hc, .inl (cI, 40, .inl f))]) rfl ?_
  refine ky_aload_n C 0 dX4_renew_5 rfl rfl ?_
  refine ky_iload_n C 2 dX4_renew_6 rfl rfl ?_
  refine ky_put C (ci := 4) (T := TX4) (N := 3) (Cn := RX4) (ref := "RainAccount$Sheet") hiX4_renew_X4 tyX4 tyX4_ok nmX4 0 rfl rfl 2 (by decide) (List.mem_of_getElem? (i := 2) rfl) rfl rfl rfl rfl (Nat.le_of_ble_eq_true rfl) dX4_renew_7 (ws' := [(h0, .inr (4, [.ref hc, .int so2, .int n])), (hc, .inl (cI, 40, .inl f))]) rfl ?_
  refine ky_iconst C dX4_renew_10 (v := 0) (by decide) ?_
  refine ky_istore_n C (lv' := [(3, .int 0), (0, .ref h0), (1, .int so2), (2, .int n)]) dX4_renew_11 rfl (by decide) rfl ?_
  refine ky_conv (ws' := [(h0, .inr (4, [.ref hc, .int so2, .int n])), (hc, .inl (cI, 40, .inl f))]) (lv' := [(3, .int 0), (0, .ref h0), (1, .int so2), (2, .int n)]) (st' := []) [0, 1, 2, 3] rfl rfl rfl ?_
  refine ky_loop2 (T1 := Nat) (T2 := Nat → Int32) (Wf := (fun i g => [(h0, .inr (4, [.ref hc, .int so2, .int n])), (hc, .inl (cI, 40, .inl g))])) (Lf := (fun i g => [(3, .int (nI i)), (0, .ref h0), (1, .int so2), (2, .int n)])) (Sf := (fun i g => [])) (fun i g => (i ≤ 40) ∧ (∀ j, j < i → g j = 0) ∧ True) (fun i g => 40 - i) ?_ 0 f ⟨(by omega), (fun j hj => absurd hj (Nat.not_lt_zero j)), trivial⟩
  intro i g hI_12 ih_12
  obtain ⟨hi, hg, -⟩ := hI_12
  have hi : i ≤ 40 := hi
  have hg : ∀ j, j < i → g j = 0 := hg
  refine ky_conv (ws' := [(h0, .inr (4, [.ref hc, .int so2, .int n])), (hc, .inl (cI, 40, .inl g))]) (lv' := [(3, .int (nI i)), (0, .ref h0), (1, .int so2), (2, .int n)]) (st' := []) (List.range 4) rfl rfl rfl ?_
  refine ky_iload_n C 0 dX4_renew_12 rfl rfl ?_
  refine ky_bipush C dX4_renew_13 (v := 40) (by decide) ?_
  refine ky_icmp_ge C 31 dX4_renew_15 (by decide) (fun c_15 => ?_) (fun c_15 => ?_)
  · have d_15 := Int32.not_lt.mpr c_15
    have n_15 := kn_le (a := 40) (b := i) (by omega) (by omega) c_15
    have m_15 := Nat.not_lt.mpr n_15
    exact ky_vret C hr hlk ⟨g, rfl, rfl, (fun j hj => hg j (by omega))⟩ (Nat.le_of_ble_eq_true rfl) dX4_renew_31
  · have d_15 := Int32.not_le.mp c_15
    have n_15 := kn_nle (a := 40) (b := i) (by omega) (by omega) c_15
    have m_15 := Nat.not_le.mpr n_15
    refine ky_aload_n C 1 dX4_renew_18 rfl rfl ?_
    refine ky_get C (ci := 4) (T := TX4) (N := 3) (Cn := RX4) (ref := "RainAccount$Sheet") hiX4_renew_X4 0 rfl rfl 0 (by decide) (List.mem_of_getElem? (i := 3) rfl) rfl (v := .ref hc) rfl dX4_renew_19 ?_
    refine ky_iload_n C 0 dX4_renew_22 rfl rfl ?_
    refine ky_iconst C dX4_renew_23 (v := 0) (by decide) ?_
    refine ky_iastN C 1 (k := i) rfl (by omega) (by decide) dX4_renew_24 (ws' := [(h0, .inr (4, [.ref hc, .int so2, .int n])), (hc, .inl (cI, 40, .inl (upd g i 0)))]) rfl ?_
    refine ky_iinc C 0 (v := nI (i + 1)) (lv' := [(3, .int (nI (i + 1))), (0, .ref h0), (1, .int so2), (2, .int n)]) dX4_renew_25 rfl (nI_1 _) (by decide) rfl ?_
    refine ky_goto C dX4_renew_28 (tgt := 12) (by decide) ?_
    exact ky_conv (ws' := [(h0, .inr (4, [.ref hc, .int so2, .int n])), (hc, .inl (cI, 40, .inl (upd g i 0)))]) (lv' := [(3, .int (nI (i + 1))), (0, .ref h0), (1, .int so2), (2, .int n)]) (st' := []) [0, 1, 2, 3] rfl rfl rfl (ih_12 (i + 1) (upd g i 0) (show 40 - (i + 1) < 40 - i from by omega) ⟨(by omega), (fun j hj => ku_zero hg hj), trivial⟩)
theorem hiX4_holds_X4 : ∀ w ∈ wsX40, w ∈ wsX4_holds := fun _ h => (List.mem_cons_of_mem _ (List.mem_append_right _ h))
theorem hdX4_holds : yX4_holds.cls = RX4 ∧ yX4_holds.cls ≠ "java/lang/invoke/MethodHandle" ∧ yX4_holds.cls ≠ "java/lang/invoke/VarHandle" ∧ (parseMethodDescriptor yX4_holds.desc).map (fun d => d.parameters.length) = some 2 := by decide +kernel
set_option maxRecDepth 100000 in
set_option maxHeartbeats 4000000 in
/-- Sheet.holds -/
theorem kX4_holds (l : Launch) (D : va_G) (cI cS : ClassId) (h0 : Nat) (hc : Nat) (sort : Int32) (len : Int32) (i : Int32) (n : Int32) : kyM l yX4_holds wsX4_holds ({ frames := 0, cells := 0, slots := 0, locals := 0 }) D cI cS [.ref h0, .int i, .int n] [(h0, .inr (4, [.ref hc, .int sort, .int len]))] 0 0 (fun vR wR => vR = some (.int (if 0 ≤ i ∧ (0 : Int32) ≤ n ∧ i ≤ len ∧ n ≤ len - i then (1 : Int32) else 0)) ∧ wR = [(h0, .inr (4, [.ref hc, .int sort, .int len]))]) := by
  refine ky_start (own := RX4) (cc := cX4_holds) (nL := 3) (ret := (some .boolean)) (by decide) rfl rfl (Nat.le_of_ble_eq_true rfl) ?_
  intro p e s m args below meth c C hr hlk hnm
  refine ky_conv (lv' := [(0, .ref h0), (1, .int i), (2, .int n)]) (List.range 3) rfl rfl rfl ?_
  refine ky_iload_n C 1 dX4_holds_0 rfl rfl ?_
  refine ky_if_lt C 30 dX4_holds_1 (by decide) (fun c_1 => ?_) (fun c_1 => ?_)
  · have d_1 := Int32.not_le.mpr c_1
    refine ky_iconst C dX4_holds_30 (v := 0) (by decide) ?_
    exact ky_zret C hr hlk rfl ⟨congrArg (fun z => some (Value.int z)) (show (0) = (if 0 ≤ i ∧ (0 : Int32) ≤ n ∧ i ≤ len ∧ n ≤ len - i then (1 : Int32) else 0) from by simp [c_1, d_1]), rfl⟩ (Nat.le_of_ble_eq_true rfl) dX4_holds_31
  · have d_1 := Int32.not_lt.mp c_1
    refine ky_iload_n C 2 dX4_holds_4 rfl rfl ?_
    refine ky_if_lt C 30 dX4_holds_5 (by decide) (fun c_5 => ?_) (fun c_5 => ?_)
    · have d_5 := Int32.not_le.mpr c_5
      refine ky_iconst C dX4_holds_30 (v := 0) (by decide) ?_
      exact ky_zret C hr hlk rfl ⟨congrArg (fun z => some (Value.int z)) (show (0) = (if 0 ≤ i ∧ (0 : Int32) ≤ n ∧ i ≤ len ∧ n ≤ len - i then (1 : Int32) else 0) from by simp [c_1, d_1, c_5, d_5]), rfl⟩ (Nat.le_of_ble_eq_true rfl) dX4_holds_31
    · have d_5 := Int32.not_lt.mp c_5
      refine ky_iload_n C 1 dX4_holds_8 rfl rfl ?_
      refine ky_aload_n C 0 dX4_holds_9 rfl rfl ?_
      refine ky_get C (ci := 4) (T := TX4) (N := 3) (Cn := RX4) (ref := "RainAccount$Sheet") hiX4_holds_X4 0 rfl rfl 2 (by decide) (List.mem_of_getElem? (i := 1) rfl) rfl (v := .int len) rfl dX4_holds_10 ?_
      refine ky_icmp_gt C 30 dX4_holds_13 (by decide) (fun c_13 => ?_) (fun c_13 => ?_)
      · have d_13 := Int32.not_le.mpr c_13
        refine ky_iconst C dX4_holds_30 (v := 0) (by decide) ?_
        exact ky_zret C hr hlk rfl ⟨congrArg (fun z => some (Value.int z)) (show (0) = (if 0 ≤ i ∧ (0 : Int32) ≤ n ∧ i ≤ len ∧ n ≤ len - i then (1 : Int32) else 0) from by simp [c_1, d_1, c_5, d_5, c_13, d_13]), rfl⟩ (Nat.le_of_ble_eq_true rfl) dX4_holds_31
      · have d_13 := Int32.not_lt.mp c_13
        refine ky_iload_n C 2 dX4_holds_16 rfl rfl ?_
        refine ky_aload_n C 0 dX4_holds_17 rfl rfl ?_
        refine ky_get C (ci := 4) (T := TX4) (N := 3) (Cn := RX4) (ref := "RainAccount$Sheet") hiX4_holds_X4 0 rfl rfl 2 (by decide) (List.mem_of_getElem? (i := 1) rfl) rfl (v := .int len) rfl dX4_holds_18 ?_
        refine ky_iload_n C 1 dX4_holds_21 rfl rfl ?_
        refine ky_isub C (v := len - i) dX4_holds_22 rfl ?_
        refine ky_icmp_gt C 30 dX4_holds_23 (by decide) (fun c_23 => ?_) (fun c_23 => ?_)
        · have d_23 := Int32.not_le.mpr c_23
          refine ky_iconst C dX4_holds_30 (v := 0) (by decide) ?_
          exact ky_zret C hr hlk rfl ⟨congrArg (fun z => some (Value.int z)) (show (0) = (if 0 ≤ i ∧ (0 : Int32) ≤ n ∧ i ≤ len ∧ n ≤ len - i then (1 : Int32) else 0) from by simp [c_1, d_1, c_5, d_5, c_13, d_13, c_23, d_23]), rfl⟩ (Nat.le_of_ble_eq_true rfl) dX4_holds_31
        · have d_23 := Int32.not_lt.mp c_23
          refine ky_iconst C dX4_holds_26 (v := 1) (by decide) ?_
          refine ky_goto C dX4_holds_27 (tgt := 31) (by decide) ?_
          exact ky_zret C hr hlk rfl ⟨congrArg (fun z => some (Value.int z)) (show (1) = (if 0 ≤ i ∧ (0 : Int32) ≤ n ∧ i ≤ len ∧ n ≤ len - i then (1 : Int32) else 0) from by simp [c_1, d_1, c_5, d_5, c_13, d_13, c_23, d_23]), rfl⟩ (Nat.le_of_ble_eq_true rfl) dX4_holds_31
theorem hiX4_faultOfCells_X4 : ∀ w ∈ wsX40, w ∈ wsX4_faultOfCells := fun _ h => (List.mem_cons_of_mem _ (List.mem_append_right _ h))
theorem hdX4_faultOfCells : yX4_faultOfCells.cls = RX4 ∧ yX4_faultOfCells.cls ≠ "java/lang/invoke/MethodHandle" ∧ yX4_faultOfCells.cls ≠ "java/lang/invoke/VarHandle" ∧ (parseMethodDescriptor yX4_faultOfCells.desc).map (fun d => d.parameters.length) = some 3 := by decide +kernel
set_option maxRecDepth 100000 in
set_option maxHeartbeats 4000000 in
/-- Sheet.faultOfCells -/
theorem kX4_faultOfCells (l : Launch) (D : va_G) (cI cS : ClassId) (h0 : Nat) (hc : Nat) (sort : Int32) (len : Int32) (as : Int32) (i : Int32) (n : Int32) : kyM l yX4_faultOfCells wsX4_faultOfCells ({ frames := 1, cells := 0, slots := 0, locals := 22 }) D cI cS [.ref h0, .int as, .int i, .int n] [(h0, .inr (4, [.ref hc, .int sort, .int len]))] 0 0 (fun vR wR => vR = some (.int (if len = -1 then 1 else if sort = as then (if 0 ≤ n then (if 0 ≤ i ∧ (0 : Int32) ≤ n ∧ i ≤ len ∧ n ≤ len - i then 0 else 3) else 4) else 2)) ∧ wR = [(h0, .inr (4, [.ref hc, .int sort, .int len]))]) := by
  refine ky_start (own := RX4) (cc := cX4_faultOfCells) (nL := 4) (ret := (some .int)) (by decide) rfl rfl (Nat.le_of_ble_eq_true rfl) ?_
  intro p e s m args below meth c C hr hlk hnm
  refine ky_conv (lv' := [(0, .ref h0), (1, .int as), (2, .int i), (3, .int n)]) (List.range 4) rfl rfl rfl ?_
  refine ky_aload_n C 0 dX4_faultOfCells_0 rfl rfl ?_
  refine ky_callV0 C 0 (kX4_hasRow l D cI cS h0 hc sort len) gX4_faultOfCells_X4_hasRow rfl rfl rfl hdX4_hasRow 0 4 rfl rfl rfl ⟨Nat.le_of_ble_eq_true rfl, Nat.le_of_ble_eq_true rfl⟩ rfl rfl (Nat.le_of_ble_eq_true rfl) dX4_faultOfCells_1 [0] rfl rfl ?_
  rintro _ _ ⟨rfl, rfl⟩
  refine ky_ws (ws' := [(h0, .inr (4, [.ref hc, .int sort, .int len]))]) (st' := [.int (if ¬ len = -1 then (1 : Int32) else 0)]) rfl rfl ?_
  refine ky_if_ne C 9 dX4_faultOfCells_4 (by decide) (fun c_4 => ?_) (fun c_4 => ?_)
  · have c_4 : ¬ len = -1 := kb1 c_4
    refine ky_aload_n C 0 dX4_faultOfCells_9 rfl rfl ?_
    refine ky_get C (ci := 4) (T := TX4) (N := 3) (Cn := RX4) (ref := "RainAccount$Sheet") hiX4_faultOfCells_X4 0 rfl rfl 1 (by decide) (List.mem_of_getElem? (i := 1) rfl) rfl (v := .int sort) rfl dX4_faultOfCells_10 ?_
    refine ky_iload_n C 1 dX4_faultOfCells_13 rfl rfl ?_
    refine ky_icmp_eq C 19 dX4_faultOfCells_14 (by decide) (fun c_14 => ?_) (fun c_14 => ?_)
    · refine ky_iload_n C 3 dX4_faultOfCells_19 rfl rfl ?_
      refine ky_if_ge C 25 dX4_faultOfCells_20 (by decide) (fun c_20 => ?_) (fun c_20 => ?_)
      · have d_20 := Int32.not_lt.mpr c_20
        refine ky_aload_n C 0 dX4_faultOfCells_25 rfl rfl ?_
        refine ky_iload_n C 2 dX4_faultOfCells_26 rfl rfl ?_
        refine ky_iload_n C 3 dX4_faultOfCells_27 rfl rfl ?_
        refine ky_callV0 C 2 (kX4_holds l D cI cS h0 hc sort len i n) gX4_faultOfCells_X4_holds rfl rfl rfl hdX4_holds 0 4 rfl rfl rfl ⟨Nat.le_of_ble_eq_true rfl, Nat.le_of_ble_eq_true rfl⟩ rfl rfl (Nat.le_of_ble_eq_true rfl) dX4_faultOfCells_28 [0] rfl rfl ?_
        rintro _ _ ⟨rfl, rfl⟩
        refine ky_ws (ws' := [(h0, .inr (4, [.ref hc, .int sort, .int len]))]) (st' := [.int (if 0 ≤ i ∧ (0 : Int32) ≤ n ∧ i ≤ len ∧ n ≤ len - i then (1 : Int32) else 0)]) rfl rfl ?_
        refine ky_if_eq C 38 dX4_faultOfCells_31 (by decide) (fun c_31 => ?_) (fun c_31 => ?_)
        · have c_31 : ¬ (0 ≤ i ∧ (0 : Int32) ≤ n ∧ i ≤ len ∧ n ≤ len - i) := kb0 c_31
          refine ky_iconst C dX4_faultOfCells_38 (v := 3) (by decide) ?_
          exact ky_iret C hr hlk ⟨congrArg (fun z => some (Value.int z)) (show (3) = (if len = -1 then 1 else if sort = as then (if 0 ≤ n then (if 0 ≤ i ∧ (0 : Int32) ≤ n ∧ i ≤ len ∧ n ≤ len - i then 0 else 3) else 4) else 2) from by simp only [if_neg c_4, if_pos c_14, if_pos c_20, if_neg d_20, if_neg c_31]), rfl⟩ (Nat.le_of_ble_eq_true rfl) dX4_faultOfCells_39
        · have c_31 : 0 ≤ i ∧ (0 : Int32) ≤ n ∧ i ≤ len ∧ n ≤ len - i := kb1 c_31
          refine ky_iconst C dX4_faultOfCells_34 (v := 0) (by decide) ?_
          refine ky_goto C dX4_faultOfCells_35 (tgt := 39) (by decide) ?_
          exact ky_iret C hr hlk ⟨congrArg (fun z => some (Value.int z)) (show (0) = (if len = -1 then 1 else if sort = as then (if 0 ≤ n then (if 0 ≤ i ∧ (0 : Int32) ≤ n ∧ i ≤ len ∧ n ≤ len - i then 0 else 3) else 4) else 2) from by simp only [if_neg c_4, if_pos c_14, if_pos c_20, if_neg d_20, if_pos c_31]), rfl⟩ (Nat.le_of_ble_eq_true rfl) dX4_faultOfCells_39
      · have d_20 := Int32.not_le.mp c_20
        refine ky_iconst C dX4_faultOfCells_23 (v := 4) (by decide) ?_
        exact ky_iret C hr hlk ⟨congrArg (fun z => some (Value.int z)) (show (4) = (if len = -1 then 1 else if sort = as then (if 0 ≤ n then (if 0 ≤ i ∧ (0 : Int32) ≤ n ∧ i ≤ len ∧ n ≤ len - i then 0 else 3) else 4) else 2) from by simp only [if_neg c_4, if_pos c_14, if_neg c_20, if_pos d_20]), rfl⟩ (Nat.le_of_ble_eq_true rfl) dX4_faultOfCells_24
    · refine ky_iconst C dX4_faultOfCells_17 (v := 2) (by decide) ?_
      exact ky_iret C hr hlk ⟨congrArg (fun z => some (Value.int z)) (show (2) = (if len = -1 then 1 else if sort = as then (if 0 ≤ n then (if 0 ≤ i ∧ (0 : Int32) ≤ n ∧ i ≤ len ∧ n ≤ len - i then 0 else 3) else 4) else 2) from by simp only [if_neg c_4, if_neg c_14]), rfl⟩ (Nat.le_of_ble_eq_true rfl) dX4_faultOfCells_18
  · have c_4 : len = -1 := Decidable.not_not.mp (kb0 c_4)
    refine ky_iconst C dX4_faultOfCells_7 (v := 1) (by decide) ?_
    exact ky_iret C hr hlk ⟨congrArg (fun z => some (Value.int z)) (show (1) = (if len = -1 then 1 else if sort = as then (if 0 ≤ n then (if 0 ≤ i ∧ (0 : Int32) ≤ n ∧ i ≤ len ∧ n ≤ len - i then 0 else 3) else 4) else 2) from by simp only [if_pos c_4]), rfl⟩ (Nat.le_of_ble_eq_true rfl) dX4_faultOfCells_8
theorem hiX4_read_X4 : ∀ w ∈ wsX40, w ∈ wsX4_read := fun _ h => (List.mem_cons_of_mem _ (List.mem_append_right _ h))
theorem hdX4_read : yX4_read.cls = RX4 ∧ yX4_read.cls ≠ "java/lang/invoke/MethodHandle" ∧ yX4_read.cls ≠ "java/lang/invoke/VarHandle" ∧ (parseMethodDescriptor yX4_read.desc).map (fun d => d.parameters.length) = some 1 := by decide +kernel
set_option maxRecDepth 100000 in
set_option maxHeartbeats 4000000 in
/-- Sheet.read -/
theorem kX4_read (l : Launch) (D : va_G) (cI cS : ClassId) (h0 : Nat) (hc : Nat) (sort : Int32) (len : Int32) (f : Nat → Int32) (i : Int32) : kyM l yX4_read wsX4_read ({ frames := 0, cells := 0, slots := 0, locals := 0 }) D cI cS [.ref h0, .int i] [(h0, .inr (4, [.ref hc, .int sort, .int len])), (hc, .inl (cI, 40, .inl f))] 0 0 (fun vR wR => vR = some (.int (if 0 ≤ i ∧ i < 40 then f i.toNatClampNeg else 0)) ∧ wR = [(h0, .inr (4, [.ref hc, .int sort, .int len])), (hc, .inl (cI, 40, .inl f))]) := by
  refine ky_start (own := RX4) (cc := cX4_read) (nL := 2) (ret := (some .int)) (by decide) rfl rfl (Nat.le_of_ble_eq_true rfl) ?_
  intro p e s m args below meth c C hr hlk hnm
  refine ky_conv (lv' := [(0, .ref h0), (1, .int i)]) (List.range 2) rfl rfl rfl ?_
  refine ky_iload_n C 1 dX4_read_0 rfl rfl ?_
  refine ky_if_lt C 19 dX4_read_1 (by decide) (fun c_1 => ?_) (fun c_1 => ?_)
  · have d_1 := Int32.not_le.mpr c_1
    refine ky_iconst C dX4_read_19 (v := 0) (by decide) ?_
    exact ky_iret C hr hlk ⟨congrArg (fun z => some (Value.int z)) (show (0) = (if 0 ≤ i ∧ i < 40 then f i.toNatClampNeg else 0) from by simp [c_1, d_1]), rfl⟩ (Nat.le_of_ble_eq_true rfl) dX4_read_20
  · have d_1 := Int32.not_lt.mp c_1
    refine ky_iload_n C 1 dX4_read_4 rfl rfl ?_
    refine ky_bipush C dX4_read_5 (v := 40) (by decide) ?_
    refine ky_icmp_ge C 19 dX4_read_7 (by decide) (fun c_7 => ?_) (fun c_7 => ?_)
    · have d_7 := Int32.not_lt.mpr c_7
      refine ky_iconst C dX4_read_19 (v := 0) (by decide) ?_
      exact ky_iret C hr hlk ⟨congrArg (fun z => some (Value.int z)) (show (0) = (if 0 ≤ i ∧ i < 40 then f i.toNatClampNeg else 0) from by simp [c_1, d_1, c_7, d_7]), rfl⟩ (Nat.le_of_ble_eq_true rfl) dX4_read_20
    · have d_7 := Int32.not_le.mp c_7
      refine ky_aload_n C 0 dX4_read_10 rfl rfl ?_
      refine ky_get C (ci := 4) (T := TX4) (N := 3) (Cn := RX4) (ref := "RainAccount$Sheet") hiX4_read_X4 0 rfl rfl 0 (by decide) (List.mem_of_getElem? (i := 1) rfl) rfl (v := .ref hc) rfl dX4_read_11 ?_
      refine ky_iload_n C 1 dX4_read_14 rfl rfl ?_
      refine ky_iald C 1 rfl (kin_of (by decide) c_1 c_7) dX4_read_15 (v := f i.toNatClampNeg) rfl ?_
      refine ky_goto C dX4_read_16 (tgt := 20) (by decide) ?_
      exact ky_iret C hr hlk ⟨congrArg (fun z => some (Value.int z)) (show (f i.toNatClampNeg) = (if 0 ≤ i ∧ i < 40 then f i.toNatClampNeg else 0) from by simp [c_1, d_1, c_7, d_7]), rfl⟩ (Nat.le_of_ble_eq_true rfl) dX4_read_20
theorem hiX4_write_X4 : ∀ w ∈ wsX40, w ∈ wsX4_write := fun _ h => (List.mem_cons_of_mem _ (List.mem_append_right _ h))
theorem hdX4_write : yX4_write.cls = RX4 ∧ yX4_write.cls ≠ "java/lang/invoke/MethodHandle" ∧ yX4_write.cls ≠ "java/lang/invoke/VarHandle" ∧ (parseMethodDescriptor yX4_write.desc).map (fun d => d.parameters.length) = some 2 := by decide +kernel
set_option maxRecDepth 100000 in
set_option maxHeartbeats 4000000 in
/-- Sheet.write -/
theorem kX4_write (l : Launch) (D : va_G) (cI cS : ClassId) (h0 : Nat) (hc : Nat) (sort : Int32) (len : Int32) (f : Nat → Int32) (i : Int32) (v0 : Int32) (hi0 : ¬ i < 0) (hi1 : i < 40) : kyM l yX4_write wsX4_write ({ frames := 0, cells := 0, slots := 0, locals := 0 }) D cI cS [.ref h0, .int i, .int v0] [(h0, .inr (4, [.ref hc, .int sort, .int len])), (hc, .inl (cI, 40, .inl f))] 0 0 (fun vR wR => ∃ f2 : Nat → Int32, vR = none ∧ wR = [(h0, .inr (4, [.ref hc, .int sort, .int len])), (hc, .inl (cI, 40, .inl f2))] ∧ (f2 = upd f i.toNatClampNeg (kCut sort v0))) := by
  refine ky_start (own := RX4) (cc := cX4_write) (nL := 3) (ret := none) (by decide) rfl rfl (Nat.le_of_ble_eq_true rfl) ?_
  intro p e s m args below meth c C hr hlk hnm
  refine ky_conv (lv' := [(0, .ref h0), (1, .int i), (2, .int v0)]) (List.range 3) rfl rfl rfl ?_
  refine ky_iload_n C 1 dX4_write_0 rfl rfl ?_
  refine ky_if_lt C 10 dX4_write_1 (by decide) (fun q => absurd q hi0) (fun c_1 => ?_)
  refine ky_iload_n C 1 dX4_write_4 rfl rfl ?_
  refine ky_bipush C dX4_write_5 (v := 40) (by decide) ?_
  refine ky_icmp_lt C 11 dX4_write_7 (by decide) (fun c_7 => ?_) (fun q => absurd hi1 q)
  refine ky_aload_n C 0 dX4_write_11 rfl rfl ?_
  refine ky_get C (ci := 4) (T := TX4) (N := 3) (Cn := RX4) (ref := "RainAccount$Sheet") hiX4_write_X4 0 rfl rfl 1 (by decide) (List.mem_of_getElem? (i := 1) rfl) rfl (v := .int sort) rfl dX4_write_12 ?_
  refine ky_if_ne C 29 dX4_write_15 (by decide) (fun c_15 => ?_) (fun c_15 => ?_)
  · refine ky_aload_n C 0 dX4_write_29 rfl rfl ?_
    refine ky_get C (ci := 4) (T := TX4) (N := 3) (Cn := RX4) (ref := "RainAccount$Sheet") hiX4_write_X4 0 rfl rfl 1 (by decide) (List.mem_of_getElem? (i := 1) rfl) rfl (v := .int sort) rfl dX4_write_30 ?_
    refine ky_iconst C dX4_write_33 (v := 1) (by decide) ?_
    refine ky_icmp_ne C 48 dX4_write_34 (by decide) (fun c_34 => ?_) (fun c_34 => ?_)
    · refine ky_aload_n C 0 dX4_write_48 rfl rfl ?_
      refine ky_get C (ci := 4) (T := TX4) (N := 3) (Cn := RX4) (ref := "RainAccount$Sheet") hiX4_write_X4 0 rfl rfl 0 (by decide) (List.mem_of_getElem? (i := 2) rfl) rfl (v := .ref hc) rfl dX4_write_49 ?_
      refine ky_iload_n C 1 dX4_write_52 rfl rfl ?_
      refine ky_iload_n C 2 dX4_write_53 rfl rfl ?_
      refine ky_iast C 1 rfl (kin_of (by decide) hi0 (Int32.not_le.mpr hi1)) dX4_write_54 (ws' := [(h0, .inr (4, [.ref hc, .int sort, .int len])), (hc, .inl (cI, 40, .inl (upd f i.toNatClampNeg v0)))]) rfl ?_
      exact ky_vret C hr hlk ⟨(upd f i.toNatClampNeg v0), rfl, rfl, (by simp [kCut, c_15, c_34])⟩ (Nat.le_of_ble_eq_true rfl) dX4_write_55
    · refine ky_aload_n C 0 dX4_write_37 rfl rfl ?_
      refine ky_get C (ci := 4) (T := TX4) (N := 3) (Cn := RX4) (ref := "RainAccount$Sheet") hiX4_write_X4 0 rfl rfl 0 (by decide) (List.mem_of_getElem? (i := 2) rfl) rfl (v := .ref hc) rfl dX4_write_38 ?_
      refine ky_iload_n C 1 dX4_write_41 rfl rfl ?_
      refine ky_iload_n C 2 dX4_write_42 rfl rfl ?_
      refine ky_i2s C dX4_write_43 rfl ?_
      refine ky_iast C 1 rfl (kin_of (by decide) hi0 (Int32.not_le.mpr hi1)) dX4_write_44 (ws' := [(h0, .inr (4, [.ref hc, .int sort, .int len])), (hc, .inl (cI, 40, .inl (upd f i.toNatClampNeg v0.toInt16.toInt32)))]) rfl ?_
      refine ky_goto C dX4_write_45 (tgt := 55) (by decide) ?_
      exact ky_vret C hr hlk ⟨(upd f i.toNatClampNeg v0.toInt16.toInt32), rfl, rfl, (by simp [kCut, c_15, c_34])⟩ (Nat.le_of_ble_eq_true rfl) dX4_write_55
  · refine ky_aload_n C 0 dX4_write_18 rfl rfl ?_
    refine ky_get C (ci := 4) (T := TX4) (N := 3) (Cn := RX4) (ref := "RainAccount$Sheet") hiX4_write_X4 0 rfl rfl 0 (by decide) (List.mem_of_getElem? (i := 2) rfl) rfl (v := .ref hc) rfl dX4_write_19 ?_
    refine ky_iload_n C 1 dX4_write_22 rfl rfl ?_
    refine ky_iload_n C 2 dX4_write_23 rfl rfl ?_
    refine ky_i2b C dX4_write_24 rfl ?_
    refine ky_iast C 1 rfl (kin_of (by decide) hi0 (Int32.not_le.mpr hi1)) dX4_write_25 (ws' := [(h0, .inr (4, [.ref hc, .int sort, .int len])), (hc, .inl (cI, 40, .inl (upd f i.toNatClampNeg v0.toInt8.toInt32)))]) rfl ?_
    refine ky_goto C dX4_write_26 (tgt := 55) (by decide) ?_
    exact ky_vret C hr hlk ⟨(upd f i.toNatClampNeg v0.toInt8.toInt32), rfl, rfl, (by simp [kCut, c_15])⟩ (Nat.le_of_ble_eq_true rfl) dX4_write_55
theorem hiX3_isField_X3 : ∀ w ∈ wsX30, w ∈ wsX3_isField := fun _ h => (List.mem_cons_of_mem _ (List.mem_append_right _ h))
theorem hdX3_isField : yX3_isField.cls = RX3 ∧ yX3_isField.cls ≠ "java/lang/invoke/MethodHandle" ∧ yX3_isField.cls ≠ "java/lang/invoke/VarHandle" ∧ (parseMethodDescriptor yX3_isField.desc).map (fun d => d.parameters.length) = some 1 := by decide +kernel
set_option maxRecDepth 100000 in
set_option maxHeartbeats 4000000 in
/-- Land.isField -/
theorem kX3_isField (l : Launch) (D : va_G) (cI cS : ClassId) (ad : Nat → Nat) (N : Nat) (wind : Int32) (low : Int32) (forb : Int32) (x : Int32) : kyM l yX3_isField wsX3_isField ({ frames := 0, cells := 0, slots := 0, locals := 0 }) D cI cS [.ref (ad 10), .int x] [(ad 10, .inr (3, [.ref (ad 11), .ref (ad 12), .ref (ad 13), .int (nI N), .int wind, .int low, .int forb]))] 0 0 (fun vR wR => vR = some (.int (if 0 ≤ x ∧ x < nI N then (1 : Int32) else 0)) ∧ wR = [(ad 10, .inr (3, [.ref (ad 11), .ref (ad 12), .ref (ad 13), .int (nI N), .int wind, .int low, .int forb]))]) := by
  refine ky_start (own := RX3) (cc := cX3_isField) (nL := 2) (ret := (some .boolean)) (by decide) rfl rfl (Nat.le_of_ble_eq_true rfl) ?_
  intro p e s m args below meth c C hr hlk hnm
  refine ky_conv (lv' := [(0, .ref (ad 10)), (1, .int x)]) (List.range 2) rfl rfl rfl ?_
  refine ky_iload_n C 1 dX3_isField_0 rfl rfl ?_
  refine ky_if_lt C 16 dX3_isField_1 (by decide) (fun c_1 => ?_) (fun c_1 => ?_)
  · have d_1 := Int32.not_le.mpr c_1
    refine ky_iconst C dX3_isField_16 (v := 0) (by decide) ?_
    exact ky_zret C hr hlk rfl ⟨congrArg (fun z => some (Value.int z)) (show (0) = (if 0 ≤ x ∧ x < nI N then (1 : Int32) else 0) from by simp [c_1, d_1]), rfl⟩ (Nat.le_of_ble_eq_true rfl) dX3_isField_17
  · have d_1 := Int32.not_lt.mp c_1
    refine ky_iload_n C 1 dX3_isField_4 rfl rfl ?_
    refine ky_aload_n C 0 dX3_isField_5 rfl rfl ?_
    refine ky_get C (ci := 3) (T := TX3) (N := 7) (Cn := RX3) (ref := "RainAccount$Land") hiX3_isField_X3 0 rfl rfl 3 (by decide) (List.mem_of_getElem? (i := 1) rfl) rfl (v := .int (nI N)) rfl dX3_isField_6 ?_
    refine ky_icmp_ge C 16 dX3_isField_9 (by decide) (fun c_9 => ?_) (fun c_9 => ?_)
    · have d_9 := Int32.not_lt.mpr c_9
      refine ky_iconst C dX3_isField_16 (v := 0) (by decide) ?_
      exact ky_zret C hr hlk rfl ⟨congrArg (fun z => some (Value.int z)) (show (0) = (if 0 ≤ x ∧ x < nI N then (1 : Int32) else 0) from by simp [c_1, d_1, c_9, d_9]), rfl⟩ (Nat.le_of_ble_eq_true rfl) dX3_isField_17
    · have d_9 := Int32.not_le.mp c_9
      refine ky_iconst C dX3_isField_12 (v := 1) (by decide) ?_
      refine ky_goto C dX3_isField_13 (tgt := 17) (by decide) ?_
      exact ky_zret C hr hlk rfl ⟨congrArg (fun z => some (Value.int z)) (show (1) = (if 0 ≤ x ∧ x < nI N then (1 : Int32) else 0) from by simp [c_1, d_1, c_9, d_9]), rfl⟩ (Nat.le_of_ble_eq_true rfl) dX3_isField_17
theorem hiX3_isOf_X3 : ∀ w ∈ wsX30, w ∈ wsX3_isOf := fun _ h => (List.mem_cons_of_mem _ (List.mem_append_right _ h))
theorem hdX3_isOf : yX3_isOf.cls = RX3 ∧ yX3_isOf.cls ≠ "java/lang/invoke/MethodHandle" ∧ yX3_isOf.cls ≠ "java/lang/invoke/VarHandle" ∧ (parseMethodDescriptor yX3_isOf.desc).map (fun d => d.parameters.length) = some 2 := by decide +kernel
set_option maxRecDepth 100000 in
set_option maxHeartbeats 4000000 in
/-- Land.isOf -/
theorem kX3_isOf (l : Launch) (D : va_G) (cI cS : ClassId) (ad : Nat → Nat) (N : Nat) (wind : Int32) (low : Int32) (forb : Int32) (club : Nat → Int32) (x : Nat) (oc : Int32) (hx : x < 8) : kyM l yX3_isOf wsX3_isOf ({ frames := 0, cells := 0, slots := 0, locals := 0 }) D cI cS [.ref (ad 10), .int (nI x), .int oc] [(ad 10, .inr (3, [.ref (ad 11), .ref (ad 12), .ref (ad 13), .int (nI N), .int wind, .int low, .int forb])), (ad 11, .inl (cI, 8, .inl club))] 0 0 (fun vR wR => vR = some (.int (if oc = -1 ∨ club x = oc then (1 : Int32) else 0)) ∧ wR = [(ad 10, .inr (3, [.ref (ad 11), .ref (ad 12), .ref (ad 13), .int (nI N), .int wind, .int low, .int forb])), (ad 11, .inl (cI, 8, .inl club))]) := by
  refine ky_start (own := RX3) (cc := cX3_isOf) (nL := 3) (ret := (some .boolean)) (by decide) rfl rfl (Nat.le_of_ble_eq_true rfl) ?_
  intro p e s m args below meth c C hr hlk hnm
  refine ky_conv (lv' := [(0, .ref (ad 10)), (1, .int (nI x)), (2, .int oc)]) (List.range 3) rfl rfl rfl ?_
  refine ky_iload_n C 2 dX3_isOf_0 rfl rfl ?_
  refine ky_iconst C dX3_isOf_1 (v := (-1)) (by decide) ?_
  refine ky_icmp_eq C 15 dX3_isOf_2 (by decide) (fun c_2 => ?_) (fun c_2 => ?_)
  · refine ky_iconst C dX3_isOf_15 (v := 1) (by decide) ?_
    refine ky_goto C dX3_isOf_16 (tgt := 20) (by decide) ?_
    exact ky_zret C hr hlk rfl ⟨congrArg (fun z => some (Value.int z)) (show (1) = (if oc = -1 ∨ club x = oc then (1 : Int32) else 0) from by simp [c_2]), rfl⟩ (Nat.le_of_ble_eq_true rfl) dX3_isOf_20
  · refine ky_aload_n C 0 dX3_isOf_5 rfl rfl ?_
    refine ky_get C (ci := 3) (T := TX3) (N := 7) (Cn := RX3) (ref := "RainAccount$Land") hiX3_isOf_X3 0 rfl rfl 0 (by decide) (List.mem_of_getElem? (i := 1) rfl) rfl (v := .ref (ad 11)) rfl dX3_isOf_6 ?_
    refine ky_iload_n C 1 dX3_isOf_9 rfl rfl ?_
    refine ky_ialdN C 1 (k := x) rfl (by omega) (by decide) dX3_isOf_10 (v := club x) rfl ?_
    refine ky_iload_n C 2 dX3_isOf_11 rfl rfl ?_
    refine ky_icmp_ne C 19 dX3_isOf_12 (by decide) (fun c_12 => ?_) (fun c_12 => ?_)
    · refine ky_iconst C dX3_isOf_19 (v := 0) (by decide) ?_
      exact ky_zret C hr hlk rfl ⟨congrArg (fun z => some (Value.int z)) (show (0) = (if oc = -1 ∨ club x = oc then (1 : Int32) else 0) from by simp [c_2, c_12]), rfl⟩ (Nat.le_of_ble_eq_true rfl) dX3_isOf_20
    · refine ky_iconst C dX3_isOf_15 (v := 1) (by decide) ?_
      refine ky_goto C dX3_isOf_16 (tgt := 20) (by decide) ?_
      exact ky_zret C hr hlk rfl ⟨congrArg (fun z => some (Value.int z)) (show (1) = (if oc = -1 ∨ club x = oc then (1 : Int32) else 0) from by simp [c_2, c_12]), rfl⟩ (Nat.le_of_ble_eq_true rfl) dX3_isOf_20
theorem hiX3_isAllowed_X3 : ∀ w ∈ wsX30, w ∈ wsX3_isAllowed := fun _ h => (List.mem_cons_of_mem _ (List.mem_append_right _ h))
theorem hdX3_isAllowed : yX3_isAllowed.cls = RX3 ∧ yX3_isAllowed.cls ≠ "java/lang/invoke/MethodHandle" ∧ yX3_isAllowed.cls ≠ "java/lang/invoke/VarHandle" ∧ (parseMethodDescriptor yX3_isAllowed.desc).map (fun d => d.parameters.length) = some 1 := by decide +kernel
set_option maxRecDepth 100000 in
set_option maxHeartbeats 4000000 in
/-- Land.isAllowed -/
theorem kX3_isAllowed (l : Launch) (D : va_G) (cI cS : ClassId) (ad : Nat → Nat) (N : Nat) (wind : Int32) (low : Int32) (forb : Int32) (x : Int32) : kyM l yX3_isAllowed wsX3_isAllowed ({ frames := 0, cells := 0, slots := 0, locals := 0 }) D cI cS [.ref (ad 10), .int x] [(ad 10, .inr (3, [.ref (ad 11), .ref (ad 12), .ref (ad 13), .int (nI N), .int wind, .int low, .int forb]))] 0 0 (fun vR wR => vR = some (.int (if (forb >>> (x &&& 31)) &&& 1 = 0 then (1 : Int32) else 0)) ∧ wR = [(ad 10, .inr (3, [.ref (ad 11), .ref (ad 12), .ref (ad 13), .int (nI N), .int wind, .int low, .int forb]))]) := by
  refine ky_start (own := RX3) (cc := cX3_isAllowed) (nL := 2) (ret := (some .boolean)) (by decide) rfl rfl (Nat.le_of_ble_eq_true rfl) ?_
  intro p e s m args below meth c C hr hlk hnm
  refine ky_conv (lv' := [(0, .ref (ad 10)), (1, .int x)]) (List.range 2) rfl rfl rfl ?_
  refine ky_aload_n C 0 dX3_isAllowed_0 rfl rfl ?_
  refine ky_get C (ci := 3) (T := TX3) (N := 7) (Cn := RX3) (ref := "RainAccount$Land") hiX3_isAllowed_X3 0 rfl rfl 6 (by decide) (List.mem_of_getElem? (i := 1) rfl) rfl (v := .int forb) rfl dX3_isAllowed_1 ?_
  refine ky_iload_n C 1 dX3_isAllowed_4 rfl rfl ?_
  refine ky_ishr C (v := forb >>> (x &&& 31)) dX3_isAllowed_5 rfl ?_
  refine ky_iconst C dX3_isAllowed_6 (v := 1) (by decide) ?_
  refine ky_iand C (v := (forb >>> (x &&& 31)) &&& 1) dX3_isAllowed_7 rfl ?_
  refine ky_if_ne C 15 dX3_isAllowed_8 (by decide) (fun c_8 => ?_) (fun c_8 => ?_)
  · refine ky_iconst C dX3_isAllowed_15 (v := 0) (by decide) ?_
    exact ky_zret C hr hlk rfl ⟨congrArg (fun z => some (Value.int z)) (show (0) = (if (forb >>> (x &&& 31)) &&& 1 = 0 then (1 : Int32) else 0) from by simp [c_8]), rfl⟩ (Nat.le_of_ble_eq_true rfl) dX3_isAllowed_16
  · refine ky_iconst C dX3_isAllowed_11 (v := 1) (by decide) ?_
    refine ky_goto C dX3_isAllowed_12 (tgt := 16) (by decide) ?_
    exact ky_zret C hr hlk rfl ⟨congrArg (fun z => some (Value.int z)) (show (1) = (if (forb >>> (x &&& 31)) &&& 1 = 0 then (1 : Int32) else 0) from by simp [c_8]), rfl⟩ (Nat.le_of_ble_eq_true rfl) dX3_isAllowed_16
theorem hiX6_isCloud_X6 : ∀ w ∈ wsX60, w ∈ wsX6_isCloud := fun _ h => (List.mem_cons_of_mem _ (List.mem_append_right _ h))
theorem hdX6_isCloud : yX6_isCloud.cls = RX6 ∧ yX6_isCloud.cls ≠ "java/lang/invoke/MethodHandle" ∧ yX6_isCloud.cls ≠ "java/lang/invoke/VarHandle" ∧ (parseMethodDescriptor yX6_isCloud.desc).map (fun d => d.parameters.length) = some 1 := by decide +kernel
set_option maxRecDepth 100000 in
set_option maxHeartbeats 4000000 in
/-- Sky.isCloud -/
theorem kX6_isCloud (l : Launch) (D : va_G) (cI cS : ClassId) (ad : Nat → Nat) (nc : Nat) (x : Int32) : kyM l yX6_isCloud wsX6_isCloud ({ frames := 0, cells := 0, slots := 0, locals := 0 }) D cI cS [.ref (ad 14), .int x] [(ad 14, .inr (6, [.ref (ad 15), .ref (ad 16), .ref (ad 17), .int (nI nc)]))] 0 0 (fun vR wR => vR = some (.int (if 0 ≤ x ∧ x < nI nc then (1 : Int32) else 0)) ∧ wR = [(ad 14, .inr (6, [.ref (ad 15), .ref (ad 16), .ref (ad 17), .int (nI nc)]))]) := by
  refine ky_start (own := RX6) (cc := cX6_isCloud) (nL := 2) (ret := (some .boolean)) (by decide) rfl rfl (Nat.le_of_ble_eq_true rfl) ?_
  intro p e s m args below meth c C hr hlk hnm
  refine ky_conv (lv' := [(0, .ref (ad 14)), (1, .int x)]) (List.range 2) rfl rfl rfl ?_
  refine ky_iload_n C 1 dX6_isCloud_0 rfl rfl ?_
  refine ky_if_lt C 16 dX6_isCloud_1 (by decide) (fun c_1 => ?_) (fun c_1 => ?_)
  · have d_1 := Int32.not_le.mpr c_1
    refine ky_iconst C dX6_isCloud_16 (v := 0) (by decide) ?_
    exact ky_zret C hr hlk rfl ⟨congrArg (fun z => some (Value.int z)) (show (0) = (if 0 ≤ x ∧ x < nI nc then (1 : Int32) else 0) from by simp [c_1, d_1]), rfl⟩ (Nat.le_of_ble_eq_true rfl) dX6_isCloud_17
  · have d_1 := Int32.not_lt.mp c_1
    refine ky_iload_n C 1 dX6_isCloud_4 rfl rfl ?_
    refine ky_aload_n C 0 dX6_isCloud_5 rfl rfl ?_
    refine ky_get C (ci := 6) (T := TX6) (N := 4) (Cn := RX6) (ref := "RainAccount$Sky") hiX6_isCloud_X6 0 rfl rfl 3 (by decide) (List.mem_of_getElem? (i := 1) rfl) rfl (v := .int (nI nc)) rfl dX6_isCloud_6 ?_
    refine ky_icmp_ge C 16 dX6_isCloud_9 (by decide) (fun c_9 => ?_) (fun c_9 => ?_)
    · have d_9 := Int32.not_lt.mpr c_9
      refine ky_iconst C dX6_isCloud_16 (v := 0) (by decide) ?_
      exact ky_zret C hr hlk rfl ⟨congrArg (fun z => some (Value.int z)) (show (0) = (if 0 ≤ x ∧ x < nI nc then (1 : Int32) else 0) from by simp [c_1, d_1, c_9, d_9]), rfl⟩ (Nat.le_of_ble_eq_true rfl) dX6_isCloud_17
    · have d_9 := Int32.not_le.mp c_9
      refine ky_iconst C dX6_isCloud_12 (v := 1) (by decide) ?_
      refine ky_goto C dX6_isCloud_13 (tgt := 17) (by decide) ?_
      exact ky_zret C hr hlk rfl ⟨congrArg (fun z => some (Value.int z)) (show (1) = (if 0 ≤ x ∧ x < nI nc then (1 : Int32) else 0) from by simp [c_1, d_1, c_9, d_9]), rfl⟩ (Nat.le_of_ble_eq_true rfl) dX6_isCloud_17
theorem hiX6_placeOf_X6 : ∀ w ∈ wsX60, w ∈ wsX6_placeOf := fun _ h => (List.mem_cons_of_mem _ (List.mem_append_right _ h))
theorem hdX6_placeOf : yX6_placeOf.cls = RX6 ∧ yX6_placeOf.cls ≠ "java/lang/invoke/MethodHandle" ∧ yX6_placeOf.cls ≠ "java/lang/invoke/VarHandle" ∧ (parseMethodDescriptor yX6_placeOf.desc).map (fun d => d.parameters.length) = some 3 := by decide +kernel
set_option maxRecDepth 100000 in
set_option maxHeartbeats 4000000 in
/-- Sky.placeOf -/
theorem kX6_placeOf (l : Launch) (D : va_G) (cI cS : ClassId) (ad : Nat → Nat) (nc : Nat) (cat : Nat → Int32) (x : Nat) (w : Int32) (hh : Int32) (hx : x < 6) : kyM l yX6_placeOf wsX6_placeOf ({ frames := 0, cells := 0, slots := 0, locals := 0 }) D cI cS [.ref (ad 14), .int (nI x), .int w, .int hh] [(ad 14, .inr (6, [.ref (ad 15), .ref (ad 16), .ref (ad 17), .int (nI nc)])), (ad 15, .inl (cI, 6, .inl cat))] 0 0 (fun vR wR => vR = some (.int (cat x + w * hh)) ∧ wR = [(ad 14, .inr (6, [.ref (ad 15), .ref (ad 16), .ref (ad 17), .int (nI nc)])), (ad 15, .inl (cI, 6, .inl cat))]) := by
  refine ky_start (own := RX6) (cc := cX6_placeOf) (nL := 4) (ret := (some .int)) (by decide) rfl rfl (Nat.le_of_ble_eq_true rfl) ?_
  intro p e s m args below meth c C hr hlk hnm
  refine ky_conv (lv' := [(0, .ref (ad 14)), (1, .int (nI x)), (2, .int w), (3, .int hh)]) (List.range 4) rfl rfl rfl ?_
  refine ky_aload_n C 0 dX6_placeOf_0 rfl rfl ?_
  refine ky_get C (ci := 6) (T := TX6) (N := 4) (Cn := RX6) (ref := "RainAccount$Sky") hiX6_placeOf_X6 0 rfl rfl 0 (by decide) (List.mem_of_getElem? (i := 1) rfl) rfl (v := .ref (ad 15)) rfl dX6_placeOf_1 ?_
  refine ky_iload_n C 1 dX6_placeOf_4 rfl rfl ?_
  refine ky_ialdN C 1 (k := x) rfl (by omega) (by decide) dX6_placeOf_5 (v := cat x) rfl ?_
  refine ky_iload_n C 2 dX6_placeOf_6 rfl rfl ?_
  refine ky_iload_n C 3 dX6_placeOf_7 rfl rfl ?_
  refine ky_imul C (v := w * hh) dX6_placeOf_8 rfl ?_
  refine ky_iadd C (v := (cat x) + (w * hh)) dX6_placeOf_9 rfl ?_
  exact ky_iret C hr hlk ⟨congrArg (fun z => some (Value.int z)) (show ((cat x) + (w * hh)) = (cat x + w * hh) from by simp ), rfl⟩ (Nat.le_of_ble_eq_true rfl) dX6_placeOf_10
theorem hiX6_add_X6 : ∀ w ∈ wsX60, w ∈ wsX6_add := fun _ h => (List.mem_cons_of_mem _ (List.mem_append_right _ h))
theorem hdX6_add : yX6_add.cls = RX6 ∧ yX6_add.cls ≠ "java/lang/invoke/MethodHandle" ∧ yX6_add.cls ≠ "java/lang/invoke/VarHandle" ∧ (parseMethodDescriptor yX6_add.desc).map (fun d => d.parameters.length) = some 3 := by decide +kernel
set_option maxRecDepth 100000 in
set_option maxHeartbeats 4000000 in
/-- Sky.add -/
theorem kX6_add (l : Launch) (D : va_G) (cI cS : ClassId) (ad : Nat → Nat) (nc : Nat) (cat : Nat → Int32) (cwet : Nat → Int32) (chigh : Nat → Int32) (a0 : Int32) (a1 : Int32) (a2 : Int32) (hnc : nc < 6) : kyM l yX6_add wsX6_add ({ frames := 0, cells := 0, slots := 0, locals := 0 }) D cI cS [.ref (ad 14), .int a0, .int a1, .int a2] [(ad 14, .inr (6, [.ref (ad 15), .ref (ad 16), .ref (ad 17), .int (nI nc)])), (ad 15, .inl (cI, 6, .inl cat)), (ad 16, .inl (cI, 6, .inl cwet)), (ad 17, .inl (cI, 6, .inl chigh))] 0 0 (fun vR wR => vR = some (.int (nI nc)) ∧ wR = [(ad 14, .inr (6, [.ref (ad 15), .ref (ad 16), .ref (ad 17), .int (nI (nc + 1))])), (ad 15, .inl (cI, 6, .inl (upd cat nc a0))), (ad 16, .inl (cI, 6, .inl (upd cwet nc a1))), (ad 17, .inl (cI, 6, .inl (upd chigh nc a2)))]) := by
  refine ky_start (own := RX6) (cc := cX6_add) (nL := 5) (ret := (some .int)) (by decide) rfl rfl (Nat.le_of_ble_eq_true rfl) ?_
  intro p e s m args below meth c C hr hlk hnm
  refine ky_conv (lv' := [(0, .ref (ad 14)), (1, .int a0), (2, .int a1), (3, .int a2)]) (List.range 4) rfl rfl rfl ?_
  refine ky_aload_n C 0 dX6_add_0 rfl rfl ?_
  refine ky_get C (ci := 6) (T := TX6) (N := 4) (Cn := RX6) (ref := "RainAccount$Sky") hiX6_add_X6 0 rfl rfl 3 (by decide) (List.mem_of_getElem? (i := 1) rfl) rfl (v := .int (nI nc)) rfl dX6_add_1 ?_
  refine ky_istore C (lv' := [(4, .int (nI nc)), (0, .ref (ad 14)), (1, .int a0), (2, .int a1), (3, .int a2)]) dX6_add_4 (by decide) rfl ?_
  refine ky_iload C 0 dX6_add_6 rfl ?_
  refine ky_bipush C dX6_add_8 (v := 6) (by decide) ?_
  refine ky_icmp_lt C 16 dX6_add_10 (by decide) (fun c_10 => ?_) (fun q => absurd ((nI_ltI (a := nc) (b := 6) (by omega) (by omega)).mpr hnc) q)
  refine ky_aload_n C 1 dX6_add_16 rfl rfl ?_
  refine ky_get C (ci := 6) (T := TX6) (N := 4) (Cn := RX6) (ref := "RainAccount$Sky") hiX6_add_X6 0 rfl rfl 0 (by decide) (List.mem_of_getElem? (i := 2) rfl) rfl (v := .ref (ad 15)) rfl dX6_add_17 ?_
  refine ky_iload C 0 dX6_add_20 rfl ?_
  refine ky_iload_n C 2 dX6_add_22 rfl rfl ?_
  refine ky_iastN C 1 (k := nc) rfl (by omega) (by decide) dX6_add_23 (ws' := [(ad 14, .inr (6, [.ref (ad 15), .ref (ad 16), .ref (ad 17), .int (nI nc)])), (ad 15, .inl (cI, 6, .inl (upd cat nc a0))), (ad 16, .inl (cI, 6, .inl cwet)), (ad 17, .inl (cI, 6, .inl chigh))]) rfl ?_
  refine ky_aload_n C 1 dX6_add_24 rfl rfl ?_
  refine ky_get C (ci := 6) (T := TX6) (N := 4) (Cn := RX6) (ref := "RainAccount$Sky") hiX6_add_X6 0 rfl rfl 1 (by decide) (List.mem_of_getElem? (i := 3) rfl) rfl (v := .ref (ad 16)) rfl dX6_add_25 ?_
  refine ky_iload C 0 dX6_add_28 rfl ?_
  refine ky_iload_n C 3 dX6_add_30 rfl rfl ?_
  refine ky_iastN C 2 (k := nc) rfl (by omega) (by decide) dX6_add_31 (ws' := [(ad 14, .inr (6, [.ref (ad 15), .ref (ad 16), .ref (ad 17), .int (nI nc)])), (ad 15, .inl (cI, 6, .inl (upd cat nc a0))), (ad 16, .inl (cI, 6, .inl (upd cwet nc a1))), (ad 17, .inl (cI, 6, .inl chigh))]) rfl ?_
  refine ky_aload_n C 1 dX6_add_32 rfl rfl ?_
  refine ky_get C (ci := 6) (T := TX6) (N := 4) (Cn := RX6) (ref := "RainAccount$Sky") hiX6_add_X6 0 rfl rfl 2 (by decide) (List.mem_of_getElem? (i := 4) rfl) rfl (v := .ref (ad 17)) rfl dX6_add_33 ?_
  refine ky_iload C 0 dX6_add_36 rfl ?_
  refine ky_iload_n C 4 dX6_add_38 rfl rfl ?_
  refine ky_iastN C 3 (k := nc) rfl (by omega) (by decide) dX6_add_39 (ws' := [(ad 14, .inr (6, [.ref (ad 15), .ref (ad 16), .ref (ad 17), .int (nI nc)])), (ad 15, .inl (cI, 6, .inl (upd cat nc a0))), (ad 16, .inl (cI, 6, .inl (upd cwet nc a1))), (ad 17, .inl (cI, 6, .inl (upd chigh nc a2)))]) rfl ?_
  refine ky_aload_n C 1 dX6_add_40 rfl rfl ?_
  refine ky_iload C 0 dX6_add_41 rfl ?_
  refine ky_iconst C dX6_add_43 (v := 1) (by decide) ?_
  refine ky_iadd C (v := nI (nc + 1)) dX6_add_44 (nI_add nc 1) ?_
  refine ky_put C (ci := 6) (T := TX6) (N := 4) (Cn := RX6) (ref := "RainAccount$Sky") hiX6_add_X6 tyX6 tyX6_ok nmX6 0 rfl rfl 3 (by decide) (List.mem_of_getElem? (i := 1) rfl) rfl rfl rfl rfl (Nat.le_of_ble_eq_true rfl) dX6_add_45 (ws' := [(ad 14, .inr (6, [.ref (ad 15), .ref (ad 16), .ref (ad 17), .int (nI (nc + 1))])), (ad 15, .inl (cI, 6, .inl (upd cat nc a0))), (ad 16, .inl (cI, 6, .inl (upd cwet nc a1))), (ad 17, .inl (cI, 6, .inl (upd chigh nc a2)))]) rfl ?_
  refine ky_iload C 0 dX6_add_48 rfl ?_
  exact ky_iret C hr hlk ⟨rfl, rfl⟩ (Nat.le_of_ble_eq_true rfl) dX6_add_50
theorem hiX5_isShot_X5 : ∀ w ∈ wsX50, w ∈ wsX5_isShot := fun _ h => (List.mem_cons_of_mem _ (List.mem_append_right _ h))
theorem hdX5_isShot : yX5_isShot.cls = RX5 ∧ yX5_isShot.cls ≠ "java/lang/invoke/MethodHandle" ∧ yX5_isShot.cls ≠ "java/lang/invoke/VarHandle" ∧ (parseMethodDescriptor yX5_isShot.desc).map (fun d => d.parameters.length) = some 1 := by decide +kernel
set_option maxRecDepth 100000 in
set_option maxHeartbeats 4000000 in
/-- Shots.isShot -/
theorem kX5_isShot (l : Launch) (D : va_G) (cI cS : ClassId) (ad : Nat → Nat) (ns : Nat) (x : Int32) : kyM l yX5_isShot wsX5_isShot ({ frames := 0, cells := 0, slots := 0, locals := 0 }) D cI cS [.ref (ad 18), .int x] [(ad 18, .inr (5, [.ref (ad 19), .ref (ad 20), .ref (ad 21), .ref (ad 22), .int (nI ns)]))] 0 0 (fun vR wR => vR = some (.int (if 0 ≤ x ∧ x < nI ns then (1 : Int32) else 0)) ∧ wR = [(ad 18, .inr (5, [.ref (ad 19), .ref (ad 20), .ref (ad 21), .ref (ad 22), .int (nI ns)]))]) := by
  refine ky_start (own := RX5) (cc := cX5_isShot) (nL := 2) (ret := (some .boolean)) (by decide) rfl rfl (Nat.le_of_ble_eq_true rfl) ?_
  intro p e s m args below meth c C hr hlk hnm
  refine ky_conv (lv' := [(0, .ref (ad 18)), (1, .int x)]) (List.range 2) rfl rfl rfl ?_
  refine ky_iload_n C 1 dX5_isShot_0 rfl rfl ?_
  refine ky_if_lt C 16 dX5_isShot_1 (by decide) (fun c_1 => ?_) (fun c_1 => ?_)
  · have d_1 := Int32.not_le.mpr c_1
    refine ky_iconst C dX5_isShot_16 (v := 0) (by decide) ?_
    exact ky_zret C hr hlk rfl ⟨congrArg (fun z => some (Value.int z)) (show (0) = (if 0 ≤ x ∧ x < nI ns then (1 : Int32) else 0) from by simp [c_1, d_1]), rfl⟩ (Nat.le_of_ble_eq_true rfl) dX5_isShot_17
  · have d_1 := Int32.not_lt.mp c_1
    refine ky_iload_n C 1 dX5_isShot_4 rfl rfl ?_
    refine ky_aload_n C 0 dX5_isShot_5 rfl rfl ?_
    refine ky_get C (ci := 5) (T := TX5) (N := 5) (Cn := RX5) (ref := "RainAccount$Shots") hiX5_isShot_X5 0 rfl rfl 4 (by decide) (List.mem_of_getElem? (i := 1) rfl) rfl (v := .int (nI ns)) rfl dX5_isShot_6 ?_
    refine ky_icmp_ge C 16 dX5_isShot_9 (by decide) (fun c_9 => ?_) (fun c_9 => ?_)
    · have d_9 := Int32.not_lt.mpr c_9
      refine ky_iconst C dX5_isShot_16 (v := 0) (by decide) ?_
      exact ky_zret C hr hlk rfl ⟨congrArg (fun z => some (Value.int z)) (show (0) = (if 0 ≤ x ∧ x < nI ns then (1 : Int32) else 0) from by simp [c_1, d_1, c_9, d_9]), rfl⟩ (Nat.le_of_ble_eq_true rfl) dX5_isShot_17
    · have d_9 := Int32.not_le.mp c_9
      refine ky_iconst C dX5_isShot_12 (v := 1) (by decide) ?_
      refine ky_goto C dX5_isShot_13 (tgt := 17) (by decide) ?_
      exact ky_zret C hr hlk rfl ⟨congrArg (fun z => some (Value.int z)) (show (1) = (if 0 ≤ x ∧ x < nI ns then (1 : Int32) else 0) from by simp [c_1, d_1, c_9, d_9]), rfl⟩ (Nat.le_of_ble_eq_true rfl) dX5_isShot_17
theorem hiX5_write_X5 : ∀ w ∈ wsX50, w ∈ wsX5_write := fun _ h => (List.mem_cons_of_mem _ (List.mem_append_right _ h))
theorem hdX5_write : yX5_write.cls = RX5 ∧ yX5_write.cls ≠ "java/lang/invoke/MethodHandle" ∧ yX5_write.cls ≠ "java/lang/invoke/VarHandle" ∧ (parseMethodDescriptor yX5_write.desc).map (fun d => d.parameters.length) = some 5 := by decide +kernel
set_option maxRecDepth 100000 in
set_option maxHeartbeats 4000000 in
/-- Shots.write -/
theorem kX5_write (l : Launch) (D : va_G) (cI cS : ClassId) (ad : Nat → Nat) (ns : Nat) (kd : Nat → Int32) (fr : Nat → Int32) (hor : Nat → Int32) (pw : Nat → Int32) (x : Nat) (a0 : Int32) (a1 : Int32) (a2 : Int32) (a3 : Int32) (hx : x < 10) : kyM l yX5_write wsX5_write ({ frames := 0, cells := 0, slots := 0, locals := 0 }) D cI cS [.ref (ad 18), .int (nI x), .int a0, .int a1, .int a2, .int a3] [(ad 18, .inr (5, [.ref (ad 19), .ref (ad 20), .ref (ad 21), .ref (ad 22), .int (nI ns)])), (ad 19, .inl (cI, 10, .inl kd)), (ad 20, .inl (cI, 10, .inl fr)), (ad 21, .inl (cI, 10, .inl hor)), (ad 22, .inl (cI, 10, .inl pw))] 0 0 (fun vR wR => vR = none ∧ wR = [(ad 18, .inr (5, [.ref (ad 19), .ref (ad 20), .ref (ad 21), .ref (ad 22), .int (nI ns)])), (ad 19, .inl (cI, 10, .inl (upd kd x a0))), (ad 20, .inl (cI, 10, .inl (upd fr x a1))), (ad 21, .inl (cI, 10, .inl (upd hor x a2))), (ad 22, .inl (cI, 10, .inl (upd pw x a3)))]) := by
  refine ky_start (own := RX5) (cc := cX5_write) (nL := 6) (ret := none) (by decide) rfl rfl (Nat.le_of_ble_eq_true rfl) ?_
  intro p e s m args below meth c C hr hlk hnm
  refine ky_conv (lv' := [(0, .ref (ad 18)), (1, .int (nI x)), (2, .int a0), (3, .int a1), (4, .int a2), (5, .int a3)]) (List.range 6) rfl rfl rfl ?_
  refine ky_iload_n C 1 dX5_write_0 rfl rfl ?_
  refine ky_if_lt C 10 dX5_write_1 (by decide) (fun q => absurd q (nI_pos (by omega))) (fun c_1 => ?_)
  refine ky_iload_n C 1 dX5_write_4 rfl rfl ?_
  refine ky_bipush C dX5_write_5 (v := 10) (by decide) ?_
  refine ky_icmp_lt C 11 dX5_write_7 (by decide) (fun c_7 => ?_) (fun q => absurd ((nI_ltI (a := x) (b := 10) (by omega) (by omega)).mpr hx) q)
  refine ky_aload_n C 0 dX5_write_11 rfl rfl ?_
  refine ky_get C (ci := 5) (T := TX5) (N := 5) (Cn := RX5) (ref := "RainAccount$Shots") hiX5_write_X5 0 rfl rfl 0 (by decide) (List.mem_of_getElem? (i := 1) rfl) rfl (v := .ref (ad 19)) rfl dX5_write_12 ?_
  refine ky_iload_n C 1 dX5_write_15 rfl rfl ?_
  refine ky_iload_n C 2 dX5_write_16 rfl rfl ?_
  refine ky_iastN C 1 (k := x) rfl (by omega) (by decide) dX5_write_17 (ws' := [(ad 18, .inr (5, [.ref (ad 19), .ref (ad 20), .ref (ad 21), .ref (ad 22), .int (nI ns)])), (ad 19, .inl (cI, 10, .inl (upd kd x a0))), (ad 20, .inl (cI, 10, .inl fr)), (ad 21, .inl (cI, 10, .inl hor)), (ad 22, .inl (cI, 10, .inl pw))]) rfl ?_
  refine ky_aload_n C 0 dX5_write_18 rfl rfl ?_
  refine ky_get C (ci := 5) (T := TX5) (N := 5) (Cn := RX5) (ref := "RainAccount$Shots") hiX5_write_X5 0 rfl rfl 1 (by decide) (List.mem_of_getElem? (i := 2) rfl) rfl (v := .ref (ad 20)) rfl dX5_write_19 ?_
  refine ky_iload_n C 1 dX5_write_22 rfl rfl ?_
  refine ky_iload_n C 3 dX5_write_23 rfl rfl ?_
  refine ky_iastN C 2 (k := x) rfl (by omega) (by decide) dX5_write_24 (ws' := [(ad 18, .inr (5, [.ref (ad 19), .ref (ad 20), .ref (ad 21), .ref (ad 22), .int (nI ns)])), (ad 19, .inl (cI, 10, .inl (upd kd x a0))), (ad 20, .inl (cI, 10, .inl (upd fr x a1))), (ad 21, .inl (cI, 10, .inl hor)), (ad 22, .inl (cI, 10, .inl pw))]) rfl ?_
  refine ky_aload_n C 0 dX5_write_25 rfl rfl ?_
  refine ky_get C (ci := 5) (T := TX5) (N := 5) (Cn := RX5) (ref := "RainAccount$Shots") hiX5_write_X5 0 rfl rfl 2 (by decide) (List.mem_of_getElem? (i := 3) rfl) rfl (v := .ref (ad 21)) rfl dX5_write_26 ?_
  refine ky_iload_n C 1 dX5_write_29 rfl rfl ?_
  refine ky_iload C 4 dX5_write_30 rfl ?_
  refine ky_iastN C 3 (k := x) rfl (by omega) (by decide) dX5_write_32 (ws' := [(ad 18, .inr (5, [.ref (ad 19), .ref (ad 20), .ref (ad 21), .ref (ad 22), .int (nI ns)])), (ad 19, .inl (cI, 10, .inl (upd kd x a0))), (ad 20, .inl (cI, 10, .inl (upd fr x a1))), (ad 21, .inl (cI, 10, .inl (upd hor x a2))), (ad 22, .inl (cI, 10, .inl pw))]) rfl ?_
  refine ky_aload_n C 0 dX5_write_33 rfl rfl ?_
  refine ky_get C (ci := 5) (T := TX5) (N := 5) (Cn := RX5) (ref := "RainAccount$Shots") hiX5_write_X5 0 rfl rfl 3 (by decide) (List.mem_of_getElem? (i := 4) rfl) rfl (v := .ref (ad 22)) rfl dX5_write_34 ?_
  refine ky_iload_n C 1 dX5_write_37 rfl rfl ?_
  refine ky_iload C 5 dX5_write_38 rfl ?_
  refine ky_iastN C 4 (k := x) rfl (by omega) (by decide) dX5_write_40 (ws' := [(ad 18, .inr (5, [.ref (ad 19), .ref (ad 20), .ref (ad 21), .ref (ad 22), .int (nI ns)])), (ad 19, .inl (cI, 10, .inl (upd kd x a0))), (ad 20, .inl (cI, 10, .inl (upd fr x a1))), (ad 21, .inl (cI, 10, .inl (upd hor x a2))), (ad 22, .inl (cI, 10, .inl (upd pw x a3)))]) rfl ?_
  exact ky_vret C hr hlk ⟨rfl, rfl⟩ (Nat.le_of_ble_eq_true rfl) dX5_write_41
theorem hiX5_reachOf_X5 : ∀ w ∈ wsX50, w ∈ wsX5_reachOf := fun _ h => (List.mem_cons_of_mem _ (List.mem_append_right _ h))
theorem hdX5_reachOf : yX5_reachOf.cls = RX5 ∧ yX5_reachOf.cls ≠ "java/lang/invoke/MethodHandle" ∧ yX5_reachOf.cls ≠ "java/lang/invoke/VarHandle" ∧ (parseMethodDescriptor yX5_reachOf.desc).map (fun d => d.parameters.length) = some 1 := by decide +kernel
set_option maxRecDepth 100000 in
set_option maxHeartbeats 4000000 in
/-- Shots.reachOf -/
theorem kX5_reachOf (l : Launch) (D : va_G) (cI cS : ClassId) (ad : Nat → Nat) (ns : Nat) (kd : Nat → Int32) (pw : Nat → Int32) (x : Nat) (hx : x < 10) : kyM l yX5_reachOf wsX5_reachOf ({ frames := 0, cells := 0, slots := 0, locals := 0 }) D cI cS [.ref (ad 18), .int (nI x)] [(ad 18, .inr (5, [.ref (ad 19), .ref (ad 20), .ref (ad 21), .ref (ad 22), .int (nI ns)])), (ad 19, .inl (cI, 10, .inl kd)), (ad 22, .inl (cI, 10, .inl pw))] 0 0 (fun vR wR => vR = some (.int (if kd x = 0 then pw x else 2 * pw x)) ∧ wR = [(ad 18, .inr (5, [.ref (ad 19), .ref (ad 20), .ref (ad 21), .ref (ad 22), .int (nI ns)])), (ad 19, .inl (cI, 10, .inl kd)), (ad 22, .inl (cI, 10, .inl pw))]) := by
  refine ky_start (own := RX5) (cc := cX5_reachOf) (nL := 2) (ret := (some .int)) (by decide) rfl rfl (Nat.le_of_ble_eq_true rfl) ?_
  intro p e s m args below meth c C hr hlk hnm
  refine ky_conv (lv' := [(0, .ref (ad 18)), (1, .int (nI x))]) (List.range 2) rfl rfl rfl ?_
  refine ky_aload_n C 0 dX5_reachOf_0 rfl rfl ?_
  refine ky_get C (ci := 5) (T := TX5) (N := 5) (Cn := RX5) (ref := "RainAccount$Shots") hiX5_reachOf_X5 0 rfl rfl 0 (by decide) (List.mem_of_getElem? (i := 1) rfl) rfl (v := .ref (ad 19)) rfl dX5_reachOf_1 ?_
  refine ky_iload_n C 1 dX5_reachOf_4 rfl rfl ?_
  refine ky_ialdN C 1 (k := x) rfl (by omega) (by decide) dX5_reachOf_5 (v := kd x) rfl ?_
  refine ky_if_ne C 18 dX5_reachOf_6 (by decide) (fun c_6 => ?_) (fun c_6 => ?_)
  · refine ky_iconst C dX5_reachOf_18 (v := 2) (by decide) ?_
    refine ky_aload_n C 0 dX5_reachOf_19 rfl rfl ?_
    refine ky_get C (ci := 5) (T := TX5) (N := 5) (Cn := RX5) (ref := "RainAccount$Shots") hiX5_reachOf_X5 0 rfl rfl 3 (by decide) (List.mem_of_getElem? (i := 2) rfl) rfl (v := .ref (ad 22)) rfl dX5_reachOf_20 ?_
    refine ky_iload_n C 1 dX5_reachOf_23 rfl rfl ?_
    refine ky_ialdN C 2 (k := x) rfl (by omega) (by decide) dX5_reachOf_24 (v := pw x) rfl ?_
    refine ky_imul C (v := (2 : Int32) * (pw x)) dX5_reachOf_25 rfl ?_
    exact ky_iret C hr hlk ⟨congrArg (fun z => some (Value.int z)) (show ((2 : Int32) * (pw x)) = (if kd x = 0 then pw x else 2 * pw x) from by simp [c_6]), rfl⟩ (Nat.le_of_ble_eq_true rfl) dX5_reachOf_26
  · refine ky_aload_n C 0 dX5_reachOf_9 rfl rfl ?_
    refine ky_get C (ci := 5) (T := TX5) (N := 5) (Cn := RX5) (ref := "RainAccount$Shots") hiX5_reachOf_X5 0 rfl rfl 3 (by decide) (List.mem_of_getElem? (i := 2) rfl) rfl (v := .ref (ad 22)) rfl dX5_reachOf_10 ?_
    refine ky_iload_n C 1 dX5_reachOf_13 rfl rfl ?_
    refine ky_ialdN C 2 (k := x) rfl (by omega) (by decide) dX5_reachOf_14 (v := pw x) rfl ?_
    refine ky_goto C dX5_reachOf_15 (tgt := 26) (by decide) ?_
    exact ky_iret C hr hlk ⟨congrArg (fun z => some (Value.int z)) (show (pw x) = (if kd x = 0 then pw x else 2 * pw x) from by simp [c_6]), rfl⟩ (Nat.le_of_ble_eq_true rfl) dX5_reachOf_26
