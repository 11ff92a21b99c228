/-! part 60: the law's small methods, its day -/
/-- the k-th of the script's ints, or what the law takes behind its end -/
def kCell (L : Nat) (xs : kA) (k : Nat) : Int32 := if k < L then xs k else nI (747796405 * (k + 1))
/-- some number below n, by v -/
def kSm (v : Int32) (n : Nat) : Nat := v.toBitVec.toNat % 2 ^ 31 % n
theorem kSm_lt (v : Int32) {n : Nat} (h : 0 < n) : kSm v n < n := Nat.mod_lt _ h
theorem kn_ne0 {n : Nat} (h : 0 < n) (h2 : n < 2 ^ 31) : ¬ nI n = 0 := fun z => by
  have := kn_eq (a := n) (b := 0) h2 (by omega) z
  omega
theorem kmn1 {x n : Int32} (h : n < x) : n = if x < n then x else n := by rw [if_neg (Int32.not_lt.mpr (Int32.le_of_lt h))]
theorem kmn2 {x n : Int32} (h : x ≤ n) : x = if x < n then x else n := by
  by_cases q : x < n
  · rw [if_pos q]
  · rw [if_neg q]
    exact Int32.le_antisymm h (Int32.not_lt.mp q)
theorem kdbl (x : Int32) : x + x = 2 * x := by
  apply Int32.toBitVec_inj.mp
  simp only [Int32.toBitVec_add, Int32.toBitVec_mul]
  show x.toBitVec + x.toBitVec = 2#32 * x.toBitVec
  bv_omega
theorem ksub2 (x a : Int32) : x - a - a = x - 2 * a := by
  apply Int32.toBitVec_inj.mp
  simp only [Int32.toBitVec_sub, Int32.toBitVec_mul]
  show x.toBitVec - a.toBitVec - a.toBitVec = x.toBitVec - 2#32 * a.toBitVec
  bv_omega
theorem kYfp {need worth gt hl : kA} {f : Nat} {v : Int32} (hv : v = if gt f < need f then gt f else need f) (h : ¬ worth f * v - 2 * hl f ≤ 0) : worth f * v - 2 * hl f = kYf need worth gt hl f := by
  unfold kYf
  rw [← hv, if_neg (fun z => h (Int32.le_of_lt z))]
theorem kYfn {need worth gt hl : kA} {f : Nat} {v : Int32} (hv : v = if gt f < need f then gt f else need f) (h : worth f * v - 2 * hl f ≤ 0) : 0 = kYf need worth gt hl f := by
  unfold kYf
  rw [← hv]
  by_cases q : worth f * v - 2 * hl f < 0
  · rw [if_pos q]
  · rw [if_neg q]
    exact Int32.le_antisymm (Int32.not_lt.mp q) h
theorem kAl_1 {club need worth gt hl : kA} {oc sm : Int32} {i : Nat} (hs : sm = kYs club need worth gt hl oc i) (ho : oc = -1 ∨ 0 ≤ oc) (h : oc < 0) : sm + kYf need worth gt hl i = kYs club need worth gt hl oc (i + 1) := by
  rcases ho with ho | ho
  · rw [kYs, if_pos (Or.inl ho), hs]
  · exact absurd h (Int32.not_lt.mpr ho)
theorem kAl_2 {club need worth gt hl : kA} {oc sm : Int32} {i : Nat} (hs : sm = kYs club need worth gt hl oc i) (h : club i = oc) : sm + kYf need worth gt hl i = kYs club need worth gt hl oc (i + 1) := by
  rw [kYs, if_pos (Or.inr h), hs]
theorem kAl_0 {club need worth gt hl : kA} {oc sm : Int32} {i : Nat} (hs : sm = kYs club need worth gt hl oc i) (ho : oc = -1 ∨ 0 ≤ oc) (h1 : ¬ oc < 0) (h2 : ¬ club i = oc) : sm + 0 = kYs club need worth gt hl oc (i + 1) := by
  rw [kYs, if_neg (fun z => z.elim (fun e => h1 (by rw [e]; decide)) h2), hs]
theorem kFl_1 {a r : kA} {i : Nat} (h : a = kFil (fun _ => 0) r i) (hi : 32 ≤ i) : ∀ j, j < 32 → a j = if j < 32 then 0 else -9 := fun j hj => by
  rw [h, kFil_ext (by omega), if_pos hj]
theorem kFl_2 {a : kA} {i : Nat} (hi : 32 ≤ i) (h : ∀ j, j < i → a j = if j < 32 then 0 else -9) : ∀ j, j < i + 1 → upd a i (-9) j = if j < 32 then 0 else -9 := fun j hj => by
  by_cases e : j = i
  · subst e
    rw [pk_us, if_neg (by omega)]
  · rw [pk_un e]
    exact h j (by omega)
theorem kFl_3 {a g : kA} {i : Nat} (h : ∀ j, j < i → a j = if j < 32 then 0 else -9) (hi : 42 ≤ i) : ∀ j, j < 42 → a j = if 16 ≤ j ∧ j < 16 + 0 then g (35 + (j - 16)) else if j < 32 then 0 else -9 := fun j hj => by
  rw [h j (by omega), if_neg (show ¬ (16 ≤ j ∧ j < 16 + 0) by omega)]
theorem kFl_4 {a g : kA} {i : Nat} (h : ∀ j, j < 42 → a j = if 16 ≤ j ∧ j < 16 + i then g (35 + (j - 16)) else if j < 32 then 0 else -9) : ∀ j, j < 42 → upd a (16 + i) (g (35 + i)) j = if 16 ≤ j ∧ j < 16 + (i + 1) then g (35 + (j - 16)) else if j < 32 then 0 else -9 := fun j hj => by
  by_cases e : j = 16 + i
  · subst e
    rw [pk_us, if_pos ⟨by omega, by omega⟩, Nat.add_sub_cancel_left]
  · rw [pk_un e, h j hj]
    by_cases q : 16 ≤ j ∧ j < 16 + i
    · rw [if_pos q, if_pos ⟨q.1, by omega⟩]
    · rw [if_neg q, if_neg (show ¬ (16 ≤ j ∧ j < 16 + (i + 1)) by omega)]
theorem kDn_1 {g : kG} {wd x : Int32} {h c : Nat} {d : kDS} {a : kA} (ha : a = kPk (kDD g wd h c d)) (hx : x = kPl (gcat g) wd c h) (q : x < 0) : a = kPk (kDD g wd h (c + 1) d) := by
  rw [kDD_no (fun z => absurd z.1.1 (Int32.not_le.mpr (hx ▸ q)))]
  exact ha
theorem kDn_2 {g : kG} {wd x : Int32} {h c : Nat} {d : kDS} {a : kA} (ha : a = kPk (kDD g wd h c d)) (hx : x = kPl (gcat g) wd c h) (q : nI (gN g) ≤ x) : a = kPk (kDD g wd h (c + 1) d) := by
  rw [kDD_no (fun z => absurd z.1.2 (Int32.not_lt.mpr (hx ▸ q)))]
  exact ha
theorem kDn_3 {g : kG} {wd : Int32} {h c : Nat} {d : kDS} {a : kA} (ha : a = kPk (kDD g wd h c d)) (q : glow g < gchi g c) : a = kPk (kDD g wd h (c + 1) d) := by
  rw [kDD_no (fun z => absurd z.2.1 (Int32.not_le.mpr q))]
  exact ha
theorem kDn_4 {g : kG} {wd : Int32} {h c : Nat} {d : kDS} {a : kA} (ha : a = kPk (kDD g wd h c d)) (hc : c < 6) (q : a (16 + c) = 0) : a = kPk (kDD g wd h (c + 1) d) := by
  rw [ha, kPk_l _ hc] at q
  rw [kDD_no (fun z => absurd (show (0 : Int32) < 0 from q ▸ z.2.2) (by decide))]
  exact ha
theorem kDn_y {g : kG} {wd x : Int32} {h c nc : Nat} {d : kDS} {a : kA} (ha : a = kPk (kDD g wd h c d)) (hN : gN g ≤ 8) (hc : c < 6) (hcn : c < nc) (hn : kNn nc (kDD g wd h c d).1) (hx : x = kPl (gcat g) wd c h) (q1 : ¬ x < 0) (q2 : ¬ nI (gN g) ≤ x) (q3 : ¬ glow g < gchi g c) (q4 : ¬ a (16 + c) = 0) :
    upd (upd a x.toNatClampNeg (a x.toNatClampNeg + 1)) (16 + c) (upd a x.toNatClampNeg (a x.toNatClampNeg + 1) (16 + c) - 1) = kPk (kDD g wd h (c + 1) d) := by
  have hx2 : 0 ≤ x ∧ x < nI (gN g) := ⟨Int32.not_lt.mp q1, Int32.not_le.mp q2⟩
  obtain ⟨p, hp, e⟩ := kix hx2 (by omega)
  have hp8 : x.toNatClampNeg < 8 := by rw [e, nI_clamp (by omega)]; omega
  rw [ha, kPk_l _ hc] at q4
  exact kPk_drip ha ⟨hx ▸ hx2, Int32.not_lt.mp q3, kNn_pos hn hcn q4⟩ (by rw [hx]) hp8 hc
theorem kbit01 (x : Int32) : (x &&& 1 = 1) ↔ ¬ (x &&& 1 = 0) := by
  obtain ⟨j, hj, e⟩ := pk_andE x (m := 1) 1 (by decide)
  rw [e]
  rcases kt_2 (show j < 2 from hj) with rfl | rfl <;> decide
theorem kQ_1 {st : Int32} {k : Nat} (h : ¬ (st >>> (nI k &&& 31)) &&& 1 = 0) : kBit st k = true := decide_eq_true ((kbit01 _).mpr h)
theorem kQ_0 {st : Int32} {k : Nat} (h : (st >>> (nI k &&& 31)) &&& 1 = 0) : ¬ kBit st k = true := fun z => (kbit01 _).mp (of_decide_eq_true z) h
theorem kSn_1 {g : kG} {wd st : Int32} {h k : Nat} {d : kDS} {a : kA} (ha : a = kPk (kShots g wd (kBit st) h k d)) (q : (st >>> (nI k &&& 31)) &&& 1 = 0) : a = kPk (kShots g wd (kBit st) h (k + 1) d) := by
  rw [kShots, if_neg (fun z => kQ_0 q z.1)]
  exact ha
theorem kSn_2 {g : kG} {wd : Int32} {Q : Nat → Bool} {h k : Nat} {d : kDS} {a : kA} (ha : a = kPk (kShots g wd Q h k d)) (q : ¬ ghor g k = nI h) : a = kPk (kShots g wd Q h (k + 1) d) := by
  rw [kShots, if_neg (fun z => q z.2)]
  exact ha
theorem kSn_0 {g : kG} {wd : Int32} {Q : Nat → Bool} {h k : Nat} {d : kDS} {a : kA} (ha : a = kPk (kShots g wd Q h k d)) (hQ : Q k = true) (q : ghor g k = nI h) (ht : kTg (gcat g) (gchi g) (kShots g wd Q h k d).1 wd (gfr g k) (kRch (gkd g) (gpw g) k) h (gnc g) = none) : a = kPk (kShots g wd Q h (k + 1) d) := by
  rw [kShots, if_pos ⟨hQ, q⟩, kFire_none ht]
  exact ha
theorem kSn_f {g : kG} {wd : Int32} {Q : Nat → Bool} {h k c fx : Nat} {d : kDS} {a : kA} (ha : a = kPk (kShots g wd Q h k d)) (hQ : Q k = true) (q : ghor g k = nI h) (ht : kTg (gcat g) (gchi g) (kShots g wd Q h k d).1 wd (gfr g k) (kRch (gkd g) (gpw g) k) h (gnc g) = some c) (hc : c < 6) (hk : k < 10) (hf : gfr g k = nI fx) (hfx : fx < 8) {F I : Int32} (hF : F = kFall (gpw g) (kShots g wd Q h k d).1 k c) (hI : I = kIce (gkd g) k F) {a1 a2 a3 a4 : kA} (h1 : a1 = upd a (16 + c) (a (16 + c) - F)) (h2 : a2 = upd a1 (22 + k) F) (h3 : a3 = upd a2 (32 + k) (nI c)) (h4 : a4 = upd a3 (8 + fx) (a3 (8 + fx) + I)) :
    upd a4 fx (a4 fx + (F - I)) = kPk (kShots g wd Q h (k + 1) d) := by
  rw [kShots, if_pos ⟨hQ, q⟩]
  exact kPk_fire ha ht hc hk hf hfx hF hI h1 h2 h3 h4
theorem kdn {x : Int32} {m : Nat} (h : x = nI m - 1) (hm : m ≤ 6) (q : ¬ x < 0) : ∃ k : Nat, m = k + 1 ∧ x = nI k := by
  rcases Nat.eq_zero_or_pos m with e | e
  · subst e
    exact absurd (by rw [h]; decide) q
  · exact ⟨m - 1, by omega, by rw [h]; exact pk_sub (b := 1) (by omega)⟩
theorem kdm (m : Nat) : nI m + -1 = nI m - 1 := by
  apply Int32.toBitVec_inj.mp
  simp only [Int32.toBitVec_add, Int32.toBitVec_sub]
  show (nI m).toBitVec + (-1 : Int32).toBitVec = (nI m).toBitVec - 1#32
  rw [show (-1 : Int32).toBitVec = -1#32 from by decide]
  bv_omega
theorem kd0 {x : Int32} {m n : Nat} {E : Nat → Prop} {chi : kA} {o : Option Nat} (h : x = nI m - 1) (hm : m ≤ 6) (q : x < 0) (hB : kIsB E chi m n o) : kIsB E chi 0 n o := by
  rcases Nat.eq_zero_or_pos m with e | e
  · subst e
    exact hB
  · rw [h, show nI m - 1 = nI (m - 1) from pk_sub (b := 1) (by omega)] at q
    exact absurd q (nI_pos (by omega))
theorem kEl_n1 {cat chi lf : kA} {wd fd r x : Int32} {h c : Nat} (hx : x = kPl cat wd c h) (q : ¬ x = fd) : ¬ kEl cat chi lf wd fd r h c := fun z => q (hx.trans z.2.2)
theorem kEl_n2 {cat chi : kA} {wd fd r : Int32} {h c : Nat} {d : kDS} {a : kA} (q : a (16 + c) = 0) (ha : a = kPk d) (hc : c < 6) : ¬ kEl cat chi d.1 wd fd r h c := fun z => by
  rw [ha, kPk_l _ hc] at q
  exact absurd (show (0 : Int32) < 0 from q ▸ z.1) (by decide)
theorem kEl_n3 {cat chi lf : kA} {wd fd r v : Int32} {h c : Nat} (hv : v = r) (q : ¬ chi c ≤ v) : ¬ kEl cat chi lf wd fd r h c := fun z => q (hv ▸ z.2.1)
theorem kEl_y {cat chi : kA} {wd fd r x v : Int32} {h c nc : Nat} {d : kDS} {a : kA} (hn : kNn nc d.1) (hcn : c < nc) (hc : c < 6) (ha : a = kPk d) (hx : x = kPl cat wd c h) (q1 : x = fd) (q2 : ¬ a (16 + c) = 0) (hv : v = r) (q3 : chi c ≤ v) : kEl cat chi d.1 wd fd r h c := by
  rw [ha, kPk_l _ hc] at q2
  exact ⟨kNn_pos hn hcn q2, hv ▸ q3, hx ▸ q1⟩
theorem kRc_1 {kd pw : kA} {k : Nat} (q : ¬ kd k ≤ 0) : 2 * pw k = kRch kd pw k := by
  unfold kRch
  rw [if_neg (fun z => q (by rw [z]; decide))]
theorem kRc_0 {kd pw : kA} {k : Nat} (h : 0 ≤ kd k) (q : kd k ≤ 0) : pw k = kRch kd pw k := by
  unfold kRch
  rw [if_pos (Int32.le_antisymm q h)]
theorem kFa_1 {pw : kA} {k c : Nat} {d : kDS} {a : kA} (ha : a = kPk d) (hc : c < 6) (q : ¬ a (16 + c) ≤ pw k) : pw k = kFall pw d.1 k c := by
  rw [ha, kPk_l _ hc] at q
  unfold kFall
  rw [if_pos (Int32.not_le.mp q)]
theorem kFa_0 {pw : kA} {k c : Nat} {d : kDS} {a : kA} (ha : a = kPk d) (hc : c < 6) (q : a (16 + c) ≤ pw k) : a (16 + c) = kFall pw d.1 k c := by
  rw [ha, kPk_l _ hc] at q ⊢
  unfold kFall
  rw [if_neg (Int32.not_lt.mpr q)]
theorem hdL_cell : yL_cell.cls = RL ∧ yL_cell.cls ≠ "java/lang/invoke/MethodHandle" ∧ yL_cell.cls ≠ "java/lang/invoke/VarHandle" ∧ (parseMethodDescriptor yL_cell.desc).map (fun d => d.parameters.length) = some 2 := by decide +kernel
set_option maxRecDepth 100000 in
set_option maxHeartbeats 4000000 in
theorem kL_cell (l : Launch) (D : va_G) (cI cS : ClassId) (b : Nat) (L : Nat) (xs : Nat → Int32) (k : Nat) (hL : L ≤ 260) (hk : k ≤ 100) : kyMX l yL_cell wsL_cell ({ frames := 0, cells := 0, slots := 0, locals := 0 }) D cI cS b L xs [.ref b, .int (nI k)] [] 0 0 (fun vR wR => vR = some (.int (kCell L xs k)) ∧ wR = []) := by
  refine ky_startX (own := RL) (cc := cL_cell) (nL := 2) (ret := (some .int)) (by decide) rfl rfl (Nat.le_of_ble_eq_true rfl) ?_
  intro p e s m args below meth c hX hbl hbA C hr hlk hnm
  refine ky_conv (lv' := [(0, .ref b), (1, .int (nI k))]) (List.range 2) rfl rfl rfl ?_
  refine ky_iload_n C 1 dL_cell_0 rfl rfl ?_
  refine ky_aload_n C 0 dL_cell_1 rfl rfl ?_
  refine ky_slen C hX hbl hbA dL_cell_2 ?_
  refine ky_icmp_ge C 12 dL_cell_3 (by decide) (fun c_3 => ?_) (fun c_3 => ?_)
  · have d_3 := Int32.not_lt.mpr c_3
    have n_3 := kn_le (a := L) (b := k) (by omega) (by omega) c_3
    have m_3 := Nat.not_lt.mpr n_3
    refine ky_ldc C (List.mem_of_getElem? (i := 1) rfl) dL_cell_12 ?_
    refine ky_iload_n C 1 dL_cell_14 rfl rfl ?_
    refine ky_iconst C dL_cell_15 (v := 1) (by decide) ?_
    refine ky_iadd C (v := nI (k + 1)) dL_cell_16 (nI_add k 1) ?_
    refine ky_imul C (v := nI (747796405 * (k + 1))) dL_cell_17 (pk_mul 747796405 (k + 1)) ?_
    exact ky_iret C hr hlk ⟨congrArg (fun z => some (Value.int z)) (show (nI (747796405 * (k + 1))) = (kCell L xs k) from by simp only [kCell, if_pos c_3, if_neg d_3, if_pos n_3, if_neg m_3]), rfl⟩ (Nat.le_of_ble_eq_true rfl) dL_cell_18
  · have d_3 := Int32.not_le.mp c_3
    have n_3 := kn_nle (a := L) (b := k) (by omega) (by omega) c_3
    have m_3 := Nat.not_le.mpr n_3
    refine ky_aload_n C 0 dL_cell_6 rfl rfl ?_
    refine ky_iload_n C 1 dL_cell_7 rfl rfl ?_
    refine ky_sld C hX hbl hbA (k := k) (by omega) (by omega) dL_cell_8 ?_
    refine ky_goto C dL_cell_9 (tgt := 18) (by decide) ?_
    exact ky_iret C hr hlk ⟨congrArg (fun z => some (Value.int z)) (show (xs k) = (kCell L xs k) from by simp only [kCell, if_neg c_3, if_pos d_3, if_pos n_3, if_neg m_3]), rfl⟩ (Nat.le_of_ble_eq_true rfl) dL_cell_18
theorem hdL_some : yL_some.cls = RL ∧ yL_some.cls ≠ "java/lang/invoke/MethodHandle" ∧ yL_some.cls ≠ "java/lang/invoke/VarHandle" ∧ (parseMethodDescriptor yL_some.desc).map (fun d => d.parameters.length) = some 2 := by decide +kernel
set_option maxRecDepth 100000 in
set_option maxHeartbeats 4000000 in
theorem kL_some (l : Launch) (D : va_G) (cI cS : ClassId) (v : Int32) (n : Nat) (hn0 : 0 < n) (hn : n ≤ 4096) : kyM l yL_some wsL_some ({ frames := 0, cells := 0, slots := 0, locals := 0 }) D cI cS [.int v, .int (nI n)] [] 0 0 (fun vR wR => vR = some (.int (nI (kSm v n))) ∧ wR = []) := by
  refine ky_start (own := RL) (cc := cL_some) (nL := 2) (ret := (some .int)) (by decide) rfl rfl (Nat.le_of_ble_eq_true rfl) ?_
  intro p e s m args below meth c C hr hlk hnm
  refine ky_conv (lv' := [(0, .int v), (1, .int (nI n))]) (List.range 2) rfl rfl rfl ?_
  refine ky_iload_n C 0 dL_some_0 rfl rfl ?_
  refine ky_ldc C (List.mem_of_getElem? (i := 1) rfl) dL_some_1 ?_
  refine ky_iand C (v := nI (v.toBitVec.toNat % 2 ^ 31)) dL_some_3 (pk_and v 31 (by decide)) ?_
  refine ky_iload_n C 1 dL_some_4 rfl rfl ?_
  refine ky_irem C (v := nI (kSm v n)) dL_some_5 (kn_ne0 hn0 (by omega)) (pk_rem (Nat.mod_lt _ (by decide)) hn0 (by omega)) ?_
  exact ky_iret C hr hlk ⟨rfl, rfl⟩ (Nat.le_of_ble_eq_true rfl) dL_some_6
theorem hdL_brings : yL_brings.cls = RL ∧ yL_brings.cls ≠ "java/lang/invoke/MethodHandle" ∧ yL_brings.cls ≠ "java/lang/invoke/VarHandle" ∧ (parseMethodDescriptor yL_brings.desc).map (fun d => d.parameters.length) = some 3 := by decide +kernel
set_option maxRecDepth 100000 in
set_option maxHeartbeats 4000000 in
theorem kL_brings (l : Launch) (D : va_G) (cI cS : ClassId) (ga : Nat) (g : Nat → Int32) (ra : Nat) (r : Nat → Int32) (x : Nat) (hx : x < 8) : kyM l yL_brings wsL_brings ({ frames := 0, cells := 0, slots := 0, locals := 0 }) D cI cS [.ref ga, .int (nI x), .ref ra] [(ga, .inl (cI, 48, .inl g)), (ra, .inl (cI, 42, .inl r))] 0 0 (fun vR wR => vR = some (.int (kYf (fun j => g (9 + j)) (fun j => g (17 + j)) r (fun j => r (8 + j)) x)) ∧ wR = [(ga, .inl (cI, 48, .inl g)), (ra, .inl (cI, 42, .inl r))]) := by
  refine ky_start (own := RL) (cc := cL_brings) (nL := 4) (ret := (some .int)) (by decide) rfl rfl (Nat.le_of_ble_eq_true rfl) ?_
  intro p e s m args below meth c C hr hlk hnm
  refine ky_conv (lv' := [(0, .ref ga), (1, .int (nI x)), (2, .ref ra)]) (List.range 3) rfl rfl rfl ?_
  refine ky_aload_n C 0 dL_brings_0 rfl rfl ?_
  refine ky_bipush C dL_brings_1 (v := 17) (by decide) ?_
  refine ky_iload_n C 1 dL_brings_3 rfl rfl ?_
  refine ky_iadd C (v := nI (17 + x)) dL_brings_4 (nI_add 17 x) ?_
  refine ky_ialdN C 0 (k := 17 + x) rfl (by omega) (by decide) dL_brings_5 (v := g (17 + x)) rfl ?_
  refine ky_join1 (T1 := Int32) (Wf := (fun v1 => [(ga, .inl (cI, 48, .inl g)), (ra, .inl (cI, 42, .inl r))])) (Lf := (fun v1 => [(0, .ref ga), (1, .int (nI x)), (2, .ref ra)])) (Sf := (fun v1 => [.int v1, .int (g (17 + x))])) (fun v1 => (v1 = if r x < g (9 + x) then r x else g (9 + x)) ∧ True) 30 ?_ ?_
  · intro v1 hI_30
    obtain ⟨hv1, -⟩ := hI_30
    have hv1 : v1 = if r x < g (9 + x) then r x else g (9 + x) := hv1
    refine ky_conv (ws' := [(ga, .inl (cI, 48, .inl g)), (ra, .inl (cI, 42, .inl r))]) (lv' := [(0, .ref ga), (1, .int (nI x)), (2, .ref ra)]) (st' := [.int v1, .int (g (17 + x))]) (List.range 3) rfl rfl rfl ?_
    refine ky_imul C (v := (g (17 + x)) * v1) dL_brings_30 rfl ?_
    refine ky_aload_n C 2 dL_brings_31 rfl rfl ?_
    refine ky_bipush C dL_brings_32 (v := 8) (by decide) ?_
    refine ky_iload_n C 1 dL_brings_34 rfl rfl ?_
    refine ky_iadd C (v := nI (8 + x)) dL_brings_35 (nI_add 8 x) ?_
    refine ky_ialdN C 1 (k := 8 + x) rfl (by omega) (by decide) dL_brings_36 (v := r (8 + x)) rfl ?_
    refine ky_isub C (v := ((g (17 + x)) * v1) - (r (8 + x))) dL_brings_37 rfl ?_
    refine ky_aload_n C 2 dL_brings_38 rfl rfl ?_
    refine ky_bipush C dL_brings_39 (v := 8) (by decide) ?_
    refine ky_iload_n C 1 dL_brings_41 rfl rfl ?_
    refine ky_iadd C (v := nI (8 + x)) dL_brings_42 (nI_add 8 x) ?_
    refine ky_ialdN C 1 (k := 8 + x) rfl (by omega) (by decide) dL_brings_43 (v := r (8 + x)) rfl ?_
    refine ky_isub C (v := g (17 + x) * v1 - 2 * r (8 + x)) dL_brings_44 (ksub2 _ _) ?_
    refine ky_istore_n C (lv' := [(3, .int (g (17 + x) * v1 - 2 * r (8 + x))), (0, .ref ga), (1, .int (nI x)), (2, .ref ra)]) dL_brings_45 rfl (by decide) rfl ?_
    refine ky_iload_n C 0 dL_brings_46 rfl rfl ?_
    refine ky_if_le C 54 dL_brings_47 (by decide) (fun c_47 => ?_) (fun c_47 => ?_)
    · have d_47 := Int32.not_lt.mpr c_47
      refine ky_iconst C dL_brings_54 (v := 0) (by decide) ?_
      exact ky_iret C hr hlk ⟨congrArg (fun z => some (Value.int z)) (show (0) = (kYf (fun j => g (9 + j)) (fun j => g (17 + j)) r (fun j => r (8 + j)) x) from by first | exact kYfp (need := fun j => g (9 + j)) (worth := fun j => g (17 + j)) (gt := r) (hl := fun j => r (8 + j)) (f := x) hv1 c_47 | exact kYfn (need := fun j => g (9 + j)) (worth := fun j => g (17 + j)) (gt := r) (hl := fun j => r (8 + j)) (f := x) hv1 c_47), rfl⟩ (Nat.le_of_ble_eq_true rfl) dL_brings_55
    · have d_47 := Int32.not_le.mp c_47
      refine ky_iload_n C 0 dL_brings_50 rfl rfl ?_
      refine ky_goto C dL_brings_51 (tgt := 55) (by decide) ?_
      exact ky_iret C hr hlk ⟨congrArg (fun z => some (Value.int z)) (show (g (17 + x) * v1 - 2 * r (8 + x)) = (kYf (fun j => g (9 + j)) (fun j => g (17 + j)) r (fun j => r (8 + j)) x) from by first | exact kYfp (need := fun j => g (9 + j)) (worth := fun j => g (17 + j)) (gt := r) (hl := fun j => r (8 + j)) (f := x) hv1 c_47 | exact kYfn (need := fun j => g (9 + j)) (worth := fun j => g (17 + j)) (gt := r) (hl := fun j => r (8 + j)) (f := x) hv1 c_47), rfl⟩ (Nat.le_of_ble_eq_true rfl) dL_brings_55
  · intro kJ_30
    refine ky_aload_n C 2 dL_brings_6 rfl rfl ?_
    refine ky_iload_n C 1 dL_brings_7 rfl rfl ?_
    refine ky_ialdN C 1 (k := x) rfl (by omega) (by decide) dL_brings_8 (v := r x) rfl ?_
    refine ky_aload_n C 0 dL_brings_9 rfl rfl ?_
    refine ky_bipush C dL_brings_10 (v := 9) (by decide) ?_
    refine ky_iload_n C 1 dL_brings_12 rfl rfl ?_
    refine ky_iadd C (v := nI (9 + x)) dL_brings_13 (nI_add 9 x) ?_
    refine ky_ialdN C 0 (k := 9 + x) rfl (by omega) (by decide) dL_brings_14 (v := g (9 + x)) rfl ?_
    refine ky_icmp_le C 27 dL_brings_15 (by decide) (fun c_15 => ?_) (fun c_15 => ?_)
    · have d_15 := Int32.not_lt.mpr c_15
      refine ky_aload_n C 2 dL_brings_27 rfl rfl ?_
      refine ky_iload_n C 1 dL_brings_28 rfl rfl ?_
      refine ky_ialdN C 1 (k := x) rfl (by omega) (by decide) dL_brings_29 (v := r x) rfl ?_
      exact ky_conv (ws' := [(ga, .inl (cI, 48, .inl g)), (ra, .inl (cI, 42, .inl r))]) (lv' := [(0, .ref ga), (1, .int (nI x)), (2, .ref ra)]) (st' := [.int (r x), .int (g (17 + x))]) [0, 1, 2] rfl rfl rfl (kJ_30 (r x) ⟨(by first | exact kmn1 d_15 | exact kmn2 c_15), trivial⟩)
    · have d_15 := Int32.not_le.mp c_15
      refine ky_aload_n C 0 dL_brings_18 rfl rfl ?_
      refine ky_bipush C dL_brings_19 (v := 9) (by decide) ?_
      refine ky_iload_n C 1 dL_brings_21 rfl rfl ?_
      refine ky_iadd C (v := nI (9 + x)) dL_brings_22 (nI_add 9 x) ?_
      refine ky_ialdN C 0 (k := 9 + x) rfl (by omega) (by decide) dL_brings_23 (v := g (9 + x)) rfl ?_
      refine ky_goto C dL_brings_24 (tgt := 30) (by decide) ?_
      exact ky_conv (ws' := [(ga, .inl (cI, 48, .inl g)), (ra, .inl (cI, 42, .inl r))]) (lv' := [(0, .ref ga), (1, .int (nI x)), (2, .ref ra)]) (st' := [.int (g (9 + x)), .int (g (17 + x))]) [0, 1, 2] rfl rfl rfl (kJ_30 (g (9 + x)) ⟨(by first | exact kmn1 d_15 | exact kmn2 c_15), trivial⟩)
theorem hdL_all : yL_all.cls = RL ∧ yL_all.cls ≠ "java/lang/invoke/MethodHandle" ∧ yL_all.cls ≠ "java/lang/invoke/VarHandle" ∧ (parseMethodDescriptor yL_all.desc).map (fun d => d.parameters.length) = some 3 := by decide +kernel
set_option maxRecDepth 100000 in
set_option maxHeartbeats 4000000 in
theorem kL_all (l : Launch) (D : va_G) (cI cS : ClassId) (N : Nat) (ga : Nat) (g : Nat → Int32) (ra : Nat) (r : Nat → Int32) (oc : Int32) (hN : N ≤ 8) (hg0 : g 0 = nI N) (hoc : oc = -1 ∨ 0 ≤ oc) : kyM l yL_all wsL_all ({ frames := 1, cells := 0, slots := 0, locals := 23 }) D cI cS [.ref ga, .int oc, .ref ra] [(ga, .inl (cI, 48, .inl g)), (ra, .inl (cI, 42, .inl r))] 0 0 (fun vR wR => vR = some (.int (kYs (fun j => g (1 + j)) (fun j => g (9 + j)) (fun j => g (17 + j)) r (fun j => r (8 + j)) oc N)) ∧ wR = [(ga, .inl (cI, 48, .inl g)), (ra, .inl (cI, 42, .inl r))]) := by
  refine ky_start (own := RL) (cc := cL_all) (nL := 5) (ret := (some .int)) (by decide) rfl rfl (Nat.le_of_ble_eq_true rfl) ?_
  intro p e s m args below meth c C hr hlk hnm
  refine ky_conv (lv' := [(0, .ref ga), (1, .int oc), (2, .ref ra)]) (List.range 3) rfl rfl rfl ?_
  refine ky_iconst C dL_all_0 (v := 0) (by decide) ?_
  refine ky_istore_n C (lv' := [(3, .int 0), (0, .ref ga), (1, .int oc), (2, .ref ra)]) dL_all_1 rfl (by decide) rfl ?_
  refine ky_iconst C dL_all_2 (v := 0) (by decide) ?_
  refine ky_istore C (lv' := [(4, .int 0), (3, .int 0), (0, .ref ga), (1, .int oc), (2, .ref ra)]) dL_all_3 (by decide) rfl ?_
  refine ky_conv (ws' := [(ga, .inl (cI, 48, .inl g)), (ra, .inl (cI, 42, .inl r))]) (lv' := [(4, .int 0), (3, .int 0), (0, .ref ga), (1, .int oc), (2, .ref ra)]) (st' := []) [0, 1, 2, 3, 4] rfl rfl rfl ?_
  refine ky_loop2 (T1 := Nat) (T2 := Int32) (Wf := (fun i sm => [(ga, .inl (cI, 48, .inl g)), (ra, .inl (cI, 42, .inl r))])) (Lf := (fun i sm => [(4, .int (nI i)), (3, .int sm), (0, .ref ga), (1, .int oc), (2, .ref ra)])) (Sf := (fun i sm => [])) (fun i sm => (i ≤ N) ∧ (sm = kYs (fun j => g (1 + j)) (fun j => g (9 + j)) (fun j => g (17 + j)) r (fun j => r (8 + j)) oc i) ∧ True) (fun i sm => N - i) ?_ 0 0 ⟨(by omega), rfl, trivial⟩
  intro i sm hI_5 ih_5
  obtain ⟨hi, hs, -⟩ := hI_5
  have hi : i ≤ N := hi
  have hs : sm = kYs (fun j => g (1 + j)) (fun j => g (9 + j)) (fun j => g (17 + j)) r (fun j => r (8 + j)) oc i := hs
  refine ky_conv (ws' := [(ga, .inl (cI, 48, .inl g)), (ra, .inl (cI, 42, .inl r))]) (lv' := [(4, .int (nI i)), (3, .int sm), (0, .ref ga), (1, .int oc), (2, .ref ra)]) (st' := []) (List.range 5) rfl rfl rfl ?_
  refine ky_iload C 0 dL_all_5 rfl ?_
  refine ky_aload_n C 2 dL_all_7 rfl rfl ?_
  refine ky_iconst C dL_all_8 (v := 0) (by decide) ?_
  refine ky_ialdN C 0 (k := 0) rfl (by omega) (by decide) dL_all_9 (v := nI N) hg0 ?_
  refine ky_icmp_ge C 47 dL_all_10 (by decide) (fun c_10 => ?_) (fun c_10 => ?_)
  · have d_10 := Int32.not_lt.mpr c_10
    have n_10 := kn_le (a := N) (b := i) (by omega) (by omega) c_10
    have m_10 := Nat.not_lt.mpr n_10
    refine ky_iload_n C 1 dL_all_47 rfl rfl ?_
    exact ky_iret C hr hlk ⟨congrArg (fun z => some (Value.int z)) (show (sm) = (kYs (fun j => g (1 + j)) (fun j => g (9 + j)) (fun j => g (17 + j)) r (fun j => r (8 + j)) oc N) from by rw [hs, show i = N from by omega]), rfl⟩ (Nat.le_of_ble_eq_true rfl) dL_all_48
  · have d_10 := Int32.not_le.mp c_10
    have n_10 := kn_nle (a := N) (b := i) (by omega) (by omega) c_10
    have m_10 := Nat.not_le.mpr n_10
    refine ky_iload_n C 1 dL_all_13 rfl rfl ?_
    refine ky_iload_n C 3 dL_all_14 rfl rfl ?_
    refine ky_if_lt C 28 dL_all_15 (by decide) (fun c_15 => ?_) (fun c_15 => ?_)
    · have d_15 := Int32.not_le.mpr c_15
      refine ky_aload_n C 2 dL_all_28 rfl rfl ?_
      refine ky_iload C 0 dL_all_29 rfl ?_
      refine ky_aload_n C 4 dL_all_31 rfl rfl ?_
      refine ky_callS0 C 3 (kL_brings l D cI cS ga g ra r i (by first | assumption | omega)) gL_all_L_brings rfl rfl rfl hdL_brings.2 ⟨Nat.le_of_ble_eq_true rfl, Nat.le_of_ble_eq_true rfl⟩ rfl rfl (Nat.le_of_ble_eq_true rfl) dL_all_32 [0, 1] rfl rfl ?_
      rintro _ _ ⟨rfl, rfl⟩
      refine ky_ws (ws' := [(ga, .inl (cI, 48, .inl g)), (ra, .inl (cI, 42, .inl r))]) (st' := [.int (kYf (fun j => g (9 + j)) (fun j => g (17 + j)) r (fun j => r (8 + j)) i), .int sm]) rfl rfl ?_
      refine ky_goto C dL_all_35 (tgt := 39) (by decide) ?_
      refine ky_iadd C (v := sm + (kYf (fun j => g (9 + j)) (fun j => g (17 + j)) r (fun j => r (8 + j)) i)) dL_all_39 rfl ?_
      refine ky_istore_n C (lv' := [(3, .int (sm + (kYf (fun j => g (9 + j)) (fun j => g (17 + j)) r (fun j => r (8 + j)) i))), (4, .int (nI i)), (0, .ref ga), (1, .int oc), (2, .ref ra)]) dL_all_40 rfl (by decide) rfl ?_
      refine ky_iinc C 1 (v := nI (i + 1)) (lv' := [(4, .int (nI (i + 1))), (3, .int (sm + (kYf (fun j => g (9 + j)) (fun j => g (17 + j)) r (fun j => r (8 + j)) i))), (0, .ref ga), (1, .int oc), (2, .ref ra)]) dL_all_41 rfl (nI_1 _) (by decide) rfl ?_
      refine ky_goto C dL_all_44 (tgt := 5) (by decide) ?_
      exact ky_conv (ws' := [(ga, .inl (cI, 48, .inl g)), (ra, .inl (cI, 42, .inl r))]) (lv' := [(4, .int (nI (i + 1))), (3, .int (sm + (kYf (fun j => g (9 + j)) (fun j => g (17 + j)) r (fun j => r (8 + j)) i))), (0, .ref ga), (1, .int oc), (2, .ref ra)]) (st' := []) [0, 1, 2, 3, 4] rfl rfl rfl (ih_5 (i + 1) (sm + (kYf (fun j => g (9 + j)) (fun j => g (17 + j)) r (fun j => r (8 + j)) i)) (show N - (i + 1) < N - i from by omega) ⟨(by omega), (kAl_1 hs hoc c_15), trivial⟩)
    · have d_15 := Int32.not_lt.mp c_15
      refine ky_aload_n C 2 dL_all_18 rfl rfl ?_
      refine ky_iconst C dL_all_19 (v := 1) (by decide) ?_
      refine ky_iload C 0 dL_all_20 rfl ?_
      refine ky_iadd C (v := nI (1 + i)) dL_all_22 (nI_add 1 i) ?_
      refine ky_ialdN C 0 (k := 1 + i) rfl (by omega) (by decide) dL_all_23 (v := g (1 + i)) rfl ?_
      refine ky_iload_n C 3 dL_all_24 rfl rfl ?_
      refine ky_icmp_ne C 38 dL_all_25 (by decide) (fun c_25 => ?_) (fun c_25 => ?_)
      · refine ky_iconst C dL_all_38 (v := 0) (by decide) ?_
        refine ky_iadd C (v := sm + 0) dL_all_39 rfl ?_
        refine ky_istore_n C (lv' := [(3, .int (sm + 0)), (4, .int (nI i)), (0, .ref ga), (1, .int oc), (2, .ref ra)]) dL_all_40 rfl (by decide) rfl ?_
        refine ky_iinc C 1 (v := nI (i + 1)) (lv' := [(4, .int (nI (i + 1))), (3, .int (sm + 0)), (0, .ref ga), (1, .int oc), (2, .ref ra)]) dL_all_41 rfl (nI_1 _) (by decide) rfl ?_
        refine ky_goto C dL_all_44 (tgt := 5) (by decide) ?_
        exact ky_conv (ws' := [(ga, .inl (cI, 48, .inl g)), (ra, .inl (cI, 42, .inl r))]) (lv' := [(4, .int (nI (i + 1))), (3, .int (sm + 0)), (0, .ref ga), (1, .int oc), (2, .ref ra)]) (st' := []) [0, 1, 2, 3, 4] rfl rfl rfl (ih_5 (i + 1) (sm + 0) (show N - (i + 1) < N - i from by omega) ⟨(by omega), (kAl_0 hs hoc c_15 c_25), trivial⟩)
      · refine ky_aload_n C 2 dL_all_28 rfl rfl ?_
        refine ky_iload C 0 dL_all_29 rfl ?_
        refine ky_aload_n C 4 dL_all_31 rfl rfl ?_
        refine ky_callS0 C 3 (kL_brings l D cI cS ga g ra r i (by first | assumption | omega)) gL_all_L_brings rfl rfl rfl hdL_brings.2 ⟨Nat.le_of_ble_eq_true rfl, Nat.le_of_ble_eq_true rfl⟩ rfl rfl (Nat.le_of_ble_eq_true rfl) dL_all_32 [0, 1] rfl rfl ?_
        rintro _ _ ⟨rfl, rfl⟩
        refine ky_ws (ws' := [(ga, .inl (cI, 48, .inl g)), (ra, .inl (cI, 42, .inl r))]) (st' := [.int (kYf (fun j => g (9 + j)) (fun j => g (17 + j)) r (fun j => r (8 + j)) i), .int sm]) rfl rfl ?_
        refine ky_goto C dL_all_35 (tgt := 39) (by decide) ?_
        refine ky_iadd C (v := sm + (kYf (fun j => g (9 + j)) (fun j => g (17 + j)) r (fun j => r (8 + j)) i)) dL_all_39 rfl ?_
        refine ky_istore_n C (lv' := [(3, .int (sm + (kYf (fun j => g (9 + j)) (fun j => g (17 + j)) r (fun j => r (8 + j)) i))), (4, .int (nI i)), (0, .ref ga), (1, .int oc), (2, .ref ra)]) dL_all_40 rfl (by decide) rfl ?_
        refine ky_iinc C 1 (v := nI (i + 1)) (lv' := [(4, .int (nI (i + 1))), (3, .int (sm + (kYf (fun j => g (9 + j)) (fun j => g (17 + j)) r (fun j => r (8 + j)) i))), (0, .ref ga), (1, .int oc), (2, .ref ra)]) dL_all_41 rfl (nI_1 _) (by decide) rfl ?_
        refine ky_goto C dL_all_44 (tgt := 5) (by decide) ?_
        exact ky_conv (ws' := [(ga, .inl (cI, 48, .inl g)), (ra, .inl (cI, 42, .inl r))]) (lv' := [(4, .int (nI (i + 1))), (3, .int (sm + (kYf (fun j => g (9 + j)) (fun j => g (17 + j)) r (fun j => r (8 + j)) i))), (0, .ref ga), (1, .int oc), (2, .ref ra)]) (st' := []) [0, 1, 2, 3, 4] rfl rfl rfl (ih_5 (i + 1) (sm + (kYf (fun j => g (9 + j)) (fun j => g (17 + j)) r (fun j => r (8 + j)) i)) (show N - (i + 1) < N - i from by omega) ⟨(by omega), (kAl_2 hs c_25), trivial⟩)
theorem hdL_day : yL_day.cls = RL ∧ yL_day.cls ≠ "java/lang/invoke/MethodHandle" ∧ yL_day.cls ≠ "java/lang/invoke/VarHandle" ∧ (parseMethodDescriptor yL_day.desc).map (fun d => d.parameters.length) = some 6 := by decide +kernel
set_option maxRecDepth 100000 in
set_option maxHeartbeats 4000000 in
theorem kL_day (l : Launch) (D : va_G) (cI cS : ClassId) (N : Nat) (nc : Nat) (ga : Nat) (g : Nat → Int32) (qa : Nat) (q : Nat → Int32) (ra : Nat) (r : Nat → Int32) (st0 : Int32) (wd : Int32) (till : Nat) (hN : N ≤ 8) (hnc : nc ≤ 6) (ht : till ≤ 11) (hg0 : g 0 = nI N) (hg28 : g 28 = nI nc) (hcw : kNn nc (fun c => g (35 + c))) (hpw : ∀ k, k < 10 → kBit st0 k = true → ∃ m : Nat, m ≤ 9 ∧ q (30 + k) = nI m) (hfr : ∀ k, k < 10 → kBit st0 k = true → ∃ x : Nat, x < N ∧ q (10 + k) = nI x) (hkd : ∀ k, k < 10 → kBit st0 k = true → 0 ≤ q k) : kyM l yL_day wsL_day ({ frames := 0, cells := 0, slots := 0, locals := 0 }) D cI cS [.ref ga, .ref qa, .int st0, .int wd, .int (nI till), .ref ra] [(ga, .inl (cI, 48, .inl g)), (qa, .inl (cI, 40, .inl q)), (ra, .inl (cI, 42, .inl r))] 0 0 (fun vR wR => vR = none ∧ wR = [(ga, .inl (cI, 48, .inl g)), (qa, .inl (cI, 40, .inl q)), (ra, .inl (cI, 42, .inl (kPk (kDay (kGl N nc g q) wd (kBit st0) (till + 1)))))]) := by
  refine ky_start (own := RL) (cc := cL_day) (nL := 11) (ret := none) (by decide) rfl rfl (Nat.le_of_ble_eq_true rfl) ?_
  intro p e s m args below meth c C hr hlk hnm
  refine ky_conv (lv' := [(0, .ref ga), (1, .ref qa), (2, .int st0), (3, .int wd), (4, .int (nI till)), (5, .ref ra)]) (List.range 6) rfl rfl rfl ?_
  refine ky_iconst C dL_day_0 (v := 0) (by decide) ?_
  refine ky_istore C (lv' := [(6, .int 0), (0, .ref ga), (1, .ref qa), (2, .int st0), (3, .int wd), (4, .int (nI till)), (5, .ref ra)]) dL_day_1 (by decide) rfl ?_
  refine ky_conv (ws' := [(ga, .inl (cI, 48, .inl g)), (qa, .inl (cI, 40, .inl q)), (ra, .inl (cI, 42, .inl r))]) (lv' := [(6, .int 0), (0, .ref ga), (1, .ref qa), (2, .int st0), (3, .int wd), (4, .int (nI till)), (5, .ref ra)]) (st' := []) [0, 1, 2, 3, 4, 5, 6] rfl rfl rfl ?_
  refine ky_loop2 (T1 := Nat) (T2 := Nat → Int32) (Wf := (fun i1 a1 => [(ga, .inl (cI, 48, .inl g)), (qa, .inl (cI, 40, .inl q)), (ra, .inl (cI, 42, .inl a1))])) (Lf := (fun i1 a1 => [(6, .int (nI i1)), (0, .ref ga), (1, .ref qa), (2, .int st0), (3, .int wd), (4, .int (nI till)), (5, .ref ra)])) (Sf := (fun i1 a1 => [])) (fun i1 a1 => (i1 ≤ 32) ∧ (a1 = kFil (fun _ => 0) r i1) ∧ True) (fun i1 a1 => 32 - i1) ?_ 0 r ⟨(by omega), (kFil_0 _ _).symm, trivial⟩
  intro i1 a1 hI_3 ih_3
  obtain ⟨hi1, ha1, -⟩ := hI_3
  have hi1 : i1 ≤ 32 := hi1
  have ha1 : a1 = kFil (fun _ => 0) r i1 := ha1
  refine ky_conv (ws' := [(ga, .inl (cI, 48, .inl g)), (qa, .inl (cI, 40, .inl q)), (ra, .inl (cI, 42, .inl a1))]) (lv' := [(6, .int (nI i1)), (0, .ref ga), (1, .ref qa), (2, .int st0), (3, .int wd), (4, .int (nI till)), (5, .ref ra)]) (st' := []) (List.range 7) rfl rfl rfl ?_
  refine ky_iload C 0 dL_day_3 rfl ?_
  refine ky_bipush C dL_day_5 (v := 32) (by decide) ?_
  refine ky_icmp_ge C 22 dL_day_7 (by decide) (fun c_7 => ?_) (fun c_7 => ?_)
  · have d_7 := Int32.not_lt.mpr c_7
    have n_7 := kn_le (a := 32) (b := i1) (by omega) (by omega) c_7
    have m_7 := Nat.not_lt.mpr n_7
    refine ky_bipush C dL_day_22 (v := 32) (by decide) ?_
    refine ky_istore C (lv' := [(6, .int 32), (0, .ref ga), (1, .ref qa), (2, .int st0), (3, .int wd), (4, .int (nI till)), (5, .ref ra)]) dL_day_24 (by decide) rfl ?_
    refine ky_conv (ws' := [(ga, .inl (cI, 48, .inl g)), (qa, .inl (cI, 40, .inl q)), (ra, .inl (cI, 42, .inl a1))]) (lv' := [(6, .int 32), (0, .ref ga), (1, .ref qa), (2, .int st0), (3, .int wd), (4, .int (nI till)), (5, .ref ra)]) (st' := []) [0, 1, 2, 3, 4, 5, 6] rfl rfl rfl ?_
    refine ky_loop2 (T1 := Nat) (T2 := Nat → Int32) (Wf := (fun i2 a2 => [(ga, .inl (cI, 48, .inl g)), (qa, .inl (cI, 40, .inl q)), (ra, .inl (cI, 42, .inl a2))])) (Lf := (fun i2 a2 => [(6, .int (nI i2)), (0, .ref ga), (1, .ref qa), (2, .int st0), (3, .int wd), (4, .int (nI till)), (5, .ref ra)])) (Sf := (fun i2 a2 => [])) (fun i2 a2 => (32 ≤ i2) ∧ (i2 ≤ 42) ∧ (∀ j, j < i2 → a2 j = if j < 32 then 0 else -9) ∧ True) (fun i2 a2 => 42 - i2) ?_ 32 a1 ⟨(by omega), (by omega), (kFl_1 ha1 (by omega)), trivial⟩
    intro i2 a2 hI_26 ih_26
    obtain ⟨hi2, hj2, ha2, -⟩ := hI_26
    have hi2 : 32 ≤ i2 := hi2
    have hj2 : i2 ≤ 42 := hj2
    have ha2 : ∀ j, j < i2 → a2 j = if j < 32 then 0 else -9 := ha2
    refine ky_conv (ws' := [(ga, .inl (cI, 48, .inl g)), (qa, .inl (cI, 40, .inl q)), (ra, .inl (cI, 42, .inl a2))]) (lv' := [(6, .int (nI i2)), (0, .ref ga), (1, .ref qa), (2, .int st0), (3, .int wd), (4, .int (nI till)), (5, .ref ra)]) (st' := []) (List.range 7) rfl rfl rfl ?_
    refine ky_iload C 0 dL_day_26 rfl ?_
    refine ky_bipush C dL_day_28 (v := 42) (by decide) ?_
    refine ky_icmp_ge C 46 dL_day_30 (by decide) (fun c_30 => ?_) (fun c_30 => ?_)
    · have d_30 := Int32.not_lt.mpr c_30
      have n_30 := kn_le (a := 42) (b := i2) (by omega) (by omega) c_30
      have m_30 := Nat.not_lt.mpr n_30
      refine ky_iconst C dL_day_46 (v := 0) (by decide) ?_
      refine ky_istore C (lv' := [(6, .int 0), (0, .ref ga), (1, .ref qa), (2, .int st0), (3, .int wd), (4, .int (nI till)), (5, .ref ra)]) dL_day_47 (by decide) rfl ?_
      refine ky_conv (ws' := [(ga, .inl (cI, 48, .inl g)), (qa, .inl (cI, 40, .inl q)), (ra, .inl (cI, 42, .inl a2))]) (lv' := [(6, .int 0), (0, .ref ga), (1, .ref qa), (2, .int st0), (3, .int wd), (4, .int (nI till)), (5, .ref ra)]) (st' := []) [0, 1, 2, 3, 4, 5, 6] rfl rfl rfl ?_
      refine ky_loop2 (T1 := Nat) (T2 := Nat → Int32) (Wf := (fun i3 a3 => [(ga, .inl (cI, 48, .inl g)), (qa, .inl (cI, 40, .inl q)), (ra, .inl (cI, 42, .inl a3))])) (Lf := (fun i3 a3 => [(6, .int (nI i3)), (0, .ref ga), (1, .ref qa), (2, .int st0), (3, .int wd), (4, .int (nI till)), (5, .ref ra)])) (Sf := (fun i3 a3 => [])) (fun i3 a3 => (i3 ≤ nc) ∧ (∀ j, j < 42 → a3 j = if 16 ≤ j ∧ j < 16 + i3 then g (35 + (j - 16)) else if j < 32 then 0 else -9) ∧ True) (fun i3 a3 => nc - i3) ?_ 0 a2 ⟨(by omega), (kFl_3 ha2 (by omega)), trivial⟩
      intro i3 a3 hI_49 ih_49
      obtain ⟨hi3, ha3, -⟩ := hI_49
      have hi3 : i3 ≤ nc := hi3
      have ha3 : ∀ j, j < 42 → a3 j = if 16 ≤ j ∧ j < 16 + i3 then g (35 + (j - 16)) else if j < 32 then 0 else -9 := ha3
      refine ky_conv (ws' := [(ga, .inl (cI, 48, .inl g)), (qa, .inl (cI, 40, .inl q)), (ra, .inl (cI, 42, .inl a3))]) (lv' := [(6, .int (nI i3)), (0, .ref ga), (1, .ref qa), (2, .int st0), (3, .int wd), (4, .int (nI till)), (5, .ref ra)]) (st' := []) (List.range 7) rfl rfl rfl ?_
      refine ky_iload C 0 dL_day_49 rfl ?_
      refine ky_aload_n C 1 dL_day_51 rfl rfl ?_
      refine ky_bipush C dL_day_52 (v := 28) (by decide) ?_
      refine ky_ialdN C 0 (k := 28) rfl (by omega) (by decide) dL_day_54 (v := nI nc) hg28 ?_
      refine ky_icmp_ge C 79 dL_day_55 (by decide) (fun c_55 => ?_) (fun c_55 => ?_)
      · have d_55 := Int32.not_lt.mpr c_55
        have n_55 := kn_le (a := nc) (b := i3) (by omega) (by omega) c_55
        have m_55 := Nat.not_lt.mpr n_55
        have hi3e : i3 = nc := by omega
        rw [hi3e] at ha3
        refine ky_ext 2 (g := kPk (kDay (kGl N nc g q) wd (kBit st0) 0)) rfl (kPk_0 hnc ha3) (ws' := [(ga, .inl (cI, 48, .inl g)), (qa, .inl (cI, 40, .inl q)), (ra, .inl (cI, 42, .inl (kPk (kDay (kGl N nc g q) wd (kBit st0) 0))))]) rfl ?_
        refine ky_iconst C dL_day_79 (v := 0) (by decide) ?_
        refine ky_istore C (lv' := [(6, .int 0), (0, .ref ga), (1, .ref qa), (2, .int st0), (3, .int wd), (4, .int (nI till)), (5, .ref ra)]) dL_day_80 (by decide) rfl ?_
        refine ky_conv (ws' := [(ga, .inl (cI, 48, .inl g)), (qa, .inl (cI, 40, .inl q)), (ra, .inl (cI, 42, .inl (kPk (kDay (kGl N nc g q) wd (kBit st0) 0))))]) (lv' := [(6, .int 0), (0, .ref ga), (1, .ref qa), (2, .int st0), (3, .int wd), (4, .int (nI till)), (5, .ref ra)]) (st' := []) [0, 1, 2, 3, 4, 5, 6] rfl rfl rfl ?_
        refine ky_loop2 (T1 := Nat) (T2 := Nat → Int32) (Wf := (fun t1 a4 => [(ga, .inl (cI, 48, .inl g)), (qa, .inl (cI, 40, .inl q)), (ra, .inl (cI, 42, .inl a4))])) (Lf := (fun t1 a4 => [(6, .int (nI t1)), (0, .ref ga), (1, .ref qa), (2, .int st0), (3, .int wd), (4, .int (nI till)), (5, .ref ra)])) (Sf := (fun t1 a4 => [])) (fun t1 a4 => (t1 ≤ till + 1) ∧ (a4 = kPk (kDay (kGl N nc g q) wd (kBit st0) t1)) ∧ True) (fun t1 a4 => till + 1 - t1) ?_ 0 (kPk (kDay (kGl N nc g q) wd (kBit st0) 0)) ⟨(by omega), rfl, trivial⟩
        intro t1 a4 hI_82 ih_82
        obtain ⟨ht1, ha4, -⟩ := hI_82
        have ht1 : t1 ≤ till + 1 := ht1
        have ha4 : a4 = kPk (kDay (kGl N nc g q) wd (kBit st0) t1) := ha4
        refine ky_conv (ws' := [(ga, .inl (cI, 48, .inl g)), (qa, .inl (cI, 40, .inl q)), (ra, .inl (cI, 42, .inl a4))]) (lv' := [(6, .int (nI t1)), (0, .ref ga), (1, .ref qa), (2, .int st0), (3, .int wd), (4, .int (nI till)), (5, .ref ra)]) (st' := []) (List.range 7) rfl rfl rfl ?_
        refine ky_iload C 0 dL_day_82 rfl ?_
        refine ky_iload C 5 dL_day_84 rfl ?_
        refine ky_icmp_gt C 492 dL_day_86 (by decide) (fun c_86 => ?_) (fun c_86 => ?_)
        · have d_86 := Int32.not_le.mpr c_86
          have n_86 := kn_lt (a := till) (b := t1) (by omega) (by omega) c_86
          have m_86 := Nat.not_le.mpr n_86
          exact ky_vret C hr hlk ⟨rfl, (by first | rfl | (have e : t1 = till + 1 := (by omega); rw [ha4, e]))⟩ (Nat.le_of_ble_eq_true rfl) dL_day_492
        · have d_86 := Int32.not_lt.mp c_86
          have n_86 := kn_nlt (a := till) (b := t1) (by omega) (by omega) c_86
          have m_86 := Nat.not_lt.mpr n_86
          have hNd0 : kNn nc (kDay (kGl N nc g q) wd (kBit st0) t1).1 := kNn_day (g := (kGl N nc g q)) hcw hpw t1
          refine ky_iconst C dL_day_89 (v := 0) (by decide) ?_
          refine ky_istore C (lv' := [(7, .int 0), (6, .int (nI t1)), (0, .ref ga), (1, .ref qa), (2, .int st0), (3, .int wd), (4, .int (nI till)), (5, .ref ra)]) dL_day_90 (by decide) rfl ?_
          refine ky_conv (ws' := [(ga, .inl (cI, 48, .inl g)), (qa, .inl (cI, 40, .inl q)), (ra, .inl (cI, 42, .inl a4))]) (lv' := [(7, .int 0), (6, .int (nI t1)), (0, .ref ga), (1, .ref qa), (2, .int st0), (3, .int wd), (4, .int (nI till)), (5, .ref ra)]) (st' := []) [0, 1, 2, 3, 4, 5, 6, 7] rfl rfl rfl ?_
          refine ky_loop2 (T1 := Nat) (T2 := Nat → Int32) (Wf := (fun i4 a5 => [(ga, .inl (cI, 48, .inl g)), (qa, .inl (cI, 40, .inl q)), (ra, .inl (cI, 42, .inl a5))])) (Lf := (fun i4 a5 => [(7, .int (nI i4)), (6, .int (nI t1)), (0, .ref ga), (1, .ref qa), (2, .int st0), (3, .int wd), (4, .int (nI till)), (5, .ref ra)])) (Sf := (fun i4 a5 => [])) (fun i4 a5 => (i4 ≤ nc) ∧ (a5 = kPk (kDD (kGl N nc g q) wd t1 i4 (kDay (kGl N nc g q) wd (kBit st0) t1))) ∧ True) (fun i4 a5 => nc - i4) ?_ 0 a4 ⟨(by omega), (ha4.trans (congrArg kPk (kDD_0 _ _ _ _).symm)), trivial⟩
          intro i4 a5 hI_92 ih_92
          obtain ⟨hi4, ha5, -⟩ := hI_92
          have hi4 : i4 ≤ nc := hi4
          have ha5 : a5 = kPk (kDD (kGl N nc g q) wd t1 i4 (kDay (kGl N nc g q) wd (kBit st0) t1)) := ha5
          refine ky_conv (ws' := [(ga, .inl (cI, 48, .inl g)), (qa, .inl (cI, 40, .inl q)), (ra, .inl (cI, 42, .inl a5))]) (lv' := [(7, .int (nI i4)), (6, .int (nI t1)), (0, .ref ga), (1, .ref qa), (2, .int st0), (3, .int wd), (4, .int (nI till)), (5, .ref ra)]) (st' := []) (List.range 8) rfl rfl rfl ?_
          refine ky_iload C 0 dL_day_92 rfl ?_
          refine ky_aload_n C 2 dL_day_94 rfl rfl ?_
          refine ky_bipush C dL_day_95 (v := 28) (by decide) ?_
          refine ky_ialdN C 0 (k := 28) rfl (by omega) (by decide) dL_day_97 (v := nI nc) hg28 ?_
          refine ky_icmp_ge C 183 dL_day_98 (by decide) (fun c_98 => ?_) (fun c_98 => ?_)
          · have d_98 := Int32.not_lt.mpr c_98
            have n_98 := kn_le (a := nc) (b := i4) (by omega) (by omega) c_98
            have m_98 := Nat.not_lt.mpr n_98
            refine ky_iconst C dL_day_183 (v := 0) (by decide) ?_
            refine ky_istore C (lv' := [(7, .int 0), (6, .int (nI t1)), (0, .ref ga), (1, .ref qa), (2, .int st0), (3, .int wd), (4, .int (nI till)), (5, .ref ra)]) dL_day_184 (by decide) rfl ?_
            refine ky_conv (ws' := [(ga, .inl (cI, 48, .inl g)), (qa, .inl (cI, 40, .inl q)), (ra, .inl (cI, 42, .inl a5))]) (lv' := [(7, .int 0), (6, .int (nI t1)), (0, .ref ga), (1, .ref qa), (2, .int st0), (3, .int wd), (4, .int (nI till)), (5, .ref ra)]) (st' := []) [0, 1, 2, 3, 4, 5, 6, 7] rfl rfl rfl ?_
            refine ky_loop2 (T1 := Nat) (T2 := Nat → Int32) (Wf := (fun k5 a6 => [(ga, .inl (cI, 48, .inl g)), (qa, .inl (cI, 40, .inl q)), (ra, .inl (cI, 42, .inl a6))])) (Lf := (fun k5 a6 => [(7, .int (nI k5)), (6, .int (nI t1)), (0, .ref ga), (1, .ref qa), (2, .int st0), (3, .int wd), (4, .int (nI till)), (5, .ref ra)])) (Sf := (fun k5 a6 => [])) (fun k5 a6 => (k5 ≤ 10) ∧ (a6 = kPk (kShots (kGl N nc g q) wd (kBit st0) t1 k5 (kDD (kGl N nc g q) wd t1 nc (kDay (kGl N nc g q) wd (kBit st0) t1)))) ∧ True) (fun k5 a6 => 10 - k5) ?_ 0 a5 ⟨(by omega), (by rw [ha5, show i4 = nc from by omega]; rfl), trivial⟩
            intro k5 a6 hI_186 ih_186
            obtain ⟨hk5, ha6, -⟩ := hI_186
            have hk5 : k5 ≤ 10 := hk5
            have ha6 : a6 = kPk (kShots (kGl N nc g q) wd (kBit st0) t1 k5 (kDD (kGl N nc g q) wd t1 nc (kDay (kGl N nc g q) wd (kBit st0) t1))) := ha6
            refine ky_conv (ws' := [(ga, .inl (cI, 48, .inl g)), (qa, .inl (cI, 40, .inl q)), (ra, .inl (cI, 42, .inl a6))]) (lv' := [(7, .int (nI k5)), (6, .int (nI t1)), (0, .ref ga), (1, .ref qa), (2, .int st0), (3, .int wd), (4, .int (nI till)), (5, .ref ra)]) (st' := []) (List.range 8) rfl rfl rfl ?_
            refine ky_iload C 0 dL_day_186 rfl ?_
            refine ky_bipush C dL_day_188 (v := 10) (by decide) ?_
            refine ky_icmp_ge C 486 dL_day_190 (by decide) (fun c_190 => ?_) (fun c_190 => ?_)
            · have d_190 := Int32.not_lt.mpr c_190
              have n_190 := kn_le (a := 10) (b := k5) (by omega) (by omega) c_190
              have m_190 := Nat.not_lt.mpr n_190
              refine ky_iinc C 1 (v := nI (t1 + 1)) (lv' := [(6, .int (nI (t1 + 1))), (7, .int (nI k5)), (0, .ref ga), (1, .ref qa), (2, .int st0), (3, .int wd), (4, .int (nI till)), (5, .ref ra)]) dL_day_486 rfl (nI_1 _) (by decide) rfl ?_
              refine ky_goto C dL_day_489 (tgt := 82) (by decide) ?_
              exact ky_conv (ws' := [(ga, .inl (cI, 48, .inl g)), (qa, .inl (cI, 40, .inl q)), (ra, .inl (cI, 42, .inl a6))]) (lv' := [(6, .int (nI (t1 + 1))), (0, .ref ga), (1, .ref qa), (2, .int st0), (3, .int wd), (4, .int (nI till)), (5, .ref ra)]) (st' := []) [0, 2, 3, 4, 5, 6, 7] rfl rfl rfl (ih_82 (t1 + 1) a6 (show till + 1 - (t1 + 1) < till + 1 - t1 from by omega) ⟨(by omega), (by rw [ha6, show k5 = 10 from by omega]; exact congrArg kPk (kDay_s (kGl N nc g q) wd (kBit st0) t1).symm), trivial⟩)
            · have d_190 := Int32.not_le.mp c_190
              have n_190 := kn_nle (a := 10) (b := k5) (by omega) (by omega) c_190
              have m_190 := Nat.not_le.mpr n_190
              refine ky_iload_n C 4 dL_day_193 rfl rfl ?_
              refine ky_iload C 0 dL_day_194 rfl ?_
              refine ky_ishr C (v := st0 >>> ((nI k5) &&& 31)) dL_day_196 rfl ?_
              refine ky_iconst C dL_day_197 (v := 1) (by decide) ?_
              refine ky_iand C (v := (st0 >>> ((nI k5) &&& 31)) &&& 1) dL_day_198 rfl ?_
              refine ky_if_eq C 480 dL_day_199 (by decide) (fun c_199 => ?_) (fun c_199 => ?_)
              · refine ky_iinc C 0 (v := nI (k5 + 1)) (lv' := [(7, .int (nI (k5 + 1))), (6, .int (nI t1)), (0, .ref ga), (1, .ref qa), (2, .int st0), (3, .int wd), (4, .int (nI till)), (5, .ref ra)]) dL_day_480 rfl (nI_1 _) (by decide) rfl ?_
                refine ky_goto C dL_day_483 (tgt := 186) (by decide) ?_
                exact ky_conv (ws' := [(ga, .inl (cI, 48, .inl g)), (qa, .inl (cI, 40, .inl q)), (ra, .inl (cI, 42, .inl a6))]) (lv' := [(7, .int (nI (k5 + 1))), (6, .int (nI t1)), (0, .ref ga), (1, .ref qa), (2, .int st0), (3, .int wd), (4, .int (nI till)), (5, .ref ra)]) (st' := []) [0, 1, 2, 3, 4, 5, 6, 7] rfl rfl rfl (ih_186 (k5 + 1) a6 (show 10 - (k5 + 1) < 10 - k5 from by omega) ⟨(by omega), (by first | exact kSn_1 ha6 c_199 | exact kSn_2 ha6 c_211 | exact kSn_0 ha6 hQ c_211 hT | exact kSn_f ha6 hQ c_211 hT (by omega) (by omega) hfe (by omega) hF hI2 rfl rfl rfl rfl), trivial⟩)
              · have hQ : kBit st0 k5 = true := kQ_1 c_199
                refine ky_aload_n C 3 dL_day_202 rfl rfl ?_
                refine ky_bipush C dL_day_203 (v := 20) (by decide) ?_
                refine ky_iload C 0 dL_day_205 rfl ?_
                refine ky_iadd C (v := nI (20 + k5)) dL_day_207 (nI_add 20 k5) ?_
                refine ky_ialdN C 1 (k := 20 + k5) rfl (by omega) (by decide) dL_day_208 (v := q (20 + k5)) rfl ?_
                refine ky_iload C 1 dL_day_209 rfl ?_
                refine ky_icmp_eq C 217 dL_day_211 (by decide) (fun c_211 => ?_) (fun c_211 => ?_)
                · have hNl : kNn nc (kShots (kGl N nc g q) wd (kBit st0) t1 k5 (kDD (kGl N nc g q) wd t1 nc (kDay (kGl N nc g q) wd (kBit st0) t1))).1 := kNn_shots (g := (kGl N nc g q)) (kNn_dd hNd0 nc) hpw k5 (by omega)
                  refine ky_iconst C dL_day_217 (v := (-1)) (by decide) ?_
                  refine ky_istore C (lv' := [(8, .int (-1)), (7, .int (nI k5)), (6, .int (nI t1)), (0, .ref ga), (1, .ref qa), (2, .int st0), (3, .int wd), (4, .int (nI till)), (5, .ref ra)]) dL_day_218 (by decide) rfl ?_
                  refine ky_aload_n C 3 dL_day_220 rfl rfl ?_
                  refine ky_bipush C dL_day_221 (v := 28) (by decide) ?_
                  refine ky_ialdN C 0 (k := 28) rfl (by omega) (by decide) dL_day_223 (v := nI nc) hg28 ?_
                  refine ky_iconst C dL_day_224 (v := 1) (by decide) ?_
                  refine ky_isub C (v := nI nc - 1) dL_day_225 rfl ?_
                  refine ky_istore C (lv' := [(9, .int (nI nc - 1)), (8, .int (-1)), (7, .int (nI k5)), (6, .int (nI t1)), (0, .ref ga), (1, .ref qa), (2, .int st0), (3, .int wd), (4, .int (nI till)), (5, .ref ra)]) dL_day_226 (by decide) rfl ?_
                  refine ky_conv (ws' := [(ga, .inl (cI, 48, .inl g)), (qa, .inl (cI, 40, .inl q)), (ra, .inl (cI, 42, .inl a6))]) (lv' := [(9, .int (nI nc - 1)), (8, .int (-1)), (7, .int (nI k5)), (6, .int (nI t1)), (0, .ref ga), (1, .ref qa), (2, .int st0), (3, .int wd), (4, .int (nI till)), (5, .ref ra)]) (st' := []) [0, 1, 2, 3, 4, 5, 6, 7, 8, 9] rfl rfl rfl ?_
                  refine ky_loop4 (T1 := Nat) (T2 := Int32) (T3 := Int32) (T4 := Option Nat) (Wf := (fun m1 c9 b1 o1 => [(ga, .inl (cI, 48, .inl g)), (qa, .inl (cI, 40, .inl q)), (ra, .inl (cI, 42, .inl a6))])) (Lf := (fun m1 c9 b1 o1 => [(9, .int c9), (8, .int b1), (7, .int (nI k5)), (6, .int (nI t1)), (0, .ref ga), (1, .ref qa), (2, .int st0), (3, .int wd), (4, .int (nI till)), (5, .ref ra)])) (Sf := (fun m1 c9 b1 o1 => [])) (fun m1 c9 b1 o1 => (m1 ≤ nc) ∧ (c9 = nI m1 - 1) ∧ (b1 = kEnc (-1) o1) ∧ (kIsB (kEl (fun c => g (29 + c)) (fun c => g (41 + c)) (kShots (kGl N nc g q) wd (kBit st0) t1 k5 (kDD (kGl N nc g q) wd t1 nc (kDay (kGl N nc g q) wd (kBit st0) t1))).1 wd (q (10 + k5)) (kRch q (fun k => q (30 + k)) k5) t1) (fun c => g (41 + c)) m1 nc o1) ∧ True) (fun m1 c9 b1 o1 => m1) ?_ nc (nI nc - 1) (-1) none ⟨(Nat.le_refl _), rfl, rfl, (kIsB_end _ _ _), trivial⟩
                  intro m1 c9 b1 o1 hI_228 ih_228
                  obtain ⟨hm1, hc9, hb1, hB, -⟩ := hI_228
                  have hm1 : m1 ≤ nc := hm1
                  have hc9 : c9 = nI m1 - 1 := hc9
                  have hb1 : b1 = kEnc (-1) o1 := hb1
                  have hB : kIsB (kEl (fun c => g (29 + c)) (fun c => g (41 + c)) (kShots (kGl N nc g q) wd (kBit st0) t1 k5 (kDD (kGl N nc g q) wd t1 nc (kDay (kGl N nc g q) wd (kBit st0) t1))).1 wd (q (10 + k5)) (kRch q (fun k => q (30 + k)) k5) t1) (fun c => g (41 + c)) m1 nc o1 := hB
                  refine ky_conv (ws' := [(ga, .inl (cI, 48, .inl g)), (qa, .inl (cI, 40, .inl q)), (ra, .inl (cI, 42, .inl a6))]) (lv' := [(9, .int c9), (8, .int b1), (7, .int (nI k5)), (6, .int (nI t1)), (0, .ref ga), (1, .ref qa), (2, .int st0), (3, .int wd), (4, .int (nI till)), (5, .ref ra)]) (st' := []) (List.range 10) rfl rfl rfl ?_
                  refine ky_iload C 0 dL_day_228 rfl ?_
                  refine ky_if_lt C 347 dL_day_230 (by decide) (fun c_230 => ?_) (fun c_230 => ?_)
                  · have d_230 := Int32.not_le.mpr c_230
                    have hT : kTg (fun c => g (29 + c)) (fun c => g (41 + c)) (kShots (kGl N nc g q) wd (kBit st0) t1 k5 (kDD (kGl N nc g q) wd t1 nc (kDay (kGl N nc g q) wd (kBit st0) t1))).1 wd (q (10 + k5)) (kRch q (fun k => q (30 + k)) k5) t1 nc = o1 := kTg_of (kd0 hc9 (by omega) c_230 hB)
                    rcases o1 with _ | j1
                    · have hb1 : b1 = -1 := hb1
                      subst hb1
                      refine ky_iload C 1 dL_day_347 rfl ?_
                      refine ky_if_ge C 355 dL_day_349 (by decide) (fun q => absurd q (by decide)) (fun c_349 => ?_)
                      refine ky_goto C dL_day_352 (tgt := 480) (by decide) ?_
                      refine ky_iinc C 2 (v := nI (k5 + 1)) (lv' := [(7, .int (nI (k5 + 1))), (9, .int c9), (8, .int (-1)), (6, .int (nI t1)), (0, .ref ga), (1, .ref qa), (2, .int st0), (3, .int wd), (4, .int (nI till)), (5, .ref ra)]) dL_day_480 rfl (nI_1 _) (by decide) rfl ?_
                      refine ky_goto C dL_day_483 (tgt := 186) (by decide) ?_
                      exact ky_conv (ws' := [(ga, .inl (cI, 48, .inl g)), (qa, .inl (cI, 40, .inl q)), (ra, .inl (cI, 42, .inl a6))]) (lv' := [(7, .int (nI (k5 + 1))), (6, .int (nI t1)), (0, .ref ga), (1, .ref qa), (2, .int st0), (3, .int wd), (4, .int (nI till)), (5, .ref ra)]) (st' := []) [0, 3, 4, 5, 6, 7, 8, 9] rfl rfl rfl (ih_186 (k5 + 1) a6 (show 10 - (k5 + 1) < 10 - k5 from by omega) ⟨(by omega), (by first | exact kSn_1 ha6 c_199 | exact kSn_2 ha6 c_211 | exact kSn_0 ha6 hQ c_211 hT | exact kSn_f ha6 hQ c_211 hT (by omega) (by omega) hfe (by omega) hF hI2 rfl rfl rfl rfl), trivial⟩)
                    · have hb1 : b1 = nI j1 := hb1
                      subst hb1
                      have hj1 := kIsB_lt hB
                      obtain ⟨fx, hfx, hfe⟩ := hfr k5 (by omega) hQ
                      refine ky_iload C 1 dL_day_347 rfl ?_
                      refine ky_if_ge C 355 dL_day_349 (by decide) (fun c_349 => ?_) (fun q => absurd (nI_pos' (by omega)) q)
                      refine ky_join1 (T1 := Int32) (Wf := (fun v9 => [(ga, .inl (cI, 48, .inl g)), (qa, .inl (cI, 40, .inl q)), (ra, .inl (cI, 42, .inl a6))])) (Lf := (fun v9 => [(9, .int c9), (8, .int (nI j1)), (7, .int (nI k5)), (6, .int (nI t1)), (0, .ref ga), (1, .ref qa), (2, .int st0), (3, .int wd), (4, .int (nI till)), (5, .ref ra)])) (Sf := (fun v9 => [.int v9])) (fun v9 => (v9 = kFall (fun k => q (30 + k)) (kShots (kGl N nc g q) wd (kBit st0) t1 k5 (kDD (kGl N nc g q) wd t1 nc (kDay (kGl N nc g q) wd (kBit st0) t1))).1 k5 j1) ∧ True) 391 ?_ ?_
                      · intro v9 hI_391
                        obtain ⟨hF, -⟩ := hI_391
                        have hF : v9 = kFall (fun k => q (30 + k)) (kShots (kGl N nc g q) wd (kBit st0) t1 k5 (kDD (kGl N nc g q) wd t1 nc (kDay (kGl N nc g q) wd (kBit st0) t1))).1 k5 j1 := hF
                        refine ky_conv (ws' := [(ga, .inl (cI, 48, .inl g)), (qa, .inl (cI, 40, .inl q)), (ra, .inl (cI, 42, .inl a6))]) (lv' := [(9, .int c9), (8, .int (nI j1)), (7, .int (nI k5)), (6, .int (nI t1)), (0, .ref ga), (1, .ref qa), (2, .int st0), (3, .int wd), (4, .int (nI till)), (5, .ref ra)]) (st' := [.int v9]) (List.range 10) rfl rfl rfl ?_
                        refine ky_istore C (lv' := [(9, .int v9), (8, .int (nI j1)), (7, .int (nI k5)), (6, .int (nI t1)), (0, .ref ga), (1, .ref qa), (2, .int st0), (3, .int wd), (4, .int (nI till)), (5, .ref ra)]) dL_day_391 (by decide) rfl ?_
                        refine ky_aload C 9 dL_day_393 rfl ?_
                        refine ky_bipush C dL_day_395 (v := 16) (by decide) ?_
                        refine ky_iload C 1 dL_day_397 rfl ?_
                        refine ky_iadd C (v := nI (16 + j1)) dL_day_399 (nI_add 16 j1) ?_
                        refine ky_dup2 C dL_day_400 rfl rfl ?_
                        refine ky_ialdN C 2 (k := 16 + j1) rfl (by omega) (by decide) dL_day_401 (v := a6 (16 + j1)) rfl ?_
                        refine ky_iload C 0 dL_day_402 rfl ?_
                        refine ky_isub C (v := (a6 (16 + j1)) - v9) dL_day_404 rfl ?_
                        refine ky_iastN C 2 (k := 16 + j1) rfl (by omega) (by decide) dL_day_405 (ws' := [(ga, .inl (cI, 48, .inl g)), (qa, .inl (cI, 40, .inl q)), (ra, .inl (cI, 42, .inl (upd a6 (16 + j1) ((a6 (16 + j1)) - v9))))]) rfl ?_
                        refine ky_aload C 9 dL_day_406 rfl ?_
                        refine ky_bipush C dL_day_408 (v := 22) (by decide) ?_
                        refine ky_iload C 2 dL_day_410 rfl ?_
                        refine ky_iadd C (v := nI (22 + k5)) dL_day_412 (nI_add 22 k5) ?_
                        refine ky_iload C 0 dL_day_413 rfl ?_
                        refine ky_iastN C 2 (k := 22 + k5) rfl (by omega) (by decide) dL_day_415 (ws' := [(ga, .inl (cI, 48, .inl g)), (qa, .inl (cI, 40, .inl q)), (ra, .inl (cI, 42, .inl (upd (upd a6 (16 + j1) ((a6 (16 + j1)) - v9)) (22 + k5) v9)))]) rfl ?_
                        refine ky_aload C 9 dL_day_416 rfl ?_
                        refine ky_bipush C dL_day_418 (v := 32) (by decide) ?_
                        refine ky_iload C 2 dL_day_420 rfl ?_
                        refine ky_iadd C (v := nI (32 + k5)) dL_day_422 (nI_add 32 k5) ?_
                        refine ky_iload C 1 dL_day_423 rfl ?_
                        refine ky_iastN C 2 (k := 32 + k5) rfl (by omega) (by decide) dL_day_425 (ws' := [(ga, .inl (cI, 48, .inl g)), (qa, .inl (cI, 40, .inl q)), (ra, .inl (cI, 42, .inl (upd (upd (upd a6 (16 + j1) ((a6 (16 + j1)) - v9)) (22 + k5) v9) (32 + k5) (nI j1))))]) rfl ?_
                        refine ky_join1 (T1 := Int32) (Wf := (fun v11 => [(ga, .inl (cI, 48, .inl g)), (qa, .inl (cI, 40, .inl q)), (ra, .inl (cI, 42, .inl (upd (upd (upd a6 (16 + j1) ((a6 (16 + j1)) - v9)) (22 + k5) v9) (32 + k5) (nI j1))))])) (Lf := (fun v11 => [(9, .int v9), (8, .int (nI j1)), (7, .int (nI k5)), (6, .int (nI t1)), (0, .ref ga), (1, .ref qa), (2, .int st0), (3, .int wd), (4, .int (nI till)), (5, .ref ra)])) (Sf := (fun v11 => [.int v11])) (fun v11 => (v11 = kIce q k5 v9) ∧ True) 442 ?_ ?_
                        · intro v11 hI_442
                          obtain ⟨hI2, -⟩ := hI_442
                          have hI2 : v11 = kIce q k5 v9 := hI2
                          refine ky_conv (ws' := [(ga, .inl (cI, 48, .inl g)), (qa, .inl (cI, 40, .inl q)), (ra, .inl (cI, 42, .inl (upd (upd (upd a6 (16 + j1) ((a6 (16 + j1)) - v9)) (22 + k5) v9) (32 + k5) (nI j1))))]) (lv' := [(9, .int v9), (8, .int (nI j1)), (7, .int (nI k5)), (6, .int (nI t1)), (0, .ref ga), (1, .ref qa), (2, .int st0), (3, .int wd), (4, .int (nI till)), (5, .ref ra)]) (st' := [.int v11]) (List.range 10) rfl rfl rfl ?_
                          refine ky_istore C (lv' := [(10, .int v11), (9, .int v9), (8, .int (nI j1)), (7, .int (nI k5)), (6, .int (nI t1)), (0, .ref ga), (1, .ref qa), (2, .int st0), (3, .int wd), (4, .int (nI till)), (5, .ref ra)]) dL_day_442 (by decide) rfl ?_
                          refine ky_aload C 10 dL_day_444 rfl ?_
                          refine ky_bipush C dL_day_446 (v := 8) (by decide) ?_
                          refine ky_aload_n C 6 dL_day_448 rfl rfl ?_
                          refine ky_bipush C dL_day_449 (v := 10) (by decide) ?_
                          refine ky_iload C 3 dL_day_451 rfl ?_
                          refine ky_iadd C (v := nI (10 + k5)) dL_day_453 (nI_add 10 k5) ?_
                          refine ky_ialdN C 1 (k := 10 + k5) rfl (by omega) (by decide) dL_day_454 (v := nI fx) hfe ?_
                          refine ky_iadd C (v := nI (8 + fx)) dL_day_455 (nI_add 8 fx) ?_
                          refine ky_dup2 C dL_day_456 rfl rfl ?_
                          refine ky_ialdN C 2 (k := 8 + fx) rfl (by omega) (by decide) dL_day_457 (v := (upd (upd (upd a6 (16 + j1) ((a6 (16 + j1)) - v9)) (22 + k5) v9) (32 + k5) (nI j1)) (8 + fx)) rfl ?_
                          refine ky_iload C 0 dL_day_458 rfl ?_
                          refine ky_iadd C (v := ((upd (upd (upd a6 (16 + j1) ((a6 (16 + j1)) - v9)) (22 + k5) v9) (32 + k5) (nI j1)) (8 + fx)) + v11) dL_day_460 rfl ?_
                          refine ky_iastN C 2 (k := 8 + fx) rfl (by omega) (by decide) dL_day_461 (ws' := [(ga, .inl (cI, 48, .inl g)), (qa, .inl (cI, 40, .inl q)), (ra, .inl (cI, 42, .inl (upd (upd (upd (upd a6 (16 + j1) ((a6 (16 + j1)) - v9)) (22 + k5) v9) (32 + k5) (nI j1)) (8 + fx) (((upd (upd (upd a6 (16 + j1) ((a6 (16 + j1)) - v9)) (22 + k5) v9) (32 + k5) (nI j1)) (8 + fx)) + v11))))]) rfl ?_
                          refine ky_aload C 10 dL_day_462 rfl ?_
                          refine ky_aload_n C 6 dL_day_464 rfl rfl ?_
                          refine ky_bipush C dL_day_465 (v := 10) (by decide) ?_
                          refine ky_iload C 3 dL_day_467 rfl ?_
                          refine ky_iadd C (v := nI (10 + k5)) dL_day_469 (nI_add 10 k5) ?_
                          refine ky_ialdN C 1 (k := 10 + k5) rfl (by omega) (by decide) dL_day_470 (v := nI fx) hfe ?_
                          refine ky_dup2 C dL_day_471 rfl rfl ?_
                          refine ky_ialdN C 2 (k := fx) rfl (by omega) (by decide) dL_day_472 (v := (upd (upd (upd (upd a6 (16 + j1) ((a6 (16 + j1)) - v9)) (22 + k5) v9) (32 + k5) (nI j1)) (8 + fx) (((upd (upd (upd a6 (16 + j1) ((a6 (16 + j1)) - v9)) (22 + k5) v9) (32 + k5) (nI j1)) (8 + fx)) + v11)) fx) rfl ?_
                          refine ky_iload C 1 dL_day_473 rfl ?_
                          refine ky_iload C 0 dL_day_475 rfl ?_
                          refine ky_isub C (v := v9 - v11) dL_day_477 rfl ?_
                          refine ky_iadd C (v := ((upd (upd (upd (upd a6 (16 + j1) ((a6 (16 + j1)) - v9)) (22 + k5) v9) (32 + k5) (nI j1)) (8 + fx) (((upd (upd (upd a6 (16 + j1) ((a6 (16 + j1)) - v9)) (22 + k5) v9) (32 + k5) (nI j1)) (8 + fx)) + v11)) fx) + (v9 - v11)) dL_day_478 rfl ?_
                          refine ky_iastN C 2 (k := fx) rfl (by omega) (by decide) dL_day_479 (ws' := [(ga, .inl (cI, 48, .inl g)), (qa, .inl (cI, 40, .inl q)), (ra, .inl (cI, 42, .inl (upd (upd (upd (upd (upd a6 (16 + j1) ((a6 (16 + j1)) - v9)) (22 + k5) v9) (32 + k5) (nI j1)) (8 + fx) (((upd (upd (upd a6 (16 + j1) ((a6 (16 + j1)) - v9)) (22 + k5) v9) (32 + k5) (nI j1)) (8 + fx)) + v11)) fx (((upd (upd (upd (upd a6 (16 + j1) ((a6 (16 + j1)) - v9)) (22 + k5) v9) (32 + k5) (nI j1)) (8 + fx) (((upd (upd (upd a6 (16 + j1) ((a6 (16 + j1)) - v9)) (22 + k5) v9) (32 + k5) (nI j1)) (8 + fx)) + v11)) fx) + (v9 - v11)))))]) rfl ?_
                          refine ky_iinc C 3 (v := nI (k5 + 1)) (lv' := [(7, .int (nI (k5 + 1))), (10, .int v11), (9, .int v9), (8, .int (nI j1)), (6, .int (nI t1)), (0, .ref ga), (1, .ref qa), (2, .int st0), (3, .int wd), (4, .int (nI till)), (5, .ref ra)]) dL_day_480 rfl (nI_1 _) (by decide) rfl ?_
                          refine ky_goto C dL_day_483 (tgt := 186) (by decide) ?_
                          exact ky_conv (ws' := [(ga, .inl (cI, 48, .inl g)), (qa, .inl (cI, 40, .inl q)), (ra, .inl (cI, 42, .inl (upd (upd (upd (upd (upd a6 (16 + j1) ((a6 (16 + j1)) - v9)) (22 + k5) v9) (32 + k5) (nI j1)) (8 + fx) (((upd (upd (upd a6 (16 + j1) ((a6 (16 + j1)) - v9)) (22 + k5) v9) (32 + k5) (nI j1)) (8 + fx)) + v11)) fx (((upd (upd (upd (upd a6 (16 + j1) ((a6 (16 + j1)) - v9)) (22 + k5) v9) (32 + k5) (nI j1)) (8 + fx) (((upd (upd (upd a6 (16 + j1) ((a6 (16 + j1)) - v9)) (22 + k5) v9) (32 + k5) (nI j1)) (8 + fx)) + v11)) fx) + (v9 - v11)))))]) (lv' := [(7, .int (nI (k5 + 1))), (6, .int (nI t1)), (0, .ref ga), (1, .ref qa), (2, .int st0), (3, .int wd), (4, .int (nI till)), (5, .ref ra)]) (st' := []) [0, 4, 5, 6, 7, 8, 9, 10] rfl rfl rfl (ih_186 (k5 + 1) (upd (upd (upd (upd (upd a6 (16 + j1) ((a6 (16 + j1)) - v9)) (22 + k5) v9) (32 + k5) (nI j1)) (8 + fx) (((upd (upd (upd a6 (16 + j1) ((a6 (16 + j1)) - v9)) (22 + k5) v9) (32 + k5) (nI j1)) (8 + fx)) + v11)) fx (((upd (upd (upd (upd a6 (16 + j1) ((a6 (16 + j1)) - v9)) (22 + k5) v9) (32 + k5) (nI j1)) (8 + fx) (((upd (upd (upd a6 (16 + j1) ((a6 (16 + j1)) - v9)) (22 + k5) v9) (32 + k5) (nI j1)) (8 + fx)) + v11)) fx) + (v9 - v11))) (show 10 - (k5 + 1) < 10 - k5 from by omega) ⟨(by omega), (by first | exact kSn_1 ha6 c_199 | exact kSn_2 ha6 c_211 | exact kSn_0 ha6 hQ c_211 hT | exact kSn_f ha6 hQ c_211 hT (by omega) (by omega) hfe (by omega) hF hI2 rfl rfl rfl rfl), trivial⟩)
                        · intro kJ_442
                          refine ky_aload_n C 5 dL_day_426 rfl rfl ?_
                          refine ky_iload C 2 dL_day_427 rfl ?_
                          refine ky_ialdN C 1 (k := k5) rfl (by omega) (by decide) dL_day_429 (v := q k5) rfl ?_
                          refine ky_iconst C dL_day_430 (v := 2) (by decide) ?_
                          refine ky_icmp_ne C 441 dL_day_431 (by decide) (fun c_431 => ?_) (fun c_431 => ?_)
                          · refine ky_iconst C dL_day_441 (v := 0) (by decide) ?_
                            exact ky_conv (ws' := [(ga, .inl (cI, 48, .inl g)), (qa, .inl (cI, 40, .inl q)), (ra, .inl (cI, 42, .inl (upd (upd (upd a6 (16 + j1) ((a6 (16 + j1)) - v9)) (22 + k5) v9) (32 + k5) (nI j1))))]) (lv' := [(9, .int v9), (8, .int (nI j1)), (7, .int (nI k5)), (6, .int (nI t1)), (0, .ref ga), (1, .ref qa), (2, .int st0), (3, .int wd), (4, .int (nI till)), (5, .ref ra)]) (st' := [.int 0]) [0, 1, 2, 3, 4, 5, 6, 7, 8, 9] rfl rfl rfl (kJ_442 0 ⟨(by unfold kIce; first | rw [if_pos c_431] | rw [if_neg c_431]), trivial⟩)
                          · refine ky_iload C 0 dL_day_434 rfl ?_
                            refine ky_iconst C dL_day_436 (v := 3) (by decide) ?_
                            refine ky_idiv C (v := v9 / 3) dL_day_437 (by decide) rfl ?_
                            refine ky_goto C dL_day_438 (tgt := 442) (by decide) ?_
                            exact ky_conv (ws' := [(ga, .inl (cI, 48, .inl g)), (qa, .inl (cI, 40, .inl q)), (ra, .inl (cI, 42, .inl (upd (upd (upd a6 (16 + j1) ((a6 (16 + j1)) - v9)) (22 + k5) v9) (32 + k5) (nI j1))))]) (lv' := [(9, .int v9), (8, .int (nI j1)), (7, .int (nI k5)), (6, .int (nI t1)), (0, .ref ga), (1, .ref qa), (2, .int st0), (3, .int wd), (4, .int (nI till)), (5, .ref ra)]) (st' := [.int (v9 / 3)]) [0, 1, 2, 3, 4, 5, 6, 7, 8, 9] rfl rfl rfl (kJ_442 (v9 / 3) ⟨(by unfold kIce; first | rw [if_pos c_431] | rw [if_neg c_431]), trivial⟩)
                      · intro kJ_391
                        refine ky_aload C 9 dL_day_355 rfl ?_
                        refine ky_bipush C dL_day_357 (v := 16) (by decide) ?_
                        refine ky_iload C 1 dL_day_359 rfl ?_
                        refine ky_iadd C (v := nI (16 + j1)) dL_day_361 (nI_add 16 j1) ?_
                        refine ky_ialdN C 2 (k := 16 + j1) rfl (by omega) (by decide) dL_day_362 (v := a6 (16 + j1)) rfl ?_
                        refine ky_aload_n C 5 dL_day_363 rfl rfl ?_
                        refine ky_bipush C dL_day_364 (v := 30) (by decide) ?_
                        refine ky_iload C 2 dL_day_366 rfl ?_
                        refine ky_iadd C (v := nI (30 + k5)) dL_day_368 (nI_add 30 k5) ?_
                        refine ky_ialdN C 1 (k := 30 + k5) rfl (by omega) (by decide) dL_day_369 (v := q (30 + k5)) rfl ?_
                        refine ky_icmp_le C 383 dL_day_370 (by decide) (fun c_370 => ?_) (fun c_370 => ?_)
                        · have d_370 := Int32.not_lt.mpr c_370
                          refine ky_aload C 9 dL_day_383 rfl ?_
                          refine ky_bipush C dL_day_385 (v := 16) (by decide) ?_
                          refine ky_iload C 1 dL_day_387 rfl ?_
                          refine ky_iadd C (v := nI (16 + j1)) dL_day_389 (nI_add 16 j1) ?_
                          refine ky_ialdN C 2 (k := 16 + j1) rfl (by omega) (by decide) dL_day_390 (v := a6 (16 + j1)) rfl ?_
                          exact ky_conv (ws' := [(ga, .inl (cI, 48, .inl g)), (qa, .inl (cI, 40, .inl q)), (ra, .inl (cI, 42, .inl a6))]) (lv' := [(9, .int c9), (8, .int (nI j1)), (7, .int (nI k5)), (6, .int (nI t1)), (0, .ref ga), (1, .ref qa), (2, .int st0), (3, .int wd), (4, .int (nI till)), (5, .ref ra)]) (st' := [.int (a6 (16 + j1))]) [0, 1, 2, 3, 4, 5, 6, 7, 8, 9] rfl rfl rfl (kJ_391 (a6 (16 + j1)) ⟨(by first | exact kFa_1 ha6 (by omega) c_370 | exact kFa_0 ha6 (by omega) c_370), trivial⟩)
                        · have d_370 := Int32.not_le.mp c_370
                          refine ky_aload_n C 5 dL_day_373 rfl rfl ?_
                          refine ky_bipush C dL_day_374 (v := 30) (by decide) ?_
                          refine ky_iload C 2 dL_day_376 rfl ?_
                          refine ky_iadd C (v := nI (30 + k5)) dL_day_378 (nI_add 30 k5) ?_
                          refine ky_ialdN C 1 (k := 30 + k5) rfl (by omega) (by decide) dL_day_379 (v := q (30 + k5)) rfl ?_
                          refine ky_goto C dL_day_380 (tgt := 391) (by decide) ?_
                          exact ky_conv (ws' := [(ga, .inl (cI, 48, .inl g)), (qa, .inl (cI, 40, .inl q)), (ra, .inl (cI, 42, .inl a6))]) (lv' := [(9, .int c9), (8, .int (nI j1)), (7, .int (nI k5)), (6, .int (nI t1)), (0, .ref ga), (1, .ref qa), (2, .int st0), (3, .int wd), (4, .int (nI till)), (5, .ref ra)]) (st' := [.int (q (30 + k5))]) [0, 1, 2, 3, 4, 5, 6, 7, 8, 9] rfl rfl rfl (kJ_391 (q (30 + k5)) ⟨(by first | exact kFa_1 ha6 (by omega) c_370 | exact kFa_0 ha6 (by omega) c_370), trivial⟩)
                  · have d_230 := Int32.not_lt.mp c_230
                    obtain ⟨m2, rfl, rfl⟩ := kdn hc9 (by omega) c_230
                    refine ky_aload_n C 5 dL_day_233 rfl rfl ?_
                    refine ky_iload C 2 dL_day_234 rfl ?_
                    refine ky_join1 (T1 := Int32) (Wf := (fun v10 => [(ga, .inl (cI, 48, .inl g)), (qa, .inl (cI, 40, .inl q)), (ra, .inl (cI, 42, .inl a6))])) (Lf := (fun v10 => [(9, .int (nI m2)), (8, .int b1), (7, .int (nI k5)), (6, .int (nI t1)), (0, .ref ga), (1, .ref qa), (2, .int st0), (3, .int wd), (4, .int (nI till)), (5, .ref ra)])) (Sf := (fun v10 => [.int v10])) (fun v10 => (v10 = kRch q (fun k => q (30 + k)) k5) ∧ True) 265 ?_ ?_
                    · intro v10 hI_265
                      obtain ⟨hv10, -⟩ := hI_265
                      have hv10 : v10 = kRch q (fun k => q (30 + k)) k5 := hv10
                      refine ky_conv (ws' := [(ga, .inl (cI, 48, .inl g)), (qa, .inl (cI, 40, .inl q)), (ra, .inl (cI, 42, .inl a6))]) (lv' := [(9, .int (nI m2)), (8, .int b1), (7, .int (nI k5)), (6, .int (nI t1)), (0, .ref ga), (1, .ref qa), (2, .int st0), (3, .int wd), (4, .int (nI till)), (5, .ref ra)]) (st' := [.int v10]) (List.range 10) rfl rfl rfl ?_
                      refine ky_istore C (lv' := [(10, .int v10), (9, .int (nI m2)), (8, .int b1), (7, .int (nI k5)), (6, .int (nI t1)), (0, .ref ga), (1, .ref qa), (2, .int st0), (3, .int wd), (4, .int (nI till)), (5, .ref ra)]) dL_day_265 (by decide) rfl ?_
                      refine ky_aload_n C 5 dL_day_267 rfl rfl ?_
                      refine ky_bipush C dL_day_268 (v := 29) (by decide) ?_
                      refine ky_iload C 1 dL_day_270 rfl ?_
                      refine ky_iadd C (v := nI (29 + m2)) dL_day_272 (nI_add 29 m2) ?_
                      refine ky_ialdN C 0 (k := 29 + m2) rfl (by omega) (by decide) dL_day_273 (v := g (29 + m2)) rfl ?_
                      refine ky_iload_n C 8 dL_day_274 rfl rfl ?_
                      refine ky_iload C 4 dL_day_275 rfl ?_
                      refine ky_imul C (v := wd * (nI t1)) dL_day_277 rfl ?_
                      refine ky_iadd C (v := (g (29 + m2)) + (wd * (nI t1))) dL_day_278 rfl ?_
                      refine ky_aload_n C 6 dL_day_279 rfl rfl ?_
                      refine ky_bipush C dL_day_280 (v := 10) (by decide) ?_
                      refine ky_iload C 3 dL_day_282 rfl ?_
                      refine ky_iadd C (v := nI (10 + k5)) dL_day_284 (nI_add 10 k5) ?_
                      refine ky_ialdN C 1 (k := 10 + k5) rfl (by omega) (by decide) dL_day_285 (v := q (10 + k5)) rfl ?_
                      refine ky_icmp_ne C 341 dL_day_286 (by decide) (fun c_286 => ?_) (fun c_286 => ?_)
                      · refine ky_iinc C 1 (v := (nI m2) + (-1)) (lv' := [(9, .int ((nI m2) + (-1))), (10, .int v10), (8, .int b1), (7, .int (nI k5)), (6, .int (nI t1)), (0, .ref ga), (1, .ref qa), (2, .int st0), (3, .int wd), (4, .int (nI till)), (5, .ref ra)]) dL_day_341 rfl rfl (by decide) rfl ?_
                        refine ky_goto C dL_day_344 (tgt := 228) (by decide) ?_
                        exact ky_conv (ws' := [(ga, .inl (cI, 48, .inl g)), (qa, .inl (cI, 40, .inl q)), (ra, .inl (cI, 42, .inl a6))]) (lv' := [(9, .int ((nI m2) + (-1))), (8, .int b1), (7, .int (nI k5)), (6, .int (nI t1)), (0, .ref ga), (1, .ref qa), (2, .int st0), (3, .int wd), (4, .int (nI till)), (5, .ref ra)]) (st' := []) [0, 2, 3, 4, 5, 6, 7, 8, 9, 10] rfl rfl rfl (ih_228 m2 ((nI m2) + (-1)) b1 o1 (show m2 < (m2 + 1) from by omega) ⟨(by omega), (kdm _), (by first | rfl | exact hb1), (by first | exact kIsB_no hB (kEl_n1 rfl c_286) | exact kIsB_no hB (kEl_n2 c_297 ha6 (by omega)) | exact kIsB_no hB (kEl_n3 hv10 c_309) | exact kIsB_new0 hB (kEl_y hNl (by omega) (by omega) ha6 rfl c_286 c_297 hv10 c_309) (by omega) | exact kIsB_new hB (kEl_y hNl (by omega) (by omega) ha6 rfl c_286 c_297 hv10 c_309) (by omega) d_334 | exact kIsB_old hB d_334), trivial⟩)
                      · refine ky_aload C 10 dL_day_289 rfl ?_
                        refine ky_bipush C dL_day_291 (v := 16) (by decide) ?_
                        refine ky_iload C 1 dL_day_293 rfl ?_
                        refine ky_iadd C (v := nI (16 + m2)) dL_day_295 (nI_add 16 m2) ?_
                        refine ky_ialdN C 2 (k := 16 + m2) rfl (by omega) (by decide) dL_day_296 (v := a6 (16 + m2)) rfl ?_
                        refine ky_if_eq C 341 dL_day_297 (by decide) (fun c_297 => ?_) (fun c_297 => ?_)
                        · refine ky_iinc C 1 (v := (nI m2) + (-1)) (lv' := [(9, .int ((nI m2) + (-1))), (10, .int v10), (8, .int b1), (7, .int (nI k5)), (6, .int (nI t1)), (0, .ref ga), (1, .ref qa), (2, .int st0), (3, .int wd), (4, .int (nI till)), (5, .ref ra)]) dL_day_341 rfl rfl (by decide) rfl ?_
                          refine ky_goto C dL_day_344 (tgt := 228) (by decide) ?_
                          exact ky_conv (ws' := [(ga, .inl (cI, 48, .inl g)), (qa, .inl (cI, 40, .inl q)), (ra, .inl (cI, 42, .inl a6))]) (lv' := [(9, .int ((nI m2) + (-1))), (8, .int b1), (7, .int (nI k5)), (6, .int (nI t1)), (0, .ref ga), (1, .ref qa), (2, .int st0), (3, .int wd), (4, .int (nI till)), (5, .ref ra)]) (st' := []) [0, 2, 3, 4, 5, 6, 7, 8, 9, 10] rfl rfl rfl (ih_228 m2 ((nI m2) + (-1)) b1 o1 (show m2 < (m2 + 1) from by omega) ⟨(by omega), (kdm _), (by first | rfl | exact hb1), (by first | exact kIsB_no hB (kEl_n1 rfl c_286) | exact kIsB_no hB (kEl_n2 c_297 ha6 (by omega)) | exact kIsB_no hB (kEl_n3 hv10 c_309) | exact kIsB_new0 hB (kEl_y hNl (by omega) (by omega) ha6 rfl c_286 c_297 hv10 c_309) (by omega) | exact kIsB_new hB (kEl_y hNl (by omega) (by omega) ha6 rfl c_286 c_297 hv10 c_309) (by omega) d_334 | exact kIsB_old hB d_334), trivial⟩)
                        · refine ky_aload_n C 5 dL_day_300 rfl rfl ?_
                          refine ky_bipush C dL_day_301 (v := 41) (by decide) ?_
                          refine ky_iload C 1 dL_day_303 rfl ?_
                          refine ky_iadd C (v := nI (41 + m2)) dL_day_305 (nI_add 41 m2) ?_
                          refine ky_ialdN C 0 (k := 41 + m2) rfl (by omega) (by decide) dL_day_306 (v := g (41 + m2)) rfl ?_
                          refine ky_iload C 0 dL_day_307 rfl ?_
                          refine ky_icmp_le C 315 dL_day_309 (by decide) (fun c_309 => ?_) (fun c_309 => ?_)
                          · have d_309 := Int32.not_lt.mpr c_309
                            rcases o1 with _ | j1
                            · have hb1 : b1 = -1 := hb1
                              subst hb1
                              refine ky_iload C 2 dL_day_315 rfl ?_
                              refine ky_if_lt C 337 dL_day_317 (by decide) (fun c_317 => ?_) (fun q => absurd q (by decide))
                              refine ky_iload C 1 dL_day_337 rfl ?_
                              refine ky_istore C (lv' := [(8, .int (nI m2)), (10, .int v10), (9, .int (nI m2)), (7, .int (nI k5)), (6, .int (nI t1)), (0, .ref ga), (1, .ref qa), (2, .int st0), (3, .int wd), (4, .int (nI till)), (5, .ref ra)]) dL_day_339 (by decide) rfl ?_
                              refine ky_iinc C 2 (v := (nI m2) + (-1)) (lv' := [(9, .int ((nI m2) + (-1))), (8, .int (nI m2)), (10, .int v10), (7, .int (nI k5)), (6, .int (nI t1)), (0, .ref ga), (1, .ref qa), (2, .int st0), (3, .int wd), (4, .int (nI till)), (5, .ref ra)]) dL_day_341 rfl rfl (by decide) rfl ?_
                              refine ky_goto C dL_day_344 (tgt := 228) (by decide) ?_
                              exact ky_conv (ws' := [(ga, .inl (cI, 48, .inl g)), (qa, .inl (cI, 40, .inl q)), (ra, .inl (cI, 42, .inl a6))]) (lv' := [(9, .int ((nI m2) + (-1))), (8, .int (nI m2)), (7, .int (nI k5)), (6, .int (nI t1)), (0, .ref ga), (1, .ref qa), (2, .int st0), (3, .int wd), (4, .int (nI till)), (5, .ref ra)]) (st' := []) [0, 1, 3, 4, 5, 6, 7, 8, 9, 10] rfl rfl rfl (ih_228 m2 ((nI m2) + (-1)) (nI m2) (some m2) (show m2 < (m2 + 1) from by omega) ⟨(by omega), (kdm _), (by first | rfl | exact hb1), (by first | exact kIsB_no hB (kEl_n1 rfl c_286) | exact kIsB_no hB (kEl_n2 c_297 ha6 (by omega)) | exact kIsB_no hB (kEl_n3 hv10 c_309) | exact kIsB_new0 hB (kEl_y hNl (by omega) (by omega) ha6 rfl c_286 c_297 hv10 c_309) (by omega) | exact kIsB_new hB (kEl_y hNl (by omega) (by omega) ha6 rfl c_286 c_297 hv10 c_309) (by omega) d_334 | exact kIsB_old hB d_334), trivial⟩)
                            · have hb1 : b1 = nI j1 := hb1
                              subst hb1
                              have hj1 := kIsB_lt hB
                              refine ky_iload C 2 dL_day_315 rfl ?_
                              refine ky_if_lt C 337 dL_day_317 (by decide) (fun q => absurd q (nI_pos (by omega))) (fun c_317 => ?_)
                              refine ky_aload_n C 5 dL_day_320 rfl rfl ?_
                              refine ky_bipush C dL_day_321 (v := 41) (by decide) ?_
                              refine ky_iload C 1 dL_day_323 rfl ?_
                              refine ky_iadd C (v := nI (41 + m2)) dL_day_325 (nI_add 41 m2) ?_
                              refine ky_ialdN C 0 (k := 41 + m2) rfl (by omega) (by decide) dL_day_326 (v := g (41 + m2)) rfl ?_
                              refine ky_aload_n C 5 dL_day_327 rfl rfl ?_
                              refine ky_bipush C dL_day_328 (v := 41) (by decide) ?_
                              refine ky_iload C 2 dL_day_330 rfl ?_
                              refine ky_iadd C (v := nI (41 + j1)) dL_day_332 (nI_add 41 j1) ?_
                              refine ky_ialdN C 0 (k := 41 + j1) rfl (by omega) (by decide) dL_day_333 (v := g (41 + j1)) rfl ?_
                              refine ky_icmp_gt C 341 dL_day_334 (by decide) (fun c_334 => ?_) (fun c_334 => ?_)
                              · have d_334 := Int32.not_le.mpr c_334
                                refine ky_iinc C 1 (v := (nI m2) + (-1)) (lv' := [(9, .int ((nI m2) + (-1))), (10, .int v10), (8, .int (nI j1)), (7, .int (nI k5)), (6, .int (nI t1)), (0, .ref ga), (1, .ref qa), (2, .int st0), (3, .int wd), (4, .int (nI till)), (5, .ref ra)]) dL_day_341 rfl rfl (by decide) rfl ?_
                                refine ky_goto C dL_day_344 (tgt := 228) (by decide) ?_
                                exact ky_conv (ws' := [(ga, .inl (cI, 48, .inl g)), (qa, .inl (cI, 40, .inl q)), (ra, .inl (cI, 42, .inl a6))]) (lv' := [(9, .int ((nI m2) + (-1))), (8, .int (nI j1)), (7, .int (nI k5)), (6, .int (nI t1)), (0, .ref ga), (1, .ref qa), (2, .int st0), (3, .int wd), (4, .int (nI till)), (5, .ref ra)]) (st' := []) [0, 2, 3, 4, 5, 6, 7, 8, 9, 10] rfl rfl rfl (ih_228 m2 ((nI m2) + (-1)) (nI j1) (some j1) (show m2 < (m2 + 1) from by omega) ⟨(by omega), (kdm _), (by first | rfl | exact hb1), (by first | exact kIsB_no hB (kEl_n1 rfl c_286) | exact kIsB_no hB (kEl_n2 c_297 ha6 (by omega)) | exact kIsB_no hB (kEl_n3 hv10 c_309) | exact kIsB_new0 hB (kEl_y hNl (by omega) (by omega) ha6 rfl c_286 c_297 hv10 c_309) (by omega) | exact kIsB_new hB (kEl_y hNl (by omega) (by omega) ha6 rfl c_286 c_297 hv10 c_309) (by omega) d_334 | exact kIsB_old hB d_334), trivial⟩)
                              · have d_334 := Int32.not_lt.mp c_334
                                refine ky_iload C 1 dL_day_337 rfl ?_
                                refine ky_istore C (lv' := [(8, .int (nI m2)), (10, .int v10), (9, .int (nI m2)), (7, .int (nI k5)), (6, .int (nI t1)), (0, .ref ga), (1, .ref qa), (2, .int st0), (3, .int wd), (4, .int (nI till)), (5, .ref ra)]) dL_day_339 (by decide) rfl ?_
                                refine ky_iinc C 2 (v := (nI m2) + (-1)) (lv' := [(9, .int ((nI m2) + (-1))), (8, .int (nI m2)), (10, .int v10), (7, .int (nI k5)), (6, .int (nI t1)), (0, .ref ga), (1, .ref qa), (2, .int st0), (3, .int wd), (4, .int (nI till)), (5, .ref ra)]) dL_day_341 rfl rfl (by decide) rfl ?_
                                refine ky_goto C dL_day_344 (tgt := 228) (by decide) ?_
                                exact ky_conv (ws' := [(ga, .inl (cI, 48, .inl g)), (qa, .inl (cI, 40, .inl q)), (ra, .inl (cI, 42, .inl a6))]) (lv' := [(9, .int ((nI m2) + (-1))), (8, .int (nI m2)), (7, .int (nI k5)), (6, .int (nI t1)), (0, .ref ga), (1, .ref qa), (2, .int st0), (3, .int wd), (4, .int (nI till)), (5, .ref ra)]) (st' := []) [0, 1, 3, 4, 5, 6, 7, 8, 9, 10] rfl rfl rfl (ih_228 m2 ((nI m2) + (-1)) (nI m2) (some m2) (show m2 < (m2 + 1) from by omega) ⟨(by omega), (kdm _), (by first | rfl | exact hb1), (by first | exact kIsB_no hB (kEl_n1 rfl c_286) | exact kIsB_no hB (kEl_n2 c_297 ha6 (by omega)) | exact kIsB_no hB (kEl_n3 hv10 c_309) | exact kIsB_new0 hB (kEl_y hNl (by omega) (by omega) ha6 rfl c_286 c_297 hv10 c_309) (by omega) | exact kIsB_new hB (kEl_y hNl (by omega) (by omega) ha6 rfl c_286 c_297 hv10 c_309) (by omega) d_334 | exact kIsB_old hB d_334), trivial⟩)
                          · have d_309 := Int32.not_le.mp c_309
                            refine ky_goto C dL_day_312 (tgt := 341) (by decide) ?_
                            refine ky_iinc C 1 (v := (nI m2) + (-1)) (lv' := [(9, .int ((nI m2) + (-1))), (10, .int v10), (8, .int b1), (7, .int (nI k5)), (6, .int (nI t1)), (0, .ref ga), (1, .ref qa), (2, .int st0), (3, .int wd), (4, .int (nI till)), (5, .ref ra)]) dL_day_341 rfl rfl (by decide) rfl ?_
                            refine ky_goto C dL_day_344 (tgt := 228) (by decide) ?_
                            exact ky_conv (ws' := [(ga, .inl (cI, 48, .inl g)), (qa, .inl (cI, 40, .inl q)), (ra, .inl (cI, 42, .inl a6))]) (lv' := [(9, .int ((nI m2) + (-1))), (8, .int b1), (7, .int (nI k5)), (6, .int (nI t1)), (0, .ref ga), (1, .ref qa), (2, .int st0), (3, .int wd), (4, .int (nI till)), (5, .ref ra)]) (st' := []) [0, 2, 3, 4, 5, 6, 7, 8, 9, 10] rfl rfl rfl (ih_228 m2 ((nI m2) + (-1)) b1 o1 (show m2 < (m2 + 1) from by omega) ⟨(by omega), (kdm _), (by first | rfl | exact hb1), (by first | exact kIsB_no hB (kEl_n1 rfl c_286) | exact kIsB_no hB (kEl_n2 c_297 ha6 (by omega)) | exact kIsB_no hB (kEl_n3 hv10 c_309) | exact kIsB_new0 hB (kEl_y hNl (by omega) (by omega) ha6 rfl c_286 c_297 hv10 c_309) (by omega) | exact kIsB_new hB (kEl_y hNl (by omega) (by omega) ha6 rfl c_286 c_297 hv10 c_309) (by omega) d_334 | exact kIsB_old hB d_334), trivial⟩)
                    · intro kJ_265
                      refine ky_ialdN C 1 (k := k5) rfl (by omega) (by decide) dL_day_236 (v := q k5) rfl ?_
                      refine ky_if_le C 258 dL_day_237 (by decide) (fun c_237 => ?_) (fun c_237 => ?_)
                      · have d_237 := Int32.not_lt.mpr c_237
                        refine ky_aload_n C 5 dL_day_258 rfl rfl ?_
                        refine ky_bipush C dL_day_259 (v := 30) (by decide) ?_
                        refine ky_iload C 2 dL_day_261 rfl ?_
                        refine ky_iadd C (v := nI (30 + k5)) dL_day_263 (nI_add 30 k5) ?_
                        refine ky_ialdN C 1 (k := 30 + k5) rfl (by omega) (by decide) dL_day_264 (v := q (30 + k5)) rfl ?_
                        exact ky_conv (ws' := [(ga, .inl (cI, 48, .inl g)), (qa, .inl (cI, 40, .inl q)), (ra, .inl (cI, 42, .inl a6))]) (lv' := [(9, .int (nI m2)), (8, .int b1), (7, .int (nI k5)), (6, .int (nI t1)), (0, .ref ga), (1, .ref qa), (2, .int st0), (3, .int wd), (4, .int (nI till)), (5, .ref ra)]) (st' := [.int (q (30 + k5))]) [0, 1, 2, 3, 4, 5, 6, 7, 8, 9] rfl rfl rfl (kJ_265 (q (30 + k5)) ⟨(by first | exact kRc_1 (pw := fun k => q (30 + k)) c_237 | exact kRc_0 (pw := fun k => q (30 + k)) (hkd k5 (by omega) hQ) c_237), trivial⟩)
                      · have d_237 := Int32.not_le.mp c_237
                        refine ky_aload_n C 5 dL_day_240 rfl rfl ?_
                        refine ky_bipush C dL_day_241 (v := 30) (by decide) ?_
                        refine ky_iload C 2 dL_day_243 rfl ?_
                        refine ky_iadd C (v := nI (30 + k5)) dL_day_245 (nI_add 30 k5) ?_
                        refine ky_ialdN C 1 (k := 30 + k5) rfl (by omega) (by decide) dL_day_246 (v := q (30 + k5)) rfl ?_
                        refine ky_aload_n C 5 dL_day_247 rfl rfl ?_
                        refine ky_bipush C dL_day_248 (v := 30) (by decide) ?_
                        refine ky_iload C 2 dL_day_250 rfl ?_
                        refine ky_iadd C (v := nI (30 + k5)) dL_day_252 (nI_add 30 k5) ?_
                        refine ky_ialdN C 1 (k := 30 + k5) rfl (by omega) (by decide) dL_day_253 (v := q (30 + k5)) rfl ?_
                        refine ky_iadd C (v := 2 * q (30 + k5)) dL_day_254 (kdbl _) ?_
                        refine ky_goto C dL_day_255 (tgt := 265) (by decide) ?_
                        exact ky_conv (ws' := [(ga, .inl (cI, 48, .inl g)), (qa, .inl (cI, 40, .inl q)), (ra, .inl (cI, 42, .inl a6))]) (lv' := [(9, .int (nI m2)), (8, .int b1), (7, .int (nI k5)), (6, .int (nI t1)), (0, .ref ga), (1, .ref qa), (2, .int st0), (3, .int wd), (4, .int (nI till)), (5, .ref ra)]) (st' := [.int (2 * q (30 + k5))]) [0, 1, 2, 3, 4, 5, 6, 7, 8, 9] rfl rfl rfl (kJ_265 (2 * q (30 + k5)) ⟨(by first | exact kRc_1 (pw := fun k => q (30 + k)) c_237 | exact kRc_0 (pw := fun k => q (30 + k)) (hkd k5 (by omega) hQ) c_237), trivial⟩)
                · refine ky_goto C dL_day_214 (tgt := 480) (by decide) ?_
                  refine ky_iinc C 0 (v := nI (k5 + 1)) (lv' := [(7, .int (nI (k5 + 1))), (6, .int (nI t1)), (0, .ref ga), (1, .ref qa), (2, .int st0), (3, .int wd), (4, .int (nI till)), (5, .ref ra)]) dL_day_480 rfl (nI_1 _) (by decide) rfl ?_
                  refine ky_goto C dL_day_483 (tgt := 186) (by decide) ?_
                  exact ky_conv (ws' := [(ga, .inl (cI, 48, .inl g)), (qa, .inl (cI, 40, .inl q)), (ra, .inl (cI, 42, .inl a6))]) (lv' := [(7, .int (nI (k5 + 1))), (6, .int (nI t1)), (0, .ref ga), (1, .ref qa), (2, .int st0), (3, .int wd), (4, .int (nI till)), (5, .ref ra)]) (st' := []) [0, 1, 2, 3, 4, 5, 6, 7] rfl rfl rfl (ih_186 (k5 + 1) a6 (show 10 - (k5 + 1) < 10 - k5 from by omega) ⟨(by omega), (by first | exact kSn_1 ha6 c_199 | exact kSn_2 ha6 c_211 | exact kSn_0 ha6 hQ c_211 hT | exact kSn_f ha6 hQ c_211 hT (by omega) (by omega) hfe (by omega) hF hI2 rfl rfl rfl rfl), trivial⟩)
          · have d_98 := Int32.not_le.mp c_98
            have n_98 := kn_nle (a := nc) (b := i4) (by omega) (by omega) c_98
            have m_98 := Nat.not_le.mpr n_98
            have hNd : kNn nc (kDD (kGl N nc g q) wd t1 i4 (kDay (kGl N nc g q) wd (kBit st0) t1)).1 := kNn_dd hNd0 i4
            refine ky_aload_n C 2 dL_day_101 rfl rfl ?_
            refine ky_bipush C dL_day_102 (v := 29) (by decide) ?_
            refine ky_iload C 0 dL_day_104 rfl ?_
            refine ky_iadd C (v := nI (29 + i4)) dL_day_106 (nI_add 29 i4) ?_
            refine ky_ialdN C 0 (k := 29 + i4) rfl (by omega) (by decide) dL_day_107 (v := g (29 + i4)) rfl ?_
            refine ky_iload_n C 5 dL_day_108 rfl rfl ?_
            refine ky_iload C 1 dL_day_109 rfl ?_
            refine ky_imul C (v := wd * (nI t1)) dL_day_111 rfl ?_
            refine ky_iadd C (v := (g (29 + i4)) + (wd * (nI t1))) dL_day_112 rfl ?_
            refine ky_istore C (lv' := [(8, .int ((g (29 + i4)) + (wd * (nI t1)))), (7, .int (nI i4)), (6, .int (nI t1)), (0, .ref ga), (1, .ref qa), (2, .int st0), (3, .int wd), (4, .int (nI till)), (5, .ref ra)]) dL_day_113 (by decide) rfl ?_
            refine ky_iload C 0 dL_day_115 rfl ?_
            refine ky_if_lt C 177 dL_day_117 (by decide) (fun c_117 => ?_) (fun c_117 => ?_)
            · have d_117 := Int32.not_le.mpr c_117
              refine ky_iinc C 1 (v := nI (i4 + 1)) (lv' := [(7, .int (nI (i4 + 1))), (8, .int ((g (29 + i4)) + (wd * (nI t1)))), (6, .int (nI t1)), (0, .ref ga), (1, .ref qa), (2, .int st0), (3, .int wd), (4, .int (nI till)), (5, .ref ra)]) dL_day_177 rfl (nI_1 _) (by decide) rfl ?_
              refine ky_goto C dL_day_180 (tgt := 92) (by decide) ?_
              exact ky_conv (ws' := [(ga, .inl (cI, 48, .inl g)), (qa, .inl (cI, 40, .inl q)), (ra, .inl (cI, 42, .inl a5))]) (lv' := [(7, .int (nI (i4 + 1))), (6, .int (nI t1)), (0, .ref ga), (1, .ref qa), (2, .int st0), (3, .int wd), (4, .int (nI till)), (5, .ref ra)]) (st' := []) [0, 2, 3, 4, 5, 6, 7, 8] rfl rfl rfl (ih_92 (i4 + 1) a5 (show nc - (i4 + 1) < nc - i4 from by omega) ⟨(by omega), (by first | exact kDn_1 ha5 (show g (29 + i4) + wd * nI t1 = kPl (fun c => g (29 + c)) wd i4 t1 from rfl) c_117 | exact kDn_2 ha5 (show g (29 + i4) + wd * nI t1 = kPl (fun c => g (29 + c)) wd i4 t1 from rfl) c_125 | exact kDn_3 ha5 c_139 | exact kDn_4 ha5 (by omega) c_150 | exact kDn_y (nc := nc) ha5 hN (by omega) (by omega) hNd (show g (29 + i4) + wd * nI t1 = kPl (fun c => g (29 + c)) wd i4 t1 from rfl) c_117 c_125 c_139 c_150), trivial⟩)
            · have d_117 := Int32.not_lt.mp c_117
              refine ky_iload C 0 dL_day_120 rfl ?_
              refine ky_aload_n C 3 dL_day_122 rfl rfl ?_
              refine ky_iconst C dL_day_123 (v := 0) (by decide) ?_
              refine ky_ialdN C 0 (k := 0) rfl (by omega) (by decide) dL_day_124 (v := nI N) hg0 ?_
              refine ky_icmp_ge C 177 dL_day_125 (by decide) (fun c_125 => ?_) (fun c_125 => ?_)
              · have d_125 := Int32.not_lt.mpr c_125
                refine ky_iinc C 1 (v := nI (i4 + 1)) (lv' := [(7, .int (nI (i4 + 1))), (8, .int ((g (29 + i4)) + (wd * (nI t1)))), (6, .int (nI t1)), (0, .ref ga), (1, .ref qa), (2, .int st0), (3, .int wd), (4, .int (nI till)), (5, .ref ra)]) dL_day_177 rfl (nI_1 _) (by decide) rfl ?_
                refine ky_goto C dL_day_180 (tgt := 92) (by decide) ?_
                exact ky_conv (ws' := [(ga, .inl (cI, 48, .inl g)), (qa, .inl (cI, 40, .inl q)), (ra, .inl (cI, 42, .inl a5))]) (lv' := [(7, .int (nI (i4 + 1))), (6, .int (nI t1)), (0, .ref ga), (1, .ref qa), (2, .int st0), (3, .int wd), (4, .int (nI till)), (5, .ref ra)]) (st' := []) [0, 2, 3, 4, 5, 6, 7, 8] rfl rfl rfl (ih_92 (i4 + 1) a5 (show nc - (i4 + 1) < nc - i4 from by omega) ⟨(by omega), (by first | exact kDn_1 ha5 (show g (29 + i4) + wd * nI t1 = kPl (fun c => g (29 + c)) wd i4 t1 from rfl) c_117 | exact kDn_2 ha5 (show g (29 + i4) + wd * nI t1 = kPl (fun c => g (29 + c)) wd i4 t1 from rfl) c_125 | exact kDn_3 ha5 c_139 | exact kDn_4 ha5 (by omega) c_150 | exact kDn_y (nc := nc) ha5 hN (by omega) (by omega) hNd (show g (29 + i4) + wd * nI t1 = kPl (fun c => g (29 + c)) wd i4 t1 from rfl) c_117 c_125 c_139 c_150), trivial⟩)
              · have d_125 := Int32.not_le.mp c_125
                refine ky_aload_n C 3 dL_day_128 rfl rfl ?_
                refine ky_bipush C dL_day_129 (v := 41) (by decide) ?_
                refine ky_iload C 1 dL_day_131 rfl ?_
                refine ky_iadd C (v := nI (41 + i4)) dL_day_133 (nI_add 41 i4) ?_
                refine ky_ialdN C 0 (k := 41 + i4) rfl (by omega) (by decide) dL_day_134 (v := g (41 + i4)) rfl ?_
                refine ky_aload_n C 3 dL_day_135 rfl rfl ?_
                refine ky_bipush C dL_day_136 (v := 26) (by decide) ?_
                refine ky_ialdN C 0 (k := 26) rfl (by omega) (by decide) dL_day_138 (v := g 26) rfl ?_
                refine ky_icmp_gt C 177 dL_day_139 (by decide) (fun c_139 => ?_) (fun c_139 => ?_)
                · have d_139 := Int32.not_le.mpr c_139
                  refine ky_iinc C 1 (v := nI (i4 + 1)) (lv' := [(7, .int (nI (i4 + 1))), (8, .int ((g (29 + i4)) + (wd * (nI t1)))), (6, .int (nI t1)), (0, .ref ga), (1, .ref qa), (2, .int st0), (3, .int wd), (4, .int (nI till)), (5, .ref ra)]) dL_day_177 rfl (nI_1 _) (by decide) rfl ?_
                  refine ky_goto C dL_day_180 (tgt := 92) (by decide) ?_
                  exact ky_conv (ws' := [(ga, .inl (cI, 48, .inl g)), (qa, .inl (cI, 40, .inl q)), (ra, .inl (cI, 42, .inl a5))]) (lv' := [(7, .int (nI (i4 + 1))), (6, .int (nI t1)), (0, .ref ga), (1, .ref qa), (2, .int st0), (3, .int wd), (4, .int (nI till)), (5, .ref ra)]) (st' := []) [0, 2, 3, 4, 5, 6, 7, 8] rfl rfl rfl (ih_92 (i4 + 1) a5 (show nc - (i4 + 1) < nc - i4 from by omega) ⟨(by omega), (by first | exact kDn_1 ha5 (show g (29 + i4) + wd * nI t1 = kPl (fun c => g (29 + c)) wd i4 t1 from rfl) c_117 | exact kDn_2 ha5 (show g (29 + i4) + wd * nI t1 = kPl (fun c => g (29 + c)) wd i4 t1 from rfl) c_125 | exact kDn_3 ha5 c_139 | exact kDn_4 ha5 (by omega) c_150 | exact kDn_y (nc := nc) ha5 hN (by omega) (by omega) hNd (show g (29 + i4) + wd * nI t1 = kPl (fun c => g (29 + c)) wd i4 t1 from rfl) c_117 c_125 c_139 c_150), trivial⟩)
                · have d_139 := Int32.not_lt.mp c_139
                  refine ky_aload C 8 dL_day_142 rfl ?_
                  refine ky_bipush C dL_day_144 (v := 16) (by decide) ?_
                  refine ky_iload C 1 dL_day_146 rfl ?_
                  refine ky_iadd C (v := nI (16 + i4)) dL_day_148 (nI_add 16 i4) ?_
                  refine ky_ialdN C 2 (k := 16 + i4) rfl (by omega) (by decide) dL_day_149 (v := a5 (16 + i4)) rfl ?_
                  refine ky_if_ne C 156 dL_day_150 (by decide) (fun c_150 => ?_) (fun c_150 => ?_)
                  · refine ky_aload C 8 dL_day_156 rfl ?_
                    refine ky_iload C 0 dL_day_158 rfl ?_
                    refine ky_dup2 C dL_day_160 rfl rfl ?_
                    refine ky_iald C 2 rfl (kin_lt (n := 42) (by omega) (by decide) ⟨Int32.not_lt.mp c_117, Int32.not_le.mp c_125⟩) dL_day_161 (v := a5 ((g (29 + i4)) + (wd * (nI t1))).toNatClampNeg) rfl ?_
                    refine ky_iconst C dL_day_162 (v := 1) (by decide) ?_
                    refine ky_iadd C (v := (a5 ((g (29 + i4)) + (wd * (nI t1))).toNatClampNeg) + 1) dL_day_163 rfl ?_
                    refine ky_iast C 2 rfl (kin_lt (n := 42) (by omega) (by decide) ⟨Int32.not_lt.mp c_117, Int32.not_le.mp c_125⟩) dL_day_164 (ws' := [(ga, .inl (cI, 48, .inl g)), (qa, .inl (cI, 40, .inl q)), (ra, .inl (cI, 42, .inl (upd a5 ((g (29 + i4)) + (wd * (nI t1))).toNatClampNeg ((a5 ((g (29 + i4)) + (wd * (nI t1))).toNatClampNeg) + 1))))]) rfl ?_
                    refine ky_aload C 8 dL_day_165 rfl ?_
                    refine ky_bipush C dL_day_167 (v := 16) (by decide) ?_
                    refine ky_iload C 1 dL_day_169 rfl ?_
                    refine ky_iadd C (v := nI (16 + i4)) dL_day_171 (nI_add 16 i4) ?_
                    refine ky_dup2 C dL_day_172 rfl rfl ?_
                    refine ky_ialdN C 2 (k := 16 + i4) rfl (by omega) (by decide) dL_day_173 (v := (upd a5 ((g (29 + i4)) + (wd * (nI t1))).toNatClampNeg ((a5 ((g (29 + i4)) + (wd * (nI t1))).toNatClampNeg) + 1)) (16 + i4)) rfl ?_
                    refine ky_iconst C dL_day_174 (v := 1) (by decide) ?_
                    refine ky_isub C (v := ((upd a5 ((g (29 + i4)) + (wd * (nI t1))).toNatClampNeg ((a5 ((g (29 + i4)) + (wd * (nI t1))).toNatClampNeg) + 1)) (16 + i4)) - 1) dL_day_175 rfl ?_
                    refine ky_iastN C 2 (k := 16 + i4) rfl (by omega) (by decide) dL_day_176 (ws' := [(ga, .inl (cI, 48, .inl g)), (qa, .inl (cI, 40, .inl q)), (ra, .inl (cI, 42, .inl (upd (upd a5 ((g (29 + i4)) + (wd * (nI t1))).toNatClampNeg ((a5 ((g (29 + i4)) + (wd * (nI t1))).toNatClampNeg) + 1)) (16 + i4) (((upd a5 ((g (29 + i4)) + (wd * (nI t1))).toNatClampNeg ((a5 ((g (29 + i4)) + (wd * (nI t1))).toNatClampNeg) + 1)) (16 + i4)) - 1))))]) rfl ?_
                    refine ky_iinc C 1 (v := nI (i4 + 1)) (lv' := [(7, .int (nI (i4 + 1))), (8, .int ((g (29 + i4)) + (wd * (nI t1)))), (6, .int (nI t1)), (0, .ref ga), (1, .ref qa), (2, .int st0), (3, .int wd), (4, .int (nI till)), (5, .ref ra)]) dL_day_177 rfl (nI_1 _) (by decide) rfl ?_
                    refine ky_goto C dL_day_180 (tgt := 92) (by decide) ?_
                    exact ky_conv (ws' := [(ga, .inl (cI, 48, .inl g)), (qa, .inl (cI, 40, .inl q)), (ra, .inl (cI, 42, .inl (upd (upd a5 ((g (29 + i4)) + (wd * (nI t1))).toNatClampNeg ((a5 ((g (29 + i4)) + (wd * (nI t1))).toNatClampNeg) + 1)) (16 + i4) (((upd a5 ((g (29 + i4)) + (wd * (nI t1))).toNatClampNeg ((a5 ((g (29 + i4)) + (wd * (nI t1))).toNatClampNeg) + 1)) (16 + i4)) - 1))))]) (lv' := [(7, .int (nI (i4 + 1))), (6, .int (nI t1)), (0, .ref ga), (1, .ref qa), (2, .int st0), (3, .int wd), (4, .int (nI till)), (5, .ref ra)]) (st' := []) [0, 2, 3, 4, 5, 6, 7, 8] rfl rfl rfl (ih_92 (i4 + 1) (upd (upd a5 ((g (29 + i4)) + (wd * (nI t1))).toNatClampNeg ((a5 ((g (29 + i4)) + (wd * (nI t1))).toNatClampNeg) + 1)) (16 + i4) (((upd a5 ((g (29 + i4)) + (wd * (nI t1))).toNatClampNeg ((a5 ((g (29 + i4)) + (wd * (nI t1))).toNatClampNeg) + 1)) (16 + i4)) - 1)) (show nc - (i4 + 1) < nc - i4 from by omega) ⟨(by omega), (by first | exact kDn_1 ha5 (show g (29 + i4) + wd * nI t1 = kPl (fun c => g (29 + c)) wd i4 t1 from rfl) c_117 | exact kDn_2 ha5 (show g (29 + i4) + wd * nI t1 = kPl (fun c => g (29 + c)) wd i4 t1 from rfl) c_125 | exact kDn_3 ha5 c_139 | exact kDn_4 ha5 (by omega) c_150 | exact kDn_y (nc := nc) ha5 hN (by omega) (by omega) hNd (show g (29 + i4) + wd * nI t1 = kPl (fun c => g (29 + c)) wd i4 t1 from rfl) c_117 c_125 c_139 c_150), trivial⟩)
                  · refine ky_goto C dL_day_153 (tgt := 177) (by decide) ?_
                    refine ky_iinc C 1 (v := nI (i4 + 1)) (lv' := [(7, .int (nI (i4 + 1))), (8, .int ((g (29 + i4)) + (wd * (nI t1)))), (6, .int (nI t1)), (0, .ref ga), (1, .ref qa), (2, .int st0), (3, .int wd), (4, .int (nI till)), (5, .ref ra)]) dL_day_177 rfl (nI_1 _) (by decide) rfl ?_
                    refine ky_goto C dL_day_180 (tgt := 92) (by decide) ?_
                    exact ky_conv (ws' := [(ga, .inl (cI, 48, .inl g)), (qa, .inl (cI, 40, .inl q)), (ra, .inl (cI, 42, .inl a5))]) (lv' := [(7, .int (nI (i4 + 1))), (6, .int (nI t1)), (0, .ref ga), (1, .ref qa), (2, .int st0), (3, .int wd), (4, .int (nI till)), (5, .ref ra)]) (st' := []) [0, 2, 3, 4, 5, 6, 7, 8] rfl rfl rfl (ih_92 (i4 + 1) a5 (show nc - (i4 + 1) < nc - i4 from by omega) ⟨(by omega), (by first | exact kDn_1 ha5 (show g (29 + i4) + wd * nI t1 = kPl (fun c => g (29 + c)) wd i4 t1 from rfl) c_117 | exact kDn_2 ha5 (show g (29 + i4) + wd * nI t1 = kPl (fun c => g (29 + c)) wd i4 t1 from rfl) c_125 | exact kDn_3 ha5 c_139 | exact kDn_4 ha5 (by omega) c_150 | exact kDn_y (nc := nc) ha5 hN (by omega) (by omega) hNd (show g (29 + i4) + wd * nI t1 = kPl (fun c => g (29 + c)) wd i4 t1 from rfl) c_117 c_125 c_139 c_150), trivial⟩)
      · have d_55 := Int32.not_le.mp c_55
        have n_55 := kn_nle (a := nc) (b := i3) (by omega) (by omega) c_55
        have m_55 := Nat.not_le.mpr n_55
        refine ky_aload C 6 dL_day_58 rfl ?_
        refine ky_bipush C dL_day_60 (v := 16) (by decide) ?_
        refine ky_iload C 0 dL_day_62 rfl ?_
        refine ky_iadd C (v := nI (16 + i3)) dL_day_64 (nI_add 16 i3) ?_
        refine ky_aload_n C 1 dL_day_65 rfl rfl ?_
        refine ky_bipush C dL_day_66 (v := 35) (by decide) ?_
        refine ky_iload C 0 dL_day_68 rfl ?_
        refine ky_iadd C (v := nI (35 + i3)) dL_day_70 (nI_add 35 i3) ?_
        refine ky_ialdN C 0 (k := 35 + i3) rfl (by omega) (by decide) dL_day_71 (v := g (35 + i3)) rfl ?_
        refine ky_iastN C 2 (k := 16 + i3) rfl (by omega) (by decide) dL_day_72 (ws' := [(ga, .inl (cI, 48, .inl g)), (qa, .inl (cI, 40, .inl q)), (ra, .inl (cI, 42, .inl (upd a3 (16 + i3) (g (35 + i3)))))]) rfl ?_
        refine ky_iinc C 0 (v := nI (i3 + 1)) (lv' := [(6, .int (nI (i3 + 1))), (0, .ref ga), (1, .ref qa), (2, .int st0), (3, .int wd), (4, .int (nI till)), (5, .ref ra)]) dL_day_73 rfl (nI_1 _) (by decide) rfl ?_
        refine ky_goto C dL_day_76 (tgt := 49) (by decide) ?_
        exact ky_conv (ws' := [(ga, .inl (cI, 48, .inl g)), (qa, .inl (cI, 40, .inl q)), (ra, .inl (cI, 42, .inl (upd a3 (16 + i3) (g (35 + i3)))))]) (lv' := [(6, .int (nI (i3 + 1))), (0, .ref ga), (1, .ref qa), (2, .int st0), (3, .int wd), (4, .int (nI till)), (5, .ref ra)]) (st' := []) [0, 1, 2, 3, 4, 5, 6] rfl rfl rfl (ih_49 (i3 + 1) (upd a3 (16 + i3) (g (35 + i3))) (show nc - (i3 + 1) < nc - i3 from by omega) ⟨(by omega), (kFl_4 ha3), trivial⟩)
    · have d_30 := Int32.not_le.mp c_30
      have n_30 := kn_nle (a := 42) (b := i2) (by omega) (by omega) c_30
      have m_30 := Nat.not_le.mpr n_30
      refine ky_aload C 6 dL_day_33 rfl ?_
      refine ky_iload C 0 dL_day_35 rfl ?_
      refine ky_bipush C dL_day_37 (v := (-9)) (by decide) ?_
      refine ky_iastN C 2 (k := i2) rfl (by omega) (by decide) dL_day_39 (ws' := [(ga, .inl (cI, 48, .inl g)), (qa, .inl (cI, 40, .inl q)), (ra, .inl (cI, 42, .inl (upd a2 i2 (-9))))]) rfl ?_
      refine ky_iinc C 0 (v := nI (i2 + 1)) (lv' := [(6, .int (nI (i2 + 1))), (0, .ref ga), (1, .ref qa), (2, .int st0), (3, .int wd), (4, .int (nI till)), (5, .ref ra)]) dL_day_40 rfl (nI_1 _) (by decide) rfl ?_
      refine ky_goto C dL_day_43 (tgt := 26) (by decide) ?_
      exact ky_conv (ws' := [(ga, .inl (cI, 48, .inl g)), (qa, .inl (cI, 40, .inl q)), (ra, .inl (cI, 42, .inl (upd a2 i2 (-9))))]) (lv' := [(6, .int (nI (i2 + 1))), (0, .ref ga), (1, .ref qa), (2, .int st0), (3, .int wd), (4, .int (nI till)), (5, .ref ra)]) (st' := []) [0, 1, 2, 3, 4, 5, 6] rfl rfl rfl (ih_26 (i2 + 1) (upd a2 i2 (-9)) (show 42 - (i2 + 1) < 42 - i2 from by omega) ⟨(by omega), (by omega), (kFl_2 hi2 ha2), trivial⟩)
  · have d_7 := Int32.not_le.mp c_7
    have n_7 := kn_nle (a := 32) (b := i1) (by omega) (by omega) c_7
    have m_7 := Nat.not_le.mpr n_7
    refine ky_aload C 6 dL_day_10 rfl ?_
    refine ky_iload C 0 dL_day_12 rfl ?_
    refine ky_iconst C dL_day_14 (v := 0) (by decide) ?_
    refine ky_iastN C 2 (k := i1) rfl (by omega) (by decide) dL_day_15 (ws' := [(ga, .inl (cI, 48, .inl g)), (qa, .inl (cI, 40, .inl q)), (ra, .inl (cI, 42, .inl (upd a1 i1 0)))]) rfl ?_
    refine ky_iinc C 0 (v := nI (i1 + 1)) (lv' := [(6, .int (nI (i1 + 1))), (0, .ref ga), (1, .ref qa), (2, .int st0), (3, .int wd), (4, .int (nI till)), (5, .ref ra)]) dL_day_16 rfl (nI_1 _) (by decide) rfl ?_
    refine ky_goto C dL_day_19 (tgt := 3) (by decide) ?_
    exact ky_conv (ws' := [(ga, .inl (cI, 48, .inl g)), (qa, .inl (cI, 40, .inl q)), (ra, .inl (cI, 42, .inl (upd a1 i1 0)))]) (lv' := [(6, .int (nI (i1 + 1))), (0, .ref ga), (1, .ref qa), (2, .int st0), (3, .int wd), (4, .int (nI till)), (5, .ref ra)]) (st' := []) [0, 1, 2, 3, 4, 5, 6] rfl rfl rfl (ih_3 (i1 + 1) (upd a1 i1 0) (show 32 - (i1 + 1) < 32 - i1 from by omega) ⟨(by omega), (by rw [ha1]; exact kFil_succ _ _ _ rfl), trivial⟩)
