/-! part 31: the class's calls, but sheets, duels and shares -/
theorem kw_next (k : Nat) : nI k - 3 + 1 = nI (k + 1) - 3 := by
  rw [← nI_1 k]
  apply Int32.toBitVec_inj.mp
  simp only [Int32.toBitVec_add, Int32.toBitVec_sub]
  bv_omega
theorem kw_lt0 : ∀ k, k < 8 → nI k - 3 ≤ 3 → k < 7 := by decide +kernel
theorem kw_lt {k : Nat} (h : k ≤ 7) (h2 : ¬ (3 : Int32) < nI k - 3) : k < 7 := kw_lt0 k (by omega) (Int32.not_lt.mp h2)
theorem kw_le0 : ∀ k, k < 7 → nI k - 3 ≤ 3 := by decide +kernel
theorem kw_end {k : Nat} {b : Int32 × Int32} {y : Nat → Int32} (h : k ≤ 7) (h2 : ¬ nI k - 3 ≤ 3) (hb : b = kWind y k) : kWind y 7 = b := by
  rcases Nat.lt_or_ge k 7 with q | q
  · exact absurd (kw_le0 k q) h2
  · rw [hb, show k = 7 by omega]
theorem kWind_yes {y : Nat → Int32} {k : Nat} {b1 b2 v z : Int32} (hb : (b1, b2) = kWind y k) (h : b2 < z) (hv : v = nI k - 3) (hz : z = y k) : (v, z) = kWind y (k + 1) := by
  subst hz; subst hv
  rw [kWind, ← hb, if_pos h]
theorem kWind_no {y : Nat → Int32} {k : Nat} {b1 b2 z : Int32} (hb : (b1, b2) = kWind y k) (h : ¬ b2 < z) (hz : z = y k) : (b1, b2) = kWind y (k + 1) := by
  subst hz
  rw [kWind, ← hb, if_neg h]
theorem kWind_y {club need worth gt hl am so : kA} {g : kG} {ns k : Nat} {v : Int32} (h : (gt, hl, am, so) = (kDay g v (fun s => decide (s < ns) && kBit 1023 s) 12).2) (hv : v = nI k - 3) : kYs club need worth gt hl (-1) (gN g) = kWindY g club need worth ns k := by
  rw [kYd_day h, kDay_set (kAll_1023 ns), hv]
  rfl
theorem hdX7_isWithin : yX7_isWithin.cls = RX7 ∧ yX7_isWithin.cls ≠ "java/lang/invoke/MethodHandle" ∧ yX7_isWithin.cls ≠ "java/lang/invoke/VarHandle" ∧ (parseMethodDescriptor yX7_isWithin.desc).map (fun d => d.parameters.length) = some 3 := by decide +kernel
set_option maxRecDepth 100000 in
set_option maxHeartbeats 4000000 in
theorem kX7_isWithin (l : Launch) (D : va_G) (cI cS : ClassId) (x : Int32) (lo : Int32) (hi : Int32) : kyM l yX7_isWithin wsX7_isWithin ({ frames := 0, cells := 0, slots := 0, locals := 0 }) D cI cS [.int x, .int lo, .int hi] [] 0 0 (fun vR wR => vR = some (.int (if lo ≤ x ∧ x ≤ hi then (1 : Int32) else 0)) ∧ wR = []) := by
  refine ky_start (own := RX7) (cc := cX7_isWithin) (nL := 3) (ret := (some .boolean)) (by decide) rfl rfl (Nat.le_of_ble_eq_true rfl) ?_
  intro p e s m args below meth c C hr hlk hnm
  refine ky_conv (lv' := [(0, .int x), (1, .int lo), (2, .int hi)]) (List.range 3) rfl rfl rfl ?_
  refine ky_iload_n C 0 dX7_isWithin_0 rfl rfl ?_
  refine ky_iload_n C 1 dX7_isWithin_1 rfl rfl ?_
  refine ky_icmp_lt C 14 dX7_isWithin_2 (by decide) (fun c_2 => ?_) (fun c_2 => ?_)
  · have d_2 := Int32.not_le.mpr c_2
    refine ky_iconst C dX7_isWithin_14 (v := 0) (by decide) ?_
    exact ky_zret C hr hlk rfl ⟨congrArg (fun z => some (Value.int z)) (show (0) = (if lo ≤ x ∧ x ≤ hi then (1 : Int32) else 0) from by simp [c_2, d_2]), rfl⟩ (Nat.le_of_ble_eq_true rfl) dX7_isWithin_15
  · have d_2 := Int32.not_lt.mp c_2
    refine ky_iload_n C 0 dX7_isWithin_5 rfl rfl ?_
    refine ky_iload_n C 2 dX7_isWithin_6 rfl rfl ?_
    refine ky_icmp_gt C 14 dX7_isWithin_7 (by decide) (fun c_7 => ?_) (fun c_7 => ?_)
    · have d_7 := Int32.not_le.mpr c_7
      refine ky_iconst C dX7_isWithin_14 (v := 0) (by decide) ?_
      exact ky_zret C hr hlk rfl ⟨congrArg (fun z => some (Value.int z)) (show (0) = (if lo ≤ x ∧ x ≤ hi then (1 : Int32) else 0) from by simp [c_2, d_2, c_7, d_7]), rfl⟩ (Nat.le_of_ble_eq_true rfl) dX7_isWithin_15
    · have d_7 := Int32.not_lt.mp c_7
      refine ky_iconst C dX7_isWithin_10 (v := 1) (by decide) ?_
      refine ky_goto C dX7_isWithin_11 (tgt := 15) (by decide) ?_
      exact ky_zret C hr hlk rfl ⟨congrArg (fun z => some (Value.int z)) (show (1) = (if lo ≤ x ∧ x ≤ hi then (1 : Int32) else 0) from by simp [c_2, d_2, c_7, d_7]), rfl⟩ (Nat.le_of_ble_eq_true rfl) dX7_isWithin_15
theorem hdX7_isSheet : yX7_isSheet.cls = RX7 ∧ yX7_isSheet.cls ≠ "java/lang/invoke/MethodHandle" ∧ yX7_isSheet.cls ≠ "java/lang/invoke/VarHandle" ∧ (parseMethodDescriptor yX7_isSheet.desc).map (fun d => d.parameters.length) = some 1 := by decide +kernel
set_option maxRecDepth 100000 in
set_option maxHeartbeats 4000000 in
theorem kX7_isSheet (l : Launch) (D : va_G) (cI cS : ClassId) (x : Int32) : kyM l yX7_isSheet wsX7_isSheet ({ frames := 1, cells := 0, slots := 0, locals := 22 }) D cI cS [.int x] [] 0 0 (fun vR wR => vR = some (.int (if 0 ≤ x ∧ x ≤ 3 then (1 : Int32) else 0)) ∧ wR = []) := by
  refine ky_start (own := RX7) (cc := cX7_isSheet) (nL := 1) (ret := (some .boolean)) (by decide) rfl rfl (Nat.le_of_ble_eq_true rfl) ?_
  intro p e s m args below meth c C hr hlk hnm
  refine ky_conv (lv' := [(0, .int x)]) (List.range 1) rfl rfl rfl ?_
  refine ky_iload_n C 0 dX7_isSheet_0 rfl rfl ?_
  refine ky_iconst C dX7_isSheet_1 (v := 0) (by decide) ?_
  refine ky_iconst C dX7_isSheet_2 (v := 3) (by decide) ?_
  refine ky_callS0 C 3 (kX7_isWithin l D cI cS x 0 3) gX7_isSheet_X7_isWithin rfl rfl rfl hdX7_isWithin.2 ⟨Nat.le_of_ble_eq_true rfl, Nat.le_of_ble_eq_true rfl⟩ rfl rfl (Nat.le_of_ble_eq_true rfl) dX7_isSheet_3 [] rfl rfl ?_
  rintro _ _ ⟨rfl, rfl⟩
  refine ky_ws (ws' := []) (st' := [.int (if 0 ≤ x ∧ x ≤ 3 then (1 : Int32) else 0)]) rfl rfl ?_
  exact ky_zret C hr hlk kb_nar ⟨rfl, rfl⟩ (Nat.le_of_ble_eq_true rfl) dX7_isSheet_6
theorem hdX7_isSort : yX7_isSort.cls = RX7 ∧ yX7_isSort.cls ≠ "java/lang/invoke/MethodHandle" ∧ yX7_isSort.cls ≠ "java/lang/invoke/VarHandle" ∧ (parseMethodDescriptor yX7_isSort.desc).map (fun d => d.parameters.length) = some 1 := by decide +kernel
set_option maxRecDepth 100000 in
set_option maxHeartbeats 4000000 in
theorem kX7_isSort (l : Launch) (D : va_G) (cI cS : ClassId) (x : Int32) : kyM l yX7_isSort wsX7_isSort ({ frames := 1, cells := 0, slots := 0, locals := 22 }) D cI cS [.int x] [] 0 0 (fun vR wR => vR = some (.int (if 0 ≤ x ∧ x ≤ 2 then (1 : Int32) else 0)) ∧ wR = []) := by
  refine ky_start (own := RX7) (cc := cX7_isSort) (nL := 1) (ret := (some .boolean)) (by decide) rfl rfl (Nat.le_of_ble_eq_true rfl) ?_
  intro p e s m args below meth c C hr hlk hnm
  refine ky_conv (lv' := [(0, .int x)]) (List.range 1) rfl rfl rfl ?_
  refine ky_iload_n C 0 dX7_isSort_0 rfl rfl ?_
  refine ky_iconst C dX7_isSort_1 (v := 0) (by decide) ?_
  refine ky_iconst C dX7_isSort_2 (v := 2) (by decide) ?_
  refine ky_callS0 C 3 (kX7_isWithin l D cI cS x 0 2) gX7_isSort_X7_isWithin rfl rfl rfl hdX7_isWithin.2 ⟨Nat.le_of_ble_eq_true rfl, Nat.le_of_ble_eq_true rfl⟩ rfl rfl (Nat.le_of_ble_eq_true rfl) dX7_isSort_3 [] rfl rfl ?_
  rintro _ _ ⟨rfl, rfl⟩
  refine ky_ws (ws' := []) (st' := [.int (if 0 ≤ x ∧ x ≤ 2 then (1 : Int32) else 0)]) rfl rfl ?_
  exact ky_zret C hr hlk kb_nar ⟨rfl, rfl⟩ (Nat.le_of_ble_eq_true rfl) dX7_isSort_6
theorem hdX7_isKind : yX7_isKind.cls = RX7 ∧ yX7_isKind.cls ≠ "java/lang/invoke/MethodHandle" ∧ yX7_isKind.cls ≠ "java/lang/invoke/VarHandle" ∧ (parseMethodDescriptor yX7_isKind.desc).map (fun d => d.parameters.length) = some 1 := by decide +kernel
set_option maxRecDepth 100000 in
set_option maxHeartbeats 4000000 in
theorem kX7_isKind (l : Launch) (D : va_G) (cI cS : ClassId) (x : Int32) : kyM l yX7_isKind wsX7_isKind ({ frames := 1, cells := 0, slots := 0, locals := 22 }) D cI cS [.int x] [] 0 0 (fun vR wR => vR = some (.int (if 0 ≤ x ∧ x ≤ 2 then (1 : Int32) else 0)) ∧ wR = []) := by
  refine ky_start (own := RX7) (cc := cX7_isKind) (nL := 1) (ret := (some .boolean)) (by decide) rfl rfl (Nat.le_of_ble_eq_true rfl) ?_
  intro p e s m args below meth c C hr hlk hnm
  refine ky_conv (lv' := [(0, .int x)]) (List.range 1) rfl rfl rfl ?_
  refine ky_iload_n C 0 dX7_isKind_0 rfl rfl ?_
  refine ky_iconst C dX7_isKind_1 (v := 0) (by decide) ?_
  refine ky_iconst C dX7_isKind_2 (v := 2) (by decide) ?_
  refine ky_callS0 C 3 (kX7_isWithin l D cI cS x 0 2) gX7_isKind_X7_isWithin rfl rfl rfl hdX7_isWithin.2 ⟨Nat.le_of_ble_eq_true rfl, Nat.le_of_ble_eq_true rfl⟩ rfl rfl (Nat.le_of_ble_eq_true rfl) dX7_isKind_3 [] rfl rfl ?_
  rintro _ _ ⟨rfl, rfl⟩
  refine ky_ws (ws' := []) (st' := [.int (if 0 ≤ x ∧ x ≤ 2 then (1 : Int32) else 0)]) rfl rfl ?_
  exact ky_zret C hr hlk kb_nar ⟨rfl, rfl⟩ (Nat.le_of_ble_eq_true rfl) dX7_isKind_6
theorem hdX7_isClub : yX7_isClub.cls = RX7 ∧ yX7_isClub.cls ≠ "java/lang/invoke/MethodHandle" ∧ yX7_isClub.cls ≠ "java/lang/invoke/VarHandle" ∧ (parseMethodDescriptor yX7_isClub.desc).map (fun d => d.parameters.length) = some 1 := by decide +kernel
set_option maxRecDepth 100000 in
set_option maxHeartbeats 4000000 in
theorem kX7_isClub (l : Launch) (D : va_G) (cI cS : ClassId) (x : Int32) : kyM l yX7_isClub wsX7_isClub ({ frames := 1, cells := 0, slots := 0, locals := 22 }) D cI cS [.int x] [] 0 0 (fun vR wR => vR = some (.int (if 0 ≤ x ∧ x ≤ 3 then (1 : Int32) else 0)) ∧ wR = []) := by
  refine ky_start (own := RX7) (cc := cX7_isClub) (nL := 1) (ret := (some .boolean)) (by decide) rfl rfl (Nat.le_of_ble_eq_true rfl) ?_
  intro p e s m args below meth c C hr hlk hnm
  refine ky_conv (lv' := [(0, .int x)]) (List.range 1) rfl rfl rfl ?_
  refine ky_iload_n C 0 dX7_isClub_0 rfl rfl ?_
  refine ky_iconst C dX7_isClub_1 (v := 0) (by decide) ?_
  refine ky_iconst C dX7_isClub_2 (v := 3) (by decide) ?_
  refine ky_callS0 C 3 (kX7_isWithin l D cI cS x 0 3) gX7_isClub_X7_isWithin rfl rfl rfl hdX7_isWithin.2 ⟨Nat.le_of_ble_eq_true rfl, Nat.le_of_ble_eq_true rfl⟩ rfl rfl (Nat.le_of_ble_eq_true rfl) dX7_isClub_3 [] rfl rfl ?_
  rintro _ _ ⟨rfl, rfl⟩
  refine ky_ws (ws' := []) (st' := [.int (if 0 ≤ x ∧ x ≤ 3 then (1 : Int32) else 0)]) rfl rfl ?_
  exact ky_zret C hr hlk kb_nar ⟨rfl, rfl⟩ (Nat.le_of_ble_eq_true rfl) dX7_isClub_6
theorem hdX7_isHour : yX7_isHour.cls = RX7 ∧ yX7_isHour.cls ≠ "java/lang/invoke/MethodHandle" ∧ yX7_isHour.cls ≠ "java/lang/invoke/VarHandle" ∧ (parseMethodDescriptor yX7_isHour.desc).map (fun d => d.parameters.length) = some 1 := by decide +kernel
set_option maxRecDepth 100000 in
set_option maxHeartbeats 4000000 in
theorem kX7_isHour (l : Launch) (D : va_G) (cI cS : ClassId) (x : Int32) : kyM l yX7_isHour wsX7_isHour ({ frames := 1, cells := 0, slots := 0, locals := 22 }) D cI cS [.int x] [] 0 0 (fun vR wR => vR = some (.int (if 0 ≤ x ∧ x ≤ 11 then (1 : Int32) else 0)) ∧ wR = []) := by
  refine ky_start (own := RX7) (cc := cX7_isHour) (nL := 1) (ret := (some .boolean)) (by decide) rfl rfl (Nat.le_of_ble_eq_true rfl) ?_
  intro p e s m args below meth c C hr hlk hnm
  refine ky_conv (lv' := [(0, .int x)]) (List.range 1) rfl rfl rfl ?_
  refine ky_iload_n C 0 dX7_isHour_0 rfl rfl ?_
  refine ky_iconst C dX7_isHour_1 (v := 0) (by decide) ?_
  refine ky_bipush C dX7_isHour_2 (v := 11) (by decide) ?_
  refine ky_callS0 C 3 (kX7_isWithin l D cI cS x 0 11) gX7_isHour_X7_isWithin rfl rfl rfl hdX7_isWithin.2 ⟨Nat.le_of_ble_eq_true rfl, Nat.le_of_ble_eq_true rfl⟩ rfl rfl (Nat.le_of_ble_eq_true rfl) dX7_isHour_4 [] rfl rfl ?_
  rintro _ _ ⟨rfl, rfl⟩
  refine ky_ws (ws' := []) (st' := [.int (if 0 ≤ x ∧ x ≤ 11 then (1 : Int32) else 0)]) rfl rfl ?_
  exact ky_zret C hr hlk kb_nar ⟨rfl, rfl⟩ (Nat.le_of_ble_eq_true rfl) dX7_isHour_7
theorem hdX7_isPowder : yX7_isPowder.cls = RX7 ∧ yX7_isPowder.cls ≠ "java/lang/invoke/MethodHandle" ∧ yX7_isPowder.cls ≠ "java/lang/invoke/VarHandle" ∧ (parseMethodDescriptor yX7_isPowder.desc).map (fun d => d.parameters.length) = some 1 := by decide +kernel
set_option maxRecDepth 100000 in
set_option maxHeartbeats 4000000 in
theorem kX7_isPowder (l : Launch) (D : va_G) (cI cS : ClassId) (x : Int32) : kyM l yX7_isPowder wsX7_isPowder ({ frames := 1, cells := 0, slots := 0, locals := 22 }) D cI cS [.int x] [] 0 0 (fun vR wR => vR = some (.int (if 1 ≤ x ∧ x ≤ 9 then (1 : Int32) else 0)) ∧ wR = []) := by
  refine ky_start (own := RX7) (cc := cX7_isPowder) (nL := 1) (ret := (some .boolean)) (by decide) rfl rfl (Nat.le_of_ble_eq_true rfl) ?_
  intro p e s m args below meth c C hr hlk hnm
  refine ky_conv (lv' := [(0, .int x)]) (List.range 1) rfl rfl rfl ?_
  refine ky_iload_n C 0 dX7_isPowder_0 rfl rfl ?_
  refine ky_iconst C dX7_isPowder_1 (v := 1) (by decide) ?_
  refine ky_bipush C dX7_isPowder_2 (v := 9) (by decide) ?_
  refine ky_callS0 C 3 (kX7_isWithin l D cI cS x 1 9) gX7_isPowder_X7_isWithin rfl rfl rfl hdX7_isWithin.2 ⟨Nat.le_of_ble_eq_true rfl, Nat.le_of_ble_eq_true rfl⟩ rfl rfl (Nat.le_of_ble_eq_true rfl) dX7_isPowder_4 [] rfl rfl ?_
  rintro _ _ ⟨rfl, rfl⟩
  refine ky_ws (ws' := []) (st' := [.int (if 1 ≤ x ∧ x ≤ 9 then (1 : Int32) else 0)]) rfl rfl ?_
  exact ky_zret C hr hlk kb_nar ⟨rfl, rfl⟩ (Nat.le_of_ble_eq_true rfl) dX7_isPowder_7
theorem hdX7_isSetting : yX7_isSetting.cls = RX7 ∧ yX7_isSetting.cls ≠ "java/lang/invoke/MethodHandle" ∧ yX7_isSetting.cls ≠ "java/lang/invoke/VarHandle" ∧ (parseMethodDescriptor yX7_isSetting.desc).map (fun d => d.parameters.length) = some 2 := by decide +kernel
set_option maxRecDepth 100000 in
set_option maxHeartbeats 4000000 in
theorem kX7_isSetting (l : Launch) (D : va_G) (cI cS : ClassId) (a : Int32) (v : Int32) : kyM l yX7_isSetting wsX7_isSetting ({ frames := 1, cells := 0, slots := 0, locals := 22 }) D cI cS [.int a, .int v] [] 0 0 (fun vR wR => vR = some (.int (if kMay a v then (1 : Int32) else 0)) ∧ wR = []) := by
  refine ky_start (own := RX7) (cc := cX7_isSetting) (nL := 2) (ret := (some .boolean)) (by decide) rfl rfl (Nat.le_of_ble_eq_true rfl) ?_
  intro p e s m args below meth c C hr hlk hnm
  refine ky_conv (lv' := [(0, .int a), (1, .int v)]) (List.range 2) rfl rfl rfl ?_
  refine ky_iload_n C 0 dX7_isSetting_0 rfl rfl ?_
  rcases kt_cases a 2 (by decide) with t_1 | ⟨j_1, jl_1, je_1⟩
  · have o_1_0 : ¬ (a = 0) := fun z => by rw [z] at t_1; exact absurd t_1 (by decide)
    have o_1_1 : ¬ (a = 1) := fun z => by rw [z] at t_1; exact absurd t_1 (by decide)
    have o_1_2 : ¬ (a = 2) := fun z => by rw [z] at t_1; exact absurd t_1 (by decide)
    refine ky_tableOut C 53 dX7_isSetting_1 t_1 (by decide) ?_
    refine ky_iconst C dX7_isSetting_53 (v := 0) (by decide) ?_
    exact ky_zret C hr hlk rfl ⟨congrArg (fun z => some (Value.int z)) (show (0) = (if kMay a v then (1 : Int32) else 0) from by simp [kMay, o_1_0, o_1_1, o_1_2]), rfl⟩ (Nat.le_of_ble_eq_true rfl) dX7_isSetting_54
  · rcases kt_3 jl_1 with rfl | rfl | rfl
    · have c_1 : a = 0 := je_1
      refine ky_tableIn C 28 dX7_isSetting_1 (by rw [c_1]; decide) (by rw [c_1]; decide) (off := 27) (by rw [c_1]; rfl) (by decide) ?_
      refine ky_iload_n C 1 dX7_isSetting_28 rfl rfl ?_
      refine ky_bipush C dX7_isSetting_29 (v := (-3)) (by decide) ?_
      refine ky_iconst C dX7_isSetting_31 (v := 3) (by decide) ?_
      refine ky_callS0 C 3 (kX7_isWithin l D cI cS v (-3) 3) gX7_isSetting_X7_isWithin rfl rfl rfl hdX7_isWithin.2 ⟨Nat.le_of_ble_eq_true rfl, Nat.le_of_ble_eq_true rfl⟩ rfl rfl (Nat.le_of_ble_eq_true rfl) dX7_isSetting_32 [] rfl rfl ?_
      rintro _ _ ⟨rfl, rfl⟩
      refine ky_ws (ws' := []) (st' := [.int (if (-3) ≤ v ∧ v ≤ 3 then (1 : Int32) else 0)]) rfl rfl ?_
      exact ky_zret C hr hlk kb_nar ⟨congrArg (fun z => some (Value.int z)) (show (if (-3) ≤ v ∧ v ≤ 3 then (1 : Int32) else 0) = (if kMay a v then (1 : Int32) else 0) from by simp [kMay, c_1]), rfl⟩ (Nat.le_of_ble_eq_true rfl) dX7_isSetting_35
    · have c_1 : a = 1 := je_1
      refine ky_tableIn C 36 dX7_isSetting_1 (by rw [c_1]; decide) (by rw [c_1]; decide) (off := 35) (by rw [c_1]; rfl) (by decide) ?_
      have o_1_0 : ¬ (a = 0) := fun z => absurd (c_1.symm.trans z) (by decide)
      refine ky_iload_n C 1 dX7_isSetting_36 rfl rfl ?_
      refine ky_iconst C dX7_isSetting_37 (v := 0) (by decide) ?_
      refine ky_bipush C dX7_isSetting_38 (v := 9) (by decide) ?_
      refine ky_callS0 C 3 (kX7_isWithin l D cI cS v 0 9) gX7_isSetting_X7_isWithin rfl rfl rfl hdX7_isWithin.2 ⟨Nat.le_of_ble_eq_true rfl, Nat.le_of_ble_eq_true rfl⟩ rfl rfl (Nat.le_of_ble_eq_true rfl) dX7_isSetting_40 [] rfl rfl ?_
      rintro _ _ ⟨rfl, rfl⟩
      refine ky_ws (ws' := []) (st' := [.int (if 0 ≤ v ∧ v ≤ 9 then (1 : Int32) else 0)]) rfl rfl ?_
      exact ky_zret C hr hlk kb_nar ⟨congrArg (fun z => some (Value.int z)) (show (if 0 ≤ v ∧ v ≤ 9 then (1 : Int32) else 0) = (if kMay a v then (1 : Int32) else 0) from by simp [kMay, c_1, o_1_0]), rfl⟩ (Nat.le_of_ble_eq_true rfl) dX7_isSetting_43
    · have c_1 : a = 2 := je_1
      refine ky_tableIn C 44 dX7_isSetting_1 (by rw [c_1]; decide) (by rw [c_1]; decide) (off := 43) (by rw [c_1]; rfl) (by decide) ?_
      have o_1_0 : ¬ (a = 0) := fun z => absurd (c_1.symm.trans z) (by decide)
      have o_1_1 : ¬ (a = 1) := fun z => absurd (c_1.symm.trans z) (by decide)
      refine ky_iload_n C 1 dX7_isSetting_44 rfl rfl ?_
      refine ky_iconst C dX7_isSetting_45 (v := 0) (by decide) ?_
      refine ky_sipush C dX7_isSetting_46 (v := 4095) (by decide) ?_
      refine ky_callS0 C 3 (kX7_isWithin l D cI cS v 0 4095) gX7_isSetting_X7_isWithin rfl rfl rfl hdX7_isWithin.2 ⟨Nat.le_of_ble_eq_true rfl, Nat.le_of_ble_eq_true rfl⟩ rfl rfl (Nat.le_of_ble_eq_true rfl) dX7_isSetting_49 [] rfl rfl ?_
      rintro _ _ ⟨rfl, rfl⟩
      refine ky_ws (ws' := []) (st' := [.int (if 0 ≤ v ∧ v ≤ 4095 then (1 : Int32) else 0)]) rfl rfl ?_
      exact ky_zret C hr hlk kb_nar ⟨congrArg (fun z => some (Value.int z)) (show (if 0 ≤ v ∧ v ≤ 4095 then (1 : Int32) else 0) = (if kMay a v then (1 : Int32) else 0) from by simp [kMay, c_1, o_1_0, o_1_1]), rfl⟩ (Nat.le_of_ble_eq_true rfl) dX7_isSetting_52
theorem hiX7_set_X3 : ∀ w ∈ wsX30, w ∈ wsX7_set := fun _ h => (List.mem_cons_of_mem _ (List.mem_append_right _ h))
theorem hiX7_set_X7 : ∀ w ∈ wsX70, w ∈ wsX7_set := fun _ h => (List.mem_cons_of_mem _ (List.mem_append_left _ (List.mem_append_right _ h)))
theorem hdX7_set : yX7_set.cls = RX7 ∧ yX7_set.cls ≠ "java/lang/invoke/MethodHandle" ∧ yX7_set.cls ≠ "java/lang/invoke/VarHandle" ∧ (parseMethodDescriptor yX7_set.desc).map (fun d => d.parameters.length) = some 2 := by decide +kernel
set_option maxRecDepth 100000 in
set_option maxHeartbeats 4000000 in
/-- X7_set -/
theorem kX7_set (l : Launch) (D : va_G) (cI cS : ClassId) (ad : Nat → Nat) (left : Int32) (lastF : Int32) (N : Nat) (wind : Int32) (low : Int32) (forb : Int32) (x : Int32) (y : Int32) (hN : N ≤ 8) : kyM l yX7_set wsX7_set ({ frames := 2, cells := 0, slots := 0, locals := 43 }) D cI cS [.ref (ad 0), .int x, .int y] [(ad 0, .inr (7, [.ref (ad 1), .ref (ad 10), .ref (ad 14), .ref (ad 18), .ref (ad 23), .ref (ad 29), .ref (ad 32), .int left, .int lastF])), (ad 10, .inr (3, [.ref (ad 11), .ref (ad 12), .ref (ad 13), .int (nI N), .int wind, .int low, .int forb]))] 0 0 (fun vR wR => ∃ r2 : Int32, ∃ wind2 : Int32, ∃ low2 : Int32, ∃ forb2 : Int32, vR = some (.int r2) ∧ wR = [(ad 0, .inr (7, [.ref (ad 1), .ref (ad 10), .ref (ad 14), .ref (ad 18), .ref (ad 23), .ref (ad 29), .ref (ad 32), .int left, .int lastF])), (ad 10, .inr (3, [.ref (ad 11), .ref (ad 12), .ref (ad 13), .int (nI N), .int wind2, .int low2, .int forb2]))] ∧ ((r2, wind2, low2, forb2) = kF_set N wind low forb x y)) := by
  refine ky_start (own := RX7) (cc := cX7_set) (nL := 4) (ret := (some .int)) (by decide) rfl rfl (Nat.le_of_ble_eq_true rfl) ?_
  intro p e s m args below meth c C hr hlk hnm
  refine ky_conv (lv' := [(0, .ref (ad 0)), (1, .int x), (2, .int y)]) (List.range 3) rfl rfl rfl ?_
  refine ky_iload_n C 1 dX7_set_0 rfl rfl ?_
  refine ky_iload_n C 2 dX7_set_1 rfl rfl ?_
  refine ky_callS0 C 2 (kX7_isSetting l D cI cS x y) gX7_set_X7_isSetting rfl rfl rfl hdX7_isSetting.2 ⟨Nat.le_of_ble_eq_true rfl, Nat.le_of_ble_eq_true rfl⟩ rfl rfl (Nat.le_of_ble_eq_true rfl) dX7_set_2 [] rfl rfl ?_
  rintro _ _ ⟨rfl, rfl⟩
  refine ky_ws (ws' := [(ad 0, .inr (7, [.ref (ad 1), .ref (ad 10), .ref (ad 14), .ref (ad 18), .ref (ad 23), .ref (ad 29), .ref (ad 32), .int left, .int lastF])), (ad 10, .inr (3, [.ref (ad 11), .ref (ad 12), .ref (ad 13), .int (nI N), .int wind, .int low, .int forb]))]) (st' := [.int (if kMay x y then (1 : Int32) else 0)]) rfl rfl ?_
  refine ky_if_ne C 11 dX7_set_5 (by decide) (fun c_5 => ?_) (fun c_5 => ?_)
  · have c_5 : kMay x y := kb1 c_5
    refine ky_aload_n C 0 dX7_set_11 rfl rfl ?_
    refine ky_get C (ci := 7) (T := TX7) (N := 9) (Cn := RX7) (ref := "RainAccount") hiX7_set_X7 0 rfl rfl 1 (by decide) (List.mem_of_getElem? (i := 1) rfl) rfl (v := .ref (ad 10)) rfl dX7_set_12 ?_
    refine ky_get C (ci := 3) (T := TX3) (N := 7) (Cn := RX3) (ref := "RainAccount$Land") hiX7_set_X3 1 rfl rfl 3 (by decide) (List.mem_of_getElem? (i := 2) rfl) rfl (v := .int (nI N)) rfl dX7_set_15 ?_
    refine ky_if_ne C 24 dX7_set_18 (by decide) (fun c_18 => ?_) (fun c_18 => ?_)
    · have n_18 := kn_neq (a := N) (b := 0) (by omega) (by omega) c_18
      refine ky_iload_n C 1 dX7_set_24 rfl rfl ?_
      refine ky_if_ne C 50 dX7_set_25 (by decide) (fun c_25 => ?_) (fun c_25 => ?_)
      · refine ky_iload_n C 1 dX7_set_50 rfl rfl ?_
        refine ky_iconst C dX7_set_51 (v := 1) (by decide) ?_
        refine ky_icmp_ne C 74 dX7_set_52 (by decide) (fun c_52 => ?_) (fun c_52 => ?_)
        · refine ky_aload_n C 0 dX7_set_74 rfl rfl ?_
          refine ky_get C (ci := 7) (T := TX7) (N := 9) (Cn := RX7) (ref := "RainAccount") hiX7_set_X7 0 rfl rfl 1 (by decide) (List.mem_of_getElem? (i := 1) rfl) rfl (v := .ref (ad 10)) rfl dX7_set_75 ?_
          refine ky_get C (ci := 3) (T := TX3) (N := 7) (Cn := RX3) (ref := "RainAccount$Land") hiX7_set_X3 1 rfl rfl 6 (by decide) (List.mem_of_getElem? (i := 5) rfl) rfl (v := .int forb) rfl dX7_set_78 ?_
          refine ky_istore_n C (lv' := [(3, .int forb), (0, .ref (ad 0)), (1, .int x), (2, .int y)]) dX7_set_81 rfl (by decide) rfl ?_
          refine ky_aload_n C 1 dX7_set_82 rfl rfl ?_
          refine ky_get C (ci := 7) (T := TX7) (N := 9) (Cn := RX7) (ref := "RainAccount") hiX7_set_X7 0 rfl rfl 1 (by decide) (List.mem_of_getElem? (i := 1) rfl) rfl (v := .ref (ad 10)) rfl dX7_set_83 ?_
          refine ky_iload_n C 3 dX7_set_86 rfl rfl ?_
          refine ky_put C (ci := 3) (T := TX3) (N := 7) (Cn := RX3) (ref := "RainAccount$Land") hiX7_set_X3 tyX3 tyX3_ok nmX3 1 rfl rfl 6 (by decide) (List.mem_of_getElem? (i := 5) rfl) rfl rfl rfl rfl (Nat.le_of_ble_eq_true rfl) dX7_set_87 (ws' := [(ad 0, .inr (7, [.ref (ad 1), .ref (ad 10), .ref (ad 14), .ref (ad 18), .ref (ad 23), .ref (ad 29), .ref (ad 32), .int left, .int lastF])), (ad 10, .inr (3, [.ref (ad 11), .ref (ad 12), .ref (ad 13), .int (nI N), .int wind, .int low, .int y]))]) rfl ?_
          refine ky_iload_n C 0 dX7_set_90 rfl rfl ?_
          exact ky_iret C hr hlk ⟨forb, wind, low, y, rfl, rfl, (by simp only [kF_set, if_pos c_5, if_neg c_18, if_neg n_18, if_neg c_25, if_neg c_52])⟩ (Nat.le_of_ble_eq_true rfl) dX7_set_91
        · refine ky_aload_n C 0 dX7_set_55 rfl rfl ?_
          refine ky_get C (ci := 7) (T := TX7) (N := 9) (Cn := RX7) (ref := "RainAccount") hiX7_set_X7 0 rfl rfl 1 (by decide) (List.mem_of_getElem? (i := 1) rfl) rfl (v := .ref (ad 10)) rfl dX7_set_56 ?_
          refine ky_get C (ci := 3) (T := TX3) (N := 7) (Cn := RX3) (ref := "RainAccount$Land") hiX7_set_X3 1 rfl rfl 5 (by decide) (List.mem_of_getElem? (i := 4) rfl) rfl (v := .int low) rfl dX7_set_59 ?_
          refine ky_istore_n C (lv' := [(3, .int low), (0, .ref (ad 0)), (1, .int x), (2, .int y)]) dX7_set_62 rfl (by decide) rfl ?_
          refine ky_aload_n C 1 dX7_set_63 rfl rfl ?_
          refine ky_get C (ci := 7) (T := TX7) (N := 9) (Cn := RX7) (ref := "RainAccount") hiX7_set_X7 0 rfl rfl 1 (by decide) (List.mem_of_getElem? (i := 1) rfl) rfl (v := .ref (ad 10)) rfl dX7_set_64 ?_
          refine ky_iload_n C 3 dX7_set_67 rfl rfl ?_
          refine ky_put C (ci := 3) (T := TX3) (N := 7) (Cn := RX3) (ref := "RainAccount$Land") hiX7_set_X3 tyX3 tyX3_ok nmX3 1 rfl rfl 5 (by decide) (List.mem_of_getElem? (i := 4) rfl) rfl rfl rfl rfl (Nat.le_of_ble_eq_true rfl) dX7_set_68 (ws' := [(ad 0, .inr (7, [.ref (ad 1), .ref (ad 10), .ref (ad 14), .ref (ad 18), .ref (ad 23), .ref (ad 29), .ref (ad 32), .int left, .int lastF])), (ad 10, .inr (3, [.ref (ad 11), .ref (ad 12), .ref (ad 13), .int (nI N), .int wind, .int y, .int forb]))]) rfl ?_
          refine ky_goto C dX7_set_71 (tgt := 90) (by decide) ?_
          refine ky_iload_n C 0 dX7_set_90 rfl rfl ?_
          exact ky_iret C hr hlk ⟨low, wind, y, forb, rfl, rfl, (by simp only [kF_set, if_pos c_5, if_neg c_18, if_neg n_18, if_neg c_25, if_pos c_52])⟩ (Nat.le_of_ble_eq_true rfl) dX7_set_91
      · refine ky_aload_n C 0 dX7_set_28 rfl rfl ?_
        refine ky_get C (ci := 7) (T := TX7) (N := 9) (Cn := RX7) (ref := "RainAccount") hiX7_set_X7 0 rfl rfl 1 (by decide) (List.mem_of_getElem? (i := 1) rfl) rfl (v := .ref (ad 10)) rfl dX7_set_29 ?_
        refine ky_get C (ci := 3) (T := TX3) (N := 7) (Cn := RX3) (ref := "RainAccount$Land") hiX7_set_X3 1 rfl rfl 4 (by decide) (List.mem_of_getElem? (i := 3) rfl) rfl (v := .int wind) rfl dX7_set_32 ?_
        refine ky_bipush C dX7_set_35 (v := 10) (by decide) ?_
        refine ky_iadd C (v := wind + 10) dX7_set_37 rfl ?_
        refine ky_istore_n C (lv' := [(3, .int (wind + 10)), (0, .ref (ad 0)), (1, .int x), (2, .int y)]) dX7_set_38 rfl (by decide) rfl ?_
        refine ky_aload_n C 1 dX7_set_39 rfl rfl ?_
        refine ky_get C (ci := 7) (T := TX7) (N := 9) (Cn := RX7) (ref := "RainAccount") hiX7_set_X7 0 rfl rfl 1 (by decide) (List.mem_of_getElem? (i := 1) rfl) rfl (v := .ref (ad 10)) rfl dX7_set_40 ?_
        refine ky_iload_n C 3 dX7_set_43 rfl rfl ?_
        refine ky_put C (ci := 3) (T := TX3) (N := 7) (Cn := RX3) (ref := "RainAccount$Land") hiX7_set_X3 tyX3 tyX3_ok nmX3 1 rfl rfl 4 (by decide) (List.mem_of_getElem? (i := 3) rfl) rfl rfl rfl rfl (Nat.le_of_ble_eq_true rfl) dX7_set_44 (ws' := [(ad 0, .inr (7, [.ref (ad 1), .ref (ad 10), .ref (ad 14), .ref (ad 18), .ref (ad 23), .ref (ad 29), .ref (ad 32), .int left, .int lastF])), (ad 10, .inr (3, [.ref (ad 11), .ref (ad 12), .ref (ad 13), .int (nI N), .int y, .int low, .int forb]))]) rfl ?_
        refine ky_goto C dX7_set_47 (tgt := 90) (by decide) ?_
        refine ky_iload_n C 0 dX7_set_90 rfl rfl ?_
        exact ky_iret C hr hlk ⟨(wind + 10), y, low, forb, rfl, rfl, (by simp only [kF_set, if_pos c_5, if_neg c_18, if_neg n_18, if_pos c_25])⟩ (Nat.le_of_ble_eq_true rfl) dX7_set_91
    · have n_18 := kn_eq (a := N) (b := 0) (by omega) (by omega) c_18
      refine ky_bipush C dX7_set_21 (v := (-3)) (by decide) ?_
      exact ky_iret C hr hlk ⟨(-3), wind, low, forb, rfl, rfl, (by simp only [kF_set, if_pos c_5, if_pos c_18, if_pos n_18])⟩ (Nat.le_of_ble_eq_true rfl) dX7_set_23
  · have c_5 : ¬ (kMay x y) := kb0 c_5
    refine ky_bipush C dX7_set_8 (v := (-2)) (by decide) ?_
    exact ky_iret C hr hlk ⟨(-2), wind, low, forb, rfl, rfl, (by simp only [kF_set, if_neg c_5])⟩ (Nat.le_of_ble_eq_true rfl) dX7_set_10
theorem hiX7_cloud_X3 : ∀ w ∈ wsX30, w ∈ wsX7_cloud := fun _ h => (List.mem_cons_of_mem _ (List.mem_append_left _ (List.mem_append_right _ h)))
theorem hiX7_cloud_X6 : ∀ w ∈ wsX60, w ∈ wsX7_cloud := fun _ h => (List.mem_cons_of_mem _ (List.mem_append_right _ h))
theorem hiX7_cloud_X7 : ∀ w ∈ wsX70, w ∈ wsX7_cloud := fun _ h => (List.mem_cons_of_mem _ (List.mem_append_left _ (List.mem_append_left _ (List.mem_append_right _ h))))
theorem hdX7_cloud : yX7_cloud.cls = RX7 ∧ yX7_cloud.cls ≠ "java/lang/invoke/MethodHandle" ∧ yX7_cloud.cls ≠ "java/lang/invoke/VarHandle" ∧ (parseMethodDescriptor yX7_cloud.desc).map (fun d => d.parameters.length) = some 3 := by decide +kernel
set_option maxRecDepth 100000 in
set_option maxHeartbeats 4000000 in
/-- X7_cloud -/
theorem kX7_cloud (l : Launch) (D : va_G) (cI cS : ClassId) (ad : Nat → Nat) (left : Int32) (lastF : Int32) (N : Nat) (wind : Int32) (low : Int32) (forb : Int32) (nc : Nat) (cat : Nat → Int32) (cwet : Nat → Int32) (chigh : Nat → Int32) (x : Int32) (y : Int32) (z : Int32) (hN : N ≤ 8) (hnc : nc ≤ 6) : kyM l yX7_cloud wsX7_cloud ({ frames := 1, cells := 0, slots := 0, locals := 24 }) D cI cS [.ref (ad 0), .int x, .int y, .int z] [(ad 0, .inr (7, [.ref (ad 1), .ref (ad 10), .ref (ad 14), .ref (ad 18), .ref (ad 23), .ref (ad 29), .ref (ad 32), .int left, .int lastF])), (ad 10, .inr (3, [.ref (ad 11), .ref (ad 12), .ref (ad 13), .int (nI N), .int wind, .int low, .int forb])), (ad 14, .inr (6, [.ref (ad 15), .ref (ad 16), .ref (ad 17), .int (nI nc)])), (ad 15, .inl (cI, 6, .inl cat)), (ad 16, .inl (cI, 6, .inl cwet)), (ad 17, .inl (cI, 6, .inl chigh))] 0 0 (fun vR wR => ∃ r2 : Int32, ∃ nc2 : Nat, ∃ cat2 : Nat → Int32, ∃ cwet2 : Nat → Int32, ∃ chi2 : Nat → Int32, vR = some (.int r2) ∧ wR = [(ad 0, .inr (7, [.ref (ad 1), .ref (ad 10), .ref (ad 14), .ref (ad 18), .ref (ad 23), .ref (ad 29), .ref (ad 32), .int left, .int lastF])), (ad 10, .inr (3, [.ref (ad 11), .ref (ad 12), .ref (ad 13), .int (nI N), .int wind, .int low, .int forb])), (ad 14, .inr (6, [.ref (ad 15), .ref (ad 16), .ref (ad 17), .int (nI nc2)])), (ad 15, .inl (cI, 6, .inl cat2)), (ad 16, .inl (cI, 6, .inl cwet2)), (ad 17, .inl (cI, 6, .inl chi2))] ∧ ((r2, nc2, cat2, cwet2, chi2) = kF_cloud N nc cat cwet chigh x y z)) := by
  refine ky_start (own := RX7) (cc := cX7_cloud) (nL := 4) (ret := (some .int)) (by decide) rfl rfl (Nat.le_of_ble_eq_true rfl) ?_
  intro p e s m args below meth c C hr hlk hnm
  refine ky_conv (lv' := [(0, .ref (ad 0)), (1, .int x), (2, .int y), (3, .int z)]) (List.range 4) rfl rfl rfl ?_
  refine ky_iload_n C 1 dX7_cloud_0 rfl rfl ?_
  refine ky_bipush C dX7_cloud_1 (v := (-20)) (by decide) ?_
  refine ky_bipush C dX7_cloud_3 (v := 20) (by decide) ?_
  refine ky_callS0 C 3 (kX7_isWithin l D cI cS x (-20) 20) gX7_cloud_X7_isWithin rfl rfl rfl hdX7_isWithin.2 ⟨Nat.le_of_ble_eq_true rfl, Nat.le_of_ble_eq_true rfl⟩ rfl rfl (Nat.le_of_ble_eq_true rfl) dX7_cloud_5 [] rfl rfl ?_
  rintro _ _ ⟨rfl, rfl⟩
  refine ky_ws (ws' := [(ad 0, .inr (7, [.ref (ad 1), .ref (ad 10), .ref (ad 14), .ref (ad 18), .ref (ad 23), .ref (ad 29), .ref (ad 32), .int left, .int lastF])), (ad 10, .inr (3, [.ref (ad 11), .ref (ad 12), .ref (ad 13), .int (nI N), .int wind, .int low, .int forb])), (ad 14, .inr (6, [.ref (ad 15), .ref (ad 16), .ref (ad 17), .int (nI nc)])), (ad 15, .inl (cI, 6, .inl cat)), (ad 16, .inl (cI, 6, .inl cwet)), (ad 17, .inl (cI, 6, .inl chigh))]) (st' := [.int (if (-20) ≤ x ∧ x ≤ 20 then (1 : Int32) else 0)]) rfl rfl ?_
  refine ky_if_eq C 31 dX7_cloud_8 (by decide) (fun c_8 => ?_) (fun c_8 => ?_)
  · have c_8 : ¬ ((-20) ≤ x ∧ x ≤ 20) := kb0 c_8
    refine ky_bipush C dX7_cloud_31 (v := (-2)) (by decide) ?_
    exact ky_iret C hr hlk ⟨(-2), nc, cat, cwet, chigh, rfl, rfl, (by simp only [kF_cloud, if_neg c_8])⟩ (Nat.le_of_ble_eq_true rfl) dX7_cloud_33
  · have c_8 : (-20) ≤ x ∧ x ≤ 20 := kb1 c_8
    refine ky_iload_n C 2 dX7_cloud_11 rfl rfl ?_
    refine ky_iconst C dX7_cloud_12 (v := 1) (by decide) ?_
    refine ky_bipush C dX7_cloud_13 (v := 30) (by decide) ?_
    refine ky_callS0 C 3 (kX7_isWithin l D cI cS y 1 30) gX7_cloud_X7_isWithin rfl rfl rfl hdX7_isWithin.2 ⟨Nat.le_of_ble_eq_true rfl, Nat.le_of_ble_eq_true rfl⟩ rfl rfl (Nat.le_of_ble_eq_true rfl) dX7_cloud_15 [] rfl rfl ?_
    rintro _ _ ⟨rfl, rfl⟩
    refine ky_ws (ws' := [(ad 0, .inr (7, [.ref (ad 1), .ref (ad 10), .ref (ad 14), .ref (ad 18), .ref (ad 23), .ref (ad 29), .ref (ad 32), .int left, .int lastF])), (ad 10, .inr (3, [.ref (ad 11), .ref (ad 12), .ref (ad 13), .int (nI N), .int wind, .int low, .int forb])), (ad 14, .inr (6, [.ref (ad 15), .ref (ad 16), .ref (ad 17), .int (nI nc)])), (ad 15, .inl (cI, 6, .inl cat)), (ad 16, .inl (cI, 6, .inl cwet)), (ad 17, .inl (cI, 6, .inl chigh))]) (st' := [.int (if 1 ≤ y ∧ y ≤ 30 then (1 : Int32) else 0)]) rfl rfl ?_
    refine ky_if_eq C 31 dX7_cloud_18 (by decide) (fun c_18 => ?_) (fun c_18 => ?_)
    · have c_18 : ¬ (1 ≤ y ∧ y ≤ 30) := kb0 c_18
      refine ky_bipush C dX7_cloud_31 (v := (-2)) (by decide) ?_
      exact ky_iret C hr hlk ⟨(-2), nc, cat, cwet, chigh, rfl, rfl, (by simp only [kF_cloud, if_pos c_8, if_neg c_18])⟩ (Nat.le_of_ble_eq_true rfl) dX7_cloud_33
    · have c_18 : 1 ≤ y ∧ y ≤ 30 := kb1 c_18
      refine ky_iload_n C 3 dX7_cloud_21 rfl rfl ?_
      refine ky_iconst C dX7_cloud_22 (v := 1) (by decide) ?_
      refine ky_bipush C dX7_cloud_23 (v := 9) (by decide) ?_
      refine ky_callS0 C 3 (kX7_isWithin l D cI cS z 1 9) gX7_cloud_X7_isWithin rfl rfl rfl hdX7_isWithin.2 ⟨Nat.le_of_ble_eq_true rfl, Nat.le_of_ble_eq_true rfl⟩ rfl rfl (Nat.le_of_ble_eq_true rfl) dX7_cloud_25 [] rfl rfl ?_
      rintro _ _ ⟨rfl, rfl⟩
      refine ky_ws (ws' := [(ad 0, .inr (7, [.ref (ad 1), .ref (ad 10), .ref (ad 14), .ref (ad 18), .ref (ad 23), .ref (ad 29), .ref (ad 32), .int left, .int lastF])), (ad 10, .inr (3, [.ref (ad 11), .ref (ad 12), .ref (ad 13), .int (nI N), .int wind, .int low, .int forb])), (ad 14, .inr (6, [.ref (ad 15), .ref (ad 16), .ref (ad 17), .int (nI nc)])), (ad 15, .inl (cI, 6, .inl cat)), (ad 16, .inl (cI, 6, .inl cwet)), (ad 17, .inl (cI, 6, .inl chigh))]) (st' := [.int (if 1 ≤ z ∧ z ≤ 9 then (1 : Int32) else 0)]) rfl rfl ?_
      refine ky_if_ne C 34 dX7_cloud_28 (by decide) (fun c_28 => ?_) (fun c_28 => ?_)
      · have c_28 : 1 ≤ z ∧ z ≤ 9 := kb1 c_28
        refine ky_aload_n C 0 dX7_cloud_34 rfl rfl ?_
        refine ky_get C (ci := 7) (T := TX7) (N := 9) (Cn := RX7) (ref := "RainAccount") hiX7_cloud_X7 0 rfl rfl 1 (by decide) (List.mem_of_getElem? (i := 1) rfl) rfl (v := .ref (ad 10)) rfl dX7_cloud_35 ?_
        refine ky_get C (ci := 3) (T := TX3) (N := 7) (Cn := RX3) (ref := "RainAccount$Land") hiX7_cloud_X3 1 rfl rfl 3 (by decide) (List.mem_of_getElem? (i := 2) rfl) rfl (v := .int (nI N)) rfl dX7_cloud_38 ?_
        refine ky_if_ne C 47 dX7_cloud_41 (by decide) (fun c_41 => ?_) (fun c_41 => ?_)
        · have n_41 := kn_neq (a := N) (b := 0) (by omega) (by omega) c_41
          refine ky_aload_n C 0 dX7_cloud_47 rfl rfl ?_
          refine ky_get C (ci := 7) (T := TX7) (N := 9) (Cn := RX7) (ref := "RainAccount") hiX7_cloud_X7 0 rfl rfl 2 (by decide) (List.mem_of_getElem? (i := 3) rfl) rfl (v := .ref (ad 14)) rfl dX7_cloud_48 ?_
          refine ky_get C (ci := 6) (T := TX6) (N := 4) (Cn := RX6) (ref := "RainAccount$Sky") hiX7_cloud_X6 2 rfl rfl 3 (by decide) (List.mem_of_getElem? (i := 4) rfl) rfl (v := .int (nI nc)) rfl dX7_cloud_51 ?_
          refine ky_bipush C dX7_cloud_54 (v := 6) (by decide) ?_
          refine ky_icmp_lt C 62 dX7_cloud_56 (by decide) (fun c_56 => ?_) (fun c_56 => ?_)
          · have d_56 := Int32.not_le.mpr c_56
            have n_56 := kn_lt (a := nc) (b := 6) (by omega) (by omega) c_56
            have m_56 := Nat.not_le.mpr n_56
            refine ky_aload_n C 0 dX7_cloud_62 rfl rfl ?_
            refine ky_get C (ci := 7) (T := TX7) (N := 9) (Cn := RX7) (ref := "RainAccount") hiX7_cloud_X7 0 rfl rfl 2 (by decide) (List.mem_of_getElem? (i := 3) rfl) rfl (v := .ref (ad 14)) rfl dX7_cloud_63 ?_
            refine ky_iload_n C 1 dX7_cloud_66 rfl rfl ?_
            refine ky_iload_n C 2 dX7_cloud_67 rfl rfl ?_
            refine ky_iload_n C 3 dX7_cloud_68 rfl rfl ?_
            refine ky_callV0 C 3 (kX6_add l D cI cS ad nc cat cwet chigh x y z (by first | assumption | omega)) gX7_cloud_X6_add rfl rfl rfl hdX6_add 2 6 rfl rfl rfl ⟨Nat.le_of_ble_eq_true rfl, Nat.le_of_ble_eq_true rfl⟩ rfl rfl (Nat.le_of_ble_eq_true rfl) dX7_cloud_69 [2, 3, 4, 5] rfl rfl ?_
            rintro _ _ ⟨rfl, rfl⟩
            refine ky_ws (ws' := [(ad 0, .inr (7, [.ref (ad 1), .ref (ad 10), .ref (ad 14), .ref (ad 18), .ref (ad 23), .ref (ad 29), .ref (ad 32), .int left, .int lastF])), (ad 10, .inr (3, [.ref (ad 11), .ref (ad 12), .ref (ad 13), .int (nI N), .int wind, .int low, .int forb])), (ad 14, .inr (6, [.ref (ad 15), .ref (ad 16), .ref (ad 17), .int (nI (nc + 1))])), (ad 15, .inl (cI, 6, .inl (upd cat nc x))), (ad 16, .inl (cI, 6, .inl (upd cwet nc y))), (ad 17, .inl (cI, 6, .inl (upd chigh nc z)))]) (st' := [.int (nI nc)]) rfl rfl ?_
            exact ky_iret C hr hlk ⟨(nI nc), (nc + 1), (upd cat nc x), (upd cwet nc y), (upd chigh nc z), rfl, rfl, (by simp only [kF_cloud, if_pos c_8, if_pos c_18, if_pos c_28, if_neg c_41, if_neg n_41, if_pos c_56, if_neg d_56, if_pos n_56, if_neg m_56])⟩ (Nat.le_of_ble_eq_true rfl) dX7_cloud_72
          · have d_56 := Int32.not_lt.mp c_56
            have n_56 := kn_nlt (a := nc) (b := 6) (by omega) (by omega) c_56
            have m_56 := Nat.not_lt.mpr n_56
            refine ky_bipush C dX7_cloud_59 (v := (-4)) (by decide) ?_
            exact ky_iret C hr hlk ⟨(-4), nc, cat, cwet, chigh, rfl, rfl, (by simp only [kF_cloud, if_pos c_8, if_pos c_18, if_pos c_28, if_neg c_41, if_neg n_41, if_neg c_56, if_pos d_56, if_pos n_56, if_neg m_56])⟩ (Nat.le_of_ble_eq_true rfl) dX7_cloud_61
        · have n_41 := kn_eq (a := N) (b := 0) (by omega) (by omega) c_41
          refine ky_bipush C dX7_cloud_44 (v := (-3)) (by decide) ?_
          exact ky_iret C hr hlk ⟨(-3), nc, cat, cwet, chigh, rfl, rfl, (by simp only [kF_cloud, if_pos c_8, if_pos c_18, if_pos c_28, if_pos c_41, if_pos n_41])⟩ (Nat.le_of_ble_eq_true rfl) dX7_cloud_46
      · have c_28 : ¬ (1 ≤ z ∧ z ≤ 9) := kb0 c_28
        refine ky_bipush C dX7_cloud_31 (v := (-2)) (by decide) ?_
        exact ky_iret C hr hlk ⟨(-2), nc, cat, cwet, chigh, rfl, rfl, (by simp only [kF_cloud, if_pos c_8, if_pos c_18, if_neg c_28])⟩ (Nat.le_of_ble_eq_true rfl) dX7_cloud_33
theorem hiX7_ofCloud_X1 : ∀ w ∈ wsX10, w ∈ wsX7_ofCloud := fun _ h => (List.mem_cons_of_mem _ (List.mem_append_left _ (List.mem_append_right _ h)))
theorem hiX7_ofCloud_X3 : ∀ w ∈ wsX30, w ∈ wsX7_ofCloud := fun _ h => (List.mem_cons_of_mem _ (List.mem_append_left _ (List.mem_append_left _ (List.mem_append_left _ (List.mem_append_right _ h)))))
theorem hiX7_ofCloud_X6 : ∀ w ∈ wsX60, w ∈ wsX7_ofCloud := fun _ h => (List.mem_cons_of_mem _ (List.mem_append_left _ (List.mem_append_left _ (List.mem_append_right _ h))))
theorem hiX7_ofCloud_X7 : ∀ w ∈ wsX70, w ∈ wsX7_ofCloud := fun _ h => (List.mem_cons_of_mem _ (List.mem_append_left _ (List.mem_append_left _ (List.mem_append_left _ (List.mem_append_left _ (List.mem_append_right _ h))))))
theorem hdX7_ofCloud : yX7_ofCloud.cls = RX7 ∧ yX7_ofCloud.cls ≠ "java/lang/invoke/MethodHandle" ∧ yX7_ofCloud.cls ≠ "java/lang/invoke/VarHandle" ∧ (parseMethodDescriptor yX7_ofCloud.desc).map (fun d => d.parameters.length) = some 3 := by decide +kernel
set_option maxRecDepth 100000 in
set_option maxHeartbeats 4000000 in
/-- X7_ofCloud -/
theorem kX7_ofCloud (l : Launch) (D : va_G) (cI cS : ClassId) (ad : Nat → Nat) (left : Int32) (lastF : Int32) (lf : Nat → Int32) (gt : Nat → Int32) (hl : Nat → Int32) (am : Nat → Int32) (so : Nat → Int32) (N : Nat) (wind : Int32) (low : Int32) (forb : Int32) (nc : Nat) (cat : Nat → Int32) (cwet : Nat → Int32) (chigh : Nat → Int32) (ns : Nat) (kd : Nat → Int32) (fr : Nat → Int32) (hor : Nat → Int32) (pw : Nat → Int32) (x : Int32) (y : Int32) (z : Int32) (hN : N ≤ 8) (hnc : nc ≤ 6) (hns : ns ≤ 8) (hwf : ∀ s, s < ns → 0 ≤ fr s ∧ fr s < nI N) : kyM l yX7_ofCloud wsX7_ofCloud ({ frames := 5, cells := 0, slots := 0, locals := 125 }) D cI cS [.ref (ad 0), .int x, .int y, .int z] [(ad 0, .inr (7, [.ref (ad 1), .ref (ad 10), .ref (ad 14), .ref (ad 18), .ref (ad 23), .ref (ad 29), .ref (ad 32), .int left, .int lastF])), (ad 23, .inr (1, [.ref (ad 24), .ref (ad 25), .ref (ad 26), .ref (ad 27), .ref (ad 28), .ref (ad 10), .ref (ad 14), .ref (ad 18)])), (ad 24, .inl (cI, 6, .inl lf)), (ad 25, .inl (cI, 8, .inl gt)), (ad 26, .inl (cI, 8, .inl hl)), (ad 27, .inl (cI, 10, .inl am)), (ad 28, .inl (cI, 10, .inl so)), (ad 10, .inr (3, [.ref (ad 11), .ref (ad 12), .ref (ad 13), .int (nI N), .int wind, .int low, .int forb])), (ad 14, .inr (6, [.ref (ad 15), .ref (ad 16), .ref (ad 17), .int (nI nc)])), (ad 15, .inl (cI, 6, .inl cat)), (ad 16, .inl (cI, 6, .inl cwet)), (ad 17, .inl (cI, 6, .inl chigh)), (ad 18, .inr (5, [.ref (ad 19), .ref (ad 20), .ref (ad 21), .ref (ad 22), .int (nI ns)])), (ad 19, .inl (cI, 10, .inl kd)), (ad 20, .inl (cI, 10, .inl fr)), (ad 21, .inl (cI, 10, .inl hor)), (ad 22, .inl (cI, 10, .inl pw))] 0 0 (fun vR wR => ∃ r2 : Int32, ∃ lf2 : Nat → Int32, ∃ gt2 : Nat → Int32, ∃ hl2 : Nat → Int32, ∃ am2 : Nat → Int32, ∃ so2 : Nat → Int32, vR = some (.int r2) ∧ wR = [(ad 0, .inr (7, [.ref (ad 1), .ref (ad 10), .ref (ad 14), .ref (ad 18), .ref (ad 23), .ref (ad 29), .ref (ad 32), .int left, .int lastF])), (ad 23, .inr (1, [.ref (ad 24), .ref (ad 25), .ref (ad 26), .ref (ad 27), .ref (ad 28), .ref (ad 10), .ref (ad 14), .ref (ad 18)])), (ad 24, .inl (cI, 6, .inl lf2)), (ad 25, .inl (cI, 8, .inl gt2)), (ad 26, .inl (cI, 8, .inl hl2)), (ad 27, .inl (cI, 10, .inl am2)), (ad 28, .inl (cI, 10, .inl so2)), (ad 10, .inr (3, [.ref (ad 11), .ref (ad 12), .ref (ad 13), .int (nI N), .int wind, .int low, .int forb])), (ad 14, .inr (6, [.ref (ad 15), .ref (ad 16), .ref (ad 17), .int (nI nc)])), (ad 15, .inl (cI, 6, .inl cat)), (ad 16, .inl (cI, 6, .inl cwet)), (ad 17, .inl (cI, 6, .inl chigh)), (ad 18, .inr (5, [.ref (ad 19), .ref (ad 20), .ref (ad 21), .ref (ad 22), .int (nI ns)])), (ad 19, .inl (cI, 10, .inl kd)), (ad 20, .inl (cI, 10, .inl fr)), (ad 21, .inl (cI, 10, .inl hor)), (ad 22, .inl (cI, 10, .inl pw))] ∧ (r2 = kF_ofCloud (N, nc, low, cat, cwet, chigh, kd, fr, hor, pw) wind ns x y z)) := by
  refine ky_start (own := RX7) (cc := cX7_ofCloud) (nL := 4) (ret := (some .int)) (by decide) rfl rfl (Nat.le_of_ble_eq_true rfl) ?_
  intro p e s m args below meth c C hr hlk hnm
  refine ky_conv (lv' := [(0, .ref (ad 0)), (1, .int x), (2, .int y), (3, .int z)]) (List.range 4) rfl rfl rfl ?_
  refine ky_aload_n C 0 dX7_ofCloud_0 rfl rfl ?_
  refine ky_get C (ci := 7) (T := TX7) (N := 9) (Cn := RX7) (ref := "RainAccount") hiX7_ofCloud_X7 0 rfl rfl 2 (by decide) (List.mem_of_getElem? (i := 1) rfl) rfl (v := .ref (ad 14)) rfl dX7_ofCloud_1 ?_
  refine ky_iload_n C 1 dX7_ofCloud_4 rfl rfl ?_
  refine ky_callV0 C 1 (kX6_isCloud l D cI cS ad nc x) gX7_ofCloud_X6_isCloud rfl rfl rfl hdX6_isCloud 8 6 rfl rfl rfl ⟨Nat.le_of_ble_eq_true rfl, Nat.le_of_ble_eq_true rfl⟩ rfl rfl (Nat.le_of_ble_eq_true rfl) dX7_ofCloud_5 [8] rfl rfl ?_
  rintro _ _ ⟨rfl, rfl⟩
  refine ky_ws (ws' := [(ad 0, .inr (7, [.ref (ad 1), .ref (ad 10), .ref (ad 14), .ref (ad 18), .ref (ad 23), .ref (ad 29), .ref (ad 32), .int left, .int lastF])), (ad 23, .inr (1, [.ref (ad 24), .ref (ad 25), .ref (ad 26), .ref (ad 27), .ref (ad 28), .ref (ad 10), .ref (ad 14), .ref (ad 18)])), (ad 24, .inl (cI, 6, .inl lf)), (ad 25, .inl (cI, 8, .inl gt)), (ad 26, .inl (cI, 8, .inl hl)), (ad 27, .inl (cI, 10, .inl am)), (ad 28, .inl (cI, 10, .inl so)), (ad 10, .inr (3, [.ref (ad 11), .ref (ad 12), .ref (ad 13), .int (nI N), .int wind, .int low, .int forb])), (ad 14, .inr (6, [.ref (ad 15), .ref (ad 16), .ref (ad 17), .int (nI nc)])), (ad 15, .inl (cI, 6, .inl cat)), (ad 16, .inl (cI, 6, .inl cwet)), (ad 17, .inl (cI, 6, .inl chigh)), (ad 18, .inr (5, [.ref (ad 19), .ref (ad 20), .ref (ad 21), .ref (ad 22), .int (nI ns)])), (ad 19, .inl (cI, 10, .inl kd)), (ad 20, .inl (cI, 10, .inl fr)), (ad 21, .inl (cI, 10, .inl hor)), (ad 22, .inl (cI, 10, .inl pw))]) (st' := [.int (if 0 ≤ x ∧ x < nI nc then (1 : Int32) else 0)]) rfl rfl ?_
  refine ky_if_ne C 13 dX7_ofCloud_8 (by decide) (fun c_8 => ?_) (fun c_8 => ?_)
  · have c_8 : 0 ≤ x ∧ x < nI nc := kb1 c_8
    refine ky_iload_n C 2 dX7_ofCloud_13 rfl rfl ?_
    refine ky_callS0 C 1 (kX7_isHour l D cI cS y) gX7_ofCloud_X7_isHour rfl rfl rfl hdX7_isHour.2 ⟨Nat.le_of_ble_eq_true rfl, Nat.le_of_ble_eq_true rfl⟩ rfl rfl (Nat.le_of_ble_eq_true rfl) dX7_ofCloud_14 [] rfl rfl ?_
    rintro _ _ ⟨rfl, rfl⟩
    refine ky_ws (ws' := [(ad 0, .inr (7, [.ref (ad 1), .ref (ad 10), .ref (ad 14), .ref (ad 18), .ref (ad 23), .ref (ad 29), .ref (ad 32), .int left, .int lastF])), (ad 23, .inr (1, [.ref (ad 24), .ref (ad 25), .ref (ad 26), .ref (ad 27), .ref (ad 28), .ref (ad 10), .ref (ad 14), .ref (ad 18)])), (ad 24, .inl (cI, 6, .inl lf)), (ad 25, .inl (cI, 8, .inl gt)), (ad 26, .inl (cI, 8, .inl hl)), (ad 27, .inl (cI, 10, .inl am)), (ad 28, .inl (cI, 10, .inl so)), (ad 10, .inr (3, [.ref (ad 11), .ref (ad 12), .ref (ad 13), .int (nI N), .int wind, .int low, .int forb])), (ad 14, .inr (6, [.ref (ad 15), .ref (ad 16), .ref (ad 17), .int (nI nc)])), (ad 15, .inl (cI, 6, .inl cat)), (ad 16, .inl (cI, 6, .inl cwet)), (ad 17, .inl (cI, 6, .inl chigh)), (ad 18, .inr (5, [.ref (ad 19), .ref (ad 20), .ref (ad 21), .ref (ad 22), .int (nI ns)])), (ad 19, .inl (cI, 10, .inl kd)), (ad 20, .inl (cI, 10, .inl fr)), (ad 21, .inl (cI, 10, .inl hor)), (ad 22, .inl (cI, 10, .inl pw))]) (st' := [.int (if 0 ≤ y ∧ y ≤ 11 then (1 : Int32) else 0)]) rfl rfl ?_
    refine ky_if_eq C 29 dX7_ofCloud_17 (by decide) (fun c_17 => ?_) (fun c_17 => ?_)
    · have c_17 : ¬ (0 ≤ y ∧ y ≤ 11) := kb0 c_17
      refine ky_bipush C dX7_ofCloud_29 (v := (-2)) (by decide) ?_
      exact ky_iret C hr hlk ⟨(-2), lf, gt, hl, am, so, rfl, rfl, (by simp only [kF_ofCloud, if_pos c_8, if_neg c_17])⟩ (Nat.le_of_ble_eq_true rfl) dX7_ofCloud_31
    · have c_17 : 0 ≤ y ∧ y ≤ 11 := kb1 c_17
      refine ky_iload_n C 3 dX7_ofCloud_20 rfl rfl ?_
      refine ky_iconst C dX7_ofCloud_21 (v := 0) (by decide) ?_
      refine ky_iconst C dX7_ofCloud_22 (v := 2) (by decide) ?_
      refine ky_callS0 C 3 (kX7_isWithin l D cI cS z 0 2) gX7_ofCloud_X7_isWithin rfl rfl rfl hdX7_isWithin.2 ⟨Nat.le_of_ble_eq_true rfl, Nat.le_of_ble_eq_true rfl⟩ rfl rfl (Nat.le_of_ble_eq_true rfl) dX7_ofCloud_23 [] rfl rfl ?_
      rintro _ _ ⟨rfl, rfl⟩
      refine ky_ws (ws' := [(ad 0, .inr (7, [.ref (ad 1), .ref (ad 10), .ref (ad 14), .ref (ad 18), .ref (ad 23), .ref (ad 29), .ref (ad 32), .int left, .int lastF])), (ad 23, .inr (1, [.ref (ad 24), .ref (ad 25), .ref (ad 26), .ref (ad 27), .ref (ad 28), .ref (ad 10), .ref (ad 14), .ref (ad 18)])), (ad 24, .inl (cI, 6, .inl lf)), (ad 25, .inl (cI, 8, .inl gt)), (ad 26, .inl (cI, 8, .inl hl)), (ad 27, .inl (cI, 10, .inl am)), (ad 28, .inl (cI, 10, .inl so)), (ad 10, .inr (3, [.ref (ad 11), .ref (ad 12), .ref (ad 13), .int (nI N), .int wind, .int low, .int forb])), (ad 14, .inr (6, [.ref (ad 15), .ref (ad 16), .ref (ad 17), .int (nI nc)])), (ad 15, .inl (cI, 6, .inl cat)), (ad 16, .inl (cI, 6, .inl cwet)), (ad 17, .inl (cI, 6, .inl chigh)), (ad 18, .inr (5, [.ref (ad 19), .ref (ad 20), .ref (ad 21), .ref (ad 22), .int (nI ns)])), (ad 19, .inl (cI, 10, .inl kd)), (ad 20, .inl (cI, 10, .inl fr)), (ad 21, .inl (cI, 10, .inl hor)), (ad 22, .inl (cI, 10, .inl pw))]) (st' := [.int (if 0 ≤ z ∧ z ≤ 2 then (1 : Int32) else 0)]) rfl rfl ?_
      refine ky_if_ne C 32 dX7_ofCloud_26 (by decide) (fun c_26 => ?_) (fun c_26 => ?_)
      · have c_26 : 0 ≤ z ∧ z ≤ 2 := kb1 c_26
        refine ky_iload_n C 3 dX7_ofCloud_32 rfl rfl ?_
        refine ky_if_ne C 56 dX7_ofCloud_33 (by decide) (fun c_33 => ?_) (fun c_33 => ?_)
        · refine ky_iload_n C 3 dX7_ofCloud_56 rfl rfl ?_
          refine ky_iconst C dX7_ofCloud_57 (v := 2) (by decide) ?_
          refine ky_icmp_ne C 71 dX7_ofCloud_58 (by decide) (fun c_58 => ?_) (fun c_58 => ?_)
          · obtain ⟨j, hj, rfl⟩ := kix (n := nc) c_8 (by omega)
            have hcj : (nI j).toNatClampNeg = j := nI_clamp (by omega)
            obtain ⟨t, ht, rfl⟩ := kixle (n := 11) c_17 (by omega)
            have hct : (nI t).toNatClampNeg = t := nI_clamp (by omega)
            refine ky_aload_n C 0 dX7_ofCloud_71 rfl rfl ?_
            refine ky_get C (ci := 7) (T := TX7) (N := 9) (Cn := RX7) (ref := "RainAccount") hiX7_ofCloud_X7 0 rfl rfl 4 (by decide) (List.mem_of_getElem? (i := 5) rfl) rfl (v := .ref (ad 23)) rfl dX7_ofCloud_72 ?_
            refine ky_iload_n C 2 dX7_ofCloud_75 rfl rfl ?_
            refine ky_callV0 C 1 (kX1_runUpTo l D cI cS ad lf gt hl am so N wind low forb nc cat cwet chigh ns kd fr hor pw t (by first | assumption | omega) (by first | assumption | omega) (by first | assumption | omega) (by first | assumption | omega) (by first | assumption | omega)) gX7_ofCloud_X1_runUpTo rfl rfl rfl hdX1_runUpTo 1 1 rfl rfl rfl ⟨Nat.le_of_ble_eq_true rfl, Nat.le_of_ble_eq_true rfl⟩ rfl rfl (Nat.le_of_ble_eq_true rfl) dX7_ofCloud_76 [1, 2, 3, 4, 5, 6, 7, 8, 9, 10, 11, 12, 13, 14, 15, 16] rfl rfl ?_
            rintro _ _ ⟨lf2_76, gt2_76, hl2_76, am2_76, so2_76, rfl, rfl, hr1_76, hr2_76⟩
            refine ky_ws (ws' := [(ad 0, .inr (7, [.ref (ad 1), .ref (ad 10), .ref (ad 14), .ref (ad 18), .ref (ad 23), .ref (ad 29), .ref (ad 32), .int left, .int lastF])), (ad 23, .inr (1, [.ref (ad 24), .ref (ad 25), .ref (ad 26), .ref (ad 27), .ref (ad 28), .ref (ad 10), .ref (ad 14), .ref (ad 18)])), (ad 24, .inl (cI, 6, .inl lf2_76)), (ad 25, .inl (cI, 8, .inl gt2_76)), (ad 26, .inl (cI, 8, .inl hl2_76)), (ad 27, .inl (cI, 10, .inl am2_76)), (ad 28, .inl (cI, 10, .inl so2_76)), (ad 10, .inr (3, [.ref (ad 11), .ref (ad 12), .ref (ad 13), .int (nI N), .int wind, .int low, .int forb])), (ad 14, .inr (6, [.ref (ad 15), .ref (ad 16), .ref (ad 17), .int (nI nc)])), (ad 15, .inl (cI, 6, .inl cat)), (ad 16, .inl (cI, 6, .inl cwet)), (ad 17, .inl (cI, 6, .inl chigh)), (ad 18, .inr (5, [.ref (ad 19), .ref (ad 20), .ref (ad 21), .ref (ad 22), .int (nI ns)])), (ad 19, .inl (cI, 10, .inl kd)), (ad 20, .inl (cI, 10, .inl fr)), (ad 21, .inl (cI, 10, .inl hor)), (ad 22, .inl (cI, 10, .inl pw))]) (st' := []) rfl rfl ?_
            refine ky_aload_n C 0 dX7_ofCloud_79 rfl rfl ?_
            refine ky_get C (ci := 7) (T := TX7) (N := 9) (Cn := RX7) (ref := "RainAccount") hiX7_ofCloud_X7 0 rfl rfl 4 (by decide) (List.mem_of_getElem? (i := 5) rfl) rfl (v := .ref (ad 23)) rfl dX7_ofCloud_80 ?_
            refine ky_get C (ci := 1) (T := TX1) (N := 8) (Cn := RX1) (ref := "RainAccount$Day") hiX7_ofCloud_X1 1 rfl rfl 0 (by decide) (List.mem_of_getElem? (i := 6) rfl) rfl (v := .ref (ad 24)) rfl dX7_ofCloud_83 ?_
            refine ky_iload_n C 1 dX7_ofCloud_86 rfl rfl ?_
            refine ky_ialdN C 2 (k := j) rfl (by omega) (by decide) dX7_ofCloud_87 (v := lf2_76 j) rfl ?_
            exact ky_iret C hr hlk ⟨(lf2_76 j), lf2_76, gt2_76, hl2_76, am2_76, so2_76, rfl, rfl, (by simp only [kF_ofCloud, if_pos c_8, if_pos c_17, if_pos c_26, if_neg c_33, if_neg c_58, hcj, hct, hr2_76 j hj])⟩ (Nat.le_of_ble_eq_true rfl) dX7_ofCloud_88
          · obtain ⟨j, hj, rfl⟩ := kix (n := nc) c_8 (by omega)
            have hcj : (nI j).toNatClampNeg = j := nI_clamp (by omega)
            refine ky_aload_n C 0 dX7_ofCloud_61 rfl rfl ?_
            refine ky_get C (ci := 7) (T := TX7) (N := 9) (Cn := RX7) (ref := "RainAccount") hiX7_ofCloud_X7 0 rfl rfl 2 (by decide) (List.mem_of_getElem? (i := 1) rfl) rfl (v := .ref (ad 14)) rfl dX7_ofCloud_62 ?_
            refine ky_get C (ci := 6) (T := TX6) (N := 4) (Cn := RX6) (ref := "RainAccount$Sky") hiX7_ofCloud_X6 8 rfl rfl 2 (by decide) (List.mem_of_getElem? (i := 4) rfl) rfl (v := .ref (ad 17)) rfl dX7_ofCloud_65 ?_
            refine ky_iload_n C 1 dX7_ofCloud_68 rfl rfl ?_
            refine ky_ialdN C 11 (k := j) rfl (by omega) (by decide) dX7_ofCloud_69 (v := chigh j) rfl ?_
            exact ky_iret C hr hlk ⟨(chigh j), lf, gt, hl, am, so, rfl, rfl, (by simp only [kF_ofCloud, if_pos c_8, if_pos c_17, if_pos c_26, if_neg c_33, if_pos c_58, hcj])⟩ (Nat.le_of_ble_eq_true rfl) dX7_ofCloud_70
        · obtain ⟨j, hj, rfl⟩ := kix (n := nc) c_8 (by omega)
          have hcj : (nI j).toNatClampNeg = j := nI_clamp (by omega)
          refine ky_aload_n C 0 dX7_ofCloud_36 rfl rfl ?_
          refine ky_get C (ci := 7) (T := TX7) (N := 9) (Cn := RX7) (ref := "RainAccount") hiX7_ofCloud_X7 0 rfl rfl 2 (by decide) (List.mem_of_getElem? (i := 1) rfl) rfl (v := .ref (ad 14)) rfl dX7_ofCloud_37 ?_
          refine ky_iload_n C 1 dX7_ofCloud_40 rfl rfl ?_
          refine ky_aload_n C 0 dX7_ofCloud_41 rfl rfl ?_
          refine ky_get C (ci := 7) (T := TX7) (N := 9) (Cn := RX7) (ref := "RainAccount") hiX7_ofCloud_X7 0 rfl rfl 1 (by decide) (List.mem_of_getElem? (i := 2) rfl) rfl (v := .ref (ad 10)) rfl dX7_ofCloud_42 ?_
          refine ky_get C (ci := 3) (T := TX3) (N := 7) (Cn := RX3) (ref := "RainAccount$Land") hiX7_ofCloud_X3 7 rfl rfl 4 (by decide) (List.mem_of_getElem? (i := 3) rfl) rfl (v := .int wind) rfl dX7_ofCloud_45 ?_
          refine ky_iload_n C 2 dX7_ofCloud_48 rfl rfl ?_
          refine ky_callV0 C 3 (kX6_placeOf l D cI cS ad nc cat j wind y (by first | assumption | omega)) gX7_ofCloud_X6_placeOf rfl rfl rfl hdX6_placeOf 8 6 rfl rfl rfl ⟨Nat.le_of_ble_eq_true rfl, Nat.le_of_ble_eq_true rfl⟩ rfl rfl (Nat.le_of_ble_eq_true rfl) dX7_ofCloud_49 [8, 9] rfl rfl ?_
          rintro _ _ ⟨rfl, rfl⟩
          refine ky_ws (ws' := [(ad 0, .inr (7, [.ref (ad 1), .ref (ad 10), .ref (ad 14), .ref (ad 18), .ref (ad 23), .ref (ad 29), .ref (ad 32), .int left, .int lastF])), (ad 23, .inr (1, [.ref (ad 24), .ref (ad 25), .ref (ad 26), .ref (ad 27), .ref (ad 28), .ref (ad 10), .ref (ad 14), .ref (ad 18)])), (ad 24, .inl (cI, 6, .inl lf)), (ad 25, .inl (cI, 8, .inl gt)), (ad 26, .inl (cI, 8, .inl hl)), (ad 27, .inl (cI, 10, .inl am)), (ad 28, .inl (cI, 10, .inl so)), (ad 10, .inr (3, [.ref (ad 11), .ref (ad 12), .ref (ad 13), .int (nI N), .int wind, .int low, .int forb])), (ad 14, .inr (6, [.ref (ad 15), .ref (ad 16), .ref (ad 17), .int (nI nc)])), (ad 15, .inl (cI, 6, .inl cat)), (ad 16, .inl (cI, 6, .inl cwet)), (ad 17, .inl (cI, 6, .inl chigh)), (ad 18, .inr (5, [.ref (ad 19), .ref (ad 20), .ref (ad 21), .ref (ad 22), .int (nI ns)])), (ad 19, .inl (cI, 10, .inl kd)), (ad 20, .inl (cI, 10, .inl fr)), (ad 21, .inl (cI, 10, .inl hor)), (ad 22, .inl (cI, 10, .inl pw))]) (st' := [.int (cat j + wind * y)]) rfl rfl ?_
          refine ky_bipush C dX7_ofCloud_52 (v := 100) (by decide) ?_
          refine ky_iadd C (v := (cat j + wind * y) + 100) dX7_ofCloud_54 rfl ?_
          exact ky_iret C hr hlk ⟨((cat j + wind * y) + 100), lf, gt, hl, am, so, rfl, rfl, (by simp only [kF_ofCloud, if_pos c_8, if_pos c_17, if_pos c_26, if_pos c_33, hcj])⟩ (Nat.le_of_ble_eq_true rfl) dX7_ofCloud_55
      · have c_26 : ¬ (0 ≤ z ∧ z ≤ 2) := kb0 c_26
        refine ky_bipush C dX7_ofCloud_29 (v := (-2)) (by decide) ?_
        exact ky_iret C hr hlk ⟨(-2), lf, gt, hl, am, so, rfl, rfl, (by simp only [kF_ofCloud, if_pos c_8, if_pos c_17, if_neg c_26])⟩ (Nat.le_of_ble_eq_true rfl) dX7_ofCloud_31
  · have c_8 : ¬ (0 ≤ x ∧ x < nI nc) := kb0 c_8
    refine ky_iconst C dX7_ofCloud_11 (v := (-1)) (by decide) ?_
    exact ky_iret C hr hlk ⟨(-1), lf, gt, hl, am, so, rfl, rfl, (by simp only [kF_ofCloud, if_neg c_8])⟩ (Nat.le_of_ble_eq_true rfl) dX7_ofCloud_12
theorem hiX7_shot_X5 : ∀ w ∈ wsX50, w ∈ wsX7_shot := fun _ h => (List.mem_cons_of_mem _ (List.mem_append_left _ (List.mem_append_right _ h)))
theorem hiX7_shot_X7 : ∀ w ∈ wsX70, w ∈ wsX7_shot := fun _ h => (List.mem_cons_of_mem _ (List.mem_append_left _ (List.mem_append_left _ (List.mem_append_right _ h))))
theorem hdX7_shot : yX7_shot.cls = RX7 ∧ yX7_shot.cls ≠ "java/lang/invoke/MethodHandle" ∧ yX7_shot.cls ≠ "java/lang/invoke/VarHandle" ∧ (parseMethodDescriptor yX7_shot.desc).map (fun d => d.parameters.length) = some 4 := by decide +kernel
set_option maxRecDepth 100000 in
set_option maxHeartbeats 4000000 in
/-- X7_shot -/
theorem kX7_shot (l : Launch) (D : va_G) (cI cS : ClassId) (ad : Nat → Nat) (left : Int32) (lastF : Int32) (N : Nat) (wind : Int32) (low : Int32) (forb : Int32) (ns : Nat) (kd : Nat → Int32) (fr : Nat → Int32) (hor : Nat → Int32) (pw : Nat → Int32) (x : Int32) (y : Int32) (z : Int32) (u : Int32) (hN : N ≤ 8) (hns : ns ≤ 8) : kyM l yX7_shot wsX7_shot ({ frames := 2, cells := 0, slots := 0, locals := 42 }) D cI cS [.ref (ad 0), .int x, .int y, .int z, .int u] [(ad 0, .inr (7, [.ref (ad 1), .ref (ad 10), .ref (ad 14), .ref (ad 18), .ref (ad 23), .ref (ad 29), .ref (ad 32), .int left, .int lastF])), (ad 10, .inr (3, [.ref (ad 11), .ref (ad 12), .ref (ad 13), .int (nI N), .int wind, .int low, .int forb])), (ad 18, .inr (5, [.ref (ad 19), .ref (ad 20), .ref (ad 21), .ref (ad 22), .int (nI ns)])), (ad 19, .inl (cI, 10, .inl kd)), (ad 20, .inl (cI, 10, .inl fr)), (ad 21, .inl (cI, 10, .inl hor)), (ad 22, .inl (cI, 10, .inl pw))] 0 0 (fun vR wR => ∃ r2 : Int32, ∃ ns2 : Nat, ∃ kd2 : Nat → Int32, ∃ fr2 : Nat → Int32, ∃ hor2 : Nat → Int32, ∃ pw2 : Nat → Int32, vR = some (.int r2) ∧ wR = [(ad 0, .inr (7, [.ref (ad 1), .ref (ad 10), .ref (ad 14), .ref (ad 18), .ref (ad 23), .ref (ad 29), .ref (ad 32), .int left, .int lastF])), (ad 10, .inr (3, [.ref (ad 11), .ref (ad 12), .ref (ad 13), .int (nI N), .int wind, .int low, .int forb])), (ad 18, .inr (5, [.ref (ad 19), .ref (ad 20), .ref (ad 21), .ref (ad 22), .int (nI ns2)])), (ad 19, .inl (cI, 10, .inl kd2)), (ad 20, .inl (cI, 10, .inl fr2)), (ad 21, .inl (cI, 10, .inl hor2)), (ad 22, .inl (cI, 10, .inl pw2))] ∧ ((r2, ns2, kd2, fr2, hor2, pw2) = kF_shot N ns kd fr hor pw x y z u)) := by
  refine ky_start (own := RX7) (cc := cX7_shot) (nL := 6) (ret := (some .int)) (by decide) rfl rfl (Nat.le_of_ble_eq_true rfl) ?_
  intro p e s m args below meth c C hr hlk hnm
  refine ky_conv (lv' := [(0, .ref (ad 0)), (1, .int x), (2, .int y), (3, .int z), (4, .int u)]) (List.range 5) rfl rfl rfl ?_
  refine ky_aload_n C 0 dX7_shot_0 rfl rfl ?_
  refine ky_get C (ci := 7) (T := TX7) (N := 9) (Cn := RX7) (ref := "RainAccount") hiX7_shot_X7 0 rfl rfl 1 (by decide) (List.mem_of_getElem? (i := 1) rfl) rfl (v := .ref (ad 10)) rfl dX7_shot_1 ?_
  refine ky_iload_n C 2 dX7_shot_4 rfl rfl ?_
  refine ky_callV0 C 1 (kX3_isField l D cI cS ad N wind low forb y) gX7_shot_X3_isField rfl rfl rfl hdX3_isField 1 3 rfl rfl rfl ⟨Nat.le_of_ble_eq_true rfl, Nat.le_of_ble_eq_true rfl⟩ rfl rfl (Nat.le_of_ble_eq_true rfl) dX7_shot_5 [1] rfl rfl ?_
  rintro _ _ ⟨rfl, rfl⟩
  refine ky_ws (ws' := [(ad 0, .inr (7, [.ref (ad 1), .ref (ad 10), .ref (ad 14), .ref (ad 18), .ref (ad 23), .ref (ad 29), .ref (ad 32), .int left, .int lastF])), (ad 10, .inr (3, [.ref (ad 11), .ref (ad 12), .ref (ad 13), .int (nI N), .int wind, .int low, .int forb])), (ad 18, .inr (5, [.ref (ad 19), .ref (ad 20), .ref (ad 21), .ref (ad 22), .int (nI ns)])), (ad 19, .inl (cI, 10, .inl kd)), (ad 20, .inl (cI, 10, .inl fr)), (ad 21, .inl (cI, 10, .inl hor)), (ad 22, .inl (cI, 10, .inl pw))]) (st' := [.int (if 0 ≤ y ∧ y < nI N then (1 : Int32) else 0)]) rfl rfl ?_
  refine ky_if_ne C 13 dX7_shot_8 (by decide) (fun c_8 => ?_) (fun c_8 => ?_)
  · have c_8 : 0 ≤ y ∧ y < nI N := kb1 c_8
    refine ky_iload_n C 1 dX7_shot_13 rfl rfl ?_
    refine ky_callS0 C 1 (kX7_isKind l D cI cS x) gX7_shot_X7_isKind rfl rfl rfl hdX7_isKind.2 ⟨Nat.le_of_ble_eq_true rfl, Nat.le_of_ble_eq_true rfl⟩ rfl rfl (Nat.le_of_ble_eq_true rfl) dX7_shot_14 [] rfl rfl ?_
    rintro _ _ ⟨rfl, rfl⟩
    refine ky_ws (ws' := [(ad 0, .inr (7, [.ref (ad 1), .ref (ad 10), .ref (ad 14), .ref (ad 18), .ref (ad 23), .ref (ad 29), .ref (ad 32), .int left, .int lastF])), (ad 10, .inr (3, [.ref (ad 11), .ref (ad 12), .ref (ad 13), .int (nI N), .int wind, .int low, .int forb])), (ad 18, .inr (5, [.ref (ad 19), .ref (ad 20), .ref (ad 21), .ref (ad 22), .int (nI ns)])), (ad 19, .inl (cI, 10, .inl kd)), (ad 20, .inl (cI, 10, .inl fr)), (ad 21, .inl (cI, 10, .inl hor)), (ad 22, .inl (cI, 10, .inl pw))]) (st' := [.int (if 0 ≤ x ∧ x ≤ 2 then (1 : Int32) else 0)]) rfl rfl ?_
    refine ky_if_eq C 35 dX7_shot_17 (by decide) (fun c_17 => ?_) (fun c_17 => ?_)
    · have c_17 : ¬ (0 ≤ x ∧ x ≤ 2) := kb0 c_17
      refine ky_bipush C dX7_shot_35 (v := (-2)) (by decide) ?_
      exact ky_iret C hr hlk ⟨(-2), ns, kd, fr, hor, pw, rfl, rfl, (by simp only [kF_shot, if_pos c_8, if_neg c_17])⟩ (Nat.le_of_ble_eq_true rfl) dX7_shot_37
    · have c_17 : 0 ≤ x ∧ x ≤ 2 := kb1 c_17
      refine ky_iload_n C 3 dX7_shot_20 rfl rfl ?_
      refine ky_callS0 C 1 (kX7_isHour l D cI cS z) gX7_shot_X7_isHour rfl rfl rfl hdX7_isHour.2 ⟨Nat.le_of_ble_eq_true rfl, Nat.le_of_ble_eq_true rfl⟩ rfl rfl (Nat.le_of_ble_eq_true rfl) dX7_shot_21 [] rfl rfl ?_
      rintro _ _ ⟨rfl, rfl⟩
      refine ky_ws (ws' := [(ad 0, .inr (7, [.ref (ad 1), .ref (ad 10), .ref (ad 14), .ref (ad 18), .ref (ad 23), .ref (ad 29), .ref (ad 32), .int left, .int lastF])), (ad 10, .inr (3, [.ref (ad 11), .ref (ad 12), .ref (ad 13), .int (nI N), .int wind, .int low, .int forb])), (ad 18, .inr (5, [.ref (ad 19), .ref (ad 20), .ref (ad 21), .ref (ad 22), .int (nI ns)])), (ad 19, .inl (cI, 10, .inl kd)), (ad 20, .inl (cI, 10, .inl fr)), (ad 21, .inl (cI, 10, .inl hor)), (ad 22, .inl (cI, 10, .inl pw))]) (st' := [.int (if 0 ≤ z ∧ z ≤ 11 then (1 : Int32) else 0)]) rfl rfl ?_
      refine ky_if_eq C 35 dX7_shot_24 (by decide) (fun c_24 => ?_) (fun c_24 => ?_)
      · have c_24 : ¬ (0 ≤ z ∧ z ≤ 11) := kb0 c_24
        refine ky_bipush C dX7_shot_35 (v := (-2)) (by decide) ?_
        exact ky_iret C hr hlk ⟨(-2), ns, kd, fr, hor, pw, rfl, rfl, (by simp only [kF_shot, if_pos c_8, if_pos c_17, if_neg c_24])⟩ (Nat.le_of_ble_eq_true rfl) dX7_shot_37
      · have c_24 : 0 ≤ z ∧ z ≤ 11 := kb1 c_24
        refine ky_iload C 4 dX7_shot_27 rfl ?_
        refine ky_callS0 C 1 (kX7_isPowder l D cI cS u) gX7_shot_X7_isPowder rfl rfl rfl hdX7_isPowder.2 ⟨Nat.le_of_ble_eq_true rfl, Nat.le_of_ble_eq_true rfl⟩ rfl rfl (Nat.le_of_ble_eq_true rfl) dX7_shot_29 [] rfl rfl ?_
        rintro _ _ ⟨rfl, rfl⟩
        refine ky_ws (ws' := [(ad 0, .inr (7, [.ref (ad 1), .ref (ad 10), .ref (ad 14), .ref (ad 18), .ref (ad 23), .ref (ad 29), .ref (ad 32), .int left, .int lastF])), (ad 10, .inr (3, [.ref (ad 11), .ref (ad 12), .ref (ad 13), .int (nI N), .int wind, .int low, .int forb])), (ad 18, .inr (5, [.ref (ad 19), .ref (ad 20), .ref (ad 21), .ref (ad 22), .int (nI ns)])), (ad 19, .inl (cI, 10, .inl kd)), (ad 20, .inl (cI, 10, .inl fr)), (ad 21, .inl (cI, 10, .inl hor)), (ad 22, .inl (cI, 10, .inl pw))]) (st' := [.int (if 1 ≤ u ∧ u ≤ 9 then (1 : Int32) else 0)]) rfl rfl ?_
        refine ky_if_ne C 38 dX7_shot_32 (by decide) (fun c_32 => ?_) (fun c_32 => ?_)
        · have c_32 : 1 ≤ u ∧ u ≤ 9 := kb1 c_32
          refine ky_aload_n C 0 dX7_shot_38 rfl rfl ?_
          refine ky_get C (ci := 7) (T := TX7) (N := 9) (Cn := RX7) (ref := "RainAccount") hiX7_shot_X7 0 rfl rfl 3 (by decide) (List.mem_of_getElem? (i := 2) rfl) rfl (v := .ref (ad 18)) rfl dX7_shot_39 ?_
          refine ky_get C (ci := 5) (T := TX5) (N := 5) (Cn := RX5) (ref := "RainAccount$Shots") hiX7_shot_X5 2 rfl rfl 4 (by decide) (List.mem_of_getElem? (i := 3) rfl) rfl (v := .int (nI ns)) rfl dX7_shot_42 ?_
          refine ky_bipush C dX7_shot_45 (v := 8) (by decide) ?_
          refine ky_icmp_lt C 53 dX7_shot_47 (by decide) (fun c_47 => ?_) (fun c_47 => ?_)
          · have d_47 := Int32.not_le.mpr c_47
            have n_47 := kn_lt (a := ns) (b := 8) (by omega) (by omega) c_47
            have m_47 := Nat.not_le.mpr n_47
            refine ky_aload_n C 0 dX7_shot_53 rfl rfl ?_
            refine ky_get C (ci := 7) (T := TX7) (N := 9) (Cn := RX7) (ref := "RainAccount") hiX7_shot_X7 0 rfl rfl 3 (by decide) (List.mem_of_getElem? (i := 2) rfl) rfl (v := .ref (ad 18)) rfl dX7_shot_54 ?_
            refine ky_get C (ci := 5) (T := TX5) (N := 5) (Cn := RX5) (ref := "RainAccount$Shots") hiX7_shot_X5 2 rfl rfl 4 (by decide) (List.mem_of_getElem? (i := 3) rfl) rfl (v := .int (nI ns)) rfl dX7_shot_57 ?_
            refine ky_istore C (lv' := [(5, .int (nI ns)), (0, .ref (ad 0)), (1, .int x), (2, .int y), (3, .int z), (4, .int u)]) dX7_shot_60 (by decide) rfl ?_
            refine ky_aload_n C 1 dX7_shot_62 rfl rfl ?_
            refine ky_get C (ci := 7) (T := TX7) (N := 9) (Cn := RX7) (ref := "RainAccount") hiX7_shot_X7 0 rfl rfl 3 (by decide) (List.mem_of_getElem? (i := 2) rfl) rfl (v := .ref (ad 18)) rfl dX7_shot_63 ?_
            refine ky_iload C 0 dX7_shot_66 rfl ?_
            refine ky_iload_n C 2 dX7_shot_68 rfl rfl ?_
            refine ky_iload_n C 3 dX7_shot_69 rfl rfl ?_
            refine ky_iload_n C 4 dX7_shot_70 rfl rfl ?_
            refine ky_iload C 5 dX7_shot_71 rfl ?_
            refine ky_callV0 C 5 (kX5_write l D cI cS ad ns kd fr hor pw ns x y z u (by first | assumption | omega)) gX7_shot_X5_write rfl rfl rfl hdX5_write 2 5 rfl rfl rfl ⟨Nat.le_of_ble_eq_true rfl, Nat.le_of_ble_eq_true rfl⟩ rfl rfl (Nat.le_of_ble_eq_true rfl) dX7_shot_73 [2, 3, 4, 5, 6] rfl rfl ?_
            rintro _ _ ⟨rfl, rfl⟩
            refine ky_ws (ws' := [(ad 0, .inr (7, [.ref (ad 1), .ref (ad 10), .ref (ad 14), .ref (ad 18), .ref (ad 23), .ref (ad 29), .ref (ad 32), .int left, .int lastF])), (ad 10, .inr (3, [.ref (ad 11), .ref (ad 12), .ref (ad 13), .int (nI N), .int wind, .int low, .int forb])), (ad 18, .inr (5, [.ref (ad 19), .ref (ad 20), .ref (ad 21), .ref (ad 22), .int (nI ns)])), (ad 19, .inl (cI, 10, .inl (upd kd ns x))), (ad 20, .inl (cI, 10, .inl (upd fr ns y))), (ad 21, .inl (cI, 10, .inl (upd hor ns z))), (ad 22, .inl (cI, 10, .inl (upd pw ns u)))]) (st' := []) rfl rfl ?_
            refine ky_aload_n C 1 dX7_shot_76 rfl rfl ?_
            refine ky_get C (ci := 7) (T := TX7) (N := 9) (Cn := RX7) (ref := "RainAccount") hiX7_shot_X7 0 rfl rfl 3 (by decide) (List.mem_of_getElem? (i := 2) rfl) rfl (v := .ref (ad 18)) rfl dX7_shot_77 ?_
            refine ky_iload C 0 dX7_shot_80 rfl ?_
            refine ky_iconst C dX7_shot_82 (v := 1) (by decide) ?_
            refine ky_iadd C (v := nI (ns + 1)) dX7_shot_83 (nI_add ns 1) ?_
            refine ky_put C (ci := 5) (T := TX5) (N := 5) (Cn := RX5) (ref := "RainAccount$Shots") hiX7_shot_X5 tyX5 tyX5_ok nmX5 2 rfl rfl 4 (by decide) (List.mem_of_getElem? (i := 3) rfl) rfl rfl rfl rfl (Nat.le_of_ble_eq_true rfl) dX7_shot_84 (ws' := [(ad 0, .inr (7, [.ref (ad 1), .ref (ad 10), .ref (ad 14), .ref (ad 18), .ref (ad 23), .ref (ad 29), .ref (ad 32), .int left, .int lastF])), (ad 10, .inr (3, [.ref (ad 11), .ref (ad 12), .ref (ad 13), .int (nI N), .int wind, .int low, .int forb])), (ad 18, .inr (5, [.ref (ad 19), .ref (ad 20), .ref (ad 21), .ref (ad 22), .int (nI (ns + 1))])), (ad 19, .inl (cI, 10, .inl (upd kd ns x))), (ad 20, .inl (cI, 10, .inl (upd fr ns y))), (ad 21, .inl (cI, 10, .inl (upd hor ns z))), (ad 22, .inl (cI, 10, .inl (upd pw ns u)))]) rfl ?_
            refine ky_iload C 0 dX7_shot_87 rfl ?_
            exact ky_iret C hr hlk ⟨(nI ns), (ns + 1), (upd kd ns x), (upd fr ns y), (upd hor ns z), (upd pw ns u), rfl, rfl, (by simp only [kF_shot, if_pos c_8, if_pos c_17, if_pos c_24, if_pos c_32, if_pos c_47, if_neg d_47, if_pos n_47, if_neg m_47])⟩ (Nat.le_of_ble_eq_true rfl) dX7_shot_89
          · have d_47 := Int32.not_lt.mp c_47
            have n_47 := kn_nlt (a := ns) (b := 8) (by omega) (by omega) c_47
            have m_47 := Nat.not_lt.mpr n_47
            refine ky_bipush C dX7_shot_50 (v := (-4)) (by decide) ?_
            exact ky_iret C hr hlk ⟨(-4), ns, kd, fr, hor, pw, rfl, rfl, (by simp only [kF_shot, if_pos c_8, if_pos c_17, if_pos c_24, if_pos c_32, if_neg c_47, if_pos d_47, if_pos n_47, if_neg m_47])⟩ (Nat.le_of_ble_eq_true rfl) dX7_shot_52
        · have c_32 : ¬ (1 ≤ u ∧ u ≤ 9) := kb0 c_32
          refine ky_bipush C dX7_shot_35 (v := (-2)) (by decide) ?_
          exact ky_iret C hr hlk ⟨(-2), ns, kd, fr, hor, pw, rfl, rfl, (by simp only [kF_shot, if_pos c_8, if_pos c_17, if_pos c_24, if_neg c_32])⟩ (Nat.le_of_ble_eq_true rfl) dX7_shot_37
  · have c_8 : ¬ (0 ≤ y ∧ y < nI N) := kb0 c_8
    refine ky_iconst C dX7_shot_11 (v := (-1)) (by decide) ?_
    exact ky_iret C hr hlk ⟨(-1), ns, kd, fr, hor, pw, rfl, rfl, (by simp only [kF_shot, if_neg c_8])⟩ (Nat.le_of_ble_eq_true rfl) dX7_shot_12
theorem hiX7_fell_X1 : ∀ w ∈ wsX10, w ∈ wsX7_fell := fun _ h => (List.mem_cons_of_mem _ (List.mem_append_left _ (List.mem_append_left _ (List.mem_append_left _ (List.mem_append_right _ h)))))
theorem hiX7_fell_X7 : ∀ w ∈ wsX70, w ∈ wsX7_fell := fun _ h => (List.mem_cons_of_mem _ (List.mem_append_left _ (List.mem_append_left _ (List.mem_append_left _ (List.mem_append_left _ (List.mem_append_right _ h))))))
theorem hdX7_fell : yX7_fell.cls = RX7 ∧ yX7_fell.cls ≠ "java/lang/invoke/MethodHandle" ∧ yX7_fell.cls ≠ "java/lang/invoke/VarHandle" ∧ (parseMethodDescriptor yX7_fell.desc).map (fun d => d.parameters.length) = some 3 := by decide +kernel
set_option maxRecDepth 100000 in
set_option maxHeartbeats 4000000 in
/-- X7_fell -/
theorem kX7_fell (l : Launch) (D : va_G) (cI cS : ClassId) (ad : Nat → Nat) (left : Int32) (lastF : Int32) (lf : Nat → Int32) (gt : Nat → Int32) (hl : Nat → Int32) (am : Nat → Int32) (so : Nat → Int32) (N : Nat) (wind : Int32) (low : Int32) (forb : Int32) (nc : Nat) (cat : Nat → Int32) (cwet : Nat → Int32) (chigh : Nat → Int32) (ns : Nat) (kd : Nat → Int32) (fr : Nat → Int32) (hor : Nat → Int32) (pw : Nat → Int32) (x : Int32) (y : Int32) (z : Int32) (hN : N ≤ 8) (hnc : nc ≤ 6) (hns : ns ≤ 8) (hwf : ∀ s, s < ns → 0 ≤ fr s ∧ fr s < nI N) : kyM l yX7_fell wsX7_fell ({ frames := 5, cells := 0, slots := 0, locals := 125 }) D cI cS [.ref (ad 0), .int x, .int y, .int z] [(ad 0, .inr (7, [.ref (ad 1), .ref (ad 10), .ref (ad 14), .ref (ad 18), .ref (ad 23), .ref (ad 29), .ref (ad 32), .int left, .int lastF])), (ad 23, .inr (1, [.ref (ad 24), .ref (ad 25), .ref (ad 26), .ref (ad 27), .ref (ad 28), .ref (ad 10), .ref (ad 14), .ref (ad 18)])), (ad 24, .inl (cI, 6, .inl lf)), (ad 25, .inl (cI, 8, .inl gt)), (ad 26, .inl (cI, 8, .inl hl)), (ad 27, .inl (cI, 10, .inl am)), (ad 28, .inl (cI, 10, .inl so)), (ad 10, .inr (3, [.ref (ad 11), .ref (ad 12), .ref (ad 13), .int (nI N), .int wind, .int low, .int forb])), (ad 14, .inr (6, [.ref (ad 15), .ref (ad 16), .ref (ad 17), .int (nI nc)])), (ad 15, .inl (cI, 6, .inl cat)), (ad 16, .inl (cI, 6, .inl cwet)), (ad 17, .inl (cI, 6, .inl chigh)), (ad 18, .inr (5, [.ref (ad 19), .ref (ad 20), .ref (ad 21), .ref (ad 22), .int (nI ns)])), (ad 19, .inl (cI, 10, .inl kd)), (ad 20, .inl (cI, 10, .inl fr)), (ad 21, .inl (cI, 10, .inl hor)), (ad 22, .inl (cI, 10, .inl pw))] 0 0 (fun vR wR => ∃ r2 : Int32, ∃ lf2 : Nat → Int32, ∃ gt2 : Nat → Int32, ∃ hl2 : Nat → Int32, ∃ am2 : Nat → Int32, ∃ so2 : Nat → Int32, vR = some (.int r2) ∧ wR = [(ad 0, .inr (7, [.ref (ad 1), .ref (ad 10), .ref (ad 14), .ref (ad 18), .ref (ad 23), .ref (ad 29), .ref (ad 32), .int left, .int lastF])), (ad 23, .inr (1, [.ref (ad 24), .ref (ad 25), .ref (ad 26), .ref (ad 27), .ref (ad 28), .ref (ad 10), .ref (ad 14), .ref (ad 18)])), (ad 24, .inl (cI, 6, .inl lf2)), (ad 25, .inl (cI, 8, .inl gt2)), (ad 26, .inl (cI, 8, .inl hl2)), (ad 27, .inl (cI, 10, .inl am2)), (ad 28, .inl (cI, 10, .inl so2)), (ad 10, .inr (3, [.ref (ad 11), .ref (ad 12), .ref (ad 13), .int (nI N), .int wind, .int low, .int forb])), (ad 14, .inr (6, [.ref (ad 15), .ref (ad 16), .ref (ad 17), .int (nI nc)])), (ad 15, .inl (cI, 6, .inl cat)), (ad 16, .inl (cI, 6, .inl cwet)), (ad 17, .inl (cI, 6, .inl chigh)), (ad 18, .inr (5, [.ref (ad 19), .ref (ad 20), .ref (ad 21), .ref (ad 22), .int (nI ns)])), (ad 19, .inl (cI, 10, .inl kd)), (ad 20, .inl (cI, 10, .inl fr)), (ad 21, .inl (cI, 10, .inl hor)), (ad 22, .inl (cI, 10, .inl pw))] ∧ (r2 = kF_fell (N, nc, low, cat, cwet, chigh, kd, fr, hor, pw) wind ns x y z)) := by
  refine ky_start (own := RX7) (cc := cX7_fell) (nL := 4) (ret := (some .int)) (by decide) rfl rfl (Nat.le_of_ble_eq_true rfl) ?_
  intro p e s m args below meth c C hr hlk hnm
  refine ky_conv (lv' := [(0, .ref (ad 0)), (1, .int x), (2, .int y), (3, .int z)]) (List.range 4) rfl rfl rfl ?_
  refine ky_aload_n C 0 dX7_fell_0 rfl rfl ?_
  refine ky_get C (ci := 7) (T := TX7) (N := 9) (Cn := RX7) (ref := "RainAccount") hiX7_fell_X7 0 rfl rfl 1 (by decide) (List.mem_of_getElem? (i := 1) rfl) rfl (v := .ref (ad 10)) rfl dX7_fell_1 ?_
  refine ky_iload_n C 1 dX7_fell_4 rfl rfl ?_
  refine ky_callV0 C 1 (kX3_isField l D cI cS ad N wind low forb x) gX7_fell_X3_isField rfl rfl rfl hdX3_isField 7 3 rfl rfl rfl ⟨Nat.le_of_ble_eq_true rfl, Nat.le_of_ble_eq_true rfl⟩ rfl rfl (Nat.le_of_ble_eq_true rfl) dX7_fell_5 [7] rfl rfl ?_
  rintro _ _ ⟨rfl, rfl⟩
  refine ky_ws (ws' := [(ad 0, .inr (7, [.ref (ad 1), .ref (ad 10), .ref (ad 14), .ref (ad 18), .ref (ad 23), .ref (ad 29), .ref (ad 32), .int left, .int lastF])), (ad 23, .inr (1, [.ref (ad 24), .ref (ad 25), .ref (ad 26), .ref (ad 27), .ref (ad 28), .ref (ad 10), .ref (ad 14), .ref (ad 18)])), (ad 24, .inl (cI, 6, .inl lf)), (ad 25, .inl (cI, 8, .inl gt)), (ad 26, .inl (cI, 8, .inl hl)), (ad 27, .inl (cI, 10, .inl am)), (ad 28, .inl (cI, 10, .inl so)), (ad 10, .inr (3, [.ref (ad 11), .ref (ad 12), .ref (ad 13), .int (nI N), .int wind, .int low, .int forb])), (ad 14, .inr (6, [.ref (ad 15), .ref (ad 16), .ref (ad 17), .int (nI nc)])), (ad 15, .inl (cI, 6, .inl cat)), (ad 16, .inl (cI, 6, .inl cwet)), (ad 17, .inl (cI, 6, .inl chigh)), (ad 18, .inr (5, [.ref (ad 19), .ref (ad 20), .ref (ad 21), .ref (ad 22), .int (nI ns)])), (ad 19, .inl (cI, 10, .inl kd)), (ad 20, .inl (cI, 10, .inl fr)), (ad 21, .inl (cI, 10, .inl hor)), (ad 22, .inl (cI, 10, .inl pw))]) (st' := [.int (if 0 ≤ x ∧ x < nI N then (1 : Int32) else 0)]) rfl rfl ?_
  refine ky_if_ne C 13 dX7_fell_8 (by decide) (fun c_8 => ?_) (fun c_8 => ?_)
  · have c_8 : 0 ≤ x ∧ x < nI N := kb1 c_8
    refine ky_iload_n C 2 dX7_fell_13 rfl rfl ?_
    refine ky_callS0 C 1 (kX7_isHour l D cI cS y) gX7_fell_X7_isHour rfl rfl rfl hdX7_isHour.2 ⟨Nat.le_of_ble_eq_true rfl, Nat.le_of_ble_eq_true rfl⟩ rfl rfl (Nat.le_of_ble_eq_true rfl) dX7_fell_14 [] rfl rfl ?_
    rintro _ _ ⟨rfl, rfl⟩
    refine ky_ws (ws' := [(ad 0, .inr (7, [.ref (ad 1), .ref (ad 10), .ref (ad 14), .ref (ad 18), .ref (ad 23), .ref (ad 29), .ref (ad 32), .int left, .int lastF])), (ad 23, .inr (1, [.ref (ad 24), .ref (ad 25), .ref (ad 26), .ref (ad 27), .ref (ad 28), .ref (ad 10), .ref (ad 14), .ref (ad 18)])), (ad 24, .inl (cI, 6, .inl lf)), (ad 25, .inl (cI, 8, .inl gt)), (ad 26, .inl (cI, 8, .inl hl)), (ad 27, .inl (cI, 10, .inl am)), (ad 28, .inl (cI, 10, .inl so)), (ad 10, .inr (3, [.ref (ad 11), .ref (ad 12), .ref (ad 13), .int (nI N), .int wind, .int low, .int forb])), (ad 14, .inr (6, [.ref (ad 15), .ref (ad 16), .ref (ad 17), .int (nI nc)])), (ad 15, .inl (cI, 6, .inl cat)), (ad 16, .inl (cI, 6, .inl cwet)), (ad 17, .inl (cI, 6, .inl chigh)), (ad 18, .inr (5, [.ref (ad 19), .ref (ad 20), .ref (ad 21), .ref (ad 22), .int (nI ns)])), (ad 19, .inl (cI, 10, .inl kd)), (ad 20, .inl (cI, 10, .inl fr)), (ad 21, .inl (cI, 10, .inl hor)), (ad 22, .inl (cI, 10, .inl pw))]) (st' := [.int (if 0 ≤ y ∧ y ≤ 11 then (1 : Int32) else 0)]) rfl rfl ?_
    refine ky_if_eq C 29 dX7_fell_17 (by decide) (fun c_17 => ?_) (fun c_17 => ?_)
    · have c_17 : ¬ (0 ≤ y ∧ y ≤ 11) := kb0 c_17
      refine ky_bipush C dX7_fell_29 (v := (-2)) (by decide) ?_
      exact ky_iret C hr hlk ⟨(-2), lf, gt, hl, am, so, rfl, rfl, (by simp only [kF_fell, if_pos c_8, if_neg c_17])⟩ (Nat.le_of_ble_eq_true rfl) dX7_fell_31
    · have c_17 : 0 ≤ y ∧ y ≤ 11 := kb1 c_17
      refine ky_iload_n C 3 dX7_fell_20 rfl rfl ?_
      refine ky_iconst C dX7_fell_21 (v := 0) (by decide) ?_
      refine ky_iconst C dX7_fell_22 (v := 1) (by decide) ?_
      refine ky_callS0 C 3 (kX7_isWithin l D cI cS z 0 1) gX7_fell_X7_isWithin rfl rfl rfl hdX7_isWithin.2 ⟨Nat.le_of_ble_eq_true rfl, Nat.le_of_ble_eq_true rfl⟩ rfl rfl (Nat.le_of_ble_eq_true rfl) dX7_fell_23 [] rfl rfl ?_
      rintro _ _ ⟨rfl, rfl⟩
      refine ky_ws (ws' := [(ad 0, .inr (7, [.ref (ad 1), .ref (ad 10), .ref (ad 14), .ref (ad 18), .ref (ad 23), .ref (ad 29), .ref (ad 32), .int left, .int lastF])), (ad 23, .inr (1, [.ref (ad 24), .ref (ad 25), .ref (ad 26), .ref (ad 27), .ref (ad 28), .ref (ad 10), .ref (ad 14), .ref (ad 18)])), (ad 24, .inl (cI, 6, .inl lf)), (ad 25, .inl (cI, 8, .inl gt)), (ad 26, .inl (cI, 8, .inl hl)), (ad 27, .inl (cI, 10, .inl am)), (ad 28, .inl (cI, 10, .inl so)), (ad 10, .inr (3, [.ref (ad 11), .ref (ad 12), .ref (ad 13), .int (nI N), .int wind, .int low, .int forb])), (ad 14, .inr (6, [.ref (ad 15), .ref (ad 16), .ref (ad 17), .int (nI nc)])), (ad 15, .inl (cI, 6, .inl cat)), (ad 16, .inl (cI, 6, .inl cwet)), (ad 17, .inl (cI, 6, .inl chigh)), (ad 18, .inr (5, [.ref (ad 19), .ref (ad 20), .ref (ad 21), .ref (ad 22), .int (nI ns)])), (ad 19, .inl (cI, 10, .inl kd)), (ad 20, .inl (cI, 10, .inl fr)), (ad 21, .inl (cI, 10, .inl hor)), (ad 22, .inl (cI, 10, .inl pw))]) (st' := [.int (if 0 ≤ z ∧ z ≤ 1 then (1 : Int32) else 0)]) rfl rfl ?_
      refine ky_if_ne C 32 dX7_fell_26 (by decide) (fun c_26 => ?_) (fun c_26 => ?_)
      · have c_26 : 0 ≤ z ∧ z ≤ 1 := kb1 c_26
        obtain ⟨j, hj, rfl⟩ := kix (n := N) c_8 (by omega)
        have hcj : (nI j).toNatClampNeg = j := nI_clamp (by omega)
        obtain ⟨t, ht, rfl⟩ := kixle (n := 11) c_17 (by omega)
        have hct : (nI t).toNatClampNeg = t := nI_clamp (by omega)
        refine ky_aload_n C 0 dX7_fell_32 rfl rfl ?_
        refine ky_get C (ci := 7) (T := TX7) (N := 9) (Cn := RX7) (ref := "RainAccount") hiX7_fell_X7 0 rfl rfl 4 (by decide) (List.mem_of_getElem? (i := 2) rfl) rfl (v := .ref (ad 23)) rfl dX7_fell_33 ?_
        refine ky_iload_n C 2 dX7_fell_36 rfl rfl ?_
        refine ky_iconst C dX7_fell_37 (v := 1) (by decide) ?_
        refine ky_iadd C (v := nI (t + 1)) dX7_fell_38 (nI_add t 1) ?_
        refine ky_callV0 C 1 (kX1_runUpTo l D cI cS ad lf gt hl am so N wind low forb nc cat cwet chigh ns kd fr hor pw (t + 1) (by first | assumption | omega) (by first | assumption | omega) (by first | assumption | omega) (by first | assumption | omega) (by first | assumption | omega)) gX7_fell_X1_runUpTo rfl rfl rfl hdX1_runUpTo 1 1 rfl rfl rfl ⟨Nat.le_of_ble_eq_true rfl, Nat.le_of_ble_eq_true rfl⟩ rfl rfl (Nat.le_of_ble_eq_true rfl) dX7_fell_39 [1, 2, 3, 4, 5, 6, 7, 8, 9, 10, 11, 12, 13, 14, 15, 16] rfl rfl ?_
        rintro _ _ ⟨lf2_39, gt2_39, hl2_39, am2_39, so2_39, rfl, rfl, hr1_39, hr2_39⟩
        refine ky_ws (ws' := [(ad 0, .inr (7, [.ref (ad 1), .ref (ad 10), .ref (ad 14), .ref (ad 18), .ref (ad 23), .ref (ad 29), .ref (ad 32), .int left, .int lastF])), (ad 23, .inr (1, [.ref (ad 24), .ref (ad 25), .ref (ad 26), .ref (ad 27), .ref (ad 28), .ref (ad 10), .ref (ad 14), .ref (ad 18)])), (ad 24, .inl (cI, 6, .inl lf2_39)), (ad 25, .inl (cI, 8, .inl gt2_39)), (ad 26, .inl (cI, 8, .inl hl2_39)), (ad 27, .inl (cI, 10, .inl am2_39)), (ad 28, .inl (cI, 10, .inl so2_39)), (ad 10, .inr (3, [.ref (ad 11), .ref (ad 12), .ref (ad 13), .int (nI N), .int wind, .int low, .int forb])), (ad 14, .inr (6, [.ref (ad 15), .ref (ad 16), .ref (ad 17), .int (nI nc)])), (ad 15, .inl (cI, 6, .inl cat)), (ad 16, .inl (cI, 6, .inl cwet)), (ad 17, .inl (cI, 6, .inl chigh)), (ad 18, .inr (5, [.ref (ad 19), .ref (ad 20), .ref (ad 21), .ref (ad 22), .int (nI ns)])), (ad 19, .inl (cI, 10, .inl kd)), (ad 20, .inl (cI, 10, .inl fr)), (ad 21, .inl (cI, 10, .inl hor)), (ad 22, .inl (cI, 10, .inl pw))]) (st' := []) rfl rfl ?_
        refine ky_iload_n C 3 dX7_fell_42 rfl rfl ?_
        refine ky_if_ne C 58 dX7_fell_43 (by decide) (fun c_43 => ?_) (fun c_43 => ?_)
        · refine ky_aload_n C 0 dX7_fell_58 rfl rfl ?_
          refine ky_get C (ci := 7) (T := TX7) (N := 9) (Cn := RX7) (ref := "RainAccount") hiX7_fell_X7 0 rfl rfl 4 (by decide) (List.mem_of_getElem? (i := 2) rfl) rfl (v := .ref (ad 23)) rfl dX7_fell_59 ?_
          refine ky_get C (ci := 1) (T := TX1) (N := 8) (Cn := RX1) (ref := "RainAccount$Day") hiX7_fell_X1 1 rfl rfl 2 (by decide) (List.mem_of_getElem? (i := 4) rfl) rfl (v := .ref (ad 26)) rfl dX7_fell_62 ?_
          refine ky_iload_n C 1 dX7_fell_65 rfl rfl ?_
          refine ky_ialdN C 4 (k := j) rfl (by omega) (by decide) dX7_fell_66 (v := hl2_39 j) rfl ?_
          exact ky_iret C hr hlk ⟨(hl2_39 j), lf2_39, gt2_39, hl2_39, am2_39, so2_39, rfl, rfl, (by simp only [kF_fell, if_pos c_8, if_pos c_17, if_pos c_26, hcj, hct, if_neg c_43, ← hr1_39])⟩ (Nat.le_of_ble_eq_true rfl) dX7_fell_67
        · refine ky_aload_n C 0 dX7_fell_46 rfl rfl ?_
          refine ky_get C (ci := 7) (T := TX7) (N := 9) (Cn := RX7) (ref := "RainAccount") hiX7_fell_X7 0 rfl rfl 4 (by decide) (List.mem_of_getElem? (i := 2) rfl) rfl (v := .ref (ad 23)) rfl dX7_fell_47 ?_
          refine ky_get C (ci := 1) (T := TX1) (N := 8) (Cn := RX1) (ref := "RainAccount$Day") hiX7_fell_X1 1 rfl rfl 1 (by decide) (List.mem_of_getElem? (i := 3) rfl) rfl (v := .ref (ad 25)) rfl dX7_fell_50 ?_
          refine ky_iload_n C 1 dX7_fell_53 rfl rfl ?_
          refine ky_ialdN C 3 (k := j) rfl (by omega) (by decide) dX7_fell_54 (v := gt2_39 j) rfl ?_
          refine ky_goto C dX7_fell_55 (tgt := 67) (by decide) ?_
          exact ky_iret C hr hlk ⟨(gt2_39 j), lf2_39, gt2_39, hl2_39, am2_39, so2_39, rfl, rfl, (by simp only [kF_fell, if_pos c_8, if_pos c_17, if_pos c_26, hcj, hct, if_pos c_43, ← hr1_39])⟩ (Nat.le_of_ble_eq_true rfl) dX7_fell_67
      · have c_26 : ¬ (0 ≤ z ∧ z ≤ 1) := kb0 c_26
        refine ky_bipush C dX7_fell_29 (v := (-2)) (by decide) ?_
        exact ky_iret C hr hlk ⟨(-2), lf, gt, hl, am, so, rfl, rfl, (by simp only [kF_fell, if_pos c_8, if_pos c_17, if_neg c_26])⟩ (Nat.le_of_ble_eq_true rfl) dX7_fell_31
  · have c_8 : ¬ (0 ≤ x ∧ x < nI N) := kb0 c_8
    refine ky_iconst C dX7_fell_11 (v := (-1)) (by decide) ?_
    exact ky_iret C hr hlk ⟨(-1), lf, gt, hl, am, so, rfl, rfl, (by simp only [kF_fell, if_neg c_8])⟩ (Nat.le_of_ble_eq_true rfl) dX7_fell_12
theorem hiX7_by_X1 : ∀ w ∈ wsX10, w ∈ wsX7_by := fun _ h => (List.mem_cons_of_mem _ (List.mem_append_left _ (List.mem_append_left _ (List.mem_append_left _ (List.mem_append_right _ h)))))
theorem hiX7_by_X7 : ∀ w ∈ wsX70, w ∈ wsX7_by := fun _ h => (List.mem_cons_of_mem _ (List.mem_append_left _ (List.mem_append_left _ (List.mem_append_left _ (List.mem_append_left _ (List.mem_append_right _ h))))))
theorem hdX7_by : yX7_by.cls = RX7 ∧ yX7_by.cls ≠ "java/lang/invoke/MethodHandle" ∧ yX7_by.cls ≠ "java/lang/invoke/VarHandle" ∧ (parseMethodDescriptor yX7_by.desc).map (fun d => d.parameters.length) = some 2 := by decide +kernel
set_option maxRecDepth 100000 in
set_option maxHeartbeats 4000000 in
/-- X7_by -/
theorem kX7_by (l : Launch) (D : va_G) (cI cS : ClassId) (ad : Nat → Nat) (left : Int32) (lastF : Int32) (lf : Nat → Int32) (gt : Nat → Int32) (hl : Nat → Int32) (am : Nat → Int32) (so : Nat → Int32) (N : Nat) (wind : Int32) (low : Int32) (forb : Int32) (nc : Nat) (cat : Nat → Int32) (cwet : Nat → Int32) (chigh : Nat → Int32) (ns : Nat) (kd : Nat → Int32) (fr : Nat → Int32) (hor : Nat → Int32) (pw : Nat → Int32) (x : Int32) (y : Int32) (hN : N ≤ 8) (hnc : nc ≤ 6) (hns : ns ≤ 8) (hwf : ∀ s, s < ns → 0 ≤ fr s ∧ fr s < nI N) : kyM l yX7_by wsX7_by ({ frames := 5, cells := 0, slots := 0, locals := 125 }) D cI cS [.ref (ad 0), .int x, .int y] [(ad 0, .inr (7, [.ref (ad 1), .ref (ad 10), .ref (ad 14), .ref (ad 18), .ref (ad 23), .ref (ad 29), .ref (ad 32), .int left, .int lastF])), (ad 23, .inr (1, [.ref (ad 24), .ref (ad 25), .ref (ad 26), .ref (ad 27), .ref (ad 28), .ref (ad 10), .ref (ad 14), .ref (ad 18)])), (ad 24, .inl (cI, 6, .inl lf)), (ad 25, .inl (cI, 8, .inl gt)), (ad 26, .inl (cI, 8, .inl hl)), (ad 27, .inl (cI, 10, .inl am)), (ad 28, .inl (cI, 10, .inl so)), (ad 10, .inr (3, [.ref (ad 11), .ref (ad 12), .ref (ad 13), .int (nI N), .int wind, .int low, .int forb])), (ad 14, .inr (6, [.ref (ad 15), .ref (ad 16), .ref (ad 17), .int (nI nc)])), (ad 15, .inl (cI, 6, .inl cat)), (ad 16, .inl (cI, 6, .inl cwet)), (ad 17, .inl (cI, 6, .inl chigh)), (ad 18, .inr (5, [.ref (ad 19), .ref (ad 20), .ref (ad 21), .ref (ad 22), .int (nI ns)])), (ad 19, .inl (cI, 10, .inl kd)), (ad 20, .inl (cI, 10, .inl fr)), (ad 21, .inl (cI, 10, .inl hor)), (ad 22, .inl (cI, 10, .inl pw))] 0 0 (fun vR wR => ∃ r2 : Int32, ∃ lf2 : Nat → Int32, ∃ gt2 : Nat → Int32, ∃ hl2 : Nat → Int32, ∃ am2 : Nat → Int32, ∃ so2 : Nat → Int32, vR = some (.int r2) ∧ wR = [(ad 0, .inr (7, [.ref (ad 1), .ref (ad 10), .ref (ad 14), .ref (ad 18), .ref (ad 23), .ref (ad 29), .ref (ad 32), .int left, .int lastF])), (ad 23, .inr (1, [.ref (ad 24), .ref (ad 25), .ref (ad 26), .ref (ad 27), .ref (ad 28), .ref (ad 10), .ref (ad 14), .ref (ad 18)])), (ad 24, .inl (cI, 6, .inl lf2)), (ad 25, .inl (cI, 8, .inl gt2)), (ad 26, .inl (cI, 8, .inl hl2)), (ad 27, .inl (cI, 10, .inl am2)), (ad 28, .inl (cI, 10, .inl so2)), (ad 10, .inr (3, [.ref (ad 11), .ref (ad 12), .ref (ad 13), .int (nI N), .int wind, .int low, .int forb])), (ad 14, .inr (6, [.ref (ad 15), .ref (ad 16), .ref (ad 17), .int (nI nc)])), (ad 15, .inl (cI, 6, .inl cat)), (ad 16, .inl (cI, 6, .inl cwet)), (ad 17, .inl (cI, 6, .inl chigh)), (ad 18, .inr (5, [.ref (ad 19), .ref (ad 20), .ref (ad 21), .ref (ad 22), .int (nI ns)])), (ad 19, .inl (cI, 10, .inl kd)), (ad 20, .inl (cI, 10, .inl fr)), (ad 21, .inl (cI, 10, .inl hor)), (ad 22, .inl (cI, 10, .inl pw))] ∧ (r2 = kF_by (N, nc, low, cat, cwet, chigh, kd, fr, hor, pw) wind ns x y)) := by
  refine ky_start (own := RX7) (cc := cX7_by) (nL := 3) (ret := (some .int)) (by decide) rfl rfl (Nat.le_of_ble_eq_true rfl) ?_
  intro p e s m args below meth c C hr hlk hnm
  refine ky_conv (lv' := [(0, .ref (ad 0)), (1, .int x), (2, .int y)]) (List.range 3) rfl rfl rfl ?_
  refine ky_aload_n C 0 dX7_by_0 rfl rfl ?_
  refine ky_get C (ci := 7) (T := TX7) (N := 9) (Cn := RX7) (ref := "RainAccount") hiX7_by_X7 0 rfl rfl 3 (by decide) (List.mem_of_getElem? (i := 1) rfl) rfl (v := .ref (ad 18)) rfl dX7_by_1 ?_
  refine ky_iload_n C 1 dX7_by_4 rfl rfl ?_
  refine ky_callV0 C 1 (kX5_isShot l D cI cS ad ns x) gX7_by_X5_isShot rfl rfl rfl hdX5_isShot 12 5 rfl rfl rfl ⟨Nat.le_of_ble_eq_true rfl, Nat.le_of_ble_eq_true rfl⟩ rfl rfl (Nat.le_of_ble_eq_true rfl) dX7_by_5 [12] rfl rfl ?_
  rintro _ _ ⟨rfl, rfl⟩
  refine ky_ws (ws' := [(ad 0, .inr (7, [.ref (ad 1), .ref (ad 10), .ref (ad 14), .ref (ad 18), .ref (ad 23), .ref (ad 29), .ref (ad 32), .int left, .int lastF])), (ad 23, .inr (1, [.ref (ad 24), .ref (ad 25), .ref (ad 26), .ref (ad 27), .ref (ad 28), .ref (ad 10), .ref (ad 14), .ref (ad 18)])), (ad 24, .inl (cI, 6, .inl lf)), (ad 25, .inl (cI, 8, .inl gt)), (ad 26, .inl (cI, 8, .inl hl)), (ad 27, .inl (cI, 10, .inl am)), (ad 28, .inl (cI, 10, .inl so)), (ad 10, .inr (3, [.ref (ad 11), .ref (ad 12), .ref (ad 13), .int (nI N), .int wind, .int low, .int forb])), (ad 14, .inr (6, [.ref (ad 15), .ref (ad 16), .ref (ad 17), .int (nI nc)])), (ad 15, .inl (cI, 6, .inl cat)), (ad 16, .inl (cI, 6, .inl cwet)), (ad 17, .inl (cI, 6, .inl chigh)), (ad 18, .inr (5, [.ref (ad 19), .ref (ad 20), .ref (ad 21), .ref (ad 22), .int (nI ns)])), (ad 19, .inl (cI, 10, .inl kd)), (ad 20, .inl (cI, 10, .inl fr)), (ad 21, .inl (cI, 10, .inl hor)), (ad 22, .inl (cI, 10, .inl pw))]) (st' := [.int (if 0 ≤ x ∧ x < nI ns then (1 : Int32) else 0)]) rfl rfl ?_
  refine ky_if_ne C 13 dX7_by_8 (by decide) (fun c_8 => ?_) (fun c_8 => ?_)
  · have c_8 : 0 ≤ x ∧ x < nI ns := kb1 c_8
    refine ky_iload_n C 2 dX7_by_13 rfl rfl ?_
    refine ky_iconst C dX7_by_14 (v := 0) (by decide) ?_
    refine ky_iconst C dX7_by_15 (v := 1) (by decide) ?_
    refine ky_callS0 C 3 (kX7_isWithin l D cI cS y 0 1) gX7_by_X7_isWithin rfl rfl rfl hdX7_isWithin.2 ⟨Nat.le_of_ble_eq_true rfl, Nat.le_of_ble_eq_true rfl⟩ rfl rfl (Nat.le_of_ble_eq_true rfl) dX7_by_16 [] rfl rfl ?_
    rintro _ _ ⟨rfl, rfl⟩
    refine ky_ws (ws' := [(ad 0, .inr (7, [.ref (ad 1), .ref (ad 10), .ref (ad 14), .ref (ad 18), .ref (ad 23), .ref (ad 29), .ref (ad 32), .int left, .int lastF])), (ad 23, .inr (1, [.ref (ad 24), .ref (ad 25), .ref (ad 26), .ref (ad 27), .ref (ad 28), .ref (ad 10), .ref (ad 14), .ref (ad 18)])), (ad 24, .inl (cI, 6, .inl lf)), (ad 25, .inl (cI, 8, .inl gt)), (ad 26, .inl (cI, 8, .inl hl)), (ad 27, .inl (cI, 10, .inl am)), (ad 28, .inl (cI, 10, .inl so)), (ad 10, .inr (3, [.ref (ad 11), .ref (ad 12), .ref (ad 13), .int (nI N), .int wind, .int low, .int forb])), (ad 14, .inr (6, [.ref (ad 15), .ref (ad 16), .ref (ad 17), .int (nI nc)])), (ad 15, .inl (cI, 6, .inl cat)), (ad 16, .inl (cI, 6, .inl cwet)), (ad 17, .inl (cI, 6, .inl chigh)), (ad 18, .inr (5, [.ref (ad 19), .ref (ad 20), .ref (ad 21), .ref (ad 22), .int (nI ns)])), (ad 19, .inl (cI, 10, .inl kd)), (ad 20, .inl (cI, 10, .inl fr)), (ad 21, .inl (cI, 10, .inl hor)), (ad 22, .inl (cI, 10, .inl pw))]) (st' := [.int (if 0 ≤ y ∧ y ≤ 1 then (1 : Int32) else 0)]) rfl rfl ?_
    refine ky_if_ne C 25 dX7_by_19 (by decide) (fun c_19 => ?_) (fun c_19 => ?_)
    · have c_19 : 0 ≤ y ∧ y ≤ 1 := kb1 c_19
      obtain ⟨j, hj, rfl⟩ := kix (n := ns) c_8 (by omega)
      have hcj : (nI j).toNatClampNeg = j := nI_clamp (by omega)
      refine ky_aload_n C 0 dX7_by_25 rfl rfl ?_
      refine ky_get C (ci := 7) (T := TX7) (N := 9) (Cn := RX7) (ref := "RainAccount") hiX7_by_X7 0 rfl rfl 4 (by decide) (List.mem_of_getElem? (i := 2) rfl) rfl (v := .ref (ad 23)) rfl dX7_by_26 ?_
      refine ky_bipush C dX7_by_29 (v := 12) (by decide) ?_
      refine ky_callV0 C 1 (kX1_runUpTo l D cI cS ad lf gt hl am so N wind low forb nc cat cwet chigh ns kd fr hor pw 12 (by first | assumption | omega) (by first | assumption | omega) (by first | assumption | omega) (by first | assumption | omega) (by first | assumption | omega)) gX7_by_X1_runUpTo rfl rfl rfl hdX1_runUpTo 1 1 rfl rfl rfl ⟨Nat.le_of_ble_eq_true rfl, Nat.le_of_ble_eq_true rfl⟩ rfl rfl (Nat.le_of_ble_eq_true rfl) dX7_by_31 [1, 2, 3, 4, 5, 6, 7, 8, 9, 10, 11, 12, 13, 14, 15, 16] rfl rfl ?_
      rintro _ _ ⟨lf2_31, gt2_31, hl2_31, am2_31, so2_31, rfl, rfl, hr1_31, hr2_31⟩
      refine ky_ws (ws' := [(ad 0, .inr (7, [.ref (ad 1), .ref (ad 10), .ref (ad 14), .ref (ad 18), .ref (ad 23), .ref (ad 29), .ref (ad 32), .int left, .int lastF])), (ad 23, .inr (1, [.ref (ad 24), .ref (ad 25), .ref (ad 26), .ref (ad 27), .ref (ad 28), .ref (ad 10), .ref (ad 14), .ref (ad 18)])), (ad 24, .inl (cI, 6, .inl lf2_31)), (ad 25, .inl (cI, 8, .inl gt2_31)), (ad 26, .inl (cI, 8, .inl hl2_31)), (ad 27, .inl (cI, 10, .inl am2_31)), (ad 28, .inl (cI, 10, .inl so2_31)), (ad 10, .inr (3, [.ref (ad 11), .ref (ad 12), .ref (ad 13), .int (nI N), .int wind, .int low, .int forb])), (ad 14, .inr (6, [.ref (ad 15), .ref (ad 16), .ref (ad 17), .int (nI nc)])), (ad 15, .inl (cI, 6, .inl cat)), (ad 16, .inl (cI, 6, .inl cwet)), (ad 17, .inl (cI, 6, .inl chigh)), (ad 18, .inr (5, [.ref (ad 19), .ref (ad 20), .ref (ad 21), .ref (ad 22), .int (nI ns)])), (ad 19, .inl (cI, 10, .inl kd)), (ad 20, .inl (cI, 10, .inl fr)), (ad 21, .inl (cI, 10, .inl hor)), (ad 22, .inl (cI, 10, .inl pw))]) (st' := []) rfl rfl ?_
      refine ky_iload_n C 2 dX7_by_34 rfl rfl ?_
      refine ky_if_ne C 50 dX7_by_35 (by decide) (fun c_35 => ?_) (fun c_35 => ?_)
      · refine ky_aload_n C 0 dX7_by_50 rfl rfl ?_
        refine ky_get C (ci := 7) (T := TX7) (N := 9) (Cn := RX7) (ref := "RainAccount") hiX7_by_X7 0 rfl rfl 4 (by decide) (List.mem_of_getElem? (i := 2) rfl) rfl (v := .ref (ad 23)) rfl dX7_by_51 ?_
        refine ky_get C (ci := 1) (T := TX1) (N := 8) (Cn := RX1) (ref := "RainAccount$Day") hiX7_by_X1 1 rfl rfl 4 (by decide) (List.mem_of_getElem? (i := 4) rfl) rfl (v := .ref (ad 28)) rfl dX7_by_54 ?_
        refine ky_iload_n C 1 dX7_by_57 rfl rfl ?_
        refine ky_ialdN C 6 (k := j) rfl (by omega) (by decide) dX7_by_58 (v := so2_31 j) rfl ?_
        exact ky_iret C hr hlk ⟨(so2_31 j), lf2_31, gt2_31, hl2_31, am2_31, so2_31, rfl, rfl, (by simp only [kF_by, if_pos c_8, if_pos c_19, hcj, if_neg c_35, ← hr1_31])⟩ (Nat.le_of_ble_eq_true rfl) dX7_by_59
      · refine ky_aload_n C 0 dX7_by_38 rfl rfl ?_
        refine ky_get C (ci := 7) (T := TX7) (N := 9) (Cn := RX7) (ref := "RainAccount") hiX7_by_X7 0 rfl rfl 4 (by decide) (List.mem_of_getElem? (i := 2) rfl) rfl (v := .ref (ad 23)) rfl dX7_by_39 ?_
        refine ky_get C (ci := 1) (T := TX1) (N := 8) (Cn := RX1) (ref := "RainAccount$Day") hiX7_by_X1 1 rfl rfl 3 (by decide) (List.mem_of_getElem? (i := 3) rfl) rfl (v := .ref (ad 27)) rfl dX7_by_42 ?_
        refine ky_iload_n C 1 dX7_by_45 rfl rfl ?_
        refine ky_ialdN C 5 (k := j) rfl (by omega) (by decide) dX7_by_46 (v := am2_31 j) rfl ?_
        refine ky_goto C dX7_by_47 (tgt := 59) (by decide) ?_
        exact ky_iret C hr hlk ⟨(am2_31 j), lf2_31, gt2_31, hl2_31, am2_31, so2_31, rfl, rfl, (by simp only [kF_by, if_pos c_8, if_pos c_19, hcj, if_pos c_35, ← hr1_31])⟩ (Nat.le_of_ble_eq_true rfl) dX7_by_59
    · have c_19 : ¬ (0 ≤ y ∧ y ≤ 1) := kb0 c_19
      refine ky_bipush C dX7_by_22 (v := (-2)) (by decide) ?_
      exact ky_iret C hr hlk ⟨(-2), lf, gt, hl, am, so, rfl, rfl, (by simp only [kF_by, if_pos c_8, if_neg c_19])⟩ (Nat.le_of_ble_eq_true rfl) dX7_by_24
  · have c_8 : ¬ (0 ≤ x ∧ x < nI ns) := kb0 c_8
    refine ky_iconst C dX7_by_11 (v := (-1)) (by decide) ?_
    exact ky_iret C hr hlk ⟨(-1), lf, gt, hl, am, so, rfl, rfl, (by simp only [kF_by, if_neg c_8])⟩ (Nat.le_of_ble_eq_true rfl) dX7_by_12
theorem hiX7_yields_X7 : ∀ w ∈ wsX70, w ∈ wsX7_yields := fun _ h => (List.mem_cons_of_mem _ (List.mem_append_left _ (List.mem_append_left _ (List.mem_append_left _ (List.mem_append_left _ (List.mem_append_right _ h))))))
theorem hdX7_yields : yX7_yields.cls = RX7 ∧ yX7_yields.cls ≠ "java/lang/invoke/MethodHandle" ∧ yX7_yields.cls ≠ "java/lang/invoke/VarHandle" ∧ (parseMethodDescriptor yX7_yields.desc).map (fun d => d.parameters.length) = some 1 := by decide +kernel
set_option maxRecDepth 100000 in
set_option maxHeartbeats 4000000 in
/-- X7_yields -/
theorem kX7_yields (l : Launch) (D : va_G) (cI cS : ClassId) (ad : Nat → Nat) (left : Int32) (lastF : Int32) (lf : Nat → Int32) (gt : Nat → Int32) (hl : Nat → Int32) (am : Nat → Int32) (so : Nat → Int32) (N : Nat) (wind : Int32) (low : Int32) (forb : Int32) (club : Nat → Int32) (need : Nat → Int32) (worth : Nat → Int32) (nc : Nat) (cat : Nat → Int32) (cwet : Nat → Int32) (chigh : Nat → Int32) (ns : Nat) (kd : Nat → Int32) (fr : Nat → Int32) (hor : Nat → Int32) (pw : Nat → Int32) (x : Int32) (hN : N ≤ 8) (hnc : nc ≤ 6) (hns : ns ≤ 8) (hwf : ∀ s, s < ns → 0 ≤ fr s ∧ fr s < nI N) : kyM l yX7_yields wsX7_yields ({ frames := 5, cells := 0, slots := 0, locals := 125 }) D cI cS [.ref (ad 0), .int x] [(ad 0, .inr (7, [.ref (ad 1), .ref (ad 10), .ref (ad 14), .ref (ad 18), .ref (ad 23), .ref (ad 29), .ref (ad 32), .int left, .int lastF])), (ad 23, .inr (1, [.ref (ad 24), .ref (ad 25), .ref (ad 26), .ref (ad 27), .ref (ad 28), .ref (ad 10), .ref (ad 14), .ref (ad 18)])), (ad 24, .inl (cI, 6, .inl lf)), (ad 25, .inl (cI, 8, .inl gt)), (ad 26, .inl (cI, 8, .inl hl)), (ad 27, .inl (cI, 10, .inl am)), (ad 28, .inl (cI, 10, .inl so)), (ad 10, .inr (3, [.ref (ad 11), .ref (ad 12), .ref (ad 13), .int (nI N), .int wind, .int low, .int forb])), (ad 11, .inl (cI, 8, .inl club)), (ad 12, .inl (cI, 8, .inl need)), (ad 13, .inl (cI, 8, .inl worth)), (ad 14, .inr (6, [.ref (ad 15), .ref (ad 16), .ref (ad 17), .int (nI nc)])), (ad 15, .inl (cI, 6, .inl cat)), (ad 16, .inl (cI, 6, .inl cwet)), (ad 17, .inl (cI, 6, .inl chigh)), (ad 18, .inr (5, [.ref (ad 19), .ref (ad 20), .ref (ad 21), .ref (ad 22), .int (nI ns)])), (ad 19, .inl (cI, 10, .inl kd)), (ad 20, .inl (cI, 10, .inl fr)), (ad 21, .inl (cI, 10, .inl hor)), (ad 22, .inl (cI, 10, .inl pw))] 0 0 (fun vR wR => ∃ r2 : Int32, ∃ lf2 : Nat → Int32, ∃ gt2 : Nat → Int32, ∃ hl2 : Nat → Int32, ∃ am2 : Nat → Int32, ∃ so2 : Nat → Int32, vR = some (.int r2) ∧ wR = [(ad 0, .inr (7, [.ref (ad 1), .ref (ad 10), .ref (ad 14), .ref (ad 18), .ref (ad 23), .ref (ad 29), .ref (ad 32), .int left, .int lastF])), (ad 23, .inr (1, [.ref (ad 24), .ref (ad 25), .ref (ad 26), .ref (ad 27), .ref (ad 28), .ref (ad 10), .ref (ad 14), .ref (ad 18)])), (ad 24, .inl (cI, 6, .inl lf2)), (ad 25, .inl (cI, 8, .inl gt2)), (ad 26, .inl (cI, 8, .inl hl2)), (ad 27, .inl (cI, 10, .inl am2)), (ad 28, .inl (cI, 10, .inl so2)), (ad 10, .inr (3, [.ref (ad 11), .ref (ad 12), .ref (ad 13), .int (nI N), .int wind, .int low, .int forb])), (ad 11, .inl (cI, 8, .inl club)), (ad 12, .inl (cI, 8, .inl need)), (ad 13, .inl (cI, 8, .inl worth)), (ad 14, .inr (6, [.ref (ad 15), .ref (ad 16), .ref (ad 17), .int (nI nc)])), (ad 15, .inl (cI, 6, .inl cat)), (ad 16, .inl (cI, 6, .inl cwet)), (ad 17, .inl (cI, 6, .inl chigh)), (ad 18, .inr (5, [.ref (ad 19), .ref (ad 20), .ref (ad 21), .ref (ad 22), .int (nI ns)])), (ad 19, .inl (cI, 10, .inl kd)), (ad 20, .inl (cI, 10, .inl fr)), (ad 21, .inl (cI, 10, .inl hor)), (ad 22, .inl (cI, 10, .inl pw))] ∧ (r2 = kF_yields (N, nc, low, cat, cwet, chigh, kd, fr, hor, pw) wind need worth ns x)) := by
  refine ky_start (own := RX7) (cc := cX7_yields) (nL := 2) (ret := (some .int)) (by decide) rfl rfl (Nat.le_of_ble_eq_true rfl) ?_
  intro p e s m args below meth c C hr hlk hnm
  refine ky_conv (lv' := [(0, .ref (ad 0)), (1, .int x)]) (List.range 2) rfl rfl rfl ?_
  refine ky_aload_n C 0 dX7_yields_0 rfl rfl ?_
  refine ky_get C (ci := 7) (T := TX7) (N := 9) (Cn := RX7) (ref := "RainAccount") hiX7_yields_X7 0 rfl rfl 1 (by decide) (List.mem_of_getElem? (i := 1) rfl) rfl (v := .ref (ad 10)) rfl dX7_yields_1 ?_
  refine ky_iload_n C 1 dX7_yields_4 rfl rfl ?_
  refine ky_callV0 C 1 (kX3_isField l D cI cS ad N wind low forb x) gX7_yields_X3_isField rfl rfl rfl hdX3_isField 7 3 rfl rfl rfl ⟨Nat.le_of_ble_eq_true rfl, Nat.le_of_ble_eq_true rfl⟩ rfl rfl (Nat.le_of_ble_eq_true rfl) dX7_yields_5 [7] rfl rfl ?_
  rintro _ _ ⟨rfl, rfl⟩
  refine ky_ws (ws' := [(ad 0, .inr (7, [.ref (ad 1), .ref (ad 10), .ref (ad 14), .ref (ad 18), .ref (ad 23), .ref (ad 29), .ref (ad 32), .int left, .int lastF])), (ad 23, .inr (1, [.ref (ad 24), .ref (ad 25), .ref (ad 26), .ref (ad 27), .ref (ad 28), .ref (ad 10), .ref (ad 14), .ref (ad 18)])), (ad 24, .inl (cI, 6, .inl lf)), (ad 25, .inl (cI, 8, .inl gt)), (ad 26, .inl (cI, 8, .inl hl)), (ad 27, .inl (cI, 10, .inl am)), (ad 28, .inl (cI, 10, .inl so)), (ad 10, .inr (3, [.ref (ad 11), .ref (ad 12), .ref (ad 13), .int (nI N), .int wind, .int low, .int forb])), (ad 11, .inl (cI, 8, .inl club)), (ad 12, .inl (cI, 8, .inl need)), (ad 13, .inl (cI, 8, .inl worth)), (ad 14, .inr (6, [.ref (ad 15), .ref (ad 16), .ref (ad 17), .int (nI nc)])), (ad 15, .inl (cI, 6, .inl cat)), (ad 16, .inl (cI, 6, .inl cwet)), (ad 17, .inl (cI, 6, .inl chigh)), (ad 18, .inr (5, [.ref (ad 19), .ref (ad 20), .ref (ad 21), .ref (ad 22), .int (nI ns)])), (ad 19, .inl (cI, 10, .inl kd)), (ad 20, .inl (cI, 10, .inl fr)), (ad 21, .inl (cI, 10, .inl hor)), (ad 22, .inl (cI, 10, .inl pw))]) (st' := [.int (if 0 ≤ x ∧ x < nI N then (1 : Int32) else 0)]) rfl rfl ?_
  refine ky_if_ne C 13 dX7_yields_8 (by decide) (fun c_8 => ?_) (fun c_8 => ?_)
  · have c_8 : 0 ≤ x ∧ x < nI N := kb1 c_8
    obtain ⟨j, hj, rfl⟩ := kix (n := N) c_8 (by omega)
    have hcj : (nI j).toNatClampNeg = j := nI_clamp (by omega)
    refine ky_aload_n C 0 dX7_yields_13 rfl rfl ?_
    refine ky_get C (ci := 7) (T := TX7) (N := 9) (Cn := RX7) (ref := "RainAccount") hiX7_yields_X7 0 rfl rfl 4 (by decide) (List.mem_of_getElem? (i := 2) rfl) rfl (v := .ref (ad 23)) rfl dX7_yields_14 ?_
    refine ky_bipush C dX7_yields_17 (v := 12) (by decide) ?_
    refine ky_callV0 C 1 (kX1_runUpTo l D cI cS ad lf gt hl am so N wind low forb nc cat cwet chigh ns kd fr hor pw 12 (by first | assumption | omega) (by first | assumption | omega) (by first | assumption | omega) (by first | assumption | omega) (by first | assumption | omega)) gX7_yields_X1_runUpTo rfl rfl rfl hdX1_runUpTo 1 1 rfl rfl rfl ⟨Nat.le_of_ble_eq_true rfl, Nat.le_of_ble_eq_true rfl⟩ rfl rfl (Nat.le_of_ble_eq_true rfl) dX7_yields_19 [1, 2, 3, 4, 5, 6, 7, 11, 12, 13, 14, 15, 16, 17, 18, 19] rfl rfl ?_
    rintro _ _ ⟨lf2_19, gt2_19, hl2_19, am2_19, so2_19, rfl, rfl, hr1_19, hr2_19⟩
    refine ky_ws (ws' := [(ad 0, .inr (7, [.ref (ad 1), .ref (ad 10), .ref (ad 14), .ref (ad 18), .ref (ad 23), .ref (ad 29), .ref (ad 32), .int left, .int lastF])), (ad 23, .inr (1, [.ref (ad 24), .ref (ad 25), .ref (ad 26), .ref (ad 27), .ref (ad 28), .ref (ad 10), .ref (ad 14), .ref (ad 18)])), (ad 24, .inl (cI, 6, .inl lf2_19)), (ad 25, .inl (cI, 8, .inl gt2_19)), (ad 26, .inl (cI, 8, .inl hl2_19)), (ad 27, .inl (cI, 10, .inl am2_19)), (ad 28, .inl (cI, 10, .inl so2_19)), (ad 10, .inr (3, [.ref (ad 11), .ref (ad 12), .ref (ad 13), .int (nI N), .int wind, .int low, .int forb])), (ad 11, .inl (cI, 8, .inl club)), (ad 12, .inl (cI, 8, .inl need)), (ad 13, .inl (cI, 8, .inl worth)), (ad 14, .inr (6, [.ref (ad 15), .ref (ad 16), .ref (ad 17), .int (nI nc)])), (ad 15, .inl (cI, 6, .inl cat)), (ad 16, .inl (cI, 6, .inl cwet)), (ad 17, .inl (cI, 6, .inl chigh)), (ad 18, .inr (5, [.ref (ad 19), .ref (ad 20), .ref (ad 21), .ref (ad 22), .int (nI ns)])), (ad 19, .inl (cI, 10, .inl kd)), (ad 20, .inl (cI, 10, .inl fr)), (ad 21, .inl (cI, 10, .inl hor)), (ad 22, .inl (cI, 10, .inl pw))]) (st' := []) rfl rfl ?_
    refine ky_aload_n C 0 dX7_yields_22 rfl rfl ?_
    refine ky_get C (ci := 7) (T := TX7) (N := 9) (Cn := RX7) (ref := "RainAccount") hiX7_yields_X7 0 rfl rfl 4 (by decide) (List.mem_of_getElem? (i := 2) rfl) rfl (v := .ref (ad 23)) rfl dX7_yields_23 ?_
    refine ky_iload_n C 1 dX7_yields_26 rfl rfl ?_
    refine ky_callV0 C 1 (kX1_yieldOfField l D cI cS ad gt2_19 hl2_19 N wind low forb need worth j (by first | assumption | omega)) gX7_yields_X1_yieldOfField rfl rfl rfl hdX1_yieldOfField 1 1 rfl rfl rfl ⟨Nat.le_of_ble_eq_true rfl, Nat.le_of_ble_eq_true rfl⟩ rfl rfl (Nat.le_of_ble_eq_true rfl) dX7_yields_27 [1, 3, 4, 7, 9, 10] rfl rfl ?_
    rintro _ _ ⟨rfl, rfl⟩
    refine ky_ws (ws' := [(ad 0, .inr (7, [.ref (ad 1), .ref (ad 10), .ref (ad 14), .ref (ad 18), .ref (ad 23), .ref (ad 29), .ref (ad 32), .int left, .int lastF])), (ad 23, .inr (1, [.ref (ad 24), .ref (ad 25), .ref (ad 26), .ref (ad 27), .ref (ad 28), .ref (ad 10), .ref (ad 14), .ref (ad 18)])), (ad 24, .inl (cI, 6, .inl lf2_19)), (ad 25, .inl (cI, 8, .inl gt2_19)), (ad 26, .inl (cI, 8, .inl hl2_19)), (ad 27, .inl (cI, 10, .inl am2_19)), (ad 28, .inl (cI, 10, .inl so2_19)), (ad 10, .inr (3, [.ref (ad 11), .ref (ad 12), .ref (ad 13), .int (nI N), .int wind, .int low, .int forb])), (ad 11, .inl (cI, 8, .inl club)), (ad 12, .inl (cI, 8, .inl need)), (ad 13, .inl (cI, 8, .inl worth)), (ad 14, .inr (6, [.ref (ad 15), .ref (ad 16), .ref (ad 17), .int (nI nc)])), (ad 15, .inl (cI, 6, .inl cat)), (ad 16, .inl (cI, 6, .inl cwet)), (ad 17, .inl (cI, 6, .inl chigh)), (ad 18, .inr (5, [.ref (ad 19), .ref (ad 20), .ref (ad 21), .ref (ad 22), .int (nI ns)])), (ad 19, .inl (cI, 10, .inl kd)), (ad 20, .inl (cI, 10, .inl fr)), (ad 21, .inl (cI, 10, .inl hor)), (ad 22, .inl (cI, 10, .inl pw))]) (st' := [.int (kYf need worth gt2_19 hl2_19 j)]) rfl rfl ?_
    exact ky_iret C hr hlk ⟨(kYf need worth gt2_19 hl2_19 j), lf2_19, gt2_19, hl2_19, am2_19, so2_19, rfl, rfl, (by simp only [kF_yields, if_pos c_8, hcj, ← hr1_19])⟩ (Nat.le_of_ble_eq_true rfl) dX7_yields_30
  · have c_8 : ¬ (0 ≤ x ∧ x < nI N) := kb0 c_8
    refine ky_iconst C dX7_yields_11 (v := (-1)) (by decide) ?_
    exact ky_iret C hr hlk ⟨(-1), lf, gt, hl, am, so, rfl, rfl, (by simp only [kF_yields, if_neg c_8])⟩ (Nat.le_of_ble_eq_true rfl) dX7_yields_12
theorem hiX7_harvest_X7 : ∀ w ∈ wsX70, w ∈ wsX7_harvest := fun _ h => (List.mem_cons_of_mem _ (List.mem_append_left _ (List.mem_append_left _ (List.mem_append_left _ (List.mem_append_left _ (List.mem_append_right _ h))))))
theorem hdX7_harvest : yX7_harvest.cls = RX7 ∧ yX7_harvest.cls ≠ "java/lang/invoke/MethodHandle" ∧ yX7_harvest.cls ≠ "java/lang/invoke/VarHandle" ∧ (parseMethodDescriptor yX7_harvest.desc).map (fun d => d.parameters.length) = some 1 := by decide +kernel
set_option maxRecDepth 100000 in
set_option maxHeartbeats 4000000 in
/-- X7_harvest -/
theorem kX7_harvest (l : Launch) (D : va_G) (cI cS : ClassId) (ad : Nat → Nat) (left : Int32) (lastF : Int32) (lf : Nat → Int32) (gt : Nat → Int32) (hl : Nat → Int32) (am : Nat → Int32) (so : Nat → Int32) (N : Nat) (wind : Int32) (low : Int32) (forb : Int32) (club : Nat → Int32) (need : Nat → Int32) (worth : Nat → Int32) (nc : Nat) (cat : Nat → Int32) (cwet : Nat → Int32) (chigh : Nat → Int32) (ns : Nat) (kd : Nat → Int32) (fr : Nat → Int32) (hor : Nat → Int32) (pw : Nat → Int32) (x : Int32) (hN : N ≤ 8) (hnc : nc ≤ 6) (hns : ns ≤ 8) (hwf : ∀ s, s < ns → 0 ≤ fr s ∧ fr s < nI N) : kyM l yX7_harvest wsX7_harvest ({ frames := 5, cells := 0, slots := 0, locals := 125 }) D cI cS [.ref (ad 0), .int x] [(ad 0, .inr (7, [.ref (ad 1), .ref (ad 10), .ref (ad 14), .ref (ad 18), .ref (ad 23), .ref (ad 29), .ref (ad 32), .int left, .int lastF])), (ad 23, .inr (1, [.ref (ad 24), .ref (ad 25), .ref (ad 26), .ref (ad 27), .ref (ad 28), .ref (ad 10), .ref (ad 14), .ref (ad 18)])), (ad 24, .inl (cI, 6, .inl lf)), (ad 25, .inl (cI, 8, .inl gt)), (ad 26, .inl (cI, 8, .inl hl)), (ad 27, .inl (cI, 10, .inl am)), (ad 28, .inl (cI, 10, .inl so)), (ad 10, .inr (3, [.ref (ad 11), .ref (ad 12), .ref (ad 13), .int (nI N), .int wind, .int low, .int forb])), (ad 11, .inl (cI, 8, .inl club)), (ad 12, .inl (cI, 8, .inl need)), (ad 13, .inl (cI, 8, .inl worth)), (ad 14, .inr (6, [.ref (ad 15), .ref (ad 16), .ref (ad 17), .int (nI nc)])), (ad 15, .inl (cI, 6, .inl cat)), (ad 16, .inl (cI, 6, .inl cwet)), (ad 17, .inl (cI, 6, .inl chigh)), (ad 18, .inr (5, [.ref (ad 19), .ref (ad 20), .ref (ad 21), .ref (ad 22), .int (nI ns)])), (ad 19, .inl (cI, 10, .inl kd)), (ad 20, .inl (cI, 10, .inl fr)), (ad 21, .inl (cI, 10, .inl hor)), (ad 22, .inl (cI, 10, .inl pw))] 0 0 (fun vR wR => ∃ r2 : Int32, ∃ lf2 : Nat → Int32, ∃ gt2 : Nat → Int32, ∃ hl2 : Nat → Int32, ∃ am2 : Nat → Int32, ∃ so2 : Nat → Int32, vR = some (.int r2) ∧ wR = [(ad 0, .inr (7, [.ref (ad 1), .ref (ad 10), .ref (ad 14), .ref (ad 18), .ref (ad 23), .ref (ad 29), .ref (ad 32), .int left, .int lastF])), (ad 23, .inr (1, [.ref (ad 24), .ref (ad 25), .ref (ad 26), .ref (ad 27), .ref (ad 28), .ref (ad 10), .ref (ad 14), .ref (ad 18)])), (ad 24, .inl (cI, 6, .inl lf2)), (ad 25, .inl (cI, 8, .inl gt2)), (ad 26, .inl (cI, 8, .inl hl2)), (ad 27, .inl (cI, 10, .inl am2)), (ad 28, .inl (cI, 10, .inl so2)), (ad 10, .inr (3, [.ref (ad 11), .ref (ad 12), .ref (ad 13), .int (nI N), .int wind, .int low, .int forb])), (ad 11, .inl (cI, 8, .inl club)), (ad 12, .inl (cI, 8, .inl need)), (ad 13, .inl (cI, 8, .inl worth)), (ad 14, .inr (6, [.ref (ad 15), .ref (ad 16), .ref (ad 17), .int (nI nc)])), (ad 15, .inl (cI, 6, .inl cat)), (ad 16, .inl (cI, 6, .inl cwet)), (ad 17, .inl (cI, 6, .inl chigh)), (ad 18, .inr (5, [.ref (ad 19), .ref (ad 20), .ref (ad 21), .ref (ad 22), .int (nI ns)])), (ad 19, .inl (cI, 10, .inl kd)), (ad 20, .inl (cI, 10, .inl fr)), (ad 21, .inl (cI, 10, .inl hor)), (ad 22, .inl (cI, 10, .inl pw))] ∧ (r2 = kF_harvest (N, nc, low, cat, cwet, chigh, kd, fr, hor, pw) wind club need worth ns x)) := by
  refine ky_start (own := RX7) (cc := cX7_harvest) (nL := 2) (ret := (some .int)) (by decide) rfl rfl (Nat.le_of_ble_eq_true rfl) ?_
  intro p e s m args below meth c C hr hlk hnm
  refine ky_conv (lv' := [(0, .ref (ad 0)), (1, .int x)]) (List.range 2) rfl rfl rfl ?_
  refine ky_iload_n C 1 dX7_harvest_0 rfl rfl ?_
  refine ky_iconst C dX7_harvest_1 (v := (-1)) (by decide) ?_
  refine ky_icmp_eq C 14 dX7_harvest_2 (by decide) (fun c_2 => ?_) (fun c_2 => ?_)
  · refine ky_aload_n C 0 dX7_harvest_14 rfl rfl ?_
    refine ky_get C (ci := 7) (T := TX7) (N := 9) (Cn := RX7) (ref := "RainAccount") hiX7_harvest_X7 0 rfl rfl 4 (by decide) (List.mem_of_getElem? (i := 1) rfl) rfl (v := .ref (ad 23)) rfl dX7_harvest_15 ?_
    refine ky_bipush C dX7_harvest_18 (v := 12) (by decide) ?_
    refine ky_callV0 C 1 (kX1_runUpTo l D cI cS ad lf gt hl am so N wind low forb nc cat cwet chigh ns kd fr hor pw 12 (by first | assumption | omega) (by first | assumption | omega) (by first | assumption | omega) (by first | assumption | omega) (by first | assumption | omega)) gX7_harvest_X1_runUpTo rfl rfl rfl hdX1_runUpTo 1 1 rfl rfl rfl ⟨Nat.le_of_ble_eq_true rfl, Nat.le_of_ble_eq_true rfl⟩ rfl rfl (Nat.le_of_ble_eq_true rfl) dX7_harvest_20 [1, 2, 3, 4, 5, 6, 7, 11, 12, 13, 14, 15, 16, 17, 18, 19] rfl rfl ?_
    rintro _ _ ⟨lf2_20, gt2_20, hl2_20, am2_20, so2_20, rfl, rfl, hr1_20, hr2_20⟩
    refine ky_ws (ws' := [(ad 0, .inr (7, [.ref (ad 1), .ref (ad 10), .ref (ad 14), .ref (ad 18), .ref (ad 23), .ref (ad 29), .ref (ad 32), .int left, .int lastF])), (ad 23, .inr (1, [.ref (ad 24), .ref (ad 25), .ref (ad 26), .ref (ad 27), .ref (ad 28), .ref (ad 10), .ref (ad 14), .ref (ad 18)])), (ad 24, .inl (cI, 6, .inl lf2_20)), (ad 25, .inl (cI, 8, .inl gt2_20)), (ad 26, .inl (cI, 8, .inl hl2_20)), (ad 27, .inl (cI, 10, .inl am2_20)), (ad 28, .inl (cI, 10, .inl so2_20)), (ad 10, .inr (3, [.ref (ad 11), .ref (ad 12), .ref (ad 13), .int (nI N), .int wind, .int low, .int forb])), (ad 11, .inl (cI, 8, .inl club)), (ad 12, .inl (cI, 8, .inl need)), (ad 13, .inl (cI, 8, .inl worth)), (ad 14, .inr (6, [.ref (ad 15), .ref (ad 16), .ref (ad 17), .int (nI nc)])), (ad 15, .inl (cI, 6, .inl cat)), (ad 16, .inl (cI, 6, .inl cwet)), (ad 17, .inl (cI, 6, .inl chigh)), (ad 18, .inr (5, [.ref (ad 19), .ref (ad 20), .ref (ad 21), .ref (ad 22), .int (nI ns)])), (ad 19, .inl (cI, 10, .inl kd)), (ad 20, .inl (cI, 10, .inl fr)), (ad 21, .inl (cI, 10, .inl hor)), (ad 22, .inl (cI, 10, .inl pw))]) (st' := []) rfl rfl ?_
    refine ky_aload_n C 0 dX7_harvest_23 rfl rfl ?_
    refine ky_get C (ci := 7) (T := TX7) (N := 9) (Cn := RX7) (ref := "RainAccount") hiX7_harvest_X7 0 rfl rfl 4 (by decide) (List.mem_of_getElem? (i := 1) rfl) rfl (v := .ref (ad 23)) rfl dX7_harvest_24 ?_
    refine ky_iload_n C 1 dX7_harvest_27 rfl rfl ?_
    refine ky_callV0 C 1 (kX1_yieldOf l D cI cS ad gt2_20 hl2_20 N wind low forb club need worth x (by first | assumption | omega)) gX7_harvest_X1_yieldOf rfl rfl rfl hdX1_yieldOf 1 1 rfl rfl rfl ⟨Nat.le_of_ble_eq_true rfl, Nat.le_of_ble_eq_true rfl⟩ rfl rfl (Nat.le_of_ble_eq_true rfl) dX7_harvest_28 [1, 3, 4, 7, 8, 9, 10] rfl rfl ?_
    rintro _ _ ⟨rfl, rfl⟩
    refine ky_ws (ws' := [(ad 0, .inr (7, [.ref (ad 1), .ref (ad 10), .ref (ad 14), .ref (ad 18), .ref (ad 23), .ref (ad 29), .ref (ad 32), .int left, .int lastF])), (ad 23, .inr (1, [.ref (ad 24), .ref (ad 25), .ref (ad 26), .ref (ad 27), .ref (ad 28), .ref (ad 10), .ref (ad 14), .ref (ad 18)])), (ad 24, .inl (cI, 6, .inl lf2_20)), (ad 25, .inl (cI, 8, .inl gt2_20)), (ad 26, .inl (cI, 8, .inl hl2_20)), (ad 27, .inl (cI, 10, .inl am2_20)), (ad 28, .inl (cI, 10, .inl so2_20)), (ad 10, .inr (3, [.ref (ad 11), .ref (ad 12), .ref (ad 13), .int (nI N), .int wind, .int low, .int forb])), (ad 11, .inl (cI, 8, .inl club)), (ad 12, .inl (cI, 8, .inl need)), (ad 13, .inl (cI, 8, .inl worth)), (ad 14, .inr (6, [.ref (ad 15), .ref (ad 16), .ref (ad 17), .int (nI nc)])), (ad 15, .inl (cI, 6, .inl cat)), (ad 16, .inl (cI, 6, .inl cwet)), (ad 17, .inl (cI, 6, .inl chigh)), (ad 18, .inr (5, [.ref (ad 19), .ref (ad 20), .ref (ad 21), .ref (ad 22), .int (nI ns)])), (ad 19, .inl (cI, 10, .inl kd)), (ad 20, .inl (cI, 10, .inl fr)), (ad 21, .inl (cI, 10, .inl hor)), (ad 22, .inl (cI, 10, .inl pw))]) (st' := [.int (kYs club need worth gt2_20 hl2_20 x N)]) rfl rfl ?_
    exact ky_iret C hr hlk ⟨(kYs club need worth gt2_20 hl2_20 x N), lf2_20, gt2_20, hl2_20, am2_20, so2_20, rfl, rfl, (by simp only [kF_harvest, kYd, if_pos c_2, ← hr1_20])⟩ (Nat.le_of_ble_eq_true rfl) dX7_harvest_31
  · refine ky_iload_n C 1 dX7_harvest_5 rfl rfl ?_
    refine ky_callS0 C 1 (kX7_isClub l D cI cS x) gX7_harvest_X7_isClub rfl rfl rfl hdX7_isClub.2 ⟨Nat.le_of_ble_eq_true rfl, Nat.le_of_ble_eq_true rfl⟩ rfl rfl (Nat.le_of_ble_eq_true rfl) dX7_harvest_6 [] rfl rfl ?_
    rintro _ _ ⟨rfl, rfl⟩
    refine ky_ws (ws' := [(ad 0, .inr (7, [.ref (ad 1), .ref (ad 10), .ref (ad 14), .ref (ad 18), .ref (ad 23), .ref (ad 29), .ref (ad 32), .int left, .int lastF])), (ad 23, .inr (1, [.ref (ad 24), .ref (ad 25), .ref (ad 26), .ref (ad 27), .ref (ad 28), .ref (ad 10), .ref (ad 14), .ref (ad 18)])), (ad 24, .inl (cI, 6, .inl lf)), (ad 25, .inl (cI, 8, .inl gt)), (ad 26, .inl (cI, 8, .inl hl)), (ad 27, .inl (cI, 10, .inl am)), (ad 28, .inl (cI, 10, .inl so)), (ad 10, .inr (3, [.ref (ad 11), .ref (ad 12), .ref (ad 13), .int (nI N), .int wind, .int low, .int forb])), (ad 11, .inl (cI, 8, .inl club)), (ad 12, .inl (cI, 8, .inl need)), (ad 13, .inl (cI, 8, .inl worth)), (ad 14, .inr (6, [.ref (ad 15), .ref (ad 16), .ref (ad 17), .int (nI nc)])), (ad 15, .inl (cI, 6, .inl cat)), (ad 16, .inl (cI, 6, .inl cwet)), (ad 17, .inl (cI, 6, .inl chigh)), (ad 18, .inr (5, [.ref (ad 19), .ref (ad 20), .ref (ad 21), .ref (ad 22), .int (nI ns)])), (ad 19, .inl (cI, 10, .inl kd)), (ad 20, .inl (cI, 10, .inl fr)), (ad 21, .inl (cI, 10, .inl hor)), (ad 22, .inl (cI, 10, .inl pw))]) (st' := [.int (if 0 ≤ x ∧ x ≤ 3 then (1 : Int32) else 0)]) rfl rfl ?_
    refine ky_if_ne C 14 dX7_harvest_9 (by decide) (fun c_9 => ?_) (fun c_9 => ?_)
    · have c_9 : 0 ≤ x ∧ x ≤ 3 := kb1 c_9
      refine ky_aload_n C 0 dX7_harvest_14 rfl rfl ?_
      refine ky_get C (ci := 7) (T := TX7) (N := 9) (Cn := RX7) (ref := "RainAccount") hiX7_harvest_X7 0 rfl rfl 4 (by decide) (List.mem_of_getElem? (i := 1) rfl) rfl (v := .ref (ad 23)) rfl dX7_harvest_15 ?_
      refine ky_bipush C dX7_harvest_18 (v := 12) (by decide) ?_
      refine ky_callV0 C 1 (kX1_runUpTo l D cI cS ad lf gt hl am so N wind low forb nc cat cwet chigh ns kd fr hor pw 12 (by first | assumption | omega) (by first | assumption | omega) (by first | assumption | omega) (by first | assumption | omega) (by first | assumption | omega)) gX7_harvest_X1_runUpTo rfl rfl rfl hdX1_runUpTo 1 1 rfl rfl rfl ⟨Nat.le_of_ble_eq_true rfl, Nat.le_of_ble_eq_true rfl⟩ rfl rfl (Nat.le_of_ble_eq_true rfl) dX7_harvest_20 [1, 2, 3, 4, 5, 6, 7, 11, 12, 13, 14, 15, 16, 17, 18, 19] rfl rfl ?_
      rintro _ _ ⟨lf2_20, gt2_20, hl2_20, am2_20, so2_20, rfl, rfl, hr1_20, hr2_20⟩
      refine ky_ws (ws' := [(ad 0, .inr (7, [.ref (ad 1), .ref (ad 10), .ref (ad 14), .ref (ad 18), .ref (ad 23), .ref (ad 29), .ref (ad 32), .int left, .int lastF])), (ad 23, .inr (1, [.ref (ad 24), .ref (ad 25), .ref (ad 26), .ref (ad 27), .ref (ad 28), .ref (ad 10), .ref (ad 14), .ref (ad 18)])), (ad 24, .inl (cI, 6, .inl lf2_20)), (ad 25, .inl (cI, 8, .inl gt2_20)), (ad 26, .inl (cI, 8, .inl hl2_20)), (ad 27, .inl (cI, 10, .inl am2_20)), (ad 28, .inl (cI, 10, .inl so2_20)), (ad 10, .inr (3, [.ref (ad 11), .ref (ad 12), .ref (ad 13), .int (nI N), .int wind, .int low, .int forb])), (ad 11, .inl (cI, 8, .inl club)), (ad 12, .inl (cI, 8, .inl need)), (ad 13, .inl (cI, 8, .inl worth)), (ad 14, .inr (6, [.ref (ad 15), .ref (ad 16), .ref (ad 17), .int (nI nc)])), (ad 15, .inl (cI, 6, .inl cat)), (ad 16, .inl (cI, 6, .inl cwet)), (ad 17, .inl (cI, 6, .inl chigh)), (ad 18, .inr (5, [.ref (ad 19), .ref (ad 20), .ref (ad 21), .ref (ad 22), .int (nI ns)])), (ad 19, .inl (cI, 10, .inl kd)), (ad 20, .inl (cI, 10, .inl fr)), (ad 21, .inl (cI, 10, .inl hor)), (ad 22, .inl (cI, 10, .inl pw))]) (st' := []) rfl rfl ?_
      refine ky_aload_n C 0 dX7_harvest_23 rfl rfl ?_
      refine ky_get C (ci := 7) (T := TX7) (N := 9) (Cn := RX7) (ref := "RainAccount") hiX7_harvest_X7 0 rfl rfl 4 (by decide) (List.mem_of_getElem? (i := 1) rfl) rfl (v := .ref (ad 23)) rfl dX7_harvest_24 ?_
      refine ky_iload_n C 1 dX7_harvest_27 rfl rfl ?_
      refine ky_callV0 C 1 (kX1_yieldOf l D cI cS ad gt2_20 hl2_20 N wind low forb club need worth x (by first | assumption | omega)) gX7_harvest_X1_yieldOf rfl rfl rfl hdX1_yieldOf 1 1 rfl rfl rfl ⟨Nat.le_of_ble_eq_true rfl, Nat.le_of_ble_eq_true rfl⟩ rfl rfl (Nat.le_of_ble_eq_true rfl) dX7_harvest_28 [1, 3, 4, 7, 8, 9, 10] rfl rfl ?_
      rintro _ _ ⟨rfl, rfl⟩
      refine ky_ws (ws' := [(ad 0, .inr (7, [.ref (ad 1), .ref (ad 10), .ref (ad 14), .ref (ad 18), .ref (ad 23), .ref (ad 29), .ref (ad 32), .int left, .int lastF])), (ad 23, .inr (1, [.ref (ad 24), .ref (ad 25), .ref (ad 26), .ref (ad 27), .ref (ad 28), .ref (ad 10), .ref (ad 14), .ref (ad 18)])), (ad 24, .inl (cI, 6, .inl lf2_20)), (ad 25, .inl (cI, 8, .inl gt2_20)), (ad 26, .inl (cI, 8, .inl hl2_20)), (ad 27, .inl (cI, 10, .inl am2_20)), (ad 28, .inl (cI, 10, .inl so2_20)), (ad 10, .inr (3, [.ref (ad 11), .ref (ad 12), .ref (ad 13), .int (nI N), .int wind, .int low, .int forb])), (ad 11, .inl (cI, 8, .inl club)), (ad 12, .inl (cI, 8, .inl need)), (ad 13, .inl (cI, 8, .inl worth)), (ad 14, .inr (6, [.ref (ad 15), .ref (ad 16), .ref (ad 17), .int (nI nc)])), (ad 15, .inl (cI, 6, .inl cat)), (ad 16, .inl (cI, 6, .inl cwet)), (ad 17, .inl (cI, 6, .inl chigh)), (ad 18, .inr (5, [.ref (ad 19), .ref (ad 20), .ref (ad 21), .ref (ad 22), .int (nI ns)])), (ad 19, .inl (cI, 10, .inl kd)), (ad 20, .inl (cI, 10, .inl fr)), (ad 21, .inl (cI, 10, .inl hor)), (ad 22, .inl (cI, 10, .inl pw))]) (st' := [.int (kYs club need worth gt2_20 hl2_20 x N)]) rfl rfl ?_
      exact ky_iret C hr hlk ⟨(kYs club need worth gt2_20 hl2_20 x N), lf2_20, gt2_20, hl2_20, am2_20, so2_20, rfl, rfl, (by simp only [kF_harvest, kYd, if_neg c_2, if_pos c_9, ← hr1_20])⟩ (Nat.le_of_ble_eq_true rfl) dX7_harvest_31
    · have c_9 : ¬ (0 ≤ x ∧ x ≤ 3) := kb0 c_9
      refine ky_iconst C dX7_harvest_12 (v := (-1)) (by decide) ?_
      exact ky_iret C hr hlk ⟨(-1), lf, gt, hl, am, so, rfl, rfl, (by simp only [kF_harvest, if_neg c_2, if_neg c_9])⟩ (Nat.le_of_ble_eq_true rfl) dX7_harvest_13
theorem hiX7_brought_X7 : ∀ w ∈ wsX70, w ∈ wsX7_brought := fun _ h => (List.mem_cons_of_mem _ (List.mem_append_left _ (List.mem_append_left _ (List.mem_append_left _ (List.mem_append_left _ (List.mem_append_left _ (List.mem_append_right _ h)))))))
theorem hdX7_brought : yX7_brought.cls = RX7 ∧ yX7_brought.cls ≠ "java/lang/invoke/MethodHandle" ∧ yX7_brought.cls ≠ "java/lang/invoke/VarHandle" ∧ (parseMethodDescriptor yX7_brought.desc).map (fun d => d.parameters.length) = some 2 := by decide +kernel
set_option maxRecDepth 100000 in
set_option maxHeartbeats 4000000 in
/-- X7_brought -/
theorem kX7_brought (l : Launch) (D : va_G) (cI cS : ClassId) (ad : Nat → Nat) (left : Int32) (lastF : Int32) (bp : Int32) (by0 : Int32) (lf : Nat → Int32) (gt : Nat → Int32) (hl : Nat → Int32) (am : Nat → Int32) (so : Nat → Int32) (N : Nat) (wind : Int32) (low : Int32) (forb : Int32) (club : Nat → Int32) (need : Nat → Int32) (worth : Nat → Int32) (nc : Nat) (cat : Nat → Int32) (cwet : Nat → Int32) (chigh : Nat → Int32) (ns : Nat) (kd : Nat → Int32) (fr : Nat → Int32) (hor : Nat → Int32) (pw : Nat → Int32) (x : Int32) (y : Int32) (hN : N ≤ 8) (hnc : nc ≤ 6) (hns : ns ≤ 8) (hwf : ∀ s, s < ns → 0 ≤ fr s ∧ fr s < nI N) : kyM l yX7_brought wsX7_brought ({ frames := 6, cells := 0, slots := 0, locals := 148 }) D cI cS [.ref (ad 0), .int x, .int y] [(ad 0, .inr (7, [.ref (ad 1), .ref (ad 10), .ref (ad 14), .ref (ad 18), .ref (ad 23), .ref (ad 29), .ref (ad 32), .int left, .int lastF])), (ad 29, .inr (0, [.int bp, .int by0, .ref (ad 30), .ref (ad 31), .ref (ad 10), .ref (ad 18), .ref (ad 23)])), (ad 23, .inr (1, [.ref (ad 24), .ref (ad 25), .ref (ad 26), .ref (ad 27), .ref (ad 28), .ref (ad 10), .ref (ad 14), .ref (ad 18)])), (ad 24, .inl (cI, 6, .inl lf)), (ad 25, .inl (cI, 8, .inl gt)), (ad 26, .inl (cI, 8, .inl hl)), (ad 27, .inl (cI, 10, .inl am)), (ad 28, .inl (cI, 10, .inl so)), (ad 10, .inr (3, [.ref (ad 11), .ref (ad 12), .ref (ad 13), .int (nI N), .int wind, .int low, .int forb])), (ad 11, .inl (cI, 8, .inl club)), (ad 12, .inl (cI, 8, .inl need)), (ad 13, .inl (cI, 8, .inl worth)), (ad 14, .inr (6, [.ref (ad 15), .ref (ad 16), .ref (ad 17), .int (nI nc)])), (ad 15, .inl (cI, 6, .inl cat)), (ad 16, .inl (cI, 6, .inl cwet)), (ad 17, .inl (cI, 6, .inl chigh)), (ad 18, .inr (5, [.ref (ad 19), .ref (ad 20), .ref (ad 21), .ref (ad 22), .int (nI ns)])), (ad 19, .inl (cI, 10, .inl kd)), (ad 20, .inl (cI, 10, .inl fr)), (ad 21, .inl (cI, 10, .inl hor)), (ad 22, .inl (cI, 10, .inl pw))] 0 0 (fun vR wR => ∃ r2 : Int64, ∃ lf2 : Nat → Int32, ∃ gt2 : Nat → Int32, ∃ hl2 : Nat → Int32, ∃ am2 : Nat → Int32, ∃ so2 : Nat → Int32, vR = some (.long r2) ∧ wR = [(ad 0, .inr (7, [.ref (ad 1), .ref (ad 10), .ref (ad 14), .ref (ad 18), .ref (ad 23), .ref (ad 29), .ref (ad 32), .int left, .int lastF])), (ad 29, .inr (0, [.int bp, .int by0, .ref (ad 30), .ref (ad 31), .ref (ad 10), .ref (ad 18), .ref (ad 23)])), (ad 23, .inr (1, [.ref (ad 24), .ref (ad 25), .ref (ad 26), .ref (ad 27), .ref (ad 28), .ref (ad 10), .ref (ad 14), .ref (ad 18)])), (ad 24, .inl (cI, 6, .inl lf2)), (ad 25, .inl (cI, 8, .inl gt2)), (ad 26, .inl (cI, 8, .inl hl2)), (ad 27, .inl (cI, 10, .inl am2)), (ad 28, .inl (cI, 10, .inl so2)), (ad 10, .inr (3, [.ref (ad 11), .ref (ad 12), .ref (ad 13), .int (nI N), .int wind, .int low, .int forb])), (ad 11, .inl (cI, 8, .inl club)), (ad 12, .inl (cI, 8, .inl need)), (ad 13, .inl (cI, 8, .inl worth)), (ad 14, .inr (6, [.ref (ad 15), .ref (ad 16), .ref (ad 17), .int (nI nc)])), (ad 15, .inl (cI, 6, .inl cat)), (ad 16, .inl (cI, 6, .inl cwet)), (ad 17, .inl (cI, 6, .inl chigh)), (ad 18, .inr (5, [.ref (ad 19), .ref (ad 20), .ref (ad 21), .ref (ad 22), .int (nI ns)])), (ad 19, .inl (cI, 10, .inl kd)), (ad 20, .inl (cI, 10, .inl fr)), (ad 21, .inl (cI, 10, .inl hor)), (ad 22, .inl (cI, 10, .inl pw))] ∧ (r2 = kF_brought (N, nc, low, cat, cwet, chigh, kd, fr, hor, pw) wind club need worth ns x y)) := by
  refine ky_start (own := RX7) (cc := cX7_brought) (nL := 3) (ret := (some .long)) (by decide) rfl rfl (Nat.le_of_ble_eq_true rfl) ?_
  intro p e s m args below meth c C hr hlk hnm
  refine ky_conv (lv' := [(0, .ref (ad 0)), (1, .int x), (2, .int y)]) (List.range 3) rfl rfl rfl ?_
  refine ky_aload_n C 0 dX7_brought_0 rfl rfl ?_
  refine ky_get C (ci := 7) (T := TX7) (N := 9) (Cn := RX7) (ref := "RainAccount") hiX7_brought_X7 0 rfl rfl 3 (by decide) (List.mem_of_getElem? (i := 1) rfl) rfl (v := .ref (ad 18)) rfl dX7_brought_1 ?_
  refine ky_iload_n C 1 dX7_brought_4 rfl rfl ?_
  refine ky_callV0 C 1 (kX5_isShot l D cI cS ad ns x) gX7_brought_X5_isShot rfl rfl rfl hdX5_isShot 16 5 rfl rfl rfl ⟨Nat.le_of_ble_eq_true rfl, Nat.le_of_ble_eq_true rfl⟩ rfl rfl (Nat.le_of_ble_eq_true rfl) dX7_brought_5 [16] rfl rfl ?_
  rintro _ _ ⟨rfl, rfl⟩
  refine ky_ws (ws' := [(ad 0, .inr (7, [.ref (ad 1), .ref (ad 10), .ref (ad 14), .ref (ad 18), .ref (ad 23), .ref (ad 29), .ref (ad 32), .int left, .int lastF])), (ad 29, .inr (0, [.int bp, .int by0, .ref (ad 30), .ref (ad 31), .ref (ad 10), .ref (ad 18), .ref (ad 23)])), (ad 23, .inr (1, [.ref (ad 24), .ref (ad 25), .ref (ad 26), .ref (ad 27), .ref (ad 28), .ref (ad 10), .ref (ad 14), .ref (ad 18)])), (ad 24, .inl (cI, 6, .inl lf)), (ad 25, .inl (cI, 8, .inl gt)), (ad 26, .inl (cI, 8, .inl hl)), (ad 27, .inl (cI, 10, .inl am)), (ad 28, .inl (cI, 10, .inl so)), (ad 10, .inr (3, [.ref (ad 11), .ref (ad 12), .ref (ad 13), .int (nI N), .int wind, .int low, .int forb])), (ad 11, .inl (cI, 8, .inl club)), (ad 12, .inl (cI, 8, .inl need)), (ad 13, .inl (cI, 8, .inl worth)), (ad 14, .inr (6, [.ref (ad 15), .ref (ad 16), .ref (ad 17), .int (nI nc)])), (ad 15, .inl (cI, 6, .inl cat)), (ad 16, .inl (cI, 6, .inl cwet)), (ad 17, .inl (cI, 6, .inl chigh)), (ad 18, .inr (5, [.ref (ad 19), .ref (ad 20), .ref (ad 21), .ref (ad 22), .int (nI ns)])), (ad 19, .inl (cI, 10, .inl kd)), (ad 20, .inl (cI, 10, .inl fr)), (ad 21, .inl (cI, 10, .inl hor)), (ad 22, .inl (cI, 10, .inl pw))]) (st' := [.int (if 0 ≤ x ∧ x < nI ns then (1 : Int32) else 0)]) rfl rfl ?_
  refine ky_if_eq C 23 dX7_brought_8 (by decide) (fun c_8 => ?_) (fun c_8 => ?_)
  · have c_8 : ¬ (0 ≤ x ∧ x < nI ns) := kb0 c_8
    refine ky_ldc2 C (List.mem_of_getElem? (i := 2) rfl) dX7_brought_23 ?_
    exact ky_lret C hr hlk ⟨(-9223372036854775808), lf, gt, hl, am, so, rfl, rfl, (by simp only [kF_brought, if_neg c_8])⟩ (Nat.le_of_ble_eq_true rfl) dX7_brought_26
  · have c_8 : 0 ≤ x ∧ x < nI ns := kb1 c_8
    refine ky_iload_n C 2 dX7_brought_11 rfl rfl ?_
    refine ky_iconst C dX7_brought_12 (v := (-1)) (by decide) ?_
    refine ky_icmp_eq C 27 dX7_brought_13 (by decide) (fun c_13 => ?_) (fun c_13 => ?_)
    · obtain ⟨j, hj, rfl⟩ := kix (n := ns) c_8 (by omega)
      have hcj : (nI j).toNatClampNeg = j := nI_clamp (by omega)
      refine ky_aload_n C 0 dX7_brought_27 rfl rfl ?_
      refine ky_get C (ci := 7) (T := TX7) (N := 9) (Cn := RX7) (ref := "RainAccount") hiX7_brought_X7 0 rfl rfl 5 (by decide) (List.mem_of_getElem? (i := 3) rfl) rfl (v := .ref (ad 29)) rfl dX7_brought_28 ?_
      refine ky_iload_n C 1 dX7_brought_31 rfl rfl ?_
      refine ky_iload_n C 2 dX7_brought_32 rfl rfl ?_
      refine ky_callV0 C 2 (kX0_gainBy l D cI cS ad bp by0 lf gt hl am so N wind low forb club need worth nc cat cwet chigh ns kd fr hor pw j y (by first | assumption | omega) (by first | assumption | omega) (by first | assumption | omega) (by first | assumption | omega) (by first | assumption | omega)) gX7_brought_X0_gainBy rfl rfl rfl hdX0_gainBy 1 0 rfl rfl rfl ⟨Nat.le_of_ble_eq_true rfl, Nat.le_of_ble_eq_true rfl⟩ rfl rfl (Nat.le_of_ble_eq_true rfl) dX7_brought_33 [1, 2, 3, 4, 5, 6, 7, 8, 9, 10, 11, 12, 13, 14, 15, 16, 17, 18, 19, 20] rfl rfl ?_
      rintro _ _ ⟨lf2_33, gt2_33, hl2_33, am2_33, so2_33, rfl, rfl⟩
      refine ky_ws (ws' := [(ad 0, .inr (7, [.ref (ad 1), .ref (ad 10), .ref (ad 14), .ref (ad 18), .ref (ad 23), .ref (ad 29), .ref (ad 32), .int left, .int lastF])), (ad 29, .inr (0, [.int bp, .int by0, .ref (ad 30), .ref (ad 31), .ref (ad 10), .ref (ad 18), .ref (ad 23)])), (ad 23, .inr (1, [.ref (ad 24), .ref (ad 25), .ref (ad 26), .ref (ad 27), .ref (ad 28), .ref (ad 10), .ref (ad 14), .ref (ad 18)])), (ad 24, .inl (cI, 6, .inl lf2_33)), (ad 25, .inl (cI, 8, .inl gt2_33)), (ad 26, .inl (cI, 8, .inl hl2_33)), (ad 27, .inl (cI, 10, .inl am2_33)), (ad 28, .inl (cI, 10, .inl so2_33)), (ad 10, .inr (3, [.ref (ad 11), .ref (ad 12), .ref (ad 13), .int (nI N), .int wind, .int low, .int forb])), (ad 11, .inl (cI, 8, .inl club)), (ad 12, .inl (cI, 8, .inl need)), (ad 13, .inl (cI, 8, .inl worth)), (ad 14, .inr (6, [.ref (ad 15), .ref (ad 16), .ref (ad 17), .int (nI nc)])), (ad 15, .inl (cI, 6, .inl cat)), (ad 16, .inl (cI, 6, .inl cwet)), (ad 17, .inl (cI, 6, .inl chigh)), (ad 18, .inr (5, [.ref (ad 19), .ref (ad 20), .ref (ad 21), .ref (ad 22), .int (nI ns)])), (ad 19, .inl (cI, 10, .inl kd)), (ad 20, .inl (cI, 10, .inl fr)), (ad 21, .inl (cI, 10, .inl hor)), (ad 22, .inl (cI, 10, .inl pw))]) (st' := [.int (kYd club need worth y N (kDay (N, nc, low, cat, cwet, chigh, kd, fr, hor, pw) wind (kAll ns) 12) - kYd club need worth y N (kDay (N, nc, low, cat, cwet, chigh, kd, fr, hor, pw) wind (kBut ns j) 12))]) rfl rfl ?_
      refine ky_i2l C (v := (kYd club need worth y N (kDay (N, nc, low, cat, cwet, chigh, kd, fr, hor, pw) wind (kAll ns) 12) - kYd club need worth y N (kDay (N, nc, low, cat, cwet, chigh, kd, fr, hor, pw) wind (kBut ns j) 12)).toInt64) dX7_brought_36 rfl ?_
      exact ky_lret C hr hlk ⟨((kYd club need worth y N (kDay (N, nc, low, cat, cwet, chigh, kd, fr, hor, pw) wind (kAll ns) 12) - kYd club need worth y N (kDay (N, nc, low, cat, cwet, chigh, kd, fr, hor, pw) wind (kBut ns j) 12)).toInt64), lf2_33, gt2_33, hl2_33, am2_33, so2_33, rfl, rfl, (by simp only [kF_brought, kGain, if_pos c_8, if_pos c_13, hcj])⟩ (Nat.le_of_ble_eq_true rfl) dX7_brought_37
    · refine ky_iload_n C 2 dX7_brought_16 rfl rfl ?_
      refine ky_callS0 C 1 (kX7_isClub l D cI cS y) gX7_brought_X7_isClub rfl rfl rfl hdX7_isClub.2 ⟨Nat.le_of_ble_eq_true rfl, Nat.le_of_ble_eq_true rfl⟩ rfl rfl (Nat.le_of_ble_eq_true rfl) dX7_brought_17 [] rfl rfl ?_
      rintro _ _ ⟨rfl, rfl⟩
      refine ky_ws (ws' := [(ad 0, .inr (7, [.ref (ad 1), .ref (ad 10), .ref (ad 14), .ref (ad 18), .ref (ad 23), .ref (ad 29), .ref (ad 32), .int left, .int lastF])), (ad 29, .inr (0, [.int bp, .int by0, .ref (ad 30), .ref (ad 31), .ref (ad 10), .ref (ad 18), .ref (ad 23)])), (ad 23, .inr (1, [.ref (ad 24), .ref (ad 25), .ref (ad 26), .ref (ad 27), .ref (ad 28), .ref (ad 10), .ref (ad 14), .ref (ad 18)])), (ad 24, .inl (cI, 6, .inl lf)), (ad 25, .inl (cI, 8, .inl gt)), (ad 26, .inl (cI, 8, .inl hl)), (ad 27, .inl (cI, 10, .inl am)), (ad 28, .inl (cI, 10, .inl so)), (ad 10, .inr (3, [.ref (ad 11), .ref (ad 12), .ref (ad 13), .int (nI N), .int wind, .int low, .int forb])), (ad 11, .inl (cI, 8, .inl club)), (ad 12, .inl (cI, 8, .inl need)), (ad 13, .inl (cI, 8, .inl worth)), (ad 14, .inr (6, [.ref (ad 15), .ref (ad 16), .ref (ad 17), .int (nI nc)])), (ad 15, .inl (cI, 6, .inl cat)), (ad 16, .inl (cI, 6, .inl cwet)), (ad 17, .inl (cI, 6, .inl chigh)), (ad 18, .inr (5, [.ref (ad 19), .ref (ad 20), .ref (ad 21), .ref (ad 22), .int (nI ns)])), (ad 19, .inl (cI, 10, .inl kd)), (ad 20, .inl (cI, 10, .inl fr)), (ad 21, .inl (cI, 10, .inl hor)), (ad 22, .inl (cI, 10, .inl pw))]) (st' := [.int (if 0 ≤ y ∧ y ≤ 3 then (1 : Int32) else 0)]) rfl rfl ?_
      refine ky_if_ne C 27 dX7_brought_20 (by decide) (fun c_20 => ?_) (fun c_20 => ?_)
      · have c_20 : 0 ≤ y ∧ y ≤ 3 := kb1 c_20
        obtain ⟨j, hj, rfl⟩ := kix (n := ns) c_8 (by omega)
        have hcj : (nI j).toNatClampNeg = j := nI_clamp (by omega)
        refine ky_aload_n C 0 dX7_brought_27 rfl rfl ?_
        refine ky_get C (ci := 7) (T := TX7) (N := 9) (Cn := RX7) (ref := "RainAccount") hiX7_brought_X7 0 rfl rfl 5 (by decide) (List.mem_of_getElem? (i := 3) rfl) rfl (v := .ref (ad 29)) rfl dX7_brought_28 ?_
        refine ky_iload_n C 1 dX7_brought_31 rfl rfl ?_
        refine ky_iload_n C 2 dX7_brought_32 rfl rfl ?_
        refine ky_callV0 C 2 (kX0_gainBy l D cI cS ad bp by0 lf gt hl am so N wind low forb club need worth nc cat cwet chigh ns kd fr hor pw j y (by first | assumption | omega) (by first | assumption | omega) (by first | assumption | omega) (by first | assumption | omega) (by first | assumption | omega)) gX7_brought_X0_gainBy rfl rfl rfl hdX0_gainBy 1 0 rfl rfl rfl ⟨Nat.le_of_ble_eq_true rfl, Nat.le_of_ble_eq_true rfl⟩ rfl rfl (Nat.le_of_ble_eq_true rfl) dX7_brought_33 [1, 2, 3, 4, 5, 6, 7, 8, 9, 10, 11, 12, 13, 14, 15, 16, 17, 18, 19, 20] rfl rfl ?_
        rintro _ _ ⟨lf2_33, gt2_33, hl2_33, am2_33, so2_33, rfl, rfl⟩
        refine ky_ws (ws' := [(ad 0, .inr (7, [.ref (ad 1), .ref (ad 10), .ref (ad 14), .ref (ad 18), .ref (ad 23), .ref (ad 29), .ref (ad 32), .int left, .int lastF])), (ad 29, .inr (0, [.int bp, .int by0, .ref (ad 30), .ref (ad 31), .ref (ad 10), .ref (ad 18), .ref (ad 23)])), (ad 23, .inr (1, [.ref (ad 24), .ref (ad 25), .ref (ad 26), .ref (ad 27), .ref (ad 28), .ref (ad 10), .ref (ad 14), .ref (ad 18)])), (ad 24, .inl (cI, 6, .inl lf2_33)), (ad 25, .inl (cI, 8, .inl gt2_33)), (ad 26, .inl (cI, 8, .inl hl2_33)), (ad 27, .inl (cI, 10, .inl am2_33)), (ad 28, .inl (cI, 10, .inl so2_33)), (ad 10, .inr (3, [.ref (ad 11), .ref (ad 12), .ref (ad 13), .int (nI N), .int wind, .int low, .int forb])), (ad 11, .inl (cI, 8, .inl club)), (ad 12, .inl (cI, 8, .inl need)), (ad 13, .inl (cI, 8, .inl worth)), (ad 14, .inr (6, [.ref (ad 15), .ref (ad 16), .ref (ad 17), .int (nI nc)])), (ad 15, .inl (cI, 6, .inl cat)), (ad 16, .inl (cI, 6, .inl cwet)), (ad 17, .inl (cI, 6, .inl chigh)), (ad 18, .inr (5, [.ref (ad 19), .ref (ad 20), .ref (ad 21), .ref (ad 22), .int (nI ns)])), (ad 19, .inl (cI, 10, .inl kd)), (ad 20, .inl (cI, 10, .inl fr)), (ad 21, .inl (cI, 10, .inl hor)), (ad 22, .inl (cI, 10, .inl pw))]) (st' := [.int (kYd club need worth y N (kDay (N, nc, low, cat, cwet, chigh, kd, fr, hor, pw) wind (kAll ns) 12) - kYd club need worth y N (kDay (N, nc, low, cat, cwet, chigh, kd, fr, hor, pw) wind (kBut ns j) 12))]) rfl rfl ?_
        refine ky_i2l C (v := (kYd club need worth y N (kDay (N, nc, low, cat, cwet, chigh, kd, fr, hor, pw) wind (kAll ns) 12) - kYd club need worth y N (kDay (N, nc, low, cat, cwet, chigh, kd, fr, hor, pw) wind (kBut ns j) 12)).toInt64) dX7_brought_36 rfl ?_
        exact ky_lret C hr hlk ⟨((kYd club need worth y N (kDay (N, nc, low, cat, cwet, chigh, kd, fr, hor, pw) wind (kAll ns) 12) - kYd club need worth y N (kDay (N, nc, low, cat, cwet, chigh, kd, fr, hor, pw) wind (kBut ns j) 12)).toInt64), lf2_33, gt2_33, hl2_33, am2_33, so2_33, rfl, rfl, (by simp only [kF_brought, kGain, if_pos c_8, if_neg c_13, if_pos c_20, hcj])⟩ (Nat.le_of_ble_eq_true rfl) dX7_brought_37
      · have c_20 : ¬ (0 ≤ y ∧ y ≤ 3) := kb0 c_20
        refine ky_ldc2 C (List.mem_of_getElem? (i := 2) rfl) dX7_brought_23 ?_
        exact ky_lret C hr hlk ⟨(-9223372036854775808), lf, gt, hl, am, so, rfl, rfl, (by simp only [kF_brought, if_pos c_8, if_neg c_13, if_neg c_20])⟩ (Nat.le_of_ble_eq_true rfl) dX7_brought_26
theorem hiX7_due_X7 : ∀ w ∈ wsX70, w ∈ wsX7_due := fun _ h => (List.mem_cons_of_mem _ (List.mem_append_left _ (List.mem_append_left _ (List.mem_append_left _ (List.mem_append_left _ (List.mem_append_left _ (List.mem_append_right _ h)))))))
theorem hdX7_due : yX7_due.cls = RX7 ∧ yX7_due.cls ≠ "java/lang/invoke/MethodHandle" ∧ yX7_due.cls ≠ "java/lang/invoke/VarHandle" ∧ (parseMethodDescriptor yX7_due.desc).map (fun d => d.parameters.length) = some 2 := by decide +kernel
set_option maxRecDepth 100000 in
set_option maxHeartbeats 4000000 in
/-- X7_due -/
theorem kX7_due (l : Launch) (D : va_G) (cI cS : ClassId) (ad : Nat → Nat) (left : Int32) (lastF : Int32) (bp : Int32) (by0 : Int32) (lf : Nat → Int32) (gt : Nat → Int32) (hl : Nat → Int32) (am : Nat → Int32) (so : Nat → Int32) (N : Nat) (wind : Int32) (low : Int32) (forb : Int32) (club : Nat → Int32) (need : Nat → Int32) (worth : Nat → Int32) (nc : Nat) (cat : Nat → Int32) (cwet : Nat → Int32) (chigh : Nat → Int32) (ns : Nat) (kd : Nat → Int32) (fr : Nat → Int32) (hor : Nat → Int32) (pw : Nat → Int32) (x : Int32) (y : Int32) (hN : N ≤ 8) (hnc : nc ≤ 6) (hns : ns ≤ 8) (hwf : ∀ s, s < ns → 0 ≤ fr s ∧ fr s < nI N) : kyM l yX7_due wsX7_due ({ frames := 6, cells := 0, slots := 0, locals := 148 }) D cI cS [.ref (ad 0), .int x, .int y] [(ad 0, .inr (7, [.ref (ad 1), .ref (ad 10), .ref (ad 14), .ref (ad 18), .ref (ad 23), .ref (ad 29), .ref (ad 32), .int left, .int lastF])), (ad 29, .inr (0, [.int bp, .int by0, .ref (ad 30), .ref (ad 31), .ref (ad 10), .ref (ad 18), .ref (ad 23)])), (ad 23, .inr (1, [.ref (ad 24), .ref (ad 25), .ref (ad 26), .ref (ad 27), .ref (ad 28), .ref (ad 10), .ref (ad 14), .ref (ad 18)])), (ad 24, .inl (cI, 6, .inl lf)), (ad 25, .inl (cI, 8, .inl gt)), (ad 26, .inl (cI, 8, .inl hl)), (ad 27, .inl (cI, 10, .inl am)), (ad 28, .inl (cI, 10, .inl so)), (ad 10, .inr (3, [.ref (ad 11), .ref (ad 12), .ref (ad 13), .int (nI N), .int wind, .int low, .int forb])), (ad 11, .inl (cI, 8, .inl club)), (ad 12, .inl (cI, 8, .inl need)), (ad 13, .inl (cI, 8, .inl worth)), (ad 14, .inr (6, [.ref (ad 15), .ref (ad 16), .ref (ad 17), .int (nI nc)])), (ad 15, .inl (cI, 6, .inl cat)), (ad 16, .inl (cI, 6, .inl cwet)), (ad 17, .inl (cI, 6, .inl chigh)), (ad 18, .inr (5, [.ref (ad 19), .ref (ad 20), .ref (ad 21), .ref (ad 22), .int (nI ns)])), (ad 19, .inl (cI, 10, .inl kd)), (ad 20, .inl (cI, 10, .inl fr)), (ad 21, .inl (cI, 10, .inl hor)), (ad 22, .inl (cI, 10, .inl pw))] 0 0 (fun vR wR => ∃ r2 : Int32, ∃ lf2 : Nat → Int32, ∃ gt2 : Nat → Int32, ∃ hl2 : Nat → Int32, ∃ am2 : Nat → Int32, ∃ so2 : Nat → Int32, vR = some (.int r2) ∧ wR = [(ad 0, .inr (7, [.ref (ad 1), .ref (ad 10), .ref (ad 14), .ref (ad 18), .ref (ad 23), .ref (ad 29), .ref (ad 32), .int left, .int lastF])), (ad 29, .inr (0, [.int bp, .int by0, .ref (ad 30), .ref (ad 31), .ref (ad 10), .ref (ad 18), .ref (ad 23)])), (ad 23, .inr (1, [.ref (ad 24), .ref (ad 25), .ref (ad 26), .ref (ad 27), .ref (ad 28), .ref (ad 10), .ref (ad 14), .ref (ad 18)])), (ad 24, .inl (cI, 6, .inl lf2)), (ad 25, .inl (cI, 8, .inl gt2)), (ad 26, .inl (cI, 8, .inl hl2)), (ad 27, .inl (cI, 10, .inl am2)), (ad 28, .inl (cI, 10, .inl so2)), (ad 10, .inr (3, [.ref (ad 11), .ref (ad 12), .ref (ad 13), .int (nI N), .int wind, .int low, .int forb])), (ad 11, .inl (cI, 8, .inl club)), (ad 12, .inl (cI, 8, .inl need)), (ad 13, .inl (cI, 8, .inl worth)), (ad 14, .inr (6, [.ref (ad 15), .ref (ad 16), .ref (ad 17), .int (nI nc)])), (ad 15, .inl (cI, 6, .inl cat)), (ad 16, .inl (cI, 6, .inl cwet)), (ad 17, .inl (cI, 6, .inl chigh)), (ad 18, .inr (5, [.ref (ad 19), .ref (ad 20), .ref (ad 21), .ref (ad 22), .int (nI ns)])), (ad 19, .inl (cI, 10, .inl kd)), (ad 20, .inl (cI, 10, .inl fr)), (ad 21, .inl (cI, 10, .inl hor)), (ad 22, .inl (cI, 10, .inl pw))] ∧ (r2 = kF_due (N, nc, low, cat, cwet, chigh, kd, fr, hor, pw) wind club need worth ns x y)) := by
  refine ky_start (own := RX7) (cc := cX7_due) (nL := 3) (ret := (some .int)) (by decide) rfl rfl (Nat.le_of_ble_eq_true rfl) ?_
  intro p e s m args below meth c C hr hlk hnm
  refine ky_conv (lv' := [(0, .ref (ad 0)), (1, .int x), (2, .int y)]) (List.range 3) rfl rfl rfl ?_
  refine ky_aload_n C 0 dX7_due_0 rfl rfl ?_
  refine ky_get C (ci := 7) (T := TX7) (N := 9) (Cn := RX7) (ref := "RainAccount") hiX7_due_X7 0 rfl rfl 3 (by decide) (List.mem_of_getElem? (i := 1) rfl) rfl (v := .ref (ad 18)) rfl dX7_due_1 ?_
  refine ky_iload_n C 1 dX7_due_4 rfl rfl ?_
  refine ky_callV0 C 1 (kX5_isShot l D cI cS ad ns x) gX7_due_X5_isShot rfl rfl rfl hdX5_isShot 16 5 rfl rfl rfl ⟨Nat.le_of_ble_eq_true rfl, Nat.le_of_ble_eq_true rfl⟩ rfl rfl (Nat.le_of_ble_eq_true rfl) dX7_due_5 [16] rfl rfl ?_
  rintro _ _ ⟨rfl, rfl⟩
  refine ky_ws (ws' := [(ad 0, .inr (7, [.ref (ad 1), .ref (ad 10), .ref (ad 14), .ref (ad 18), .ref (ad 23), .ref (ad 29), .ref (ad 32), .int left, .int lastF])), (ad 29, .inr (0, [.int bp, .int by0, .ref (ad 30), .ref (ad 31), .ref (ad 10), .ref (ad 18), .ref (ad 23)])), (ad 23, .inr (1, [.ref (ad 24), .ref (ad 25), .ref (ad 26), .ref (ad 27), .ref (ad 28), .ref (ad 10), .ref (ad 14), .ref (ad 18)])), (ad 24, .inl (cI, 6, .inl lf)), (ad 25, .inl (cI, 8, .inl gt)), (ad 26, .inl (cI, 8, .inl hl)), (ad 27, .inl (cI, 10, .inl am)), (ad 28, .inl (cI, 10, .inl so)), (ad 10, .inr (3, [.ref (ad 11), .ref (ad 12), .ref (ad 13), .int (nI N), .int wind, .int low, .int forb])), (ad 11, .inl (cI, 8, .inl club)), (ad 12, .inl (cI, 8, .inl need)), (ad 13, .inl (cI, 8, .inl worth)), (ad 14, .inr (6, [.ref (ad 15), .ref (ad 16), .ref (ad 17), .int (nI nc)])), (ad 15, .inl (cI, 6, .inl cat)), (ad 16, .inl (cI, 6, .inl cwet)), (ad 17, .inl (cI, 6, .inl chigh)), (ad 18, .inr (5, [.ref (ad 19), .ref (ad 20), .ref (ad 21), .ref (ad 22), .int (nI ns)])), (ad 19, .inl (cI, 10, .inl kd)), (ad 20, .inl (cI, 10, .inl fr)), (ad 21, .inl (cI, 10, .inl hor)), (ad 22, .inl (cI, 10, .inl pw))]) (st' := [.int (if 0 ≤ x ∧ x < nI ns then (1 : Int32) else 0)]) rfl rfl ?_
  refine ky_if_eq C 18 dX7_due_8 (by decide) (fun c_8 => ?_) (fun c_8 => ?_)
  · have c_8 : ¬ (0 ≤ x ∧ x < nI ns) := kb0 c_8
    refine ky_iconst C dX7_due_18 (v := (-1)) (by decide) ?_
    exact ky_iret C hr hlk ⟨(-1), lf, gt, hl, am, so, rfl, rfl, (by simp only [kF_due, if_neg c_8])⟩ (Nat.le_of_ble_eq_true rfl) dX7_due_19
  · have c_8 : 0 ≤ x ∧ x < nI ns := kb1 c_8
    refine ky_iload_n C 2 dX7_due_11 rfl rfl ?_
    refine ky_callS0 C 1 (kX7_isClub l D cI cS y) gX7_due_X7_isClub rfl rfl rfl hdX7_isClub.2 ⟨Nat.le_of_ble_eq_true rfl, Nat.le_of_ble_eq_true rfl⟩ rfl rfl (Nat.le_of_ble_eq_true rfl) dX7_due_12 [] rfl rfl ?_
    rintro _ _ ⟨rfl, rfl⟩
    refine ky_ws (ws' := [(ad 0, .inr (7, [.ref (ad 1), .ref (ad 10), .ref (ad 14), .ref (ad 18), .ref (ad 23), .ref (ad 29), .ref (ad 32), .int left, .int lastF])), (ad 29, .inr (0, [.int bp, .int by0, .ref (ad 30), .ref (ad 31), .ref (ad 10), .ref (ad 18), .ref (ad 23)])), (ad 23, .inr (1, [.ref (ad 24), .ref (ad 25), .ref (ad 26), .ref (ad 27), .ref (ad 28), .ref (ad 10), .ref (ad 14), .ref (ad 18)])), (ad 24, .inl (cI, 6, .inl lf)), (ad 25, .inl (cI, 8, .inl gt)), (ad 26, .inl (cI, 8, .inl hl)), (ad 27, .inl (cI, 10, .inl am)), (ad 28, .inl (cI, 10, .inl so)), (ad 10, .inr (3, [.ref (ad 11), .ref (ad 12), .ref (ad 13), .int (nI N), .int wind, .int low, .int forb])), (ad 11, .inl (cI, 8, .inl club)), (ad 12, .inl (cI, 8, .inl need)), (ad 13, .inl (cI, 8, .inl worth)), (ad 14, .inr (6, [.ref (ad 15), .ref (ad 16), .ref (ad 17), .int (nI nc)])), (ad 15, .inl (cI, 6, .inl cat)), (ad 16, .inl (cI, 6, .inl cwet)), (ad 17, .inl (cI, 6, .inl chigh)), (ad 18, .inr (5, [.ref (ad 19), .ref (ad 20), .ref (ad 21), .ref (ad 22), .int (nI ns)])), (ad 19, .inl (cI, 10, .inl kd)), (ad 20, .inl (cI, 10, .inl fr)), (ad 21, .inl (cI, 10, .inl hor)), (ad 22, .inl (cI, 10, .inl pw))]) (st' := [.int (if 0 ≤ y ∧ y ≤ 3 then (1 : Int32) else 0)]) rfl rfl ?_
    refine ky_if_ne C 20 dX7_due_15 (by decide) (fun c_15 => ?_) (fun c_15 => ?_)
    · have c_15 : 0 ≤ y ∧ y ≤ 3 := kb1 c_15
      obtain ⟨j, hj, rfl⟩ := kix (n := ns) c_8 (by omega)
      have hcj : (nI j).toNatClampNeg = j := nI_clamp (by omega)
      refine ky_iconst C dX7_due_20 (v := 0) (by decide) ?_
      refine ky_aload_n C 0 dX7_due_21 rfl rfl ?_
      refine ky_get C (ci := 7) (T := TX7) (N := 9) (Cn := RX7) (ref := "RainAccount") hiX7_due_X7 0 rfl rfl 5 (by decide) (List.mem_of_getElem? (i := 2) rfl) rfl (v := .ref (ad 29)) rfl dX7_due_22 ?_
      refine ky_iload_n C 1 dX7_due_25 rfl rfl ?_
      refine ky_iload_n C 2 dX7_due_26 rfl rfl ?_
      refine ky_callV0 C 2 (kX0_gainBy l D cI cS ad bp by0 lf gt hl am so N wind low forb club need worth nc cat cwet chigh ns kd fr hor pw j y (by first | assumption | omega) (by first | assumption | omega) (by first | assumption | omega) (by first | assumption | omega) (by first | assumption | omega)) gX7_due_X0_gainBy rfl rfl rfl hdX0_gainBy 1 0 rfl rfl rfl ⟨Nat.le_of_ble_eq_true rfl, Nat.le_of_ble_eq_true rfl⟩ rfl rfl (Nat.le_of_ble_eq_true rfl) dX7_due_27 [1, 2, 3, 4, 5, 6, 7, 8, 9, 10, 11, 12, 13, 14, 15, 16, 17, 18, 19, 20] rfl rfl ?_
      rintro _ _ ⟨lf2_27, gt2_27, hl2_27, am2_27, so2_27, rfl, rfl⟩
      refine ky_ws (ws' := [(ad 0, .inr (7, [.ref (ad 1), .ref (ad 10), .ref (ad 14), .ref (ad 18), .ref (ad 23), .ref (ad 29), .ref (ad 32), .int left, .int lastF])), (ad 29, .inr (0, [.int bp, .int by0, .ref (ad 30), .ref (ad 31), .ref (ad 10), .ref (ad 18), .ref (ad 23)])), (ad 23, .inr (1, [.ref (ad 24), .ref (ad 25), .ref (ad 26), .ref (ad 27), .ref (ad 28), .ref (ad 10), .ref (ad 14), .ref (ad 18)])), (ad 24, .inl (cI, 6, .inl lf2_27)), (ad 25, .inl (cI, 8, .inl gt2_27)), (ad 26, .inl (cI, 8, .inl hl2_27)), (ad 27, .inl (cI, 10, .inl am2_27)), (ad 28, .inl (cI, 10, .inl so2_27)), (ad 10, .inr (3, [.ref (ad 11), .ref (ad 12), .ref (ad 13), .int (nI N), .int wind, .int low, .int forb])), (ad 11, .inl (cI, 8, .inl club)), (ad 12, .inl (cI, 8, .inl need)), (ad 13, .inl (cI, 8, .inl worth)), (ad 14, .inr (6, [.ref (ad 15), .ref (ad 16), .ref (ad 17), .int (nI nc)])), (ad 15, .inl (cI, 6, .inl cat)), (ad 16, .inl (cI, 6, .inl cwet)), (ad 17, .inl (cI, 6, .inl chigh)), (ad 18, .inr (5, [.ref (ad 19), .ref (ad 20), .ref (ad 21), .ref (ad 22), .int (nI ns)])), (ad 19, .inl (cI, 10, .inl kd)), (ad 20, .inl (cI, 10, .inl fr)), (ad 21, .inl (cI, 10, .inl hor)), (ad 22, .inl (cI, 10, .inl pw))]) (st' := [.int (kYd club need worth y N (kDay (N, nc, low, cat, cwet, chigh, kd, fr, hor, pw) wind (kAll ns) 12) - kYd club need worth y N (kDay (N, nc, low, cat, cwet, chigh, kd, fr, hor, pw) wind (kBut ns j) 12)), .int 0]) rfl rfl ?_
      refine ky_ineg C (v := -(kYd club need worth y N (kDay (N, nc, low, cat, cwet, chigh, kd, fr, hor, pw) wind (kAll ns) 12) - kYd club need worth y N (kDay (N, nc, low, cat, cwet, chigh, kd, fr, hor, pw) wind (kBut ns j) 12))) dX7_due_30 rfl ?_
      refine ky_mmax C (List.mem_of_getElem? (i := 3) rfl) (List.mem_of_getElem? (i := 4) rfl) (List.mem_of_getElem? (i := 5) rfl) (List.mem_of_getElem? (i := 6) rfl) (Nat.le_of_ble_eq_true rfl) (Nat.le_of_ble_eq_true rfl) (Nat.le_of_ble_eq_true rfl) (Nat.le_of_ble_eq_true rfl) dX7_due_31 (v := if (0 : Int32) < (-(kYd club need worth y N (kDay (N, nc, low, cat, cwet, chigh, kd, fr, hor, pw) wind (kAll ns) 12) - kYd club need worth y N (kDay (N, nc, low, cat, cwet, chigh, kd, fr, hor, pw) wind (kBut ns j) 12))) then -(kYd club need worth y N (kDay (N, nc, low, cat, cwet, chigh, kd, fr, hor, pw) wind (kAll ns) 12) - kYd club need worth y N (kDay (N, nc, low, cat, cwet, chigh, kd, fr, hor, pw) wind (kBut ns j) 12)) else (0 : Int32)) rfl ?_
      exact ky_iret C hr hlk ⟨(if (0 : Int32) < (-(kYd club need worth y N (kDay (N, nc, low, cat, cwet, chigh, kd, fr, hor, pw) wind (kAll ns) 12) - kYd club need worth y N (kDay (N, nc, low, cat, cwet, chigh, kd, fr, hor, pw) wind (kBut ns j) 12))) then -(kYd club need worth y N (kDay (N, nc, low, cat, cwet, chigh, kd, fr, hor, pw) wind (kAll ns) 12) - kYd club need worth y N (kDay (N, nc, low, cat, cwet, chigh, kd, fr, hor, pw) wind (kBut ns j) 12)) else (0 : Int32)), lf2_27, gt2_27, hl2_27, am2_27, so2_27, congrArg (fun z => some (Value.int z)) (show (if (0 : Int32) < (-(kYd club need worth y N (kDay (N, nc, low, cat, cwet, chigh, kd, fr, hor, pw) wind (kAll ns) 12) - kYd club need worth y N (kDay (N, nc, low, cat, cwet, chigh, kd, fr, hor, pw) wind (kBut ns j) 12))) then -(kYd club need worth y N (kDay (N, nc, low, cat, cwet, chigh, kd, fr, hor, pw) wind (kAll ns) 12) - kYd club need worth y N (kDay (N, nc, low, cat, cwet, chigh, kd, fr, hor, pw) wind (kBut ns j) 12)) else (0 : Int32)) = ((if (0 : Int32) < (-(kYd club need worth y N (kDay (N, nc, low, cat, cwet, chigh, kd, fr, hor, pw) wind (kAll ns) 12) - kYd club need worth y N (kDay (N, nc, low, cat, cwet, chigh, kd, fr, hor, pw) wind (kBut ns j) 12))) then -(kYd club need worth y N (kDay (N, nc, low, cat, cwet, chigh, kd, fr, hor, pw) wind (kAll ns) 12) - kYd club need worth y N (kDay (N, nc, low, cat, cwet, chigh, kd, fr, hor, pw) wind (kBut ns j) 12)) else (0 : Int32))) from by simp [c_8, c_15, hcj]), rfl, (by simp only [kF_due, kGain, if_pos c_8, if_pos c_15, hcj])⟩ (Nat.le_of_ble_eq_true rfl) dX7_due_34
    · have c_15 : ¬ (0 ≤ y ∧ y ≤ 3) := kb0 c_15
      refine ky_iconst C dX7_due_18 (v := (-1)) (by decide) ?_
      exact ky_iret C hr hlk ⟨(-1), lf, gt, hl, am, so, rfl, rfl, (by simp only [kF_due, if_pos c_8, if_neg c_15])⟩ (Nat.le_of_ble_eq_true rfl) dX7_due_19
theorem hiX7_idle_X7 : ∀ w ∈ wsX70, w ∈ wsX7_idle := fun _ h => (List.mem_cons_of_mem _ (List.mem_append_left _ (List.mem_append_left _ (List.mem_append_left _ (List.mem_append_left _ (List.mem_append_left _ (List.mem_append_right _ h)))))))
theorem hdX7_idle : yX7_idle.cls = RX7 ∧ yX7_idle.cls ≠ "java/lang/invoke/MethodHandle" ∧ yX7_idle.cls ≠ "java/lang/invoke/VarHandle" ∧ (parseMethodDescriptor yX7_idle.desc).map (fun d => d.parameters.length) = some 1 := by decide +kernel
set_option maxRecDepth 100000 in
set_option maxHeartbeats 4000000 in
/-- X7_idle -/
theorem kX7_idle (l : Launch) (D : va_G) (cI cS : ClassId) (ad : Nat → Nat) (left : Int32) (lastF : Int32) (bp : Int32) (by0 : Int32) (bg : Nat → Int32) (bh : Nat → Int32) (lf : Nat → Int32) (gt : Nat → Int32) (hl : Nat → Int32) (am : Nat → Int32) (so : Nat → Int32) (N : Nat) (wind : Int32) (low : Int32) (forb : Int32) (club : Nat → Int32) (need : Nat → Int32) (worth : Nat → Int32) (nc : Nat) (cat : Nat → Int32) (cwet : Nat → Int32) (chigh : Nat → Int32) (ns : Nat) (kd : Nat → Int32) (fr : Nat → Int32) (hor : Nat → Int32) (pw : Nat → Int32) (x : Int32) (hN : N ≤ 8) (hnc : nc ≤ 6) (hns : ns ≤ 8) (hwf : ∀ s, s < ns → 0 ≤ fr s ∧ fr s < nI N) : kyM l yX7_idle wsX7_idle ({ frames := 6, cells := 0, slots := 0, locals := 147 }) D cI cS [.ref (ad 0), .int x] [(ad 0, .inr (7, [.ref (ad 1), .ref (ad 10), .ref (ad 14), .ref (ad 18), .ref (ad 23), .ref (ad 29), .ref (ad 32), .int left, .int lastF])), (ad 29, .inr (0, [.int bp, .int by0, .ref (ad 30), .ref (ad 31), .ref (ad 10), .ref (ad 18), .ref (ad 23)])), (ad 30, .inl (cI, 8, .inl bg)), (ad 31, .inl (cI, 8, .inl bh)), (ad 23, .inr (1, [.ref (ad 24), .ref (ad 25), .ref (ad 26), .ref (ad 27), .ref (ad 28), .ref (ad 10), .ref (ad 14), .ref (ad 18)])), (ad 24, .inl (cI, 6, .inl lf)), (ad 25, .inl (cI, 8, .inl gt)), (ad 26, .inl (cI, 8, .inl hl)), (ad 27, .inl (cI, 10, .inl am)), (ad 28, .inl (cI, 10, .inl so)), (ad 10, .inr (3, [.ref (ad 11), .ref (ad 12), .ref (ad 13), .int (nI N), .int wind, .int low, .int forb])), (ad 11, .inl (cI, 8, .inl club)), (ad 12, .inl (cI, 8, .inl need)), (ad 13, .inl (cI, 8, .inl worth)), (ad 14, .inr (6, [.ref (ad 15), .ref (ad 16), .ref (ad 17), .int (nI nc)])), (ad 15, .inl (cI, 6, .inl cat)), (ad 16, .inl (cI, 6, .inl cwet)), (ad 17, .inl (cI, 6, .inl chigh)), (ad 18, .inr (5, [.ref (ad 19), .ref (ad 20), .ref (ad 21), .ref (ad 22), .int (nI ns)])), (ad 19, .inl (cI, 10, .inl kd)), (ad 20, .inl (cI, 10, .inl fr)), (ad 21, .inl (cI, 10, .inl hor)), (ad 22, .inl (cI, 10, .inl pw))] 0 0 (fun vR wR => ∃ r2 : Int32, ∃ bg2 : Nat → Int32, ∃ bh2 : Nat → Int32, ∃ lf2 : Nat → Int32, ∃ gt2 : Nat → Int32, ∃ hl2 : Nat → Int32, ∃ am2 : Nat → Int32, ∃ so2 : Nat → Int32, vR = some (.int r2) ∧ wR = [(ad 0, .inr (7, [.ref (ad 1), .ref (ad 10), .ref (ad 14), .ref (ad 18), .ref (ad 23), .ref (ad 29), .ref (ad 32), .int left, .int lastF])), (ad 29, .inr (0, [.int bp, .int by0, .ref (ad 30), .ref (ad 31), .ref (ad 10), .ref (ad 18), .ref (ad 23)])), (ad 30, .inl (cI, 8, .inl bg2)), (ad 31, .inl (cI, 8, .inl bh2)), (ad 23, .inr (1, [.ref (ad 24), .ref (ad 25), .ref (ad 26), .ref (ad 27), .ref (ad 28), .ref (ad 10), .ref (ad 14), .ref (ad 18)])), (ad 24, .inl (cI, 6, .inl lf2)), (ad 25, .inl (cI, 8, .inl gt2)), (ad 26, .inl (cI, 8, .inl hl2)), (ad 27, .inl (cI, 10, .inl am2)), (ad 28, .inl (cI, 10, .inl so2)), (ad 10, .inr (3, [.ref (ad 11), .ref (ad 12), .ref (ad 13), .int (nI N), .int wind, .int low, .int forb])), (ad 11, .inl (cI, 8, .inl club)), (ad 12, .inl (cI, 8, .inl need)), (ad 13, .inl (cI, 8, .inl worth)), (ad 14, .inr (6, [.ref (ad 15), .ref (ad 16), .ref (ad 17), .int (nI nc)])), (ad 15, .inl (cI, 6, .inl cat)), (ad 16, .inl (cI, 6, .inl cwet)), (ad 17, .inl (cI, 6, .inl chigh)), (ad 18, .inr (5, [.ref (ad 19), .ref (ad 20), .ref (ad 21), .ref (ad 22), .int (nI ns)])), (ad 19, .inl (cI, 10, .inl kd)), (ad 20, .inl (cI, 10, .inl fr)), (ad 21, .inl (cI, 10, .inl hor)), (ad 22, .inl (cI, 10, .inl pw))] ∧ (r2 = kF_idle (N, nc, low, cat, cwet, chigh, kd, fr, hor, pw) wind forb ns x)) := by
  refine ky_start (own := RX7) (cc := cX7_idle) (nL := 2) (ret := (some .int)) (by decide) rfl rfl (Nat.le_of_ble_eq_true rfl) ?_
  intro p e s m args below meth c C hr hlk hnm
  refine ky_conv (lv' := [(0, .ref (ad 0)), (1, .int x)]) (List.range 2) rfl rfl rfl ?_
  refine ky_iload_n C 1 dX7_idle_0 rfl rfl ?_
  by_cases w_1_0 : x = 0
  · refine ky_lookup C 28 dX7_idle_1 (by decide) (off := 27) (by rw [w_1_0]; rfl) (by decide) ?_
    refine ky_aload_n C 0 dX7_idle_28 rfl rfl ?_
    refine ky_get C (ci := 7) (T := TX7) (N := 9) (Cn := RX7) (ref := "RainAccount") hiX7_idle_X7 0 rfl rfl 5 (by decide) (List.mem_of_getElem? (i := 1) rfl) rfl (v := .ref (ad 29)) rfl dX7_idle_29 ?_
    refine ky_callV0 C 0 (kX0_idleSet l D cI cS ad bp by0 bg bh lf gt hl am so N wind low forb club need worth nc cat cwet chigh ns kd fr hor pw (by first | assumption | omega) (by first | assumption | omega) (by first | assumption | omega) (by first | assumption | omega)) gX7_idle_X0_idleSet rfl rfl rfl hdX0_idleSet 1 0 rfl rfl rfl ⟨Nat.le_of_ble_eq_true rfl, Nat.le_of_ble_eq_true rfl⟩ rfl rfl (Nat.le_of_ble_eq_true rfl) dX7_idle_32 [1, 2, 3, 4, 5, 6, 7, 8, 9, 10, 11, 12, 13, 14, 15, 16, 17, 18, 19, 20, 21, 22] rfl rfl ?_
    rintro _ _ ⟨bg2_32, bh2_32, lf2_32, gt2_32, hl2_32, am2_32, so2_32, rfl, rfl⟩
    refine ky_ws (ws' := [(ad 0, .inr (7, [.ref (ad 1), .ref (ad 10), .ref (ad 14), .ref (ad 18), .ref (ad 23), .ref (ad 29), .ref (ad 32), .int left, .int lastF])), (ad 29, .inr (0, [.int bp, .int by0, .ref (ad 30), .ref (ad 31), .ref (ad 10), .ref (ad 18), .ref (ad 23)])), (ad 30, .inl (cI, 8, .inl bg2_32)), (ad 31, .inl (cI, 8, .inl bh2_32)), (ad 23, .inr (1, [.ref (ad 24), .ref (ad 25), .ref (ad 26), .ref (ad 27), .ref (ad 28), .ref (ad 10), .ref (ad 14), .ref (ad 18)])), (ad 24, .inl (cI, 6, .inl lf2_32)), (ad 25, .inl (cI, 8, .inl gt2_32)), (ad 26, .inl (cI, 8, .inl hl2_32)), (ad 27, .inl (cI, 10, .inl am2_32)), (ad 28, .inl (cI, 10, .inl so2_32)), (ad 10, .inr (3, [.ref (ad 11), .ref (ad 12), .ref (ad 13), .int (nI N), .int wind, .int low, .int forb])), (ad 11, .inl (cI, 8, .inl club)), (ad 12, .inl (cI, 8, .inl need)), (ad 13, .inl (cI, 8, .inl worth)), (ad 14, .inr (6, [.ref (ad 15), .ref (ad 16), .ref (ad 17), .int (nI nc)])), (ad 15, .inl (cI, 6, .inl cat)), (ad 16, .inl (cI, 6, .inl cwet)), (ad 17, .inl (cI, 6, .inl chigh)), (ad 18, .inr (5, [.ref (ad 19), .ref (ad 20), .ref (ad 21), .ref (ad 22), .int (nI ns)])), (ad 19, .inl (cI, 10, .inl kd)), (ad 20, .inl (cI, 10, .inl fr)), (ad 21, .inl (cI, 10, .inl hor)), (ad 22, .inl (cI, 10, .inl pw))]) (st' := [.int (kBits (fun s => decide (∀ f, f < N → (kDay (N, nc, low, cat, cwet, chigh, kd, fr, hor, pw) wind (kBut ns s) 12).2.1 f = (kDay (N, nc, low, cat, cwet, chigh, kd, fr, hor, pw) wind (kAll ns) 12).2.1 f ∧ (kDay (N, nc, low, cat, cwet, chigh, kd, fr, hor, pw) wind (kBut ns s) 12).2.2.1 f = (kDay (N, nc, low, cat, cwet, chigh, kd, fr, hor, pw) wind (kAll ns) 12).2.2.1 f)) ns)]) rfl rfl ?_
    exact ky_iret C hr hlk ⟨(kBits (fun s => decide (∀ f, f < N → (kDay (N, nc, low, cat, cwet, chigh, kd, fr, hor, pw) wind (kBut ns s) 12).2.1 f = (kDay (N, nc, low, cat, cwet, chigh, kd, fr, hor, pw) wind (kAll ns) 12).2.1 f ∧ (kDay (N, nc, low, cat, cwet, chigh, kd, fr, hor, pw) wind (kBut ns s) 12).2.2.1 f = (kDay (N, nc, low, cat, cwet, chigh, kd, fr, hor, pw) wind (kAll ns) 12).2.2.1 f)) ns), bg2_32, bh2_32, lf2_32, gt2_32, hl2_32, am2_32, so2_32, rfl, rfl, (by simp only [kF_idle, if_pos w_1_0]; rfl)⟩ (Nat.le_of_ble_eq_true rfl) dX7_idle_35
  · by_cases w_1_1 : x = 1
    · refine ky_lookup C 36 dX7_idle_1 (by decide) (off := 35) (by rw [w_1_1]; rfl) (by decide) ?_
      refine ky_aload_n C 0 dX7_idle_36 rfl rfl ?_
      refine ky_get C (ci := 7) (T := TX7) (N := 9) (Cn := RX7) (ref := "RainAccount") hiX7_idle_X7 0 rfl rfl 5 (by decide) (List.mem_of_getElem? (i := 1) rfl) rfl (v := .ref (ad 29)) rfl dX7_idle_37 ?_
      refine ky_callV0 C 0 (kX0_breachSet l D cI cS ad bp by0 N wind low forb ns hor (by first | assumption | omega)) gX7_idle_X0_breachSet rfl rfl rfl hdX0_breachSet 1 0 rfl rfl rfl ⟨Nat.le_of_ble_eq_true rfl, Nat.le_of_ble_eq_true rfl⟩ rfl rfl (Nat.le_of_ble_eq_true rfl) dX7_idle_40 [1, 10, 18, 21] rfl rfl ?_
      rintro _ _ ⟨rfl, rfl⟩
      refine ky_ws (ws' := [(ad 0, .inr (7, [.ref (ad 1), .ref (ad 10), .ref (ad 14), .ref (ad 18), .ref (ad 23), .ref (ad 29), .ref (ad 32), .int left, .int lastF])), (ad 29, .inr (0, [.int bp, .int by0, .ref (ad 30), .ref (ad 31), .ref (ad 10), .ref (ad 18), .ref (ad 23)])), (ad 30, .inl (cI, 8, .inl bg)), (ad 31, .inl (cI, 8, .inl bh)), (ad 23, .inr (1, [.ref (ad 24), .ref (ad 25), .ref (ad 26), .ref (ad 27), .ref (ad 28), .ref (ad 10), .ref (ad 14), .ref (ad 18)])), (ad 24, .inl (cI, 6, .inl lf)), (ad 25, .inl (cI, 8, .inl gt)), (ad 26, .inl (cI, 8, .inl hl)), (ad 27, .inl (cI, 10, .inl am)), (ad 28, .inl (cI, 10, .inl so)), (ad 10, .inr (3, [.ref (ad 11), .ref (ad 12), .ref (ad 13), .int (nI N), .int wind, .int low, .int forb])), (ad 11, .inl (cI, 8, .inl club)), (ad 12, .inl (cI, 8, .inl need)), (ad 13, .inl (cI, 8, .inl worth)), (ad 14, .inr (6, [.ref (ad 15), .ref (ad 16), .ref (ad 17), .int (nI nc)])), (ad 15, .inl (cI, 6, .inl cat)), (ad 16, .inl (cI, 6, .inl cwet)), (ad 17, .inl (cI, 6, .inl chigh)), (ad 18, .inr (5, [.ref (ad 19), .ref (ad 20), .ref (ad 21), .ref (ad 22), .int (nI ns)])), (ad 19, .inl (cI, 10, .inl kd)), (ad 20, .inl (cI, 10, .inl fr)), (ad 21, .inl (cI, 10, .inl hor)), (ad 22, .inl (cI, 10, .inl pw))]) (st' := [.int (kBits (fun s => !decide ((forb >>> (hor s &&& 31)) &&& 1 = 0)) ns)]) rfl rfl ?_
      exact ky_iret C hr hlk ⟨(kBits (fun s => !decide ((forb >>> (hor s &&& 31)) &&& 1 = 0)) ns), bg, bh, lf, gt, hl, am, so, rfl, rfl, (by simp only [kF_idle, if_neg w_1_0, if_pos w_1_1]; rfl)⟩ (Nat.le_of_ble_eq_true rfl) dX7_idle_43
    · refine ky_lookup C 44 dX7_idle_1 (by decide) (off := 43) (by show Op.lookupswitch.offset [(0, 27), (1, 35)] 43 _ = _; rw [lv_osw w_1_0 (by decide), lv_osw w_1_1 (by decide)]; rfl) (by decide) ?_
      refine ky_bipush C dX7_idle_44 (v := (-2)) (by decide) ?_
      exact ky_iret C hr hlk ⟨(-2), bg, bh, lf, gt, hl, am, so, rfl, rfl, (by simp only [kF_idle, if_neg w_1_0, if_neg w_1_1])⟩ (Nat.le_of_ble_eq_true rfl) dX7_idle_46
theorem hiX7_faulted_X7 : ∀ w ∈ wsX70, w ∈ wsX7_faulted := fun _ h => (List.mem_cons_of_mem _ (List.mem_append_right _ h))
theorem hdX7_faulted : yX7_faulted.cls = RX7 ∧ yX7_faulted.cls ≠ "java/lang/invoke/MethodHandle" ∧ yX7_faulted.cls ≠ "java/lang/invoke/VarHandle" ∧ (parseMethodDescriptor yX7_faulted.desc).map (fun d => d.parameters.length) = some 1 := by decide +kernel
set_option maxRecDepth 100000 in
set_option maxHeartbeats 4000000 in
theorem kX7_faulted (l : Launch) (D : va_G) (cI cS : ClassId) (ad : Nat → Nat) (left : Int32) (lastF : Int32) (n : Int32) : kyM l yX7_faulted wsX7_faulted ({ frames := 0, cells := 0, slots := 0, locals := 0 }) D cI cS [.ref (ad 0), .int n] [(ad 0, .inr (7, [.ref (ad 1), .ref (ad 10), .ref (ad 14), .ref (ad 18), .ref (ad 23), .ref (ad 29), .ref (ad 32), .int left, .int lastF]))] 0 0 (fun vR wR => vR = some (.int ((-10 : Int32) - n)) ∧ wR = [(ad 0, .inr (7, [.ref (ad 1), .ref (ad 10), .ref (ad 14), .ref (ad 18), .ref (ad 23), .ref (ad 29), .ref (ad 32), .int left, .int n]))]) := by
  refine ky_start (own := RX7) (cc := cX7_faulted) (nL := 2) (ret := (some .int)) (by decide) rfl rfl (Nat.le_of_ble_eq_true rfl) ?_
  intro p e s m args below meth c C hr hlk hnm
  refine ky_conv (lv' := [(0, .ref (ad 0)), (1, .int n)]) (List.range 2) rfl rfl rfl ?_
  refine ky_aload_n C 0 dX7_faulted_0 rfl rfl ?_
  refine ky_iload_n C 1 dX7_faulted_1 rfl rfl ?_
  refine ky_put C (ci := 7) (T := TX7) (N := 9) (Cn := RX7) (ref := "RainAccount") hiX7_faulted_X7 tyX7 tyX7_ok nmX7 0 rfl rfl 8 (by decide) (List.mem_of_getElem? (i := 1) rfl) rfl rfl rfl rfl (Nat.le_of_ble_eq_true rfl) dX7_faulted_2 (ws' := [(ad 0, .inr (7, [.ref (ad 1), .ref (ad 10), .ref (ad 14), .ref (ad 18), .ref (ad 23), .ref (ad 29), .ref (ad 32), .int left, .int n]))]) rfl ?_
  refine ky_bipush C dX7_faulted_5 (v := (-10)) (by decide) ?_
  refine ky_iload_n C 1 dX7_faulted_7 rfl rfl ?_
  refine ky_isub C (v := (-10 : Int32) - n) dX7_faulted_8 rfl ?_
  exact ky_iret C hr hlk ⟨rfl, rfl⟩ (Nat.le_of_ble_eq_true rfl) dX7_faulted_9
