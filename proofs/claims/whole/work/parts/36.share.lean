/-! part 36: the class: shares -/
/-- how far the two numbers have come down in k steps -/
def kEu (k h w : Nat) : Prop := h * w * 2 ^ k ≤ 2 ^ 125 ∧ (w ≤ h ∨ (k = 0 ∧ h * w ≤ 2 ^ 124))
theorem kEu_0 {a b : Nat} (ha : a < 2 ^ 50) (hb : b < 2 ^ 50) : kEu 0 a b := by
  have h : a * b ≤ 2 ^ 50 * 2 ^ 50 := Nat.mul_le_mul (Nat.le_of_lt ha) (Nat.le_of_lt hb)
  have h2 : (2 : Nat) ^ 50 * 2 ^ 50 ≤ 2 ^ 124 := by decide
  refine ⟨?_, Or.inr ⟨rfl, Nat.le_trans h h2⟩⟩
  rw [Nat.pow_zero, Nat.mul_one]
  exact Nat.le_trans (Nat.le_trans h h2) (by decide)
theorem kEu_s {k h w : Nat} (hm : kEu k h w) (hw : 0 < w) : kEu (k + 1) w (h % w) := by
  obtain ⟨h1, h2⟩ := hm
  refine ⟨?_, Or.inl (Nat.le_of_lt (Nat.mod_lt _ hw))⟩
  rcases h2 with h2 | ⟨rfl, h2⟩
  · have h3 := kmod_half hw h2
    calc w * (h % w) * 2 ^ (k + 1) = w * (2 * (h % w)) * 2 ^ k := by rw [Nat.pow_succ]; ac_rfl
      _ ≤ w * h * 2 ^ k := Nat.mul_le_mul_right _ (Nat.mul_le_mul_left _ h3)
      _ = h * w * 2 ^ k := by rw [Nat.mul_comm w h]
      _ ≤ 2 ^ 125 := h1
  · calc w * (h % w) * 2 ^ (0 + 1) ≤ w * h * 2 ^ 1 := Nat.mul_le_mul_right _ (Nat.mul_le_mul_left _ (Nat.mod_le h w))
      _ = h * w * 2 := by rw [Nat.mul_comm w h]
      _ ≤ 2 ^ 124 * 2 := Nat.mul_le_mul_right _ h2
      _ ≤ 2 ^ 125 := by decide
theorem kEu_end {k h w : Nat} (hm : kEu k h w) (hk : 200 ≤ k) : w = 0 := by
  obtain ⟨h1, h2⟩ := hm
  rcases Nat.eq_zero_or_pos w with q | q
  · exact q
  · exfalso
    have h3 : w ≤ h := h2.elim id (fun z => by omega)
    have h4 : 1 ≤ h * w := Nat.mul_pos (by omega) q
    have h5 : 2 ^ 200 ≤ 2 ^ k := Nat.pow_le_pow_right (by decide) hk
    have h6 : 1 * 2 ^ 200 ≤ h * w * 2 ^ k := Nat.mul_le_mul h4 h5
    exact absurd (Nat.le_trans h6 h1) (by decide)
theorem kgcd_step (h w : Nat) : Nat.gcd w (h % w) = Nat.gcd h w := by
  rw [Nat.gcd_comm w (h % w), ← Nat.gcd_rec, Nat.gcd_comm]
def kAwY (g : kG) (wind : Int32) (club need worth : kA) (ns : Nat) : Nat → Int32 := fun m9 => kYd club need worth (-1) (gN g) (kDay g wind (fun s => decide (s < ns) && kBit (nI m9) s) 12)
def kAwW (cw : Int32) (ns : Nat) : Nat → Int64 := fun m9 => kWay cw (nI m9) ns
def kU (g : kG) (wind : Int32) (club need worth : kA) (ns : Nat) (cw : Int32) : Nat := (kAwt (kAwY g wind club need worth ns) (kAwW cw ns) (kP2 ns)).toInt.toNat
def kF_awaited (g : kG) (wind : Int32) (club need worth : kA) (ns : Nat) (x y : Int32) : Int64 :=
  if 0 ≤ x ∧ x ≤ 10 then (if 0 ≤ y ∧ y ≤ 1 then (if y = 0 then lN (kU g wind club need worth ns x / Nat.gcd (kU g wind club need worth ns x) (10 ^ ns)) else lN (10 ^ ns / Nat.gcd (kU g wind club need worth ns x) (10 ^ ns))) else -9223372036854775808) else -9223372036854775808
theorem kAw_L {g : kG} {wind cw : Int32} {club need worth : kA} {ns : Nat} (hN : gN g ≤ 8) (hnc : gnc g ≤ 6) (hns : ns ≤ 8) (hb : kWB (gN g) (gnc g) ns need worth (gcwet g) (gpw g)) (hc : 0 ≤ cw ∧ cw ≤ 10) : ∃ u : Nat, u ≤ 256 * (10 ^ 8 * 648) ∧ kAwt (kAwY g wind club need worth ns) (kAwW cw ns) (kP2 ns) = lN u := by
  obtain ⟨c, hc1, hc2⟩ := kixle (n := 10) hc (by decide)
  obtain ⟨u, hu, eu⟩ := kAwt_L (y := kAwY g wind club need worth ns) (wy := kAwW cw ns) (B := 648) (C := 10 ^ 8) (by decide) (fun m => kYd_N hN hnc hb (fun s _ hq => by rw [Bool.and_eq_true] at hq; exact of_decide_eq_true hq.1) (Nat.le_refl _)) (fun m => by
    obtain ⟨a, ha, ea⟩ := kWay_L (m := nI m) hc1 hc2 ns
    exact ⟨a, Nat.le_trans ha (Nat.pow_le_pow_right (by decide) hns), ea⟩) (kP2 ns)
  exact ⟨u, Nat.le_trans hu (Nat.mul_le_mul_right _ (kP2_le hns)), eu⟩
theorem kU_eq {g : kG} {wind cw : Int32} {club need worth : kA} {ns u : Nat} (e : kAwt (kAwY g wind club need worth ns) (kAwW cw ns) (kP2 ns) = lN u) (hu : u ≤ 256 * (10 ^ 8 * 648)) : kU g wind club need worth ns cw = u := by
  unfold kU
  rw [e, pk_lT (Nat.lt_of_le_of_lt hu (by decide))]
  rfl
theorem hdX7_commonDivisor : yX7_commonDivisor.cls = RX7 ∧ yX7_commonDivisor.cls ≠ "java/lang/invoke/MethodHandle" ∧ yX7_commonDivisor.cls ≠ "java/lang/invoke/VarHandle" ∧ (parseMethodDescriptor yX7_commonDivisor.desc).map (fun d => d.parameters.length) = some 2 := by decide +kernel
set_option maxRecDepth 100000 in
set_option maxHeartbeats 4000000 in
/-- commonDivisor -/
theorem kX7_commonDivisor (l : Launch) (D : va_G) (cI cS : ClassId) (a : Nat) (b : Nat) (ha : a < 2 ^ 50) (hb : b < 2 ^ 50) : kyM l yX7_commonDivisor wsX7_commonDivisor ({ frames := 0, cells := 0, slots := 0, locals := 0 }) D cI cS [.long (lN a), .long (lN b)] [] 0 0 (fun vR wR => vR = some (.long (lN (Nat.gcd a b))) ∧ wR = []) := by
  refine ky_start (own := RX7) (cc := cX7_commonDivisor) (nL := 11) (ret := (some .long)) (by decide) rfl rfl (Nat.le_of_ble_eq_true rfl) ?_
  intro p e s m args below meth c C hr hlk hnm
  refine ky_conv (lv' := [(0, .long (lN a)), (2, .long (lN b))]) (List.range 2) rfl rfl rfl ?_
  refine ky_lload_n C 0 dX7_commonDivisor_0 rfl rfl ?_
  refine ky_lstore C (lv' := [(4, .long (lN a)), (0, .long (lN a)), (2, .long (lN b))]) dX7_commonDivisor_1 (by decide) rfl ?_
  refine ky_lload_n C 2 dX7_commonDivisor_3 rfl rfl ?_
  refine ky_lstore C (lv' := [(6, .long (lN b)), (4, .long (lN a)), (0, .long (lN a)), (2, .long (lN b))]) dX7_commonDivisor_4 (by decide) rfl ?_
  refine ky_iconst C dX7_commonDivisor_6 (v := 0) (by decide) ?_
  refine ky_istore C (lv' := [(8, .int 0), (6, .long (lN b)), (4, .long (lN a)), (0, .long (lN a)), (2, .long (lN b))]) dX7_commonDivisor_7 (by decide) rfl ?_
  refine ky_conv (ws' := []) (lv' := [(8, .int 0), (6, .long (lN b)), (4, .long (lN a)), (0, .long (lN a)), (2, .long (lN b))]) (st' := []) [0, 1, 2, 3, 4] rfl rfl rfl ?_
  refine ky_loop3 (T1 := Nat) (T2 := Nat) (T3 := Nat) (Wf := (fun k h9 w9 => [])) (Lf := (fun k h9 w9 => [(8, .int (nI k)), (6, .long (lN w9)), (4, .long (lN h9)), (0, .long (lN a)), (2, .long (lN b))])) (Sf := (fun k h9 w9 => [])) (fun k h9 w9 => (k ≤ 200) ∧ (Nat.gcd h9 w9 = Nat.gcd a b) ∧ (h9 < 2 ^ 50) ∧ (w9 < 2 ^ 50) ∧ (kEu k h9 w9) ∧ True) (fun k h9 w9 => 200 - k) ?_ 0 a b ⟨(by omega), rfl, ha, hb, (kEu_0 ha hb), trivial⟩
  intro k h9 w9 hI_9 ih_9
  obtain ⟨hk, hg, hh9, hw9, hm, -⟩ := hI_9
  have hk : k ≤ 200 := hk
  have hg : Nat.gcd h9 w9 = Nat.gcd a b := hg
  have hh9 : h9 < 2 ^ 50 := hh9
  have hw9 : w9 < 2 ^ 50 := hw9
  have hm : kEu k h9 w9 := hm
  refine ky_conv (ws' := []) (lv' := [(8, .int (nI k)), (6, .long (lN w9)), (4, .long (lN h9)), (0, .long (lN a)), (2, .long (lN b))]) (st' := []) (List.range 5) rfl rfl rfl ?_
  refine ky_iload C 0 dX7_commonDivisor_9 rfl ?_
  refine ky_sipush C dX7_commonDivisor_11 (v := 200) (by decide) ?_
  refine ky_icmp_ge C 45 dX7_commonDivisor_14 (by decide) (fun c_14 => ?_) (fun c_14 => ?_)
  · have d_14 := Int32.not_lt.mpr c_14
    have n_14 := kn_le (a := 200) (b := k) (by omega) (by omega) c_14
    have m_14 := Nat.not_lt.mpr n_14
    have hz : w9 = 0 := by first | exact (kcmp_eq (Nat.lt_trans hw9 (by decide))).mp c_21 | exact kEu_end hm (by omega)
    refine ky_lload C 2 dX7_commonDivisor_45 rfl ?_
    exact ky_lret C hr hlk ⟨congrArg (fun z => some (Value.long z)) (show (lN h9) = (lN (Nat.gcd a b)) from by rw [← hg, hz, Nat.gcd_zero_right]), rfl⟩ (Nat.le_of_ble_eq_true rfl) dX7_commonDivisor_47
  · have d_14 := Int32.not_le.mp c_14
    have n_14 := kn_nle (a := 200) (b := k) (by omega) (by omega) c_14
    have m_14 := Nat.not_le.mpr n_14
    refine ky_lload C 1 dX7_commonDivisor_17 rfl ?_
    refine ky_lconst C dX7_commonDivisor_19 (v := 0) (by decide) ?_
    refine ky_lcmp C dX7_commonDivisor_20 rfl ?_
    refine ky_if_eq C 45 dX7_commonDivisor_21 (by decide) (fun c_21 => ?_) (fun c_21 => ?_)
    · have hz : w9 = 0 := by first | exact (kcmp_eq (Nat.lt_trans hw9 (by decide))).mp c_21 | exact kEu_end hm (by omega)
      refine ky_lload C 2 dX7_commonDivisor_45 rfl ?_
      exact ky_lret C hr hlk ⟨congrArg (fun z => some (Value.long z)) (show (lN h9) = (lN (Nat.gcd a b)) from by rw [← hg, hz, Nat.gcd_zero_right]), rfl⟩ (Nat.le_of_ble_eq_true rfl) dX7_commonDivisor_47
    · have hw0 : 0 < w9 := Nat.pos_of_ne_zero (fun z => c_21 ((kcmp_eq (Nat.lt_trans hw9 (by decide))).mpr z))
      refine ky_lload C 2 dX7_commonDivisor_24 rfl ?_
      refine ky_lload C 1 dX7_commonDivisor_26 rfl ?_
      refine ky_lrem C (v := lN (h9 % w9)) dX7_commonDivisor_28 (klN_ne (Nat.lt_trans hw9 (by decide)) hw0) (pk_lRem (Nat.lt_trans hh9 (by decide)) hw0 (Nat.lt_trans hw9 (by decide))) ?_
      refine ky_lstore C (lv' := [(9, .long (lN (h9 % w9))), (8, .int (nI k)), (6, .long (lN w9)), (4, .long (lN h9)), (0, .long (lN a)), (2, .long (lN b))]) dX7_commonDivisor_29 (by decide) rfl ?_
      refine ky_lload C 2 dX7_commonDivisor_31 rfl ?_
      refine ky_lstore C (lv' := [(4, .long (lN w9)), (9, .long (lN (h9 % w9))), (8, .int (nI k)), (6, .long (lN w9)), (0, .long (lN a)), (2, .long (lN b))]) dX7_commonDivisor_33 (by decide) rfl ?_
      refine ky_lload C 1 dX7_commonDivisor_35 rfl ?_
      refine ky_lstore C (lv' := [(6, .long (lN (h9 % w9))), (4, .long (lN w9)), (9, .long (lN (h9 % w9))), (8, .int (nI k)), (0, .long (lN a)), (2, .long (lN b))]) dX7_commonDivisor_37 (by decide) rfl ?_
      refine ky_iinc C 3 (v := nI (k + 1)) (lv' := [(8, .int (nI (k + 1))), (6, .long (lN (h9 % w9))), (4, .long (lN w9)), (9, .long (lN (h9 % w9))), (0, .long (lN a)), (2, .long (lN b))]) dX7_commonDivisor_39 rfl (nI_1 _) (by decide) rfl ?_
      refine ky_goto C dX7_commonDivisor_42 (tgt := 9) (by decide) ?_
      exact ky_conv (ws' := []) (lv' := [(8, .int (nI (k + 1))), (6, .long (lN (h9 % w9))), (4, .long (lN w9)), (0, .long (lN a)), (2, .long (lN b))]) (st' := []) [0, 1, 2, 4, 5] rfl rfl rfl (ih_9 (k + 1) w9 (h9 % w9) (show 200 - (k + 1) < 200 - k from by omega) ⟨(by omega), ((kgcd_step h9 w9).trans hg), hw9, (Nat.lt_trans (Nat.mod_lt _ hw0) hw9), (kEu_s hm hw0), trivial⟩)
theorem hiX7_awaited_X5 : ∀ w ∈ wsX50, w ∈ wsX7_awaited := fun _ h => (List.mem_cons_of_mem _ (List.mem_append_left _ (List.mem_append_left _ (List.mem_append_left _ (List.mem_append_left _ (List.mem_append_right _ h))))))
theorem hiX7_awaited_X7 : ∀ w ∈ wsX70, w ∈ wsX7_awaited := fun _ h => (List.mem_cons_of_mem _ (List.mem_append_left _ (List.mem_append_left _ (List.mem_append_left _ (List.mem_append_left _ (List.mem_append_left _ (List.mem_append_right _ h)))))))
theorem hdX7_awaited : yX7_awaited.cls = RX7 ∧ yX7_awaited.cls ≠ "java/lang/invoke/MethodHandle" ∧ yX7_awaited.cls ≠ "java/lang/invoke/VarHandle" ∧ (parseMethodDescriptor yX7_awaited.desc).map (fun d => d.parameters.length) = some 2 := by decide +kernel
set_option maxRecDepth 100000 in
set_option maxHeartbeats 4000000 in
/-- awaited -/
theorem kX7_awaited (l : Launch) (D : va_G) (cI cS : ClassId) (ad : Nat → Nat) (left : Int32) (lastF : Int32) (bp : Int32) (by0 : Int32) (lf : Nat → Int32) (gt : Nat → Int32) (hl : Nat → Int32) (am : Nat → Int32) (so : Nat → Int32) (N : Nat) (wind : Int32) (low : Int32) (forb : Int32) (club : Nat → Int32) (need : Nat → Int32) (worth : Nat → Int32) (nc : Nat) (cat : Nat → Int32) (cwet : Nat → Int32) (chigh : Nat → Int32) (ns : Nat) (kd : Nat → Int32) (fr : Nat → Int32) (hor : Nat → Int32) (pw : Nat → Int32) (x : Int32) (y : Int32) (hN : N ≤ 8) (hnc : nc ≤ 6) (hns : ns ≤ 8) (hwf : ∀ s, s < ns → 0 ≤ fr s ∧ fr s < nI N) (hwb : kWB N nc ns need worth cwet pw) : kyM l yX7_awaited wsX7_awaited ({ frames := 5, cells := 0, slots := 0, locals := 131 }) D cI cS [.ref (ad 0), .int x, .int y] [(ad 0, .inr (7, [.ref (ad 1), .ref (ad 10), .ref (ad 14), .ref (ad 18), .ref (ad 23), .ref (ad 29), .ref (ad 32), .int left, .int lastF])), (ad 29, .inr (0, [.int bp, .int by0, .ref (ad 30), .ref (ad 31), .ref (ad 10), .ref (ad 18), .ref (ad 23)])), (ad 23, .inr (1, [.ref (ad 24), .ref (ad 25), .ref (ad 26), .ref (ad 27), .ref (ad 28), .ref (ad 10), .ref (ad 14), .ref (ad 18)])), (ad 24, .inl (cI, 6, .inl lf)), (ad 25, .inl (cI, 8, .inl gt)), (ad 26, .inl (cI, 8, .inl hl)), (ad 27, .inl (cI, 10, .inl am)), (ad 28, .inl (cI, 10, .inl so)), (ad 10, .inr (3, [.ref (ad 11), .ref (ad 12), .ref (ad 13), .int (nI N), .int wind, .int low, .int forb])), (ad 11, .inl (cI, 8, .inl club)), (ad 12, .inl (cI, 8, .inl need)), (ad 13, .inl (cI, 8, .inl worth)), (ad 14, .inr (6, [.ref (ad 15), .ref (ad 16), .ref (ad 17), .int (nI nc)])), (ad 15, .inl (cI, 6, .inl cat)), (ad 16, .inl (cI, 6, .inl cwet)), (ad 17, .inl (cI, 6, .inl chigh)), (ad 18, .inr (5, [.ref (ad 19), .ref (ad 20), .ref (ad 21), .ref (ad 22), .int (nI ns)])), (ad 19, .inl (cI, 10, .inl kd)), (ad 20, .inl (cI, 10, .inl fr)), (ad 21, .inl (cI, 10, .inl hor)), (ad 22, .inl (cI, 10, .inl pw))] 0 0 (fun vR wR => ∃ r2 : Int64, ∃ lf2 : Nat → Int32, ∃ gt2 : Nat → Int32, ∃ hl2 : Nat → Int32, ∃ am2 : Nat → Int32, ∃ so2 : Nat → Int32, vR = some (.long r2) ∧ wR = [(ad 0, .inr (7, [.ref (ad 1), .ref (ad 10), .ref (ad 14), .ref (ad 18), .ref (ad 23), .ref (ad 29), .ref (ad 32), .int left, .int lastF])), (ad 29, .inr (0, [.int bp, .int by0, .ref (ad 30), .ref (ad 31), .ref (ad 10), .ref (ad 18), .ref (ad 23)])), (ad 23, .inr (1, [.ref (ad 24), .ref (ad 25), .ref (ad 26), .ref (ad 27), .ref (ad 28), .ref (ad 10), .ref (ad 14), .ref (ad 18)])), (ad 24, .inl (cI, 6, .inl lf2)), (ad 25, .inl (cI, 8, .inl gt2)), (ad 26, .inl (cI, 8, .inl hl2)), (ad 27, .inl (cI, 10, .inl am2)), (ad 28, .inl (cI, 10, .inl so2)), (ad 10, .inr (3, [.ref (ad 11), .ref (ad 12), .ref (ad 13), .int (nI N), .int wind, .int low, .int forb])), (ad 11, .inl (cI, 8, .inl club)), (ad 12, .inl (cI, 8, .inl need)), (ad 13, .inl (cI, 8, .inl worth)), (ad 14, .inr (6, [.ref (ad 15), .ref (ad 16), .ref (ad 17), .int (nI nc)])), (ad 15, .inl (cI, 6, .inl cat)), (ad 16, .inl (cI, 6, .inl cwet)), (ad 17, .inl (cI, 6, .inl chigh)), (ad 18, .inr (5, [.ref (ad 19), .ref (ad 20), .ref (ad 21), .ref (ad 22), .int (nI ns)])), (ad 19, .inl (cI, 10, .inl kd)), (ad 20, .inl (cI, 10, .inl fr)), (ad 21, .inl (cI, 10, .inl hor)), (ad 22, .inl (cI, 10, .inl pw))] ∧ (r2 = kF_awaited (N, nc, low, cat, cwet, chigh, kd, fr, hor, pw) wind club need worth ns x y)) := by
  refine ky_start (own := RX7) (cc := cX7_awaited) (nL := 9) (ret := (some .long)) (by decide) rfl rfl (Nat.le_of_ble_eq_true rfl) ?_
  intro p e s m args below meth c C hr hlk hnm
  refine ky_conv (lv' := [(0, .ref (ad 0)), (1, .int x), (2, .int y)]) (List.range 3) rfl rfl rfl ?_
  refine ky_iload_n C 1 dX7_awaited_0 rfl rfl ?_
  refine ky_iconst C dX7_awaited_1 (v := 0) (by decide) ?_
  refine ky_bipush C dX7_awaited_2 (v := 10) (by decide) ?_
  refine ky_callS0 C 3 (kX7_isWithin l D cI cS x 0 10) gX7_awaited_X7_isWithin rfl rfl rfl hdX7_isWithin.2 ⟨Nat.le_of_ble_eq_true rfl, Nat.le_of_ble_eq_true rfl⟩ rfl rfl (Nat.le_of_ble_eq_true rfl) dX7_awaited_4 [] rfl rfl ?_
  rintro _ _ ⟨rfl, rfl⟩
  refine ky_ws (ws' := [(ad 0, .inr (7, [.ref (ad 1), .ref (ad 10), .ref (ad 14), .ref (ad 18), .ref (ad 23), .ref (ad 29), .ref (ad 32), .int left, .int lastF])), (ad 29, .inr (0, [.int bp, .int by0, .ref (ad 30), .ref (ad 31), .ref (ad 10), .ref (ad 18), .ref (ad 23)])), (ad 23, .inr (1, [.ref (ad 24), .ref (ad 25), .ref (ad 26), .ref (ad 27), .ref (ad 28), .ref (ad 10), .ref (ad 14), .ref (ad 18)])), (ad 24, .inl (cI, 6, .inl lf)), (ad 25, .inl (cI, 8, .inl gt)), (ad 26, .inl (cI, 8, .inl hl)), (ad 27, .inl (cI, 10, .inl am)), (ad 28, .inl (cI, 10, .inl so)), (ad 10, .inr (3, [.ref (ad 11), .ref (ad 12), .ref (ad 13), .int (nI N), .int wind, .int low, .int forb])), (ad 11, .inl (cI, 8, .inl club)), (ad 12, .inl (cI, 8, .inl need)), (ad 13, .inl (cI, 8, .inl worth)), (ad 14, .inr (6, [.ref (ad 15), .ref (ad 16), .ref (ad 17), .int (nI nc)])), (ad 15, .inl (cI, 6, .inl cat)), (ad 16, .inl (cI, 6, .inl cwet)), (ad 17, .inl (cI, 6, .inl chigh)), (ad 18, .inr (5, [.ref (ad 19), .ref (ad 20), .ref (ad 21), .ref (ad 22), .int (nI ns)])), (ad 19, .inl (cI, 10, .inl kd)), (ad 20, .inl (cI, 10, .inl fr)), (ad 21, .inl (cI, 10, .inl hor)), (ad 22, .inl (cI, 10, .inl pw))]) (st' := [.int (if 0 ≤ x ∧ x ≤ 10 then (1 : Int32) else 0)]) rfl rfl ?_
  refine ky_if_eq C 19 dX7_awaited_7 (by decide) (fun c_7 => ?_) (fun c_7 => ?_)
  · have c_7 : ¬ (0 ≤ x ∧ x ≤ 10) := kb0 c_7
    refine ky_ldc2 C (List.mem_of_getElem? (i := 1) rfl) dX7_awaited_19 ?_
    exact ky_lret C hr hlk ⟨(-9223372036854775808), lf, gt, hl, am, so, rfl, rfl, (by simp only [kF_awaited, if_neg c_7])⟩ (Nat.le_of_ble_eq_true rfl) dX7_awaited_22
  · have c_7 : 0 ≤ x ∧ x ≤ 10 := kb1 c_7
    refine ky_iload_n C 2 dX7_awaited_10 rfl rfl ?_
    refine ky_iconst C dX7_awaited_11 (v := 0) (by decide) ?_
    refine ky_iconst C dX7_awaited_12 (v := 1) (by decide) ?_
    refine ky_callS0 C 3 (kX7_isWithin l D cI cS y 0 1) gX7_awaited_X7_isWithin rfl rfl rfl hdX7_isWithin.2 ⟨Nat.le_of_ble_eq_true rfl, Nat.le_of_ble_eq_true rfl⟩ rfl rfl (Nat.le_of_ble_eq_true rfl) dX7_awaited_13 [] rfl rfl ?_
    rintro _ _ ⟨rfl, rfl⟩
    refine ky_ws (ws' := [(ad 0, .inr (7, [.ref (ad 1), .ref (ad 10), .ref (ad 14), .ref (ad 18), .ref (ad 23), .ref (ad 29), .ref (ad 32), .int left, .int lastF])), (ad 29, .inr (0, [.int bp, .int by0, .ref (ad 30), .ref (ad 31), .ref (ad 10), .ref (ad 18), .ref (ad 23)])), (ad 23, .inr (1, [.ref (ad 24), .ref (ad 25), .ref (ad 26), .ref (ad 27), .ref (ad 28), .ref (ad 10), .ref (ad 14), .ref (ad 18)])), (ad 24, .inl (cI, 6, .inl lf)), (ad 25, .inl (cI, 8, .inl gt)), (ad 26, .inl (cI, 8, .inl hl)), (ad 27, .inl (cI, 10, .inl am)), (ad 28, .inl (cI, 10, .inl so)), (ad 10, .inr (3, [.ref (ad 11), .ref (ad 12), .ref (ad 13), .int (nI N), .int wind, .int low, .int forb])), (ad 11, .inl (cI, 8, .inl club)), (ad 12, .inl (cI, 8, .inl need)), (ad 13, .inl (cI, 8, .inl worth)), (ad 14, .inr (6, [.ref (ad 15), .ref (ad 16), .ref (ad 17), .int (nI nc)])), (ad 15, .inl (cI, 6, .inl cat)), (ad 16, .inl (cI, 6, .inl cwet)), (ad 17, .inl (cI, 6, .inl chigh)), (ad 18, .inr (5, [.ref (ad 19), .ref (ad 20), .ref (ad 21), .ref (ad 22), .int (nI ns)])), (ad 19, .inl (cI, 10, .inl kd)), (ad 20, .inl (cI, 10, .inl fr)), (ad 21, .inl (cI, 10, .inl hor)), (ad 22, .inl (cI, 10, .inl pw))]) (st' := [.int (if 0 ≤ y ∧ y ≤ 1 then (1 : Int32) else 0)]) rfl rfl ?_
    refine ky_if_ne C 23 dX7_awaited_16 (by decide) (fun c_16 => ?_) (fun c_16 => ?_)
    · have c_16 : 0 ≤ y ∧ y ≤ 1 := kb1 c_16
      refine ky_aload_n C 0 dX7_awaited_23 rfl rfl ?_
      refine ky_get C (ci := 7) (T := TX7) (N := 9) (Cn := RX7) (ref := "RainAccount") hiX7_awaited_X7 0 rfl rfl 5 (by decide) (List.mem_of_getElem? (i := 2) rfl) rfl (v := .ref (ad 29)) rfl dX7_awaited_24 ?_
      refine ky_iload_n C 1 dX7_awaited_27 rfl rfl ?_
      refine ky_callV0 C 1 (kX0_awaitedUpper l D cI cS ad bp by0 lf gt hl am so N wind low forb club need worth nc cat cwet chigh ns kd fr hor pw x (by first | assumption | omega) (by first | assumption | omega) (by first | assumption | omega) (by first | assumption | omega)) gX7_awaited_X0_awaitedUpper rfl rfl rfl hdX0_awaitedUpper 1 0 rfl rfl rfl ⟨Nat.le_of_ble_eq_true rfl, Nat.le_of_ble_eq_true rfl⟩ rfl rfl (Nat.le_of_ble_eq_true rfl) dX7_awaited_28 [1, 2, 3, 4, 5, 6, 7, 8, 9, 10, 11, 12, 13, 14, 15, 16, 17, 18, 19, 20] rfl rfl ?_
      rintro _ _ ⟨lf2_28, gt2_28, hl2_28, am2_28, so2_28, rfl, rfl⟩
      refine ky_ws (ws' := [(ad 0, .inr (7, [.ref (ad 1), .ref (ad 10), .ref (ad 14), .ref (ad 18), .ref (ad 23), .ref (ad 29), .ref (ad 32), .int left, .int lastF])), (ad 29, .inr (0, [.int bp, .int by0, .ref (ad 30), .ref (ad 31), .ref (ad 10), .ref (ad 18), .ref (ad 23)])), (ad 23, .inr (1, [.ref (ad 24), .ref (ad 25), .ref (ad 26), .ref (ad 27), .ref (ad 28), .ref (ad 10), .ref (ad 14), .ref (ad 18)])), (ad 24, .inl (cI, 6, .inl lf2_28)), (ad 25, .inl (cI, 8, .inl gt2_28)), (ad 26, .inl (cI, 8, .inl hl2_28)), (ad 27, .inl (cI, 10, .inl am2_28)), (ad 28, .inl (cI, 10, .inl so2_28)), (ad 10, .inr (3, [.ref (ad 11), .ref (ad 12), .ref (ad 13), .int (nI N), .int wind, .int low, .int forb])), (ad 11, .inl (cI, 8, .inl club)), (ad 12, .inl (cI, 8, .inl need)), (ad 13, .inl (cI, 8, .inl worth)), (ad 14, .inr (6, [.ref (ad 15), .ref (ad 16), .ref (ad 17), .int (nI nc)])), (ad 15, .inl (cI, 6, .inl cat)), (ad 16, .inl (cI, 6, .inl cwet)), (ad 17, .inl (cI, 6, .inl chigh)), (ad 18, .inr (5, [.ref (ad 19), .ref (ad 20), .ref (ad 21), .ref (ad 22), .int (nI ns)])), (ad 19, .inl (cI, 10, .inl kd)), (ad 20, .inl (cI, 10, .inl fr)), (ad 21, .inl (cI, 10, .inl hor)), (ad 22, .inl (cI, 10, .inl pw))]) (st' := [.long (kAwt (fun m9 => kYd club need worth (-1) N (kDay (N, nc, low, cat, cwet, chigh, kd, fr, hor, pw) wind (fun s => decide (s < ns) && kBit (nI m9) s) 12)) (fun m9 => kWay x (nI m9) ns) (kP2 ns))]) rfl rfl ?_
      obtain ⟨u1, hu1, eu1⟩ := kAw_L (g := (N, nc, low, cat, cwet, chigh, kd, fr, hor, pw)) (wind := wind) (club := club) hN hnc hns hwb c_7
      refine ky_top (v' := .long (lN u1)) (congrArg Value.long eu1) ?_
      refine ky_lstore_n C (lv' := [(3, .long (lN u1)), (0, .ref (ad 0)), (1, .int x), (2, .int y)]) dX7_awaited_31 rfl (by decide) rfl ?_
      refine ky_lconst C dX7_awaited_32 (v := 1) (by decide) ?_
      refine ky_lstore C (lv' := [(5, .long 1), (3, .long (lN u1)), (0, .ref (ad 0)), (1, .int x), (2, .int y)]) dX7_awaited_33 (by decide) rfl ?_
      refine ky_iconst C dX7_awaited_35 (v := 0) (by decide) ?_
      refine ky_istore C (lv' := [(7, .int 0), (5, .long 1), (3, .long (lN u1)), (0, .ref (ad 0)), (1, .int x), (2, .int y)]) dX7_awaited_36 (by decide) rfl ?_
      refine ky_conv (ws' := [(ad 0, .inr (7, [.ref (ad 1), .ref (ad 10), .ref (ad 14), .ref (ad 18), .ref (ad 23), .ref (ad 29), .ref (ad 32), .int left, .int lastF])), (ad 29, .inr (0, [.int bp, .int by0, .ref (ad 30), .ref (ad 31), .ref (ad 10), .ref (ad 18), .ref (ad 23)])), (ad 23, .inr (1, [.ref (ad 24), .ref (ad 25), .ref (ad 26), .ref (ad 27), .ref (ad 28), .ref (ad 10), .ref (ad 14), .ref (ad 18)])), (ad 24, .inl (cI, 6, .inl lf2_28)), (ad 25, .inl (cI, 8, .inl gt2_28)), (ad 26, .inl (cI, 8, .inl hl2_28)), (ad 27, .inl (cI, 10, .inl am2_28)), (ad 28, .inl (cI, 10, .inl so2_28)), (ad 10, .inr (3, [.ref (ad 11), .ref (ad 12), .ref (ad 13), .int (nI N), .int wind, .int low, .int forb])), (ad 11, .inl (cI, 8, .inl club)), (ad 12, .inl (cI, 8, .inl need)), (ad 13, .inl (cI, 8, .inl worth)), (ad 14, .inr (6, [.ref (ad 15), .ref (ad 16), .ref (ad 17), .int (nI nc)])), (ad 15, .inl (cI, 6, .inl cat)), (ad 16, .inl (cI, 6, .inl cwet)), (ad 17, .inl (cI, 6, .inl chigh)), (ad 18, .inr (5, [.ref (ad 19), .ref (ad 20), .ref (ad 21), .ref (ad 22), .int (nI ns)])), (ad 19, .inl (cI, 10, .inl kd)), (ad 20, .inl (cI, 10, .inl fr)), (ad 21, .inl (cI, 10, .inl hor)), (ad 22, .inl (cI, 10, .inl pw))]) (lv' := [(7, .int 0), (5, .long 1), (3, .long (lN u1)), (0, .ref (ad 0)), (1, .int x), (2, .int y)]) (st' := []) [0, 1, 2, 3, 4, 5] rfl rfl rfl ?_
      refine ky_loop2 (T1 := Nat) (T2 := Nat) (Wf := (fun s1 lw => [(ad 0, .inr (7, [.ref (ad 1), .ref (ad 10), .ref (ad 14), .ref (ad 18), .ref (ad 23), .ref (ad 29), .ref (ad 32), .int left, .int lastF])), (ad 29, .inr (0, [.int bp, .int by0, .ref (ad 30), .ref (ad 31), .ref (ad 10), .ref (ad 18), .ref (ad 23)])), (ad 23, .inr (1, [.ref (ad 24), .ref (ad 25), .ref (ad 26), .ref (ad 27), .ref (ad 28), .ref (ad 10), .ref (ad 14), .ref (ad 18)])), (ad 24, .inl (cI, 6, .inl lf2_28)), (ad 25, .inl (cI, 8, .inl gt2_28)), (ad 26, .inl (cI, 8, .inl hl2_28)), (ad 27, .inl (cI, 10, .inl am2_28)), (ad 28, .inl (cI, 10, .inl so2_28)), (ad 10, .inr (3, [.ref (ad 11), .ref (ad 12), .ref (ad 13), .int (nI N), .int wind, .int low, .int forb])), (ad 11, .inl (cI, 8, .inl club)), (ad 12, .inl (cI, 8, .inl need)), (ad 13, .inl (cI, 8, .inl worth)), (ad 14, .inr (6, [.ref (ad 15), .ref (ad 16), .ref (ad 17), .int (nI nc)])), (ad 15, .inl (cI, 6, .inl cat)), (ad 16, .inl (cI, 6, .inl cwet)), (ad 17, .inl (cI, 6, .inl chigh)), (ad 18, .inr (5, [.ref (ad 19), .ref (ad 20), .ref (ad 21), .ref (ad 22), .int (nI ns)])), (ad 19, .inl (cI, 10, .inl kd)), (ad 20, .inl (cI, 10, .inl fr)), (ad 21, .inl (cI, 10, .inl hor)), (ad 22, .inl (cI, 10, .inl pw))])) (Lf := (fun s1 lw => [(7, .int (nI s1)), (5, .long (lN lw)), (3, .long (lN u1)), (0, .ref (ad 0)), (1, .int x), (2, .int y)])) (Sf := (fun s1 lw => [])) (fun s1 lw => (s1 ≤ ns) ∧ (lw = 10 ^ s1) ∧ True) (fun s1 lw => ns - s1) ?_ 0 1 ⟨(by omega), rfl, trivial⟩
      intro s1 lw hI_38 ih_38
      obtain ⟨hs1, hlw, -⟩ := hI_38
      have hs1 : s1 ≤ ns := hs1
      have hlw : lw = 10 ^ s1 := hlw
      refine ky_conv (ws' := [(ad 0, .inr (7, [.ref (ad 1), .ref (ad 10), .ref (ad 14), .ref (ad 18), .ref (ad 23), .ref (ad 29), .ref (ad 32), .int left, .int lastF])), (ad 29, .inr (0, [.int bp, .int by0, .ref (ad 30), .ref (ad 31), .ref (ad 10), .ref (ad 18), .ref (ad 23)])), (ad 23, .inr (1, [.ref (ad 24), .ref (ad 25), .ref (ad 26), .ref (ad 27), .ref (ad 28), .ref (ad 10), .ref (ad 14), .ref (ad 18)])), (ad 24, .inl (cI, 6, .inl lf2_28)), (ad 25, .inl (cI, 8, .inl gt2_28)), (ad 26, .inl (cI, 8, .inl hl2_28)), (ad 27, .inl (cI, 10, .inl am2_28)), (ad 28, .inl (cI, 10, .inl so2_28)), (ad 10, .inr (3, [.ref (ad 11), .ref (ad 12), .ref (ad 13), .int (nI N), .int wind, .int low, .int forb])), (ad 11, .inl (cI, 8, .inl club)), (ad 12, .inl (cI, 8, .inl need)), (ad 13, .inl (cI, 8, .inl worth)), (ad 14, .inr (6, [.ref (ad 15), .ref (ad 16), .ref (ad 17), .int (nI nc)])), (ad 15, .inl (cI, 6, .inl cat)), (ad 16, .inl (cI, 6, .inl cwet)), (ad 17, .inl (cI, 6, .inl chigh)), (ad 18, .inr (5, [.ref (ad 19), .ref (ad 20), .ref (ad 21), .ref (ad 22), .int (nI ns)])), (ad 19, .inl (cI, 10, .inl kd)), (ad 20, .inl (cI, 10, .inl fr)), (ad 21, .inl (cI, 10, .inl hor)), (ad 22, .inl (cI, 10, .inl pw))]) (lv' := [(7, .int (nI s1)), (5, .long (lN lw)), (3, .long (lN u1)), (0, .ref (ad 0)), (1, .int x), (2, .int y)]) (st' := []) (List.range 6) rfl rfl rfl ?_
      refine ky_iload C 0 dX7_awaited_38 rfl ?_
      refine ky_aload_n C 3 dX7_awaited_40 rfl rfl ?_
      refine ky_get C (ci := 7) (T := TX7) (N := 9) (Cn := RX7) (ref := "RainAccount") hiX7_awaited_X7 0 rfl rfl 3 (by decide) (List.mem_of_getElem? (i := 3) rfl) rfl (v := .ref (ad 18)) rfl dX7_awaited_41 ?_
      refine ky_get C (ci := 5) (T := TX5) (N := 5) (Cn := RX5) (ref := "RainAccount$Shots") hiX7_awaited_X5 16 rfl rfl 4 (by decide) (List.mem_of_getElem? (i := 4) rfl) rfl (v := .int (nI ns)) rfl dX7_awaited_44 ?_
      refine ky_icmp_ge C 64 dX7_awaited_47 (by decide) (fun c_47 => ?_) (fun c_47 => ?_)
      · have d_47 := Int32.not_lt.mpr c_47
        have n_47 := kn_le (a := ns) (b := s1) (by omega) (by omega) c_47
        have m_47 := Nat.not_lt.mpr n_47
        have hsn : s1 = ns := by omega
        have hlw8 : lw ≤ 10 ^ 8 := by rw [hlw]; exact Nat.pow_le_pow_right (by decide) (by omega)
        have hlw0 : 0 < lw := by rw [hlw]; exact Nat.pow_pos (by decide)
        have hg0 : 0 < Nat.gcd u1 lw := Nat.gcd_pos_of_pos_right u1 hlw0
        have hg8 : Nat.gcd u1 lw < 2 ^ 63 := Nat.lt_of_le_of_lt (Nat.gcd_le_right u1 hlw0) (Nat.lt_of_le_of_lt hlw8 (by decide))
        refine ky_lload_n C 2 dX7_awaited_64 rfl rfl ?_
        refine ky_lload C 1 dX7_awaited_65 rfl ?_
        refine ky_callS0 C 2 (kX7_commonDivisor l D cI cS u1 lw (Nat.lt_of_le_of_lt hu1 (by decide)) (Nat.lt_of_le_of_lt hlw8 (by decide))) gX7_awaited_X7_commonDivisor rfl rfl rfl hdX7_commonDivisor.2 ⟨Nat.le_of_ble_eq_true rfl, Nat.le_of_ble_eq_true rfl⟩ rfl rfl (Nat.le_of_ble_eq_true rfl) dX7_awaited_67 [] rfl rfl ?_
        rintro _ _ ⟨rfl, rfl⟩
        refine ky_ws (ws' := [(ad 0, .inr (7, [.ref (ad 1), .ref (ad 10), .ref (ad 14), .ref (ad 18), .ref (ad 23), .ref (ad 29), .ref (ad 32), .int left, .int lastF])), (ad 29, .inr (0, [.int bp, .int by0, .ref (ad 30), .ref (ad 31), .ref (ad 10), .ref (ad 18), .ref (ad 23)])), (ad 23, .inr (1, [.ref (ad 24), .ref (ad 25), .ref (ad 26), .ref (ad 27), .ref (ad 28), .ref (ad 10), .ref (ad 14), .ref (ad 18)])), (ad 24, .inl (cI, 6, .inl lf2_28)), (ad 25, .inl (cI, 8, .inl gt2_28)), (ad 26, .inl (cI, 8, .inl hl2_28)), (ad 27, .inl (cI, 10, .inl am2_28)), (ad 28, .inl (cI, 10, .inl so2_28)), (ad 10, .inr (3, [.ref (ad 11), .ref (ad 12), .ref (ad 13), .int (nI N), .int wind, .int low, .int forb])), (ad 11, .inl (cI, 8, .inl club)), (ad 12, .inl (cI, 8, .inl need)), (ad 13, .inl (cI, 8, .inl worth)), (ad 14, .inr (6, [.ref (ad 15), .ref (ad 16), .ref (ad 17), .int (nI nc)])), (ad 15, .inl (cI, 6, .inl cat)), (ad 16, .inl (cI, 6, .inl cwet)), (ad 17, .inl (cI, 6, .inl chigh)), (ad 18, .inr (5, [.ref (ad 19), .ref (ad 20), .ref (ad 21), .ref (ad 22), .int (nI ns)])), (ad 19, .inl (cI, 10, .inl kd)), (ad 20, .inl (cI, 10, .inl fr)), (ad 21, .inl (cI, 10, .inl hor)), (ad 22, .inl (cI, 10, .inl pw))]) (st' := [.long (lN (Nat.gcd u1 lw))]) rfl rfl ?_
        refine ky_lstore C (lv' := [(7, .long (lN (Nat.gcd u1 lw))), (5, .long (lN lw)), (3, .long (lN u1)), (0, .ref (ad 0)), (1, .int x), (2, .int y)]) dX7_awaited_70 (by decide) rfl ?_
        refine ky_lload C 0 dX7_awaited_72 rfl ?_
        refine ky_lconst C dX7_awaited_74 (v := 1) (by decide) ?_
        refine ky_lcmp C dX7_awaited_75 rfl ?_
        refine ky_if_ge C 83 dX7_awaited_76 (by decide) (fun c_76 => ?_) (fun q => absurd (kcmp_ge1 hg8 hg0) q)
        refine ky_iload_n C 5 dX7_awaited_83 rfl rfl ?_
        refine ky_if_ne C 94 dX7_awaited_84 (by decide) (fun c_84 => ?_) (fun c_84 => ?_)
        · refine ky_lload C 1 dX7_awaited_94 rfl ?_
          refine ky_lload C 0 dX7_awaited_96 rfl ?_
          refine ky_ldiv C (v := lN (lw / Nat.gcd u1 lw)) dX7_awaited_98 (klN_ne hg8 hg0) (pk_lDiv (Nat.lt_of_le_of_lt hlw8 (by decide)) hg0 hg8) ?_
          have hkU := kU_eq (g := (N, nc, low, cat, cwet, chigh, kd, fr, hor, pw)) (wind := wind) (club := club) (need := need) (worth := worth) eu1 hu1
          have h10 : 10 ^ ns = lw := by rw [hlw, hsn]
          exact ky_lret C hr hlk ⟨(lN (lw / Nat.gcd u1 lw)), lf2_28, gt2_28, hl2_28, am2_28, so2_28, rfl, rfl, (by simp only [kF_awaited, if_pos c_7, if_pos c_16, if_pos c_47, if_neg d_47, if_pos n_47, if_neg m_47, if_neg c_84, hkU, h10])⟩ (Nat.le_of_ble_eq_true rfl) dX7_awaited_99
        · refine ky_lload_n C 2 dX7_awaited_87 rfl rfl ?_
          refine ky_lload C 0 dX7_awaited_88 rfl ?_
          refine ky_ldiv C (v := lN (u1 / Nat.gcd u1 lw)) dX7_awaited_90 (klN_ne hg8 hg0) (pk_lDiv (Nat.lt_of_le_of_lt hu1 (by decide)) hg0 hg8) ?_
          refine ky_goto C dX7_awaited_91 (tgt := 99) (by decide) ?_
          have hkU := kU_eq (g := (N, nc, low, cat, cwet, chigh, kd, fr, hor, pw)) (wind := wind) (club := club) (need := need) (worth := worth) eu1 hu1
          have h10 : 10 ^ ns = lw := by rw [hlw, hsn]
          exact ky_lret C hr hlk ⟨(lN (u1 / Nat.gcd u1 lw)), lf2_28, gt2_28, hl2_28, am2_28, so2_28, rfl, rfl, (by simp only [kF_awaited, if_pos c_7, if_pos c_16, if_pos c_47, if_neg d_47, if_pos n_47, if_neg m_47, if_pos c_84, hkU, h10])⟩ (Nat.le_of_ble_eq_true rfl) dX7_awaited_99
      · have d_47 := Int32.not_le.mp c_47
        have n_47 := kn_nle (a := ns) (b := s1) (by omega) (by omega) c_47
        have m_47 := Nat.not_le.mpr n_47
        refine ky_lload C 1 dX7_awaited_50 rfl ?_
        refine ky_ldc2 C (List.mem_of_getElem? (i := 5) rfl) dX7_awaited_52 ?_
        refine ky_lmul C (v := lN (lw * 10)) dX7_awaited_55 (lN_mul lw 10) ?_
        refine ky_lstore C (lv' := [(5, .long (lN (lw * 10))), (7, .int (nI s1)), (3, .long (lN u1)), (0, .ref (ad 0)), (1, .int x), (2, .int y)]) dX7_awaited_56 (by decide) rfl ?_
        refine ky_iinc C 1 (v := nI (s1 + 1)) (lv' := [(7, .int (nI (s1 + 1))), (5, .long (lN (lw * 10))), (3, .long (lN u1)), (0, .ref (ad 0)), (1, .int x), (2, .int y)]) dX7_awaited_58 rfl (nI_1 _) (by decide) rfl ?_
        refine ky_goto C dX7_awaited_61 (tgt := 38) (by decide) ?_
        exact ky_conv (ws' := [(ad 0, .inr (7, [.ref (ad 1), .ref (ad 10), .ref (ad 14), .ref (ad 18), .ref (ad 23), .ref (ad 29), .ref (ad 32), .int left, .int lastF])), (ad 29, .inr (0, [.int bp, .int by0, .ref (ad 30), .ref (ad 31), .ref (ad 10), .ref (ad 18), .ref (ad 23)])), (ad 23, .inr (1, [.ref (ad 24), .ref (ad 25), .ref (ad 26), .ref (ad 27), .ref (ad 28), .ref (ad 10), .ref (ad 14), .ref (ad 18)])), (ad 24, .inl (cI, 6, .inl lf2_28)), (ad 25, .inl (cI, 8, .inl gt2_28)), (ad 26, .inl (cI, 8, .inl hl2_28)), (ad 27, .inl (cI, 10, .inl am2_28)), (ad 28, .inl (cI, 10, .inl so2_28)), (ad 10, .inr (3, [.ref (ad 11), .ref (ad 12), .ref (ad 13), .int (nI N), .int wind, .int low, .int forb])), (ad 11, .inl (cI, 8, .inl club)), (ad 12, .inl (cI, 8, .inl need)), (ad 13, .inl (cI, 8, .inl worth)), (ad 14, .inr (6, [.ref (ad 15), .ref (ad 16), .ref (ad 17), .int (nI nc)])), (ad 15, .inl (cI, 6, .inl cat)), (ad 16, .inl (cI, 6, .inl cwet)), (ad 17, .inl (cI, 6, .inl chigh)), (ad 18, .inr (5, [.ref (ad 19), .ref (ad 20), .ref (ad 21), .ref (ad 22), .int (nI ns)])), (ad 19, .inl (cI, 10, .inl kd)), (ad 20, .inl (cI, 10, .inl fr)), (ad 21, .inl (cI, 10, .inl hor)), (ad 22, .inl (cI, 10, .inl pw))]) (lv' := [(7, .int (nI (s1 + 1))), (5, .long (lN (lw * 10))), (3, .long (lN u1)), (0, .ref (ad 0)), (1, .int x), (2, .int y)]) (st' := []) [0, 1, 2, 3, 4, 5] rfl rfl rfl (ih_38 (s1 + 1) (lw * 10) (show ns - (s1 + 1) < ns - s1 from by omega) ⟨(by omega), (by rw [hlw, Nat.pow_succ]), trivial⟩)
    · have c_16 : ¬ (0 ≤ y ∧ y ≤ 1) := kb0 c_16
      refine ky_ldc2 C (List.mem_of_getElem? (i := 1) rfl) dX7_awaited_19 ?_
      exact ky_lret C hr hlk ⟨(-9223372036854775808), lf, gt, hl, am, so, rfl, rfl, (by simp only [kF_awaited, if_pos c_7, if_neg c_16])⟩ (Nat.le_of_ble_eq_true rfl) dX7_awaited_22
