/-! part 80: the law's start -/
theorem kTxt_c {g : kA} {f x : Nat} (h : g (1 + f) = nI x) : kTxt g (f * 4) - 48 = g (1 + f) := by
  rw [kTxt_0 (f := f) (by omega) h, h]
  rw [show nI (48 + x) - 48 = nI (48 + x - 48) from pk_sub (b := 48) (by omega)]
  exact congrArg nI (by omega)
theorem kTxt_n {g : kA} {f x : Nat} (h : g (9 + f) = nI x) : kTxt g (f * 4 + 1) - 48 = g (9 + f) := by
  rw [kTxt_1 (f := f) (by omega) h, h]
  rw [show nI (48 + x) - 48 = nI (48 + x - 48) from pk_sub (b := 48) (by omega)]
  exact congrArg nI (by omega)
theorem kTxt_w {g : kA} {f x : Nat} (h : g (17 + f) = nI x) : kTxt g (f * 4 + 2) - 48 = g (17 + f) := by
  rw [kTxt_2 (f := f) (by omega) h, h]
  rw [show nI (48 + x) - 48 = nI (48 + x - 48) from pk_sub (b := 48) (by omega)]
  exact congrArg nI (by omega)
theorem kGo_txt {g : kA} {N p : Nat} (hN : N ≤ 8) (hp : p + 1 < 4 * N) (hb : ∀ f, f < N → ∃ x y z : Nat, x ≤ 3 ∧ y ≤ 9 ∧ z ≤ 9 ∧ g (1 + f) = nI x ∧ g (9 + f) = nI y ∧ g (17 + f) = nI z) : kGo p (kTxt g p) = true := by
  obtain ⟨x, y, z, hx, hy, hz, e1, e2, e3⟩ := hb (p / 4) (by omega)
  have k48 : ∀ k, k ≤ 9 → (48 : Int32) ≤ nI (48 + k) ∧ nI (48 + k) ≤ 57 := fun k hk => ⟨(nI_leI (a := 48) (by decide) (by omega)).mpr (by omega), (nI_leI (b := 57) (by omega) (by decide)).mpr (by omega)⟩
  unfold kGo
  by_cases q : p % 4 = 3
  · rw [if_pos q, kTxt_59 q]
    exact decide_eq_true ⟨rfl, by omega⟩
  · rw [if_neg q]
    rcases (show p = 4 * (p / 4) ∨ p = 4 * (p / 4) + 1 ∨ p = 4 * (p / 4) + 2 by omega) with h | h | h
    · rw [kTxt_0 h e1, if_pos (by omega)]
      exact decide_eq_true ⟨(k48 x (by omega)).1, (nI_leI (b := 51) (by omega) (by decide)).mpr (by omega)⟩
    · rw [kTxt_1 h e2, if_neg (by omega)]
      exact decide_eq_true (k48 y hy)
    · rw [kTxt_2 h e3, if_neg (by omega)]
      exact decide_eq_true (k48 z hz)
theorem kPlain_go {sh : Nat → kSh} {g club need worth : kA} {N n N0 nc ns : Nat} {wind low forb : Int32} (hT : kTx sh n (kTxt g)) (hn : n + 1 = 4 * N) (hN : 2 ≤ N ∧ N ≤ 8) (hb : ∀ f, f < N → ∃ x y z : Nat, x ≤ 3 ∧ y ≤ 9 ∧ z ≤ 9 ∧ g (1 + f) = nI x ∧ g (9 + f) = nI y ∧ g (17 + f) = nI z) :
    ∃ c2 n2 w2 : kA, kF_plain sh N0 wind low forb club need worth nc ns 0 0 0 (nI n) = (nI N, 0, N, 0, 0, 0, c2, n2, w2, 0, 0) ∧ ∀ f, f < N → c2 f = g (1 + f) ∧ n2 f = g (9 + f) ∧ w2 f = g (17 + f) := by
  obtain ⟨h1, h2, h3, h4⟩ := hT
  have e0 : (0 : Int32).toNatClampNeg = 0 := by decide
  have hB : kBad (fun p => (sh 0).2.2 (0 + p)) n = -1 := by
    refine kBad_ok (p := n) rfl (fun p hp => ?_) (by omega) (by omega)
    show kGo p ((sh 0).2.2 (0 + p)) = true
    rw [Nat.zero_add, h3 p hp]
    exact kGo_txt hN.2 (by omega) hb
  have hH : 0 ≤ (0 : Int32) ∧ (0 : Int32) ≤ nI n ∧ 0 ≤ (sh 0).2.1 ∧ nI n ≤ (sh 0).2.1 - 0 := by
    rw [h2]
    exact ⟨by decide, nI_pos' (by omega), by decide, (nI_leI (b := 40) (by omega) (by decide)).mpr (by omega)⟩
  refine ⟨kFil (fun f9 => (sh 0).2.2 (0 + f9 * 4) - 48) club N, kFil (fun f9 => (sh 0).2.2 (0 + f9 * 4 + 1) - 48) need N, kFil (fun f9 => (sh 0).2.2 (0 + f9 * 4 + 2) - 48) worth N, ?_, ?_⟩
  · unfold kF_plain
    rw [if_pos (by decide), if_pos (by decide), e0, if_neg (by rw [h2]; decide), if_pos h1, if_pos (nI_pos' (by omega)), if_pos hH, nI_clamp (show n < 2 ^ 31 by omega), if_pos hB, show (n + 1) / 4 = N by omega]
  · intro f hf
    obtain ⟨x, y, z, hx, hy, hz, e1, e2, e3⟩ := hb f hf
    refine ⟨?_, ?_, ?_⟩
    · rw [kFil_ext hf]
      show (sh 0).2.2 (0 + f * 4) - 48 = g (1 + f)
      rw [Nat.zero_add, h3 _ (by omega)]
      exact kTxt_c e1
    · rw [kFil_ext hf]
      show (sh 0).2.2 (0 + f * 4 + 1) - 48 = g (9 + f)
      rw [Nat.zero_add, h3 _ (by omega)]
      exact kTxt_n e2
    · rw [kFil_ext hf]
      show (sh 0).2.2 (0 + f * 4 + 2) - 48 = g (17 + f)
      rw [Nat.zero_add, h3 _ (by omega)]
      exact kTxt_w e3
theorem kTie_start {N nc : Nat} {g g2 club need worth cat cwet chi kd fr hor pw q : kA} (hN : 2 ≤ N ∧ N ≤ 8) (hg0 : g 0 = nI N) (hz : g 25 = 0 ∧ g 26 = 0 ∧ g 27 = 0 ∧ g 28 = 0 ∧ g 47 = 0) (hb : ∀ f, f < N → ∃ x y z : Nat, x ≤ 3 ∧ y ≤ 9 ∧ z ≤ 9 ∧ g (1 + f) = nI x ∧ g (9 + f) = nI y ∧ g (17 + f) = nI z)
    (hc : ∀ f, f < N → club f = g (1 + f) ∧ need f = g (9 + f) ∧ worth f = g (17 + f)) (hnc : 1 ≤ nc ∧ nc ≤ 6) (h28 : g2 28 = nI nc) (hcw : ∀ c, c < nc → g2 (29 + c) = cat c ∧ g2 (35 + c) = cwet c ∧ g2 (41 + c) = chi c ∧ ∃ m : Nat, m ≤ 30 ∧ cwet c = nI m) (hco : ∀ j, j < 28 ∨ 46 < j → g2 j = g j) :
    kTie N nc 0 0 0 0 club need worth cat cwet chi kd fr hor pw g2 q := by
  obtain ⟨z1, z2, z3, z4, z5⟩ := hz
  refine ⟨⟨by omega, hN.2, hnc.1, hnc.2, by omega⟩, ⟨?_, ?_, ?_, ?_, h28, ?_⟩, fun f hf => ?_, fun c hcn => hcw c hcn, fun k hk => absurd hk (Nat.not_lt_zero k)⟩
  · rw [hco 0 (by omega)]; exact hg0
  · rw [hco 25 (by omega)]; exact z1
  · rw [hco 26 (by omega)]; exact z2
  · rw [hco 27 (by omega)]; exact z3
  · rw [hco 47 (by omega)]; exact z5
  · obtain ⟨x, y, z, hx, hy, hz, e1, e2, e3⟩ := hb f hf
    obtain ⟨c1, c2, c3⟩ := hc f hf
    refine ⟨?_, ?_, ?_, ⟨y, hy, c2.trans e2⟩, ⟨z, hz, c3.trans e3⟩⟩
    · rw [hco _ (by omega)]; exact c1.symm
    · rw [hco _ (by omega)]; exact c2.symm
    · rw [hco _ (by omega)]; exact c3.symm
set_option maxRecDepth 100000 in
set_option maxHeartbeats 8000000 in
theorem whole_start {p : Program} {e : Env} {s : State} {m : MethodId} {below : List Frame} {meth : Method} {c : Code} (l : Launch) (hflags : l.flags = flags0) {b L : Nat} {xs : Nat → Int32} (hL : L ≤ 260) (C0 : lw_At p s m meth c b L xs) : W p l e room_1 s m #[Value.ref b] below meth c s.heap [] 0 0 (lw_Z below #[Value.ref b] s) (entryFrame m ([Value.ref b] : List Value).toArray 15) := by
  obtain ⟨hx, hb, hr, hml, hown, hts, hX, hbl, hlocks, hgv⟩ := id C0
  have hbA : ¬ (fun q : Nat => s.heap.size ≤ q) b := Nat.not_le.mpr hbl
  have hT : ∀ w ∈ wsL_law, w.before #[Value.ref b] s = true := fun w h => hts w (wsL_law_in w h)
  obtain ⟨c0, i0, hKn0⟩ := u_known (C := RX0) (T := TX0) (N := 7) (n := 7) hts inX0 (hT (.instantiable RX0 7) (List.mem_of_getElem? (i := 32) rfl))
  obtain ⟨c1, i1, hKn1⟩ := u_known (C := RX1) (T := TX1) (N := 8) (n := 8) hts inX1 (hT (.instantiable RX1 8) (List.mem_of_getElem? (i := 28) rfl))
  obtain ⟨c2, i2, hKn2⟩ := u_known (C := RX2) (T := TX2) (N := 14) (n := 14) hts inX2 (hT (.instantiable RX2 14) (List.mem_of_getElem? (i := 36) rfl))
  obtain ⟨c3, i3, hKn3⟩ := u_known (C := RX3) (T := TX3) (N := 7) (n := 7) hts inX3 (hT (.instantiable RX3 7) (List.mem_of_getElem? (i := 16) rfl))
  obtain ⟨c4, i4, hKn4⟩ := u_known (C := RX4) (T := TX4) (N := 3) (n := 3) hts inX4 (hT (.instantiable RX4 3) (List.mem_of_getElem? (i := 13) rfl))
  obtain ⟨c5, i5, hKn5⟩ := u_known (C := RX5) (T := TX5) (N := 5) (n := 5) hts inX5 (hT (.instantiable RX5 5) (List.mem_of_getElem? (i := 24) rfl))
  obtain ⟨c6, i6, hKn6⟩ := u_known (C := RX6) (T := TX6) (N := 4) (n := 4) hts inX6 (hT (.instantiable RX6 4) (List.mem_of_getElem? (i := 20) rfl))
  obtain ⟨c7, i7, hKn7⟩ := u_known (C := RX7) (T := TX7) (N := 9) (n := 9) hts inX7 (hT (.instantiable RX7 9) (List.mem_of_getElem? (i := 1) rfl))
  obtain ⟨dC, dI, hKc⟩ : ∃ (dC : Nat → ClassId) (dI : Nat → Nat → Nat), ∀ (k : Nat) (q : vw_C), vwCl[k]? = some q → u_Kn s q.1 q.2.1 q.2.2 (dC k) (dI k) := by
    refine ⟨fun k => [c0, c1, c2, c3, c4, c5, c6, c7].getD k c0, fun k => [i0, i1, i2, i3, i4, i5, i6, i7].getD k i0, ?_⟩
    intro k q hq
    match k, hq with
    | 0, hq => cases hq; exact hKn0
    | 1, hq => cases hq; exact hKn1
    | 2, hq => cases hq; exact hKn2
    | 3, hq => cases hq; exact hKn3
    | 4, hq => cases hq; exact hKn4
    | 5, hq => cases hq; exact hKn5
    | 6, hq => cases hq; exact hKn6
    | 7, hq => cases hq; exact hKn7
    | k + 8, hq => simp [vwCl] at hq
  have hov : (Cond.arrayOver (.object RX4)).before #[Value.ref b] s = true := hts _ (List.mem_append_right _ (List.mem_of_getElem? (i := 19) (by decide +kernel)))
  have hO : va_AO RX4 s := va_AO.of hov
  obtain ⟨cI, kI, compI, a1, a2, a3⟩ := Cond.arrayClass_spec (hT (.arrayClass .int) (List.mem_of_getElem? (i := 3) rfl))
  obtain ⟨compS, cS, kS, b1, b2, b3, b4, b5⟩ := Cond.arrayOver_spec hov
  have hK : va_K (dC, dI) vwCl (kyT cI cS) s := by
    refine ⟨hKc, ?_⟩
    intro k q hq
    match k, hq with
    | 0, hq => cases hq; exact ⟨fun N z => ⟨(fun k h => by cases h), kI, a2, compI, a3⟩, a1⟩
    | 1, hq => cases hq; exact ⟨fun N z => ⟨(fun k h => by cases h), kS, b3, compS, b4⟩, kS, compS, b3, b4, b1, b5⟩
    | k + 2, hq => simp [kyT] at hq
  have C : kyC p s m #[Value.ref b] c cL_law 15 RL wsL_law (dC, dI) cI cS (fun q : Nat => s.heap.size ≤ q) := ⟨hx, hb, hml, hown, hT, hK, fun q h => h⟩
  have hP : va_P (dC, dI) vwCl [] s.heap := fun k q h => by simp at h
  have hD : va_D (fun q : Nat => s.heap.size ≤ q) [] := ⟨fun i j p q h => by simp at h, fun k q h => by simp at h⟩
  generalize hDD : (dC, dI) = D at C hP hK
  have key : kyW p l e room_1 s m #[Value.ref b] below meth c D (fun q : Nat => s.heap.size ≤ q) 15 0 0 (lw_Z below #[Value.ref b] s) [] (lv_args 0 [Value.ref b]) 0 [] := by
    refine ky_conv (lv' := [(0, .ref b)]) (List.range 1) rfl rfl rfl ?_
    refine ky_new C (ci := 7) (T := TX7) (N := 9) (Cn := RX7) inlX7 tyX7 tyX7_ok (List.mem_of_getElem? (i := 0) rfl) (List.mem_of_getElem? (i := 1) rfl) (List.mem_of_getElem? (i := 2) rfl) rfl (fs := [.null, .null, .null, .null, .null, .null, .null, .int 0, .int 0]) dfX7 (Nat.le_of_ble_eq_true rfl) (Nat.le_of_ble_eq_true rfl) dL_law_0 ?_
    intro q0
    refine ky_ws (ws' := [(q0, .inr (7, [.null, .null, .null, .null, .null, .null, .null, .int 0, .int 0]))]) (st' := [.ref q0]) rfl rfl ?_
    refine ky_dup C dL_law_3 rfl ?_
    refine ky_callIO C hO 0 (kX7_init l D cI cS q0) gL_law_X7_init rfl rfl rfl (List.mem_of_getElem? (i := 2) rfl) (List.mem_of_getElem? (i := 5) rfl) (List.mem_of_getElem? (i := 6) rfl) rfl hdX7_init.2 ⟨Nat.le_of_ble_eq_true rfl, Nat.le_of_ble_eq_true rfl⟩ rfl rfl (Nat.le_of_ble_eq_true rfl) dL_law_4 ⟨Nat.le_of_ble_eq_true rfl, Nat.le_of_ble_eq_true rfl⟩ [0] rfl rfl ?_
    rintro _ _ ⟨ad_4, rfl, rfl, rfl⟩
    refine ky_ws (ws' := [(ad_4 0, .inr (7, [.ref (ad_4 1), .ref (ad_4 10), .ref (ad_4 14), .ref (ad_4 18), .ref (ad_4 23), .ref (ad_4 29), .ref (ad_4 32), .int 0, .int 0])), (ad_4 1, .inl (cS, 4, .inr (.inr (.inr (.inr (fun k => some (ad_4 (2 + 2 * k)))))))), (ad_4 2, .inr (4, [.ref (ad_4 3), .int 0, .int (-1)])), (ad_4 3, .inl (cI, 40, .inl (fun _ => 0))), (ad_4 4, .inr (4, [.ref (ad_4 5), .int 0, .int (-1)])), (ad_4 5, .inl (cI, 40, .inl (fun _ => 0))), (ad_4 6, .inr (4, [.ref (ad_4 7), .int 0, .int (-1)])), (ad_4 7, .inl (cI, 40, .inl (fun _ => 0))), (ad_4 8, .inr (4, [.ref (ad_4 9), .int 0, .int (-1)])), (ad_4 9, .inl (cI, 40, .inl (fun _ => 0))), (ad_4 10, .inr (3, [.ref (ad_4 11), .ref (ad_4 12), .ref (ad_4 13), .int (nI 0), .int 0, .int 0, .int 0])), (ad_4 11, .inl (cI, 8, .inl (fun _ => 0))), (ad_4 12, .inl (cI, 8, .inl (fun _ => 0))), (ad_4 13, .inl (cI, 8, .inl (fun _ => 0))), (ad_4 14, .inr (6, [.ref (ad_4 15), .ref (ad_4 16), .ref (ad_4 17), .int (nI 0)])), (ad_4 15, .inl (cI, 6, .inl (fun _ => 0))), (ad_4 16, .inl (cI, 6, .inl (fun _ => 0))), (ad_4 17, .inl (cI, 6, .inl (fun _ => 0))), (ad_4 18, .inr (5, [.ref (ad_4 19), .ref (ad_4 20), .ref (ad_4 21), .ref (ad_4 22), .int (nI 0)])), (ad_4 19, .inl (cI, 10, .inl (fun _ => 0))), (ad_4 20, .inl (cI, 10, .inl (fun _ => 0))), (ad_4 21, .inl (cI, 10, .inl (fun _ => 0))), (ad_4 22, .inl (cI, 10, .inl (fun _ => 0))), (ad_4 23, .inr (1, [.ref (ad_4 24), .ref (ad_4 25), .ref (ad_4 26), .ref (ad_4 27), .ref (ad_4 28), .ref (ad_4 10), .ref (ad_4 14), .ref (ad_4 18)])), (ad_4 24, .inl (cI, 6, .inl (fun _ => 0))), (ad_4 25, .inl (cI, 8, .inl (fun _ => 0))), (ad_4 26, .inl (cI, 8, .inl (fun _ => 0))), (ad_4 27, .inl (cI, 10, .inl (fun _ => 0))), (ad_4 28, .inl (cI, 10, .inl (fun _ => 0))), (ad_4 29, .inr (0, [.int (-9), .int 0, .ref (ad_4 30), .ref (ad_4 31), .ref (ad_4 10), .ref (ad_4 18), .ref (ad_4 23)])), (ad_4 30, .inl (cI, 8, .inl (fun _ => 0))), (ad_4 31, .inl (cI, 8, .inl (fun _ => 0))), (ad_4 32, .inr (2, [.int (nI 0), .int (-9), .ref (ad_4 33), .ref (ad_4 34), .ref (ad_4 35), .ref (ad_4 36), .ref (ad_4 37), .ref (ad_4 38), .ref (ad_4 39), .int (nI 0), .int (nI 0), .ref (ad_4 10), .ref (ad_4 18), .ref (ad_4 23)])), (ad_4 33, .inl (cI, 97, .inl (fun _ => 0))), (ad_4 34, .inl (cI, 97, .inl (fun _ => 0))), (ad_4 35, .inl (cI, 97, .inl (fun _ => 0))), (ad_4 36, .inl (cI, 97, .inl (fun _ => 0))), (ad_4 37, .inl (cI, 97, .inl (fun _ => 0))), (ad_4 38, .inl (cI, 97, .inl (fun _ => 0))), (ad_4 39, .inl (cI, 2401, .inl (fun _ => 0)))]) (st' := [.ref (ad_4 0)]) rfl rfl ?_
    refine ky_astore_n C (lv' := [(1, .ref (ad_4 0)), (0, .ref b)]) dL_law_7 rfl (by decide) rfl ?_
    refine ky_bipush C dL_law_8 (v := 48) (by decide) ?_
    refine ky_newa C (List.mem_of_getElem? (i := 3) rfl) (n := 48) (N' := 48) (by decide) (by first | rfl | decide) (Nat.le_of_ble_eq_true rfl) (Nat.le_of_ble_eq_true rfl) (Nat.le_of_ble_eq_true rfl) dL_law_10 ?_
    intro q10
    refine ky_ws (ws' := [(ad_4 0, .inr (7, [.ref (ad_4 1), .ref (ad_4 10), .ref (ad_4 14), .ref (ad_4 18), .ref (ad_4 23), .ref (ad_4 29), .ref (ad_4 32), .int 0, .int 0])), (ad_4 1, .inl (cS, 4, .inr (.inr (.inr (.inr (fun k => some (ad_4 (2 + 2 * k)))))))), (ad_4 2, .inr (4, [.ref (ad_4 3), .int 0, .int (-1)])), (ad_4 3, .inl (cI, 40, .inl (fun _ => 0))), (ad_4 4, .inr (4, [.ref (ad_4 5), .int 0, .int (-1)])), (ad_4 5, .inl (cI, 40, .inl (fun _ => 0))), (ad_4 6, .inr (4, [.ref (ad_4 7), .int 0, .int (-1)])), (ad_4 7, .inl (cI, 40, .inl (fun _ => 0))), (ad_4 8, .inr (4, [.ref (ad_4 9), .int 0, .int (-1)])), (ad_4 9, .inl (cI, 40, .inl (fun _ => 0))), (ad_4 10, .inr (3, [.ref (ad_4 11), .ref (ad_4 12), .ref (ad_4 13), .int (nI 0), .int 0, .int 0, .int 0])), (ad_4 11, .inl (cI, 8, .inl (fun _ => 0))), (ad_4 12, .inl (cI, 8, .inl (fun _ => 0))), (ad_4 13, .inl (cI, 8, .inl (fun _ => 0))), (ad_4 14, .inr (6, [.ref (ad_4 15), .ref (ad_4 16), .ref (ad_4 17), .int (nI 0)])), (ad_4 15, .inl (cI, 6, .inl (fun _ => 0))), (ad_4 16, .inl (cI, 6, .inl (fun _ => 0))), (ad_4 17, .inl (cI, 6, .inl (fun _ => 0))), (ad_4 18, .inr (5, [.ref (ad_4 19), .ref (ad_4 20), .ref (ad_4 21), .ref (ad_4 22), .int (nI 0)])), (ad_4 19, .inl (cI, 10, .inl (fun _ => 0))), (ad_4 20, .inl (cI, 10, .inl (fun _ => 0))), (ad_4 21, .inl (cI, 10, .inl (fun _ => 0))), (ad_4 22, .inl (cI, 10, .inl (fun _ => 0))), (ad_4 23, .inr (1, [.ref (ad_4 24), .ref (ad_4 25), .ref (ad_4 26), .ref (ad_4 27), .ref (ad_4 28), .ref (ad_4 10), .ref (ad_4 14), .ref (ad_4 18)])), (ad_4 24, .inl (cI, 6, .inl (fun _ => 0))), (ad_4 25, .inl (cI, 8, .inl (fun _ => 0))), (ad_4 26, .inl (cI, 8, .inl (fun _ => 0))), (ad_4 27, .inl (cI, 10, .inl (fun _ => 0))), (ad_4 28, .inl (cI, 10, .inl (fun _ => 0))), (ad_4 29, .inr (0, [.int (-9), .int 0, .ref (ad_4 30), .ref (ad_4 31), .ref (ad_4 10), .ref (ad_4 18), .ref (ad_4 23)])), (ad_4 30, .inl (cI, 8, .inl (fun _ => 0))), (ad_4 31, .inl (cI, 8, .inl (fun _ => 0))), (ad_4 32, .inr (2, [.int (nI 0), .int (-9), .ref (ad_4 33), .ref (ad_4 34), .ref (ad_4 35), .ref (ad_4 36), .ref (ad_4 37), .ref (ad_4 38), .ref (ad_4 39), .int (nI 0), .int (nI 0), .ref (ad_4 10), .ref (ad_4 18), .ref (ad_4 23)])), (ad_4 33, .inl (cI, 97, .inl (fun _ => 0))), (ad_4 34, .inl (cI, 97, .inl (fun _ => 0))), (ad_4 35, .inl (cI, 97, .inl (fun _ => 0))), (ad_4 36, .inl (cI, 97, .inl (fun _ => 0))), (ad_4 37, .inl (cI, 97, .inl (fun _ => 0))), (ad_4 38, .inl (cI, 97, .inl (fun _ => 0))), (ad_4 39, .inl (cI, 2401, .inl (fun _ => 0))), (q10, .inl (cI, 48, .inl (fun _ => 0)))]) (st' := [.ref q10]) rfl rfl ?_
    refine ky_astore_n C (lv' := [(2, .ref q10), (1, .ref (ad_4 0)), (0, .ref b)]) dL_law_12 rfl (by decide) rfl ?_
    refine ky_bipush C dL_law_13 (v := 40) (by decide) ?_
    refine ky_newa C (List.mem_of_getElem? (i := 3) rfl) (n := 40) (N' := 40) (by decide) (by first | rfl | decide) (Nat.le_of_ble_eq_true rfl) (Nat.le_of_ble_eq_true rfl) (Nat.le_of_ble_eq_true rfl) dL_law_15 ?_
    intro q15
    refine ky_ws (ws' := [(ad_4 0, .inr (7, [.ref (ad_4 1), .ref (ad_4 10), .ref (ad_4 14), .ref (ad_4 18), .ref (ad_4 23), .ref (ad_4 29), .ref (ad_4 32), .int 0, .int 0])), (ad_4 1, .inl (cS, 4, .inr (.inr (.inr (.inr (fun k => some (ad_4 (2 + 2 * k)))))))), (ad_4 2, .inr (4, [.ref (ad_4 3), .int 0, .int (-1)])), (ad_4 3, .inl (cI, 40, .inl (fun _ => 0))), (ad_4 4, .inr (4, [.ref (ad_4 5), .int 0, .int (-1)])), (ad_4 5, .inl (cI, 40, .inl (fun _ => 0))), (ad_4 6, .inr (4, [.ref (ad_4 7), .int 0, .int (-1)])), (ad_4 7, .inl (cI, 40, .inl (fun _ => 0))), (ad_4 8, .inr (4, [.ref (ad_4 9), .int 0, .int (-1)])), (ad_4 9, .inl (cI, 40, .inl (fun _ => 0))), (ad_4 10, .inr (3, [.ref (ad_4 11), .ref (ad_4 12), .ref (ad_4 13), .int (nI 0), .int 0, .int 0, .int 0])), (ad_4 11, .inl (cI, 8, .inl (fun _ => 0))), (ad_4 12, .inl (cI, 8, .inl (fun _ => 0))), (ad_4 13, .inl (cI, 8, .inl (fun _ => 0))), (ad_4 14, .inr (6, [.ref (ad_4 15), .ref (ad_4 16), .ref (ad_4 17), .int (nI 0)])), (ad_4 15, .inl (cI, 6, .inl (fun _ => 0))), (ad_4 16, .inl (cI, 6, .inl (fun _ => 0))), (ad_4 17, .inl (cI, 6, .inl (fun _ => 0))), (ad_4 18, .inr (5, [.ref (ad_4 19), .ref (ad_4 20), .ref (ad_4 21), .ref (ad_4 22), .int (nI 0)])), (ad_4 19, .inl (cI, 10, .inl (fun _ => 0))), (ad_4 20, .inl (cI, 10, .inl (fun _ => 0))), (ad_4 21, .inl (cI, 10, .inl (fun _ => 0))), (ad_4 22, .inl (cI, 10, .inl (fun _ => 0))), (ad_4 23, .inr (1, [.ref (ad_4 24), .ref (ad_4 25), .ref (ad_4 26), .ref (ad_4 27), .ref (ad_4 28), .ref (ad_4 10), .ref (ad_4 14), .ref (ad_4 18)])), (ad_4 24, .inl (cI, 6, .inl (fun _ => 0))), (ad_4 25, .inl (cI, 8, .inl (fun _ => 0))), (ad_4 26, .inl (cI, 8, .inl (fun _ => 0))), (ad_4 27, .inl (cI, 10, .inl (fun _ => 0))), (ad_4 28, .inl (cI, 10, .inl (fun _ => 0))), (ad_4 29, .inr (0, [.int (-9), .int 0, .ref (ad_4 30), .ref (ad_4 31), .ref (ad_4 10), .ref (ad_4 18), .ref (ad_4 23)])), (ad_4 30, .inl (cI, 8, .inl (fun _ => 0))), (ad_4 31, .inl (cI, 8, .inl (fun _ => 0))), (ad_4 32, .inr (2, [.int (nI 0), .int (-9), .ref (ad_4 33), .ref (ad_4 34), .ref (ad_4 35), .ref (ad_4 36), .ref (ad_4 37), .ref (ad_4 38), .ref (ad_4 39), .int (nI 0), .int (nI 0), .ref (ad_4 10), .ref (ad_4 18), .ref (ad_4 23)])), (ad_4 33, .inl (cI, 97, .inl (fun _ => 0))), (ad_4 34, .inl (cI, 97, .inl (fun _ => 0))), (ad_4 35, .inl (cI, 97, .inl (fun _ => 0))), (ad_4 36, .inl (cI, 97, .inl (fun _ => 0))), (ad_4 37, .inl (cI, 97, .inl (fun _ => 0))), (ad_4 38, .inl (cI, 97, .inl (fun _ => 0))), (ad_4 39, .inl (cI, 2401, .inl (fun _ => 0))), (q10, .inl (cI, 48, .inl (fun _ => 0))), (q15, .inl (cI, 40, .inl (fun _ => 0)))]) (st' := [.ref q15]) rfl rfl ?_
    refine ky_astore_n C (lv' := [(3, .ref q15), (2, .ref q10), (1, .ref (ad_4 0)), (0, .ref b)]) dL_law_17 rfl (by decide) rfl ?_
    refine ky_aload_n C 2 dL_law_18 rfl rfl ?_
    refine ky_aload_n C 3 dL_law_19 rfl rfl ?_
    refine ky_iconst C dL_law_20 (v := 0) (by decide) ?_
    refine ky_bipush C dL_law_21 (v := 8) (by decide) ?_
    refine ky_aload_n C 1 dL_law_23 rfl rfl ?_
    refine ky_callSX0 C hX hbl hbA 5 (kL_put l D cI cS b L xs ad_4 0 0 (fun _ => ((0 : Int32), (-1 : Int32), fun _ => (0 : Int32))) q10 (fun _ => 0) 0 8 (by first | assumption | omega) (by omega) (by omega) (by omega) (fun k _ => Or.inl rfl)) gL_law_L_put rfl rfl rfl hdL_put.2 ⟨Nat.le_of_ble_eq_true rfl, Nat.le_of_ble_eq_true rfl⟩ rfl rfl (Nat.le_of_ble_eq_true rfl) dL_law_24 [0, 1, 2, 3, 4, 5, 6, 7, 8, 9, 40] rfl rfl ?_
    rintro _ _ ⟨N2_24, at2_24, lf2_24, sh2_24, g2_24, rfl, rfl, hN2_24, hat2_24, hg2_24, hz2_24, hb2_24, hT2_24⟩
    refine ky_ws (ws' := [(ad_4 0, .inr (7, [.ref (ad_4 1), .ref (ad_4 10), .ref (ad_4 14), .ref (ad_4 18), .ref (ad_4 23), .ref (ad_4 29), .ref (ad_4 32), .int 0, .int lf2_24])), (ad_4 1, .inl (cS, 4, .inr (.inr (.inr (.inr (fun k => some (ad_4 (2 + 2 * k)))))))), (ad_4 2, .inr (4, [.ref (ad_4 3), .int ((sh2_24 0).1), .int ((sh2_24 0).2.1)])), (ad_4 3, .inl (cI, 40, .inl ((sh2_24 0).2.2))), (ad_4 4, .inr (4, [.ref (ad_4 5), .int ((sh2_24 1).1), .int ((sh2_24 1).2.1)])), (ad_4 5, .inl (cI, 40, .inl ((sh2_24 1).2.2))), (ad_4 6, .inr (4, [.ref (ad_4 7), .int ((sh2_24 2).1), .int ((sh2_24 2).2.1)])), (ad_4 7, .inl (cI, 40, .inl ((sh2_24 2).2.2))), (ad_4 8, .inr (4, [.ref (ad_4 9), .int ((sh2_24 3).1), .int ((sh2_24 3).2.1)])), (ad_4 9, .inl (cI, 40, .inl ((sh2_24 3).2.2))), (ad_4 10, .inr (3, [.ref (ad_4 11), .ref (ad_4 12), .ref (ad_4 13), .int (nI 0), .int 0, .int 0, .int 0])), (ad_4 11, .inl (cI, 8, .inl (fun _ => 0))), (ad_4 12, .inl (cI, 8, .inl (fun _ => 0))), (ad_4 13, .inl (cI, 8, .inl (fun _ => 0))), (ad_4 14, .inr (6, [.ref (ad_4 15), .ref (ad_4 16), .ref (ad_4 17), .int (nI 0)])), (ad_4 15, .inl (cI, 6, .inl (fun _ => 0))), (ad_4 16, .inl (cI, 6, .inl (fun _ => 0))), (ad_4 17, .inl (cI, 6, .inl (fun _ => 0))), (ad_4 18, .inr (5, [.ref (ad_4 19), .ref (ad_4 20), .ref (ad_4 21), .ref (ad_4 22), .int (nI 0)])), (ad_4 19, .inl (cI, 10, .inl (fun _ => 0))), (ad_4 20, .inl (cI, 10, .inl (fun _ => 0))), (ad_4 21, .inl (cI, 10, .inl (fun _ => 0))), (ad_4 22, .inl (cI, 10, .inl (fun _ => 0))), (ad_4 23, .inr (1, [.ref (ad_4 24), .ref (ad_4 25), .ref (ad_4 26), .ref (ad_4 27), .ref (ad_4 28), .ref (ad_4 10), .ref (ad_4 14), .ref (ad_4 18)])), (ad_4 24, .inl (cI, 6, .inl (fun _ => 0))), (ad_4 25, .inl (cI, 8, .inl (fun _ => 0))), (ad_4 26, .inl (cI, 8, .inl (fun _ => 0))), (ad_4 27, .inl (cI, 10, .inl (fun _ => 0))), (ad_4 28, .inl (cI, 10, .inl (fun _ => 0))), (ad_4 29, .inr (0, [.int (-9), .int 0, .ref (ad_4 30), .ref (ad_4 31), .ref (ad_4 10), .ref (ad_4 18), .ref (ad_4 23)])), (ad_4 30, .inl (cI, 8, .inl (fun _ => 0))), (ad_4 31, .inl (cI, 8, .inl (fun _ => 0))), (ad_4 32, .inr (2, [.int (nI 0), .int (-9), .ref (ad_4 33), .ref (ad_4 34), .ref (ad_4 35), .ref (ad_4 36), .ref (ad_4 37), .ref (ad_4 38), .ref (ad_4 39), .int (nI 0), .int (nI 0), .ref (ad_4 10), .ref (ad_4 18), .ref (ad_4 23)])), (ad_4 33, .inl (cI, 97, .inl (fun _ => 0))), (ad_4 34, .inl (cI, 97, .inl (fun _ => 0))), (ad_4 35, .inl (cI, 97, .inl (fun _ => 0))), (ad_4 36, .inl (cI, 97, .inl (fun _ => 0))), (ad_4 37, .inl (cI, 97, .inl (fun _ => 0))), (ad_4 38, .inl (cI, 97, .inl (fun _ => 0))), (ad_4 39, .inl (cI, 2401, .inl (fun _ => 0))), (q10, .inl (cI, 48, .inl g2_24)), (q15, .inl (cI, 40, .inl (fun _ => 0)))]) (st' := [.int (nI at2_24)]) rfl rfl ?_
    refine ky_istore C (lv' := [(4, .int (nI at2_24)), (3, .ref q15), (2, .ref q10), (1, .ref (ad_4 0)), (0, .ref b)]) dL_law_27 (by decide) rfl ?_
    refine ky_iload C 0 dL_law_29 rfl ?_
    refine ky_bipush C dL_law_31 (v := 7) (by decide) ?_
    refine ky_icmp_lt C 61 dL_law_33 (by decide) (fun q => absurd (kn_lt (a := at2_24) (b := 7) (by omega) (by omega) q) (by omega)) (fun c_33 => ?_)
    refine ky_aload_n C 3 dL_law_36 rfl rfl ?_
    refine ky_iconst C dL_law_37 (v := 0) (by decide) ?_
    refine ky_iconst C dL_law_38 (v := 0) (by decide) ?_
    refine ky_iconst C dL_law_39 (v := 0) (by decide) ?_
    refine ky_iload C 0 dL_law_40 rfl ?_
    refine ky_callV0 C 4 (kX7_plain l D cI cS ad_4 0 lf2_24 sh2_24 0 0 0 0 (fun _ => 0) (fun _ => 0) (fun _ => 0) 0 0 0 0 0 (nI at2_24) hT2_24.2.2.2 (by omega)) gL_law_X7_plain rfl rfl rfl hdX7_plain 0 7 rfl rfl rfl ⟨Nat.le_of_ble_eq_true rfl, Nat.le_of_ble_eq_true rfl⟩ rfl rfl (Nat.le_of_ble_eq_true rfl) dL_law_42 [0, 1, 2, 3, 4, 5, 6, 7, 8, 9, 10, 11, 12, 13, 14, 18] rfl rfl ?_
    rintro _ _ ⟨r2_42, lf2_42, N2_42, wind2_42, low2_42, forb2_42, club2_42, need2_42, worth2_42, nc2_42, ns2_42, rfl, rfl, hF_42⟩
    refine ky_ws (ws' := [(ad_4 0, .inr (7, [.ref (ad_4 1), .ref (ad_4 10), .ref (ad_4 14), .ref (ad_4 18), .ref (ad_4 23), .ref (ad_4 29), .ref (ad_4 32), .int 0, .int lf2_42])), (ad_4 1, .inl (cS, 4, .inr (.inr (.inr (.inr (fun k => some (ad_4 (2 + 2 * k)))))))), (ad_4 2, .inr (4, [.ref (ad_4 3), .int ((sh2_24 0).1), .int ((sh2_24 0).2.1)])), (ad_4 3, .inl (cI, 40, .inl ((sh2_24 0).2.2))), (ad_4 4, .inr (4, [.ref (ad_4 5), .int ((sh2_24 1).1), .int ((sh2_24 1).2.1)])), (ad_4 5, .inl (cI, 40, .inl ((sh2_24 1).2.2))), (ad_4 6, .inr (4, [.ref (ad_4 7), .int ((sh2_24 2).1), .int ((sh2_24 2).2.1)])), (ad_4 7, .inl (cI, 40, .inl ((sh2_24 2).2.2))), (ad_4 8, .inr (4, [.ref (ad_4 9), .int ((sh2_24 3).1), .int ((sh2_24 3).2.1)])), (ad_4 9, .inl (cI, 40, .inl ((sh2_24 3).2.2))), (ad_4 10, .inr (3, [.ref (ad_4 11), .ref (ad_4 12), .ref (ad_4 13), .int (nI N2_42), .int wind2_42, .int low2_42, .int forb2_42])), (ad_4 11, .inl (cI, 8, .inl club2_42)), (ad_4 12, .inl (cI, 8, .inl need2_42)), (ad_4 13, .inl (cI, 8, .inl worth2_42)), (ad_4 14, .inr (6, [.ref (ad_4 15), .ref (ad_4 16), .ref (ad_4 17), .int (nI nc2_42)])), (ad_4 15, .inl (cI, 6, .inl (fun _ => 0))), (ad_4 16, .inl (cI, 6, .inl (fun _ => 0))), (ad_4 17, .inl (cI, 6, .inl (fun _ => 0))), (ad_4 18, .inr (5, [.ref (ad_4 19), .ref (ad_4 20), .ref (ad_4 21), .ref (ad_4 22), .int (nI ns2_42)])), (ad_4 19, .inl (cI, 10, .inl (fun _ => 0))), (ad_4 20, .inl (cI, 10, .inl (fun _ => 0))), (ad_4 21, .inl (cI, 10, .inl (fun _ => 0))), (ad_4 22, .inl (cI, 10, .inl (fun _ => 0))), (ad_4 23, .inr (1, [.ref (ad_4 24), .ref (ad_4 25), .ref (ad_4 26), .ref (ad_4 27), .ref (ad_4 28), .ref (ad_4 10), .ref (ad_4 14), .ref (ad_4 18)])), (ad_4 24, .inl (cI, 6, .inl (fun _ => 0))), (ad_4 25, .inl (cI, 8, .inl (fun _ => 0))), (ad_4 26, .inl (cI, 8, .inl (fun _ => 0))), (ad_4 27, .inl (cI, 10, .inl (fun _ => 0))), (ad_4 28, .inl (cI, 10, .inl (fun _ => 0))), (ad_4 29, .inr (0, [.int (-9), .int 0, .ref (ad_4 30), .ref (ad_4 31), .ref (ad_4 10), .ref (ad_4 18), .ref (ad_4 23)])), (ad_4 30, .inl (cI, 8, .inl (fun _ => 0))), (ad_4 31, .inl (cI, 8, .inl (fun _ => 0))), (ad_4 32, .inr (2, [.int (nI 0), .int (-9), .ref (ad_4 33), .ref (ad_4 34), .ref (ad_4 35), .ref (ad_4 36), .ref (ad_4 37), .ref (ad_4 38), .ref (ad_4 39), .int (nI 0), .int (nI 0), .ref (ad_4 10), .ref (ad_4 18), .ref (ad_4 23)])), (ad_4 33, .inl (cI, 97, .inl (fun _ => 0))), (ad_4 34, .inl (cI, 97, .inl (fun _ => 0))), (ad_4 35, .inl (cI, 97, .inl (fun _ => 0))), (ad_4 36, .inl (cI, 97, .inl (fun _ => 0))), (ad_4 37, .inl (cI, 97, .inl (fun _ => 0))), (ad_4 38, .inl (cI, 97, .inl (fun _ => 0))), (ad_4 39, .inl (cI, 2401, .inl (fun _ => 0))), (q10, .inl (cI, 48, .inl g2_24)), (q15, .inl (cI, 40, .inl (fun _ => 0)))]) (st' := [.int r2_42]) rfl rfl ?_
    obtain ⟨c2, n2, w2, hpl, hcl⟩ := kPlain_go hT2_24 hat2_24 hN2_24 hb2_24
    have hE_42 := hF_42.trans hpl
    simp only [Prod.mk.injEq] at hE_42
    obtain ⟨e1_42, e2_42, e3_42, e4_42, e5_42, e6_42, e7_42, e8_42, e9_42, e10_42, e11_42⟩ := hE_42
    have z1_42 := e1_42.symm
    subst z1_42
    have z2_42 := e2_42.symm
    subst z2_42
    have z3_42 := e3_42.symm
    subst z3_42
    have z4_42 := e4_42.symm
    subst z4_42
    have z5_42 := e5_42.symm
    subst z5_42
    have z6_42 := e6_42.symm
    subst z6_42
    have z7_42 := e7_42.symm
    subst z7_42
    have z8_42 := e8_42.symm
    subst z8_42
    have z9_42 := e9_42.symm
    subst z9_42
    have z10_42 := e10_42.symm
    subst z10_42
    have z11_42 := e11_42.symm
    subst z11_42
    refine ky_aload_n C 2 dL_law_45 rfl rfl ?_
    refine ky_iconst C dL_law_46 (v := 0) (by decide) ?_
    refine ky_ialdN C 40 (k := 0) rfl (by omega) (by decide) dL_law_47 (v := nI N2_24) hg2_24 ?_
    refine ky_icmp_ne C 61 dL_law_48 (by decide) (fun q => absurd rfl q) (fun c_48 => ?_)
    refine ky_aload_n C 3 dL_law_51 rfl rfl ?_
    refine ky_aload_n C 4 dL_law_52 rfl rfl ?_
    refine ky_iconst C dL_law_53 (v := 3) (by decide) ?_
    refine ky_aload_n C 2 dL_law_54 rfl rfl ?_
    refine ky_callSX0 C hX hbl hbA 4 (kL_clouds l D cI cS b L xs ad_4 0 0 N2_24 0 0 0 0 (fun _ => 0) (fun _ => 0) (fun _ => 0) q10 g2_24 3 (by omega) (by omega) (by first | assumption | omega) (by omega) rfl hz2_24.2.2.2.1) gL_law_L_clouds rfl rfl rfl hdL_clouds.2 ⟨Nat.le_of_ble_eq_true rfl, Nat.le_of_ble_eq_true rfl⟩ rfl rfl (Nat.le_of_ble_eq_true rfl) dL_law_55 [0, 10, 14, 15, 16, 17, 40] rfl rfl ?_
    rintro _ _ ⟨nc2_55, cat2_55, cwet2_55, chi2_55, g2_55, rfl, rfl, hnc2_55, hg2_55, hcw_55, hco_55⟩
    refine ky_ws (ws' := [(ad_4 0, .inr (7, [.ref (ad_4 1), .ref (ad_4 10), .ref (ad_4 14), .ref (ad_4 18), .ref (ad_4 23), .ref (ad_4 29), .ref (ad_4 32), .int 0, .int 0])), (ad_4 1, .inl (cS, 4, .inr (.inr (.inr (.inr (fun k => some (ad_4 (2 + 2 * k)))))))), (ad_4 2, .inr (4, [.ref (ad_4 3), .int ((sh2_24 0).1), .int ((sh2_24 0).2.1)])), (ad_4 3, .inl (cI, 40, .inl ((sh2_24 0).2.2))), (ad_4 4, .inr (4, [.ref (ad_4 5), .int ((sh2_24 1).1), .int ((sh2_24 1).2.1)])), (ad_4 5, .inl (cI, 40, .inl ((sh2_24 1).2.2))), (ad_4 6, .inr (4, [.ref (ad_4 7), .int ((sh2_24 2).1), .int ((sh2_24 2).2.1)])), (ad_4 7, .inl (cI, 40, .inl ((sh2_24 2).2.2))), (ad_4 8, .inr (4, [.ref (ad_4 9), .int ((sh2_24 3).1), .int ((sh2_24 3).2.1)])), (ad_4 9, .inl (cI, 40, .inl ((sh2_24 3).2.2))), (ad_4 10, .inr (3, [.ref (ad_4 11), .ref (ad_4 12), .ref (ad_4 13), .int (nI N2_24), .int 0, .int 0, .int 0])), (ad_4 11, .inl (cI, 8, .inl c2)), (ad_4 12, .inl (cI, 8, .inl n2)), (ad_4 13, .inl (cI, 8, .inl w2)), (ad_4 14, .inr (6, [.ref (ad_4 15), .ref (ad_4 16), .ref (ad_4 17), .int (nI nc2_55)])), (ad_4 15, .inl (cI, 6, .inl cat2_55)), (ad_4 16, .inl (cI, 6, .inl cwet2_55)), (ad_4 17, .inl (cI, 6, .inl chi2_55)), (ad_4 18, .inr (5, [.ref (ad_4 19), .ref (ad_4 20), .ref (ad_4 21), .ref (ad_4 22), .int (nI 0)])), (ad_4 19, .inl (cI, 10, .inl (fun _ => 0))), (ad_4 20, .inl (cI, 10, .inl (fun _ => 0))), (ad_4 21, .inl (cI, 10, .inl (fun _ => 0))), (ad_4 22, .inl (cI, 10, .inl (fun _ => 0))), (ad_4 23, .inr (1, [.ref (ad_4 24), .ref (ad_4 25), .ref (ad_4 26), .ref (ad_4 27), .ref (ad_4 28), .ref (ad_4 10), .ref (ad_4 14), .ref (ad_4 18)])), (ad_4 24, .inl (cI, 6, .inl (fun _ => 0))), (ad_4 25, .inl (cI, 8, .inl (fun _ => 0))), (ad_4 26, .inl (cI, 8, .inl (fun _ => 0))), (ad_4 27, .inl (cI, 10, .inl (fun _ => 0))), (ad_4 28, .inl (cI, 10, .inl (fun _ => 0))), (ad_4 29, .inr (0, [.int (-9), .int 0, .ref (ad_4 30), .ref (ad_4 31), .ref (ad_4 10), .ref (ad_4 18), .ref (ad_4 23)])), (ad_4 30, .inl (cI, 8, .inl (fun _ => 0))), (ad_4 31, .inl (cI, 8, .inl (fun _ => 0))), (ad_4 32, .inr (2, [.int (nI 0), .int (-9), .ref (ad_4 33), .ref (ad_4 34), .ref (ad_4 35), .ref (ad_4 36), .ref (ad_4 37), .ref (ad_4 38), .ref (ad_4 39), .int (nI 0), .int (nI 0), .ref (ad_4 10), .ref (ad_4 18), .ref (ad_4 23)])), (ad_4 33, .inl (cI, 97, .inl (fun _ => 0))), (ad_4 34, .inl (cI, 97, .inl (fun _ => 0))), (ad_4 35, .inl (cI, 97, .inl (fun _ => 0))), (ad_4 36, .inl (cI, 97, .inl (fun _ => 0))), (ad_4 37, .inl (cI, 97, .inl (fun _ => 0))), (ad_4 38, .inl (cI, 97, .inl (fun _ => 0))), (ad_4 39, .inl (cI, 2401, .inl (fun _ => 0))), (q10, .inl (cI, 48, .inl g2_55)), (q15, .inl (cI, 40, .inl (fun _ => 0)))]) (st' := [.int 1]) rfl rfl ?_
    refine ky_if_ne C 63 dL_law_58 (by decide) (fun c_58 => ?_) (fun q => absurd q (by decide))
    refine ky_bipush C dL_law_63 (v := 42) (by decide) ?_
    refine ky_newa C (List.mem_of_getElem? (i := 3) rfl) (n := 42) (N' := 42) (by decide) (by first | rfl | decide) (Nat.le_of_ble_eq_true rfl) (Nat.le_of_ble_eq_true rfl) (Nat.le_of_ble_eq_true rfl) dL_law_65 ?_
    intro q65
    refine ky_ws (ws' := [(ad_4 0, .inr (7, [.ref (ad_4 1), .ref (ad_4 10), .ref (ad_4 14), .ref (ad_4 18), .ref (ad_4 23), .ref (ad_4 29), .ref (ad_4 32), .int 0, .int 0])), (ad_4 1, .inl (cS, 4, .inr (.inr (.inr (.inr (fun k => some (ad_4 (2 + 2 * k)))))))), (ad_4 2, .inr (4, [.ref (ad_4 3), .int ((sh2_24 0).1), .int ((sh2_24 0).2.1)])), (ad_4 3, .inl (cI, 40, .inl ((sh2_24 0).2.2))), (ad_4 4, .inr (4, [.ref (ad_4 5), .int ((sh2_24 1).1), .int ((sh2_24 1).2.1)])), (ad_4 5, .inl (cI, 40, .inl ((sh2_24 1).2.2))), (ad_4 6, .inr (4, [.ref (ad_4 7), .int ((sh2_24 2).1), .int ((sh2_24 2).2.1)])), (ad_4 7, .inl (cI, 40, .inl ((sh2_24 2).2.2))), (ad_4 8, .inr (4, [.ref (ad_4 9), .int ((sh2_24 3).1), .int ((sh2_24 3).2.1)])), (ad_4 9, .inl (cI, 40, .inl ((sh2_24 3).2.2))), (ad_4 10, .inr (3, [.ref (ad_4 11), .ref (ad_4 12), .ref (ad_4 13), .int (nI N2_24), .int 0, .int 0, .int 0])), (ad_4 11, .inl (cI, 8, .inl c2)), (ad_4 12, .inl (cI, 8, .inl n2)), (ad_4 13, .inl (cI, 8, .inl w2)), (ad_4 14, .inr (6, [.ref (ad_4 15), .ref (ad_4 16), .ref (ad_4 17), .int (nI nc2_55)])), (ad_4 15, .inl (cI, 6, .inl cat2_55)), (ad_4 16, .inl (cI, 6, .inl cwet2_55)), (ad_4 17, .inl (cI, 6, .inl chi2_55)), (ad_4 18, .inr (5, [.ref (ad_4 19), .ref (ad_4 20), .ref (ad_4 21), .ref (ad_4 22), .int (nI 0)])), (ad_4 19, .inl (cI, 10, .inl (fun _ => 0))), (ad_4 20, .inl (cI, 10, .inl (fun _ => 0))), (ad_4 21, .inl (cI, 10, .inl (fun _ => 0))), (ad_4 22, .inl (cI, 10, .inl (fun _ => 0))), (ad_4 23, .inr (1, [.ref (ad_4 24), .ref (ad_4 25), .ref (ad_4 26), .ref (ad_4 27), .ref (ad_4 28), .ref (ad_4 10), .ref (ad_4 14), .ref (ad_4 18)])), (ad_4 24, .inl (cI, 6, .inl (fun _ => 0))), (ad_4 25, .inl (cI, 8, .inl (fun _ => 0))), (ad_4 26, .inl (cI, 8, .inl (fun _ => 0))), (ad_4 27, .inl (cI, 10, .inl (fun _ => 0))), (ad_4 28, .inl (cI, 10, .inl (fun _ => 0))), (ad_4 29, .inr (0, [.int (-9), .int 0, .ref (ad_4 30), .ref (ad_4 31), .ref (ad_4 10), .ref (ad_4 18), .ref (ad_4 23)])), (ad_4 30, .inl (cI, 8, .inl (fun _ => 0))), (ad_4 31, .inl (cI, 8, .inl (fun _ => 0))), (ad_4 32, .inr (2, [.int (nI 0), .int (-9), .ref (ad_4 33), .ref (ad_4 34), .ref (ad_4 35), .ref (ad_4 36), .ref (ad_4 37), .ref (ad_4 38), .ref (ad_4 39), .int (nI 0), .int (nI 0), .ref (ad_4 10), .ref (ad_4 18), .ref (ad_4 23)])), (ad_4 33, .inl (cI, 97, .inl (fun _ => 0))), (ad_4 34, .inl (cI, 97, .inl (fun _ => 0))), (ad_4 35, .inl (cI, 97, .inl (fun _ => 0))), (ad_4 36, .inl (cI, 97, .inl (fun _ => 0))), (ad_4 37, .inl (cI, 97, .inl (fun _ => 0))), (ad_4 38, .inl (cI, 97, .inl (fun _ => 0))), (ad_4 39, .inl (cI, 2401, .inl (fun _ => 0))), (q10, .inl (cI, 48, .inl g2_55)), (q15, .inl (cI, 40, .inl (fun _ => 0))), (q65, .inl (cI, 42, .inl (fun _ => 0)))]) (st' := [.ref q65]) rfl rfl ?_
    refine ky_astore C (lv' := [(5, .ref q65), (4, .int (nI at2_24)), (3, .ref q15), (2, .ref q10), (1, .ref (ad_4 0)), (0, .ref b)]) dL_law_67 (by decide) rfl ?_
    refine ky_bipush C dL_law_69 (v := 42) (by decide) ?_
    refine ky_newa C (List.mem_of_getElem? (i := 3) rfl) (n := 42) (N' := 42) (by decide) (by first | rfl | decide) (Nat.le_of_ble_eq_true rfl) (Nat.le_of_ble_eq_true rfl) (Nat.le_of_ble_eq_true rfl) dL_law_71 ?_
    intro q71
    refine ky_ws (ws' := [(ad_4 0, .inr (7, [.ref (ad_4 1), .ref (ad_4 10), .ref (ad_4 14), .ref (ad_4 18), .ref (ad_4 23), .ref (ad_4 29), .ref (ad_4 32), .int 0, .int 0])), (ad_4 1, .inl (cS, 4, .inr (.inr (.inr (.inr (fun k => some (ad_4 (2 + 2 * k)))))))), (ad_4 2, .inr (4, [.ref (ad_4 3), .int ((sh2_24 0).1), .int ((sh2_24 0).2.1)])), (ad_4 3, .inl (cI, 40, .inl ((sh2_24 0).2.2))), (ad_4 4, .inr (4, [.ref (ad_4 5), .int ((sh2_24 1).1), .int ((sh2_24 1).2.1)])), (ad_4 5, .inl (cI, 40, .inl ((sh2_24 1).2.2))), (ad_4 6, .inr (4, [.ref (ad_4 7), .int ((sh2_24 2).1), .int ((sh2_24 2).2.1)])), (ad_4 7, .inl (cI, 40, .inl ((sh2_24 2).2.2))), (ad_4 8, .inr (4, [.ref (ad_4 9), .int ((sh2_24 3).1), .int ((sh2_24 3).2.1)])), (ad_4 9, .inl (cI, 40, .inl ((sh2_24 3).2.2))), (ad_4 10, .inr (3, [.ref (ad_4 11), .ref (ad_4 12), .ref (ad_4 13), .int (nI N2_24), .int 0, .int 0, .int 0])), (ad_4 11, .inl (cI, 8, .inl c2)), (ad_4 12, .inl (cI, 8, .inl n2)), (ad_4 13, .inl (cI, 8, .inl w2)), (ad_4 14, .inr (6, [.ref (ad_4 15), .ref (ad_4 16), .ref (ad_4 17), .int (nI nc2_55)])), (ad_4 15, .inl (cI, 6, .inl cat2_55)), (ad_4 16, .inl (cI, 6, .inl cwet2_55)), (ad_4 17, .inl (cI, 6, .inl chi2_55)), (ad_4 18, .inr (5, [.ref (ad_4 19), .ref (ad_4 20), .ref (ad_4 21), .ref (ad_4 22), .int (nI 0)])), (ad_4 19, .inl (cI, 10, .inl (fun _ => 0))), (ad_4 20, .inl (cI, 10, .inl (fun _ => 0))), (ad_4 21, .inl (cI, 10, .inl (fun _ => 0))), (ad_4 22, .inl (cI, 10, .inl (fun _ => 0))), (ad_4 23, .inr (1, [.ref (ad_4 24), .ref (ad_4 25), .ref (ad_4 26), .ref (ad_4 27), .ref (ad_4 28), .ref (ad_4 10), .ref (ad_4 14), .ref (ad_4 18)])), (ad_4 24, .inl (cI, 6, .inl (fun _ => 0))), (ad_4 25, .inl (cI, 8, .inl (fun _ => 0))), (ad_4 26, .inl (cI, 8, .inl (fun _ => 0))), (ad_4 27, .inl (cI, 10, .inl (fun _ => 0))), (ad_4 28, .inl (cI, 10, .inl (fun _ => 0))), (ad_4 29, .inr (0, [.int (-9), .int 0, .ref (ad_4 30), .ref (ad_4 31), .ref (ad_4 10), .ref (ad_4 18), .ref (ad_4 23)])), (ad_4 30, .inl (cI, 8, .inl (fun _ => 0))), (ad_4 31, .inl (cI, 8, .inl (fun _ => 0))), (ad_4 32, .inr (2, [.int (nI 0), .int (-9), .ref (ad_4 33), .ref (ad_4 34), .ref (ad_4 35), .ref (ad_4 36), .ref (ad_4 37), .ref (ad_4 38), .ref (ad_4 39), .int (nI 0), .int (nI 0), .ref (ad_4 10), .ref (ad_4 18), .ref (ad_4 23)])), (ad_4 33, .inl (cI, 97, .inl (fun _ => 0))), (ad_4 34, .inl (cI, 97, .inl (fun _ => 0))), (ad_4 35, .inl (cI, 97, .inl (fun _ => 0))), (ad_4 36, .inl (cI, 97, .inl (fun _ => 0))), (ad_4 37, .inl (cI, 97, .inl (fun _ => 0))), (ad_4 38, .inl (cI, 97, .inl (fun _ => 0))), (ad_4 39, .inl (cI, 2401, .inl (fun _ => 0))), (q10, .inl (cI, 48, .inl g2_55)), (q15, .inl (cI, 40, .inl (fun _ => 0))), (q65, .inl (cI, 42, .inl (fun _ => 0))), (q71, .inl (cI, 42, .inl (fun _ => 0)))]) (st' := [.ref q71]) rfl rfl ?_
    refine ky_astore C (lv' := [(6, .ref q71), (5, .ref q65), (4, .int (nI at2_24)), (3, .ref q15), (2, .ref q10), (1, .ref (ad_4 0)), (0, .ref b)]) dL_law_73 (by decide) rfl ?_
    refine ky_iconst C dL_law_75 (v := 0) (by decide) ?_
    refine ky_istore C (lv' := [(7, .int 0), (6, .ref q71), (5, .ref q65), (4, .int (nI at2_24)), (3, .ref q15), (2, .ref q10), (1, .ref (ad_4 0)), (0, .ref b)]) dL_law_76 (by decide) rfl ?_
    refine ky_widen (k := 600000) (n := 7302250) (Nat.le_of_ble_eq_true rfl) (Nat.le_of_ble_eq_true rfl) ?_
    refine ky_conv (lv' := [(0, .ref b), (1, .ref (ad_4 0)), (2, .ref q10), (3, .ref q15), (5, .ref q65), (6, .ref q71), (7, .int (nI 0))]) [7, 6, 5, 4, 2, 1, 0] rfl rfl rfl ?_
    exact klaw_turns l C hX hbl hL hr hlocks 5 0 0 sh2_24 N2_24 0 0 0 c2 n2 w2 nc2_55 cat2_55 cwet2_55 chi2_55 0 (fun _ => (0 : Int32)) (fun _ => (0 : Int32)) (fun _ => (0 : Int32)) (fun _ => (0 : Int32)) (fun _ => (0 : Int32)) (fun _ => (0 : Int32)) (fun _ => (0 : Int32)) (fun _ => (0 : Int32)) (fun _ => (0 : Int32)) (fun _ => (0 : Int32)) (fun _ => (0 : Int32)) g2_55 (fun _ => (0 : Int32)) (fun _ => (0 : Int32)) (fun _ => (0 : Int32)) (by omega) (by omega) (Or.inl ⟨by omega, by omega⟩) (kTie_start hN2_24 hg2_24 hz2_24 hb2_24 hcl hnc2_55 hg2_55 hcw_55 hco_55)
  rw [lg_entry_eq]
  exact key s.heap [] _ hP hD va_S.rf (lv_entry [Value.ref b] (n := 15) (Nat.le_of_ble_eq_true rfl))
