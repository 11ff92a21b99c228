/-! part 39b: the class's duel: the best, the rests -/
def kMx (f : Nat → Nat) : Nat → Nat
  | 0 => 0
  | k + 1 => max (kMx f k) (f k)
theorem kMx_lt {f : Nat → Nat} (h : ∀ k, f k < 1000) : ∀ n, kMx f n < 1000
  | 0 => by show (0 : Nat) < 1000; decide
  | n + 1 => by have := kMx_lt h n; have := h n; rw [kMx]; omega
theorem kmx_s (f : Nat → Nat) (h : ∀ k, f k < 1000) (k : Nat) : (if nI (kMx f k) < nI (f k) then nI (f k) else nI (kMx f k)) = nI (kMx f (k + 1)) := by
  have h1 := kMx_lt h k
  have h2 := h k
  rw [kMx]
  by_cases q : kMx f k < f k
  · rw [if_pos (nI_lt q (by omega)), show max (kMx f k) (f k) = f k by omega]
  · rw [if_neg (fun z => q (kn_lt (by omega) (by omega) z)), show max (kMx f k) (f k) = kMx f k by omega]
theorem kIy {a b m i j : Nat} (hi : i < a) (hj : j < b) (hm : a * b ≤ m) : i * b + j < m := by
  rw [Nat.mul_comm i b]; exact kIx hi hj hm
theorem hiX2_findBest_X2 : ∀ w ∈ wsX20, w ∈ wsX2_findBest := fun _ h => (List.mem_cons_of_mem _ (List.mem_append_right _ h))
theorem hdX2_findBest : yX2_findBest.cls = RX2 ∧ yX2_findBest.cls ≠ "java/lang/invoke/MethodHandle" ∧ yX2_findBest.cls ≠ "java/lang/invoke/VarHandle" ∧ (parseMethodDescriptor yX2_findBest.desc).map (fun d => d.parameters.length) = some 0 := by decide +kernel
set_option maxRecDepth 100000 in
set_option maxHeartbeats 4000000 in
theorem kX2_findBest (l : Launch) (D : va_G) (cI cS : ClassId) (ad : Nat → Nat) (rcn : Nat) (frs : Int32) (m1 : Nat) (m2 : Nat) (ob : Nat → Int32) (tb : Nat → Int32) (py : Nat → Int32) (u : Nat → Nat → Nat) (v5 : Nat → Nat → Nat) (h1b : m1 ≤ 97) (h2b : m2 ≤ 97) (hm : m1 * m2 ≤ 2401) (hu : ∀ i j, u i j < 1000) (hv5 : ∀ i j, v5 i j < 1000) (hpay : ∀ i, i < m1 → ∀ j, j < m2 → py (i * m2 + j) = nI (1000 * u i j + v5 i j)) : kyM l yX2_findBest wsX2_findBest ({ frames := 1, cells := 0, slots := 0, locals := 17 }) D cI cS [.ref (ad 32)] [(ad 32, .inr (2, [.int (nI rcn), .int frs, .ref (ad 33), .ref (ad 34), .ref (ad 35), .ref (ad 36), .ref (ad 37), .ref (ad 38), .ref (ad 39), .int (nI m1), .int (nI m2), .ref (ad 10), .ref (ad 18), .ref (ad 23)])), (ad 37, .inl (cI, 97, .inl ob)), (ad 38, .inl (cI, 97, .inl tb)), (ad 39, .inl (cI, 2401, .inl py))] 0 0 (fun vR wR => ∃ ob2 : Nat → Int32, ∃ tb2 : Nat → Int32, vR = none ∧ wR = [(ad 32, .inr (2, [.int (nI rcn), .int frs, .ref (ad 33), .ref (ad 34), .ref (ad 35), .ref (ad 36), .ref (ad 37), .ref (ad 38), .ref (ad 39), .int (nI m1), .int (nI m2), .ref (ad 10), .ref (ad 18), .ref (ad 23)])), (ad 37, .inl (cI, 97, .inl ob2)), (ad 38, .inl (cI, 97, .inl tb2)), (ad 39, .inl (cI, 2401, .inl py))] ∧ (∀ j, j < m2 → ob2 j = nI (kMx (fun k => u k j) m1)) ∧ (∀ i, i < m1 → tb2 i = nI (kMx (fun k => v5 i k) m2))) := by
  refine ky_start (own := RX2) (cc := cX2_findBest) (nL := 3) (ret := none) (by decide) rfl rfl (Nat.le_of_ble_eq_true rfl) ?_
  intro p e s m args below meth c C hr hlk hnm
  refine ky_conv (lv' := [(0, .ref (ad 32))]) (List.range 1) rfl rfl rfl ?_
  refine ky_iconst C dX2_findBest_0 (v := 0) (by decide) ?_
  refine ky_istore_n C (lv' := [(1, .int 0), (0, .ref (ad 32))]) dX2_findBest_1 rfl (by decide) rfl ?_
  refine ky_conv (ws' := [(ad 32, .inr (2, [.int (nI rcn), .int frs, .ref (ad 33), .ref (ad 34), .ref (ad 35), .ref (ad 36), .ref (ad 37), .ref (ad 38), .ref (ad 39), .int (nI m1), .int (nI m2), .ref (ad 10), .ref (ad 18), .ref (ad 23)])), (ad 37, .inl (cI, 97, .inl ob)), (ad 38, .inl (cI, 97, .inl tb)), (ad 39, .inl (cI, 2401, .inl py))]) (lv' := [(1, .int 0), (0, .ref (ad 32))]) (st' := []) [0, 1] rfl rfl rfl ?_
  refine ky_loop2 (T1 := Nat) (T2 := Nat → Int32) (Wf := (fun j1 ob1 => [(ad 32, .inr (2, [.int (nI rcn), .int frs, .ref (ad 33), .ref (ad 34), .ref (ad 35), .ref (ad 36), .ref (ad 37), .ref (ad 38), .ref (ad 39), .int (nI m1), .int (nI m2), .ref (ad 10), .ref (ad 18), .ref (ad 23)])), (ad 37, .inl (cI, 97, .inl ob1)), (ad 38, .inl (cI, 97, .inl tb)), (ad 39, .inl (cI, 2401, .inl py))])) (Lf := (fun j1 ob1 => [(1, .int (nI j1)), (0, .ref (ad 32))])) (Sf := (fun j1 ob1 => [])) (fun j1 ob1 => (j1 ≤ m2) ∧ (∀ j, j < j1 → ob1 j = nI (kMx (fun k => u k j) m1)) ∧ True) (fun j1 ob1 => m2 - j1) ?_ 0 ob ⟨(by omega), (fun j hj => absurd hj (Nat.not_lt_zero j)), trivial⟩
  intro j1 ob1 hI_2 ih_2
  obtain ⟨hj1, hob, -⟩ := hI_2
  have hj1 : j1 ≤ m2 := hj1
  have hob : ∀ j, j < j1 → ob1 j = nI (kMx (fun k => u k j) m1) := hob
  refine ky_conv (ws' := [(ad 32, .inr (2, [.int (nI rcn), .int frs, .ref (ad 33), .ref (ad 34), .ref (ad 35), .ref (ad 36), .ref (ad 37), .ref (ad 38), .ref (ad 39), .int (nI m1), .int (nI m2), .ref (ad 10), .ref (ad 18), .ref (ad 23)])), (ad 37, .inl (cI, 97, .inl ob1)), (ad 38, .inl (cI, 97, .inl tb)), (ad 39, .inl (cI, 2401, .inl py))]) (lv' := [(1, .int (nI j1)), (0, .ref (ad 32))]) (st' := []) (List.range 2) rfl rfl rfl ?_
  refine ky_iload_n C 0 dX2_findBest_2 rfl rfl ?_
  refine ky_aload_n C 1 dX2_findBest_3 rfl rfl ?_
  refine ky_get C (ci := 2) (T := TX2) (N := 14) (Cn := RX2) (ref := "RainAccount$Duel") hiX2_findBest_X2 0 rfl rfl 10 (by decide) (List.mem_of_getElem? (i := 1) rfl) rfl (v := .int (nI m2)) rfl dX2_findBest_4 ?_
  refine ky_icmp_ge C 71 dX2_findBest_7 (by decide) (fun c_7 => ?_) (fun c_7 => ?_)
  · have d_7 := Int32.not_lt.mpr c_7
    have n_7 := kn_le (a := m2) (b := j1) (by omega) (by omega) c_7
    have m_7 := Nat.not_lt.mpr n_7
    refine ky_iconst C dX2_findBest_71 (v := 0) (by decide) ?_
    refine ky_istore_n C (lv' := [(1, .int 0), (0, .ref (ad 32))]) dX2_findBest_72 rfl (by decide) rfl ?_
    refine ky_conv (ws' := [(ad 32, .inr (2, [.int (nI rcn), .int frs, .ref (ad 33), .ref (ad 34), .ref (ad 35), .ref (ad 36), .ref (ad 37), .ref (ad 38), .ref (ad 39), .int (nI m1), .int (nI m2), .ref (ad 10), .ref (ad 18), .ref (ad 23)])), (ad 37, .inl (cI, 97, .inl ob1)), (ad 38, .inl (cI, 97, .inl tb)), (ad 39, .inl (cI, 2401, .inl py))]) (lv' := [(1, .int 0), (0, .ref (ad 32))]) (st' := []) [0, 1] rfl rfl rfl ?_
    refine ky_loop2 (T1 := Nat) (T2 := Nat → Int32) (Wf := (fun i1 tb1 => [(ad 32, .inr (2, [.int (nI rcn), .int frs, .ref (ad 33), .ref (ad 34), .ref (ad 35), .ref (ad 36), .ref (ad 37), .ref (ad 38), .ref (ad 39), .int (nI m1), .int (nI m2), .ref (ad 10), .ref (ad 18), .ref (ad 23)])), (ad 37, .inl (cI, 97, .inl ob1)), (ad 38, .inl (cI, 97, .inl tb1)), (ad 39, .inl (cI, 2401, .inl py))])) (Lf := (fun i1 tb1 => [(1, .int (nI i1)), (0, .ref (ad 32))])) (Sf := (fun i1 tb1 => [])) (fun i1 tb1 => (i1 ≤ m1) ∧ (∀ i, i < i1 → tb1 i = nI (kMx (fun k => v5 i k) m2)) ∧ True) (fun i1 tb1 => m1 - i1) ?_ 0 tb ⟨(by omega), (fun j hj => absurd hj (Nat.not_lt_zero j)), trivial⟩
    intro i1 tb1 hI_73 ih_73
    obtain ⟨hi1, htb, -⟩ := hI_73
    have hi1 : i1 ≤ m1 := hi1
    have htb : ∀ i, i < i1 → tb1 i = nI (kMx (fun k => v5 i k) m2) := htb
    refine ky_conv (ws' := [(ad 32, .inr (2, [.int (nI rcn), .int frs, .ref (ad 33), .ref (ad 34), .ref (ad 35), .ref (ad 36), .ref (ad 37), .ref (ad 38), .ref (ad 39), .int (nI m1), .int (nI m2), .ref (ad 10), .ref (ad 18), .ref (ad 23)])), (ad 37, .inl (cI, 97, .inl ob1)), (ad 38, .inl (cI, 97, .inl tb1)), (ad 39, .inl (cI, 2401, .inl py))]) (lv' := [(1, .int (nI i1)), (0, .ref (ad 32))]) (st' := []) (List.range 2) rfl rfl rfl ?_
    refine ky_iload_n C 0 dX2_findBest_73 rfl rfl ?_
    refine ky_aload_n C 1 dX2_findBest_74 rfl rfl ?_
    refine ky_get C (ci := 2) (T := TX2) (N := 14) (Cn := RX2) (ref := "RainAccount$Duel") hiX2_findBest_X2 0 rfl rfl 9 (by decide) (List.mem_of_getElem? (i := 3) rfl) rfl (v := .int (nI m1)) rfl dX2_findBest_75 ?_
    refine ky_icmp_ge C 142 dX2_findBest_78 (by decide) (fun c_78 => ?_) (fun c_78 => ?_)
    · have d_78 := Int32.not_lt.mpr c_78
      have n_78 := kn_le (a := m1) (b := i1) (by omega) (by omega) c_78
      have m_78 := Nat.not_lt.mpr n_78
      exact ky_vret C hr hlk ⟨ob1, tb1, rfl, rfl, (fun j hj => hob j (by omega)), (fun i hi => htb i (by omega))⟩ (Nat.le_of_ble_eq_true rfl) dX2_findBest_142
    · have d_78 := Int32.not_le.mp c_78
      have n_78 := kn_nle (a := m1) (b := i1) (by omega) (by omega) c_78
      have m_78 := Nat.not_le.mpr n_78
      refine ky_aload_n C 1 dX2_findBest_81 rfl rfl ?_
      refine ky_get C (ci := 2) (T := TX2) (N := 14) (Cn := RX2) (ref := "RainAccount$Duel") hiX2_findBest_X2 0 rfl rfl 7 (by decide) (List.mem_of_getElem? (i := 9) rfl) rfl (v := .ref (ad 38)) rfl dX2_findBest_82 ?_
      refine ky_iload_n C 0 dX2_findBest_85 rfl rfl ?_
      refine ky_iconst C dX2_findBest_86 (v := 0) (by decide) ?_
      refine ky_iastN C 2 (k := i1) rfl (by omega) (by decide) dX2_findBest_87 (ws' := [(ad 32, .inr (2, [.int (nI rcn), .int frs, .ref (ad 33), .ref (ad 34), .ref (ad 35), .ref (ad 36), .ref (ad 37), .ref (ad 38), .ref (ad 39), .int (nI m1), .int (nI m2), .ref (ad 10), .ref (ad 18), .ref (ad 23)])), (ad 37, .inl (cI, 97, .inl ob1)), (ad 38, .inl (cI, 97, .inl (upd tb1 i1 0))), (ad 39, .inl (cI, 2401, .inl py))]) rfl ?_
      refine ky_iconst C dX2_findBest_88 (v := 0) (by decide) ?_
      refine ky_istore_n C (lv' := [(2, .int 0), (1, .int (nI i1)), (0, .ref (ad 32))]) dX2_findBest_89 rfl (by decide) rfl ?_
      refine ky_conv (ws' := [(ad 32, .inr (2, [.int (nI rcn), .int frs, .ref (ad 33), .ref (ad 34), .ref (ad 35), .ref (ad 36), .ref (ad 37), .ref (ad 38), .ref (ad 39), .int (nI m1), .int (nI m2), .ref (ad 10), .ref (ad 18), .ref (ad 23)])), (ad 37, .inl (cI, 97, .inl ob1)), (ad 38, .inl (cI, 97, .inl (upd tb1 i1 0))), (ad 39, .inl (cI, 2401, .inl py))]) (lv' := [(2, .int 0), (1, .int (nI i1)), (0, .ref (ad 32))]) (st' := []) [0, 1, 2] rfl rfl rfl ?_
      refine ky_loop2 (T1 := Nat) (T2 := Nat → Int32) (Wf := (fun k2 tbi => [(ad 32, .inr (2, [.int (nI rcn), .int frs, .ref (ad 33), .ref (ad 34), .ref (ad 35), .ref (ad 36), .ref (ad 37), .ref (ad 38), .ref (ad 39), .int (nI m1), .int (nI m2), .ref (ad 10), .ref (ad 18), .ref (ad 23)])), (ad 37, .inl (cI, 97, .inl ob1)), (ad 38, .inl (cI, 97, .inl tbi)), (ad 39, .inl (cI, 2401, .inl py))])) (Lf := (fun k2 tbi => [(2, .int (nI k2)), (1, .int (nI i1)), (0, .ref (ad 32))])) (Sf := (fun k2 tbi => [])) (fun k2 tbi => (k2 ≤ m2) ∧ (∀ i, i < i1 → tbi i = nI (kMx (fun k => v5 i k) m2)) ∧ (tbi i1 = nI (kMx (fun k => v5 i1 k) k2)) ∧ True) (fun k2 tbi => m2 - k2) ?_ 0 (upd tb1 i1 0) ⟨(by omega), (fun j hj => by rw [pk_un (by omega)]; exact htb j hj), (by rw [pk_us]; rfl), trivial⟩
      intro k2 tbi hI_90 ih_90
      obtain ⟨hk2, hti, htc, -⟩ := hI_90
      have hk2 : k2 ≤ m2 := hk2
      have hti : ∀ i, i < i1 → tbi i = nI (kMx (fun k => v5 i k) m2) := hti
      have htc : tbi i1 = nI (kMx (fun k => v5 i1 k) k2) := htc
      refine ky_conv (ws' := [(ad 32, .inr (2, [.int (nI rcn), .int frs, .ref (ad 33), .ref (ad 34), .ref (ad 35), .ref (ad 36), .ref (ad 37), .ref (ad 38), .ref (ad 39), .int (nI m1), .int (nI m2), .ref (ad 10), .ref (ad 18), .ref (ad 23)])), (ad 37, .inl (cI, 97, .inl ob1)), (ad 38, .inl (cI, 97, .inl tbi)), (ad 39, .inl (cI, 2401, .inl py))]) (lv' := [(2, .int (nI k2)), (1, .int (nI i1)), (0, .ref (ad 32))]) (st' := []) (List.range 3) rfl rfl rfl ?_
      refine ky_iload_n C 0 dX2_findBest_90 rfl rfl ?_
      refine ky_aload_n C 2 dX2_findBest_91 rfl rfl ?_
      refine ky_get C (ci := 2) (T := TX2) (N := 14) (Cn := RX2) (ref := "RainAccount$Duel") hiX2_findBest_X2 0 rfl rfl 10 (by decide) (List.mem_of_getElem? (i := 1) rfl) rfl (v := .int (nI m2)) rfl dX2_findBest_92 ?_
      refine ky_icmp_ge C 136 dX2_findBest_95 (by decide) (fun c_95 => ?_) (fun c_95 => ?_)
      · have d_95 := Int32.not_lt.mpr c_95
        have n_95 := kn_le (a := m2) (b := k2) (by omega) (by omega) c_95
        have m_95 := Nat.not_lt.mpr n_95
        refine ky_iinc C 1 (v := nI (i1 + 1)) (lv' := [(1, .int (nI (i1 + 1))), (2, .int (nI k2)), (0, .ref (ad 32))]) dX2_findBest_136 rfl (nI_1 _) (by decide) rfl ?_
        refine ky_goto C dX2_findBest_139 (tgt := 73) (by decide) ?_
        exact ky_conv (ws' := [(ad 32, .inr (2, [.int (nI rcn), .int frs, .ref (ad 33), .ref (ad 34), .ref (ad 35), .ref (ad 36), .ref (ad 37), .ref (ad 38), .ref (ad 39), .int (nI m1), .int (nI m2), .ref (ad 10), .ref (ad 18), .ref (ad 23)])), (ad 37, .inl (cI, 97, .inl ob1)), (ad 38, .inl (cI, 97, .inl tbi)), (ad 39, .inl (cI, 2401, .inl py))]) (lv' := [(1, .int (nI (i1 + 1))), (0, .ref (ad 32))]) (st' := []) [0, 2] rfl rfl rfl (ih_73 (i1 + 1) tbi (show m1 - (i1 + 1) < m1 - i1 from by omega) ⟨(by omega), (kAnd2 hti (by rw [htc, show k2 = m2 by omega])), trivial⟩)
      · have d_95 := Int32.not_le.mp c_95
        have n_95 := kn_nle (a := m2) (b := k2) (by omega) (by omega) c_95
        have m_95 := Nat.not_le.mpr n_95
        refine ky_aload_n C 2 dX2_findBest_98 rfl rfl ?_
        refine ky_get C (ci := 2) (T := TX2) (N := 14) (Cn := RX2) (ref := "RainAccount$Duel") hiX2_findBest_X2 0 rfl rfl 7 (by decide) (List.mem_of_getElem? (i := 9) rfl) rfl (v := .ref (ad 38)) rfl dX2_findBest_99 ?_
        refine ky_iload_n C 1 dX2_findBest_102 rfl rfl ?_
        refine ky_aload_n C 2 dX2_findBest_103 rfl rfl ?_
        refine ky_get C (ci := 2) (T := TX2) (N := 14) (Cn := RX2) (ref := "RainAccount$Duel") hiX2_findBest_X2 0 rfl rfl 7 (by decide) (List.mem_of_getElem? (i := 9) rfl) rfl (v := .ref (ad 38)) rfl dX2_findBest_104 ?_
        refine ky_iload_n C 1 dX2_findBest_107 rfl rfl ?_
        refine ky_ialdN C 2 (k := i1) rfl (by omega) (by decide) dX2_findBest_108 (v := nI (kMx (fun k => v5 i1 k) k2)) htc ?_
        refine ky_aload_n C 2 dX2_findBest_109 rfl rfl ?_
        refine ky_get C (ci := 2) (T := TX2) (N := 14) (Cn := RX2) (ref := "RainAccount$Duel") hiX2_findBest_X2 0 rfl rfl 8 (by decide) (List.mem_of_getElem? (i := 4) rfl) rfl (v := .ref (ad 39)) rfl dX2_findBest_110 ?_
        refine ky_iload_n C 1 dX2_findBest_113 rfl rfl ?_
        refine ky_aload_n C 2 dX2_findBest_114 rfl rfl ?_
        refine ky_get C (ci := 2) (T := TX2) (N := 14) (Cn := RX2) (ref := "RainAccount$Duel") hiX2_findBest_X2 0 rfl rfl 10 (by decide) (List.mem_of_getElem? (i := 1) rfl) rfl (v := .int (nI m2)) rfl dX2_findBest_115 ?_
        refine ky_imul C (v := nI (i1 * m2)) dX2_findBest_118 (pk_mul i1 m2) ?_
        refine ky_iload_n C 0 dX2_findBest_119 rfl rfl ?_
        refine ky_iadd C (v := nI (i1 * m2 + k2)) dX2_findBest_120 (nI_add (i1 * m2) k2) ?_
        have hu1 := hu i1 k2
        have hv1 := hv5 i1 k2
        refine ky_ialdN C 3 (k := i1 * m2 + k2) rfl (kIy (show i1 < m1 by omega) (show k2 < m2 by omega) hm) (by decide) dX2_findBest_121 (v := nI (1000 * u i1 k2 + v5 i1 k2)) (hpay i1 (by omega) k2 (by omega)) ?_
        refine ky_sipush C dX2_findBest_122 (v := 1000) (by decide) ?_
        refine ky_irem C (v := nI (v5 i1 k2)) dX2_findBest_125 (by decide) ((pk_rem (by omega) (by decide) (by decide)).trans (congrArg nI (show (1000 * u i1 k2 + v5 i1 k2) % 1000 = v5 i1 k2 by omega))) ?_
        refine ky_mmax C (List.mem_of_getElem? (i := 5) rfl) (List.mem_of_getElem? (i := 6) rfl) (List.mem_of_getElem? (i := 7) rfl) (List.mem_of_getElem? (i := 8) rfl) (Nat.le_of_ble_eq_true rfl) (Nat.le_of_ble_eq_true rfl) (Nat.le_of_ble_eq_true rfl) (Nat.le_of_ble_eq_true rfl) dX2_findBest_126 (v := nI (kMx (fun k => v5 i1 k) (k2 + 1))) (kmx_s (fun k => v5 i1 k) (fun k => hv5 i1 k) k2) ?_
        refine ky_iastN C 2 (k := i1) rfl (by omega) (by decide) dX2_findBest_129 (ws' := [(ad 32, .inr (2, [.int (nI rcn), .int frs, .ref (ad 33), .ref (ad 34), .ref (ad 35), .ref (ad 36), .ref (ad 37), .ref (ad 38), .ref (ad 39), .int (nI m1), .int (nI m2), .ref (ad 10), .ref (ad 18), .ref (ad 23)])), (ad 37, .inl (cI, 97, .inl ob1)), (ad 38, .inl (cI, 97, .inl (upd tbi i1 (nI (kMx (fun k => v5 i1 k) (k2 + 1)))))), (ad 39, .inl (cI, 2401, .inl py))]) rfl ?_
        refine ky_iinc C 0 (v := nI (k2 + 1)) (lv' := [(2, .int (nI (k2 + 1))), (1, .int (nI i1)), (0, .ref (ad 32))]) dX2_findBest_130 rfl (nI_1 _) (by decide) rfl ?_
        refine ky_goto C dX2_findBest_133 (tgt := 90) (by decide) ?_
        exact ky_conv (ws' := [(ad 32, .inr (2, [.int (nI rcn), .int frs, .ref (ad 33), .ref (ad 34), .ref (ad 35), .ref (ad 36), .ref (ad 37), .ref (ad 38), .ref (ad 39), .int (nI m1), .int (nI m2), .ref (ad 10), .ref (ad 18), .ref (ad 23)])), (ad 37, .inl (cI, 97, .inl ob1)), (ad 38, .inl (cI, 97, .inl (upd tbi i1 (nI (kMx (fun k => v5 i1 k) (k2 + 1)))))), (ad 39, .inl (cI, 2401, .inl py))]) (lv' := [(2, .int (nI (k2 + 1))), (1, .int (nI i1)), (0, .ref (ad 32))]) (st' := []) [0, 1, 2] rfl rfl rfl (ih_90 (k2 + 1) (upd tbi i1 (nI (kMx (fun k => v5 i1 k) (k2 + 1)))) (show m2 - (k2 + 1) < m2 - k2 from by omega) ⟨(by omega), (fun j hj => by rw [pk_un (by omega)]; exact hti j hj), (by rw [pk_us]), trivial⟩)
  · have d_7 := Int32.not_le.mp c_7
    have n_7 := kn_nle (a := m2) (b := j1) (by omega) (by omega) c_7
    have m_7 := Nat.not_le.mpr n_7
    refine ky_aload_n C 1 dX2_findBest_10 rfl rfl ?_
    refine ky_get C (ci := 2) (T := TX2) (N := 14) (Cn := RX2) (ref := "RainAccount$Duel") hiX2_findBest_X2 0 rfl rfl 6 (by decide) (List.mem_of_getElem? (i := 2) rfl) rfl (v := .ref (ad 37)) rfl dX2_findBest_11 ?_
    refine ky_iload_n C 0 dX2_findBest_14 rfl rfl ?_
    refine ky_iconst C dX2_findBest_15 (v := 0) (by decide) ?_
    refine ky_iastN C 1 (k := j1) rfl (by omega) (by decide) dX2_findBest_16 (ws' := [(ad 32, .inr (2, [.int (nI rcn), .int frs, .ref (ad 33), .ref (ad 34), .ref (ad 35), .ref (ad 36), .ref (ad 37), .ref (ad 38), .ref (ad 39), .int (nI m1), .int (nI m2), .ref (ad 10), .ref (ad 18), .ref (ad 23)])), (ad 37, .inl (cI, 97, .inl (upd ob1 j1 0))), (ad 38, .inl (cI, 97, .inl tb)), (ad 39, .inl (cI, 2401, .inl py))]) rfl ?_
    refine ky_iconst C dX2_findBest_17 (v := 0) (by decide) ?_
    refine ky_istore_n C (lv' := [(2, .int 0), (1, .int (nI j1)), (0, .ref (ad 32))]) dX2_findBest_18 rfl (by decide) rfl ?_
    refine ky_conv (ws' := [(ad 32, .inr (2, [.int (nI rcn), .int frs, .ref (ad 33), .ref (ad 34), .ref (ad 35), .ref (ad 36), .ref (ad 37), .ref (ad 38), .ref (ad 39), .int (nI m1), .int (nI m2), .ref (ad 10), .ref (ad 18), .ref (ad 23)])), (ad 37, .inl (cI, 97, .inl (upd ob1 j1 0))), (ad 38, .inl (cI, 97, .inl tb)), (ad 39, .inl (cI, 2401, .inl py))]) (lv' := [(2, .int 0), (1, .int (nI j1)), (0, .ref (ad 32))]) (st' := []) [0, 1, 2] rfl rfl rfl ?_
    refine ky_loop2 (T1 := Nat) (T2 := Nat → Int32) (Wf := (fun k1 obi => [(ad 32, .inr (2, [.int (nI rcn), .int frs, .ref (ad 33), .ref (ad 34), .ref (ad 35), .ref (ad 36), .ref (ad 37), .ref (ad 38), .ref (ad 39), .int (nI m1), .int (nI m2), .ref (ad 10), .ref (ad 18), .ref (ad 23)])), (ad 37, .inl (cI, 97, .inl obi)), (ad 38, .inl (cI, 97, .inl tb)), (ad 39, .inl (cI, 2401, .inl py))])) (Lf := (fun k1 obi => [(2, .int (nI k1)), (1, .int (nI j1)), (0, .ref (ad 32))])) (Sf := (fun k1 obi => [])) (fun k1 obi => (k1 ≤ m1) ∧ (∀ j, j < j1 → obi j = nI (kMx (fun k => u k j) m1)) ∧ (obi j1 = nI (kMx (fun k => u k j1) k1)) ∧ True) (fun k1 obi => m1 - k1) ?_ 0 (upd ob1 j1 0) ⟨(by omega), (fun j hj => by rw [pk_un (by omega)]; exact hob j hj), (by rw [pk_us]; rfl), trivial⟩
    intro k1 obi hI_19 ih_19
    obtain ⟨hk1, hoi, hoc, -⟩ := hI_19
    have hk1 : k1 ≤ m1 := hk1
    have hoi : ∀ j, j < j1 → obi j = nI (kMx (fun k => u k j) m1) := hoi
    have hoc : obi j1 = nI (kMx (fun k => u k j1) k1) := hoc
    refine ky_conv (ws' := [(ad 32, .inr (2, [.int (nI rcn), .int frs, .ref (ad 33), .ref (ad 34), .ref (ad 35), .ref (ad 36), .ref (ad 37), .ref (ad 38), .ref (ad 39), .int (nI m1), .int (nI m2), .ref (ad 10), .ref (ad 18), .ref (ad 23)])), (ad 37, .inl (cI, 97, .inl obi)), (ad 38, .inl (cI, 97, .inl tb)), (ad 39, .inl (cI, 2401, .inl py))]) (lv' := [(2, .int (nI k1)), (1, .int (nI j1)), (0, .ref (ad 32))]) (st' := []) (List.range 3) rfl rfl rfl ?_
    refine ky_iload_n C 0 dX2_findBest_19 rfl rfl ?_
    refine ky_aload_n C 2 dX2_findBest_20 rfl rfl ?_
    refine ky_get C (ci := 2) (T := TX2) (N := 14) (Cn := RX2) (ref := "RainAccount$Duel") hiX2_findBest_X2 0 rfl rfl 9 (by decide) (List.mem_of_getElem? (i := 3) rfl) rfl (v := .int (nI m1)) rfl dX2_findBest_21 ?_
    refine ky_icmp_ge C 65 dX2_findBest_24 (by decide) (fun c_24 => ?_) (fun c_24 => ?_)
    · have d_24 := Int32.not_lt.mpr c_24
      have n_24 := kn_le (a := m1) (b := k1) (by omega) (by omega) c_24
      have m_24 := Nat.not_lt.mpr n_24
      refine ky_iinc C 1 (v := nI (j1 + 1)) (lv' := [(1, .int (nI (j1 + 1))), (2, .int (nI k1)), (0, .ref (ad 32))]) dX2_findBest_65 rfl (nI_1 _) (by decide) rfl ?_
      refine ky_goto C dX2_findBest_68 (tgt := 2) (by decide) ?_
      exact ky_conv (ws' := [(ad 32, .inr (2, [.int (nI rcn), .int frs, .ref (ad 33), .ref (ad 34), .ref (ad 35), .ref (ad 36), .ref (ad 37), .ref (ad 38), .ref (ad 39), .int (nI m1), .int (nI m2), .ref (ad 10), .ref (ad 18), .ref (ad 23)])), (ad 37, .inl (cI, 97, .inl obi)), (ad 38, .inl (cI, 97, .inl tb)), (ad 39, .inl (cI, 2401, .inl py))]) (lv' := [(1, .int (nI (j1 + 1))), (0, .ref (ad 32))]) (st' := []) [0, 2] rfl rfl rfl (ih_2 (j1 + 1) obi (show m2 - (j1 + 1) < m2 - j1 from by omega) ⟨(by omega), (kAnd2 hoi (by rw [hoc, show k1 = m1 by omega])), trivial⟩)
    · have d_24 := Int32.not_le.mp c_24
      have n_24 := kn_nle (a := m1) (b := k1) (by omega) (by omega) c_24
      have m_24 := Nat.not_le.mpr n_24
      refine ky_aload_n C 2 dX2_findBest_27 rfl rfl ?_
      refine ky_get C (ci := 2) (T := TX2) (N := 14) (Cn := RX2) (ref := "RainAccount$Duel") hiX2_findBest_X2 0 rfl rfl 6 (by decide) (List.mem_of_getElem? (i := 2) rfl) rfl (v := .ref (ad 37)) rfl dX2_findBest_28 ?_
      refine ky_iload_n C 1 dX2_findBest_31 rfl rfl ?_
      refine ky_aload_n C 2 dX2_findBest_32 rfl rfl ?_
      refine ky_get C (ci := 2) (T := TX2) (N := 14) (Cn := RX2) (ref := "RainAccount$Duel") hiX2_findBest_X2 0 rfl rfl 6 (by decide) (List.mem_of_getElem? (i := 2) rfl) rfl (v := .ref (ad 37)) rfl dX2_findBest_33 ?_
      refine ky_iload_n C 1 dX2_findBest_36 rfl rfl ?_
      refine ky_ialdN C 1 (k := j1) rfl (by omega) (by decide) dX2_findBest_37 (v := nI (kMx (fun k => u k j1) k1)) hoc ?_
      refine ky_aload_n C 2 dX2_findBest_38 rfl rfl ?_
      refine ky_get C (ci := 2) (T := TX2) (N := 14) (Cn := RX2) (ref := "RainAccount$Duel") hiX2_findBest_X2 0 rfl rfl 8 (by decide) (List.mem_of_getElem? (i := 4) rfl) rfl (v := .ref (ad 39)) rfl dX2_findBest_39 ?_
      refine ky_iload_n C 0 dX2_findBest_42 rfl rfl ?_
      refine ky_aload_n C 2 dX2_findBest_43 rfl rfl ?_
      refine ky_get C (ci := 2) (T := TX2) (N := 14) (Cn := RX2) (ref := "RainAccount$Duel") hiX2_findBest_X2 0 rfl rfl 10 (by decide) (List.mem_of_getElem? (i := 1) rfl) rfl (v := .int (nI m2)) rfl dX2_findBest_44 ?_
      refine ky_imul C (v := nI (k1 * m2)) dX2_findBest_47 (pk_mul k1 m2) ?_
      refine ky_iload_n C 1 dX2_findBest_48 rfl rfl ?_
      refine ky_iadd C (v := nI (k1 * m2 + j1)) dX2_findBest_49 (nI_add (k1 * m2) j1) ?_
      have hu1 := hu k1 j1
      have hv1 := hv5 k1 j1
      refine ky_ialdN C 3 (k := k1 * m2 + j1) rfl (kIy (show k1 < m1 by omega) (show j1 < m2 by omega) hm) (by decide) dX2_findBest_50 (v := nI (1000 * u k1 j1 + v5 k1 j1)) (hpay k1 (by omega) j1 (by omega)) ?_
      refine ky_sipush C dX2_findBest_51 (v := 1000) (by decide) ?_
      refine ky_idiv C (v := nI (u k1 j1)) dX2_findBest_54 (by decide) ((pk_div (by omega) (by decide) (by decide)).trans (congrArg nI (show (1000 * u k1 j1 + v5 k1 j1) / 1000 = u k1 j1 by omega))) ?_
      refine ky_mmax C (List.mem_of_getElem? (i := 5) rfl) (List.mem_of_getElem? (i := 6) rfl) (List.mem_of_getElem? (i := 7) rfl) (List.mem_of_getElem? (i := 8) rfl) (Nat.le_of_ble_eq_true rfl) (Nat.le_of_ble_eq_true rfl) (Nat.le_of_ble_eq_true rfl) (Nat.le_of_ble_eq_true rfl) dX2_findBest_55 (v := nI (kMx (fun k => u k j1) (k1 + 1))) (kmx_s (fun k => u k j1) (fun k => hu k j1) k1) ?_
      refine ky_iastN C 1 (k := j1) rfl (by omega) (by decide) dX2_findBest_58 (ws' := [(ad 32, .inr (2, [.int (nI rcn), .int frs, .ref (ad 33), .ref (ad 34), .ref (ad 35), .ref (ad 36), .ref (ad 37), .ref (ad 38), .ref (ad 39), .int (nI m1), .int (nI m2), .ref (ad 10), .ref (ad 18), .ref (ad 23)])), (ad 37, .inl (cI, 97, .inl (upd obi j1 (nI (kMx (fun k => u k j1) (k1 + 1)))))), (ad 38, .inl (cI, 97, .inl tb)), (ad 39, .inl (cI, 2401, .inl py))]) rfl ?_
      refine ky_iinc C 0 (v := nI (k1 + 1)) (lv' := [(2, .int (nI (k1 + 1))), (1, .int (nI j1)), (0, .ref (ad 32))]) dX2_findBest_59 rfl (nI_1 _) (by decide) rfl ?_
      refine ky_goto C dX2_findBest_62 (tgt := 19) (by decide) ?_
      exact ky_conv (ws' := [(ad 32, .inr (2, [.int (nI rcn), .int frs, .ref (ad 33), .ref (ad 34), .ref (ad 35), .ref (ad 36), .ref (ad 37), .ref (ad 38), .ref (ad 39), .int (nI m1), .int (nI m2), .ref (ad 10), .ref (ad 18), .ref (ad 23)])), (ad 37, .inl (cI, 97, .inl (upd obi j1 (nI (kMx (fun k => u k j1) (k1 + 1)))))), (ad 38, .inl (cI, 97, .inl tb)), (ad 39, .inl (cI, 2401, .inl py))]) (lv' := [(2, .int (nI (k1 + 1))), (1, .int (nI j1)), (0, .ref (ad 32))]) (st' := []) [0, 1, 2] rfl rfl rfl (ih_19 (k1 + 1) (upd obi j1 (nI (kMx (fun k => u k j1) (k1 + 1)))) (show m1 - (k1 + 1) < m1 - k1 from by omega) ⟨(by omega), (fun j hj => by rw [pk_un (by omega)]; exact hoi j hj), (by rw [pk_us]), trivial⟩)
