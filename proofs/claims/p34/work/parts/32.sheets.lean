/-! part 32: the class's sheets -/
/-- a sheet: its sort, how long (-1: nothing), its cells -/
abbrev kSh : Type := Int32 × Int32 × kA
def kShOk (sh : Nat → kSh) : Prop := ∀ k, k < 4 → (sh k).2.1 = -1 ∨ ((0 ≤ (sh k).2.1 ∧ (sh k).2.1 ≤ 40) ∧ 0 ≤ (sh k).1 ∧ (sh k).1 ≤ 2)
theorem kt_4 {j : Nat} (h : j < 4) : j = 0 ∨ j = 1 ∨ j = 2 ∨ j = 3 := by omega
def kF_sheet (sh : Nat → kSh) (k so n : Int32) : Int32 × Int32 × (Nat → kSh) :=
  if 0 ≤ k ∧ k ≤ 3 then (if 0 ≤ so ∧ so ≤ 2 then (if n ≤ 40 then (if 0 ≤ n then (1, 0, va_up sh k.toNatClampNeg (so, n, fun _ => 0)) else (-14, 4, sh)) else (-2, 0, sh)) else (-2, 0, sh)) else (-1, 0, sh)
def kF_lose (sh : Nat → kSh) (k : Int32) : Int32 × (Nat → kSh) :=
  if 0 ≤ k ∧ k ≤ 3 then ((if (sh k.toNatClampNeg).2.1 = -1 then 0 else 1), va_up sh k.toNatClampNeg ((sh k.toNatClampNeg).1, -1, (sh k.toNatClampNeg).2.2)) else (-1, sh)
def kF_put (sh : Nat → kSh) (k i v : Int32) : Int32 × Int32 × (Nat → kSh) :=
  if 0 ≤ k ∧ k ≤ 3 then (if (sh k.toNatClampNeg).2.1 = -1 then (-11, 1, sh) else if 0 ≤ i ∧ i < (sh k.toNatClampNeg).2.1 then (1, 0, va_up sh k.toNatClampNeg ((sh k.toNatClampNeg).1, (sh k.toNatClampNeg).2.1, upd (sh k.toNatClampNeg).2.2 i.toNatClampNeg (kCut (sh k.toNatClampNeg).1 v))) else (-13, 3, sh)) else (-1, 0, sh)
def kF_cell (sh : Nat → kSh) (k i so : Int32) : Int64 × Int32 :=
  if 0 ≤ k ∧ k ≤ 3 then (if 0 ≤ so ∧ so ≤ 2 then (if (sh k.toNatClampNeg).2.1 = -1 then (-9223372036854775808, 1) else if (sh k.toNatClampNeg).1 = so then (if 0 ≤ i ∧ i < (sh k.toNatClampNeg).2.1 then (((sh k.toNatClampNeg).2.2 i.toNatClampNeg).toInt64, 0) else (-9223372036854775808, 3)) else (-9223372036854775808, 2)) else (-9223372036854775808, 0)) else (-9223372036854775808, 0)
theorem kFc4 (ln so z i n : Int32) : ln = -1 ∨ (¬ ln = -1 ∧ ¬ so = z) ∨ (¬ ln = -1 ∧ so = z ∧ ¬ (0 ≤ i ∧ (0 : Int32) ≤ n ∧ i ≤ ln ∧ n ≤ ln - i)) ∨ (¬ ln = -1 ∧ so = z ∧ (0 ≤ i ∧ (0 : Int32) ≤ n ∧ i ≤ ln ∧ n ≤ ln - i)) := by
  by_cases h : ln = -1
  · exact Or.inl h
  · by_cases h2 : so = z
    · by_cases h3 : 0 ≤ i ∧ (0 : Int32) ≤ n ∧ i ≤ ln ∧ n ≤ ln - i
      · exact Or.inr (Or.inr (Or.inr ⟨h, h2, h3⟩))
      · exact Or.inr (Or.inr (Or.inl ⟨h, h2, h3⟩))
    · exact Or.inr (Or.inl ⟨h, h2⟩)
theorem kFc (ln so z i n : Int32) : ln = -1 ∨ (¬ ln = -1 ∧ ¬ so = z) ∨ (¬ ln = -1 ∧ so = z ∧ ¬ (0 ≤ n)) ∨ (¬ ln = -1 ∧ so = z ∧ 0 ≤ n ∧ ¬ (0 ≤ i ∧ (0 : Int32) ≤ n ∧ i ≤ ln ∧ n ≤ ln - i)) ∨ (¬ ln = -1 ∧ so = z ∧ 0 ≤ n ∧ (0 ≤ i ∧ (0 : Int32) ≤ n ∧ i ≤ ln ∧ n ≤ ln - i)) := by
  rcases kFc4 ln so z i n with h | h | ⟨h, h2, h3⟩ | ⟨h, h2, h3⟩
  · exact Or.inl h
  · exact Or.inr (Or.inl h)
  · by_cases h4 : 0 ≤ n
    · exact Or.inr (Or.inr (Or.inr (Or.inl ⟨h, h2, h4, h3⟩)))
    · exact Or.inr (Or.inr (Or.inl ⟨h, h2, h4⟩))
  · exact Or.inr (Or.inr (Or.inr (Or.inr ⟨h, h2, h3.2.1, h3⟩)))
theorem kIc1 {P Q R S : Prop} [Decidable P] [Decidable Q] [Decidable R] [Decidable S] (h : P) : (if P then (1 : Int32) else if Q then (if R then (if S then 0 else 3) else 4) else 2) = 1 := if_pos h
theorem kIc2 {P Q R S : Prop} [Decidable P] [Decidable Q] [Decidable R] [Decidable S] (h : ¬ P) (h2 : ¬ Q) : (if P then (1 : Int32) else if Q then (if R then (if S then 0 else 3) else 4) else 2) = 2 := (if_neg h).trans (if_neg h2)
theorem kIc4 {P Q R S : Prop} [Decidable P] [Decidable Q] [Decidable R] [Decidable S] (h : ¬ P) (h2 : Q) (h3 : ¬ R) : (if P then (1 : Int32) else if Q then (if R then (if S then 0 else 3) else 4) else 2) = 4 := (if_neg h).trans ((if_pos h2).trans (if_neg h3))
theorem kIc3 {P Q R S : Prop} [Decidable P] [Decidable Q] [Decidable R] [Decidable S] (h : ¬ P) (h2 : Q) (h3 : R) (h4 : ¬ S) : (if P then (1 : Int32) else if Q then (if R then (if S then 0 else 3) else 4) else 2) = 3 := (if_neg h).trans ((if_pos h2).trans ((if_pos h3).trans (if_neg h4)))
theorem kIc0 {P Q R S : Prop} [Decidable P] [Decidable Q] [Decidable R] [Decidable S] (h : ¬ P) (h2 : Q) (h3 : R) (h4 : S) : (if P then (1 : Int32) else if Q then (if R then (if S then 0 else 3) else 4) else 2) = 0 := (if_neg h).trans ((if_pos h2).trans ((if_pos h3).trans (if_pos h4)))
theorem kLen {s : kSh} (h : s.2.1 = -1 ∨ ((0 ≤ s.2.1 ∧ s.2.1 ≤ 40) ∧ 0 ≤ s.1 ∧ s.1 ≤ 2)) (hn : ¬ s.2.1 = -1) : ∃ m : Nat, m ≤ 40 ∧ s.2.1 = nI m := by
  rcases h with h | h
  · exact absurd h hn
  · exact kixle (n := 40) h.1 (by decide)
theorem kHold1 {s : kSh} {i : Int32} (h : s.2.1 = -1 ∨ ((0 ≤ s.2.1 ∧ s.2.1 ≤ 40) ∧ 0 ≤ s.1 ∧ s.1 ≤ 2)) (hn : ¬ s.2.1 = -1) (q : 0 ≤ i ∧ i < s.2.1) : 0 ≤ i ∧ 0 ≤ (1 : Int32) ∧ i ≤ s.2.1 ∧ 1 ≤ s.2.1 - i := by
  obtain ⟨m, hm, e⟩ := kLen h hn
  rw [e] at q ⊢
  obtain ⟨j, hj, rfl⟩ := kix q (by omega)
  refine ⟨q.1, by decide, Int32.le_of_lt q.2, ?_⟩
  rw [pk_sub (by omega)]
  exact (nI_leI (a := 1) (by decide) (by omega)).mpr (by omega)
theorem kHold1m {s : kSh} {i : Int32} (h : s.2.1 = -1 ∨ ((0 ≤ s.2.1 ∧ s.2.1 ≤ 40) ∧ 0 ≤ s.1 ∧ s.1 ≤ 2)) (hn : ¬ s.2.1 = -1) (q : 0 ≤ i ∧ 0 ≤ (1 : Int32) ∧ i ≤ s.2.1 ∧ 1 ≤ s.2.1 - i) : 0 ≤ i ∧ i < s.2.1 := by
  obtain ⟨m, hm, e⟩ := kLen h hn
  rw [e] at q ⊢
  obtain ⟨j, hj, rfl⟩ := kixle ⟨q.1, q.2.2.1⟩ (by omega)
  refine ⟨q.1, ?_⟩
  have h2 := q.2.2.2
  rw [pk_sub hj] at h2
  have h3 := (nI_leI (a := 1) (by decide) (by omega)).mp h2
  exact nI_lt (by omega) (by omega)
theorem kHold40 {s : kSh} {i : Int32} (h : s.2.1 = -1 ∨ ((0 ≤ s.2.1 ∧ s.2.1 ≤ 40) ∧ 0 ≤ s.1 ∧ s.1 ≤ 2)) (hn : ¬ s.2.1 = -1) (q : 0 ≤ i ∧ i < s.2.1) : i < 40 := by
  obtain ⟨m, hm, e⟩ := kLen h hn
  rw [e] at q
  exact Int32.lt_of_lt_of_le q.2 ((nI_leI (b := 40) (by omega) (by decide)).mpr hm)
theorem hiX7_sheet_X7 : ∀ w ∈ wsX70, w ∈ wsX7_sheet := fun _ h => (List.mem_cons_of_mem _ (List.mem_append_left _ (List.mem_append_right _ h)))
theorem hdX7_sheet : yX7_sheet.cls = RX7 ∧ yX7_sheet.cls ≠ "java/lang/invoke/MethodHandle" ∧ yX7_sheet.cls ≠ "java/lang/invoke/VarHandle" ∧ (parseMethodDescriptor yX7_sheet.desc).map (fun d => d.parameters.length) = some 3 := by decide +kernel
set_option maxRecDepth 100000 in
set_option maxHeartbeats 4000000 in
/-- X7_sheet -/
theorem kX7_sheet (l : Launch) (D : va_G) (cI cS : ClassId) (ad : Nat → Nat) (left : Int32) (lastF : Int32) (sh : Nat → kSh) (x : Int32) (y : Int32) (z : Int32) (hsh : kShOk sh) : kyM l yX7_sheet wsX7_sheet ({ frames := 2, cells := 0, slots := 0, locals := 42 }) D cI cS [.ref (ad 0), .int x, .int y, .int z] [(ad 0, .inr (7, [.ref (ad 1), .ref (ad 10), .ref (ad 14), .ref (ad 18), .ref (ad 23), .ref (ad 29), .ref (ad 32), .int left, .int lastF])), (ad 1, .inl (cS, 4, .inr (.inr (.inr (.inr (fun k => some (ad (2 + 2 * k)))))))), (ad 2, .inr (4, [.ref (ad 3), .int ((sh 0).1), .int ((sh 0).2.1)])), (ad 3, .inl (cI, 40, .inl ((sh 0).2.2))), (ad 4, .inr (4, [.ref (ad 5), .int ((sh 1).1), .int ((sh 1).2.1)])), (ad 5, .inl (cI, 40, .inl ((sh 1).2.2))), (ad 6, .inr (4, [.ref (ad 7), .int ((sh 2).1), .int ((sh 2).2.1)])), (ad 7, .inl (cI, 40, .inl ((sh 2).2.2))), (ad 8, .inr (4, [.ref (ad 9), .int ((sh 3).1), .int ((sh 3).2.1)])), (ad 9, .inl (cI, 40, .inl ((sh 3).2.2)))] 0 0 (fun vR wR => ∃ r2 : Int32, ∃ lf2 : Int32, ∃ sh2 : Nat → kSh, vR = some (.int r2) ∧ wR = [(ad 0, .inr (7, [.ref (ad 1), .ref (ad 10), .ref (ad 14), .ref (ad 18), .ref (ad 23), .ref (ad 29), .ref (ad 32), .int left, .int lf2])), (ad 1, .inl (cS, 4, .inr (.inr (.inr (.inr (fun k => some (ad (2 + 2 * k)))))))), (ad 2, .inr (4, [.ref (ad 3), .int ((sh2 0).1), .int ((sh2 0).2.1)])), (ad 3, .inl (cI, 40, .inl ((sh2 0).2.2))), (ad 4, .inr (4, [.ref (ad 5), .int ((sh2 1).1), .int ((sh2 1).2.1)])), (ad 5, .inl (cI, 40, .inl ((sh2 1).2.2))), (ad 6, .inr (4, [.ref (ad 7), .int ((sh2 2).1), .int ((sh2 2).2.1)])), (ad 7, .inl (cI, 40, .inl ((sh2 2).2.2))), (ad 8, .inr (4, [.ref (ad 9), .int ((sh2 3).1), .int ((sh2 3).2.1)])), (ad 9, .inl (cI, 40, .inl ((sh2 3).2.2)))] ∧ ((r2, lf2, sh2) = kF_sheet sh x y z)) := by
  refine ky_start (own := RX7) (cc := cX7_sheet) (nL := 4) (ret := (some .int)) (by decide) rfl rfl (Nat.le_of_ble_eq_true rfl) ?_
  intro p e s m args below meth c C hr hlk hnm
  refine ky_conv (lv' := [(0, .ref (ad 0)), (1, .int x), (2, .int y), (3, .int z)]) (List.range 4) rfl rfl rfl ?_
  refine ky_aload_n C 0 dX7_sheet_0 rfl rfl ?_
  refine ky_iconst C dX7_sheet_1 (v := 0) (by decide) ?_
  refine ky_put C (ci := 7) (T := TX7) (N := 9) (Cn := RX7) (ref := "RainAccount") hiX7_sheet_X7 tyX7 tyX7_ok nmX7 0 rfl rfl 8 (by decide) (List.mem_of_getElem? (i := 1) rfl) rfl rfl rfl rfl (Nat.le_of_ble_eq_true rfl) dX7_sheet_2 (ws' := [(ad 0, .inr (7, [.ref (ad 1), .ref (ad 10), .ref (ad 14), .ref (ad 18), .ref (ad 23), .ref (ad 29), .ref (ad 32), .int left, .int 0])), (ad 1, .inl (cS, 4, .inr (.inr (.inr (.inr (fun k => some (ad (2 + 2 * k)))))))), (ad 2, .inr (4, [.ref (ad 3), .int ((sh 0).1), .int ((sh 0).2.1)])), (ad 3, .inl (cI, 40, .inl ((sh 0).2.2))), (ad 4, .inr (4, [.ref (ad 5), .int ((sh 1).1), .int ((sh 1).2.1)])), (ad 5, .inl (cI, 40, .inl ((sh 1).2.2))), (ad 6, .inr (4, [.ref (ad 7), .int ((sh 2).1), .int ((sh 2).2.1)])), (ad 7, .inl (cI, 40, .inl ((sh 2).2.2))), (ad 8, .inr (4, [.ref (ad 9), .int ((sh 3).1), .int ((sh 3).2.1)])), (ad 9, .inl (cI, 40, .inl ((sh 3).2.2)))]) rfl ?_
  refine ky_iload_n C 1 dX7_sheet_5 rfl rfl ?_
  refine ky_callS0 C 1 (kX7_isSheet l D cI cS x) gX7_sheet_X7_isSheet rfl rfl rfl hdX7_isSheet.2 ⟨Nat.le_of_ble_eq_true rfl, Nat.le_of_ble_eq_true rfl⟩ rfl rfl (Nat.le_of_ble_eq_true rfl) dX7_sheet_6 [] rfl rfl ?_
  rintro _ _ ⟨rfl, rfl⟩
  refine ky_ws (ws' := [(ad 0, .inr (7, [.ref (ad 1), .ref (ad 10), .ref (ad 14), .ref (ad 18), .ref (ad 23), .ref (ad 29), .ref (ad 32), .int left, .int 0])), (ad 1, .inl (cS, 4, .inr (.inr (.inr (.inr (fun k => some (ad (2 + 2 * k)))))))), (ad 2, .inr (4, [.ref (ad 3), .int ((sh 0).1), .int ((sh 0).2.1)])), (ad 3, .inl (cI, 40, .inl ((sh 0).2.2))), (ad 4, .inr (4, [.ref (ad 5), .int ((sh 1).1), .int ((sh 1).2.1)])), (ad 5, .inl (cI, 40, .inl ((sh 1).2.2))), (ad 6, .inr (4, [.ref (ad 7), .int ((sh 2).1), .int ((sh 2).2.1)])), (ad 7, .inl (cI, 40, .inl ((sh 2).2.2))), (ad 8, .inr (4, [.ref (ad 9), .int ((sh 3).1), .int ((sh 3).2.1)])), (ad 9, .inl (cI, 40, .inl ((sh 3).2.2)))]) (st' := [.int (if 0 ≤ x ∧ x ≤ 3 then (1 : Int32) else 0)]) rfl rfl ?_
  refine ky_if_ne C 14 dX7_sheet_9 (by decide) (fun c_9 => ?_) (fun c_9 => ?_)
  · have c_9 : 0 ≤ x ∧ x ≤ 3 := kb1 c_9
    refine ky_iload_n C 2 dX7_sheet_14 rfl rfl ?_
    refine ky_callS0 C 1 (kX7_isSort l D cI cS y) gX7_sheet_X7_isSort rfl rfl rfl hdX7_isSort.2 ⟨Nat.le_of_ble_eq_true rfl, Nat.le_of_ble_eq_true rfl⟩ rfl rfl (Nat.le_of_ble_eq_true rfl) dX7_sheet_15 [] rfl rfl ?_
    rintro _ _ ⟨rfl, rfl⟩
    refine ky_ws (ws' := [(ad 0, .inr (7, [.ref (ad 1), .ref (ad 10), .ref (ad 14), .ref (ad 18), .ref (ad 23), .ref (ad 29), .ref (ad 32), .int left, .int 0])), (ad 1, .inl (cS, 4, .inr (.inr (.inr (.inr (fun k => some (ad (2 + 2 * k)))))))), (ad 2, .inr (4, [.ref (ad 3), .int ((sh 0).1), .int ((sh 0).2.1)])), (ad 3, .inl (cI, 40, .inl ((sh 0).2.2))), (ad 4, .inr (4, [.ref (ad 5), .int ((sh 1).1), .int ((sh 1).2.1)])), (ad 5, .inl (cI, 40, .inl ((sh 1).2.2))), (ad 6, .inr (4, [.ref (ad 7), .int ((sh 2).1), .int ((sh 2).2.1)])), (ad 7, .inl (cI, 40, .inl ((sh 2).2.2))), (ad 8, .inr (4, [.ref (ad 9), .int ((sh 3).1), .int ((sh 3).2.1)])), (ad 9, .inl (cI, 40, .inl ((sh 3).2.2)))]) (st' := [.int (if 0 ≤ y ∧ y ≤ 2 then (1 : Int32) else 0)]) rfl rfl ?_
    refine ky_if_eq C 27 dX7_sheet_18 (by decide) (fun c_18 => ?_) (fun c_18 => ?_)
    · have c_18 : ¬ (0 ≤ y ∧ y ≤ 2) := kb0 c_18
      refine ky_bipush C dX7_sheet_27 (v := (-2)) (by decide) ?_
      exact ky_iret C hr hlk ⟨(-2), 0, sh, rfl, rfl, (by simp only [kF_sheet, if_pos c_9, if_neg c_18])⟩ (Nat.le_of_ble_eq_true rfl) dX7_sheet_29
    · have c_18 : 0 ≤ y ∧ y ≤ 2 := kb1 c_18
      refine ky_iload_n C 3 dX7_sheet_21 rfl rfl ?_
      refine ky_bipush C dX7_sheet_22 (v := 40) (by decide) ?_
      refine ky_icmp_le C 30 dX7_sheet_24 (by decide) (fun c_24 => ?_) (fun c_24 => ?_)
      · have d_24 := Int32.not_lt.mpr c_24
        refine ky_iload_n C 3 dX7_sheet_30 rfl rfl ?_
        refine ky_if_ge C 40 dX7_sheet_31 (by decide) (fun c_31 => ?_) (fun c_31 => ?_)
        · have d_31 := Int32.not_lt.mpr c_31
          obtain ⟨j, hj, rfl⟩ := kixle (n := 3) c_9 (by omega)
          have hcj : (nI j).toNatClampNeg = j := nI_clamp (by omega)
          rcases kt_4 (show j < 4 by omega) with rfl | rfl | rfl | rfl
          · refine ky_aload_n C 0 dX7_sheet_40 rfl rfl ?_
            refine ky_get C (ci := 7) (T := TX7) (N := 9) (Cn := RX7) (ref := "RainAccount") hiX7_sheet_X7 0 rfl rfl 0 (by decide) (List.mem_of_getElem? (i := 2) rfl) rfl (v := .ref (ad 1)) rfl dX7_sheet_41 ?_
            refine ky_iload_n C 1 dX7_sheet_44 rfl rfl ?_
            refine ky_aald C 1 (k := 0) (b := ad 2) rfl (by omega) (by decide) rfl dX7_sheet_45 ?_
            refine ky_iload_n C 2 dX7_sheet_46 rfl rfl ?_
            refine ky_iload_n C 3 dX7_sheet_47 rfl rfl ?_
            refine ky_callV0 C 2 (kX4_renew l D cI cS (ad 2) (ad 3) ((sh 0).1) ((sh 0).2.1) ((sh 0).2.2) y z) gX7_sheet_X4_renew rfl rfl rfl hdX4_renew 2 4 rfl rfl rfl ⟨Nat.le_of_ble_eq_true rfl, Nat.le_of_ble_eq_true rfl⟩ rfl rfl (Nat.le_of_ble_eq_true rfl) dX7_sheet_48 [2, 3] rfl rfl ?_
            rintro _ _ ⟨f2_48, rfl, rfl, hf2_48⟩
            refine ky_ws (ws' := [(ad 0, .inr (7, [.ref (ad 1), .ref (ad 10), .ref (ad 14), .ref (ad 18), .ref (ad 23), .ref (ad 29), .ref (ad 32), .int left, .int 0])), (ad 1, .inl (cS, 4, .inr (.inr (.inr (.inr (fun k => some (ad (2 + 2 * k)))))))), (ad 2, .inr (4, [.ref (ad 3), .int y, .int z])), (ad 3, .inl (cI, 40, .inl f2_48)), (ad 4, .inr (4, [.ref (ad 5), .int ((sh 1).1), .int ((sh 1).2.1)])), (ad 5, .inl (cI, 40, .inl ((sh 1).2.2))), (ad 6, .inr (4, [.ref (ad 7), .int ((sh 2).1), .int ((sh 2).2.1)])), (ad 7, .inl (cI, 40, .inl ((sh 2).2.2))), (ad 8, .inr (4, [.ref (ad 9), .int ((sh 3).1), .int ((sh 3).2.1)])), (ad 9, .inl (cI, 40, .inl ((sh 3).2.2)))]) (st' := []) rfl rfl ?_
            refine ky_ext 3 (g := fun _ => 0) rfl hf2_48 (ws' := [(ad 0, .inr (7, [.ref (ad 1), .ref (ad 10), .ref (ad 14), .ref (ad 18), .ref (ad 23), .ref (ad 29), .ref (ad 32), .int left, .int 0])), (ad 1, .inl (cS, 4, .inr (.inr (.inr (.inr (fun k => some (ad (2 + 2 * k)))))))), (ad 2, .inr (4, [.ref (ad 3), .int y, .int z])), (ad 3, .inl (cI, 40, .inl (fun _ => 0))), (ad 4, .inr (4, [.ref (ad 5), .int ((sh 1).1), .int ((sh 1).2.1)])), (ad 5, .inl (cI, 40, .inl ((sh 1).2.2))), (ad 6, .inr (4, [.ref (ad 7), .int ((sh 2).1), .int ((sh 2).2.1)])), (ad 7, .inl (cI, 40, .inl ((sh 2).2.2))), (ad 8, .inr (4, [.ref (ad 9), .int ((sh 3).1), .int ((sh 3).2.1)])), (ad 9, .inl (cI, 40, .inl ((sh 3).2.2)))]) rfl ?_
            refine ky_iconst C dX7_sheet_51 (v := 1) (by decide) ?_
            exact ky_iret C hr hlk ⟨1, 0, (va_up sh 0 (y, z, fun _ => 0)), rfl, rfl, (by simp only [kF_sheet, if_pos c_9, if_pos c_18, if_pos c_24, if_neg d_24, if_pos c_31, if_neg d_31, hcj])⟩ (Nat.le_of_ble_eq_true rfl) dX7_sheet_52
          · refine ky_aload_n C 0 dX7_sheet_40 rfl rfl ?_
            refine ky_get C (ci := 7) (T := TX7) (N := 9) (Cn := RX7) (ref := "RainAccount") hiX7_sheet_X7 0 rfl rfl 0 (by decide) (List.mem_of_getElem? (i := 2) rfl) rfl (v := .ref (ad 1)) rfl dX7_sheet_41 ?_
            refine ky_iload_n C 1 dX7_sheet_44 rfl rfl ?_
            refine ky_aald C 1 (k := 1) (b := ad 4) rfl (by omega) (by decide) rfl dX7_sheet_45 ?_
            refine ky_iload_n C 2 dX7_sheet_46 rfl rfl ?_
            refine ky_iload_n C 3 dX7_sheet_47 rfl rfl ?_
            refine ky_callV0 C 2 (kX4_renew l D cI cS (ad 4) (ad 5) ((sh 1).1) ((sh 1).2.1) ((sh 1).2.2) y z) gX7_sheet_X4_renew rfl rfl rfl hdX4_renew 4 4 rfl rfl rfl ⟨Nat.le_of_ble_eq_true rfl, Nat.le_of_ble_eq_true rfl⟩ rfl rfl (Nat.le_of_ble_eq_true rfl) dX7_sheet_48 [4, 5] rfl rfl ?_
            rintro _ _ ⟨f2_48, rfl, rfl, hf2_48⟩
            refine ky_ws (ws' := [(ad 0, .inr (7, [.ref (ad 1), .ref (ad 10), .ref (ad 14), .ref (ad 18), .ref (ad 23), .ref (ad 29), .ref (ad 32), .int left, .int 0])), (ad 1, .inl (cS, 4, .inr (.inr (.inr (.inr (fun k => some (ad (2 + 2 * k)))))))), (ad 2, .inr (4, [.ref (ad 3), .int ((sh 0).1), .int ((sh 0).2.1)])), (ad 3, .inl (cI, 40, .inl ((sh 0).2.2))), (ad 4, .inr (4, [.ref (ad 5), .int y, .int z])), (ad 5, .inl (cI, 40, .inl f2_48)), (ad 6, .inr (4, [.ref (ad 7), .int ((sh 2).1), .int ((sh 2).2.1)])), (ad 7, .inl (cI, 40, .inl ((sh 2).2.2))), (ad 8, .inr (4, [.ref (ad 9), .int ((sh 3).1), .int ((sh 3).2.1)])), (ad 9, .inl (cI, 40, .inl ((sh 3).2.2)))]) (st' := []) rfl rfl ?_
            refine ky_ext 5 (g := fun _ => 0) rfl hf2_48 (ws' := [(ad 0, .inr (7, [.ref (ad 1), .ref (ad 10), .ref (ad 14), .ref (ad 18), .ref (ad 23), .ref (ad 29), .ref (ad 32), .int left, .int 0])), (ad 1, .inl (cS, 4, .inr (.inr (.inr (.inr (fun k => some (ad (2 + 2 * k)))))))), (ad 2, .inr (4, [.ref (ad 3), .int ((sh 0).1), .int ((sh 0).2.1)])), (ad 3, .inl (cI, 40, .inl ((sh 0).2.2))), (ad 4, .inr (4, [.ref (ad 5), .int y, .int z])), (ad 5, .inl (cI, 40, .inl (fun _ => 0))), (ad 6, .inr (4, [.ref (ad 7), .int ((sh 2).1), .int ((sh 2).2.1)])), (ad 7, .inl (cI, 40, .inl ((sh 2).2.2))), (ad 8, .inr (4, [.ref (ad 9), .int ((sh 3).1), .int ((sh 3).2.1)])), (ad 9, .inl (cI, 40, .inl ((sh 3).2.2)))]) rfl ?_
            refine ky_iconst C dX7_sheet_51 (v := 1) (by decide) ?_
            exact ky_iret C hr hlk ⟨1, 0, (va_up sh 1 (y, z, fun _ => 0)), rfl, rfl, (by simp only [kF_sheet, if_pos c_9, if_pos c_18, if_pos c_24, if_neg d_24, if_pos c_31, if_neg d_31, hcj])⟩ (Nat.le_of_ble_eq_true rfl) dX7_sheet_52
          · refine ky_aload_n C 0 dX7_sheet_40 rfl rfl ?_
            refine ky_get C (ci := 7) (T := TX7) (N := 9) (Cn := RX7) (ref := "RainAccount") hiX7_sheet_X7 0 rfl rfl 0 (by decide) (List.mem_of_getElem? (i := 2) rfl) rfl (v := .ref (ad 1)) rfl dX7_sheet_41 ?_
            refine ky_iload_n C 1 dX7_sheet_44 rfl rfl ?_
            refine ky_aald C 1 (k := 2) (b := ad 6) rfl (by omega) (by decide) rfl dX7_sheet_45 ?_
            refine ky_iload_n C 2 dX7_sheet_46 rfl rfl ?_
            refine ky_iload_n C 3 dX7_sheet_47 rfl rfl ?_
            refine ky_callV0 C 2 (kX4_renew l D cI cS (ad 6) (ad 7) ((sh 2).1) ((sh 2).2.1) ((sh 2).2.2) y z) gX7_sheet_X4_renew rfl rfl rfl hdX4_renew 6 4 rfl rfl rfl ⟨Nat.le_of_ble_eq_true rfl, Nat.le_of_ble_eq_true rfl⟩ rfl rfl (Nat.le_of_ble_eq_true rfl) dX7_sheet_48 [6, 7] rfl rfl ?_
            rintro _ _ ⟨f2_48, rfl, rfl, hf2_48⟩
            refine ky_ws (ws' := [(ad 0, .inr (7, [.ref (ad 1), .ref (ad 10), .ref (ad 14), .ref (ad 18), .ref (ad 23), .ref (ad 29), .ref (ad 32), .int left, .int 0])), (ad 1, .inl (cS, 4, .inr (.inr (.inr (.inr (fun k => some (ad (2 + 2 * k)))))))), (ad 2, .inr (4, [.ref (ad 3), .int ((sh 0).1), .int ((sh 0).2.1)])), (ad 3, .inl (cI, 40, .inl ((sh 0).2.2))), (ad 4, .inr (4, [.ref (ad 5), .int ((sh 1).1), .int ((sh 1).2.1)])), (ad 5, .inl (cI, 40, .inl ((sh 1).2.2))), (ad 6, .inr (4, [.ref (ad 7), .int y, .int z])), (ad 7, .inl (cI, 40, .inl f2_48)), (ad 8, .inr (4, [.ref (ad 9), .int ((sh 3).1), .int ((sh 3).2.1)])), (ad 9, .inl (cI, 40, .inl ((sh 3).2.2)))]) (st' := []) rfl rfl ?_
            refine ky_ext 7 (g := fun _ => 0) rfl hf2_48 (ws' := [(ad 0, .inr (7, [.ref (ad 1), .ref (ad 10), .ref (ad 14), .ref (ad 18), .ref (ad 23), .ref (ad 29), .ref (ad 32), .int left, .int 0])), (ad 1, .inl (cS, 4, .inr (.inr (.inr (.inr (fun k => some (ad (2 + 2 * k)))))))), (ad 2, .inr (4, [.ref (ad 3), .int ((sh 0).1), .int ((sh 0).2.1)])), (ad 3, .inl (cI, 40, .inl ((sh 0).2.2))), (ad 4, .inr (4, [.ref (ad 5), .int ((sh 1).1), .int ((sh 1).2.1)])), (ad 5, .inl (cI, 40, .inl ((sh 1).2.2))), (ad 6, .inr (4, [.ref (ad 7), .int y, .int z])), (ad 7, .inl (cI, 40, .inl (fun _ => 0))), (ad 8, .inr (4, [.ref (ad 9), .int ((sh 3).1), .int ((sh 3).2.1)])), (ad 9, .inl (cI, 40, .inl ((sh 3).2.2)))]) rfl ?_
            refine ky_iconst C dX7_sheet_51 (v := 1) (by decide) ?_
            exact ky_iret C hr hlk ⟨1, 0, (va_up sh 2 (y, z, fun _ => 0)), rfl, rfl, (by simp only [kF_sheet, if_pos c_9, if_pos c_18, if_pos c_24, if_neg d_24, if_pos c_31, if_neg d_31, hcj])⟩ (Nat.le_of_ble_eq_true rfl) dX7_sheet_52
          · refine ky_aload_n C 0 dX7_sheet_40 rfl rfl ?_
            refine ky_get C (ci := 7) (T := TX7) (N := 9) (Cn := RX7) (ref := "RainAccount") hiX7_sheet_X7 0 rfl rfl 0 (by decide) (List.mem_of_getElem? (i := 2) rfl) rfl (v := .ref (ad 1)) rfl dX7_sheet_41 ?_
            refine ky_iload_n C 1 dX7_sheet_44 rfl rfl ?_
            refine ky_aald C 1 (k := 3) (b := ad 8) rfl (by omega) (by decide) rfl dX7_sheet_45 ?_
            refine ky_iload_n C 2 dX7_sheet_46 rfl rfl ?_
            refine ky_iload_n C 3 dX7_sheet_47 rfl rfl ?_
            refine ky_callV0 C 2 (kX4_renew l D cI cS (ad 8) (ad 9) ((sh 3).1) ((sh 3).2.1) ((sh 3).2.2) y z) gX7_sheet_X4_renew rfl rfl rfl hdX4_renew 8 4 rfl rfl rfl ⟨Nat.le_of_ble_eq_true rfl, Nat.le_of_ble_eq_true rfl⟩ rfl rfl (Nat.le_of_ble_eq_true rfl) dX7_sheet_48 [8, 9] rfl rfl ?_
            rintro _ _ ⟨f2_48, rfl, rfl, hf2_48⟩
            refine ky_ws (ws' := [(ad 0, .inr (7, [.ref (ad 1), .ref (ad 10), .ref (ad 14), .ref (ad 18), .ref (ad 23), .ref (ad 29), .ref (ad 32), .int left, .int 0])), (ad 1, .inl (cS, 4, .inr (.inr (.inr (.inr (fun k => some (ad (2 + 2 * k)))))))), (ad 2, .inr (4, [.ref (ad 3), .int ((sh 0).1), .int ((sh 0).2.1)])), (ad 3, .inl (cI, 40, .inl ((sh 0).2.2))), (ad 4, .inr (4, [.ref (ad 5), .int ((sh 1).1), .int ((sh 1).2.1)])), (ad 5, .inl (cI, 40, .inl ((sh 1).2.2))), (ad 6, .inr (4, [.ref (ad 7), .int ((sh 2).1), .int ((sh 2).2.1)])), (ad 7, .inl (cI, 40, .inl ((sh 2).2.2))), (ad 8, .inr (4, [.ref (ad 9), .int y, .int z])), (ad 9, .inl (cI, 40, .inl f2_48))]) (st' := []) rfl rfl ?_
            refine ky_ext 9 (g := fun _ => 0) rfl hf2_48 (ws' := [(ad 0, .inr (7, [.ref (ad 1), .ref (ad 10), .ref (ad 14), .ref (ad 18), .ref (ad 23), .ref (ad 29), .ref (ad 32), .int left, .int 0])), (ad 1, .inl (cS, 4, .inr (.inr (.inr (.inr (fun k => some (ad (2 + 2 * k)))))))), (ad 2, .inr (4, [.ref (ad 3), .int ((sh 0).1), .int ((sh 0).2.1)])), (ad 3, .inl (cI, 40, .inl ((sh 0).2.2))), (ad 4, .inr (4, [.ref (ad 5), .int ((sh 1).1), .int ((sh 1).2.1)])), (ad 5, .inl (cI, 40, .inl ((sh 1).2.2))), (ad 6, .inr (4, [.ref (ad 7), .int ((sh 2).1), .int ((sh 2).2.1)])), (ad 7, .inl (cI, 40, .inl ((sh 2).2.2))), (ad 8, .inr (4, [.ref (ad 9), .int y, .int z])), (ad 9, .inl (cI, 40, .inl (fun _ => 0)))]) rfl ?_
            refine ky_iconst C dX7_sheet_51 (v := 1) (by decide) ?_
            exact ky_iret C hr hlk ⟨1, 0, (va_up sh 3 (y, z, fun _ => 0)), rfl, rfl, (by simp only [kF_sheet, if_pos c_9, if_pos c_18, if_pos c_24, if_neg d_24, if_pos c_31, if_neg d_31, hcj])⟩ (Nat.le_of_ble_eq_true rfl) dX7_sheet_52
        · have d_31 := Int32.not_le.mp c_31
          refine ky_aload_n C 0 dX7_sheet_34 rfl rfl ?_
          refine ky_iconst C dX7_sheet_35 (v := 4) (by decide) ?_
          refine ky_callV0 C 1 (kX7_faulted l D cI cS ad left 0 4) gX7_sheet_X7_faulted rfl rfl rfl hdX7_faulted 0 7 rfl rfl rfl ⟨Nat.le_of_ble_eq_true rfl, Nat.le_of_ble_eq_true rfl⟩ rfl rfl (Nat.le_of_ble_eq_true rfl) dX7_sheet_36 [0] rfl rfl ?_
          rintro _ _ ⟨rfl, rfl⟩
          refine ky_ws (ws' := [(ad 0, .inr (7, [.ref (ad 1), .ref (ad 10), .ref (ad 14), .ref (ad 18), .ref (ad 23), .ref (ad 29), .ref (ad 32), .int left, .int 4])), (ad 1, .inl (cS, 4, .inr (.inr (.inr (.inr (fun k => some (ad (2 + 2 * k)))))))), (ad 2, .inr (4, [.ref (ad 3), .int ((sh 0).1), .int ((sh 0).2.1)])), (ad 3, .inl (cI, 40, .inl ((sh 0).2.2))), (ad 4, .inr (4, [.ref (ad 5), .int ((sh 1).1), .int ((sh 1).2.1)])), (ad 5, .inl (cI, 40, .inl ((sh 1).2.2))), (ad 6, .inr (4, [.ref (ad 7), .int ((sh 2).1), .int ((sh 2).2.1)])), (ad 7, .inl (cI, 40, .inl ((sh 2).2.2))), (ad 8, .inr (4, [.ref (ad 9), .int ((sh 3).1), .int ((sh 3).2.1)])), (ad 9, .inl (cI, 40, .inl ((sh 3).2.2)))]) (st' := [.int ((-10 : Int32) - 4)]) rfl rfl ?_
          exact ky_iret C hr hlk ⟨((-10 : Int32) - 4), 4, sh, congrArg (fun z => some (Value.int z)) (show ((-10 : Int32) - 4) = (((-10 : Int32) - 4)) from by simp [c_9, c_18, c_24, d_24, c_31, d_31]), rfl, (by first | (simp only [kF_sheet, if_pos c_9, if_pos c_18, if_pos c_24, if_neg d_24, if_neg c_31, if_pos d_31]; done) | (simp only [kF_sheet, if_pos c_9, if_pos c_18, if_pos c_24, if_neg d_24, if_neg c_31, if_pos d_31]; rfl))⟩ (Nat.le_of_ble_eq_true rfl) dX7_sheet_39
      · have d_24 := Int32.not_le.mp c_24
        refine ky_bipush C dX7_sheet_27 (v := (-2)) (by decide) ?_
        exact ky_iret C hr hlk ⟨(-2), 0, sh, rfl, rfl, (by simp only [kF_sheet, if_pos c_9, if_pos c_18, if_neg c_24, if_pos d_24])⟩ (Nat.le_of_ble_eq_true rfl) dX7_sheet_29
  · have c_9 : ¬ (0 ≤ x ∧ x ≤ 3) := kb0 c_9
    refine ky_iconst C dX7_sheet_12 (v := (-1)) (by decide) ?_
    exact ky_iret C hr hlk ⟨(-1), 0, sh, rfl, rfl, (by simp only [kF_sheet, if_neg c_9])⟩ (Nat.le_of_ble_eq_true rfl) dX7_sheet_13
theorem hiX7_put_X7 : ∀ w ∈ wsX70, w ∈ wsX7_put := fun _ h => (List.mem_cons_of_mem _ (List.mem_append_left _ (List.mem_append_right _ h)))
theorem hdX7_put : yX7_put.cls = RX7 ∧ yX7_put.cls ≠ "java/lang/invoke/MethodHandle" ∧ yX7_put.cls ≠ "java/lang/invoke/VarHandle" ∧ (parseMethodDescriptor yX7_put.desc).map (fun d => d.parameters.length) = some 3 := by decide +kernel
set_option maxRecDepth 100000 in
set_option maxHeartbeats 4000000 in
/-- X7_put -/
theorem kX7_put (l : Launch) (D : va_G) (cI cS : ClassId) (ad : Nat → Nat) (left : Int32) (lastF : Int32) (sh : Nat → kSh) (x : Int32) (y : Int32) (z : Int32) (hsh : kShOk sh) : kyM l yX7_put wsX7_put ({ frames := 2, cells := 0, slots := 0, locals := 42 }) D cI cS [.ref (ad 0), .int x, .int y, .int z] [(ad 0, .inr (7, [.ref (ad 1), .ref (ad 10), .ref (ad 14), .ref (ad 18), .ref (ad 23), .ref (ad 29), .ref (ad 32), .int left, .int lastF])), (ad 1, .inl (cS, 4, .inr (.inr (.inr (.inr (fun k => some (ad (2 + 2 * k)))))))), (ad 2, .inr (4, [.ref (ad 3), .int ((sh 0).1), .int ((sh 0).2.1)])), (ad 3, .inl (cI, 40, .inl ((sh 0).2.2))), (ad 4, .inr (4, [.ref (ad 5), .int ((sh 1).1), .int ((sh 1).2.1)])), (ad 5, .inl (cI, 40, .inl ((sh 1).2.2))), (ad 6, .inr (4, [.ref (ad 7), .int ((sh 2).1), .int ((sh 2).2.1)])), (ad 7, .inl (cI, 40, .inl ((sh 2).2.2))), (ad 8, .inr (4, [.ref (ad 9), .int ((sh 3).1), .int ((sh 3).2.1)])), (ad 9, .inl (cI, 40, .inl ((sh 3).2.2)))] 0 0 (fun vR wR => ∃ r2 : Int32, ∃ lf2 : Int32, ∃ sh2 : Nat → kSh, vR = some (.int r2) ∧ wR = [(ad 0, .inr (7, [.ref (ad 1), .ref (ad 10), .ref (ad 14), .ref (ad 18), .ref (ad 23), .ref (ad 29), .ref (ad 32), .int left, .int lf2])), (ad 1, .inl (cS, 4, .inr (.inr (.inr (.inr (fun k => some (ad (2 + 2 * k)))))))), (ad 2, .inr (4, [.ref (ad 3), .int ((sh2 0).1), .int ((sh2 0).2.1)])), (ad 3, .inl (cI, 40, .inl ((sh2 0).2.2))), (ad 4, .inr (4, [.ref (ad 5), .int ((sh2 1).1), .int ((sh2 1).2.1)])), (ad 5, .inl (cI, 40, .inl ((sh2 1).2.2))), (ad 6, .inr (4, [.ref (ad 7), .int ((sh2 2).1), .int ((sh2 2).2.1)])), (ad 7, .inl (cI, 40, .inl ((sh2 2).2.2))), (ad 8, .inr (4, [.ref (ad 9), .int ((sh2 3).1), .int ((sh2 3).2.1)])), (ad 9, .inl (cI, 40, .inl ((sh2 3).2.2)))] ∧ ((r2, lf2, sh2) = kF_put sh x y z)) := by
  refine ky_start (own := RX7) (cc := cX7_put) (nL := 5) (ret := (some .int)) (by decide) rfl rfl (Nat.le_of_ble_eq_true rfl) ?_
  intro p e s m args below meth c C hr hlk hnm
  refine ky_conv (lv' := [(0, .ref (ad 0)), (1, .int x), (2, .int y), (3, .int z)]) (List.range 4) rfl rfl rfl ?_
  refine ky_aload_n C 0 dX7_put_0 rfl rfl ?_
  refine ky_iconst C dX7_put_1 (v := 0) (by decide) ?_
  refine ky_put C (ci := 7) (T := TX7) (N := 9) (Cn := RX7) (ref := "RainAccount") hiX7_put_X7 tyX7 tyX7_ok nmX7 0 rfl rfl 8 (by decide) (List.mem_of_getElem? (i := 1) rfl) rfl rfl rfl rfl (Nat.le_of_ble_eq_true rfl) dX7_put_2 (ws' := [(ad 0, .inr (7, [.ref (ad 1), .ref (ad 10), .ref (ad 14), .ref (ad 18), .ref (ad 23), .ref (ad 29), .ref (ad 32), .int left, .int 0])), (ad 1, .inl (cS, 4, .inr (.inr (.inr (.inr (fun k => some (ad (2 + 2 * k)))))))), (ad 2, .inr (4, [.ref (ad 3), .int ((sh 0).1), .int ((sh 0).2.1)])), (ad 3, .inl (cI, 40, .inl ((sh 0).2.2))), (ad 4, .inr (4, [.ref (ad 5), .int ((sh 1).1), .int ((sh 1).2.1)])), (ad 5, .inl (cI, 40, .inl ((sh 1).2.2))), (ad 6, .inr (4, [.ref (ad 7), .int ((sh 2).1), .int ((sh 2).2.1)])), (ad 7, .inl (cI, 40, .inl ((sh 2).2.2))), (ad 8, .inr (4, [.ref (ad 9), .int ((sh 3).1), .int ((sh 3).2.1)])), (ad 9, .inl (cI, 40, .inl ((sh 3).2.2)))]) rfl ?_
  refine ky_iload_n C 1 dX7_put_5 rfl rfl ?_
  refine ky_callS0 C 1 (kX7_isSheet l D cI cS x) gX7_put_X7_isSheet rfl rfl rfl hdX7_isSheet.2 ⟨Nat.le_of_ble_eq_true rfl, Nat.le_of_ble_eq_true rfl⟩ rfl rfl (Nat.le_of_ble_eq_true rfl) dX7_put_6 [] rfl rfl ?_
  rintro _ _ ⟨rfl, rfl⟩
  refine ky_ws (ws' := [(ad 0, .inr (7, [.ref (ad 1), .ref (ad 10), .ref (ad 14), .ref (ad 18), .ref (ad 23), .ref (ad 29), .ref (ad 32), .int left, .int 0])), (ad 1, .inl (cS, 4, .inr (.inr (.inr (.inr (fun k => some (ad (2 + 2 * k)))))))), (ad 2, .inr (4, [.ref (ad 3), .int ((sh 0).1), .int ((sh 0).2.1)])), (ad 3, .inl (cI, 40, .inl ((sh 0).2.2))), (ad 4, .inr (4, [.ref (ad 5), .int ((sh 1).1), .int ((sh 1).2.1)])), (ad 5, .inl (cI, 40, .inl ((sh 1).2.2))), (ad 6, .inr (4, [.ref (ad 7), .int ((sh 2).1), .int ((sh 2).2.1)])), (ad 7, .inl (cI, 40, .inl ((sh 2).2.2))), (ad 8, .inr (4, [.ref (ad 9), .int ((sh 3).1), .int ((sh 3).2.1)])), (ad 9, .inl (cI, 40, .inl ((sh 3).2.2)))]) (st' := [.int (if 0 ≤ x ∧ x ≤ 3 then (1 : Int32) else 0)]) rfl rfl ?_
  refine ky_if_ne C 14 dX7_put_9 (by decide) (fun c_9 => ?_) (fun c_9 => ?_)
  · have c_9 : 0 ≤ x ∧ x ≤ 3 := kb1 c_9
    obtain ⟨j, hj, rfl⟩ := kixle (n := 3) c_9 (by omega)
    have hcj : (nI j).toNatClampNeg = j := nI_clamp (by omega)
    rcases kt_4 (show j < 4 by omega) with rfl | rfl | rfl | rfl
    · refine ky_aload_n C 0 dX7_put_14 rfl rfl ?_
      refine ky_get C (ci := 7) (T := TX7) (N := 9) (Cn := RX7) (ref := "RainAccount") hiX7_put_X7 0 rfl rfl 0 (by decide) (List.mem_of_getElem? (i := 2) rfl) rfl (v := .ref (ad 1)) rfl dX7_put_15 ?_
      refine ky_iload_n C 1 dX7_put_18 rfl rfl ?_
      refine ky_aald C 1 (k := 0) (b := ad 2) rfl (by omega) (by decide) rfl dX7_put_19 ?_
      refine ky_astore C (lv' := [(4, .ref (ad 2)), (0, .ref (ad 0)), (1, .int (nI 0)), (2, .int y), (3, .int z)]) dX7_put_20 (by decide) rfl ?_
      refine ky_aload C 0 dX7_put_22 rfl ?_
      refine ky_callV0 C 0 (kX4_hasRow l D cI cS (ad 2) (ad 3) ((sh 0).1) ((sh 0).2.1)) gX7_put_X4_hasRow rfl rfl rfl hdX4_hasRow 2 4 rfl rfl rfl ⟨Nat.le_of_ble_eq_true rfl, Nat.le_of_ble_eq_true rfl⟩ rfl rfl (Nat.le_of_ble_eq_true rfl) dX7_put_24 [2] rfl rfl ?_
      rintro _ _ ⟨rfl, rfl⟩
      refine ky_ws (ws' := [(ad 0, .inr (7, [.ref (ad 1), .ref (ad 10), .ref (ad 14), .ref (ad 18), .ref (ad 23), .ref (ad 29), .ref (ad 32), .int left, .int 0])), (ad 1, .inl (cS, 4, .inr (.inr (.inr (.inr (fun k => some (ad (2 + 2 * k)))))))), (ad 2, .inr (4, [.ref (ad 3), .int ((sh 0).1), .int ((sh 0).2.1)])), (ad 3, .inl (cI, 40, .inl ((sh 0).2.2))), (ad 4, .inr (4, [.ref (ad 5), .int ((sh 1).1), .int ((sh 1).2.1)])), (ad 5, .inl (cI, 40, .inl ((sh 1).2.2))), (ad 6, .inr (4, [.ref (ad 7), .int ((sh 2).1), .int ((sh 2).2.1)])), (ad 7, .inl (cI, 40, .inl ((sh 2).2.2))), (ad 8, .inr (4, [.ref (ad 9), .int ((sh 3).1), .int ((sh 3).2.1)])), (ad 9, .inl (cI, 40, .inl ((sh 3).2.2)))]) (st' := [.int (if ¬ ((sh 0).2.1) = -1 then (1 : Int32) else 0)]) rfl rfl ?_
      refine ky_if_ne C 36 dX7_put_27 (by decide) (fun c_27 => ?_) (fun c_27 => ?_)
      · have c_27 : ¬ ((sh 0).2.1) = -1 := kb1 c_27
        refine ky_aload C 0 dX7_put_36 rfl ?_
        refine ky_iload_n C 3 dX7_put_38 rfl rfl ?_
        refine ky_iconst C dX7_put_39 (v := 1) (by decide) ?_
        refine ky_callV0 C 2 (kX4_holds l D cI cS (ad 2) (ad 3) ((sh 0).1) ((sh 0).2.1) y 1) gX7_put_X4_holds rfl rfl rfl hdX4_holds 2 4 rfl rfl rfl ⟨Nat.le_of_ble_eq_true rfl, Nat.le_of_ble_eq_true rfl⟩ rfl rfl (Nat.le_of_ble_eq_true rfl) dX7_put_40 [2] rfl rfl ?_
        rintro _ _ ⟨rfl, rfl⟩
        refine ky_ws (ws' := [(ad 0, .inr (7, [.ref (ad 1), .ref (ad 10), .ref (ad 14), .ref (ad 18), .ref (ad 23), .ref (ad 29), .ref (ad 32), .int left, .int 0])), (ad 1, .inl (cS, 4, .inr (.inr (.inr (.inr (fun k => some (ad (2 + 2 * k)))))))), (ad 2, .inr (4, [.ref (ad 3), .int ((sh 0).1), .int ((sh 0).2.1)])), (ad 3, .inl (cI, 40, .inl ((sh 0).2.2))), (ad 4, .inr (4, [.ref (ad 5), .int ((sh 1).1), .int ((sh 1).2.1)])), (ad 5, .inl (cI, 40, .inl ((sh 1).2.2))), (ad 6, .inr (4, [.ref (ad 7), .int ((sh 2).1), .int ((sh 2).2.1)])), (ad 7, .inl (cI, 40, .inl ((sh 2).2.2))), (ad 8, .inr (4, [.ref (ad 9), .int ((sh 3).1), .int ((sh 3).2.1)])), (ad 9, .inl (cI, 40, .inl ((sh 3).2.2)))]) (st' := [.int (if 0 ≤ y ∧ (0 : Int32) ≤ 1 ∧ y ≤ ((sh 0).2.1) ∧ 1 ≤ ((sh 0).2.1) - y then (1 : Int32) else 0)]) rfl rfl ?_
        refine ky_if_ne C 52 dX7_put_43 (by decide) (fun c_43 => ?_) (fun c_43 => ?_)
        · have c_43 : 0 ≤ y ∧ (0 : Int32) ≤ 1 ∧ y ≤ ((sh 0).2.1) ∧ 1 ≤ ((sh 0).2.1) - y := kb1 c_43
          have hh0 : 0 ≤ y ∧ y < (sh 0).2.1 := kHold1m (hsh 0 (by decide)) c_27 c_43
          have hy40 : y < 40 := kHold40 (hsh 0 (by decide)) c_27 hh0
          refine ky_aload C 0 dX7_put_52 rfl ?_
          refine ky_iload_n C 3 dX7_put_54 rfl rfl ?_
          refine ky_iload_n C 4 dX7_put_55 rfl rfl ?_
          refine ky_callV0 C 2 (kX4_write l D cI cS (ad 2) (ad 3) ((sh 0).1) ((sh 0).2.1) ((sh 0).2.2) y z (Int32.not_lt.mpr hh0.1) hy40) gX7_put_X4_write rfl rfl rfl hdX4_write 2 4 rfl rfl rfl ⟨Nat.le_of_ble_eq_true rfl, Nat.le_of_ble_eq_true rfl⟩ rfl rfl (Nat.le_of_ble_eq_true rfl) dX7_put_56 [2, 3] rfl rfl ?_
          rintro _ _ ⟨f2_56, rfl, rfl, hf2_56⟩
          refine ky_ws (ws' := [(ad 0, .inr (7, [.ref (ad 1), .ref (ad 10), .ref (ad 14), .ref (ad 18), .ref (ad 23), .ref (ad 29), .ref (ad 32), .int left, .int 0])), (ad 1, .inl (cS, 4, .inr (.inr (.inr (.inr (fun k => some (ad (2 + 2 * k)))))))), (ad 2, .inr (4, [.ref (ad 3), .int ((sh 0).1), .int ((sh 0).2.1)])), (ad 3, .inl (cI, 40, .inl f2_56)), (ad 4, .inr (4, [.ref (ad 5), .int ((sh 1).1), .int ((sh 1).2.1)])), (ad 5, .inl (cI, 40, .inl ((sh 1).2.2))), (ad 6, .inr (4, [.ref (ad 7), .int ((sh 2).1), .int ((sh 2).2.1)])), (ad 7, .inl (cI, 40, .inl ((sh 2).2.2))), (ad 8, .inr (4, [.ref (ad 9), .int ((sh 3).1), .int ((sh 3).2.1)])), (ad 9, .inl (cI, 40, .inl ((sh 3).2.2)))]) (st' := []) rfl rfl ?_
          subst hf2_56
          refine ky_iconst C dX7_put_59 (v := 1) (by decide) ?_
          exact ky_iret C hr hlk ⟨1, 0, (va_up sh 0 ((sh 0).1, (sh 0).2.1, upd (sh 0).2.2 y.toNatClampNeg (kCut (sh 0).1 z))), rfl, rfl, (by simp only [kF_put, if_pos c_9, hcj, if_neg c_27, if_pos c_43, if_pos hh0])⟩ (Nat.le_of_ble_eq_true rfl) dX7_put_60
        · have c_43 : ¬ (0 ≤ y ∧ (0 : Int32) ≤ 1 ∧ y ≤ ((sh 0).2.1) ∧ 1 ≤ ((sh 0).2.1) - y) := kb0 c_43
          have hh0 : ¬ (0 ≤ y ∧ y < (sh 0).2.1) := fun q => c_43 (kHold1 (hsh 0 (by decide)) c_27 q)
          refine ky_aload_n C 1 dX7_put_46 rfl rfl ?_
          refine ky_iconst C dX7_put_47 (v := 3) (by decide) ?_
          refine ky_callV0 C 1 (kX7_faulted l D cI cS ad left 0 3) gX7_put_X7_faulted rfl rfl rfl hdX7_faulted 0 7 rfl rfl rfl ⟨Nat.le_of_ble_eq_true rfl, Nat.le_of_ble_eq_true rfl⟩ rfl rfl (Nat.le_of_ble_eq_true rfl) dX7_put_48 [0] rfl rfl ?_
          rintro _ _ ⟨rfl, rfl⟩
          refine ky_ws (ws' := [(ad 0, .inr (7, [.ref (ad 1), .ref (ad 10), .ref (ad 14), .ref (ad 18), .ref (ad 23), .ref (ad 29), .ref (ad 32), .int left, .int 3])), (ad 1, .inl (cS, 4, .inr (.inr (.inr (.inr (fun k => some (ad (2 + 2 * k)))))))), (ad 2, .inr (4, [.ref (ad 3), .int ((sh 0).1), .int ((sh 0).2.1)])), (ad 3, .inl (cI, 40, .inl ((sh 0).2.2))), (ad 4, .inr (4, [.ref (ad 5), .int ((sh 1).1), .int ((sh 1).2.1)])), (ad 5, .inl (cI, 40, .inl ((sh 1).2.2))), (ad 6, .inr (4, [.ref (ad 7), .int ((sh 2).1), .int ((sh 2).2.1)])), (ad 7, .inl (cI, 40, .inl ((sh 2).2.2))), (ad 8, .inr (4, [.ref (ad 9), .int ((sh 3).1), .int ((sh 3).2.1)])), (ad 9, .inl (cI, 40, .inl ((sh 3).2.2)))]) (st' := [.int ((-10 : Int32) - 3)]) rfl rfl ?_
          exact ky_iret C hr hlk ⟨((-10 : Int32) - 3), 3, sh, congrArg (fun z => some (Value.int z)) (show ((-10 : Int32) - 3) = (((-10 : Int32) - 3)) from by simp [c_9, hcj, c_27, c_43, hh0]), rfl, (by first | (simp only [kF_put, if_pos c_9, hcj, if_neg c_27, if_neg c_43, if_neg hh0]; done) | (simp only [kF_put, if_pos c_9, hcj, if_neg c_27, if_neg c_43, if_neg hh0]; rfl))⟩ (Nat.le_of_ble_eq_true rfl) dX7_put_51
      · have c_27 : ((sh 0).2.1) = -1 := Decidable.not_not.mp (kb0 c_27)
        refine ky_aload_n C 1 dX7_put_30 rfl rfl ?_
        refine ky_iconst C dX7_put_31 (v := 1) (by decide) ?_
        refine ky_callV0 C 1 (kX7_faulted l D cI cS ad left 0 1) gX7_put_X7_faulted rfl rfl rfl hdX7_faulted 0 7 rfl rfl rfl ⟨Nat.le_of_ble_eq_true rfl, Nat.le_of_ble_eq_true rfl⟩ rfl rfl (Nat.le_of_ble_eq_true rfl) dX7_put_32 [0] rfl rfl ?_
        rintro _ _ ⟨rfl, rfl⟩
        refine ky_ws (ws' := [(ad 0, .inr (7, [.ref (ad 1), .ref (ad 10), .ref (ad 14), .ref (ad 18), .ref (ad 23), .ref (ad 29), .ref (ad 32), .int left, .int 1])), (ad 1, .inl (cS, 4, .inr (.inr (.inr (.inr (fun k => some (ad (2 + 2 * k)))))))), (ad 2, .inr (4, [.ref (ad 3), .int ((sh 0).1), .int ((sh 0).2.1)])), (ad 3, .inl (cI, 40, .inl ((sh 0).2.2))), (ad 4, .inr (4, [.ref (ad 5), .int ((sh 1).1), .int ((sh 1).2.1)])), (ad 5, .inl (cI, 40, .inl ((sh 1).2.2))), (ad 6, .inr (4, [.ref (ad 7), .int ((sh 2).1), .int ((sh 2).2.1)])), (ad 7, .inl (cI, 40, .inl ((sh 2).2.2))), (ad 8, .inr (4, [.ref (ad 9), .int ((sh 3).1), .int ((sh 3).2.1)])), (ad 9, .inl (cI, 40, .inl ((sh 3).2.2)))]) (st' := [.int ((-10 : Int32) - 1)]) rfl rfl ?_
        exact ky_iret C hr hlk ⟨((-10 : Int32) - 1), 1, sh, congrArg (fun z => some (Value.int z)) (show ((-10 : Int32) - 1) = (((-10 : Int32) - 1)) from by simp [c_9, hcj, c_27]), rfl, (by first | (simp only [kF_put, if_pos c_9, hcj, if_pos c_27]; done) | (simp only [kF_put, if_pos c_9, hcj, if_pos c_27]; rfl))⟩ (Nat.le_of_ble_eq_true rfl) dX7_put_35
    · refine ky_aload_n C 0 dX7_put_14 rfl rfl ?_
      refine ky_get C (ci := 7) (T := TX7) (N := 9) (Cn := RX7) (ref := "RainAccount") hiX7_put_X7 0 rfl rfl 0 (by decide) (List.mem_of_getElem? (i := 2) rfl) rfl (v := .ref (ad 1)) rfl dX7_put_15 ?_
      refine ky_iload_n C 1 dX7_put_18 rfl rfl ?_
      refine ky_aald C 1 (k := 1) (b := ad 4) rfl (by omega) (by decide) rfl dX7_put_19 ?_
      refine ky_astore C (lv' := [(4, .ref (ad 4)), (0, .ref (ad 0)), (1, .int (nI 1)), (2, .int y), (3, .int z)]) dX7_put_20 (by decide) rfl ?_
      refine ky_aload C 0 dX7_put_22 rfl ?_
      refine ky_callV0 C 0 (kX4_hasRow l D cI cS (ad 4) (ad 5) ((sh 1).1) ((sh 1).2.1)) gX7_put_X4_hasRow rfl rfl rfl hdX4_hasRow 4 4 rfl rfl rfl ⟨Nat.le_of_ble_eq_true rfl, Nat.le_of_ble_eq_true rfl⟩ rfl rfl (Nat.le_of_ble_eq_true rfl) dX7_put_24 [4] rfl rfl ?_
      rintro _ _ ⟨rfl, rfl⟩
      refine ky_ws (ws' := [(ad 0, .inr (7, [.ref (ad 1), .ref (ad 10), .ref (ad 14), .ref (ad 18), .ref (ad 23), .ref (ad 29), .ref (ad 32), .int left, .int 0])), (ad 1, .inl (cS, 4, .inr (.inr (.inr (.inr (fun k => some (ad (2 + 2 * k)))))))), (ad 2, .inr (4, [.ref (ad 3), .int ((sh 0).1), .int ((sh 0).2.1)])), (ad 3, .inl (cI, 40, .inl ((sh 0).2.2))), (ad 4, .inr (4, [.ref (ad 5), .int ((sh 1).1), .int ((sh 1).2.1)])), (ad 5, .inl (cI, 40, .inl ((sh 1).2.2))), (ad 6, .inr (4, [.ref (ad 7), .int ((sh 2).1), .int ((sh 2).2.1)])), (ad 7, .inl (cI, 40, .inl ((sh 2).2.2))), (ad 8, .inr (4, [.ref (ad 9), .int ((sh 3).1), .int ((sh 3).2.1)])), (ad 9, .inl (cI, 40, .inl ((sh 3).2.2)))]) (st' := [.int (if ¬ ((sh 1).2.1) = -1 then (1 : Int32) else 0)]) rfl rfl ?_
      refine ky_if_ne C 36 dX7_put_27 (by decide) (fun c_27 => ?_) (fun c_27 => ?_)
      · have c_27 : ¬ ((sh 1).2.1) = -1 := kb1 c_27
        refine ky_aload C 0 dX7_put_36 rfl ?_
        refine ky_iload_n C 3 dX7_put_38 rfl rfl ?_
        refine ky_iconst C dX7_put_39 (v := 1) (by decide) ?_
        refine ky_callV0 C 2 (kX4_holds l D cI cS (ad 4) (ad 5) ((sh 1).1) ((sh 1).2.1) y 1) gX7_put_X4_holds rfl rfl rfl hdX4_holds 4 4 rfl rfl rfl ⟨Nat.le_of_ble_eq_true rfl, Nat.le_of_ble_eq_true rfl⟩ rfl rfl (Nat.le_of_ble_eq_true rfl) dX7_put_40 [4] rfl rfl ?_
        rintro _ _ ⟨rfl, rfl⟩
        refine ky_ws (ws' := [(ad 0, .inr (7, [.ref (ad 1), .ref (ad 10), .ref (ad 14), .ref (ad 18), .ref (ad 23), .ref (ad 29), .ref (ad 32), .int left, .int 0])), (ad 1, .inl (cS, 4, .inr (.inr (.inr (.inr (fun k => some (ad (2 + 2 * k)))))))), (ad 2, .inr (4, [.ref (ad 3), .int ((sh 0).1), .int ((sh 0).2.1)])), (ad 3, .inl (cI, 40, .inl ((sh 0).2.2))), (ad 4, .inr (4, [.ref (ad 5), .int ((sh 1).1), .int ((sh 1).2.1)])), (ad 5, .inl (cI, 40, .inl ((sh 1).2.2))), (ad 6, .inr (4, [.ref (ad 7), .int ((sh 2).1), .int ((sh 2).2.1)])), (ad 7, .inl (cI, 40, .inl ((sh 2).2.2))), (ad 8, .inr (4, [.ref (ad 9), .int ((sh 3).1), .int ((sh 3).2.1)])), (ad 9, .inl (cI, 40, .inl ((sh 3).2.2)))]) (st' := [.int (if 0 ≤ y ∧ (0 : Int32) ≤ 1 ∧ y ≤ ((sh 1).2.1) ∧ 1 ≤ ((sh 1).2.1) - y then (1 : Int32) else 0)]) rfl rfl ?_
        refine ky_if_ne C 52 dX7_put_43 (by decide) (fun c_43 => ?_) (fun c_43 => ?_)
        · have c_43 : 0 ≤ y ∧ (0 : Int32) ≤ 1 ∧ y ≤ ((sh 1).2.1) ∧ 1 ≤ ((sh 1).2.1) - y := kb1 c_43
          have hh0 : 0 ≤ y ∧ y < (sh 1).2.1 := kHold1m (hsh 1 (by decide)) c_27 c_43
          have hy40 : y < 40 := kHold40 (hsh 1 (by decide)) c_27 hh0
          refine ky_aload C 0 dX7_put_52 rfl ?_
          refine ky_iload_n C 3 dX7_put_54 rfl rfl ?_
          refine ky_iload_n C 4 dX7_put_55 rfl rfl ?_
          refine ky_callV0 C 2 (kX4_write l D cI cS (ad 4) (ad 5) ((sh 1).1) ((sh 1).2.1) ((sh 1).2.2) y z (Int32.not_lt.mpr hh0.1) hy40) gX7_put_X4_write rfl rfl rfl hdX4_write 4 4 rfl rfl rfl ⟨Nat.le_of_ble_eq_true rfl, Nat.le_of_ble_eq_true rfl⟩ rfl rfl (Nat.le_of_ble_eq_true rfl) dX7_put_56 [4, 5] rfl rfl ?_
          rintro _ _ ⟨f2_56, rfl, rfl, hf2_56⟩
          refine ky_ws (ws' := [(ad 0, .inr (7, [.ref (ad 1), .ref (ad 10), .ref (ad 14), .ref (ad 18), .ref (ad 23), .ref (ad 29), .ref (ad 32), .int left, .int 0])), (ad 1, .inl (cS, 4, .inr (.inr (.inr (.inr (fun k => some (ad (2 + 2 * k)))))))), (ad 2, .inr (4, [.ref (ad 3), .int ((sh 0).1), .int ((sh 0).2.1)])), (ad 3, .inl (cI, 40, .inl ((sh 0).2.2))), (ad 4, .inr (4, [.ref (ad 5), .int ((sh 1).1), .int ((sh 1).2.1)])), (ad 5, .inl (cI, 40, .inl f2_56)), (ad 6, .inr (4, [.ref (ad 7), .int ((sh 2).1), .int ((sh 2).2.1)])), (ad 7, .inl (cI, 40, .inl ((sh 2).2.2))), (ad 8, .inr (4, [.ref (ad 9), .int ((sh 3).1), .int ((sh 3).2.1)])), (ad 9, .inl (cI, 40, .inl ((sh 3).2.2)))]) (st' := []) rfl rfl ?_
          subst hf2_56
          refine ky_iconst C dX7_put_59 (v := 1) (by decide) ?_
          exact ky_iret C hr hlk ⟨1, 0, (va_up sh 1 ((sh 1).1, (sh 1).2.1, upd (sh 1).2.2 y.toNatClampNeg (kCut (sh 1).1 z))), rfl, rfl, (by simp only [kF_put, if_pos c_9, hcj, if_neg c_27, if_pos c_43, if_pos hh0])⟩ (Nat.le_of_ble_eq_true rfl) dX7_put_60
        · have c_43 : ¬ (0 ≤ y ∧ (0 : Int32) ≤ 1 ∧ y ≤ ((sh 1).2.1) ∧ 1 ≤ ((sh 1).2.1) - y) := kb0 c_43
          have hh0 : ¬ (0 ≤ y ∧ y < (sh 1).2.1) := fun q => c_43 (kHold1 (hsh 1 (by decide)) c_27 q)
          refine ky_aload_n C 1 dX7_put_46 rfl rfl ?_
          refine ky_iconst C dX7_put_47 (v := 3) (by decide) ?_
          refine ky_callV0 C 1 (kX7_faulted l D cI cS ad left 0 3) gX7_put_X7_faulted rfl rfl rfl hdX7_faulted 0 7 rfl rfl rfl ⟨Nat.le_of_ble_eq_true rfl, Nat.le_of_ble_eq_true rfl⟩ rfl rfl (Nat.le_of_ble_eq_true rfl) dX7_put_48 [0] rfl rfl ?_
          rintro _ _ ⟨rfl, rfl⟩
          refine ky_ws (ws' := [(ad 0, .inr (7, [.ref (ad 1), .ref (ad 10), .ref (ad 14), .ref (ad 18), .ref (ad 23), .ref (ad 29), .ref (ad 32), .int left, .int 3])), (ad 1, .inl (cS, 4, .inr (.inr (.inr (.inr (fun k => some (ad (2 + 2 * k)))))))), (ad 2, .inr (4, [.ref (ad 3), .int ((sh 0).1), .int ((sh 0).2.1)])), (ad 3, .inl (cI, 40, .inl ((sh 0).2.2))), (ad 4, .inr (4, [.ref (ad 5), .int ((sh 1).1), .int ((sh 1).2.1)])), (ad 5, .inl (cI, 40, .inl ((sh 1).2.2))), (ad 6, .inr (4, [.ref (ad 7), .int ((sh 2).1), .int ((sh 2).2.1)])), (ad 7, .inl (cI, 40, .inl ((sh 2).2.2))), (ad 8, .inr (4, [.ref (ad 9), .int ((sh 3).1), .int ((sh 3).2.1)])), (ad 9, .inl (cI, 40, .inl ((sh 3).2.2)))]) (st' := [.int ((-10 : Int32) - 3)]) rfl rfl ?_
          exact ky_iret C hr hlk ⟨((-10 : Int32) - 3), 3, sh, congrArg (fun z => some (Value.int z)) (show ((-10 : Int32) - 3) = (((-10 : Int32) - 3)) from by simp [c_9, hcj, c_27, c_43, hh0]), rfl, (by first | (simp only [kF_put, if_pos c_9, hcj, if_neg c_27, if_neg c_43, if_neg hh0]; done) | (simp only [kF_put, if_pos c_9, hcj, if_neg c_27, if_neg c_43, if_neg hh0]; rfl))⟩ (Nat.le_of_ble_eq_true rfl) dX7_put_51
      · have c_27 : ((sh 1).2.1) = -1 := Decidable.not_not.mp (kb0 c_27)
        refine ky_aload_n C 1 dX7_put_30 rfl rfl ?_
        refine ky_iconst C dX7_put_31 (v := 1) (by decide) ?_
        refine ky_callV0 C 1 (kX7_faulted l D cI cS ad left 0 1) gX7_put_X7_faulted rfl rfl rfl hdX7_faulted 0 7 rfl rfl rfl ⟨Nat.le_of_ble_eq_true rfl, Nat.le_of_ble_eq_true rfl⟩ rfl rfl (Nat.le_of_ble_eq_true rfl) dX7_put_32 [0] rfl rfl ?_
        rintro _ _ ⟨rfl, rfl⟩
        refine ky_ws (ws' := [(ad 0, .inr (7, [.ref (ad 1), .ref (ad 10), .ref (ad 14), .ref (ad 18), .ref (ad 23), .ref (ad 29), .ref (ad 32), .int left, .int 1])), (ad 1, .inl (cS, 4, .inr (.inr (.inr (.inr (fun k => some (ad (2 + 2 * k)))))))), (ad 2, .inr (4, [.ref (ad 3), .int ((sh 0).1), .int ((sh 0).2.1)])), (ad 3, .inl (cI, 40, .inl ((sh 0).2.2))), (ad 4, .inr (4, [.ref (ad 5), .int ((sh 1).1), .int ((sh 1).2.1)])), (ad 5, .inl (cI, 40, .inl ((sh 1).2.2))), (ad 6, .inr (4, [.ref (ad 7), .int ((sh 2).1), .int ((sh 2).2.1)])), (ad 7, .inl (cI, 40, .inl ((sh 2).2.2))), (ad 8, .inr (4, [.ref (ad 9), .int ((sh 3).1), .int ((sh 3).2.1)])), (ad 9, .inl (cI, 40, .inl ((sh 3).2.2)))]) (st' := [.int ((-10 : Int32) - 1)]) rfl rfl ?_
        exact ky_iret C hr hlk ⟨((-10 : Int32) - 1), 1, sh, congrArg (fun z => some (Value.int z)) (show ((-10 : Int32) - 1) = (((-10 : Int32) - 1)) from by simp [c_9, hcj, c_27]), rfl, (by first | (simp only [kF_put, if_pos c_9, hcj, if_pos c_27]; done) | (simp only [kF_put, if_pos c_9, hcj, if_pos c_27]; rfl))⟩ (Nat.le_of_ble_eq_true rfl) dX7_put_35
    · refine ky_aload_n C 0 dX7_put_14 rfl rfl ?_
      refine ky_get C (ci := 7) (T := TX7) (N := 9) (Cn := RX7) (ref := "RainAccount") hiX7_put_X7 0 rfl rfl 0 (by decide) (List.mem_of_getElem? (i := 2) rfl) rfl (v := .ref (ad 1)) rfl dX7_put_15 ?_
      refine ky_iload_n C 1 dX7_put_18 rfl rfl ?_
      refine ky_aald C 1 (k := 2) (b := ad 6) rfl (by omega) (by decide) rfl dX7_put_19 ?_
      refine ky_astore C (lv' := [(4, .ref (ad 6)), (0, .ref (ad 0)), (1, .int (nI 2)), (2, .int y), (3, .int z)]) dX7_put_20 (by decide) rfl ?_
      refine ky_aload C 0 dX7_put_22 rfl ?_
      refine ky_callV0 C 0 (kX4_hasRow l D cI cS (ad 6) (ad 7) ((sh 2).1) ((sh 2).2.1)) gX7_put_X4_hasRow rfl rfl rfl hdX4_hasRow 6 4 rfl rfl rfl ⟨Nat.le_of_ble_eq_true rfl, Nat.le_of_ble_eq_true rfl⟩ rfl rfl (Nat.le_of_ble_eq_true rfl) dX7_put_24 [6] rfl rfl ?_
      rintro _ _ ⟨rfl, rfl⟩
      refine ky_ws (ws' := [(ad 0, .inr (7, [.ref (ad 1), .ref (ad 10), .ref (ad 14), .ref (ad 18), .ref (ad 23), .ref (ad 29), .ref (ad 32), .int left, .int 0])), (ad 1, .inl (cS, 4, .inr (.inr (.inr (.inr (fun k => some (ad (2 + 2 * k)))))))), (ad 2, .inr (4, [.ref (ad 3), .int ((sh 0).1), .int ((sh 0).2.1)])), (ad 3, .inl (cI, 40, .inl ((sh 0).2.2))), (ad 4, .inr (4, [.ref (ad 5), .int ((sh 1).1), .int ((sh 1).2.1)])), (ad 5, .inl (cI, 40, .inl ((sh 1).2.2))), (ad 6, .inr (4, [.ref (ad 7), .int ((sh 2).1), .int ((sh 2).2.1)])), (ad 7, .inl (cI, 40, .inl ((sh 2).2.2))), (ad 8, .inr (4, [.ref (ad 9), .int ((sh 3).1), .int ((sh 3).2.1)])), (ad 9, .inl (cI, 40, .inl ((sh 3).2.2)))]) (st' := [.int (if ¬ ((sh 2).2.1) = -1 then (1 : Int32) else 0)]) rfl rfl ?_
      refine ky_if_ne C 36 dX7_put_27 (by decide) (fun c_27 => ?_) (fun c_27 => ?_)
      · have c_27 : ¬ ((sh 2).2.1) = -1 := kb1 c_27
        refine ky_aload C 0 dX7_put_36 rfl ?_
        refine ky_iload_n C 3 dX7_put_38 rfl rfl ?_
        refine ky_iconst C dX7_put_39 (v := 1) (by decide) ?_
        refine ky_callV0 C 2 (kX4_holds l D cI cS (ad 6) (ad 7) ((sh 2).1) ((sh 2).2.1) y 1) gX7_put_X4_holds rfl rfl rfl hdX4_holds 6 4 rfl rfl rfl ⟨Nat.le_of_ble_eq_true rfl, Nat.le_of_ble_eq_true rfl⟩ rfl rfl (Nat.le_of_ble_eq_true rfl) dX7_put_40 [6] rfl rfl ?_
        rintro _ _ ⟨rfl, rfl⟩
        refine ky_ws (ws' := [(ad 0, .inr (7, [.ref (ad 1), .ref (ad 10), .ref (ad 14), .ref (ad 18), .ref (ad 23), .ref (ad 29), .ref (ad 32), .int left, .int 0])), (ad 1, .inl (cS, 4, .inr (.inr (.inr (.inr (fun k => some (ad (2 + 2 * k)))))))), (ad 2, .inr (4, [.ref (ad 3), .int ((sh 0).1), .int ((sh 0).2.1)])), (ad 3, .inl (cI, 40, .inl ((sh 0).2.2))), (ad 4, .inr (4, [.ref (ad 5), .int ((sh 1).1), .int ((sh 1).2.1)])), (ad 5, .inl (cI, 40, .inl ((sh 1).2.2))), (ad 6, .inr (4, [.ref (ad 7), .int ((sh 2).1), .int ((sh 2).2.1)])), (ad 7, .inl (cI, 40, .inl ((sh 2).2.2))), (ad 8, .inr (4, [.ref (ad 9), .int ((sh 3).1), .int ((sh 3).2.1)])), (ad 9, .inl (cI, 40, .inl ((sh 3).2.2)))]) (st' := [.int (if 0 ≤ y ∧ (0 : Int32) ≤ 1 ∧ y ≤ ((sh 2).2.1) ∧ 1 ≤ ((sh 2).2.1) - y then (1 : Int32) else 0)]) rfl rfl ?_
        refine ky_if_ne C 52 dX7_put_43 (by decide) (fun c_43 => ?_) (fun c_43 => ?_)
        · have c_43 : 0 ≤ y ∧ (0 : Int32) ≤ 1 ∧ y ≤ ((sh 2).2.1) ∧ 1 ≤ ((sh 2).2.1) - y := kb1 c_43
          have hh0 : 0 ≤ y ∧ y < (sh 2).2.1 := kHold1m (hsh 2 (by decide)) c_27 c_43
          have hy40 : y < 40 := kHold40 (hsh 2 (by decide)) c_27 hh0
          refine ky_aload C 0 dX7_put_52 rfl ?_
          refine ky_iload_n C 3 dX7_put_54 rfl rfl ?_
          refine ky_iload_n C 4 dX7_put_55 rfl rfl ?_
          refine ky_callV0 C 2 (kX4_write l D cI cS (ad 6) (ad 7) ((sh 2).1) ((sh 2).2.1) ((sh 2).2.2) y z (Int32.not_lt.mpr hh0.1) hy40) gX7_put_X4_write rfl rfl rfl hdX4_write 6 4 rfl rfl rfl ⟨Nat.le_of_ble_eq_true rfl, Nat.le_of_ble_eq_true rfl⟩ rfl rfl (Nat.le_of_ble_eq_true rfl) dX7_put_56 [6, 7] rfl rfl ?_
          rintro _ _ ⟨f2_56, rfl, rfl, hf2_56⟩
          refine ky_ws (ws' := [(ad 0, .inr (7, [.ref (ad 1), .ref (ad 10), .ref (ad 14), .ref (ad 18), .ref (ad 23), .ref (ad 29), .ref (ad 32), .int left, .int 0])), (ad 1, .inl (cS, 4, .inr (.inr (.inr (.inr (fun k => some (ad (2 + 2 * k)))))))), (ad 2, .inr (4, [.ref (ad 3), .int ((sh 0).1), .int ((sh 0).2.1)])), (ad 3, .inl (cI, 40, .inl ((sh 0).2.2))), (ad 4, .inr (4, [.ref (ad 5), .int ((sh 1).1), .int ((sh 1).2.1)])), (ad 5, .inl (cI, 40, .inl ((sh 1).2.2))), (ad 6, .inr (4, [.ref (ad 7), .int ((sh 2).1), .int ((sh 2).2.1)])), (ad 7, .inl (cI, 40, .inl f2_56)), (ad 8, .inr (4, [.ref (ad 9), .int ((sh 3).1), .int ((sh 3).2.1)])), (ad 9, .inl (cI, 40, .inl ((sh 3).2.2)))]) (st' := []) rfl rfl ?_
          subst hf2_56
          refine ky_iconst C dX7_put_59 (v := 1) (by decide) ?_
          exact ky_iret C hr hlk ⟨1, 0, (va_up sh 2 ((sh 2).1, (sh 2).2.1, upd (sh 2).2.2 y.toNatClampNeg (kCut (sh 2).1 z))), rfl, rfl, (by simp only [kF_put, if_pos c_9, hcj, if_neg c_27, if_pos c_43, if_pos hh0])⟩ (Nat.le_of_ble_eq_true rfl) dX7_put_60
        · have c_43 : ¬ (0 ≤ y ∧ (0 : Int32) ≤ 1 ∧ y ≤ ((sh 2).2.1) ∧ 1 ≤ ((sh 2).2.1) - y) := kb0 c_43
          have hh0 : ¬ (0 ≤ y ∧ y < (sh 2).2.1) := fun q => c_43 (kHold1 (hsh 2 (by decide)) c_27 q)
          refine ky_aload_n C 1 dX7_put_46 rfl rfl ?_
          refine ky_iconst C dX7_put_47 (v := 3) (by decide) ?_
          refine ky_callV0 C 1 (kX7_faulted l D cI cS ad left 0 3) gX7_put_X7_faulted rfl rfl rfl hdX7_faulted 0 7 rfl rfl rfl ⟨Nat.le_of_ble_eq_true rfl, Nat.le_of_ble_eq_true rfl⟩ rfl rfl (Nat.le_of_ble_eq_true rfl) dX7_put_48 [0] rfl rfl ?_
          rintro _ _ ⟨rfl, rfl⟩
          refine ky_ws (ws' := [(ad 0, .inr (7, [.ref (ad 1), .ref (ad 10), .ref (ad 14), .ref (ad 18), .ref (ad 23), .ref (ad 29), .ref (ad 32), .int left, .int 3])), (ad 1, .inl (cS, 4, .inr (.inr (.inr (.inr (fun k => some (ad (2 + 2 * k)))))))), (ad 2, .inr (4, [.ref (ad 3), .int ((sh 0).1), .int ((sh 0).2.1)])), (ad 3, .inl (cI, 40, .inl ((sh 0).2.2))), (ad 4, .inr (4, [.ref (ad 5), .int ((sh 1).1), .int ((sh 1).2.1)])), (ad 5, .inl (cI, 40, .inl ((sh 1).2.2))), (ad 6, .inr (4, [.ref (ad 7), .int ((sh 2).1), .int ((sh 2).2.1)])), (ad 7, .inl (cI, 40, .inl ((sh 2).2.2))), (ad 8, .inr (4, [.ref (ad 9), .int ((sh 3).1), .int ((sh 3).2.1)])), (ad 9, .inl (cI, 40, .inl ((sh 3).2.2)))]) (st' := [.int ((-10 : Int32) - 3)]) rfl rfl ?_
          exact ky_iret C hr hlk ⟨((-10 : Int32) - 3), 3, sh, congrArg (fun z => some (Value.int z)) (show ((-10 : Int32) - 3) = (((-10 : Int32) - 3)) from by simp [c_9, hcj, c_27, c_43, hh0]), rfl, (by first | (simp only [kF_put, if_pos c_9, hcj, if_neg c_27, if_neg c_43, if_neg hh0]; done) | (simp only [kF_put, if_pos c_9, hcj, if_neg c_27, if_neg c_43, if_neg hh0]; rfl))⟩ (Nat.le_of_ble_eq_true rfl) dX7_put_51
      · have c_27 : ((sh 2).2.1) = -1 := Decidable.not_not.mp (kb0 c_27)
        refine ky_aload_n C 1 dX7_put_30 rfl rfl ?_
        refine ky_iconst C dX7_put_31 (v := 1) (by decide) ?_
        refine ky_callV0 C 1 (kX7_faulted l D cI cS ad left 0 1) gX7_put_X7_faulted rfl rfl rfl hdX7_faulted 0 7 rfl rfl rfl ⟨Nat.le_of_ble_eq_true rfl, Nat.le_of_ble_eq_true rfl⟩ rfl rfl (Nat.le_of_ble_eq_true rfl) dX7_put_32 [0] rfl rfl ?_
        rintro _ _ ⟨rfl, rfl⟩
        refine ky_ws (ws' := [(ad 0, .inr (7, [.ref (ad 1), .ref (ad 10), .ref (ad 14), .ref (ad 18), .ref (ad 23), .ref (ad 29), .ref (ad 32), .int left, .int 1])), (ad 1, .inl (cS, 4, .inr (.inr (.inr (.inr (fun k => some (ad (2 + 2 * k)))))))), (ad 2, .inr (4, [.ref (ad 3), .int ((sh 0).1), .int ((sh 0).2.1)])), (ad 3, .inl (cI, 40, .inl ((sh 0).2.2))), (ad 4, .inr (4, [.ref (ad 5), .int ((sh 1).1), .int ((sh 1).2.1)])), (ad 5, .inl (cI, 40, .inl ((sh 1).2.2))), (ad 6, .inr (4, [.ref (ad 7), .int ((sh 2).1), .int ((sh 2).2.1)])), (ad 7, .inl (cI, 40, .inl ((sh 2).2.2))), (ad 8, .inr (4, [.ref (ad 9), .int ((sh 3).1), .int ((sh 3).2.1)])), (ad 9, .inl (cI, 40, .inl ((sh 3).2.2)))]) (st' := [.int ((-10 : Int32) - 1)]) rfl rfl ?_
        exact ky_iret C hr hlk ⟨((-10 : Int32) - 1), 1, sh, congrArg (fun z => some (Value.int z)) (show ((-10 : Int32) - 1) = (((-10 : Int32) - 1)) from by simp [c_9, hcj, c_27]), rfl, (by first | (simp only [kF_put, if_pos c_9, hcj, if_pos c_27]; done) | (simp only [kF_put, if_pos c_9, hcj, if_pos c_27]; rfl))⟩ (Nat.le_of_ble_eq_true rfl) dX7_put_35
    · refine ky_aload_n C 0 dX7_put_14 rfl rfl ?_
      refine ky_get C (ci := 7) (T := TX7) (N := 9) (Cn := RX7) (ref := "RainAccount") hiX7_put_X7 0 rfl rfl 0 (by decide) (List.mem_of_getElem? (i := 2) rfl) rfl (v := .ref (ad 1)) rfl dX7_put_15 ?_
      refine ky_iload_n C 1 dX7_put_18 rfl rfl ?_
      refine ky_aald C 1 (k := 3) (b := ad 8) rfl (by omega) (by decide) rfl dX7_put_19 ?_
      refine ky_astore C (lv' := [(4, .ref (ad 8)), (0, .ref (ad 0)), (1, .int (nI 3)), (2, .int y), (3, .int z)]) dX7_put_20 (by decide) rfl ?_
      refine ky_aload C 0 dX7_put_22 rfl ?_
      refine ky_callV0 C 0 (kX4_hasRow l D cI cS (ad 8) (ad 9) ((sh 3).1) ((sh 3).2.1)) gX7_put_X4_hasRow rfl rfl rfl hdX4_hasRow 8 4 rfl rfl rfl ⟨Nat.le_of_ble_eq_true rfl, Nat.le_of_ble_eq_true rfl⟩ rfl rfl (Nat.le_of_ble_eq_true rfl) dX7_put_24 [8] rfl rfl ?_
      rintro _ _ ⟨rfl, rfl⟩
      refine ky_ws (ws' := [(ad 0, .inr (7, [.ref (ad 1), .ref (ad 10), .ref (ad 14), .ref (ad 18), .ref (ad 23), .ref (ad 29), .ref (ad 32), .int left, .int 0])), (ad 1, .inl (cS, 4, .inr (.inr (.inr (.inr (fun k => some (ad (2 + 2 * k)))))))), (ad 2, .inr (4, [.ref (ad 3), .int ((sh 0).1), .int ((sh 0).2.1)])), (ad 3, .inl (cI, 40, .inl ((sh 0).2.2))), (ad 4, .inr (4, [.ref (ad 5), .int ((sh 1).1), .int ((sh 1).2.1)])), (ad 5, .inl (cI, 40, .inl ((sh 1).2.2))), (ad 6, .inr (4, [.ref (ad 7), .int ((sh 2).1), .int ((sh 2).2.1)])), (ad 7, .inl (cI, 40, .inl ((sh 2).2.2))), (ad 8, .inr (4, [.ref (ad 9), .int ((sh 3).1), .int ((sh 3).2.1)])), (ad 9, .inl (cI, 40, .inl ((sh 3).2.2)))]) (st' := [.int (if ¬ ((sh 3).2.1) = -1 then (1 : Int32) else 0)]) rfl rfl ?_
      refine ky_if_ne C 36 dX7_put_27 (by decide) (fun c_27 => ?_) (fun c_27 => ?_)
      · have c_27 : ¬ ((sh 3).2.1) = -1 := kb1 c_27
        refine ky_aload C 0 dX7_put_36 rfl ?_
        refine ky_iload_n C 3 dX7_put_38 rfl rfl ?_
        refine ky_iconst C dX7_put_39 (v := 1) (by decide) ?_
        refine ky_callV0 C 2 (kX4_holds l D cI cS (ad 8) (ad 9) ((sh 3).1) ((sh 3).2.1) y 1) gX7_put_X4_holds rfl rfl rfl hdX4_holds 8 4 rfl rfl rfl ⟨Nat.le_of_ble_eq_true rfl, Nat.le_of_ble_eq_true rfl⟩ rfl rfl (Nat.le_of_ble_eq_true rfl) dX7_put_40 [8] rfl rfl ?_
        rintro _ _ ⟨rfl, rfl⟩
        refine ky_ws (ws' := [(ad 0, .inr (7, [.ref (ad 1), .ref (ad 10), .ref (ad 14), .ref (ad 18), .ref (ad 23), .ref (ad 29), .ref (ad 32), .int left, .int 0])), (ad 1, .inl (cS, 4, .inr (.inr (.inr (.inr (fun k => some (ad (2 + 2 * k)))))))), (ad 2, .inr (4, [.ref (ad 3), .int ((sh 0).1), .int ((sh 0).2.1)])), (ad 3, .inl (cI, 40, .inl ((sh 0).2.2))), (ad 4, .inr (4, [.ref (ad 5), .int ((sh 1).1), .int ((sh 1).2.1)])), (ad 5, .inl (cI, 40, .inl ((sh 1).2.2))), (ad 6, .inr (4, [.ref (ad 7), .int ((sh 2).1), .int ((sh 2).2.1)])), (ad 7, .inl (cI, 40, .inl ((sh 2).2.2))), (ad 8, .inr (4, [.ref (ad 9), .int ((sh 3).1), .int ((sh 3).2.1)])), (ad 9, .inl (cI, 40, .inl ((sh 3).2.2)))]) (st' := [.int (if 0 ≤ y ∧ (0 : Int32) ≤ 1 ∧ y ≤ ((sh 3).2.1) ∧ 1 ≤ ((sh 3).2.1) - y then (1 : Int32) else 0)]) rfl rfl ?_
        refine ky_if_ne C 52 dX7_put_43 (by decide) (fun c_43 => ?_) (fun c_43 => ?_)
        · have c_43 : 0 ≤ y ∧ (0 : Int32) ≤ 1 ∧ y ≤ ((sh 3).2.1) ∧ 1 ≤ ((sh 3).2.1) - y := kb1 c_43
          have hh0 : 0 ≤ y ∧ y < (sh 3).2.1 := kHold1m (hsh 3 (by decide)) c_27 c_43
          have hy40 : y < 40 := kHold40 (hsh 3 (by decide)) c_27 hh0
          refine ky_aload C 0 dX7_put_52 rfl ?_
          refine ky_iload_n C 3 dX7_put_54 rfl rfl ?_
          refine ky_iload_n C 4 dX7_put_55 rfl rfl ?_
          refine ky_callV0 C 2 (kX4_write l D cI cS (ad 8) (ad 9) ((sh 3).1) ((sh 3).2.1) ((sh 3).2.2) y z (Int32.not_lt.mpr hh0.1) hy40) gX7_put_X4_write rfl rfl rfl hdX4_write 8 4 rfl rfl rfl ⟨Nat.le_of_ble_eq_true rfl, Nat.le_of_ble_eq_true rfl⟩ rfl rfl (Nat.le_of_ble_eq_true rfl) dX7_put_56 [8, 9] rfl rfl ?_
          rintro _ _ ⟨f2_56, rfl, rfl, hf2_56⟩
          refine ky_ws (ws' := [(ad 0, .inr (7, [.ref (ad 1), .ref (ad 10), .ref (ad 14), .ref (ad 18), .ref (ad 23), .ref (ad 29), .ref (ad 32), .int left, .int 0])), (ad 1, .inl (cS, 4, .inr (.inr (.inr (.inr (fun k => some (ad (2 + 2 * k)))))))), (ad 2, .inr (4, [.ref (ad 3), .int ((sh 0).1), .int ((sh 0).2.1)])), (ad 3, .inl (cI, 40, .inl ((sh 0).2.2))), (ad 4, .inr (4, [.ref (ad 5), .int ((sh 1).1), .int ((sh 1).2.1)])), (ad 5, .inl (cI, 40, .inl ((sh 1).2.2))), (ad 6, .inr (4, [.ref (ad 7), .int ((sh 2).1), .int ((sh 2).2.1)])), (ad 7, .inl (cI, 40, .inl ((sh 2).2.2))), (ad 8, .inr (4, [.ref (ad 9), .int ((sh 3).1), .int ((sh 3).2.1)])), (ad 9, .inl (cI, 40, .inl f2_56))]) (st' := []) rfl rfl ?_
          subst hf2_56
          refine ky_iconst C dX7_put_59 (v := 1) (by decide) ?_
          exact ky_iret C hr hlk ⟨1, 0, (va_up sh 3 ((sh 3).1, (sh 3).2.1, upd (sh 3).2.2 y.toNatClampNeg (kCut (sh 3).1 z))), rfl, rfl, (by simp only [kF_put, if_pos c_9, hcj, if_neg c_27, if_pos c_43, if_pos hh0])⟩ (Nat.le_of_ble_eq_true rfl) dX7_put_60
        · have c_43 : ¬ (0 ≤ y ∧ (0 : Int32) ≤ 1 ∧ y ≤ ((sh 3).2.1) ∧ 1 ≤ ((sh 3).2.1) - y) := kb0 c_43
          have hh0 : ¬ (0 ≤ y ∧ y < (sh 3).2.1) := fun q => c_43 (kHold1 (hsh 3 (by decide)) c_27 q)
          refine ky_aload_n C 1 dX7_put_46 rfl rfl ?_
          refine ky_iconst C dX7_put_47 (v := 3) (by decide) ?_
          refine ky_callV0 C 1 (kX7_faulted l D cI cS ad left 0 3) gX7_put_X7_faulted rfl rfl rfl hdX7_faulted 0 7 rfl rfl rfl ⟨Nat.le_of_ble_eq_true rfl, Nat.le_of_ble_eq_true rfl⟩ rfl rfl (Nat.le_of_ble_eq_true rfl) dX7_put_48 [0] rfl rfl ?_
          rintro _ _ ⟨rfl, rfl⟩
          refine ky_ws (ws' := [(ad 0, .inr (7, [.ref (ad 1), .ref (ad 10), .ref (ad 14), .ref (ad 18), .ref (ad 23), .ref (ad 29), .ref (ad 32), .int left, .int 3])), (ad 1, .inl (cS, 4, .inr (.inr (.inr (.inr (fun k => some (ad (2 + 2 * k)))))))), (ad 2, .inr (4, [.ref (ad 3), .int ((sh 0).1), .int ((sh 0).2.1)])), (ad 3, .inl (cI, 40, .inl ((sh 0).2.2))), (ad 4, .inr (4, [.ref (ad 5), .int ((sh 1).1), .int ((sh 1).2.1)])), (ad 5, .inl (cI, 40, .inl ((sh 1).2.2))), (ad 6, .inr (4, [.ref (ad 7), .int ((sh 2).1), .int ((sh 2).2.1)])), (ad 7, .inl (cI, 40, .inl ((sh 2).2.2))), (ad 8, .inr (4, [.ref (ad 9), .int ((sh 3).1), .int ((sh 3).2.1)])), (ad 9, .inl (cI, 40, .inl ((sh 3).2.2)))]) (st' := [.int ((-10 : Int32) - 3)]) rfl rfl ?_
          exact ky_iret C hr hlk ⟨((-10 : Int32) - 3), 3, sh, congrArg (fun z => some (Value.int z)) (show ((-10 : Int32) - 3) = (((-10 : Int32) - 3)) from by simp [c_9, hcj, c_27, c_43, hh0]), rfl, (by first | (simp only [kF_put, if_pos c_9, hcj, if_neg c_27, if_neg c_43, if_neg hh0]; done) | (simp only [kF_put, if_pos c_9, hcj, if_neg c_27, if_neg c_43, if_neg hh0]; rfl))⟩ (Nat.le_of_ble_eq_true rfl) dX7_put_51
      · have c_27 : ((sh 3).2.1) = -1 := Decidable.not_not.mp (kb0 c_27)
        refine ky_aload_n C 1 dX7_put_30 rfl rfl ?_
        refine ky_iconst C dX7_put_31 (v := 1) (by decide) ?_
        refine ky_callV0 C 1 (kX7_faulted l D cI cS ad left 0 1) gX7_put_X7_faulted rfl rfl rfl hdX7_faulted 0 7 rfl rfl rfl ⟨Nat.le_of_ble_eq_true rfl, Nat.le_of_ble_eq_true rfl⟩ rfl rfl (Nat.le_of_ble_eq_true rfl) dX7_put_32 [0] rfl rfl ?_
        rintro _ _ ⟨rfl, rfl⟩
        refine ky_ws (ws' := [(ad 0, .inr (7, [.ref (ad 1), .ref (ad 10), .ref (ad 14), .ref (ad 18), .ref (ad 23), .ref (ad 29), .ref (ad 32), .int left, .int 1])), (ad 1, .inl (cS, 4, .inr (.inr (.inr (.inr (fun k => some (ad (2 + 2 * k)))))))), (ad 2, .inr (4, [.ref (ad 3), .int ((sh 0).1), .int ((sh 0).2.1)])), (ad 3, .inl (cI, 40, .inl ((sh 0).2.2))), (ad 4, .inr (4, [.ref (ad 5), .int ((sh 1).1), .int ((sh 1).2.1)])), (ad 5, .inl (cI, 40, .inl ((sh 1).2.2))), (ad 6, .inr (4, [.ref (ad 7), .int ((sh 2).1), .int ((sh 2).2.1)])), (ad 7, .inl (cI, 40, .inl ((sh 2).2.2))), (ad 8, .inr (4, [.ref (ad 9), .int ((sh 3).1), .int ((sh 3).2.1)])), (ad 9, .inl (cI, 40, .inl ((sh 3).2.2)))]) (st' := [.int ((-10 : Int32) - 1)]) rfl rfl ?_
        exact ky_iret C hr hlk ⟨((-10 : Int32) - 1), 1, sh, congrArg (fun z => some (Value.int z)) (show ((-10 : Int32) - 1) = (((-10 : Int32) - 1)) from by simp [c_9, hcj, c_27]), rfl, (by first | (simp only [kF_put, if_pos c_9, hcj, if_pos c_27]; done) | (simp only [kF_put, if_pos c_9, hcj, if_pos c_27]; rfl))⟩ (Nat.le_of_ble_eq_true rfl) dX7_put_35
  · have c_9 : ¬ (0 ≤ x ∧ x ≤ 3) := kb0 c_9
    refine ky_iconst C dX7_put_12 (v := (-1)) (by decide) ?_
    exact ky_iret C hr hlk ⟨(-1), 0, sh, rfl, rfl, (by simp only [kF_put, if_neg c_9])⟩ (Nat.le_of_ble_eq_true rfl) dX7_put_13
