/-! part 89: the law: its loop, its start -/
theorem kt_31 {j : Nat} (h : j < 31) : j = 0 ∨ j = 1 ∨ j = 2 ∨ j = 3 ∨ j = 4 ∨ j = 5 ∨ j = 6 ∨ j = 7 ∨ j = 8 ∨ j = 9 ∨ j = 10 ∨ j = 11 ∨ j = 12 ∨ j = 13 ∨ j = 14 ∨ j = 15 ∨ j = 16 ∨ j = 17 ∨ j = 18 ∨ j = 19 ∨ j = 20 ∨ j = 21 ∨ j = 22 ∨ j = 23 ∨ j = 24 ∨ j = 25 ∨ j = 26 ∨ j = 27 ∨ j = 28 ∨ j = 29 ∨ j = 30 := by omega
theorem kl_in {L k : Nat} (hL : L ≤ 3072) (hk : k ≤ 4000) (h : ¬ nI L - 6 < nI k) : k + 6 ≤ L := by
  rcases Nat.lt_or_ge L 6 with q | q
  · exact absurd (Int32.lt_of_lt_of_le (show nI L - 6 < 0 from pk_sneg (b := 6) (by omega) q) (nI_pos' (by omega))) h
  · rw [show nI L - 6 = nI (L - 6) from pk_sub (b := 6) q] at h
    have := kn_nlt (by omega) (by omega) h
    omega
theorem ky_end {p : Program} (l : Launch) {e : Env} {s : State} {m : MethodId} {below : List Frame} {meth : Method} {c : Code} {D : va_G} {cI cS : ClassId} {b : Nat} (C : kyC p s m #[Value.ref b] c cL_law 4 RL wsL_law D cI cS (fun q : Nat => s.heap.size ≤ q)) (hr : meth.sig.returnType = ret) (hlk : meth.locks = false) {ws : va_W} {lv : List (Nat × Value)} {pc : Nat} (hdg : decode cL_law pc = .ok (.ireturn, 1)) : kyW p l e room_1 s m #[Value.ref b] below meth c D (fun q : Nat => s.heap.size ≤ q) 4 600000 7302250 (lw_Z below #[Value.ref b] s) ws lv pc [.int 1] :=
  fun H locs ls hP hD hS hl => va_forget (fun q hq => hS.2.2 q hq) (lw_ret C.1 C.2.1 hr hlk hdg)
set_option maxRecDepth 100000 in
set_option maxHeartbeats 4000000 in
theorem klaw_loop {p : Program} (l : Launch) {e : Env} {s : State} {m : MethodId} {below : List Frame} {meth : Method} {c : Code} {D : va_G} {cI cS : ClassId} {b L : Nat} {xs : Nat → Int32} {ad bd : Nat → Nat} (C : kyC p s m #[Value.ref b] c cL_law 4 RL wsL_law D cI cS (fun q : Nat => s.heap.size ≤ q)) (hX : va_X b L xs s s.heap) (hbl : b < s.heap.size) (hL : L ≤ 3072) (hr : meth.sig.returnType = ret) (hlk : meth.locks = false) : ∀ (n k : Nat), k ≤ L + 6 → L + 7 ≤ n + k → ∀ ws, kInv ad bd cI cS ws → kyW p l e room_1 s m #[Value.ref b] below meth c D (fun q : Nat => s.heap.size ≤ q) 4 600000 7302250 (lw_Z below #[Value.ref b] s) ws [(3, .int (nI k)), (2, .ref (bd 0)), (1, .ref (ad 0)), (0, .ref b)] 18 [] := by
  have hbA : ¬ (fun q : Nat => s.heap.size ≤ q) b := Nat.not_le.mpr hbl
  intro n
  induction n with
  | zero => intro k h1 h2; exact absurd h2 (by omega)
  | succ n ih =>
    intro k h1 h2 ws hI
    refine ky_iload_n C 0 dL_law_18 rfl rfl ?_
    refine ky_aload_n C 3 dL_law_19 rfl rfl ?_
    refine ky_slen C hX hbl hbA dL_law_20 ?_
    refine ky_bipush C dL_law_21 (v := 6) (by decide) ?_
    refine ky_isub C (v := nI L - 6) dL_law_23 rfl ?_
    refine ky_icmp_gt C 1244 dL_law_24 (by decide) (fun c_24 => ?_) (fun c_24 => ?_)
    · refine ky_iconst C dL_law_1244 (v := 1) (by decide) ?_
      exact ky_end l C hr hlk dL_law_1245
    · have hk : k + 6 ≤ L := kl_in hL (by omega) c_24
      have kk : ∀ ws', kInv ad bd cI cS ws' → kyW p l e room_1 s m #[Value.ref b] below meth c D (fun q : Nat => s.heap.size ≤ q) 4 600000 7302250 (lw_Z below #[Value.ref b] s) ws' [(3, .int (nI k)), (2, .ref (bd 0)), (1, .ref (ad 0)), (0, .ref b)] 1238 [] := fun ws' hI' => by
        refine ky_iinc C 0 (v := nI (k + 6)) (lv' := [(3, .int (nI (k + 6))), (2, .ref (bd 0)), (1, .ref (ad 0)), (0, .ref b)]) dL_law_1238 rfl (nI_add k 6) (by decide) rfl ?_
        refine ky_goto C dL_law_1241 (tgt := 18) (by decide) ?_
        exact ih (k + 6) (by omega) (by omega) ws' hI'
      refine ky_aload_n C 3 dL_law_27 rfl rfl ?_
      refine ky_iload_n C 0 dL_law_28 rfl rfl ?_
      refine ky_sld C hX hbl hbA (k := k) (by omega) (by omega) dL_law_29 ?_
      refine ky_bipush C dL_law_30 (v := 31) (by decide) ?_
      refine ky_iand C (v := xs k &&& 31) dL_law_32 rfl ?_
      rcases kt_cases (xs k &&& 31) 30 (by decide) with t | ⟨j, jl, je⟩
      · refine ky_tableOut C 1238 dL_law_33 t (by decide) ?_
        exact kk ws hI
      · rcases kt_31 jl with rfl | rfl | rfl | rfl | rfl | rfl | rfl | rfl | rfl | rfl | rfl | rfl | rfl | rfl | rfl | rfl | rfl | rfl | rfl | rfl | rfl | rfl | rfl | rfl | rfl | rfl | rfl | rfl | rfl | rfl | rfl
        · have c_33 : xs k &&& 31 = 0 := je
          refine ky_tableIn C 172 dL_law_33 (by rw [c_33]; decide) (by rw [c_33]; decide) (off := 139) (by rw [c_33]; rfl) (by decide) ?_
          exact kcase_plain l C hX hbl hL hk hI kk
        · have c_33 : xs k &&& 31 = 1 := je
          refine ky_tableIn C 225 dL_law_33 (by rw [c_33]; decide) (by rw [c_33]; decide) (off := 192) (by rw [c_33]; rfl) (by decide) ?_
          exact kcase_ofField l C hX hbl hL hk hI kk
        · have c_33 : xs k &&& 31 = 2 := je
          refine ky_tableIn C 258 dL_law_33 (by rw [c_33]; decide) (by rw [c_33]; decide) (off := 225) (by rw [c_33]; rfl) (by decide) ?_
          exact kcase_set l C hX hbl hL hk hI kk
        · have c_33 : xs k &&& 31 = 3 := je
          refine ky_tableIn C 291 dL_law_33 (by rw [c_33]; decide) (by rw [c_33]; decide) (off := 258) (by rw [c_33]; rfl) (by decide) ?_
          exact kcase_cloud l C hX hbl hL hk hI kk
        · have c_33 : xs k &&& 31 = 4 := je
          refine ky_tableIn C 334 dL_law_33 (by rw [c_33]; decide) (by rw [c_33]; decide) (off := 301) (by rw [c_33]; rfl) (by decide) ?_
          exact kcase_ofCloud l C hX hbl hL hk hI kk
        · have c_33 : xs k &&& 31 = 5 := je
          refine ky_tableIn C 377 dL_law_33 (by rw [c_33]; decide) (by rw [c_33]; decide) (off := 344) (by rw [c_33]; rfl) (by decide) ?_
          exact kcase_shot l C hX hbl hL hk hI kk
        · have c_33 : xs k &&& 31 = 6 := je
          refine ky_tableIn C 430 dL_law_33 (by rw [c_33]; decide) (by rw [c_33]; decide) (off := 397) (by rw [c_33]; rfl) (by decide) ?_
          exact kcase_ofShot l C hX hbl hL hk hI kk
        · have c_33 : xs k &&& 31 = 7 := je
          refine ky_tableIn C 463 dL_law_33 (by rw [c_33]; decide) (by rw [c_33]; decide) (off := 430) (by rw [c_33]; rfl) (by decide) ?_
          exact kcase_back l C hX hbl hL hk hI kk
        · have c_33 : xs k &&& 31 = 8 := je
          refine ky_tableIn C 486 dL_law_33 (by rw [c_33]; decide) (by rw [c_33]; decide) (off := 453) (by rw [c_33]; rfl) (by decide) ?_
          exact kcase_fell l C hX hbl hL hk hI kk
        · have c_33 : xs k &&& 31 = 9 := je
          refine ky_tableIn C 529 dL_law_33 (by rw [c_33]; decide) (by rw [c_33]; decide) (off := 496) (by rw [c_33]; rfl) (by decide) ?_
          exact kcase_by l C hX hbl hL hk hI kk
        · have c_33 : xs k &&& 31 = 10 := je
          refine ky_tableIn C 562 dL_law_33 (by rw [c_33]; decide) (by rw [c_33]; decide) (off := 529) (by rw [c_33]; rfl) (by decide) ?_
          exact kcase_yields l C hX hbl hL hk hI kk
        · have c_33 : xs k &&& 31 = 11 := je
          refine ky_tableIn C 585 dL_law_33 (by rw [c_33]; decide) (by rw [c_33]; decide) (off := 552) (by rw [c_33]; rfl) (by decide) ?_
          exact kcase_harvest l C hX hbl hL hk hI kk
        · have c_33 : xs k &&& 31 = 12 := je
          refine ky_tableIn C 608 dL_law_33 (by rw [c_33]; decide) (by rw [c_33]; decide) (off := 575) (by rw [c_33]; rfl) (by decide) ?_
          exact kcase_brought l C hX hbl hL hk hI kk
        · have c_33 : xs k &&& 31 = 13 := je
          refine ky_tableIn C 642 dL_law_33 (by rw [c_33]; decide) (by rw [c_33]; decide) (off := 609) (by rw [c_33]; rfl) (by decide) ?_
          exact kcase_due l C hX hbl hL hk hI kk
        · have c_33 : xs k &&& 31 = 14 := je
          refine ky_tableIn C 675 dL_law_33 (by rw [c_33]; decide) (by rw [c_33]; decide) (off := 642) (by rw [c_33]; rfl) (by decide) ?_
          exact kcase_idle l C hX hbl hL hk hI kk
        · have c_33 : xs k &&& 31 = 15 := je
          refine ky_tableIn C 698 dL_law_33 (by rw [c_33]; decide) (by rw [c_33]; decide) (off := 665) (by rw [c_33]; rfl) (by decide) ?_
          exact kcase_oneMore l C hX hbl hL hk hI kk
        · have c_33 : xs k &&& 31 = 16 := je
          refine ky_tableIn C 741 dL_law_33 (by rw [c_33]; decide) (by rw [c_33]; decide) (off := 708) (by rw [c_33]; rfl) (by decide) ?_
          exact kcase_awaited l C hX hbl hL hk hI kk
        · have c_33 : xs k &&& 31 = 17 := je
          refine ky_tableIn C 775 dL_law_33 (by rw [c_33]; decide) (by rw [c_33]; decide) (off := 742) (by rw [c_33]; rfl) (by decide) ?_
          exact kcase_rests l C hX hbl hL hk hI kk
        · have c_33 : xs k &&& 31 = 18 := je
          refine ky_tableIn C 828 dL_law_33 (by rw [c_33]; decide) (by rw [c_33]; decide) (off := 795) (by rw [c_33]; rfl) (by decide) ?_
          exact kcase_bestWind l C hX hbl hL hk hI kk
        · have c_33 : xs k &&& 31 = 19 := je
          refine ky_tableIn C 851 dL_law_33 (by rw [c_33]; decide) (by rw [c_33]; decide) (off := 818) (by rw [c_33]; rfl) (by decide) ?_
          exact kcase_missed l C hX hbl hL hk hI kk
        · have c_33 : xs k &&& 31 = 20 := je
          refine ky_tableIn C 894 dL_law_33 (by rw [c_33]; decide) (by rw [c_33]; decide) (off := 861) (by rw [c_33]; rfl) (by decide) ?_
          exact kcase_sheet l C hX hbl hL hk hI kk
        · have c_33 : xs k &&& 31 = 21 := je
          refine ky_tableIn C 937 dL_law_33 (by rw [c_33]; decide) (by rw [c_33]; decide) (off := 904) (by rw [c_33]; rfl) (by decide) ?_
          exact kcase_lose l C hX hbl hL hk hI kk
        · have c_33 : xs k &&& 31 = 22 := je
          refine ky_tableIn C 960 dL_law_33 (by rw [c_33]; decide) (by rw [c_33]; decide) (off := 927) (by rw [c_33]; rfl) (by decide) ?_
          exact kcase_put l C hX hbl hL hk hI kk
        · have c_33 : xs k &&& 31 = 23 := je
          refine ky_tableIn C 1003 dL_law_33 (by rw [c_33]; decide) (by rw [c_33]; decide) (off := 970) (by rw [c_33]; rfl) (by decide) ?_
          exact kcase_cell l C hX hbl hL hk hI kk
        · have c_33 : xs k &&& 31 = 24 := je
          refine ky_tableIn C 1047 dL_law_33 (by rw [c_33]; decide) (by rw [c_33]; decide) (off := 1014) (by rw [c_33]; rfl) (by decide) ?_
          exact kcase_copy l C hX hbl hL hk hI kk
        · have c_33 : xs k &&& 31 = 25 := je
          refine ky_tableIn C 1110 dL_law_33 (by rw [c_33]; decide) (by rw [c_33]; decide) (off := 1077) (by rw [c_33]; rfl) (by decide) ?_
          exact kcase_tell l C hX hbl hL hk hI kk
        · have c_33 : xs k &&& 31 = 26 := je
          refine ky_tableIn C 1133 dL_law_33 (by rw [c_33]; decide) (by rw [c_33]; decide) (off := 1100) (by rw [c_33]; rfl) (by decide) ?_
          exact kcase_load l C hX hbl hL hk hI kk
        · have c_33 : xs k &&& 31 = 27 := je
          refine ky_tableIn C 1156 dL_law_33 (by rw [c_33]; decide) (by rw [c_33]; decide) (off := 1123) (by rw [c_33]; rfl) (by decide) ?_
          exact kcase_as l C hX hbl hL hk hI kk
        · have c_33 : xs k &&& 31 = 28 := je
          refine ky_tableIn C 1189 dL_law_33 (by rw [c_33]; decide) (by rw [c_33]; decide) (off := 1156) (by rw [c_33]; rfl) (by decide) ?_
          exact kcase_trace l C hX hbl hL hk hI kk
        · have c_33 : xs k &&& 31 = 29 := je
          refine ky_tableIn C 1202 dL_law_33 (by rw [c_33]; decide) (by rw [c_33]; decide) (off := 1169) (by rw [c_33]; rfl) (by decide) ?_
          exact kcase_fault l C hX hbl hL hk hI kk
        · have c_33 : xs k &&& 31 = 30 := je
          refine ky_tableIn C 1215 dL_law_33 (by rw [c_33]; decide) (by rw [c_33]; decide) (off := 1182) (by rw [c_33]; rfl) (by decide) ?_
          exact kcase_many l C hX hbl hL hk hI kk
set_option maxRecDepth 100000 in
set_option maxHeartbeats 4000000 in
theorem whole_start {p : Program} {e : Env} {s : State} {m : MethodId} {below : List Frame} {meth : Method} {c : Code} (l : Launch) (hflags : l.flags = flags0) {b L : Nat} {xs : Nat → Int32} (hL : L ≤ 3072) (C0 : lw_At p s m meth c b L xs) : W p l e room_1 s m #[Value.ref b] below meth c s.heap [] 0 0 (lw_Z below #[Value.ref b] s) (entryFrame m ([Value.ref b] : List Value).toArray 4) := by
  obtain ⟨hx, hb, hr, hml, hown, hts, hX, hbl, hlocks, hgv⟩ := id C0
  have hbA : ¬ (fun q : Nat => s.heap.size ≤ q) b := Nat.not_le.mpr hbl
  have hT : ∀ w ∈ wsL_law, w.before #[Value.ref b] s = true := fun w h => hts w (wsL_law_in w h)
  obtain ⟨c0, i0, hKn0⟩ := u_known (C := RX0) (T := TX0) (N := 7) (n := 7) hts inX0 (hT (.instantiable RX0 7) (List.mem_of_getElem? (i := 33) rfl))
  obtain ⟨c1, i1, hKn1⟩ := u_known (C := RX1) (T := TX1) (N := 8) (n := 8) hts inX1 (hT (.instantiable RX1 8) (List.mem_of_getElem? (i := 29) rfl))
  obtain ⟨c2, i2, hKn2⟩ := u_known (C := RX2) (T := TX2) (N := 14) (n := 14) hts inX2 (hT (.instantiable RX2 14) (List.mem_of_getElem? (i := 37) rfl))
  obtain ⟨c3, i3, hKn3⟩ := u_known (C := RX3) (T := TX3) (N := 7) (n := 7) hts inX3 (hT (.instantiable RX3 7) (List.mem_of_getElem? (i := 17) rfl))
  obtain ⟨c4, i4, hKn4⟩ := u_known (C := RX4) (T := TX4) (N := 3) (n := 3) hts inX4 (hT (.instantiable RX4 3) (List.mem_of_getElem? (i := 14) rfl))
  obtain ⟨c5, i5, hKn5⟩ := u_known (C := RX5) (T := TX5) (N := 5) (n := 5) hts inX5 (hT (.instantiable RX5 5) (List.mem_of_getElem? (i := 25) rfl))
  obtain ⟨c6, i6, hKn6⟩ := u_known (C := RX6) (T := TX6) (N := 4) (n := 4) hts inX6 (hT (.instantiable RX6 4) (List.mem_of_getElem? (i := 21) rfl))
  obtain ⟨c7, i7, hKn7⟩ := u_known (C := RX7) (T := TX7) (N := 9) (n := 9) hts inX7 (hT (.instantiable RX7 9) (List.mem_of_getElem? (i := 1) rfl))
  obtain ⟨c8, i8, hKn8⟩ := u_known (C := RX8) (T := TX8) (N := 44) (n := 44) hts inX8 (hT (.instantiable RX8 44) (List.mem_of_getElem? (i := 4) rfl))
  obtain ⟨dC, dI, hKc⟩ : ∃ (dC : Nat → ClassId) (dI : Nat → Nat → Nat), ∀ (k : Nat) (q : vw_C), vwCl[k]? = some q → u_Kn s q.1 q.2.1 q.2.2 (dC k) (dI k) := by
    refine ⟨fun k => [c0, c1, c2, c3, c4, c5, c6, c7, c8].getD k c0, fun k => [i0, i1, i2, i3, i4, i5, i6, i7, i8].getD k i0, ?_⟩
    intro k q hq
    match k, hq with
    | 0, hq => cases hq; exact hKn0
    | 1, hq => cases hq; exact hKn1
    | 2, hq => cases hq; exact hKn2
    | 3, hq => cases hq; exact hKn3
    | 4, hq => cases hq; exact hKn4
    | 5, hq => cases hq; exact hKn5
    | 6, hq => cases hq; exact hKn6
    | 7, hq => cases hq; exact hKn7
    | 8, hq => cases hq; exact hKn8
    | k + 9, hq => simp [vwCl] at hq
  have hov : (Cond.arrayOver (.object RX4)).before #[Value.ref b] s = true := hts _ (List.mem_append_right _ (List.mem_of_getElem? (i := 21) (by decide +kernel)))
  have hO : va_AO RX4 s := va_AO.of hov
  obtain ⟨cI, kI, compI, a1, a2, a3⟩ := Cond.arrayClass_spec (hT (.arrayClass .int) (List.mem_of_getElem? (i := 46) rfl))
  obtain ⟨compS, cS, kS, b1, b2, b3, b4, b5⟩ := Cond.arrayOver_spec hov
  have hK : va_K (dC, dI) vwCl (kyT cI cS) s := by
    refine ⟨hKc, ?_⟩
    intro k q hq
    match k, hq with
    | 0, hq => cases hq; exact ⟨fun N z => ⟨(fun k h => by cases h), kI, a2, compI, a3⟩, a1⟩
    | 1, hq => cases hq; exact ⟨fun N z => ⟨(fun k h => by cases h), kS, b3, compS, b4⟩, kS, compS, b3, b4, b1, b5⟩
    | k + 2, hq => simp [kyT] at hq
  have C : kyC p s m #[Value.ref b] c cL_law 4 RL wsL_law (dC, dI) cI cS (fun q : Nat => s.heap.size ≤ q) := ⟨hx, hb, hml, hown, hT, hK, fun q h => h⟩
  have hP : va_P (dC, dI) vwCl [] s.heap := fun k q h => by simp at h
  have hD : va_D (fun q : Nat => s.heap.size ≤ q) [] := ⟨fun i j p q h => by simp at h, fun k q h => by simp at h⟩
  generalize hDD : (dC, dI) = D at C hP hK
  have key : kyW p l e room_1 s m #[Value.ref b] below meth c D (fun q : Nat => s.heap.size ≤ q) 4 0 0 (lw_Z below #[Value.ref b] s) [] (lv_args 0 [Value.ref b]) 0 [] := by
    refine ky_conv (lv' := [(0, .ref b)]) (List.range 1) rfl rfl rfl ?_
    refine ky_new C (ci := 7) (T := TX7) (N := 9) (Cn := RX7) inlX7 tyX7 tyX7_ok (List.mem_of_getElem? (i := 0) rfl) (List.mem_of_getElem? (i := 1) rfl) (List.mem_of_getElem? (i := 2) rfl) rfl (fs := [.null, .null, .null, .null, .null, .null, .null, .int 0, .int 0]) dfX7 (Nat.le_of_ble_eq_true rfl) (Nat.le_of_ble_eq_true rfl) dL_law_0 ?_
    intro q0
    refine ky_ws (ws' := [(q0, .inr (7, [.null, .null, .null, .null, .null, .null, .null, .int 0, .int 0]))]) (st' := [.ref q0]) rfl rfl ?_
    refine ky_dup C dL_law_3 rfl ?_
    refine ky_callIO C hO 0 (kX7_init l D cI cS q0) gL_law_X7_init rfl rfl rfl (List.mem_of_getElem? (i := 2) rfl) (List.mem_of_getElem? (i := 6) rfl) (List.mem_of_getElem? (i := 7) rfl) rfl hdX7_init.2 ⟨Nat.le_of_ble_eq_true rfl, Nat.le_of_ble_eq_true rfl⟩ rfl rfl (Nat.le_of_ble_eq_true rfl) dL_law_4 ⟨Nat.le_of_ble_eq_true rfl, Nat.le_of_ble_eq_true rfl⟩ [0] rfl rfl ?_
    rintro _ _ ⟨ad_4, rfl, rfl, rfl⟩
    refine ky_ws (ws' := [(ad_4 0, .inr (7, [.ref (ad_4 1), .ref (ad_4 10), .ref (ad_4 14), .ref (ad_4 18), .ref (ad_4 23), .ref (ad_4 29), .ref (ad_4 32), .int 0, .int 0])), (ad_4 1, .inl (cS, 4, .inr (.inr (.inr (.inr (fun k => some (ad_4 (2 + 2 * k)))))))), (ad_4 2, .inr (4, [.ref (ad_4 3), .int 0, .int (-1)])), (ad_4 3, .inl (cI, 40, .inl (fun _ => 0))), (ad_4 4, .inr (4, [.ref (ad_4 5), .int 0, .int (-1)])), (ad_4 5, .inl (cI, 40, .inl (fun _ => 0))), (ad_4 6, .inr (4, [.ref (ad_4 7), .int 0, .int (-1)])), (ad_4 7, .inl (cI, 40, .inl (fun _ => 0))), (ad_4 8, .inr (4, [.ref (ad_4 9), .int 0, .int (-1)])), (ad_4 9, .inl (cI, 40, .inl (fun _ => 0))), (ad_4 10, .inr (3, [.ref (ad_4 11), .ref (ad_4 12), .ref (ad_4 13), .int (nI 0), .int 0, .int 0, .int 0])), (ad_4 11, .inl (cI, 8, .inl (fun _ => 0))), (ad_4 12, .inl (cI, 8, .inl (fun _ => 0))), (ad_4 13, .inl (cI, 8, .inl (fun _ => 0))), (ad_4 14, .inr (6, [.ref (ad_4 15), .ref (ad_4 16), .ref (ad_4 17), .int (nI 0)])), (ad_4 15, .inl (cI, 6, .inl (fun _ => 0))), (ad_4 16, .inl (cI, 6, .inl (fun _ => 0))), (ad_4 17, .inl (cI, 6, .inl (fun _ => 0))), (ad_4 18, .inr (5, [.ref (ad_4 19), .ref (ad_4 20), .ref (ad_4 21), .ref (ad_4 22), .int (nI 0)])), (ad_4 19, .inl (cI, 10, .inl (fun _ => 0))), (ad_4 20, .inl (cI, 10, .inl (fun _ => 0))), (ad_4 21, .inl (cI, 10, .inl (fun _ => 0))), (ad_4 22, .inl (cI, 10, .inl (fun _ => 0))), (ad_4 23, .inr (1, [.ref (ad_4 24), .ref (ad_4 25), .ref (ad_4 26), .ref (ad_4 27), .ref (ad_4 28), .ref (ad_4 10), .ref (ad_4 14), .ref (ad_4 18)])), (ad_4 24, .inl (cI, 6, .inl (fun _ => 0))), (ad_4 25, .inl (cI, 8, .inl (fun _ => 0))), (ad_4 26, .inl (cI, 8, .inl (fun _ => 0))), (ad_4 27, .inl (cI, 10, .inl (fun _ => 0))), (ad_4 28, .inl (cI, 10, .inl (fun _ => 0))), (ad_4 29, .inr (0, [.int (-9), .int 0, .ref (ad_4 30), .ref (ad_4 31), .ref (ad_4 10), .ref (ad_4 18), .ref (ad_4 23)])), (ad_4 30, .inl (cI, 8, .inl (fun _ => 0))), (ad_4 31, .inl (cI, 8, .inl (fun _ => 0))), (ad_4 32, .inr (2, [.int (nI 0), .int (-9), .ref (ad_4 33), .ref (ad_4 34), .ref (ad_4 35), .ref (ad_4 36), .ref (ad_4 37), .ref (ad_4 38), .ref (ad_4 39), .int (nI 0), .int (nI 0), .ref (ad_4 10), .ref (ad_4 18), .ref (ad_4 23)])), (ad_4 33, .inl (cI, 97, .inl (fun _ => 0))), (ad_4 34, .inl (cI, 97, .inl (fun _ => 0))), (ad_4 35, .inl (cI, 97, .inl (fun _ => 0))), (ad_4 36, .inl (cI, 97, .inl (fun _ => 0))), (ad_4 37, .inl (cI, 97, .inl (fun _ => 0))), (ad_4 38, .inl (cI, 97, .inl (fun _ => 0))), (ad_4 39, .inl (cI, 2401, .inl (fun _ => 0)))]) (st' := [.ref (ad_4 0)]) rfl rfl ?_
    refine ky_astore_n C (lv' := [(1, .ref (ad_4 0)), (0, .ref b)]) dL_law_7 rfl (by decide) rfl ?_
    refine ky_new C (ci := 8) (T := TX8) (N := 44) (Cn := RX8) inlX8 tyX8 tyX8_ok (List.mem_of_getElem? (i := 3) rfl) (List.mem_of_getElem? (i := 4) rfl) (List.mem_of_getElem? (i := 5) rfl) rfl (fs := [.int 0, .int 0, .null, .null, .null, .int 0, .null, .null, .null, .int 0, .int 0, .int 0, .int 0, .int 0, .null, .null, .null, .int 0, .null, .null, .null, .int 0, .null, .null, .null, .null, .int 0, .int 0, .null, .null, .null, .null, .null, .null, .null, .null, .null, .null, .int 0, .int 0, .null, .null, .null, .null]) dfX8 (Nat.le_of_ble_eq_true rfl) (Nat.le_of_ble_eq_true rfl) dL_law_8 ?_
    intro q8
    refine ky_ws (ws' := [(ad_4 0, .inr (7, [.ref (ad_4 1), .ref (ad_4 10), .ref (ad_4 14), .ref (ad_4 18), .ref (ad_4 23), .ref (ad_4 29), .ref (ad_4 32), .int 0, .int 0])), (ad_4 1, .inl (cS, 4, .inr (.inr (.inr (.inr (fun k => some (ad_4 (2 + 2 * k)))))))), (ad_4 2, .inr (4, [.ref (ad_4 3), .int 0, .int (-1)])), (ad_4 3, .inl (cI, 40, .inl (fun _ => 0))), (ad_4 4, .inr (4, [.ref (ad_4 5), .int 0, .int (-1)])), (ad_4 5, .inl (cI, 40, .inl (fun _ => 0))), (ad_4 6, .inr (4, [.ref (ad_4 7), .int 0, .int (-1)])), (ad_4 7, .inl (cI, 40, .inl (fun _ => 0))), (ad_4 8, .inr (4, [.ref (ad_4 9), .int 0, .int (-1)])), (ad_4 9, .inl (cI, 40, .inl (fun _ => 0))), (ad_4 10, .inr (3, [.ref (ad_4 11), .ref (ad_4 12), .ref (ad_4 13), .int (nI 0), .int 0, .int 0, .int 0])), (ad_4 11, .inl (cI, 8, .inl (fun _ => 0))), (ad_4 12, .inl (cI, 8, .inl (fun _ => 0))), (ad_4 13, .inl (cI, 8, .inl (fun _ => 0))), (ad_4 14, .inr (6, [.ref (ad_4 15), .ref (ad_4 16), .ref (ad_4 17), .int (nI 0)])), (ad_4 15, .inl (cI, 6, .inl (fun _ => 0))), (ad_4 16, .inl (cI, 6, .inl (fun _ => 0))), (ad_4 17, .inl (cI, 6, .inl (fun _ => 0))), (ad_4 18, .inr (5, [.ref (ad_4 19), .ref (ad_4 20), .ref (ad_4 21), .ref (ad_4 22), .int (nI 0)])), (ad_4 19, .inl (cI, 10, .inl (fun _ => 0))), (ad_4 20, .inl (cI, 10, .inl (fun _ => 0))), (ad_4 21, .inl (cI, 10, .inl (fun _ => 0))), (ad_4 22, .inl (cI, 10, .inl (fun _ => 0))), (ad_4 23, .inr (1, [.ref (ad_4 24), .ref (ad_4 25), .ref (ad_4 26), .ref (ad_4 27), .ref (ad_4 28), .ref (ad_4 10), .ref (ad_4 14), .ref (ad_4 18)])), (ad_4 24, .inl (cI, 6, .inl (fun _ => 0))), (ad_4 25, .inl (cI, 8, .inl (fun _ => 0))), (ad_4 26, .inl (cI, 8, .inl (fun _ => 0))), (ad_4 27, .inl (cI, 10, .inl (fun _ => 0))), (ad_4 28, .inl (cI, 10, .inl (fun _ => 0))), (ad_4 29, .inr (0, [.int (-9), .int 0, .ref (ad_4 30), .ref (ad_4 31), .ref (ad_4 10), .ref (ad_4 18), .ref (ad_4 23)])), (ad_4 30, .inl (cI, 8, .inl (fun _ => 0))), (ad_4 31, .inl (cI, 8, .inl (fun _ => 0))), (ad_4 32, .inr (2, [.int (nI 0), .int (-9), .ref (ad_4 33), .ref (ad_4 34), .ref (ad_4 35), .ref (ad_4 36), .ref (ad_4 37), .ref (ad_4 38), .ref (ad_4 39), .int (nI 0), .int (nI 0), .ref (ad_4 10), .ref (ad_4 18), .ref (ad_4 23)])), (ad_4 33, .inl (cI, 97, .inl (fun _ => 0))), (ad_4 34, .inl (cI, 97, .inl (fun _ => 0))), (ad_4 35, .inl (cI, 97, .inl (fun _ => 0))), (ad_4 36, .inl (cI, 97, .inl (fun _ => 0))), (ad_4 37, .inl (cI, 97, .inl (fun _ => 0))), (ad_4 38, .inl (cI, 97, .inl (fun _ => 0))), (ad_4 39, .inl (cI, 2401, .inl (fun _ => 0))), (q8, .inr (8, [.int 0, .int 0, .null, .null, .null, .int 0, .null, .null, .null, .int 0, .int 0, .int 0, .int 0, .int 0, .null, .null, .null, .int 0, .null, .null, .null, .int 0, .null, .null, .null, .null, .int 0, .int 0, .null, .null, .null, .null, .null, .null, .null, .null, .null, .null, .int 0, .int 0, .null, .null, .null, .null]))]) (st' := [.ref q8]) rfl rfl ?_
    refine ky_dup C dL_law_11 rfl ?_
    refine ky_callI (ret := none) C 0 (kX8_init l D cI cS q8) gL_law_X8_init rfl rfl rfl (List.mem_of_getElem? (i := 5) rfl) (List.mem_of_getElem? (i := 119) rfl) (List.mem_of_getElem? (i := 120) rfl) rfl hdX8_init.2 ⟨Nat.le_of_ble_eq_true rfl, Nat.le_of_ble_eq_true rfl⟩ rfl rfl (Nat.le_of_ble_eq_true rfl) dL_law_12 ⟨Nat.le_of_ble_eq_true rfl, Nat.le_of_ble_eq_true rfl⟩ [40] rfl rfl ?_
    rintro _ _ ⟨bd_12, rfl, rfl, rfl⟩
    refine ky_ws (ws' := [(ad_4 0, .inr (7, [.ref (ad_4 1), .ref (ad_4 10), .ref (ad_4 14), .ref (ad_4 18), .ref (ad_4 23), .ref (ad_4 29), .ref (ad_4 32), .int 0, .int 0])), (ad_4 1, .inl (cS, 4, .inr (.inr (.inr (.inr (fun k => some (ad_4 (2 + 2 * k)))))))), (ad_4 2, .inr (4, [.ref (ad_4 3), .int 0, .int (-1)])), (ad_4 3, .inl (cI, 40, .inl (fun _ => 0))), (ad_4 4, .inr (4, [.ref (ad_4 5), .int 0, .int (-1)])), (ad_4 5, .inl (cI, 40, .inl (fun _ => 0))), (ad_4 6, .inr (4, [.ref (ad_4 7), .int 0, .int (-1)])), (ad_4 7, .inl (cI, 40, .inl (fun _ => 0))), (ad_4 8, .inr (4, [.ref (ad_4 9), .int 0, .int (-1)])), (ad_4 9, .inl (cI, 40, .inl (fun _ => 0))), (ad_4 10, .inr (3, [.ref (ad_4 11), .ref (ad_4 12), .ref (ad_4 13), .int (nI 0), .int 0, .int 0, .int 0])), (ad_4 11, .inl (cI, 8, .inl (fun _ => 0))), (ad_4 12, .inl (cI, 8, .inl (fun _ => 0))), (ad_4 13, .inl (cI, 8, .inl (fun _ => 0))), (ad_4 14, .inr (6, [.ref (ad_4 15), .ref (ad_4 16), .ref (ad_4 17), .int (nI 0)])), (ad_4 15, .inl (cI, 6, .inl (fun _ => 0))), (ad_4 16, .inl (cI, 6, .inl (fun _ => 0))), (ad_4 17, .inl (cI, 6, .inl (fun _ => 0))), (ad_4 18, .inr (5, [.ref (ad_4 19), .ref (ad_4 20), .ref (ad_4 21), .ref (ad_4 22), .int (nI 0)])), (ad_4 19, .inl (cI, 10, .inl (fun _ => 0))), (ad_4 20, .inl (cI, 10, .inl (fun _ => 0))), (ad_4 21, .inl (cI, 10, .inl (fun _ => 0))), (ad_4 22, .inl (cI, 10, .inl (fun _ => 0))), (ad_4 23, .inr (1, [.ref (ad_4 24), .ref (ad_4 25), .ref (ad_4 26), .ref (ad_4 27), .ref (ad_4 28), .ref (ad_4 10), .ref (ad_4 14), .ref (ad_4 18)])), (ad_4 24, .inl (cI, 6, .inl (fun _ => 0))), (ad_4 25, .inl (cI, 8, .inl (fun _ => 0))), (ad_4 26, .inl (cI, 8, .inl (fun _ => 0))), (ad_4 27, .inl (cI, 10, .inl (fun _ => 0))), (ad_4 28, .inl (cI, 10, .inl (fun _ => 0))), (ad_4 29, .inr (0, [.int (-9), .int 0, .ref (ad_4 30), .ref (ad_4 31), .ref (ad_4 10), .ref (ad_4 18), .ref (ad_4 23)])), (ad_4 30, .inl (cI, 8, .inl (fun _ => 0))), (ad_4 31, .inl (cI, 8, .inl (fun _ => 0))), (ad_4 32, .inr (2, [.int (nI 0), .int (-9), .ref (ad_4 33), .ref (ad_4 34), .ref (ad_4 35), .ref (ad_4 36), .ref (ad_4 37), .ref (ad_4 38), .ref (ad_4 39), .int (nI 0), .int (nI 0), .ref (ad_4 10), .ref (ad_4 18), .ref (ad_4 23)])), (ad_4 33, .inl (cI, 97, .inl (fun _ => 0))), (ad_4 34, .inl (cI, 97, .inl (fun _ => 0))), (ad_4 35, .inl (cI, 97, .inl (fun _ => 0))), (ad_4 36, .inl (cI, 97, .inl (fun _ => 0))), (ad_4 37, .inl (cI, 97, .inl (fun _ => 0))), (ad_4 38, .inl (cI, 97, .inl (fun _ => 0))), (ad_4 39, .inl (cI, 2401, .inl (fun _ => 0))), (bd_12 0, .inr (8, [.int 0, .int 0, .ref (bd_12 1), .ref (bd_12 2), .ref (bd_12 3), .int (nI 0), .ref (bd_12 4), .ref (bd_12 5), .ref (bd_12 6), .int 0, .int 0, .int 0, .int 0, .int 0, .ref (bd_12 7), .ref (bd_12 8), .ref (bd_12 9), .int (nI 0), .ref (bd_12 10), .ref (bd_12 11), .ref (bd_12 12), .int (nI 0), .ref (bd_12 13), .ref (bd_12 14), .ref (bd_12 15), .ref (bd_12 16), .int 0, .int 0, .ref (bd_12 17), .ref (bd_12 18), .ref (bd_12 19), .ref (bd_12 20), .ref (bd_12 21), .ref (bd_12 22), .ref (bd_12 23), .ref (bd_12 24), .ref (bd_12 25), .ref (bd_12 26), .int 0, .int 0, .ref (bd_12 27), .ref (bd_12 28), .ref (bd_12 29), .ref (bd_12 30)])), (bd_12 1, .inl (cI, 4, .inl (upd (upd (upd (upd (fun _ => 0) 0 (-9)) 1 (-9)) 2 (-9)) 3 (-9)))), (bd_12 2, .inl (cI, 4, .inl (fun _ => 0))), (bd_12 3, .inl (cI, 160, .inl (fun _ => 0))), (bd_12 4, .inl (cI, 8, .inl (fun _ => 0))), (bd_12 5, .inl (cI, 8, .inl (fun _ => 0))), (bd_12 6, .inl (cI, 8, .inl (fun _ => 0))), (bd_12 7, .inl (cI, 8, .inl (fun _ => 0))), (bd_12 8, .inl (cI, 8, .inl (fun _ => 0))), (bd_12 9, .inl (cI, 8, .inl (fun _ => 0))), (bd_12 10, .inl (cI, 6, .inl (fun _ => 0))), (bd_12 11, .inl (cI, 6, .inl (fun _ => 0))), (bd_12 12, .inl (cI, 6, .inl (fun _ => 0))), (bd_12 13, .inl (cI, 10, .inl (fun _ => 0))), (bd_12 14, .inl (cI, 10, .inl (fun _ => 0))), (bd_12 15, .inl (cI, 10, .inl (fun _ => 0))), (bd_12 16, .inl (cI, 10, .inl (fun _ => 0))), (bd_12 17, .inl (cI, 6, .inl (fun _ => 0))), (bd_12 18, .inl (cI, 8, .inl (fun _ => 0))), (bd_12 19, .inl (cI, 8, .inl (fun _ => 0))), (bd_12 20, .inl (cI, 96, .inl (fun _ => 0))), (bd_12 21, .inl (cI, 96, .inl (fun _ => 0))), (bd_12 22, .inl (cI, 72, .inl (fun _ => 0))), (bd_12 23, .inl (cI, 10, .inl (fun _ => 0))), (bd_12 24, .inl (cI, 10, .inl (fun _ => 0))), (bd_12 25, .inl (cI, 8, .inl (fun _ => 0))), (bd_12 26, .inl (cI, 8, .inl (fun _ => 0))), (bd_12 27, .inl (cI, 97, .inl (fun _ => 0))), (bd_12 28, .inl (cI, 97, .inl (fun _ => 0))), (bd_12 29, .inl (cI, 2401, .inl (fun _ => 0))), (bd_12 30, .inl (cI, 2401, .inl (fun _ => 0)))]) (st' := [.ref (bd_12 0)]) rfl rfl ?_
    refine ky_astore_n C (lv' := [(2, .ref (bd_12 0)), (1, .ref (ad_4 0)), (0, .ref b)]) dL_law_15 rfl (by decide) rfl ?_
    refine ky_iconst C dL_law_16 (v := 0) (by decide) ?_
    refine ky_istore_n C (lv' := [(3, .int 0), (2, .ref (bd_12 0)), (1, .ref (ad_4 0)), (0, .ref b)]) dL_law_17 rfl (by decide) rfl ?_
    refine ky_widen (k := 600000) (n := 7302250) (Nat.le_of_ble_eq_true rfl) (Nat.le_of_ble_eq_true rfl) ?_
    refine ky_conv (lv' := [(3, .int (nI 0)), (2, .ref (bd_12 0)), (1, .ref (ad_4 0)), (0, .ref b)]) [0, 1, 2, 3] rfl rfl rfl ?_
    refine klaw_loop l C hX hbl hL hr hlocks (L + 7) 0 (Nat.zero_le _) (by omega) _ ?_
    exact ⟨(fun _ => ((0 : Int32), (-1 : Int32), fun _ => (0 : Int32))), (fun k => [0, 0, 0, 0, 0, 0].getD k 0), (fun k => [0, 0, 0, 0, 0, (-9), 0, (-9), 0, 0, 0, 0, 0, 0].getD k 0), (fun k => [fun _ => 0, fun _ => 0, fun _ => 0, fun _ => 0, fun _ => 0, fun _ => 0, fun _ => 0, fun _ => 0, fun _ => 0, fun _ => 0, fun _ => 0, fun _ => 0, fun _ => 0, fun _ => 0, fun _ => 0, fun _ => 0, fun _ => 0, fun _ => 0, fun _ => 0, fun _ => 0, fun _ => 0, fun _ => 0, fun _ => 0, fun _ => 0, upd (upd (upd (upd (fun _ => 0) 0 (-9)) 1 (-9)) 2 (-9)) 3 (-9), fun _ => 0, fun _ => 0, fun _ => 0, fun _ => 0, fun _ => 0, fun _ => 0, fun _ => 0, fun _ => 0, fun _ => 0, fun _ => 0, fun _ => 0, fun _ => 0, fun _ => 0, fun _ => 0, fun _ => 0, fun _ => 0, fun _ => 0, fun _ => 0, fun _ => 0, fun _ => 0, fun _ => 0, fun _ => 0, fun _ => 0].getD k (fun _ => 0)), rfl, (fun k _ => Or.inl rfl), (fun k hk => ⟨fun _ => by rcases kt_4 hk with rfl | rfl | rfl | rfl <;> rfl, fun h => absurd rfl h, fun i _ => rfl⟩), (Nat.zero_le _), (Nat.zero_le _), (Nat.zero_le _), (fun s hq => absurd hq (Nat.not_lt_zero _)), ⟨fun f hq => absurd hq (Nat.not_lt_zero _), fun c hq => absurd hq (Nat.not_lt_zero _), fun s hq => absurd hq (Nat.not_lt_zero _)⟩, (fun _ => ⟨rfl, rfl⟩), (fun s hq => absurd hq (Nat.not_lt_zero _))⟩
  rw [lg_entry_eq]
  exact key s.heap [] _ hP hD va_S.rf (lv_entry [Value.ref b] (n := 4) (Nat.le_of_ble_eq_true rfl))
