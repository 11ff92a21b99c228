/-! part 78: the turns -/
set_option maxRecDepth 100000 in
set_option maxHeartbeats 8000000 in
theorem klaw_turns {p : Program} (l : Launch) {e : Env} {s : State} {m : MethodId} {below : List Frame} {meth : Method} {c : Code} {D : va_G} {cI cS : ClassId} {b L : Nat} {xs : Nat → Int32} {ad : Nat → Nat} {ga qa ra wa : Nat} (C : kyC p s m #[Value.ref b] c cL_law 15 RL wsL_law D cI cS (fun q : Nat => s.heap.size ≤ q)) (hX : va_X b L xs s s.heap) (hbl : b < s.heap.size) (hL : L ≤ 260) (hr : meth.sig.returnType = ret) (hlk : meth.locks = false) : ∀ (n t7 : Nat) (lastF : Int32) (sh : Nat → kSh) (N : Nat) (wind : Int32) (low : Int32) (forb : Int32) (club : kA) (need : kA) (worth : kA) (nc : Nat) (cat : kA) (cwet : kA) (chigh : kA) (ns : Nat) (kd : kA) (fr : kA) (hor : kA) (pw : kA) (lf : kA) (gt : kA) (hl : kA) (am : kA) (so : kA) (bg : kA) (bh : kA) (g : kA) (q : kA) (r : kA) (w9 : kA), t7 ≤ 5 → 5 ≤ n + t7 → ((t7 ≤ 3 ∧ ns = 2 * t7) ∨ (3 ≤ t7 ∧ ns = t7 + 3)) → kTie N nc ns wind low forb club need worth cat cwet chigh kd fr hor pw g q → kyW p l e room_1 s m #[Value.ref b] below meth c D (fun q : Nat => s.heap.size ≤ q) 15 600000 7302250 (lw_Z below #[Value.ref b] s) [(ad 0, .inr (7, [.ref (ad 1), .ref (ad 10), .ref (ad 14), .ref (ad 18), .ref (ad 23), .ref (ad 29), .ref (ad 32), .int 0, .int lastF])), (ad 1, .inl (cS, 4, .inr (.inr (.inr (.inr (fun k => some (ad (2 + 2 * k)))))))), (ad 2, .inr (4, [.ref (ad 3), .int ((sh 0).1), .int ((sh 0).2.1)])), (ad 3, .inl (cI, 40, .inl ((sh 0).2.2))), (ad 4, .inr (4, [.ref (ad 5), .int ((sh 1).1), .int ((sh 1).2.1)])), (ad 5, .inl (cI, 40, .inl ((sh 1).2.2))), (ad 6, .inr (4, [.ref (ad 7), .int ((sh 2).1), .int ((sh 2).2.1)])), (ad 7, .inl (cI, 40, .inl ((sh 2).2.2))), (ad 8, .inr (4, [.ref (ad 9), .int ((sh 3).1), .int ((sh 3).2.1)])), (ad 9, .inl (cI, 40, .inl ((sh 3).2.2))), (ad 10, .inr (3, [.ref (ad 11), .ref (ad 12), .ref (ad 13), .int (nI N), .int wind, .int low, .int forb])), (ad 11, .inl (cI, 8, .inl club)), (ad 12, .inl (cI, 8, .inl need)), (ad 13, .inl (cI, 8, .inl worth)), (ad 14, .inr (6, [.ref (ad 15), .ref (ad 16), .ref (ad 17), .int (nI nc)])), (ad 15, .inl (cI, 6, .inl cat)), (ad 16, .inl (cI, 6, .inl cwet)), (ad 17, .inl (cI, 6, .inl chigh)), (ad 18, .inr (5, [.ref (ad 19), .ref (ad 20), .ref (ad 21), .ref (ad 22), .int (nI ns)])), (ad 19, .inl (cI, 10, .inl kd)), (ad 20, .inl (cI, 10, .inl fr)), (ad 21, .inl (cI, 10, .inl hor)), (ad 22, .inl (cI, 10, .inl pw)), (ad 23, .inr (1, [.ref (ad 24), .ref (ad 25), .ref (ad 26), .ref (ad 27), .ref (ad 28), .ref (ad 10), .ref (ad 14), .ref (ad 18)])), (ad 24, .inl (cI, 6, .inl lf)), (ad 25, .inl (cI, 8, .inl gt)), (ad 26, .inl (cI, 8, .inl hl)), (ad 27, .inl (cI, 10, .inl am)), (ad 28, .inl (cI, 10, .inl so)), (ad 29, .inr (0, [.int (-9), .int 0, .ref (ad 30), .ref (ad 31), .ref (ad 10), .ref (ad 18), .ref (ad 23)])), (ad 30, .inl (cI, 8, .inl bg)), (ad 31, .inl (cI, 8, .inl bh)), (ad 32, .inr (2, [.int (nI 0), .int (-9), .ref (ad 33), .ref (ad 34), .ref (ad 35), .ref (ad 36), .ref (ad 37), .ref (ad 38), .ref (ad 39), .int (nI 0), .int (nI 0), .ref (ad 10), .ref (ad 18), .ref (ad 23)])), (ad 33, .inl (cI, 97, .inl (fun _ => 0))), (ad 34, .inl (cI, 97, .inl (fun _ => 0))), (ad 35, .inl (cI, 97, .inl (fun _ => 0))), (ad 36, .inl (cI, 97, .inl (fun _ => 0))), (ad 37, .inl (cI, 97, .inl (fun _ => 0))), (ad 38, .inl (cI, 97, .inl (fun _ => 0))), (ad 39, .inl (cI, 2401, .inl (fun _ => 0))), (ga, .inl (cI, 48, .inl g)), (qa, .inl (cI, 40, .inl q)), (ra, .inl (cI, 42, .inl r)), (wa, .inl (cI, 42, .inl w9))] [(0, .ref b), (1, .ref (ad 0)), (2, .ref ga), (3, .ref qa), (5, .ref ra), (6, .ref wa), (7, .int (nI t7))] 78 [] := by
  intro n
  induction n with
  | zero =>
    intro t7 lastF sh N wind low forb club need worth nc cat cwet chigh ns kd fr hor pw lf gt hl am so bg bh g q r w9 ht hn hrel hT
    refine ky_iload C 6 dL_law_78 rfl ?_
    refine ky_iconst C dL_law_80 (v := 5) (by decide) ?_
    refine ky_icmp_ge C 709 dL_law_81 (by decide) (fun c_81 => ?_) (fun c_81 => ?_)
    · have n_81 := kn_le (a := 5) (b := t7) (by omega) (by omega) c_81
      exact klaw_F l C hX hbl hL hT (by omega) hr hlk
    · have n_81 := kn_nle (a := 5) (b := t7) (by omega) (by omega) c_81
      exact absurd hn (by omega)
  | succ n ih =>
    intro t7 lastF sh N wind low forb club need worth nc cat cwet chigh ns kd fr hor pw lf gt hl am so bg bh g q r w9 ht hn hrel hT
    refine ky_iload C 6 dL_law_78 rfl ?_
    refine ky_iconst C dL_law_80 (v := 5) (by decide) ?_
    refine ky_icmp_ge C 709 dL_law_81 (by decide) (fun c_81 => ?_) (fun c_81 => ?_)
    · have n_81 := kn_le (a := 5) (b := t7) (by omega) (by omega) c_81
      exact klaw_F l C hX hbl hL hT (by omega) hr hlk
    · have n_81 := kn_nle (a := 5) (b := t7) (by omega) (by omega) c_81
      refine klaw_A l C hX hbl hL hT n_81 hrel (fun wind2 low2 forb2 ns2 kd2 fr2 hor2 pw2 g2 q2 hT2 hrel2 => ?_)
      refine klaw_B l C hX hbl hL hT2 (fun lf2 gt2 hl2 am2 so2 => ?_)
      refine klaw_C l C hX hbl hL hT2 (fun lf3 gt3 hl3 am3 so3 => ?_)
      refine klaw_D l C hX hbl hL hT2 (fun lf4 gt4 hl4 am4 so4 w4 => ?_)
      refine klaw_E l C hX hbl hL hT2 (fun lf5 gt5 hl5 am5 so5 bg5 bh5 => ?_)
      refine ky_iinc C 6 (v := nI (t7 + 1)) (lv' := [(7, .int (nI (t7 + 1))), (0, .ref b), (1, .ref (ad 0)), (2, .ref ga), (3, .ref qa), (5, .ref ra), (6, .ref wa)]) dL_law_703 rfl (nI_1 _) (by decide) rfl ?_
      refine ky_goto C dL_law_706 (tgt := 78) (by decide) ?_
      refine ky_conv (lv' := [(0, .ref b), (1, .ref (ad 0)), (2, .ref ga), (3, .ref qa), (5, .ref ra), (6, .ref wa), (7, .int (nI (t7 + 1)))]) [1, 2, 3, 4, 5, 6, 0] rfl rfl rfl ?_
      exact ih (t7 + 1) lastF sh N wind2 low2 forb2 club need worth nc cat cwet chigh ns2 kd2 fr2 hor2 pw2 lf5 gt5 hl5 am5 so5 bg5 bh5 g2 q2 _ w4 (by omega) (by omega) hrel2 hT2
