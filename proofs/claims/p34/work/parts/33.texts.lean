/-! part 33: the class: texts, missed, copies -/
def kGo (p : Nat) (x : Int32) : Bool := if p % 4 = 3 then decide (x = 59 ∧ p < 31) else decide (48 ≤ x ∧ x ≤ (if p % 4 = 0 then 51 else 57))
/-- the first place with which no text goes on (or how many codes there are) -/
def kFst (t : kA) : Nat → Nat
  | 0 => 0
  | n + 1 => if kFst t n < n then kFst t n else if kGo n (t n) = true then n + 1 else n
theorem kFst_all {t : kA} : ∀ {n : Nat}, (∀ q, q < n → kGo q (t q) = true) → kFst t n = n
  | 0, _ => rfl
  | n + 1, h => by
    have e := kFst_all (t := t) (n := n) (fun q hq => h q (by omega))
    rw [kFst, e, if_neg (Nat.lt_irrefl n), if_pos (h n (Nat.lt_succ_self n))]
theorem kFst_at {t : kA} {p : Nat} (h : ∀ q, q < p → kGo q (t q) = true) (hp : ¬ kGo p (t p) = true) : ∀ {n : Nat}, p < n → kFst t n = p
  | 0, hn => absurd hn (Nat.not_lt_zero p)
  | n + 1, hn => by
    by_cases e : p = n
    · subst e
      rw [kFst, kFst_all h, if_neg (Nat.lt_irrefl p), if_neg hp]
    · have e2 := kFst_at h hp (n := n) (by omega)
      rw [kFst, e2, if_pos (by omega)]
theorem kFst_le (t : kA) : ∀ n, kFst t n ≤ n
  | 0 => Nat.le_refl 0
  | n + 1 => by
    have := kFst_le t n
    rw [kFst]
    split
    · omega
    · split <;> omega
theorem kFst_go {t : kA} : ∀ {n : Nat}, kFst t n = n → ∀ q, q < n → kGo q (t q) = true
  | 0, _, q, hq => absurd hq (Nat.not_lt_zero q)
  | n + 1, h, q, hq => by
    rw [kFst] at h
    have hl := kFst_le t n
    split at h
    · omega
    · split at h
      · rename_i h1 h2
        by_cases e : q = n
        · rw [e]; exact h2
        · exact kFst_go (show kFst t n = n by omega) q (by omega)
      · omega
/-- -1: a text; else the first fault -/
def kBad (t : kA) (n : Nat) : Int32 := if kFst t n < n then nI (kFst t n) else if n % 4 = 3 ∧ 7 ≤ n then -1 else nI n
theorem kAnd2 {Q : Nat → Prop} {n : Nat} (h : ∀ f, f < n → Q f) (hn : Q n) : ∀ f, f < n + 1 → Q f := fun f hf => by
  rcases Nat.lt_succ_iff_lt_or_eq.mp hf with z | z
  · exact h f z
  · exact z ▸ hn
theorem kBad_at {t : kA} {p n : Nat} (hn : p < n) (h : ∀ q, q < p → kGo q (t q) = true) (hp : ¬ kGo p (t p) = true) : kBad t n = nI p := by
  rw [kBad, kFst_at h hp hn, if_pos hn]
theorem kBad_ok {t : kA} {p n : Nat} (hn : p = n) (h : ∀ q, q < p → kGo q (t q) = true) (h3 : n % 4 = 3) (h7 : 7 ≤ n) : kBad t n = -1 := by
  subst hn
  rw [kBad, kFst_all h, if_neg (Nat.lt_irrefl p), if_pos ⟨h3, h7⟩]
theorem kBad_no {t : kA} {p n : Nat} (hn : p = n) (h : ∀ q, q < p → kGo q (t q) = true) (h3 : ¬ (n % 4 = 3 ∧ 7 ≤ n)) : kBad t n = nI n := by
  subst hn
  rw [kBad, kFst_all h, if_neg (Nat.lt_irrefl p), if_neg h3]
theorem kBad_neg {t : kA} {n : Nat} (hn : n ≤ 40) (h : kBad t n < 0) : kBad t n = -1 ∧ n % 4 = 3 ∧ n ≤ 31 ∧ 7 ≤ n := by
  have hl := kFst_le t n
  unfold kBad at h ⊢
  split at h
  · exact absurd h (nI_pos (by omega))
  · rename_i h1
    split at h
    · rename_i h2
      refine ⟨by rw [if_neg h1, if_pos h2], h2.1, ?_, h2.2⟩
      rcases Nat.lt_or_ge 31 n with q | q
      · have := kFst_go (t := t) (n := n) (by omega) 31 q
        unfold kGo at this
        rw [if_pos (by decide)] at this
        exact absurd (of_decide_eq_true this).2 (by decide)
      · exact q
    · exact absurd h (nI_pos (by omega))
theorem kBad_nn {x : Int32} (h : ¬ x < 0) : ¬ x = -1 := fun e => h (by rw [e]; decide)
def kF_plain (sh : Nat → kSh) (N : Nat) (wind low forb : Int32) (club need worth : kA) (nc ns : Nat) (x y z u : Int32) : Int32 × Int32 × Nat × Int32 × Int32 × Int32 × kA × kA × kA × Nat × Nat :=
  if 0 ≤ x ∧ x ≤ 3 then (if 0 ≤ y ∧ y ≤ 2 then (if (sh x.toNatClampNeg).2.1 = -1 then (-11, 1, N, wind, low, forb, club, need, worth, nc, ns) else if (sh x.toNatClampNeg).1 = y then
    (if 0 ≤ u then (if 0 ≤ z ∧ (0 : Int32) ≤ u ∧ z ≤ (sh x.toNatClampNeg).2.1 ∧ u ≤ (sh x.toNatClampNeg).2.1 - z then
      (if kBad (fun p => (sh x.toNatClampNeg).2.2 (z.toNatClampNeg + p)) u.toNatClampNeg = -1 then (nI ((u.toNatClampNeg + 1) / 4), 0, (u.toNatClampNeg + 1) / 4, 0, 0, 0, kFil (fun f9 => (sh x.toNatClampNeg).2.2 (z.toNatClampNeg + f9 * 4) - 48) club ((u.toNatClampNeg + 1) / 4), kFil (fun f9 => (sh x.toNatClampNeg).2.2 (z.toNatClampNeg + f9 * 4 + 1) - 48) need ((u.toNatClampNeg + 1) / 4), kFil (fun f9 => (sh x.toNatClampNeg).2.2 (z.toNatClampNeg + f9 * 4 + 2) - 48) worth ((u.toNatClampNeg + 1) / 4), 0, 0)
      else ((-100 : Int32) - kBad (fun p => (sh x.toNatClampNeg).2.2 (z.toNatClampNeg + p)) u.toNatClampNeg, 0, N, wind, low, forb, club, need, worth, nc, ns))
      else (-13, 3, N, wind, low, forb, club, need, worth, nc, ns)) else (-14, 4, N, wind, low, forb, club, need, worth, nc, ns))
    else (-12, 2, N, wind, low, forb, club, need, worth, nc, ns)) else (-2, 0, N, wind, low, forb, club, need, worth, nc, ns)) else (-1, 0, N, wind, low, forb, club, need, worth, nc, ns)
theorem kHoldN {s : kSh} {i n : Int32} (h : s.2.1 = -1 ∨ ((0 ≤ s.2.1 ∧ s.2.1 ≤ 40) ∧ 0 ≤ s.1 ∧ s.1 ≤ 2)) (hn : ¬ s.2.1 = -1) (q : 0 ≤ i ∧ (0 : Int32) ≤ n ∧ i ≤ s.2.1 ∧ n ≤ s.2.1 - i) : ∃ a b : Nat, a + b ≤ 40 ∧ i = nI a ∧ n = nI b := by
  obtain ⟨m, hm, e⟩ := kLen h hn
  rw [e] at q
  obtain ⟨a, ha, rfl⟩ := kixle ⟨q.1, q.2.2.1⟩ (by omega)
  have h2 := q.2.2.2
  rw [pk_sub ha] at h2
  obtain ⟨b, hb, rfl⟩ := kixle ⟨q.2.1, h2⟩ (by omega)
  exact ⟨a, b, by omega, rfl, rfl⟩
theorem kHoldN1 {s : kSh} {i : Int32} {n : Nat} (h : s.2.1 = -1 ∨ ((0 ≤ s.2.1 ∧ s.2.1 ≤ 40) ∧ 0 ≤ s.1 ∧ s.1 ≤ 2)) (hn : ¬ s.2.1 = -1) (q : 0 ≤ i ∧ (0 : Int32) ≤ nI n ∧ i ≤ s.2.1 ∧ nI n ≤ s.2.1 - i) (hs : n < 1000) : ∃ a : Nat, a + n ≤ 40 ∧ i = nI a := by
  obtain ⟨a, b, hab, e1, e2⟩ := kHoldN h hn q
  have := (nI_eq (a := n) (b := b) (by omega) (by omega)).mp e2
  exact ⟨a, by omega, e1⟩
theorem kHoldC {s : kSh} {i n : Int32} (h : s.2.1 = -1 ∨ ((0 ≤ s.2.1 ∧ s.2.1 ≤ 40) ∧ 0 ≤ s.1 ∧ s.1 ≤ 2)) (hn : ¬ s.2.1 = -1) (q : 0 ≤ i ∧ (0 : Int32) ≤ n ∧ i ≤ s.2.1 ∧ n ≤ s.2.1 - i) : ¬ i < 0 ∧ ¬ n < 0 ∧ i.toNatClampNeg + n.toNatClampNeg ≤ 40 := by
  refine ⟨Int32.not_lt.mpr q.1, Int32.not_lt.mpr q.2.1, ?_⟩
  obtain ⟨a, b, hab, rfl, rfl⟩ := kHoldN h hn q
  rw [nI_clamp (by omega), nI_clamp (by omega)]
  exact hab
def kMs (g : kG) (wind : Int32) (ns : Nat) (t : kA) (i0 : Nat) : Int32 :=
  if (∀ f9, f9 < gN g → (kDay g wind (kAll ns) 12).2.1 f9 = t (i0 + f9)) then kBits (fun s => decide (∀ f9, f9 < gN g → (kDay g wind (kBut ns s) 12).2.1 f9 = t (i0 + f9))) ns ||| 256 else kBits (fun s => decide (∀ f9, f9 < gN g → (kDay g wind (kBut ns s) 12).2.1 f9 = t (i0 + f9))) ns
def kF_missed (g : kG) (wind : Int32) (ns : Nat) (sh : Nat → kSh) (x y z : Int32) : Int32 × Int32 :=
  if 0 ≤ x ∧ x ≤ 3 then (if 0 ≤ y ∧ y ≤ 2 then (if (sh x.toNatClampNeg).2.1 = -1 then (-11, 1) else if (sh x.toNatClampNeg).1 = y then
    (if 0 ≤ z ∧ (0 : Int32) ≤ nI (gN g) ∧ z ≤ (sh x.toNatClampNeg).2.1 ∧ nI (gN g) ≤ (sh x.toNatClampNeg).2.1 - z then (if gN g = 0 then (-3, 0) else (kMs g wind ns (sh x.toNatClampNeg).2.2 z.toNatClampNeg, 0)) else (-13, 3))
    else (-12, 2)) else (-2, 0)) else (-1, 0)
def kF_copy (sh : Nat → kSh) (x y z u t : Int32) : Int32 × Int32 × (Nat → kSh) :=
  if 0 ≤ x ∧ x ≤ 3 then (if 0 ≤ z ∧ z ≤ 3 then (if (sh x.toNatClampNeg).2.1 = -1 then (-11, 1, sh) else if (sh z.toNatClampNeg).2.1 = -1 then (-11, 1, sh) else if (sh x.toNatClampNeg).1 = (sh z.toNatClampNeg).1 then
    (if 0 ≤ y ∧ (0 : Int32) ≤ t ∧ y ≤ (sh x.toNatClampNeg).2.1 ∧ t ≤ (sh x.toNatClampNeg).2.1 - y then (if 0 ≤ u ∧ (0 : Int32) ≤ t ∧ u ≤ (sh z.toNatClampNeg).2.1 ∧ t ≤ (sh z.toNatClampNeg).2.1 - u then
      (t, 0, va_up sh z.toNatClampNeg ((sh z.toNatClampNeg).1, (sh z.toNatClampNeg).2.1, va_cpy (sh x.toNatClampNeg).2.2 (sh z.toNatClampNeg).2.2 y.toNatClampNeg u.toNatClampNeg t.toNatClampNeg)) else (-13, 3, sh)) else (-13, 3, sh))
    else (-12, 2, sh)) else (-1, 0, sh)) else (-1, 0, sh)
theorem hdX3_goesOn : yX3_goesOn.cls = RX3 ∧ yX3_goesOn.cls ≠ "java/lang/invoke/MethodHandle" ∧ yX3_goesOn.cls ≠ "java/lang/invoke/VarHandle" ∧ (parseMethodDescriptor yX3_goesOn.desc).map (fun d => d.parameters.length) = some 2 := by decide +kernel
set_option maxRecDepth 100000 in
set_option maxHeartbeats 4000000 in
theorem kX3_goesOn (l : Launch) (D : va_G) (cI cS : ClassId) (p0 : Nat) (x : Int32) (hp : p0 < 100) : kyM l yX3_goesOn wsX3_goesOn ({ frames := 0, cells := 0, slots := 0, locals := 0 }) D cI cS [.int (nI p0), .int x] [] 0 0 (fun vR wR => vR = some (.int (if kGo p0 x = true then (1 : Int32) else 0)) ∧ wR = []) := by
  refine ky_start (own := RX3) (cc := cX3_goesOn) (nL := 4) (ret := (some .boolean)) (by decide) rfl rfl (Nat.le_of_ble_eq_true rfl) ?_
  intro p e s m args below meth c C hr hlk hnm
  refine ky_conv (lv' := [(0, .int (nI p0)), (1, .int x)]) (List.range 2) rfl rfl rfl ?_
  refine ky_iload_n C 0 dX3_goesOn_0 rfl rfl ?_
  refine ky_iconst C dX3_goesOn_1 (v := 4) (by decide) ?_
  refine ky_irem C (v := nI (p0 % 4)) dX3_goesOn_2 (by decide) (pk_rem (by omega) (by decide) (by decide)) ?_
  refine ky_istore_n C (lv' := [(2, .int (nI (p0 % 4))), (0, .int (nI p0)), (1, .int x)]) dX3_goesOn_3 rfl (by decide) rfl ?_
  refine ky_iload_n C 0 dX3_goesOn_4 rfl rfl ?_
  refine ky_iconst C dX3_goesOn_5 (v := 3) (by decide) ?_
  refine ky_icmp_ne C 27 dX3_goesOn_6 (by decide) (fun c_6 => ?_) (fun c_6 => ?_)
  · have n_6 := kn_neq (a := p0 % 4) (b := 3) (by omega) (by omega) c_6
    refine ky_iload_n C 0 dX3_goesOn_27 rfl rfl ?_
    refine ky_if_ne C 36 dX3_goesOn_28 (by decide) (fun c_28 => ?_) (fun c_28 => ?_)
    · have n_28 := kn_neq (a := p0 % 4) (b := 0) (by omega) (by omega) c_28
      refine ky_bipush C dX3_goesOn_36 (v := 57) (by decide) ?_
      refine ky_istore_n C (lv' := [(3, .int 57), (2, .int (nI (p0 % 4))), (0, .int (nI p0)), (1, .int x)]) dX3_goesOn_38 rfl (by decide) rfl ?_
      refine ky_iload_n C 3 dX3_goesOn_39 rfl rfl ?_
      refine ky_bipush C dX3_goesOn_40 (v := 48) (by decide) ?_
      refine ky_icmp_lt C 54 dX3_goesOn_42 (by decide) (fun c_42 => ?_) (fun c_42 => ?_)
      · have d_42 := Int32.not_le.mpr c_42
        refine ky_iconst C dX3_goesOn_54 (v := 0) (by decide) ?_
        exact ky_zret C hr hlk rfl ⟨congrArg (fun z => some (Value.int z)) (show (0) = (if kGo p0 x = true then (1 : Int32) else 0) from by simp [kGo, c_6, n_6, c_28, n_28, c_42, d_42]), rfl⟩ (Nat.le_of_ble_eq_true rfl) dX3_goesOn_55
      · have d_42 := Int32.not_lt.mp c_42
        refine ky_iload_n C 3 dX3_goesOn_45 rfl rfl ?_
        refine ky_iload_n C 0 dX3_goesOn_46 rfl rfl ?_
        refine ky_icmp_gt C 54 dX3_goesOn_47 (by decide) (fun c_47 => ?_) (fun c_47 => ?_)
        · have d_47 := Int32.not_le.mpr c_47
          refine ky_iconst C dX3_goesOn_54 (v := 0) (by decide) ?_
          exact ky_zret C hr hlk rfl ⟨congrArg (fun z => some (Value.int z)) (show (0) = (if kGo p0 x = true then (1 : Int32) else 0) from by simp [kGo, c_6, n_6, c_28, n_28, c_42, d_42, c_47, d_47]), rfl⟩ (Nat.le_of_ble_eq_true rfl) dX3_goesOn_55
        · have d_47 := Int32.not_lt.mp c_47
          refine ky_iconst C dX3_goesOn_50 (v := 1) (by decide) ?_
          refine ky_goto C dX3_goesOn_51 (tgt := 55) (by decide) ?_
          exact ky_zret C hr hlk rfl ⟨congrArg (fun z => some (Value.int z)) (show (1) = (if kGo p0 x = true then (1 : Int32) else 0) from by simp [kGo, c_6, n_6, c_28, n_28, c_42, d_42, c_47, d_47]), rfl⟩ (Nat.le_of_ble_eq_true rfl) dX3_goesOn_55
    · have n_28 := kn_eq (a := p0 % 4) (b := 0) (by omega) (by omega) c_28
      refine ky_bipush C dX3_goesOn_31 (v := 51) (by decide) ?_
      refine ky_goto C dX3_goesOn_33 (tgt := 38) (by decide) ?_
      refine ky_istore_n C (lv' := [(3, .int 51), (2, .int (nI (p0 % 4))), (0, .int (nI p0)), (1, .int x)]) dX3_goesOn_38 rfl (by decide) rfl ?_
      refine ky_iload_n C 3 dX3_goesOn_39 rfl rfl ?_
      refine ky_bipush C dX3_goesOn_40 (v := 48) (by decide) ?_
      refine ky_icmp_lt C 54 dX3_goesOn_42 (by decide) (fun c_42 => ?_) (fun c_42 => ?_)
      · have d_42 := Int32.not_le.mpr c_42
        refine ky_iconst C dX3_goesOn_54 (v := 0) (by decide) ?_
        exact ky_zret C hr hlk rfl ⟨congrArg (fun z => some (Value.int z)) (show (0) = (if kGo p0 x = true then (1 : Int32) else 0) from by simp [kGo, c_6, n_6, c_28, n_28, c_42, d_42]), rfl⟩ (Nat.le_of_ble_eq_true rfl) dX3_goesOn_55
      · have d_42 := Int32.not_lt.mp c_42
        refine ky_iload_n C 3 dX3_goesOn_45 rfl rfl ?_
        refine ky_iload_n C 0 dX3_goesOn_46 rfl rfl ?_
        refine ky_icmp_gt C 54 dX3_goesOn_47 (by decide) (fun c_47 => ?_) (fun c_47 => ?_)
        · have d_47 := Int32.not_le.mpr c_47
          refine ky_iconst C dX3_goesOn_54 (v := 0) (by decide) ?_
          exact ky_zret C hr hlk rfl ⟨congrArg (fun z => some (Value.int z)) (show (0) = (if kGo p0 x = true then (1 : Int32) else 0) from by simp [kGo, c_6, n_6, c_28, n_28, c_42, d_42, c_47, d_47]), rfl⟩ (Nat.le_of_ble_eq_true rfl) dX3_goesOn_55
        · have d_47 := Int32.not_lt.mp c_47
          refine ky_iconst C dX3_goesOn_50 (v := 1) (by decide) ?_
          refine ky_goto C dX3_goesOn_51 (tgt := 55) (by decide) ?_
          exact ky_zret C hr hlk rfl ⟨congrArg (fun z => some (Value.int z)) (show (1) = (if kGo p0 x = true then (1 : Int32) else 0) from by simp [kGo, c_6, n_6, c_28, n_28, c_42, d_42, c_47, d_47]), rfl⟩ (Nat.le_of_ble_eq_true rfl) dX3_goesOn_55
  · have n_6 := kn_eq (a := p0 % 4) (b := 3) (by omega) (by omega) c_6
    refine ky_iload_n C 2 dX3_goesOn_9 rfl rfl ?_
    refine ky_bipush C dX3_goesOn_10 (v := 59) (by decide) ?_
    refine ky_icmp_ne C 25 dX3_goesOn_12 (by decide) (fun c_12 => ?_) (fun c_12 => ?_)
    · refine ky_iconst C dX3_goesOn_25 (v := 0) (by decide) ?_
      exact ky_zret C hr hlk rfl ⟨congrArg (fun z => some (Value.int z)) (show (0) = (if kGo p0 x = true then (1 : Int32) else 0) from by simp [kGo, c_6, n_6, c_12]), rfl⟩ (Nat.le_of_ble_eq_true rfl) dX3_goesOn_26
    · refine ky_iload_n C 1 dX3_goesOn_15 rfl rfl ?_
      refine ky_bipush C dX3_goesOn_16 (v := 31) (by decide) ?_
      refine ky_icmp_ge C 25 dX3_goesOn_18 (by decide) (fun c_18 => ?_) (fun c_18 => ?_)
      · have d_18 := Int32.not_lt.mpr c_18
        have n_18 := kn_le (a := 31) (b := p0) (by omega) (by omega) c_18
        have m_18 := Nat.not_lt.mpr n_18
        refine ky_iconst C dX3_goesOn_25 (v := 0) (by decide) ?_
        exact ky_zret C hr hlk rfl ⟨congrArg (fun z => some (Value.int z)) (show (0) = (if kGo p0 x = true then (1 : Int32) else 0) from by simp [kGo, c_6, n_6, c_12, c_18, d_18, n_18, m_18]), rfl⟩ (Nat.le_of_ble_eq_true rfl) dX3_goesOn_26
      · have d_18 := Int32.not_le.mp c_18
        have n_18 := kn_nle (a := 31) (b := p0) (by omega) (by omega) c_18
        have m_18 := Nat.not_le.mpr n_18
        refine ky_iconst C dX3_goesOn_21 (v := 1) (by decide) ?_
        refine ky_goto C dX3_goesOn_22 (tgt := 26) (by decide) ?_
        exact ky_zret C hr hlk rfl ⟨congrArg (fun z => some (Value.int z)) (show (1) = (if kGo p0 x = true then (1 : Int32) else 0) from by simp [kGo, c_6, n_6, c_12, c_18, d_18, n_18, m_18]), rfl⟩ (Nat.le_of_ble_eq_true rfl) dX3_goesOn_26
theorem hdX3_faultOfText : yX3_faultOfText.cls = RX3 ∧ yX3_faultOfText.cls ≠ "java/lang/invoke/MethodHandle" ∧ yX3_faultOfText.cls ≠ "java/lang/invoke/VarHandle" ∧ (parseMethodDescriptor yX3_faultOfText.desc).map (fun d => d.parameters.length) = some 3 := by decide +kernel
set_option maxRecDepth 100000 in
set_option maxHeartbeats 4000000 in
theorem kX3_faultOfText (l : Launch) (D : va_G) (cI cS : ClassId) (h0 : Nat) (hc : Nat) (sort : Int32) (len : Int32) (f : Nat → Int32) (i0 : Nat) (n0 : Nat) (hi0 : i0 + n0 ≤ 40) : kyM l yX3_faultOfText wsX3_faultOfText ({ frames := 1, cells := 0, slots := 0, locals := 23 }) D cI cS [.ref h0, .int (nI i0), .int (nI n0)] [(h0, .inr (4, [.ref hc, .int sort, .int len])), (hc, .inl (cI, 40, .inl f))] 0 0 (fun vR wR => vR = some (.int (kBad (fun p => f (i0 + p)) n0)) ∧ wR = [(h0, .inr (4, [.ref hc, .int sort, .int len])), (hc, .inl (cI, 40, .inl f))]) := by
  refine ky_start (own := RX3) (cc := cX3_faultOfText) (nL := 4) (ret := (some .int)) (by decide) rfl rfl (Nat.le_of_ble_eq_true rfl) ?_
  intro p e s m args below meth c C hr hlk hnm
  refine ky_conv (lv' := [(0, .ref h0), (1, .int (nI i0)), (2, .int (nI n0))]) (List.range 3) rfl rfl rfl ?_
  refine ky_iconst C dX3_faultOfText_0 (v := 0) (by decide) ?_
  refine ky_istore_n C (lv' := [(3, .int 0), (0, .ref h0), (1, .int (nI i0)), (2, .int (nI n0))]) dX3_faultOfText_1 rfl (by decide) rfl ?_
  refine ky_conv (ws' := [(h0, .inr (4, [.ref hc, .int sort, .int len])), (hc, .inl (cI, 40, .inl f))]) (lv' := [(3, .int 0), (0, .ref h0), (1, .int (nI i0)), (2, .int (nI n0))]) (st' := []) [0, 1, 2, 3] rfl rfl rfl ?_
  refine ky_loop1 (T1 := Nat) (Wf := (fun p1 => [(h0, .inr (4, [.ref hc, .int sort, .int len])), (hc, .inl (cI, 40, .inl f))])) (Lf := (fun p1 => [(3, .int (nI p1)), (0, .ref h0), (1, .int (nI i0)), (2, .int (nI n0))])) (Sf := (fun p1 => [])) (fun p1 => (p1 ≤ n0) ∧ (∀ q, q < p1 → kGo q ((fun p => f (i0 + p)) q) = true) ∧ True) (fun p1 => n0 - p1) ?_ 0 ⟨(by omega), (fun q hq => absurd hq (Nat.not_lt_zero q)), trivial⟩
  intro p1 hI_2 ih_2
  obtain ⟨hp1, hgo, -⟩ := hI_2
  have hp1 : p1 ≤ n0 := hp1
  have hgo : ∀ q, q < p1 → kGo q ((fun p => f (i0 + p)) q) = true := hgo
  refine ky_conv (ws' := [(h0, .inr (4, [.ref hc, .int sort, .int len])), (hc, .inl (cI, 40, .inl f))]) (lv' := [(3, .int (nI p1)), (0, .ref h0), (1, .int (nI i0)), (2, .int (nI n0))]) (st' := []) (List.range 4) rfl rfl rfl ?_
  refine ky_iload_n C 0 dX3_faultOfText_2 rfl rfl ?_
  refine ky_iload_n C 3 dX3_faultOfText_3 rfl rfl ?_
  refine ky_icmp_ge C 29 dX3_faultOfText_4 (by decide) (fun c_4 => ?_) (fun c_4 => ?_)
  · have d_4 := Int32.not_lt.mpr c_4
    have n_4 := kn_le (a := n0) (b := p1) (by omega) (by omega) c_4
    have m_4 := Nat.not_lt.mpr n_4
    refine ky_iload_n C 3 dX3_faultOfText_29 rfl rfl ?_
    refine ky_iconst C dX3_faultOfText_30 (v := 4) (by decide) ?_
    refine ky_irem C (v := nI (n0 % 4)) dX3_faultOfText_31 (by decide) (pk_rem (by omega) (by decide) (by decide)) ?_
    refine ky_iconst C dX3_faultOfText_32 (v := 3) (by decide) ?_
    refine ky_icmp_ne C 46 dX3_faultOfText_33 (by decide) (fun c_33 => ?_) (fun c_33 => ?_)
    · have n_33 := kn_neq (a := n0 % 4) (b := 3) (by omega) (by omega) c_33
      refine ky_iconst C dX3_faultOfText_46 (v := 0) (by decide) ?_
      refine ky_istore_n C (lv' := [(3, .int 0), (0, .ref h0), (1, .int (nI i0)), (2, .int (nI n0))]) dX3_faultOfText_47 rfl (by decide) rfl ?_
      refine ky_iload_n C 0 dX3_faultOfText_48 rfl rfl ?_
      refine ky_if_eq C 56 dX3_faultOfText_49 (by decide) (fun c_49 => ?_) (fun q => absurd q (by decide))
      refine ky_iload_n C 3 dX3_faultOfText_56 rfl rfl ?_
      exact ky_iret C hr hlk ⟨congrArg (fun z => some (Value.int z)) (show (nI n0) = (kBad (fun p => f (i0 + p)) n0) from by first | exact (kBad_ok (show p1 = n0 by omega) hgo (by omega) (by omega)).symm | exact (kBad_no (show p1 = n0 by omega) hgo (by omega)).symm), rfl⟩ (Nat.le_of_ble_eq_true rfl) dX3_faultOfText_57
    · have n_33 := kn_eq (a := n0 % 4) (b := 3) (by omega) (by omega) c_33
      refine ky_iload_n C 3 dX3_faultOfText_36 rfl rfl ?_
      refine ky_bipush C dX3_faultOfText_37 (v := 7) (by decide) ?_
      refine ky_icmp_lt C 46 dX3_faultOfText_39 (by decide) (fun c_39 => ?_) (fun c_39 => ?_)
      · have d_39 := Int32.not_le.mpr c_39
        have n_39 := kn_lt (a := n0) (b := 7) (by omega) (by omega) c_39
        have m_39 := Nat.not_le.mpr n_39
        refine ky_iconst C dX3_faultOfText_46 (v := 0) (by decide) ?_
        refine ky_istore_n C (lv' := [(3, .int 0), (0, .ref h0), (1, .int (nI i0)), (2, .int (nI n0))]) dX3_faultOfText_47 rfl (by decide) rfl ?_
        refine ky_iload_n C 0 dX3_faultOfText_48 rfl rfl ?_
        refine ky_if_eq C 56 dX3_faultOfText_49 (by decide) (fun c_49 => ?_) (fun q => absurd q (by decide))
        refine ky_iload_n C 3 dX3_faultOfText_56 rfl rfl ?_
        exact ky_iret C hr hlk ⟨congrArg (fun z => some (Value.int z)) (show (nI n0) = (kBad (fun p => f (i0 + p)) n0) from by first | exact (kBad_ok (show p1 = n0 by omega) hgo (by omega) (by omega)).symm | exact (kBad_no (show p1 = n0 by omega) hgo (by omega)).symm), rfl⟩ (Nat.le_of_ble_eq_true rfl) dX3_faultOfText_57
      · have d_39 := Int32.not_lt.mp c_39
        have n_39 := kn_nlt (a := n0) (b := 7) (by omega) (by omega) c_39
        have m_39 := Nat.not_lt.mpr n_39
        refine ky_iconst C dX3_faultOfText_42 (v := 1) (by decide) ?_
        refine ky_goto C dX3_faultOfText_43 (tgt := 47) (by decide) ?_
        refine ky_istore_n C (lv' := [(3, .int 1), (0, .ref h0), (1, .int (nI i0)), (2, .int (nI n0))]) dX3_faultOfText_47 rfl (by decide) rfl ?_
        refine ky_iload_n C 0 dX3_faultOfText_48 rfl rfl ?_
        refine ky_if_eq C 56 dX3_faultOfText_49 (by decide) (fun q => absurd q (by decide)) (fun c_49 => ?_)
        refine ky_iconst C dX3_faultOfText_52 (v := (-1)) (by decide) ?_
        refine ky_goto C dX3_faultOfText_53 (tgt := 57) (by decide) ?_
        exact ky_iret C hr hlk ⟨congrArg (fun z => some (Value.int z)) (show ((-1)) = (kBad (fun p => f (i0 + p)) n0) from by first | exact (kBad_ok (show p1 = n0 by omega) hgo (by omega) (by omega)).symm | exact (kBad_no (show p1 = n0 by omega) hgo (by omega)).symm), rfl⟩ (Nat.le_of_ble_eq_true rfl) dX3_faultOfText_57
  · have d_4 := Int32.not_le.mp c_4
    have n_4 := kn_nle (a := n0) (b := p1) (by omega) (by omega) c_4
    have m_4 := Nat.not_le.mpr n_4
    refine ky_iload_n C 0 dX3_faultOfText_7 rfl rfl ?_
    refine ky_aload_n C 1 dX3_faultOfText_8 rfl rfl ?_
    refine ky_iload_n C 2 dX3_faultOfText_9 rfl rfl ?_
    refine ky_iload_n C 0 dX3_faultOfText_10 rfl rfl ?_
    refine ky_iadd C (v := nI (i0 + p1)) dX3_faultOfText_11 (nI_add i0 p1) ?_
    refine ky_callV0 C 1 (kX4_read l D cI cS h0 hc sort len f (nI (i0 + p1))) gX3_faultOfText_X4_read rfl rfl rfl hdX4_read 0 4 rfl rfl rfl ⟨Nat.le_of_ble_eq_true rfl, Nat.le_of_ble_eq_true rfl⟩ rfl rfl (Nat.le_of_ble_eq_true rfl) dX3_faultOfText_12 [0, 1] rfl rfl ?_
    rintro _ _ ⟨rfl, rfl⟩
    refine ky_ws (ws' := [(h0, .inr (4, [.ref hc, .int sort, .int len])), (hc, .inl (cI, 40, .inl f))]) (st' := [.int (if 0 ≤ (nI (i0 + p1)) ∧ (nI (i0 + p1)) < 40 then f (nI (i0 + p1)).toNatClampNeg else 0), .int (nI p1)]) rfl rfl ?_
    refine ky_top (v' := .int (f (i0 + p1))) (congrArg Value.int (kRead_in (by omega))) ?_
    refine ky_callS0 C 2 (kX3_goesOn l D cI cS p1 (f (i0 + p1)) (by omega)) gX3_faultOfText_X3_goesOn rfl rfl rfl hdX3_goesOn.2 ⟨Nat.le_of_ble_eq_true rfl, Nat.le_of_ble_eq_true rfl⟩ rfl rfl (Nat.le_of_ble_eq_true rfl) dX3_faultOfText_15 [] rfl rfl ?_
    rintro _ _ ⟨rfl, rfl⟩
    refine ky_ws (ws' := [(h0, .inr (4, [.ref hc, .int sort, .int len])), (hc, .inl (cI, 40, .inl f))]) (st' := [.int (if kGo p1 (f (i0 + p1)) = true then (1 : Int32) else 0)]) rfl rfl ?_
    refine ky_if_ne C 23 dX3_faultOfText_18 (by decide) (fun c_18 => ?_) (fun c_18 => ?_)
    · have c_18 : kGo p1 (f (i0 + p1)) = true := kb1 c_18
      refine ky_iinc C 0 (v := nI (p1 + 1)) (lv' := [(3, .int (nI (p1 + 1))), (0, .ref h0), (1, .int (nI i0)), (2, .int (nI n0))]) dX3_faultOfText_23 rfl (nI_1 _) (by decide) rfl ?_
      refine ky_goto C dX3_faultOfText_26 (tgt := 2) (by decide) ?_
      exact ky_conv (ws' := [(h0, .inr (4, [.ref hc, .int sort, .int len])), (hc, .inl (cI, 40, .inl f))]) (lv' := [(3, .int (nI (p1 + 1))), (0, .ref h0), (1, .int (nI i0)), (2, .int (nI n0))]) (st' := []) [0, 1, 2, 3] rfl rfl rfl (ih_2 (p1 + 1) (show n0 - (p1 + 1) < n0 - p1 from by omega) ⟨(by omega), (kAnd2 hgo c_18), trivial⟩)
    · have c_18 : ¬ (kGo p1 (f (i0 + p1)) = true) := kb0 c_18
      refine ky_iload_n C 0 dX3_faultOfText_21 rfl rfl ?_
      exact ky_iret C hr hlk ⟨congrArg (fun z => some (Value.int z)) (show (nI p1) = (kBad (fun p => f (i0 + p)) n0) from by exact (kBad_at (show p1 < n0 by omega) hgo c_18).symm), rfl⟩ (Nat.le_of_ble_eq_true rfl) dX3_faultOfText_22
theorem hiX3_takeText_X3 : ∀ w ∈ wsX30, w ∈ wsX3_takeText := fun _ h => (List.mem_cons_of_mem _ (List.mem_append_left _ (List.mem_append_right _ h)))
theorem hdX3_takeText : yX3_takeText.cls = RX3 ∧ yX3_takeText.cls ≠ "java/lang/invoke/MethodHandle" ∧ yX3_takeText.cls ≠ "java/lang/invoke/VarHandle" ∧ (parseMethodDescriptor yX3_takeText.desc).map (fun d => d.parameters.length) = some 3 := by decide +kernel
set_option maxRecDepth 100000 in
set_option maxHeartbeats 4000000 in
theorem kX3_takeText (l : Launch) (D : va_G) (cI cS : ClassId) (ad : Nat → Nat) (N : Nat) (wind : Int32) (low : Int32) (forb : Int32) (club : Nat → Int32) (need : Nat → Int32) (worth : Nat → Int32) (h0 : Nat) (hc : Nat) (sort : Int32) (len : Int32) (f : Nat → Int32) (i0 : Nat) (n0 : Nat) (hi0 : i0 + n0 ≤ 40) (hn3 : n0 % 4 = 3) (hn31 : n0 ≤ 31) : kyM l yX3_takeText wsX3_takeText ({ frames := 1, cells := 0, slots := 0, locals := 21 }) D cI cS [.ref (ad 10), .ref h0, .int (nI i0), .int (nI n0)] [(ad 10, .inr (3, [.ref (ad 11), .ref (ad 12), .ref (ad 13), .int (nI N), .int wind, .int low, .int forb])), (ad 11, .inl (cI, 8, .inl club)), (ad 12, .inl (cI, 8, .inl need)), (ad 13, .inl (cI, 8, .inl worth)), (h0, .inr (4, [.ref hc, .int sort, .int len])), (hc, .inl (cI, 40, .inl f))] 0 0 (fun vR wR => vR = none ∧ wR = [(ad 10, .inr (3, [.ref (ad 11), .ref (ad 12), .ref (ad 13), .int (nI ((n0 + 1) / 4)), .int 0, .int 0, .int 0])), (ad 11, .inl (cI, 8, .inl (kFil (fun f9 => f (i0 + f9 * 4) - 48) club ((n0 + 1) / 4)))), (ad 12, .inl (cI, 8, .inl (kFil (fun f9 => f (i0 + f9 * 4 + 1) - 48) need ((n0 + 1) / 4)))), (ad 13, .inl (cI, 8, .inl (kFil (fun f9 => f (i0 + f9 * 4 + 2) - 48) worth ((n0 + 1) / 4)))), (h0, .inr (4, [.ref hc, .int sort, .int len])), (hc, .inl (cI, 40, .inl f))]) := by
  refine ky_start (own := RX3) (cc := cX3_takeText) (nL := 6) (ret := none) (by decide) rfl rfl (Nat.le_of_ble_eq_true rfl) ?_
  intro p e s m args below meth c C hr hlk hnm
  refine ky_conv (lv' := [(0, .ref (ad 10)), (1, .ref h0), (2, .int (nI i0)), (3, .int (nI n0))]) (List.range 4) rfl rfl rfl ?_
  refine ky_aload_n C 0 dX3_takeText_0 rfl rfl ?_
  refine ky_iload_n C 3 dX3_takeText_1 rfl rfl ?_
  refine ky_iconst C dX3_takeText_2 (v := 1) (by decide) ?_
  refine ky_iadd C (v := nI (n0 + 1)) dX3_takeText_3 (nI_add n0 1) ?_
  refine ky_iconst C dX3_takeText_4 (v := 4) (by decide) ?_
  refine ky_idiv C (v := nI ((n0 + 1) / 4)) dX3_takeText_5 (by decide) (pk_div (by omega) (by decide) (by decide)) ?_
  refine ky_bipush C dX3_takeText_6 (v := 8) (by decide) ?_
  refine ky_mmin C (List.mem_of_getElem? (i := 1) rfl) (List.mem_of_getElem? (i := 2) rfl) (List.mem_of_getElem? (i := 3) rfl) (List.mem_of_getElem? (i := 4) rfl) (Nat.le_of_ble_eq_true rfl) (Nat.le_of_ble_eq_true rfl) (Nat.le_of_ble_eq_true rfl) (Nat.le_of_ble_eq_true rfl) dX3_takeText_8 (v := nI ((n0 + 1) / 4)) ((kmin_nat (a := (n0 + 1) / 4) (b := 8) (by omega) (by decide)).trans (congrArg nI (Nat.min_eq_left (by omega)))) ?_
  refine ky_put C (ci := 3) (T := TX3) (N := 7) (Cn := RX3) (ref := "RainAccount$Land") hiX3_takeText_X3 tyX3 tyX3_ok nmX3 0 rfl rfl 3 (by decide) (List.mem_of_getElem? (i := 5) rfl) rfl rfl rfl rfl (Nat.le_of_ble_eq_true rfl) dX3_takeText_11 (ws' := [(ad 10, .inr (3, [.ref (ad 11), .ref (ad 12), .ref (ad 13), .int (nI ((n0 + 1) / 4)), .int wind, .int low, .int forb])), (ad 11, .inl (cI, 8, .inl club)), (ad 12, .inl (cI, 8, .inl need)), (ad 13, .inl (cI, 8, .inl worth)), (h0, .inr (4, [.ref hc, .int sort, .int len])), (hc, .inl (cI, 40, .inl f))]) rfl ?_
  refine ky_iconst C dX3_takeText_14 (v := 0) (by decide) ?_
  refine ky_istore C (lv' := [(4, .int 0), (0, .ref (ad 10)), (1, .ref h0), (2, .int (nI i0)), (3, .int (nI n0))]) dX3_takeText_15 (by decide) rfl ?_
  refine ky_conv (ws' := [(ad 10, .inr (3, [.ref (ad 11), .ref (ad 12), .ref (ad 13), .int (nI ((n0 + 1) / 4)), .int wind, .int low, .int forb])), (ad 11, .inl (cI, 8, .inl club)), (ad 12, .inl (cI, 8, .inl need)), (ad 13, .inl (cI, 8, .inl worth)), (h0, .inr (4, [.ref hc, .int sort, .int len])), (hc, .inl (cI, 40, .inl f))]) (lv' := [(4, .int 0), (0, .ref (ad 10)), (1, .ref h0), (2, .int (nI i0)), (3, .int (nI n0))]) (st' := []) [0, 1, 2, 3, 4] rfl rfl rfl ?_
  refine ky_loop4 (T1 := Nat) (T2 := Nat → Int32) (T3 := Nat → Int32) (T4 := Nat → Int32) (Wf := (fun f1 a1 a2 a3 => [(ad 10, .inr (3, [.ref (ad 11), .ref (ad 12), .ref (ad 13), .int (nI ((n0 + 1) / 4)), .int wind, .int low, .int forb])), (ad 11, .inl (cI, 8, .inl a1)), (ad 12, .inl (cI, 8, .inl a2)), (ad 13, .inl (cI, 8, .inl a3)), (h0, .inr (4, [.ref hc, .int sort, .int len])), (hc, .inl (cI, 40, .inl f))])) (Lf := (fun f1 a1 a2 a3 => [(4, .int (nI f1)), (0, .ref (ad 10)), (1, .ref h0), (2, .int (nI i0)), (3, .int (nI n0))])) (Sf := (fun f1 a1 a2 a3 => [])) (fun f1 a1 a2 a3 => (f1 ≤ (n0 + 1) / 4) ∧ (a1 = kFil (fun f9 => f (i0 + f9 * 4) - 48) club f1) ∧ (a2 = kFil (fun f9 => f (i0 + f9 * 4 + 1) - 48) need f1) ∧ (a3 = kFil (fun f9 => f (i0 + f9 * 4 + 2) - 48) worth f1) ∧ True) (fun f1 a1 a2 a3 => (n0 + 1) / 4 - f1) ?_ 0 club need worth ⟨(by omega), (kFil_0 _ _).symm, (kFil_0 _ _).symm, (kFil_0 _ _).symm, trivial⟩
  intro f1 a1 a2 a3 hI_17 ih_17
  obtain ⟨hf1, ha1, ha2, ha3, -⟩ := hI_17
  have hf1 : f1 ≤ (n0 + 1) / 4 := hf1
  have ha1 : a1 = kFil (fun f9 => f (i0 + f9 * 4) - 48) club f1 := ha1
  have ha2 : a2 = kFil (fun f9 => f (i0 + f9 * 4 + 1) - 48) need f1 := ha2
  have ha3 : a3 = kFil (fun f9 => f (i0 + f9 * 4 + 2) - 48) worth f1 := ha3
  refine ky_conv (ws' := [(ad 10, .inr (3, [.ref (ad 11), .ref (ad 12), .ref (ad 13), .int (nI ((n0 + 1) / 4)), .int wind, .int low, .int forb])), (ad 11, .inl (cI, 8, .inl a1)), (ad 12, .inl (cI, 8, .inl a2)), (ad 13, .inl (cI, 8, .inl a3)), (h0, .inr (4, [.ref hc, .int sort, .int len])), (hc, .inl (cI, 40, .inl f))]) (lv' := [(4, .int (nI f1)), (0, .ref (ad 10)), (1, .ref h0), (2, .int (nI i0)), (3, .int (nI n0))]) (st' := []) (List.range 5) rfl rfl rfl ?_
  refine ky_iload C 0 dX3_takeText_17 rfl ?_
  refine ky_aload_n C 1 dX3_takeText_19 rfl rfl ?_
  refine ky_get C (ci := 3) (T := TX3) (N := 7) (Cn := RX3) (ref := "RainAccount$Land") hiX3_takeText_X3 0 rfl rfl 3 (by decide) (List.mem_of_getElem? (i := 5) rfl) rfl (v := .int (nI ((n0 + 1) / 4))) rfl dX3_takeText_20 ?_
  refine ky_icmp_ge C 92 dX3_takeText_23 (by decide) (fun c_23 => ?_) (fun c_23 => ?_)
  · have d_23 := Int32.not_lt.mpr c_23
    have n_23 := kn_le (a := (n0 + 1) / 4) (b := f1) (by omega) (by omega) c_23
    have m_23 := Nat.not_lt.mpr n_23
    have hfe : f1 = (n0 + 1) / 4 := by omega
    rw [hfe] at ha1 ha2 ha3
    subst ha1
    subst ha2
    subst ha3
    refine ky_aload_n C 1 dX3_takeText_92 rfl rfl ?_
    refine ky_iconst C dX3_takeText_93 (v := 0) (by decide) ?_
    refine ky_put C (ci := 3) (T := TX3) (N := 7) (Cn := RX3) (ref := "RainAccount$Land") hiX3_takeText_X3 tyX3 tyX3_ok nmX3 0 rfl rfl 4 (by decide) (List.mem_of_getElem? (i := 9) rfl) rfl rfl rfl rfl (Nat.le_of_ble_eq_true rfl) dX3_takeText_94 (ws' := [(ad 10, .inr (3, [.ref (ad 11), .ref (ad 12), .ref (ad 13), .int (nI ((n0 + 1) / 4)), .int 0, .int low, .int forb])), (ad 11, .inl (cI, 8, .inl (kFil (fun f9 => f (i0 + f9 * 4) - 48) club ((n0 + 1) / 4)))), (ad 12, .inl (cI, 8, .inl (kFil (fun f9 => f (i0 + f9 * 4 + 1) - 48) need ((n0 + 1) / 4)))), (ad 13, .inl (cI, 8, .inl (kFil (fun f9 => f (i0 + f9 * 4 + 2) - 48) worth ((n0 + 1) / 4)))), (h0, .inr (4, [.ref hc, .int sort, .int len])), (hc, .inl (cI, 40, .inl f))]) rfl ?_
    refine ky_aload_n C 1 dX3_takeText_97 rfl rfl ?_
    refine ky_iconst C dX3_takeText_98 (v := 0) (by decide) ?_
    refine ky_put C (ci := 3) (T := TX3) (N := 7) (Cn := RX3) (ref := "RainAccount$Land") hiX3_takeText_X3 tyX3 tyX3_ok nmX3 0 rfl rfl 5 (by decide) (List.mem_of_getElem? (i := 10) rfl) rfl rfl rfl rfl (Nat.le_of_ble_eq_true rfl) dX3_takeText_99 (ws' := [(ad 10, .inr (3, [.ref (ad 11), .ref (ad 12), .ref (ad 13), .int (nI ((n0 + 1) / 4)), .int 0, .int 0, .int forb])), (ad 11, .inl (cI, 8, .inl (kFil (fun f9 => f (i0 + f9 * 4) - 48) club ((n0 + 1) / 4)))), (ad 12, .inl (cI, 8, .inl (kFil (fun f9 => f (i0 + f9 * 4 + 1) - 48) need ((n0 + 1) / 4)))), (ad 13, .inl (cI, 8, .inl (kFil (fun f9 => f (i0 + f9 * 4 + 2) - 48) worth ((n0 + 1) / 4)))), (h0, .inr (4, [.ref hc, .int sort, .int len])), (hc, .inl (cI, 40, .inl f))]) rfl ?_
    refine ky_aload_n C 1 dX3_takeText_102 rfl rfl ?_
    refine ky_iconst C dX3_takeText_103 (v := 0) (by decide) ?_
    refine ky_put C (ci := 3) (T := TX3) (N := 7) (Cn := RX3) (ref := "RainAccount$Land") hiX3_takeText_X3 tyX3 tyX3_ok nmX3 0 rfl rfl 6 (by decide) (List.mem_of_getElem? (i := 11) rfl) rfl rfl rfl rfl (Nat.le_of_ble_eq_true rfl) dX3_takeText_104 (ws' := [(ad 10, .inr (3, [.ref (ad 11), .ref (ad 12), .ref (ad 13), .int (nI ((n0 + 1) / 4)), .int 0, .int 0, .int 0])), (ad 11, .inl (cI, 8, .inl (kFil (fun f9 => f (i0 + f9 * 4) - 48) club ((n0 + 1) / 4)))), (ad 12, .inl (cI, 8, .inl (kFil (fun f9 => f (i0 + f9 * 4 + 1) - 48) need ((n0 + 1) / 4)))), (ad 13, .inl (cI, 8, .inl (kFil (fun f9 => f (i0 + f9 * 4 + 2) - 48) worth ((n0 + 1) / 4)))), (h0, .inr (4, [.ref hc, .int sort, .int len])), (hc, .inl (cI, 40, .inl f))]) rfl ?_
    exact ky_vret C hr hlk ⟨rfl, rfl⟩ (Nat.le_of_ble_eq_true rfl) dX3_takeText_107
  · have d_23 := Int32.not_le.mp c_23
    have n_23 := kn_nle (a := (n0 + 1) / 4) (b := f1) (by omega) (by omega) c_23
    have m_23 := Nat.not_le.mpr n_23
    refine ky_iload_n C 3 dX3_takeText_26 rfl rfl ?_
    refine ky_iload C 0 dX3_takeText_27 rfl ?_
    refine ky_iconst C dX3_takeText_29 (v := 4) (by decide) ?_
    refine ky_imul C (v := nI (f1 * 4)) dX3_takeText_30 (pk_mul f1 4) ?_
    refine ky_iadd C (v := nI (i0 + f1 * 4)) dX3_takeText_31 (nI_add i0 (f1 * 4)) ?_
    refine ky_istore C (lv' := [(5, .int (nI (i0 + f1 * 4))), (4, .int (nI f1)), (0, .ref (ad 10)), (1, .ref h0), (2, .int (nI i0)), (3, .int (nI n0))]) dX3_takeText_32 (by decide) rfl ?_
    refine ky_aload_n C 2 dX3_takeText_34 rfl rfl ?_
    refine ky_get C (ci := 3) (T := TX3) (N := 7) (Cn := RX3) (ref := "RainAccount$Land") hiX3_takeText_X3 0 rfl rfl 0 (by decide) (List.mem_of_getElem? (i := 6) rfl) rfl (v := .ref (ad 11)) rfl dX3_takeText_35 ?_
    refine ky_iload C 1 dX3_takeText_38 rfl ?_
    refine ky_aload_n C 3 dX3_takeText_40 rfl rfl ?_
    refine ky_iload C 0 dX3_takeText_41 rfl ?_
    refine ky_callV0 C 1 (kX4_read l D cI cS h0 hc sort len f (nI (i0 + f1 * 4))) gX3_takeText_X4_read rfl rfl rfl hdX4_read 4 4 rfl rfl rfl ⟨Nat.le_of_ble_eq_true rfl, Nat.le_of_ble_eq_true rfl⟩ rfl rfl (Nat.le_of_ble_eq_true rfl) dX3_takeText_43 [4, 5] rfl rfl ?_
    rintro _ _ ⟨rfl, rfl⟩
    refine ky_ws (ws' := [(ad 10, .inr (3, [.ref (ad 11), .ref (ad 12), .ref (ad 13), .int (nI ((n0 + 1) / 4)), .int wind, .int low, .int forb])), (ad 11, .inl (cI, 8, .inl a1)), (ad 12, .inl (cI, 8, .inl a2)), (ad 13, .inl (cI, 8, .inl a3)), (h0, .inr (4, [.ref hc, .int sort, .int len])), (hc, .inl (cI, 40, .inl f))]) (st' := [.int (if 0 ≤ (nI (i0 + f1 * 4)) ∧ (nI (i0 + f1 * 4)) < 40 then f (nI (i0 + f1 * 4)).toNatClampNeg else 0), .int (nI f1), .ref (ad 11)]) rfl rfl ?_
    refine ky_top (v' := .int (f (i0 + f1 * 4))) (congrArg Value.int (kRead_in (by omega))) ?_
    refine ky_bipush C dX3_takeText_46 (v := 48) (by decide) ?_
    refine ky_isub C (v := (f (i0 + f1 * 4)) - 48) dX3_takeText_48 rfl ?_
    refine ky_iastN C 1 (k := f1) rfl (by omega) (by decide) dX3_takeText_49 (ws' := [(ad 10, .inr (3, [.ref (ad 11), .ref (ad 12), .ref (ad 13), .int (nI ((n0 + 1) / 4)), .int wind, .int low, .int forb])), (ad 11, .inl (cI, 8, .inl (upd a1 f1 ((f (i0 + f1 * 4)) - 48)))), (ad 12, .inl (cI, 8, .inl a2)), (ad 13, .inl (cI, 8, .inl a3)), (h0, .inr (4, [.ref hc, .int sort, .int len])), (hc, .inl (cI, 40, .inl f))]) rfl ?_
    refine ky_aload_n C 2 dX3_takeText_50 rfl rfl ?_
    refine ky_get C (ci := 3) (T := TX3) (N := 7) (Cn := RX3) (ref := "RainAccount$Land") hiX3_takeText_X3 0 rfl rfl 1 (by decide) (List.mem_of_getElem? (i := 7) rfl) rfl (v := .ref (ad 12)) rfl dX3_takeText_51 ?_
    refine ky_iload C 1 dX3_takeText_54 rfl ?_
    refine ky_aload_n C 3 dX3_takeText_56 rfl rfl ?_
    refine ky_iload C 0 dX3_takeText_57 rfl ?_
    refine ky_iconst C dX3_takeText_59 (v := 1) (by decide) ?_
    refine ky_iadd C (v := nI (i0 + f1 * 4 + 1)) dX3_takeText_60 (nI_add (i0 + f1 * 4) 1) ?_
    refine ky_callV0 C 1 (kX4_read l D cI cS h0 hc sort len f (nI (i0 + f1 * 4 + 1))) gX3_takeText_X4_read rfl rfl rfl hdX4_read 4 4 rfl rfl rfl ⟨Nat.le_of_ble_eq_true rfl, Nat.le_of_ble_eq_true rfl⟩ rfl rfl (Nat.le_of_ble_eq_true rfl) dX3_takeText_61 [4, 5] rfl rfl ?_
    rintro _ _ ⟨rfl, rfl⟩
    refine ky_ws (ws' := [(ad 10, .inr (3, [.ref (ad 11), .ref (ad 12), .ref (ad 13), .int (nI ((n0 + 1) / 4)), .int wind, .int low, .int forb])), (ad 11, .inl (cI, 8, .inl (upd a1 f1 ((f (i0 + f1 * 4)) - 48)))), (ad 12, .inl (cI, 8, .inl a2)), (ad 13, .inl (cI, 8, .inl a3)), (h0, .inr (4, [.ref hc, .int sort, .int len])), (hc, .inl (cI, 40, .inl f))]) (st' := [.int (if 0 ≤ (nI (i0 + f1 * 4 + 1)) ∧ (nI (i0 + f1 * 4 + 1)) < 40 then f (nI (i0 + f1 * 4 + 1)).toNatClampNeg else 0), .int (nI f1), .ref (ad 12)]) rfl rfl ?_
    refine ky_top (v' := .int (f (i0 + f1 * 4 + 1))) (congrArg Value.int (kRead_in (by omega))) ?_
    refine ky_bipush C dX3_takeText_64 (v := 48) (by decide) ?_
    refine ky_isub C (v := (f (i0 + f1 * 4 + 1)) - 48) dX3_takeText_66 rfl ?_
    refine ky_iastN C 2 (k := f1) rfl (by omega) (by decide) dX3_takeText_67 (ws' := [(ad 10, .inr (3, [.ref (ad 11), .ref (ad 12), .ref (ad 13), .int (nI ((n0 + 1) / 4)), .int wind, .int low, .int forb])), (ad 11, .inl (cI, 8, .inl (upd a1 f1 ((f (i0 + f1 * 4)) - 48)))), (ad 12, .inl (cI, 8, .inl (upd a2 f1 ((f (i0 + f1 * 4 + 1)) - 48)))), (ad 13, .inl (cI, 8, .inl a3)), (h0, .inr (4, [.ref hc, .int sort, .int len])), (hc, .inl (cI, 40, .inl f))]) rfl ?_
    refine ky_aload_n C 2 dX3_takeText_68 rfl rfl ?_
    refine ky_get C (ci := 3) (T := TX3) (N := 7) (Cn := RX3) (ref := "RainAccount$Land") hiX3_takeText_X3 0 rfl rfl 2 (by decide) (List.mem_of_getElem? (i := 8) rfl) rfl (v := .ref (ad 13)) rfl dX3_takeText_69 ?_
    refine ky_iload C 1 dX3_takeText_72 rfl ?_
    refine ky_aload_n C 3 dX3_takeText_74 rfl rfl ?_
    refine ky_iload C 0 dX3_takeText_75 rfl ?_
    refine ky_iconst C dX3_takeText_77 (v := 2) (by decide) ?_
    refine ky_iadd C (v := nI (i0 + f1 * 4 + 2)) dX3_takeText_78 (nI_add (i0 + f1 * 4) 2) ?_
    refine ky_callV0 C 1 (kX4_read l D cI cS h0 hc sort len f (nI (i0 + f1 * 4 + 2))) gX3_takeText_X4_read rfl rfl rfl hdX4_read 4 4 rfl rfl rfl ⟨Nat.le_of_ble_eq_true rfl, Nat.le_of_ble_eq_true rfl⟩ rfl rfl (Nat.le_of_ble_eq_true rfl) dX3_takeText_79 [4, 5] rfl rfl ?_
    rintro _ _ ⟨rfl, rfl⟩
    refine ky_ws (ws' := [(ad 10, .inr (3, [.ref (ad 11), .ref (ad 12), .ref (ad 13), .int (nI ((n0 + 1) / 4)), .int wind, .int low, .int forb])), (ad 11, .inl (cI, 8, .inl (upd a1 f1 ((f (i0 + f1 * 4)) - 48)))), (ad 12, .inl (cI, 8, .inl (upd a2 f1 ((f (i0 + f1 * 4 + 1)) - 48)))), (ad 13, .inl (cI, 8, .inl a3)), (h0, .inr (4, [.ref hc, .int sort, .int len])), (hc, .inl (cI, 40, .inl f))]) (st' := [.int (if 0 ≤ (nI (i0 + f1 * 4 + 2)) ∧ (nI (i0 + f1 * 4 + 2)) < 40 then f (nI (i0 + f1 * 4 + 2)).toNatClampNeg else 0), .int (nI f1), .ref (ad 13)]) rfl rfl ?_
    refine ky_top (v' := .int (f (i0 + f1 * 4 + 2))) (congrArg Value.int (kRead_in (by omega))) ?_
    refine ky_bipush C dX3_takeText_82 (v := 48) (by decide) ?_
    refine ky_isub C (v := (f (i0 + f1 * 4 + 2)) - 48) dX3_takeText_84 rfl ?_
    refine ky_iastN C 3 (k := f1) rfl (by omega) (by decide) dX3_takeText_85 (ws' := [(ad 10, .inr (3, [.ref (ad 11), .ref (ad 12), .ref (ad 13), .int (nI ((n0 + 1) / 4)), .int wind, .int low, .int forb])), (ad 11, .inl (cI, 8, .inl (upd a1 f1 ((f (i0 + f1 * 4)) - 48)))), (ad 12, .inl (cI, 8, .inl (upd a2 f1 ((f (i0 + f1 * 4 + 1)) - 48)))), (ad 13, .inl (cI, 8, .inl (upd a3 f1 ((f (i0 + f1 * 4 + 2)) - 48)))), (h0, .inr (4, [.ref hc, .int sort, .int len])), (hc, .inl (cI, 40, .inl f))]) rfl ?_
    refine ky_iinc C 1 (v := nI (f1 + 1)) (lv' := [(4, .int (nI (f1 + 1))), (5, .int (nI (i0 + f1 * 4))), (0, .ref (ad 10)), (1, .ref h0), (2, .int (nI i0)), (3, .int (nI n0))]) dX3_takeText_86 rfl (nI_1 _) (by decide) rfl ?_
    refine ky_goto C dX3_takeText_89 (tgt := 17) (by decide) ?_
    exact ky_conv (ws' := [(ad 10, .inr (3, [.ref (ad 11), .ref (ad 12), .ref (ad 13), .int (nI ((n0 + 1) / 4)), .int wind, .int low, .int forb])), (ad 11, .inl (cI, 8, .inl (upd a1 f1 ((f (i0 + f1 * 4)) - 48)))), (ad 12, .inl (cI, 8, .inl (upd a2 f1 ((f (i0 + f1 * 4 + 1)) - 48)))), (ad 13, .inl (cI, 8, .inl (upd a3 f1 ((f (i0 + f1 * 4 + 2)) - 48)))), (h0, .inr (4, [.ref hc, .int sort, .int len])), (hc, .inl (cI, 40, .inl f))]) (lv' := [(4, .int (nI (f1 + 1))), (0, .ref (ad 10)), (1, .ref h0), (2, .int (nI i0)), (3, .int (nI n0))]) (st' := []) [0, 2, 3, 4, 5] rfl rfl rfl (ih_17 (f1 + 1) (upd a1 f1 ((f (i0 + f1 * 4)) - 48)) (upd a2 f1 ((f (i0 + f1 * 4 + 1)) - 48)) (upd a3 f1 ((f (i0 + f1 * 4 + 2)) - 48)) (show (n0 + 1) / 4 - (f1 + 1) < (n0 + 1) / 4 - f1 from by omega) ⟨(by omega), (by rw [ha1]; exact kFil_succ _ _ _ rfl), (by rw [ha2]; exact kFil_succ _ _ _ rfl), (by rw [ha3]; exact kFil_succ _ _ _ rfl), trivial⟩)
theorem hiX7_plain_X3 : ∀ w ∈ wsX30, w ∈ wsX7_plain := fun _ h => (List.mem_cons_of_mem _ (List.mem_append_left _ (List.mem_append_right _ h)))
theorem hiX7_plain_X5 : ∀ w ∈ wsX50, w ∈ wsX7_plain := fun _ h => (List.mem_cons_of_mem _ (List.mem_append_left _ (List.mem_append_left _ (List.mem_append_right _ h))))
theorem hiX7_plain_X6 : ∀ w ∈ wsX60, w ∈ wsX7_plain := fun _ h => (List.mem_cons_of_mem _ (List.mem_append_left _ (List.mem_append_left _ (List.mem_append_left _ (List.mem_append_right _ h)))))
theorem hiX7_plain_X7 : ∀ w ∈ wsX70, w ∈ wsX7_plain := fun _ h => (List.mem_cons_of_mem _ (List.mem_append_left _ (List.mem_append_left _ (List.mem_append_left _ (List.mem_append_left _ (List.mem_append_right _ h))))))
theorem hdX7_plain : yX7_plain.cls = RX7 ∧ yX7_plain.cls ≠ "java/lang/invoke/MethodHandle" ∧ yX7_plain.cls ≠ "java/lang/invoke/VarHandle" ∧ (parseMethodDescriptor yX7_plain.desc).map (fun d => d.parameters.length) = some 4 := by decide +kernel
set_option maxRecDepth 100000 in
set_option maxHeartbeats 4000000 in
/-- X7_plain -/
theorem kX7_plain (l : Launch) (D : va_G) (cI cS : ClassId) (ad : Nat → Nat) (left : Int32) (lastF : Int32) (sh : Nat → kSh) (N : Nat) (wind : Int32) (low : Int32) (forb : Int32) (club : Nat → Int32) (need : Nat → Int32) (worth : Nat → Int32) (nc : Nat) (ns : Nat) (x : Int32) (y : Int32) (z : Int32) (u : Int32) (hsh : kShOk sh) (hN : N ≤ 8) : kyM l yX7_plain wsX7_plain ({ frames := 2, cells := 0, slots := 0, locals := 46 }) D cI cS [.ref (ad 0), .int x, .int y, .int z, .int u] [(ad 0, .inr (7, [.ref (ad 1), .ref (ad 10), .ref (ad 14), .ref (ad 18), .ref (ad 23), .ref (ad 29), .ref (ad 32), .int left, .int lastF])), (ad 1, .inl (cS, 4, .inr (.inr (.inr (.inr (fun k => some (ad (2 + 2 * k)))))))), (ad 2, .inr (4, [.ref (ad 3), .int ((sh 0).1), .int ((sh 0).2.1)])), (ad 3, .inl (cI, 40, .inl ((sh 0).2.2))), (ad 4, .inr (4, [.ref (ad 5), .int ((sh 1).1), .int ((sh 1).2.1)])), (ad 5, .inl (cI, 40, .inl ((sh 1).2.2))), (ad 6, .inr (4, [.ref (ad 7), .int ((sh 2).1), .int ((sh 2).2.1)])), (ad 7, .inl (cI, 40, .inl ((sh 2).2.2))), (ad 8, .inr (4, [.ref (ad 9), .int ((sh 3).1), .int ((sh 3).2.1)])), (ad 9, .inl (cI, 40, .inl ((sh 3).2.2))), (ad 10, .inr (3, [.ref (ad 11), .ref (ad 12), .ref (ad 13), .int (nI N), .int wind, .int low, .int forb])), (ad 11, .inl (cI, 8, .inl club)), (ad 12, .inl (cI, 8, .inl need)), (ad 13, .inl (cI, 8, .inl worth)), (ad 14, .inr (6, [.ref (ad 15), .ref (ad 16), .ref (ad 17), .int (nI nc)])), (ad 18, .inr (5, [.ref (ad 19), .ref (ad 20), .ref (ad 21), .ref (ad 22), .int (nI ns)]))] 0 0 (fun vR wR => ∃ r2 : Int32, ∃ lf2 : Int32, ∃ N2 : Nat, ∃ wind2 : Int32, ∃ low2 : Int32, ∃ forb2 : Int32, ∃ club2 : Nat → Int32, ∃ need2 : Nat → Int32, ∃ worth2 : Nat → Int32, ∃ nc2 : Nat, ∃ ns2 : Nat, vR = some (.int r2) ∧ wR = [(ad 0, .inr (7, [.ref (ad 1), .ref (ad 10), .ref (ad 14), .ref (ad 18), .ref (ad 23), .ref (ad 29), .ref (ad 32), .int left, .int lf2])), (ad 1, .inl (cS, 4, .inr (.inr (.inr (.inr (fun k => some (ad (2 + 2 * k)))))))), (ad 2, .inr (4, [.ref (ad 3), .int ((sh 0).1), .int ((sh 0).2.1)])), (ad 3, .inl (cI, 40, .inl ((sh 0).2.2))), (ad 4, .inr (4, [.ref (ad 5), .int ((sh 1).1), .int ((sh 1).2.1)])), (ad 5, .inl (cI, 40, .inl ((sh 1).2.2))), (ad 6, .inr (4, [.ref (ad 7), .int ((sh 2).1), .int ((sh 2).2.1)])), (ad 7, .inl (cI, 40, .inl ((sh 2).2.2))), (ad 8, .inr (4, [.ref (ad 9), .int ((sh 3).1), .int ((sh 3).2.1)])), (ad 9, .inl (cI, 40, .inl ((sh 3).2.2))), (ad 10, .inr (3, [.ref (ad 11), .ref (ad 12), .ref (ad 13), .int (nI N2), .int wind2, .int low2, .int forb2])), (ad 11, .inl (cI, 8, .inl club2)), (ad 12, .inl (cI, 8, .inl need2)), (ad 13, .inl (cI, 8, .inl worth2)), (ad 14, .inr (6, [.ref (ad 15), .ref (ad 16), .ref (ad 17), .int (nI nc2)])), (ad 18, .inr (5, [.ref (ad 19), .ref (ad 20), .ref (ad 21), .ref (ad 22), .int (nI ns2)]))] ∧ ((r2, lf2, N2, wind2, low2, forb2, club2, need2, worth2, nc2, ns2) = kF_plain sh N wind low forb club need worth nc ns x y z u)) := by
  refine ky_start (own := RX7) (cc := cX7_plain) (nL := 8) (ret := (some .int)) (by decide) rfl rfl (Nat.le_of_ble_eq_true rfl) ?_
  intro p e s m args below meth c C hr hlk hnm
  refine ky_conv (lv' := [(0, .ref (ad 0)), (1, .int x), (2, .int y), (3, .int z), (4, .int u)]) (List.range 5) rfl rfl rfl ?_
  refine ky_aload_n C 0 dX7_plain_0 rfl rfl ?_
  refine ky_iconst C dX7_plain_1 (v := 0) (by decide) ?_
  refine ky_put C (ci := 7) (T := TX7) (N := 9) (Cn := RX7) (ref := "RainAccount") hiX7_plain_X7 tyX7 tyX7_ok nmX7 0 rfl rfl 8 (by decide) (List.mem_of_getElem? (i := 1) rfl) rfl rfl rfl rfl (Nat.le_of_ble_eq_true rfl) dX7_plain_2 (ws' := [(ad 0, .inr (7, [.ref (ad 1), .ref (ad 10), .ref (ad 14), .ref (ad 18), .ref (ad 23), .ref (ad 29), .ref (ad 32), .int left, .int 0])), (ad 1, .inl (cS, 4, .inr (.inr (.inr (.inr (fun k => some (ad (2 + 2 * k)))))))), (ad 2, .inr (4, [.ref (ad 3), .int ((sh 0).1), .int ((sh 0).2.1)])), (ad 3, .inl (cI, 40, .inl ((sh 0).2.2))), (ad 4, .inr (4, [.ref (ad 5), .int ((sh 1).1), .int ((sh 1).2.1)])), (ad 5, .inl (cI, 40, .inl ((sh 1).2.2))), (ad 6, .inr (4, [.ref (ad 7), .int ((sh 2).1), .int ((sh 2).2.1)])), (ad 7, .inl (cI, 40, .inl ((sh 2).2.2))), (ad 8, .inr (4, [.ref (ad 9), .int ((sh 3).1), .int ((sh 3).2.1)])), (ad 9, .inl (cI, 40, .inl ((sh 3).2.2))), (ad 10, .inr (3, [.ref (ad 11), .ref (ad 12), .ref (ad 13), .int (nI N), .int wind, .int low, .int forb])), (ad 11, .inl (cI, 8, .inl club)), (ad 12, .inl (cI, 8, .inl need)), (ad 13, .inl (cI, 8, .inl worth)), (ad 14, .inr (6, [.ref (ad 15), .ref (ad 16), .ref (ad 17), .int (nI nc)])), (ad 18, .inr (5, [.ref (ad 19), .ref (ad 20), .ref (ad 21), .ref (ad 22), .int (nI ns)]))]) rfl ?_
  refine ky_iload_n C 1 dX7_plain_5 rfl rfl ?_
  refine ky_callS0 C 1 (kX7_isSheet l D cI cS x) gX7_plain_X7_isSheet rfl rfl rfl hdX7_isSheet.2 ⟨Nat.le_of_ble_eq_true rfl, Nat.le_of_ble_eq_true rfl⟩ rfl rfl (Nat.le_of_ble_eq_true rfl) dX7_plain_6 [] rfl rfl ?_
  rintro _ _ ⟨rfl, rfl⟩
  refine ky_ws (ws' := [(ad 0, .inr (7, [.ref (ad 1), .ref (ad 10), .ref (ad 14), .ref (ad 18), .ref (ad 23), .ref (ad 29), .ref (ad 32), .int left, .int 0])), (ad 1, .inl (cS, 4, .inr (.inr (.inr (.inr (fun k => some (ad (2 + 2 * k)))))))), (ad 2, .inr (4, [.ref (ad 3), .int ((sh 0).1), .int ((sh 0).2.1)])), (ad 3, .inl (cI, 40, .inl ((sh 0).2.2))), (ad 4, .inr (4, [.ref (ad 5), .int ((sh 1).1), .int ((sh 1).2.1)])), (ad 5, .inl (cI, 40, .inl ((sh 1).2.2))), (ad 6, .inr (4, [.ref (ad 7), .int ((sh 2).1), .int ((sh 2).2.1)])), (ad 7, .inl (cI, 40, .inl ((sh 2).2.2))), (ad 8, .inr (4, [.ref (ad 9), .int ((sh 3).1), .int ((sh 3).2.1)])), (ad 9, .inl (cI, 40, .inl ((sh 3).2.2))), (ad 10, .inr (3, [.ref (ad 11), .ref (ad 12), .ref (ad 13), .int (nI N), .int wind, .int low, .int forb])), (ad 11, .inl (cI, 8, .inl club)), (ad 12, .inl (cI, 8, .inl need)), (ad 13, .inl (cI, 8, .inl worth)), (ad 14, .inr (6, [.ref (ad 15), .ref (ad 16), .ref (ad 17), .int (nI nc)])), (ad 18, .inr (5, [.ref (ad 19), .ref (ad 20), .ref (ad 21), .ref (ad 22), .int (nI ns)]))]) (st' := [.int (if 0 ≤ x ∧ x ≤ 3 then (1 : Int32) else 0)]) rfl rfl ?_
  refine ky_if_ne C 14 dX7_plain_9 (by decide) (fun c_9 => ?_) (fun c_9 => ?_)
  · have c_9 : 0 ≤ x ∧ x ≤ 3 := kb1 c_9
    refine ky_iload_n C 2 dX7_plain_14 rfl rfl ?_
    refine ky_callS0 C 1 (kX7_isSort l D cI cS y) gX7_plain_X7_isSort rfl rfl rfl hdX7_isSort.2 ⟨Nat.le_of_ble_eq_true rfl, Nat.le_of_ble_eq_true rfl⟩ rfl rfl (Nat.le_of_ble_eq_true rfl) dX7_plain_15 [] rfl rfl ?_
    rintro _ _ ⟨rfl, rfl⟩
    refine ky_ws (ws' := [(ad 0, .inr (7, [.ref (ad 1), .ref (ad 10), .ref (ad 14), .ref (ad 18), .ref (ad 23), .ref (ad 29), .ref (ad 32), .int left, .int 0])), (ad 1, .inl (cS, 4, .inr (.inr (.inr (.inr (fun k => some (ad (2 + 2 * k)))))))), (ad 2, .inr (4, [.ref (ad 3), .int ((sh 0).1), .int ((sh 0).2.1)])), (ad 3, .inl (cI, 40, .inl ((sh 0).2.2))), (ad 4, .inr (4, [.ref (ad 5), .int ((sh 1).1), .int ((sh 1).2.1)])), (ad 5, .inl (cI, 40, .inl ((sh 1).2.2))), (ad 6, .inr (4, [.ref (ad 7), .int ((sh 2).1), .int ((sh 2).2.1)])), (ad 7, .inl (cI, 40, .inl ((sh 2).2.2))), (ad 8, .inr (4, [.ref (ad 9), .int ((sh 3).1), .int ((sh 3).2.1)])), (ad 9, .inl (cI, 40, .inl ((sh 3).2.2))), (ad 10, .inr (3, [.ref (ad 11), .ref (ad 12), .ref (ad 13), .int (nI N), .int wind, .int low, .int forb])), (ad 11, .inl (cI, 8, .inl club)), (ad 12, .inl (cI, 8, .inl need)), (ad 13, .inl (cI, 8, .inl worth)), (ad 14, .inr (6, [.ref (ad 15), .ref (ad 16), .ref (ad 17), .int (nI nc)])), (ad 18, .inr (5, [.ref (ad 19), .ref (ad 20), .ref (ad 21), .ref (ad 22), .int (nI ns)]))]) (st' := [.int (if 0 ≤ y ∧ y ≤ 2 then (1 : Int32) else 0)]) rfl rfl ?_
    refine ky_if_ne C 24 dX7_plain_18 (by decide) (fun c_18 => ?_) (fun c_18 => ?_)
    · have c_18 : 0 ≤ y ∧ y ≤ 2 := kb1 c_18
      obtain ⟨j, hj, rfl⟩ := kixle (n := 3) c_9 (by omega)
      have hcj : (nI j).toNatClampNeg = j := nI_clamp (by omega)
      rcases kt_4 (show j < 4 by omega) with rfl | rfl | rfl | rfl
      · refine ky_aload_n C 0 dX7_plain_24 rfl rfl ?_
        refine ky_get C (ci := 7) (T := TX7) (N := 9) (Cn := RX7) (ref := "RainAccount") hiX7_plain_X7 0 rfl rfl 0 (by decide) (List.mem_of_getElem? (i := 2) rfl) rfl (v := .ref (ad 1)) rfl dX7_plain_25 ?_
        refine ky_iload_n C 1 dX7_plain_28 rfl rfl ?_
        refine ky_aald C 1 (k := 0) (b := ad 2) rfl (by omega) (by decide) rfl dX7_plain_29 ?_
        refine ky_astore C (lv' := [(5, .ref (ad 2)), (0, .ref (ad 0)), (1, .int (nI 0)), (2, .int y), (3, .int z), (4, .int u)]) dX7_plain_30 (by decide) rfl ?_
        refine ky_aload C 0 dX7_plain_32 rfl ?_
        refine ky_iload_n C 3 dX7_plain_34 rfl rfl ?_
        refine ky_iload_n C 4 dX7_plain_35 rfl rfl ?_
        refine ky_iload C 5 dX7_plain_36 rfl ?_
        refine ky_callV0 C 3 (kX4_faultOfCells l D cI cS (ad 2) (ad 3) ((sh 0).1) ((sh 0).2.1) y z u) gX7_plain_X4_faultOfCells rfl rfl rfl hdX4_faultOfCells 2 4 rfl rfl rfl ⟨Nat.le_of_ble_eq_true rfl, Nat.le_of_ble_eq_true rfl⟩ rfl rfl (Nat.le_of_ble_eq_true rfl) dX7_plain_38 [2] rfl rfl ?_
        rintro _ _ ⟨rfl, rfl⟩
        refine ky_ws (ws' := [(ad 0, .inr (7, [.ref (ad 1), .ref (ad 10), .ref (ad 14), .ref (ad 18), .ref (ad 23), .ref (ad 29), .ref (ad 32), .int left, .int 0])), (ad 1, .inl (cS, 4, .inr (.inr (.inr (.inr (fun k => some (ad (2 + 2 * k)))))))), (ad 2, .inr (4, [.ref (ad 3), .int ((sh 0).1), .int ((sh 0).2.1)])), (ad 3, .inl (cI, 40, .inl ((sh 0).2.2))), (ad 4, .inr (4, [.ref (ad 5), .int ((sh 1).1), .int ((sh 1).2.1)])), (ad 5, .inl (cI, 40, .inl ((sh 1).2.2))), (ad 6, .inr (4, [.ref (ad 7), .int ((sh 2).1), .int ((sh 2).2.1)])), (ad 7, .inl (cI, 40, .inl ((sh 2).2.2))), (ad 8, .inr (4, [.ref (ad 9), .int ((sh 3).1), .int ((sh 3).2.1)])), (ad 9, .inl (cI, 40, .inl ((sh 3).2.2))), (ad 10, .inr (3, [.ref (ad 11), .ref (ad 12), .ref (ad 13), .int (nI N), .int wind, .int low, .int forb])), (ad 11, .inl (cI, 8, .inl club)), (ad 12, .inl (cI, 8, .inl need)), (ad 13, .inl (cI, 8, .inl worth)), (ad 14, .inr (6, [.ref (ad 15), .ref (ad 16), .ref (ad 17), .int (nI nc)])), (ad 18, .inr (5, [.ref (ad 19), .ref (ad 20), .ref (ad 21), .ref (ad 22), .int (nI ns)]))]) (st' := [.int (if ((sh 0).2.1) = -1 then 1 else if ((sh 0).1) = y then (if 0 ≤ u then (if 0 ≤ z ∧ (0 : Int32) ≤ u ∧ z ≤ ((sh 0).2.1) ∧ u ≤ ((sh 0).2.1) - z then 0 else 3) else 4) else 2)]) rfl rfl ?_
        rcases kFc (sh 0).2.1 (sh 0).1 y z u with h9 | ⟨h9, h8⟩ | ⟨h9, h8, h7⟩ | ⟨h9, h8, h7, hh⟩ | ⟨h9, h8, h7, hh⟩
        · refine ky_top (v' := .int 1) (congrArg Value.int (kIc1 h9)) ?_
          refine ky_istore C (lv' := [(6, .int 1), (5, .ref (ad 2)), (0, .ref (ad 0)), (1, .int (nI 0)), (2, .int y), (3, .int z), (4, .int u)]) dX7_plain_41 (by decide) rfl ?_
          refine ky_iload C 0 dX7_plain_43 rfl ?_
          refine ky_if_eq C 55 dX7_plain_45 (by decide) (fun q => absurd q (by decide)) (fun c_45 => ?_)
          refine ky_aload_n C 2 dX7_plain_48 rfl rfl ?_
          refine ky_iload C 0 dX7_plain_49 rfl ?_
          refine ky_callV0 C 1 (kX7_faulted l D cI cS ad left 0 1) gX7_plain_X7_faulted rfl rfl rfl hdX7_faulted 0 7 rfl rfl rfl ⟨Nat.le_of_ble_eq_true rfl, Nat.le_of_ble_eq_true rfl⟩ rfl rfl (Nat.le_of_ble_eq_true rfl) dX7_plain_51 [0] rfl rfl ?_
          rintro _ _ ⟨rfl, rfl⟩
          refine ky_ws (ws' := [(ad 0, .inr (7, [.ref (ad 1), .ref (ad 10), .ref (ad 14), .ref (ad 18), .ref (ad 23), .ref (ad 29), .ref (ad 32), .int left, .int 1])), (ad 1, .inl (cS, 4, .inr (.inr (.inr (.inr (fun k => some (ad (2 + 2 * k)))))))), (ad 2, .inr (4, [.ref (ad 3), .int ((sh 0).1), .int ((sh 0).2.1)])), (ad 3, .inl (cI, 40, .inl ((sh 0).2.2))), (ad 4, .inr (4, [.ref (ad 5), .int ((sh 1).1), .int ((sh 1).2.1)])), (ad 5, .inl (cI, 40, .inl ((sh 1).2.2))), (ad 6, .inr (4, [.ref (ad 7), .int ((sh 2).1), .int ((sh 2).2.1)])), (ad 7, .inl (cI, 40, .inl ((sh 2).2.2))), (ad 8, .inr (4, [.ref (ad 9), .int ((sh 3).1), .int ((sh 3).2.1)])), (ad 9, .inl (cI, 40, .inl ((sh 3).2.2))), (ad 10, .inr (3, [.ref (ad 11), .ref (ad 12), .ref (ad 13), .int (nI N), .int wind, .int low, .int forb])), (ad 11, .inl (cI, 8, .inl club)), (ad 12, .inl (cI, 8, .inl need)), (ad 13, .inl (cI, 8, .inl worth)), (ad 14, .inr (6, [.ref (ad 15), .ref (ad 16), .ref (ad 17), .int (nI nc)])), (ad 18, .inr (5, [.ref (ad 19), .ref (ad 20), .ref (ad 21), .ref (ad 22), .int (nI ns)]))]) (st' := [.int ((-10 : Int32) - 1)]) rfl rfl ?_
          exact ky_iret C hr hlk ⟨((-10 : Int32) - 1), 1, N, wind, low, forb, club, need, worth, nc, ns, congrArg (fun z => some (Value.int z)) (show ((-10 : Int32) - 1) = (((-10 : Int32) - 1)) from by simp [c_9, c_18, hcj, h9]), rfl, (by first | (simp only [kF_plain, if_pos c_9, if_pos c_18, hcj, if_pos h9]; done) | (simp only [kF_plain, if_pos c_9, if_pos c_18, hcj, if_pos h9]; rfl))⟩ (Nat.le_of_ble_eq_true rfl) dX7_plain_54
        · refine ky_top (v' := .int 2) (congrArg Value.int (kIc2 h9 h8)) ?_
          refine ky_istore C (lv' := [(6, .int 2), (5, .ref (ad 2)), (0, .ref (ad 0)), (1, .int (nI 0)), (2, .int y), (3, .int z), (4, .int u)]) dX7_plain_41 (by decide) rfl ?_
          refine ky_iload C 0 dX7_plain_43 rfl ?_
          refine ky_if_eq C 55 dX7_plain_45 (by decide) (fun q => absurd q (by decide)) (fun c_45 => ?_)
          refine ky_aload_n C 2 dX7_plain_48 rfl rfl ?_
          refine ky_iload C 0 dX7_plain_49 rfl ?_
          refine ky_callV0 C 1 (kX7_faulted l D cI cS ad left 0 2) gX7_plain_X7_faulted rfl rfl rfl hdX7_faulted 0 7 rfl rfl rfl ⟨Nat.le_of_ble_eq_true rfl, Nat.le_of_ble_eq_true rfl⟩ rfl rfl (Nat.le_of_ble_eq_true rfl) dX7_plain_51 [0] rfl rfl ?_
          rintro _ _ ⟨rfl, rfl⟩
          refine ky_ws (ws' := [(ad 0, .inr (7, [.ref (ad 1), .ref (ad 10), .ref (ad 14), .ref (ad 18), .ref (ad 23), .ref (ad 29), .ref (ad 32), .int left, .int 2])), (ad 1, .inl (cS, 4, .inr (.inr (.inr (.inr (fun k => some (ad (2 + 2 * k)))))))), (ad 2, .inr (4, [.ref (ad 3), .int ((sh 0).1), .int ((sh 0).2.1)])), (ad 3, .inl (cI, 40, .inl ((sh 0).2.2))), (ad 4, .inr (4, [.ref (ad 5), .int ((sh 1).1), .int ((sh 1).2.1)])), (ad 5, .inl (cI, 40, .inl ((sh 1).2.2))), (ad 6, .inr (4, [.ref (ad 7), .int ((sh 2).1), .int ((sh 2).2.1)])), (ad 7, .inl (cI, 40, .inl ((sh 2).2.2))), (ad 8, .inr (4, [.ref (ad 9), .int ((sh 3).1), .int ((sh 3).2.1)])), (ad 9, .inl (cI, 40, .inl ((sh 3).2.2))), (ad 10, .inr (3, [.ref (ad 11), .ref (ad 12), .ref (ad 13), .int (nI N), .int wind, .int low, .int forb])), (ad 11, .inl (cI, 8, .inl club)), (ad 12, .inl (cI, 8, .inl need)), (ad 13, .inl (cI, 8, .inl worth)), (ad 14, .inr (6, [.ref (ad 15), .ref (ad 16), .ref (ad 17), .int (nI nc)])), (ad 18, .inr (5, [.ref (ad 19), .ref (ad 20), .ref (ad 21), .ref (ad 22), .int (nI ns)]))]) (st' := [.int ((-10 : Int32) - 2)]) rfl rfl ?_
          exact ky_iret C hr hlk ⟨((-10 : Int32) - 2), 2, N, wind, low, forb, club, need, worth, nc, ns, congrArg (fun z => some (Value.int z)) (show ((-10 : Int32) - 2) = (((-10 : Int32) - 2)) from by simp [c_9, c_18, hcj, h9, h8]), rfl, (by first | (simp only [kF_plain, if_pos c_9, if_pos c_18, hcj, if_neg h9, if_neg h8]; done) | (simp only [kF_plain, if_pos c_9, if_pos c_18, hcj, if_neg h9, if_neg h8]; rfl))⟩ (Nat.le_of_ble_eq_true rfl) dX7_plain_54
        · refine ky_top (v' := .int 4) (congrArg Value.int (kIc4 h9 h8 h7)) ?_
          refine ky_istore C (lv' := [(6, .int 4), (5, .ref (ad 2)), (0, .ref (ad 0)), (1, .int (nI 0)), (2, .int y), (3, .int z), (4, .int u)]) dX7_plain_41 (by decide) rfl ?_
          refine ky_iload C 0 dX7_plain_43 rfl ?_
          refine ky_if_eq C 55 dX7_plain_45 (by decide) (fun q => absurd q (by decide)) (fun c_45 => ?_)
          refine ky_aload_n C 2 dX7_plain_48 rfl rfl ?_
          refine ky_iload C 0 dX7_plain_49 rfl ?_
          refine ky_callV0 C 1 (kX7_faulted l D cI cS ad left 0 4) gX7_plain_X7_faulted rfl rfl rfl hdX7_faulted 0 7 rfl rfl rfl ⟨Nat.le_of_ble_eq_true rfl, Nat.le_of_ble_eq_true rfl⟩ rfl rfl (Nat.le_of_ble_eq_true rfl) dX7_plain_51 [0] rfl rfl ?_
          rintro _ _ ⟨rfl, rfl⟩
          refine ky_ws (ws' := [(ad 0, .inr (7, [.ref (ad 1), .ref (ad 10), .ref (ad 14), .ref (ad 18), .ref (ad 23), .ref (ad 29), .ref (ad 32), .int left, .int 4])), (ad 1, .inl (cS, 4, .inr (.inr (.inr (.inr (fun k => some (ad (2 + 2 * k)))))))), (ad 2, .inr (4, [.ref (ad 3), .int ((sh 0).1), .int ((sh 0).2.1)])), (ad 3, .inl (cI, 40, .inl ((sh 0).2.2))), (ad 4, .inr (4, [.ref (ad 5), .int ((sh 1).1), .int ((sh 1).2.1)])), (ad 5, .inl (cI, 40, .inl ((sh 1).2.2))), (ad 6, .inr (4, [.ref (ad 7), .int ((sh 2).1), .int ((sh 2).2.1)])), (ad 7, .inl (cI, 40, .inl ((sh 2).2.2))), (ad 8, .inr (4, [.ref (ad 9), .int ((sh 3).1), .int ((sh 3).2.1)])), (ad 9, .inl (cI, 40, .inl ((sh 3).2.2))), (ad 10, .inr (3, [.ref (ad 11), .ref (ad 12), .ref (ad 13), .int (nI N), .int wind, .int low, .int forb])), (ad 11, .inl (cI, 8, .inl club)), (ad 12, .inl (cI, 8, .inl need)), (ad 13, .inl (cI, 8, .inl worth)), (ad 14, .inr (6, [.ref (ad 15), .ref (ad 16), .ref (ad 17), .int (nI nc)])), (ad 18, .inr (5, [.ref (ad 19), .ref (ad 20), .ref (ad 21), .ref (ad 22), .int (nI ns)]))]) (st' := [.int ((-10 : Int32) - 4)]) rfl rfl ?_
          exact ky_iret C hr hlk ⟨((-10 : Int32) - 4), 4, N, wind, low, forb, club, need, worth, nc, ns, congrArg (fun z => some (Value.int z)) (show ((-10 : Int32) - 4) = (((-10 : Int32) - 4)) from by simp [c_9, c_18, hcj, h9, h8, h7]), rfl, (by first | (simp only [kF_plain, if_pos c_9, if_pos c_18, hcj, if_neg h9, if_pos h8, if_neg h7]; done) | (simp only [kF_plain, if_pos c_9, if_pos c_18, hcj, if_neg h9, if_pos h8, if_neg h7]; rfl))⟩ (Nat.le_of_ble_eq_true rfl) dX7_plain_54
        · refine ky_top (v' := .int 3) (congrArg Value.int (kIc3 h9 h8 h7 hh)) ?_
          refine ky_istore C (lv' := [(6, .int 3), (5, .ref (ad 2)), (0, .ref (ad 0)), (1, .int (nI 0)), (2, .int y), (3, .int z), (4, .int u)]) dX7_plain_41 (by decide) rfl ?_
          refine ky_iload C 0 dX7_plain_43 rfl ?_
          refine ky_if_eq C 55 dX7_plain_45 (by decide) (fun q => absurd q (by decide)) (fun c_45 => ?_)
          refine ky_aload_n C 2 dX7_plain_48 rfl rfl ?_
          refine ky_iload C 0 dX7_plain_49 rfl ?_
          refine ky_callV0 C 1 (kX7_faulted l D cI cS ad left 0 3) gX7_plain_X7_faulted rfl rfl rfl hdX7_faulted 0 7 rfl rfl rfl ⟨Nat.le_of_ble_eq_true rfl, Nat.le_of_ble_eq_true rfl⟩ rfl rfl (Nat.le_of_ble_eq_true rfl) dX7_plain_51 [0] rfl rfl ?_
          rintro _ _ ⟨rfl, rfl⟩
          refine ky_ws (ws' := [(ad 0, .inr (7, [.ref (ad 1), .ref (ad 10), .ref (ad 14), .ref (ad 18), .ref (ad 23), .ref (ad 29), .ref (ad 32), .int left, .int 3])), (ad 1, .inl (cS, 4, .inr (.inr (.inr (.inr (fun k => some (ad (2 + 2 * k)))))))), (ad 2, .inr (4, [.ref (ad 3), .int ((sh 0).1), .int ((sh 0).2.1)])), (ad 3, .inl (cI, 40, .inl ((sh 0).2.2))), (ad 4, .inr (4, [.ref (ad 5), .int ((sh 1).1), .int ((sh 1).2.1)])), (ad 5, .inl (cI, 40, .inl ((sh 1).2.2))), (ad 6, .inr (4, [.ref (ad 7), .int ((sh 2).1), .int ((sh 2).2.1)])), (ad 7, .inl (cI, 40, .inl ((sh 2).2.2))), (ad 8, .inr (4, [.ref (ad 9), .int ((sh 3).1), .int ((sh 3).2.1)])), (ad 9, .inl (cI, 40, .inl ((sh 3).2.2))), (ad 10, .inr (3, [.ref (ad 11), .ref (ad 12), .ref (ad 13), .int (nI N), .int wind, .int low, .int forb])), (ad 11, .inl (cI, 8, .inl club)), (ad 12, .inl (cI, 8, .inl need)), (ad 13, .inl (cI, 8, .inl worth)), (ad 14, .inr (6, [.ref (ad 15), .ref (ad 16), .ref (ad 17), .int (nI nc)])), (ad 18, .inr (5, [.ref (ad 19), .ref (ad 20), .ref (ad 21), .ref (ad 22), .int (nI ns)]))]) (st' := [.int ((-10 : Int32) - 3)]) rfl rfl ?_
          exact ky_iret C hr hlk ⟨((-10 : Int32) - 3), 3, N, wind, low, forb, club, need, worth, nc, ns, congrArg (fun z => some (Value.int z)) (show ((-10 : Int32) - 3) = (((-10 : Int32) - 3)) from by simp [c_9, c_18, hcj, h9, h8, h7, hh]), rfl, (by first | (simp only [kF_plain, if_pos c_9, if_pos c_18, hcj, if_neg h9, if_pos h8, if_pos h7, if_neg hh]; done) | (simp only [kF_plain, if_pos c_9, if_pos c_18, hcj, if_neg h9, if_pos h8, if_pos h7, if_neg hh]; rfl))⟩ (Nat.le_of_ble_eq_true rfl) dX7_plain_54
        · refine ky_top (v' := .int 0) (congrArg Value.int (kIc0 h9 h8 h7 hh)) ?_
          refine ky_istore C (lv' := [(6, .int 0), (5, .ref (ad 2)), (0, .ref (ad 0)), (1, .int (nI 0)), (2, .int y), (3, .int z), (4, .int u)]) dX7_plain_41 (by decide) rfl ?_
          refine ky_iload C 0 dX7_plain_43 rfl ?_
          refine ky_if_eq C 55 dX7_plain_45 (by decide) (fun c_45 => ?_) (fun q => absurd q (by decide))
          obtain ⟨i0, n0, hi0n0, rfl, rfl⟩ := kHoldN (hsh 0 (by decide)) h9 hh
          have hci0 : (nI i0).toNatClampNeg = i0 := nI_clamp (by omega)
          have hcn0 : (nI n0).toNatClampNeg = n0 := nI_clamp (by omega)
          refine ky_aload C 1 dX7_plain_55 rfl ?_
          refine ky_iload_n C 5 dX7_plain_57 rfl rfl ?_
          refine ky_iload C 6 dX7_plain_58 rfl ?_
          refine ky_callS0 C 3 (kX3_faultOfText l D cI cS (ad 2) (ad 3) ((sh 0).1) ((sh 0).2.1) ((sh 0).2.2) i0 n0 hi0n0) gX7_plain_X3_faultOfText rfl rfl rfl hdX3_faultOfText.2 ⟨Nat.le_of_ble_eq_true rfl, Nat.le_of_ble_eq_true rfl⟩ rfl rfl (Nat.le_of_ble_eq_true rfl) dX7_plain_60 [2, 3] rfl rfl ?_
          rintro _ _ ⟨rfl, rfl⟩
          refine ky_ws (ws' := [(ad 0, .inr (7, [.ref (ad 1), .ref (ad 10), .ref (ad 14), .ref (ad 18), .ref (ad 23), .ref (ad 29), .ref (ad 32), .int left, .int 0])), (ad 1, .inl (cS, 4, .inr (.inr (.inr (.inr (fun k => some (ad (2 + 2 * k)))))))), (ad 2, .inr (4, [.ref (ad 3), .int ((sh 0).1), .int ((sh 0).2.1)])), (ad 3, .inl (cI, 40, .inl ((sh 0).2.2))), (ad 4, .inr (4, [.ref (ad 5), .int ((sh 1).1), .int ((sh 1).2.1)])), (ad 5, .inl (cI, 40, .inl ((sh 1).2.2))), (ad 6, .inr (4, [.ref (ad 7), .int ((sh 2).1), .int ((sh 2).2.1)])), (ad 7, .inl (cI, 40, .inl ((sh 2).2.2))), (ad 8, .inr (4, [.ref (ad 9), .int ((sh 3).1), .int ((sh 3).2.1)])), (ad 9, .inl (cI, 40, .inl ((sh 3).2.2))), (ad 10, .inr (3, [.ref (ad 11), .ref (ad 12), .ref (ad 13), .int (nI N), .int wind, .int low, .int forb])), (ad 11, .inl (cI, 8, .inl club)), (ad 12, .inl (cI, 8, .inl need)), (ad 13, .inl (cI, 8, .inl worth)), (ad 14, .inr (6, [.ref (ad 15), .ref (ad 16), .ref (ad 17), .int (nI nc)])), (ad 18, .inr (5, [.ref (ad 19), .ref (ad 20), .ref (ad 21), .ref (ad 22), .int (nI ns)]))]) (st' := [.int (kBad (fun p => ((sh 0).2.2) (i0 + p)) n0)]) rfl rfl ?_
          refine ky_istore C (lv' := [(7, .int (kBad (fun p => ((sh 0).2.2) (i0 + p)) n0)), (6, .int 0), (5, .ref (ad 2)), (0, .ref (ad 0)), (1, .int (nI 0)), (2, .int y), (3, .int (nI i0)), (4, .int (nI n0))]) dX7_plain_63 (by decide) rfl ?_
          refine ky_iload C 0 dX7_plain_65 rfl ?_
          refine ky_if_lt C 76 dX7_plain_67 (by decide) (fun c_67 => ?_) (fun c_67 => ?_)
          · have d_67 := Int32.not_le.mpr c_67
            obtain ⟨hb1, hn3, hn31, hn7⟩ := kBad_neg (show n0 ≤ 40 by omega) c_67
            refine ky_aload_n C 3 dX7_plain_76 rfl rfl ?_
            refine ky_get C (ci := 7) (T := TX7) (N := 9) (Cn := RX7) (ref := "RainAccount") hiX7_plain_X7 0 rfl rfl 1 (by decide) (List.mem_of_getElem? (i := 3) rfl) rfl (v := .ref (ad 10)) rfl dX7_plain_77 ?_
            refine ky_aload C 2 dX7_plain_80 rfl ?_
            refine ky_iload_n C 6 dX7_plain_82 rfl rfl ?_
            refine ky_iload C 7 dX7_plain_83 rfl ?_
            refine ky_callV0 C 3 (kX3_takeText l D cI cS ad N wind low forb club need worth (ad 2) (ad 3) ((sh 0).1) ((sh 0).2.1) ((sh 0).2.2) i0 n0 hi0n0 hn3 hn31) gX7_plain_X3_takeText rfl rfl rfl hdX3_takeText 10 3 rfl rfl rfl ⟨Nat.le_of_ble_eq_true rfl, Nat.le_of_ble_eq_true rfl⟩ rfl rfl (Nat.le_of_ble_eq_true rfl) dX7_plain_85 [10, 11, 12, 13, 2, 3] rfl rfl ?_
            rintro _ _ ⟨rfl, rfl⟩
            refine ky_ws (ws' := [(ad 0, .inr (7, [.ref (ad 1), .ref (ad 10), .ref (ad 14), .ref (ad 18), .ref (ad 23), .ref (ad 29), .ref (ad 32), .int left, .int 0])), (ad 1, .inl (cS, 4, .inr (.inr (.inr (.inr (fun k => some (ad (2 + 2 * k)))))))), (ad 2, .inr (4, [.ref (ad 3), .int ((sh 0).1), .int ((sh 0).2.1)])), (ad 3, .inl (cI, 40, .inl ((sh 0).2.2))), (ad 4, .inr (4, [.ref (ad 5), .int ((sh 1).1), .int ((sh 1).2.1)])), (ad 5, .inl (cI, 40, .inl ((sh 1).2.2))), (ad 6, .inr (4, [.ref (ad 7), .int ((sh 2).1), .int ((sh 2).2.1)])), (ad 7, .inl (cI, 40, .inl ((sh 2).2.2))), (ad 8, .inr (4, [.ref (ad 9), .int ((sh 3).1), .int ((sh 3).2.1)])), (ad 9, .inl (cI, 40, .inl ((sh 3).2.2))), (ad 10, .inr (3, [.ref (ad 11), .ref (ad 12), .ref (ad 13), .int (nI ((n0 + 1) / 4)), .int 0, .int 0, .int 0])), (ad 11, .inl (cI, 8, .inl (kFil (fun f9 => ((sh 0).2.2) (i0 + f9 * 4) - 48) club ((n0 + 1) / 4)))), (ad 12, .inl (cI, 8, .inl (kFil (fun f9 => ((sh 0).2.2) (i0 + f9 * 4 + 1) - 48) need ((n0 + 1) / 4)))), (ad 13, .inl (cI, 8, .inl (kFil (fun f9 => ((sh 0).2.2) (i0 + f9 * 4 + 2) - 48) worth ((n0 + 1) / 4)))), (ad 14, .inr (6, [.ref (ad 15), .ref (ad 16), .ref (ad 17), .int (nI nc)])), (ad 18, .inr (5, [.ref (ad 19), .ref (ad 20), .ref (ad 21), .ref (ad 22), .int (nI ns)]))]) (st' := []) rfl rfl ?_
            refine ky_aload_n C 3 dX7_plain_88 rfl rfl ?_
            refine ky_get C (ci := 7) (T := TX7) (N := 9) (Cn := RX7) (ref := "RainAccount") hiX7_plain_X7 0 rfl rfl 2 (by decide) (List.mem_of_getElem? (i := 4) rfl) rfl (v := .ref (ad 14)) rfl dX7_plain_89 ?_
            refine ky_iconst C dX7_plain_92 (v := 0) (by decide) ?_
            refine ky_put C (ci := 6) (T := TX6) (N := 4) (Cn := RX6) (ref := "RainAccount$Sky") hiX7_plain_X6 tyX6 tyX6_ok nmX6 14 rfl rfl 3 (by decide) (List.mem_of_getElem? (i := 5) rfl) rfl rfl rfl rfl (Nat.le_of_ble_eq_true rfl) dX7_plain_93 (ws' := [(ad 0, .inr (7, [.ref (ad 1), .ref (ad 10), .ref (ad 14), .ref (ad 18), .ref (ad 23), .ref (ad 29), .ref (ad 32), .int left, .int 0])), (ad 1, .inl (cS, 4, .inr (.inr (.inr (.inr (fun k => some (ad (2 + 2 * k)))))))), (ad 2, .inr (4, [.ref (ad 3), .int ((sh 0).1), .int ((sh 0).2.1)])), (ad 3, .inl (cI, 40, .inl ((sh 0).2.2))), (ad 4, .inr (4, [.ref (ad 5), .int ((sh 1).1), .int ((sh 1).2.1)])), (ad 5, .inl (cI, 40, .inl ((sh 1).2.2))), (ad 6, .inr (4, [.ref (ad 7), .int ((sh 2).1), .int ((sh 2).2.1)])), (ad 7, .inl (cI, 40, .inl ((sh 2).2.2))), (ad 8, .inr (4, [.ref (ad 9), .int ((sh 3).1), .int ((sh 3).2.1)])), (ad 9, .inl (cI, 40, .inl ((sh 3).2.2))), (ad 10, .inr (3, [.ref (ad 11), .ref (ad 12), .ref (ad 13), .int (nI ((n0 + 1) / 4)), .int 0, .int 0, .int 0])), (ad 11, .inl (cI, 8, .inl (kFil (fun f9 => ((sh 0).2.2) (i0 + f9 * 4) - 48) club ((n0 + 1) / 4)))), (ad 12, .inl (cI, 8, .inl (kFil (fun f9 => ((sh 0).2.2) (i0 + f9 * 4 + 1) - 48) need ((n0 + 1) / 4)))), (ad 13, .inl (cI, 8, .inl (kFil (fun f9 => ((sh 0).2.2) (i0 + f9 * 4 + 2) - 48) worth ((n0 + 1) / 4)))), (ad 14, .inr (6, [.ref (ad 15), .ref (ad 16), .ref (ad 17), .int 0])), (ad 18, .inr (5, [.ref (ad 19), .ref (ad 20), .ref (ad 21), .ref (ad 22), .int (nI ns)]))]) rfl ?_
            refine ky_aload_n C 3 dX7_plain_96 rfl rfl ?_
            refine ky_get C (ci := 7) (T := TX7) (N := 9) (Cn := RX7) (ref := "RainAccount") hiX7_plain_X7 0 rfl rfl 3 (by decide) (List.mem_of_getElem? (i := 6) rfl) rfl (v := .ref (ad 18)) rfl dX7_plain_97 ?_
            refine ky_iconst C dX7_plain_100 (v := 0) (by decide) ?_
            refine ky_put C (ci := 5) (T := TX5) (N := 5) (Cn := RX5) (ref := "RainAccount$Shots") hiX7_plain_X5 tyX5 tyX5_ok nmX5 15 rfl rfl 4 (by decide) (List.mem_of_getElem? (i := 7) rfl) rfl rfl rfl rfl (Nat.le_of_ble_eq_true rfl) dX7_plain_101 (ws' := [(ad 0, .inr (7, [.ref (ad 1), .ref (ad 10), .ref (ad 14), .ref (ad 18), .ref (ad 23), .ref (ad 29), .ref (ad 32), .int left, .int 0])), (ad 1, .inl (cS, 4, .inr (.inr (.inr (.inr (fun k => some (ad (2 + 2 * k)))))))), (ad 2, .inr (4, [.ref (ad 3), .int ((sh 0).1), .int ((sh 0).2.1)])), (ad 3, .inl (cI, 40, .inl ((sh 0).2.2))), (ad 4, .inr (4, [.ref (ad 5), .int ((sh 1).1), .int ((sh 1).2.1)])), (ad 5, .inl (cI, 40, .inl ((sh 1).2.2))), (ad 6, .inr (4, [.ref (ad 7), .int ((sh 2).1), .int ((sh 2).2.1)])), (ad 7, .inl (cI, 40, .inl ((sh 2).2.2))), (ad 8, .inr (4, [.ref (ad 9), .int ((sh 3).1), .int ((sh 3).2.1)])), (ad 9, .inl (cI, 40, .inl ((sh 3).2.2))), (ad 10, .inr (3, [.ref (ad 11), .ref (ad 12), .ref (ad 13), .int (nI ((n0 + 1) / 4)), .int 0, .int 0, .int 0])), (ad 11, .inl (cI, 8, .inl (kFil (fun f9 => ((sh 0).2.2) (i0 + f9 * 4) - 48) club ((n0 + 1) / 4)))), (ad 12, .inl (cI, 8, .inl (kFil (fun f9 => ((sh 0).2.2) (i0 + f9 * 4 + 1) - 48) need ((n0 + 1) / 4)))), (ad 13, .inl (cI, 8, .inl (kFil (fun f9 => ((sh 0).2.2) (i0 + f9 * 4 + 2) - 48) worth ((n0 + 1) / 4)))), (ad 14, .inr (6, [.ref (ad 15), .ref (ad 16), .ref (ad 17), .int 0])), (ad 18, .inr (5, [.ref (ad 19), .ref (ad 20), .ref (ad 21), .ref (ad 22), .int 0]))]) rfl ?_
            refine ky_aload_n C 3 dX7_plain_104 rfl rfl ?_
            refine ky_get C (ci := 7) (T := TX7) (N := 9) (Cn := RX7) (ref := "RainAccount") hiX7_plain_X7 0 rfl rfl 1 (by decide) (List.mem_of_getElem? (i := 3) rfl) rfl (v := .ref (ad 10)) rfl dX7_plain_105 ?_
            refine ky_get C (ci := 3) (T := TX3) (N := 7) (Cn := RX3) (ref := "RainAccount$Land") hiX7_plain_X3 10 rfl rfl 3 (by decide) (List.mem_of_getElem? (i := 8) rfl) rfl (v := .int (nI ((n0 + 1) / 4))) rfl dX7_plain_108 ?_
            exact ky_iret C hr hlk ⟨(nI ((n0 + 1) / 4)), 0, ((n0 + 1) / 4), 0, 0, 0, (kFil (fun f9 => ((sh 0).2.2) (i0 + f9 * 4) - 48) club ((n0 + 1) / 4)), (kFil (fun f9 => ((sh 0).2.2) (i0 + f9 * 4 + 1) - 48) need ((n0 + 1) / 4)), (kFil (fun f9 => ((sh 0).2.2) (i0 + f9 * 4 + 2) - 48) worth ((n0 + 1) / 4)), 0, 0, rfl, rfl, (by simp only [kF_plain, if_pos c_9, if_pos c_18, hcj, if_neg h9, if_pos h8, if_pos h7, if_pos hh, hci0, hcn0, if_pos c_67, if_neg d_67, if_pos hb1])⟩ (Nat.le_of_ble_eq_true rfl) dX7_plain_111
          · have d_67 := Int32.not_lt.mp c_67
            have hb1 := kBad_nn c_67
            refine ky_bipush C dX7_plain_70 (v := (-100)) (by decide) ?_
            refine ky_iload C 0 dX7_plain_72 rfl ?_
            refine ky_isub C (v := (-100 : Int32) - (kBad (fun p => ((sh 0).2.2) (i0 + p)) n0)) dX7_plain_74 rfl ?_
            exact ky_iret C hr hlk ⟨((-100 : Int32) - (kBad (fun p => ((sh 0).2.2) (i0 + p)) n0)), 0, N, wind, low, forb, club, need, worth, nc, ns, congrArg (fun z => some (Value.int z)) (show ((-100 : Int32) - (kBad (fun p => ((sh 0).2.2) (i0 + p)) n0)) = (((-100 : Int32) - (kBad (fun p => ((sh 0).2.2) (i0 + p)) n0))) from by simp [c_9, c_18, hcj, h9, h8, h7, hh, hci0, hcn0, c_67, d_67, hb1]), rfl, (by simp only [kF_plain, if_pos c_9, if_pos c_18, hcj, if_neg h9, if_pos h8, if_pos h7, if_pos hh, hci0, hcn0, if_neg c_67, if_pos d_67, if_neg hb1])⟩ (Nat.le_of_ble_eq_true rfl) dX7_plain_75
      · refine ky_aload_n C 0 dX7_plain_24 rfl rfl ?_
        refine ky_get C (ci := 7) (T := TX7) (N := 9) (Cn := RX7) (ref := "RainAccount") hiX7_plain_X7 0 rfl rfl 0 (by decide) (List.mem_of_getElem? (i := 2) rfl) rfl (v := .ref (ad 1)) rfl dX7_plain_25 ?_
        refine ky_iload_n C 1 dX7_plain_28 rfl rfl ?_
        refine ky_aald C 1 (k := 1) (b := ad 4) rfl (by omega) (by decide) rfl dX7_plain_29 ?_
        refine ky_astore C (lv' := [(5, .ref (ad 4)), (0, .ref (ad 0)), (1, .int (nI 1)), (2, .int y), (3, .int z), (4, .int u)]) dX7_plain_30 (by decide) rfl ?_
        refine ky_aload C 0 dX7_plain_32 rfl ?_
        refine ky_iload_n C 3 dX7_plain_34 rfl rfl ?_
        refine ky_iload_n C 4 dX7_plain_35 rfl rfl ?_
        refine ky_iload C 5 dX7_plain_36 rfl ?_
        refine ky_callV0 C 3 (kX4_faultOfCells l D cI cS (ad 4) (ad 5) ((sh 1).1) ((sh 1).2.1) y z u) gX7_plain_X4_faultOfCells rfl rfl rfl hdX4_faultOfCells 4 4 rfl rfl rfl ⟨Nat.le_of_ble_eq_true rfl, Nat.le_of_ble_eq_true rfl⟩ rfl rfl (Nat.le_of_ble_eq_true rfl) dX7_plain_38 [4] rfl rfl ?_
        rintro _ _ ⟨rfl, rfl⟩
        refine ky_ws (ws' := [(ad 0, .inr (7, [.ref (ad 1), .ref (ad 10), .ref (ad 14), .ref (ad 18), .ref (ad 23), .ref (ad 29), .ref (ad 32), .int left, .int 0])), (ad 1, .inl (cS, 4, .inr (.inr (.inr (.inr (fun k => some (ad (2 + 2 * k)))))))), (ad 2, .inr (4, [.ref (ad 3), .int ((sh 0).1), .int ((sh 0).2.1)])), (ad 3, .inl (cI, 40, .inl ((sh 0).2.2))), (ad 4, .inr (4, [.ref (ad 5), .int ((sh 1).1), .int ((sh 1).2.1)])), (ad 5, .inl (cI, 40, .inl ((sh 1).2.2))), (ad 6, .inr (4, [.ref (ad 7), .int ((sh 2).1), .int ((sh 2).2.1)])), (ad 7, .inl (cI, 40, .inl ((sh 2).2.2))), (ad 8, .inr (4, [.ref (ad 9), .int ((sh 3).1), .int ((sh 3).2.1)])), (ad 9, .inl (cI, 40, .inl ((sh 3).2.2))), (ad 10, .inr (3, [.ref (ad 11), .ref (ad 12), .ref (ad 13), .int (nI N), .int wind, .int low, .int forb])), (ad 11, .inl (cI, 8, .inl club)), (ad 12, .inl (cI, 8, .inl need)), (ad 13, .inl (cI, 8, .inl worth)), (ad 14, .inr (6, [.ref (ad 15), .ref (ad 16), .ref (ad 17), .int (nI nc)])), (ad 18, .inr (5, [.ref (ad 19), .ref (ad 20), .ref (ad 21), .ref (ad 22), .int (nI ns)]))]) (st' := [.int (if ((sh 1).2.1) = -1 then 1 else if ((sh 1).1) = y then (if 0 ≤ u then (if 0 ≤ z ∧ (0 : Int32) ≤ u ∧ z ≤ ((sh 1).2.1) ∧ u ≤ ((sh 1).2.1) - z then 0 else 3) else 4) else 2)]) rfl rfl ?_
        rcases kFc (sh 1).2.1 (sh 1).1 y z u with h9 | ⟨h9, h8⟩ | ⟨h9, h8, h7⟩ | ⟨h9, h8, h7, hh⟩ | ⟨h9, h8, h7, hh⟩
        · refine ky_top (v' := .int 1) (congrArg Value.int (kIc1 h9)) ?_
          refine ky_istore C (lv' := [(6, .int 1), (5, .ref (ad 4)), (0, .ref (ad 0)), (1, .int (nI 1)), (2, .int y), (3, .int z), (4, .int u)]) dX7_plain_41 (by decide) rfl ?_
          refine ky_iload C 0 dX7_plain_43 rfl ?_
          refine ky_if_eq C 55 dX7_plain_45 (by decide) (fun q => absurd q (by decide)) (fun c_45 => ?_)
          refine ky_aload_n C 2 dX7_plain_48 rfl rfl ?_
          refine ky_iload C 0 dX7_plain_49 rfl ?_
          refine ky_callV0 C 1 (kX7_faulted l D cI cS ad left 0 1) gX7_plain_X7_faulted rfl rfl rfl hdX7_faulted 0 7 rfl rfl rfl ⟨Nat.le_of_ble_eq_true rfl, Nat.le_of_ble_eq_true rfl⟩ rfl rfl (Nat.le_of_ble_eq_true rfl) dX7_plain_51 [0] rfl rfl ?_
          rintro _ _ ⟨rfl, rfl⟩
          refine ky_ws (ws' := [(ad 0, .inr (7, [.ref (ad 1), .ref (ad 10), .ref (ad 14), .ref (ad 18), .ref (ad 23), .ref (ad 29), .ref (ad 32), .int left, .int 1])), (ad 1, .inl (cS, 4, .inr (.inr (.inr (.inr (fun k => some (ad (2 + 2 * k)))))))), (ad 2, .inr (4, [.ref (ad 3), .int ((sh 0).1), .int ((sh 0).2.1)])), (ad 3, .inl (cI, 40, .inl ((sh 0).2.2))), (ad 4, .inr (4, [.ref (ad 5), .int ((sh 1).1), .int ((sh 1).2.1)])), (ad 5, .inl (cI, 40, .inl ((sh 1).2.2))), (ad 6, .inr (4, [.ref (ad 7), .int ((sh 2).1), .int ((sh 2).2.1)])), (ad 7, .inl (cI, 40, .inl ((sh 2).2.2))), (ad 8, .inr (4, [.ref (ad 9), .int ((sh 3).1), .int ((sh 3).2.1)])), (ad 9, .inl (cI, 40, .inl ((sh 3).2.2))), (ad 10, .inr (3, [.ref (ad 11), .ref (ad 12), .ref (ad 13), .int (nI N), .int wind, .int low, .int forb])), (ad 11, .inl (cI, 8, .inl club)), (ad 12, .inl (cI, 8, .inl need)), (ad 13, .inl (cI, 8, .inl worth)), (ad 14, .inr (6, [.ref (ad 15), .ref (ad 16), .ref (ad 17), .int (nI nc)])), (ad 18, .inr (5, [.ref (ad 19), .ref (ad 20), .ref (ad 21), .ref (ad 22), .int (nI ns)]))]) (st' := [.int ((-10 : Int32) - 1)]) rfl rfl ?_
          exact ky_iret C hr hlk ⟨((-10 : Int32) - 1), 1, N, wind, low, forb, club, need, worth, nc, ns, congrArg (fun z => some (Value.int z)) (show ((-10 : Int32) - 1) = (((-10 : Int32) - 1)) from by simp [c_9, c_18, hcj, h9]), rfl, (by first | (simp only [kF_plain, if_pos c_9, if_pos c_18, hcj, if_pos h9]; done) | (simp only [kF_plain, if_pos c_9, if_pos c_18, hcj, if_pos h9]; rfl))⟩ (Nat.le_of_ble_eq_true rfl) dX7_plain_54
        · refine ky_top (v' := .int 2) (congrArg Value.int (kIc2 h9 h8)) ?_
          refine ky_istore C (lv' := [(6, .int 2), (5, .ref (ad 4)), (0, .ref (ad 0)), (1, .int (nI 1)), (2, .int y), (3, .int z), (4, .int u)]) dX7_plain_41 (by decide) rfl ?_
          refine ky_iload C 0 dX7_plain_43 rfl ?_
          refine ky_if_eq C 55 dX7_plain_45 (by decide) (fun q => absurd q (by decide)) (fun c_45 => ?_)
          refine ky_aload_n C 2 dX7_plain_48 rfl rfl ?_
          refine ky_iload C 0 dX7_plain_49 rfl ?_
          refine ky_callV0 C 1 (kX7_faulted l D cI cS ad left 0 2) gX7_plain_X7_faulted rfl rfl rfl hdX7_faulted 0 7 rfl rfl rfl ⟨Nat.le_of_ble_eq_true rfl, Nat.le_of_ble_eq_true rfl⟩ rfl rfl (Nat.le_of_ble_eq_true rfl) dX7_plain_51 [0] rfl rfl ?_
          rintro _ _ ⟨rfl, rfl⟩
          refine ky_ws (ws' := [(ad 0, .inr (7, [.ref (ad 1), .ref (ad 10), .ref (ad 14), .ref (ad 18), .ref (ad 23), .ref (ad 29), .ref (ad 32), .int left, .int 2])), (ad 1, .inl (cS, 4, .inr (.inr (.inr (.inr (fun k => some (ad (2 + 2 * k)))))))), (ad 2, .inr (4, [.ref (ad 3), .int ((sh 0).1), .int ((sh 0).2.1)])), (ad 3, .inl (cI, 40, .inl ((sh 0).2.2))), (ad 4, .inr (4, [.ref (ad 5), .int ((sh 1).1), .int ((sh 1).2.1)])), (ad 5, .inl (cI, 40, .inl ((sh 1).2.2))), (ad 6, .inr (4, [.ref (ad 7), .int ((sh 2).1), .int ((sh 2).2.1)])), (ad 7, .inl (cI, 40, .inl ((sh 2).2.2))), (ad 8, .inr (4, [.ref (ad 9), .int ((sh 3).1), .int ((sh 3).2.1)])), (ad 9, .inl (cI, 40, .inl ((sh 3).2.2))), (ad 10, .inr (3, [.ref (ad 11), .ref (ad 12), .ref (ad 13), .int (nI N), .int wind, .int low, .int forb])), (ad 11, .inl (cI, 8, .inl club)), (ad 12, .inl (cI, 8, .inl need)), (ad 13, .inl (cI, 8, .inl worth)), (ad 14, .inr (6, [.ref (ad 15), .ref (ad 16), .ref (ad 17), .int (nI nc)])), (ad 18, .inr (5, [.ref (ad 19), .ref (ad 20), .ref (ad 21), .ref (ad 22), .int (nI ns)]))]) (st' := [.int ((-10 : Int32) - 2)]) rfl rfl ?_
          exact ky_iret C hr hlk ⟨((-10 : Int32) - 2), 2, N, wind, low, forb, club, need, worth, nc, ns, congrArg (fun z => some (Value.int z)) (show ((-10 : Int32) - 2) = (((-10 : Int32) - 2)) from by simp [c_9, c_18, hcj, h9, h8]), rfl, (by first | (simp only [kF_plain, if_pos c_9, if_pos c_18, hcj, if_neg h9, if_neg h8]; done) | (simp only [kF_plain, if_pos c_9, if_pos c_18, hcj, if_neg h9, if_neg h8]; rfl))⟩ (Nat.le_of_ble_eq_true rfl) dX7_plain_54
        · refine ky_top (v' := .int 4) (congrArg Value.int (kIc4 h9 h8 h7)) ?_
          refine ky_istore C (lv' := [(6, .int 4), (5, .ref (ad 4)), (0, .ref (ad 0)), (1, .int (nI 1)), (2, .int y), (3, .int z), (4, .int u)]) dX7_plain_41 (by decide) rfl ?_
          refine ky_iload C 0 dX7_plain_43 rfl ?_
          refine ky_if_eq C 55 dX7_plain_45 (by decide) (fun q => absurd q (by decide)) (fun c_45 => ?_)
          refine ky_aload_n C 2 dX7_plain_48 rfl rfl ?_
          refine ky_iload C 0 dX7_plain_49 rfl ?_
          refine ky_callV0 C 1 (kX7_faulted l D cI cS ad left 0 4) gX7_plain_X7_faulted rfl rfl rfl hdX7_faulted 0 7 rfl rfl rfl ⟨Nat.le_of_ble_eq_true rfl, Nat.le_of_ble_eq_true rfl⟩ rfl rfl (Nat.le_of_ble_eq_true rfl) dX7_plain_51 [0] rfl rfl ?_
          rintro _ _ ⟨rfl, rfl⟩
          refine ky_ws (ws' := [(ad 0, .inr (7, [.ref (ad 1), .ref (ad 10), .ref (ad 14), .ref (ad 18), .ref (ad 23), .ref (ad 29), .ref (ad 32), .int left, .int 4])), (ad 1, .inl (cS, 4, .inr (.inr (.inr (.inr (fun k => some (ad (2 + 2 * k)))))))), (ad 2, .inr (4, [.ref (ad 3), .int ((sh 0).1), .int ((sh 0).2.1)])), (ad 3, .inl (cI, 40, .inl ((sh 0).2.2))), (ad 4, .inr (4, [.ref (ad 5), .int ((sh 1).1), .int ((sh 1).2.1)])), (ad 5, .inl (cI, 40, .inl ((sh 1).2.2))), (ad 6, .inr (4, [.ref (ad 7), .int ((sh 2).1), .int ((sh 2).2.1)])), (ad 7, .inl (cI, 40, .inl ((sh 2).2.2))), (ad 8, .inr (4, [.ref (ad 9), .int ((sh 3).1), .int ((sh 3).2.1)])), (ad 9, .inl (cI, 40, .inl ((sh 3).2.2))), (ad 10, .inr (3, [.ref (ad 11), .ref (ad 12), .ref (ad 13), .int (nI N), .int wind, .int low, .int forb])), (ad 11, .inl (cI, 8, .inl club)), (ad 12, .inl (cI, 8, .inl need)), (ad 13, .inl (cI, 8, .inl worth)), (ad 14, .inr (6, [.ref (ad 15), .ref (ad 16), .ref (ad 17), .int (nI nc)])), (ad 18, .inr (5, [.ref (ad 19), .ref (ad 20), .ref (ad 21), .ref (ad 22), .int (nI ns)]))]) (st' := [.int ((-10 : Int32) - 4)]) rfl rfl ?_
          exact ky_iret C hr hlk ⟨((-10 : Int32) - 4), 4, N, wind, low, forb, club, need, worth, nc, ns, congrArg (fun z => some (Value.int z)) (show ((-10 : Int32) - 4) = (((-10 : Int32) - 4)) from by simp [c_9, c_18, hcj, h9, h8, h7]), rfl, (by first | (simp only [kF_plain, if_pos c_9, if_pos c_18, hcj, if_neg h9, if_pos h8, if_neg h7]; done) | (simp only [kF_plain, if_pos c_9, if_pos c_18, hcj, if_neg h9, if_pos h8, if_neg h7]; rfl))⟩ (Nat.le_of_ble_eq_true rfl) dX7_plain_54
        · refine ky_top (v' := .int 3) (congrArg Value.int (kIc3 h9 h8 h7 hh)) ?_
          refine ky_istore C (lv' := [(6, .int 3), (5, .ref (ad 4)), (0, .ref (ad 0)), (1, .int (nI 1)), (2, .int y), (3, .int z), (4, .int u)]) dX7_plain_41 (by decide) rfl ?_
          refine ky_iload C 0 dX7_plain_43 rfl ?_
          refine ky_if_eq C 55 dX7_plain_45 (by decide) (fun q => absurd q (by decide)) (fun c_45 => ?_)
          refine ky_aload_n C 2 dX7_plain_48 rfl rfl ?_
          refine ky_iload C 0 dX7_plain_49 rfl ?_
          refine ky_callV0 C 1 (kX7_faulted l D cI cS ad left 0 3) gX7_plain_X7_faulted rfl rfl rfl hdX7_faulted 0 7 rfl rfl rfl ⟨Nat.le_of_ble_eq_true rfl, Nat.le_of_ble_eq_true rfl⟩ rfl rfl (Nat.le_of_ble_eq_true rfl) dX7_plain_51 [0] rfl rfl ?_
          rintro _ _ ⟨rfl, rfl⟩
          refine ky_ws (ws' := [(ad 0, .inr (7, [.ref (ad 1), .ref (ad 10), .ref (ad 14), .ref (ad 18), .ref (ad 23), .ref (ad 29), .ref (ad 32), .int left, .int 3])), (ad 1, .inl (cS, 4, .inr (.inr (.inr (.inr (fun k => some (ad (2 + 2 * k)))))))), (ad 2, .inr (4, [.ref (ad 3), .int ((sh 0).1), .int ((sh 0).2.1)])), (ad 3, .inl (cI, 40, .inl ((sh 0).2.2))), (ad 4, .inr (4, [.ref (ad 5), .int ((sh 1).1), .int ((sh 1).2.1)])), (ad 5, .inl (cI, 40, .inl ((sh 1).2.2))), (ad 6, .inr (4, [.ref (ad 7), .int ((sh 2).1), .int ((sh 2).2.1)])), (ad 7, .inl (cI, 40, .inl ((sh 2).2.2))), (ad 8, .inr (4, [.ref (ad 9), .int ((sh 3).1), .int ((sh 3).2.1)])), (ad 9, .inl (cI, 40, .inl ((sh 3).2.2))), (ad 10, .inr (3, [.ref (ad 11), .ref (ad 12), .ref (ad 13), .int (nI N), .int wind, .int low, .int forb])), (ad 11, .inl (cI, 8, .inl club)), (ad 12, .inl (cI, 8, .inl need)), (ad 13, .inl (cI, 8, .inl worth)), (ad 14, .inr (6, [.ref (ad 15), .ref (ad 16), .ref (ad 17), .int (nI nc)])), (ad 18, .inr (5, [.ref (ad 19), .ref (ad 20), .ref (ad 21), .ref (ad 22), .int (nI ns)]))]) (st' := [.int ((-10 : Int32) - 3)]) rfl rfl ?_
          exact ky_iret C hr hlk ⟨((-10 : Int32) - 3), 3, N, wind, low, forb, club, need, worth, nc, ns, congrArg (fun z => some (Value.int z)) (show ((-10 : Int32) - 3) = (((-10 : Int32) - 3)) from by simp [c_9, c_18, hcj, h9, h8, h7, hh]), rfl, (by first | (simp only [kF_plain, if_pos c_9, if_pos c_18, hcj, if_neg h9, if_pos h8, if_pos h7, if_neg hh]; done) | (simp only [kF_plain, if_pos c_9, if_pos c_18, hcj, if_neg h9, if_pos h8, if_pos h7, if_neg hh]; rfl))⟩ (Nat.le_of_ble_eq_true rfl) dX7_plain_54
        · refine ky_top (v' := .int 0) (congrArg Value.int (kIc0 h9 h8 h7 hh)) ?_
          refine ky_istore C (lv' := [(6, .int 0), (5, .ref (ad 4)), (0, .ref (ad 0)), (1, .int (nI 1)), (2, .int y), (3, .int z), (4, .int u)]) dX7_plain_41 (by decide) rfl ?_
          refine ky_iload C 0 dX7_plain_43 rfl ?_
          refine ky_if_eq C 55 dX7_plain_45 (by decide) (fun c_45 => ?_) (fun q => absurd q (by decide))
          obtain ⟨i0, n0, hi0n0, rfl, rfl⟩ := kHoldN (hsh 1 (by decide)) h9 hh
          have hci0 : (nI i0).toNatClampNeg = i0 := nI_clamp (by omega)
          have hcn0 : (nI n0).toNatClampNeg = n0 := nI_clamp (by omega)
          refine ky_aload C 1 dX7_plain_55 rfl ?_
          refine ky_iload_n C 5 dX7_plain_57 rfl rfl ?_
          refine ky_iload C 6 dX7_plain_58 rfl ?_
          refine ky_callS0 C 3 (kX3_faultOfText l D cI cS (ad 4) (ad 5) ((sh 1).1) ((sh 1).2.1) ((sh 1).2.2) i0 n0 hi0n0) gX7_plain_X3_faultOfText rfl rfl rfl hdX3_faultOfText.2 ⟨Nat.le_of_ble_eq_true rfl, Nat.le_of_ble_eq_true rfl⟩ rfl rfl (Nat.le_of_ble_eq_true rfl) dX7_plain_60 [4, 5] rfl rfl ?_
          rintro _ _ ⟨rfl, rfl⟩
          refine ky_ws (ws' := [(ad 0, .inr (7, [.ref (ad 1), .ref (ad 10), .ref (ad 14), .ref (ad 18), .ref (ad 23), .ref (ad 29), .ref (ad 32), .int left, .int 0])), (ad 1, .inl (cS, 4, .inr (.inr (.inr (.inr (fun k => some (ad (2 + 2 * k)))))))), (ad 2, .inr (4, [.ref (ad 3), .int ((sh 0).1), .int ((sh 0).2.1)])), (ad 3, .inl (cI, 40, .inl ((sh 0).2.2))), (ad 4, .inr (4, [.ref (ad 5), .int ((sh 1).1), .int ((sh 1).2.1)])), (ad 5, .inl (cI, 40, .inl ((sh 1).2.2))), (ad 6, .inr (4, [.ref (ad 7), .int ((sh 2).1), .int ((sh 2).2.1)])), (ad 7, .inl (cI, 40, .inl ((sh 2).2.2))), (ad 8, .inr (4, [.ref (ad 9), .int ((sh 3).1), .int ((sh 3).2.1)])), (ad 9, .inl (cI, 40, .inl ((sh 3).2.2))), (ad 10, .inr (3, [.ref (ad 11), .ref (ad 12), .ref (ad 13), .int (nI N), .int wind, .int low, .int forb])), (ad 11, .inl (cI, 8, .inl club)), (ad 12, .inl (cI, 8, .inl need)), (ad 13, .inl (cI, 8, .inl worth)), (ad 14, .inr (6, [.ref (ad 15), .ref (ad 16), .ref (ad 17), .int (nI nc)])), (ad 18, .inr (5, [.ref (ad 19), .ref (ad 20), .ref (ad 21), .ref (ad 22), .int (nI ns)]))]) (st' := [.int (kBad (fun p => ((sh 1).2.2) (i0 + p)) n0)]) rfl rfl ?_
          refine ky_istore C (lv' := [(7, .int (kBad (fun p => ((sh 1).2.2) (i0 + p)) n0)), (6, .int 0), (5, .ref (ad 4)), (0, .ref (ad 0)), (1, .int (nI 1)), (2, .int y), (3, .int (nI i0)), (4, .int (nI n0))]) dX7_plain_63 (by decide) rfl ?_
          refine ky_iload C 0 dX7_plain_65 rfl ?_
          refine ky_if_lt C 76 dX7_plain_67 (by decide) (fun c_67 => ?_) (fun c_67 => ?_)
          · have d_67 := Int32.not_le.mpr c_67
            obtain ⟨hb1, hn3, hn31, hn7⟩ := kBad_neg (show n0 ≤ 40 by omega) c_67
            refine ky_aload_n C 3 dX7_plain_76 rfl rfl ?_
            refine ky_get C (ci := 7) (T := TX7) (N := 9) (Cn := RX7) (ref := "RainAccount") hiX7_plain_X7 0 rfl rfl 1 (by decide) (List.mem_of_getElem? (i := 3) rfl) rfl (v := .ref (ad 10)) rfl dX7_plain_77 ?_
            refine ky_aload C 2 dX7_plain_80 rfl ?_
            refine ky_iload_n C 6 dX7_plain_82 rfl rfl ?_
            refine ky_iload C 7 dX7_plain_83 rfl ?_
            refine ky_callV0 C 3 (kX3_takeText l D cI cS ad N wind low forb club need worth (ad 4) (ad 5) ((sh 1).1) ((sh 1).2.1) ((sh 1).2.2) i0 n0 hi0n0 hn3 hn31) gX7_plain_X3_takeText rfl rfl rfl hdX3_takeText 10 3 rfl rfl rfl ⟨Nat.le_of_ble_eq_true rfl, Nat.le_of_ble_eq_true rfl⟩ rfl rfl (Nat.le_of_ble_eq_true rfl) dX7_plain_85 [10, 11, 12, 13, 4, 5] rfl rfl ?_
            rintro _ _ ⟨rfl, rfl⟩
            refine ky_ws (ws' := [(ad 0, .inr (7, [.ref (ad 1), .ref (ad 10), .ref (ad 14), .ref (ad 18), .ref (ad 23), .ref (ad 29), .ref (ad 32), .int left, .int 0])), (ad 1, .inl (cS, 4, .inr (.inr (.inr (.inr (fun k => some (ad (2 + 2 * k)))))))), (ad 2, .inr (4, [.ref (ad 3), .int ((sh 0).1), .int ((sh 0).2.1)])), (ad 3, .inl (cI, 40, .inl ((sh 0).2.2))), (ad 4, .inr (4, [.ref (ad 5), .int ((sh 1).1), .int ((sh 1).2.1)])), (ad 5, .inl (cI, 40, .inl ((sh 1).2.2))), (ad 6, .inr (4, [.ref (ad 7), .int ((sh 2).1), .int ((sh 2).2.1)])), (ad 7, .inl (cI, 40, .inl ((sh 2).2.2))), (ad 8, .inr (4, [.ref (ad 9), .int ((sh 3).1), .int ((sh 3).2.1)])), (ad 9, .inl (cI, 40, .inl ((sh 3).2.2))), (ad 10, .inr (3, [.ref (ad 11), .ref (ad 12), .ref (ad 13), .int (nI ((n0 + 1) / 4)), .int 0, .int 0, .int 0])), (ad 11, .inl (cI, 8, .inl (kFil (fun f9 => ((sh 1).2.2) (i0 + f9 * 4) - 48) club ((n0 + 1) / 4)))), (ad 12, .inl (cI, 8, .inl (kFil (fun f9 => ((sh 1).2.2) (i0 + f9 * 4 + 1) - 48) need ((n0 + 1) / 4)))), (ad 13, .inl (cI, 8, .inl (kFil (fun f9 => ((sh 1).2.2) (i0 + f9 * 4 + 2) - 48) worth ((n0 + 1) / 4)))), (ad 14, .inr (6, [.ref (ad 15), .ref (ad 16), .ref (ad 17), .int (nI nc)])), (ad 18, .inr (5, [.ref (ad 19), .ref (ad 20), .ref (ad 21), .ref (ad 22), .int (nI ns)]))]) (st' := []) rfl rfl ?_
            refine ky_aload_n C 3 dX7_plain_88 rfl rfl ?_
            refine ky_get C (ci := 7) (T := TX7) (N := 9) (Cn := RX7) (ref := "RainAccount") hiX7_plain_X7 0 rfl rfl 2 (by decide) (List.mem_of_getElem? (i := 4) rfl) rfl (v := .ref (ad 14)) rfl dX7_plain_89 ?_
            refine ky_iconst C dX7_plain_92 (v := 0) (by decide) ?_
            refine ky_put C (ci := 6) (T := TX6) (N := 4) (Cn := RX6) (ref := "RainAccount$Sky") hiX7_plain_X6 tyX6 tyX6_ok nmX6 14 rfl rfl 3 (by decide) (List.mem_of_getElem? (i := 5) rfl) rfl rfl rfl rfl (Nat.le_of_ble_eq_true rfl) dX7_plain_93 (ws' := [(ad 0, .inr (7, [.ref (ad 1), .ref (ad 10), .ref (ad 14), .ref (ad 18), .ref (ad 23), .ref (ad 29), .ref (ad 32), .int left, .int 0])), (ad 1, .inl (cS, 4, .inr (.inr (.inr (.inr (fun k => some (ad (2 + 2 * k)))))))), (ad 2, .inr (4, [.ref (ad 3), .int ((sh 0).1), .int ((sh 0).2.1)])), (ad 3, .inl (cI, 40, .inl ((sh 0).2.2))), (ad 4, .inr (4, [.ref (ad 5), .int ((sh 1).1), .int ((sh 1).2.1)])), (ad 5, .inl (cI, 40, .inl ((sh 1).2.2))), (ad 6, .inr (4, [.ref (ad 7), .int ((sh 2).1), .int ((sh 2).2.1)])), (ad 7, .inl (cI, 40, .inl ((sh 2).2.2))), (ad 8, .inr (4, [.ref (ad 9), .int ((sh 3).1), .int ((sh 3).2.1)])), (ad 9, .inl (cI, 40, .inl ((sh 3).2.2))), (ad 10, .inr (3, [.ref (ad 11), .ref (ad 12), .ref (ad 13), .int (nI ((n0 + 1) / 4)), .int 0, .int 0, .int 0])), (ad 11, .inl (cI, 8, .inl (kFil (fun f9 => ((sh 1).2.2) (i0 + f9 * 4) - 48) club ((n0 + 1) / 4)))), (ad 12, .inl (cI, 8, .inl (kFil (fun f9 => ((sh 1).2.2) (i0 + f9 * 4 + 1) - 48) need ((n0 + 1) / 4)))), (ad 13, .inl (cI, 8, .inl (kFil (fun f9 => ((sh 1).2.2) (i0 + f9 * 4 + 2) - 48) worth ((n0 + 1) / 4)))), (ad 14, .inr (6, [.ref (ad 15), .ref (ad 16), .ref (ad 17), .int 0])), (ad 18, .inr (5, [.ref (ad 19), .ref (ad 20), .ref (ad 21), .ref (ad 22), .int (nI ns)]))]) rfl ?_
            refine ky_aload_n C 3 dX7_plain_96 rfl rfl ?_
            refine ky_get C (ci := 7) (T := TX7) (N := 9) (Cn := RX7) (ref := "RainAccount") hiX7_plain_X7 0 rfl rfl 3 (by decide) (List.mem_of_getElem? (i := 6) rfl) rfl (v := .ref (ad 18)) rfl dX7_plain_97 ?_
            refine ky_iconst C dX7_plain_100 (v := 0) (by decide) ?_
            refine ky_put C (ci := 5) (T := TX5) (N := 5) (Cn := RX5) (ref := "RainAccount$Shots") hiX7_plain_X5 tyX5 tyX5_ok nmX5 15 rfl rfl 4 (by decide) (List.mem_of_getElem? (i := 7) rfl) rfl rfl rfl rfl (Nat.le_of_ble_eq_true rfl) dX7_plain_101 (ws' := [(ad 0, .inr (7, [.ref (ad 1), .ref (ad 10), .ref (ad 14), .ref (ad 18), .ref (ad 23), .ref (ad 29), .ref (ad 32), .int left, .int 0])), (ad 1, .inl (cS, 4, .inr (.inr (.inr (.inr (fun k => some (ad (2 + 2 * k)))))))), (ad 2, .inr (4, [.ref (ad 3), .int ((sh 0).1), .int ((sh 0).2.1)])), (ad 3, .inl (cI, 40, .inl ((sh 0).2.2))), (ad 4, .inr (4, [.ref (ad 5), .int ((sh 1).1), .int ((sh 1).2.1)])), (ad 5, .inl (cI, 40, .inl ((sh 1).2.2))), (ad 6, .inr (4, [.ref (ad 7), .int ((sh 2).1), .int ((sh 2).2.1)])), (ad 7, .inl (cI, 40, .inl ((sh 2).2.2))), (ad 8, .inr (4, [.ref (ad 9), .int ((sh 3).1), .int ((sh 3).2.1)])), (ad 9, .inl (cI, 40, .inl ((sh 3).2.2))), (ad 10, .inr (3, [.ref (ad 11), .ref (ad 12), .ref (ad 13), .int (nI ((n0 + 1) / 4)), .int 0, .int 0, .int 0])), (ad 11, .inl (cI, 8, .inl (kFil (fun f9 => ((sh 1).2.2) (i0 + f9 * 4) - 48) club ((n0 + 1) / 4)))), (ad 12, .inl (cI, 8, .inl (kFil (fun f9 => ((sh 1).2.2) (i0 + f9 * 4 + 1) - 48) need ((n0 + 1) / 4)))), (ad 13, .inl (cI, 8, .inl (kFil (fun f9 => ((sh 1).2.2) (i0 + f9 * 4 + 2) - 48) worth ((n0 + 1) / 4)))), (ad 14, .inr (6, [.ref (ad 15), .ref (ad 16), .ref (ad 17), .int 0])), (ad 18, .inr (5, [.ref (ad 19), .ref (ad 20), .ref (ad 21), .ref (ad 22), .int 0]))]) rfl ?_
            refine ky_aload_n C 3 dX7_plain_104 rfl rfl ?_
            refine ky_get C (ci := 7) (T := TX7) (N := 9) (Cn := RX7) (ref := "RainAccount") hiX7_plain_X7 0 rfl rfl 1 (by decide) (List.mem_of_getElem? (i := 3) rfl) rfl (v := .ref (ad 10)) rfl dX7_plain_105 ?_
            refine ky_get C (ci := 3) (T := TX3) (N := 7) (Cn := RX3) (ref := "RainAccount$Land") hiX7_plain_X3 10 rfl rfl 3 (by decide) (List.mem_of_getElem? (i := 8) rfl) rfl (v := .int (nI ((n0 + 1) / 4))) rfl dX7_plain_108 ?_
            exact ky_iret C hr hlk ⟨(nI ((n0 + 1) / 4)), 0, ((n0 + 1) / 4), 0, 0, 0, (kFil (fun f9 => ((sh 1).2.2) (i0 + f9 * 4) - 48) club ((n0 + 1) / 4)), (kFil (fun f9 => ((sh 1).2.2) (i0 + f9 * 4 + 1) - 48) need ((n0 + 1) / 4)), (kFil (fun f9 => ((sh 1).2.2) (i0 + f9 * 4 + 2) - 48) worth ((n0 + 1) / 4)), 0, 0, rfl, rfl, (by simp only [kF_plain, if_pos c_9, if_pos c_18, hcj, if_neg h9, if_pos h8, if_pos h7, if_pos hh, hci0, hcn0, if_pos c_67, if_neg d_67, if_pos hb1])⟩ (Nat.le_of_ble_eq_true rfl) dX7_plain_111
          · have d_67 := Int32.not_lt.mp c_67
            have hb1 := kBad_nn c_67
            refine ky_bipush C dX7_plain_70 (v := (-100)) (by decide) ?_
            refine ky_iload C 0 dX7_plain_72 rfl ?_
            refine ky_isub C (v := (-100 : Int32) - (kBad (fun p => ((sh 1).2.2) (i0 + p)) n0)) dX7_plain_74 rfl ?_
            exact ky_iret C hr hlk ⟨((-100 : Int32) - (kBad (fun p => ((sh 1).2.2) (i0 + p)) n0)), 0, N, wind, low, forb, club, need, worth, nc, ns, congrArg (fun z => some (Value.int z)) (show ((-100 : Int32) - (kBad (fun p => ((sh 1).2.2) (i0 + p)) n0)) = (((-100 : Int32) - (kBad (fun p => ((sh 1).2.2) (i0 + p)) n0))) from by simp [c_9, c_18, hcj, h9, h8, h7, hh, hci0, hcn0, c_67, d_67, hb1]), rfl, (by simp only [kF_plain, if_pos c_9, if_pos c_18, hcj, if_neg h9, if_pos h8, if_pos h7, if_pos hh, hci0, hcn0, if_neg c_67, if_pos d_67, if_neg hb1])⟩ (Nat.le_of_ble_eq_true rfl) dX7_plain_75
      · refine ky_aload_n C 0 dX7_plain_24 rfl rfl ?_
        refine ky_get C (ci := 7) (T := TX7) (N := 9) (Cn := RX7) (ref := "RainAccount") hiX7_plain_X7 0 rfl rfl 0 (by decide) (List.mem_of_getElem? (i := 2) rfl) rfl (v := .ref (ad 1)) rfl dX7_plain_25 ?_
        refine ky_iload_n C 1 dX7_plain_28 rfl rfl ?_
        refine ky_aald C 1 (k := 2) (b := ad 6) rfl (by omega) (by decide) rfl dX7_plain_29 ?_
        refine ky_astore C (lv' := [(5, .ref (ad 6)), (0, .ref (ad 0)), (1, .int (nI 2)), (2, .int y), (3, .int z), (4, .int u)]) dX7_plain_30 (by decide) rfl ?_
        refine ky_aload C 0 dX7_plain_32 rfl ?_
        refine ky_iload_n C 3 dX7_plain_34 rfl rfl ?_
        refine ky_iload_n C 4 dX7_plain_35 rfl rfl ?_
        refine ky_iload C 5 dX7_plain_36 rfl ?_
        refine ky_callV0 C 3 (kX4_faultOfCells l D cI cS (ad 6) (ad 7) ((sh 2).1) ((sh 2).2.1) y z u) gX7_plain_X4_faultOfCells rfl rfl rfl hdX4_faultOfCells 6 4 rfl rfl rfl ⟨Nat.le_of_ble_eq_true rfl, Nat.le_of_ble_eq_true rfl⟩ rfl rfl (Nat.le_of_ble_eq_true rfl) dX7_plain_38 [6] rfl rfl ?_
        rintro _ _ ⟨rfl, rfl⟩
        refine ky_ws (ws' := [(ad 0, .inr (7, [.ref (ad 1), .ref (ad 10), .ref (ad 14), .ref (ad 18), .ref (ad 23), .ref (ad 29), .ref (ad 32), .int left, .int 0])), (ad 1, .inl (cS, 4, .inr (.inr (.inr (.inr (fun k => some (ad (2 + 2 * k)))))))), (ad 2, .inr (4, [.ref (ad 3), .int ((sh 0).1), .int ((sh 0).2.1)])), (ad 3, .inl (cI, 40, .inl ((sh 0).2.2))), (ad 4, .inr (4, [.ref (ad 5), .int ((sh 1).1), .int ((sh 1).2.1)])), (ad 5, .inl (cI, 40, .inl ((sh 1).2.2))), (ad 6, .inr (4, [.ref (ad 7), .int ((sh 2).1), .int ((sh 2).2.1)])), (ad 7, .inl (cI, 40, .inl ((sh 2).2.2))), (ad 8, .inr (4, [.ref (ad 9), .int ((sh 3).1), .int ((sh 3).2.1)])), (ad 9, .inl (cI, 40, .inl ((sh 3).2.2))), (ad 10, .inr (3, [.ref (ad 11), .ref (ad 12), .ref (ad 13), .int (nI N), .int wind, .int low, .int forb])), (ad 11, .inl (cI, 8, .inl club)), (ad 12, .inl (cI, 8, .inl need)), (ad 13, .inl (cI, 8, .inl worth)), (ad 14, .inr (6, [.ref (ad 15), .ref (ad 16), .ref (ad 17), .int (nI nc)])), (ad 18, .inr (5, [.ref (ad 19), .ref (ad 20), .ref (ad 21), .ref (ad 22), .int (nI ns)]))]) (st' := [.int (if ((sh 2).2.1) = -1 then 1 else if ((sh 2).1) = y then (if 0 ≤ u then (if 0 ≤ z ∧ (0 : Int32) ≤ u ∧ z ≤ ((sh 2).2.1) ∧ u ≤ ((sh 2).2.1) - z then 0 else 3) else 4) else 2)]) rfl rfl ?_
        rcases kFc (sh 2).2.1 (sh 2).1 y z u with h9 | ⟨h9, h8⟩ | ⟨h9, h8, h7⟩ | ⟨h9, h8, h7, hh⟩ | ⟨h9, h8, h7, hh⟩
        · refine ky_top (v' := .int 1) (congrArg Value.int (kIc1 h9)) ?_
          refine ky_istore C (lv' := [(6, .int 1), (5, .ref (ad 6)), (0, .ref (ad 0)), (1, .int (nI 2)), (2, .int y), (3, .int z), (4, .int u)]) dX7_plain_41 (by decide) rfl ?_
          refine ky_iload C 0 dX7_plain_43 rfl ?_
          refine ky_if_eq C 55 dX7_plain_45 (by decide) (fun q => absurd q (by decide)) (fun c_45 => ?_)
          refine ky_aload_n C 2 dX7_plain_48 rfl rfl ?_
          refine ky_iload C 0 dX7_plain_49 rfl ?_
          refine ky_callV0 C 1 (kX7_faulted l D cI cS ad left 0 1) gX7_plain_X7_faulted rfl rfl rfl hdX7_faulted 0 7 rfl rfl rfl ⟨Nat.le_of_ble_eq_true rfl, Nat.le_of_ble_eq_true rfl⟩ rfl rfl (Nat.le_of_ble_eq_true rfl) dX7_plain_51 [0] rfl rfl ?_
          rintro _ _ ⟨rfl, rfl⟩
          refine ky_ws (ws' := [(ad 0, .inr (7, [.ref (ad 1), .ref (ad 10), .ref (ad 14), .ref (ad 18), .ref (ad 23), .ref (ad 29), .ref (ad 32), .int left, .int 1])), (ad 1, .inl (cS, 4, .inr (.inr (.inr (.inr (fun k => some (ad (2 + 2 * k)))))))), (ad 2, .inr (4, [.ref (ad 3), .int ((sh 0).1), .int ((sh 0).2.1)])), (ad 3, .inl (cI, 40, .inl ((sh 0).2.2))), (ad 4, .inr (4, [.ref (ad 5), .int ((sh 1).1), .int ((sh 1).2.1)])), (ad 5, .inl (cI, 40, .inl ((sh 1).2.2))), (ad 6, .inr (4, [.ref (ad 7), .int ((sh 2).1), .int ((sh 2).2.1)])), (ad 7, .inl (cI, 40, .inl ((sh 2).2.2))), (ad 8, .inr (4, [.ref (ad 9), .int ((sh 3).1), .int ((sh 3).2.1)])), (ad 9, .inl (cI, 40, .inl ((sh 3).2.2))), (ad 10, .inr (3, [.ref (ad 11), .ref (ad 12), .ref (ad 13), .int (nI N), .int wind, .int low, .int forb])), (ad 11, .inl (cI, 8, .inl club)), (ad 12, .inl (cI, 8, .inl need)), (ad 13, .inl (cI, 8, .inl worth)), (ad 14, .inr (6, [.ref (ad 15), .ref (ad 16), .ref (ad 17), .int (nI nc)])), (ad 18, .inr (5, [.ref (ad 19), .ref (ad 20), .ref (ad 21), .ref (ad 22), .int (nI ns)]))]) (st' := [.int ((-10 : Int32) - 1)]) rfl rfl ?_
          exact ky_iret C hr hlk ⟨((-10 : Int32) - 1), 1, N, wind, low, forb, club, need, worth, nc, ns, congrArg (fun z => some (Value.int z)) (show ((-10 : Int32) - 1) = (((-10 : Int32) - 1)) from by simp [c_9, c_18, hcj, h9]), rfl, (by first | (simp only [kF_plain, if_pos c_9, if_pos c_18, hcj, if_pos h9]; done) | (simp only [kF_plain, if_pos c_9, if_pos c_18, hcj, if_pos h9]; rfl))⟩ (Nat.le_of_ble_eq_true rfl) dX7_plain_54
        · refine ky_top (v' := .int 2) (congrArg Value.int (kIc2 h9 h8)) ?_
          refine ky_istore C (lv' := [(6, .int 2), (5, .ref (ad 6)), (0, .ref (ad 0)), (1, .int (nI 2)), (2, .int y), (3, .int z), (4, .int u)]) dX7_plain_41 (by decide) rfl ?_
          refine ky_iload C 0 dX7_plain_43 rfl ?_
          refine ky_if_eq C 55 dX7_plain_45 (by decide) (fun q => absurd q (by decide)) (fun c_45 => ?_)
          refine ky_aload_n C 2 dX7_plain_48 rfl rfl ?_
          refine ky_iload C 0 dX7_plain_49 rfl ?_
          refine ky_callV0 C 1 (kX7_faulted l D cI cS ad left 0 2) gX7_plain_X7_faulted rfl rfl rfl hdX7_faulted 0 7 rfl rfl rfl ⟨Nat.le_of_ble_eq_true rfl, Nat.le_of_ble_eq_true rfl⟩ rfl rfl (Nat.le_of_ble_eq_true rfl) dX7_plain_51 [0] rfl rfl ?_
          rintro _ _ ⟨rfl, rfl⟩
          refine ky_ws (ws' := [(ad 0, .inr (7, [.ref (ad 1), .ref (ad 10), .ref (ad 14), .ref (ad 18), .ref (ad 23), .ref (ad 29), .ref (ad 32), .int left, .int 2])), (ad 1, .inl (cS, 4, .inr (.inr (.inr (.inr (fun k => some (ad (2 + 2 * k)))))))), (ad 2, .inr (4, [.ref (ad 3), .int ((sh 0).1), .int ((sh 0).2.1)])), (ad 3, .inl (cI, 40, .inl ((sh 0).2.2))), (ad 4, .inr (4, [.ref (ad 5), .int ((sh 1).1), .int ((sh 1).2.1)])), (ad 5, .inl (cI, 40, .inl ((sh 1).2.2))), (ad 6, .inr (4, [.ref (ad 7), .int ((sh 2).1), .int ((sh 2).2.1)])), (ad 7, .inl (cI, 40, .inl ((sh 2).2.2))), (ad 8, .inr (4, [.ref (ad 9), .int ((sh 3).1), .int ((sh 3).2.1)])), (ad 9, .inl (cI, 40, .inl ((sh 3).2.2))), (ad 10, .inr (3, [.ref (ad 11), .ref (ad 12), .ref (ad 13), .int (nI N), .int wind, .int low, .int forb])), (ad 11, .inl (cI, 8, .inl club)), (ad 12, .inl (cI, 8, .inl need)), (ad 13, .inl (cI, 8, .inl worth)), (ad 14, .inr (6, [.ref (ad 15), .ref (ad 16), .ref (ad 17), .int (nI nc)])), (ad 18, .inr (5, [.ref (ad 19), .ref (ad 20), .ref (ad 21), .ref (ad 22), .int (nI ns)]))]) (st' := [.int ((-10 : Int32) - 2)]) rfl rfl ?_
          exact ky_iret C hr hlk ⟨((-10 : Int32) - 2), 2, N, wind, low, forb, club, need, worth, nc, ns, congrArg (fun z => some (Value.int z)) (show ((-10 : Int32) - 2) = (((-10 : Int32) - 2)) from by simp [c_9, c_18, hcj, h9, h8]), rfl, (by first | (simp only [kF_plain, if_pos c_9, if_pos c_18, hcj, if_neg h9, if_neg h8]; done) | (simp only [kF_plain, if_pos c_9, if_pos c_18, hcj, if_neg h9, if_neg h8]; rfl))⟩ (Nat.le_of_ble_eq_true rfl) dX7_plain_54
        · refine ky_top (v' := .int 4) (congrArg Value.int (kIc4 h9 h8 h7)) ?_
          refine ky_istore C (lv' := [(6, .int 4), (5, .ref (ad 6)), (0, .ref (ad 0)), (1, .int (nI 2)), (2, .int y), (3, .int z), (4, .int u)]) dX7_plain_41 (by decide) rfl ?_
          refine ky_iload C 0 dX7_plain_43 rfl ?_
          refine ky_if_eq C 55 dX7_plain_45 (by decide) (fun q => absurd q (by decide)) (fun c_45 => ?_)
          refine ky_aload_n C 2 dX7_plain_48 rfl rfl ?_
          refine ky_iload C 0 dX7_plain_49 rfl ?_
          refine ky_callV0 C 1 (kX7_faulted l D cI cS ad left 0 4) gX7_plain_X7_faulted rfl rfl rfl hdX7_faulted 0 7 rfl rfl rfl ⟨Nat.le_of_ble_eq_true rfl, Nat.le_of_ble_eq_true rfl⟩ rfl rfl (Nat.le_of_ble_eq_true rfl) dX7_plain_51 [0] rfl rfl ?_
          rintro _ _ ⟨rfl, rfl⟩
          refine ky_ws (ws' := [(ad 0, .inr (7, [.ref (ad 1), .ref (ad 10), .ref (ad 14), .ref (ad 18), .ref (ad 23), .ref (ad 29), .ref (ad 32), .int left, .int 4])), (ad 1, .inl (cS, 4, .inr (.inr (.inr (.inr (fun k => some (ad (2 + 2 * k)))))))), (ad 2, .inr (4, [.ref (ad 3), .int ((sh 0).1), .int ((sh 0).2.1)])), (ad 3, .inl (cI, 40, .inl ((sh 0).2.2))), (ad 4, .inr (4, [.ref (ad 5), .int ((sh 1).1), .int ((sh 1).2.1)])), (ad 5, .inl (cI, 40, .inl ((sh 1).2.2))), (ad 6, .inr (4, [.ref (ad 7), .int ((sh 2).1), .int ((sh 2).2.1)])), (ad 7, .inl (cI, 40, .inl ((sh 2).2.2))), (ad 8, .inr (4, [.ref (ad 9), .int ((sh 3).1), .int ((sh 3).2.1)])), (ad 9, .inl (cI, 40, .inl ((sh 3).2.2))), (ad 10, .inr (3, [.ref (ad 11), .ref (ad 12), .ref (ad 13), .int (nI N), .int wind, .int low, .int forb])), (ad 11, .inl (cI, 8, .inl club)), (ad 12, .inl (cI, 8, .inl need)), (ad 13, .inl (cI, 8, .inl worth)), (ad 14, .inr (6, [.ref (ad 15), .ref (ad 16), .ref (ad 17), .int (nI nc)])), (ad 18, .inr (5, [.ref (ad 19), .ref (ad 20), .ref (ad 21), .ref (ad 22), .int (nI ns)]))]) (st' := [.int ((-10 : Int32) - 4)]) rfl rfl ?_
          exact ky_iret C hr hlk ⟨((-10 : Int32) - 4), 4, N, wind, low, forb, club, need, worth, nc, ns, congrArg (fun z => some (Value.int z)) (show ((-10 : Int32) - 4) = (((-10 : Int32) - 4)) from by simp [c_9, c_18, hcj, h9, h8, h7]), rfl, (by first | (simp only [kF_plain, if_pos c_9, if_pos c_18, hcj, if_neg h9, if_pos h8, if_neg h7]; done) | (simp only [kF_plain, if_pos c_9, if_pos c_18, hcj, if_neg h9, if_pos h8, if_neg h7]; rfl))⟩ (Nat.le_of_ble_eq_true rfl) dX7_plain_54
        · refine ky_top (v' := .int 3) (congrArg Value.int (kIc3 h9 h8 h7 hh)) ?_
          refine ky_istore C (lv' := [(6, .int 3), (5, .ref (ad 6)), (0, .ref (ad 0)), (1, .int (nI 2)), (2, .int y), (3, .int z), (4, .int u)]) dX7_plain_41 (by decide) rfl ?_
          refine ky_iload C 0 dX7_plain_43 rfl ?_
          refine ky_if_eq C 55 dX7_plain_45 (by decide) (fun q => absurd q (by decide)) (fun c_45 => ?_)
          refine ky_aload_n C 2 dX7_plain_48 rfl rfl ?_
          refine ky_iload C 0 dX7_plain_49 rfl ?_
          refine ky_callV0 C 1 (kX7_faulted l D cI cS ad left 0 3) gX7_plain_X7_faulted rfl rfl rfl hdX7_faulted 0 7 rfl rfl rfl ⟨Nat.le_of_ble_eq_true rfl, Nat.le_of_ble_eq_true rfl⟩ rfl rfl (Nat.le_of_ble_eq_true rfl) dX7_plain_51 [0] rfl rfl ?_
          rintro _ _ ⟨rfl, rfl⟩
          refine ky_ws (ws' := [(ad 0, .inr (7, [.ref (ad 1), .ref (ad 10), .ref (ad 14), .ref (ad 18), .ref (ad 23), .ref (ad 29), .ref (ad 32), .int left, .int 3])), (ad 1, .inl (cS, 4, .inr (.inr (.inr (.inr (fun k => some (ad (2 + 2 * k)))))))), (ad 2, .inr (4, [.ref (ad 3), .int ((sh 0).1), .int ((sh 0).2.1)])), (ad 3, .inl (cI, 40, .inl ((sh 0).2.2))), (ad 4, .inr (4, [.ref (ad 5), .int ((sh 1).1), .int ((sh 1).2.1)])), (ad 5, .inl (cI, 40, .inl ((sh 1).2.2))), (ad 6, .inr (4, [.ref (ad 7), .int ((sh 2).1), .int ((sh 2).2.1)])), (ad 7, .inl (cI, 40, .inl ((sh 2).2.2))), (ad 8, .inr (4, [.ref (ad 9), .int ((sh 3).1), .int ((sh 3).2.1)])), (ad 9, .inl (cI, 40, .inl ((sh 3).2.2))), (ad 10, .inr (3, [.ref (ad 11), .ref (ad 12), .ref (ad 13), .int (nI N), .int wind, .int low, .int forb])), (ad 11, .inl (cI, 8, .inl club)), (ad 12, .inl (cI, 8, .inl need)), (ad 13, .inl (cI, 8, .inl worth)), (ad 14, .inr (6, [.ref (ad 15), .ref (ad 16), .ref (ad 17), .int (nI nc)])), (ad 18, .inr (5, [.ref (ad 19), .ref (ad 20), .ref (ad 21), .ref (ad 22), .int (nI ns)]))]) (st' := [.int ((-10 : Int32) - 3)]) rfl rfl ?_
          exact ky_iret C hr hlk ⟨((-10 : Int32) - 3), 3, N, wind, low, forb, club, need, worth, nc, ns, congrArg (fun z => some (Value.int z)) (show ((-10 : Int32) - 3) = (((-10 : Int32) - 3)) from by simp [c_9, c_18, hcj, h9, h8, h7, hh]), rfl, (by first | (simp only [kF_plain, if_pos c_9, if_pos c_18, hcj, if_neg h9, if_pos h8, if_pos h7, if_neg hh]; done) | (simp only [kF_plain, if_pos c_9, if_pos c_18, hcj, if_neg h9, if_pos h8, if_pos h7, if_neg hh]; rfl))⟩ (Nat.le_of_ble_eq_true rfl) dX7_plain_54
        · refine ky_top (v' := .int 0) (congrArg Value.int (kIc0 h9 h8 h7 hh)) ?_
          refine ky_istore C (lv' := [(6, .int 0), (5, .ref (ad 6)), (0, .ref (ad 0)), (1, .int (nI 2)), (2, .int y), (3, .int z), (4, .int u)]) dX7_plain_41 (by decide) rfl ?_
          refine ky_iload C 0 dX7_plain_43 rfl ?_
          refine ky_if_eq C 55 dX7_plain_45 (by decide) (fun c_45 => ?_) (fun q => absurd q (by decide))
          obtain ⟨i0, n0, hi0n0, rfl, rfl⟩ := kHoldN (hsh 2 (by decide)) h9 hh
          have hci0 : (nI i0).toNatClampNeg = i0 := nI_clamp (by omega)
          have hcn0 : (nI n0).toNatClampNeg = n0 := nI_clamp (by omega)
          refine ky_aload C 1 dX7_plain_55 rfl ?_
          refine ky_iload_n C 5 dX7_plain_57 rfl rfl ?_
          refine ky_iload C 6 dX7_plain_58 rfl ?_
          refine ky_callS0 C 3 (kX3_faultOfText l D cI cS (ad 6) (ad 7) ((sh 2).1) ((sh 2).2.1) ((sh 2).2.2) i0 n0 hi0n0) gX7_plain_X3_faultOfText rfl rfl rfl hdX3_faultOfText.2 ⟨Nat.le_of_ble_eq_true rfl, Nat.le_of_ble_eq_true rfl⟩ rfl rfl (Nat.le_of_ble_eq_true rfl) dX7_plain_60 [6, 7] rfl rfl ?_
          rintro _ _ ⟨rfl, rfl⟩
          refine ky_ws (ws' := [(ad 0, .inr (7, [.ref (ad 1), .ref (ad 10), .ref (ad 14), .ref (ad 18), .ref (ad 23), .ref (ad 29), .ref (ad 32), .int left, .int 0])), (ad 1, .inl (cS, 4, .inr (.inr (.inr (.inr (fun k => some (ad (2 + 2 * k)))))))), (ad 2, .inr (4, [.ref (ad 3), .int ((sh 0).1), .int ((sh 0).2.1)])), (ad 3, .inl (cI, 40, .inl ((sh 0).2.2))), (ad 4, .inr (4, [.ref (ad 5), .int ((sh 1).1), .int ((sh 1).2.1)])), (ad 5, .inl (cI, 40, .inl ((sh 1).2.2))), (ad 6, .inr (4, [.ref (ad 7), .int ((sh 2).1), .int ((sh 2).2.1)])), (ad 7, .inl (cI, 40, .inl ((sh 2).2.2))), (ad 8, .inr (4, [.ref (ad 9), .int ((sh 3).1), .int ((sh 3).2.1)])), (ad 9, .inl (cI, 40, .inl ((sh 3).2.2))), (ad 10, .inr (3, [.ref (ad 11), .ref (ad 12), .ref (ad 13), .int (nI N), .int wind, .int low, .int forb])), (ad 11, .inl (cI, 8, .inl club)), (ad 12, .inl (cI, 8, .inl need)), (ad 13, .inl (cI, 8, .inl worth)), (ad 14, .inr (6, [.ref (ad 15), .ref (ad 16), .ref (ad 17), .int (nI nc)])), (ad 18, .inr (5, [.ref (ad 19), .ref (ad 20), .ref (ad 21), .ref (ad 22), .int (nI ns)]))]) (st' := [.int (kBad (fun p => ((sh 2).2.2) (i0 + p)) n0)]) rfl rfl ?_
          refine ky_istore C (lv' := [(7, .int (kBad (fun p => ((sh 2).2.2) (i0 + p)) n0)), (6, .int 0), (5, .ref (ad 6)), (0, .ref (ad 0)), (1, .int (nI 2)), (2, .int y), (3, .int (nI i0)), (4, .int (nI n0))]) dX7_plain_63 (by decide) rfl ?_
          refine ky_iload C 0 dX7_plain_65 rfl ?_
          refine ky_if_lt C 76 dX7_plain_67 (by decide) (fun c_67 => ?_) (fun c_67 => ?_)
          · have d_67 := Int32.not_le.mpr c_67
            obtain ⟨hb1, hn3, hn31, hn7⟩ := kBad_neg (show n0 ≤ 40 by omega) c_67
            refine ky_aload_n C 3 dX7_plain_76 rfl rfl ?_
            refine ky_get C (ci := 7) (T := TX7) (N := 9) (Cn := RX7) (ref := "RainAccount") hiX7_plain_X7 0 rfl rfl 1 (by decide) (List.mem_of_getElem? (i := 3) rfl) rfl (v := .ref (ad 10)) rfl dX7_plain_77 ?_
            refine ky_aload C 2 dX7_plain_80 rfl ?_
            refine ky_iload_n C 6 dX7_plain_82 rfl rfl ?_
            refine ky_iload C 7 dX7_plain_83 rfl ?_
            refine ky_callV0 C 3 (kX3_takeText l D cI cS ad N wind low forb club need worth (ad 6) (ad 7) ((sh 2).1) ((sh 2).2.1) ((sh 2).2.2) i0 n0 hi0n0 hn3 hn31) gX7_plain_X3_takeText rfl rfl rfl hdX3_takeText 10 3 rfl rfl rfl ⟨Nat.le_of_ble_eq_true rfl, Nat.le_of_ble_eq_true rfl⟩ rfl rfl (Nat.le_of_ble_eq_true rfl) dX7_plain_85 [10, 11, 12, 13, 6, 7] rfl rfl ?_
            rintro _ _ ⟨rfl, rfl⟩
            refine ky_ws (ws' := [(ad 0, .inr (7, [.ref (ad 1), .ref (ad 10), .ref (ad 14), .ref (ad 18), .ref (ad 23), .ref (ad 29), .ref (ad 32), .int left, .int 0])), (ad 1, .inl (cS, 4, .inr (.inr (.inr (.inr (fun k => some (ad (2 + 2 * k)))))))), (ad 2, .inr (4, [.ref (ad 3), .int ((sh 0).1), .int ((sh 0).2.1)])), (ad 3, .inl (cI, 40, .inl ((sh 0).2.2))), (ad 4, .inr (4, [.ref (ad 5), .int ((sh 1).1), .int ((sh 1).2.1)])), (ad 5, .inl (cI, 40, .inl ((sh 1).2.2))), (ad 6, .inr (4, [.ref (ad 7), .int ((sh 2).1), .int ((sh 2).2.1)])), (ad 7, .inl (cI, 40, .inl ((sh 2).2.2))), (ad 8, .inr (4, [.ref (ad 9), .int ((sh 3).1), .int ((sh 3).2.1)])), (ad 9, .inl (cI, 40, .inl ((sh 3).2.2))), (ad 10, .inr (3, [.ref (ad 11), .ref (ad 12), .ref (ad 13), .int (nI ((n0 + 1) / 4)), .int 0, .int 0, .int 0])), (ad 11, .inl (cI, 8, .inl (kFil (fun f9 => ((sh 2).2.2) (i0 + f9 * 4) - 48) club ((n0 + 1) / 4)))), (ad 12, .inl (cI, 8, .inl (kFil (fun f9 => ((sh 2).2.2) (i0 + f9 * 4 + 1) - 48) need ((n0 + 1) / 4)))), (ad 13, .inl (cI, 8, .inl (kFil (fun f9 => ((sh 2).2.2) (i0 + f9 * 4 + 2) - 48) worth ((n0 + 1) / 4)))), (ad 14, .inr (6, [.ref (ad 15), .ref (ad 16), .ref (ad 17), .int (nI nc)])), (ad 18, .inr (5, [.ref (ad 19), .ref (ad 20), .ref (ad 21), .ref (ad 22), .int (nI ns)]))]) (st' := []) rfl rfl ?_
            refine ky_aload_n C 3 dX7_plain_88 rfl rfl ?_
            refine ky_get C (ci := 7) (T := TX7) (N := 9) (Cn := RX7) (ref := "RainAccount") hiX7_plain_X7 0 rfl rfl 2 (by decide) (List.mem_of_getElem? (i := 4) rfl) rfl (v := .ref (ad 14)) rfl dX7_plain_89 ?_
            refine ky_iconst C dX7_plain_92 (v := 0) (by decide) ?_
            refine ky_put C (ci := 6) (T := TX6) (N := 4) (Cn := RX6) (ref := "RainAccount$Sky") hiX7_plain_X6 tyX6 tyX6_ok nmX6 14 rfl rfl 3 (by decide) (List.mem_of_getElem? (i := 5) rfl) rfl rfl rfl rfl (Nat.le_of_ble_eq_true rfl) dX7_plain_93 (ws' := [(ad 0, .inr (7, [.ref (ad 1), .ref (ad 10), .ref (ad 14), .ref (ad 18), .ref (ad 23), .ref (ad 29), .ref (ad 32), .int left, .int 0])), (ad 1, .inl (cS, 4, .inr (.inr (.inr (.inr (fun k => some (ad (2 + 2 * k)))))))), (ad 2, .inr (4, [.ref (ad 3), .int ((sh 0).1), .int ((sh 0).2.1)])), (ad 3, .inl (cI, 40, .inl ((sh 0).2.2))), (ad 4, .inr (4, [.ref (ad 5), .int ((sh 1).1), .int ((sh 1).2.1)])), (ad 5, .inl (cI, 40, .inl ((sh 1).2.2))), (ad 6, .inr (4, [.ref (ad 7), .int ((sh 2).1), .int ((sh 2).2.1)])), (ad 7, .inl (cI, 40, .inl ((sh 2).2.2))), (ad 8, .inr (4, [.ref (ad 9), .int ((sh 3).1), .int ((sh 3).2.1)])), (ad 9, .inl (cI, 40, .inl ((sh 3).2.2))), (ad 10, .inr (3, [.ref (ad 11), .ref (ad 12), .ref (ad 13), .int (nI ((n0 + 1) / 4)), .int 0, .int 0, .int 0])), (ad 11, .inl (cI, 8, .inl (kFil (fun f9 => ((sh 2).2.2) (i0 + f9 * 4) - 48) club ((n0 + 1) / 4)))), (ad 12, .inl (cI, 8, .inl (kFil (fun f9 => ((sh 2).2.2) (i0 + f9 * 4 + 1) - 48) need ((n0 + 1) / 4)))), (ad 13, .inl (cI, 8, .inl (kFil (fun f9 => ((sh 2).2.2) (i0 + f9 * 4 + 2) - 48) worth ((n0 + 1) / 4)))), (ad 14, .inr (6, [.ref (ad 15), .ref (ad 16), .ref (ad 17), .int 0])), (ad 18, .inr (5, [.ref (ad 19), .ref (ad 20), .ref (ad 21), .ref (ad 22), .int (nI ns)]))]) rfl ?_
            refine ky_aload_n C 3 dX7_plain_96 rfl rfl ?_
            refine ky_get C (ci := 7) (T := TX7) (N := 9) (Cn := RX7) (ref := "RainAccount") hiX7_plain_X7 0 rfl rfl 3 (by decide) (List.mem_of_getElem? (i := 6) rfl) rfl (v := .ref (ad 18)) rfl dX7_plain_97 ?_
            refine ky_iconst C dX7_plain_100 (v := 0) (by decide) ?_
            refine ky_put C (ci := 5) (T := TX5) (N := 5) (Cn := RX5) (ref := "RainAccount$Shots") hiX7_plain_X5 tyX5 tyX5_ok nmX5 15 rfl rfl 4 (by decide) (List.mem_of_getElem? (i := 7) rfl) rfl rfl rfl rfl (Nat.le_of_ble_eq_true rfl) dX7_plain_101 (ws' := [(ad 0, .inr (7, [.ref (ad 1), .ref (ad 10), .ref (ad 14), .ref (ad 18), .ref (ad 23), .ref (ad 29), .ref (ad 32), .int left, .int 0])), (ad 1, .inl (cS, 4, .inr (.inr (.inr (.inr (fun k => some (ad (2 + 2 * k)))))))), (ad 2, .inr (4, [.ref (ad 3), .int ((sh 0).1), .int ((sh 0).2.1)])), (ad 3, .inl (cI, 40, .inl ((sh 0).2.2))), (ad 4, .inr (4, [.ref (ad 5), .int ((sh 1).1), .int ((sh 1).2.1)])), (ad 5, .inl (cI, 40, .inl ((sh 1).2.2))), (ad 6, .inr (4, [.ref (ad 7), .int ((sh 2).1), .int ((sh 2).2.1)])), (ad 7, .inl (cI, 40, .inl ((sh 2).2.2))), (ad 8, .inr (4, [.ref (ad 9), .int ((sh 3).1), .int ((sh 3).2.1)])), (ad 9, .inl (cI, 40, .inl ((sh 3).2.2))), (ad 10, .inr (3, [.ref (ad 11), .ref (ad 12), .ref (ad 13), .int (nI ((n0 + 1) / 4)), .int 0, .int 0, .int 0])), (ad 11, .inl (cI, 8, .inl (kFil (fun f9 => ((sh 2).2.2) (i0 + f9 * 4) - 48) club ((n0 + 1) / 4)))), (ad 12, .inl (cI, 8, .inl (kFil (fun f9 => ((sh 2).2.2) (i0 + f9 * 4 + 1) - 48) need ((n0 + 1) / 4)))), (ad 13, .inl (cI, 8, .inl (kFil (fun f9 => ((sh 2).2.2) (i0 + f9 * 4 + 2) - 48) worth ((n0 + 1) / 4)))), (ad 14, .inr (6, [.ref (ad 15), .ref (ad 16), .ref (ad 17), .int 0])), (ad 18, .inr (5, [.ref (ad 19), .ref (ad 20), .ref (ad 21), .ref (ad 22), .int 0]))]) rfl ?_
            refine ky_aload_n C 3 dX7_plain_104 rfl rfl ?_
            refine ky_get C (ci := 7) (T := TX7) (N := 9) (Cn := RX7) (ref := "RainAccount") hiX7_plain_X7 0 rfl rfl 1 (by decide) (List.mem_of_getElem? (i := 3) rfl) rfl (v := .ref (ad 10)) rfl dX7_plain_105 ?_
            refine ky_get C (ci := 3) (T := TX3) (N := 7) (Cn := RX3) (ref := "RainAccount$Land") hiX7_plain_X3 10 rfl rfl 3 (by decide) (List.mem_of_getElem? (i := 8) rfl) rfl (v := .int (nI ((n0 + 1) / 4))) rfl dX7_plain_108 ?_
            exact ky_iret C hr hlk ⟨(nI ((n0 + 1) / 4)), 0, ((n0 + 1) / 4), 0, 0, 0, (kFil (fun f9 => ((sh 2).2.2) (i0 + f9 * 4) - 48) club ((n0 + 1) / 4)), (kFil (fun f9 => ((sh 2).2.2) (i0 + f9 * 4 + 1) - 48) need ((n0 + 1) / 4)), (kFil (fun f9 => ((sh 2).2.2) (i0 + f9 * 4 + 2) - 48) worth ((n0 + 1) / 4)), 0, 0, rfl, rfl, (by simp only [kF_plain, if_pos c_9, if_pos c_18, hcj, if_neg h9, if_pos h8, if_pos h7, if_pos hh, hci0, hcn0, if_pos c_67, if_neg d_67, if_pos hb1])⟩ (Nat.le_of_ble_eq_true rfl) dX7_plain_111
          · have d_67 := Int32.not_lt.mp c_67
            have hb1 := kBad_nn c_67
            refine ky_bipush C dX7_plain_70 (v := (-100)) (by decide) ?_
            refine ky_iload C 0 dX7_plain_72 rfl ?_
            refine ky_isub C (v := (-100 : Int32) - (kBad (fun p => ((sh 2).2.2) (i0 + p)) n0)) dX7_plain_74 rfl ?_
            exact ky_iret C hr hlk ⟨((-100 : Int32) - (kBad (fun p => ((sh 2).2.2) (i0 + p)) n0)), 0, N, wind, low, forb, club, need, worth, nc, ns, congrArg (fun z => some (Value.int z)) (show ((-100 : Int32) - (kBad (fun p => ((sh 2).2.2) (i0 + p)) n0)) = (((-100 : Int32) - (kBad (fun p => ((sh 2).2.2) (i0 + p)) n0))) from by simp [c_9, c_18, hcj, h9, h8, h7, hh, hci0, hcn0, c_67, d_67, hb1]), rfl, (by simp only [kF_plain, if_pos c_9, if_pos c_18, hcj, if_neg h9, if_pos h8, if_pos h7, if_pos hh, hci0, hcn0, if_neg c_67, if_pos d_67, if_neg hb1])⟩ (Nat.le_of_ble_eq_true rfl) dX7_plain_75
      · refine ky_aload_n C 0 dX7_plain_24 rfl rfl ?_
        refine ky_get C (ci := 7) (T := TX7) (N := 9) (Cn := RX7) (ref := "RainAccount") hiX7_plain_X7 0 rfl rfl 0 (by decide) (List.mem_of_getElem? (i := 2) rfl) rfl (v := .ref (ad 1)) rfl dX7_plain_25 ?_
        refine ky_iload_n C 1 dX7_plain_28 rfl rfl ?_
        refine ky_aald C 1 (k := 3) (b := ad 8) rfl (by omega) (by decide) rfl dX7_plain_29 ?_
        refine ky_astore C (lv' := [(5, .ref (ad 8)), (0, .ref (ad 0)), (1, .int (nI 3)), (2, .int y), (3, .int z), (4, .int u)]) dX7_plain_30 (by decide) rfl ?_
        refine ky_aload C 0 dX7_plain_32 rfl ?_
        refine ky_iload_n C 3 dX7_plain_34 rfl rfl ?_
        refine ky_iload_n C 4 dX7_plain_35 rfl rfl ?_
        refine ky_iload C 5 dX7_plain_36 rfl ?_
        refine ky_callV0 C 3 (kX4_faultOfCells l D cI cS (ad 8) (ad 9) ((sh 3).1) ((sh 3).2.1) y z u) gX7_plain_X4_faultOfCells rfl rfl rfl hdX4_faultOfCells 8 4 rfl rfl rfl ⟨Nat.le_of_ble_eq_true rfl, Nat.le_of_ble_eq_true rfl⟩ rfl rfl (Nat.le_of_ble_eq_true rfl) dX7_plain_38 [8] rfl rfl ?_
        rintro _ _ ⟨rfl, rfl⟩
        refine ky_ws (ws' := [(ad 0, .inr (7, [.ref (ad 1), .ref (ad 10), .ref (ad 14), .ref (ad 18), .ref (ad 23), .ref (ad 29), .ref (ad 32), .int left, .int 0])), (ad 1, .inl (cS, 4, .inr (.inr (.inr (.inr (fun k => some (ad (2 + 2 * k)))))))), (ad 2, .inr (4, [.ref (ad 3), .int ((sh 0).1), .int ((sh 0).2.1)])), (ad 3, .inl (cI, 40, .inl ((sh 0).2.2))), (ad 4, .inr (4, [.ref (ad 5), .int ((sh 1).1), .int ((sh 1).2.1)])), (ad 5, .inl (cI, 40, .inl ((sh 1).2.2))), (ad 6, .inr (4, [.ref (ad 7), .int ((sh 2).1), .int ((sh 2).2.1)])), (ad 7, .inl (cI, 40, .inl ((sh 2).2.2))), (ad 8, .inr (4, [.ref (ad 9), .int ((sh 3).1), .int ((sh 3).2.1)])), (ad 9, .inl (cI, 40, .inl ((sh 3).2.2))), (ad 10, .inr (3, [.ref (ad 11), .ref (ad 12), .ref (ad 13), .int (nI N), .int wind, .int low, .int forb])), (ad 11, .inl (cI, 8, .inl club)), (ad 12, .inl (cI, 8, .inl need)), (ad 13, .inl (cI, 8, .inl worth)), (ad 14, .inr (6, [.ref (ad 15), .ref (ad 16), .ref (ad 17), .int (nI nc)])), (ad 18, .inr (5, [.ref (ad 19), .ref (ad 20), .ref (ad 21), .ref (ad 22), .int (nI ns)]))]) (st' := [.int (if ((sh 3).2.1) = -1 then 1 else if ((sh 3).1) = y then (if 0 ≤ u then (if 0 ≤ z ∧ (0 : Int32) ≤ u ∧ z ≤ ((sh 3).2.1) ∧ u ≤ ((sh 3).2.1) - z then 0 else 3) else 4) else 2)]) rfl rfl ?_
        rcases kFc (sh 3).2.1 (sh 3).1 y z u with h9 | ⟨h9, h8⟩ | ⟨h9, h8, h7⟩ | ⟨h9, h8, h7, hh⟩ | ⟨h9, h8, h7, hh⟩
        · refine ky_top (v' := .int 1) (congrArg Value.int (kIc1 h9)) ?_
          refine ky_istore C (lv' := [(6, .int 1), (5, .ref (ad 8)), (0, .ref (ad 0)), (1, .int (nI 3)), (2, .int y), (3, .int z), (4, .int u)]) dX7_plain_41 (by decide) rfl ?_
          refine ky_iload C 0 dX7_plain_43 rfl ?_
          refine ky_if_eq C 55 dX7_plain_45 (by decide) (fun q => absurd q (by decide)) (fun c_45 => ?_)
          refine ky_aload_n C 2 dX7_plain_48 rfl rfl ?_
          refine ky_iload C 0 dX7_plain_49 rfl ?_
          refine ky_callV0 C 1 (kX7_faulted l D cI cS ad left 0 1) gX7_plain_X7_faulted rfl rfl rfl hdX7_faulted 0 7 rfl rfl rfl ⟨Nat.le_of_ble_eq_true rfl, Nat.le_of_ble_eq_true rfl⟩ rfl rfl (Nat.le_of_ble_eq_true rfl) dX7_plain_51 [0] rfl rfl ?_
          rintro _ _ ⟨rfl, rfl⟩
          refine ky_ws (ws' := [(ad 0, .inr (7, [.ref (ad 1), .ref (ad 10), .ref (ad 14), .ref (ad 18), .ref (ad 23), .ref (ad 29), .ref (ad 32), .int left, .int 1])), (ad 1, .inl (cS, 4, .inr (.inr (.inr (.inr (fun k => some (ad (2 + 2 * k)))))))), (ad 2, .inr (4, [.ref (ad 3), .int ((sh 0).1), .int ((sh 0).2.1)])), (ad 3, .inl (cI, 40, .inl ((sh 0).2.2))), (ad 4, .inr (4, [.ref (ad 5), .int ((sh 1).1), .int ((sh 1).2.1)])), (ad 5, .inl (cI, 40, .inl ((sh 1).2.2))), (ad 6, .inr (4, [.ref (ad 7), .int ((sh 2).1), .int ((sh 2).2.1)])), (ad 7, .inl (cI, 40, .inl ((sh 2).2.2))), (ad 8, .inr (4, [.ref (ad 9), .int ((sh 3).1), .int ((sh 3).2.1)])), (ad 9, .inl (cI, 40, .inl ((sh 3).2.2))), (ad 10, .inr (3, [.ref (ad 11), .ref (ad 12), .ref (ad 13), .int (nI N), .int wind, .int low, .int forb])), (ad 11, .inl (cI, 8, .inl club)), (ad 12, .inl (cI, 8, .inl need)), (ad 13, .inl (cI, 8, .inl worth)), (ad 14, .inr (6, [.ref (ad 15), .ref (ad 16), .ref (ad 17), .int (nI nc)])), (ad 18, .inr (5, [.ref (ad 19), .ref (ad 20), .ref (ad 21), .ref (ad 22), .int (nI ns)]))]) (st' := [.int ((-10 : Int32) - 1)]) rfl rfl ?_
          exact ky_iret C hr hlk ⟨((-10 : Int32) - 1), 1, N, wind, low, forb, club, need, worth, nc, ns, congrArg (fun z => some (Value.int z)) (show ((-10 : Int32) - 1) = (((-10 : Int32) - 1)) from by simp [c_9, c_18, hcj, h9]), rfl, (by first | (simp only [kF_plain, if_pos c_9, if_pos c_18, hcj, if_pos h9]; done) | (simp only [kF_plain, if_pos c_9, if_pos c_18, hcj, if_pos h9]; rfl))⟩ (Nat.le_of_ble_eq_true rfl) dX7_plain_54
        · refine ky_top (v' := .int 2) (congrArg Value.int (kIc2 h9 h8)) ?_
          refine ky_istore C (lv' := [(6, .int 2), (5, .ref (ad 8)), (0, .ref (ad 0)), (1, .int (nI 3)), (2, .int y), (3, .int z), (4, .int u)]) dX7_plain_41 (by decide) rfl ?_
          refine ky_iload C 0 dX7_plain_43 rfl ?_
          refine ky_if_eq C 55 dX7_plain_45 (by decide) (fun q => absurd q (by decide)) (fun c_45 => ?_)
          refine ky_aload_n C 2 dX7_plain_48 rfl rfl ?_
          refine ky_iload C 0 dX7_plain_49 rfl ?_
          refine ky_callV0 C 1 (kX7_faulted l D cI cS ad left 0 2) gX7_plain_X7_faulted rfl rfl rfl hdX7_faulted 0 7 rfl rfl rfl ⟨Nat.le_of_ble_eq_true rfl, Nat.le_of_ble_eq_true rfl⟩ rfl rfl (Nat.le_of_ble_eq_true rfl) dX7_plain_51 [0] rfl rfl ?_
          rintro _ _ ⟨rfl, rfl⟩
          refine ky_ws (ws' := [(ad 0, .inr (7, [.ref (ad 1), .ref (ad 10), .ref (ad 14), .ref (ad 18), .ref (ad 23), .ref (ad 29), .ref (ad 32), .int left, .int 2])), (ad 1, .inl (cS, 4, .inr (.inr (.inr (.inr (fun k => some (ad (2 + 2 * k)))))))), (ad 2, .inr (4, [.ref (ad 3), .int ((sh 0).1), .int ((sh 0).2.1)])), (ad 3, .inl (cI, 40, .inl ((sh 0).2.2))), (ad 4, .inr (4, [.ref (ad 5), .int ((sh 1).1), .int ((sh 1).2.1)])), (ad 5, .inl (cI, 40, .inl ((sh 1).2.2))), (ad 6, .inr (4, [.ref (ad 7), .int ((sh 2).1), .int ((sh 2).2.1)])), (ad 7, .inl (cI, 40, .inl ((sh 2).2.2))), (ad 8, .inr (4, [.ref (ad 9), .int ((sh 3).1), .int ((sh 3).2.1)])), (ad 9, .inl (cI, 40, .inl ((sh 3).2.2))), (ad 10, .inr (3, [.ref (ad 11), .ref (ad 12), .ref (ad 13), .int (nI N), .int wind, .int low, .int forb])), (ad 11, .inl (cI, 8, .inl club)), (ad 12, .inl (cI, 8, .inl need)), (ad 13, .inl (cI, 8, .inl worth)), (ad 14, .inr (6, [.ref (ad 15), .ref (ad 16), .ref (ad 17), .int (nI nc)])), (ad 18, .inr (5, [.ref (ad 19), .ref (ad 20), .ref (ad 21), .ref (ad 22), .int (nI ns)]))]) (st' := [.int ((-10 : Int32) - 2)]) rfl rfl ?_
          exact ky_iret C hr hlk ⟨((-10 : Int32) - 2), 2, N, wind, low, forb, club, need, worth, nc, ns, congrArg (fun z => some (Value.int z)) (show ((-10 : Int32) - 2) = (((-10 : Int32) - 2)) from by simp [c_9, c_18, hcj, h9, h8]), rfl, (by first | (simp only [kF_plain, if_pos c_9, if_pos c_18, hcj, if_neg h9, if_neg h8]; done) | (simp only [kF_plain, if_pos c_9, if_pos c_18, hcj, if_neg h9, if_neg h8]; rfl))⟩ (Nat.le_of_ble_eq_true rfl) dX7_plain_54
        · refine ky_top (v' := .int 4) (congrArg Value.int (kIc4 h9 h8 h7)) ?_
          refine ky_istore C (lv' := [(6, .int 4), (5, .ref (ad 8)), (0, .ref (ad 0)), (1, .int (nI 3)), (2, .int y), (3, .int z), (4, .int u)]) dX7_plain_41 (by decide) rfl ?_
          refine ky_iload C 0 dX7_plain_43 rfl ?_
          refine ky_if_eq C 55 dX7_plain_45 (by decide) (fun q => absurd q (by decide)) (fun c_45 => ?_)
          refine ky_aload_n C 2 dX7_plain_48 rfl rfl ?_
          refine ky_iload C 0 dX7_plain_49 rfl ?_
          refine ky_callV0 C 1 (kX7_faulted l D cI cS ad left 0 4) gX7_plain_X7_faulted rfl rfl rfl hdX7_faulted 0 7 rfl rfl rfl ⟨Nat.le_of_ble_eq_true rfl, Nat.le_of_ble_eq_true rfl⟩ rfl rfl (Nat.le_of_ble_eq_true rfl) dX7_plain_51 [0] rfl rfl ?_
          rintro _ _ ⟨rfl, rfl⟩
          refine ky_ws (ws' := [(ad 0, .inr (7, [.ref (ad 1), .ref (ad 10), .ref (ad 14), .ref (ad 18), .ref (ad 23), .ref (ad 29), .ref (ad 32), .int left, .int 4])), (ad 1, .inl (cS, 4, .inr (.inr (.inr (.inr (fun k => some (ad (2 + 2 * k)))))))), (ad 2, .inr (4, [.ref (ad 3), .int ((sh 0).1), .int ((sh 0).2.1)])), (ad 3, .inl (cI, 40, .inl ((sh 0).2.2))), (ad 4, .inr (4, [.ref (ad 5), .int ((sh 1).1), .int ((sh 1).2.1)])), (ad 5, .inl (cI, 40, .inl ((sh 1).2.2))), (ad 6, .inr (4, [.ref (ad 7), .int ((sh 2).1), .int ((sh 2).2.1)])), (ad 7, .inl (cI, 40, .inl ((sh 2).2.2))), (ad 8, .inr (4, [.ref (ad 9), .int ((sh 3).1), .int ((sh 3).2.1)])), (ad 9, .inl (cI, 40, .inl ((sh 3).2.2))), (ad 10, .inr (3, [.ref (ad 11), .ref (ad 12), .ref (ad 13), .int (nI N), .int wind, .int low, .int forb])), (ad 11, .inl (cI, 8, .inl club)), (ad 12, .inl (cI, 8, .inl need)), (ad 13, .inl (cI, 8, .inl worth)), (ad 14, .inr (6, [.ref (ad 15), .ref (ad 16), .ref (ad 17), .int (nI nc)])), (ad 18, .inr (5, [.ref (ad 19), .ref (ad 20), .ref (ad 21), .ref (ad 22), .int (nI ns)]))]) (st' := [.int ((-10 : Int32) - 4)]) rfl rfl ?_
          exact ky_iret C hr hlk ⟨((-10 : Int32) - 4), 4, N, wind, low, forb, club, need, worth, nc, ns, congrArg (fun z => some (Value.int z)) (show ((-10 : Int32) - 4) = (((-10 : Int32) - 4)) from by simp [c_9, c_18, hcj, h9, h8, h7]), rfl, (by first | (simp only [kF_plain, if_pos c_9, if_pos c_18, hcj, if_neg h9, if_pos h8, if_neg h7]; done) | (simp only [kF_plain, if_pos c_9, if_pos c_18, hcj, if_neg h9, if_pos h8, if_neg h7]; rfl))⟩ (Nat.le_of_ble_eq_true rfl) dX7_plain_54
        · refine ky_top (v' := .int 3) (congrArg Value.int (kIc3 h9 h8 h7 hh)) ?_
          refine ky_istore C (lv' := [(6, .int 3), (5, .ref (ad 8)), (0, .ref (ad 0)), (1, .int (nI 3)), (2, .int y), (3, .int z), (4, .int u)]) dX7_plain_41 (by decide) rfl ?_
          refine ky_iload C 0 dX7_plain_43 rfl ?_
          refine ky_if_eq C 55 dX7_plain_45 (by decide) (fun q => absurd q (by decide)) (fun c_45 => ?_)
          refine ky_aload_n C 2 dX7_plain_48 rfl rfl ?_
          refine ky_iload C 0 dX7_plain_49 rfl ?_
          refine ky_callV0 C 1 (kX7_faulted l D cI cS ad left 0 3) gX7_plain_X7_faulted rfl rfl rfl hdX7_faulted 0 7 rfl rfl rfl ⟨Nat.le_of_ble_eq_true rfl, Nat.le_of_ble_eq_true rfl⟩ rfl rfl (Nat.le_of_ble_eq_true rfl) dX7_plain_51 [0] rfl rfl ?_
          rintro _ _ ⟨rfl, rfl⟩
          refine ky_ws (ws' := [(ad 0, .inr (7, [.ref (ad 1), .ref (ad 10), .ref (ad 14), .ref (ad 18), .ref (ad 23), .ref (ad 29), .ref (ad 32), .int left, .int 3])), (ad 1, .inl (cS, 4, .inr (.inr (.inr (.inr (fun k => some (ad (2 + 2 * k)))))))), (ad 2, .inr (4, [.ref (ad 3), .int ((sh 0).1), .int ((sh 0).2.1)])), (ad 3, .inl (cI, 40, .inl ((sh 0).2.2))), (ad 4, .inr (4, [.ref (ad 5), .int ((sh 1).1), .int ((sh 1).2.1)])), (ad 5, .inl (cI, 40, .inl ((sh 1).2.2))), (ad 6, .inr (4, [.ref (ad 7), .int ((sh 2).1), .int ((sh 2).2.1)])), (ad 7, .inl (cI, 40, .inl ((sh 2).2.2))), (ad 8, .inr (4, [.ref (ad 9), .int ((sh 3).1), .int ((sh 3).2.1)])), (ad 9, .inl (cI, 40, .inl ((sh 3).2.2))), (ad 10, .inr (3, [.ref (ad 11), .ref (ad 12), .ref (ad 13), .int (nI N), .int wind, .int low, .int forb])), (ad 11, .inl (cI, 8, .inl club)), (ad 12, .inl (cI, 8, .inl need)), (ad 13, .inl (cI, 8, .inl worth)), (ad 14, .inr (6, [.ref (ad 15), .ref (ad 16), .ref (ad 17), .int (nI nc)])), (ad 18, .inr (5, [.ref (ad 19), .ref (ad 20), .ref (ad 21), .ref (ad 22), .int (nI ns)]))]) (st' := [.int ((-10 : Int32) - 3)]) rfl rfl ?_
          exact ky_iret C hr hlk ⟨((-10 : Int32) - 3), 3, N, wind, low, forb, club, need, worth, nc, ns, congrArg (fun z => some (Value.int z)) (show ((-10 : Int32) - 3) = (((-10 : Int32) - 3)) from by simp [c_9, c_18, hcj, h9, h8, h7, hh]), rfl, (by first | (simp only [kF_plain, if_pos c_9, if_pos c_18, hcj, if_neg h9, if_pos h8, if_pos h7, if_neg hh]; done) | (simp only [kF_plain, if_pos c_9, if_pos c_18, hcj, if_neg h9, if_pos h8, if_pos h7, if_neg hh]; rfl))⟩ (Nat.le_of_ble_eq_true rfl) dX7_plain_54
        · refine ky_top (v' := .int 0) (congrArg Value.int (kIc0 h9 h8 h7 hh)) ?_
          refine ky_istore C (lv' := [(6, .int 0), (5, .ref (ad 8)), (0, .ref (ad 0)), (1, .int (nI 3)), (2, .int y), (3, .int z), (4, .int u)]) dX7_plain_41 (by decide) rfl ?_
          refine ky_iload C 0 dX7_plain_43 rfl ?_
          refine ky_if_eq C 55 dX7_plain_45 (by decide) (fun c_45 => ?_) (fun q => absurd q (by decide))
          obtain ⟨i0, n0, hi0n0, rfl, rfl⟩ := kHoldN (hsh 3 (by decide)) h9 hh
          have hci0 : (nI i0).toNatClampNeg = i0 := nI_clamp (by omega)
          have hcn0 : (nI n0).toNatClampNeg = n0 := nI_clamp (by omega)
          refine ky_aload C 1 dX7_plain_55 rfl ?_
          refine ky_iload_n C 5 dX7_plain_57 rfl rfl ?_
          refine ky_iload C 6 dX7_plain_58 rfl ?_
          refine ky_callS0 C 3 (kX3_faultOfText l D cI cS (ad 8) (ad 9) ((sh 3).1) ((sh 3).2.1) ((sh 3).2.2) i0 n0 hi0n0) gX7_plain_X3_faultOfText rfl rfl rfl hdX3_faultOfText.2 ⟨Nat.le_of_ble_eq_true rfl, Nat.le_of_ble_eq_true rfl⟩ rfl rfl (Nat.le_of_ble_eq_true rfl) dX7_plain_60 [8, 9] rfl rfl ?_
          rintro _ _ ⟨rfl, rfl⟩
          refine ky_ws (ws' := [(ad 0, .inr (7, [.ref (ad 1), .ref (ad 10), .ref (ad 14), .ref (ad 18), .ref (ad 23), .ref (ad 29), .ref (ad 32), .int left, .int 0])), (ad 1, .inl (cS, 4, .inr (.inr (.inr (.inr (fun k => some (ad (2 + 2 * k)))))))), (ad 2, .inr (4, [.ref (ad 3), .int ((sh 0).1), .int ((sh 0).2.1)])), (ad 3, .inl (cI, 40, .inl ((sh 0).2.2))), (ad 4, .inr (4, [.ref (ad 5), .int ((sh 1).1), .int ((sh 1).2.1)])), (ad 5, .inl (cI, 40, .inl ((sh 1).2.2))), (ad 6, .inr (4, [.ref (ad 7), .int ((sh 2).1), .int ((sh 2).2.1)])), (ad 7, .inl (cI, 40, .inl ((sh 2).2.2))), (ad 8, .inr (4, [.ref (ad 9), .int ((sh 3).1), .int ((sh 3).2.1)])), (ad 9, .inl (cI, 40, .inl ((sh 3).2.2))), (ad 10, .inr (3, [.ref (ad 11), .ref (ad 12), .ref (ad 13), .int (nI N), .int wind, .int low, .int forb])), (ad 11, .inl (cI, 8, .inl club)), (ad 12, .inl (cI, 8, .inl need)), (ad 13, .inl (cI, 8, .inl worth)), (ad 14, .inr (6, [.ref (ad 15), .ref (ad 16), .ref (ad 17), .int (nI nc)])), (ad 18, .inr (5, [.ref (ad 19), .ref (ad 20), .ref (ad 21), .ref (ad 22), .int (nI ns)]))]) (st' := [.int (kBad (fun p => ((sh 3).2.2) (i0 + p)) n0)]) rfl rfl ?_
          refine ky_istore C (lv' := [(7, .int (kBad (fun p => ((sh 3).2.2) (i0 + p)) n0)), (6, .int 0), (5, .ref (ad 8)), (0, .ref (ad 0)), (1, .int (nI 3)), (2, .int y), (3, .int (nI i0)), (4, .int (nI n0))]) dX7_plain_63 (by decide) rfl ?_
          refine ky_iload C 0 dX7_plain_65 rfl ?_
          refine ky_if_lt C 76 dX7_plain_67 (by decide) (fun c_67 => ?_) (fun c_67 => ?_)
          · have d_67 := Int32.not_le.mpr c_67
            obtain ⟨hb1, hn3, hn31, hn7⟩ := kBad_neg (show n0 ≤ 40 by omega) c_67
            refine ky_aload_n C 3 dX7_plain_76 rfl rfl ?_
            refine ky_get C (ci := 7) (T := TX7) (N := 9) (Cn := RX7) (ref := "RainAccount") hiX7_plain_X7 0 rfl rfl 1 (by decide) (List.mem_of_getElem? (i := 3) rfl) rfl (v := .ref (ad 10)) rfl dX7_plain_77 ?_
            refine ky_aload C 2 dX7_plain_80 rfl ?_
            refine ky_iload_n C 6 dX7_plain_82 rfl rfl ?_
            refine ky_iload C 7 dX7_plain_83 rfl ?_
            refine ky_callV0 C 3 (kX3_takeText l D cI cS ad N wind low forb club need worth (ad 8) (ad 9) ((sh 3).1) ((sh 3).2.1) ((sh 3).2.2) i0 n0 hi0n0 hn3 hn31) gX7_plain_X3_takeText rfl rfl rfl hdX3_takeText 10 3 rfl rfl rfl ⟨Nat.le_of_ble_eq_true rfl, Nat.le_of_ble_eq_true rfl⟩ rfl rfl (Nat.le_of_ble_eq_true rfl) dX7_plain_85 [10, 11, 12, 13, 8, 9] rfl rfl ?_
            rintro _ _ ⟨rfl, rfl⟩
            refine ky_ws (ws' := [(ad 0, .inr (7, [.ref (ad 1), .ref (ad 10), .ref (ad 14), .ref (ad 18), .ref (ad 23), .ref (ad 29), .ref (ad 32), .int left, .int 0])), (ad 1, .inl (cS, 4, .inr (.inr (.inr (.inr (fun k => some (ad (2 + 2 * k)))))))), (ad 2, .inr (4, [.ref (ad 3), .int ((sh 0).1), .int ((sh 0).2.1)])), (ad 3, .inl (cI, 40, .inl ((sh 0).2.2))), (ad 4, .inr (4, [.ref (ad 5), .int ((sh 1).1), .int ((sh 1).2.1)])), (ad 5, .inl (cI, 40, .inl ((sh 1).2.2))), (ad 6, .inr (4, [.ref (ad 7), .int ((sh 2).1), .int ((sh 2).2.1)])), (ad 7, .inl (cI, 40, .inl ((sh 2).2.2))), (ad 8, .inr (4, [.ref (ad 9), .int ((sh 3).1), .int ((sh 3).2.1)])), (ad 9, .inl (cI, 40, .inl ((sh 3).2.2))), (ad 10, .inr (3, [.ref (ad 11), .ref (ad 12), .ref (ad 13), .int (nI ((n0 + 1) / 4)), .int 0, .int 0, .int 0])), (ad 11, .inl (cI, 8, .inl (kFil (fun f9 => ((sh 3).2.2) (i0 + f9 * 4) - 48) club ((n0 + 1) / 4)))), (ad 12, .inl (cI, 8, .inl (kFil (fun f9 => ((sh 3).2.2) (i0 + f9 * 4 + 1) - 48) need ((n0 + 1) / 4)))), (ad 13, .inl (cI, 8, .inl (kFil (fun f9 => ((sh 3).2.2) (i0 + f9 * 4 + 2) - 48) worth ((n0 + 1) / 4)))), (ad 14, .inr (6, [.ref (ad 15), .ref (ad 16), .ref (ad 17), .int (nI nc)])), (ad 18, .inr (5, [.ref (ad 19), .ref (ad 20), .ref (ad 21), .ref (ad 22), .int (nI ns)]))]) (st' := []) rfl rfl ?_
            refine ky_aload_n C 3 dX7_plain_88 rfl rfl ?_
            refine ky_get C (ci := 7) (T := TX7) (N := 9) (Cn := RX7) (ref := "RainAccount") hiX7_plain_X7 0 rfl rfl 2 (by decide) (List.mem_of_getElem? (i := 4) rfl) rfl (v := .ref (ad 14)) rfl dX7_plain_89 ?_
            refine ky_iconst C dX7_plain_92 (v := 0) (by decide) ?_
            refine ky_put C (ci := 6) (T := TX6) (N := 4) (Cn := RX6) (ref := "RainAccount$Sky") hiX7_plain_X6 tyX6 tyX6_ok nmX6 14 rfl rfl 3 (by decide) (List.mem_of_getElem? (i := 5) rfl) rfl rfl rfl rfl (Nat.le_of_ble_eq_true rfl) dX7_plain_93 (ws' := [(ad 0, .inr (7, [.ref (ad 1), .ref (ad 10), .ref (ad 14), .ref (ad 18), .ref (ad 23), .ref (ad 29), .ref (ad 32), .int left, .int 0])), (ad 1, .inl (cS, 4, .inr (.inr (.inr (.inr (fun k => some (ad (2 + 2 * k)))))))), (ad 2, .inr (4, [.ref (ad 3), .int ((sh 0).1), .int ((sh 0).2.1)])), (ad 3, .inl (cI, 40, .inl ((sh 0).2.2))), (ad 4, .inr (4, [.ref (ad 5), .int ((sh 1).1), .int ((sh 1).2.1)])), (ad 5, .inl (cI, 40, .inl ((sh 1).2.2))), (ad 6, .inr (4, [.ref (ad 7), .int ((sh 2).1), .int ((sh 2).2.1)])), (ad 7, .inl (cI, 40, .inl ((sh 2).2.2))), (ad 8, .inr (4, [.ref (ad 9), .int ((sh 3).1), .int ((sh 3).2.1)])), (ad 9, .inl (cI, 40, .inl ((sh 3).2.2))), (ad 10, .inr (3, [.ref (ad 11), .ref (ad 12), .ref (ad 13), .int (nI ((n0 + 1) / 4)), .int 0, .int 0, .int 0])), (ad 11, .inl (cI, 8, .inl (kFil (fun f9 => ((sh 3).2.2) (i0 + f9 * 4) - 48) club ((n0 + 1) / 4)))), (ad 12, .inl (cI, 8, .inl (kFil (fun f9 => ((sh 3).2.2) (i0 + f9 * 4 + 1) - 48) need ((n0 + 1) / 4)))), (ad 13, .inl (cI, 8, .inl (kFil (fun f9 => ((sh 3).2.2) (i0 + f9 * 4 + 2) - 48) worth ((n0 + 1) / 4)))), (ad 14, .inr (6, [.ref (ad 15), .ref (ad 16), .ref (ad 17), .int 0])), (ad 18, .inr (5, [.ref (ad 19), .ref (ad 20), .ref (ad 21), .ref (ad 22), .int (nI ns)]))]) rfl ?_
            refine ky_aload_n C 3 dX7_plain_96 rfl rfl ?_
            refine ky_get C (ci := 7) (T := TX7) (N := 9) (Cn := RX7) (ref := "RainAccount") hiX7_plain_X7 0 rfl rfl 3 (by decide) (List.mem_of_getElem? (i := 6) rfl) rfl (v := .ref (ad 18)) rfl dX7_plain_97 ?_
            refine ky_iconst C dX7_plain_100 (v := 0) (by decide) ?_
            refine ky_put C (ci := 5) (T := TX5) (N := 5) (Cn := RX5) (ref := "RainAccount$Shots") hiX7_plain_X5 tyX5 tyX5_ok nmX5 15 rfl rfl 4 (by decide) (List.mem_of_getElem? (i := 7) rfl) rfl rfl rfl rfl (Nat.le_of_ble_eq_true rfl) dX7_plain_101 (ws' := [(ad 0, .inr (7, [.ref (ad 1), .ref (ad 10), .ref (ad 14), .ref (ad 18), .ref (ad 23), .ref (ad 29), .ref (ad 32), .int left, .int 0])), (ad 1, .inl (cS, 4, .inr (.inr (.inr (.inr (fun k => some (ad (2 + 2 * k)))))))), (ad 2, .inr (4, [.ref (ad 3), .int ((sh 0).1), .int ((sh 0).2.1)])), (ad 3, .inl (cI, 40, .inl ((sh 0).2.2))), (ad 4, .inr (4, [.ref (ad 5), .int ((sh 1).1), .int ((sh 1).2.1)])), (ad 5, .inl (cI, 40, .inl ((sh 1).2.2))), (ad 6, .inr (4, [.ref (ad 7), .int ((sh 2).1), .int ((sh 2).2.1)])), (ad 7, .inl (cI, 40, .inl ((sh 2).2.2))), (ad 8, .inr (4, [.ref (ad 9), .int ((sh 3).1), .int ((sh 3).2.1)])), (ad 9, .inl (cI, 40, .inl ((sh 3).2.2))), (ad 10, .inr (3, [.ref (ad 11), .ref (ad 12), .ref (ad 13), .int (nI ((n0 + 1) / 4)), .int 0, .int 0, .int 0])), (ad 11, .inl (cI, 8, .inl (kFil (fun f9 => ((sh 3).2.2) (i0 + f9 * 4) - 48) club ((n0 + 1) / 4)))), (ad 12, .inl (cI, 8, .inl (kFil (fun f9 => ((sh 3).2.2) (i0 + f9 * 4 + 1) - 48) need ((n0 + 1) / 4)))), (ad 13, .inl (cI, 8, .inl (kFil (fun f9 => ((sh 3).2.2) (i0 + f9 * 4 + 2) - 48) worth ((n0 + 1) / 4)))), (ad 14, .inr (6, [.ref (ad 15), .ref (ad 16), .ref (ad 17), .int 0])), (ad 18, .inr (5, [.ref (ad 19), .ref (ad 20), .ref (ad 21), .ref (ad 22), .int 0]))]) rfl ?_
            refine ky_aload_n C 3 dX7_plain_104 rfl rfl ?_
            refine ky_get C (ci := 7) (T := TX7) (N := 9) (Cn := RX7) (ref := "RainAccount") hiX7_plain_X7 0 rfl rfl 1 (by decide) (List.mem_of_getElem? (i := 3) rfl) rfl (v := .ref (ad 10)) rfl dX7_plain_105 ?_
            refine ky_get C (ci := 3) (T := TX3) (N := 7) (Cn := RX3) (ref := "RainAccount$Land") hiX7_plain_X3 10 rfl rfl 3 (by decide) (List.mem_of_getElem? (i := 8) rfl) rfl (v := .int (nI ((n0 + 1) / 4))) rfl dX7_plain_108 ?_
            exact ky_iret C hr hlk ⟨(nI ((n0 + 1) / 4)), 0, ((n0 + 1) / 4), 0, 0, 0, (kFil (fun f9 => ((sh 3).2.2) (i0 + f9 * 4) - 48) club ((n0 + 1) / 4)), (kFil (fun f9 => ((sh 3).2.2) (i0 + f9 * 4 + 1) - 48) need ((n0 + 1) / 4)), (kFil (fun f9 => ((sh 3).2.2) (i0 + f9 * 4 + 2) - 48) worth ((n0 + 1) / 4)), 0, 0, rfl, rfl, (by simp only [kF_plain, if_pos c_9, if_pos c_18, hcj, if_neg h9, if_pos h8, if_pos h7, if_pos hh, hci0, hcn0, if_pos c_67, if_neg d_67, if_pos hb1])⟩ (Nat.le_of_ble_eq_true rfl) dX7_plain_111
          · have d_67 := Int32.not_lt.mp c_67
            have hb1 := kBad_nn c_67
            refine ky_bipush C dX7_plain_70 (v := (-100)) (by decide) ?_
            refine ky_iload C 0 dX7_plain_72 rfl ?_
            refine ky_isub C (v := (-100 : Int32) - (kBad (fun p => ((sh 3).2.2) (i0 + p)) n0)) dX7_plain_74 rfl ?_
            exact ky_iret C hr hlk ⟨((-100 : Int32) - (kBad (fun p => ((sh 3).2.2) (i0 + p)) n0)), 0, N, wind, low, forb, club, need, worth, nc, ns, congrArg (fun z => some (Value.int z)) (show ((-100 : Int32) - (kBad (fun p => ((sh 3).2.2) (i0 + p)) n0)) = (((-100 : Int32) - (kBad (fun p => ((sh 3).2.2) (i0 + p)) n0))) from by simp [c_9, c_18, hcj, h9, h8, h7, hh, hci0, hcn0, c_67, d_67, hb1]), rfl, (by simp only [kF_plain, if_pos c_9, if_pos c_18, hcj, if_neg h9, if_pos h8, if_pos h7, if_pos hh, hci0, hcn0, if_neg c_67, if_pos d_67, if_neg hb1])⟩ (Nat.le_of_ble_eq_true rfl) dX7_plain_75
    · have c_18 : ¬ (0 ≤ y ∧ y ≤ 2) := kb0 c_18
      refine ky_bipush C dX7_plain_21 (v := (-2)) (by decide) ?_
      exact ky_iret C hr hlk ⟨(-2), 0, N, wind, low, forb, club, need, worth, nc, ns, rfl, rfl, (by simp only [kF_plain, if_pos c_9, if_neg c_18])⟩ (Nat.le_of_ble_eq_true rfl) dX7_plain_23
  · have c_9 : ¬ (0 ≤ x ∧ x ≤ 3) := kb0 c_9
    refine ky_iconst C dX7_plain_12 (v := (-1)) (by decide) ?_
    exact ky_iret C hr hlk ⟨(-1), 0, N, wind, low, forb, club, need, worth, nc, ns, rfl, rfl, (by simp only [kF_plain, if_neg c_9])⟩ (Nat.le_of_ble_eq_true rfl) dX7_plain_13
