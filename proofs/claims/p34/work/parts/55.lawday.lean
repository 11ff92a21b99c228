/-! part 55: the law's own day, in plain functions -/
/-- what a day rests on, as the law's two rows tell it -/
abbrev kGl (N nc : Nat) (g q : kA) : kG := (N, nc, g 26, fun c => g (29 + c), fun c => g (35 + c), fun c => g (41 + c), q, fun k => q (10 + k), fun k => q (20 + k), fun k => q (30 + k))
/-- a day's numbers in one row, as the law keeps them -/
def kPk (d : kDS) : kA := fun j => if j < 8 then d.2.1 j else if j < 16 then d.2.2.1 (j - 8) else if j < 22 then d.1 (j - 16) else if j < 32 then d.2.2.2.1 (j - 22) else d.2.2.2.2 (j - 32)
theorem kPk_g (d : kDS) {f : Nat} (h : f < 8) : kPk d f = d.2.1 f := by simp only [kPk, if_pos h]
theorem kPk_h (d : kDS) {f : Nat} (h : f < 8) : kPk d (8 + f) = d.2.2.1 f := by
  simp only [kPk, if_neg (show ¬ 8 + f < 8 by omega), if_pos (show 8 + f < 16 by omega), Nat.add_sub_cancel_left]
theorem kPk_l (d : kDS) {c : Nat} (h : c < 6) : kPk d (16 + c) = d.1 c := by
  simp only [kPk, if_neg (show ¬ 16 + c < 8 by omega), if_neg (show ¬ 16 + c < 16 by omega), if_pos (show 16 + c < 22 by omega), Nat.add_sub_cancel_left]
theorem kPk_a (d : kDS) {k : Nat} (h : k < 10) : kPk d (22 + k) = d.2.2.2.1 k := by
  simp only [kPk, if_neg (show ¬ 22 + k < 8 by omega), if_neg (show ¬ 22 + k < 16 by omega), if_neg (show ¬ 22 + k < 22 by omega), if_pos (show 22 + k < 32 by omega), Nat.add_sub_cancel_left]
theorem kPk_s (d : kDS) (k : Nat) : kPk d (32 + k) = d.2.2.2.2 k := by
  simp only [kPk, if_neg (show ¬ 32 + k < 8 by omega), if_neg (show ¬ 32 + k < 16 by omega), if_neg (show ¬ 32 + k < 22 by omega), if_neg (show ¬ 32 + k < 32 by omega), Nat.add_sub_cancel_left]
theorem kPk_cases {P : Nat → Prop} (j : Nat) (h1 : j < 8 → P j) (h2 : ¬ j < 8 → j < 16 → P j) (h3 : ¬ j < 8 → ¬ j < 16 → j < 22 → P j) (h4 : ¬ j < 8 → ¬ j < 16 → ¬ j < 22 → j < 32 → P j) (h5 : ¬ j < 8 → ¬ j < 16 → ¬ j < 22 → ¬ j < 32 → P j) : P j := by
  by_cases e1 : j < 8
  · exact h1 e1
  · by_cases e2 : j < 16
    · exact h2 e1 e2
    · by_cases e3 : j < 22
      · exact h3 e1 e2 e3
      · by_cases e4 : j < 32
        · exact h4 e1 e2 e3 e4
        · exact h5 e1 e2 e3 e4
theorem kPk_ug (d : kDS) {f : Nat} (h : f < 8) (v : Int32) : upd (kPk d) f v = kPk (d.1, upd d.2.1 f v, d.2.2) := by
  funext j
  by_cases e : j = f
  · subst e; rw [pk_us, kPk_g _ h]; show v = upd d.2.1 j v j; rw [pk_us]
  · rw [pk_un e]
    refine kPk_cases (P := fun j => kPk d j = kPk (d.1, upd d.2.1 f v, d.2.2) j) j (fun e1 => ?_) (fun e1 e2 => ?_) (fun e1 e2 e3 => ?_) (fun e1 e2 e3 e4 => ?_) (fun e1 e2 e3 e4 => ?_)
    · simp only [kPk, if_pos e1]; rw [pk_un e]
    · simp only [kPk, if_neg e1, if_pos e2]
    · simp only [kPk, if_neg e1, if_neg e2, if_pos e3]
    · simp only [kPk, if_neg e1, if_neg e2, if_neg e3, if_pos e4]
    · simp only [kPk, if_neg e1, if_neg e2, if_neg e3, if_neg e4]
theorem kPk_uh (d : kDS) {f : Nat} (h : f < 8) (v : Int32) : upd (kPk d) (8 + f) v = kPk (d.1, d.2.1, upd d.2.2.1 f v, d.2.2.2) := by
  funext j
  by_cases e : j = 8 + f
  · subst e; rw [pk_us, kPk_h _ h]; show v = upd d.2.2.1 f v f; rw [pk_us]
  · rw [pk_un e]
    refine kPk_cases (P := fun j => kPk d j = kPk (d.1, d.2.1, upd d.2.2.1 f v, d.2.2.2) j) j (fun e1 => ?_) (fun e1 e2 => ?_) (fun e1 e2 e3 => ?_) (fun e1 e2 e3 e4 => ?_) (fun e1 e2 e3 e4 => ?_)
    · simp only [kPk, if_pos e1]
    · simp only [kPk, if_neg e1, if_pos e2]; rw [pk_un (show ¬ j - 8 = f by omega)]
    · simp only [kPk, if_neg e1, if_neg e2, if_pos e3]
    · simp only [kPk, if_neg e1, if_neg e2, if_neg e3, if_pos e4]
    · simp only [kPk, if_neg e1, if_neg e2, if_neg e3, if_neg e4]
theorem kPk_ul (d : kDS) {c : Nat} (h : c < 6) (v : Int32) : upd (kPk d) (16 + c) v = kPk (upd d.1 c v, d.2) := by
  funext j
  by_cases e : j = 16 + c
  · subst e; rw [pk_us, kPk_l _ h]; show v = upd d.1 c v c; rw [pk_us]
  · rw [pk_un e]
    refine kPk_cases (P := fun j => kPk d j = kPk (upd d.1 c v, d.2) j) j (fun e1 => ?_) (fun e1 e2 => ?_) (fun e1 e2 e3 => ?_) (fun e1 e2 e3 e4 => ?_) (fun e1 e2 e3 e4 => ?_)
    · simp only [kPk, if_pos e1]
    · simp only [kPk, if_neg e1, if_pos e2]
    · simp only [kPk, if_neg e1, if_neg e2, if_pos e3]; rw [pk_un (show ¬ j - 16 = c by omega)]
    · simp only [kPk, if_neg e1, if_neg e2, if_neg e3, if_pos e4]
    · simp only [kPk, if_neg e1, if_neg e2, if_neg e3, if_neg e4]
theorem kPk_ua (d : kDS) {k : Nat} (h : k < 10) (v : Int32) : upd (kPk d) (22 + k) v = kPk (d.1, d.2.1, d.2.2.1, upd d.2.2.2.1 k v, d.2.2.2.2) := by
  funext j
  by_cases e : j = 22 + k
  · subst e; rw [pk_us, kPk_a _ h]; show v = upd d.2.2.2.1 k v k; rw [pk_us]
  · rw [pk_un e]
    refine kPk_cases (P := fun j => kPk d j = kPk (d.1, d.2.1, d.2.2.1, upd d.2.2.2.1 k v, d.2.2.2.2) j) j (fun e1 => ?_) (fun e1 e2 => ?_) (fun e1 e2 e3 => ?_) (fun e1 e2 e3 e4 => ?_) (fun e1 e2 e3 e4 => ?_)
    · simp only [kPk, if_pos e1]
    · simp only [kPk, if_neg e1, if_pos e2]
    · simp only [kPk, if_neg e1, if_neg e2, if_pos e3]
    · simp only [kPk, if_neg e1, if_neg e2, if_neg e3, if_pos e4]; rw [pk_un (show ¬ j - 22 = k by omega)]
    · simp only [kPk, if_neg e1, if_neg e2, if_neg e3, if_neg e4]
theorem kPk_uo (d : kDS) (k : Nat) (v : Int32) : upd (kPk d) (32 + k) v = kPk (d.1, d.2.1, d.2.2.1, d.2.2.2.1, upd d.2.2.2.2 k v) := by
  funext j
  by_cases e : j = 32 + k
  · subst e; rw [pk_us, kPk_s]; show v = upd d.2.2.2.2 k v k; rw [pk_us]
  · rw [pk_un e]
    refine kPk_cases (P := fun j => kPk d j = kPk (d.1, d.2.1, d.2.2.1, d.2.2.2.1, upd d.2.2.2.2 k v) j) j (fun e1 => ?_) (fun e1 e2 => ?_) (fun e1 e2 e3 => ?_) (fun e1 e2 e3 e4 => ?_) (fun e1 e2 e3 e4 => ?_)
    · simp only [kPk, if_pos e1]
    · simp only [kPk, if_neg e1, if_pos e2]
    · simp only [kPk, if_neg e1, if_neg e2, if_pos e3]
    · simp only [kPk, if_neg e1, if_neg e2, if_neg e3, if_pos e4]
    · simp only [kPk, if_neg e1, if_neg e2, if_neg e3, if_neg e4]; rw [pk_un (show ¬ j - 32 = k by omega)]
/-- the row behind its three fillings -/
theorem kPk_0 {N nc : Nat} {g q a : kA} {wd : Int32} {Q : Nat → Bool} (hnc : nc ≤ 6) (h : ∀ j, j < 42 → a j = if 16 ≤ j ∧ j < 16 + nc then g (35 + (j - 16)) else if j < 32 then 0 else -9) : ∀ j, j < 42 → a j = kPk (kDay (kGl N nc g q) wd Q 0) j := by
  intro j hj
  rw [h j hj, show kDay (kGl N nc g q) wd Q 0 = kDay0 (kGl N nc g q) (fun _ => 0) from kDayZ_0 _ _ _ _]
  refine kPk_cases (P := fun j => (if 16 ≤ j ∧ j < 16 + nc then g (35 + (j - 16)) else if j < 32 then 0 else -9) = kPk (kDay0 (kGl N nc g q) (fun _ => 0)) j) j (fun e1 => ?_) (fun e1 e2 => ?_) (fun e1 e2 e3 => ?_) (fun e1 e2 e3 e4 => ?_) (fun e1 e2 e3 e4 => ?_)
  · simp only [kPk, kDay0, if_pos e1, if_neg (show ¬ (16 ≤ j ∧ j < 16 + nc) by omega), if_pos (show j < 32 by omega)]
  · simp only [kPk, kDay0, if_neg e1, if_pos e2, if_neg (show ¬ (16 ≤ j ∧ j < 16 + nc) by omega), if_pos (show j < 32 by omega)]
  · simp only [kPk, kDay0, if_neg e1, if_neg e2, if_pos e3]
    unfold kFil
    by_cases e : j - 16 < nc
    · rw [if_pos e, if_pos ⟨by omega, by omega⟩]
    · rw [if_neg e, if_neg (by omega), if_pos (by omega)]
  · simp only [kPk, kDay0, if_neg e1, if_neg e2, if_neg e3, if_pos e4, if_neg (show ¬ (16 ≤ j ∧ j < 16 + nc) by omega)]
  · simp only [kPk, kDay0, if_neg e1, if_neg e2, if_neg e3, if_neg e4, if_neg (show ¬ (16 ≤ j ∧ j < 16 + nc) by omega)]
/-- an hour's day behind what fell of itself from so many clouds -/
def kDD (g : kG) (wd : Int32) (h c : Nat) (d : kDS) : kDS := ((kDrip (gN g) (glow g) (gcat g) (gchi g) wd h c (d.1, d.2.1)).1, (kDrip (gN g) (glow g) (gcat g) (gchi g) wd h c (d.1, d.2.1)).2, d.2.2)
theorem kDD_0 (g : kG) (wd : Int32) (h : Nat) (d : kDS) : kDD g wd h 0 d = d := rfl
abbrev kDc (g : kG) (wd : Int32) (h c : Nat) (d : kDS) : Prop := (0 ≤ kPl (gcat g) wd c h ∧ kPl (gcat g) wd c h < nI (gN g)) ∧ gchi g c ≤ glow g ∧ 0 < (kDD g wd h c d).1 c
theorem kDD_no {g : kG} {wd : Int32} {h c : Nat} {d : kDS} (hc : ¬ kDc g wd h c d) : kDD g wd h (c + 1) d = kDD g wd h c d := by
  have e : kDrip (gN g) (glow g) (gcat g) (gchi g) wd h (c + 1) (d.1, d.2.1) = kDrip (gN g) (glow g) (gcat g) (gchi g) wd h c (d.1, d.2.1) := by
    rw [kDrip, kDrip1]
    exact if_neg hc
  unfold kDD
  rw [e]
theorem kDD_yes {g : kG} {wd : Int32} {h c : Nat} {d : kDS} (hc : kDc g wd h c d) : kDD g wd h (c + 1) d = (upd (kDD g wd h c d).1 c ((kDD g wd h c d).1 c - 1), upd (kDD g wd h c d).2.1 (kPl (gcat g) wd c h).toNatClampNeg ((kDD g wd h c d).2.1 (kPl (gcat g) wd c h).toNatClampNeg + 1), d.2.2) := by
  have e : kDrip (gN g) (glow g) (gcat g) (gchi g) wd h (c + 1) (d.1, d.2.1) = (upd (kDD g wd h c d).1 c ((kDD g wd h c d).1 c - 1), upd (kDD g wd h c d).2.1 (kPl (gcat g) wd c h).toNatClampNeg ((kDD g wd h c d).2.1 (kPl (gcat g) wd c h).toNatClampNeg + 1)) := by
    rw [kDrip, kDrip1]
    exact if_pos hc
  show ((kDrip (gN g) (glow g) (gcat g) (gchi g) wd h (c + 1) (d.1, d.2.1)).1, (kDrip (gN g) (glow g) (gcat g) (gchi g) wd h (c + 1) (d.1, d.2.1)).2, d.2.2) = _
  rw [e]
theorem kPk_drip {g : kG} {wd : Int32} {h c p : Nat} {d : kDS} {a : kA} (ha : a = kPk (kDD g wd h c d)) (hc : kDc g wd h c d) (hp : p = (kPl (gcat g) wd c h).toNatClampNeg) (hp8 : p < 8) (hc6 : c < 6) :
    upd (upd a p (a p + 1)) (16 + c) (upd a p (a p + 1) (16 + c) - 1) = kPk (kDD g wd h (c + 1) d) := by
  subst ha
  rw [pk_un (show ¬ 16 + c = p by omega), kPk_g _ hp8, kPk_l _ hc6, kPk_ug _ hp8, kPk_ul _ hc6, kDD_yes hc, ← hp]
  rfl
/-- what is left of the clouds is a small number -/
def kNn (nc : Nat) (f : kA) : Prop := ∀ c, c < nc → ∃ n : Nat, n ≤ 30 ∧ f c = nI n
theorem kNn_pos {nc : Nat} {f : kA} (h : kNn nc f) {c : Nat} (hc : c < nc) (h0 : ¬ f c = 0) : 0 < f c := by
  obtain ⟨n, hn, e⟩ := h c hc
  rw [e] at h0 ⊢
  have : ¬ n = 0 := fun z => h0 (by rw [z]; rfl)
  exact nI_lt (a := 0) (by omega) (by omega)
theorem kNn_dd {g : kG} {wd : Int32} {h nc : Nat} {d : kDS} (hd : kNn nc d.1) : ∀ c, kNn nc (kDD g wd h c d).1
  | 0 => hd
  | c + 1 => by
    have ih := kNn_dd (g := g) (wd := wd) (h := h) hd c
    by_cases hc : kDc g wd h c d
    · rw [kDD_yes hc]
      intro j hj
      show ∃ n : Nat, n ≤ 30 ∧ upd (kDD g wd h c d).1 c ((kDD g wd h c d).1 c - 1) j = nI n
      by_cases e : j = c
      · subst e
        obtain ⟨n, hn, e1⟩ := ih j hj
        have h0 : 0 < n := by
          have h2 := hc.2.2
          rw [e1] at h2
          exact kn_lt (a := 0) (by omega) (by omega) h2
        rw [pk_us, e1]
        exact ⟨n - 1, by omega, pk_sub (b := 1) (by omega)⟩
      · rw [pk_un e]
        exact ih j hj
    · rw [kDD_no hc]
      exact ih
theorem kFire_none {g : kG} {wd : Int32} {h s : Nat} {d : kDS} (ht : kTg (gcat g) (gchi g) d.1 wd (gfr g s) (kRch (gkd g) (gpw g) s) h (gnc g) = none) : kFire g wd h s d = d := by
  unfold kFire
  rw [ht]
theorem kFire_some {g : kG} {wd : Int32} {h s c : Nat} {d : kDS} (ht : kTg (gcat g) (gchi g) d.1 wd (gfr g s) (kRch (gkd g) (gpw g) s) h (gnc g) = some c) : kFire g wd h s d =
    (upd d.1 c (d.1 c - kFall (gpw g) d.1 s c), upd d.2.1 (gfr g s).toNatClampNeg (d.2.1 (gfr g s).toNatClampNeg + (kFall (gpw g) d.1 s c - kIce (gkd g) s (kFall (gpw g) d.1 s c))),
      upd d.2.2.1 (gfr g s).toNatClampNeg (d.2.2.1 (gfr g s).toNatClampNeg + kIce (gkd g) s (kFall (gpw g) d.1 s c)), upd d.2.2.2.1 s (kFall (gpw g) d.1 s c), upd d.2.2.2.2 s (nI c)) := by
  unfold kFire
  rw [ht]
theorem kNn_fire {g : kG} {wd : Int32} {h s : Nat} {d : kDS} (hd : kNn (gnc g) d.1) {m : Nat} (hm : m ≤ 9) (hp : gpw g s = nI m) : kNn (gnc g) (kFire g wd h s d).1 := by
  cases ht : kTg (gcat g) (gchi g) d.1 wd (gfr g s) (kRch (gkd g) (gpw g) s) h (gnc g) with
  | none => rw [kFire_none ht]; exact hd
  | some c =>
    rw [kFire_some ht]
    intro j hj
    show ∃ n : Nat, n ≤ 30 ∧ upd d.1 c (d.1 c - kFall (gpw g) d.1 s c) j = nI n
    by_cases e : j = c
    · subst e
      obtain ⟨n, hn, e1⟩ := hd j hj
      rw [pk_us, kFall, e1, hp]
      by_cases q : nI m < nI n
      · rw [if_pos q]
        have := kn_lt (by omega) (by omega) q
        exact ⟨n - m, by omega, pk_sub (by omega)⟩
      · rw [if_neg q]
        exact ⟨0, by omega, by rw [pk_sub (Nat.le_refl n), Nat.sub_self]⟩
    · rw [pk_un e]
      exact hd j hj
theorem kNn_shots {g : kG} {wd : Int32} {Q : Nat → Bool} {h : Nat} {d : kDS} (hd : kNn (gnc g) d.1) (hp : ∀ s, s < 10 → Q s = true → ∃ m : Nat, m ≤ 9 ∧ gpw g s = nI m) : ∀ k, k ≤ 10 → kNn (gnc g) (kShots g wd Q h k d).1
  | 0, _ => hd
  | k + 1, hk => by
    have ih := kNn_shots hd hp k (by omega) (wd := wd) (h := h)
    rw [kShots]
    by_cases q : Q k = true ∧ ghor g k = nI h
    · rw [if_pos q]
      obtain ⟨m, hm, e⟩ := hp k (by omega) q.1
      exact kNn_fire ih hm e
    · rw [if_neg q]
      exact ih
theorem kHour_DD (g : kG) (wd : Int32) (Q : Nat → Bool) (h : Nat) (d : kDS) : kHour g wd Q h d = kShots g wd Q h 10 (kDD g wd h (gnc g) d) := rfl
theorem kDay_s (g : kG) (wd : Int32) (Q : Nat → Bool) (h : Nat) : kDay g wd Q (h + 1) = kHour g wd Q h (kDay g wd Q h) := kDayZ_s g wd Q _ h
theorem kDay_0 (g : kG) (wd : Int32) (Q : Nat → Bool) : kDay g wd Q 0 = kDay0 g (fun _ => 0) := kDayZ_0 g wd Q _
theorem kNn_day {g : kG} {wd : Int32} {Q : Nat → Bool} (hw : kNn (gnc g) (gcwet g)) (hp : ∀ s, s < 10 → Q s = true → ∃ m : Nat, m ≤ 9 ∧ gpw g s = nI m) : ∀ h, kNn (gnc g) (kDay g wd Q h).1
  | 0 => by
    rw [kDay_0]
    intro c hc
    show ∃ n : Nat, n ≤ 30 ∧ kFil (gcwet g) (fun _ => 0) (gnc g) c = nI n
    rw [kFil_ext hc]
    exact hw c hc
  | h + 1 => by
    rw [kDay_s, kHour_DD]
    exact kNn_shots (kNn_dd (kNn_day hw hp h) _) hp 10 (Nat.le_refl _)
/-- fields that there aren't get nothing -/
def kOut (N : Nat) (d : kDS) : Prop := ∀ f, N ≤ f → d.2.1 f = 0 ∧ d.2.2.1 f = 0
theorem kOut_dd {g : kG} {wd : Int32} {h : Nat} {d : kDS} (hN : gN g ≤ 8) (hd : kOut (gN g) d) : ∀ c, kOut (gN g) (kDD g wd h c d)
  | 0 => hd
  | c + 1 => by
    have ih := kOut_dd (wd := wd) (h := h) hN hd c
    by_cases hc : kDc g wd h c d
    · rw [kDD_yes hc]
      obtain ⟨p, hp, e⟩ := kix hc.1 (by omega)
      intro f hf
      refine ⟨?_, (ih f hf).2⟩
      show upd (kDD g wd h c d).2.1 (kPl (gcat g) wd c h).toNatClampNeg _ f = 0
      rw [e, nI_clamp (by omega), pk_un (show ¬ f = p by omega)]
      exact (ih f hf).1
    · rw [kDD_no hc]
      exact ih
theorem kOut_fire {g : kG} {wd : Int32} {h s : Nat} {d : kDS} (hN : gN g ≤ 8) (hd : kOut (gN g) d) (hw : 0 ≤ gfr g s ∧ gfr g s < nI (gN g)) : kOut (gN g) (kFire g wd h s d) := by
  cases ht : kTg (gcat g) (gchi g) d.1 wd (gfr g s) (kRch (gkd g) (gpw g) s) h (gnc g) with
  | none => rw [kFire_none ht]; exact hd
  | some c =>
    rw [kFire_some ht]
    obtain ⟨p, hp, e⟩ := kix hw (by omega)
    intro f hf
    constructor
    · show upd d.2.1 (gfr g s).toNatClampNeg _ f = 0
      rw [e, nI_clamp (by omega), pk_un (show ¬ f = p by omega)]
      exact (hd f hf).1
    · show upd d.2.2.1 (gfr g s).toNatClampNeg _ f = 0
      rw [e, nI_clamp (by omega), pk_un (show ¬ f = p by omega)]
      exact (hd f hf).2
theorem kOut_shots {g : kG} {wd : Int32} {Q : Nat → Bool} {h : Nat} {d : kDS} (hN : gN g ≤ 8) (hd : kOut (gN g) d) (hw : ∀ s, s < 10 → Q s = true → 0 ≤ gfr g s ∧ gfr g s < nI (gN g)) : ∀ k, k ≤ 10 → kOut (gN g) (kShots g wd Q h k d)
  | 0, _ => hd
  | k + 1, hk => by
    have ih := kOut_shots hN hd hw k (by omega) (wd := wd) (h := h)
    rw [kShots]
    by_cases q : Q k = true ∧ ghor g k = nI h
    · rw [if_pos q]
      exact kOut_fire hN ih (hw k (by omega) q.1)
    · rw [if_neg q]
      exact ih
theorem kOut_day {g : kG} {wd : Int32} {Q : Nat → Bool} (hN : gN g ≤ 8) (hw : ∀ s, s < 10 → Q s = true → 0 ≤ gfr g s ∧ gfr g s < nI (gN g)) : ∀ h, kOut (gN g) (kDay g wd Q h)
  | 0 => by
    rw [kDay_0]
    exact fun f _ => ⟨rfl, rfl⟩
  | h + 1 => by
    rw [kDay_s, kHour_DD]
    exact kOut_shots hN (kOut_dd hN (kOut_day hN hw h) _) hw 10 (Nat.le_refl _)
/-- the cloud that a shot reaches, told by what it is: the lowest, the first of several -/
def kEl (cat chi lf : kA) (wd fd r : Int32) (h c : Nat) : Prop := 0 < lf c ∧ chi c ≤ r ∧ kPl cat wd c h = fd
def kIsB (E : Nat → Prop) (chi : kA) (lo hi : Nat) : Option Nat → Prop
  | none => ∀ i, lo ≤ i → i < hi → ¬ E i
  | some j => lo ≤ j ∧ j < hi ∧ E j ∧ ∀ i, lo ≤ i → i < hi → E i → chi j < chi i ∨ (chi j ≤ chi i ∧ j ≤ i)
theorem kIsB_uniq {E : Nat → Prop} {chi : kA} {lo hi : Nat} : ∀ {o o' : Option Nat}, kIsB E chi lo hi o → kIsB E chi lo hi o' → o = o'
  | none, none, _, _ => rfl
  | none, some j, h, h' => by
    obtain ⟨a, b, c, _⟩ := h'
    exact absurd c (h j a b)
  | some i, none, h, h' => by
    obtain ⟨a, b, c, _⟩ := h
    exact absurd c (h' i a b)
  | some i, some j, h, h' => by
    obtain ⟨a1, a2, a3, a4⟩ := h
    obtain ⟨b1, b2, b3, b4⟩ := h'
    have e : i = j := by
      rcases a4 j b1 b2 b3 with p | ⟨p1, p2⟩
      · rcases b4 i a1 a2 a3 with q | ⟨q1, q2⟩
        · exact absurd (Int32.lt_trans p q) (Int32.not_lt.mpr (Int32.le_refl _))
        · exact absurd p (Int32.not_lt.mpr q1)
      · rcases b4 i a1 a2 a3 with q | ⟨q1, q2⟩
        · exact absurd q (Int32.not_lt.mpr p1)
        · omega
    rw [e]
theorem kTg_isB (cat chi lf : kA) (wd fd r : Int32) (h : Nat) : ∀ n, kIsB (kEl cat chi lf wd fd r h) chi 0 n (kTg cat chi lf wd fd r h n)
  | 0 => fun i _ hi => absurd hi (Nat.not_lt_zero i)
  | n + 1 => by
    have ih := kTg_isB cat chi lf wd fd r h n
    cases e : kTg cat chi lf wd fd r h n with
    | none =>
      rw [e] at ih
      rw [kTg_none e]
      by_cases q : 0 < lf n ∧ chi n ≤ r ∧ kPl cat wd n h = fd
      · rw [if_pos q]
        refine ⟨Nat.zero_le _, Nat.lt_succ_self n, q, fun i h1 h2 h3 => ?_⟩
        by_cases z : i = n
        · subst z; exact Or.inr ⟨Int32.le_refl _, Nat.le_refl _⟩
        · exact absurd h3 (ih i h1 (by omega))
      · rw [if_neg q]
        intro i h1 h2 h3
        by_cases z : i = n
        · subst z; exact q h3
        · exact ih i h1 (by omega) h3
    | some j =>
      rw [e] at ih
      obtain ⟨i1, i2, i3, i4⟩ := ih
      rw [kTg_some e]
      by_cases q : (0 < lf n ∧ chi n ≤ r ∧ kPl cat wd n h = fd) ∧ chi n < chi j
      · rw [if_pos q]
        refine ⟨Nat.zero_le _, Nat.lt_succ_self n, q.1, fun i h1 h2 h3 => ?_⟩
        by_cases z : i = n
        · subst z; exact Or.inr ⟨Int32.le_refl _, Nat.le_refl _⟩
        · refine Or.inl ?_
          rcases i4 i h1 (by omega) h3 with w | w
          · exact Int32.lt_trans q.2 w
          · exact Int32.lt_of_lt_of_le q.2 w.1
      · rw [if_neg q]
        refine ⟨i1, by omega, i3, fun i h1 h2 h3 => ?_⟩
        by_cases z : i = n
        · subst z
          exact Or.inr ⟨Int32.not_lt.mp (fun w => q ⟨h3, w⟩), by omega⟩
        · exact i4 i h1 (by omega) h3
theorem kTg_of {cat chi lf : kA} {wd fd r : Int32} {h n : Nat} {o : Option Nat} (hb : kIsB (kEl cat chi lf wd fd r h) chi 0 n o) : kTg cat chi lf wd fd r h n = o := kIsB_uniq (kTg_isB cat chi lf wd fd r h n) hb
theorem kIsB_no {E : Nat → Prop} {chi : kA} {m n : Nat} {o : Option Nat} (h : kIsB E chi (m + 1) n o) (q : ¬ E m) : kIsB E chi m n o := by
  cases o with
  | none =>
    intro i h1 h2 h3
    by_cases z : i = m
    · subst z; exact q h3
    · exact h i (by omega) h2 h3
  | some j =>
    obtain ⟨a1, a2, a3, a4⟩ := h
    refine ⟨by omega, a2, a3, fun i h1 h2 h3 => ?_⟩
    by_cases z : i = m
    · subst z; exact absurd h3 q
    · exact a4 i (by omega) h2 h3
theorem kIsB_new0 {E : Nat → Prop} {chi : kA} {m n : Nat} (h : kIsB E chi (m + 1) n none) (q : E m) (hm : m < n) : kIsB E chi m n (some m) := by
  refine ⟨Nat.le_refl _, hm, q, fun i h1 h2 h3 => ?_⟩
  by_cases z : i = m
  · subst z; exact Or.inr ⟨Int32.le_refl _, Nat.le_refl _⟩
  · exact absurd h3 (h i (by omega) h2)
theorem kIsB_new {E : Nat → Prop} {chi : kA} {m n j : Nat} (h : kIsB E chi (m + 1) n (some j)) (q : E m) (hm : m < n) (w : chi m ≤ chi j) : kIsB E chi m n (some m) := by
  obtain ⟨a1, a2, a3, a4⟩ := h
  refine ⟨Nat.le_refl _, hm, q, fun i h1 h2 h3 => ?_⟩
  by_cases z : i = m
  · subst z; exact Or.inr ⟨Int32.le_refl _, Nat.le_refl _⟩
  · rcases a4 i (by omega) h2 h3 with y | y
    · exact Or.inl (Int32.lt_of_le_of_lt w y)
    · exact Or.inr ⟨Int32.le_trans w y.1, h1⟩
theorem kIsB_old {E : Nat → Prop} {chi : kA} {m n j : Nat} (h : kIsB E chi (m + 1) n (some j)) (w : ¬ chi m ≤ chi j) : kIsB E chi m n (some j) := by
  obtain ⟨a1, a2, a3, a4⟩ := h
  refine ⟨by omega, a2, a3, fun i h1 h2 h3 => ?_⟩
  by_cases z : i = m
  · subst z; exact Or.inl (Int32.not_le.mp w)
  · exact a4 i (by omega) h2 h3
theorem kIsB_end (E : Nat → Prop) (chi : kA) (n : Nat) : kIsB E chi n n none := fun i h1 h2 => absurd h2 (Nat.not_lt.mpr h1)
theorem kIsB_lt {E : Nat → Prop} {chi : kA} {m n j : Nat} (h : kIsB E chi m n (some j)) : j < n := by
  obtain ⟨a1, a2, a3, a4⟩ := h
  exact a2
theorem kPk_fire {g : kG} {wd : Int32} {h k c fx : Nat} {d : kDS} {a : kA} (ha : a = kPk d) (ht : kTg (gcat g) (gchi g) d.1 wd (gfr g k) (kRch (gkd g) (gpw g) k) h (gnc g) = some c) (hc : c < 6) (hk : k < 10) (hf : gfr g k = nI fx) (hfx : fx < 8) {F I : Int32} (hF : F = kFall (gpw g) d.1 k c) (hI : I = kIce (gkd g) k F) {a1 a2 a3 a4 : kA} (h1 : a1 = upd a (16 + c) (a (16 + c) - F)) (h2 : a2 = upd a1 (22 + k) F) (h3 : a3 = upd a2 (32 + k) (nI c)) (h4 : a4 = upd a3 (8 + fx) (a3 (8 + fx) + I)) :
    upd a4 fx (a4 fx + (F - I)) = kPk (kFire g wd h k d) := by
  subst ha
  rw [kPk_l _ hc, kPk_ul _ hc] at h1
  subst h1
  rw [kPk_ua _ hk] at h2
  subst h2
  rw [kPk_uo] at h3
  subst h3
  rw [kPk_h _ hfx, kPk_uh _ hfx] at h4
  subst h4
  rw [kPk_g _ hfx, kPk_ug _ hfx, kFire_some ht, hf, nI_clamp (by omega), ← hF, ← hI]
/-- days of two tellings that are alike where there are clouds, and where shots are fired -/
def kSam (q : Nat → Bool) (g g' : kG) : Prop := gN g = gN g' ∧ gnc g = gnc g' ∧ glow g = glow g' ∧ (∀ c, c < gnc g → gcat g c = gcat g' c ∧ gcwet g c = gcwet g' c ∧ gchi g c = gchi g' c) ∧ ∀ s, s < 10 → q s = true → gkd g s = gkd g' s ∧ gfr g s = gfr g' s ∧ ghor g s = ghor g' s ∧ gpw g s = gpw g' s
theorem kDrip_sam {N : Nat} {low : Int32} {cat chi cat' chi' : kA} {wd : Int32} {h : Nat} {x : kA × kA} : ∀ n, (∀ c, c < n → cat c = cat' c ∧ chi c = chi' c) → kDrip N low cat chi wd h n x = kDrip N low cat' chi' wd h n x
  | 0, _ => rfl
  | n + 1, hh => by
    have e1 := hh n (Nat.lt_succ_self n)
    rw [kDrip, kDrip, kDrip_sam n (fun c hc => hh c (by omega))]
    unfold kDrip1 kPl
    rw [e1.1, e1.2]
theorem kTg_sam {cat chi cat' chi' lf : kA} {wd fd r : Int32} {h : Nat} : ∀ n, (∀ c, c < n → cat c = cat' c ∧ chi c = chi' c) → kTg cat chi lf wd fd r h n = kTg cat' chi' lf wd fd r h n
  | 0, _ => rfl
  | n + 1, hh => by
    have e1 := hh n (Nat.lt_succ_self n)
    have e2 := kTg_sam (cat := cat) (chi := chi) (cat' := cat') (chi' := chi') (lf := lf) (wd := wd) (fd := fd) (r := r) (h := h) n (fun c hc => hh c (by omega))
    cases e : kTg cat chi lf wd fd r h n with
    | none =>
      rw [kTg_none e, kTg_none (e2.symm.trans e)]
      unfold kPl
      rw [e1.1, e1.2]
    | some j =>
      have e3 := hh j (by have := kTg_lt e; omega)
      rw [kTg_some e, kTg_some (e2.symm.trans e)]
      unfold kPl
      rw [e1.1, e1.2, e3.2]
theorem kFire_sam {q : Nat → Bool} {g g' : kG} (h : kSam q g g') {wd : Int32} {hh s : Nat} (hs : s < 10) (hq : q s = true) (d : kDS) : kFire g wd hh s d = kFire g' wd hh s d := by
  obtain ⟨h1, h2, h3, h4, h7⟩ := h
  obtain ⟨k1, k2, k3, k4⟩ := h7 s hs hq
  unfold kFire kRch kFall kIce
  rw [kTg_sam (cat := gcat g) (chi := gchi g) (cat' := gcat g') (chi' := gchi g') (gnc g) (fun c hc => ⟨(h4 c hc).1, (h4 c hc).2.2⟩), h2, k1, k2, k4]
theorem kShots_sam {q : Nat → Bool} {g g' : kG} (h : kSam q g g') {wd : Int32} {hh : Nat} {d : kDS} : ∀ {n : Nat}, n ≤ 10 → kShots g wd q hh n d = kShots g' wd q hh n d
  | 0, _ => rfl
  | n + 1, hn => by
    unfold kShots
    rw [kShots_sam h (by omega)]
    by_cases hq : q n = true
    · rw [(h.2.2.2.2 n (by omega) hq).2.2.1, kFire_sam h (by omega) hq]
    · rw [if_neg (fun z => hq z.1), if_neg (fun z => hq z.1)]
theorem kDay_sam {q : Nat → Bool} {g g' : kG} (h : kSam q g g') (wd : Int32) : ∀ hh, kDay g wd q hh = kDay g' wd q hh
  | 0 => by
    rw [kDay_0, kDay_0]
    unfold kDay0
    have e : kFil (gcwet g) (fun _ => 0) (gnc g) = kFil (gcwet g') (fun _ => 0) (gnc g') := by
      funext c
      rw [← h.2.1]
      unfold kFil
      by_cases hc : c < gnc g
      · rw [if_pos hc, if_pos hc, (h.2.2.2.1 c hc).2.1]
      · rw [if_neg hc, if_neg hc]
    rw [e]
  | hh + 1 => by
    rw [kDay_s, kDay_s, kDay_sam h wd hh]
    unfold kHour
    rw [kShots_sam h (Nat.le_refl _), ← h.1, ← h.2.1, ← h.2.2.1, kDrip_sam (cat := gcat g) (chi := gchi g) (cat' := gcat g') (chi' := gchi g') (gnc g) (fun c hc => ⟨(h.2.2.2.1 c hc).1, (h.2.2.2.1 c hc).2.2⟩)]
