/-! part 20: what the class and the reference reckon, in plain functions -/
abbrev kA : Type := Nat → Int32
/-- a day's numbers: what is left of each cloud, got, hail, how much by a shot, of which cloud -/
abbrev kDS : Type := kA × kA × kA × kA × kA
/-- what a day rests on: fields, clouds, low; where clouds are, how wet, how high; kind, field, hour, powder of shots -/
abbrev kG : Type := Nat × Nat × Int32 × kA × kA × kA × kA × kA × kA × kA
abbrev gN (g : kG) : Nat := g.1
abbrev gnc (g : kG) : Nat := g.2.1
abbrev glow (g : kG) : Int32 := g.2.2.1
abbrev gcat (g : kG) : kA := g.2.2.2.1
abbrev gcwet (g : kG) : kA := g.2.2.2.2.1
abbrev gchi (g : kG) : kA := g.2.2.2.2.2.1
abbrev gkd (g : kG) : kA := g.2.2.2.2.2.2.1
abbrev gfr (g : kG) : kA := g.2.2.2.2.2.2.2.1
abbrev ghor (g : kG) : kA := g.2.2.2.2.2.2.2.2.1
abbrev gpw (g : kG) : kA := g.2.2.2.2.2.2.2.2.2
def kFil (f g : kA) (i : Nat) : kA := fun j => if j < i then f j else g j
theorem kFil_0 (f g : kA) : kFil f g 0 = g := funext fun j => by simp [kFil]
theorem kFil_succ (f g : kA) (i : Nat) {x : Int32} (hx : x = f i) : upd (kFil f g i) i x = kFil f g (i + 1) := by
  funext j
  by_cases e : j = i
  · subst e; simp [upd, kFil, hx]
  · simp only [upd, kFil, e, if_false]
    by_cases h : j < i
    · rw [if_pos h, if_pos (by omega)]
    · rw [if_neg h, if_neg (by omega)]
theorem kFil_ext {f g : kA} {i j : Nat} (h : j < i) : kFil f g i j = f j := by simp [kFil, h]
def kPl (cat : kA) (wd : Int32) (c h : Nat) : Int32 := cat c + wd * nI h
/-- what falls of itself from cloud c in hour h -/
def kDrip1 (N : Nat) (low : Int32) (cat chi : kA) (wd : Int32) (h c : Nat) (x : kA × kA) : kA × kA :=
  if (0 ≤ kPl cat wd c h ∧ kPl cat wd c h < nI N) ∧ chi c ≤ low ∧ 0 < x.1 c then (upd x.1 c (x.1 c - 1), upd x.2 (kPl cat wd c h).toNatClampNeg (x.2 (kPl cat wd c h).toNatClampNeg + 1)) else x
def kDrip (N : Nat) (low : Int32) (cat chi : kA) (wd : Int32) (h : Nat) : Nat → kA × kA → kA × kA
  | 0, x => x
  | c + 1, x => kDrip1 N low cat chi wd h c (kDrip N low cat chi wd h c x)
/-- the cloud that a shot reaches, of the first so many -/
def kTg (cat chi lf : kA) (wd fd r : Int32) (h : Nat) : Nat → Option Nat
  | 0 => none
  | c + 1 => match kTg cat chi lf wd fd r h c with
    | none => if 0 < lf c ∧ chi c ≤ r ∧ kPl cat wd c h = fd then some c else none
    | some j => if (0 < lf c ∧ chi c ≤ r ∧ kPl cat wd c h = fd) ∧ chi c < chi j then some c else some j
theorem kTg_none {cat chi lf : kA} {wd fd r : Int32} {h c : Nat} (e : kTg cat chi lf wd fd r h c = none) : kTg cat chi lf wd fd r h (c + 1) = if 0 < lf c ∧ chi c ≤ r ∧ kPl cat wd c h = fd then some c else none := by
  rw [kTg, e]
theorem kTg_some {cat chi lf : kA} {wd fd r : Int32} {h c j : Nat} (e : kTg cat chi lf wd fd r h c = some j) : kTg cat chi lf wd fd r h (c + 1) = if (0 < lf c ∧ chi c ≤ r ∧ kPl cat wd c h = fd) ∧ chi c < chi j then some c else some j := by
  rw [kTg, e]
theorem kTg_lt {cat chi lf : kA} {wd fd r : Int32} {h : Nat} : ∀ {c j : Nat}, kTg cat chi lf wd fd r h c = some j → j < c
  | 0, j, e => by cases e
  | c + 1, j, e => by
    cases e1 : kTg cat chi lf wd fd r h c with
    | none =>
      rw [kTg_none e1] at e
      split at e
      · cases e; exact Nat.lt_succ_self _
      · cases e
    | some k =>
      have := kTg_lt e1
      rw [kTg_some e1] at e
      split at e
      · cases e; exact Nat.lt_succ_self _
      · cases e; omega
def kEnc (d : Int32) : Option Nat → Int32
  | none => d
  | some j => nI j
def kRch (kd pw : kA) (s : Nat) : Int32 := if kd s = 0 then pw s else 2 * pw s
def kFall (pw lf : kA) (s c : Nat) : Int32 := if pw s < lf c then pw s else lf c
def kIce (kd : kA) (s : Nat) (x : Int32) : Int32 := if kd s = 2 then x / 3 else 0
/-- shot s in hour h -/
def kFire (g : kG) (wd : Int32) (h s : Nat) (d : kDS) : kDS :=
  match kTg (gcat g) (gchi g) d.1 wd (gfr g s) (kRch (gkd g) (gpw g) s) h (gnc g) with
  | none => d
  | some c => (upd d.1 c (d.1 c - kFall (gpw g) d.1 s c), upd d.2.1 (gfr g s).toNatClampNeg (d.2.1 (gfr g s).toNatClampNeg + (kFall (gpw g) d.1 s c - kIce (gkd g) s (kFall (gpw g) d.1 s c))),
      upd d.2.2.1 (gfr g s).toNatClampNeg (d.2.2.1 (gfr g s).toNatClampNeg + kIce (gkd g) s (kFall (gpw g) d.1 s c)), upd d.2.2.2.1 s (kFall (gpw g) d.1 s c), upd d.2.2.2.2 s (nI c))
def kShots (g : kG) (wd : Int32) (q : Nat → Bool) (h : Nat) : Nat → kDS → kDS
  | 0, d => d
  | s + 1, d => if q s = true ∧ ghor g s = nI h then kFire g wd h s (kShots g wd q h s d) else kShots g wd q h s d
def kHour (g : kG) (wd : Int32) (q : Nat → Bool) (h : Nat) (d : kDS) : kDS :=
  kShots g wd q h 10 ((kDrip (gN g) (glow g) (gcat g) (gchi g) wd h (gnc g) (d.1, d.2.1)).1, (kDrip (gN g) (glow g) (gcat g) (gchi g) wd h (gnc g) (d.1, d.2.1)).2, d.2.2)
def kDay0 (g : kG) (z : kA) : kDS := (kFil (gcwet g) z (gnc g), fun _ => 0, fun _ => 0, fun _ => 0, fun _ => -9)
def kDayZ (g : kG) (wd : Int32) (q : Nat → Bool) (z : kA) (h : Nat) : kDS :=
  match h with
  | 0 => kDay0 g z
  | h + 1 => kHour g wd q h (kDayZ g wd q z h)
termination_by h
theorem kDayZ_0 (g : kG) (wd : Int32) (q : Nat → Bool) (z : kA) : kDayZ g wd q z 0 = kDay0 g z := by rw [kDayZ]
theorem kDayZ_s (g : kG) (wd : Int32) (q : Nat → Bool) (z : kA) (h : Nat) : kDayZ g wd q z (h + 1) = kHour g wd q h (kDayZ g wd q z h) := by rw [kDayZ]
/-- the day as it is behind so many hours -/
def kDay (g : kG) (wd : Int32) (q : Nat → Bool) (h : Nat) : kDS := kDayZ g wd q (fun _ => 0) h
def kYf (need worth gt hl : kA) (f : Nat) : Int32 :=
  if worth f * (if gt f < need f then gt f else need f) - 2 * hl f < 0 then 0 else worth f * (if gt f < need f then gt f else need f) - 2 * hl f
def kYs (club need worth gt hl : kA) (oc : Int32) : Nat → Int32
  | 0 => 0
  | f + 1 => kYs club need worth gt hl oc f + (if oc = -1 ∨ club f = oc then kYf need worth gt hl f else 0)
/-- a set of shots, as a number tells it -/
def kBit (m : Int32) (s : Nat) : Bool := decide ((m >>> (nI s &&& 31)) &&& 1 = 1)
theorem kShots_stop {g : kG} {wd : Int32} {q : Nat → Bool} {h m : Nat} {d : kDS} : ∀ {n : Nat}, m ≤ n → (∀ s, m ≤ s → s < n → q s = false) → kShots g wd q h n d = kShots g wd q h m d
  | 0, hm, _ => by rw [show m = 0 by omega]
  | n + 1, hm, hq => by
    by_cases e : m = n + 1
    · rw [e]
    · rw [kShots, if_neg (by rw [hq n (by omega) (Nat.lt_succ_self n)]; simp)]
      exact kShots_stop (by omega) (fun s h1 h2 => hq s h1 (by omega))
/-- two days that differ in what is left of clouds that there aren't -/
def kEq (nc : Nat) (d e : kDS) : Prop := (∀ c, c < nc → d.1 c = e.1 c) ∧ d.2 = e.2
theorem kDrip1_eq {N nc : Nat} {low : Int32} {cat chi : kA} {wd : Int32} {h c : Nat} (hc : c < nc) {x y : kA × kA} (h1 : ∀ c, c < nc → x.1 c = y.1 c) (h2 : x.2 = y.2) : (∀ j, j < nc → (kDrip1 N low cat chi wd h c x).1 j = (kDrip1 N low cat chi wd h c y).1 j) ∧ (kDrip1 N low cat chi wd h c x).2 = (kDrip1 N low cat chi wd h c y).2 := by
  unfold kDrip1
  rw [h1 c hc, h2]
  split
  · refine ⟨fun j hj => ?_, rfl⟩
    show upd x.1 c _ j = upd y.1 c _ j
    by_cases e : j = c
    · subst e; rw [pk_us, pk_us]
    · rw [pk_un e, pk_un e]; exact h1 j hj
  · exact ⟨h1, h2⟩
theorem kDrip_eq {N nc : Nat} {low : Int32} {cat chi : kA} {wd : Int32} {h : Nat} {x y : kA × kA} (h1 : ∀ c, c < nc → x.1 c = y.1 c) (h2 : x.2 = y.2) : ∀ {n : Nat}, n ≤ nc → (∀ j, j < nc → (kDrip N low cat chi wd h n x).1 j = (kDrip N low cat chi wd h n y).1 j) ∧ (kDrip N low cat chi wd h n x).2 = (kDrip N low cat chi wd h n y).2
  | 0, _ => ⟨h1, h2⟩
  | n + 1, hn => by
    obtain ⟨h3, h4⟩ := kDrip_eq (N := N) (low := low) (cat := cat) (chi := chi) (wd := wd) (h := h) h1 h2 (n := n) (by omega)
    exact kDrip1_eq (by omega) h3 h4
theorem kTg_eq {cat chi lf lf' : kA} {wd fd r : Int32} {h : Nat} : ∀ {n : Nat}, (∀ c, c < n → lf c = lf' c) → kTg cat chi lf wd fd r h n = kTg cat chi lf' wd fd r h n
  | 0, _ => rfl
  | n + 1, hl => by
    have e := kTg_eq (cat := cat) (chi := chi) (wd := wd) (fd := fd) (r := r) (h := h) (n := n) (fun c hc => hl c (by omega))
    rw [kTg, kTg, e, hl n (Nat.lt_succ_self n)]
theorem kFire_eq {g : kG} {wd : Int32} {h s : Nat} {d e : kDS} (hd : kEq (gnc g) d e) : kEq (gnc g) (kFire g wd h s d) (kFire g wd h s e) := by
  obtain ⟨h1, h2⟩ := hd
  unfold kFire
  rw [kTg_eq h1]
  cases ht : kTg (gcat g) (gchi g) e.1 wd (gfr g s) (kRch (gkd g) (gpw g) s) h (gnc g) with
  | none => exact ⟨h1, h2⟩
  | some c =>
    have hc := kTg_lt ht
    have e1 : kFall (gpw g) d.1 s c = kFall (gpw g) e.1 s c := by unfold kFall; rw [h1 c hc]
    dsimp only
    rw [e1, h1 c hc, h2]
    refine ⟨fun j hj => ?_, rfl⟩
    show upd d.1 c _ j = upd e.1 c _ j
    by_cases q : j = c
    · subst q; rw [pk_us, pk_us]
    · rw [pk_un q, pk_un q]; exact h1 j hj
theorem kShots_eq {g : kG} {wd : Int32} {q : Nat → Bool} {h : Nat} {d e : kDS} (hd : kEq (gnc g) d e) : ∀ n, kEq (gnc g) (kShots g wd q h n d) (kShots g wd q h n e)
  | 0 => hd
  | n + 1 => by
    unfold kShots
    split
    · exact kFire_eq (kShots_eq hd n)
    · exact kShots_eq hd n
theorem kHour_eq {g : kG} {wd : Int32} {q : Nat → Bool} {h : Nat} {d e : kDS} (hd : kEq (gnc g) d e) : kEq (gnc g) (kHour g wd q h d) (kHour g wd q h e) := by
  refine kShots_eq ?_ 10
  obtain ⟨h1, h2⟩ := hd
  obtain ⟨h3, h4⟩ := kDrip_eq (N := gN g) (low := glow g) (cat := gcat g) (chi := gchi g) (wd := wd) (h := h) (x := (d.1, d.2.1)) (y := (e.1, e.2.1)) h1 (by show d.2.1 = e.2.1; rw [h2]) (n := gnc g) (Nat.le_refl _)
  refine ⟨h3, ?_⟩
  show (_, d.2.2) = (_, e.2.2)
  rw [h4, h2]
theorem kDayZ_eq (g : kG) (wd : Int32) (q : Nat → Bool) (z z' : kA) : ∀ h, kEq (gnc g) (kDayZ g wd q z h) (kDayZ g wd q z' h)
  | 0 => by
    rw [kDayZ_0, kDayZ_0]
    exact ⟨fun c hc => by show kFil _ _ _ c = kFil _ _ _ c; rw [kFil_ext hc, kFil_ext hc], rfl⟩
  | h + 1 => by
    rw [kDayZ_s, kDayZ_s]
    exact kHour_eq (kDayZ_eq g wd q z z' h)
/-- days of two tables of shots that are alike where shots are fired -/
def kSame (q : Nat → Bool) (g g' : kG) : Prop := gN g = gN g' ∧ gnc g = gnc g' ∧ glow g = glow g' ∧ gcat g = gcat g' ∧ gcwet g = gcwet g' ∧ gchi g = gchi g' ∧ ∀ s, s < 10 → q s = true → gkd g s = gkd g' s ∧ gfr g s = gfr g' s ∧ ghor g s = ghor g' s ∧ gpw g s = gpw g' s
theorem kFire_same {q : Nat → Bool} {g g' : kG} (h : kSame q g g') {wd : Int32} {hh s : Nat} (hs : s < 10) (hq : q s = true) (d : kDS) : kFire g wd hh s d = kFire g' wd hh s d := by
  obtain ⟨h1, h2, h3, h4, h5, h6, h7⟩ := h
  obtain ⟨k1, k2, k3, k4⟩ := h7 s hs hq
  unfold kFire kRch kFall kIce
  rw [h4, h6, h2, k1, k2, k4]
theorem kShots_same {q : Nat → Bool} {g g' : kG} (h : kSame q g g') {wd : Int32} {hh : Nat} {d : kDS} : ∀ {n : Nat}, n ≤ 10 → kShots g wd q hh n d = kShots g' wd q hh n d
  | 0, _ => rfl
  | n + 1, hn => by
    unfold kShots
    rw [kShots_same h (by omega)]
    by_cases hq : q n = true
    · rw [(h.2.2.2.2.2.2 n (by omega) hq).2.2.1, kFire_same h (by omega) hq]
    · rw [if_neg (fun z => hq z.1), if_neg (fun z => hq z.1)]
theorem kDayZ_same {q : Nat → Bool} {g g' : kG} (h : kSame q g g') (wd : Int32) (z : kA) : ∀ hh, kDayZ g wd q z hh = kDayZ g' wd q z hh
  | 0 => by
    rw [kDayZ_0, kDayZ_0]
    unfold kDay0
    rw [h.2.1, h.2.2.2.2.1]
  | hh + 1 => by
    rw [kDayZ_s, kDayZ_s, kDayZ_same h wd z hh]
    unfold kHour
    rw [kShots_same h (Nat.le_refl _), h.1, h.2.1, h.2.2.1, h.2.2.2.1, h.2.2.2.2.2.1]
theorem kDay_same {q : Nat → Bool} {g g' : kG} (h : kSame q g g') (wd : Int32) (hh : Nat) : kDay g wd q hh = kDay g' wd q hh := kDayZ_same h wd _ hh
/-- the same day by another set that is the same below ten -/
theorem kDayZ_set {q q' : Nat → Bool} (h : ∀ s, s < 10 → q s = q' s) (g : kG) (wd : Int32) (z : kA) : ∀ hh, kDayZ g wd q z hh = kDayZ g wd q' z hh := by
  have sh : ∀ (hh : Nat) (d : kDS) (n : Nat), n ≤ 10 → kShots g wd q hh n d = kShots g wd q' hh n d := by
    intro hh d n
    induction n with
    | zero => intro _; rfl
    | succ n ih => intro hn; unfold kShots; rw [ih (by omega), h n (by omega)]
  intro hh
  induction hh with
  | zero => rw [kDayZ_0, kDayZ_0]
  | succ n ih =>
    rw [kDayZ_s, kDayZ_s, ih]
    exact sh n _ 10 (Nat.le_refl _)
theorem kDay_set {q q' : Nat → Bool} (h : ∀ s, s < 10 → q s = q' s) (g : kG) (wd : Int32) (hh : Nat) : kDay g wd q hh = kDay g wd q' hh := kDayZ_set h g wd _ hh
theorem kin_lt {x : Int32} {N n : Nat} (hN : N ≤ n) (hn : n < 2 ^ 31) (h : 0 ≤ x ∧ x < nI N) : vp_in x n := by
  refine kin_of hn (Int32.not_lt.mpr h.1) (fun q => ?_)
  have h1 := Int32.lt_of_le_of_lt q h.2
  have := (nI_ltI (a := n) (b := N) hn (by omega)).mp h1
  omega
theorem kmin_nat {a b : Nat} (ha : a < 2 ^ 31) (hb : b < 2 ^ 31) : (if nI b < nI a then nI b else nI a) = nI (min a b) := by
  by_cases h : b < a
  · rw [if_pos ((nI_ltI hb ha).mpr h), Nat.min_eq_right (by omega)]
  · rw [if_neg (fun q => h ((nI_ltI hb ha).mp q)), Nat.min_eq_left (by omega)]
theorem kmin_sw (x y : Int32) : (if y < x then y else x) = (if x < y then x else y) := by
  by_cases h : y < x
  · rw [if_pos h, if_neg (Int32.not_lt.mpr (Int32.le_of_lt h))]
  · rw [if_neg h]
    by_cases h2 : x < y
    · rw [if_pos h2]
    · rw [if_neg h2]; exact Int32.le_antisymm (Int32.not_lt.mp h) (Int32.not_lt.mp h2)
theorem kmax0 (x : Int32) : (if (0 : Int32) < x then x else 0) = (if x < 0 then 0 else x) := by
  by_cases h : x < 0
  · rw [if_pos h, if_neg (Int32.not_lt.mpr (Int32.le_of_lt h))]
  · rw [if_neg h]
    by_cases h2 : (0 : Int32) < x
    · rw [if_pos h2]
    · rw [if_neg h2]; exact Int32.le_antisymm (Int32.not_lt.mp h) (Int32.not_lt.mp h2)
