/-! part 30: what each call answers, and what it leaves, in plain functions -/
theorem kix {x : Int32} {n : Nat} (h : 0 ≤ x ∧ x < nI n) (hn : n < 2 ^ 31) : ∃ j : Nat, j < n ∧ x = nI j := by
  rcases pk_ix x hn with q | q | q
  · exact absurd h.1 (Int32.not_le.mpr q)
  · exact absurd h.2 (Int32.not_lt.mpr q)
  · exact q
theorem kixle {x : Int32} {n : Nat} (h : 0 ≤ x ∧ x ≤ nI n) (hn : n < 2 ^ 30) : ∃ j : Nat, j ≤ n ∧ x = nI j := by
  rcases pk_ix x (n := n + 1) (by omega) with q | q | ⟨j, q, e⟩
  · exact absurd h.1 (Int32.not_le.mpr q)
  · have h1 := Int32.le_trans q h.2
    have := (nI_leI (a := n + 1) (b := n) (by omega) (by omega)).mp h1
    omega
  · exact ⟨j, by omega, e⟩
def kF_ofField (N : Nat) (club need worth : kA) (f a : Int32) : Int32 :=
  if 0 ≤ f ∧ f < nI N then (if a = 0 then club f.toNatClampNeg else if a = 1 then need f.toNatClampNeg else if a = 2 then worth f.toNatClampNeg else -2) else -1
abbrev kMay (a v : Int32) : Prop := (a = 0 ∧ -3 ≤ v ∧ v ≤ 3) ∨ (a = 1 ∧ 0 ≤ v ∧ v ≤ 9) ∨ (a = 2 ∧ 0 ≤ v ∧ v ≤ 4095)
def kF_set (N : Nat) (wind low forb a v : Int32) : Int32 × Int32 × Int32 × Int32 :=
  if kMay a v then (if N = 0 then (-3, wind, low, forb) else if a = 0 then (wind + 10, v, low, forb) else if a = 1 then (low, wind, v, forb) else (forb, wind, low, v)) else (-2, wind, low, forb)
def kF_cloud (N nc : Nat) (cat cwet chi : kA) (a b c : Int32) : Int32 × Nat × kA × kA × kA :=
  if -20 ≤ a ∧ a ≤ 20 then (if 1 ≤ b ∧ b ≤ 30 then (if 1 ≤ c ∧ c ≤ 9 then (if N = 0 then (-3, nc, cat, cwet, chi) else if nc < 6 then (nI nc, nc + 1, upd cat nc a, upd cwet nc b, upd chi nc c) else (-4, nc, cat, cwet, chi)) else (-2, nc, cat, cwet, chi)) else (-2, nc, cat, cwet, chi)) else (-2, nc, cat, cwet, chi)
def kF_ofCloud (g : kG) (wind : Int32) (ns : Nat) (c hr a : Int32) : Int32 :=
  if 0 ≤ c ∧ c < nI (gnc g) then (if 0 ≤ hr ∧ hr ≤ 11 then (if 0 ≤ a ∧ a ≤ 2 then (if a = 0 then (gcat g c.toNatClampNeg + wind * hr) + 100 else if a = 2 then gchi g c.toNatClampNeg else (kDay g wind (kAll ns) hr.toNatClampNeg).1 c.toNatClampNeg) else -2) else -2) else -1
def kF_shot (N ns : Nat) (kd fr hor pw : kA) (k f h p : Int32) : Int32 × Nat × kA × kA × kA × kA :=
  if 0 ≤ f ∧ f < nI N then (if 0 ≤ k ∧ k ≤ 2 then (if 0 ≤ h ∧ h ≤ 11 then (if 1 ≤ p ∧ p ≤ 9 then (if ns < 8 then (nI ns, ns + 1, upd kd ns k, upd fr ns f, upd hor ns h, upd pw ns p) else (-4, ns, kd, fr, hor, pw)) else (-2, ns, kd, fr, hor, pw)) else (-2, ns, kd, fr, hor, pw)) else (-2, ns, kd, fr, hor, pw)) else (-1, ns, kd, fr, hor, pw)
def kF_ofShot (ns : Nat) (kd fr hor pw : kA) (s a : Int32) : Int32 :=
  if 0 ≤ s ∧ s < nI ns then (if a = 0 then kd s.toNatClampNeg else if a = 1 then fr s.toNatClampNeg else if a = 2 then hor s.toNatClampNeg else if a = 3 then pw s.toNatClampNeg else if a = 4 then kRch kd pw s.toNatClampNeg else -2) else -1
def kF_back (ns : Nat) (k : Int32) : Int32 × Nat := if 0 ≤ k ∧ k ≤ nI ns then (nI (ns - k.toNatClampNeg), ns - k.toNatClampNeg) else (-2, ns)
def kF_fell (g : kG) (wind : Int32) (ns : Nat) (f hr a : Int32) : Int32 :=
  if 0 ≤ f ∧ f < nI (gN g) then (if 0 ≤ hr ∧ hr ≤ 11 then (if 0 ≤ a ∧ a ≤ 1 then (if a = 0 then (kDay g wind (kAll ns) (hr.toNatClampNeg + 1)).2.1 f.toNatClampNeg else (kDay g wind (kAll ns) (hr.toNatClampNeg + 1)).2.2.1 f.toNatClampNeg) else -2) else -2) else -1
def kF_by (g : kG) (wind : Int32) (ns : Nat) (s a : Int32) : Int32 :=
  if 0 ≤ s ∧ s < nI ns then (if 0 ≤ a ∧ a ≤ 1 then (if a = 0 then (kDay g wind (kAll ns) 12).2.2.2.1 s.toNatClampNeg else (kDay g wind (kAll ns) 12).2.2.2.2 s.toNatClampNeg) else -2) else -1
def kF_yields (g : kG) (wind : Int32) (need worth : kA) (ns : Nat) (f : Int32) : Int32 :=
  if 0 ≤ f ∧ f < nI (gN g) then kYf need worth (kDay g wind (kAll ns) 12).2.1 (kDay g wind (kAll ns) 12).2.2.1 f.toNatClampNeg else -1
def kF_harvest (g : kG) (wind : Int32) (club need worth : kA) (ns : Nat) (c : Int32) : Int32 :=
  if c = -1 then kYd club need worth c (gN g) (kDay g wind (kAll ns) 12) else if 0 ≤ c ∧ c ≤ 3 then kYd club need worth c (gN g) (kDay g wind (kAll ns) 12) else -1
def kGain (g : kG) (wind : Int32) (club need worth : kA) (ns s : Nat) (c : Int32) : Int32 :=
  kYd club need worth c (gN g) (kDay g wind (kAll ns) 12) - kYd club need worth c (gN g) (kDay g wind (kBut ns s) 12)
def kF_brought (g : kG) (wind : Int32) (club need worth : kA) (ns : Nat) (s c : Int32) : Int64 :=
  if 0 ≤ s ∧ s < nI ns then (if c = -1 then (kGain g wind club need worth ns s.toNatClampNeg c).toInt64 else if 0 ≤ c ∧ c ≤ 3 then (kGain g wind club need worth ns s.toNatClampNeg c).toInt64 else -9223372036854775808) else -9223372036854775808
def kF_due (g : kG) (wind : Int32) (club need worth : kA) (ns : Nat) (s c : Int32) : Int32 :=
  if 0 ≤ s ∧ s < nI ns then (if 0 ≤ c ∧ c ≤ 3 then (if (0 : Int32) < -(kGain g wind club need worth ns s.toNatClampNeg c) then -(kGain g wind club need worth ns s.toNatClampNeg c) else 0) else -1) else -1
def kIdleP (g : kG) (wind : Int32) (ns : Nat) : Nat → Bool := fun s => decide (∀ f, f < gN g → (kDay g wind (kBut ns s) 12).2.1 f = (kDay g wind (kAll ns) 12).2.1 f ∧ (kDay g wind (kBut ns s) 12).2.2.1 f = (kDay g wind (kAll ns) 12).2.2.1 f)
def kBrP (forb : Int32) (hor : kA) : Nat → Bool := fun s => !decide ((forb >>> (hor s &&& 31)) &&& 1 = 0)
def kF_idle (g : kG) (wind forb : Int32) (ns : Nat) (a : Int32) : Int32 :=
  if a = 0 then kBits (kIdleP g wind ns) ns else if a = 1 then kBits (kBrP forb (ghor g)) ns else -2
def kOkP (club : kA) (forb oc : Int32) : Nat → Bool := fun k => decide ((oc = -1 ∨ club (k / 12) = oc) ∧ (forb >>> (nI (k % 12) &&& 31)) &&& 1 = 0)
def kMoreY (g : kG) (wind : Int32) (club need worth : kA) (ns : Nat) (oc p : Int32) : Nat → Int32 := fun k => kYd club need worth oc (gN g) (kDay (gUp g ns 0 (nI (k / 12)) (nI (k % 12)) p) wind (kAll (ns + 1)) 12)
def kMore (g : kG) (wind forb : Int32) (club need worth : kA) (ns : Nat) (oc p a : Int32) : Int32 :=
  if (kSeek (kOkP club forb oc) (kMoreY g wind club need worth ns oc p) (12 * gN g)).1 = -9 then -9
  else if a = 0 then (kSeek (kOkP club forb oc) (kMoreY g wind club need worth ns oc p) (12 * gN g)).2
  else if a = 1 then (kSeek (kOkP club forb oc) (kMoreY g wind club need worth ns oc p) (12 * gN g)).1 / 12
  else (kSeek (kOkP club forb oc) (kMoreY g wind club need worth ns oc p) (12 * gN g)).1 - (kSeek (kOkP club forb oc) (kMoreY g wind club need worth ns oc p) (12 * gN g)).1 / 12 * 12
def kF_more1 (g : kG) (wind forb : Int32) (club need worth : kA) (ns : Nat) (oc p a : Int32) : Int32 :=
  if 1 ≤ p ∧ p ≤ 9 then (if 0 ≤ a ∧ a ≤ 2 then (if gN g = 0 then -3 else kMore g wind forb club need worth ns oc p a) else -2) else -2
def kF_more (g : kG) (wind forb : Int32) (club need worth : kA) (ns : Nat) (oc p a : Int32) : Int32 :=
  if oc = -1 then kF_more1 g wind forb club need worth ns oc p a else if 0 ≤ oc ∧ oc ≤ 3 then kF_more1 g wind forb club need worth ns oc p a else -1
/-- the best wind of the first so many from -3 on -/
def kWind (y : Nat → Int32) : Nat → Int32 × Int32
  | 0 => (-3, -1)
  | k + 1 => if (kWind y k).2 < y k then (nI k - 3, y k) else kWind y k
def kWindY (g : kG) (club need worth : kA) (ns : Nat) : Nat → Int32 := fun k => kYd club need worth (-1) (gN g) (kDay g (nI k - 3) (kAll ns) 12)
def kF_wind (g : kG) (club need worth : kA) (ns : Nat) (a : Int32) : Int32 :=
  if 0 ≤ a ∧ a ≤ 1 then (if gN g = 0 then -3 else if a = 0 then (kWind (kWindY g club need worth ns) 7).1 + 10 else (kWind (kWindY g club need worth ns) 7).2) else -2
def kF_tell (ns : Nat) (kd pw : kA) (tr s : Int32) : Int32 × Int32 :=
  if 0 ≤ s ∧ s < nI ns then (if kd s.toNatClampNeg = 1 then (pw s.toNatClampNeg + 100, (31 : Int32) * ((31 : Int32) * tr + 2) + 1)
    else if kd s.toNatClampNeg = 2 then ((pw s.toNatClampNeg + 100) + pw s.toNatClampNeg, (31 : Int32) * ((31 : Int32) * ((31 : Int32) * ((31 : Int32) * tr + 3) + 2) + 1) + 1)
    else (pw s.toNatClampNeg, (31 : Int32) * tr + 1)) else (-1, tr)
def kF_load (ns : Nat) (kd : kA) (tr s : Int32) : Int32 × Int32 :=
  if 0 ≤ s ∧ s < nI ns then (if kd s.toNatClampNeg = 2 then (80, (31 : Int32) * tr + 5) else (s, (31 : Int32) * tr + 4)) else (-1, tr)
def kF_as (ns : Nat) (kd : kA) (s k : Int32) : Int32 × Int32 :=
  if 0 ≤ s ∧ s < nI ns then (if 0 ≤ k ∧ k ≤ 2 then (if k ≤ kd s.toNatClampNeg then (1, 0) else (-12, 2)) else (-2, 0)) else (-1, 0)
def kF_many (N nc ns : Nat) (wind low forb a : Int32) : Int32 :=
  if a = 0 then nI N else if a = 1 then nI nc else if a = 2 then nI ns else if a = 3 then (if N = 0 then 0 else wind + 10) else if a = 4 then (if N = 0 then 0 else low) else if a = 5 then (if N = 0 then 0 else forb) else -2
