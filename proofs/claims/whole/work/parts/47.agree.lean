/-! part 47: two tables of shots that are alike where there are shots; what stays true from call to call -/
abbrev kAgr (ns : Nat) (kd fr hor pw kd' fr' hor' pw' : kA) : Prop := ∀ s, s < ns → kd' s = kd s ∧ fr' s = fr s ∧ hor' s = hor s ∧ pw' s = pw s
theorem kAg_day {N nc ns : Nat} {low : Int32} {cat cwet chi kd fr hor pw kd' fr' hor' pw' : kA} (h : kAgr ns kd fr hor pw kd' fr' hor' pw') {q : Nat → Bool} (hq : ∀ s, s < 10 → q s = true → s < ns) (wd : Int32) (H : Nat) : kDay (N, nc, low, cat, cwet, chi, kd', fr', hor', pw') wd q H = kDay (N, nc, low, cat, cwet, chi, kd, fr, hor, pw) wd q H :=
  kDay_same (g := (N, nc, low, cat, cwet, chi, kd', fr', hor', pw')) (g' := (N, nc, low, cat, cwet, chi, kd, fr, hor, pw)) ⟨rfl, rfl, rfl, rfl, rfl, rfl, fun s h10 hs => h s (hq s h10 hs)⟩ wd H
theorem kAg_all {N nc ns : Nat} {low : Int32} {cat cwet chi kd fr hor pw kd' fr' hor' pw' : kA} (h : kAgr ns kd fr hor pw kd' fr' hor' pw') (wd : Int32) (H : Nat) : kDay (N, nc, low, cat, cwet, chi, kd', fr', hor', pw') wd (kAll ns) H = kDay (N, nc, low, cat, cwet, chi, kd, fr, hor, pw) wd (kAll ns) H := kAg_day h (fun _ _ hs => of_decide_eq_true hs) wd H
theorem kAg_but {N nc ns : Nat} {low : Int32} {cat cwet chi kd fr hor pw kd' fr' hor' pw' : kA} (h : kAgr ns kd fr hor pw kd' fr' hor' pw') (x : Nat) (wd : Int32) (H : Nat) : kDay (N, nc, low, cat, cwet, chi, kd', fr', hor', pw') wd (kBut ns x) H = kDay (N, nc, low, cat, cwet, chi, kd, fr, hor, pw) wd (kBut ns x) H := kAg_day h (fun s _ hs => by unfold kBut at hs; rw [Bool.and_eq_true] at hs; exact of_decide_eq_true hs.1) wd H
theorem kAg_set {N nc ns : Nat} {low : Int32} {cat cwet chi kd fr hor pw kd' fr' hor' pw' : kA} (h : kAgr ns kd fr hor pw kd' fr' hor' pw') (m9 : Int32) (wd : Int32) (H : Nat) : kDay (N, nc, low, cat, cwet, chi, kd', fr', hor', pw') wd (fun s => decide (s < ns) && kBit m9 s) H = kDay (N, nc, low, cat, cwet, chi, kd, fr, hor, pw) wd (fun s => decide (s < ns) && kBit m9 s) H := kAg_day h (fun s _ hs => by rw [Bool.and_eq_true] at hs; exact of_decide_eq_true hs.1) wd H
theorem kAg_up1 {a a' : kA} {ns s : Nat} {x : Int32} (h : s < ns + 1) (e : s < ns → a' s = a s) : upd a' ns x s = upd a ns x s := by
  by_cases q : s = ns
  · rw [q, pk_us, pk_us]
  · rw [pk_un q, pk_un q]; exact e (by omega)
theorem kAg_up {N nc ns : Nat} {low : Int32} {cat cwet chi kd fr hor pw kd' fr' hor' pw' : kA} (h : kAgr ns kd fr hor pw kd' fr' hor' pw') (a b c d wd : Int32) (H : Nat) : kDay (gUp (N, nc, low, cat, cwet, chi, kd', fr', hor', pw') ns a b c d) wd (kAll (ns + 1)) H = kDay (gUp (N, nc, low, cat, cwet, chi, kd, fr, hor, pw) ns a b c d) wd (kAll (ns + 1)) H := by
  refine kDay_same (g := gUp (N, nc, low, cat, cwet, chi, kd', fr', hor', pw') ns a b c d) (g' := gUp (N, nc, low, cat, cwet, chi, kd, fr, hor, pw) ns a b c d) ⟨rfl, rfl, rfl, rfl, rfl, rfl, fun s _ hs => ?_⟩ wd H
  have h1 : s < ns + 1 := of_decide_eq_true hs
  exact ⟨kAg_up1 h1 (fun q => (h s q).1), kAg_up1 h1 (fun q => (h s q).2.1), kAg_up1 h1 (fun q => (h s q).2.2.1), kAg_up1 h1 (fun q => (h s q).2.2.2)⟩
theorem kBits_congr {P Q : Nat → Bool} : ∀ {n : Nat}, (∀ s, s < n → P s = Q s) → kBits P n = kBits Q n
  | 0, _ => rfl
  | n + 1, h => by rw [kBits, kBits, kBits_congr (fun s hs => h s (by omega)), h n (Nat.lt_succ_self n)]
theorem kAg_ofCloud {N nc ns : Nat} {low : Int32} {cat cwet chi kd fr hor pw kd' fr' hor' pw' : kA} (h : kAgr ns kd fr hor pw kd' fr' hor' pw') (wind : Int32) (x : Int32) (y : Int32) (z : Int32) : kF_ofCloud (N, nc, low, cat, cwet, chi, kd', fr', hor', pw') wind ns x y z = kF_ofCloud (N, nc, low, cat, cwet, chi, kd, fr, hor, pw) wind ns x y z := by
  simp only [kF_ofCloud, gN, gnc, glow, gcat, gcwet, gchi, gkd, gfr, ghor, gpw, kAg_all h]
theorem kAg_fell {N nc ns : Nat} {low : Int32} {cat cwet chi kd fr hor pw kd' fr' hor' pw' : kA} (h : kAgr ns kd fr hor pw kd' fr' hor' pw') (wind : Int32) (x : Int32) (y : Int32) (z : Int32) : kF_fell (N, nc, low, cat, cwet, chi, kd', fr', hor', pw') wind ns x y z = kF_fell (N, nc, low, cat, cwet, chi, kd, fr, hor, pw) wind ns x y z := by
  simp only [kF_fell, gN, gnc, glow, gcat, gcwet, gchi, gkd, gfr, ghor, gpw, kAg_all h]
theorem kAg_by {N nc ns : Nat} {low : Int32} {cat cwet chi kd fr hor pw kd' fr' hor' pw' : kA} (h : kAgr ns kd fr hor pw kd' fr' hor' pw') (wind : Int32) (x : Int32) (y : Int32) : kF_by (N, nc, low, cat, cwet, chi, kd', fr', hor', pw') wind ns x y = kF_by (N, nc, low, cat, cwet, chi, kd, fr, hor, pw) wind ns x y := by
  simp only [kF_by, gN, gnc, glow, gcat, gcwet, gchi, gkd, gfr, ghor, gpw, kAg_all h]
theorem kAg_yields {N nc ns : Nat} {low : Int32} {cat cwet chi kd fr hor pw kd' fr' hor' pw' : kA} (h : kAgr ns kd fr hor pw kd' fr' hor' pw') (wind : Int32) (need : kA) (worth : kA) (x : Int32) : kF_yields (N, nc, low, cat, cwet, chi, kd', fr', hor', pw') wind need worth ns x = kF_yields (N, nc, low, cat, cwet, chi, kd, fr, hor, pw) wind need worth ns x := by
  simp only [kF_yields, gN, gnc, glow, gcat, gcwet, gchi, gkd, gfr, ghor, gpw, kAg_all h]
theorem kAg_harvest {N nc ns : Nat} {low : Int32} {cat cwet chi kd fr hor pw kd' fr' hor' pw' : kA} (h : kAgr ns kd fr hor pw kd' fr' hor' pw') (wind : Int32) (club : kA) (need : kA) (worth : kA) (x : Int32) : kF_harvest (N, nc, low, cat, cwet, chi, kd', fr', hor', pw') wind club need worth ns x = kF_harvest (N, nc, low, cat, cwet, chi, kd, fr, hor, pw) wind club need worth ns x := by
  simp only [kF_harvest, gN, gnc, glow, gcat, gcwet, gchi, gkd, gfr, ghor, gpw, kAg_all h]
theorem kAg_gain {N nc ns : Nat} {low : Int32} {cat cwet chi kd fr hor pw kd' fr' hor' pw' : kA} (h : kAgr ns kd fr hor pw kd' fr' hor' pw') (wind : Int32) (club : kA) (need : kA) (worth : kA) (s : Nat) (x : Int32) : kGain (N, nc, low, cat, cwet, chi, kd', fr', hor', pw') wind club need worth ns s x = kGain (N, nc, low, cat, cwet, chi, kd, fr, hor, pw) wind club need worth ns s x := by
  simp only [kGain, gN, gnc, glow, gcat, gcwet, gchi, gkd, gfr, ghor, gpw, kAg_all h, kAg_but h]
theorem kAg_brought {N nc ns : Nat} {low : Int32} {cat cwet chi kd fr hor pw kd' fr' hor' pw' : kA} (h : kAgr ns kd fr hor pw kd' fr' hor' pw') (wind : Int32) (club : kA) (need : kA) (worth : kA) (x : Int32) (y : Int32) : kF_brought (N, nc, low, cat, cwet, chi, kd', fr', hor', pw') wind club need worth ns x y = kF_brought (N, nc, low, cat, cwet, chi, kd, fr, hor, pw) wind club need worth ns x y := by
  simp only [kF_brought, kAg_gain h]
theorem kAg_due {N nc ns : Nat} {low : Int32} {cat cwet chi kd fr hor pw kd' fr' hor' pw' : kA} (h : kAgr ns kd fr hor pw kd' fr' hor' pw') (wind : Int32) (club : kA) (need : kA) (worth : kA) (x : Int32) (y : Int32) : kF_due (N, nc, low, cat, cwet, chi, kd', fr', hor', pw') wind club need worth ns x y = kF_due (N, nc, low, cat, cwet, chi, kd, fr, hor, pw) wind club need worth ns x y := by
  simp only [kF_due, kAg_gain h]
def kIdF (N : Nat) (d : kDS) (f : Nat → kDS) : Nat → Bool := fun s => decide (∀ f9, f9 < N → (f s).2.1 f9 = d.2.1 f9 ∧ (f s).2.2.1 f9 = d.2.2.1 f9)
theorem kAg_idP {N nc ns : Nat} {low : Int32} {cat cwet chi kd fr hor pw kd' fr' hor' pw' : kA} (h : kAgr ns kd fr hor pw kd' fr' hor' pw') (wind : Int32) : kIdleP (N, nc, low, cat, cwet, chi, kd', fr', hor', pw') wind ns = kIdleP (N, nc, low, cat, cwet, chi, kd, fr, hor, pw) wind ns := by
  have e3 : (fun s => kDay (N, nc, low, cat, cwet, chi, kd', fr', hor', pw') wind (kBut ns s) 12) = (fun s => kDay (N, nc, low, cat, cwet, chi, kd, fr, hor, pw) wind (kBut ns s) 12) := funext fun s => kAg_but h s wind 12
  show kIdF N (kDay (N, nc, low, cat, cwet, chi, kd', fr', hor', pw') wind (kAll ns) 12) (fun s => kDay (N, nc, low, cat, cwet, chi, kd', fr', hor', pw') wind (kBut ns s) 12) = kIdF N (kDay (N, nc, low, cat, cwet, chi, kd, fr, hor, pw) wind (kAll ns) 12) (fun s => kDay (N, nc, low, cat, cwet, chi, kd, fr, hor, pw) wind (kBut ns s) 12)
  rw [e3, kAg_all h]
theorem kAg_idle {N nc ns : Nat} {low : Int32} {cat cwet chi kd fr hor pw kd' fr' hor' pw' : kA} (h : kAgr ns kd fr hor pw kd' fr' hor' pw') (wind forb x : Int32) : kF_idle (N, nc, low, cat, cwet, chi, kd', fr', hor', pw') wind forb ns x = kF_idle (N, nc, low, cat, cwet, chi, kd, fr, hor, pw) wind forb ns x := by
  have e : kBits (kBrP forb hor') ns = kBits (kBrP forb hor) ns := kBits_congr (fun s hs => by unfold kBrP; rw [(h s hs).2.2.1])
  simp only [kF_idle, gN, gnc, glow, gcat, gcwet, gchi, gkd, gfr, ghor, gpw, kAg_idP h, e]
theorem kAg_moreY {N nc ns : Nat} {low : Int32} {cat cwet chi kd fr hor pw kd' fr' hor' pw' : kA} (h : kAgr ns kd fr hor pw kd' fr' hor' pw') (wind : Int32) (club need worth : kA) (oc p : Int32) : kMoreY (N, nc, low, cat, cwet, chi, kd', fr', hor', pw') wind club need worth ns oc p = kMoreY (N, nc, low, cat, cwet, chi, kd, fr, hor, pw) wind club need worth ns oc p := funext fun k => congrArg (kYd club need worth oc N) (kAg_up h 0 (nI (k / 12)) (nI (k % 12)) p wind 12)
theorem kAg_more {N nc ns : Nat} {low : Int32} {cat cwet chi kd fr hor pw kd' fr' hor' pw' : kA} (h : kAgr ns kd fr hor pw kd' fr' hor' pw') (wind forb : Int32) (club need worth : kA) (x y z : Int32) : kF_more (N, nc, low, cat, cwet, chi, kd', fr', hor', pw') wind forb club need worth ns x y z = kF_more (N, nc, low, cat, cwet, chi, kd, fr, hor, pw) wind forb club need worth ns x y z := by
  simp only [kF_more, kF_more1, kMore, gN, kAg_moreY h]
theorem kAg_windY {N nc ns : Nat} {low : Int32} {cat cwet chi kd fr hor pw kd' fr' hor' pw' : kA} (h : kAgr ns kd fr hor pw kd' fr' hor' pw') (club need worth : kA) : kWindY (N, nc, low, cat, cwet, chi, kd', fr', hor', pw') club need worth ns = kWindY (N, nc, low, cat, cwet, chi, kd, fr, hor, pw) club need worth ns := funext fun k => congrArg (kYd club need worth (-1) N) (kAg_all h (nI k - 3) 12)
theorem kAg_wind {N nc ns : Nat} {low : Int32} {cat cwet chi kd fr hor pw kd' fr' hor' pw' : kA} (h : kAgr ns kd fr hor pw kd' fr' hor' pw') (club need worth : kA) (x : Int32) : kF_wind (N, nc, low, cat, cwet, chi, kd', fr', hor', pw') club need worth ns x = kF_wind (N, nc, low, cat, cwet, chi, kd, fr, hor, pw) club need worth ns x := by
  simp only [kF_wind, gN, kAg_windY h]
theorem kAg_awY {N nc ns : Nat} {low : Int32} {cat cwet chi kd fr hor pw kd' fr' hor' pw' : kA} (h : kAgr ns kd fr hor pw kd' fr' hor' pw') (wind : Int32) (club need worth : kA) : kAwY (N, nc, low, cat, cwet, chi, kd', fr', hor', pw') wind club need worth ns = kAwY (N, nc, low, cat, cwet, chi, kd, fr, hor, pw) wind club need worth ns := funext fun m9 => congrArg (kYd club need worth (-1) N) (kAg_set h (nI m9) wind 12)
theorem kAg_awaited {N nc ns : Nat} {low : Int32} {cat cwet chi kd fr hor pw kd' fr' hor' pw' : kA} (h : kAgr ns kd fr hor pw kd' fr' hor' pw') (wind : Int32) (club need worth : kA) (x y : Int32) : kF_awaited (N, nc, low, cat, cwet, chi, kd', fr', hor', pw') wind club need worth ns x y = kF_awaited (N, nc, low, cat, cwet, chi, kd, fr, hor, pw) wind club need worth ns x y := by
  simp only [kF_awaited, kU, kAg_awY h]
theorem kAg_duY {N nc ns : Nat} {low : Int32} {cat cwet chi kd fr hor pw kd' fr' hor' pw' : kA} (h : kAgr ns kd fr hor pw kd' fr' hor' pw') (wind : Int32) (club need worth : kA) (P1 P2 : Nat → Bool) (w oc : Int32) : kDuY (N, nc, low, cat, cwet, chi, kd', fr', hor', pw') wind club need worth ns P1 P2 w oc = kDuY (N, nc, low, cat, cwet, chi, kd, fr, hor, pw) wind club need worth ns P1 P2 w oc := funext fun i => funext fun j => congrArg (kYd club need worth oc N) (kPair_agree h)
theorem kAg_rests {N nc ns : Nat} {low : Int32} {cat cwet chi kd fr hor pw kd' fr' hor' pw' : kA} (h : kAgr ns kd fr hor pw kd' fr' hor' pw') (wind forb : Int32) (club need worth : kA) (x y z u : Int32) : kF_rests (N, nc, low, cat, cwet, chi, kd', fr', hor', pw') wind forb club need worth ns x y z u = kF_rests (N, nc, low, cat, cwet, chi, kd, fr, hor, pw) wind forb club need worth ns x y z u := by
  simp only [kF_rests, kDuel, gN, kAg_duY h]
def kMsF (N ns : Nat) (d : kDS) (f : Nat → kDS) (t : kA) (i0 : Nat) : Int32 :=
  if (∀ f9, f9 < N → d.2.1 f9 = t (i0 + f9)) then kBits (fun s => decide (∀ f9, f9 < N → (f s).2.1 f9 = t (i0 + f9))) ns ||| 256 else kBits (fun s => decide (∀ f9, f9 < N → (f s).2.1 f9 = t (i0 + f9))) ns
theorem kAg_ms {N nc ns : Nat} {low : Int32} {cat cwet chi kd fr hor pw kd' fr' hor' pw' : kA} (h : kAgr ns kd fr hor pw kd' fr' hor' pw') (wind : Int32) (t : kA) (i0 : Nat) : kMs (N, nc, low, cat, cwet, chi, kd', fr', hor', pw') wind ns t i0 = kMs (N, nc, low, cat, cwet, chi, kd, fr, hor, pw) wind ns t i0 := by
  have e3 : (fun s => kDay (N, nc, low, cat, cwet, chi, kd', fr', hor', pw') wind (kBut ns s) 12) = (fun s => kDay (N, nc, low, cat, cwet, chi, kd, fr, hor, pw) wind (kBut ns s) 12) := funext fun s => kAg_but h s wind 12
  show kMsF N ns (kDay (N, nc, low, cat, cwet, chi, kd', fr', hor', pw') wind (kAll ns) 12) (fun s => kDay (N, nc, low, cat, cwet, chi, kd', fr', hor', pw') wind (kBut ns s) 12) t i0 = kMsF N ns (kDay (N, nc, low, cat, cwet, chi, kd, fr, hor, pw) wind (kAll ns) 12) (fun s => kDay (N, nc, low, cat, cwet, chi, kd, fr, hor, pw) wind (kBut ns s) 12) t i0
  rw [e3, kAg_all h]
theorem kAg_missed {N nc ns : Nat} {low : Int32} {cat cwet chi kd fr hor pw kd' fr' hor' pw' : kA} (h : kAgr ns kd fr hor pw kd' fr' hor' pw') (wind : Int32) (sh : Nat → kSh) (x y z : Int32) : kF_missed (N, nc, low, cat, cwet, chi, kd', fr', hor', pw') wind ns sh x y z = kF_missed (N, nc, low, cat, cwet, chi, kd, fr, hor, pw) wind ns sh x y z := by
  simp only [kF_missed, gN, kAg_ms h]
theorem kAg_ofShot {ns : Nat} {kd fr hor pw kd' fr' hor' pw' : kA} (h : kAgr ns kd fr hor pw kd' fr' hor' pw') (hns : ns ≤ 8) (x y : Int32) : kF_ofShot ns kd' fr' hor' pw' x y = kF_ofShot ns kd fr hor pw x y := by
  unfold kF_ofShot
  by_cases c : 0 ≤ x ∧ x < nI ns
  · obtain ⟨e1, e2, e3, e4⟩ := h _ (kFld hns c)
    rw [if_pos c, if_pos c]
    unfold kRch
    rw [e1, e2, e3, e4]
  · rw [if_neg c, if_neg c]
theorem kAg_tell {ns : Nat} {kd fr hor pw kd' fr' hor' pw' : kA} (h : kAgr ns kd fr hor pw kd' fr' hor' pw') (hns : ns ≤ 8) (tr x : Int32) : kF_tell ns kd' pw' tr x = kF_tell ns kd pw tr x := by
  unfold kF_tell
  by_cases c : 0 ≤ x ∧ x < nI ns
  · obtain ⟨e1, e2, e3, e4⟩ := h _ (kFld hns c)
    rw [if_pos c, if_pos c, e1, e4]
  · rw [if_neg c, if_neg c]
theorem kAg_load {ns : Nat} {kd fr hor pw kd' fr' hor' pw' : kA} (h : kAgr ns kd fr hor pw kd' fr' hor' pw') (hns : ns ≤ 8) (tr x : Int32) : kF_load ns kd' tr x = kF_load ns kd tr x := by
  unfold kF_load
  by_cases c : 0 ≤ x ∧ x < nI ns
  · obtain ⟨e1, e2, e3, e4⟩ := h _ (kFld hns c)
    rw [if_pos c, if_pos c, e1]
  · rw [if_neg c, if_neg c]
theorem kAg_as {ns : Nat} {kd fr hor pw kd' fr' hor' pw' : kA} (h : kAgr ns kd fr hor pw kd' fr' hor' pw') (hns : ns ≤ 8) (x y : Int32) : kF_as ns kd' x y = kF_as ns kd x y := by
  unfold kF_as
  by_cases c : 0 ≤ x ∧ x < nI ns
  · obtain ⟨e1, e2, e3, e4⟩ := h _ (kFld hns c)
    rw [if_pos c, if_pos c, e1]
  · rw [if_neg c, if_neg c]
theorem kAgr_t {ns : Nat} {a1 a2 a3 a4 b1 b2 b3 b4 c1 c2 c3 c4 : kA} (h : kAgr ns a1 a2 a3 a4 b1 b2 b3 b4) (h2 : kAgr ns b1 b2 b3 b4 c1 c2 c3 c4) : kAgr ns a1 a2 a3 a4 c1 c2 c3 c4 := fun s hs => ⟨(h2 s hs).1.trans (h s hs).1, (h2 s hs).2.1.trans (h s hs).2.1, (h2 s hs).2.2.1.trans (h s hs).2.2.1, (h2 s hs).2.2.2.trans (h s hs).2.2.2⟩
theorem kAgr_s {ns : Nat} {a1 a2 a3 a4 b1 b2 b3 b4 : kA} (h : kAgr ns a1 a2 a3 a4 b1 b2 b3 b4) : kAgr ns b1 b2 b3 b4 a1 a2 a3 a4 := fun s hs => ⟨(h s hs).1.symm, (h s hs).2.1.symm, (h s hs).2.2.1.symm, (h s hs).2.2.2.symm⟩
theorem kAgr_wf {N ns : Nat} {a1 a2 a3 a4 b1 b2 b3 b4 : kA} (h : kAgr ns a1 a2 a3 a4 b1 b2 b3 b4) (hwf : ∀ s, s < ns → 0 ≤ a2 s ∧ a2 s < nI N) : ∀ s, s < ns → 0 ≤ b2 s ∧ b2 s < nI N := fun s hs => by
  rw [(h s hs).2.1]; exact hwf s hs
theorem kAgr_wb {N nc ns : Nat} {need worth cwet a1 a2 a3 a4 b1 b2 b3 b4 : kA} (h : kAgr ns a1 a2 a3 a4 b1 b2 b3 b4) (hwb : kWB N nc ns need worth cwet a4) : kWB N nc ns need worth cwet b4 := ⟨hwb.1, hwb.2.1, fun s hs => by
  rw [(h s hs).2.2.2]; exact hwb.2.2 s hs⟩
theorem kAgr_m {ns ns2 : Nat} {a1 a2 a3 a4 b1 b2 b3 b4 : kA} (h : kAgr ns a1 a2 a3 a4 b1 b2 b3 b4) (hn : ns2 ≤ ns) : kAgr ns2 a1 a2 a3 a4 b1 b2 b3 b4 := fun s hs => h s (by omega)
/-- the reference's other words for DUE and BEST WIND -/
theorem kneg {a b : Nat} (ha : a ≤ 648) (hb : b ≤ 648) : (if 0 ≤ nI a - nI b then (0 : Int32) else -(nI a - nI b)) = if (0 : Int32) < -(nI a - nI b) then -(nI a - nI b) else 0 := by
  rcases Nat.lt_or_ge a b with q | q
  · have e : -(nI a - nI b) = nI (b - a) := by
      rw [Int32.neg_sub]
      exact pk_sub (by omega)
    rw [if_neg (Int32.not_le.mpr (pk_sneg (by omega) q)), e, if_pos (show (0 : Int32) < nI (b - a) from nI_lt (a := 0) (by omega) (by omega))]
  · have e : nI a - nI b = nI (a - b) := pk_sub q
    rw [e, if_pos (nI_pos' (by omega)), if_neg]
    intro h
    by_cases z : a - b = 0
    · rw [z] at h; exact absurd h (by decide)
    · have h0 : (0 : Int32) < nI (a - b) := nI_lt (a := 0) (by omega) (by omega)
      have h1 : -(nI (a - b)) < 0 := by
        have e3 : -(nI (a - b)) = nI 0 - nI (a - b) := (Int32.zero_sub _).symm
        rw [e3]
        exact pk_sneg (by omega) (by omega)
      exact absurd (Int32.lt_trans h h1) (Int32.lt_irrefl)
theorem kBut_lt {n x s : Nat} (h : kBut n x s = true) : s < n := by
  unfold kBut at h
  rw [Bool.and_eq_true] at h
  exact of_decide_eq_true h.1
theorem kG_due_eq {g : kG} {wind : Int32} {club need worth : kA} {ns : Nat} (hN : gN g ≤ 8) (hnc : gnc g ≤ 6) (hb : kWB (gN g) (gnc g) ns need worth (gcwet g) (gpw g)) (x y : Int32) : kG_due g wind club need worth ns x y = kF_due g wind club need worth ns x y := by
  have e : ∀ s c, (if 0 ≤ kGain g wind club need worth ns s c then (0 : Int32) else -(kGain g wind club need worth ns s c)) = if (0 : Int32) < -(kGain g wind club need worth ns s c) then -(kGain g wind club need worth ns s c) else 0 := fun s c => by
    obtain ⟨a, ha, ea⟩ := kYd_N (wd := wind) (oc := c) (q := kAll ns) (h := 12) (club := club) hN hnc hb (fun s _ hs => of_decide_eq_true hs) (Nat.le_refl _)
    obtain ⟨b, hb2, eb⟩ := kYd_N (wd := wind) (oc := c) (q := kBut ns s) (h := 12) (club := club) hN hnc hb (fun s _ hs => kBut_lt hs) (Nat.le_refl _)
    unfold kGain
    rw [ea, eb]
    exact kneg ha hb2
  unfold kG_due kF_due
  rw [e]
theorem kWindM_eq {y : Nat → Int32} (h : -1 < y 0) : ∀ k, 0 < k → kWindM y k = kWind y k
  | 0, hk => absurd hk (Nat.lt_irrefl 0)
  | 1, _ => by
    show (if (-1 : Int32) < y 0 then (nI 0 - 3, y 0) else (0, -1)) = (if (-1 : Int32) < y 0 then (nI 0 - 3, y 0) else (-3, -1))
    rw [if_pos h, if_pos h]
  | k + 2, _ => by
    have e := kWindM_eq h (k + 1) (Nat.succ_pos k)
    rw [kWindM, kWind, e]
theorem kG_wind_eq {g : kG} {club need worth : kA} {ns : Nat} (hN : gN g ≤ 8) (hnc : gnc g ≤ 6) (hb : kWB (gN g) (gnc g) ns need worth (gcwet g) (gpw g)) (x : Int32) : kG_wind g club need worth ns x = kF_wind g club need worth ns x := by
  have h : -1 < kWindY g club need worth ns 0 := by
    obtain ⟨a, ha, ea⟩ := kYd_N (wd := nI 0 - 3) (oc := -1) (q := kAll ns) (h := 12) (club := club) hN hnc hb (fun s _ hs => of_decide_eq_true hs) (Nat.le_refl _)
    have e : kWindY g club need worth ns 0 = nI a := ea
    rw [e]
    exact Int32.lt_of_lt_of_le (by decide) (nI_pos' (n := a) (by omega))
  unfold kG_wind kF_wind
  rw [kWindM_eq h 7 (by decide)]
/-- what calls keep -/
theorem kcl4 {x : Int32} (h : 0 ≤ x ∧ x ≤ 3) : x.toNatClampNeg < 4 := by
  obtain ⟨j, hj, rfl⟩ := kixle (n := 3) h (by decide)
  rw [nI_clamp (by omega)]; omega
theorem kShOk_up {sh : Nat → kSh} (hsh : kShOk sh) {k : Nat} {s : kSh} (hs : s.2.1 = -1 ∨ ((0 ≤ s.2.1 ∧ s.2.1 ≤ 40) ∧ 0 ≤ s.1 ∧ s.1 ≤ 2)) : kShOk (va_up sh k s) := fun j hj => by
  by_cases e : j = k
  · subst e; rw [va_up_self]; exact hs
  · rw [va_up_ne _ _ e]; exact hsh j hj
theorem kSheet_ok {sh sh2 : Nat → kSh} {r f x y z : Int32} (hsh : kShOk sh) (e : (r, f, sh2) = kF_sheet sh x y z) : kShOk sh2 := by
  unfold kF_sheet at e
  by_cases c1 : 0 ≤ x ∧ x ≤ 3
  · by_cases c2 : 0 ≤ y ∧ y ≤ 2
    · by_cases c3 : z ≤ 40
      · by_cases c4 : 0 ≤ z
        · rw [if_pos c1, if_pos c2, if_pos c3, if_pos c4] at e; cases e; exact kShOk_up hsh (Or.inr ⟨⟨c4, c3⟩, c2⟩)
        · rw [if_pos c1, if_pos c2, if_pos c3, if_neg c4] at e; cases e; exact hsh
      · rw [if_pos c1, if_pos c2, if_neg c3] at e; cases e; exact hsh
    · rw [if_pos c1, if_neg c2] at e; cases e; exact hsh
  · rw [if_neg c1] at e; cases e; exact hsh
theorem kLose_ok {sh sh2 : Nat → kSh} {r x : Int32} (hsh : kShOk sh) (e : (r, sh2) = kF_lose sh x) : kShOk sh2 := by
  unfold kF_lose at e
  by_cases c1 : 0 ≤ x ∧ x ≤ 3
  · rw [if_pos c1] at e; cases e; exact kShOk_up hsh (Or.inl rfl)
  · rw [if_neg c1] at e; cases e; exact hsh
theorem kPut_ok {sh sh2 : Nat → kSh} {r f x y z : Int32} (hsh : kShOk sh) (e : (r, f, sh2) = kF_put sh x y z) : kShOk sh2 := by
  unfold kF_put at e
  by_cases c1 : 0 ≤ x ∧ x ≤ 3
  · by_cases c2 : (sh x.toNatClampNeg).2.1 = -1
    · rw [if_pos c1, if_pos c2] at e; cases e; exact hsh
    · by_cases c3 : 0 ≤ y ∧ y < (sh x.toNatClampNeg).2.1
      · rw [if_pos c1, if_neg c2, if_pos c3] at e; cases e; exact kShOk_up hsh (hsh _ (kcl4 c1))
      · rw [if_pos c1, if_neg c2, if_neg c3] at e; cases e; exact hsh
  · rw [if_neg c1] at e; cases e; exact hsh
theorem kCopy_ok {sh sh2 : Nat → kSh} {r f x y z u t : Int32} (hsh : kShOk sh) (e : (r, f, sh2) = kF_copy sh x y z u t) : kShOk sh2 := by
  unfold kF_copy at e
  by_cases c1 : 0 ≤ x ∧ x ≤ 3
  · by_cases c2 : 0 ≤ z ∧ z ≤ 3
    · by_cases c3 : (sh x.toNatClampNeg).2.1 = -1
      · rw [if_pos c1, if_pos c2, if_pos c3] at e; cases e; exact hsh
      · by_cases c4 : (sh z.toNatClampNeg).2.1 = -1
        · rw [if_pos c1, if_pos c2, if_neg c3, if_pos c4] at e; cases e; exact hsh
        · by_cases c5 : (sh x.toNatClampNeg).1 = (sh z.toNatClampNeg).1
          · by_cases c6 : 0 ≤ y ∧ (0 : Int32) ≤ t ∧ y ≤ (sh x.toNatClampNeg).2.1 ∧ t ≤ (sh x.toNatClampNeg).2.1 - y
            · by_cases c7 : 0 ≤ u ∧ (0 : Int32) ≤ t ∧ u ≤ (sh z.toNatClampNeg).2.1 ∧ t ≤ (sh z.toNatClampNeg).2.1 - u
              · rw [if_pos c1, if_pos c2, if_neg c3, if_neg c4, if_pos c5, if_pos c6, if_pos c7] at e; cases e; exact kShOk_up hsh (hsh _ (kcl4 c2))
              · rw [if_pos c1, if_pos c2, if_neg c3, if_neg c4, if_pos c5, if_pos c6, if_neg c7] at e; cases e; exact hsh
            · rw [if_pos c1, if_pos c2, if_neg c3, if_neg c4, if_pos c5, if_neg c6] at e; cases e; exact hsh
          · rw [if_pos c1, if_pos c2, if_neg c3, if_neg c4, if_neg c5] at e; cases e; exact hsh
    · rw [if_pos c1, if_neg c2] at e; cases e; exact hsh
  · rw [if_neg c1] at e; cases e; exact hsh
theorem kBack_le {ns ns2 : Nat} {r x : Int32} (e : (r, ns2) = kF_back ns x) : ns2 ≤ ns := by
  unfold kF_back at e
  split at e
  · cases e; exact Nat.sub_le _ _
  · cases e; exact Nat.le_refl _
theorem kSet_z {N : Nat} {wind low forb a v r w2 l2 f2 : Int32} (e : (r, w2, l2, f2) = kF_set N wind low forb a v) (hz : N = 0 → low = 0 ∧ forb = 0) : N = 0 → l2 = 0 ∧ f2 = 0 := by
  intro h0
  unfold kF_set at e
  by_cases c : kMay a v
  · rw [if_pos c, if_pos h0] at e; cases e; exact hz h0
  · rw [if_neg c] at e; cases e; exact hz h0
theorem kCloud_ok {N nc nc2 ns : Nat} {need worth cat cwet chi cat2 cwet2 chi2 pw : kA} {r x y z : Int32} (e : (r, nc2, cat2, cwet2, chi2) = kF_cloud N nc cat cwet chi x y z) (hnc : nc ≤ 6) (hwb : kWB N nc ns need worth cwet pw) : nc2 ≤ 6 ∧ kWB N nc2 ns need worth cwet2 pw := by
  unfold kF_cloud at e
  by_cases c1 : -20 ≤ x ∧ x ≤ 20
  · by_cases c2 : 1 ≤ y ∧ y ≤ 30
    · by_cases c3 : 1 ≤ z ∧ z ≤ 9
      · by_cases c4 : N = 0
        · rw [if_pos c1, if_pos c2, if_pos c3, if_pos c4] at e; cases e; exact ⟨hnc, hwb⟩
        · by_cases c5 : nc < 6
          · rw [if_pos c1, if_pos c2, if_pos c3, if_neg c4, if_pos c5] at e; cases e
            refine ⟨c5, hwb.1, fun c hc => ?_, hwb.2.2⟩
            by_cases q : c = nc
            · rw [q, pk_us]; exact kN_of (B := 30) ⟨Int32.le_trans (by decide) c2.1, c2.2⟩ (by decide)
            · rw [pk_un q]; exact hwb.2.1 c (by omega)
          · rw [if_pos c1, if_pos c2, if_pos c3, if_neg c4, if_neg c5] at e; cases e; exact ⟨hnc, hwb⟩
      · rw [if_pos c1, if_pos c2, if_neg c3] at e; cases e; exact ⟨hnc, hwb⟩
    · rw [if_pos c1, if_neg c2] at e; cases e; exact ⟨hnc, hwb⟩
  · rw [if_neg c1] at e; cases e; exact ⟨hnc, hwb⟩
theorem kShot_c (N ns : Nat) (a b c d : Int32) : (∃ r0 : Int32, ∀ kd fr hor pw : kA, kF_shot N ns kd fr hor pw a b c d = (r0, ns, kd, fr, hor, pw)) ∨ ((0 ≤ b ∧ b < nI N) ∧ (1 ≤ d ∧ d ≤ 9) ∧ ns < 8 ∧ ∀ kd fr hor pw : kA, kF_shot N ns kd fr hor pw a b c d = (nI ns, ns + 1, upd kd ns a, upd fr ns b, upd hor ns c, upd pw ns d)) := by
  unfold kF_shot
  by_cases c1 : 0 ≤ b ∧ b < nI N
  · by_cases c2 : 0 ≤ a ∧ a ≤ 2
    · by_cases c3 : 0 ≤ c ∧ c ≤ 11
      · by_cases c4 : 1 ≤ d ∧ d ≤ 9
        · by_cases c5 : ns < 8
          · exact Or.inr ⟨c1, c4, c5, fun _ _ _ _ => by rw [if_pos c1, if_pos c2, if_pos c3, if_pos c4, if_pos c5]⟩
          · exact Or.inl ⟨-4, fun _ _ _ _ => by rw [if_pos c1, if_pos c2, if_pos c3, if_pos c4, if_neg c5]⟩
        · exact Or.inl ⟨-2, fun _ _ _ _ => by rw [if_pos c1, if_pos c2, if_pos c3, if_neg c4]⟩
      · exact Or.inl ⟨-2, fun _ _ _ _ => by rw [if_pos c1, if_pos c2, if_neg c3]⟩
    · exact Or.inl ⟨-2, fun _ _ _ _ => by rw [if_pos c1, if_neg c2]⟩
  · exact Or.inl ⟨-1, fun _ _ _ _ => by rw [if_neg c1]⟩
theorem kShot_ok {N nc ns n2 n3 : Nat} {a b c d r1 r2 : Int32} {need worth cwet kd fr hor pw kd' fr' hor' pw' kd2 fr2 hor2 pw2 kd3 fr3 hor3 pw3 : kA} (e : (r1, n2, kd2, fr2, hor2, pw2) = kF_shot N ns kd fr hor pw a b c d) (e' : (r2, n3, kd3, fr3, hor3, pw3) = kF_shot N ns kd' fr' hor' pw' a b c d) (hns : ns ≤ 8) (hwf : ∀ s, s < ns → 0 ≤ fr s ∧ fr s < nI N) (hwb : kWB N nc ns need worth cwet pw) (h : kAgr ns kd fr hor pw kd' fr' hor' pw') :
    r1 = r2 ∧ n2 = n3 ∧ n2 ≤ 8 ∧ (∀ s, s < n2 → 0 ≤ fr2 s ∧ fr2 s < nI N) ∧ kWB N nc n2 need worth cwet pw2 ∧ kAgr n2 kd2 fr2 hor2 pw2 kd3 fr3 hor3 pw3 := by
  rcases kShot_c N ns a b c d with ⟨r0, q⟩ | ⟨hb, hd, h8, q⟩
  · rw [q] at e e'
    cases e; cases e'
    exact ⟨rfl, rfl, hns, hwf, hwb, h⟩
  · rw [q] at e e'
    cases e; cases e'
    refine ⟨rfl, rfl, h8, fun s hs => ?_, ⟨hwb.1, hwb.2.1, fun s hs => ?_⟩, fun s hs => ⟨kAg_up1 hs (fun q => (h s q).1), kAg_up1 hs (fun q => (h s q).2.1), kAg_up1 hs (fun q => (h s q).2.2.1), kAg_up1 hs (fun q => (h s q).2.2.2)⟩⟩
    · by_cases z : s = ns
      · rw [z, pk_us]; exact hb
      · rw [pk_un z]; exact hwf s (by omega)
    · by_cases z : s = ns
      · rw [z, pk_us]; exact kN_of (B := 9) ⟨Int32.le_trans (by decide) hd.1, hd.2⟩ (by decide)
      · rw [pk_un z]; exact hwb.2.2 s (by omega)
theorem kdig {x : Int32} (h1 : 48 ≤ x) (h2 : x ≤ 57) : kN 9 (x - 48) := by
  obtain ⟨a, ha, rfl⟩ := kixle (n := 57) ⟨Int32.le_trans (by decide) h1, h2⟩ (by decide)
  have h3 : 48 ≤ a := kn_le (a := 48) (by decide) (by omega) h1
  exact ⟨a - 48, by omega, pk_sub (b := 48) h3⟩
theorem kText {t : kA} {n : Nat} (hn : n ≤ 40) (h : kBad t n = -1) : n % 4 = 3 ∧ n ≤ 31 ∧ ∀ q, q < n → kGo q (t q) = true := by
  obtain ⟨_, h3, h31, _⟩ := kBad_neg hn (by rw [h]; decide)
  refine ⟨h3, h31, kFst_go ?_⟩
  have hl := kFst_le t n
  unfold kBad at h
  by_cases c : kFst t n < n
  · rw [if_pos c] at h
    exact absurd (show nI (kFst t n) < 0 by rw [h]; decide) (nI_pos (by omega))
  · omega
theorem kGo_dig {p : Nat} {x : Int32} (h : kGo p x = true) (h3 : p % 4 = 1 ∨ p % 4 = 2) : kN 9 (x - 48) := by
  unfold kGo at h
  rw [if_neg (by omega)] at h
  have h2 := of_decide_eq_true h
  rw [if_neg (by omega)] at h2
  exact kdig h2.1 h2.2
theorem kPlain_ok {sh : Nat → kSh} {N N2 nc nc2 ns ns2 : Nat} {wind low forb wind2 low2 forb2 r lf2 x y z u : Int32} {club need worth club2 need2 worth2 cwet kd fr hor pw kd' fr' hor' pw' : kA} (e : (r, lf2, N2, wind2, low2, forb2, club2, need2, worth2, nc2, ns2) = kF_plain sh N wind low forb club need worth nc ns x y z u) (hsh : kShOk sh) (hN : N ≤ 8) (hnc : nc ≤ 6) (hns : ns ≤ 8) (hwf : ∀ s, s < ns → 0 ≤ fr s ∧ fr s < nI N) (hwb : kWB N nc ns need worth cwet pw) (hz : N = 0 → low = 0 ∧ forb = 0) (h : kAgr ns kd fr hor pw kd' fr' hor' pw') :
    N2 ≤ 8 ∧ nc2 ≤ 6 ∧ ns2 ≤ 8 ∧ (∀ s, s < ns2 → 0 ≤ fr s ∧ fr s < nI N2) ∧ kWB N2 nc2 ns2 need2 worth2 cwet pw ∧ (N2 = 0 → low2 = 0 ∧ forb2 = 0) ∧ kAgr ns2 kd fr hor pw kd' fr' hor' pw' := by
  unfold kF_plain at e
  by_cases c1 : 0 ≤ x ∧ x ≤ 3
  · by_cases c2 : 0 ≤ y ∧ y ≤ 2
    · by_cases c3 : (sh x.toNatClampNeg).2.1 = -1
      · rw [if_pos c1, if_pos c2, if_pos c3] at e; cases e; exact ⟨hN, hnc, hns, hwf, hwb, hz, h⟩
      · by_cases c4 : (sh x.toNatClampNeg).1 = y
        · by_cases c5 : 0 ≤ u
          · by_cases c6 : 0 ≤ z ∧ (0 : Int32) ≤ u ∧ z ≤ (sh x.toNatClampNeg).2.1 ∧ u ≤ (sh x.toNatClampNeg).2.1 - z
            · by_cases c7 : kBad (fun p => (sh x.toNatClampNeg).2.2 (z.toNatClampNeg + p)) u.toNatClampNeg = -1
              · rw [if_pos c1, if_pos c2, if_neg c3, if_pos c4, if_pos c5, if_pos c6, if_pos c7] at e; cases e
                have h40 := (kHoldC (hsh _ (kcl4 c1)) c3 c6).2.2
                obtain ⟨t3, t31, tg⟩ := kText (by omega) c7
                refine ⟨by omega, by omega, by omega, fun s hs => absurd hs (Nat.not_lt_zero s), ⟨fun f hf => ⟨?_, ?_⟩, fun c hc => absurd hc (Nat.not_lt_zero c), fun s hs => absurd hs (Nat.not_lt_zero s)⟩, fun _ => ⟨rfl, rfl⟩, fun s hs => absurd hs (Nat.not_lt_zero s)⟩
                · rw [kFil_ext hf]
                  have := tg (f * 4 + 1) (by omega)
                  rw [← Nat.add_assoc] at this
                  exact kGo_dig this (by omega)
                · rw [kFil_ext hf]
                  have := tg (f * 4 + 2) (by omega)
                  rw [← Nat.add_assoc] at this
                  exact kGo_dig this (by omega)
              · rw [if_pos c1, if_pos c2, if_neg c3, if_pos c4, if_pos c5, if_pos c6, if_neg c7] at e; simp only [Prod.mk.injEq] at e; obtain ⟨-, -, rfl, rfl, rfl, rfl, rfl, rfl, rfl, rfl, rfl⟩ := e; exact ⟨hN, hnc, hns, hwf, hwb, hz, h⟩
            · rw [if_pos c1, if_pos c2, if_neg c3, if_pos c4, if_pos c5, if_neg c6] at e; cases e; exact ⟨hN, hnc, hns, hwf, hwb, hz, h⟩
          · rw [if_pos c1, if_pos c2, if_neg c3, if_pos c4, if_neg c5] at e; cases e; exact ⟨hN, hnc, hns, hwf, hwb, hz, h⟩
        · rw [if_pos c1, if_pos c2, if_neg c3, if_neg c4] at e; cases e; exact ⟨hN, hnc, hns, hwf, hwb, hz, h⟩
    · rw [if_pos c1, if_neg c2] at e; cases e; exact ⟨hN, hnc, hns, hwf, hwb, hz, h⟩
  · rw [if_neg c1] at e; cases e; exact ⟨hN, hnc, hns, hwf, hwb, hz, h⟩
