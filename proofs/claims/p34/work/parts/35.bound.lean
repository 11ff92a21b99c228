/-! part 35: how large the numbers of a day are -/
def kN (B : Nat) (x : Int32) : Prop := ∃ a : Nat, a ≤ B ∧ x = nI a
theorem kN_up {B C : Nat} {x : Int32} (h : kN B x) (hc : B ≤ C) : kN C x := by obtain ⟨a, h1, h2⟩ := h; exact ⟨a, by omega, h2⟩
theorem kN_add {B C : Nat} {x y : Int32} (h : kN B x) (h2 : kN C y) : kN (B + C) (x + y) := by
  obtain ⟨a, h1, rfl⟩ := h; obtain ⟨b, h3, rfl⟩ := h2
  exact ⟨a + b, by omega, nI_add a b⟩
theorem kN_of {x : Int32} {B : Nat} (h : 0 ≤ x ∧ x ≤ nI B) (hb : B < 2 ^ 30) : kN B x := by
  obtain ⟨a, h1, h2⟩ := kixle h hb
  exact ⟨a, h1, h2⟩
theorem kFall_N {pw lf : kA} {s c : Nat} (h1 : kN 9 (pw s)) (h2 : kN 30 (lf c)) : ∃ a : Nat, a ≤ 9 ∧ kFall pw lf s c = nI a ∧ ∃ b : Nat, b ≤ 30 ∧ lf c = nI b ∧ a ≤ b := by
  obtain ⟨a, ha, e1⟩ := h1
  obtain ⟨b, hb, e2⟩ := h2
  unfold kFall
  rw [e1, e2]
  by_cases h : a < b
  · rw [if_pos ((nI_ltI (by omega) (by omega)).mpr h)]
    exact ⟨a, ha, rfl, b, hb, rfl, by omega⟩
  · rw [if_neg (fun q => h ((nI_ltI (by omega) (by omega)).mp q))]
    exact ⟨b, by omega, rfl, b, hb, rfl, by omega⟩
def kBd (nc B : Nat) (d : kDS) : Prop := (∀ c, c < nc → kN 30 (d.1 c)) ∧ (∀ f, kN B (d.2.1 f)) ∧ ∀ f, kN B (d.2.2.1 f)
theorem kUpd_N {B : Nat} {f : kA} {k : Nat} {x : Int32} (hx : kN B x) (hf : ∀ j, kN B (f j)) (j : Nat) : kN B (upd f k x j) := by
  by_cases e : j = k
  · subst e; rw [pk_us]; exact hx
  · rw [pk_un e]; exact hf j
theorem kDrip_bd {N nc B : Nat} {low : Int32} {cat chi : kA} {wd : Int32} {h : Nat} {x : kA × kA} (h1 : ∀ c, c < nc → kN 30 (x.1 c)) (h2 : ∀ f, kN B (x.2 f)) : ∀ n, n ≤ nc → (∀ c, c < nc → kN 30 ((kDrip N low cat chi wd h n x).1 c)) ∧ ∀ f, kN (B + n) ((kDrip N low cat chi wd h n x).2 f)
  | 0, _ => ⟨h1, h2⟩
  | n + 1, hn => by
    obtain ⟨i1, i2⟩ := kDrip_bd (N := N) (low := low) (cat := cat) (chi := chi) (wd := wd) (h := h) h1 h2 n (by omega)
    unfold kDrip kDrip1
    split
    · rename_i hc
      refine ⟨fun c hcn => ?_, fun f => ?_⟩
      · show kN 30 (upd _ n _ c)
        by_cases e : c = n
        · subst e
          rw [pk_us]
          obtain ⟨a, ha, ea⟩ := i1 c hcn
          rw [ea]
          have h0 : 0 < a := by
            have := hc.2.2
            rw [ea] at this
            exact (nI_ltI (a := 0) (by decide) (by omega)).mp this
          exact ⟨a - 1, by omega, pk_sub (b := 1) (by omega)⟩
        · rw [pk_un e]; exact i1 c hcn
      · exact kUpd_N (kN_add (i2 _) ⟨1, Nat.le_refl 1, rfl⟩) (fun j => kN_up (i2 j) (by omega)) f
    · exact ⟨i1, fun f => kN_up (i2 f) (by omega)⟩
theorem kFire_bd {g : kG} {wd : Int32} {h s B : Nat} {d : kDS} (hp : kN 9 (gpw g s)) (hd : kBd (gnc g) B d) : kBd (gnc g) (B + 9) (kFire g wd h s d) := by
  obtain ⟨h1, h2, h3⟩ := hd
  unfold kFire
  split
  · exact ⟨h1, fun f => kN_up (h2 f) (by omega), fun f => kN_up (h3 f) (by omega)⟩
  · rename_i c hc
    have hcl := kTg_lt hc
    obtain ⟨a, ha, e1, b, hb, e2, hab⟩ := kFall_N hp (h1 c hcl)
    have hi : ∃ i : Nat, i ≤ a ∧ kIce (gkd g) s (kFall (gpw g) d.1 s c) = nI i := by
      unfold kIce
      rw [e1]
      by_cases q : gkd g s = 2
      · rw [if_pos q]; exact ⟨a / 3, Nat.div_le_self a 3, pk_div (d := 3) (by omega) (by decide) (by decide)⟩
      · rw [if_neg q]; exact ⟨0, Nat.zero_le _, rfl⟩
    obtain ⟨i, hia, e3⟩ := hi
    refine ⟨fun c' hc' => ?_, fun f => ?_, fun f => ?_⟩
    · show kN 30 (upd d.1 c _ c')
      by_cases q : c' = c
      · subst q
        rw [pk_us, e1, e2, pk_sub hab]
        exact ⟨b - a, by omega, rfl⟩
      · rw [pk_un q]; exact h1 c' hc'
    · show kN (B + 9) (upd d.2.1 _ _ f)
      refine kUpd_N (kN_add (h2 _) ?_) (fun j => kN_up (h2 j) (by omega)) f
      rw [e3, e1, pk_sub hia]
      exact ⟨a - i, by omega, rfl⟩
    · show kN (B + 9) (upd d.2.2.1 _ _ f)
      refine kUpd_N (kN_add (h3 _) ?_) (fun j => kN_up (h3 j) (by omega)) f
      rw [e3]
      exact ⟨i, by omega, rfl⟩
theorem kShots_bd {g : kG} {wd : Int32} {q : Nat → Bool} {h B : Nat} {d : kDS} (hp : ∀ s, s < 10 → q s = true → kN 9 (gpw g s)) (hd : kBd (gnc g) B d) : ∀ n, n ≤ 10 → kBd (gnc g) (B + 9 * n) (kShots g wd q h n d)
  | 0, _ => hd
  | n + 1, hn => by
    have ih := kShots_bd (wd := wd) (h := h) hp hd n (by omega)
    unfold kShots
    split
    · rename_i hc
      exact kFire_bd (hp n (by omega) hc.1) ih
    · exact ⟨ih.1, fun f => kN_up (ih.2.1 f) (by omega), fun f => kN_up (ih.2.2 f) (by omega)⟩
theorem kDay_bd {g : kG} {wd : Int32} {q : Nat → Bool} (hnc : gnc g ≤ 6) (hw : ∀ c, c < gnc g → kN 30 (gcwet g c)) (hp : ∀ s, s < 10 → q s = true → kN 9 (gpw g s)) : ∀ h, kBd (gnc g) (96 * h) (kDay g wd q h) := by
  intro h
  unfold kDay
  induction h with
  | zero =>
    rw [kDayZ_0]
    exact ⟨fun c hc => by show kN 30 (kFil (gcwet g) (fun _ => 0) (gnc g) c); rw [kFil_ext hc]; exact hw c hc, fun _ => ⟨0, Nat.le_refl 0, rfl⟩, fun _ => ⟨0, Nat.le_refl 0, rfl⟩⟩
  | succ h ih =>
    rw [kDayZ_s]
    generalize kDayZ g wd q (fun _ => 0) h = d at ih
    unfold kHour
    obtain ⟨i1, i2, i3⟩ := ih
    obtain ⟨j1, j2⟩ := kDrip_bd (N := gN g) (low := glow g) (cat := gcat g) (chi := gchi g) (wd := wd) (h := h) (x := (d.1, d.2.1)) i1 i2 (gnc g) (Nat.le_refl _)
    have := kShots_bd (wd := wd) (h := h) (B := 96 * h + 6) hp (d := ((kDrip (gN g) (glow g) (gcat g) (gchi g) wd h (gnc g) (d.1, d.2.1)).1, (kDrip (gN g) (glow g) (gcat g) (gchi g) wd h (gnc g) (d.1, d.2.1)).2, d.2.2)) ⟨j1, fun f => kN_up (j2 f) (by omega), fun f => kN_up (i3 f) (by omega)⟩ 10 (Nat.le_refl _)
    rw [show 96 * (h + 1) = 96 * h + 6 + 9 * 10 by omega]
    exact this
theorem kYf_N {need worth gt hl : kA} {f B : Nat} (hB : B ≤ 100000) (h1 : kN 9 (need f)) (h2 : kN 9 (worth f)) (h3 : kN B (gt f)) (h4 : kN B (hl f)) : kN 81 (kYf need worth gt hl f) := by
  obtain ⟨n, hn, e1⟩ := h1
  obtain ⟨w, hw, e2⟩ := h2
  obtain ⟨g, hg, e3⟩ := h3
  obtain ⟨l, hl2, e4⟩ := h4
  unfold kYf
  rw [e1, e2, e3, e4, show (if nI g < nI n then nI g else nI n) = nI (min g n) from by
    by_cases q : g < n
    · rw [if_pos ((nI_ltI (by omega) (by omega)).mpr q), Nat.min_eq_left (by omega)]
    · rw [if_neg (fun z => q ((nI_ltI (by omega) (by omega)).mp z)), Nat.min_eq_right (by omega)]]
  have hm : min g n ≤ 9 := by omega
  have hwm : w * min g n ≤ 81 := Nat.mul_le_mul hw hm
  rw [pk_mul, show (2 : Int32) * nI l = nI (2 * l) from pk_mul 2 l]
  by_cases q : w * min g n < 2 * l
  · rw [if_pos (pk_sneg (by omega) q)]
    exact ⟨0, by omega, rfl⟩
  · rw [pk_sub (by omega), if_neg (nI_pos (by omega))]
    exact ⟨w * min g n - 2 * l, by omega, rfl⟩
theorem kYs_N {club need worth gt hl : kA} {oc : Int32} {B N : Nat} (hB : B ≤ 100000) (h1 : ∀ f, f < N → kN 9 (need f)) (h2 : ∀ f, f < N → kN 9 (worth f)) (h3 : ∀ f, kN B (gt f)) (h4 : ∀ f, kN B (hl f)) : ∀ n, n ≤ N → kN (81 * n) (kYs club need worth gt hl oc n)
  | 0, _ => ⟨0, Nat.le_refl 0, rfl⟩
  | n + 1, hn => by
    have ih := kYs_N (club := club) (oc := oc) hB h1 h2 h3 h4 n (by omega)
    unfold kYs
    rw [show 81 * (n + 1) = 81 * n + 81 by omega]
    refine kN_add ih ?_
    split
    · exact kYf_N hB (h1 n (by omega)) (h2 n (by omega)) (h3 n) (h4 n)
    · exact ⟨0, by omega, rfl⟩
/-- what the numbers of a plain, of clouds and shots are -/
def kWB (N nc ns : Nat) (need worth cwet pw : kA) : Prop := (∀ f, f < N → kN 9 (need f) ∧ kN 9 (worth f)) ∧ (∀ c, c < nc → kN 30 (cwet c)) ∧ ∀ s, s < ns → kN 9 (pw s)
theorem kYd_N {g : kG} {wd oc : Int32} {q : Nat → Bool} {club need worth : kA} {ns h : Nat} (hN : gN g ≤ 8) (hnc : gnc g ≤ 6) (hb : kWB (gN g) (gnc g) ns need worth (gcwet g) (gpw g)) (hq : ∀ s, s < 10 → q s = true → s < ns) (hh : h ≤ 12) : kN 648 (kYd club need worth oc (gN g) (kDay g wd q h)) := by
  obtain ⟨h1, h2, h3⟩ := hb
  have d := kDay_bd (g := g) (wd := wd) (q := q) hnc h2 (fun s hs hqs => h3 s (hq s hs hqs)) h
  exact kN_up (kYs_N (B := 96 * h) (by omega) (fun f hf => (h1 f hf).1) (fun f hf => (h1 f hf).2) d.2.1 d.2.2 (gN g) (Nat.le_refl _)) (by omega)
/-- longs -/
def kL (B : Nat) (x : Int64) : Prop := ∃ a : Nat, a ≤ B ∧ x = lN a
theorem kWay_L {cw m : Int32} {c : Nat} (hc : c ≤ 10) (e : cw = nI c) : ∀ n, kL (10 ^ n) (kWay cw m n)
  | 0 => ⟨1, Nat.le_refl 1, rfl⟩
  | n + 1 => by
    obtain ⟨a, ha, ea⟩ := kWay_L (m := m) hc e n
    unfold kWay
    rw [ea]
    have h2 : ∃ b : Nat, b ≤ 10 ∧ (if (m >>> (nI n &&& 31)) &&& 1 = 1 then cw.toInt64 else ((10 : Int32) - cw).toInt64) = lN b := by
      rw [e]
      split
      · exact ⟨c, hc, nI_l (by omega)⟩
      · refine ⟨10 - c, by omega, ?_⟩
        rw [show (10 : Int32) - nI c = nI (10 - c) from pk_sub (a := 10) hc]
        exact nI_l (by omega)
    obtain ⟨b, hb, eb⟩ := h2
    rw [eb, lN_mul]
    exact ⟨a * b, by rw [Nat.pow_succ]; exact Nat.mul_le_mul ha hb, rfl⟩
theorem kAwt_L {y : Nat → Int32} {wy : Nat → Int64} {B C : Nat} (hB : B < 2 ^ 31) (hy : ∀ m, kN B (y m)) (hw : ∀ m, kL C (wy m)) : ∀ n, kL (n * (C * B)) (kAwt y wy n)
  | 0 => ⟨0, Nat.zero_le _, rfl⟩
  | n + 1 => by
    obtain ⟨a, ha, ea⟩ := kAwt_L hB hy hw n
    obtain ⟨b, hb, eb⟩ := hy n
    obtain ⟨c, hc, ec⟩ := hw n
    unfold kAwt
    rw [Nat.succ_mul]
    split
    · rw [ea, eb, ec, nI_l (by omega), lN_mul, lN_add]
      exact ⟨a + c * b, Nat.add_le_add ha (Nat.mul_le_mul hc hb), rfl⟩
    · exact ⟨a, Nat.le_trans ha (Nat.le_add_right _ _), ea⟩
theorem kcmp_eq {a : Nat} (h : a < 2 ^ 63) : (lg_cmp (lN a) 0 = 0) ↔ a = 0 := by
  unfold lg_cmp
  have h0 : (0 : Int64) = lN 0 := rfl
  rw [h0]
  constructor
  · intro q
    split at q
    · exact absurd q (by decide)
    · split at q
      · rename_i h2; exact (pk_lEQ h (by decide)).mp h2
      · exact absurd q (by decide)
  · intro q
    subst q
    rw [if_neg (by decide), if_pos rfl]
theorem kcmp_ge1 {a : Nat} (h : a < 2 ^ 63) (h1 : 1 ≤ a) : 0 ≤ lg_cmp (lN a) 1 := (lg_cmp_ge _ _).mpr ((pk_lLE (a := 1) (by decide) h).mpr h1)
theorem klN_ne {a : Nat} (h : a < 2 ^ 63) (h0 : 0 < a) : ¬ lN a = 0 := fun e => by
  have := (pk_lEQ (b := 0) h (by decide)).mp e
  omega
theorem kmod_half {h w : Nat} (h0 : 0 < w) (hw : w ≤ h) : 2 * (h % w) ≤ h := by
  have h1 := Nat.mod_lt h h0
  rcases Nat.lt_or_ge (2 * w) (h + 1) with q | q
  · omega
  · rw [Nat.mod_eq_sub_mod hw, Nat.mod_eq_of_lt (by omega)]
    omega
