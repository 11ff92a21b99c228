/-! part 65: the law's rows beside the class's state; what the class answers to the law's calls -/
def kTie (N nc ns : Nat) (wind low forb : Int32) (club need worth cat cwet chi kd fr hor pw g q : kA) : Prop :=
  (1 ≤ N ∧ N ≤ 8 ∧ 1 ≤ nc ∧ nc ≤ 6 ∧ ns ≤ 8) ∧ (g 0 = nI N ∧ g 25 = wind ∧ g 26 = low ∧ g 27 = forb ∧ g 28 = nI nc ∧ g 47 = nI ns) ∧
  (∀ f, f < N → g (1 + f) = club f ∧ g (9 + f) = need f ∧ g (17 + f) = worth f ∧ kN 9 (need f) ∧ kN 9 (worth f)) ∧
  (∀ c, c < nc → g (29 + c) = cat c ∧ g (35 + c) = cwet c ∧ g (41 + c) = chi c ∧ kN 30 (cwet c)) ∧
  (∀ k, k < ns → (q k = kd k ∧ q (10 + k) = fr k ∧ q (20 + k) = hor k ∧ q (30 + k) = pw k) ∧ (0 ≤ kd k ∧ (0 ≤ fr k ∧ fr k < nI N) ∧ kN 9 (pw k)))
theorem kTie_set {N nc ns : Nat} {wind low forb w2 l2 f2 : Int32} {club need worth cat cwet chi kd fr hor pw g q : kA} (T : kTie N nc ns wind low forb club need worth cat cwet chi kd fr hor pw g q) :
    kTie N nc ns w2 l2 f2 club need worth cat cwet chi kd fr hor pw (upd (upd (upd g 25 w2) 26 l2) 27 f2) q := by
  obtain ⟨⟨b1, b2, b3, b4, b5⟩, ⟨g0, g1, g2, g3, g4, g5⟩, hf, hc, hk⟩ := T
  refine ⟨⟨b1, b2, b3, b4, b5⟩, ⟨?_, ?_, ?_, ?_, ?_, ?_⟩, fun f h => ?_, fun c h => ?_, hk⟩
  · rw [pk_un (by omega), pk_un (by omega), pk_un (by omega)]; exact g0
  · rw [pk_un (by omega), pk_un (by omega), pk_us]
  · rw [pk_un (by omega), pk_us]
  · rw [pk_us]
  · rw [pk_un (by omega), pk_un (by omega), pk_un (by omega)]; exact g4
  · rw [pk_un (by omega), pk_un (by omega), pk_un (by omega)]; exact g5
  · obtain ⟨a1, a2, a3, a4, a5⟩ := hf f h
    refine ⟨?_, ?_, ?_, a4, a5⟩
    · rw [pk_un (by omega), pk_un (by omega), pk_un (by omega)]; exact a1
    · rw [pk_un (by omega), pk_un (by omega), pk_un (by omega)]; exact a2
    · rw [pk_un (by omega), pk_un (by omega), pk_un (by omega)]; exact a3
  · obtain ⟨a1, a2, a3, a4⟩ := hc c h
    refine ⟨?_, ?_, ?_, a4⟩
    · rw [pk_un (by omega), pk_un (by omega), pk_un (by omega)]; exact a1
    · rw [pk_un (by omega), pk_un (by omega), pk_un (by omega)]; exact a2
    · rw [pk_un (by omega), pk_un (by omega), pk_un (by omega)]; exact a3
theorem kTie_shot {N nc ns K H P : Nat} {wind low forb F : Int32} {club need worth cat cwet chi kd fr hor pw g q q2 : kA} (T : kTie N nc ns wind low forb club need worth cat cwet chi kd fr hor pw g q) (hns : ns ≤ 7) (hP : P ≤ 9) (hF : 0 ≤ F ∧ F < nI N)
    (hq : q2 ns = nI K ∧ q2 (10 + ns) = F ∧ q2 (20 + ns) = nI H ∧ q2 (30 + ns) = nI P ∧ ∀ j, ¬ j = ns → ¬ j = 10 + ns → ¬ j = 20 + ns → ¬ j = 30 + ns → q2 j = q j) (hK : K ≤ 2) :
    kTie N nc (ns + 1) wind low forb club need worth cat cwet chi (upd kd ns (nI K)) (upd fr ns F) (upd hor ns (nI H)) (upd pw ns (nI P)) (upd g 47 (nI (ns + 1))) q2 := by
  obtain ⟨⟨b1, b2, b3, b4, b5⟩, ⟨g0, g1, g2, g3, g4, g5⟩, hf, hc, hk⟩ := T
  obtain ⟨q1, q3, q4, q5, q6⟩ := hq
  refine ⟨⟨b1, b2, b3, b4, by omega⟩, ⟨?_, ?_, ?_, ?_, ?_, ?_⟩, fun f h => ?_, fun c h => ?_, fun k h => ?_⟩
  · rw [pk_un (by omega)]; exact g0
  · rw [pk_un (by omega)]; exact g1
  · rw [pk_un (by omega)]; exact g2
  · rw [pk_un (by omega)]; exact g3
  · rw [pk_un (by omega)]; exact g4
  · rw [pk_us]
  · obtain ⟨a1, a2, a3, a4, a5⟩ := hf f h
    refine ⟨?_, ?_, ?_, a4, a5⟩
    · rw [pk_un (by omega)]; exact a1
    · rw [pk_un (by omega)]; exact a2
    · rw [pk_un (by omega)]; exact a3
  · obtain ⟨a1, a2, a3, a4⟩ := hc c h
    refine ⟨?_, ?_, ?_, a4⟩
    · rw [pk_un (by omega)]; exact a1
    · rw [pk_un (by omega)]; exact a2
    · rw [pk_un (by omega)]; exact a3
  · by_cases e : k = ns
    · subst e
      refine ⟨⟨?_, ?_, ?_, ?_⟩, ?_, ?_, ?_⟩
      · rw [pk_us]; exact q1
      · rw [pk_us]; exact q3
      · rw [pk_us]; exact q4
      · rw [pk_us]; exact q5
      · rw [pk_us]; exact nI_pos' (by omega)
      · rw [pk_us]; exact hF
      · rw [pk_us]; exact ⟨P, hP, rfl⟩
    · obtain ⟨⟨a1, a2, a3, a4⟩, a5, a6, a7⟩ := hk k (by omega)
      refine ⟨⟨?_, ?_, ?_, ?_⟩, ?_, ?_, ?_⟩
      · rw [pk_un e, q6 k (by omega) (by omega) (by omega) (by omega)]; exact a1
      · rw [pk_un e, q6 (10 + k) (by omega) (by omega) (by omega) (by omega)]; exact a2
      · rw [pk_un e, q6 (20 + k) (by omega) (by omega) (by omega) (by omega)]; exact a3
      · rw [pk_un e, q6 (30 + k) (by omega) (by omega) (by omega) (by omega)]; exact a4
      · rw [pk_un e]; exact a5
      · rw [pk_un e]; exact a6
      · rw [pk_un e]; exact a7
def kEv (n : Nat) : Int32 := ((1 : Int32) <<< (nI n &&& 31)) - 1
theorem kEv_bit0 : ∀ n, n < 11 → ∀ s, s < 10 → kBit (kEv n) s = kAll n s := by decide +kernel
theorem kEv_bit {n : Nat} (h : n ≤ 8) : ∀ s, s < 10 → kBit (kEv n) s = kAll n s := fun s hs => kEv_bit0 n (by omega) s hs
/-- all but one, as the law writes it -/
def kEw (n k : Nat) : Int32 := kEv n &&& (((1 : Int32) <<< (nI k &&& 31)) ^^^ (-1))
theorem kEw_bit0 : ∀ n, n < 9 → ∀ k, k < 8 → ∀ s, s < 10 → kBit (kEw n k) s = kBut n k s := by decide +kernel
theorem kEw_bit {n k : Nat} (h : n ≤ 8) (hk : k < 8) : ∀ s, s < 10 → kBit (kEw n k) s = kBut n k s := fun s hs => kEw_bit0 n (by omega) k hk s hs
theorem kAll_lt {n : Nat} : ∀ s, s < 10 → kAll n s = true → s < n := fun _ _ h => of_decide_eq_true h
theorem kBut_lt {n k : Nat} : ∀ s, s < 10 → kBut n k s = true → s < n := fun s _ h => by
  unfold kBut at h
  rw [Bool.and_eq_true] at h
  exact of_decide_eq_true h.1
theorem kSub_of {st : Int32} {Q : Nat → Bool} {n : Nat} (h1 : ∀ s, s < 10 → kBit st s = Q s) (h2 : ∀ s, s < 10 → Q s = true → s < n) : ∀ s, s < 10 → kBit st s = true → s < n := fun s hs h => h2 s hs ((h1 s hs).symm.trans h)
section KT
variable {N nc ns : Nat} {wind low forb : Int32} {club need worth cat cwet chi kd fr hor pw g q : kA}
theorem kTie_cw (T : kTie N nc ns wind low forb club need worth cat cwet chi kd fr hor pw g q) : kNn nc (fun c => g (35 + c)) := fun c hc => by
  obtain ⟨a1, a2, a3, a4⟩ := T.2.2.2.1 c hc
  show ∃ n : Nat, n ≤ 30 ∧ g (35 + c) = nI n
  rw [a2]
  exact a4
theorem kTie_pw (T : kTie N nc ns wind low forb club need worth cat cwet chi kd fr hor pw g q) {st : Int32} (hst : ∀ s, s < 10 → kBit st s = true → s < ns) : ∀ k, k < 10 → kBit st k = true → ∃ m : Nat, m ≤ 9 ∧ q (30 + k) = nI m := fun k hk h => by
  obtain ⟨⟨a1, a2, a3, a4⟩, a5, a6, a7⟩ := T.2.2.2.2 k (hst k hk h)
  rw [a4]
  exact a7
theorem kTie_fr (T : kTie N nc ns wind low forb club need worth cat cwet chi kd fr hor pw g q) {st : Int32} (hst : ∀ s, s < 10 → kBit st s = true → s < ns) : ∀ k, k < 10 → kBit st k = true → ∃ x : Nat, x < N ∧ q (10 + k) = nI x := fun k hk h => by
  obtain ⟨⟨a1, a2, a3, a4⟩, a5, a6, a7⟩ := T.2.2.2.2 k (hst k hk h)
  obtain ⟨x, hx, e⟩ := kix a6 (by have := T.1.2.1; omega)
  exact ⟨x, hx, a2.trans e⟩
theorem kTie_kd (T : kTie N nc ns wind low forb club need worth cat cwet chi kd fr hor pw g q) {st : Int32} (hst : ∀ s, s < 10 → kBit st s = true → s < ns) : ∀ k, k < 10 → kBit st k = true → 0 ≤ q k := fun k hk h => by
  obtain ⟨⟨a1, a2, a3, a4⟩, a5, a6, a7⟩ := T.2.2.2.2 k (hst k hk h)
  rw [a1]
  exact a5
theorem kTie_D (T : kTie N nc ns wind low forb club need worth cat cwet chi kd fr hor pw g q) {st : Int32} {Q : Nat → Bool} (h1 : ∀ s, s < 10 → kBit st s = Q s) (h2 : ∀ s, s < 10 → Q s = true → s < ns) (wd : Int32) (h : Nat) :
    kDay (kGl N nc g q) wd (kBit st) h = kDay (N, nc, low, cat, cwet, chi, kd, fr, hor, pw) wd Q h := by
  rw [kDay_set h1]
  refine kDay_sam (g := kGl N nc g q) (g' := (N, nc, low, cat, cwet, chi, kd, fr, hor, pw)) ⟨rfl, rfl, T.2.1.2.2.1, fun c hc => ?_, fun s hs hq => ?_⟩ wd h
  · obtain ⟨a1, a2, a3, a4⟩ := T.2.2.2.1 c hc
    exact ⟨a1, a2, a3⟩
  · obtain ⟨⟨a1, a2, a3, a4⟩, a5⟩ := T.2.2.2.2 s (h2 s hs hq)
    exact ⟨a1, a2, a3, a4⟩
theorem kTie_wf (T : kTie N nc ns wind low forb club need worth cat cwet chi kd fr hor pw g q) : ∀ s, s < ns → 0 ≤ fr s ∧ fr s < nI N := fun s hs => (T.2.2.2.2 s hs).2.2.1
theorem kTie_wb (T : kTie N nc ns wind low forb club need worth cat cwet chi kd fr hor pw g q) : kWB N nc ns need worth cwet pw :=
  ⟨fun f hf => ⟨(T.2.2.1 f hf).2.2.2.1, (T.2.2.1 f hf).2.2.2.2⟩, fun c hc => (T.2.2.2.1 c hc).2.2.2, fun s hs => (T.2.2.2.2 s hs).2.2.2⟩
theorem kYf_c {n1 n2 w1 w2 g1 g2 h1 h2 : kA} {f : Nat} (a : n1 f = n2 f) (b : w1 f = w2 f) (c : g1 f = g2 f) (d : h1 f = h2 f) : kYf n1 w1 g1 h1 f = kYf n2 w2 g2 h2 f := by
  unfold kYf
  rw [a, b, c, d]
theorem kTie_y (T : kTie N nc ns wind low forb club need worth cat cwet chi kd fr hor pw g q) (d : kDS) {f : Nat} (hf : f < N) : kYf (fun j => g (9 + j)) (fun j => g (17 + j)) (kPk d) (fun j => kPk d (8 + j)) f = kYf need worth d.2.1 d.2.2.1 f := by
  have hN := T.1.2.1
  exact kYf_c (T.2.2.1 f hf).2.1 (T.2.2.1 f hf).2.2.1 (kPk_g d (by omega)) (kPk_h d (by omega))
theorem kTie_ys0 (T : kTie N nc ns wind low forb club need worth cat cwet chi kd fr hor pw g q) (d : kDS) (oc : Int32) : ∀ n, n ≤ N → kYs (fun j => g (1 + j)) (fun j => g (9 + j)) (fun j => g (17 + j)) (kPk d) (fun j => kPk d (8 + j)) oc n = kYs club need worth d.2.1 d.2.2.1 oc n
  | 0, _ => rfl
  | n + 1, hn => by
    rw [kYs, kYs, kTie_ys0 T d oc n (by omega), kTie_y T d (show n < N by omega), (T.2.2.1 n (by omega)).1]
theorem kTie_ys (T : kTie N nc ns wind low forb club need worth cat cwet chi kd fr hor pw g q) (d : kDS) (oc : Int32) : kYs (fun j => g (1 + j)) (fun j => g (9 + j)) (fun j => g (17 + j)) (kPk d) (fun j => kPk d (8 + j)) oc N = kYd club need worth oc N d := kTie_ys0 T d oc N (Nat.le_refl N)
end KT
/-! what the class answers -/
section KA
variable {g : kG} {wind forb : Int32} {club need worth : kA} {ns : Nat}
theorem kIn {f n : Nat} (h : f < n) (hn : n ≤ 1000) : 0 ≤ nI f ∧ nI f < nI n := ⟨nI_pos' (by omega), nI_lt h (by omega)⟩
theorem kInl {f n : Nat} (h : f ≤ n) (hn : n ≤ 1000) : 0 ≤ nI f ∧ nI f ≤ nI n := ⟨nI_pos' (by omega), (nI_leI (by omega) (by omega)).mpr h⟩
theorem kFell_0 {f h : Nat} (hN : gN g ≤ 8) (hf : f < gN g) (hh : h ≤ 11) : kF_fell g wind ns (nI f) (nI h) 0 = (kDay g wind (kAll ns) (h + 1)).2.1 f := by
  unfold kF_fell
  rw [if_pos (kIn hf (by omega)), if_pos (show 0 ≤ nI h ∧ nI h ≤ 11 from kInl (n := 11) hh (by omega)), if_pos (by decide), if_pos rfl, nI_clamp (by omega), nI_clamp (by omega)]
theorem kFell_1 {f h : Nat} (hN : gN g ≤ 8) (hf : f < gN g) (hh : h ≤ 11) : kF_fell g wind ns (nI f) (nI h) 1 = (kDay g wind (kAll ns) (h + 1)).2.2.1 f := by
  unfold kF_fell
  rw [if_pos (kIn hf (by omega)), if_pos (show 0 ≤ nI h ∧ nI h ≤ 11 from kInl (n := 11) hh (by omega)), if_pos (by decide), if_neg (by decide), nI_clamp (by omega), nI_clamp (by omega)]
theorem kSum3 (x y : Int32) : (x + y) + 100 = ((100 : Int32) + x) + y := by
  apply Int32.toBitVec_inj.mp
  simp only [Int32.toBitVec_add]
  bv_omega
theorem kOfc_0 {c h : Nat} (hc6 : gnc g ≤ 6) (hc : c < gnc g) (hh : h ≤ 11) : kF_ofCloud g wind ns (nI c) (nI h) 0 = ((100 : Int32) + gcat g c) + (wind * nI h) := by
  unfold kF_ofCloud
  rw [if_pos (kIn hc (by omega)), if_pos (show 0 ≤ nI h ∧ nI h ≤ 11 from kInl (n := 11) hh (by omega)), if_pos (by decide), if_pos rfl, nI_clamp (by omega)]
  exact kSum3 _ _
theorem kOfc_1 {c h : Nat} (hc6 : gnc g ≤ 6) (hc : c < gnc g) (hh : h ≤ 11) : kF_ofCloud g wind ns (nI c) (nI h) 1 = (kDay g wind (kAll ns) h).1 c := by
  unfold kF_ofCloud
  rw [if_pos (kIn hc (by omega)), if_pos (show 0 ≤ nI h ∧ nI h ≤ 11 from kInl (n := 11) hh (by omega)), if_pos (by decide), if_neg (by decide), if_neg (by decide), nI_clamp (by omega), nI_clamp (by omega)]
theorem kOfc_w {c : Nat} (hc6 : gnc g ≤ 6) (hc : c < gnc g) : kF_ofCloud g wind ns (nI c) 0 1 = gcwet g c := by
  have h := kOfc_1 (g := g) (wind := wind) (ns := ns) (h := 0) hc6 hc (by omega)
  rw [kDay_0] at h
  exact h.trans (show kFil (gcwet g) (fun _ => 0) (gnc g) c = gcwet g c from kFil_ext hc)
theorem kOfc_2 {c h : Nat} (hc6 : gnc g ≤ 6) (hc : c < gnc g) (hh : h ≤ 11) : kF_ofCloud g wind ns (nI c) (nI h) 2 = gchi g c := by
  unfold kF_ofCloud
  rw [if_pos (kIn hc (by omega)), if_pos (show 0 ≤ nI h ∧ nI h ≤ 11 from kInl (n := 11) hh (by omega)), if_pos (by decide), if_neg (by decide), if_pos rfl, nI_clamp (by omega)]
theorem kBy_0 {k : Nat} (hn : ns ≤ 8) (hk : k < ns) : kF_by g wind ns (nI k) 0 = (kDay g wind (kAll ns) 12).2.2.2.1 k := by
  unfold kF_by
  rw [if_pos (kIn hk (by omega)), if_pos (by decide), if_pos rfl, nI_clamp (by omega)]
theorem kBy_1 {k : Nat} (hn : ns ≤ 8) (hk : k < ns) : kF_by g wind ns (nI k) 1 = (kDay g wind (kAll ns) 12).2.2.2.2 k := by
  unfold kF_by
  rw [if_pos (kIn hk (by omega)), if_pos (by decide), if_neg (by decide), nI_clamp (by omega)]
theorem kYld_0 {f : Nat} (hN : gN g ≤ 8) (hf : f < gN g) : kF_yields g wind need worth ns (nI f) = kYf need worth (kDay g wind (kAll ns) 12).2.1 (kDay g wind (kAll ns) 12).2.2.1 f := by
  unfold kF_yields
  rw [if_pos (kIn hf (by omega)), nI_clamp (by omega)]
theorem kHrv_0 {oc : Int32} (h : oc = -1 ∨ (0 ≤ oc ∧ oc ≤ 3)) : kF_harvest g wind club need worth ns oc = kYd club need worth oc (gN g) (kDay g wind (kAll ns) 12) := by
  unfold kF_harvest
  rcases h with h | h
  · rw [if_pos h]
  · by_cases e : oc = -1
    · rw [if_pos e]
    · rw [if_neg e, if_pos h]
theorem kBrt_0 {k : Nat} {oc : Int32} (hn : ns ≤ 8) (hk : k < ns) (h : oc = -1 ∨ (0 ≤ oc ∧ oc ≤ 3)) : kF_brought g wind club need worth ns (nI k) oc = (kYd club need worth oc (gN g) (kDay g wind (kAll ns) 12) - kYd club need worth oc (gN g) (kDay g wind (kBut ns k) 12)).toInt64 := by
  unfold kF_brought
  rw [if_pos (kIn hk (by omega)), nI_clamp (by omega)]
  rcases h with h | h
  · rw [if_pos h]; rfl
  · by_cases e : oc = -1
    · rw [if_pos e]; rfl
    · rw [if_neg e, if_pos h]; rfl
theorem kDue_m {k : Nat} {oc : Int32} (hn : ns ≤ 8) (hk : k < ns) (h : ¬ 0 ≤ oc) : kF_due g wind club need worth ns (nI k) oc = -1 := by
  unfold kF_due
  rw [if_pos (kIn hk (by omega)), if_neg (fun z => h z.1)]
theorem kDue_x {a b : Nat} (ha : a ≤ 648) (hb : b ≤ 648) : (if (0 : Int32) < -(nI a - nI b) then -(nI a - nI b) else 0) = if 0 ≤ nI a - nI b then 0 else -(nI a - nI b) := by
  rcases Nat.lt_or_ge a b with q | q
  · have e : -(nI a - nI b) = nI (b - a) := by
      rw [Int32.neg_sub]
      exact pk_sub (by omega)
    rw [if_neg (Int32.not_le.mpr (pk_sneg (by omega) q)), e, if_pos (show (0 : Int32) < nI (b - a) from nI_lt (a := 0) (by omega) (by omega))]
  · have e : nI a - nI b = nI (a - b) := pk_sub q
    rw [e, if_pos (nI_pos' (by omega))]
    by_cases z : a - b = 0
    · rw [z, if_neg (by decide)]
    · have h0 : (0 : Int32) < nI (a - b) := nI_lt (a := 0) (by omega) (by omega)
      have h1 : -(nI (a - b)) = 0 - nI (a - b) := by
        apply Int32.toBitVec_inj.mp
        simp only [Int32.toBitVec_neg, Int32.toBitVec_sub]
        show -(nI (a - b)).toBitVec = 0#32 - (nI (a - b)).toBitVec
        bv_omega
      rw [if_neg]
      rw [h1]
      exact Int32.not_lt.mpr (Int32.le_of_lt (pk_sneg (a := 0) (by omega) (by omega)))
theorem kDue_0 {k : Nat} {oc : Int32} (hN : gN g ≤ 8) (hnc : gnc g ≤ 6) (hb : kWB (gN g) (gnc g) ns need worth (gcwet g) (gpw g)) (hn : ns ≤ 8) (hk : k < ns) (h : oc = -1 ∨ (0 ≤ oc ∧ oc ≤ 3)) (h0 : 0 ≤ oc) :
    kF_due g wind club need worth ns (nI k) oc = if 0 ≤ kYd club need worth oc (gN g) (kDay g wind (kAll ns) 12) - kYd club need worth oc (gN g) (kDay g wind (kBut ns k) 12) then 0 else -(kYd club need worth oc (gN g) (kDay g wind (kAll ns) 12) - kYd club need worth oc (gN g) (kDay g wind (kBut ns k) 12)) := by
  have h3 : 0 ≤ oc ∧ oc ≤ 3 := by
    rcases h with e | e
    · rw [e] at h0; exact absurd h0 (by decide)
    · exact e
  obtain ⟨a, ha, e1⟩ := kYd_N (wd := wind) (oc := oc) (club := club) (q := kAll ns) hN hnc hb kAll_lt (h := 12) (by omega)
  obtain ⟨b, hb2, e2⟩ := kYd_N (wd := wind) (oc := oc) (club := club) (q := kBut ns k) hN hnc hb kBut_lt (h := 12) (by omega)
  unfold kF_due
  rw [if_pos (kIn hk (by omega)), if_pos h3, nI_clamp (by omega)]
  unfold kGain
  rw [e1, e2]
  exact kDue_x ha hb2
theorem kDue_n {k : Nat} {oc : Int32} (hN : gN g ≤ 8) (hnc : gnc g ≤ 6) (hb : kWB (gN g) (gnc g) ns need worth (gcwet g) (gpw g)) (hn : ns ≤ 8) (hk : k < ns) (h : oc = -1 ∨ (0 ≤ oc ∧ oc ≤ 3)) (h0 : 0 ≤ oc)
    (q : 0 ≤ kYd club need worth oc (gN g) (kDay g wind (kAll ns) 12) - kYd club need worth oc (gN g) (kDay g wind (kBut ns k) 12)) : kF_due g wind club need worth ns (nI k) oc = 0 := by
  rw [kDue_0 hN hnc hb hn hk h h0, if_pos q]
theorem kDue_p {k : Nat} {oc : Int32} (hN : gN g ≤ 8) (hnc : gnc g ≤ 6) (hb : kWB (gN g) (gnc g) ns need worth (gcwet g) (gpw g)) (hn : ns ≤ 8) (hk : k < ns) (h : oc = -1 ∨ (0 ≤ oc ∧ oc ≤ 3)) (h0 : 0 ≤ oc)
    (q : ¬ 0 ≤ kYd club need worth oc (gN g) (kDay g wind (kAll ns) 12) - kYd club need worth oc (gN g) (kDay g wind (kBut ns k) 12)) : kF_due g wind club need worth ns (nI k) oc = -(kYd club need worth oc (gN g) (kDay g wind (kAll ns) 12) - kYd club need worth oc (gN g) (kDay g wind (kBut ns k) 12)) := by
  rw [kDue_0 hN hnc hb hn hk h h0, if_neg q]
theorem kOr0 (b : Int32) : b ||| 0 = b := by
  apply Int32.toBitVec_inj.mp
  rw [Int32.toBitVec_or]
  show b.toBitVec ||| 0#32 = b.toBitVec
  exact BitVec.or_zero
theorem kSh0 : ∀ k, k < 8 → (0 : Int32) <<< (nI k &&& 31) = 0 := by decide +kernel
theorem kBr_s {hor : kA} {k : Nat} {b : Int32} (hb : b = kBits (kBrP forb hor) k) (hk : k < 8) : b ||| (((forb >>> (hor k &&& 31)) &&& 1) <<< (nI k &&& 31)) = kBits (kBrP forb hor) (k + 1) := by
  obtain ⟨j, hj, e⟩ := pk_andE (forb >>> (hor k &&& 31)) (m := 1) 1 (by decide)
  rw [kBits]
  rcases kt_2 (show j < 2 from hj) with rfl | rfl
  · rw [e, show nI 0 = 0 from rfl, kSh0 k hk, kOr0, if_neg (by unfold kBrP; rw [e]; decide), hb]
  · rw [e, show nI 1 = 1 from rfl, if_pos (by unfold kBrP; rw [e]; decide), hb]
/-- all of the first sixteen cells alike: nothing has changed in any field -/
theorem kSame_iff {N : Nat} {d e : kDS} (hN : N ≤ 8) (hd : kOut N d) (he : kOut N e) : (∀ j, j < 16 → kPk d j = kPk e j) ↔ ∀ f, f < N → e.2.1 f = d.2.1 f ∧ e.2.2.1 f = d.2.2.1 f := by
  constructor
  · intro h f hf
    have h1 := h f (by omega)
    have h2 := h (8 + f) (by omega)
    rw [kPk_g _ (by omega), kPk_g _ (by omega)] at h1
    rw [kPk_h _ (by omega), kPk_h _ (by omega)] at h2
    exact ⟨h1.symm, h2.symm⟩
  · intro h j hj
    have key : ∀ f, f < 8 → d.2.1 f = e.2.1 f ∧ d.2.2.1 f = e.2.2.1 f := fun f hf => by
      rcases Nat.lt_or_ge f N with z | z
      · exact ⟨(h f z).1.symm, (h f z).2.symm⟩
      · rw [(hd f z).1, (he f z).1, (hd f z).2, (he f z).2]
        exact ⟨rfl, rfl⟩
    rcases Nat.lt_or_ge j 8 with z | z
    · rw [kPk_g _ z, kPk_g _ z]
      exact (key j z).1
    · obtain ⟨f, rfl⟩ : ∃ f, j = 8 + f := ⟨j - 8, by omega⟩
      rw [kPk_h _ (by omega), kPk_h _ (by omega)]
      exact (key f (by omega)).2
def kAllB (R W : kA) : Nat → Bool
  | 0 => true
  | n + 1 => kAllB R W n && decide (R n = W n)
theorem kAllB_iff {R W : kA} : ∀ {n : Nat}, kAllB R W n = true ↔ ∀ j, j < n → R j = W j
  | 0 => ⟨fun _ j hj => absurd hj (Nat.not_lt_zero j), fun _ => rfl⟩
  | n + 1 => by
    rw [kAllB, Bool.and_eq_true, kAllB_iff]
    constructor
    · intro h
      exact kAnd2 h.1 (of_decide_eq_true h.2)
    · intro h
      exact ⟨fun j hj => h j (by omega), decide_eq_true (h n (Nat.lt_succ_self n))⟩
theorem kSmS_0 {R W : kA} {f : Nat} {v : Int32} (h : v = if kAllB R W f = true then 1 else 0) (c : v = 0) : 0 = if kAllB R W (f + 1) = true then (1 : Int32) else 0 := by
  rw [if_neg]
  intro z
  rw [kAllB, Bool.and_eq_true] at z
  rw [if_pos z.1] at h
  rw [h] at c
  exact absurd c (by decide)
theorem kSmS_n {R W : kA} {f : Nat} (c : ¬ R f = W f) : 0 = if kAllB R W (f + 1) = true then (1 : Int32) else 0 := by
  rw [if_neg]
  exact fun z => c (kAllB_iff.mp z f (Nat.lt_succ_self f))
theorem kSmS_y {R W : kA} {f : Nat} {v : Int32} (h : v = if kAllB R W f = true then 1 else 0) (c : ¬ v = 0) (c2 : R f = W f) : 1 = if kAllB R W (f + 1) = true then (1 : Int32) else 0 := by
  have z : kAllB R W f = true := by
    by_cases z : kAllB R W f = true
    · exact z
    · rw [if_neg z] at h
      exact absurd h c
  rw [if_pos]
  rw [kAllB, Bool.and_eq_true]
  exact ⟨z, decide_eq_true c2⟩
theorem kIdl_y {k : Nat} {b v : Int32} {d e : kDS} (hd : d = kDay g wind (kAll ns) 12) (he : e = kDay g wind (kBut ns k) 12) (hN : gN g ≤ 8) (hw : ∀ s, s < ns → 0 ≤ gfr g s ∧ gfr g s < nI (gN g)) (hb : b = kBits (kIdleP g wind ns) k) (hv : v = if kAllB (kPk d) (kPk e) 16 = true then 1 else 0) (c : ¬ v = 0) : b ||| ((1 : Int32) <<< (nI k &&& 31)) = kBits (kIdleP g wind ns) (k + 1) := by
  have hi := kSame_iff hN (hd ▸ kOut_day hN (fun s hs hq => hw s (kAll_lt s hs hq)) 12) (he ▸ kOut_day hN (fun s hs hq => hw s (kBut_lt s hs hq)) 12)
  refine kBits_yes hb (decide_eq_true ?_)
  have z : kAllB (kPk d) (kPk e) 16 = true := by
    by_cases z : kAllB (kPk d) (kPk e) 16 = true
    · exact z
    · rw [if_neg z] at hv
      exact absurd hv c
  have h2 := hi.mp (kAllB_iff.mp z)
  rw [hd, he] at h2
  exact h2
theorem kIdl_n {k : Nat} {b v : Int32} {d e : kDS} (hd : d = kDay g wind (kAll ns) 12) (he : e = kDay g wind (kBut ns k) 12) (hN : gN g ≤ 8) (hw : ∀ s, s < ns → 0 ≤ gfr g s ∧ gfr g s < nI (gN g)) (hb : b = kBits (kIdleP g wind ns) k) (hv : v = if kAllB (kPk d) (kPk e) 16 = true then 1 else 0) (c : v = 0) : b ||| 0 = kBits (kIdleP g wind ns) (k + 1) := by
  have hi := kSame_iff hN (hd ▸ kOut_day hN (fun s hs hq => hw s (kAll_lt s hs hq)) 12) (he ▸ kOut_day hN (fun s hs hq => hw s (kBut_lt s hs hq)) 12)
  rw [kOr0]
  refine kBits_no hb (decide_eq_false fun z => ?_)
  rw [← hd, ← he] at z
  rw [if_pos (kAllB_iff.mpr (hi.mpr z))] at hv
  rw [hv] at c
  exact absurd c (by decide)
theorem kOc_s (k : Nat) : nI k - 1 + 1 = nI (k + 1) - 1 := by
  rw [← nI_1 k]
  apply Int32.toBitVec_inj.mp
  simp only [Int32.toBitVec_add, Int32.toBitVec_sub]
  bv_omega
theorem kOc_in0 : ∀ k, k < 6 → ¬ (4 : Int32) ≤ nI k - 1 → k < 5 ∧ (nI k - 1 = -1 ∨ (0 ≤ nI k - 1 ∧ nI k - 1 ≤ 3)) := by decide +kernel
theorem kOc_in {k : Nat} {oc : Int32} (h : k ≤ 5) (e : oc = nI k - 1) (c : ¬ 4 ≤ oc) : k < 5 ∧ (oc = -1 ∨ (0 ≤ oc ∧ oc ≤ 3)) := by
  subst e
  exact kOc_in0 k (by omega) c
theorem kOc_l {oc : Int32} (h : oc = -1 ∨ (0 ≤ oc ∧ oc ≤ 3)) : oc = -1 ∨ 0 ≤ oc := h.imp id (fun z => z.1)
theorem kIdl0 : kF_idle g wind forb ns 0 = kBits (kIdleP g wind ns) ns := if_pos rfl
theorem kIdl1 : kF_idle g wind forb ns 1 = kBits (kBrP forb (ghor g)) ns := by
  unfold kF_idle
  rw [if_neg (by decide), if_pos rfl]
end KA
