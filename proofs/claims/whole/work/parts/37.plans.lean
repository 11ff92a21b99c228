/-! part 37: the plans of a duel -/
/-- how many plans lie below n -/
def kCn (P : Nat → Bool) : Nat → Nat
  | 0 => 0
  | n + 1 => if P n = true then kCn P n + 1 else kCn P n
/-- the i-th plan below n (96: none) -/
def kPn (P : Nat → Bool) : Nat → Nat → Nat
  | 0, _ => 96
  | n + 1, i => if P n = true ∧ i = kCn P n then n else kPn P n i
theorem kCn_le (P : Nat → Bool) : ∀ n, kCn P n ≤ n
  | 0 => Nat.le_refl 0
  | n + 1 => by
    have := kCn_le P n
    rw [kCn]
    split <;> omega
theorem kCn_y {P : Nat → Bool} {n : Nat} (h : P n = true) : kCn P (n + 1) = kCn P n + 1 := by rw [kCn, if_pos h]
theorem kCn_n {P : Nat → Bool} {n : Nat} (h : P n = false) : kCn P (n + 1) = kCn P n := by rw [kCn, if_neg (by rw [h]; decide)]
theorem kPn_lt {P : Nat → Bool} : ∀ {n i : Nat}, i < kCn P n → kPn P n i < n
  | 0, _, h => absurd h (Nat.not_lt_zero _)
  | n + 1, i, h => by
    rw [kPn]
    split
    · omega
    · rename_i q
      have h2 : i < kCn P n := by
        rw [kCn] at h
        split at h
        · rename_i z
          have : ¬ i = kCn P n := fun e => q ⟨z, e⟩
          omega
        · exact h
      have := kPn_lt h2
      omega
theorem kPn_ge {P : Nat → Bool} : ∀ {n i : Nat}, kCn P n ≤ i → kPn P n i = 96
  | 0, _, _ => rfl
  | n + 1, i, h => by
    rw [kPn]
    rw [kCn] at h
    split at h
    · rw [if_neg (fun q => by omega)]
      exact kPn_ge (by omega)
    · rename_i z
      rw [if_neg (fun q => z q.1)]
      exact kPn_ge h
theorem kPl_no {P : Nat → Bool} {n c : Nat} {a : kA} (hc : c = kCn P n) (h : ∀ i, i < c → a i = nI (kPn P n i)) (hp : P n = false) : ∀ i, i < c → a i = nI (kPn P (n + 1) i) := by
  intro i hi
  rw [kPn, if_neg (fun q => by rw [hp] at q; exact absurd q.1 (by decide))]
  exact h i hi
theorem kPl_yes {P : Nat → Bool} {n c : Nat} {a : kA} (hc : c = kCn P n) (h : ∀ i, i < c → a i = nI (kPn P n i)) (hp : P n = true) : ∀ i, i < c + 1 → upd a c (nI n) i = nI (kPn P (n + 1) i) := by
  intro i hi
  rw [kPn]
  by_cases e : i = c
  · subst e
    rw [pk_us, if_pos ⟨hp, hc⟩]
  · rw [pk_un e, if_neg (fun q => e (q.2.trans hc.symm))]
    exact h i (by omega)
theorem kPl_end {P : Nat → Bool} {n c : Nat} {a : kA} (hc : c = kCn P n) (h : ∀ i, i < c → a i = nI (kPn P n i)) : ∀ i, i ≤ kCn P n → upd a c 96 i = nI (kPn P n i) := by
  subst hc
  intro i hi
  by_cases e : i = kCn P n
  · rw [e, pk_us, kPn_ge (Nat.le_refl _)]
    rfl
  · rw [pk_un e]
    exact h i (by omega)
theorem kCn_two {P Q : Nat → Bool} (h : ∀ k, P k = true → Q k = true → False) : ∀ n, kCn P n + kCn Q n ≤ n
  | 0 => Nat.le_refl 0
  | n + 1 => by
    have := kCn_two h n
    rw [kCn, kCn]
    split
    · split
      · rename_i a b
        exact absurd (h n a b) (fun z => z)
      · omega
    · split <;> omega
theorem kMul2 {a b : Nat} (h : a + b ≤ 96) : (a + 1) * (b + 1) ≤ 2401 := by
  have h0 : ∀ x, x < 97 → (x + 1) * (97 - x) ≤ 2401 := by decide +kernel
  exact Nat.le_trans (Nat.mul_le_mul_left (a + 1) (show b + 1 ≤ 97 - a by omega)) (h0 a (by omega))
theorem kIx {a b m i j : Nat} (hi : i < a) (hj : j < b) (hm : a * b ≤ m) : b * i + j < m := by
  have h1 : b * (i + 1) ≤ b * a := Nat.mul_le_mul_left b hi
  rw [Nat.mul_succ] at h1
  rw [Nat.mul_comm a b] at hm
  omega
def kPset (ns p r : Nat) : Nat → Bool := fun s => decide (s < ns ∨ (s = ns ∧ ¬ p = 96) ∨ (s = ns + 1 ∧ ¬ r = 96))
def kPg (g : kG) (ns p r : Nat) (w : Int32) : kG := gUp (gUp g ns 0 (nI (p / 12)) (nI (p % 12)) w) (ns + 1) 0 (nI (r / 12)) (nI (r % 12)) w
/-- the day on which both plans are fired -/
def kPair (g : kG) (wind : Int32) (ns p r : Nat) (w : Int32) : kDS := kDay (kPg g ns p r w) wind (kPset ns p r) 12
theorem kPeq {k1 kd : kA} {a b : Int32} {ns p r : Nat} (h0 : ∀ s, s < ns → k1 s = kd s) (h1 : ¬ p = 96 → k1 ns = a) (h2 : ¬ r = 96 → k1 (ns + 1) = b) {s : Nat} (hs : kPset ns p r s = true) : k1 s = upd (upd kd ns a) (ns + 1) b s := by
  rcases of_decide_eq_true hs with q | ⟨q, z⟩ | ⟨q, z⟩
  · rw [pk_un (by omega), pk_un (by omega)]; exact h0 s q
  · rw [q, pk_un (by omega), pk_us]; exact h1 z
  · rw [q, pk_us]; exact h2 z
theorem kP_wf {N ns p r : Nat} {fr : kA} (hN : N ≤ 8) (hwf : ∀ s, s < ns → 0 ≤ fr s ∧ fr s < nI N) (hp : p = 96 ∨ p < 12 * N) (hr : r = 96 ∨ r < 12 * N) {s : Nat} (hs : kPset ns p r s = true) : 0 ≤ upd (upd fr ns (nI (p / 12))) (ns + 1) (nI (r / 12)) s ∧ upd (upd fr ns (nI (p / 12))) (ns + 1) (nI (r / 12)) s < nI N := by
  rcases of_decide_eq_true hs with q | ⟨q, z⟩ | ⟨q, z⟩
  · rw [pk_un (by omega), pk_un (by omega)]; exact hwf s q
  · rw [q, pk_un (by omega), pk_us]; exact ⟨nI_pos' (by omega), nI_lt (by omega) (by omega)⟩
  · rw [q, pk_us]; exact ⟨nI_pos' (by omega), nI_lt (by omega) (by omega)⟩
theorem kP_day {N nc ns p r : Nat} {low wind fd w : Int32} {cat cwet chi kd fr hor pw f1 f2 f3 f4 : kA} (hb : ∀ s, s < 10 → kBit fd s = kPset ns p r s)
    (h1 : ∀ s, kPset ns p r s = true → f1 s = upd (upd kd ns 0) (ns + 1) 0 s) (h2 : ∀ s, kPset ns p r s = true → f2 s = upd (upd fr ns (nI (p / 12))) (ns + 1) (nI (r / 12)) s)
    (h3 : ∀ s, kPset ns p r s = true → f3 s = upd (upd hor ns (nI (p % 12))) (ns + 1) (nI (r % 12)) s) (h4 : ∀ s, kPset ns p r s = true → f4 s = upd (upd pw ns w) (ns + 1) w s) :
    kDay (N, nc, low, cat, cwet, chi, f1, f2, f3, f4) wind (kBit fd) 12 = kPair (N, nc, low, cat, cwet, chi, kd, fr, hor, pw) wind ns p r w := by
  rw [kDay_set hb]
  exact kDay_same (g := (N, nc, low, cat, cwet, chi, f1, f2, f3, f4)) (g' := kPg (N, nc, low, cat, cwet, chi, kd, fr, hor, pw) ns p r w) ⟨rfl, rfl, rfl, rfl, rfl, rfl, fun s _ hs => ⟨h1 s hs, h2 s hs, h3 s hs, h4 s hs⟩⟩ wind 12
theorem kPair_agree {N nc ns p r : Nat} {low wind w : Int32} {cat cwet chi kd fr hor pw k1 k2 k3 k4 : kA} (hag : ∀ s, s < ns → k1 s = kd s ∧ k2 s = fr s ∧ k3 s = hor s ∧ k4 s = pw s) :
    kPair (N, nc, low, cat, cwet, chi, k1, k2, k3, k4) wind ns p r w = kPair (N, nc, low, cat, cwet, chi, kd, fr, hor, pw) wind ns p r w := by
  have hu : ∀ {a b : kA} {x y : Int32}, (∀ s, s < ns → a s = b s) → ∀ s, kPset ns p r s = true → upd (upd a ns x) (ns + 1) y s = upd (upd b ns x) (ns + 1) y s := by
    intro a b x y h s hs
    rcases of_decide_eq_true hs with q | ⟨q, _⟩ | ⟨q, _⟩
    · rw [pk_un (by omega), pk_un (by omega), pk_un (by omega), pk_un (by omega)]; exact h s q
    · rw [q, pk_un (by omega), pk_us, pk_un (by omega), pk_us]
    · rw [q, pk_us, pk_us]
  exact kDay_same (g := kPg (N, nc, low, cat, cwet, chi, k1, k2, k3, k4) ns p r w) (g' := kPg (N, nc, low, cat, cwet, chi, kd, fr, hor, pw) ns p r w) ⟨rfl, rfl, rfl, rfl, rfl, rfl, fun s _ hs => ⟨hu (fun s h => (hag s h).1) s hs, hu (fun s h => (hag s h).2.1) s hs, hu (fun s h => (hag s h).2.2.1) s hs, hu (fun s h => (hag s h).2.2.2) s hs⟩⟩ wind 12
