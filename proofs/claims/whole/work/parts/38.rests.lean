/-! part 38: the rests of a duel -/
theorem kPn_in (P : Nat → Bool) (n i : Nat) : kPn P n i = 96 ∨ kPn P n i < n := by
  rcases Nat.lt_or_ge i (kCn P n) with h | h
  · exact Or.inr (kPn_lt h)
  · exact Or.inl (kPn_ge h)
def kRow (R : Nat → Bool) (c : Nat × Int32) (F : Nat → Int32) : Nat → Nat × Int32
  | 0 => c
  | j + 1 => if R j = true then ((kRow R c F j).1 + 1, if (kRow R c F j).1 = 0 then F j else (kRow R c F j).2) else kRow R c F j
def kRst (R : Nat → Nat → Bool) (F : Nat → Nat → Int32) (n2 : Nat) : Nat → Nat × Int32
  | 0 => (0, -9)
  | i + 1 => kRow (R i) (kRst R F n2 i) (F i) n2
def kRestP (Y1 Y2 : Nat → Nat → Int32) (n1 n2 i j : Nat) : Bool := decide ((∀ k, k < n1 → Y1 k j ≤ Y1 i j) ∧ (∀ k, k < n2 → Y2 i k ≤ Y2 i j))
def kDuY (g : kG) (wind : Int32) (club need worth : kA) (ns : Nat) (P1 P2 : Nat → Bool) (w oc : Int32) (i j : Nat) : Int32 := kYd club need worth oc (gN g) (kPair g wind ns (kPn P1 (12 * gN g) i) (kPn P2 (12 * gN g) j) w)
def kDuF (P1 P2 : Nat → Bool) (n : Nat) (i j : Nat) : Int32 := nI (100 * kPn P1 n i + kPn P2 n j)
def kDuel (g : kG) (wind forb : Int32) (club need worth : kA) (ns : Nat) (x y w : Int32) : Nat × Int32 :=
  kRst (kRestP (kDuY g wind club need worth ns (kOkP club forb x) (kOkP club forb y) w x) (kDuY g wind club need worth ns (kOkP club forb x) (kOkP club forb y) w y) (kCn (kOkP club forb x) (12 * gN g) + 1) (kCn (kOkP club forb y) (12 * gN g) + 1)) (kDuF (kOkP club forb x) (kOkP club forb y) (12 * gN g)) (kCn (kOkP club forb y) (12 * gN g) + 1) (kCn (kOkP club forb x) (12 * gN g) + 1)
def kF_rests (g : kG) (wind forb : Int32) (club need worth : kA) (ns : Nat) (x y z u : Int32) : Int32 :=
  if 0 ≤ x ∧ x ≤ 3 then (if 0 ≤ y ∧ y ≤ 3 then (if x = y then -1 else (if 1 ≤ z ∧ z ≤ 9 then (if 0 ≤ u ∧ u ≤ 1 then (if gN g = 0 then -3 else (if u = 0 then nI (kDuel g wind forb club need worth ns x y z).1 else (kDuel g wind forb club need worth ns x y z).2)) else -2) else -2)) else -1) else -1
theorem kOk_dis {club : kA} {forb x y : Int32} (hx : 0 ≤ x) (hy : 0 ≤ y) (h : ¬ x = y) : ∀ k, kOkP club forb x k = true → kOkP club forb y k = true → False := by
  intro k a b
  rcases (of_decide_eq_true a).1 with e | e
  · rw [e] at hx; exact absurd hx (by decide)
  · rcases (of_decide_eq_true b).1 with e2 | e2
    · rw [e2] at hy; exact absurd hy (by decide)
    · exact h (e.symm.trans e2)
theorem kDu_m {club : kA} {forb x y : Int32} {N : Nat} (hN : N ≤ 8) (hx : 0 ≤ x) (hy : 0 ≤ y) (h : ¬ x = y) : (kCn (kOkP club forb x) (12 * N) + 1) * (kCn (kOkP club forb y) (12 * N) + 1) ≤ 2401 := by
  have := kCn_two (kOk_dis (club := club) (forb := forb) hx hy h) (12 * N)
  exact kMul2 (by omega)
theorem kIx_ne {n2 i j i1 j1 : Nat} (hi : i < i1) (hj : j < n2) : ¬ n2 * i + j = n2 * i1 + j1 := by
  have h1 : n2 * (i + 1) ≤ n2 * i1 := Nat.mul_le_mul_left n2 hi
  rw [Nat.mul_succ] at h1
  omega
theorem kRow_y {R : Nat → Bool} {F : Nat → Int32} {c : Nat × Int32} {j k : Nat} {f : Int32} (h : (k, f) = kRow R c F j) (hr : R j = true) (hf : k = 0) : (k + 1, F j) = kRow R c F (j + 1) := by
  rw [kRow, if_pos hr, ← h, if_pos hf]
theorem kRow_z {R : Nat → Bool} {F : Nat → Int32} {c : Nat × Int32} {j k : Nat} {f : Int32} (h : (k, f) = kRow R c F j) (hr : R j = true) (hf : ¬ k = 0) : (k + 1, f) = kRow R c F (j + 1) := by
  rw [kRow, if_pos hr, ← h, if_neg hf]
theorem kRow_n {R : Nat → Bool} {F : Nat → Int32} {c : Nat × Int32} {j k : Nat} {f : Int32} (h : (k, f) = kRow R c F j) (hr : R j = false) : (k, f) = kRow R c F (j + 1) := by
  rw [kRow, if_neg (by rw [hr]; decide)]; exact h
theorem kRow_9 {R : Nat → Bool} {F : Nat → Int32} {c : Nat × Int32} (hF : ∀ j, ¬ F j = -9) (hc : c.1 = 0 ↔ c.2 = -9) : ∀ j, (kRow R c F j).1 = 0 ↔ (kRow R c F j).2 = -9
  | 0 => hc
  | j + 1 => by
    have ih := kRow_9 (R := R) hF hc j
    rw [kRow]
    split
    · show (kRow R c F j).1 + 1 = 0 ↔ (if (kRow R c F j).1 = 0 then F j else (kRow R c F j).2) = -9
      split
      · exact ⟨fun q => absurd q (Nat.succ_ne_zero _), fun q => absurd q (hF j)⟩
      · rename_i z
        exact ⟨fun q => absurd q (Nat.succ_ne_zero _), fun q => absurd (ih.mpr q) z⟩
    · exact ih
theorem kRst_9 {R : Nat → Nat → Bool} {F : Nat → Nat → Int32} {n2 : Nat} (hF : ∀ i j, ¬ F i j = -9) : ∀ i, (kRst R F n2 i).1 = 0 ↔ (kRst R F n2 i).2 = -9
  | 0 => ⟨fun _ => rfl, fun _ => rfl⟩
  | i + 1 => kRow_9 (hF i) (kRst_9 hF i) n2
theorem kRow_le {R : Nat → Bool} {F : Nat → Int32} {c : Nat × Int32} : ∀ j, (kRow R c F j).1 ≤ c.1 + j
  | 0 => Nat.le_refl _
  | j + 1 => by
    have := kRow_le (R := R) (F := F) (c := c) j
    rw [kRow]
    split
    · show (kRow R c F j).1 + 1 ≤ c.1 + (j + 1)
      omega
    · omega
theorem kRst_le {R : Nat → Nat → Bool} {F : Nat → Nat → Int32} {n2 : Nat} : ∀ i, (kRst R F n2 i).1 ≤ n2 * i
  | 0 => Nat.zero_le _
  | i + 1 => by
    have := kRst_le (R := R) (F := F) (n2 := n2) i
    have h2 := kRow_le (R := R i) (F := F i) (c := kRst R F n2 i) n2
    rw [kRst, Nat.mul_succ]
    omega
theorem kRP_iff {oh th : kA} {Y1 Y2 : Nat → Nat → Int32} {n1 n2 i j : Nat} (h : ∀ i, i < n1 → ∀ j, j < n2 → oh (n2 * i + j) = Y1 i j ∧ th (n2 * i + j) = Y2 i j) (hi : i < n1) (hj : j < n2) : ((∀ k, k < n1 → oh (n2 * k + j) ≤ oh (n2 * i + j)) ∧ (∀ k, k < n2 → th (n2 * i + k) ≤ th (n2 * i + j))) ↔ ((∀ k, k < n1 → Y1 k j ≤ Y1 i j) ∧ (∀ k, k < n2 → Y2 i k ≤ Y2 i j)) := by
  constructor
  · rintro ⟨a, b⟩
    refine ⟨fun k hk => ?_, fun k hk => ?_⟩
    · have := a k hk; rw [(h k hk j hj).1, (h i hi j hj).1] at this; exact this
    · have := b k hk; rw [(h i hi k hk).2, (h i hi j hj).2] at this; exact this
  · rintro ⟨a, b⟩
    refine ⟨fun k hk => ?_, fun k hk => ?_⟩
    · rw [(h k hk j hj).1, (h i hi j hj).1]; exact a k hk
    · rw [(h i hi k hk).2, (h i hi j hj).2]; exact b k hk
theorem kDuF_9 {P1 P2 : Nat → Bool} {n : Nat} (hn : n ≤ 96) : ∀ i j, ¬ kDuF P1 P2 n i j = -9 := by
  intro i j e
  have h1 := kPn_in P1 n i
  have h2 := kPn_in P2 n j
  exact absurd (show kDuF P1 P2 n i j < 0 by rw [e]; decide) (nI_pos (by omega))
theorem kFill_in {a : kA} {Y : Nat → Nat → Int32} {n2 i1 j1 : Nat} {v : Int32} (h : ∀ i, i < i1 → ∀ j, j < n2 → a (n2 * i + j) = Y i j) : ∀ i, i < i1 → ∀ j, j < n2 → upd a (n2 * i1 + j1) v (n2 * i + j) = Y i j := fun i hi j hj => by
  rw [pk_un (kIx_ne hi hj)]; exact h i hi j hj
theorem kFill_row {a : kA} {Y : Nat → Nat → Int32} {n2 i1 j1 : Nat} {v : Int32} (h : ∀ j, j < j1 → a (n2 * i1 + j) = Y i1 j) (hv : v = Y i1 j1) : ∀ j, j < j1 + 1 → upd a (n2 * i1 + j1) v (n2 * i1 + j) = Y i1 j := fun j hj => by
  by_cases e : j = j1
  · subst e; rw [pk_us]; exact hv
  · rw [pk_un (by omega)]; exact h j (by omega)
theorem kFill_end {a : kA} {Y : Nat → Nat → Int32} {n2 i1 j1 : Nat} (h : ∀ i, i < i1 → ∀ j, j < n2 → a (n2 * i + j) = Y i j) (h2 : ∀ j, j < j1 → a (n2 * i1 + j) = Y i1 j) (e : j1 = n2) : ∀ i, i < i1 + 1 → ∀ j, j < n2 → a (n2 * i + j) = Y i j := fun i hi j hj => by
  by_cases z : i = i1
  · subst z; exact h2 j (by omega)
  · exact h i (by omega) j hj
