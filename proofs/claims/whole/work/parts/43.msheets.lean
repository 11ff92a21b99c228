/-! part 43: the reference: sheets -/
/-- the reference's rows hold what the sheets hold -/
def kShR (sh : Nat → kSh) (srt sln cel : kA) : Prop := ∀ k, k < 4 → ((sh k).2.1 = -1 → srt k = -9) ∧ (¬ (sh k).2.1 = -1 → srt k = (sh k).1 ∧ sln k = (sh k).2.1) ∧ ∀ i, i < 40 → cel (40 * k + i) = (sh k).2.2 i
theorem kR_s {sh : Nat → kSh} {srt sln cel : kA} (hR : kShR sh srt sln cel) (_ : kShOk sh) {k : Nat} (hk : k < 4) (h : ¬ srt k = -9) : ¬ (sh k).2.1 = -1 ∧ srt k = (sh k).1 ∧ sln k = (sh k).2.1 :=
  have h1 : ¬ (sh k).2.1 = -1 := fun q => h ((hR k hk).1 q)
  ⟨h1, (hR k hk).2.1 h1⟩
theorem kR_n {sh : Nat → kSh} {srt sln cel : kA} (hR : kShR sh srt sln cel) (ho : kShOk sh) {k : Nat} (hk : k < 4) (h : srt k = -9) : (sh k).2.1 = -1 := by
  rcases ho k hk with q | q
  · exact q
  · by_cases h1 : (sh k).2.1 = -1
    · exact h1
    · have e := ((hR k hk).2.1 h1).1
      rw [h] at e
      rw [← e] at q
      exact absurd q.2.1 (by decide)
theorem kR_c {sh : Nat → kSh} {srt sln cel : kA} (hR : kShR sh srt sln cel) {k i f : Nat} (hk : k < 4) (h : i + f < 40) : cel (40 * k + i + f) = (sh k).2.2 (i + f) := by
  rw [Nat.add_assoc]
  exact (hR k hk).2.2 (i + f) h
def kAg (s : kSh) (so i n : Int32) : Int32 :=
  if s.2.1 = -1 then 1 else if s.1 = so then (if 0 ≤ n then (if 0 ≤ i ∧ (0 : Int32) ≤ n ∧ i ≤ s.2.1 ∧ n ≤ s.2.1 - i then 0 else 3) else 4) else 2
theorem kAg_1 {s : kSh} {z i n : Int32} (h : s.2.1 = -1) : 1 = kAg s z i n := by rw [kAg, if_pos h]
theorem kAg_2 {s : kSh} {x y z i n : Int32} (h : ¬ s.2.1 = -1 ∧ x = s.1 ∧ y = s.2.1) (h2 : ¬ x = z) : 2 = kAg s z i n := by
  rw [kAg, if_neg h.1, if_neg (h.2.1 ▸ h2)]
theorem kAg_4 {s : kSh} {x y z i n : Int32} (h : ¬ s.2.1 = -1 ∧ x = s.1 ∧ y = s.2.1) (h2 : x = z) (h3 : ¬ 0 ≤ n) : 4 = kAg s z i n := by
  rw [kAg, if_neg h.1, if_pos (h.2.1.symm.trans h2), if_neg h3]
theorem kAg_0 {s : kSh} {x y z i n : Int32} (h : ¬ s.2.1 = -1 ∧ x = s.1 ∧ y = s.2.1) (h2 : x = z) (h3 : 0 ≤ n) (h4 : ¬ i < 0) (h5 : ¬ y < i) (h6 : n ≤ y - i) : 0 = kAg s z i n := by
  rw [h.2.2] at h5 h6
  rw [kAg, if_neg h.1, if_pos (h.2.1.symm.trans h2), if_pos h3, if_pos ⟨Int32.not_lt.mp h4, h3, Int32.not_lt.mp h5, h6⟩]
theorem kAg_3 {s : kSh} {x y z i n : Int32} (h : ¬ s.2.1 = -1 ∧ x = s.1 ∧ y = s.2.1) (h2 : x = z) (h3 : 0 ≤ n) (h4 : i < 0 ∨ y < i ∨ ¬ n ≤ y - i) : 3 = kAg s z i n := by
  rw [h.2.2] at h4
  rw [kAg, if_neg h.1, if_pos (h.2.1.symm.trans h2), if_pos h3, if_neg]
  rintro ⟨q1, _, q2, q3⟩
  rcases h4 with q | q | q
  · exact Int32.not_le.mpr q q1
  · exact Int32.not_le.mpr q q2
  · exact q q3
theorem kAg_c (s : kSh) (so i n : Int32) : (s.2.1 = -1 ∧ kAg s so i n = 1) ∨ (¬ s.2.1 = -1 ∧ ¬ s.1 = so ∧ kAg s so i n = 2) ∨ (¬ s.2.1 = -1 ∧ s.1 = so ∧ ¬ 0 ≤ n ∧ kAg s so i n = 4) ∨ (¬ s.2.1 = -1 ∧ s.1 = so ∧ 0 ≤ n ∧ ¬ (0 ≤ i ∧ (0 : Int32) ≤ n ∧ i ≤ s.2.1 ∧ n ≤ s.2.1 - i) ∧ kAg s so i n = 3) ∨ (¬ s.2.1 = -1 ∧ s.1 = so ∧ 0 ≤ n ∧ (0 ≤ i ∧ (0 : Int32) ≤ n ∧ i ≤ s.2.1 ∧ n ≤ s.2.1 - i) ∧ kAg s so i n = 0) := by
  by_cases h9 : s.2.1 = -1
  · exact Or.inl ⟨h9, kAg_1 h9 |>.symm⟩
  · by_cases h8 : s.1 = so
    · by_cases h7 : 0 ≤ n
      · by_cases h6 : 0 ≤ i ∧ (0 : Int32) ≤ n ∧ i ≤ s.2.1 ∧ n ≤ s.2.1 - i
        · exact Or.inr (Or.inr (Or.inr (Or.inr ⟨h9, h8, h7, h6, by rw [kAg, if_neg h9, if_pos h8, if_pos h7, if_pos h6]⟩)))
        · exact Or.inr (Or.inr (Or.inr (Or.inl ⟨h9, h8, h7, h6, by rw [kAg, if_neg h9, if_pos h8, if_pos h7, if_neg h6]⟩)))
      · exact Or.inr (Or.inr (Or.inl ⟨h9, h8, h7, by rw [kAg, if_neg h9, if_pos h8, if_neg h7]⟩))
    · exact Or.inr (Or.inl ⟨h9, h8, by rw [kAg, if_neg h9, if_neg h8]⟩)
theorem kAg_cN {s : kSh} {so i : Int32} {N : Nat} (hN : N ≤ 8) : (s.2.1 = -1 ∧ kAg s so i (nI N) = 1) ∨ (¬ s.2.1 = -1 ∧ ¬ s.1 = so ∧ kAg s so i (nI N) = 2) ∨ (¬ s.2.1 = -1 ∧ s.1 = so ∧ ¬ (0 ≤ i ∧ (0 : Int32) ≤ nI N ∧ i ≤ s.2.1 ∧ nI N ≤ s.2.1 - i) ∧ kAg s so i (nI N) = 3) ∨ (¬ s.2.1 = -1 ∧ s.1 = so ∧ (0 ≤ i ∧ (0 : Int32) ≤ nI N ∧ i ≤ s.2.1 ∧ nI N ≤ s.2.1 - i) ∧ kAg s so i (nI N) = 0) := by
  rcases kAg_c s so i (nI N) with h | h | h | h | h
  · exact Or.inl h
  · exact Or.inr (Or.inl h)
  · exact absurd (nI_pos' (by omega)) h.2.2.1
  · exact Or.inr (Or.inr (Or.inl ⟨h.1, h.2.1, h.2.2.2⟩))
  · exact Or.inr (Or.inr (Or.inr ⟨h.1, h.2.1, h.2.2.2⟩))
theorem kFill_s {a b : kA} {o i : Nat} (h : ∀ p, a p = if o ≤ p ∧ p < o + i then 0 else b p) (p : Nat) : upd a (o + i) 0 p = if o ≤ p ∧ p < o + (i + 1) then 0 else b p := by
  by_cases e : p = o + i
  · subst e; rw [pk_us, if_pos (by omega)]
  · rw [pk_un e, h p]
    by_cases q : o ≤ p ∧ p < o + i
    · rw [if_pos q, if_pos (by omega)]
    · rw [if_neg q, if_neg (by omega)]
theorem kUp_s {α : Type} {f : Nat → α} {k : Nat} {v : α} : va_up f k v k = v := if_pos rfl
theorem kUp_n {α : Type} {f : Nat → α} {k i : Nat} {v : α} (h : ¬ i = k) : va_up f k v i = f i := if_neg h
theorem kneg1 {z : Int32} (h : 0 ≤ z) : ¬ z = -1 := fun q => absurd (q ▸ h) (by decide)
theorem kShR_sheet {sh : Nat → kSh} {srt sln cel cel1 : kA} {y z : Int32} {j i1 : Nat} (hR : kShR sh srt sln cel) (hj : j < 4) (hz : 0 ≤ z) (hi : i1 = 40) (hce : ∀ p, cel1 p = if 40 * j ≤ p ∧ p < 40 * j + i1 then 0 else cel p) : kShR (va_up sh j (y, z, fun _ => 0)) (upd srt j y) (upd sln j z) cel1 := by
  intro k hk
  by_cases e : k = j
  · subst e
    rw [kUp_s, pk_us, pk_us]
    exact ⟨fun q => absurd q (kneg1 hz), fun _ => ⟨rfl, rfl⟩, fun i h => by rw [hce, if_pos (by omega)]⟩
  · rw [kUp_n e, pk_un e, pk_un e]
    exact ⟨(hR k hk).1, (hR k hk).2.1, fun i h => by rw [hce, if_neg (by omega)]; exact (hR k hk).2.2 i h⟩
theorem kShR_lose {sh : Nat → kSh} {srt sln cel : kA} {j : Nat} (hR : kShR sh srt sln cel) (hj : j < 4) : kShR (va_up sh j ((sh j).1, -1, (sh j).2.2)) (upd srt j (-9)) sln cel := by
  intro k hk
  by_cases e : k = j
  · subst e
    rw [kUp_s, pk_us]
    exact ⟨fun _ => rfl, fun q => absurd rfl q, fun i h => (hR k hk).2.2 i h⟩
  · rw [kUp_n e, pk_un e]
    exact hR k hk
theorem kShR_put {sh : Nat → kSh} {srt sln cel : kA} {j i0 : Nat} {v w : Int32} (hR : kShR sh srt sln cel) (hj : j < 4) (hi : i0 < 40) (hv : w = v) : kShR (va_up sh j ((sh j).1, (sh j).2.1, upd (sh j).2.2 i0 v)) srt sln (upd cel (40 * j + i0) w) := by
  subst hv
  intro k hk
  by_cases e : k = j
  · subst e
    rw [kUp_s]
    refine ⟨(hR k hk).1, (hR k hk).2.1, fun i h => ?_⟩
    by_cases e2 : i = i0
    · subst e2
      show upd cel (40 * k + i) w (40 * k + i) = upd (sh k).2.2 i w i
      rw [pk_us, pk_us]
    · show upd cel (40 * k + i0) w (40 * k + i) = upd (sh k).2.2 i0 w i
      rw [pk_un (by omega), pk_un e2]; exact (hR k hk).2.2 i h
  · rw [kUp_n e]
    exact ⟨(hR k hk).1, (hR k hk).2.1, fun i h => by rw [pk_un (by omega)]; exact (hR k hk).2.2 i h⟩
theorem kCut_0 {so x z : Int32} (h : x = so) (h0 : x = 0) : z.toInt8.toInt32 = kCut so z := by
  subst h; rw [kCut, if_pos h0]
theorem kCut_1 {so x z : Int32} (h : x = so) (h0 : ¬ x = 0) (h1 : x = 1) : z.toInt16.toInt32 = kCut so z := by
  subst h; rw [kCut, if_neg h0, if_pos h1]
theorem kCut_2 {so x z : Int32} (h : x = so) (h0 : ¬ x = 0) (h1 : ¬ x = 1) : z = kCut so z := by
  subst h; rw [kCut, if_neg h0, if_neg h1]
theorem kpred1 {m : Nat} (h : 1 ≤ m) : nI m - 1 = nI (m - 1) := by
  obtain ⟨k, rfl⟩ : ∃ k, m = k + 1 := ⟨m - 1, by omega⟩
  exact nI_pred k
theorem kIn_to {s : kSh} {i n : Int32} (h : s.2.1 = -1 ∨ ((0 ≤ s.2.1 ∧ s.2.1 ≤ 40) ∧ 0 ≤ s.1 ∧ s.1 ≤ 2)) (hn : ¬ s.2.1 = -1) (hl : n = s.2.1) (q : 0 ≤ i ∧ i < s.2.1) : 0 ≤ i ∧ i ≤ n - 1 := by
  obtain ⟨m, hm, e⟩ := kLen h hn
  rw [hl, e]
  rw [e] at q
  obtain ⟨j, hj, rfl⟩ := kix q (by omega)
  rw [kpred1 (by omega)]
  exact ⟨q.1, nI_le (by omega) (by omega)⟩
theorem kIn_of {s : kSh} {i n : Int32} (h : s.2.1 = -1 ∨ ((0 ≤ s.2.1 ∧ s.2.1 ≤ 40) ∧ 0 ≤ s.1 ∧ s.1 ≤ 2)) (hn : ¬ s.2.1 = -1) (hl : n = s.2.1) (q : 0 ≤ i ∧ i ≤ n - 1) : 0 ≤ i ∧ i < s.2.1 := by
  obtain ⟨m, hm, e⟩ := kLen h hn
  rw [hl, e] at q
  rw [e]
  rcases Nat.eq_zero_or_pos m with z | z
  · subst z
    exact absurd (Int32.le_trans q.1 q.2) (by decide)
  · rw [kpred1 z] at q
    obtain ⟨j, hj, rfl⟩ := kixle q (by omega)
    exact ⟨q.1, nI_lt (by omega) (by omega)⟩
theorem kCp_up {a b : kA} {S D k : Nat} (h : ∀ q, a q = if D + 0 ≤ q ∧ q < D + k then b (S + (q - D)) else b q) (hn : ¬ (D ≤ S + k ∧ S + k < D + k)) : ∀ q, upd a (D + k) (a (S + k)) q = if D + 0 ≤ q ∧ q < D + (k + 1) then b (S + (q - D)) else b q := by
  intro q
  by_cases e : q = D + k
  · subst e
    rw [pk_us, h, if_neg (by omega), if_pos (by omega), show D + k - D = k by omega]
  · rw [pk_un e, h q]
    by_cases z : D + 0 ≤ q ∧ q < D + k
    · rw [if_pos z, if_pos (by omega)]
    · rw [if_neg z, if_neg (by omega)]
theorem kCp_dn {a b : kA} {S D m k : Nat} (h : ∀ q, a q = if D + (m - k) ≤ q ∧ q < D + m then b (S + (q - D)) else b q) (hk : k < m) (hn : ¬ (D + (m - k) ≤ S + (m - 1 - k) ∧ S + (m - 1 - k) < D + m)) : ∀ q, upd a (D + (m - 1 - k)) (a (S + (m - 1 - k))) q = if D + (m - (k + 1)) ≤ q ∧ q < D + m then b (S + (q - D)) else b q := by
  intro q
  by_cases e : q = D + (m - 1 - k)
  · subst e
    rw [pk_us, h, if_neg hn, if_pos (by omega), show D + (m - 1 - k) - D = m - 1 - k by omega]
  · rw [pk_un e, h q]
    by_cases z : D + (m - k) ≤ q ∧ q < D + m
    · rw [if_pos z, if_pos (by omega)]
    · rw [if_neg z, if_neg (by omega)]
theorem kCp_end {a b : kA} {S D m k i0 o0 : Nat} (h : (i0 < o0 → ∀ q, a q = if D + (m - k) ≤ q ∧ q < D + m then b (S + (q - D)) else b q) ∧ (¬ i0 < o0 → ∀ q, a q = if D + 0 ≤ q ∧ q < D + k then b (S + (q - D)) else b q)) (hk : k = m) : ∀ q, a q = if D ≤ q ∧ q < D + m then b (S + (q - D)) else b q := by
  subst hk
  by_cases e : i0 < o0
  · have := h.1 e
    rw [Nat.sub_self] at this
    exact this
  · exact h.2 e
theorem kCp2 {A B : Prop} [Decidable A] [Decidable B] {α : Type} {P Q : α} (h : ¬ (A ∧ B)) : Q = if A then (if B then P else Q) else Q := by
  by_cases a : A
  · rw [if_pos a, if_neg (fun b => h ⟨a, b⟩)]
  · rw [if_neg a]
theorem kShR_copy {sh : Nat → kSh} {srt sln cel cel1 : kA} {j jo i0 o0 m0 : Nat} (hR : kShR sh srt sln cel) (hj : j < 4) (hjo : jo < 4) (h1 : i0 + m0 ≤ 40) (h2 : o0 + m0 ≤ 40) (h : ∀ q, cel1 q = if 40 * jo + o0 ≤ q ∧ q < 40 * jo + o0 + m0 then cel (40 * j + i0 + (q - (40 * jo + o0))) else cel q) : kShR (va_up sh jo ((sh jo).1, (sh jo).2.1, va_cpy (sh j).2.2 (sh jo).2.2 i0 o0 m0)) srt sln cel1 := by
  intro k hk
  by_cases e : k = jo
  · subst e
    rw [kUp_s]
    refine ⟨(hR k hk).1, (hR k hk).2.1, fun i hi => ?_⟩
    show cel1 (40 * k + i) = if o0 ≤ i ∧ i < o0 + m0 then (sh j).2.2 (i0 + (i - o0)) else (sh k).2.2 i
    rw [h]
    by_cases z : o0 ≤ i ∧ i < o0 + m0
    · rw [if_pos z, if_pos (by omega), show 40 * j + i0 + (40 * k + i - (40 * k + o0)) = 40 * j + (i0 + (i - o0)) by omega]
      exact (hR j hj).2.2 _ (by omega)
    · rw [if_neg z, if_neg (by omega)]
      exact (hR k hk).2.2 i hi
  · rw [kUp_n e]
    refine ⟨(hR k hk).1, (hR k hk).2.1, fun i hi => ?_⟩
    rw [h, if_neg (by omega)]
    exact (hR k hk).2.2 i hi
theorem kMs_iff {u t : kA} {i0 n : Nat} (hu : ∀ f9, f9 < n → u f9 = t (i0 + f9)) (a : kA) : (∀ f9, f9 < n → a f9 = u f9) ↔ (∀ f9, f9 < n → a f9 = t (i0 + f9)) := ⟨fun q f hf => (q f hf).trans (hu f hf), fun q f hf => (q f hf).trans (hu f hf).symm⟩
theorem kMs_bits {g : kG} {wind : Int32} {ns s1 i0 : Nat} {u t : kA} {b : Int32} (hu : ∀ f9, f9 < gN g → u f9 = t (i0 + f9)) (hs : s1 = ns) (hb : b = kBits (fun s => decide (∀ f9, f9 < gN g → (kDay g wind (kBut ns s) 12).2.1 f9 = u f9)) s1) : b = kBits (fun s => decide (∀ f9, f9 < gN g → (kDay g wind (kBut ns s) 12).2.1 f9 = t (i0 + f9))) ns := by
  rw [hb, hs]
  exact congrArg (fun q => kBits q ns) (funext fun s => decide_eq_decide.mpr (kMs_iff hu _))
theorem kMs_y {g : kG} {wind : Int32} {ns s1 i0 : Nat} {u t : kA} {b : Int32} (hu : ∀ f9, f9 < gN g → u f9 = t (i0 + f9)) (hs : s1 = ns) (hb : b = kBits (fun s => decide (∀ f9, f9 < gN g → (kDay g wind (kBut ns s) 12).2.1 f9 = u f9)) s1) (h : ∀ f9, f9 < gN g → (kDay g wind (kAll ns) 12).2.1 f9 = u f9) : b ||| 256 = kMs g wind ns t i0 := by
  rw [kMs, if_pos ((kMs_iff hu _).mp h), kMs_bits hu hs hb]
theorem kMs_n {g : kG} {wind : Int32} {ns s1 i0 : Nat} {u t : kA} {b : Int32} (hu : ∀ f9, f9 < gN g → u f9 = t (i0 + f9)) (hs : s1 = ns) (hb : b = kBits (fun s => decide (∀ f9, f9 < gN g → (kDay g wind (kBut ns s) 12).2.1 f9 = u f9)) s1) (h : ¬ ∀ f9, f9 < gN g → (kDay g wind (kAll ns) 12).2.1 f9 = u f9) : b ||| 0 = kMs g wind ns t i0 := by
  rw [kMs, if_neg (fun q => h ((kMs_iff hu _).mpr q)), Int32.or_zero, kMs_bits hu hs hb]
theorem hiX8_against_X8 : ∀ w ∈ wsX80, w ∈ wsX8_against := fun _ h => (List.mem_cons_of_mem _ (List.mem_append_right _ h))
theorem hdX8_against : yX8_against.cls = RX8 ∧ yX8_against.cls ≠ "java/lang/invoke/MethodHandle" ∧ yX8_against.cls ≠ "java/lang/invoke/VarHandle" ∧ (parseMethodDescriptor yX8_against.desc).map (fun d => d.parameters.length) = some 4 := by decide +kernel
set_option maxRecDepth 100000 in
set_option maxHeartbeats 4000000 in
theorem kX8_against (l : Launch) (D : va_G) (cI cS : ClassId) (sh : Nat → kSh) (bd : Nat → Nat) (mf : Int32) (mt : Int32) (N : Nat) (wind : Int32) (low : Int32) (forb : Int32) (mat : Int32) (mrf : Int32) (nc : Nat) (ns : Nat) (bw : Int32) (fi : Int32) (mon : Int32) (mot : Int32) (srt : Nat → Int32) (sln : Nat → Int32) (cel : Nat → Int32) (j : Nat) (z : Int32) (i : Int32) (n : Int32) (hR : kShR sh srt sln cel) (hsh : kShOk sh) (hj : j < 4) : kyM l yX8_against wsX8_against ({ frames := 0, cells := 0, slots := 0, locals := 0 }) D cI cS [.ref (bd 0), .int (nI j), .int z, .int i, .int n] [(bd 0, .inr (8, [.int mf, .int mt, .ref (bd 1), .ref (bd 2), .ref (bd 3), .int (nI N), .ref (bd 4), .ref (bd 5), .ref (bd 6), .int wind, .int low, .int forb, .int mat, .int mrf, .ref (bd 7), .ref (bd 8), .ref (bd 9), .int (nI nc), .ref (bd 10), .ref (bd 11), .ref (bd 12), .int (nI ns), .ref (bd 13), .ref (bd 14), .ref (bd 15), .ref (bd 16), .int bw, .int fi, .ref (bd 17), .ref (bd 18), .ref (bd 19), .ref (bd 20), .ref (bd 21), .ref (bd 22), .ref (bd 23), .ref (bd 24), .ref (bd 25), .ref (bd 26), .int mon, .int mot, .ref (bd 27), .ref (bd 28), .ref (bd 29), .ref (bd 30)])), (bd 1, .inl (cI, 4, .inl srt)), (bd 2, .inl (cI, 4, .inl sln)), (bd 3, .inl (cI, 160, .inl cel))] 0 0 (fun vR wR => vR = some (.int (kAg (sh j) z i n)) ∧ wR = [(bd 0, .inr (8, [.int mf, .int mt, .ref (bd 1), .ref (bd 2), .ref (bd 3), .int (nI N), .ref (bd 4), .ref (bd 5), .ref (bd 6), .int wind, .int low, .int forb, .int mat, .int mrf, .ref (bd 7), .ref (bd 8), .ref (bd 9), .int (nI nc), .ref (bd 10), .ref (bd 11), .ref (bd 12), .int (nI ns), .ref (bd 13), .ref (bd 14), .ref (bd 15), .ref (bd 16), .int bw, .int fi, .ref (bd 17), .ref (bd 18), .ref (bd 19), .ref (bd 20), .ref (bd 21), .ref (bd 22), .ref (bd 23), .ref (bd 24), .ref (bd 25), .ref (bd 26), .int mon, .int mot, .ref (bd 27), .ref (bd 28), .ref (bd 29), .ref (bd 30)])), (bd 1, .inl (cI, 4, .inl srt)), (bd 2, .inl (cI, 4, .inl sln)), (bd 3, .inl (cI, 160, .inl cel))]) := by
  refine ky_start (own := RX8) (cc := cX8_against) (nL := 5) (ret := (some .int)) (by decide) rfl rfl (Nat.le_of_ble_eq_true rfl) ?_
  intro p e s m args below meth c C hr hlk hnm
  refine ky_conv (lv' := [(0, .ref (bd 0)), (1, .int (nI j)), (2, .int z), (3, .int i), (4, .int n)]) (List.range 5) rfl rfl rfl ?_
  refine ky_aload_n C 0 dX8_against_0 rfl rfl ?_
  refine ky_get C (ci := 8) (T := TX8) (N := 44) (Cn := RX8) (ref := "RainAccountModel") hiX8_against_X8 0 rfl rfl 2 (by decide) (List.mem_of_getElem? (i := 1) rfl) rfl (v := .ref (bd 1)) rfl dX8_against_1 ?_
  refine ky_iload_n C 1 dX8_against_4 rfl rfl ?_
  refine ky_ialdN C 1 (k := j) rfl (by omega) (by decide) dX8_against_5 (v := srt j) rfl ?_
  refine ky_bipush C dX8_against_6 (v := (-9)) (by decide) ?_
  refine ky_icmp_eq C 23 dX8_against_8 (by decide) (fun c_8 => ?_) (fun c_8 => ?_)
  · refine ky_aload_n C 0 dX8_against_23 rfl rfl ?_
    refine ky_get C (ci := 8) (T := TX8) (N := 44) (Cn := RX8) (ref := "RainAccountModel") hiX8_against_X8 0 rfl rfl 2 (by decide) (List.mem_of_getElem? (i := 1) rfl) rfl (v := .ref (bd 1)) rfl dX8_against_24 ?_
    refine ky_iload_n C 1 dX8_against_27 rfl rfl ?_
    refine ky_ialdN C 1 (k := j) rfl (by omega) (by decide) dX8_against_28 (v := srt j) rfl ?_
    refine ky_bipush C dX8_against_29 (v := (-9)) (by decide) ?_
    refine ky_icmp_ne C 36 dX8_against_31 (by decide) (fun q => absurd c_8 q) (fun c_31 => ?_)
    refine ky_iconst C dX8_against_34 (v := 1) (by decide) ?_
    exact ky_iret C hr hlk ⟨congrArg (fun z => some (Value.int z)) (show (1) = (kAg (sh j) z i n) from by exact kAg_1 (kR_n hR hsh hj c_8)), rfl⟩ (Nat.le_of_ble_eq_true rfl) dX8_against_35
  · refine ky_aload_n C 0 dX8_against_11 rfl rfl ?_
    refine ky_get C (ci := 8) (T := TX8) (N := 44) (Cn := RX8) (ref := "RainAccountModel") hiX8_against_X8 0 rfl rfl 2 (by decide) (List.mem_of_getElem? (i := 1) rfl) rfl (v := .ref (bd 1)) rfl dX8_against_12 ?_
    refine ky_iload_n C 1 dX8_against_15 rfl rfl ?_
    refine ky_ialdN C 1 (k := j) rfl (by omega) (by decide) dX8_against_16 (v := srt j) rfl ?_
    refine ky_iload_n C 2 dX8_against_17 rfl rfl ?_
    refine ky_icmp_eq C 23 dX8_against_18 (by decide) (fun c_18 => ?_) (fun c_18 => ?_)
    · refine ky_aload_n C 0 dX8_against_23 rfl rfl ?_
      refine ky_get C (ci := 8) (T := TX8) (N := 44) (Cn := RX8) (ref := "RainAccountModel") hiX8_against_X8 0 rfl rfl 2 (by decide) (List.mem_of_getElem? (i := 1) rfl) rfl (v := .ref (bd 1)) rfl dX8_against_24 ?_
      refine ky_iload_n C 1 dX8_against_27 rfl rfl ?_
      refine ky_ialdN C 1 (k := j) rfl (by omega) (by decide) dX8_against_28 (v := srt j) rfl ?_
      refine ky_bipush C dX8_against_29 (v := (-9)) (by decide) ?_
      refine ky_icmp_ne C 36 dX8_against_31 (by decide) (fun c_31 => ?_) (fun q => absurd q c_8)
      refine ky_iload C 4 dX8_against_36 rfl ?_
      refine ky_if_ge C 43 dX8_against_38 (by decide) (fun c_38 => ?_) (fun c_38 => ?_)
      · have d_38 := Int32.not_lt.mpr c_38
        refine ky_iload_n C 3 dX8_against_43 rfl rfl ?_
        refine ky_if_lt C 70 dX8_against_44 (by decide) (fun c_44 => ?_) (fun c_44 => ?_)
        · have d_44 := Int32.not_le.mpr c_44
          refine ky_iconst C dX8_against_70 (v := 3) (by decide) ?_
          refine ky_goto C dX8_against_71 (tgt := 75) (by decide) ?_
          exact ky_iret C hr hlk ⟨congrArg (fun z => some (Value.int z)) (show (3) = (kAg (sh j) z i n) from by first | exact kAg_0 (kR_s hR hsh hj c_8) c_18 c_38 c_44 c_54 c_67 | exact kAg_3 (kR_s hR hsh hj c_8) c_18 c_38 (Or.inl c_44) | exact kAg_3 (kR_s hR hsh hj c_8) c_18 c_38 (Or.inr (Or.inl c_54)) | exact kAg_3 (kR_s hR hsh hj c_8) c_18 c_38 (Or.inr (Or.inr c_67))), rfl⟩ (Nat.le_of_ble_eq_true rfl) dX8_against_75
        · have d_44 := Int32.not_lt.mp c_44
          refine ky_iload_n C 3 dX8_against_47 rfl rfl ?_
          refine ky_aload_n C 0 dX8_against_48 rfl rfl ?_
          refine ky_get C (ci := 8) (T := TX8) (N := 44) (Cn := RX8) (ref := "RainAccountModel") hiX8_against_X8 0 rfl rfl 3 (by decide) (List.mem_of_getElem? (i := 2) rfl) rfl (v := .ref (bd 2)) rfl dX8_against_49 ?_
          refine ky_iload_n C 1 dX8_against_52 rfl rfl ?_
          refine ky_ialdN C 2 (k := j) rfl (by omega) (by decide) dX8_against_53 (v := sln j) rfl ?_
          refine ky_icmp_gt C 70 dX8_against_54 (by decide) (fun c_54 => ?_) (fun c_54 => ?_)
          · have d_54 := Int32.not_le.mpr c_54
            refine ky_iconst C dX8_against_70 (v := 3) (by decide) ?_
            refine ky_goto C dX8_against_71 (tgt := 75) (by decide) ?_
            exact ky_iret C hr hlk ⟨congrArg (fun z => some (Value.int z)) (show (3) = (kAg (sh j) z i n) from by first | exact kAg_0 (kR_s hR hsh hj c_8) c_18 c_38 c_44 c_54 c_67 | exact kAg_3 (kR_s hR hsh hj c_8) c_18 c_38 (Or.inl c_44) | exact kAg_3 (kR_s hR hsh hj c_8) c_18 c_38 (Or.inr (Or.inl c_54)) | exact kAg_3 (kR_s hR hsh hj c_8) c_18 c_38 (Or.inr (Or.inr c_67))), rfl⟩ (Nat.le_of_ble_eq_true rfl) dX8_against_75
          · have d_54 := Int32.not_lt.mp c_54
            refine ky_iload C 4 dX8_against_57 rfl ?_
            refine ky_aload_n C 0 dX8_against_59 rfl rfl ?_
            refine ky_get C (ci := 8) (T := TX8) (N := 44) (Cn := RX8) (ref := "RainAccountModel") hiX8_against_X8 0 rfl rfl 3 (by decide) (List.mem_of_getElem? (i := 2) rfl) rfl (v := .ref (bd 2)) rfl dX8_against_60 ?_
            refine ky_iload_n C 1 dX8_against_63 rfl rfl ?_
            refine ky_ialdN C 2 (k := j) rfl (by omega) (by decide) dX8_against_64 (v := sln j) rfl ?_
            refine ky_iload_n C 3 dX8_against_65 rfl rfl ?_
            refine ky_isub C (v := (sln j) - i) dX8_against_66 rfl ?_
            refine ky_icmp_le C 74 dX8_against_67 (by decide) (fun c_67 => ?_) (fun c_67 => ?_)
            · have d_67 := Int32.not_lt.mpr c_67
              refine ky_iconst C dX8_against_74 (v := 0) (by decide) ?_
              exact ky_iret C hr hlk ⟨congrArg (fun z => some (Value.int z)) (show (0) = (kAg (sh j) z i n) from by first | exact kAg_0 (kR_s hR hsh hj c_8) c_18 c_38 c_44 c_54 c_67 | exact kAg_3 (kR_s hR hsh hj c_8) c_18 c_38 (Or.inl c_44) | exact kAg_3 (kR_s hR hsh hj c_8) c_18 c_38 (Or.inr (Or.inl c_54)) | exact kAg_3 (kR_s hR hsh hj c_8) c_18 c_38 (Or.inr (Or.inr c_67))), rfl⟩ (Nat.le_of_ble_eq_true rfl) dX8_against_75
            · have d_67 := Int32.not_le.mp c_67
              refine ky_iconst C dX8_against_70 (v := 3) (by decide) ?_
              refine ky_goto C dX8_against_71 (tgt := 75) (by decide) ?_
              exact ky_iret C hr hlk ⟨congrArg (fun z => some (Value.int z)) (show (3) = (kAg (sh j) z i n) from by first | exact kAg_0 (kR_s hR hsh hj c_8) c_18 c_38 c_44 c_54 c_67 | exact kAg_3 (kR_s hR hsh hj c_8) c_18 c_38 (Or.inl c_44) | exact kAg_3 (kR_s hR hsh hj c_8) c_18 c_38 (Or.inr (Or.inl c_54)) | exact kAg_3 (kR_s hR hsh hj c_8) c_18 c_38 (Or.inr (Or.inr c_67))), rfl⟩ (Nat.le_of_ble_eq_true rfl) dX8_against_75
      · have d_38 := Int32.not_le.mp c_38
        refine ky_iconst C dX8_against_41 (v := 4) (by decide) ?_
        exact ky_iret C hr hlk ⟨congrArg (fun z => some (Value.int z)) (show (4) = (kAg (sh j) z i n) from by exact kAg_4 (kR_s hR hsh hj c_8) c_18 c_38), rfl⟩ (Nat.le_of_ble_eq_true rfl) dX8_against_42
    · refine ky_iconst C dX8_against_21 (v := 2) (by decide) ?_
      exact ky_iret C hr hlk ⟨congrArg (fun z => some (Value.int z)) (show (2) = (kAg (sh j) z i n) from by exact kAg_2 (kR_s hR hsh hj c_8) c_18), rfl⟩ (Nat.le_of_ble_eq_true rfl) dX8_against_22
theorem hiX8_sheet_X8 : ∀ w ∈ wsX80, w ∈ wsX8_sheet := fun _ h => (List.mem_cons_of_mem _ (List.mem_append_right _ h))
theorem hdX8_sheet : yX8_sheet.cls = RX8 ∧ yX8_sheet.cls ≠ "java/lang/invoke/MethodHandle" ∧ yX8_sheet.cls ≠ "java/lang/invoke/VarHandle" ∧ (parseMethodDescriptor yX8_sheet.desc).map (fun d => d.parameters.length) = some 3 := by decide +kernel
set_option maxRecDepth 100000 in
set_option maxHeartbeats 4000000 in
/-- X8_sheet -/
theorem kX8_sheet (l : Launch) (D : va_G) (cI cS : ClassId) (sh : Nat → kSh) (bd : Nat → Nat) (mf : Int32) (mt : Int32) (N : Nat) (wind : Int32) (low : Int32) (forb : Int32) (mat : Int32) (mrf : Int32) (nc : Nat) (ns : Nat) (bw : Int32) (fi : Int32) (mon : Int32) (mot : Int32) (srt : Nat → Int32) (sln : Nat → Int32) (cel : Nat → Int32) (x : Int32) (y : Int32) (z : Int32) (hR : kShR sh srt sln cel) (hsh : kShOk sh) : kyM l yX8_sheet wsX8_sheet ({ frames := 2, cells := 0, slots := 0, locals := 42 }) D cI cS [.ref (bd 0), .int x, .int y, .int z] [(bd 0, .inr (8, [.int mf, .int mt, .ref (bd 1), .ref (bd 2), .ref (bd 3), .int (nI N), .ref (bd 4), .ref (bd 5), .ref (bd 6), .int wind, .int low, .int forb, .int mat, .int mrf, .ref (bd 7), .ref (bd 8), .ref (bd 9), .int (nI nc), .ref (bd 10), .ref (bd 11), .ref (bd 12), .int (nI ns), .ref (bd 13), .ref (bd 14), .ref (bd 15), .ref (bd 16), .int bw, .int fi, .ref (bd 17), .ref (bd 18), .ref (bd 19), .ref (bd 20), .ref (bd 21), .ref (bd 22), .ref (bd 23), .ref (bd 24), .ref (bd 25), .ref (bd 26), .int mon, .int mot, .ref (bd 27), .ref (bd 28), .ref (bd 29), .ref (bd 30)])), (bd 1, .inl (cI, 4, .inl srt)), (bd 2, .inl (cI, 4, .inl sln)), (bd 3, .inl (cI, 160, .inl cel))] 0 0 (fun vR wR => ∃ r2 : Int32, ∃ mf2 : Int32, ∃ sh2 : Nat → kSh, ∃ srt2 : Nat → Int32, ∃ sln2 : Nat → Int32, ∃ cel2 : Nat → Int32, vR = some (.int r2) ∧ wR = [(bd 0, .inr (8, [.int mf2, .int mt, .ref (bd 1), .ref (bd 2), .ref (bd 3), .int (nI N), .ref (bd 4), .ref (bd 5), .ref (bd 6), .int wind, .int low, .int forb, .int mat, .int mrf, .ref (bd 7), .ref (bd 8), .ref (bd 9), .int (nI nc), .ref (bd 10), .ref (bd 11), .ref (bd 12), .int (nI ns), .ref (bd 13), .ref (bd 14), .ref (bd 15), .ref (bd 16), .int bw, .int fi, .ref (bd 17), .ref (bd 18), .ref (bd 19), .ref (bd 20), .ref (bd 21), .ref (bd 22), .ref (bd 23), .ref (bd 24), .ref (bd 25), .ref (bd 26), .int mon, .int mot, .ref (bd 27), .ref (bd 28), .ref (bd 29), .ref (bd 30)])), (bd 1, .inl (cI, 4, .inl srt2)), (bd 2, .inl (cI, 4, .inl sln2)), (bd 3, .inl (cI, 160, .inl cel2))] ∧ ((r2, mf2, sh2) = kF_sheet sh x y z) ∧ (kShR sh2 srt2 sln2 cel2)) := by
  refine ky_start (own := RX8) (cc := cX8_sheet) (nL := 5) (ret := (some .int)) (by decide) rfl rfl (Nat.le_of_ble_eq_true rfl) ?_
  intro p e s m args below meth c C hr hlk hnm
  refine ky_conv (lv' := [(0, .ref (bd 0)), (1, .int x), (2, .int y), (3, .int z)]) (List.range 4) rfl rfl rfl ?_
  refine ky_aload_n C 0 dX8_sheet_0 rfl rfl ?_
  refine ky_iconst C dX8_sheet_1 (v := 0) (by decide) ?_
  refine ky_put C (ci := 8) (T := TX8) (N := 44) (Cn := RX8) (ref := "RainAccountModel") hiX8_sheet_X8 tyX8 tyX8_ok nmX8 0 rfl rfl 0 (by decide) (List.mem_of_getElem? (i := 1) rfl) rfl rfl rfl rfl (Nat.le_of_ble_eq_true rfl) dX8_sheet_2 (ws' := [(bd 0, .inr (8, [.int 0, .int mt, .ref (bd 1), .ref (bd 2), .ref (bd 3), .int (nI N), .ref (bd 4), .ref (bd 5), .ref (bd 6), .int wind, .int low, .int forb, .int mat, .int mrf, .ref (bd 7), .ref (bd 8), .ref (bd 9), .int (nI nc), .ref (bd 10), .ref (bd 11), .ref (bd 12), .int (nI ns), .ref (bd 13), .ref (bd 14), .ref (bd 15), .ref (bd 16), .int bw, .int fi, .ref (bd 17), .ref (bd 18), .ref (bd 19), .ref (bd 20), .ref (bd 21), .ref (bd 22), .ref (bd 23), .ref (bd 24), .ref (bd 25), .ref (bd 26), .int mon, .int mot, .ref (bd 27), .ref (bd 28), .ref (bd 29), .ref (bd 30)])), (bd 1, .inl (cI, 4, .inl srt)), (bd 2, .inl (cI, 4, .inl sln)), (bd 3, .inl (cI, 160, .inl cel))]) rfl ?_
  refine ky_iload_n C 1 dX8_sheet_5 rfl rfl ?_
  refine ky_callS0 C 1 (kX8_isSheet l D cI cS x) gX8_sheet_X8_isSheet rfl rfl rfl hdX8_isSheet.2 ⟨Nat.le_of_ble_eq_true rfl, Nat.le_of_ble_eq_true rfl⟩ rfl rfl (Nat.le_of_ble_eq_true rfl) dX8_sheet_6 [] rfl rfl ?_
  rintro _ _ ⟨rfl, rfl⟩
  refine ky_ws (ws' := [(bd 0, .inr (8, [.int 0, .int mt, .ref (bd 1), .ref (bd 2), .ref (bd 3), .int (nI N), .ref (bd 4), .ref (bd 5), .ref (bd 6), .int wind, .int low, .int forb, .int mat, .int mrf, .ref (bd 7), .ref (bd 8), .ref (bd 9), .int (nI nc), .ref (bd 10), .ref (bd 11), .ref (bd 12), .int (nI ns), .ref (bd 13), .ref (bd 14), .ref (bd 15), .ref (bd 16), .int bw, .int fi, .ref (bd 17), .ref (bd 18), .ref (bd 19), .ref (bd 20), .ref (bd 21), .ref (bd 22), .ref (bd 23), .ref (bd 24), .ref (bd 25), .ref (bd 26), .int mon, .int mot, .ref (bd 27), .ref (bd 28), .ref (bd 29), .ref (bd 30)])), (bd 1, .inl (cI, 4, .inl srt)), (bd 2, .inl (cI, 4, .inl sln)), (bd 3, .inl (cI, 160, .inl cel))]) (st' := [.int (if 0 ≤ x ∧ x ≤ 3 then (1 : Int32) else 0)]) rfl rfl ?_
  refine ky_if_ne C 14 dX8_sheet_9 (by decide) (fun c_9 => ?_) (fun c_9 => ?_)
  · have c_9 : 0 ≤ x ∧ x ≤ 3 := kb1 c_9
    refine ky_iload_n C 2 dX8_sheet_14 rfl rfl ?_
    refine ky_callS0 C 1 (kX8_isSort l D cI cS y) gX8_sheet_X8_isSort rfl rfl rfl hdX8_isSort.2 ⟨Nat.le_of_ble_eq_true rfl, Nat.le_of_ble_eq_true rfl⟩ rfl rfl (Nat.le_of_ble_eq_true rfl) dX8_sheet_15 [] rfl rfl ?_
    rintro _ _ ⟨rfl, rfl⟩
    refine ky_ws (ws' := [(bd 0, .inr (8, [.int 0, .int mt, .ref (bd 1), .ref (bd 2), .ref (bd 3), .int (nI N), .ref (bd 4), .ref (bd 5), .ref (bd 6), .int wind, .int low, .int forb, .int mat, .int mrf, .ref (bd 7), .ref (bd 8), .ref (bd 9), .int (nI nc), .ref (bd 10), .ref (bd 11), .ref (bd 12), .int (nI ns), .ref (bd 13), .ref (bd 14), .ref (bd 15), .ref (bd 16), .int bw, .int fi, .ref (bd 17), .ref (bd 18), .ref (bd 19), .ref (bd 20), .ref (bd 21), .ref (bd 22), .ref (bd 23), .ref (bd 24), .ref (bd 25), .ref (bd 26), .int mon, .int mot, .ref (bd 27), .ref (bd 28), .ref (bd 29), .ref (bd 30)])), (bd 1, .inl (cI, 4, .inl srt)), (bd 2, .inl (cI, 4, .inl sln)), (bd 3, .inl (cI, 160, .inl cel))]) (st' := [.int (if 0 ≤ y ∧ y ≤ 2 then (1 : Int32) else 0)]) rfl rfl ?_
    refine ky_if_eq C 27 dX8_sheet_18 (by decide) (fun c_18 => ?_) (fun c_18 => ?_)
    · have c_18 : ¬ (0 ≤ y ∧ y ≤ 2) := kb0 c_18
      refine ky_bipush C dX8_sheet_27 (v := (-2)) (by decide) ?_
      exact ky_iret C hr hlk ⟨(-2), 0, sh, srt, sln, cel, rfl, rfl, (by first | (simp only [kF_sheet, if_pos c_9, if_neg c_18]; done) | (simp only [kF_sheet, if_pos c_9, if_neg c_18]; rfl)), hR⟩ (Nat.le_of_ble_eq_true rfl) dX8_sheet_29
    · have c_18 : 0 ≤ y ∧ y ≤ 2 := kb1 c_18
      refine ky_iload_n C 3 dX8_sheet_21 rfl rfl ?_
      refine ky_bipush C dX8_sheet_22 (v := 40) (by decide) ?_
      refine ky_icmp_le C 30 dX8_sheet_24 (by decide) (fun c_24 => ?_) (fun c_24 => ?_)
      · have d_24 := Int32.not_lt.mpr c_24
        refine ky_iload_n C 3 dX8_sheet_30 rfl rfl ?_
        refine ky_if_ge C 40 dX8_sheet_31 (by decide) (fun c_31 => ?_) (fun c_31 => ?_)
        · have d_31 := Int32.not_lt.mpr c_31
          obtain ⟨j, hj, rfl⟩ := kixle (n := 3) c_9 (by omega)
          have hcj : (nI j).toNatClampNeg = j := nI_clamp (by omega)
          refine ky_aload_n C 0 dX8_sheet_40 rfl rfl ?_
          refine ky_get C (ci := 8) (T := TX8) (N := 44) (Cn := RX8) (ref := "RainAccountModel") hiX8_sheet_X8 0 rfl rfl 2 (by decide) (List.mem_of_getElem? (i := 2) rfl) rfl (v := .ref (bd 1)) rfl dX8_sheet_41 ?_
          refine ky_iload_n C 1 dX8_sheet_44 rfl rfl ?_
          refine ky_iload_n C 2 dX8_sheet_45 rfl rfl ?_
          refine ky_iastN C 1 (k := j) rfl (by omega) (by decide) dX8_sheet_46 (ws' := [(bd 0, .inr (8, [.int 0, .int mt, .ref (bd 1), .ref (bd 2), .ref (bd 3), .int (nI N), .ref (bd 4), .ref (bd 5), .ref (bd 6), .int wind, .int low, .int forb, .int mat, .int mrf, .ref (bd 7), .ref (bd 8), .ref (bd 9), .int (nI nc), .ref (bd 10), .ref (bd 11), .ref (bd 12), .int (nI ns), .ref (bd 13), .ref (bd 14), .ref (bd 15), .ref (bd 16), .int bw, .int fi, .ref (bd 17), .ref (bd 18), .ref (bd 19), .ref (bd 20), .ref (bd 21), .ref (bd 22), .ref (bd 23), .ref (bd 24), .ref (bd 25), .ref (bd 26), .int mon, .int mot, .ref (bd 27), .ref (bd 28), .ref (bd 29), .ref (bd 30)])), (bd 1, .inl (cI, 4, .inl (upd srt j y))), (bd 2, .inl (cI, 4, .inl sln)), (bd 3, .inl (cI, 160, .inl cel))]) rfl ?_
          refine ky_aload_n C 0 dX8_sheet_47 rfl rfl ?_
          refine ky_get C (ci := 8) (T := TX8) (N := 44) (Cn := RX8) (ref := "RainAccountModel") hiX8_sheet_X8 0 rfl rfl 3 (by decide) (List.mem_of_getElem? (i := 3) rfl) rfl (v := .ref (bd 2)) rfl dX8_sheet_48 ?_
          refine ky_iload_n C 1 dX8_sheet_51 rfl rfl ?_
          refine ky_iload_n C 3 dX8_sheet_52 rfl rfl ?_
          refine ky_iastN C 2 (k := j) rfl (by omega) (by decide) dX8_sheet_53 (ws' := [(bd 0, .inr (8, [.int 0, .int mt, .ref (bd 1), .ref (bd 2), .ref (bd 3), .int (nI N), .ref (bd 4), .ref (bd 5), .ref (bd 6), .int wind, .int low, .int forb, .int mat, .int mrf, .ref (bd 7), .ref (bd 8), .ref (bd 9), .int (nI nc), .ref (bd 10), .ref (bd 11), .ref (bd 12), .int (nI ns), .ref (bd 13), .ref (bd 14), .ref (bd 15), .ref (bd 16), .int bw, .int fi, .ref (bd 17), .ref (bd 18), .ref (bd 19), .ref (bd 20), .ref (bd 21), .ref (bd 22), .ref (bd 23), .ref (bd 24), .ref (bd 25), .ref (bd 26), .int mon, .int mot, .ref (bd 27), .ref (bd 28), .ref (bd 29), .ref (bd 30)])), (bd 1, .inl (cI, 4, .inl (upd srt j y))), (bd 2, .inl (cI, 4, .inl (upd sln j z))), (bd 3, .inl (cI, 160, .inl cel))]) rfl ?_
          refine ky_iconst C dX8_sheet_54 (v := 0) (by decide) ?_
          refine ky_istore C (lv' := [(4, .int 0), (0, .ref (bd 0)), (1, .int (nI j)), (2, .int y), (3, .int z)]) dX8_sheet_55 (by decide) rfl ?_
          refine ky_conv (ws' := [(bd 0, .inr (8, [.int 0, .int mt, .ref (bd 1), .ref (bd 2), .ref (bd 3), .int (nI N), .ref (bd 4), .ref (bd 5), .ref (bd 6), .int wind, .int low, .int forb, .int mat, .int mrf, .ref (bd 7), .ref (bd 8), .ref (bd 9), .int (nI nc), .ref (bd 10), .ref (bd 11), .ref (bd 12), .int (nI ns), .ref (bd 13), .ref (bd 14), .ref (bd 15), .ref (bd 16), .int bw, .int fi, .ref (bd 17), .ref (bd 18), .ref (bd 19), .ref (bd 20), .ref (bd 21), .ref (bd 22), .ref (bd 23), .ref (bd 24), .ref (bd 25), .ref (bd 26), .int mon, .int mot, .ref (bd 27), .ref (bd 28), .ref (bd 29), .ref (bd 30)])), (bd 1, .inl (cI, 4, .inl (upd srt j y))), (bd 2, .inl (cI, 4, .inl (upd sln j z))), (bd 3, .inl (cI, 160, .inl cel))]) (lv' := [(4, .int 0), (0, .ref (bd 0)), (1, .int (nI j)), (2, .int y), (3, .int z)]) (st' := []) [0, 1, 2, 3, 4] rfl rfl rfl ?_
          refine ky_loop2 (T1 := Nat) (T2 := Nat → Int32) (Wf := (fun i1 cel1 => [(bd 0, .inr (8, [.int 0, .int mt, .ref (bd 1), .ref (bd 2), .ref (bd 3), .int (nI N), .ref (bd 4), .ref (bd 5), .ref (bd 6), .int wind, .int low, .int forb, .int mat, .int mrf, .ref (bd 7), .ref (bd 8), .ref (bd 9), .int (nI nc), .ref (bd 10), .ref (bd 11), .ref (bd 12), .int (nI ns), .ref (bd 13), .ref (bd 14), .ref (bd 15), .ref (bd 16), .int bw, .int fi, .ref (bd 17), .ref (bd 18), .ref (bd 19), .ref (bd 20), .ref (bd 21), .ref (bd 22), .ref (bd 23), .ref (bd 24), .ref (bd 25), .ref (bd 26), .int mon, .int mot, .ref (bd 27), .ref (bd 28), .ref (bd 29), .ref (bd 30)])), (bd 1, .inl (cI, 4, .inl (upd srt j y))), (bd 2, .inl (cI, 4, .inl (upd sln j z))), (bd 3, .inl (cI, 160, .inl cel1))])) (Lf := (fun i1 cel1 => [(4, .int (nI i1)), (0, .ref (bd 0)), (1, .int (nI j)), (2, .int y), (3, .int z)])) (Sf := (fun i1 cel1 => [])) (fun i1 cel1 => (i1 ≤ 40) ∧ (∀ p, cel1 p = if 40 * j ≤ p ∧ p < 40 * j + i1 then 0 else cel p) ∧ True) (fun i1 cel1 => 40 - i1) ?_ 0 cel ⟨(by omega), (fun p => (if_neg (by omega)).symm), trivial⟩
          intro i1 cel1 hI_57 ih_57
          obtain ⟨hi1, hce, -⟩ := hI_57
          have hi1 : i1 ≤ 40 := hi1
          have hce : ∀ p, cel1 p = if 40 * j ≤ p ∧ p < 40 * j + i1 then 0 else cel p := hce
          refine ky_conv (ws' := [(bd 0, .inr (8, [.int 0, .int mt, .ref (bd 1), .ref (bd 2), .ref (bd 3), .int (nI N), .ref (bd 4), .ref (bd 5), .ref (bd 6), .int wind, .int low, .int forb, .int mat, .int mrf, .ref (bd 7), .ref (bd 8), .ref (bd 9), .int (nI nc), .ref (bd 10), .ref (bd 11), .ref (bd 12), .int (nI ns), .ref (bd 13), .ref (bd 14), .ref (bd 15), .ref (bd 16), .int bw, .int fi, .ref (bd 17), .ref (bd 18), .ref (bd 19), .ref (bd 20), .ref (bd 21), .ref (bd 22), .ref (bd 23), .ref (bd 24), .ref (bd 25), .ref (bd 26), .int mon, .int mot, .ref (bd 27), .ref (bd 28), .ref (bd 29), .ref (bd 30)])), (bd 1, .inl (cI, 4, .inl (upd srt j y))), (bd 2, .inl (cI, 4, .inl (upd sln j z))), (bd 3, .inl (cI, 160, .inl cel1))]) (lv' := [(4, .int (nI i1)), (0, .ref (bd 0)), (1, .int (nI j)), (2, .int y), (3, .int z)]) (st' := []) (List.range 5) rfl rfl rfl ?_
          refine ky_iload C 0 dX8_sheet_57 rfl ?_
          refine ky_bipush C dX8_sheet_59 (v := 40) (by decide) ?_
          refine ky_icmp_ge C 83 dX8_sheet_61 (by decide) (fun c_61 => ?_) (fun c_61 => ?_)
          · have d_61 := Int32.not_lt.mpr c_61
            have n_61 := kn_le (a := 40) (b := i1) (by omega) (by omega) c_61
            have m_61 := Nat.not_lt.mpr n_61
            refine ky_iconst C dX8_sheet_83 (v := 1) (by decide) ?_
            exact ky_iret C hr hlk ⟨1, 0, (va_up sh j (y, z, fun _ => 0)), (upd srt j y), (upd sln j z), cel1, rfl, rfl, (by first | (simp only [kF_sheet, if_pos c_9, if_pos c_18, if_pos c_24, if_neg d_24, if_pos c_31, if_neg d_31, hcj, if_pos c_61, if_neg d_61, if_pos n_61, if_neg m_61]; done) | (simp only [kF_sheet, if_pos c_9, if_pos c_18, if_pos c_24, if_neg d_24, if_pos c_31, if_neg d_31, hcj, if_pos c_61, if_neg d_61, if_pos n_61, if_neg m_61]; rfl)), (kShR_sheet hR (show j < 4 by omega) c_31 (show i1 = 40 by omega) hce)⟩ (Nat.le_of_ble_eq_true rfl) dX8_sheet_84
          · have d_61 := Int32.not_le.mp c_61
            have n_61 := kn_nle (a := 40) (b := i1) (by omega) (by omega) c_61
            have m_61 := Nat.not_le.mpr n_61
            refine ky_aload_n C 1 dX8_sheet_64 rfl rfl ?_
            refine ky_get C (ci := 8) (T := TX8) (N := 44) (Cn := RX8) (ref := "RainAccountModel") hiX8_sheet_X8 0 rfl rfl 4 (by decide) (List.mem_of_getElem? (i := 4) rfl) rfl (v := .ref (bd 3)) rfl dX8_sheet_65 ?_
            refine ky_bipush C dX8_sheet_68 (v := 40) (by decide) ?_
            refine ky_iload_n C 2 dX8_sheet_70 rfl rfl ?_
            refine ky_imul C (v := nI (40 * j)) dX8_sheet_71 (pk_mul 40 j) ?_
            refine ky_iload C 0 dX8_sheet_72 rfl ?_
            refine ky_iadd C (v := nI (40 * j + i1)) dX8_sheet_74 (nI_add (40 * j) i1) ?_
            refine ky_iconst C dX8_sheet_75 (v := 0) (by decide) ?_
            refine ky_iastN C 3 (k := 40 * j + i1) rfl (by omega) (by decide) dX8_sheet_76 (ws' := [(bd 0, .inr (8, [.int 0, .int mt, .ref (bd 1), .ref (bd 2), .ref (bd 3), .int (nI N), .ref (bd 4), .ref (bd 5), .ref (bd 6), .int wind, .int low, .int forb, .int mat, .int mrf, .ref (bd 7), .ref (bd 8), .ref (bd 9), .int (nI nc), .ref (bd 10), .ref (bd 11), .ref (bd 12), .int (nI ns), .ref (bd 13), .ref (bd 14), .ref (bd 15), .ref (bd 16), .int bw, .int fi, .ref (bd 17), .ref (bd 18), .ref (bd 19), .ref (bd 20), .ref (bd 21), .ref (bd 22), .ref (bd 23), .ref (bd 24), .ref (bd 25), .ref (bd 26), .int mon, .int mot, .ref (bd 27), .ref (bd 28), .ref (bd 29), .ref (bd 30)])), (bd 1, .inl (cI, 4, .inl (upd srt j y))), (bd 2, .inl (cI, 4, .inl (upd sln j z))), (bd 3, .inl (cI, 160, .inl (upd cel1 (40 * j + i1) 0)))]) rfl ?_
            refine ky_iinc C 0 (v := nI (i1 + 1)) (lv' := [(4, .int (nI (i1 + 1))), (0, .ref (bd 0)), (1, .int (nI j)), (2, .int y), (3, .int z)]) dX8_sheet_77 rfl (nI_1 _) (by decide) rfl ?_
            refine ky_goto C dX8_sheet_80 (tgt := 57) (by decide) ?_
            exact ky_conv (ws' := [(bd 0, .inr (8, [.int 0, .int mt, .ref (bd 1), .ref (bd 2), .ref (bd 3), .int (nI N), .ref (bd 4), .ref (bd 5), .ref (bd 6), .int wind, .int low, .int forb, .int mat, .int mrf, .ref (bd 7), .ref (bd 8), .ref (bd 9), .int (nI nc), .ref (bd 10), .ref (bd 11), .ref (bd 12), .int (nI ns), .ref (bd 13), .ref (bd 14), .ref (bd 15), .ref (bd 16), .int bw, .int fi, .ref (bd 17), .ref (bd 18), .ref (bd 19), .ref (bd 20), .ref (bd 21), .ref (bd 22), .ref (bd 23), .ref (bd 24), .ref (bd 25), .ref (bd 26), .int mon, .int mot, .ref (bd 27), .ref (bd 28), .ref (bd 29), .ref (bd 30)])), (bd 1, .inl (cI, 4, .inl (upd srt j y))), (bd 2, .inl (cI, 4, .inl (upd sln j z))), (bd 3, .inl (cI, 160, .inl (upd cel1 (40 * j + i1) 0)))]) (lv' := [(4, .int (nI (i1 + 1))), (0, .ref (bd 0)), (1, .int (nI j)), (2, .int y), (3, .int z)]) (st' := []) [0, 1, 2, 3, 4] rfl rfl rfl (ih_57 (i1 + 1) (upd cel1 (40 * j + i1) 0) (show 40 - (i1 + 1) < 40 - i1 from by omega) ⟨(by omega), (kFill_s hce), trivial⟩)
        · have d_31 := Int32.not_le.mp c_31
          refine ky_aload_n C 0 dX8_sheet_34 rfl rfl ?_
          refine ky_iconst C dX8_sheet_35 (v := 4) (by decide) ?_
          refine ky_callV0 C 1 (kX8_fails l D cI cS bd 0 mt N wind low forb mat mrf nc ns bw fi mon mot 4) gX8_sheet_X8_fails rfl rfl rfl hdX8_fails 0 8 rfl rfl rfl ⟨Nat.le_of_ble_eq_true rfl, Nat.le_of_ble_eq_true rfl⟩ rfl rfl (Nat.le_of_ble_eq_true rfl) dX8_sheet_36 [0] rfl rfl ?_
          rintro _ _ ⟨rfl, rfl⟩
          refine ky_ws (ws' := [(bd 0, .inr (8, [.int 4, .int mt, .ref (bd 1), .ref (bd 2), .ref (bd 3), .int (nI N), .ref (bd 4), .ref (bd 5), .ref (bd 6), .int wind, .int low, .int forb, .int mat, .int mrf, .ref (bd 7), .ref (bd 8), .ref (bd 9), .int (nI nc), .ref (bd 10), .ref (bd 11), .ref (bd 12), .int (nI ns), .ref (bd 13), .ref (bd 14), .ref (bd 15), .ref (bd 16), .int bw, .int fi, .ref (bd 17), .ref (bd 18), .ref (bd 19), .ref (bd 20), .ref (bd 21), .ref (bd 22), .ref (bd 23), .ref (bd 24), .ref (bd 25), .ref (bd 26), .int mon, .int mot, .ref (bd 27), .ref (bd 28), .ref (bd 29), .ref (bd 30)])), (bd 1, .inl (cI, 4, .inl srt)), (bd 2, .inl (cI, 4, .inl sln)), (bd 3, .inl (cI, 160, .inl cel))]) (st' := [.int ((-10 : Int32) - 4)]) rfl rfl ?_
          exact ky_iret C hr hlk ⟨((-10 : Int32) - 4), 4, sh, srt, sln, cel, congrArg (fun z => some (Value.int z)) (show ((-10 : Int32) - 4) = (((-10 : Int32) - 4)) from by simp [c_9, c_18, c_24, d_24, c_31, d_31]), rfl, (by first | (simp only [kF_sheet, if_pos c_9, if_pos c_18, if_pos c_24, if_neg d_24, if_neg c_31, if_pos d_31]; done) | (simp only [kF_sheet, if_pos c_9, if_pos c_18, if_pos c_24, if_neg d_24, if_neg c_31, if_pos d_31]; rfl)), hR⟩ (Nat.le_of_ble_eq_true rfl) dX8_sheet_39
      · have d_24 := Int32.not_le.mp c_24
        refine ky_bipush C dX8_sheet_27 (v := (-2)) (by decide) ?_
        exact ky_iret C hr hlk ⟨(-2), 0, sh, srt, sln, cel, rfl, rfl, (by first | (simp only [kF_sheet, if_pos c_9, if_pos c_18, if_neg c_24, if_pos d_24]; done) | (simp only [kF_sheet, if_pos c_9, if_pos c_18, if_neg c_24, if_pos d_24]; rfl)), hR⟩ (Nat.le_of_ble_eq_true rfl) dX8_sheet_29
  · have c_9 : ¬ (0 ≤ x ∧ x ≤ 3) := kb0 c_9
    refine ky_iconst C dX8_sheet_12 (v := (-1)) (by decide) ?_
    exact ky_iret C hr hlk ⟨(-1), 0, sh, srt, sln, cel, rfl, rfl, (by first | (simp only [kF_sheet, if_neg c_9]; done) | (simp only [kF_sheet, if_neg c_9]; rfl)), hR⟩ (Nat.le_of_ble_eq_true rfl) dX8_sheet_13
theorem hiX8_lose_X8 : ∀ w ∈ wsX80, w ∈ wsX8_lose := fun _ h => (List.mem_cons_of_mem _ (List.mem_append_right _ h))
theorem hdX8_lose : yX8_lose.cls = RX8 ∧ yX8_lose.cls ≠ "java/lang/invoke/MethodHandle" ∧ yX8_lose.cls ≠ "java/lang/invoke/VarHandle" ∧ (parseMethodDescriptor yX8_lose.desc).map (fun d => d.parameters.length) = some 1 := by decide +kernel
set_option maxRecDepth 100000 in
set_option maxHeartbeats 4000000 in
/-- X8_lose -/
theorem kX8_lose (l : Launch) (D : va_G) (cI cS : ClassId) (sh : Nat → kSh) (bd : Nat → Nat) (mf : Int32) (mt : Int32) (N : Nat) (wind : Int32) (low : Int32) (forb : Int32) (mat : Int32) (mrf : Int32) (nc : Nat) (ns : Nat) (bw : Int32) (fi : Int32) (mon : Int32) (mot : Int32) (srt : Nat → Int32) (sln : Nat → Int32) (cel : Nat → Int32) (x : Int32) (hR : kShR sh srt sln cel) (hsh : kShOk sh) : kyM l yX8_lose wsX8_lose ({ frames := 2, cells := 0, slots := 0, locals := 42 }) D cI cS [.ref (bd 0), .int x] [(bd 0, .inr (8, [.int mf, .int mt, .ref (bd 1), .ref (bd 2), .ref (bd 3), .int (nI N), .ref (bd 4), .ref (bd 5), .ref (bd 6), .int wind, .int low, .int forb, .int mat, .int mrf, .ref (bd 7), .ref (bd 8), .ref (bd 9), .int (nI nc), .ref (bd 10), .ref (bd 11), .ref (bd 12), .int (nI ns), .ref (bd 13), .ref (bd 14), .ref (bd 15), .ref (bd 16), .int bw, .int fi, .ref (bd 17), .ref (bd 18), .ref (bd 19), .ref (bd 20), .ref (bd 21), .ref (bd 22), .ref (bd 23), .ref (bd 24), .ref (bd 25), .ref (bd 26), .int mon, .int mot, .ref (bd 27), .ref (bd 28), .ref (bd 29), .ref (bd 30)])), (bd 1, .inl (cI, 4, .inl srt)), (bd 2, .inl (cI, 4, .inl sln)), (bd 3, .inl (cI, 160, .inl cel))] 0 0 (fun vR wR => ∃ r2 : Int32, ∃ sh2 : Nat → kSh, ∃ srt2 : Nat → Int32, vR = some (.int r2) ∧ wR = [(bd 0, .inr (8, [.int mf, .int mt, .ref (bd 1), .ref (bd 2), .ref (bd 3), .int (nI N), .ref (bd 4), .ref (bd 5), .ref (bd 6), .int wind, .int low, .int forb, .int mat, .int mrf, .ref (bd 7), .ref (bd 8), .ref (bd 9), .int (nI nc), .ref (bd 10), .ref (bd 11), .ref (bd 12), .int (nI ns), .ref (bd 13), .ref (bd 14), .ref (bd 15), .ref (bd 16), .int bw, .int fi, .ref (bd 17), .ref (bd 18), .ref (bd 19), .ref (bd 20), .ref (bd 21), .ref (bd 22), .ref (bd 23), .ref (bd 24), .ref (bd 25), .ref (bd 26), .int mon, .int mot, .ref (bd 27), .ref (bd 28), .ref (bd 29), .ref (bd 30)])), (bd 1, .inl (cI, 4, .inl srt2)), (bd 2, .inl (cI, 4, .inl sln)), (bd 3, .inl (cI, 160, .inl cel))] ∧ ((r2, sh2) = kF_lose sh x) ∧ (kShR sh2 srt2 sln cel)) := by
  refine ky_start (own := RX8) (cc := cX8_lose) (nL := 3) (ret := (some .int)) (by decide) rfl rfl (Nat.le_of_ble_eq_true rfl) ?_
  intro p e s m args below meth c C hr hlk hnm
  refine ky_conv (lv' := [(0, .ref (bd 0)), (1, .int x)]) (List.range 2) rfl rfl rfl ?_
  refine ky_iload_n C 1 dX8_lose_0 rfl rfl ?_
  refine ky_callS0 C 1 (kX8_isSheet l D cI cS x) gX8_lose_X8_isSheet rfl rfl rfl hdX8_isSheet.2 ⟨Nat.le_of_ble_eq_true rfl, Nat.le_of_ble_eq_true rfl⟩ rfl rfl (Nat.le_of_ble_eq_true rfl) dX8_lose_1 [] rfl rfl ?_
  rintro _ _ ⟨rfl, rfl⟩
  refine ky_ws (ws' := [(bd 0, .inr (8, [.int mf, .int mt, .ref (bd 1), .ref (bd 2), .ref (bd 3), .int (nI N), .ref (bd 4), .ref (bd 5), .ref (bd 6), .int wind, .int low, .int forb, .int mat, .int mrf, .ref (bd 7), .ref (bd 8), .ref (bd 9), .int (nI nc), .ref (bd 10), .ref (bd 11), .ref (bd 12), .int (nI ns), .ref (bd 13), .ref (bd 14), .ref (bd 15), .ref (bd 16), .int bw, .int fi, .ref (bd 17), .ref (bd 18), .ref (bd 19), .ref (bd 20), .ref (bd 21), .ref (bd 22), .ref (bd 23), .ref (bd 24), .ref (bd 25), .ref (bd 26), .int mon, .int mot, .ref (bd 27), .ref (bd 28), .ref (bd 29), .ref (bd 30)])), (bd 1, .inl (cI, 4, .inl srt)), (bd 2, .inl (cI, 4, .inl sln)), (bd 3, .inl (cI, 160, .inl cel))]) (st' := [.int (if 0 ≤ x ∧ x ≤ 3 then (1 : Int32) else 0)]) rfl rfl ?_
  refine ky_if_ne C 9 dX8_lose_4 (by decide) (fun c_4 => ?_) (fun c_4 => ?_)
  · have c_4 : 0 ≤ x ∧ x ≤ 3 := kb1 c_4
    obtain ⟨j, hj, rfl⟩ := kixle (n := 3) c_4 (by omega)
    have hcj : (nI j).toNatClampNeg = j := nI_clamp (by omega)
    refine ky_aload_n C 0 dX8_lose_9 rfl rfl ?_
    refine ky_get C (ci := 8) (T := TX8) (N := 44) (Cn := RX8) (ref := "RainAccountModel") hiX8_lose_X8 0 rfl rfl 2 (by decide) (List.mem_of_getElem? (i := 1) rfl) rfl (v := .ref (bd 1)) rfl dX8_lose_10 ?_
    refine ky_iload_n C 1 dX8_lose_13 rfl rfl ?_
    refine ky_ialdN C 1 (k := j) rfl (by omega) (by decide) dX8_lose_14 (v := srt j) rfl ?_
    refine ky_bipush C dX8_lose_15 (v := (-9)) (by decide) ?_
    refine ky_icmp_ne C 24 dX8_lose_17 (by decide) (fun c_17 => ?_) (fun c_17 => ?_)
    · have hj4 : j < 4 := by omega
      have h9 : ¬ (sh j).2.1 = -1 := (kR_s hR hsh hj4 c_17).1
      refine ky_iconst C dX8_lose_24 (v := 1) (by decide) ?_
      refine ky_istore_n C (lv' := [(2, .int 1), (0, .ref (bd 0)), (1, .int (nI j))]) dX8_lose_25 rfl (by decide) rfl ?_
      refine ky_aload_n C 1 dX8_lose_26 rfl rfl ?_
      refine ky_get C (ci := 8) (T := TX8) (N := 44) (Cn := RX8) (ref := "RainAccountModel") hiX8_lose_X8 0 rfl rfl 2 (by decide) (List.mem_of_getElem? (i := 1) rfl) rfl (v := .ref (bd 1)) rfl dX8_lose_27 ?_
      refine ky_iload_n C 2 dX8_lose_30 rfl rfl ?_
      refine ky_bipush C dX8_lose_31 (v := (-9)) (by decide) ?_
      refine ky_iastN C 1 (k := j) rfl (by omega) (by decide) dX8_lose_33 (ws' := [(bd 0, .inr (8, [.int mf, .int mt, .ref (bd 1), .ref (bd 2), .ref (bd 3), .int (nI N), .ref (bd 4), .ref (bd 5), .ref (bd 6), .int wind, .int low, .int forb, .int mat, .int mrf, .ref (bd 7), .ref (bd 8), .ref (bd 9), .int (nI nc), .ref (bd 10), .ref (bd 11), .ref (bd 12), .int (nI ns), .ref (bd 13), .ref (bd 14), .ref (bd 15), .ref (bd 16), .int bw, .int fi, .ref (bd 17), .ref (bd 18), .ref (bd 19), .ref (bd 20), .ref (bd 21), .ref (bd 22), .ref (bd 23), .ref (bd 24), .ref (bd 25), .ref (bd 26), .int mon, .int mot, .ref (bd 27), .ref (bd 28), .ref (bd 29), .ref (bd 30)])), (bd 1, .inl (cI, 4, .inl (upd srt j (-9)))), (bd 2, .inl (cI, 4, .inl sln)), (bd 3, .inl (cI, 160, .inl cel))]) rfl ?_
      refine ky_iload_n C 0 dX8_lose_34 rfl rfl ?_
      exact ky_iret C hr hlk ⟨1, (va_up sh j ((sh j).1, -1, (sh j).2.2)), (upd srt j (-9)), rfl, rfl, (by first | (simp only [kF_lose, if_pos c_4, hcj, if_neg c_17, if_neg h9]; done) | (simp only [kF_lose, if_pos c_4, hcj, if_neg c_17, if_neg h9]; rfl)), (kShR_lose hR hj4)⟩ (Nat.le_of_ble_eq_true rfl) dX8_lose_35
    · have hj4 : j < 4 := by omega
      have h9 : (sh j).2.1 = -1 := kR_n hR hsh hj4 c_17
      refine ky_iconst C dX8_lose_20 (v := 0) (by decide) ?_
      refine ky_goto C dX8_lose_21 (tgt := 25) (by decide) ?_
      refine ky_istore_n C (lv' := [(2, .int 0), (0, .ref (bd 0)), (1, .int (nI j))]) dX8_lose_25 rfl (by decide) rfl ?_
      refine ky_aload_n C 1 dX8_lose_26 rfl rfl ?_
      refine ky_get C (ci := 8) (T := TX8) (N := 44) (Cn := RX8) (ref := "RainAccountModel") hiX8_lose_X8 0 rfl rfl 2 (by decide) (List.mem_of_getElem? (i := 1) rfl) rfl (v := .ref (bd 1)) rfl dX8_lose_27 ?_
      refine ky_iload_n C 2 dX8_lose_30 rfl rfl ?_
      refine ky_bipush C dX8_lose_31 (v := (-9)) (by decide) ?_
      refine ky_iastN C 1 (k := j) rfl (by omega) (by decide) dX8_lose_33 (ws' := [(bd 0, .inr (8, [.int mf, .int mt, .ref (bd 1), .ref (bd 2), .ref (bd 3), .int (nI N), .ref (bd 4), .ref (bd 5), .ref (bd 6), .int wind, .int low, .int forb, .int mat, .int mrf, .ref (bd 7), .ref (bd 8), .ref (bd 9), .int (nI nc), .ref (bd 10), .ref (bd 11), .ref (bd 12), .int (nI ns), .ref (bd 13), .ref (bd 14), .ref (bd 15), .ref (bd 16), .int bw, .int fi, .ref (bd 17), .ref (bd 18), .ref (bd 19), .ref (bd 20), .ref (bd 21), .ref (bd 22), .ref (bd 23), .ref (bd 24), .ref (bd 25), .ref (bd 26), .int mon, .int mot, .ref (bd 27), .ref (bd 28), .ref (bd 29), .ref (bd 30)])), (bd 1, .inl (cI, 4, .inl (upd srt j (-9)))), (bd 2, .inl (cI, 4, .inl sln)), (bd 3, .inl (cI, 160, .inl cel))]) rfl ?_
      refine ky_iload_n C 0 dX8_lose_34 rfl rfl ?_
      exact ky_iret C hr hlk ⟨0, (va_up sh j ((sh j).1, -1, (sh j).2.2)), (upd srt j (-9)), rfl, rfl, (by first | (simp only [kF_lose, if_pos c_4, hcj, if_pos c_17, if_pos h9]; done) | (simp only [kF_lose, if_pos c_4, hcj, if_pos c_17, if_pos h9]; rfl)), (kShR_lose hR hj4)⟩ (Nat.le_of_ble_eq_true rfl) dX8_lose_35
  · have c_4 : ¬ (0 ≤ x ∧ x ≤ 3) := kb0 c_4
    refine ky_iconst C dX8_lose_7 (v := (-1)) (by decide) ?_
    exact ky_iret C hr hlk ⟨(-1), sh, srt, rfl, rfl, (by first | (simp only [kF_lose, if_neg c_4]; done) | (simp only [kF_lose, if_neg c_4]; rfl)), hR⟩ (Nat.le_of_ble_eq_true rfl) dX8_lose_8
theorem hiX8_put_X8 : ∀ w ∈ wsX80, w ∈ wsX8_put := fun _ h => (List.mem_cons_of_mem _ (List.mem_append_right _ h))
theorem hdX8_put : yX8_put.cls = RX8 ∧ yX8_put.cls ≠ "java/lang/invoke/MethodHandle" ∧ yX8_put.cls ≠ "java/lang/invoke/VarHandle" ∧ (parseMethodDescriptor yX8_put.desc).map (fun d => d.parameters.length) = some 3 := by decide +kernel
set_option maxRecDepth 100000 in
set_option maxHeartbeats 4000000 in
/-- X8_put -/
theorem kX8_put (l : Launch) (D : va_G) (cI cS : ClassId) (sh : Nat → kSh) (bd : Nat → Nat) (mf : Int32) (mt : Int32) (N : Nat) (wind : Int32) (low : Int32) (forb : Int32) (mat : Int32) (mrf : Int32) (nc : Nat) (ns : Nat) (bw : Int32) (fi : Int32) (mon : Int32) (mot : Int32) (srt : Nat → Int32) (sln : Nat → Int32) (cel : Nat → Int32) (x : Int32) (y : Int32) (z : Int32) (hR : kShR sh srt sln cel) (hsh : kShOk sh) : kyM l yX8_put wsX8_put ({ frames := 2, cells := 0, slots := 0, locals := 42 }) D cI cS [.ref (bd 0), .int x, .int y, .int z] [(bd 0, .inr (8, [.int mf, .int mt, .ref (bd 1), .ref (bd 2), .ref (bd 3), .int (nI N), .ref (bd 4), .ref (bd 5), .ref (bd 6), .int wind, .int low, .int forb, .int mat, .int mrf, .ref (bd 7), .ref (bd 8), .ref (bd 9), .int (nI nc), .ref (bd 10), .ref (bd 11), .ref (bd 12), .int (nI ns), .ref (bd 13), .ref (bd 14), .ref (bd 15), .ref (bd 16), .int bw, .int fi, .ref (bd 17), .ref (bd 18), .ref (bd 19), .ref (bd 20), .ref (bd 21), .ref (bd 22), .ref (bd 23), .ref (bd 24), .ref (bd 25), .ref (bd 26), .int mon, .int mot, .ref (bd 27), .ref (bd 28), .ref (bd 29), .ref (bd 30)])), (bd 1, .inl (cI, 4, .inl srt)), (bd 2, .inl (cI, 4, .inl sln)), (bd 3, .inl (cI, 160, .inl cel))] 0 0 (fun vR wR => ∃ r2 : Int32, ∃ mf2 : Int32, ∃ sh2 : Nat → kSh, ∃ cel2 : Nat → Int32, vR = some (.int r2) ∧ wR = [(bd 0, .inr (8, [.int mf2, .int mt, .ref (bd 1), .ref (bd 2), .ref (bd 3), .int (nI N), .ref (bd 4), .ref (bd 5), .ref (bd 6), .int wind, .int low, .int forb, .int mat, .int mrf, .ref (bd 7), .ref (bd 8), .ref (bd 9), .int (nI nc), .ref (bd 10), .ref (bd 11), .ref (bd 12), .int (nI ns), .ref (bd 13), .ref (bd 14), .ref (bd 15), .ref (bd 16), .int bw, .int fi, .ref (bd 17), .ref (bd 18), .ref (bd 19), .ref (bd 20), .ref (bd 21), .ref (bd 22), .ref (bd 23), .ref (bd 24), .ref (bd 25), .ref (bd 26), .int mon, .int mot, .ref (bd 27), .ref (bd 28), .ref (bd 29), .ref (bd 30)])), (bd 1, .inl (cI, 4, .inl srt)), (bd 2, .inl (cI, 4, .inl sln)), (bd 3, .inl (cI, 160, .inl cel2))] ∧ ((r2, mf2, sh2) = kF_put sh x y z) ∧ (kShR sh2 srt sln cel2)) := by
  refine ky_start (own := RX8) (cc := cX8_put) (nL := 4) (ret := (some .int)) (by decide) rfl rfl (Nat.le_of_ble_eq_true rfl) ?_
  intro p e s m args below meth c C hr hlk hnm
  refine ky_conv (lv' := [(0, .ref (bd 0)), (1, .int x), (2, .int y), (3, .int z)]) (List.range 4) rfl rfl rfl ?_
  refine ky_aload_n C 0 dX8_put_0 rfl rfl ?_
  refine ky_iconst C dX8_put_1 (v := 0) (by decide) ?_
  refine ky_put C (ci := 8) (T := TX8) (N := 44) (Cn := RX8) (ref := "RainAccountModel") hiX8_put_X8 tyX8 tyX8_ok nmX8 0 rfl rfl 0 (by decide) (List.mem_of_getElem? (i := 1) rfl) rfl rfl rfl rfl (Nat.le_of_ble_eq_true rfl) dX8_put_2 (ws' := [(bd 0, .inr (8, [.int 0, .int mt, .ref (bd 1), .ref (bd 2), .ref (bd 3), .int (nI N), .ref (bd 4), .ref (bd 5), .ref (bd 6), .int wind, .int low, .int forb, .int mat, .int mrf, .ref (bd 7), .ref (bd 8), .ref (bd 9), .int (nI nc), .ref (bd 10), .ref (bd 11), .ref (bd 12), .int (nI ns), .ref (bd 13), .ref (bd 14), .ref (bd 15), .ref (bd 16), .int bw, .int fi, .ref (bd 17), .ref (bd 18), .ref (bd 19), .ref (bd 20), .ref (bd 21), .ref (bd 22), .ref (bd 23), .ref (bd 24), .ref (bd 25), .ref (bd 26), .int mon, .int mot, .ref (bd 27), .ref (bd 28), .ref (bd 29), .ref (bd 30)])), (bd 1, .inl (cI, 4, .inl srt)), (bd 2, .inl (cI, 4, .inl sln)), (bd 3, .inl (cI, 160, .inl cel))]) rfl ?_
  refine ky_iload_n C 1 dX8_put_5 rfl rfl ?_
  refine ky_callS0 C 1 (kX8_isSheet l D cI cS x) gX8_put_X8_isSheet rfl rfl rfl hdX8_isSheet.2 ⟨Nat.le_of_ble_eq_true rfl, Nat.le_of_ble_eq_true rfl⟩ rfl rfl (Nat.le_of_ble_eq_true rfl) dX8_put_6 [] rfl rfl ?_
  rintro _ _ ⟨rfl, rfl⟩
  refine ky_ws (ws' := [(bd 0, .inr (8, [.int 0, .int mt, .ref (bd 1), .ref (bd 2), .ref (bd 3), .int (nI N), .ref (bd 4), .ref (bd 5), .ref (bd 6), .int wind, .int low, .int forb, .int mat, .int mrf, .ref (bd 7), .ref (bd 8), .ref (bd 9), .int (nI nc), .ref (bd 10), .ref (bd 11), .ref (bd 12), .int (nI ns), .ref (bd 13), .ref (bd 14), .ref (bd 15), .ref (bd 16), .int bw, .int fi, .ref (bd 17), .ref (bd 18), .ref (bd 19), .ref (bd 20), .ref (bd 21), .ref (bd 22), .ref (bd 23), .ref (bd 24), .ref (bd 25), .ref (bd 26), .int mon, .int mot, .ref (bd 27), .ref (bd 28), .ref (bd 29), .ref (bd 30)])), (bd 1, .inl (cI, 4, .inl srt)), (bd 2, .inl (cI, 4, .inl sln)), (bd 3, .inl (cI, 160, .inl cel))]) (st' := [.int (if 0 ≤ x ∧ x ≤ 3 then (1 : Int32) else 0)]) rfl rfl ?_
  refine ky_if_ne C 14 dX8_put_9 (by decide) (fun c_9 => ?_) (fun c_9 => ?_)
  · have c_9 : 0 ≤ x ∧ x ≤ 3 := kb1 c_9
    obtain ⟨j, hj, rfl⟩ := kixle (n := 3) c_9 (by omega)
    have hcj : (nI j).toNatClampNeg = j := nI_clamp (by omega)
    have hj4 : j < 4 := by omega
    refine ky_aload_n C 0 dX8_put_14 rfl rfl ?_
    refine ky_get C (ci := 8) (T := TX8) (N := 44) (Cn := RX8) (ref := "RainAccountModel") hiX8_put_X8 0 rfl rfl 2 (by decide) (List.mem_of_getElem? (i := 2) rfl) rfl (v := .ref (bd 1)) rfl dX8_put_15 ?_
    refine ky_iload_n C 1 dX8_put_18 rfl rfl ?_
    refine ky_ialdN C 1 (k := j) rfl (by omega) (by decide) dX8_put_19 (v := srt j) rfl ?_
    refine ky_bipush C dX8_put_20 (v := (-9)) (by decide) ?_
    refine ky_icmp_ne C 31 dX8_put_22 (by decide) (fun c_22 => ?_) (fun c_22 => ?_)
    · obtain ⟨h9, hso, hl⟩ := kR_s hR hsh hj4 c_22
      refine ky_iload_n C 2 dX8_put_31 rfl rfl ?_
      refine ky_iconst C dX8_put_32 (v := 0) (by decide) ?_
      refine ky_aload_n C 0 dX8_put_33 rfl rfl ?_
      refine ky_get C (ci := 8) (T := TX8) (N := 44) (Cn := RX8) (ref := "RainAccountModel") hiX8_put_X8 0 rfl rfl 3 (by decide) (List.mem_of_getElem? (i := 3) rfl) rfl (v := .ref (bd 2)) rfl dX8_put_34 ?_
      refine ky_iload_n C 1 dX8_put_37 rfl rfl ?_
      refine ky_ialdN C 2 (k := j) rfl (by omega) (by decide) dX8_put_38 (v := sln j) rfl ?_
      refine ky_iconst C dX8_put_39 (v := 1) (by decide) ?_
      refine ky_isub C (v := (sln j) - 1) dX8_put_40 rfl ?_
      refine ky_callS0 C 3 (kX8_within l D cI cS y 0 ((sln j) - 1)) gX8_put_X8_within rfl rfl rfl hdX8_within.2 ⟨Nat.le_of_ble_eq_true rfl, Nat.le_of_ble_eq_true rfl⟩ rfl rfl (Nat.le_of_ble_eq_true rfl) dX8_put_41 [] rfl rfl ?_
      rintro _ _ ⟨rfl, rfl⟩
      refine ky_ws (ws' := [(bd 0, .inr (8, [.int 0, .int mt, .ref (bd 1), .ref (bd 2), .ref (bd 3), .int (nI N), .ref (bd 4), .ref (bd 5), .ref (bd 6), .int wind, .int low, .int forb, .int mat, .int mrf, .ref (bd 7), .ref (bd 8), .ref (bd 9), .int (nI nc), .ref (bd 10), .ref (bd 11), .ref (bd 12), .int (nI ns), .ref (bd 13), .ref (bd 14), .ref (bd 15), .ref (bd 16), .int bw, .int fi, .ref (bd 17), .ref (bd 18), .ref (bd 19), .ref (bd 20), .ref (bd 21), .ref (bd 22), .ref (bd 23), .ref (bd 24), .ref (bd 25), .ref (bd 26), .int mon, .int mot, .ref (bd 27), .ref (bd 28), .ref (bd 29), .ref (bd 30)])), (bd 1, .inl (cI, 4, .inl srt)), (bd 2, .inl (cI, 4, .inl sln)), (bd 3, .inl (cI, 160, .inl cel))]) (st' := [.int (if 0 ≤ y ∧ y ≤ ((sln j) - 1) then (1 : Int32) else 0)]) rfl rfl ?_
      refine ky_if_ne C 53 dX8_put_44 (by decide) (fun c_44 => ?_) (fun c_44 => ?_)
      · have c_44 : 0 ≤ y ∧ y ≤ ((sln j) - 1) := kb1 c_44
        have hh0 : 0 ≤ y ∧ y < (sh j).2.1 := kIn_of (hsh j hj4) h9 hl c_44
        have hy40 : y < 40 := kHold40 (hsh j hj4) h9 hh0
        obtain ⟨i0, hi0, rfl⟩ := kix (n := 40) ⟨hh0.1, hy40⟩ (by omega)
        have hci0 : (nI i0).toNatClampNeg = i0 := nI_clamp (by omega)
        refine ky_aload_n C 0 dX8_put_53 rfl rfl ?_
        refine ky_get C (ci := 8) (T := TX8) (N := 44) (Cn := RX8) (ref := "RainAccountModel") hiX8_put_X8 0 rfl rfl 4 (by decide) (List.mem_of_getElem? (i := 4) rfl) rfl (v := .ref (bd 3)) rfl dX8_put_54 ?_
        refine ky_bipush C dX8_put_57 (v := 40) (by decide) ?_
        refine ky_iload_n C 1 dX8_put_59 rfl rfl ?_
        refine ky_imul C (v := nI (40 * j)) dX8_put_60 (pk_mul 40 j) ?_
        refine ky_iload_n C 2 dX8_put_61 rfl rfl ?_
        refine ky_iadd C (v := nI (40 * j + i0)) dX8_put_62 (nI_add (40 * j) i0) ?_
        refine ky_aload_n C 0 dX8_put_63 rfl rfl ?_
        refine ky_get C (ci := 8) (T := TX8) (N := 44) (Cn := RX8) (ref := "RainAccountModel") hiX8_put_X8 0 rfl rfl 2 (by decide) (List.mem_of_getElem? (i := 2) rfl) rfl (v := .ref (bd 1)) rfl dX8_put_64 ?_
        refine ky_iload_n C 1 dX8_put_67 rfl rfl ?_
        refine ky_ialdN C 1 (k := j) rfl (by omega) (by decide) dX8_put_68 (v := srt j) rfl ?_
        refine ky_if_ne C 77 dX8_put_69 (by decide) (fun c_69 => ?_) (fun c_69 => ?_)
        · refine ky_aload_n C 0 dX8_put_77 rfl rfl ?_
          refine ky_get C (ci := 8) (T := TX8) (N := 44) (Cn := RX8) (ref := "RainAccountModel") hiX8_put_X8 0 rfl rfl 2 (by decide) (List.mem_of_getElem? (i := 2) rfl) rfl (v := .ref (bd 1)) rfl dX8_put_78 ?_
          refine ky_iload_n C 1 dX8_put_81 rfl rfl ?_
          refine ky_ialdN C 1 (k := j) rfl (by omega) (by decide) dX8_put_82 (v := srt j) rfl ?_
          refine ky_iconst C dX8_put_83 (v := 1) (by decide) ?_
          refine ky_icmp_ne C 92 dX8_put_84 (by decide) (fun c_84 => ?_) (fun c_84 => ?_)
          · refine ky_iload_n C 3 dX8_put_92 rfl rfl ?_
            refine ky_iastN C 3 (k := 40 * j + i0) rfl (by omega) (by decide) dX8_put_93 (ws' := [(bd 0, .inr (8, [.int 0, .int mt, .ref (bd 1), .ref (bd 2), .ref (bd 3), .int (nI N), .ref (bd 4), .ref (bd 5), .ref (bd 6), .int wind, .int low, .int forb, .int mat, .int mrf, .ref (bd 7), .ref (bd 8), .ref (bd 9), .int (nI nc), .ref (bd 10), .ref (bd 11), .ref (bd 12), .int (nI ns), .ref (bd 13), .ref (bd 14), .ref (bd 15), .ref (bd 16), .int bw, .int fi, .ref (bd 17), .ref (bd 18), .ref (bd 19), .ref (bd 20), .ref (bd 21), .ref (bd 22), .ref (bd 23), .ref (bd 24), .ref (bd 25), .ref (bd 26), .int mon, .int mot, .ref (bd 27), .ref (bd 28), .ref (bd 29), .ref (bd 30)])), (bd 1, .inl (cI, 4, .inl srt)), (bd 2, .inl (cI, 4, .inl sln)), (bd 3, .inl (cI, 160, .inl (upd cel (40 * j + i0) z)))]) rfl ?_
            refine ky_iconst C dX8_put_94 (v := 1) (by decide) ?_
            exact ky_iret C hr hlk ⟨1, 0, (va_up sh j ((sh j).1, (sh j).2.1, upd (sh j).2.2 i0 (kCut (sh j).1 z))), (upd cel (40 * j + i0) z), rfl, rfl, (by first | (simp only [kF_put, if_pos c_9, hcj, if_neg c_22, if_neg h9, if_pos c_44, if_pos hh0, hci0, if_neg c_69, if_neg c_84]; done) | (simp only [kF_put, if_pos c_9, hcj, if_neg c_22, if_neg h9, if_pos c_44, if_pos hh0, hci0, if_neg c_69, if_neg c_84]; rfl)), (kShR_put hR hj4 hi0 (by first | exact kCut_0 hso c_69 | exact kCut_1 hso c_69 c_84 | exact kCut_2 hso c_69 c_84))⟩ (Nat.le_of_ble_eq_true rfl) dX8_put_95
          · refine ky_iload_n C 3 dX8_put_87 rfl rfl ?_
            refine ky_i2s C dX8_put_88 rfl ?_
            refine ky_goto C dX8_put_89 (tgt := 93) (by decide) ?_
            refine ky_iastN C 3 (k := 40 * j + i0) rfl (by omega) (by decide) dX8_put_93 (ws' := [(bd 0, .inr (8, [.int 0, .int mt, .ref (bd 1), .ref (bd 2), .ref (bd 3), .int (nI N), .ref (bd 4), .ref (bd 5), .ref (bd 6), .int wind, .int low, .int forb, .int mat, .int mrf, .ref (bd 7), .ref (bd 8), .ref (bd 9), .int (nI nc), .ref (bd 10), .ref (bd 11), .ref (bd 12), .int (nI ns), .ref (bd 13), .ref (bd 14), .ref (bd 15), .ref (bd 16), .int bw, .int fi, .ref (bd 17), .ref (bd 18), .ref (bd 19), .ref (bd 20), .ref (bd 21), .ref (bd 22), .ref (bd 23), .ref (bd 24), .ref (bd 25), .ref (bd 26), .int mon, .int mot, .ref (bd 27), .ref (bd 28), .ref (bd 29), .ref (bd 30)])), (bd 1, .inl (cI, 4, .inl srt)), (bd 2, .inl (cI, 4, .inl sln)), (bd 3, .inl (cI, 160, .inl (upd cel (40 * j + i0) z.toInt16.toInt32)))]) rfl ?_
            refine ky_iconst C dX8_put_94 (v := 1) (by decide) ?_
            exact ky_iret C hr hlk ⟨1, 0, (va_up sh j ((sh j).1, (sh j).2.1, upd (sh j).2.2 i0 (kCut (sh j).1 z))), (upd cel (40 * j + i0) z.toInt16.toInt32), rfl, rfl, (by first | (simp only [kF_put, if_pos c_9, hcj, if_neg c_22, if_neg h9, if_pos c_44, if_pos hh0, hci0, if_neg c_69, if_pos c_84]; done) | (simp only [kF_put, if_pos c_9, hcj, if_neg c_22, if_neg h9, if_pos c_44, if_pos hh0, hci0, if_neg c_69, if_pos c_84]; rfl)), (kShR_put hR hj4 hi0 (by first | exact kCut_0 hso c_69 | exact kCut_1 hso c_69 c_84 | exact kCut_2 hso c_69 c_84))⟩ (Nat.le_of_ble_eq_true rfl) dX8_put_95
        · refine ky_iload_n C 3 dX8_put_72 rfl rfl ?_
          refine ky_i2b C dX8_put_73 rfl ?_
          refine ky_goto C dX8_put_74 (tgt := 93) (by decide) ?_
          refine ky_iastN C 3 (k := 40 * j + i0) rfl (by omega) (by decide) dX8_put_93 (ws' := [(bd 0, .inr (8, [.int 0, .int mt, .ref (bd 1), .ref (bd 2), .ref (bd 3), .int (nI N), .ref (bd 4), .ref (bd 5), .ref (bd 6), .int wind, .int low, .int forb, .int mat, .int mrf, .ref (bd 7), .ref (bd 8), .ref (bd 9), .int (nI nc), .ref (bd 10), .ref (bd 11), .ref (bd 12), .int (nI ns), .ref (bd 13), .ref (bd 14), .ref (bd 15), .ref (bd 16), .int bw, .int fi, .ref (bd 17), .ref (bd 18), .ref (bd 19), .ref (bd 20), .ref (bd 21), .ref (bd 22), .ref (bd 23), .ref (bd 24), .ref (bd 25), .ref (bd 26), .int mon, .int mot, .ref (bd 27), .ref (bd 28), .ref (bd 29), .ref (bd 30)])), (bd 1, .inl (cI, 4, .inl srt)), (bd 2, .inl (cI, 4, .inl sln)), (bd 3, .inl (cI, 160, .inl (upd cel (40 * j + i0) z.toInt8.toInt32)))]) rfl ?_
          refine ky_iconst C dX8_put_94 (v := 1) (by decide) ?_
          exact ky_iret C hr hlk ⟨1, 0, (va_up sh j ((sh j).1, (sh j).2.1, upd (sh j).2.2 i0 (kCut (sh j).1 z))), (upd cel (40 * j + i0) z.toInt8.toInt32), rfl, rfl, (by first | (simp only [kF_put, if_pos c_9, hcj, if_neg c_22, if_neg h9, if_pos c_44, if_pos hh0, hci0, if_pos c_69]; done) | (simp only [kF_put, if_pos c_9, hcj, if_neg c_22, if_neg h9, if_pos c_44, if_pos hh0, hci0, if_pos c_69]; rfl)), (kShR_put hR hj4 hi0 (by first | exact kCut_0 hso c_69 | exact kCut_1 hso c_69 c_84 | exact kCut_2 hso c_69 c_84))⟩ (Nat.le_of_ble_eq_true rfl) dX8_put_95
      · have c_44 : ¬ (0 ≤ y ∧ y ≤ ((sln j) - 1)) := kb0 c_44
        have hh0 : ¬ (0 ≤ y ∧ y < (sh j).2.1) := fun q => c_44 (kIn_to (hsh j hj4) h9 hl q)
        refine ky_aload_n C 0 dX8_put_47 rfl rfl ?_
        refine ky_iconst C dX8_put_48 (v := 3) (by decide) ?_
        refine ky_callV0 C 1 (kX8_fails l D cI cS bd 0 mt N wind low forb mat mrf nc ns bw fi mon mot 3) gX8_put_X8_fails rfl rfl rfl hdX8_fails 0 8 rfl rfl rfl ⟨Nat.le_of_ble_eq_true rfl, Nat.le_of_ble_eq_true rfl⟩ rfl rfl (Nat.le_of_ble_eq_true rfl) dX8_put_49 [0] rfl rfl ?_
        rintro _ _ ⟨rfl, rfl⟩
        refine ky_ws (ws' := [(bd 0, .inr (8, [.int 3, .int mt, .ref (bd 1), .ref (bd 2), .ref (bd 3), .int (nI N), .ref (bd 4), .ref (bd 5), .ref (bd 6), .int wind, .int low, .int forb, .int mat, .int mrf, .ref (bd 7), .ref (bd 8), .ref (bd 9), .int (nI nc), .ref (bd 10), .ref (bd 11), .ref (bd 12), .int (nI ns), .ref (bd 13), .ref (bd 14), .ref (bd 15), .ref (bd 16), .int bw, .int fi, .ref (bd 17), .ref (bd 18), .ref (bd 19), .ref (bd 20), .ref (bd 21), .ref (bd 22), .ref (bd 23), .ref (bd 24), .ref (bd 25), .ref (bd 26), .int mon, .int mot, .ref (bd 27), .ref (bd 28), .ref (bd 29), .ref (bd 30)])), (bd 1, .inl (cI, 4, .inl srt)), (bd 2, .inl (cI, 4, .inl sln)), (bd 3, .inl (cI, 160, .inl cel))]) (st' := [.int ((-10 : Int32) - 3)]) rfl rfl ?_
        exact ky_iret C hr hlk ⟨((-10 : Int32) - 3), 3, sh, cel, congrArg (fun z => some (Value.int z)) (show ((-10 : Int32) - 3) = (((-10 : Int32) - 3)) from by simp [c_9, hcj, c_22, h9, c_44, hh0]), rfl, (by first | (simp only [kF_put, if_pos c_9, hcj, if_neg c_22, if_neg h9, if_neg c_44, if_neg hh0]; done) | (simp only [kF_put, if_pos c_9, hcj, if_neg c_22, if_neg h9, if_neg c_44, if_neg hh0]; rfl)), hR⟩ (Nat.le_of_ble_eq_true rfl) dX8_put_52
    · have h9 : (sh j).2.1 = -1 := kR_n hR hsh hj4 c_22
      refine ky_aload_n C 0 dX8_put_25 rfl rfl ?_
      refine ky_iconst C dX8_put_26 (v := 1) (by decide) ?_
      refine ky_callV0 C 1 (kX8_fails l D cI cS bd 0 mt N wind low forb mat mrf nc ns bw fi mon mot 1) gX8_put_X8_fails rfl rfl rfl hdX8_fails 0 8 rfl rfl rfl ⟨Nat.le_of_ble_eq_true rfl, Nat.le_of_ble_eq_true rfl⟩ rfl rfl (Nat.le_of_ble_eq_true rfl) dX8_put_27 [0] rfl rfl ?_
      rintro _ _ ⟨rfl, rfl⟩
      refine ky_ws (ws' := [(bd 0, .inr (8, [.int 1, .int mt, .ref (bd 1), .ref (bd 2), .ref (bd 3), .int (nI N), .ref (bd 4), .ref (bd 5), .ref (bd 6), .int wind, .int low, .int forb, .int mat, .int mrf, .ref (bd 7), .ref (bd 8), .ref (bd 9), .int (nI nc), .ref (bd 10), .ref (bd 11), .ref (bd 12), .int (nI ns), .ref (bd 13), .ref (bd 14), .ref (bd 15), .ref (bd 16), .int bw, .int fi, .ref (bd 17), .ref (bd 18), .ref (bd 19), .ref (bd 20), .ref (bd 21), .ref (bd 22), .ref (bd 23), .ref (bd 24), .ref (bd 25), .ref (bd 26), .int mon, .int mot, .ref (bd 27), .ref (bd 28), .ref (bd 29), .ref (bd 30)])), (bd 1, .inl (cI, 4, .inl srt)), (bd 2, .inl (cI, 4, .inl sln)), (bd 3, .inl (cI, 160, .inl cel))]) (st' := [.int ((-10 : Int32) - 1)]) rfl rfl ?_
      exact ky_iret C hr hlk ⟨((-10 : Int32) - 1), 1, sh, cel, congrArg (fun z => some (Value.int z)) (show ((-10 : Int32) - 1) = (((-10 : Int32) - 1)) from by simp [c_9, hcj, c_22, h9]), rfl, (by first | (simp only [kF_put, if_pos c_9, hcj, if_pos c_22, if_pos h9]; done) | (simp only [kF_put, if_pos c_9, hcj, if_pos c_22, if_pos h9]; rfl)), hR⟩ (Nat.le_of_ble_eq_true rfl) dX8_put_30
  · have c_9 : ¬ (0 ≤ x ∧ x ≤ 3) := kb0 c_9
    refine ky_iconst C dX8_put_12 (v := (-1)) (by decide) ?_
    exact ky_iret C hr hlk ⟨(-1), 0, sh, cel, rfl, rfl, (by first | (simp only [kF_put, if_neg c_9]; done) | (simp only [kF_put, if_neg c_9]; rfl)), hR⟩ (Nat.le_of_ble_eq_true rfl) dX8_put_13
theorem hiX8_cell_X8 : ∀ w ∈ wsX80, w ∈ wsX8_cell := fun _ h => (List.mem_cons_of_mem _ (List.mem_append_right _ h))
theorem hdX8_cell : yX8_cell.cls = RX8 ∧ yX8_cell.cls ≠ "java/lang/invoke/MethodHandle" ∧ yX8_cell.cls ≠ "java/lang/invoke/VarHandle" ∧ (parseMethodDescriptor yX8_cell.desc).map (fun d => d.parameters.length) = some 3 := by decide +kernel
set_option maxRecDepth 100000 in
set_option maxHeartbeats 4000000 in
/-- X8_cell -/
theorem kX8_cell (l : Launch) (D : va_G) (cI cS : ClassId) (sh : Nat → kSh) (bd : Nat → Nat) (mf : Int32) (mt : Int32) (N : Nat) (wind : Int32) (low : Int32) (forb : Int32) (mat : Int32) (mrf : Int32) (nc : Nat) (ns : Nat) (bw : Int32) (fi : Int32) (mon : Int32) (mot : Int32) (srt : Nat → Int32) (sln : Nat → Int32) (cel : Nat → Int32) (x : Int32) (y : Int32) (z : Int32) (hR : kShR sh srt sln cel) (hsh : kShOk sh) : kyM l yX8_cell wsX8_cell ({ frames := 2, cells := 0, slots := 0, locals := 42 }) D cI cS [.ref (bd 0), .int x, .int y, .int z] [(bd 0, .inr (8, [.int mf, .int mt, .ref (bd 1), .ref (bd 2), .ref (bd 3), .int (nI N), .ref (bd 4), .ref (bd 5), .ref (bd 6), .int wind, .int low, .int forb, .int mat, .int mrf, .ref (bd 7), .ref (bd 8), .ref (bd 9), .int (nI nc), .ref (bd 10), .ref (bd 11), .ref (bd 12), .int (nI ns), .ref (bd 13), .ref (bd 14), .ref (bd 15), .ref (bd 16), .int bw, .int fi, .ref (bd 17), .ref (bd 18), .ref (bd 19), .ref (bd 20), .ref (bd 21), .ref (bd 22), .ref (bd 23), .ref (bd 24), .ref (bd 25), .ref (bd 26), .int mon, .int mot, .ref (bd 27), .ref (bd 28), .ref (bd 29), .ref (bd 30)])), (bd 1, .inl (cI, 4, .inl srt)), (bd 2, .inl (cI, 4, .inl sln)), (bd 3, .inl (cI, 160, .inl cel))] 0 0 (fun vR wR => ∃ r2 : Int64, ∃ mf2 : Int32, vR = some (.long r2) ∧ wR = [(bd 0, .inr (8, [.int mf2, .int mt, .ref (bd 1), .ref (bd 2), .ref (bd 3), .int (nI N), .ref (bd 4), .ref (bd 5), .ref (bd 6), .int wind, .int low, .int forb, .int mat, .int mrf, .ref (bd 7), .ref (bd 8), .ref (bd 9), .int (nI nc), .ref (bd 10), .ref (bd 11), .ref (bd 12), .int (nI ns), .ref (bd 13), .ref (bd 14), .ref (bd 15), .ref (bd 16), .int bw, .int fi, .ref (bd 17), .ref (bd 18), .ref (bd 19), .ref (bd 20), .ref (bd 21), .ref (bd 22), .ref (bd 23), .ref (bd 24), .ref (bd 25), .ref (bd 26), .int mon, .int mot, .ref (bd 27), .ref (bd 28), .ref (bd 29), .ref (bd 30)])), (bd 1, .inl (cI, 4, .inl srt)), (bd 2, .inl (cI, 4, .inl sln)), (bd 3, .inl (cI, 160, .inl cel))] ∧ ((r2, mf2) = kF_cell sh x y z)) := by
  refine ky_start (own := RX8) (cc := cX8_cell) (nL := 4) (ret := (some .long)) (by decide) rfl rfl (Nat.le_of_ble_eq_true rfl) ?_
  intro p e s m args below meth c C hr hlk hnm
  refine ky_conv (lv' := [(0, .ref (bd 0)), (1, .int x), (2, .int y), (3, .int z)]) (List.range 4) rfl rfl rfl ?_
  refine ky_aload_n C 0 dX8_cell_0 rfl rfl ?_
  refine ky_iconst C dX8_cell_1 (v := 0) (by decide) ?_
  refine ky_put C (ci := 8) (T := TX8) (N := 44) (Cn := RX8) (ref := "RainAccountModel") hiX8_cell_X8 tyX8 tyX8_ok nmX8 0 rfl rfl 0 (by decide) (List.mem_of_getElem? (i := 1) rfl) rfl rfl rfl rfl (Nat.le_of_ble_eq_true rfl) dX8_cell_2 (ws' := [(bd 0, .inr (8, [.int 0, .int mt, .ref (bd 1), .ref (bd 2), .ref (bd 3), .int (nI N), .ref (bd 4), .ref (bd 5), .ref (bd 6), .int wind, .int low, .int forb, .int mat, .int mrf, .ref (bd 7), .ref (bd 8), .ref (bd 9), .int (nI nc), .ref (bd 10), .ref (bd 11), .ref (bd 12), .int (nI ns), .ref (bd 13), .ref (bd 14), .ref (bd 15), .ref (bd 16), .int bw, .int fi, .ref (bd 17), .ref (bd 18), .ref (bd 19), .ref (bd 20), .ref (bd 21), .ref (bd 22), .ref (bd 23), .ref (bd 24), .ref (bd 25), .ref (bd 26), .int mon, .int mot, .ref (bd 27), .ref (bd 28), .ref (bd 29), .ref (bd 30)])), (bd 1, .inl (cI, 4, .inl srt)), (bd 2, .inl (cI, 4, .inl sln)), (bd 3, .inl (cI, 160, .inl cel))]) rfl ?_
  refine ky_iload_n C 1 dX8_cell_5 rfl rfl ?_
  refine ky_callS0 C 1 (kX8_isSheet l D cI cS x) gX8_cell_X8_isSheet rfl rfl rfl hdX8_isSheet.2 ⟨Nat.le_of_ble_eq_true rfl, Nat.le_of_ble_eq_true rfl⟩ rfl rfl (Nat.le_of_ble_eq_true rfl) dX8_cell_6 [] rfl rfl ?_
  rintro _ _ ⟨rfl, rfl⟩
  refine ky_ws (ws' := [(bd 0, .inr (8, [.int 0, .int mt, .ref (bd 1), .ref (bd 2), .ref (bd 3), .int (nI N), .ref (bd 4), .ref (bd 5), .ref (bd 6), .int wind, .int low, .int forb, .int mat, .int mrf, .ref (bd 7), .ref (bd 8), .ref (bd 9), .int (nI nc), .ref (bd 10), .ref (bd 11), .ref (bd 12), .int (nI ns), .ref (bd 13), .ref (bd 14), .ref (bd 15), .ref (bd 16), .int bw, .int fi, .ref (bd 17), .ref (bd 18), .ref (bd 19), .ref (bd 20), .ref (bd 21), .ref (bd 22), .ref (bd 23), .ref (bd 24), .ref (bd 25), .ref (bd 26), .int mon, .int mot, .ref (bd 27), .ref (bd 28), .ref (bd 29), .ref (bd 30)])), (bd 1, .inl (cI, 4, .inl srt)), (bd 2, .inl (cI, 4, .inl sln)), (bd 3, .inl (cI, 160, .inl cel))]) (st' := [.int (if 0 ≤ x ∧ x ≤ 3 then (1 : Int32) else 0)]) rfl rfl ?_
  refine ky_if_eq C 19 dX8_cell_9 (by decide) (fun c_9 => ?_) (fun c_9 => ?_)
  · have c_9 : ¬ (0 ≤ x ∧ x ≤ 3) := kb0 c_9
    refine ky_ldc2 C (List.mem_of_getElem? (i := 2) rfl) dX8_cell_19 ?_
    exact ky_lret C hr hlk ⟨(-9223372036854775808), 0, rfl, rfl, (by first | (simp only [kF_cell, if_neg c_9]; done) | (simp only [kF_cell, if_neg c_9]; rfl))⟩ (Nat.le_of_ble_eq_true rfl) dX8_cell_22
  · have c_9 : 0 ≤ x ∧ x ≤ 3 := kb1 c_9
    refine ky_iload_n C 3 dX8_cell_12 rfl rfl ?_
    refine ky_callS0 C 1 (kX8_isSort l D cI cS z) gX8_cell_X8_isSort rfl rfl rfl hdX8_isSort.2 ⟨Nat.le_of_ble_eq_true rfl, Nat.le_of_ble_eq_true rfl⟩ rfl rfl (Nat.le_of_ble_eq_true rfl) dX8_cell_13 [] rfl rfl ?_
    rintro _ _ ⟨rfl, rfl⟩
    refine ky_ws (ws' := [(bd 0, .inr (8, [.int 0, .int mt, .ref (bd 1), .ref (bd 2), .ref (bd 3), .int (nI N), .ref (bd 4), .ref (bd 5), .ref (bd 6), .int wind, .int low, .int forb, .int mat, .int mrf, .ref (bd 7), .ref (bd 8), .ref (bd 9), .int (nI nc), .ref (bd 10), .ref (bd 11), .ref (bd 12), .int (nI ns), .ref (bd 13), .ref (bd 14), .ref (bd 15), .ref (bd 16), .int bw, .int fi, .ref (bd 17), .ref (bd 18), .ref (bd 19), .ref (bd 20), .ref (bd 21), .ref (bd 22), .ref (bd 23), .ref (bd 24), .ref (bd 25), .ref (bd 26), .int mon, .int mot, .ref (bd 27), .ref (bd 28), .ref (bd 29), .ref (bd 30)])), (bd 1, .inl (cI, 4, .inl srt)), (bd 2, .inl (cI, 4, .inl sln)), (bd 3, .inl (cI, 160, .inl cel))]) (st' := [.int (if 0 ≤ z ∧ z ≤ 2 then (1 : Int32) else 0)]) rfl rfl ?_
    refine ky_if_ne C 23 dX8_cell_16 (by decide) (fun c_16 => ?_) (fun c_16 => ?_)
    · have c_16 : 0 ≤ z ∧ z ≤ 2 := kb1 c_16
      obtain ⟨j, hj, rfl⟩ := kixle (n := 3) c_9 (by omega)
      have hcj : (nI j).toNatClampNeg = j := nI_clamp (by omega)
      have hj4 : j < 4 := by omega
      refine ky_aload_n C 0 dX8_cell_23 rfl rfl ?_
      refine ky_get C (ci := 8) (T := TX8) (N := 44) (Cn := RX8) (ref := "RainAccountModel") hiX8_cell_X8 0 rfl rfl 2 (by decide) (List.mem_of_getElem? (i := 3) rfl) rfl (v := .ref (bd 1)) rfl dX8_cell_24 ?_
      refine ky_iload_n C 1 dX8_cell_27 rfl rfl ?_
      refine ky_ialdN C 1 (k := j) rfl (by omega) (by decide) dX8_cell_28 (v := srt j) rfl ?_
      refine ky_bipush C dX8_cell_29 (v := (-9)) (by decide) ?_
      refine ky_icmp_eq C 50 dX8_cell_31 (by decide) (fun c_31 => ?_) (fun c_31 => ?_)
      · refine ky_aload_n C 0 dX8_cell_50 rfl rfl ?_
        refine ky_get C (ci := 8) (T := TX8) (N := 44) (Cn := RX8) (ref := "RainAccountModel") hiX8_cell_X8 0 rfl rfl 2 (by decide) (List.mem_of_getElem? (i := 3) rfl) rfl (v := .ref (bd 1)) rfl dX8_cell_51 ?_
        refine ky_iload_n C 1 dX8_cell_54 rfl rfl ?_
        refine ky_ialdN C 1 (k := j) rfl (by omega) (by decide) dX8_cell_55 (v := srt j) rfl ?_
        refine ky_bipush C dX8_cell_56 (v := (-9)) (by decide) ?_
        refine ky_icmp_ne C 67 dX8_cell_58 (by decide) (fun q => absurd c_31 q) (fun c_58 => ?_)
        have h9 : (sh j).2.1 = -1 := kR_n hR hsh hj4 c_31
        refine ky_aload_n C 0 dX8_cell_61 rfl rfl ?_
        refine ky_iconst C dX8_cell_62 (v := 1) (by decide) ?_
        refine ky_callV0 C 1 (kX8_lost l D cI cS bd 0 mt N wind low forb mat mrf nc ns bw fi mon mot 1) gX8_cell_X8_lost rfl rfl rfl hdX8_lost 0 8 rfl rfl rfl ⟨Nat.le_of_ble_eq_true rfl, Nat.le_of_ble_eq_true rfl⟩ rfl rfl (Nat.le_of_ble_eq_true rfl) dX8_cell_63 [0] rfl rfl ?_
        rintro _ _ ⟨rfl, rfl⟩
        refine ky_ws (ws' := [(bd 0, .inr (8, [.int 1, .int mt, .ref (bd 1), .ref (bd 2), .ref (bd 3), .int (nI N), .ref (bd 4), .ref (bd 5), .ref (bd 6), .int wind, .int low, .int forb, .int mat, .int mrf, .ref (bd 7), .ref (bd 8), .ref (bd 9), .int (nI nc), .ref (bd 10), .ref (bd 11), .ref (bd 12), .int (nI ns), .ref (bd 13), .ref (bd 14), .ref (bd 15), .ref (bd 16), .int bw, .int fi, .ref (bd 17), .ref (bd 18), .ref (bd 19), .ref (bd 20), .ref (bd 21), .ref (bd 22), .ref (bd 23), .ref (bd 24), .ref (bd 25), .ref (bd 26), .int mon, .int mot, .ref (bd 27), .ref (bd 28), .ref (bd 29), .ref (bd 30)])), (bd 1, .inl (cI, 4, .inl srt)), (bd 2, .inl (cI, 4, .inl sln)), (bd 3, .inl (cI, 160, .inl cel))]) (st' := [.long (-9223372036854775808)]) rfl rfl ?_
        exact ky_lret C hr hlk ⟨(-9223372036854775808), 1, congrArg (fun z => some (Value.long z)) (show (-9223372036854775808) = ((-9223372036854775808)) from by simp [c_9, c_16, hcj, c_31, h9]), rfl, (by first | (simp only [kF_cell, if_pos c_9, if_pos c_16, hcj, if_pos c_31, if_pos h9]; done) | (simp only [kF_cell, if_pos c_9, if_pos c_16, hcj, if_pos c_31, if_pos h9]; rfl))⟩ (Nat.le_of_ble_eq_true rfl) dX8_cell_66
      · refine ky_aload_n C 0 dX8_cell_34 rfl rfl ?_
        refine ky_get C (ci := 8) (T := TX8) (N := 44) (Cn := RX8) (ref := "RainAccountModel") hiX8_cell_X8 0 rfl rfl 2 (by decide) (List.mem_of_getElem? (i := 3) rfl) rfl (v := .ref (bd 1)) rfl dX8_cell_35 ?_
        refine ky_iload_n C 1 dX8_cell_38 rfl rfl ?_
        refine ky_ialdN C 1 (k := j) rfl (by omega) (by decide) dX8_cell_39 (v := srt j) rfl ?_
        refine ky_iload_n C 3 dX8_cell_40 rfl rfl ?_
        refine ky_icmp_eq C 50 dX8_cell_41 (by decide) (fun c_41 => ?_) (fun c_41 => ?_)
        · refine ky_aload_n C 0 dX8_cell_50 rfl rfl ?_
          refine ky_get C (ci := 8) (T := TX8) (N := 44) (Cn := RX8) (ref := "RainAccountModel") hiX8_cell_X8 0 rfl rfl 2 (by decide) (List.mem_of_getElem? (i := 3) rfl) rfl (v := .ref (bd 1)) rfl dX8_cell_51 ?_
          refine ky_iload_n C 1 dX8_cell_54 rfl rfl ?_
          refine ky_ialdN C 1 (k := j) rfl (by omega) (by decide) dX8_cell_55 (v := srt j) rfl ?_
          refine ky_bipush C dX8_cell_56 (v := (-9)) (by decide) ?_
          refine ky_icmp_ne C 67 dX8_cell_58 (by decide) (fun c_58 => ?_) (fun q => absurd q c_31)
          obtain ⟨h9, hso, hl⟩ := kR_s hR hsh hj4 c_31
          have h8 : (sh j).1 = z := hso.symm.trans c_41
          refine ky_iload_n C 2 dX8_cell_67 rfl rfl ?_
          refine ky_iconst C dX8_cell_68 (v := 0) (by decide) ?_
          refine ky_aload_n C 0 dX8_cell_69 rfl rfl ?_
          refine ky_get C (ci := 8) (T := TX8) (N := 44) (Cn := RX8) (ref := "RainAccountModel") hiX8_cell_X8 0 rfl rfl 3 (by decide) (List.mem_of_getElem? (i := 4) rfl) rfl (v := .ref (bd 2)) rfl dX8_cell_70 ?_
          refine ky_iload_n C 1 dX8_cell_73 rfl rfl ?_
          refine ky_ialdN C 2 (k := j) rfl (by omega) (by decide) dX8_cell_74 (v := sln j) rfl ?_
          refine ky_iconst C dX8_cell_75 (v := 1) (by decide) ?_
          refine ky_isub C (v := (sln j) - 1) dX8_cell_76 rfl ?_
          refine ky_callS0 C 3 (kX8_within l D cI cS y 0 ((sln j) - 1)) gX8_cell_X8_within rfl rfl rfl hdX8_within.2 ⟨Nat.le_of_ble_eq_true rfl, Nat.le_of_ble_eq_true rfl⟩ rfl rfl (Nat.le_of_ble_eq_true rfl) dX8_cell_77 [] rfl rfl ?_
          rintro _ _ ⟨rfl, rfl⟩
          refine ky_ws (ws' := [(bd 0, .inr (8, [.int 0, .int mt, .ref (bd 1), .ref (bd 2), .ref (bd 3), .int (nI N), .ref (bd 4), .ref (bd 5), .ref (bd 6), .int wind, .int low, .int forb, .int mat, .int mrf, .ref (bd 7), .ref (bd 8), .ref (bd 9), .int (nI nc), .ref (bd 10), .ref (bd 11), .ref (bd 12), .int (nI ns), .ref (bd 13), .ref (bd 14), .ref (bd 15), .ref (bd 16), .int bw, .int fi, .ref (bd 17), .ref (bd 18), .ref (bd 19), .ref (bd 20), .ref (bd 21), .ref (bd 22), .ref (bd 23), .ref (bd 24), .ref (bd 25), .ref (bd 26), .int mon, .int mot, .ref (bd 27), .ref (bd 28), .ref (bd 29), .ref (bd 30)])), (bd 1, .inl (cI, 4, .inl srt)), (bd 2, .inl (cI, 4, .inl sln)), (bd 3, .inl (cI, 160, .inl cel))]) (st' := [.int (if 0 ≤ y ∧ y ≤ ((sln j) - 1) then (1 : Int32) else 0)]) rfl rfl ?_
          refine ky_if_ne C 89 dX8_cell_80 (by decide) (fun c_80 => ?_) (fun c_80 => ?_)
          · have c_80 : 0 ≤ y ∧ y ≤ ((sln j) - 1) := kb1 c_80
            have hh0 : 0 ≤ y ∧ y < (sh j).2.1 := kIn_of (hsh j hj4) h9 hl c_80
            have hy40 : y < 40 := kHold40 (hsh j hj4) h9 hh0
            obtain ⟨i0, hi0, rfl⟩ := kix (n := 40) ⟨hh0.1, hy40⟩ (by omega)
            have hci0 : (nI i0).toNatClampNeg = i0 := nI_clamp (by omega)
            have hce : cel (40 * j + i0) = (sh j).2.2 i0 := (hR j hj4).2.2 i0 hi0
            refine ky_aload_n C 0 dX8_cell_89 rfl rfl ?_
            refine ky_get C (ci := 8) (T := TX8) (N := 44) (Cn := RX8) (ref := "RainAccountModel") hiX8_cell_X8 0 rfl rfl 4 (by decide) (List.mem_of_getElem? (i := 5) rfl) rfl (v := .ref (bd 3)) rfl dX8_cell_90 ?_
            refine ky_bipush C dX8_cell_93 (v := 40) (by decide) ?_
            refine ky_iload_n C 1 dX8_cell_95 rfl rfl ?_
            refine ky_imul C (v := nI (40 * j)) dX8_cell_96 (pk_mul 40 j) ?_
            refine ky_iload_n C 2 dX8_cell_97 rfl rfl ?_
            refine ky_iadd C (v := nI (40 * j + i0)) dX8_cell_98 (nI_add (40 * j) i0) ?_
            refine ky_ialdN C 3 (k := 40 * j + i0) rfl (by omega) (by decide) dX8_cell_99 (v := cel (40 * j + i0)) rfl ?_
            refine ky_i2l C (v := (cel (40 * j + i0)).toInt64) dX8_cell_100 rfl ?_
            exact ky_lret C hr hlk ⟨((cel (40 * j + i0)).toInt64), 0, rfl, rfl, (by first | (simp only [kF_cell, if_pos c_9, if_pos c_16, hcj, if_neg c_31, if_pos c_41, if_neg h9, if_pos h8, if_pos c_80, if_pos hh0, hci0, hce]; done) | (simp only [kF_cell, if_pos c_9, if_pos c_16, hcj, if_neg c_31, if_pos c_41, if_neg h9, if_pos h8, if_pos c_80, if_pos hh0, hci0, hce]; rfl))⟩ (Nat.le_of_ble_eq_true rfl) dX8_cell_101
          · have c_80 : ¬ (0 ≤ y ∧ y ≤ ((sln j) - 1)) := kb0 c_80
            have hh0 : ¬ (0 ≤ y ∧ y < (sh j).2.1) := fun q => c_80 (kIn_to (hsh j hj4) h9 hl q)
            refine ky_aload_n C 0 dX8_cell_83 rfl rfl ?_
            refine ky_iconst C dX8_cell_84 (v := 3) (by decide) ?_
            refine ky_callV0 C 1 (kX8_lost l D cI cS bd 0 mt N wind low forb mat mrf nc ns bw fi mon mot 3) gX8_cell_X8_lost rfl rfl rfl hdX8_lost 0 8 rfl rfl rfl ⟨Nat.le_of_ble_eq_true rfl, Nat.le_of_ble_eq_true rfl⟩ rfl rfl (Nat.le_of_ble_eq_true rfl) dX8_cell_85 [0] rfl rfl ?_
            rintro _ _ ⟨rfl, rfl⟩
            refine ky_ws (ws' := [(bd 0, .inr (8, [.int 3, .int mt, .ref (bd 1), .ref (bd 2), .ref (bd 3), .int (nI N), .ref (bd 4), .ref (bd 5), .ref (bd 6), .int wind, .int low, .int forb, .int mat, .int mrf, .ref (bd 7), .ref (bd 8), .ref (bd 9), .int (nI nc), .ref (bd 10), .ref (bd 11), .ref (bd 12), .int (nI ns), .ref (bd 13), .ref (bd 14), .ref (bd 15), .ref (bd 16), .int bw, .int fi, .ref (bd 17), .ref (bd 18), .ref (bd 19), .ref (bd 20), .ref (bd 21), .ref (bd 22), .ref (bd 23), .ref (bd 24), .ref (bd 25), .ref (bd 26), .int mon, .int mot, .ref (bd 27), .ref (bd 28), .ref (bd 29), .ref (bd 30)])), (bd 1, .inl (cI, 4, .inl srt)), (bd 2, .inl (cI, 4, .inl sln)), (bd 3, .inl (cI, 160, .inl cel))]) (st' := [.long (-9223372036854775808)]) rfl rfl ?_
            exact ky_lret C hr hlk ⟨(-9223372036854775808), 3, congrArg (fun z => some (Value.long z)) (show (-9223372036854775808) = ((-9223372036854775808)) from by simp [c_9, c_16, hcj, c_31, c_41, h9, h8, c_80, hh0]), rfl, (by first | (simp only [kF_cell, if_pos c_9, if_pos c_16, hcj, if_neg c_31, if_pos c_41, if_neg h9, if_pos h8, if_neg c_80, if_neg hh0]; done) | (simp only [kF_cell, if_pos c_9, if_pos c_16, hcj, if_neg c_31, if_pos c_41, if_neg h9, if_pos h8, if_neg c_80, if_neg hh0]; rfl))⟩ (Nat.le_of_ble_eq_true rfl) dX8_cell_88
        · obtain ⟨h9, hso, hl⟩ := kR_s hR hsh hj4 c_31
          have h8 : ¬ (sh j).1 = z := fun q => c_41 (hso.trans q)
          refine ky_aload_n C 0 dX8_cell_44 rfl rfl ?_
          refine ky_iconst C dX8_cell_45 (v := 2) (by decide) ?_
          refine ky_callV0 C 1 (kX8_lost l D cI cS bd 0 mt N wind low forb mat mrf nc ns bw fi mon mot 2) gX8_cell_X8_lost rfl rfl rfl hdX8_lost 0 8 rfl rfl rfl ⟨Nat.le_of_ble_eq_true rfl, Nat.le_of_ble_eq_true rfl⟩ rfl rfl (Nat.le_of_ble_eq_true rfl) dX8_cell_46 [0] rfl rfl ?_
          rintro _ _ ⟨rfl, rfl⟩
          refine ky_ws (ws' := [(bd 0, .inr (8, [.int 2, .int mt, .ref (bd 1), .ref (bd 2), .ref (bd 3), .int (nI N), .ref (bd 4), .ref (bd 5), .ref (bd 6), .int wind, .int low, .int forb, .int mat, .int mrf, .ref (bd 7), .ref (bd 8), .ref (bd 9), .int (nI nc), .ref (bd 10), .ref (bd 11), .ref (bd 12), .int (nI ns), .ref (bd 13), .ref (bd 14), .ref (bd 15), .ref (bd 16), .int bw, .int fi, .ref (bd 17), .ref (bd 18), .ref (bd 19), .ref (bd 20), .ref (bd 21), .ref (bd 22), .ref (bd 23), .ref (bd 24), .ref (bd 25), .ref (bd 26), .int mon, .int mot, .ref (bd 27), .ref (bd 28), .ref (bd 29), .ref (bd 30)])), (bd 1, .inl (cI, 4, .inl srt)), (bd 2, .inl (cI, 4, .inl sln)), (bd 3, .inl (cI, 160, .inl cel))]) (st' := [.long (-9223372036854775808)]) rfl rfl ?_
          exact ky_lret C hr hlk ⟨(-9223372036854775808), 2, congrArg (fun z => some (Value.long z)) (show (-9223372036854775808) = ((-9223372036854775808)) from by simp [c_9, c_16, hcj, c_31, c_41, h9, h8]), rfl, (by first | (simp only [kF_cell, if_pos c_9, if_pos c_16, hcj, if_neg c_31, if_neg c_41, if_neg h9, if_neg h8]; done) | (simp only [kF_cell, if_pos c_9, if_pos c_16, hcj, if_neg c_31, if_neg c_41, if_neg h9, if_neg h8]; rfl))⟩ (Nat.le_of_ble_eq_true rfl) dX8_cell_49
    · have c_16 : ¬ (0 ≤ z ∧ z ≤ 2) := kb0 c_16
      refine ky_ldc2 C (List.mem_of_getElem? (i := 2) rfl) dX8_cell_19 ?_
      exact ky_lret C hr hlk ⟨(-9223372036854775808), 0, rfl, rfl, (by first | (simp only [kF_cell, if_pos c_9, if_neg c_16]; done) | (simp only [kF_cell, if_pos c_9, if_neg c_16]; rfl))⟩ (Nat.le_of_ble_eq_true rfl) dX8_cell_22
theorem hiX8_copy_X8 : ∀ w ∈ wsX80, w ∈ wsX8_copy := fun _ h => (List.mem_cons_of_mem _ (List.mem_append_right _ h))
theorem hdX8_copy : yX8_copy.cls = RX8 ∧ yX8_copy.cls ≠ "java/lang/invoke/MethodHandle" ∧ yX8_copy.cls ≠ "java/lang/invoke/VarHandle" ∧ (parseMethodDescriptor yX8_copy.desc).map (fun d => d.parameters.length) = some 5 := by decide +kernel
set_option maxRecDepth 100000 in
set_option maxHeartbeats 4000000 in
/-- X8_copy -/
theorem kX8_copy (l : Launch) (D : va_G) (cI cS : ClassId) (sh : Nat → kSh) (bd : Nat → Nat) (mf : Int32) (mt : Int32) (N : Nat) (wind : Int32) (low : Int32) (forb : Int32) (mat : Int32) (mrf : Int32) (nc : Nat) (ns : Nat) (bw : Int32) (fi : Int32) (mon : Int32) (mot : Int32) (srt : Nat → Int32) (sln : Nat → Int32) (cel : Nat → Int32) (x : Int32) (y : Int32) (z : Int32) (u : Int32) (t : Int32) (hR : kShR sh srt sln cel) (hsh : kShOk sh) : kyM l yX8_copy wsX8_copy ({ frames := 2, cells := 0, slots := 0, locals := 42 }) D cI cS [.ref (bd 0), .int x, .int y, .int z, .int u, .int t] [(bd 0, .inr (8, [.int mf, .int mt, .ref (bd 1), .ref (bd 2), .ref (bd 3), .int (nI N), .ref (bd 4), .ref (bd 5), .ref (bd 6), .int wind, .int low, .int forb, .int mat, .int mrf, .ref (bd 7), .ref (bd 8), .ref (bd 9), .int (nI nc), .ref (bd 10), .ref (bd 11), .ref (bd 12), .int (nI ns), .ref (bd 13), .ref (bd 14), .ref (bd 15), .ref (bd 16), .int bw, .int fi, .ref (bd 17), .ref (bd 18), .ref (bd 19), .ref (bd 20), .ref (bd 21), .ref (bd 22), .ref (bd 23), .ref (bd 24), .ref (bd 25), .ref (bd 26), .int mon, .int mot, .ref (bd 27), .ref (bd 28), .ref (bd 29), .ref (bd 30)])), (bd 1, .inl (cI, 4, .inl srt)), (bd 2, .inl (cI, 4, .inl sln)), (bd 3, .inl (cI, 160, .inl cel))] 0 0 (fun vR wR => ∃ r2 : Int32, ∃ mf2 : Int32, ∃ sh2 : Nat → kSh, ∃ cel2 : Nat → Int32, vR = some (.int r2) ∧ wR = [(bd 0, .inr (8, [.int mf2, .int mt, .ref (bd 1), .ref (bd 2), .ref (bd 3), .int (nI N), .ref (bd 4), .ref (bd 5), .ref (bd 6), .int wind, .int low, .int forb, .int mat, .int mrf, .ref (bd 7), .ref (bd 8), .ref (bd 9), .int (nI nc), .ref (bd 10), .ref (bd 11), .ref (bd 12), .int (nI ns), .ref (bd 13), .ref (bd 14), .ref (bd 15), .ref (bd 16), .int bw, .int fi, .ref (bd 17), .ref (bd 18), .ref (bd 19), .ref (bd 20), .ref (bd 21), .ref (bd 22), .ref (bd 23), .ref (bd 24), .ref (bd 25), .ref (bd 26), .int mon, .int mot, .ref (bd 27), .ref (bd 28), .ref (bd 29), .ref (bd 30)])), (bd 1, .inl (cI, 4, .inl srt)), (bd 2, .inl (cI, 4, .inl sln)), (bd 3, .inl (cI, 160, .inl cel2))] ∧ ((r2, mf2, sh2) = kF_copy sh x y z u t) ∧ (kShR sh2 srt sln cel2)) := by
  refine ky_start (own := RX8) (cc := cX8_copy) (nL := 10) (ret := (some .int)) (by decide) rfl rfl (Nat.le_of_ble_eq_true rfl) ?_
  intro p e s m args below meth c C hr hlk hnm
  refine ky_conv (lv' := [(0, .ref (bd 0)), (1, .int x), (2, .int y), (3, .int z), (4, .int u), (5, .int t)]) (List.range 6) rfl rfl rfl ?_
  refine ky_aload_n C 0 dX8_copy_0 rfl rfl ?_
  refine ky_iconst C dX8_copy_1 (v := 0) (by decide) ?_
  refine ky_put C (ci := 8) (T := TX8) (N := 44) (Cn := RX8) (ref := "RainAccountModel") hiX8_copy_X8 tyX8 tyX8_ok nmX8 0 rfl rfl 0 (by decide) (List.mem_of_getElem? (i := 1) rfl) rfl rfl rfl rfl (Nat.le_of_ble_eq_true rfl) dX8_copy_2 (ws' := [(bd 0, .inr (8, [.int 0, .int mt, .ref (bd 1), .ref (bd 2), .ref (bd 3), .int (nI N), .ref (bd 4), .ref (bd 5), .ref (bd 6), .int wind, .int low, .int forb, .int mat, .int mrf, .ref (bd 7), .ref (bd 8), .ref (bd 9), .int (nI nc), .ref (bd 10), .ref (bd 11), .ref (bd 12), .int (nI ns), .ref (bd 13), .ref (bd 14), .ref (bd 15), .ref (bd 16), .int bw, .int fi, .ref (bd 17), .ref (bd 18), .ref (bd 19), .ref (bd 20), .ref (bd 21), .ref (bd 22), .ref (bd 23), .ref (bd 24), .ref (bd 25), .ref (bd 26), .int mon, .int mot, .ref (bd 27), .ref (bd 28), .ref (bd 29), .ref (bd 30)])), (bd 1, .inl (cI, 4, .inl srt)), (bd 2, .inl (cI, 4, .inl sln)), (bd 3, .inl (cI, 160, .inl cel))]) rfl ?_
  refine ky_iload_n C 1 dX8_copy_5 rfl rfl ?_
  refine ky_callS0 C 1 (kX8_isSheet l D cI cS x) gX8_copy_X8_isSheet rfl rfl rfl hdX8_isSheet.2 ⟨Nat.le_of_ble_eq_true rfl, Nat.le_of_ble_eq_true rfl⟩ rfl rfl (Nat.le_of_ble_eq_true rfl) dX8_copy_6 [] rfl rfl ?_
  rintro _ _ ⟨rfl, rfl⟩
  refine ky_ws (ws' := [(bd 0, .inr (8, [.int 0, .int mt, .ref (bd 1), .ref (bd 2), .ref (bd 3), .int (nI N), .ref (bd 4), .ref (bd 5), .ref (bd 6), .int wind, .int low, .int forb, .int mat, .int mrf, .ref (bd 7), .ref (bd 8), .ref (bd 9), .int (nI nc), .ref (bd 10), .ref (bd 11), .ref (bd 12), .int (nI ns), .ref (bd 13), .ref (bd 14), .ref (bd 15), .ref (bd 16), .int bw, .int fi, .ref (bd 17), .ref (bd 18), .ref (bd 19), .ref (bd 20), .ref (bd 21), .ref (bd 22), .ref (bd 23), .ref (bd 24), .ref (bd 25), .ref (bd 26), .int mon, .int mot, .ref (bd 27), .ref (bd 28), .ref (bd 29), .ref (bd 30)])), (bd 1, .inl (cI, 4, .inl srt)), (bd 2, .inl (cI, 4, .inl sln)), (bd 3, .inl (cI, 160, .inl cel))]) (st' := [.int (if 0 ≤ x ∧ x ≤ 3 then (1 : Int32) else 0)]) rfl rfl ?_
  refine ky_if_eq C 19 dX8_copy_9 (by decide) (fun c_9 => ?_) (fun c_9 => ?_)
  · have c_9 : ¬ (0 ≤ x ∧ x ≤ 3) := kb0 c_9
    refine ky_iconst C dX8_copy_19 (v := (-1)) (by decide) ?_
    exact ky_iret C hr hlk ⟨(-1), 0, sh, cel, rfl, rfl, (by first | (simp only [kF_copy, if_neg c_9]; done) | (simp only [kF_copy, if_neg c_9]; rfl)), hR⟩ (Nat.le_of_ble_eq_true rfl) dX8_copy_20
  · have c_9 : 0 ≤ x ∧ x ≤ 3 := kb1 c_9
    refine ky_iload_n C 3 dX8_copy_12 rfl rfl ?_
    refine ky_callS0 C 1 (kX8_isSheet l D cI cS z) gX8_copy_X8_isSheet rfl rfl rfl hdX8_isSheet.2 ⟨Nat.le_of_ble_eq_true rfl, Nat.le_of_ble_eq_true rfl⟩ rfl rfl (Nat.le_of_ble_eq_true rfl) dX8_copy_13 [] rfl rfl ?_
    rintro _ _ ⟨rfl, rfl⟩
    refine ky_ws (ws' := [(bd 0, .inr (8, [.int 0, .int mt, .ref (bd 1), .ref (bd 2), .ref (bd 3), .int (nI N), .ref (bd 4), .ref (bd 5), .ref (bd 6), .int wind, .int low, .int forb, .int mat, .int mrf, .ref (bd 7), .ref (bd 8), .ref (bd 9), .int (nI nc), .ref (bd 10), .ref (bd 11), .ref (bd 12), .int (nI ns), .ref (bd 13), .ref (bd 14), .ref (bd 15), .ref (bd 16), .int bw, .int fi, .ref (bd 17), .ref (bd 18), .ref (bd 19), .ref (bd 20), .ref (bd 21), .ref (bd 22), .ref (bd 23), .ref (bd 24), .ref (bd 25), .ref (bd 26), .int mon, .int mot, .ref (bd 27), .ref (bd 28), .ref (bd 29), .ref (bd 30)])), (bd 1, .inl (cI, 4, .inl srt)), (bd 2, .inl (cI, 4, .inl sln)), (bd 3, .inl (cI, 160, .inl cel))]) (st' := [.int (if 0 ≤ z ∧ z ≤ 3 then (1 : Int32) else 0)]) rfl rfl ?_
    refine ky_if_ne C 21 dX8_copy_16 (by decide) (fun c_16 => ?_) (fun c_16 => ?_)
    · have c_16 : 0 ≤ z ∧ z ≤ 3 := kb1 c_16
      obtain ⟨j, hj, rfl⟩ := kixle (n := 3) c_9 (by omega)
      have hcj : (nI j).toNatClampNeg = j := nI_clamp (by omega)
      obtain ⟨jo, hjo, rfl⟩ := kixle (n := 3) c_16 (by omega)
      have hcjo : (nI jo).toNatClampNeg = jo := nI_clamp (by omega)
      have hj4 : j < 4 := by omega
      have hjo4 : jo < 4 := by omega
      refine ky_aload_n C 0 dX8_copy_21 rfl rfl ?_
      refine ky_get C (ci := 8) (T := TX8) (N := 44) (Cn := RX8) (ref := "RainAccountModel") hiX8_copy_X8 0 rfl rfl 2 (by decide) (List.mem_of_getElem? (i := 2) rfl) rfl (v := .ref (bd 1)) rfl dX8_copy_22 ?_
      refine ky_iload_n C 1 dX8_copy_25 rfl rfl ?_
      refine ky_ialdN C 1 (k := j) rfl (by omega) (by decide) dX8_copy_26 (v := srt j) rfl ?_
      refine ky_bipush C dX8_copy_27 (v := (-9)) (by decide) ?_
      refine ky_icmp_eq C 43 dX8_copy_29 (by decide) (fun c_29 => ?_) (fun c_29 => ?_)
      · have h99 : (sh j).2.1 = -1 ∨ (sh jo).2.1 = -1 := by first | exact Or.inl (kR_n hR hsh hj4 c_29) | exact Or.inr (kR_n hR hsh hjo4 c_40)
        refine ky_aload_n C 0 dX8_copy_43 rfl rfl ?_
        refine ky_iconst C dX8_copy_44 (v := 1) (by decide) ?_
        refine ky_callV0 C 1 (kX8_fails l D cI cS bd 0 mt N wind low forb mat mrf nc ns bw fi mon mot 1) gX8_copy_X8_fails rfl rfl rfl hdX8_fails 0 8 rfl rfl rfl ⟨Nat.le_of_ble_eq_true rfl, Nat.le_of_ble_eq_true rfl⟩ rfl rfl (Nat.le_of_ble_eq_true rfl) dX8_copy_45 [0] rfl rfl ?_
        rintro _ _ ⟨rfl, rfl⟩
        refine ky_ws (ws' := [(bd 0, .inr (8, [.int 1, .int mt, .ref (bd 1), .ref (bd 2), .ref (bd 3), .int (nI N), .ref (bd 4), .ref (bd 5), .ref (bd 6), .int wind, .int low, .int forb, .int mat, .int mrf, .ref (bd 7), .ref (bd 8), .ref (bd 9), .int (nI nc), .ref (bd 10), .ref (bd 11), .ref (bd 12), .int (nI ns), .ref (bd 13), .ref (bd 14), .ref (bd 15), .ref (bd 16), .int bw, .int fi, .ref (bd 17), .ref (bd 18), .ref (bd 19), .ref (bd 20), .ref (bd 21), .ref (bd 22), .ref (bd 23), .ref (bd 24), .ref (bd 25), .ref (bd 26), .int mon, .int mot, .ref (bd 27), .ref (bd 28), .ref (bd 29), .ref (bd 30)])), (bd 1, .inl (cI, 4, .inl srt)), (bd 2, .inl (cI, 4, .inl sln)), (bd 3, .inl (cI, 160, .inl cel))]) (st' := [.int ((-10 : Int32) - 1)]) rfl rfl ?_
        exact ky_iret C hr hlk ⟨((-10 : Int32) - 1), 1, sh, cel, congrArg (fun z => some (Value.int z)) (show ((-10 : Int32) - 1) = (((-10 : Int32) - 1)) from by simp [c_9, c_16, hcj, hcjo, c_29]), rfl, (by rcases h99 with h99 | h99 <;> simp only [kF_copy, if_pos c_9, if_pos c_16, hcj, hcjo, if_pos c_29, h99, ite_self, ↓reduceIte] <;> rfl), hR⟩ (Nat.le_of_ble_eq_true rfl) dX8_copy_48
      · refine ky_aload_n C 0 dX8_copy_32 rfl rfl ?_
        refine ky_get C (ci := 8) (T := TX8) (N := 44) (Cn := RX8) (ref := "RainAccountModel") hiX8_copy_X8 0 rfl rfl 2 (by decide) (List.mem_of_getElem? (i := 2) rfl) rfl (v := .ref (bd 1)) rfl dX8_copy_33 ?_
        refine ky_iload_n C 3 dX8_copy_36 rfl rfl ?_
        refine ky_ialdN C 1 (k := jo) rfl (by omega) (by decide) dX8_copy_37 (v := srt jo) rfl ?_
        refine ky_bipush C dX8_copy_38 (v := (-9)) (by decide) ?_
        refine ky_icmp_ne C 49 dX8_copy_40 (by decide) (fun c_40 => ?_) (fun c_40 => ?_)
        · obtain ⟨h9, hso, hl⟩ := kR_s hR hsh hj4 c_29
          obtain ⟨h9o, hsoo, hlo⟩ := kR_s hR hsh hjo4 c_40
          refine ky_aload_n C 0 dX8_copy_49 rfl rfl ?_
          refine ky_get C (ci := 8) (T := TX8) (N := 44) (Cn := RX8) (ref := "RainAccountModel") hiX8_copy_X8 0 rfl rfl 2 (by decide) (List.mem_of_getElem? (i := 2) rfl) rfl (v := .ref (bd 1)) rfl dX8_copy_50 ?_
          refine ky_iload_n C 1 dX8_copy_53 rfl rfl ?_
          refine ky_ialdN C 1 (k := j) rfl (by omega) (by decide) dX8_copy_54 (v := srt j) rfl ?_
          refine ky_aload_n C 0 dX8_copy_55 rfl rfl ?_
          refine ky_get C (ci := 8) (T := TX8) (N := 44) (Cn := RX8) (ref := "RainAccountModel") hiX8_copy_X8 0 rfl rfl 2 (by decide) (List.mem_of_getElem? (i := 2) rfl) rfl (v := .ref (bd 1)) rfl dX8_copy_56 ?_
          refine ky_iload_n C 3 dX8_copy_59 rfl rfl ?_
          refine ky_ialdN C 1 (k := jo) rfl (by omega) (by decide) dX8_copy_60 (v := srt jo) rfl ?_
          refine ky_icmp_eq C 70 dX8_copy_61 (by decide) (fun c_61 => ?_) (fun c_61 => ?_)
          · have h8 : (sh j).1 = (sh jo).1 := hso.symm.trans (c_61.trans hsoo)
            refine ky_iload_n C 2 dX8_copy_70 rfl rfl ?_
            refine ky_if_lt C 109 dX8_copy_71 (by decide) (fun c_71 => ?_) (fun c_71 => ?_)
            · have d_71 := Int32.not_le.mpr c_71
              refine ky_iconst C dX8_copy_109 (v := 0) (by decide) ?_
              refine ky_istore C (lv' := [(6, .int 0), (0, .ref (bd 0)), (1, .int (nI j)), (2, .int y), (3, .int (nI jo)), (4, .int u), (5, .int t)]) dX8_copy_110 (by decide) rfl ?_
              refine ky_iload C 0 dX8_copy_112 rfl ?_
              refine ky_if_eq C 144 dX8_copy_114 (by decide) (fun c_114 => ?_) (fun q => absurd q (by decide))
              have hno : ¬ ((0 ≤ y ∧ (0 : Int32) ≤ t ∧ y ≤ (sh j).2.1 ∧ t ≤ (sh j).2.1 - y) ∧ (0 ≤ u ∧ (0 : Int32) ≤ t ∧ u ≤ (sh jo).2.1 ∧ t ≤ (sh jo).2.1 - u)) := by
                rintro ⟨⟨q1, q2, q3, q4⟩, q5, _, q6, q7⟩
                rw [← hl] at q3 q4
                rw [← hlo] at q6 q7
                first | exact d_71 q1 | exact d_76 q5 | exact d_81 q2 | exact d_91 q3 | exact d_102 q6 | exact d_127 q4 | exact c_141 q7
              refine ky_aload_n C 1 dX8_copy_144 rfl rfl ?_
              refine ky_iconst C dX8_copy_145 (v := 3) (by decide) ?_
              refine ky_callV0 C 1 (kX8_fails l D cI cS bd 0 mt N wind low forb mat mrf nc ns bw fi mon mot 3) gX8_copy_X8_fails rfl rfl rfl hdX8_fails 0 8 rfl rfl rfl ⟨Nat.le_of_ble_eq_true rfl, Nat.le_of_ble_eq_true rfl⟩ rfl rfl (Nat.le_of_ble_eq_true rfl) dX8_copy_146 [0] rfl rfl ?_
              rintro _ _ ⟨rfl, rfl⟩
              refine ky_ws (ws' := [(bd 0, .inr (8, [.int 3, .int mt, .ref (bd 1), .ref (bd 2), .ref (bd 3), .int (nI N), .ref (bd 4), .ref (bd 5), .ref (bd 6), .int wind, .int low, .int forb, .int mat, .int mrf, .ref (bd 7), .ref (bd 8), .ref (bd 9), .int (nI nc), .ref (bd 10), .ref (bd 11), .ref (bd 12), .int (nI ns), .ref (bd 13), .ref (bd 14), .ref (bd 15), .ref (bd 16), .int bw, .int fi, .ref (bd 17), .ref (bd 18), .ref (bd 19), .ref (bd 20), .ref (bd 21), .ref (bd 22), .ref (bd 23), .ref (bd 24), .ref (bd 25), .ref (bd 26), .int mon, .int mot, .ref (bd 27), .ref (bd 28), .ref (bd 29), .ref (bd 30)])), (bd 1, .inl (cI, 4, .inl srt)), (bd 2, .inl (cI, 4, .inl sln)), (bd 3, .inl (cI, 160, .inl cel))]) (st' := [.int ((-10 : Int32) - 3)]) rfl rfl ?_
              exact ky_iret C hr hlk ⟨((-10 : Int32) - 3), 3, sh, cel, congrArg (fun z => some (Value.int z)) (show ((-10 : Int32) - 3) = (((-10 : Int32) - 3)) from by simp [c_9, c_16, hcj, hcjo, c_29, c_40, h9, h9o, c_61, h8, c_71, d_71]), rfl, (by simp only [kF_copy, if_pos c_9, if_pos c_16, hcj, hcjo, if_neg c_29, if_neg c_40, if_neg h9, if_neg h9o, if_pos c_61, if_pos h8, if_pos c_71, if_neg d_71]; exact kCp2 hno), hR⟩ (Nat.le_of_ble_eq_true rfl) dX8_copy_149
            · have d_71 := Int32.not_lt.mp c_71
              refine ky_iload C 4 dX8_copy_74 rfl ?_
              refine ky_if_lt C 109 dX8_copy_76 (by decide) (fun c_76 => ?_) (fun c_76 => ?_)
              · have d_76 := Int32.not_le.mpr c_76
                refine ky_iconst C dX8_copy_109 (v := 0) (by decide) ?_
                refine ky_istore C (lv' := [(6, .int 0), (0, .ref (bd 0)), (1, .int (nI j)), (2, .int y), (3, .int (nI jo)), (4, .int u), (5, .int t)]) dX8_copy_110 (by decide) rfl ?_
                refine ky_iload C 0 dX8_copy_112 rfl ?_
                refine ky_if_eq C 144 dX8_copy_114 (by decide) (fun c_114 => ?_) (fun q => absurd q (by decide))
                have hno : ¬ ((0 ≤ y ∧ (0 : Int32) ≤ t ∧ y ≤ (sh j).2.1 ∧ t ≤ (sh j).2.1 - y) ∧ (0 ≤ u ∧ (0 : Int32) ≤ t ∧ u ≤ (sh jo).2.1 ∧ t ≤ (sh jo).2.1 - u)) := by
                  rintro ⟨⟨q1, q2, q3, q4⟩, q5, _, q6, q7⟩
                  rw [← hl] at q3 q4
                  rw [← hlo] at q6 q7
                  first | exact d_71 q1 | exact d_76 q5 | exact d_81 q2 | exact d_91 q3 | exact d_102 q6 | exact d_127 q4 | exact c_141 q7
                refine ky_aload_n C 1 dX8_copy_144 rfl rfl ?_
                refine ky_iconst C dX8_copy_145 (v := 3) (by decide) ?_
                refine ky_callV0 C 1 (kX8_fails l D cI cS bd 0 mt N wind low forb mat mrf nc ns bw fi mon mot 3) gX8_copy_X8_fails rfl rfl rfl hdX8_fails 0 8 rfl rfl rfl ⟨Nat.le_of_ble_eq_true rfl, Nat.le_of_ble_eq_true rfl⟩ rfl rfl (Nat.le_of_ble_eq_true rfl) dX8_copy_146 [0] rfl rfl ?_
                rintro _ _ ⟨rfl, rfl⟩
                refine ky_ws (ws' := [(bd 0, .inr (8, [.int 3, .int mt, .ref (bd 1), .ref (bd 2), .ref (bd 3), .int (nI N), .ref (bd 4), .ref (bd 5), .ref (bd 6), .int wind, .int low, .int forb, .int mat, .int mrf, .ref (bd 7), .ref (bd 8), .ref (bd 9), .int (nI nc), .ref (bd 10), .ref (bd 11), .ref (bd 12), .int (nI ns), .ref (bd 13), .ref (bd 14), .ref (bd 15), .ref (bd 16), .int bw, .int fi, .ref (bd 17), .ref (bd 18), .ref (bd 19), .ref (bd 20), .ref (bd 21), .ref (bd 22), .ref (bd 23), .ref (bd 24), .ref (bd 25), .ref (bd 26), .int mon, .int mot, .ref (bd 27), .ref (bd 28), .ref (bd 29), .ref (bd 30)])), (bd 1, .inl (cI, 4, .inl srt)), (bd 2, .inl (cI, 4, .inl sln)), (bd 3, .inl (cI, 160, .inl cel))]) (st' := [.int ((-10 : Int32) - 3)]) rfl rfl ?_
                exact ky_iret C hr hlk ⟨((-10 : Int32) - 3), 3, sh, cel, congrArg (fun z => some (Value.int z)) (show ((-10 : Int32) - 3) = (((-10 : Int32) - 3)) from by simp [c_9, c_16, hcj, hcjo, c_29, c_40, h9, h9o, c_61, h8, c_71, d_71, c_76, d_76]), rfl, (by simp only [kF_copy, if_pos c_9, if_pos c_16, hcj, hcjo, if_neg c_29, if_neg c_40, if_neg h9, if_neg h9o, if_pos c_61, if_pos h8, if_neg c_71, if_pos d_71, if_pos c_76, if_neg d_76]; exact kCp2 hno), hR⟩ (Nat.le_of_ble_eq_true rfl) dX8_copy_149
              · have d_76 := Int32.not_lt.mp c_76
                refine ky_iload C 5 dX8_copy_79 rfl ?_
                refine ky_if_lt C 109 dX8_copy_81 (by decide) (fun c_81 => ?_) (fun c_81 => ?_)
                · have d_81 := Int32.not_le.mpr c_81
                  refine ky_iconst C dX8_copy_109 (v := 0) (by decide) ?_
                  refine ky_istore C (lv' := [(6, .int 0), (0, .ref (bd 0)), (1, .int (nI j)), (2, .int y), (3, .int (nI jo)), (4, .int u), (5, .int t)]) dX8_copy_110 (by decide) rfl ?_
                  refine ky_iload C 0 dX8_copy_112 rfl ?_
                  refine ky_if_eq C 144 dX8_copy_114 (by decide) (fun c_114 => ?_) (fun q => absurd q (by decide))
                  have hno : ¬ ((0 ≤ y ∧ (0 : Int32) ≤ t ∧ y ≤ (sh j).2.1 ∧ t ≤ (sh j).2.1 - y) ∧ (0 ≤ u ∧ (0 : Int32) ≤ t ∧ u ≤ (sh jo).2.1 ∧ t ≤ (sh jo).2.1 - u)) := by
                    rintro ⟨⟨q1, q2, q3, q4⟩, q5, _, q6, q7⟩
                    rw [← hl] at q3 q4
                    rw [← hlo] at q6 q7
                    first | exact d_71 q1 | exact d_76 q5 | exact d_81 q2 | exact d_91 q3 | exact d_102 q6 | exact d_127 q4 | exact c_141 q7
                  refine ky_aload_n C 1 dX8_copy_144 rfl rfl ?_
                  refine ky_iconst C dX8_copy_145 (v := 3) (by decide) ?_
                  refine ky_callV0 C 1 (kX8_fails l D cI cS bd 0 mt N wind low forb mat mrf nc ns bw fi mon mot 3) gX8_copy_X8_fails rfl rfl rfl hdX8_fails 0 8 rfl rfl rfl ⟨Nat.le_of_ble_eq_true rfl, Nat.le_of_ble_eq_true rfl⟩ rfl rfl (Nat.le_of_ble_eq_true rfl) dX8_copy_146 [0] rfl rfl ?_
                  rintro _ _ ⟨rfl, rfl⟩
                  refine ky_ws (ws' := [(bd 0, .inr (8, [.int 3, .int mt, .ref (bd 1), .ref (bd 2), .ref (bd 3), .int (nI N), .ref (bd 4), .ref (bd 5), .ref (bd 6), .int wind, .int low, .int forb, .int mat, .int mrf, .ref (bd 7), .ref (bd 8), .ref (bd 9), .int (nI nc), .ref (bd 10), .ref (bd 11), .ref (bd 12), .int (nI ns), .ref (bd 13), .ref (bd 14), .ref (bd 15), .ref (bd 16), .int bw, .int fi, .ref (bd 17), .ref (bd 18), .ref (bd 19), .ref (bd 20), .ref (bd 21), .ref (bd 22), .ref (bd 23), .ref (bd 24), .ref (bd 25), .ref (bd 26), .int mon, .int mot, .ref (bd 27), .ref (bd 28), .ref (bd 29), .ref (bd 30)])), (bd 1, .inl (cI, 4, .inl srt)), (bd 2, .inl (cI, 4, .inl sln)), (bd 3, .inl (cI, 160, .inl cel))]) (st' := [.int ((-10 : Int32) - 3)]) rfl rfl ?_
                  exact ky_iret C hr hlk ⟨((-10 : Int32) - 3), 3, sh, cel, congrArg (fun z => some (Value.int z)) (show ((-10 : Int32) - 3) = (((-10 : Int32) - 3)) from by simp [c_9, c_16, hcj, hcjo, c_29, c_40, h9, h9o, c_61, h8, c_71, d_71, c_76, d_76, c_81, d_81]), rfl, (by simp only [kF_copy, if_pos c_9, if_pos c_16, hcj, hcjo, if_neg c_29, if_neg c_40, if_neg h9, if_neg h9o, if_pos c_61, if_pos h8, if_neg c_71, if_pos d_71, if_neg c_76, if_pos d_76, if_pos c_81, if_neg d_81]; exact kCp2 hno), hR⟩ (Nat.le_of_ble_eq_true rfl) dX8_copy_149
                · have d_81 := Int32.not_lt.mp c_81
                  refine ky_iload_n C 2 dX8_copy_84 rfl rfl ?_
                  refine ky_aload_n C 0 dX8_copy_85 rfl rfl ?_
                  refine ky_get C (ci := 8) (T := TX8) (N := 44) (Cn := RX8) (ref := "RainAccountModel") hiX8_copy_X8 0 rfl rfl 3 (by decide) (List.mem_of_getElem? (i := 3) rfl) rfl (v := .ref (bd 2)) rfl dX8_copy_86 ?_
                  refine ky_iload_n C 1 dX8_copy_89 rfl rfl ?_
                  refine ky_ialdN C 2 (k := j) rfl (by omega) (by decide) dX8_copy_90 (v := sln j) rfl ?_
                  refine ky_icmp_gt C 109 dX8_copy_91 (by decide) (fun c_91 => ?_) (fun c_91 => ?_)
                  · have d_91 := Int32.not_le.mpr c_91
                    refine ky_iconst C dX8_copy_109 (v := 0) (by decide) ?_
                    refine ky_istore C (lv' := [(6, .int 0), (0, .ref (bd 0)), (1, .int (nI j)), (2, .int y), (3, .int (nI jo)), (4, .int u), (5, .int t)]) dX8_copy_110 (by decide) rfl ?_
                    refine ky_iload C 0 dX8_copy_112 rfl ?_
                    refine ky_if_eq C 144 dX8_copy_114 (by decide) (fun c_114 => ?_) (fun q => absurd q (by decide))
                    have hno : ¬ ((0 ≤ y ∧ (0 : Int32) ≤ t ∧ y ≤ (sh j).2.1 ∧ t ≤ (sh j).2.1 - y) ∧ (0 ≤ u ∧ (0 : Int32) ≤ t ∧ u ≤ (sh jo).2.1 ∧ t ≤ (sh jo).2.1 - u)) := by
                      rintro ⟨⟨q1, q2, q3, q4⟩, q5, _, q6, q7⟩
                      rw [← hl] at q3 q4
                      rw [← hlo] at q6 q7
                      first | exact d_71 q1 | exact d_76 q5 | exact d_81 q2 | exact d_91 q3 | exact d_102 q6 | exact d_127 q4 | exact c_141 q7
                    refine ky_aload_n C 1 dX8_copy_144 rfl rfl ?_
                    refine ky_iconst C dX8_copy_145 (v := 3) (by decide) ?_
                    refine ky_callV0 C 1 (kX8_fails l D cI cS bd 0 mt N wind low forb mat mrf nc ns bw fi mon mot 3) gX8_copy_X8_fails rfl rfl rfl hdX8_fails 0 8 rfl rfl rfl ⟨Nat.le_of_ble_eq_true rfl, Nat.le_of_ble_eq_true rfl⟩ rfl rfl (Nat.le_of_ble_eq_true rfl) dX8_copy_146 [0] rfl rfl ?_
                    rintro _ _ ⟨rfl, rfl⟩
                    refine ky_ws (ws' := [(bd 0, .inr (8, [.int 3, .int mt, .ref (bd 1), .ref (bd 2), .ref (bd 3), .int (nI N), .ref (bd 4), .ref (bd 5), .ref (bd 6), .int wind, .int low, .int forb, .int mat, .int mrf, .ref (bd 7), .ref (bd 8), .ref (bd 9), .int (nI nc), .ref (bd 10), .ref (bd 11), .ref (bd 12), .int (nI ns), .ref (bd 13), .ref (bd 14), .ref (bd 15), .ref (bd 16), .int bw, .int fi, .ref (bd 17), .ref (bd 18), .ref (bd 19), .ref (bd 20), .ref (bd 21), .ref (bd 22), .ref (bd 23), .ref (bd 24), .ref (bd 25), .ref (bd 26), .int mon, .int mot, .ref (bd 27), .ref (bd 28), .ref (bd 29), .ref (bd 30)])), (bd 1, .inl (cI, 4, .inl srt)), (bd 2, .inl (cI, 4, .inl sln)), (bd 3, .inl (cI, 160, .inl cel))]) (st' := [.int ((-10 : Int32) - 3)]) rfl rfl ?_
                    exact ky_iret C hr hlk ⟨((-10 : Int32) - 3), 3, sh, cel, congrArg (fun z => some (Value.int z)) (show ((-10 : Int32) - 3) = (((-10 : Int32) - 3)) from by simp [c_9, c_16, hcj, hcjo, c_29, c_40, h9, h9o, c_61, h8, c_71, d_71, c_76, d_76, c_81, d_81, c_91, d_91]), rfl, (by simp only [kF_copy, if_pos c_9, if_pos c_16, hcj, hcjo, if_neg c_29, if_neg c_40, if_neg h9, if_neg h9o, if_pos c_61, if_pos h8, if_neg c_71, if_pos d_71, if_neg c_76, if_pos d_76, if_neg c_81, if_pos d_81, if_pos c_91, if_neg d_91]; exact kCp2 hno), hR⟩ (Nat.le_of_ble_eq_true rfl) dX8_copy_149
                  · have d_91 := Int32.not_lt.mp c_91
                    refine ky_iload C 4 dX8_copy_94 rfl ?_
                    refine ky_aload_n C 0 dX8_copy_96 rfl rfl ?_
                    refine ky_get C (ci := 8) (T := TX8) (N := 44) (Cn := RX8) (ref := "RainAccountModel") hiX8_copy_X8 0 rfl rfl 3 (by decide) (List.mem_of_getElem? (i := 3) rfl) rfl (v := .ref (bd 2)) rfl dX8_copy_97 ?_
                    refine ky_iload_n C 3 dX8_copy_100 rfl rfl ?_
                    refine ky_ialdN C 2 (k := jo) rfl (by omega) (by decide) dX8_copy_101 (v := sln jo) rfl ?_
                    refine ky_icmp_gt C 109 dX8_copy_102 (by decide) (fun c_102 => ?_) (fun c_102 => ?_)
                    · have d_102 := Int32.not_le.mpr c_102
                      refine ky_iconst C dX8_copy_109 (v := 0) (by decide) ?_
                      refine ky_istore C (lv' := [(6, .int 0), (0, .ref (bd 0)), (1, .int (nI j)), (2, .int y), (3, .int (nI jo)), (4, .int u), (5, .int t)]) dX8_copy_110 (by decide) rfl ?_
                      refine ky_iload C 0 dX8_copy_112 rfl ?_
                      refine ky_if_eq C 144 dX8_copy_114 (by decide) (fun c_114 => ?_) (fun q => absurd q (by decide))
                      have hno : ¬ ((0 ≤ y ∧ (0 : Int32) ≤ t ∧ y ≤ (sh j).2.1 ∧ t ≤ (sh j).2.1 - y) ∧ (0 ≤ u ∧ (0 : Int32) ≤ t ∧ u ≤ (sh jo).2.1 ∧ t ≤ (sh jo).2.1 - u)) := by
                        rintro ⟨⟨q1, q2, q3, q4⟩, q5, _, q6, q7⟩
                        rw [← hl] at q3 q4
                        rw [← hlo] at q6 q7
                        first | exact d_71 q1 | exact d_76 q5 | exact d_81 q2 | exact d_91 q3 | exact d_102 q6 | exact d_127 q4 | exact c_141 q7
                      refine ky_aload_n C 1 dX8_copy_144 rfl rfl ?_
                      refine ky_iconst C dX8_copy_145 (v := 3) (by decide) ?_
                      refine ky_callV0 C 1 (kX8_fails l D cI cS bd 0 mt N wind low forb mat mrf nc ns bw fi mon mot 3) gX8_copy_X8_fails rfl rfl rfl hdX8_fails 0 8 rfl rfl rfl ⟨Nat.le_of_ble_eq_true rfl, Nat.le_of_ble_eq_true rfl⟩ rfl rfl (Nat.le_of_ble_eq_true rfl) dX8_copy_146 [0] rfl rfl ?_
                      rintro _ _ ⟨rfl, rfl⟩
                      refine ky_ws (ws' := [(bd 0, .inr (8, [.int 3, .int mt, .ref (bd 1), .ref (bd 2), .ref (bd 3), .int (nI N), .ref (bd 4), .ref (bd 5), .ref (bd 6), .int wind, .int low, .int forb, .int mat, .int mrf, .ref (bd 7), .ref (bd 8), .ref (bd 9), .int (nI nc), .ref (bd 10), .ref (bd 11), .ref (bd 12), .int (nI ns), .ref (bd 13), .ref (bd 14), .ref (bd 15), .ref (bd 16), .int bw, .int fi, .ref (bd 17), .ref (bd 18), .ref (bd 19), .ref (bd 20), .ref (bd 21), .ref (bd 22), .ref (bd 23), .ref (bd 24), .ref (bd 25), .ref (bd 26), .int mon, .int mot, .ref (bd 27), .ref (bd 28), .ref (bd 29), .ref (bd 30)])), (bd 1, .inl (cI, 4, .inl srt)), (bd 2, .inl (cI, 4, .inl sln)), (bd 3, .inl (cI, 160, .inl cel))]) (st' := [.int ((-10 : Int32) - 3)]) rfl rfl ?_
                      exact ky_iret C hr hlk ⟨((-10 : Int32) - 3), 3, sh, cel, congrArg (fun z => some (Value.int z)) (show ((-10 : Int32) - 3) = (((-10 : Int32) - 3)) from by simp [c_9, c_16, hcj, hcjo, c_29, c_40, h9, h9o, c_61, h8, c_71, d_71, c_76, d_76, c_81, d_81, c_91, d_91, c_102, d_102]), rfl, (by simp only [kF_copy, if_pos c_9, if_pos c_16, hcj, hcjo, if_neg c_29, if_neg c_40, if_neg h9, if_neg h9o, if_pos c_61, if_pos h8, if_neg c_71, if_pos d_71, if_neg c_76, if_pos d_76, if_neg c_81, if_pos d_81, if_neg c_91, if_pos d_91, if_pos c_102, if_neg d_102]; exact kCp2 hno), hR⟩ (Nat.le_of_ble_eq_true rfl) dX8_copy_149
                    · have d_102 := Int32.not_lt.mp c_102
                      refine ky_iconst C dX8_copy_105 (v := 1) (by decide) ?_
                      refine ky_goto C dX8_copy_106 (tgt := 110) (by decide) ?_
                      refine ky_istore C (lv' := [(6, .int 1), (0, .ref (bd 0)), (1, .int (nI j)), (2, .int y), (3, .int (nI jo)), (4, .int u), (5, .int t)]) dX8_copy_110 (by decide) rfl ?_
                      refine ky_iload C 0 dX8_copy_112 rfl ?_
                      refine ky_if_eq C 144 dX8_copy_114 (by decide) (fun q => absurd q (by decide)) (fun c_114 => ?_)
                      refine ky_iload C 6 dX8_copy_117 rfl ?_
                      refine ky_aload_n C 1 dX8_copy_119 rfl rfl ?_
                      refine ky_get C (ci := 8) (T := TX8) (N := 44) (Cn := RX8) (ref := "RainAccountModel") hiX8_copy_X8 0 rfl rfl 3 (by decide) (List.mem_of_getElem? (i := 3) rfl) rfl (v := .ref (bd 2)) rfl dX8_copy_120 ?_
                      refine ky_iload_n C 2 dX8_copy_123 rfl rfl ?_
                      refine ky_ialdN C 2 (k := j) rfl (by omega) (by decide) dX8_copy_124 (v := sln j) rfl ?_
                      refine ky_iload_n C 3 dX8_copy_125 rfl rfl ?_
                      refine ky_isub C (v := (sln j) - y) dX8_copy_126 rfl ?_
                      refine ky_icmp_gt C 144 dX8_copy_127 (by decide) (fun c_127 => ?_) (fun c_127 => ?_)
                      · have d_127 := Int32.not_le.mpr c_127
                        have hno : ¬ ((0 ≤ y ∧ (0 : Int32) ≤ t ∧ y ≤ (sh j).2.1 ∧ t ≤ (sh j).2.1 - y) ∧ (0 ≤ u ∧ (0 : Int32) ≤ t ∧ u ≤ (sh jo).2.1 ∧ t ≤ (sh jo).2.1 - u)) := by
                          rintro ⟨⟨q1, q2, q3, q4⟩, q5, _, q6, q7⟩
                          rw [← hl] at q3 q4
                          rw [← hlo] at q6 q7
                          first | exact d_71 q1 | exact d_76 q5 | exact d_81 q2 | exact d_91 q3 | exact d_102 q6 | exact d_127 q4 | exact c_141 q7
                        refine ky_aload_n C 1 dX8_copy_144 rfl rfl ?_
                        refine ky_iconst C dX8_copy_145 (v := 3) (by decide) ?_
                        refine ky_callV0 C 1 (kX8_fails l D cI cS bd 0 mt N wind low forb mat mrf nc ns bw fi mon mot 3) gX8_copy_X8_fails rfl rfl rfl hdX8_fails 0 8 rfl rfl rfl ⟨Nat.le_of_ble_eq_true rfl, Nat.le_of_ble_eq_true rfl⟩ rfl rfl (Nat.le_of_ble_eq_true rfl) dX8_copy_146 [0] rfl rfl ?_
                        rintro _ _ ⟨rfl, rfl⟩
                        refine ky_ws (ws' := [(bd 0, .inr (8, [.int 3, .int mt, .ref (bd 1), .ref (bd 2), .ref (bd 3), .int (nI N), .ref (bd 4), .ref (bd 5), .ref (bd 6), .int wind, .int low, .int forb, .int mat, .int mrf, .ref (bd 7), .ref (bd 8), .ref (bd 9), .int (nI nc), .ref (bd 10), .ref (bd 11), .ref (bd 12), .int (nI ns), .ref (bd 13), .ref (bd 14), .ref (bd 15), .ref (bd 16), .int bw, .int fi, .ref (bd 17), .ref (bd 18), .ref (bd 19), .ref (bd 20), .ref (bd 21), .ref (bd 22), .ref (bd 23), .ref (bd 24), .ref (bd 25), .ref (bd 26), .int mon, .int mot, .ref (bd 27), .ref (bd 28), .ref (bd 29), .ref (bd 30)])), (bd 1, .inl (cI, 4, .inl srt)), (bd 2, .inl (cI, 4, .inl sln)), (bd 3, .inl (cI, 160, .inl cel))]) (st' := [.int ((-10 : Int32) - 3)]) rfl rfl ?_
                        exact ky_iret C hr hlk ⟨((-10 : Int32) - 3), 3, sh, cel, congrArg (fun z => some (Value.int z)) (show ((-10 : Int32) - 3) = (((-10 : Int32) - 3)) from by simp [c_9, c_16, hcj, hcjo, c_29, c_40, h9, h9o, c_61, h8, c_71, d_71, c_76, d_76, c_81, d_81, c_91, d_91, c_102, d_102, c_127, d_127]), rfl, (by simp only [kF_copy, if_pos c_9, if_pos c_16, hcj, hcjo, if_neg c_29, if_neg c_40, if_neg h9, if_neg h9o, if_pos c_61, if_pos h8, if_neg c_71, if_pos d_71, if_neg c_76, if_pos d_76, if_neg c_81, if_pos d_81, if_neg c_91, if_pos d_91, if_neg c_102, if_pos d_102, if_pos c_127, if_neg d_127]; exact kCp2 hno), hR⟩ (Nat.le_of_ble_eq_true rfl) dX8_copy_149
                      · have d_127 := Int32.not_lt.mp c_127
                        refine ky_iload C 6 dX8_copy_130 rfl ?_
                        refine ky_aload_n C 1 dX8_copy_132 rfl rfl ?_
                        refine ky_get C (ci := 8) (T := TX8) (N := 44) (Cn := RX8) (ref := "RainAccountModel") hiX8_copy_X8 0 rfl rfl 3 (by decide) (List.mem_of_getElem? (i := 3) rfl) rfl (v := .ref (bd 2)) rfl dX8_copy_133 ?_
                        refine ky_iload_n C 4 dX8_copy_136 rfl rfl ?_
                        refine ky_ialdN C 2 (k := jo) rfl (by omega) (by decide) dX8_copy_137 (v := sln jo) rfl ?_
                        refine ky_iload C 5 dX8_copy_138 rfl ?_
                        refine ky_isub C (v := (sln jo) - u) dX8_copy_140 rfl ?_
                        refine ky_icmp_le C 150 dX8_copy_141 (by decide) (fun c_141 => ?_) (fun c_141 => ?_)
                        · have d_141 := Int32.not_lt.mpr c_141
                          have hA : 0 ≤ y ∧ (0 : Int32) ≤ t ∧ y ≤ (sh j).2.1 ∧ t ≤ (sh j).2.1 - y := by rw [← hl]; exact ⟨Int32.not_lt.mp c_71, Int32.not_lt.mp c_81, Int32.not_lt.mp c_91, Int32.not_lt.mp c_127⟩
                          have hB : 0 ≤ u ∧ (0 : Int32) ≤ t ∧ u ≤ (sh jo).2.1 ∧ t ≤ (sh jo).2.1 - u := by rw [← hlo]; exact ⟨Int32.not_lt.mp c_76, Int32.not_lt.mp c_81, Int32.not_lt.mp c_102, c_141⟩
                          obtain ⟨i0, m0, him, rfl, rfl⟩ := kHoldN (hsh j hj4) h9 hA
                          obtain ⟨o0, hom, rfl⟩ := kHoldN1 (hsh jo hjo4) h9o hB (by omega)
                          have hci0 : (nI i0).toNatClampNeg = i0 := nI_clamp (by omega)
                          have hcm0 : (nI m0).toNatClampNeg = m0 := nI_clamp (by omega)
                          have hco0 : (nI o0).toNatClampNeg = o0 := nI_clamp (by omega)
                          refine ky_iload_n C 3 dX8_copy_150 rfl rfl ?_
                          refine ky_iload C 5 dX8_copy_151 rfl ?_
                          refine ky_icmp_ge C 160 dX8_copy_153 (by decide) (fun c_153 => ?_) (fun c_153 => ?_)
                          · have d_153 := Int32.not_lt.mpr c_153
                            have n_153 := kn_le (a := o0) (b := i0) (by omega) (by omega) c_153
                            have m_153 := Nat.not_lt.mpr n_153
                            refine ky_iconst C dX8_copy_160 (v := 0) (by decide) ?_
                            refine ky_istore C (lv' := [(7, .int 0), (6, .int 1), (0, .ref (bd 0)), (1, .int (nI j)), (2, .int (nI i0)), (3, .int (nI jo)), (4, .int (nI o0)), (5, .int (nI m0))]) dX8_copy_161 (by decide) rfl ?_
                            refine ky_iconst C dX8_copy_163 (v := 0) (by decide) ?_
                            refine ky_istore C (lv' := [(8, .int 0), (7, .int 0), (6, .int 1), (0, .ref (bd 0)), (1, .int (nI j)), (2, .int (nI i0)), (3, .int (nI jo)), (4, .int (nI o0)), (5, .int (nI m0))]) dX8_copy_164 (by decide) rfl ?_
                            refine ky_conv (ws' := [(bd 0, .inr (8, [.int 0, .int mt, .ref (bd 1), .ref (bd 2), .ref (bd 3), .int (nI N), .ref (bd 4), .ref (bd 5), .ref (bd 6), .int wind, .int low, .int forb, .int mat, .int mrf, .ref (bd 7), .ref (bd 8), .ref (bd 9), .int (nI nc), .ref (bd 10), .ref (bd 11), .ref (bd 12), .int (nI ns), .ref (bd 13), .ref (bd 14), .ref (bd 15), .ref (bd 16), .int bw, .int fi, .ref (bd 17), .ref (bd 18), .ref (bd 19), .ref (bd 20), .ref (bd 21), .ref (bd 22), .ref (bd 23), .ref (bd 24), .ref (bd 25), .ref (bd 26), .int mon, .int mot, .ref (bd 27), .ref (bd 28), .ref (bd 29), .ref (bd 30)])), (bd 1, .inl (cI, 4, .inl srt)), (bd 2, .inl (cI, 4, .inl sln)), (bd 3, .inl (cI, 160, .inl cel))]) (lv' := [(8, .int 0), (7, .int 0), (0, .ref (bd 0)), (1, .int (nI j)), (2, .int (nI i0)), (3, .int (nI jo)), (4, .int (nI o0)), (5, .int (nI m0))]) (st' := []) [0, 1, 3, 4, 5, 6, 7, 8] rfl rfl rfl ?_
                            refine ky_loop2 (T1 := Nat) (T2 := Nat → Int32) (Wf := (fun k1 cel1 => [(bd 0, .inr (8, [.int 0, .int mt, .ref (bd 1), .ref (bd 2), .ref (bd 3), .int (nI N), .ref (bd 4), .ref (bd 5), .ref (bd 6), .int wind, .int low, .int forb, .int mat, .int mrf, .ref (bd 7), .ref (bd 8), .ref (bd 9), .int (nI nc), .ref (bd 10), .ref (bd 11), .ref (bd 12), .int (nI ns), .ref (bd 13), .ref (bd 14), .ref (bd 15), .ref (bd 16), .int bw, .int fi, .ref (bd 17), .ref (bd 18), .ref (bd 19), .ref (bd 20), .ref (bd 21), .ref (bd 22), .ref (bd 23), .ref (bd 24), .ref (bd 25), .ref (bd 26), .int mon, .int mot, .ref (bd 27), .ref (bd 28), .ref (bd 29), .ref (bd 30)])), (bd 1, .inl (cI, 4, .inl srt)), (bd 2, .inl (cI, 4, .inl sln)), (bd 3, .inl (cI, 160, .inl cel1))])) (Lf := (fun k1 cel1 => [(8, .int (nI k1)), (7, .int 0), (0, .ref (bd 0)), (1, .int (nI j)), (2, .int (nI i0)), (3, .int (nI jo)), (4, .int (nI o0)), (5, .int (nI m0))])) (Sf := (fun k1 cel1 => [])) (fun k1 cel1 => (k1 ≤ m0) ∧ ((i0 < o0 → ∀ q, cel1 q = if 40 * jo + o0 + (m0 - k1) ≤ q ∧ q < 40 * jo + o0 + m0 then cel (40 * j + i0 + (q - (40 * jo + o0))) else cel q) ∧ (¬ i0 < o0 → ∀ q, cel1 q = if 40 * jo + o0 + 0 ≤ q ∧ q < 40 * jo + o0 + k1 then cel (40 * j + i0 + (q - (40 * jo + o0))) else cel q)) ∧ True) (fun k1 cel1 => m0 - k1) ?_ 0 cel ⟨(by omega), ⟨fun _ q => (if_neg (by omega)).symm, fun _ q => (if_neg (by omega)).symm⟩, trivial⟩
                            intro k1 cel1 hI_166 ih_166
                            obtain ⟨hk1, hcp, -⟩ := hI_166
                            have hk1 : k1 ≤ m0 := hk1
                            have hcp : (i0 < o0 → ∀ q, cel1 q = if 40 * jo + o0 + (m0 - k1) ≤ q ∧ q < 40 * jo + o0 + m0 then cel (40 * j + i0 + (q - (40 * jo + o0))) else cel q) ∧ (¬ i0 < o0 → ∀ q, cel1 q = if 40 * jo + o0 + 0 ≤ q ∧ q < 40 * jo + o0 + k1 then cel (40 * j + i0 + (q - (40 * jo + o0))) else cel q) := hcp
                            refine ky_conv (ws' := [(bd 0, .inr (8, [.int 0, .int mt, .ref (bd 1), .ref (bd 2), .ref (bd 3), .int (nI N), .ref (bd 4), .ref (bd 5), .ref (bd 6), .int wind, .int low, .int forb, .int mat, .int mrf, .ref (bd 7), .ref (bd 8), .ref (bd 9), .int (nI nc), .ref (bd 10), .ref (bd 11), .ref (bd 12), .int (nI ns), .ref (bd 13), .ref (bd 14), .ref (bd 15), .ref (bd 16), .int bw, .int fi, .ref (bd 17), .ref (bd 18), .ref (bd 19), .ref (bd 20), .ref (bd 21), .ref (bd 22), .ref (bd 23), .ref (bd 24), .ref (bd 25), .ref (bd 26), .int mon, .int mot, .ref (bd 27), .ref (bd 28), .ref (bd 29), .ref (bd 30)])), (bd 1, .inl (cI, 4, .inl srt)), (bd 2, .inl (cI, 4, .inl sln)), (bd 3, .inl (cI, 160, .inl cel1))]) (lv' := [(8, .int (nI k1)), (7, .int 0), (0, .ref (bd 0)), (1, .int (nI j)), (2, .int (nI i0)), (3, .int (nI jo)), (4, .int (nI o0)), (5, .int (nI m0))]) (st' := []) (List.range 8) rfl rfl rfl ?_
                            refine ky_iload C 0 dX8_copy_166 rfl ?_
                            refine ky_iload C 7 dX8_copy_168 rfl ?_
                            refine ky_icmp_ge C 227 dX8_copy_170 (by decide) (fun c_170 => ?_) (fun c_170 => ?_)
                            · have d_170 := Int32.not_lt.mpr c_170
                              have n_170 := kn_le (a := m0) (b := k1) (by omega) (by omega) c_170
                              have m_170 := Nat.not_lt.mpr n_170
                              refine ky_iload C 7 dX8_copy_227 rfl ?_
                              exact ky_iret C hr hlk ⟨(nI m0), 0, (va_up sh jo ((sh jo).1, (sh jo).2.1, va_cpy (sh j).2.2 (sh jo).2.2 i0 o0 m0)), cel1, rfl, rfl, (by first | (simp only [kF_copy, if_pos c_9, if_pos c_16, hcj, hcjo, if_neg c_29, if_neg c_40, if_neg h9, if_neg h9o, if_pos c_61, if_pos h8, if_neg c_71, if_pos d_71, if_neg c_76, if_pos d_76, if_neg c_81, if_pos d_81, if_neg c_91, if_pos d_91, if_neg c_102, if_pos d_102, if_neg c_127, if_pos d_127, if_pos c_141, if_neg d_141, if_pos hA, if_pos hB, hci0, hcm0, hco0, if_pos c_153, if_neg d_153, if_pos n_153, if_neg m_153, if_pos c_170, if_neg d_170, if_pos n_170, if_neg m_170]; done) | (simp only [kF_copy, if_pos c_9, if_pos c_16, hcj, hcjo, if_neg c_29, if_neg c_40, if_neg h9, if_neg h9o, if_pos c_61, if_pos h8, if_neg c_71, if_pos d_71, if_neg c_76, if_pos d_76, if_neg c_81, if_pos d_81, if_neg c_91, if_pos d_91, if_neg c_102, if_pos d_102, if_neg c_127, if_pos d_127, if_pos c_141, if_neg d_141, if_pos hA, if_pos hB, hci0, hcm0, hco0, if_pos c_153, if_neg d_153, if_pos n_153, if_neg m_153, if_pos c_170, if_neg d_170, if_pos n_170, if_neg m_170]; rfl)), (kShR_copy hR hj4 hjo4 him hom (kCp_end hcp (show k1 = m0 by omega)))⟩ (Nat.le_of_ble_eq_true rfl) dX8_copy_229
                            · have d_170 := Int32.not_le.mp c_170
                              have n_170 := kn_nle (a := m0) (b := k1) (by omega) (by omega) c_170
                              have m_170 := Nat.not_le.mpr n_170
                              refine ky_iload C 1 dX8_copy_173 rfl ?_
                              refine ky_if_eq C 188 dX8_copy_175 (by decide) (fun c_175 => ?_) (fun q => absurd q (by decide))
                              refine ky_iload C 0 dX8_copy_188 rfl ?_
                              refine ky_istore C (lv' := [(9, .int (nI k1)), (8, .int (nI k1)), (7, .int 0), (0, .ref (bd 0)), (1, .int (nI j)), (2, .int (nI i0)), (3, .int (nI jo)), (4, .int (nI o0)), (5, .int (nI m0))]) dX8_copy_190 (by decide) rfl ?_
                              refine ky_aload_n C 3 dX8_copy_192 rfl rfl ?_
                              refine ky_get C (ci := 8) (T := TX8) (N := 44) (Cn := RX8) (ref := "RainAccountModel") hiX8_copy_X8 0 rfl rfl 4 (by decide) (List.mem_of_getElem? (i := 4) rfl) rfl (v := .ref (bd 3)) rfl dX8_copy_193 ?_
                              refine ky_bipush C dX8_copy_196 (v := 40) (by decide) ?_
                              refine ky_iload_n C 6 dX8_copy_198 rfl rfl ?_
                              refine ky_imul C (v := nI (40 * jo)) dX8_copy_199 (pk_mul 40 jo) ?_
                              refine ky_iload C 7 dX8_copy_200 rfl ?_
                              refine ky_iadd C (v := nI (40 * jo + o0)) dX8_copy_202 (nI_add (40 * jo) o0) ?_
                              refine ky_iload C 0 dX8_copy_203 rfl ?_
                              refine ky_iadd C (v := nI (40 * jo + o0 + k1)) dX8_copy_205 (nI_add (40 * jo + o0) k1) ?_
                              refine ky_aload_n C 3 dX8_copy_206 rfl rfl ?_
                              refine ky_get C (ci := 8) (T := TX8) (N := 44) (Cn := RX8) (ref := "RainAccountModel") hiX8_copy_X8 0 rfl rfl 4 (by decide) (List.mem_of_getElem? (i := 4) rfl) rfl (v := .ref (bd 3)) rfl dX8_copy_207 ?_
                              refine ky_bipush C dX8_copy_210 (v := 40) (by decide) ?_
                              refine ky_iload_n C 4 dX8_copy_212 rfl rfl ?_
                              refine ky_imul C (v := nI (40 * j)) dX8_copy_213 (pk_mul 40 j) ?_
                              refine ky_iload_n C 5 dX8_copy_214 rfl rfl ?_
                              refine ky_iadd C (v := nI (40 * j + i0)) dX8_copy_215 (nI_add (40 * j) i0) ?_
                              refine ky_iload C 0 dX8_copy_216 rfl ?_
                              refine ky_iadd C (v := nI (40 * j + i0 + k1)) dX8_copy_218 (nI_add (40 * j + i0) k1) ?_
                              refine ky_ialdN C 3 (k := 40 * j + i0 + k1) rfl (by omega) (by decide) dX8_copy_219 (v := cel1 (40 * j + i0 + k1)) rfl ?_
                              refine ky_iastN C 3 (k := 40 * jo + o0 + k1) rfl (by omega) (by decide) dX8_copy_220 (ws' := [(bd 0, .inr (8, [.int 0, .int mt, .ref (bd 1), .ref (bd 2), .ref (bd 3), .int (nI N), .ref (bd 4), .ref (bd 5), .ref (bd 6), .int wind, .int low, .int forb, .int mat, .int mrf, .ref (bd 7), .ref (bd 8), .ref (bd 9), .int (nI nc), .ref (bd 10), .ref (bd 11), .ref (bd 12), .int (nI ns), .ref (bd 13), .ref (bd 14), .ref (bd 15), .ref (bd 16), .int bw, .int fi, .ref (bd 17), .ref (bd 18), .ref (bd 19), .ref (bd 20), .ref (bd 21), .ref (bd 22), .ref (bd 23), .ref (bd 24), .ref (bd 25), .ref (bd 26), .int mon, .int mot, .ref (bd 27), .ref (bd 28), .ref (bd 29), .ref (bd 30)])), (bd 1, .inl (cI, 4, .inl srt)), (bd 2, .inl (cI, 4, .inl sln)), (bd 3, .inl (cI, 160, .inl (upd cel1 (40 * jo + o0 + k1) (cel1 (40 * j + i0 + k1)))))]) rfl ?_
                              refine ky_iinc C 1 (v := nI (k1 + 1)) (lv' := [(8, .int (nI (k1 + 1))), (9, .int (nI k1)), (7, .int 0), (0, .ref (bd 0)), (1, .int (nI j)), (2, .int (nI i0)), (3, .int (nI jo)), (4, .int (nI o0)), (5, .int (nI m0))]) dX8_copy_221 rfl (nI_1 _) (by decide) rfl ?_
                              refine ky_goto C dX8_copy_224 (tgt := 166) (by decide) ?_
                              exact ky_conv (ws' := [(bd 0, .inr (8, [.int 0, .int mt, .ref (bd 1), .ref (bd 2), .ref (bd 3), .int (nI N), .ref (bd 4), .ref (bd 5), .ref (bd 6), .int wind, .int low, .int forb, .int mat, .int mrf, .ref (bd 7), .ref (bd 8), .ref (bd 9), .int (nI nc), .ref (bd 10), .ref (bd 11), .ref (bd 12), .int (nI ns), .ref (bd 13), .ref (bd 14), .ref (bd 15), .ref (bd 16), .int bw, .int fi, .ref (bd 17), .ref (bd 18), .ref (bd 19), .ref (bd 20), .ref (bd 21), .ref (bd 22), .ref (bd 23), .ref (bd 24), .ref (bd 25), .ref (bd 26), .int mon, .int mot, .ref (bd 27), .ref (bd 28), .ref (bd 29), .ref (bd 30)])), (bd 1, .inl (cI, 4, .inl srt)), (bd 2, .inl (cI, 4, .inl sln)), (bd 3, .inl (cI, 160, .inl (upd cel1 (40 * jo + o0 + k1) (cel1 (40 * j + i0 + k1)))))]) (lv' := [(8, .int (nI (k1 + 1))), (7, .int 0), (0, .ref (bd 0)), (1, .int (nI j)), (2, .int (nI i0)), (3, .int (nI jo)), (4, .int (nI o0)), (5, .int (nI m0))]) (st' := []) [0, 2, 3, 4, 5, 6, 7, 8] rfl rfl rfl (ih_166 (k1 + 1) (upd cel1 (40 * jo + o0 + k1) (cel1 (40 * j + i0 + k1))) (show m0 - (k1 + 1) < m0 - k1 from by omega) ⟨(by omega), ⟨fun hlt => (by first | exact kCp_dn (hcp.1 hlt) (by omega) (by omega) | omega), fun hge => (by first | exact kCp_up (hcp.2 hge) (by omega) | omega)⟩, trivial⟩)
                          · have d_153 := Int32.not_le.mp c_153
                            have n_153 := kn_nle (a := o0) (b := i0) (by omega) (by omega) c_153
                            have m_153 := Nat.not_le.mpr n_153
                            refine ky_iconst C dX8_copy_156 (v := 1) (by decide) ?_
                            refine ky_goto C dX8_copy_157 (tgt := 161) (by decide) ?_
                            refine ky_istore C (lv' := [(7, .int 1), (6, .int 1), (0, .ref (bd 0)), (1, .int (nI j)), (2, .int (nI i0)), (3, .int (nI jo)), (4, .int (nI o0)), (5, .int (nI m0))]) dX8_copy_161 (by decide) rfl ?_
                            refine ky_iconst C dX8_copy_163 (v := 0) (by decide) ?_
                            refine ky_istore C (lv' := [(8, .int 0), (7, .int 1), (6, .int 1), (0, .ref (bd 0)), (1, .int (nI j)), (2, .int (nI i0)), (3, .int (nI jo)), (4, .int (nI o0)), (5, .int (nI m0))]) dX8_copy_164 (by decide) rfl ?_
                            refine ky_conv (ws' := [(bd 0, .inr (8, [.int 0, .int mt, .ref (bd 1), .ref (bd 2), .ref (bd 3), .int (nI N), .ref (bd 4), .ref (bd 5), .ref (bd 6), .int wind, .int low, .int forb, .int mat, .int mrf, .ref (bd 7), .ref (bd 8), .ref (bd 9), .int (nI nc), .ref (bd 10), .ref (bd 11), .ref (bd 12), .int (nI ns), .ref (bd 13), .ref (bd 14), .ref (bd 15), .ref (bd 16), .int bw, .int fi, .ref (bd 17), .ref (bd 18), .ref (bd 19), .ref (bd 20), .ref (bd 21), .ref (bd 22), .ref (bd 23), .ref (bd 24), .ref (bd 25), .ref (bd 26), .int mon, .int mot, .ref (bd 27), .ref (bd 28), .ref (bd 29), .ref (bd 30)])), (bd 1, .inl (cI, 4, .inl srt)), (bd 2, .inl (cI, 4, .inl sln)), (bd 3, .inl (cI, 160, .inl cel))]) (lv' := [(8, .int 0), (7, .int 1), (0, .ref (bd 0)), (1, .int (nI j)), (2, .int (nI i0)), (3, .int (nI jo)), (4, .int (nI o0)), (5, .int (nI m0))]) (st' := []) [0, 1, 3, 4, 5, 6, 7, 8] rfl rfl rfl ?_
                            refine ky_loop2 (T1 := Nat) (T2 := Nat → Int32) (Wf := (fun k1 cel1 => [(bd 0, .inr (8, [.int 0, .int mt, .ref (bd 1), .ref (bd 2), .ref (bd 3), .int (nI N), .ref (bd 4), .ref (bd 5), .ref (bd 6), .int wind, .int low, .int forb, .int mat, .int mrf, .ref (bd 7), .ref (bd 8), .ref (bd 9), .int (nI nc), .ref (bd 10), .ref (bd 11), .ref (bd 12), .int (nI ns), .ref (bd 13), .ref (bd 14), .ref (bd 15), .ref (bd 16), .int bw, .int fi, .ref (bd 17), .ref (bd 18), .ref (bd 19), .ref (bd 20), .ref (bd 21), .ref (bd 22), .ref (bd 23), .ref (bd 24), .ref (bd 25), .ref (bd 26), .int mon, .int mot, .ref (bd 27), .ref (bd 28), .ref (bd 29), .ref (bd 30)])), (bd 1, .inl (cI, 4, .inl srt)), (bd 2, .inl (cI, 4, .inl sln)), (bd 3, .inl (cI, 160, .inl cel1))])) (Lf := (fun k1 cel1 => [(8, .int (nI k1)), (7, .int 1), (0, .ref (bd 0)), (1, .int (nI j)), (2, .int (nI i0)), (3, .int (nI jo)), (4, .int (nI o0)), (5, .int (nI m0))])) (Sf := (fun k1 cel1 => [])) (fun k1 cel1 => (k1 ≤ m0) ∧ ((i0 < o0 → ∀ q, cel1 q = if 40 * jo + o0 + (m0 - k1) ≤ q ∧ q < 40 * jo + o0 + m0 then cel (40 * j + i0 + (q - (40 * jo + o0))) else cel q) ∧ (¬ i0 < o0 → ∀ q, cel1 q = if 40 * jo + o0 + 0 ≤ q ∧ q < 40 * jo + o0 + k1 then cel (40 * j + i0 + (q - (40 * jo + o0))) else cel q)) ∧ True) (fun k1 cel1 => m0 - k1) ?_ 0 cel ⟨(by omega), ⟨fun _ q => (if_neg (by omega)).symm, fun _ q => (if_neg (by omega)).symm⟩, trivial⟩
                            intro k1 cel1 hI_166 ih_166
                            obtain ⟨hk1, hcp, -⟩ := hI_166
                            have hk1 : k1 ≤ m0 := hk1
                            have hcp : (i0 < o0 → ∀ q, cel1 q = if 40 * jo + o0 + (m0 - k1) ≤ q ∧ q < 40 * jo + o0 + m0 then cel (40 * j + i0 + (q - (40 * jo + o0))) else cel q) ∧ (¬ i0 < o0 → ∀ q, cel1 q = if 40 * jo + o0 + 0 ≤ q ∧ q < 40 * jo + o0 + k1 then cel (40 * j + i0 + (q - (40 * jo + o0))) else cel q) := hcp
                            refine ky_conv (ws' := [(bd 0, .inr (8, [.int 0, .int mt, .ref (bd 1), .ref (bd 2), .ref (bd 3), .int (nI N), .ref (bd 4), .ref (bd 5), .ref (bd 6), .int wind, .int low, .int forb, .int mat, .int mrf, .ref (bd 7), .ref (bd 8), .ref (bd 9), .int (nI nc), .ref (bd 10), .ref (bd 11), .ref (bd 12), .int (nI ns), .ref (bd 13), .ref (bd 14), .ref (bd 15), .ref (bd 16), .int bw, .int fi, .ref (bd 17), .ref (bd 18), .ref (bd 19), .ref (bd 20), .ref (bd 21), .ref (bd 22), .ref (bd 23), .ref (bd 24), .ref (bd 25), .ref (bd 26), .int mon, .int mot, .ref (bd 27), .ref (bd 28), .ref (bd 29), .ref (bd 30)])), (bd 1, .inl (cI, 4, .inl srt)), (bd 2, .inl (cI, 4, .inl sln)), (bd 3, .inl (cI, 160, .inl cel1))]) (lv' := [(8, .int (nI k1)), (7, .int 1), (0, .ref (bd 0)), (1, .int (nI j)), (2, .int (nI i0)), (3, .int (nI jo)), (4, .int (nI o0)), (5, .int (nI m0))]) (st' := []) (List.range 8) rfl rfl rfl ?_
                            refine ky_iload C 0 dX8_copy_166 rfl ?_
                            refine ky_iload C 7 dX8_copy_168 rfl ?_
                            refine ky_icmp_ge C 227 dX8_copy_170 (by decide) (fun c_170 => ?_) (fun c_170 => ?_)
                            · have d_170 := Int32.not_lt.mpr c_170
                              have n_170 := kn_le (a := m0) (b := k1) (by omega) (by omega) c_170
                              have m_170 := Nat.not_lt.mpr n_170
                              refine ky_iload C 7 dX8_copy_227 rfl ?_
                              exact ky_iret C hr hlk ⟨(nI m0), 0, (va_up sh jo ((sh jo).1, (sh jo).2.1, va_cpy (sh j).2.2 (sh jo).2.2 i0 o0 m0)), cel1, rfl, rfl, (by first | (simp only [kF_copy, if_pos c_9, if_pos c_16, hcj, hcjo, if_neg c_29, if_neg c_40, if_neg h9, if_neg h9o, if_pos c_61, if_pos h8, if_neg c_71, if_pos d_71, if_neg c_76, if_pos d_76, if_neg c_81, if_pos d_81, if_neg c_91, if_pos d_91, if_neg c_102, if_pos d_102, if_neg c_127, if_pos d_127, if_pos c_141, if_neg d_141, if_pos hA, if_pos hB, hci0, hcm0, hco0, if_neg c_153, if_pos d_153, if_pos n_153, if_neg m_153, if_pos c_170, if_neg d_170, if_pos n_170, if_neg m_170]; done) | (simp only [kF_copy, if_pos c_9, if_pos c_16, hcj, hcjo, if_neg c_29, if_neg c_40, if_neg h9, if_neg h9o, if_pos c_61, if_pos h8, if_neg c_71, if_pos d_71, if_neg c_76, if_pos d_76, if_neg c_81, if_pos d_81, if_neg c_91, if_pos d_91, if_neg c_102, if_pos d_102, if_neg c_127, if_pos d_127, if_pos c_141, if_neg d_141, if_pos hA, if_pos hB, hci0, hcm0, hco0, if_neg c_153, if_pos d_153, if_pos n_153, if_neg m_153, if_pos c_170, if_neg d_170, if_pos n_170, if_neg m_170]; rfl)), (kShR_copy hR hj4 hjo4 him hom (kCp_end hcp (show k1 = m0 by omega)))⟩ (Nat.le_of_ble_eq_true rfl) dX8_copy_229
                            · have d_170 := Int32.not_le.mp c_170
                              have n_170 := kn_nle (a := m0) (b := k1) (by omega) (by omega) c_170
                              have m_170 := Nat.not_le.mpr n_170
                              refine ky_iload C 1 dX8_copy_173 rfl ?_
                              refine ky_if_eq C 188 dX8_copy_175 (by decide) (fun q => absurd q (by decide)) (fun c_175 => ?_)
                              refine ky_iload C 7 dX8_copy_178 rfl ?_
                              refine ky_iconst C dX8_copy_180 (v := 1) (by decide) ?_
                              refine ky_isub C (v := nI (m0 - 1)) dX8_copy_181 (kpred1 (by omega)) ?_
                              refine ky_iload C 0 dX8_copy_182 rfl ?_
                              refine ky_isub C (v := nI (m0 - 1 - k1)) dX8_copy_184 (pk_sub (by omega)) ?_
                              refine ky_goto C dX8_copy_185 (tgt := 190) (by decide) ?_
                              refine ky_istore C (lv' := [(9, .int (nI (m0 - 1 - k1))), (8, .int (nI k1)), (7, .int 1), (0, .ref (bd 0)), (1, .int (nI j)), (2, .int (nI i0)), (3, .int (nI jo)), (4, .int (nI o0)), (5, .int (nI m0))]) dX8_copy_190 (by decide) rfl ?_
                              refine ky_aload_n C 3 dX8_copy_192 rfl rfl ?_
                              refine ky_get C (ci := 8) (T := TX8) (N := 44) (Cn := RX8) (ref := "RainAccountModel") hiX8_copy_X8 0 rfl rfl 4 (by decide) (List.mem_of_getElem? (i := 4) rfl) rfl (v := .ref (bd 3)) rfl dX8_copy_193 ?_
                              refine ky_bipush C dX8_copy_196 (v := 40) (by decide) ?_
                              refine ky_iload_n C 6 dX8_copy_198 rfl rfl ?_
                              refine ky_imul C (v := nI (40 * jo)) dX8_copy_199 (pk_mul 40 jo) ?_
                              refine ky_iload C 7 dX8_copy_200 rfl ?_
                              refine ky_iadd C (v := nI (40 * jo + o0)) dX8_copy_202 (nI_add (40 * jo) o0) ?_
                              refine ky_iload C 0 dX8_copy_203 rfl ?_
                              refine ky_iadd C (v := nI (40 * jo + o0 + (m0 - 1 - k1))) dX8_copy_205 (nI_add (40 * jo + o0) (m0 - 1 - k1)) ?_
                              refine ky_aload_n C 3 dX8_copy_206 rfl rfl ?_
                              refine ky_get C (ci := 8) (T := TX8) (N := 44) (Cn := RX8) (ref := "RainAccountModel") hiX8_copy_X8 0 rfl rfl 4 (by decide) (List.mem_of_getElem? (i := 4) rfl) rfl (v := .ref (bd 3)) rfl dX8_copy_207 ?_
                              refine ky_bipush C dX8_copy_210 (v := 40) (by decide) ?_
                              refine ky_iload_n C 4 dX8_copy_212 rfl rfl ?_
                              refine ky_imul C (v := nI (40 * j)) dX8_copy_213 (pk_mul 40 j) ?_
                              refine ky_iload_n C 5 dX8_copy_214 rfl rfl ?_
                              refine ky_iadd C (v := nI (40 * j + i0)) dX8_copy_215 (nI_add (40 * j) i0) ?_
                              refine ky_iload C 0 dX8_copy_216 rfl ?_
                              refine ky_iadd C (v := nI (40 * j + i0 + (m0 - 1 - k1))) dX8_copy_218 (nI_add (40 * j + i0) (m0 - 1 - k1)) ?_
                              refine ky_ialdN C 3 (k := 40 * j + i0 + (m0 - 1 - k1)) rfl (by omega) (by decide) dX8_copy_219 (v := cel1 (40 * j + i0 + (m0 - 1 - k1))) rfl ?_
                              refine ky_iastN C 3 (k := 40 * jo + o0 + (m0 - 1 - k1)) rfl (by omega) (by decide) dX8_copy_220 (ws' := [(bd 0, .inr (8, [.int 0, .int mt, .ref (bd 1), .ref (bd 2), .ref (bd 3), .int (nI N), .ref (bd 4), .ref (bd 5), .ref (bd 6), .int wind, .int low, .int forb, .int mat, .int mrf, .ref (bd 7), .ref (bd 8), .ref (bd 9), .int (nI nc), .ref (bd 10), .ref (bd 11), .ref (bd 12), .int (nI ns), .ref (bd 13), .ref (bd 14), .ref (bd 15), .ref (bd 16), .int bw, .int fi, .ref (bd 17), .ref (bd 18), .ref (bd 19), .ref (bd 20), .ref (bd 21), .ref (bd 22), .ref (bd 23), .ref (bd 24), .ref (bd 25), .ref (bd 26), .int mon, .int mot, .ref (bd 27), .ref (bd 28), .ref (bd 29), .ref (bd 30)])), (bd 1, .inl (cI, 4, .inl srt)), (bd 2, .inl (cI, 4, .inl sln)), (bd 3, .inl (cI, 160, .inl (upd cel1 (40 * jo + o0 + (m0 - 1 - k1)) (cel1 (40 * j + i0 + (m0 - 1 - k1))))))]) rfl ?_
                              refine ky_iinc C 1 (v := nI (k1 + 1)) (lv' := [(8, .int (nI (k1 + 1))), (9, .int (nI (m0 - 1 - k1))), (7, .int 1), (0, .ref (bd 0)), (1, .int (nI j)), (2, .int (nI i0)), (3, .int (nI jo)), (4, .int (nI o0)), (5, .int (nI m0))]) dX8_copy_221 rfl (nI_1 _) (by decide) rfl ?_
                              refine ky_goto C dX8_copy_224 (tgt := 166) (by decide) ?_
                              exact ky_conv (ws' := [(bd 0, .inr (8, [.int 0, .int mt, .ref (bd 1), .ref (bd 2), .ref (bd 3), .int (nI N), .ref (bd 4), .ref (bd 5), .ref (bd 6), .int wind, .int low, .int forb, .int mat, .int mrf, .ref (bd 7), .ref (bd 8), .ref (bd 9), .int (nI nc), .ref (bd 10), .ref (bd 11), .ref (bd 12), .int (nI ns), .ref (bd 13), .ref (bd 14), .ref (bd 15), .ref (bd 16), .int bw, .int fi, .ref (bd 17), .ref (bd 18), .ref (bd 19), .ref (bd 20), .ref (bd 21), .ref (bd 22), .ref (bd 23), .ref (bd 24), .ref (bd 25), .ref (bd 26), .int mon, .int mot, .ref (bd 27), .ref (bd 28), .ref (bd 29), .ref (bd 30)])), (bd 1, .inl (cI, 4, .inl srt)), (bd 2, .inl (cI, 4, .inl sln)), (bd 3, .inl (cI, 160, .inl (upd cel1 (40 * jo + o0 + (m0 - 1 - k1)) (cel1 (40 * j + i0 + (m0 - 1 - k1))))))]) (lv' := [(8, .int (nI (k1 + 1))), (7, .int 1), (0, .ref (bd 0)), (1, .int (nI j)), (2, .int (nI i0)), (3, .int (nI jo)), (4, .int (nI o0)), (5, .int (nI m0))]) (st' := []) [0, 2, 3, 4, 5, 6, 7, 8] rfl rfl rfl (ih_166 (k1 + 1) (upd cel1 (40 * jo + o0 + (m0 - 1 - k1)) (cel1 (40 * j + i0 + (m0 - 1 - k1)))) (show m0 - (k1 + 1) < m0 - k1 from by omega) ⟨(by omega), ⟨fun hlt => (by first | exact kCp_dn (hcp.1 hlt) (by omega) (by omega) | omega), fun hge => (by first | exact kCp_up (hcp.2 hge) (by omega) | omega)⟩, trivial⟩)
                        · have d_141 := Int32.not_le.mp c_141
                          have hno : ¬ ((0 ≤ y ∧ (0 : Int32) ≤ t ∧ y ≤ (sh j).2.1 ∧ t ≤ (sh j).2.1 - y) ∧ (0 ≤ u ∧ (0 : Int32) ≤ t ∧ u ≤ (sh jo).2.1 ∧ t ≤ (sh jo).2.1 - u)) := by
                            rintro ⟨⟨q1, q2, q3, q4⟩, q5, _, q6, q7⟩
                            rw [← hl] at q3 q4
                            rw [← hlo] at q6 q7
                            first | exact d_71 q1 | exact d_76 q5 | exact d_81 q2 | exact d_91 q3 | exact d_102 q6 | exact d_127 q4 | exact c_141 q7
                          refine ky_aload_n C 1 dX8_copy_144 rfl rfl ?_
                          refine ky_iconst C dX8_copy_145 (v := 3) (by decide) ?_
                          refine ky_callV0 C 1 (kX8_fails l D cI cS bd 0 mt N wind low forb mat mrf nc ns bw fi mon mot 3) gX8_copy_X8_fails rfl rfl rfl hdX8_fails 0 8 rfl rfl rfl ⟨Nat.le_of_ble_eq_true rfl, Nat.le_of_ble_eq_true rfl⟩ rfl rfl (Nat.le_of_ble_eq_true rfl) dX8_copy_146 [0] rfl rfl ?_
                          rintro _ _ ⟨rfl, rfl⟩
                          refine ky_ws (ws' := [(bd 0, .inr (8, [.int 3, .int mt, .ref (bd 1), .ref (bd 2), .ref (bd 3), .int (nI N), .ref (bd 4), .ref (bd 5), .ref (bd 6), .int wind, .int low, .int forb, .int mat, .int mrf, .ref (bd 7), .ref (bd 8), .ref (bd 9), .int (nI nc), .ref (bd 10), .ref (bd 11), .ref (bd 12), .int (nI ns), .ref (bd 13), .ref (bd 14), .ref (bd 15), .ref (bd 16), .int bw, .int fi, .ref (bd 17), .ref (bd 18), .ref (bd 19), .ref (bd 20), .ref (bd 21), .ref (bd 22), .ref (bd 23), .ref (bd 24), .ref (bd 25), .ref (bd 26), .int mon, .int mot, .ref (bd 27), .ref (bd 28), .ref (bd 29), .ref (bd 30)])), (bd 1, .inl (cI, 4, .inl srt)), (bd 2, .inl (cI, 4, .inl sln)), (bd 3, .inl (cI, 160, .inl cel))]) (st' := [.int ((-10 : Int32) - 3)]) rfl rfl ?_
                          exact ky_iret C hr hlk ⟨((-10 : Int32) - 3), 3, sh, cel, congrArg (fun z => some (Value.int z)) (show ((-10 : Int32) - 3) = (((-10 : Int32) - 3)) from by simp [c_9, c_16, hcj, hcjo, c_29, c_40, h9, h9o, c_61, h8, c_71, d_71, c_76, d_76, c_81, d_81, c_91, d_91, c_102, d_102, c_127, d_127, c_141, d_141]), rfl, (by simp only [kF_copy, if_pos c_9, if_pos c_16, hcj, hcjo, if_neg c_29, if_neg c_40, if_neg h9, if_neg h9o, if_pos c_61, if_pos h8, if_neg c_71, if_pos d_71, if_neg c_76, if_pos d_76, if_neg c_81, if_pos d_81, if_neg c_91, if_pos d_91, if_neg c_102, if_pos d_102, if_neg c_127, if_pos d_127, if_neg c_141, if_pos d_141]; exact kCp2 hno), hR⟩ (Nat.le_of_ble_eq_true rfl) dX8_copy_149
          · have h8 : ¬ (sh j).1 = (sh jo).1 := fun q => c_61 (hso.trans (q.trans hsoo.symm))
            refine ky_aload_n C 0 dX8_copy_64 rfl rfl ?_
            refine ky_iconst C dX8_copy_65 (v := 2) (by decide) ?_
            refine ky_callV0 C 1 (kX8_fails l D cI cS bd 0 mt N wind low forb mat mrf nc ns bw fi mon mot 2) gX8_copy_X8_fails rfl rfl rfl hdX8_fails 0 8 rfl rfl rfl ⟨Nat.le_of_ble_eq_true rfl, Nat.le_of_ble_eq_true rfl⟩ rfl rfl (Nat.le_of_ble_eq_true rfl) dX8_copy_66 [0] rfl rfl ?_
            rintro _ _ ⟨rfl, rfl⟩
            refine ky_ws (ws' := [(bd 0, .inr (8, [.int 2, .int mt, .ref (bd 1), .ref (bd 2), .ref (bd 3), .int (nI N), .ref (bd 4), .ref (bd 5), .ref (bd 6), .int wind, .int low, .int forb, .int mat, .int mrf, .ref (bd 7), .ref (bd 8), .ref (bd 9), .int (nI nc), .ref (bd 10), .ref (bd 11), .ref (bd 12), .int (nI ns), .ref (bd 13), .ref (bd 14), .ref (bd 15), .ref (bd 16), .int bw, .int fi, .ref (bd 17), .ref (bd 18), .ref (bd 19), .ref (bd 20), .ref (bd 21), .ref (bd 22), .ref (bd 23), .ref (bd 24), .ref (bd 25), .ref (bd 26), .int mon, .int mot, .ref (bd 27), .ref (bd 28), .ref (bd 29), .ref (bd 30)])), (bd 1, .inl (cI, 4, .inl srt)), (bd 2, .inl (cI, 4, .inl sln)), (bd 3, .inl (cI, 160, .inl cel))]) (st' := [.int ((-10 : Int32) - 2)]) rfl rfl ?_
            exact ky_iret C hr hlk ⟨((-10 : Int32) - 2), 2, sh, cel, congrArg (fun z => some (Value.int z)) (show ((-10 : Int32) - 2) = (((-10 : Int32) - 2)) from by simp [c_9, c_16, hcj, hcjo, c_29, c_40, h9, h9o, c_61, h8]), rfl, (by first | (simp only [kF_copy, if_pos c_9, if_pos c_16, hcj, hcjo, if_neg c_29, if_neg c_40, if_neg h9, if_neg h9o, if_neg c_61, if_neg h8]; done) | (simp only [kF_copy, if_pos c_9, if_pos c_16, hcj, hcjo, if_neg c_29, if_neg c_40, if_neg h9, if_neg h9o, if_neg c_61, if_neg h8]; rfl)), hR⟩ (Nat.le_of_ble_eq_true rfl) dX8_copy_69
        · have h99 : (sh j).2.1 = -1 ∨ (sh jo).2.1 = -1 := by first | exact Or.inl (kR_n hR hsh hj4 c_29) | exact Or.inr (kR_n hR hsh hjo4 c_40)
          refine ky_aload_n C 0 dX8_copy_43 rfl rfl ?_
          refine ky_iconst C dX8_copy_44 (v := 1) (by decide) ?_
          refine ky_callV0 C 1 (kX8_fails l D cI cS bd 0 mt N wind low forb mat mrf nc ns bw fi mon mot 1) gX8_copy_X8_fails rfl rfl rfl hdX8_fails 0 8 rfl rfl rfl ⟨Nat.le_of_ble_eq_true rfl, Nat.le_of_ble_eq_true rfl⟩ rfl rfl (Nat.le_of_ble_eq_true rfl) dX8_copy_45 [0] rfl rfl ?_
          rintro _ _ ⟨rfl, rfl⟩
          refine ky_ws (ws' := [(bd 0, .inr (8, [.int 1, .int mt, .ref (bd 1), .ref (bd 2), .ref (bd 3), .int (nI N), .ref (bd 4), .ref (bd 5), .ref (bd 6), .int wind, .int low, .int forb, .int mat, .int mrf, .ref (bd 7), .ref (bd 8), .ref (bd 9), .int (nI nc), .ref (bd 10), .ref (bd 11), .ref (bd 12), .int (nI ns), .ref (bd 13), .ref (bd 14), .ref (bd 15), .ref (bd 16), .int bw, .int fi, .ref (bd 17), .ref (bd 18), .ref (bd 19), .ref (bd 20), .ref (bd 21), .ref (bd 22), .ref (bd 23), .ref (bd 24), .ref (bd 25), .ref (bd 26), .int mon, .int mot, .ref (bd 27), .ref (bd 28), .ref (bd 29), .ref (bd 30)])), (bd 1, .inl (cI, 4, .inl srt)), (bd 2, .inl (cI, 4, .inl sln)), (bd 3, .inl (cI, 160, .inl cel))]) (st' := [.int ((-10 : Int32) - 1)]) rfl rfl ?_
          exact ky_iret C hr hlk ⟨((-10 : Int32) - 1), 1, sh, cel, congrArg (fun z => some (Value.int z)) (show ((-10 : Int32) - 1) = (((-10 : Int32) - 1)) from by simp [c_9, c_16, hcj, hcjo, c_29, c_40]), rfl, (by rcases h99 with h99 | h99 <;> simp only [kF_copy, if_pos c_9, if_pos c_16, hcj, hcjo, if_neg c_29, if_pos c_40, h99, ite_self, ↓reduceIte] <;> rfl), hR⟩ (Nat.le_of_ble_eq_true rfl) dX8_copy_48
    · have c_16 : ¬ (0 ≤ z ∧ z ≤ 3) := kb0 c_16
      refine ky_iconst C dX8_copy_19 (v := (-1)) (by decide) ?_
      exact ky_iret C hr hlk ⟨(-1), 0, sh, cel, rfl, rfl, (by first | (simp only [kF_copy, if_pos c_9, if_neg c_16]; done) | (simp only [kF_copy, if_pos c_9, if_neg c_16]; rfl)), hR⟩ (Nat.le_of_ble_eq_true rfl) dX8_copy_20
theorem hiX8_isGot_X8 : ∀ w ∈ wsX80, w ∈ wsX8_isGot := fun _ h => (List.mem_cons_of_mem _ (List.mem_append_right _ h))
theorem hdX8_isGot : yX8_isGot.cls = RX8 ∧ yX8_isGot.cls ≠ "java/lang/invoke/MethodHandle" ∧ yX8_isGot.cls ≠ "java/lang/invoke/VarHandle" ∧ (parseMethodDescriptor yX8_isGot.desc).map (fun d => d.parameters.length) = some 1 := by decide +kernel
set_option maxRecDepth 100000 in
set_option maxHeartbeats 4000000 in
theorem kX8_isGot (l : Launch) (D : va_G) (cI cS : ClassId) (bd : Nat → Nat) (mf : Int32) (mt : Int32) (N : Nat) (wind : Int32) (low : Int32) (forb : Int32) (mat : Int32) (mrf : Int32) (nc : Nat) (ns : Nat) (bw : Int32) (fi : Int32) (mon : Int32) (mot : Int32) (cel : Nat → Int32) (gt : Nat → Int32) (b0 : Nat) (hN : N ≤ 8) (hb0 : b0 + N ≤ 160) : kyM l yX8_isGot wsX8_isGot ({ frames := 0, cells := 0, slots := 0, locals := 0 }) D cI cS [.ref (bd 0), .int (nI b0)] [(bd 0, .inr (8, [.int mf, .int mt, .ref (bd 1), .ref (bd 2), .ref (bd 3), .int (nI N), .ref (bd 4), .ref (bd 5), .ref (bd 6), .int wind, .int low, .int forb, .int mat, .int mrf, .ref (bd 7), .ref (bd 8), .ref (bd 9), .int (nI nc), .ref (bd 10), .ref (bd 11), .ref (bd 12), .int (nI ns), .ref (bd 13), .ref (bd 14), .ref (bd 15), .ref (bd 16), .int bw, .int fi, .ref (bd 17), .ref (bd 18), .ref (bd 19), .ref (bd 20), .ref (bd 21), .ref (bd 22), .ref (bd 23), .ref (bd 24), .ref (bd 25), .ref (bd 26), .int mon, .int mot, .ref (bd 27), .ref (bd 28), .ref (bd 29), .ref (bd 30)])), (bd 18, .inl (cI, 8, .inl gt)), (bd 3, .inl (cI, 160, .inl cel))] 0 0 (fun vR wR => vR = some (.int (if ∀ f9, f9 < N → gt f9 = cel (b0 + f9) then (1 : Int32) else 0)) ∧ wR = [(bd 0, .inr (8, [.int mf, .int mt, .ref (bd 1), .ref (bd 2), .ref (bd 3), .int (nI N), .ref (bd 4), .ref (bd 5), .ref (bd 6), .int wind, .int low, .int forb, .int mat, .int mrf, .ref (bd 7), .ref (bd 8), .ref (bd 9), .int (nI nc), .ref (bd 10), .ref (bd 11), .ref (bd 12), .int (nI ns), .ref (bd 13), .ref (bd 14), .ref (bd 15), .ref (bd 16), .int bw, .int fi, .ref (bd 17), .ref (bd 18), .ref (bd 19), .ref (bd 20), .ref (bd 21), .ref (bd 22), .ref (bd 23), .ref (bd 24), .ref (bd 25), .ref (bd 26), .int mon, .int mot, .ref (bd 27), .ref (bd 28), .ref (bd 29), .ref (bd 30)])), (bd 18, .inl (cI, 8, .inl gt)), (bd 3, .inl (cI, 160, .inl cel))]) := by
  refine ky_start (own := RX8) (cc := cX8_isGot) (nL := 3) (ret := (some .boolean)) (by decide) rfl rfl (Nat.le_of_ble_eq_true rfl) ?_
  intro p e s m args below meth c C hr hlk hnm
  refine ky_conv (lv' := [(0, .ref (bd 0)), (1, .int (nI b0))]) (List.range 2) rfl rfl rfl ?_
  refine ky_iconst C dX8_isGot_0 (v := 0) (by decide) ?_
  refine ky_istore_n C (lv' := [(2, .int 0), (0, .ref (bd 0)), (1, .int (nI b0))]) dX8_isGot_1 rfl (by decide) rfl ?_
  refine ky_conv (ws' := [(bd 0, .inr (8, [.int mf, .int mt, .ref (bd 1), .ref (bd 2), .ref (bd 3), .int (nI N), .ref (bd 4), .ref (bd 5), .ref (bd 6), .int wind, .int low, .int forb, .int mat, .int mrf, .ref (bd 7), .ref (bd 8), .ref (bd 9), .int (nI nc), .ref (bd 10), .ref (bd 11), .ref (bd 12), .int (nI ns), .ref (bd 13), .ref (bd 14), .ref (bd 15), .ref (bd 16), .int bw, .int fi, .ref (bd 17), .ref (bd 18), .ref (bd 19), .ref (bd 20), .ref (bd 21), .ref (bd 22), .ref (bd 23), .ref (bd 24), .ref (bd 25), .ref (bd 26), .int mon, .int mot, .ref (bd 27), .ref (bd 28), .ref (bd 29), .ref (bd 30)])), (bd 18, .inl (cI, 8, .inl gt)), (bd 3, .inl (cI, 160, .inl cel))]) (lv' := [(2, .int 0), (0, .ref (bd 0)), (1, .int (nI b0))]) (st' := []) [0, 1, 2] rfl rfl rfl ?_
  refine ky_loop1 (T1 := Nat) (Wf := (fun f1 => [(bd 0, .inr (8, [.int mf, .int mt, .ref (bd 1), .ref (bd 2), .ref (bd 3), .int (nI N), .ref (bd 4), .ref (bd 5), .ref (bd 6), .int wind, .int low, .int forb, .int mat, .int mrf, .ref (bd 7), .ref (bd 8), .ref (bd 9), .int (nI nc), .ref (bd 10), .ref (bd 11), .ref (bd 12), .int (nI ns), .ref (bd 13), .ref (bd 14), .ref (bd 15), .ref (bd 16), .int bw, .int fi, .ref (bd 17), .ref (bd 18), .ref (bd 19), .ref (bd 20), .ref (bd 21), .ref (bd 22), .ref (bd 23), .ref (bd 24), .ref (bd 25), .ref (bd 26), .int mon, .int mot, .ref (bd 27), .ref (bd 28), .ref (bd 29), .ref (bd 30)])), (bd 18, .inl (cI, 8, .inl gt)), (bd 3, .inl (cI, 160, .inl cel))])) (Lf := (fun f1 => [(2, .int (nI f1)), (0, .ref (bd 0)), (1, .int (nI b0))])) (Sf := (fun f1 => [])) (fun f1 => (f1 ≤ N) ∧ (∀ f9, f9 < f1 → gt f9 = cel (b0 + f9)) ∧ True) (fun f1 => N - f1) ?_ 0 ⟨(by omega), (fun f hf => absurd hf (Nat.not_lt_zero f)), trivial⟩
  intro f1 hI_2 ih_2
  obtain ⟨hf1, hall, -⟩ := hI_2
  have hf1 : f1 ≤ N := hf1
  have hall : ∀ f9, f9 < f1 → gt f9 = cel (b0 + f9) := hall
  refine ky_conv (ws' := [(bd 0, .inr (8, [.int mf, .int mt, .ref (bd 1), .ref (bd 2), .ref (bd 3), .int (nI N), .ref (bd 4), .ref (bd 5), .ref (bd 6), .int wind, .int low, .int forb, .int mat, .int mrf, .ref (bd 7), .ref (bd 8), .ref (bd 9), .int (nI nc), .ref (bd 10), .ref (bd 11), .ref (bd 12), .int (nI ns), .ref (bd 13), .ref (bd 14), .ref (bd 15), .ref (bd 16), .int bw, .int fi, .ref (bd 17), .ref (bd 18), .ref (bd 19), .ref (bd 20), .ref (bd 21), .ref (bd 22), .ref (bd 23), .ref (bd 24), .ref (bd 25), .ref (bd 26), .int mon, .int mot, .ref (bd 27), .ref (bd 28), .ref (bd 29), .ref (bd 30)])), (bd 18, .inl (cI, 8, .inl gt)), (bd 3, .inl (cI, 160, .inl cel))]) (lv' := [(2, .int (nI f1)), (0, .ref (bd 0)), (1, .int (nI b0))]) (st' := []) (List.range 3) rfl rfl rfl ?_
  refine ky_iload_n C 0 dX8_isGot_2 rfl rfl ?_
  refine ky_aload_n C 1 dX8_isGot_3 rfl rfl ?_
  refine ky_get C (ci := 8) (T := TX8) (N := 44) (Cn := RX8) (ref := "RainAccountModel") hiX8_isGot_X8 0 rfl rfl 5 (by decide) (List.mem_of_getElem? (i := 1) rfl) rfl (v := .int (nI N)) rfl dX8_isGot_4 ?_
  refine ky_icmp_ge C 35 dX8_isGot_7 (by decide) (fun c_7 => ?_) (fun c_7 => ?_)
  · have d_7 := Int32.not_lt.mpr c_7
    have n_7 := kn_le (a := N) (b := f1) (by omega) (by omega) c_7
    have m_7 := Nat.not_lt.mpr n_7
    refine ky_iconst C dX8_isGot_35 (v := 1) (by decide) ?_
    exact ky_zret C hr hlk rfl ⟨congrArg (fun z => some (Value.int z)) (show (1) = (if ∀ f9, f9 < N → gt f9 = cel (b0 + f9) then (1 : Int32) else 0) from by rw [if_pos (fun f hf => hall f (by omega))]), rfl⟩ (Nat.le_of_ble_eq_true rfl) dX8_isGot_36
  · have d_7 := Int32.not_le.mp c_7
    have n_7 := kn_nle (a := N) (b := f1) (by omega) (by omega) c_7
    have m_7 := Nat.not_le.mpr n_7
    refine ky_aload_n C 1 dX8_isGot_10 rfl rfl ?_
    refine ky_get C (ci := 8) (T := TX8) (N := 44) (Cn := RX8) (ref := "RainAccountModel") hiX8_isGot_X8 0 rfl rfl 29 (by decide) (List.mem_of_getElem? (i := 2) rfl) rfl (v := .ref (bd 18)) rfl dX8_isGot_11 ?_
    refine ky_iload_n C 0 dX8_isGot_14 rfl rfl ?_
    refine ky_ialdN C 1 (k := f1) rfl (by omega) (by decide) dX8_isGot_15 (v := gt f1) rfl ?_
    refine ky_aload_n C 1 dX8_isGot_16 rfl rfl ?_
    refine ky_get C (ci := 8) (T := TX8) (N := 44) (Cn := RX8) (ref := "RainAccountModel") hiX8_isGot_X8 0 rfl rfl 4 (by decide) (List.mem_of_getElem? (i := 3) rfl) rfl (v := .ref (bd 3)) rfl dX8_isGot_17 ?_
    refine ky_iload_n C 2 dX8_isGot_20 rfl rfl ?_
    refine ky_iload_n C 0 dX8_isGot_21 rfl rfl ?_
    refine ky_iadd C (v := nI (b0 + f1)) dX8_isGot_22 (nI_add b0 f1) ?_
    refine ky_ialdN C 2 (k := b0 + f1) rfl (by omega) (by decide) dX8_isGot_23 (v := cel (b0 + f1)) rfl ?_
    refine ky_icmp_eq C 29 dX8_isGot_24 (by decide) (fun c_24 => ?_) (fun c_24 => ?_)
    · refine ky_iinc C 0 (v := nI (f1 + 1)) (lv' := [(2, .int (nI (f1 + 1))), (0, .ref (bd 0)), (1, .int (nI b0))]) dX8_isGot_29 rfl (nI_1 _) (by decide) rfl ?_
      refine ky_goto C dX8_isGot_32 (tgt := 2) (by decide) ?_
      exact ky_conv (ws' := [(bd 0, .inr (8, [.int mf, .int mt, .ref (bd 1), .ref (bd 2), .ref (bd 3), .int (nI N), .ref (bd 4), .ref (bd 5), .ref (bd 6), .int wind, .int low, .int forb, .int mat, .int mrf, .ref (bd 7), .ref (bd 8), .ref (bd 9), .int (nI nc), .ref (bd 10), .ref (bd 11), .ref (bd 12), .int (nI ns), .ref (bd 13), .ref (bd 14), .ref (bd 15), .ref (bd 16), .int bw, .int fi, .ref (bd 17), .ref (bd 18), .ref (bd 19), .ref (bd 20), .ref (bd 21), .ref (bd 22), .ref (bd 23), .ref (bd 24), .ref (bd 25), .ref (bd 26), .int mon, .int mot, .ref (bd 27), .ref (bd 28), .ref (bd 29), .ref (bd 30)])), (bd 18, .inl (cI, 8, .inl gt)), (bd 3, .inl (cI, 160, .inl cel))]) (lv' := [(2, .int (nI (f1 + 1))), (0, .ref (bd 0)), (1, .int (nI b0))]) (st' := []) [0, 1, 2] rfl rfl rfl (ih_2 (f1 + 1) (show N - (f1 + 1) < N - f1 from by omega) ⟨(by omega), (kAnd2 hall c_24), trivial⟩)
    · refine ky_iconst C dX8_isGot_27 (v := 0) (by decide) ?_
      exact ky_zret C hr hlk rfl ⟨congrArg (fun z => some (Value.int z)) (show (0) = (if ∀ f9, f9 < N → gt f9 = cel (b0 + f9) then (1 : Int32) else 0) from by rw [if_neg (fun q => c_24 (q f1 (by omega)))]), rfl⟩ (Nat.le_of_ble_eq_true rfl) dX8_isGot_28
theorem hiX8_missed_X8 : ∀ w ∈ wsX80, w ∈ wsX8_missed := fun _ h => (List.mem_cons_of_mem _ (List.mem_append_right _ h))
theorem hdX8_missed : yX8_missed.cls = RX8 ∧ yX8_missed.cls ≠ "java/lang/invoke/MethodHandle" ∧ yX8_missed.cls ≠ "java/lang/invoke/VarHandle" ∧ (parseMethodDescriptor yX8_missed.desc).map (fun d => d.parameters.length) = some 3 := by decide +kernel
set_option maxRecDepth 100000 in
set_option maxHeartbeats 4000000 in
/-- X8_missed -/
theorem kX8_missed (l : Launch) (D : va_G) (cI cS : ClassId) (sh : Nat → kSh) (bd : Nat → Nat) (mf : Int32) (mt : Int32) (N : Nat) (wind : Int32) (low : Int32) (forb : Int32) (mat : Int32) (mrf : Int32) (nc : Nat) (ns : Nat) (bw : Int32) (fi : Int32) (mon : Int32) (mot : Int32) (srt : Nat → Int32) (sln : Nat → Int32) (cel : Nat → Int32) (cat : Nat → Int32) (cwet : Nat → Int32) (chigh : Nat → Int32) (kd : Nat → Int32) (fr : Nat → Int32) (hor : Nat → Int32) (pw : Nat → Int32) (lf : Nat → Int32) (gt : Nat → Int32) (hl : Nat → Int32) (rb : Nat → Int32) (hb : Nat → Int32) (wb : Nat → Int32) (am : Nat → Int32) (so : Nat → Int32) (x : Int32) (y : Int32) (z : Int32) (hR : kShR sh srt sln cel) (hsh : kShOk sh) (hN : N ≤ 8) (hnc : nc ≤ 6) (hns : ns ≤ 8) (hwf : ∀ s, s < ns → 0 ≤ fr s ∧ fr s < nI N) : kyM l yX8_missed wsX8_missed ({ frames := 5, cells := 0, slots := 0, locals := 113 }) D cI cS [.ref (bd 0), .int x, .int y, .int z] [(bd 0, .inr (8, [.int mf, .int mt, .ref (bd 1), .ref (bd 2), .ref (bd 3), .int (nI N), .ref (bd 4), .ref (bd 5), .ref (bd 6), .int wind, .int low, .int forb, .int mat, .int mrf, .ref (bd 7), .ref (bd 8), .ref (bd 9), .int (nI nc), .ref (bd 10), .ref (bd 11), .ref (bd 12), .int (nI ns), .ref (bd 13), .ref (bd 14), .ref (bd 15), .ref (bd 16), .int bw, .int fi, .ref (bd 17), .ref (bd 18), .ref (bd 19), .ref (bd 20), .ref (bd 21), .ref (bd 22), .ref (bd 23), .ref (bd 24), .ref (bd 25), .ref (bd 26), .int mon, .int mot, .ref (bd 27), .ref (bd 28), .ref (bd 29), .ref (bd 30)])), (bd 10, .inl (cI, 6, .inl cat)), (bd 11, .inl (cI, 6, .inl cwet)), (bd 12, .inl (cI, 6, .inl chigh)), (bd 13, .inl (cI, 10, .inl kd)), (bd 14, .inl (cI, 10, .inl fr)), (bd 15, .inl (cI, 10, .inl hor)), (bd 16, .inl (cI, 10, .inl pw)), (bd 17, .inl (cI, 6, .inl lf)), (bd 18, .inl (cI, 8, .inl gt)), (bd 19, .inl (cI, 8, .inl hl)), (bd 20, .inl (cI, 96, .inl rb)), (bd 21, .inl (cI, 96, .inl hb)), (bd 22, .inl (cI, 72, .inl wb)), (bd 23, .inl (cI, 10, .inl am)), (bd 24, .inl (cI, 10, .inl so)), (bd 1, .inl (cI, 4, .inl srt)), (bd 2, .inl (cI, 4, .inl sln)), (bd 3, .inl (cI, 160, .inl cel))] 0 0 (fun vR wR => ∃ r2 : Int32, ∃ mf2 : Int32, ∃ bw2 : Int32, ∃ fi2 : Int32, ∃ lf2 : Nat → Int32, ∃ gt2 : Nat → Int32, ∃ hl2 : Nat → Int32, ∃ am2 : Nat → Int32, ∃ so2 : Nat → Int32, ∃ rb2 : Nat → Int32, ∃ hb2 : Nat → Int32, ∃ wb2 : Nat → Int32, vR = some (.int r2) ∧ wR = [(bd 0, .inr (8, [.int mf2, .int mt, .ref (bd 1), .ref (bd 2), .ref (bd 3), .int (nI N), .ref (bd 4), .ref (bd 5), .ref (bd 6), .int wind, .int low, .int forb, .int mat, .int mrf, .ref (bd 7), .ref (bd 8), .ref (bd 9), .int (nI nc), .ref (bd 10), .ref (bd 11), .ref (bd 12), .int (nI ns), .ref (bd 13), .ref (bd 14), .ref (bd 15), .ref (bd 16), .int bw2, .int fi2, .ref (bd 17), .ref (bd 18), .ref (bd 19), .ref (bd 20), .ref (bd 21), .ref (bd 22), .ref (bd 23), .ref (bd 24), .ref (bd 25), .ref (bd 26), .int mon, .int mot, .ref (bd 27), .ref (bd 28), .ref (bd 29), .ref (bd 30)])), (bd 10, .inl (cI, 6, .inl cat)), (bd 11, .inl (cI, 6, .inl cwet)), (bd 12, .inl (cI, 6, .inl chigh)), (bd 13, .inl (cI, 10, .inl kd)), (bd 14, .inl (cI, 10, .inl fr)), (bd 15, .inl (cI, 10, .inl hor)), (bd 16, .inl (cI, 10, .inl pw)), (bd 17, .inl (cI, 6, .inl lf2)), (bd 18, .inl (cI, 8, .inl gt2)), (bd 19, .inl (cI, 8, .inl hl2)), (bd 20, .inl (cI, 96, .inl rb2)), (bd 21, .inl (cI, 96, .inl hb2)), (bd 22, .inl (cI, 72, .inl wb2)), (bd 23, .inl (cI, 10, .inl am2)), (bd 24, .inl (cI, 10, .inl so2)), (bd 1, .inl (cI, 4, .inl srt)), (bd 2, .inl (cI, 4, .inl sln)), (bd 3, .inl (cI, 160, .inl cel))] ∧ ((r2, mf2) = kF_missed (N, nc, low, cat, cwet, chigh, kd, fr, hor, pw) wind ns sh x y z)) := by
  refine ky_start (own := RX8) (cc := cX8_missed) (nL := 8) (ret := (some .int)) (by decide) rfl rfl (Nat.le_of_ble_eq_true rfl) ?_
  intro p e s m args below meth c C hr hlk hnm
  refine ky_conv (lv' := [(0, .ref (bd 0)), (1, .int x), (2, .int y), (3, .int z)]) (List.range 4) rfl rfl rfl ?_
  refine ky_aload_n C 0 dX8_missed_0 rfl rfl ?_
  refine ky_iconst C dX8_missed_1 (v := 0) (by decide) ?_
  refine ky_put C (ci := 8) (T := TX8) (N := 44) (Cn := RX8) (ref := "RainAccountModel") hiX8_missed_X8 tyX8 tyX8_ok nmX8 0 rfl rfl 0 (by decide) (List.mem_of_getElem? (i := 1) rfl) rfl rfl rfl rfl (Nat.le_of_ble_eq_true rfl) dX8_missed_2 (ws' := [(bd 0, .inr (8, [.int 0, .int mt, .ref (bd 1), .ref (bd 2), .ref (bd 3), .int (nI N), .ref (bd 4), .ref (bd 5), .ref (bd 6), .int wind, .int low, .int forb, .int mat, .int mrf, .ref (bd 7), .ref (bd 8), .ref (bd 9), .int (nI nc), .ref (bd 10), .ref (bd 11), .ref (bd 12), .int (nI ns), .ref (bd 13), .ref (bd 14), .ref (bd 15), .ref (bd 16), .int bw, .int fi, .ref (bd 17), .ref (bd 18), .ref (bd 19), .ref (bd 20), .ref (bd 21), .ref (bd 22), .ref (bd 23), .ref (bd 24), .ref (bd 25), .ref (bd 26), .int mon, .int mot, .ref (bd 27), .ref (bd 28), .ref (bd 29), .ref (bd 30)])), (bd 10, .inl (cI, 6, .inl cat)), (bd 11, .inl (cI, 6, .inl cwet)), (bd 12, .inl (cI, 6, .inl chigh)), (bd 13, .inl (cI, 10, .inl kd)), (bd 14, .inl (cI, 10, .inl fr)), (bd 15, .inl (cI, 10, .inl hor)), (bd 16, .inl (cI, 10, .inl pw)), (bd 17, .inl (cI, 6, .inl lf)), (bd 18, .inl (cI, 8, .inl gt)), (bd 19, .inl (cI, 8, .inl hl)), (bd 20, .inl (cI, 96, .inl rb)), (bd 21, .inl (cI, 96, .inl hb)), (bd 22, .inl (cI, 72, .inl wb)), (bd 23, .inl (cI, 10, .inl am)), (bd 24, .inl (cI, 10, .inl so)), (bd 1, .inl (cI, 4, .inl srt)), (bd 2, .inl (cI, 4, .inl sln)), (bd 3, .inl (cI, 160, .inl cel))]) rfl ?_
  refine ky_iload_n C 1 dX8_missed_5 rfl rfl ?_
  refine ky_callS0 C 1 (kX8_isSheet l D cI cS x) gX8_missed_X8_isSheet rfl rfl rfl hdX8_isSheet.2 ⟨Nat.le_of_ble_eq_true rfl, Nat.le_of_ble_eq_true rfl⟩ rfl rfl (Nat.le_of_ble_eq_true rfl) dX8_missed_6 [] rfl rfl ?_
  rintro _ _ ⟨rfl, rfl⟩
  refine ky_ws (ws' := [(bd 0, .inr (8, [.int 0, .int mt, .ref (bd 1), .ref (bd 2), .ref (bd 3), .int (nI N), .ref (bd 4), .ref (bd 5), .ref (bd 6), .int wind, .int low, .int forb, .int mat, .int mrf, .ref (bd 7), .ref (bd 8), .ref (bd 9), .int (nI nc), .ref (bd 10), .ref (bd 11), .ref (bd 12), .int (nI ns), .ref (bd 13), .ref (bd 14), .ref (bd 15), .ref (bd 16), .int bw, .int fi, .ref (bd 17), .ref (bd 18), .ref (bd 19), .ref (bd 20), .ref (bd 21), .ref (bd 22), .ref (bd 23), .ref (bd 24), .ref (bd 25), .ref (bd 26), .int mon, .int mot, .ref (bd 27), .ref (bd 28), .ref (bd 29), .ref (bd 30)])), (bd 10, .inl (cI, 6, .inl cat)), (bd 11, .inl (cI, 6, .inl cwet)), (bd 12, .inl (cI, 6, .inl chigh)), (bd 13, .inl (cI, 10, .inl kd)), (bd 14, .inl (cI, 10, .inl fr)), (bd 15, .inl (cI, 10, .inl hor)), (bd 16, .inl (cI, 10, .inl pw)), (bd 17, .inl (cI, 6, .inl lf)), (bd 18, .inl (cI, 8, .inl gt)), (bd 19, .inl (cI, 8, .inl hl)), (bd 20, .inl (cI, 96, .inl rb)), (bd 21, .inl (cI, 96, .inl hb)), (bd 22, .inl (cI, 72, .inl wb)), (bd 23, .inl (cI, 10, .inl am)), (bd 24, .inl (cI, 10, .inl so)), (bd 1, .inl (cI, 4, .inl srt)), (bd 2, .inl (cI, 4, .inl sln)), (bd 3, .inl (cI, 160, .inl cel))]) (st' := [.int (if 0 ≤ x ∧ x ≤ 3 then (1 : Int32) else 0)]) rfl rfl ?_
  refine ky_if_ne C 14 dX8_missed_9 (by decide) (fun c_9 => ?_) (fun c_9 => ?_)
  · have c_9 : 0 ≤ x ∧ x ≤ 3 := kb1 c_9
    refine ky_iload_n C 2 dX8_missed_14 rfl rfl ?_
    refine ky_callS0 C 1 (kX8_isSort l D cI cS y) gX8_missed_X8_isSort rfl rfl rfl hdX8_isSort.2 ⟨Nat.le_of_ble_eq_true rfl, Nat.le_of_ble_eq_true rfl⟩ rfl rfl (Nat.le_of_ble_eq_true rfl) dX8_missed_15 [] rfl rfl ?_
    rintro _ _ ⟨rfl, rfl⟩
    refine ky_ws (ws' := [(bd 0, .inr (8, [.int 0, .int mt, .ref (bd 1), .ref (bd 2), .ref (bd 3), .int (nI N), .ref (bd 4), .ref (bd 5), .ref (bd 6), .int wind, .int low, .int forb, .int mat, .int mrf, .ref (bd 7), .ref (bd 8), .ref (bd 9), .int (nI nc), .ref (bd 10), .ref (bd 11), .ref (bd 12), .int (nI ns), .ref (bd 13), .ref (bd 14), .ref (bd 15), .ref (bd 16), .int bw, .int fi, .ref (bd 17), .ref (bd 18), .ref (bd 19), .ref (bd 20), .ref (bd 21), .ref (bd 22), .ref (bd 23), .ref (bd 24), .ref (bd 25), .ref (bd 26), .int mon, .int mot, .ref (bd 27), .ref (bd 28), .ref (bd 29), .ref (bd 30)])), (bd 10, .inl (cI, 6, .inl cat)), (bd 11, .inl (cI, 6, .inl cwet)), (bd 12, .inl (cI, 6, .inl chigh)), (bd 13, .inl (cI, 10, .inl kd)), (bd 14, .inl (cI, 10, .inl fr)), (bd 15, .inl (cI, 10, .inl hor)), (bd 16, .inl (cI, 10, .inl pw)), (bd 17, .inl (cI, 6, .inl lf)), (bd 18, .inl (cI, 8, .inl gt)), (bd 19, .inl (cI, 8, .inl hl)), (bd 20, .inl (cI, 96, .inl rb)), (bd 21, .inl (cI, 96, .inl hb)), (bd 22, .inl (cI, 72, .inl wb)), (bd 23, .inl (cI, 10, .inl am)), (bd 24, .inl (cI, 10, .inl so)), (bd 1, .inl (cI, 4, .inl srt)), (bd 2, .inl (cI, 4, .inl sln)), (bd 3, .inl (cI, 160, .inl cel))]) (st' := [.int (if 0 ≤ y ∧ y ≤ 2 then (1 : Int32) else 0)]) rfl rfl ?_
    refine ky_if_ne C 24 dX8_missed_18 (by decide) (fun c_18 => ?_) (fun c_18 => ?_)
    · have c_18 : 0 ≤ y ∧ y ≤ 2 := kb1 c_18
      obtain ⟨j, hj, rfl⟩ := kixle (n := 3) c_9 (by omega)
      have hcj : (nI j).toNatClampNeg = j := nI_clamp (by omega)
      have hj4 : j < 4 := by omega
      refine ky_aload_n C 0 dX8_missed_24 rfl rfl ?_
      refine ky_iload_n C 1 dX8_missed_25 rfl rfl ?_
      refine ky_iload_n C 2 dX8_missed_26 rfl rfl ?_
      refine ky_iload_n C 3 dX8_missed_27 rfl rfl ?_
      refine ky_aload_n C 0 dX8_missed_28 rfl rfl ?_
      refine ky_get C (ci := 8) (T := TX8) (N := 44) (Cn := RX8) (ref := "RainAccountModel") hiX8_missed_X8 0 rfl rfl 5 (by decide) (List.mem_of_getElem? (i := 2) rfl) rfl (v := .int (nI N)) rfl dX8_missed_29 ?_
      refine ky_callV0 C 4 (kX8_against l D cI cS sh bd 0 mt N wind low forb mat mrf nc ns bw fi mon mot srt sln cel j y z (nI N) (by first | assumption | omega) (by first | assumption | omega) hj4) gX8_missed_X8_against rfl rfl rfl hdX8_against 0 8 rfl rfl rfl ⟨Nat.le_of_ble_eq_true rfl, Nat.le_of_ble_eq_true rfl⟩ rfl rfl (Nat.le_of_ble_eq_true rfl) dX8_missed_32 [0, 16, 17, 18] rfl rfl ?_
      rintro _ _ ⟨rfl, rfl⟩
      refine ky_ws (ws' := [(bd 0, .inr (8, [.int 0, .int mt, .ref (bd 1), .ref (bd 2), .ref (bd 3), .int (nI N), .ref (bd 4), .ref (bd 5), .ref (bd 6), .int wind, .int low, .int forb, .int mat, .int mrf, .ref (bd 7), .ref (bd 8), .ref (bd 9), .int (nI nc), .ref (bd 10), .ref (bd 11), .ref (bd 12), .int (nI ns), .ref (bd 13), .ref (bd 14), .ref (bd 15), .ref (bd 16), .int bw, .int fi, .ref (bd 17), .ref (bd 18), .ref (bd 19), .ref (bd 20), .ref (bd 21), .ref (bd 22), .ref (bd 23), .ref (bd 24), .ref (bd 25), .ref (bd 26), .int mon, .int mot, .ref (bd 27), .ref (bd 28), .ref (bd 29), .ref (bd 30)])), (bd 10, .inl (cI, 6, .inl cat)), (bd 11, .inl (cI, 6, .inl cwet)), (bd 12, .inl (cI, 6, .inl chigh)), (bd 13, .inl (cI, 10, .inl kd)), (bd 14, .inl (cI, 10, .inl fr)), (bd 15, .inl (cI, 10, .inl hor)), (bd 16, .inl (cI, 10, .inl pw)), (bd 17, .inl (cI, 6, .inl lf)), (bd 18, .inl (cI, 8, .inl gt)), (bd 19, .inl (cI, 8, .inl hl)), (bd 20, .inl (cI, 96, .inl rb)), (bd 21, .inl (cI, 96, .inl hb)), (bd 22, .inl (cI, 72, .inl wb)), (bd 23, .inl (cI, 10, .inl am)), (bd 24, .inl (cI, 10, .inl so)), (bd 1, .inl (cI, 4, .inl srt)), (bd 2, .inl (cI, 4, .inl sln)), (bd 3, .inl (cI, 160, .inl cel))]) (st' := [.int (kAg (sh j) y z (nI N))]) rfl rfl ?_
      rcases kAg_cN (s := sh j) (so := y) (i := z) (show N ≤ 8 from hN) with ⟨h9, e9⟩ | ⟨h9, h8, e9⟩ | ⟨h9, h8, h6, e9⟩ | ⟨h9, h8, h6, e9⟩
      · refine ky_top (v' := .int 1) (congrArg Value.int e9) ?_
        refine ky_istore C (lv' := [(4, .int 1), (0, .ref (bd 0)), (1, .int (nI j)), (2, .int y), (3, .int z)]) dX8_missed_35 (by decide) rfl ?_
        refine ky_iload C 0 dX8_missed_37 rfl ?_
        refine ky_if_eq C 49 dX8_missed_39 (by decide) (fun q => absurd q (by decide)) (fun c_39 => ?_)
        refine ky_aload_n C 1 dX8_missed_42 rfl rfl ?_
        refine ky_iload C 0 dX8_missed_43 rfl ?_
        refine ky_callV0 C 1 (kX8_fails l D cI cS bd 0 mt N wind low forb mat mrf nc ns bw fi mon mot 1) gX8_missed_X8_fails rfl rfl rfl hdX8_fails 0 8 rfl rfl rfl ⟨Nat.le_of_ble_eq_true rfl, Nat.le_of_ble_eq_true rfl⟩ rfl rfl (Nat.le_of_ble_eq_true rfl) dX8_missed_45 [0] rfl rfl ?_
        rintro _ _ ⟨rfl, rfl⟩
        refine ky_ws (ws' := [(bd 0, .inr (8, [.int 1, .int mt, .ref (bd 1), .ref (bd 2), .ref (bd 3), .int (nI N), .ref (bd 4), .ref (bd 5), .ref (bd 6), .int wind, .int low, .int forb, .int mat, .int mrf, .ref (bd 7), .ref (bd 8), .ref (bd 9), .int (nI nc), .ref (bd 10), .ref (bd 11), .ref (bd 12), .int (nI ns), .ref (bd 13), .ref (bd 14), .ref (bd 15), .ref (bd 16), .int bw, .int fi, .ref (bd 17), .ref (bd 18), .ref (bd 19), .ref (bd 20), .ref (bd 21), .ref (bd 22), .ref (bd 23), .ref (bd 24), .ref (bd 25), .ref (bd 26), .int mon, .int mot, .ref (bd 27), .ref (bd 28), .ref (bd 29), .ref (bd 30)])), (bd 10, .inl (cI, 6, .inl cat)), (bd 11, .inl (cI, 6, .inl cwet)), (bd 12, .inl (cI, 6, .inl chigh)), (bd 13, .inl (cI, 10, .inl kd)), (bd 14, .inl (cI, 10, .inl fr)), (bd 15, .inl (cI, 10, .inl hor)), (bd 16, .inl (cI, 10, .inl pw)), (bd 17, .inl (cI, 6, .inl lf)), (bd 18, .inl (cI, 8, .inl gt)), (bd 19, .inl (cI, 8, .inl hl)), (bd 20, .inl (cI, 96, .inl rb)), (bd 21, .inl (cI, 96, .inl hb)), (bd 22, .inl (cI, 72, .inl wb)), (bd 23, .inl (cI, 10, .inl am)), (bd 24, .inl (cI, 10, .inl so)), (bd 1, .inl (cI, 4, .inl srt)), (bd 2, .inl (cI, 4, .inl sln)), (bd 3, .inl (cI, 160, .inl cel))]) (st' := [.int ((-10 : Int32) - 1)]) rfl rfl ?_
        exact ky_iret C hr hlk ⟨((-10 : Int32) - 1), 1, bw, fi, lf, gt, hl, am, so, rb, hb, wb, congrArg (fun z => some (Value.int z)) (show ((-10 : Int32) - 1) = (((-10 : Int32) - 1)) from by simp [c_9, c_18, hcj, h9]), rfl, (by first | (simp only [kF_missed, if_pos c_9, if_pos c_18, hcj, if_pos h9]; done) | (simp only [kF_missed, if_pos c_9, if_pos c_18, hcj, if_pos h9]; rfl))⟩ (Nat.le_of_ble_eq_true rfl) dX8_missed_48
      · refine ky_top (v' := .int 2) (congrArg Value.int e9) ?_
        refine ky_istore C (lv' := [(4, .int 2), (0, .ref (bd 0)), (1, .int (nI j)), (2, .int y), (3, .int z)]) dX8_missed_35 (by decide) rfl ?_
        refine ky_iload C 0 dX8_missed_37 rfl ?_
        refine ky_if_eq C 49 dX8_missed_39 (by decide) (fun q => absurd q (by decide)) (fun c_39 => ?_)
        refine ky_aload_n C 1 dX8_missed_42 rfl rfl ?_
        refine ky_iload C 0 dX8_missed_43 rfl ?_
        refine ky_callV0 C 1 (kX8_fails l D cI cS bd 0 mt N wind low forb mat mrf nc ns bw fi mon mot 2) gX8_missed_X8_fails rfl rfl rfl hdX8_fails 0 8 rfl rfl rfl ⟨Nat.le_of_ble_eq_true rfl, Nat.le_of_ble_eq_true rfl⟩ rfl rfl (Nat.le_of_ble_eq_true rfl) dX8_missed_45 [0] rfl rfl ?_
        rintro _ _ ⟨rfl, rfl⟩
        refine ky_ws (ws' := [(bd 0, .inr (8, [.int 2, .int mt, .ref (bd 1), .ref (bd 2), .ref (bd 3), .int (nI N), .ref (bd 4), .ref (bd 5), .ref (bd 6), .int wind, .int low, .int forb, .int mat, .int mrf, .ref (bd 7), .ref (bd 8), .ref (bd 9), .int (nI nc), .ref (bd 10), .ref (bd 11), .ref (bd 12), .int (nI ns), .ref (bd 13), .ref (bd 14), .ref (bd 15), .ref (bd 16), .int bw, .int fi, .ref (bd 17), .ref (bd 18), .ref (bd 19), .ref (bd 20), .ref (bd 21), .ref (bd 22), .ref (bd 23), .ref (bd 24), .ref (bd 25), .ref (bd 26), .int mon, .int mot, .ref (bd 27), .ref (bd 28), .ref (bd 29), .ref (bd 30)])), (bd 10, .inl (cI, 6, .inl cat)), (bd 11, .inl (cI, 6, .inl cwet)), (bd 12, .inl (cI, 6, .inl chigh)), (bd 13, .inl (cI, 10, .inl kd)), (bd 14, .inl (cI, 10, .inl fr)), (bd 15, .inl (cI, 10, .inl hor)), (bd 16, .inl (cI, 10, .inl pw)), (bd 17, .inl (cI, 6, .inl lf)), (bd 18, .inl (cI, 8, .inl gt)), (bd 19, .inl (cI, 8, .inl hl)), (bd 20, .inl (cI, 96, .inl rb)), (bd 21, .inl (cI, 96, .inl hb)), (bd 22, .inl (cI, 72, .inl wb)), (bd 23, .inl (cI, 10, .inl am)), (bd 24, .inl (cI, 10, .inl so)), (bd 1, .inl (cI, 4, .inl srt)), (bd 2, .inl (cI, 4, .inl sln)), (bd 3, .inl (cI, 160, .inl cel))]) (st' := [.int ((-10 : Int32) - 2)]) rfl rfl ?_
        exact ky_iret C hr hlk ⟨((-10 : Int32) - 2), 2, bw, fi, lf, gt, hl, am, so, rb, hb, wb, congrArg (fun z => some (Value.int z)) (show ((-10 : Int32) - 2) = (((-10 : Int32) - 2)) from by simp [c_9, c_18, hcj, h9, h8]), rfl, (by first | (simp only [kF_missed, if_pos c_9, if_pos c_18, hcj, if_neg h9, if_neg h8]; done) | (simp only [kF_missed, if_pos c_9, if_pos c_18, hcj, if_neg h9, if_neg h8]; rfl))⟩ (Nat.le_of_ble_eq_true rfl) dX8_missed_48
      · refine ky_top (v' := .int 3) (congrArg Value.int e9) ?_
        refine ky_istore C (lv' := [(4, .int 3), (0, .ref (bd 0)), (1, .int (nI j)), (2, .int y), (3, .int z)]) dX8_missed_35 (by decide) rfl ?_
        refine ky_iload C 0 dX8_missed_37 rfl ?_
        refine ky_if_eq C 49 dX8_missed_39 (by decide) (fun q => absurd q (by decide)) (fun c_39 => ?_)
        refine ky_aload_n C 1 dX8_missed_42 rfl rfl ?_
        refine ky_iload C 0 dX8_missed_43 rfl ?_
        refine ky_callV0 C 1 (kX8_fails l D cI cS bd 0 mt N wind low forb mat mrf nc ns bw fi mon mot 3) gX8_missed_X8_fails rfl rfl rfl hdX8_fails 0 8 rfl rfl rfl ⟨Nat.le_of_ble_eq_true rfl, Nat.le_of_ble_eq_true rfl⟩ rfl rfl (Nat.le_of_ble_eq_true rfl) dX8_missed_45 [0] rfl rfl ?_
        rintro _ _ ⟨rfl, rfl⟩
        refine ky_ws (ws' := [(bd 0, .inr (8, [.int 3, .int mt, .ref (bd 1), .ref (bd 2), .ref (bd 3), .int (nI N), .ref (bd 4), .ref (bd 5), .ref (bd 6), .int wind, .int low, .int forb, .int mat, .int mrf, .ref (bd 7), .ref (bd 8), .ref (bd 9), .int (nI nc), .ref (bd 10), .ref (bd 11), .ref (bd 12), .int (nI ns), .ref (bd 13), .ref (bd 14), .ref (bd 15), .ref (bd 16), .int bw, .int fi, .ref (bd 17), .ref (bd 18), .ref (bd 19), .ref (bd 20), .ref (bd 21), .ref (bd 22), .ref (bd 23), .ref (bd 24), .ref (bd 25), .ref (bd 26), .int mon, .int mot, .ref (bd 27), .ref (bd 28), .ref (bd 29), .ref (bd 30)])), (bd 10, .inl (cI, 6, .inl cat)), (bd 11, .inl (cI, 6, .inl cwet)), (bd 12, .inl (cI, 6, .inl chigh)), (bd 13, .inl (cI, 10, .inl kd)), (bd 14, .inl (cI, 10, .inl fr)), (bd 15, .inl (cI, 10, .inl hor)), (bd 16, .inl (cI, 10, .inl pw)), (bd 17, .inl (cI, 6, .inl lf)), (bd 18, .inl (cI, 8, .inl gt)), (bd 19, .inl (cI, 8, .inl hl)), (bd 20, .inl (cI, 96, .inl rb)), (bd 21, .inl (cI, 96, .inl hb)), (bd 22, .inl (cI, 72, .inl wb)), (bd 23, .inl (cI, 10, .inl am)), (bd 24, .inl (cI, 10, .inl so)), (bd 1, .inl (cI, 4, .inl srt)), (bd 2, .inl (cI, 4, .inl sln)), (bd 3, .inl (cI, 160, .inl cel))]) (st' := [.int ((-10 : Int32) - 3)]) rfl rfl ?_
        exact ky_iret C hr hlk ⟨((-10 : Int32) - 3), 3, bw, fi, lf, gt, hl, am, so, rb, hb, wb, congrArg (fun z => some (Value.int z)) (show ((-10 : Int32) - 3) = (((-10 : Int32) - 3)) from by simp [c_9, c_18, hcj, h9, h8, h6]), rfl, (by first | (simp only [kF_missed, if_pos c_9, if_pos c_18, hcj, if_neg h9, if_pos h8, if_neg h6]; done) | (simp only [kF_missed, if_pos c_9, if_pos c_18, hcj, if_neg h9, if_pos h8, if_neg h6]; rfl))⟩ (Nat.le_of_ble_eq_true rfl) dX8_missed_48
      · refine ky_top (v' := .int 0) (congrArg Value.int e9) ?_
        refine ky_istore C (lv' := [(4, .int 0), (0, .ref (bd 0)), (1, .int (nI j)), (2, .int y), (3, .int z)]) dX8_missed_35 (by decide) rfl ?_
        refine ky_iload C 0 dX8_missed_37 rfl ?_
        refine ky_if_eq C 49 dX8_missed_39 (by decide) (fun c_39 => ?_) (fun q => absurd q (by decide))
        refine ky_aload_n C 1 dX8_missed_49 rfl rfl ?_
        refine ky_callV0 C 0 (kX8_isPlain l D cI cS bd 0 mt N wind low forb mat mrf nc ns bw fi mon mot (by first | assumption | omega)) gX8_missed_X8_isPlain rfl rfl rfl hdX8_isPlain 0 8 rfl rfl rfl ⟨Nat.le_of_ble_eq_true rfl, Nat.le_of_ble_eq_true rfl⟩ rfl rfl (Nat.le_of_ble_eq_true rfl) dX8_missed_50 [0] rfl rfl ?_
        rintro _ _ ⟨rfl, rfl⟩
        refine ky_ws (ws' := [(bd 0, .inr (8, [.int 0, .int mt, .ref (bd 1), .ref (bd 2), .ref (bd 3), .int (nI N), .ref (bd 4), .ref (bd 5), .ref (bd 6), .int wind, .int low, .int forb, .int mat, .int mrf, .ref (bd 7), .ref (bd 8), .ref (bd 9), .int (nI nc), .ref (bd 10), .ref (bd 11), .ref (bd 12), .int (nI ns), .ref (bd 13), .ref (bd 14), .ref (bd 15), .ref (bd 16), .int bw, .int fi, .ref (bd 17), .ref (bd 18), .ref (bd 19), .ref (bd 20), .ref (bd 21), .ref (bd 22), .ref (bd 23), .ref (bd 24), .ref (bd 25), .ref (bd 26), .int mon, .int mot, .ref (bd 27), .ref (bd 28), .ref (bd 29), .ref (bd 30)])), (bd 10, .inl (cI, 6, .inl cat)), (bd 11, .inl (cI, 6, .inl cwet)), (bd 12, .inl (cI, 6, .inl chigh)), (bd 13, .inl (cI, 10, .inl kd)), (bd 14, .inl (cI, 10, .inl fr)), (bd 15, .inl (cI, 10, .inl hor)), (bd 16, .inl (cI, 10, .inl pw)), (bd 17, .inl (cI, 6, .inl lf)), (bd 18, .inl (cI, 8, .inl gt)), (bd 19, .inl (cI, 8, .inl hl)), (bd 20, .inl (cI, 96, .inl rb)), (bd 21, .inl (cI, 96, .inl hb)), (bd 22, .inl (cI, 72, .inl wb)), (bd 23, .inl (cI, 10, .inl am)), (bd 24, .inl (cI, 10, .inl so)), (bd 1, .inl (cI, 4, .inl srt)), (bd 2, .inl (cI, 4, .inl sln)), (bd 3, .inl (cI, 160, .inl cel))]) (st' := [.int (if ¬ N = 0 then (1 : Int32) else 0)]) rfl rfl ?_
        refine ky_if_ne C 59 dX8_missed_53 (by decide) (fun c_53 => ?_) (fun c_53 => ?_)
        · have c_53 : ¬ N = 0 := kb1 c_53
          have hN0 : ¬ N = 0 := (by omega)
          obtain ⟨i0, hi0, rfl⟩ := kHoldN1 (hsh j hj4) h9 h6 (by omega)
          have hci0 : (nI i0).toNatClampNeg = i0 := nI_clamp (by omega)
          have hu : ∀ f9, f9 < N → cel (40 * j + i0 + f9) = (sh j).2.2 (i0 + f9) := fun f hf => kR_c hR hj4 (by omega)
          refine ky_bipush C dX8_missed_59 (v := 40) (by decide) ?_
          refine ky_iload_n C 2 dX8_missed_61 rfl rfl ?_
          refine ky_imul C (v := nI (40 * j)) dX8_missed_62 (pk_mul 40 j) ?_
          refine ky_iload_n C 4 dX8_missed_63 rfl rfl ?_
          refine ky_iadd C (v := nI (40 * j + i0)) dX8_missed_64 (nI_add (40 * j) i0) ?_
          refine ky_istore C (lv' := [(5, .int (nI (40 * j + i0))), (4, .int 0), (0, .ref (bd 0)), (1, .int (nI j)), (2, .int y), (3, .int (nI i0))]) dX8_missed_65 (by decide) rfl ?_
          refine ky_iconst C dX8_missed_67 (v := 0) (by decide) ?_
          refine ky_istore C (lv' := [(6, .int 0), (5, .int (nI (40 * j + i0))), (4, .int 0), (0, .ref (bd 0)), (1, .int (nI j)), (2, .int y), (3, .int (nI i0))]) dX8_missed_68 (by decide) rfl ?_
          refine ky_iconst C dX8_missed_70 (v := 0) (by decide) ?_
          refine ky_istore C (lv' := [(7, .int 0), (6, .int 0), (5, .int (nI (40 * j + i0))), (4, .int 0), (0, .ref (bd 0)), (1, .int (nI j)), (2, .int y), (3, .int (nI i0))]) dX8_missed_71 (by decide) rfl ?_
          refine ky_conv (ws' := [(bd 0, .inr (8, [.int 0, .int mt, .ref (bd 1), .ref (bd 2), .ref (bd 3), .int (nI N), .ref (bd 4), .ref (bd 5), .ref (bd 6), .int wind, .int low, .int forb, .int mat, .int mrf, .ref (bd 7), .ref (bd 8), .ref (bd 9), .int (nI nc), .ref (bd 10), .ref (bd 11), .ref (bd 12), .int (nI ns), .ref (bd 13), .ref (bd 14), .ref (bd 15), .ref (bd 16), .int bw, .int fi, .ref (bd 17), .ref (bd 18), .ref (bd 19), .ref (bd 20), .ref (bd 21), .ref (bd 22), .ref (bd 23), .ref (bd 24), .ref (bd 25), .ref (bd 26), .int mon, .int mot, .ref (bd 27), .ref (bd 28), .ref (bd 29), .ref (bd 30)])), (bd 10, .inl (cI, 6, .inl cat)), (bd 11, .inl (cI, 6, .inl cwet)), (bd 12, .inl (cI, 6, .inl chigh)), (bd 13, .inl (cI, 10, .inl kd)), (bd 14, .inl (cI, 10, .inl fr)), (bd 15, .inl (cI, 10, .inl hor)), (bd 16, .inl (cI, 10, .inl pw)), (bd 17, .inl (cI, 6, .inl lf)), (bd 18, .inl (cI, 8, .inl gt)), (bd 19, .inl (cI, 8, .inl hl)), (bd 20, .inl (cI, 96, .inl rb)), (bd 21, .inl (cI, 96, .inl hb)), (bd 22, .inl (cI, 72, .inl wb)), (bd 23, .inl (cI, 10, .inl am)), (bd 24, .inl (cI, 10, .inl so)), (bd 1, .inl (cI, 4, .inl srt)), (bd 2, .inl (cI, 4, .inl sln)), (bd 3, .inl (cI, 160, .inl cel))]) (lv' := [(7, .int 0), (6, .int 0), (5, .int (nI (40 * j + i0))), (4, .int 0), (0, .ref (bd 0)), (1, .int (nI j)), (2, .int y), (3, .int (nI i0))]) (st' := []) [0, 1, 2, 3, 4, 5, 6, 7] rfl rfl rfl ?_
          refine ky_loop12 (T1 := Nat) (T2 := Int32) (T3 := Int32) (T4 := Int32) (T5 := Nat → Int32) (T6 := Nat → Int32) (T7 := Nat → Int32) (T8 := Nat → Int32) (T9 := Nat → Int32) (T10 := Nat → Int32) (T11 := Nat → Int32) (T12 := Nat → Int32) (Wf := (fun s1 b1 q1 q2 e0 e1 e2 e3 e4 e5 e6 e7 => [(bd 0, .inr (8, [.int 0, .int mt, .ref (bd 1), .ref (bd 2), .ref (bd 3), .int (nI N), .ref (bd 4), .ref (bd 5), .ref (bd 6), .int wind, .int low, .int forb, .int mat, .int mrf, .ref (bd 7), .ref (bd 8), .ref (bd 9), .int (nI nc), .ref (bd 10), .ref (bd 11), .ref (bd 12), .int (nI ns), .ref (bd 13), .ref (bd 14), .ref (bd 15), .ref (bd 16), .int q1, .int q2, .ref (bd 17), .ref (bd 18), .ref (bd 19), .ref (bd 20), .ref (bd 21), .ref (bd 22), .ref (bd 23), .ref (bd 24), .ref (bd 25), .ref (bd 26), .int mon, .int mot, .ref (bd 27), .ref (bd 28), .ref (bd 29), .ref (bd 30)])), (bd 10, .inl (cI, 6, .inl cat)), (bd 11, .inl (cI, 6, .inl cwet)), (bd 12, .inl (cI, 6, .inl chigh)), (bd 13, .inl (cI, 10, .inl kd)), (bd 14, .inl (cI, 10, .inl fr)), (bd 15, .inl (cI, 10, .inl hor)), (bd 16, .inl (cI, 10, .inl pw)), (bd 17, .inl (cI, 6, .inl e0)), (bd 18, .inl (cI, 8, .inl e1)), (bd 19, .inl (cI, 8, .inl e2)), (bd 20, .inl (cI, 96, .inl e3)), (bd 21, .inl (cI, 96, .inl e4)), (bd 22, .inl (cI, 72, .inl e5)), (bd 23, .inl (cI, 10, .inl e6)), (bd 24, .inl (cI, 10, .inl e7)), (bd 1, .inl (cI, 4, .inl srt)), (bd 2, .inl (cI, 4, .inl sln)), (bd 3, .inl (cI, 160, .inl cel))])) (Lf := (fun s1 b1 q1 q2 e0 e1 e2 e3 e4 e5 e6 e7 => [(7, .int (nI s1)), (6, .int b1), (5, .int (nI (40 * j + i0))), (4, .int 0), (0, .ref (bd 0)), (1, .int (nI j)), (2, .int y), (3, .int (nI i0))])) (Sf := (fun s1 b1 q1 q2 e0 e1 e2 e3 e4 e5 e6 e7 => [])) (fun s1 b1 q1 q2 e0 e1 e2 e3 e4 e5 e6 e7 => (s1 ≤ ns) ∧ (b1 = kBits (fun s => decide (∀ f9, f9 < N → (kDay (N, nc, low, cat, cwet, chigh, kd, fr, hor, pw) wind (kBut ns s) 12).2.1 f9 = cel (40 * j + i0 + f9))) s1) ∧ True) (fun s1 b1 q1 q2 e0 e1 e2 e3 e4 e5 e6 e7 => ns - s1) ?_ 0 0 bw fi lf gt hl rb hb wb am so ⟨(by omega), rfl, trivial⟩
          intro s1 b1 q1 q2 e0 e1 e2 e3 e4 e5 e6 e7 hI_73 ih_73
          obtain ⟨hs1, hb1, -⟩ := hI_73
          have hs1 : s1 ≤ ns := hs1
          have hb1 : b1 = kBits (fun s => decide (∀ f9, f9 < N → (kDay (N, nc, low, cat, cwet, chigh, kd, fr, hor, pw) wind (kBut ns s) 12).2.1 f9 = cel (40 * j + i0 + f9))) s1 := hb1
          refine ky_conv (ws' := [(bd 0, .inr (8, [.int 0, .int mt, .ref (bd 1), .ref (bd 2), .ref (bd 3), .int (nI N), .ref (bd 4), .ref (bd 5), .ref (bd 6), .int wind, .int low, .int forb, .int mat, .int mrf, .ref (bd 7), .ref (bd 8), .ref (bd 9), .int (nI nc), .ref (bd 10), .ref (bd 11), .ref (bd 12), .int (nI ns), .ref (bd 13), .ref (bd 14), .ref (bd 15), .ref (bd 16), .int q1, .int q2, .ref (bd 17), .ref (bd 18), .ref (bd 19), .ref (bd 20), .ref (bd 21), .ref (bd 22), .ref (bd 23), .ref (bd 24), .ref (bd 25), .ref (bd 26), .int mon, .int mot, .ref (bd 27), .ref (bd 28), .ref (bd 29), .ref (bd 30)])), (bd 10, .inl (cI, 6, .inl cat)), (bd 11, .inl (cI, 6, .inl cwet)), (bd 12, .inl (cI, 6, .inl chigh)), (bd 13, .inl (cI, 10, .inl kd)), (bd 14, .inl (cI, 10, .inl fr)), (bd 15, .inl (cI, 10, .inl hor)), (bd 16, .inl (cI, 10, .inl pw)), (bd 17, .inl (cI, 6, .inl e0)), (bd 18, .inl (cI, 8, .inl e1)), (bd 19, .inl (cI, 8, .inl e2)), (bd 20, .inl (cI, 96, .inl e3)), (bd 21, .inl (cI, 96, .inl e4)), (bd 22, .inl (cI, 72, .inl e5)), (bd 23, .inl (cI, 10, .inl e6)), (bd 24, .inl (cI, 10, .inl e7)), (bd 1, .inl (cI, 4, .inl srt)), (bd 2, .inl (cI, 4, .inl sln)), (bd 3, .inl (cI, 160, .inl cel))]) (lv' := [(7, .int (nI s1)), (6, .int b1), (5, .int (nI (40 * j + i0))), (4, .int 0), (0, .ref (bd 0)), (1, .int (nI j)), (2, .int y), (3, .int (nI i0))]) (st' := []) (List.range 8) rfl rfl rfl ?_
          refine ky_iload C 0 dX8_missed_73 rfl ?_
          refine ky_aload_n C 4 dX8_missed_75 rfl rfl ?_
          refine ky_get C (ci := 8) (T := TX8) (N := 44) (Cn := RX8) (ref := "RainAccountModel") hiX8_missed_X8 0 rfl rfl 21 (by decide) (List.mem_of_getElem? (i := 3) rfl) rfl (v := .int (nI ns)) rfl dX8_missed_76 ?_
          refine ky_icmp_ge C 130 dX8_missed_79 (by decide) (fun c_79 => ?_) (fun c_79 => ?_)
          · have d_79 := Int32.not_lt.mpr c_79
            have n_79 := kn_le (a := ns) (b := s1) (by omega) (by omega) c_79
            have m_79 := Nat.not_lt.mpr n_79
            refine ky_aload_n C 4 dX8_missed_130 rfl rfl ?_
            refine ky_callV0 C 0 (kX8_goNow l D cI cS bd 0 mt N wind low forb mat mrf nc ns q1 q2 mon mot cat cwet chigh kd fr hor pw e0 e1 e2 e3 e4 e5 e6 e7 (by first | assumption | omega) (by first | assumption | omega) (by first | assumption | omega) (by first | assumption | omega)) gX8_missed_X8_goNow rfl rfl rfl hdX8_goNow 0 8 rfl rfl rfl ⟨Nat.le_of_ble_eq_true rfl, Nat.le_of_ble_eq_true rfl⟩ rfl rfl (Nat.le_of_ble_eq_true rfl) dX8_missed_131 [0, 1, 2, 3, 4, 5, 6, 7, 8, 9, 10, 11, 12, 13, 14, 15] rfl rfl ?_
            rintro _ _ ⟨lf2_131, gt2_131, hl2_131, am2_131, so2_131, rb2_131, hb2_131, wb2_131, rfl, rfl, hr1_131, hr2_131, hr3_131, hr4_131, hr5_131⟩
            refine ky_ws (ws' := [(bd 0, .inr (8, [.int 0, .int mt, .ref (bd 1), .ref (bd 2), .ref (bd 3), .int (nI N), .ref (bd 4), .ref (bd 5), .ref (bd 6), .int wind, .int low, .int forb, .int mat, .int mrf, .ref (bd 7), .ref (bd 8), .ref (bd 9), .int (nI nc), .ref (bd 10), .ref (bd 11), .ref (bd 12), .int (nI ns), .ref (bd 13), .ref (bd 14), .ref (bd 15), .ref (bd 16), .int wind, .int (kEv ns), .ref (bd 17), .ref (bd 18), .ref (bd 19), .ref (bd 20), .ref (bd 21), .ref (bd 22), .ref (bd 23), .ref (bd 24), .ref (bd 25), .ref (bd 26), .int mon, .int mot, .ref (bd 27), .ref (bd 28), .ref (bd 29), .ref (bd 30)])), (bd 10, .inl (cI, 6, .inl cat)), (bd 11, .inl (cI, 6, .inl cwet)), (bd 12, .inl (cI, 6, .inl chigh)), (bd 13, .inl (cI, 10, .inl kd)), (bd 14, .inl (cI, 10, .inl fr)), (bd 15, .inl (cI, 10, .inl hor)), (bd 16, .inl (cI, 10, .inl pw)), (bd 17, .inl (cI, 6, .inl lf2_131)), (bd 18, .inl (cI, 8, .inl gt2_131)), (bd 19, .inl (cI, 8, .inl hl2_131)), (bd 20, .inl (cI, 96, .inl rb2_131)), (bd 21, .inl (cI, 96, .inl hb2_131)), (bd 22, .inl (cI, 72, .inl wb2_131)), (bd 23, .inl (cI, 10, .inl am2_131)), (bd 24, .inl (cI, 10, .inl so2_131)), (bd 1, .inl (cI, 4, .inl srt)), (bd 2, .inl (cI, 4, .inl sln)), (bd 3, .inl (cI, 160, .inl cel))]) (st' := []) rfl rfl ?_
            have hg2 : gt2_131 = (kDay (N, nc, low, cat, cwet, chigh, kd, fr, hor, pw) wind (kAll ns) 12).2.1 := congrArg Prod.fst hr1_131
            refine ky_iload C 1 dX8_missed_134 rfl ?_
            refine ky_aload_n C 4 dX8_missed_136 rfl rfl ?_
            refine ky_iload C 2 dX8_missed_137 rfl ?_
            refine ky_callV0 C 1 (kX8_isGot l D cI cS bd 0 mt N wind low forb mat mrf nc ns wind (kEv ns) mon mot cel gt2_131 (40 * j + i0) (by first | assumption | omega) (by omega)) gX8_missed_X8_isGot rfl rfl rfl hdX8_isGot 0 8 rfl rfl rfl ⟨Nat.le_of_ble_eq_true rfl, Nat.le_of_ble_eq_true rfl⟩ rfl rfl (Nat.le_of_ble_eq_true rfl) dX8_missed_139 [0, 9, 18] rfl rfl ?_
            rintro _ _ ⟨rfl, rfl⟩
            refine ky_ws (ws' := [(bd 0, .inr (8, [.int 0, .int mt, .ref (bd 1), .ref (bd 2), .ref (bd 3), .int (nI N), .ref (bd 4), .ref (bd 5), .ref (bd 6), .int wind, .int low, .int forb, .int mat, .int mrf, .ref (bd 7), .ref (bd 8), .ref (bd 9), .int (nI nc), .ref (bd 10), .ref (bd 11), .ref (bd 12), .int (nI ns), .ref (bd 13), .ref (bd 14), .ref (bd 15), .ref (bd 16), .int wind, .int (kEv ns), .ref (bd 17), .ref (bd 18), .ref (bd 19), .ref (bd 20), .ref (bd 21), .ref (bd 22), .ref (bd 23), .ref (bd 24), .ref (bd 25), .ref (bd 26), .int mon, .int mot, .ref (bd 27), .ref (bd 28), .ref (bd 29), .ref (bd 30)])), (bd 10, .inl (cI, 6, .inl cat)), (bd 11, .inl (cI, 6, .inl cwet)), (bd 12, .inl (cI, 6, .inl chigh)), (bd 13, .inl (cI, 10, .inl kd)), (bd 14, .inl (cI, 10, .inl fr)), (bd 15, .inl (cI, 10, .inl hor)), (bd 16, .inl (cI, 10, .inl pw)), (bd 17, .inl (cI, 6, .inl lf2_131)), (bd 18, .inl (cI, 8, .inl gt2_131)), (bd 19, .inl (cI, 8, .inl hl2_131)), (bd 20, .inl (cI, 96, .inl rb2_131)), (bd 21, .inl (cI, 96, .inl hb2_131)), (bd 22, .inl (cI, 72, .inl wb2_131)), (bd 23, .inl (cI, 10, .inl am2_131)), (bd 24, .inl (cI, 10, .inl so2_131)), (bd 1, .inl (cI, 4, .inl srt)), (bd 2, .inl (cI, 4, .inl sln)), (bd 3, .inl (cI, 160, .inl cel))]) (st' := [.int (if ∀ f9, f9 < N → gt2_131 f9 = cel ((40 * j + i0) + f9) then (1 : Int32) else 0), .int b1]) rfl rfl ?_
            refine ky_if_eq C 151 dX8_missed_142 (by decide) (fun c_142 => ?_) (fun c_142 => ?_)
            · have c_142 : ¬ (∀ f9, f9 < N → gt2_131 f9 = cel ((40 * j + i0) + f9)) := kb0 c_142
              refine ky_iconst C dX8_missed_151 (v := 0) (by decide) ?_
              refine ky_ior C (v := b1 ||| 0) dX8_missed_152 rfl ?_
              exact ky_iret C hr hlk ⟨(b1 ||| 0), 0, wind, (kEv ns), lf2_131, gt2_131, hl2_131, am2_131, so2_131, rb2_131, hb2_131, wb2_131, rfl, rfl, (by simp only [kF_missed, gN, if_pos c_9, if_pos c_18, hcj, if_neg h9, if_pos h8, if_pos h6, if_neg c_53, if_neg hN0, hci0, if_pos c_79, if_neg d_79, if_pos n_79, if_neg m_79, if_neg c_142]; first | exact congrArg (fun z => (z, (0 : Int32))) (kMs_y hu (show s1 = ns by omega) hb1 (hg2 ▸ c_142)) | exact congrArg (fun z => (z, (0 : Int32))) (kMs_n hu (show s1 = ns by omega) hb1 (hg2 ▸ c_142)))⟩ (Nat.le_of_ble_eq_true rfl) dX8_missed_153
            · have c_142 : ∀ f9, f9 < N → gt2_131 f9 = cel ((40 * j + i0) + f9) := kb1 c_142
              refine ky_sipush C dX8_missed_145 (v := 256) (by decide) ?_
              refine ky_goto C dX8_missed_148 (tgt := 152) (by decide) ?_
              refine ky_ior C (v := b1 ||| 256) dX8_missed_152 rfl ?_
              exact ky_iret C hr hlk ⟨(b1 ||| 256), 0, wind, (kEv ns), lf2_131, gt2_131, hl2_131, am2_131, so2_131, rb2_131, hb2_131, wb2_131, rfl, rfl, (by simp only [kF_missed, gN, if_pos c_9, if_pos c_18, hcj, if_neg h9, if_pos h8, if_pos h6, if_neg c_53, if_neg hN0, hci0, if_pos c_79, if_neg d_79, if_pos n_79, if_neg m_79, if_pos c_142]; first | exact congrArg (fun z => (z, (0 : Int32))) (kMs_y hu (show s1 = ns by omega) hb1 (hg2 ▸ c_142)) | exact congrArg (fun z => (z, (0 : Int32))) (kMs_n hu (show s1 = ns by omega) hb1 (hg2 ▸ c_142)))⟩ (Nat.le_of_ble_eq_true rfl) dX8_missed_153
          · have d_79 := Int32.not_le.mp c_79
            have n_79 := kn_nle (a := ns) (b := s1) (by omega) (by omega) c_79
            have m_79 := Nat.not_le.mpr n_79
            refine ky_aload_n C 4 dX8_missed_82 rfl rfl ?_
            refine ky_aload_n C 4 dX8_missed_83 rfl rfl ?_
            refine ky_get C (ci := 8) (T := TX8) (N := 44) (Cn := RX8) (ref := "RainAccountModel") hiX8_missed_X8 0 rfl rfl 9 (by decide) (List.mem_of_getElem? (i := 4) rfl) rfl (v := .int wind) rfl dX8_missed_84 ?_
            refine ky_aload_n C 4 dX8_missed_87 rfl rfl ?_
            refine ky_get C (ci := 8) (T := TX8) (N := 44) (Cn := RX8) (ref := "RainAccountModel") hiX8_missed_X8 0 rfl rfl 21 (by decide) (List.mem_of_getElem? (i := 3) rfl) rfl (v := .int (nI ns)) rfl dX8_missed_88 ?_
            refine ky_callS0 C 1 (kX8_every l D cI cS ns (by first | assumption | omega)) gX8_missed_X8_every rfl rfl rfl hdX8_every.2 ⟨Nat.le_of_ble_eq_true rfl, Nat.le_of_ble_eq_true rfl⟩ rfl rfl (Nat.le_of_ble_eq_true rfl) dX8_missed_91 [] rfl rfl ?_
            rintro _ _ ⟨rfl, rfl⟩
            refine ky_ws (ws' := [(bd 0, .inr (8, [.int 0, .int mt, .ref (bd 1), .ref (bd 2), .ref (bd 3), .int (nI N), .ref (bd 4), .ref (bd 5), .ref (bd 6), .int wind, .int low, .int forb, .int mat, .int mrf, .ref (bd 7), .ref (bd 8), .ref (bd 9), .int (nI nc), .ref (bd 10), .ref (bd 11), .ref (bd 12), .int (nI ns), .ref (bd 13), .ref (bd 14), .ref (bd 15), .ref (bd 16), .int q1, .int q2, .ref (bd 17), .ref (bd 18), .ref (bd 19), .ref (bd 20), .ref (bd 21), .ref (bd 22), .ref (bd 23), .ref (bd 24), .ref (bd 25), .ref (bd 26), .int mon, .int mot, .ref (bd 27), .ref (bd 28), .ref (bd 29), .ref (bd 30)])), (bd 10, .inl (cI, 6, .inl cat)), (bd 11, .inl (cI, 6, .inl cwet)), (bd 12, .inl (cI, 6, .inl chigh)), (bd 13, .inl (cI, 10, .inl kd)), (bd 14, .inl (cI, 10, .inl fr)), (bd 15, .inl (cI, 10, .inl hor)), (bd 16, .inl (cI, 10, .inl pw)), (bd 17, .inl (cI, 6, .inl e0)), (bd 18, .inl (cI, 8, .inl e1)), (bd 19, .inl (cI, 8, .inl e2)), (bd 20, .inl (cI, 96, .inl e3)), (bd 21, .inl (cI, 96, .inl e4)), (bd 22, .inl (cI, 72, .inl e5)), (bd 23, .inl (cI, 10, .inl e6)), (bd 24, .inl (cI, 10, .inl e7)), (bd 1, .inl (cI, 4, .inl srt)), (bd 2, .inl (cI, 4, .inl sln)), (bd 3, .inl (cI, 160, .inl cel))]) (st' := [.int (kEv ns), .int wind, .ref (bd 0)]) rfl rfl ?_
            refine ky_iconst C dX8_missed_94 (v := 1) (by decide) ?_
            refine ky_iload C 0 dX8_missed_95 rfl ?_
            refine ky_ishl C (v := (1 : Int32) <<< ((nI s1) &&& 31)) dX8_missed_97 rfl ?_
            refine ky_isub C (v := kEvb ns s1) dX8_missed_98 rfl ?_
            refine ky_callV0 C 2 (kX8_goDay l D cI cS bd 0 mt N wind low forb mat mrf nc ns q1 q2 mon mot cat cwet chigh kd fr hor pw e0 e1 e2 e3 e4 e5 e6 e7 wind (kEvb ns s1) (by first | assumption | omega) (by first | assumption | omega) (fun s hs hb => hwf s (kEvb_lt (by omega) (show s1 < ns by omega) hs hb))) gX8_missed_X8_goDay rfl rfl rfl hdX8_goDay 0 8 rfl rfl rfl ⟨Nat.le_of_ble_eq_true rfl, Nat.le_of_ble_eq_true rfl⟩ rfl rfl (Nat.le_of_ble_eq_true rfl) dX8_missed_99 [0, 1, 2, 3, 4, 5, 6, 7, 8, 9, 10, 11, 12, 13, 14, 15] rfl rfl ?_
            rintro _ _ ⟨lf2_99, gt2_99, hl2_99, am2_99, so2_99, rb2_99, hb2_99, wb2_99, rfl, rfl, hr1_99, hr2_99, hr3_99, hr4_99, hr5_99⟩
            refine ky_ws (ws' := [(bd 0, .inr (8, [.int 0, .int mt, .ref (bd 1), .ref (bd 2), .ref (bd 3), .int (nI N), .ref (bd 4), .ref (bd 5), .ref (bd 6), .int wind, .int low, .int forb, .int mat, .int mrf, .ref (bd 7), .ref (bd 8), .ref (bd 9), .int (nI nc), .ref (bd 10), .ref (bd 11), .ref (bd 12), .int (nI ns), .ref (bd 13), .ref (bd 14), .ref (bd 15), .ref (bd 16), .int wind, .int (kEvb ns s1), .ref (bd 17), .ref (bd 18), .ref (bd 19), .ref (bd 20), .ref (bd 21), .ref (bd 22), .ref (bd 23), .ref (bd 24), .ref (bd 25), .ref (bd 26), .int mon, .int mot, .ref (bd 27), .ref (bd 28), .ref (bd 29), .ref (bd 30)])), (bd 10, .inl (cI, 6, .inl cat)), (bd 11, .inl (cI, 6, .inl cwet)), (bd 12, .inl (cI, 6, .inl chigh)), (bd 13, .inl (cI, 10, .inl kd)), (bd 14, .inl (cI, 10, .inl fr)), (bd 15, .inl (cI, 10, .inl hor)), (bd 16, .inl (cI, 10, .inl pw)), (bd 17, .inl (cI, 6, .inl lf2_99)), (bd 18, .inl (cI, 8, .inl gt2_99)), (bd 19, .inl (cI, 8, .inl hl2_99)), (bd 20, .inl (cI, 96, .inl rb2_99)), (bd 21, .inl (cI, 96, .inl hb2_99)), (bd 22, .inl (cI, 72, .inl wb2_99)), (bd 23, .inl (cI, 10, .inl am2_99)), (bd 24, .inl (cI, 10, .inl so2_99)), (bd 1, .inl (cI, 4, .inl srt)), (bd 2, .inl (cI, 4, .inl sln)), (bd 3, .inl (cI, 160, .inl cel))]) (st' := []) rfl rfl ?_
            have hg1 : gt2_99 = (kDay (N, nc, low, cat, cwet, chigh, kd, fr, hor, pw) wind (kBut ns s1) 12).2.1 := (congrArg Prod.fst hr1_99).trans (by rw [kDay_set (kEvb_bit (show ns ≤ 8 by omega) (show s1 < ns by omega))])
            refine ky_iload C 1 dX8_missed_102 rfl ?_
            refine ky_aload_n C 4 dX8_missed_104 rfl rfl ?_
            refine ky_iload C 2 dX8_missed_105 rfl ?_
            refine ky_callV0 C 1 (kX8_isGot l D cI cS bd 0 mt N wind low forb mat mrf nc ns wind (kEvb ns s1) mon mot cel gt2_99 (40 * j + i0) (by first | assumption | omega) (by omega)) gX8_missed_X8_isGot rfl rfl rfl hdX8_isGot 0 8 rfl rfl rfl ⟨Nat.le_of_ble_eq_true rfl, Nat.le_of_ble_eq_true rfl⟩ rfl rfl (Nat.le_of_ble_eq_true rfl) dX8_missed_107 [0, 9, 18] rfl rfl ?_
            rintro _ _ ⟨rfl, rfl⟩
            refine ky_ws (ws' := [(bd 0, .inr (8, [.int 0, .int mt, .ref (bd 1), .ref (bd 2), .ref (bd 3), .int (nI N), .ref (bd 4), .ref (bd 5), .ref (bd 6), .int wind, .int low, .int forb, .int mat, .int mrf, .ref (bd 7), .ref (bd 8), .ref (bd 9), .int (nI nc), .ref (bd 10), .ref (bd 11), .ref (bd 12), .int (nI ns), .ref (bd 13), .ref (bd 14), .ref (bd 15), .ref (bd 16), .int wind, .int (kEvb ns s1), .ref (bd 17), .ref (bd 18), .ref (bd 19), .ref (bd 20), .ref (bd 21), .ref (bd 22), .ref (bd 23), .ref (bd 24), .ref (bd 25), .ref (bd 26), .int mon, .int mot, .ref (bd 27), .ref (bd 28), .ref (bd 29), .ref (bd 30)])), (bd 10, .inl (cI, 6, .inl cat)), (bd 11, .inl (cI, 6, .inl cwet)), (bd 12, .inl (cI, 6, .inl chigh)), (bd 13, .inl (cI, 10, .inl kd)), (bd 14, .inl (cI, 10, .inl fr)), (bd 15, .inl (cI, 10, .inl hor)), (bd 16, .inl (cI, 10, .inl pw)), (bd 17, .inl (cI, 6, .inl lf2_99)), (bd 18, .inl (cI, 8, .inl gt2_99)), (bd 19, .inl (cI, 8, .inl hl2_99)), (bd 20, .inl (cI, 96, .inl rb2_99)), (bd 21, .inl (cI, 96, .inl hb2_99)), (bd 22, .inl (cI, 72, .inl wb2_99)), (bd 23, .inl (cI, 10, .inl am2_99)), (bd 24, .inl (cI, 10, .inl so2_99)), (bd 1, .inl (cI, 4, .inl srt)), (bd 2, .inl (cI, 4, .inl sln)), (bd 3, .inl (cI, 160, .inl cel))]) (st' := [.int (if ∀ f9, f9 < N → gt2_99 f9 = cel ((40 * j + i0) + f9) then (1 : Int32) else 0), .int b1]) rfl rfl ?_
            refine ky_if_eq C 120 dX8_missed_110 (by decide) (fun c_110 => ?_) (fun c_110 => ?_)
            · have c_110 : ¬ (∀ f9, f9 < N → gt2_99 f9 = cel ((40 * j + i0) + f9)) := kb0 c_110
              refine ky_iconst C dX8_missed_120 (v := 0) (by decide) ?_
              refine ky_ior C (v := b1 ||| 0) dX8_missed_121 rfl ?_
              refine ky_istore C (lv' := [(6, .int (b1 ||| 0)), (7, .int (nI s1)), (5, .int (nI (40 * j + i0))), (4, .int 0), (0, .ref (bd 0)), (1, .int (nI j)), (2, .int y), (3, .int (nI i0))]) dX8_missed_122 (by decide) rfl ?_
              refine ky_iinc C 1 (v := nI (s1 + 1)) (lv' := [(7, .int (nI (s1 + 1))), (6, .int (b1 ||| 0)), (5, .int (nI (40 * j + i0))), (4, .int 0), (0, .ref (bd 0)), (1, .int (nI j)), (2, .int y), (3, .int (nI i0))]) dX8_missed_124 rfl (nI_1 _) (by decide) rfl ?_
              refine ky_goto C dX8_missed_127 (tgt := 73) (by decide) ?_
              exact ky_conv (ws' := [(bd 0, .inr (8, [.int 0, .int mt, .ref (bd 1), .ref (bd 2), .ref (bd 3), .int (nI N), .ref (bd 4), .ref (bd 5), .ref (bd 6), .int wind, .int low, .int forb, .int mat, .int mrf, .ref (bd 7), .ref (bd 8), .ref (bd 9), .int (nI nc), .ref (bd 10), .ref (bd 11), .ref (bd 12), .int (nI ns), .ref (bd 13), .ref (bd 14), .ref (bd 15), .ref (bd 16), .int wind, .int (kEvb ns s1), .ref (bd 17), .ref (bd 18), .ref (bd 19), .ref (bd 20), .ref (bd 21), .ref (bd 22), .ref (bd 23), .ref (bd 24), .ref (bd 25), .ref (bd 26), .int mon, .int mot, .ref (bd 27), .ref (bd 28), .ref (bd 29), .ref (bd 30)])), (bd 10, .inl (cI, 6, .inl cat)), (bd 11, .inl (cI, 6, .inl cwet)), (bd 12, .inl (cI, 6, .inl chigh)), (bd 13, .inl (cI, 10, .inl kd)), (bd 14, .inl (cI, 10, .inl fr)), (bd 15, .inl (cI, 10, .inl hor)), (bd 16, .inl (cI, 10, .inl pw)), (bd 17, .inl (cI, 6, .inl lf2_99)), (bd 18, .inl (cI, 8, .inl gt2_99)), (bd 19, .inl (cI, 8, .inl hl2_99)), (bd 20, .inl (cI, 96, .inl rb2_99)), (bd 21, .inl (cI, 96, .inl hb2_99)), (bd 22, .inl (cI, 72, .inl wb2_99)), (bd 23, .inl (cI, 10, .inl am2_99)), (bd 24, .inl (cI, 10, .inl so2_99)), (bd 1, .inl (cI, 4, .inl srt)), (bd 2, .inl (cI, 4, .inl sln)), (bd 3, .inl (cI, 160, .inl cel))]) (lv' := [(7, .int (nI (s1 + 1))), (6, .int (b1 ||| 0)), (5, .int (nI (40 * j + i0))), (4, .int 0), (0, .ref (bd 0)), (1, .int (nI j)), (2, .int y), (3, .int (nI i0))]) (st' := []) [0, 1, 2, 3, 4, 5, 6, 7] rfl rfl rfl (ih_73 (s1 + 1) (b1 ||| 0) wind (kEvb ns s1) lf2_99 gt2_99 hl2_99 rb2_99 hb2_99 wb2_99 am2_99 so2_99 (show ns - (s1 + 1) < ns - s1 from by omega) ⟨(by omega), (by first | exact kBits_yes hb1 (decide_eq_true (hg1 ▸ c_110)) | exact (Int32.or_zero).trans (kBits_no hb1 (decide_eq_false (fun q => c_110 (hg1 ▸ q))))), trivial⟩)
            · have c_110 : ∀ f9, f9 < N → gt2_99 f9 = cel ((40 * j + i0) + f9) := kb1 c_110
              refine ky_iconst C dX8_missed_113 (v := 1) (by decide) ?_
              refine ky_iload C 0 dX8_missed_114 rfl ?_
              refine ky_ishl C (v := (1 : Int32) <<< ((nI s1) &&& 31)) dX8_missed_116 rfl ?_
              refine ky_goto C dX8_missed_117 (tgt := 121) (by decide) ?_
              refine ky_ior C (v := b1 ||| ((1 : Int32) <<< ((nI s1) &&& 31))) dX8_missed_121 rfl ?_
              refine ky_istore C (lv' := [(6, .int (b1 ||| ((1 : Int32) <<< ((nI s1) &&& 31)))), (7, .int (nI s1)), (5, .int (nI (40 * j + i0))), (4, .int 0), (0, .ref (bd 0)), (1, .int (nI j)), (2, .int y), (3, .int (nI i0))]) dX8_missed_122 (by decide) rfl ?_
              refine ky_iinc C 1 (v := nI (s1 + 1)) (lv' := [(7, .int (nI (s1 + 1))), (6, .int (b1 ||| ((1 : Int32) <<< ((nI s1) &&& 31)))), (5, .int (nI (40 * j + i0))), (4, .int 0), (0, .ref (bd 0)), (1, .int (nI j)), (2, .int y), (3, .int (nI i0))]) dX8_missed_124 rfl (nI_1 _) (by decide) rfl ?_
              refine ky_goto C dX8_missed_127 (tgt := 73) (by decide) ?_
              exact ky_conv (ws' := [(bd 0, .inr (8, [.int 0, .int mt, .ref (bd 1), .ref (bd 2), .ref (bd 3), .int (nI N), .ref (bd 4), .ref (bd 5), .ref (bd 6), .int wind, .int low, .int forb, .int mat, .int mrf, .ref (bd 7), .ref (bd 8), .ref (bd 9), .int (nI nc), .ref (bd 10), .ref (bd 11), .ref (bd 12), .int (nI ns), .ref (bd 13), .ref (bd 14), .ref (bd 15), .ref (bd 16), .int wind, .int (kEvb ns s1), .ref (bd 17), .ref (bd 18), .ref (bd 19), .ref (bd 20), .ref (bd 21), .ref (bd 22), .ref (bd 23), .ref (bd 24), .ref (bd 25), .ref (bd 26), .int mon, .int mot, .ref (bd 27), .ref (bd 28), .ref (bd 29), .ref (bd 30)])), (bd 10, .inl (cI, 6, .inl cat)), (bd 11, .inl (cI, 6, .inl cwet)), (bd 12, .inl (cI, 6, .inl chigh)), (bd 13, .inl (cI, 10, .inl kd)), (bd 14, .inl (cI, 10, .inl fr)), (bd 15, .inl (cI, 10, .inl hor)), (bd 16, .inl (cI, 10, .inl pw)), (bd 17, .inl (cI, 6, .inl lf2_99)), (bd 18, .inl (cI, 8, .inl gt2_99)), (bd 19, .inl (cI, 8, .inl hl2_99)), (bd 20, .inl (cI, 96, .inl rb2_99)), (bd 21, .inl (cI, 96, .inl hb2_99)), (bd 22, .inl (cI, 72, .inl wb2_99)), (bd 23, .inl (cI, 10, .inl am2_99)), (bd 24, .inl (cI, 10, .inl so2_99)), (bd 1, .inl (cI, 4, .inl srt)), (bd 2, .inl (cI, 4, .inl sln)), (bd 3, .inl (cI, 160, .inl cel))]) (lv' := [(7, .int (nI (s1 + 1))), (6, .int (b1 ||| ((1 : Int32) <<< ((nI s1) &&& 31)))), (5, .int (nI (40 * j + i0))), (4, .int 0), (0, .ref (bd 0)), (1, .int (nI j)), (2, .int y), (3, .int (nI i0))]) (st' := []) [0, 1, 2, 3, 4, 5, 6, 7] rfl rfl rfl (ih_73 (s1 + 1) (b1 ||| ((1 : Int32) <<< ((nI s1) &&& 31))) wind (kEvb ns s1) lf2_99 gt2_99 hl2_99 rb2_99 hb2_99 wb2_99 am2_99 so2_99 (show ns - (s1 + 1) < ns - s1 from by omega) ⟨(by omega), (by first | exact kBits_yes hb1 (decide_eq_true (hg1 ▸ c_110)) | exact (Int32.or_zero).trans (kBits_no hb1 (decide_eq_false (fun q => c_110 (hg1 ▸ q))))), trivial⟩)
        · have c_53 : N = 0 := Decidable.not_not.mp (kb0 c_53)
          have hN0 : N = 0 := (by omega)
          refine ky_bipush C dX8_missed_56 (v := (-3)) (by decide) ?_
          exact ky_iret C hr hlk ⟨(-3), 0, bw, fi, lf, gt, hl, am, so, rb, hb, wb, rfl, rfl, (by first | (simp only [kF_missed, if_pos c_9, if_pos c_18, hcj, if_neg h9, if_pos h8, if_pos h6, if_pos c_53, if_pos hN0]; done) | (simp only [kF_missed, if_pos c_9, if_pos c_18, hcj, if_neg h9, if_pos h8, if_pos h6, if_pos c_53, if_pos hN0]; rfl))⟩ (Nat.le_of_ble_eq_true rfl) dX8_missed_58
    · have c_18 : ¬ (0 ≤ y ∧ y ≤ 2) := kb0 c_18
      refine ky_bipush C dX8_missed_21 (v := (-2)) (by decide) ?_
      exact ky_iret C hr hlk ⟨(-2), 0, bw, fi, lf, gt, hl, am, so, rb, hb, wb, rfl, rfl, (by first | (simp only [kF_missed, if_pos c_9, if_neg c_18]; done) | (simp only [kF_missed, if_pos c_9, if_neg c_18]; rfl))⟩ (Nat.le_of_ble_eq_true rfl) dX8_missed_23
  · have c_9 : ¬ (0 ≤ x ∧ x ≤ 3) := kb0 c_9
    refine ky_iconst C dX8_missed_12 (v := (-1)) (by decide) ?_
    exact ky_iret C hr hlk ⟨(-1), 0, bw, fi, lf, gt, hl, am, so, rb, hb, wb, rfl, rfl, (by first | (simp only [kF_missed, if_neg c_9]; done) | (simp only [kF_missed, if_neg c_9]; rfl))⟩ (Nat.le_of_ble_eq_true rfl) dX8_missed_13
