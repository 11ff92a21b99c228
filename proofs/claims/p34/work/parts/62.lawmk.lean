/-! part 62: the law's methods that make calls -/
theorem kSet_0 {N k : Nat} {wind low forb : Int32} (hN : 1 ≤ N) (h : k < 7) : kF_set N wind low forb 0 (nI k - 3) = (wind + 10, nI k - 3, low, forb) := by
  have hm : kMay 0 (nI k - 3) := Or.inl ⟨rfl, (show ∀ k, k < 7 → -3 ≤ nI k - 3 ∧ nI k - 3 ≤ 3 by decide +kernel) k h⟩
  unfold kF_set
  rw [if_pos hm, if_neg (show ¬ N = 0 by omega), if_pos rfl]
theorem kSet_1 {N k : Nat} {wind low forb : Int32} (hN : 1 ≤ N) (h : k < 10) : kF_set N wind low forb 1 (nI k) = (low, wind, nI k, forb) := by
  have hm : kMay 1 (nI k) := Or.inr (Or.inl ⟨rfl, (show ∀ k, k < 10 → 0 ≤ nI k ∧ nI k ≤ 9 by decide +kernel) k h⟩)
  unfold kF_set
  rw [if_pos hm, if_neg (show ¬ N = 0 by omega), if_neg (by decide), if_pos rfl]
theorem kSet_2 {N k : Nat} {wind low forb : Int32} (hN : 1 ≤ N) (h : k < 4096) : kF_set N wind low forb 2 (nI k) = (forb, wind, low, nI k) := by
  have hm : kMay 2 (nI k) := Or.inr (Or.inr ⟨rfl, nI_pos' (by omega), (nI_leI (b := 4095) (by omega) (by decide)).mpr (by omega)⟩)
  unfold kF_set
  rw [if_pos hm, if_neg (show ¬ N = 0 by omega), if_neg (by decide), if_neg (by decide)]
theorem kShot_go {N ns K H P : Nat} {kd fr hor pw : kA} {F : Int32} (hF : 0 ≤ F ∧ F < nI N) (hK : K ≤ 2) (hH : H ≤ 11) (hP : 1 ≤ P ∧ P ≤ 9) (hns : ns < 8) : kF_shot N ns kd fr hor pw (nI K) F (nI H) (nI P) = (nI ns, ns + 1, upd kd ns (nI K), upd fr ns F, upd hor ns (nI H), upd pw ns (nI P)) := by
  unfold kF_shot
  rw [if_pos hF, if_pos ⟨nI_pos' (by omega), (nI_leI (b := 2) (by omega) (by decide)).mpr hK⟩, if_pos ⟨nI_pos' (by omega), (nI_leI (b := 11) (by omega) (by decide)).mpr hH⟩, if_pos ⟨(nI_leI (a := 1) (by decide) (by omega)).mpr hP.1, (nI_leI (b := 9) (by omega) (by decide)).mpr hP.2⟩, if_pos hns]
theorem kC29a {k : Nat} (h : k < 41) : -20 ≤ nI k - 20 ∧ nI k - 20 ≤ 20 := (show ∀ k, k < 41 → -20 ≤ nI k - 20 ∧ nI k - 20 ≤ 20 by decide +kernel) k h
theorem kC29b {k : Nat} (h : k < 8) : -20 ≤ nI k - 2 ∧ nI k - 2 ≤ 20 := (show ∀ k, k < 8 → -20 ≤ nI k - 2 ∧ nI k - 2 ≤ 20 by decide +kernel) k h
theorem kCloud_go {N n wt hi : Nat} {cat cwet chi : kA} {a : Int32} (ha : -20 ≤ a ∧ a ≤ 20) (h1 : wt ≤ 30) (h2 : 1 ≤ wt) (h3 : hi ≤ 9) (h4 : 1 ≤ hi) (hn : n < 6) (hN : 1 ≤ N) : kF_cloud N n cat cwet chi a (nI wt) (nI hi) = (nI n, n + 1, upd cat n a, upd cwet n (nI wt), upd chi n (nI hi)) := by
  unfold kF_cloud
  rw [if_pos ha, if_pos ⟨(nI_leI (a := 1) (by decide) (by omega)).mpr h2, (nI_leI (b := 30) (by omega) (by decide)).mpr h1⟩, if_pos ⟨(nI_leI (a := 1) (by decide) (by omega)).mpr h4, (nI_leI (b := 9) (by omega) (by decide)).mpr h3⟩, if_neg (show ¬ N = 0 by omega), if_pos hn]
theorem kCw_s {n w3 : Nat} {g a w h : kA} {v1 v3 v4 : Int32} (H : ∀ c, c < n → g (29 + c) = a c ∧ g (35 + c) = w c ∧ g (41 + c) = h c ∧ ∃ m : Nat, m ≤ 30 ∧ w c = nI m) (hn : n < 6) (hw : w3 ≤ 30) :
    ∀ c, c < n + 1 → upd (upd (upd (upd g (29 + n) v1) (35 + n) (nI w3)) (41 + n) v3) 28 v4 (29 + c) = upd a n v1 c ∧ upd (upd (upd (upd g (29 + n) v1) (35 + n) (nI w3)) (41 + n) v3) 28 v4 (35 + c) = upd w n (nI w3) c ∧ upd (upd (upd (upd g (29 + n) v1) (35 + n) (nI w3)) (41 + n) v3) 28 v4 (41 + c) = upd h n v3 c ∧ ∃ m : Nat, m ≤ 30 ∧ upd w n (nI w3) c = nI m := by
  intro c hc
  by_cases e : c = n
  · subst e
    refine ⟨by repeat (first | rw [pk_us] | rw [pk_un (by omega)]), by repeat (first | rw [pk_us] | rw [pk_un (by omega)]), by repeat (first | rw [pk_us] | rw [pk_un (by omega)]), w3, hw, pk_us⟩
  · obtain ⟨h1, h2, h3, h4⟩ := H c (by omega)
    refine ⟨?_, ?_, ?_, ?_⟩
    · rw [pk_un e, ← h1]; repeat (first | rw [pk_un (by omega)])
    · rw [pk_un e, ← h2]; repeat (first | rw [pk_un (by omega)])
    · rw [pk_un e, ← h3]; repeat (first | rw [pk_un (by omega)])
    · rw [pk_un e]; exact h4
/-- the text of a plain: what the law writes of its row -/
def kTxt (g : kA) (p : Nat) : Int32 := if p % 4 = 3 then 59 else 48 + g (1 + 8 * (p % 4) + p / 4)
/-- the first sheet holds so many codes of a text -/
def kTx (sh : Nat → kSh) (n : Nat) (t : kA) : Prop := (sh 0).1 = 0 ∧ (sh 0).2.1 = 40 ∧ (∀ p, p < n → (sh 0).2.2 p = t p) ∧ kShOk sh
theorem kTxt_59 {g : kA} {p : Nat} (h : p % 4 = 3) : kTxt g p = nI 59 := by
  unfold kTxt
  rw [if_pos h]
  rfl
theorem kTxt_j {g : kA} {p f j a : Nat} (h : p = 4 * f + j) (hj : j < 3) (hg : g (1 + 8 * j + f) = nI a) : kTxt g p = nI (48 + a) := by
  unfold kTxt
  rw [if_neg (by omega), show p % 4 = j by omega, show p / 4 = f by omega, hg]
  exact nI_add 48 a
theorem kTxt_0 {g : kA} {p f a : Nat} (h : p = 4 * f) (hg : g (1 + f) = nI a) : kTxt g p = nI (48 + a) := kTxt_j (f := f) (j := 0) h (by decide) hg
theorem kTxt_1 {g : kA} {p f a : Nat} (h : p = 4 * f + 1) (hg : g (9 + f) = nI a) : kTxt g p = nI (48 + a) := kTxt_j (f := f) (j := 1) h (by decide) hg
theorem kTxt_2 {g : kA} {p f a : Nat} (h : p = 4 * f + 2) (hg : g (17 + f) = nI a) : kTxt g p = nI (48 + a) := kTxt_j (f := f) (j := 2) h (by decide) hg
theorem kTx_up {sh : Nat → kSh} {n f : Nat} {g : kA} {x y z : Int32} (h : kTx sh n (kTxt g)) (hn : n + 1 = 4 * f ∨ (f = 0 ∧ n = 0)) (hf : f < 8) : kTx sh n (kTxt (upd (upd (upd g (1 + f) x) (9 + f) y) (17 + f) z)) := by
  refine ⟨h.1, h.2.1, fun p hp => ?_, h.2.2.2⟩
  rw [h.2.2.1 p hp]
  unfold kTxt
  by_cases q : p % 4 = 3
  · rw [if_pos q, if_pos q]
  · rw [if_neg q, if_neg q, pk_un (by omega), pk_un (by omega), pk_un (by omega)]
theorem kCut_0 : ∀ c, c < 128 → kCut 0 (nI c) = nI c := by decide +kernel
theorem kPut_go {sh sh2 : Nat → kSh} {n v : Nat} {t : kA} {r2 lf2 : Int32} (h : kTx sh n t) (hn : n < 40) (hv : t n = nI v) (hb : v ≤ 127) (hF : (r2, lf2, sh2) = kF_put sh 0 (nI n) (nI v)) : r2 = 1 ∧ kTx sh2 (n + 1) t := by
  obtain ⟨h1, h2, h3, h4⟩ := h
  have e0 : (0 : Int32).toNatClampNeg = 0 := by decide
  have hp : 0 ≤ nI n ∧ nI n < (sh 0).2.1 := by
    rw [h2]
    exact ⟨nI_pos' (by omega), (nI_ltI (b := 40) (by omega) (by decide)).mpr hn⟩
  have e := hF
  unfold kF_put at e
  rw [if_pos (by decide), e0, if_neg (by rw [h2]; decide), if_pos hp, h1, h2, nI_clamp (by omega), kCut_0 v (by omega)] at e
  simp only [Prod.mk.injEq] at e
  obtain ⟨rfl, rfl, rfl⟩ := e
  refine ⟨rfl, rfl, rfl, fun p hp => ?_, ?_⟩
  · show upd (sh 0).2.2 n (nI v) p = t p
    by_cases q : p = n
    · subst q
      rw [pk_us, hv]
    · rw [pk_un q]
      exact h3 p (by omega)
  · intro k hk
    by_cases q : k = 0
    · subst q
      exact (show (40 : Int32) = -1 ∨ ((0 ≤ (40 : Int32) ∧ (40 : Int32) ≤ 40) ∧ 0 ≤ (0 : Int32) ∧ (0 : Int32) ≤ 2) from Or.inr ⟨⟨by decide, by decide⟩, by decide, by decide⟩)
    · have : va_up sh 0 (0, 40, upd (sh 0).2.2 n (nI v)) k = sh k := if_neg q
      rw [this]
      exact h4 k hk
theorem kSheet_go {sh sh2 : Nat → kSh} {t : kA} {r2 lf2 : Int32} (h : kShOk sh) (hF : (r2, lf2, sh2) = kF_sheet sh 0 0 40) : r2 = 1 ∧ kTx sh2 0 t := by
  have e0 : (0 : Int32).toNatClampNeg = 0 := by decide
  have e := hF
  unfold kF_sheet at e
  rw [if_pos (by decide), if_pos (by decide), if_pos (by decide), if_pos (by decide), e0] at e
  simp only [Prod.mk.injEq] at e
  obtain ⟨rfl, rfl, rfl⟩ := e
  refine ⟨rfl, rfl, rfl, fun p hp => absurd hp (Nat.not_lt_zero p), ?_⟩
  intro k hk
  by_cases q : k = 0
  · subst q
    exact (show (40 : Int32) = -1 ∨ ((0 ≤ (40 : Int32) ∧ (40 : Int32) ≤ 40) ∧ 0 ≤ (0 : Int32) ∧ (0 : Int32) ≤ 2) from Or.inr ⟨⟨by decide, by decide⟩, by decide, by decide⟩)
  · have : va_up sh 0 (0, 40, fun _ => 0) k = sh k := if_neg q
    rw [this]
    exact h k hk
theorem kPb_s {g : kA} {n x y z : Nat} (H : ∀ f, f < n → ∃ x y z : Nat, x ≤ 3 ∧ y ≤ 9 ∧ z ≤ 9 ∧ g (1 + f) = nI x ∧ g (9 + f) = nI y ∧ g (17 + f) = nI z) (hn : n < 8) (hx : x ≤ 3) (hy : y ≤ 9) (hz : z ≤ 9) :
    ∀ f, f < n + 1 → ∃ x' y' z' : Nat, x' ≤ 3 ∧ y' ≤ 9 ∧ z' ≤ 9 ∧ upd (upd (upd g (1 + n) (nI x)) (9 + n) (nI y)) (17 + n) (nI z) (1 + f) = nI x' ∧ upd (upd (upd g (1 + n) (nI x)) (9 + n) (nI y)) (17 + n) (nI z) (9 + f) = nI y' ∧ upd (upd (upd g (1 + n) (nI x)) (9 + n) (nI y)) (17 + n) (nI z) (17 + f) = nI z' := by
  intro f hf
  by_cases e : f = n
  · subst e
    exact ⟨x, y, z, hx, hy, hz, by repeat (first | rw [pk_us] | rw [pk_un (by omega)]), by repeat (first | rw [pk_us] | rw [pk_un (by omega)]), by repeat (first | rw [pk_us] | rw [pk_un (by omega)])⟩
  · obtain ⟨x', y', z', h1, h2, h3, h4, h5, h6⟩ := H f (by omega)
    refine ⟨x', y', z', h1, h2, h3, ?_, ?_, ?_⟩
    · rw [← h4]; repeat (first | rw [pk_un (by omega)])
    · rw [← h5]; repeat (first | rw [pk_un (by omega)])
    · rw [← h6]; repeat (first | rw [pk_un (by omega)])
theorem hdL_change : yL_change.cls = RL ∧ yL_change.cls ≠ "java/lang/invoke/MethodHandle" ∧ yL_change.cls ≠ "java/lang/invoke/VarHandle" ∧ (parseMethodDescriptor yL_change.desc).map (fun d => d.parameters.length) = some 3 := by decide +kernel
set_option maxRecDepth 100000 in
set_option maxHeartbeats 4000000 in
theorem kL_change (l : Launch) (D : va_G) (cI cS : ClassId) (ad : Nat → Nat) (left : Int32) (lastF : Int32) (N : Nat) (wind : Int32) (low : Int32) (forb : Int32) (ga : Nat) (g : Nat → Int32) (x : Int32) (hN1 : 1 ≤ N) (hN : N ≤ 8) (hg25 : g 25 = wind) (hg26 : g 26 = low) (hg27 : g 27 = forb) : kyM l yL_change wsL_change ({ frames := 3, cells := 0, slots := 0, locals := 66 }) D cI cS [.ref (ad 0), .int x, .ref ga] [(ad 0, .inr (7, [.ref (ad 1), .ref (ad 10), .ref (ad 14), .ref (ad 18), .ref (ad 23), .ref (ad 29), .ref (ad 32), .int left, .int lastF])), (ad 10, .inr (3, [.ref (ad 11), .ref (ad 12), .ref (ad 13), .int (nI N), .int wind, .int low, .int forb])), (ga, .inl (cI, 48, .inl g))] 0 0 (fun vR wR => ∃ wd2 : Int32, ∃ lw2 : Int32, ∃ fb2 : Int32, vR = some (.int 1) ∧ wR = [(ad 0, .inr (7, [.ref (ad 1), .ref (ad 10), .ref (ad 14), .ref (ad 18), .ref (ad 23), .ref (ad 29), .ref (ad 32), .int left, .int lastF])), (ad 10, .inr (3, [.ref (ad 11), .ref (ad 12), .ref (ad 13), .int (nI N), .int wd2, .int lw2, .int fb2])), (ga, .inl (cI, 48, .inl (upd (upd (upd g 25 wd2) 26 lw2) 27 fb2)))]) := by
  refine ky_start (own := RL) (cc := cL_change) (nL := 6) (ret := (some .boolean)) (by decide) rfl rfl (Nat.le_of_ble_eq_true rfl) ?_
  intro p e s m args below meth c C hr hlk hnm
  refine ky_conv (lv' := [(0, .ref (ad 0)), (1, .int x), (2, .ref ga)]) (List.range 3) rfl rfl rfl ?_
  refine ky_iload_n C 1 dL_change_0 rfl rfl ?_
  refine ky_bipush C dL_change_1 (v := 7) (by decide) ?_
  refine ky_callS0 C 2 (kL_some l D cI cS x 7 (by decide) (by decide)) gL_change_L_some rfl rfl rfl hdL_some.2 ⟨Nat.le_of_ble_eq_true rfl, Nat.le_of_ble_eq_true rfl⟩ rfl rfl (Nat.le_of_ble_eq_true rfl) dL_change_3 [] rfl rfl ?_
  rintro _ _ ⟨rfl, rfl⟩
  refine ky_ws (ws' := [(ad 0, .inr (7, [.ref (ad 1), .ref (ad 10), .ref (ad 14), .ref (ad 18), .ref (ad 23), .ref (ad 29), .ref (ad 32), .int left, .int lastF])), (ad 10, .inr (3, [.ref (ad 11), .ref (ad 12), .ref (ad 13), .int (nI N), .int wind, .int low, .int forb])), (ga, .inl (cI, 48, .inl g))]) (st' := [.int (nI (kSm x 7))]) rfl rfl ?_
  have hs_3 : kSm x 7 < 7 := kSm_lt _ (by omega)
  refine ky_iconst C dL_change_6 (v := 3) (by decide) ?_
  refine ky_isub C (v := (nI (kSm x 7)) - 3) dL_change_7 rfl ?_
  refine ky_istore_n C (lv' := [(3, .int ((nI (kSm x 7)) - 3)), (0, .ref (ad 0)), (1, .int x), (2, .ref ga)]) dL_change_8 rfl (by decide) rfl ?_
  refine ky_iload_n C 2 dL_change_9 rfl rfl ?_
  refine ky_iconst C dL_change_10 (v := 3) (by decide) ?_
  refine ky_ishr C (v := x >>> (3 &&& 31)) dL_change_11 rfl ?_
  refine ky_bipush C dL_change_12 (v := 10) (by decide) ?_
  refine ky_callS0 C 2 (kL_some l D cI cS (x >>> (3 &&& 31)) 10 (by decide) (by decide)) gL_change_L_some rfl rfl rfl hdL_some.2 ⟨Nat.le_of_ble_eq_true rfl, Nat.le_of_ble_eq_true rfl⟩ rfl rfl (Nat.le_of_ble_eq_true rfl) dL_change_14 [] rfl rfl ?_
  rintro _ _ ⟨rfl, rfl⟩
  refine ky_ws (ws' := [(ad 0, .inr (7, [.ref (ad 1), .ref (ad 10), .ref (ad 14), .ref (ad 18), .ref (ad 23), .ref (ad 29), .ref (ad 32), .int left, .int lastF])), (ad 10, .inr (3, [.ref (ad 11), .ref (ad 12), .ref (ad 13), .int (nI N), .int wind, .int low, .int forb])), (ga, .inl (cI, 48, .inl g))]) (st' := [.int (nI (kSm (x >>> (3 &&& 31)) 10))]) rfl rfl ?_
  have hs_14 : kSm (x >>> (3 &&& 31)) 10 < 10 := kSm_lt _ (by omega)
  refine ky_istore C (lv' := [(4, .int (nI (kSm (x >>> (3 &&& 31)) 10))), (3, .int ((nI (kSm x 7)) - 3)), (0, .ref (ad 0)), (1, .int x), (2, .ref ga)]) dL_change_17 (by decide) rfl ?_
  refine ky_iload_n C 3 dL_change_19 rfl rfl ?_
  refine ky_bipush C dL_change_20 (v := 7) (by decide) ?_
  refine ky_ishr C (v := x >>> (7 &&& 31)) dL_change_22 rfl ?_
  refine ky_iconst C dL_change_23 (v := 2) (by decide) ?_
  refine ky_callS0 C 2 (kL_some l D cI cS (x >>> (7 &&& 31)) 2 (by decide) (by decide)) gL_change_L_some rfl rfl rfl hdL_some.2 ⟨Nat.le_of_ble_eq_true rfl, Nat.le_of_ble_eq_true rfl⟩ rfl rfl (Nat.le_of_ble_eq_true rfl) dL_change_24 [] rfl rfl ?_
  rintro _ _ ⟨rfl, rfl⟩
  refine ky_ws (ws' := [(ad 0, .inr (7, [.ref (ad 1), .ref (ad 10), .ref (ad 14), .ref (ad 18), .ref (ad 23), .ref (ad 29), .ref (ad 32), .int left, .int lastF])), (ad 10, .inr (3, [.ref (ad 11), .ref (ad 12), .ref (ad 13), .int (nI N), .int wind, .int low, .int forb])), (ga, .inl (cI, 48, .inl g))]) (st' := [.int (nI (kSm (x >>> (7 &&& 31)) 2))]) rfl rfl ?_
  have hs_24 : kSm (x >>> (7 &&& 31)) 2 < 2 := kSm_lt _ (by omega)
  refine ky_if_ne C 43 dL_change_27 (by decide) (fun c_27 => ?_) (fun c_27 => ?_)
  · have n_27 := kn_neq (a := kSm (x >>> (7 &&& 31)) 2) (b := 0) (by omega) (by omega) c_27
    refine ky_iconst C dL_change_43 (v := 0) (by decide) ?_
    refine ky_istore C (lv' := [(5, .int 0), (4, .int (nI (kSm (x >>> (3 &&& 31)) 10))), (3, .int ((nI (kSm x 7)) - 3)), (0, .ref (ad 0)), (1, .int x), (2, .ref ga)]) dL_change_44 (by decide) rfl ?_
    refine ky_aload_n C 3 dL_change_46 rfl rfl ?_
    refine ky_iconst C dL_change_47 (v := 0) (by decide) ?_
    refine ky_iload_n C 2 dL_change_48 rfl rfl ?_
    refine ky_callV0 C 2 (kX7_set l D cI cS ad left lastF N wind low forb 0 ((nI (kSm x 7)) - 3) (by first | assumption | omega)) gL_change_X7_set rfl rfl rfl hdX7_set 0 7 rfl rfl rfl ⟨Nat.le_of_ble_eq_true rfl, Nat.le_of_ble_eq_true rfl⟩ rfl rfl (Nat.le_of_ble_eq_true rfl) dL_change_49 [0, 1] rfl rfl ?_
    rintro _ _ ⟨r2_49, wind2_49, low2_49, forb2_49, rfl, rfl, hF_49⟩
    refine ky_ws (ws' := [(ad 0, .inr (7, [.ref (ad 1), .ref (ad 10), .ref (ad 14), .ref (ad 18), .ref (ad 23), .ref (ad 29), .ref (ad 32), .int left, .int lastF])), (ad 10, .inr (3, [.ref (ad 11), .ref (ad 12), .ref (ad 13), .int (nI N), .int wind2_49, .int low2_49, .int forb2_49])), (ga, .inl (cI, 48, .inl g))]) (st' := [.int r2_49]) rfl rfl ?_
    have hE_49 := hF_49.trans (kSet_0 hN1 (kSm_lt x (by decide)))
    simp only [Prod.mk.injEq] at hE_49
    obtain ⟨e1_49, e2_49, e3_49, e4_49⟩ := hE_49
    have z1_49 := e1_49.symm
    subst z1_49
    have z2_49 := e2_49.symm
    subst z2_49
    have z3_49 := e3_49.symm
    subst z3_49
    have z4_49 := e4_49.symm
    subst z4_49
    refine ky_aload_n C 5 dL_change_52 rfl rfl ?_
    refine ky_bipush C dL_change_53 (v := 25) (by decide) ?_
    refine ky_ialdN C 2 (k := 25) rfl (by omega) (by decide) dL_change_55 (v := wind) hg25 ?_
    refine ky_bipush C dL_change_56 (v := 10) (by decide) ?_
    refine ky_iadd C (v := wind + 10) dL_change_58 rfl ?_
    refine ky_icmp_ne C 90 dL_change_59 (by decide) (fun q => absurd rfl q) (fun c_59 => ?_)
    refine ky_aload_n C 3 dL_change_62 rfl rfl ?_
    refine ky_iconst C dL_change_63 (v := 1) (by decide) ?_
    refine ky_iload C 1 dL_change_64 rfl ?_
    refine ky_callV0 C 2 (kX7_set l D cI cS ad left lastF N (nI (kSm x 7) - 3) low forb 1 (nI (kSm (x >>> (3 &&& 31)) 10)) (by first | assumption | omega)) gL_change_X7_set rfl rfl rfl hdX7_set 0 7 rfl rfl rfl ⟨Nat.le_of_ble_eq_true rfl, Nat.le_of_ble_eq_true rfl⟩ rfl rfl (Nat.le_of_ble_eq_true rfl) dL_change_66 [0, 1] rfl rfl ?_
    rintro _ _ ⟨r2_66, wind2_66, low2_66, forb2_66, rfl, rfl, hF_66⟩
    refine ky_ws (ws' := [(ad 0, .inr (7, [.ref (ad 1), .ref (ad 10), .ref (ad 14), .ref (ad 18), .ref (ad 23), .ref (ad 29), .ref (ad 32), .int left, .int lastF])), (ad 10, .inr (3, [.ref (ad 11), .ref (ad 12), .ref (ad 13), .int (nI N), .int wind2_66, .int low2_66, .int forb2_66])), (ga, .inl (cI, 48, .inl g))]) (st' := [.int r2_66]) rfl rfl ?_
    have hE_66 := hF_66.trans (kSet_1 hN1 (kSm_lt (x >>> ((3 : Int32) &&& 31)) (by decide)))
    simp only [Prod.mk.injEq] at hE_66
    obtain ⟨e1_66, e2_66, e3_66, e4_66⟩ := hE_66
    have z1_66 := e1_66.symm
    subst z1_66
    have z2_66 := e2_66.symm
    subst z2_66
    have z3_66 := e3_66.symm
    subst z3_66
    have z4_66 := e4_66.symm
    subst z4_66
    refine ky_aload_n C 5 dL_change_69 rfl rfl ?_
    refine ky_bipush C dL_change_70 (v := 26) (by decide) ?_
    refine ky_ialdN C 2 (k := 26) rfl (by omega) (by decide) dL_change_72 (v := low) hg26 ?_
    refine ky_icmp_ne C 90 dL_change_73 (by decide) (fun q => absurd rfl q) (fun c_73 => ?_)
    refine ky_aload_n C 3 dL_change_76 rfl rfl ?_
    refine ky_iconst C dL_change_77 (v := 2) (by decide) ?_
    refine ky_iload C 0 dL_change_78 rfl ?_
    refine ky_callV0 C 2 (kX7_set l D cI cS ad left lastF N (nI (kSm x 7) - 3) (nI (kSm (x >>> (3 &&& 31)) 10)) forb 2 0 (by first | assumption | omega)) gL_change_X7_set rfl rfl rfl hdX7_set 0 7 rfl rfl rfl ⟨Nat.le_of_ble_eq_true rfl, Nat.le_of_ble_eq_true rfl⟩ rfl rfl (Nat.le_of_ble_eq_true rfl) dL_change_80 [0, 1] rfl rfl ?_
    rintro _ _ ⟨r2_80, wind2_80, low2_80, forb2_80, rfl, rfl, hF_80⟩
    refine ky_ws (ws' := [(ad 0, .inr (7, [.ref (ad 1), .ref (ad 10), .ref (ad 14), .ref (ad 18), .ref (ad 23), .ref (ad 29), .ref (ad 32), .int left, .int lastF])), (ad 10, .inr (3, [.ref (ad 11), .ref (ad 12), .ref (ad 13), .int (nI N), .int wind2_80, .int low2_80, .int forb2_80])), (ga, .inl (cI, 48, .inl g))]) (st' := [.int r2_80]) rfl rfl ?_
    have hE_80 := hF_80.trans (kSet_2 hN1 (show (0 : Nat) < 4096 by decide))
    simp only [Prod.mk.injEq] at hE_80
    obtain ⟨e1_80, e2_80, e3_80, e4_80⟩ := hE_80
    have z1_80 := e1_80.symm
    subst z1_80
    have z2_80 := e2_80.symm
    subst z2_80
    have z3_80 := e3_80.symm
    subst z3_80
    have z4_80 := e4_80.symm
    subst z4_80
    refine ky_aload_n C 5 dL_change_83 rfl rfl ?_
    refine ky_bipush C dL_change_84 (v := 27) (by decide) ?_
    refine ky_ialdN C 2 (k := 27) rfl (by omega) (by decide) dL_change_86 (v := forb) hg27 ?_
    refine ky_icmp_eq C 92 dL_change_87 (by decide) (fun c_87 => ?_) (fun q => absurd rfl q)
    refine ky_aload_n C 5 dL_change_92 rfl rfl ?_
    refine ky_bipush C dL_change_93 (v := 25) (by decide) ?_
    refine ky_iload_n C 2 dL_change_95 rfl rfl ?_
    refine ky_iastN C 2 (k := 25) rfl (by omega) (by decide) dL_change_96 (ws' := [(ad 0, .inr (7, [.ref (ad 1), .ref (ad 10), .ref (ad 14), .ref (ad 18), .ref (ad 23), .ref (ad 29), .ref (ad 32), .int left, .int lastF])), (ad 10, .inr (3, [.ref (ad 11), .ref (ad 12), .ref (ad 13), .int (nI N), .int (nI (kSm x 7) - 3), .int (nI (kSm (x >>> (3 &&& 31)) 10)), .int 0])), (ga, .inl (cI, 48, .inl (upd g 25 ((nI (kSm x 7)) - 3))))]) rfl ?_
    refine ky_aload_n C 5 dL_change_97 rfl rfl ?_
    refine ky_bipush C dL_change_98 (v := 26) (by decide) ?_
    refine ky_iload C 1 dL_change_100 rfl ?_
    refine ky_iastN C 2 (k := 26) rfl (by omega) (by decide) dL_change_102 (ws' := [(ad 0, .inr (7, [.ref (ad 1), .ref (ad 10), .ref (ad 14), .ref (ad 18), .ref (ad 23), .ref (ad 29), .ref (ad 32), .int left, .int lastF])), (ad 10, .inr (3, [.ref (ad 11), .ref (ad 12), .ref (ad 13), .int (nI N), .int (nI (kSm x 7) - 3), .int (nI (kSm (x >>> (3 &&& 31)) 10)), .int 0])), (ga, .inl (cI, 48, .inl (upd (upd g 25 ((nI (kSm x 7)) - 3)) 26 (nI (kSm (x >>> (3 &&& 31)) 10)))))]) rfl ?_
    refine ky_aload_n C 5 dL_change_103 rfl rfl ?_
    refine ky_bipush C dL_change_104 (v := 27) (by decide) ?_
    refine ky_iload C 0 dL_change_106 rfl ?_
    refine ky_iastN C 2 (k := 27) rfl (by omega) (by decide) dL_change_108 (ws' := [(ad 0, .inr (7, [.ref (ad 1), .ref (ad 10), .ref (ad 14), .ref (ad 18), .ref (ad 23), .ref (ad 29), .ref (ad 32), .int left, .int lastF])), (ad 10, .inr (3, [.ref (ad 11), .ref (ad 12), .ref (ad 13), .int (nI N), .int (nI (kSm x 7) - 3), .int (nI (kSm (x >>> (3 &&& 31)) 10)), .int 0])), (ga, .inl (cI, 48, .inl (upd (upd (upd g 25 ((nI (kSm x 7)) - 3)) 26 (nI (kSm (x >>> (3 &&& 31)) 10))) 27 0)))]) rfl ?_
    refine ky_iconst C dL_change_109 (v := 1) (by decide) ?_
    exact ky_zret C hr hlk rfl ⟨(nI (kSm x 7) - 3), (nI (kSm (x >>> (3 &&& 31)) 10)), 0, rfl, rfl⟩ (Nat.le_of_ble_eq_true rfl) dL_change_110
  · have n_27 := kn_eq (a := kSm (x >>> (7 &&& 31)) 2) (b := 0) (by omega) (by omega) c_27
    refine ky_iload_n C 3 dL_change_30 rfl rfl ?_
    refine ky_bipush C dL_change_31 (v := 8) (by decide) ?_
    refine ky_ishr C (v := x >>> (8 &&& 31)) dL_change_33 rfl ?_
    refine ky_sipush C dL_change_34 (v := 4096) (by decide) ?_
    refine ky_callS0 C 2 (kL_some l D cI cS (x >>> (8 &&& 31)) 4096 (by decide) (by decide)) gL_change_L_some rfl rfl rfl hdL_some.2 ⟨Nat.le_of_ble_eq_true rfl, Nat.le_of_ble_eq_true rfl⟩ rfl rfl (Nat.le_of_ble_eq_true rfl) dL_change_37 [] rfl rfl ?_
    rintro _ _ ⟨rfl, rfl⟩
    refine ky_ws (ws' := [(ad 0, .inr (7, [.ref (ad 1), .ref (ad 10), .ref (ad 14), .ref (ad 18), .ref (ad 23), .ref (ad 29), .ref (ad 32), .int left, .int lastF])), (ad 10, .inr (3, [.ref (ad 11), .ref (ad 12), .ref (ad 13), .int (nI N), .int wind, .int low, .int forb])), (ga, .inl (cI, 48, .inl g))]) (st' := [.int (nI (kSm (x >>> (8 &&& 31)) 4096))]) rfl rfl ?_
    have hs_37 : kSm (x >>> (8 &&& 31)) 4096 < 4096 := kSm_lt _ (by omega)
    refine ky_goto C dL_change_40 (tgt := 44) (by decide) ?_
    refine ky_istore C (lv' := [(5, .int (nI (kSm (x >>> (8 &&& 31)) 4096))), (4, .int (nI (kSm (x >>> (3 &&& 31)) 10))), (3, .int ((nI (kSm x 7)) - 3)), (0, .ref (ad 0)), (1, .int x), (2, .ref ga)]) dL_change_44 (by decide) rfl ?_
    refine ky_aload_n C 3 dL_change_46 rfl rfl ?_
    refine ky_iconst C dL_change_47 (v := 0) (by decide) ?_
    refine ky_iload_n C 2 dL_change_48 rfl rfl ?_
    refine ky_callV0 C 2 (kX7_set l D cI cS ad left lastF N wind low forb 0 ((nI (kSm x 7)) - 3) (by first | assumption | omega)) gL_change_X7_set rfl rfl rfl hdX7_set 0 7 rfl rfl rfl ⟨Nat.le_of_ble_eq_true rfl, Nat.le_of_ble_eq_true rfl⟩ rfl rfl (Nat.le_of_ble_eq_true rfl) dL_change_49 [0, 1] rfl rfl ?_
    rintro _ _ ⟨r2_49, wind2_49, low2_49, forb2_49, rfl, rfl, hF_49⟩
    refine ky_ws (ws' := [(ad 0, .inr (7, [.ref (ad 1), .ref (ad 10), .ref (ad 14), .ref (ad 18), .ref (ad 23), .ref (ad 29), .ref (ad 32), .int left, .int lastF])), (ad 10, .inr (3, [.ref (ad 11), .ref (ad 12), .ref (ad 13), .int (nI N), .int wind2_49, .int low2_49, .int forb2_49])), (ga, .inl (cI, 48, .inl g))]) (st' := [.int r2_49]) rfl rfl ?_
    have hE_49 := hF_49.trans (kSet_0 hN1 (kSm_lt x (by decide)))
    simp only [Prod.mk.injEq] at hE_49
    obtain ⟨e1_49, e2_49, e3_49, e4_49⟩ := hE_49
    have z1_49 := e1_49.symm
    subst z1_49
    have z2_49 := e2_49.symm
    subst z2_49
    have z3_49 := e3_49.symm
    subst z3_49
    have z4_49 := e4_49.symm
    subst z4_49
    refine ky_aload_n C 5 dL_change_52 rfl rfl ?_
    refine ky_bipush C dL_change_53 (v := 25) (by decide) ?_
    refine ky_ialdN C 2 (k := 25) rfl (by omega) (by decide) dL_change_55 (v := wind) hg25 ?_
    refine ky_bipush C dL_change_56 (v := 10) (by decide) ?_
    refine ky_iadd C (v := wind + 10) dL_change_58 rfl ?_
    refine ky_icmp_ne C 90 dL_change_59 (by decide) (fun q => absurd rfl q) (fun c_59 => ?_)
    refine ky_aload_n C 3 dL_change_62 rfl rfl ?_
    refine ky_iconst C dL_change_63 (v := 1) (by decide) ?_
    refine ky_iload C 1 dL_change_64 rfl ?_
    refine ky_callV0 C 2 (kX7_set l D cI cS ad left lastF N (nI (kSm x 7) - 3) low forb 1 (nI (kSm (x >>> (3 &&& 31)) 10)) (by first | assumption | omega)) gL_change_X7_set rfl rfl rfl hdX7_set 0 7 rfl rfl rfl ⟨Nat.le_of_ble_eq_true rfl, Nat.le_of_ble_eq_true rfl⟩ rfl rfl (Nat.le_of_ble_eq_true rfl) dL_change_66 [0, 1] rfl rfl ?_
    rintro _ _ ⟨r2_66, wind2_66, low2_66, forb2_66, rfl, rfl, hF_66⟩
    refine ky_ws (ws' := [(ad 0, .inr (7, [.ref (ad 1), .ref (ad 10), .ref (ad 14), .ref (ad 18), .ref (ad 23), .ref (ad 29), .ref (ad 32), .int left, .int lastF])), (ad 10, .inr (3, [.ref (ad 11), .ref (ad 12), .ref (ad 13), .int (nI N), .int wind2_66, .int low2_66, .int forb2_66])), (ga, .inl (cI, 48, .inl g))]) (st' := [.int r2_66]) rfl rfl ?_
    have hE_66 := hF_66.trans (kSet_1 hN1 (kSm_lt (x >>> ((3 : Int32) &&& 31)) (by decide)))
    simp only [Prod.mk.injEq] at hE_66
    obtain ⟨e1_66, e2_66, e3_66, e4_66⟩ := hE_66
    have z1_66 := e1_66.symm
    subst z1_66
    have z2_66 := e2_66.symm
    subst z2_66
    have z3_66 := e3_66.symm
    subst z3_66
    have z4_66 := e4_66.symm
    subst z4_66
    refine ky_aload_n C 5 dL_change_69 rfl rfl ?_
    refine ky_bipush C dL_change_70 (v := 26) (by decide) ?_
    refine ky_ialdN C 2 (k := 26) rfl (by omega) (by decide) dL_change_72 (v := low) hg26 ?_
    refine ky_icmp_ne C 90 dL_change_73 (by decide) (fun q => absurd rfl q) (fun c_73 => ?_)
    refine ky_aload_n C 3 dL_change_76 rfl rfl ?_
    refine ky_iconst C dL_change_77 (v := 2) (by decide) ?_
    refine ky_iload C 0 dL_change_78 rfl ?_
    refine ky_callV0 C 2 (kX7_set l D cI cS ad left lastF N (nI (kSm x 7) - 3) (nI (kSm (x >>> (3 &&& 31)) 10)) forb 2 (nI (kSm (x >>> (8 &&& 31)) 4096)) (by first | assumption | omega)) gL_change_X7_set rfl rfl rfl hdX7_set 0 7 rfl rfl rfl ⟨Nat.le_of_ble_eq_true rfl, Nat.le_of_ble_eq_true rfl⟩ rfl rfl (Nat.le_of_ble_eq_true rfl) dL_change_80 [0, 1] rfl rfl ?_
    rintro _ _ ⟨r2_80, wind2_80, low2_80, forb2_80, rfl, rfl, hF_80⟩
    refine ky_ws (ws' := [(ad 0, .inr (7, [.ref (ad 1), .ref (ad 10), .ref (ad 14), .ref (ad 18), .ref (ad 23), .ref (ad 29), .ref (ad 32), .int left, .int lastF])), (ad 10, .inr (3, [.ref (ad 11), .ref (ad 12), .ref (ad 13), .int (nI N), .int wind2_80, .int low2_80, .int forb2_80])), (ga, .inl (cI, 48, .inl g))]) (st' := [.int r2_80]) rfl rfl ?_
    have hE_80 := hF_80.trans (kSet_2 hN1 (kSm_lt (x >>> ((8 : Int32) &&& 31)) (by decide)))
    simp only [Prod.mk.injEq] at hE_80
    obtain ⟨e1_80, e2_80, e3_80, e4_80⟩ := hE_80
    have z1_80 := e1_80.symm
    subst z1_80
    have z2_80 := e2_80.symm
    subst z2_80
    have z3_80 := e3_80.symm
    subst z3_80
    have z4_80 := e4_80.symm
    subst z4_80
    refine ky_aload_n C 5 dL_change_83 rfl rfl ?_
    refine ky_bipush C dL_change_84 (v := 27) (by decide) ?_
    refine ky_ialdN C 2 (k := 27) rfl (by omega) (by decide) dL_change_86 (v := forb) hg27 ?_
    refine ky_icmp_eq C 92 dL_change_87 (by decide) (fun c_87 => ?_) (fun q => absurd rfl q)
    refine ky_aload_n C 5 dL_change_92 rfl rfl ?_
    refine ky_bipush C dL_change_93 (v := 25) (by decide) ?_
    refine ky_iload_n C 2 dL_change_95 rfl rfl ?_
    refine ky_iastN C 2 (k := 25) rfl (by omega) (by decide) dL_change_96 (ws' := [(ad 0, .inr (7, [.ref (ad 1), .ref (ad 10), .ref (ad 14), .ref (ad 18), .ref (ad 23), .ref (ad 29), .ref (ad 32), .int left, .int lastF])), (ad 10, .inr (3, [.ref (ad 11), .ref (ad 12), .ref (ad 13), .int (nI N), .int (nI (kSm x 7) - 3), .int (nI (kSm (x >>> (3 &&& 31)) 10)), .int (nI (kSm (x >>> (8 &&& 31)) 4096))])), (ga, .inl (cI, 48, .inl (upd g 25 ((nI (kSm x 7)) - 3))))]) rfl ?_
    refine ky_aload_n C 5 dL_change_97 rfl rfl ?_
    refine ky_bipush C dL_change_98 (v := 26) (by decide) ?_
    refine ky_iload C 1 dL_change_100 rfl ?_
    refine ky_iastN C 2 (k := 26) rfl (by omega) (by decide) dL_change_102 (ws' := [(ad 0, .inr (7, [.ref (ad 1), .ref (ad 10), .ref (ad 14), .ref (ad 18), .ref (ad 23), .ref (ad 29), .ref (ad 32), .int left, .int lastF])), (ad 10, .inr (3, [.ref (ad 11), .ref (ad 12), .ref (ad 13), .int (nI N), .int (nI (kSm x 7) - 3), .int (nI (kSm (x >>> (3 &&& 31)) 10)), .int (nI (kSm (x >>> (8 &&& 31)) 4096))])), (ga, .inl (cI, 48, .inl (upd (upd g 25 ((nI (kSm x 7)) - 3)) 26 (nI (kSm (x >>> (3 &&& 31)) 10)))))]) rfl ?_
    refine ky_aload_n C 5 dL_change_103 rfl rfl ?_
    refine ky_bipush C dL_change_104 (v := 27) (by decide) ?_
    refine ky_iload C 0 dL_change_106 rfl ?_
    refine ky_iastN C 2 (k := 27) rfl (by omega) (by decide) dL_change_108 (ws' := [(ad 0, .inr (7, [.ref (ad 1), .ref (ad 10), .ref (ad 14), .ref (ad 18), .ref (ad 23), .ref (ad 29), .ref (ad 32), .int left, .int lastF])), (ad 10, .inr (3, [.ref (ad 11), .ref (ad 12), .ref (ad 13), .int (nI N), .int (nI (kSm x 7) - 3), .int (nI (kSm (x >>> (3 &&& 31)) 10)), .int (nI (kSm (x >>> (8 &&& 31)) 4096))])), (ga, .inl (cI, 48, .inl (upd (upd (upd g 25 ((nI (kSm x 7)) - 3)) 26 (nI (kSm (x >>> (3 &&& 31)) 10))) 27 (nI (kSm (x >>> (8 &&& 31)) 4096)))))]) rfl ?_
    refine ky_iconst C dL_change_109 (v := 1) (by decide) ?_
    exact ky_zret C hr hlk rfl ⟨(nI (kSm x 7) - 3), (nI (kSm (x >>> (3 &&& 31)) 10)), (nI (kSm (x >>> (8 &&& 31)) 4096)), rfl, rfl⟩ (Nat.le_of_ble_eq_true rfl) dL_change_110
theorem hdL_shoot : yL_shoot.cls = RL ∧ yL_shoot.cls ≠ "java/lang/invoke/MethodHandle" ∧ yL_shoot.cls ≠ "java/lang/invoke/VarHandle" ∧ (parseMethodDescriptor yL_shoot.desc).map (fun d => d.parameters.length) = some 4 := by decide +kernel
set_option maxRecDepth 100000 in
set_option maxHeartbeats 4000000 in
theorem kL_shoot (l : Launch) (D : va_G) (cI cS : ClassId) (ad : Nat → Nat) (left : Int32) (lastF : Int32) (N : Nat) (wind : Int32) (low : Int32) (forb : Int32) (ns : Nat) (kd : Nat → Int32) (fr : Nat → Int32) (hor : Nat → Int32) (pw : Nat → Int32) (nc : Nat) (ga : Nat) (g : Nat → Int32) (qa : Nat) (q : Nat → Int32) (x : Int32) (hN1 : 1 ≤ N) (hN : N ≤ 8) (hns : ns ≤ 7) (hnc1 : 1 ≤ nc) (hnc : nc ≤ 6) (hg0 : g 0 = nI N) (hg28 : g 28 = nI nc) (hg47 : g 47 = nI ns) : kyM l yL_shoot wsL_shoot ({ frames := 3, cells := 0, slots := 0, locals := 67 }) D cI cS [.ref (ad 0), .int x, .ref ga, .ref qa] [(ad 0, .inr (7, [.ref (ad 1), .ref (ad 10), .ref (ad 14), .ref (ad 18), .ref (ad 23), .ref (ad 29), .ref (ad 32), .int left, .int lastF])), (ad 10, .inr (3, [.ref (ad 11), .ref (ad 12), .ref (ad 13), .int (nI N), .int wind, .int low, .int forb])), (ad 18, .inr (5, [.ref (ad 19), .ref (ad 20), .ref (ad 21), .ref (ad 22), .int (nI ns)])), (ad 19, .inl (cI, 10, .inl kd)), (ad 20, .inl (cI, 10, .inl fr)), (ad 21, .inl (cI, 10, .inl hor)), (ad 22, .inl (cI, 10, .inl pw)), (ga, .inl (cI, 48, .inl g)), (qa, .inl (cI, 40, .inl q))] 0 0 (fun vR wR => ∃ fr2 : Int32, ∃ kd2 : Nat, ∃ hor2 : Nat, ∃ pw2 : Nat, ∃ q2 : Nat → Int32, vR = some (.int 1) ∧ wR = [(ad 0, .inr (7, [.ref (ad 1), .ref (ad 10), .ref (ad 14), .ref (ad 18), .ref (ad 23), .ref (ad 29), .ref (ad 32), .int left, .int lastF])), (ad 10, .inr (3, [.ref (ad 11), .ref (ad 12), .ref (ad 13), .int (nI N), .int wind, .int low, .int forb])), (ad 18, .inr (5, [.ref (ad 19), .ref (ad 20), .ref (ad 21), .ref (ad 22), .int (nI (ns + 1))])), (ad 19, .inl (cI, 10, .inl (upd kd ns (nI kd2)))), (ad 20, .inl (cI, 10, .inl (upd fr ns fr2))), (ad 21, .inl (cI, 10, .inl (upd hor ns (nI hor2)))), (ad 22, .inl (cI, 10, .inl (upd pw ns (nI pw2)))), (ga, .inl (cI, 48, .inl (upd g 47 (nI (ns + 1))))), (qa, .inl (cI, 40, .inl q2))] ∧ (kd2 ≤ 2) ∧ (hor2 ≤ 11) ∧ (1 ≤ pw2 ∧ pw2 ≤ 9) ∧ (0 ≤ fr2 ∧ fr2 < nI N) ∧ (q2 ns = nI kd2 ∧ q2 (10 + ns) = fr2 ∧ q2 (20 + ns) = nI hor2 ∧ q2 (30 + ns) = nI pw2 ∧ (∀ j, ¬ j = ns → ¬ j = 10 + ns → ¬ j = 20 + ns → ¬ j = 30 + ns → q2 j = q j))) := by
  refine ky_start (own := RL) (cc := cL_shoot) (nL := 6) (ret := (some .boolean)) (by decide) rfl rfl (Nat.le_of_ble_eq_true rfl) ?_
  intro p e s m args below meth c C hr hlk hnm
  refine ky_conv (lv' := [(0, .ref (ad 0)), (1, .int x), (2, .ref ga), (3, .ref qa)]) (List.range 4) rfl rfl rfl ?_
  refine ky_aload_n C 2 dL_shoot_0 rfl rfl ?_
  refine ky_bipush C dL_shoot_1 (v := 47) (by decide) ?_
  refine ky_ialdN C 7 (k := 47) rfl (by omega) (by decide) dL_shoot_3 (v := nI ns) hg47 ?_
  refine ky_istore C (lv' := [(4, .int (nI ns)), (0, .ref (ad 0)), (1, .int x), (2, .ref ga), (3, .ref qa)]) dL_shoot_4 (by decide) rfl ?_
  refine ky_aload_n C 4 dL_shoot_6 rfl rfl ?_
  refine ky_iload C 0 dL_shoot_7 rfl ?_
  refine ky_iload_n C 2 dL_shoot_9 rfl rfl ?_
  refine ky_iconst C dL_shoot_10 (v := 3) (by decide) ?_
  refine ky_callS0 C 2 (kL_some l D cI cS x 3 (by omega) (by omega)) gL_shoot_L_some rfl rfl rfl hdL_some.2 ⟨Nat.le_of_ble_eq_true rfl, Nat.le_of_ble_eq_true rfl⟩ rfl rfl (Nat.le_of_ble_eq_true rfl) dL_shoot_11 [] rfl rfl ?_
  rintro _ _ ⟨rfl, rfl⟩
  refine ky_ws (ws' := [(ad 0, .inr (7, [.ref (ad 1), .ref (ad 10), .ref (ad 14), .ref (ad 18), .ref (ad 23), .ref (ad 29), .ref (ad 32), .int left, .int lastF])), (ad 10, .inr (3, [.ref (ad 11), .ref (ad 12), .ref (ad 13), .int (nI N), .int wind, .int low, .int forb])), (ad 18, .inr (5, [.ref (ad 19), .ref (ad 20), .ref (ad 21), .ref (ad 22), .int (nI ns)])), (ad 19, .inl (cI, 10, .inl kd)), (ad 20, .inl (cI, 10, .inl fr)), (ad 21, .inl (cI, 10, .inl hor)), (ad 22, .inl (cI, 10, .inl pw)), (ga, .inl (cI, 48, .inl g)), (qa, .inl (cI, 40, .inl q))]) (st' := [.int (nI (kSm x 3)), .int (nI ns), .ref qa]) rfl rfl ?_
  have hs_11 : kSm x 3 < 3 := kSm_lt _ (by omega)
  refine ky_iastN C 8 (k := ns) rfl (by omega) (by decide) dL_shoot_14 (ws' := [(ad 0, .inr (7, [.ref (ad 1), .ref (ad 10), .ref (ad 14), .ref (ad 18), .ref (ad 23), .ref (ad 29), .ref (ad 32), .int left, .int lastF])), (ad 10, .inr (3, [.ref (ad 11), .ref (ad 12), .ref (ad 13), .int (nI N), .int wind, .int low, .int forb])), (ad 18, .inr (5, [.ref (ad 19), .ref (ad 20), .ref (ad 21), .ref (ad 22), .int (nI ns)])), (ad 19, .inl (cI, 10, .inl kd)), (ad 20, .inl (cI, 10, .inl fr)), (ad 21, .inl (cI, 10, .inl hor)), (ad 22, .inl (cI, 10, .inl pw)), (ga, .inl (cI, 48, .inl g)), (qa, .inl (cI, 40, .inl (upd q ns (nI (kSm x 3)))))]) rfl ?_
  refine ky_aload_n C 4 dL_shoot_15 rfl rfl ?_
  refine ky_bipush C dL_shoot_16 (v := 20) (by decide) ?_
  refine ky_iload C 0 dL_shoot_18 rfl ?_
  refine ky_iadd C (v := nI (20 + ns)) dL_shoot_20 (nI_add 20 ns) ?_
  refine ky_iload_n C 2 dL_shoot_21 rfl rfl ?_
  refine ky_iconst C dL_shoot_22 (v := 2) (by decide) ?_
  refine ky_ishr C (v := x >>> (2 &&& 31)) dL_shoot_23 rfl ?_
  refine ky_iload_n C 2 dL_shoot_24 rfl rfl ?_
  refine ky_bipush C dL_shoot_25 (v := 14) (by decide) ?_
  refine ky_ishr C (v := x >>> (14 &&& 31)) dL_shoot_27 rfl ?_
  refine ky_iconst C dL_shoot_28 (v := 2) (by decide) ?_
  refine ky_callS0 C 2 (kL_some l D cI cS (x >>> (14 &&& 31)) 2 (by omega) (by omega)) gL_shoot_L_some rfl rfl rfl hdL_some.2 ⟨Nat.le_of_ble_eq_true rfl, Nat.le_of_ble_eq_true rfl⟩ rfl rfl (Nat.le_of_ble_eq_true rfl) dL_shoot_29 [] rfl rfl ?_
  rintro _ _ ⟨rfl, rfl⟩
  refine ky_ws (ws' := [(ad 0, .inr (7, [.ref (ad 1), .ref (ad 10), .ref (ad 14), .ref (ad 18), .ref (ad 23), .ref (ad 29), .ref (ad 32), .int left, .int lastF])), (ad 10, .inr (3, [.ref (ad 11), .ref (ad 12), .ref (ad 13), .int (nI N), .int wind, .int low, .int forb])), (ad 18, .inr (5, [.ref (ad 19), .ref (ad 20), .ref (ad 21), .ref (ad 22), .int (nI ns)])), (ad 19, .inl (cI, 10, .inl kd)), (ad 20, .inl (cI, 10, .inl fr)), (ad 21, .inl (cI, 10, .inl hor)), (ad 22, .inl (cI, 10, .inl pw)), (ga, .inl (cI, 48, .inl g)), (qa, .inl (cI, 40, .inl (upd q ns (nI (kSm x 3)))))]) (st' := [.int (nI (kSm (x >>> (14 &&& 31)) 2)), .int (x >>> (2 &&& 31)), .int (nI (20 + ns)), .ref qa]) rfl rfl ?_
  have hs_29 : kSm (x >>> (14 &&& 31)) 2 < 2 := kSm_lt _ (by omega)
  refine ky_if_ne C 40 dL_shoot_32 (by decide) (fun c_32 => ?_) (fun c_32 => ?_)
  · have n_32 := kn_neq (a := kSm (x >>> (14 &&& 31)) 2) (b := 0) (by omega) (by omega) c_32
    refine ky_iconst C dL_shoot_40 (v := 3) (by decide) ?_
    refine ky_callS0 C 2 (kL_some l D cI cS (x >>> (2 &&& 31)) 3 (by omega) (by omega)) gL_shoot_L_some rfl rfl rfl hdL_some.2 ⟨Nat.le_of_ble_eq_true rfl, Nat.le_of_ble_eq_true rfl⟩ rfl rfl (Nat.le_of_ble_eq_true rfl) dL_shoot_41 [] rfl rfl ?_
    rintro _ _ ⟨rfl, rfl⟩
    refine ky_ws (ws' := [(ad 0, .inr (7, [.ref (ad 1), .ref (ad 10), .ref (ad 14), .ref (ad 18), .ref (ad 23), .ref (ad 29), .ref (ad 32), .int left, .int lastF])), (ad 10, .inr (3, [.ref (ad 11), .ref (ad 12), .ref (ad 13), .int (nI N), .int wind, .int low, .int forb])), (ad 18, .inr (5, [.ref (ad 19), .ref (ad 20), .ref (ad 21), .ref (ad 22), .int (nI ns)])), (ad 19, .inl (cI, 10, .inl kd)), (ad 20, .inl (cI, 10, .inl fr)), (ad 21, .inl (cI, 10, .inl hor)), (ad 22, .inl (cI, 10, .inl pw)), (ga, .inl (cI, 48, .inl g)), (qa, .inl (cI, 40, .inl (upd q ns (nI (kSm x 3)))))]) (st' := [.int (nI (kSm (x >>> (2 &&& 31)) 3)), .int (nI (20 + ns)), .ref qa]) rfl rfl ?_
    have hs_41 : kSm (x >>> (2 &&& 31)) 3 < 3 := kSm_lt _ (by omega)
    refine ky_iastN C 8 (k := 20 + ns) rfl (by omega) (by decide) dL_shoot_44 (ws' := [(ad 0, .inr (7, [.ref (ad 1), .ref (ad 10), .ref (ad 14), .ref (ad 18), .ref (ad 23), .ref (ad 29), .ref (ad 32), .int left, .int lastF])), (ad 10, .inr (3, [.ref (ad 11), .ref (ad 12), .ref (ad 13), .int (nI N), .int wind, .int low, .int forb])), (ad 18, .inr (5, [.ref (ad 19), .ref (ad 20), .ref (ad 21), .ref (ad 22), .int (nI ns)])), (ad 19, .inl (cI, 10, .inl kd)), (ad 20, .inl (cI, 10, .inl fr)), (ad 21, .inl (cI, 10, .inl hor)), (ad 22, .inl (cI, 10, .inl pw)), (ga, .inl (cI, 48, .inl g)), (qa, .inl (cI, 40, .inl (upd (upd q ns (nI (kSm x 3))) (20 + ns) (nI (kSm (x >>> (2 &&& 31)) 3)))))]) rfl ?_
    refine ky_aload_n C 4 dL_shoot_45 rfl rfl ?_
    refine ky_bipush C dL_shoot_46 (v := 30) (by decide) ?_
    refine ky_iload C 0 dL_shoot_48 rfl ?_
    refine ky_iadd C (v := nI (30 + ns)) dL_shoot_50 (nI_add 30 ns) ?_
    refine ky_iconst C dL_shoot_51 (v := 1) (by decide) ?_
    refine ky_iload_n C 2 dL_shoot_52 rfl rfl ?_
    refine ky_bipush C dL_shoot_53 (v := 6) (by decide) ?_
    refine ky_ishr C (v := x >>> (6 &&& 31)) dL_shoot_55 rfl ?_
    refine ky_bipush C dL_shoot_56 (v := 9) (by decide) ?_
    refine ky_callS0 C 2 (kL_some l D cI cS (x >>> (6 &&& 31)) 9 (by omega) (by omega)) gL_shoot_L_some rfl rfl rfl hdL_some.2 ⟨Nat.le_of_ble_eq_true rfl, Nat.le_of_ble_eq_true rfl⟩ rfl rfl (Nat.le_of_ble_eq_true rfl) dL_shoot_58 [] rfl rfl ?_
    rintro _ _ ⟨rfl, rfl⟩
    refine ky_ws (ws' := [(ad 0, .inr (7, [.ref (ad 1), .ref (ad 10), .ref (ad 14), .ref (ad 18), .ref (ad 23), .ref (ad 29), .ref (ad 32), .int left, .int lastF])), (ad 10, .inr (3, [.ref (ad 11), .ref (ad 12), .ref (ad 13), .int (nI N), .int wind, .int low, .int forb])), (ad 18, .inr (5, [.ref (ad 19), .ref (ad 20), .ref (ad 21), .ref (ad 22), .int (nI ns)])), (ad 19, .inl (cI, 10, .inl kd)), (ad 20, .inl (cI, 10, .inl fr)), (ad 21, .inl (cI, 10, .inl hor)), (ad 22, .inl (cI, 10, .inl pw)), (ga, .inl (cI, 48, .inl g)), (qa, .inl (cI, 40, .inl (upd (upd q ns (nI (kSm x 3))) (20 + ns) (nI (kSm (x >>> (2 &&& 31)) 3)))))]) (st' := [.int (nI (kSm (x >>> (6 &&& 31)) 9)), .int 1, .int (nI (30 + ns)), .ref qa]) rfl rfl ?_
    have hs_58 : kSm (x >>> (6 &&& 31)) 9 < 9 := kSm_lt _ (by omega)
    refine ky_iadd C (v := nI (1 + kSm (x >>> (6 &&& 31)) 9)) dL_shoot_61 (nI_add 1 (kSm (x >>> (6 &&& 31)) 9)) ?_
    refine ky_iastN C 8 (k := 30 + ns) rfl (by omega) (by decide) dL_shoot_62 (ws' := [(ad 0, .inr (7, [.ref (ad 1), .ref (ad 10), .ref (ad 14), .ref (ad 18), .ref (ad 23), .ref (ad 29), .ref (ad 32), .int left, .int lastF])), (ad 10, .inr (3, [.ref (ad 11), .ref (ad 12), .ref (ad 13), .int (nI N), .int wind, .int low, .int forb])), (ad 18, .inr (5, [.ref (ad 19), .ref (ad 20), .ref (ad 21), .ref (ad 22), .int (nI ns)])), (ad 19, .inl (cI, 10, .inl kd)), (ad 20, .inl (cI, 10, .inl fr)), (ad 21, .inl (cI, 10, .inl hor)), (ad 22, .inl (cI, 10, .inl pw)), (ga, .inl (cI, 48, .inl g)), (qa, .inl (cI, 40, .inl (upd (upd (upd q ns (nI (kSm x 3))) (20 + ns) (nI (kSm (x >>> (2 &&& 31)) 3))) (30 + ns) (nI (1 + kSm (x >>> (6 &&& 31)) 9)))))]) rfl ?_
    refine ky_aload_n C 4 dL_shoot_63 rfl rfl ?_
    refine ky_bipush C dL_shoot_64 (v := 10) (by decide) ?_
    refine ky_iload C 0 dL_shoot_66 rfl ?_
    refine ky_iadd C (v := nI (10 + ns)) dL_shoot_68 (nI_add 10 ns) ?_
    refine ky_iload_n C 2 dL_shoot_69 rfl rfl ?_
    refine ky_bipush C dL_shoot_70 (v := 10) (by decide) ?_
    refine ky_ishr C (v := x >>> (10 &&& 31)) dL_shoot_72 rfl ?_
    refine ky_aload_n C 3 dL_shoot_73 rfl rfl ?_
    refine ky_iconst C dL_shoot_74 (v := 0) (by decide) ?_
    refine ky_ialdN C 7 (k := 0) rfl (by omega) (by decide) dL_shoot_75 (v := nI N) hg0 ?_
    refine ky_callS0 C 2 (kL_some l D cI cS (x >>> (10 &&& 31)) N (by omega) (by omega)) gL_shoot_L_some rfl rfl rfl hdL_some.2 ⟨Nat.le_of_ble_eq_true rfl, Nat.le_of_ble_eq_true rfl⟩ rfl rfl (Nat.le_of_ble_eq_true rfl) dL_shoot_76 [] rfl rfl ?_
    rintro _ _ ⟨rfl, rfl⟩
    refine ky_ws (ws' := [(ad 0, .inr (7, [.ref (ad 1), .ref (ad 10), .ref (ad 14), .ref (ad 18), .ref (ad 23), .ref (ad 29), .ref (ad 32), .int left, .int lastF])), (ad 10, .inr (3, [.ref (ad 11), .ref (ad 12), .ref (ad 13), .int (nI N), .int wind, .int low, .int forb])), (ad 18, .inr (5, [.ref (ad 19), .ref (ad 20), .ref (ad 21), .ref (ad 22), .int (nI ns)])), (ad 19, .inl (cI, 10, .inl kd)), (ad 20, .inl (cI, 10, .inl fr)), (ad 21, .inl (cI, 10, .inl hor)), (ad 22, .inl (cI, 10, .inl pw)), (ga, .inl (cI, 48, .inl g)), (qa, .inl (cI, 40, .inl (upd (upd (upd q ns (nI (kSm x 3))) (20 + ns) (nI (kSm (x >>> (2 &&& 31)) 3))) (30 + ns) (nI (1 + kSm (x >>> (6 &&& 31)) 9)))))]) (st' := [.int (nI (kSm (x >>> (10 &&& 31)) N)), .int (nI (10 + ns)), .ref qa]) rfl rfl ?_
    have hs_76 : kSm (x >>> (10 &&& 31)) N < N := kSm_lt _ (by omega)
    refine ky_iastN C 8 (k := 10 + ns) rfl (by omega) (by decide) dL_shoot_79 (ws' := [(ad 0, .inr (7, [.ref (ad 1), .ref (ad 10), .ref (ad 14), .ref (ad 18), .ref (ad 23), .ref (ad 29), .ref (ad 32), .int left, .int lastF])), (ad 10, .inr (3, [.ref (ad 11), .ref (ad 12), .ref (ad 13), .int (nI N), .int wind, .int low, .int forb])), (ad 18, .inr (5, [.ref (ad 19), .ref (ad 20), .ref (ad 21), .ref (ad 22), .int (nI ns)])), (ad 19, .inl (cI, 10, .inl kd)), (ad 20, .inl (cI, 10, .inl fr)), (ad 21, .inl (cI, 10, .inl hor)), (ad 22, .inl (cI, 10, .inl pw)), (ga, .inl (cI, 48, .inl g)), (qa, .inl (cI, 40, .inl (upd (upd (upd (upd q ns (nI (kSm x 3))) (20 + ns) (nI (kSm (x >>> (2 &&& 31)) 3))) (30 + ns) (nI (1 + kSm (x >>> (6 &&& 31)) 9))) (10 + ns) (nI (kSm (x >>> (10 &&& 31)) N)))))]) rfl ?_
    refine ky_aload_n C 3 dL_shoot_80 rfl rfl ?_
    refine ky_bipush C dL_shoot_81 (v := 29) (by decide) ?_
    refine ky_iload_n C 2 dL_shoot_83 rfl rfl ?_
    refine ky_bipush C dL_shoot_84 (v := 15) (by decide) ?_
    refine ky_ishr C (v := x >>> (15 &&& 31)) dL_shoot_86 rfl ?_
    refine ky_aload_n C 3 dL_shoot_87 rfl rfl ?_
    refine ky_bipush C dL_shoot_88 (v := 28) (by decide) ?_
    refine ky_ialdN C 7 (k := 28) rfl (by omega) (by decide) dL_shoot_90 (v := nI nc) hg28 ?_
    refine ky_callS0 C 2 (kL_some l D cI cS (x >>> (15 &&& 31)) nc (by omega) (by omega)) gL_shoot_L_some rfl rfl rfl hdL_some.2 ⟨Nat.le_of_ble_eq_true rfl, Nat.le_of_ble_eq_true rfl⟩ rfl rfl (Nat.le_of_ble_eq_true rfl) dL_shoot_91 [] rfl rfl ?_
    rintro _ _ ⟨rfl, rfl⟩
    refine ky_ws (ws' := [(ad 0, .inr (7, [.ref (ad 1), .ref (ad 10), .ref (ad 14), .ref (ad 18), .ref (ad 23), .ref (ad 29), .ref (ad 32), .int left, .int lastF])), (ad 10, .inr (3, [.ref (ad 11), .ref (ad 12), .ref (ad 13), .int (nI N), .int wind, .int low, .int forb])), (ad 18, .inr (5, [.ref (ad 19), .ref (ad 20), .ref (ad 21), .ref (ad 22), .int (nI ns)])), (ad 19, .inl (cI, 10, .inl kd)), (ad 20, .inl (cI, 10, .inl fr)), (ad 21, .inl (cI, 10, .inl hor)), (ad 22, .inl (cI, 10, .inl pw)), (ga, .inl (cI, 48, .inl g)), (qa, .inl (cI, 40, .inl (upd (upd (upd (upd q ns (nI (kSm x 3))) (20 + ns) (nI (kSm (x >>> (2 &&& 31)) 3))) (30 + ns) (nI (1 + kSm (x >>> (6 &&& 31)) 9))) (10 + ns) (nI (kSm (x >>> (10 &&& 31)) N)))))]) (st' := [.int (nI (kSm (x >>> (15 &&& 31)) nc)), .int 29, .ref ga]) rfl rfl ?_
    have hs_91 : kSm (x >>> (15 &&& 31)) nc < nc := kSm_lt _ (by omega)
    refine ky_iadd C (v := nI (29 + kSm (x >>> (15 &&& 31)) nc)) dL_shoot_94 (nI_add 29 (kSm (x >>> (15 &&& 31)) nc)) ?_
    refine ky_ialdN C 7 (k := 29 + kSm (x >>> (15 &&& 31)) nc) rfl (by have := kSm_lt (x >>> ((15 : Int32) &&& 31)) (show 0 < nc by omega); omega) (by decide) dL_shoot_95 (v := g (29 + kSm (x >>> (15 &&& 31)) nc)) rfl ?_
    refine ky_aload_n C 3 dL_shoot_96 rfl rfl ?_
    refine ky_bipush C dL_shoot_97 (v := 25) (by decide) ?_
    refine ky_ialdN C 7 (k := 25) rfl (by omega) (by decide) dL_shoot_99 (v := g 25) rfl ?_
    refine ky_aload_n C 4 dL_shoot_100 rfl rfl ?_
    refine ky_bipush C dL_shoot_101 (v := 20) (by decide) ?_
    refine ky_iload C 0 dL_shoot_103 rfl ?_
    refine ky_iadd C (v := nI (20 + ns)) dL_shoot_105 (nI_add 20 ns) ?_
    refine ky_ialdN C 8 (k := 20 + ns) rfl (by omega) (by decide) dL_shoot_106 (v := nI (kSm (x >>> (2 &&& 31)) 3)) (by repeat (first | rw [pk_us] | rw [pk_un (by omega)])) ?_
    refine ky_imul C (v := (g 25) * (nI (kSm (x >>> (2 &&& 31)) 3))) dL_shoot_107 rfl ?_
    refine ky_iadd C (v := (g (29 + kSm (x >>> (15 &&& 31)) nc)) + ((g 25) * (nI (kSm (x >>> (2 &&& 31)) 3)))) dL_shoot_108 rfl ?_
    refine ky_istore C (lv' := [(5, .int ((g (29 + kSm (x >>> (15 &&& 31)) nc)) + ((g 25) * (nI (kSm (x >>> (2 &&& 31)) 3))))), (4, .int (nI ns)), (0, .ref (ad 0)), (1, .int x), (2, .ref ga), (3, .ref qa)]) dL_shoot_109 (by decide) rfl ?_
    refine ky_iload_n C 3 dL_shoot_111 rfl rfl ?_
    refine ky_bipush C dL_shoot_112 (v := 18) (by decide) ?_
    refine ky_ishr C (v := x >>> (18 &&& 31)) dL_shoot_114 rfl ?_
    refine ky_iconst C dL_shoot_115 (v := 3) (by decide) ?_
    refine ky_callS0 C 2 (kL_some l D cI cS (x >>> (18 &&& 31)) 3 (by omega) (by omega)) gL_shoot_L_some rfl rfl rfl hdL_some.2 ⟨Nat.le_of_ble_eq_true rfl, Nat.le_of_ble_eq_true rfl⟩ rfl rfl (Nat.le_of_ble_eq_true rfl) dL_shoot_116 [] rfl rfl ?_
    rintro _ _ ⟨rfl, rfl⟩
    refine ky_ws (ws' := [(ad 0, .inr (7, [.ref (ad 1), .ref (ad 10), .ref (ad 14), .ref (ad 18), .ref (ad 23), .ref (ad 29), .ref (ad 32), .int left, .int lastF])), (ad 10, .inr (3, [.ref (ad 11), .ref (ad 12), .ref (ad 13), .int (nI N), .int wind, .int low, .int forb])), (ad 18, .inr (5, [.ref (ad 19), .ref (ad 20), .ref (ad 21), .ref (ad 22), .int (nI ns)])), (ad 19, .inl (cI, 10, .inl kd)), (ad 20, .inl (cI, 10, .inl fr)), (ad 21, .inl (cI, 10, .inl hor)), (ad 22, .inl (cI, 10, .inl pw)), (ga, .inl (cI, 48, .inl g)), (qa, .inl (cI, 40, .inl (upd (upd (upd (upd q ns (nI (kSm x 3))) (20 + ns) (nI (kSm (x >>> (2 &&& 31)) 3))) (30 + ns) (nI (1 + kSm (x >>> (6 &&& 31)) 9))) (10 + ns) (nI (kSm (x >>> (10 &&& 31)) N)))))]) (st' := [.int (nI (kSm (x >>> (18 &&& 31)) 3))]) rfl rfl ?_
    have hs_116 : kSm (x >>> (18 &&& 31)) 3 < 3 := kSm_lt _ (by omega)
    refine ky_if_le C 144 dL_shoot_119 (by decide) (fun c_119 => ?_) (fun c_119 => ?_)
    · have d_119 := Int32.not_lt.mpr c_119
      have n_119 := kn_le (a := kSm (x >>> (18 &&& 31)) 3) (b := 0) (by omega) (by omega) c_119
      have m_119 := Nat.not_lt.mpr n_119
      refine ky_aload_n C 2 dL_shoot_144 rfl rfl ?_
      refine ky_aload_n C 5 dL_shoot_145 rfl rfl ?_
      refine ky_iload C 1 dL_shoot_146 rfl ?_
      refine ky_ialdN C 8 (k := ns) rfl (by omega) (by decide) dL_shoot_148 (v := nI (kSm x 3)) (by repeat (first | rw [pk_us] | rw [pk_un (by omega)])) ?_
      refine ky_aload_n C 5 dL_shoot_149 rfl rfl ?_
      refine ky_bipush C dL_shoot_150 (v := 10) (by decide) ?_
      refine ky_iload C 1 dL_shoot_152 rfl ?_
      refine ky_iadd C (v := nI (10 + ns)) dL_shoot_154 (nI_add 10 ns) ?_
      refine ky_ialdN C 8 (k := 10 + ns) rfl (by omega) (by decide) dL_shoot_155 (v := nI (kSm (x >>> (10 &&& 31)) N)) (by repeat (first | rw [pk_us] | rw [pk_un (by omega)])) ?_
      refine ky_aload_n C 5 dL_shoot_156 rfl rfl ?_
      refine ky_bipush C dL_shoot_157 (v := 20) (by decide) ?_
      refine ky_iload C 1 dL_shoot_159 rfl ?_
      refine ky_iadd C (v := nI (20 + ns)) dL_shoot_161 (nI_add 20 ns) ?_
      refine ky_ialdN C 8 (k := 20 + ns) rfl (by omega) (by decide) dL_shoot_162 (v := nI (kSm (x >>> (2 &&& 31)) 3)) (by repeat (first | rw [pk_us] | rw [pk_un (by omega)])) ?_
      refine ky_aload_n C 5 dL_shoot_163 rfl rfl ?_
      refine ky_bipush C dL_shoot_164 (v := 30) (by decide) ?_
      refine ky_iload C 1 dL_shoot_166 rfl ?_
      refine ky_iadd C (v := nI (30 + ns)) dL_shoot_168 (nI_add 30 ns) ?_
      refine ky_ialdN C 8 (k := 30 + ns) rfl (by omega) (by decide) dL_shoot_169 (v := nI (1 + kSm (x >>> (6 &&& 31)) 9)) (by repeat (first | rw [pk_us] | rw [pk_un (by omega)])) ?_
      refine ky_callV0 C 4 (kX7_shot l D cI cS ad left lastF N wind low forb ns kd fr hor pw (nI (kSm x 3)) (nI (kSm (x >>> (10 &&& 31)) N)) (nI (kSm (x >>> (2 &&& 31)) 3)) (nI (1 + kSm (x >>> (6 &&& 31)) 9)) (by first | assumption | omega) (by first | assumption | omega)) gL_shoot_X7_shot rfl rfl rfl hdX7_shot 0 7 rfl rfl rfl ⟨Nat.le_of_ble_eq_true rfl, Nat.le_of_ble_eq_true rfl⟩ rfl rfl (Nat.le_of_ble_eq_true rfl) dL_shoot_170 [0, 1, 2, 3, 4, 5, 6] rfl rfl ?_
      rintro _ _ ⟨r2_170, ns2_170, kd2_170, fr2_170, hor2_170, pw2_170, rfl, rfl, hF_170⟩
      refine ky_ws (ws' := [(ad 0, .inr (7, [.ref (ad 1), .ref (ad 10), .ref (ad 14), .ref (ad 18), .ref (ad 23), .ref (ad 29), .ref (ad 32), .int left, .int lastF])), (ad 10, .inr (3, [.ref (ad 11), .ref (ad 12), .ref (ad 13), .int (nI N), .int wind, .int low, .int forb])), (ad 18, .inr (5, [.ref (ad 19), .ref (ad 20), .ref (ad 21), .ref (ad 22), .int (nI ns2_170)])), (ad 19, .inl (cI, 10, .inl kd2_170)), (ad 20, .inl (cI, 10, .inl fr2_170)), (ad 21, .inl (cI, 10, .inl hor2_170)), (ad 22, .inl (cI, 10, .inl pw2_170)), (ga, .inl (cI, 48, .inl g)), (qa, .inl (cI, 40, .inl (upd (upd (upd (upd q ns (nI (kSm x 3))) (20 + ns) (nI (kSm (x >>> (2 &&& 31)) 3))) (30 + ns) (nI (1 + kSm (x >>> (6 &&& 31)) 9))) (10 + ns) (nI (kSm (x >>> (10 &&& 31)) N)))))]) (st' := [.int r2_170]) rfl rfl ?_
      have hf9 : (0 : Int32) ≤ (nI (kSm (x >>> (10 &&& 31)) N)) ∧ (nI (kSm (x >>> (10 &&& 31)) N)) < nI N := ⟨nI_pos' (by have := kSm_lt (x >>> ((10 : Int32) &&& 31)) (show 0 < N by omega); omega), nI_lt (kSm_lt _ (by omega)) (by omega)⟩
      have hE_170 := hF_170.trans (kShot_go hf9 (show kSm x 3 ≤ 2 from Nat.le_of_lt_succ (kSm_lt x (by decide))) (show kSm (x >>> (2 &&& 31)) 3 ≤ 11 from Nat.le_trans (Nat.le_of_lt_succ (kSm_lt _ (show 0 < 3 by decide))) (by decide)) (show 1 ≤ 1 + kSm (x >>> (6 &&& 31)) 9 ∧ 1 + kSm (x >>> (6 &&& 31)) 9 ≤ 9 from ⟨by omega, by have := kSm_lt (x >>> ((6 : Int32) &&& 31)) (show 0 < 9 by decide); omega⟩) (show ns < 8 by omega))
      simp only [Prod.mk.injEq] at hE_170
      obtain ⟨rfl, rfl, rfl, rfl, rfl, rfl⟩ := hE_170
      refine ky_iload C 1 dL_shoot_173 rfl ?_
      refine ky_icmp_eq C 180 dL_shoot_175 (by decide) (fun c_175 => ?_) (fun q => absurd rfl q)
      refine ky_aload_n C 4 dL_shoot_180 rfl rfl ?_
      refine ky_bipush C dL_shoot_181 (v := 47) (by decide) ?_
      refine ky_dup2 C dL_shoot_183 rfl rfl ?_
      refine ky_ialdN C 7 (k := 47) rfl (by omega) (by decide) dL_shoot_184 (v := nI ns) hg47 ?_
      refine ky_iconst C dL_shoot_185 (v := 1) (by decide) ?_
      refine ky_iadd C (v := nI (ns + 1)) dL_shoot_186 (nI_add ns 1) ?_
      refine ky_iastN C 7 (k := 47) rfl (by omega) (by decide) dL_shoot_187 (ws' := [(ad 0, .inr (7, [.ref (ad 1), .ref (ad 10), .ref (ad 14), .ref (ad 18), .ref (ad 23), .ref (ad 29), .ref (ad 32), .int left, .int lastF])), (ad 10, .inr (3, [.ref (ad 11), .ref (ad 12), .ref (ad 13), .int (nI N), .int wind, .int low, .int forb])), (ad 18, .inr (5, [.ref (ad 19), .ref (ad 20), .ref (ad 21), .ref (ad 22), .int (nI (ns + 1))])), (ad 19, .inl (cI, 10, .inl (upd kd ns (nI (kSm x 3))))), (ad 20, .inl (cI, 10, .inl (upd fr ns (nI (kSm (x >>> (10 &&& 31)) N))))), (ad 21, .inl (cI, 10, .inl (upd hor ns (nI (kSm (x >>> (2 &&& 31)) 3))))), (ad 22, .inl (cI, 10, .inl (upd pw ns (nI (1 + kSm (x >>> (6 &&& 31)) 9))))), (ga, .inl (cI, 48, .inl (upd g 47 (nI (ns + 1))))), (qa, .inl (cI, 40, .inl (upd (upd (upd (upd q ns (nI (kSm x 3))) (20 + ns) (nI (kSm (x >>> (2 &&& 31)) 3))) (30 + ns) (nI (1 + kSm (x >>> (6 &&& 31)) 9))) (10 + ns) (nI (kSm (x >>> (10 &&& 31)) N)))))]) rfl ?_
      refine ky_iconst C dL_shoot_188 (v := 1) (by decide) ?_
      exact ky_zret C hr hlk rfl ⟨(nI (kSm (x >>> (10 &&& 31)) N)), (kSm x 3), (kSm (x >>> (2 &&& 31)) 3), (1 + kSm (x >>> (6 &&& 31)) 9), (upd (upd (upd (upd q ns (nI (kSm x 3))) (20 + ns) (nI (kSm (x >>> (2 &&& 31)) 3))) (30 + ns) (nI (1 + kSm (x >>> (6 &&& 31)) 9))) (10 + ns) (nI (kSm (x >>> (10 &&& 31)) N))), rfl, rfl, (Nat.le_of_lt_succ (kSm_lt x (by decide))), (by first | exact Nat.le_of_lt_succ (kSm_lt _ (by decide)) | exact Nat.le_trans (Nat.le_of_lt_succ (kSm_lt _ (show 0 < 3 by decide))) (by decide)), ⟨by omega, by have := kSm_lt (x >>> ((6 : Int32) &&& 31)) (show 0 < 9 by decide); omega⟩, hf9, ⟨(by repeat (first | rw [pk_us] | rw [pk_un (by omega)])), (by repeat (first | rw [pk_us] | rw [pk_un (by omega)])), (by repeat (first | rw [pk_us] | rw [pk_un (by omega)])), (by repeat (first | rw [pk_us] | rw [pk_un (by omega)])), fun j e1 e2 e3 e4 => (by repeat (first | rw [pk_us] | rw [pk_un (by omega)]))⟩⟩ (Nat.le_of_ble_eq_true rfl) dL_shoot_189
    · have d_119 := Int32.not_le.mp c_119
      have n_119 := kn_nle (a := kSm (x >>> (18 &&& 31)) 3) (b := 0) (by omega) (by omega) c_119
      have m_119 := Nat.not_le.mpr n_119
      refine ky_iload C 0 dL_shoot_122 rfl ?_
      refine ky_if_lt C 144 dL_shoot_124 (by decide) (fun c_124 => ?_) (fun c_124 => ?_)
      · have d_124 := Int32.not_le.mpr c_124
        refine ky_aload_n C 2 dL_shoot_144 rfl rfl ?_
        refine ky_aload_n C 5 dL_shoot_145 rfl rfl ?_
        refine ky_iload C 1 dL_shoot_146 rfl ?_
        refine ky_ialdN C 8 (k := ns) rfl (by omega) (by decide) dL_shoot_148 (v := nI (kSm x 3)) (by repeat (first | rw [pk_us] | rw [pk_un (by omega)])) ?_
        refine ky_aload_n C 5 dL_shoot_149 rfl rfl ?_
        refine ky_bipush C dL_shoot_150 (v := 10) (by decide) ?_
        refine ky_iload C 1 dL_shoot_152 rfl ?_
        refine ky_iadd C (v := nI (10 + ns)) dL_shoot_154 (nI_add 10 ns) ?_
        refine ky_ialdN C 8 (k := 10 + ns) rfl (by omega) (by decide) dL_shoot_155 (v := nI (kSm (x >>> (10 &&& 31)) N)) (by repeat (first | rw [pk_us] | rw [pk_un (by omega)])) ?_
        refine ky_aload_n C 5 dL_shoot_156 rfl rfl ?_
        refine ky_bipush C dL_shoot_157 (v := 20) (by decide) ?_
        refine ky_iload C 1 dL_shoot_159 rfl ?_
        refine ky_iadd C (v := nI (20 + ns)) dL_shoot_161 (nI_add 20 ns) ?_
        refine ky_ialdN C 8 (k := 20 + ns) rfl (by omega) (by decide) dL_shoot_162 (v := nI (kSm (x >>> (2 &&& 31)) 3)) (by repeat (first | rw [pk_us] | rw [pk_un (by omega)])) ?_
        refine ky_aload_n C 5 dL_shoot_163 rfl rfl ?_
        refine ky_bipush C dL_shoot_164 (v := 30) (by decide) ?_
        refine ky_iload C 1 dL_shoot_166 rfl ?_
        refine ky_iadd C (v := nI (30 + ns)) dL_shoot_168 (nI_add 30 ns) ?_
        refine ky_ialdN C 8 (k := 30 + ns) rfl (by omega) (by decide) dL_shoot_169 (v := nI (1 + kSm (x >>> (6 &&& 31)) 9)) (by repeat (first | rw [pk_us] | rw [pk_un (by omega)])) ?_
        refine ky_callV0 C 4 (kX7_shot l D cI cS ad left lastF N wind low forb ns kd fr hor pw (nI (kSm x 3)) (nI (kSm (x >>> (10 &&& 31)) N)) (nI (kSm (x >>> (2 &&& 31)) 3)) (nI (1 + kSm (x >>> (6 &&& 31)) 9)) (by first | assumption | omega) (by first | assumption | omega)) gL_shoot_X7_shot rfl rfl rfl hdX7_shot 0 7 rfl rfl rfl ⟨Nat.le_of_ble_eq_true rfl, Nat.le_of_ble_eq_true rfl⟩ rfl rfl (Nat.le_of_ble_eq_true rfl) dL_shoot_170 [0, 1, 2, 3, 4, 5, 6] rfl rfl ?_
        rintro _ _ ⟨r2_170, ns2_170, kd2_170, fr2_170, hor2_170, pw2_170, rfl, rfl, hF_170⟩
        refine ky_ws (ws' := [(ad 0, .inr (7, [.ref (ad 1), .ref (ad 10), .ref (ad 14), .ref (ad 18), .ref (ad 23), .ref (ad 29), .ref (ad 32), .int left, .int lastF])), (ad 10, .inr (3, [.ref (ad 11), .ref (ad 12), .ref (ad 13), .int (nI N), .int wind, .int low, .int forb])), (ad 18, .inr (5, [.ref (ad 19), .ref (ad 20), .ref (ad 21), .ref (ad 22), .int (nI ns2_170)])), (ad 19, .inl (cI, 10, .inl kd2_170)), (ad 20, .inl (cI, 10, .inl fr2_170)), (ad 21, .inl (cI, 10, .inl hor2_170)), (ad 22, .inl (cI, 10, .inl pw2_170)), (ga, .inl (cI, 48, .inl g)), (qa, .inl (cI, 40, .inl (upd (upd (upd (upd q ns (nI (kSm x 3))) (20 + ns) (nI (kSm (x >>> (2 &&& 31)) 3))) (30 + ns) (nI (1 + kSm (x >>> (6 &&& 31)) 9))) (10 + ns) (nI (kSm (x >>> (10 &&& 31)) N)))))]) (st' := [.int r2_170]) rfl rfl ?_
        have hf9 : (0 : Int32) ≤ (nI (kSm (x >>> (10 &&& 31)) N)) ∧ (nI (kSm (x >>> (10 &&& 31)) N)) < nI N := ⟨nI_pos' (by have := kSm_lt (x >>> ((10 : Int32) &&& 31)) (show 0 < N by omega); omega), nI_lt (kSm_lt _ (by omega)) (by omega)⟩
        have hE_170 := hF_170.trans (kShot_go hf9 (show kSm x 3 ≤ 2 from Nat.le_of_lt_succ (kSm_lt x (by decide))) (show kSm (x >>> (2 &&& 31)) 3 ≤ 11 from Nat.le_trans (Nat.le_of_lt_succ (kSm_lt _ (show 0 < 3 by decide))) (by decide)) (show 1 ≤ 1 + kSm (x >>> (6 &&& 31)) 9 ∧ 1 + kSm (x >>> (6 &&& 31)) 9 ≤ 9 from ⟨by omega, by have := kSm_lt (x >>> ((6 : Int32) &&& 31)) (show 0 < 9 by decide); omega⟩) (show ns < 8 by omega))
        simp only [Prod.mk.injEq] at hE_170
        obtain ⟨rfl, rfl, rfl, rfl, rfl, rfl⟩ := hE_170
        refine ky_iload C 1 dL_shoot_173 rfl ?_
        refine ky_icmp_eq C 180 dL_shoot_175 (by decide) (fun c_175 => ?_) (fun q => absurd rfl q)
        refine ky_aload_n C 4 dL_shoot_180 rfl rfl ?_
        refine ky_bipush C dL_shoot_181 (v := 47) (by decide) ?_
        refine ky_dup2 C dL_shoot_183 rfl rfl ?_
        refine ky_ialdN C 7 (k := 47) rfl (by omega) (by decide) dL_shoot_184 (v := nI ns) hg47 ?_
        refine ky_iconst C dL_shoot_185 (v := 1) (by decide) ?_
        refine ky_iadd C (v := nI (ns + 1)) dL_shoot_186 (nI_add ns 1) ?_
        refine ky_iastN C 7 (k := 47) rfl (by omega) (by decide) dL_shoot_187 (ws' := [(ad 0, .inr (7, [.ref (ad 1), .ref (ad 10), .ref (ad 14), .ref (ad 18), .ref (ad 23), .ref (ad 29), .ref (ad 32), .int left, .int lastF])), (ad 10, .inr (3, [.ref (ad 11), .ref (ad 12), .ref (ad 13), .int (nI N), .int wind, .int low, .int forb])), (ad 18, .inr (5, [.ref (ad 19), .ref (ad 20), .ref (ad 21), .ref (ad 22), .int (nI (ns + 1))])), (ad 19, .inl (cI, 10, .inl (upd kd ns (nI (kSm x 3))))), (ad 20, .inl (cI, 10, .inl (upd fr ns (nI (kSm (x >>> (10 &&& 31)) N))))), (ad 21, .inl (cI, 10, .inl (upd hor ns (nI (kSm (x >>> (2 &&& 31)) 3))))), (ad 22, .inl (cI, 10, .inl (upd pw ns (nI (1 + kSm (x >>> (6 &&& 31)) 9))))), (ga, .inl (cI, 48, .inl (upd g 47 (nI (ns + 1))))), (qa, .inl (cI, 40, .inl (upd (upd (upd (upd q ns (nI (kSm x 3))) (20 + ns) (nI (kSm (x >>> (2 &&& 31)) 3))) (30 + ns) (nI (1 + kSm (x >>> (6 &&& 31)) 9))) (10 + ns) (nI (kSm (x >>> (10 &&& 31)) N)))))]) rfl ?_
        refine ky_iconst C dL_shoot_188 (v := 1) (by decide) ?_
        exact ky_zret C hr hlk rfl ⟨(nI (kSm (x >>> (10 &&& 31)) N)), (kSm x 3), (kSm (x >>> (2 &&& 31)) 3), (1 + kSm (x >>> (6 &&& 31)) 9), (upd (upd (upd (upd q ns (nI (kSm x 3))) (20 + ns) (nI (kSm (x >>> (2 &&& 31)) 3))) (30 + ns) (nI (1 + kSm (x >>> (6 &&& 31)) 9))) (10 + ns) (nI (kSm (x >>> (10 &&& 31)) N))), rfl, rfl, (Nat.le_of_lt_succ (kSm_lt x (by decide))), (by first | exact Nat.le_of_lt_succ (kSm_lt _ (by decide)) | exact Nat.le_trans (Nat.le_of_lt_succ (kSm_lt _ (show 0 < 3 by decide))) (by decide)), ⟨by omega, by have := kSm_lt (x >>> ((6 : Int32) &&& 31)) (show 0 < 9 by decide); omega⟩, hf9, ⟨(by repeat (first | rw [pk_us] | rw [pk_un (by omega)])), (by repeat (first | rw [pk_us] | rw [pk_un (by omega)])), (by repeat (first | rw [pk_us] | rw [pk_un (by omega)])), (by repeat (first | rw [pk_us] | rw [pk_un (by omega)])), fun j e1 e2 e3 e4 => (by repeat (first | rw [pk_us] | rw [pk_un (by omega)]))⟩⟩ (Nat.le_of_ble_eq_true rfl) dL_shoot_189
      · have d_124 := Int32.not_lt.mp c_124
        refine ky_iload C 0 dL_shoot_127 rfl ?_
        refine ky_aload_n C 4 dL_shoot_129 rfl rfl ?_
        refine ky_iconst C dL_shoot_130 (v := 0) (by decide) ?_
        refine ky_ialdN C 7 (k := 0) rfl (by omega) (by decide) dL_shoot_131 (v := nI N) hg0 ?_
        refine ky_icmp_ge C 144 dL_shoot_132 (by decide) (fun c_132 => ?_) (fun c_132 => ?_)
        · have d_132 := Int32.not_lt.mpr c_132
          refine ky_aload_n C 2 dL_shoot_144 rfl rfl ?_
          refine ky_aload_n C 5 dL_shoot_145 rfl rfl ?_
          refine ky_iload C 1 dL_shoot_146 rfl ?_
          refine ky_ialdN C 8 (k := ns) rfl (by omega) (by decide) dL_shoot_148 (v := nI (kSm x 3)) (by repeat (first | rw [pk_us] | rw [pk_un (by omega)])) ?_
          refine ky_aload_n C 5 dL_shoot_149 rfl rfl ?_
          refine ky_bipush C dL_shoot_150 (v := 10) (by decide) ?_
          refine ky_iload C 1 dL_shoot_152 rfl ?_
          refine ky_iadd C (v := nI (10 + ns)) dL_shoot_154 (nI_add 10 ns) ?_
          refine ky_ialdN C 8 (k := 10 + ns) rfl (by omega) (by decide) dL_shoot_155 (v := nI (kSm (x >>> (10 &&& 31)) N)) (by repeat (first | rw [pk_us] | rw [pk_un (by omega)])) ?_
          refine ky_aload_n C 5 dL_shoot_156 rfl rfl ?_
          refine ky_bipush C dL_shoot_157 (v := 20) (by decide) ?_
          refine ky_iload C 1 dL_shoot_159 rfl ?_
          refine ky_iadd C (v := nI (20 + ns)) dL_shoot_161 (nI_add 20 ns) ?_
          refine ky_ialdN C 8 (k := 20 + ns) rfl (by omega) (by decide) dL_shoot_162 (v := nI (kSm (x >>> (2 &&& 31)) 3)) (by repeat (first | rw [pk_us] | rw [pk_un (by omega)])) ?_
          refine ky_aload_n C 5 dL_shoot_163 rfl rfl ?_
          refine ky_bipush C dL_shoot_164 (v := 30) (by decide) ?_
          refine ky_iload C 1 dL_shoot_166 rfl ?_
          refine ky_iadd C (v := nI (30 + ns)) dL_shoot_168 (nI_add 30 ns) ?_
          refine ky_ialdN C 8 (k := 30 + ns) rfl (by omega) (by decide) dL_shoot_169 (v := nI (1 + kSm (x >>> (6 &&& 31)) 9)) (by repeat (first | rw [pk_us] | rw [pk_un (by omega)])) ?_
          refine ky_callV0 C 4 (kX7_shot l D cI cS ad left lastF N wind low forb ns kd fr hor pw (nI (kSm x 3)) (nI (kSm (x >>> (10 &&& 31)) N)) (nI (kSm (x >>> (2 &&& 31)) 3)) (nI (1 + kSm (x >>> (6 &&& 31)) 9)) (by first | assumption | omega) (by first | assumption | omega)) gL_shoot_X7_shot rfl rfl rfl hdX7_shot 0 7 rfl rfl rfl ⟨Nat.le_of_ble_eq_true rfl, Nat.le_of_ble_eq_true rfl⟩ rfl rfl (Nat.le_of_ble_eq_true rfl) dL_shoot_170 [0, 1, 2, 3, 4, 5, 6] rfl rfl ?_
          rintro _ _ ⟨r2_170, ns2_170, kd2_170, fr2_170, hor2_170, pw2_170, rfl, rfl, hF_170⟩
          refine ky_ws (ws' := [(ad 0, .inr (7, [.ref (ad 1), .ref (ad 10), .ref (ad 14), .ref (ad 18), .ref (ad 23), .ref (ad 29), .ref (ad 32), .int left, .int lastF])), (ad 10, .inr (3, [.ref (ad 11), .ref (ad 12), .ref (ad 13), .int (nI N), .int wind, .int low, .int forb])), (ad 18, .inr (5, [.ref (ad 19), .ref (ad 20), .ref (ad 21), .ref (ad 22), .int (nI ns2_170)])), (ad 19, .inl (cI, 10, .inl kd2_170)), (ad 20, .inl (cI, 10, .inl fr2_170)), (ad 21, .inl (cI, 10, .inl hor2_170)), (ad 22, .inl (cI, 10, .inl pw2_170)), (ga, .inl (cI, 48, .inl g)), (qa, .inl (cI, 40, .inl (upd (upd (upd (upd q ns (nI (kSm x 3))) (20 + ns) (nI (kSm (x >>> (2 &&& 31)) 3))) (30 + ns) (nI (1 + kSm (x >>> (6 &&& 31)) 9))) (10 + ns) (nI (kSm (x >>> (10 &&& 31)) N)))))]) (st' := [.int r2_170]) rfl rfl ?_
          have hf9 : (0 : Int32) ≤ (nI (kSm (x >>> (10 &&& 31)) N)) ∧ (nI (kSm (x >>> (10 &&& 31)) N)) < nI N := ⟨nI_pos' (by have := kSm_lt (x >>> ((10 : Int32) &&& 31)) (show 0 < N by omega); omega), nI_lt (kSm_lt _ (by omega)) (by omega)⟩
          have hE_170 := hF_170.trans (kShot_go hf9 (show kSm x 3 ≤ 2 from Nat.le_of_lt_succ (kSm_lt x (by decide))) (show kSm (x >>> (2 &&& 31)) 3 ≤ 11 from Nat.le_trans (Nat.le_of_lt_succ (kSm_lt _ (show 0 < 3 by decide))) (by decide)) (show 1 ≤ 1 + kSm (x >>> (6 &&& 31)) 9 ∧ 1 + kSm (x >>> (6 &&& 31)) 9 ≤ 9 from ⟨by omega, by have := kSm_lt (x >>> ((6 : Int32) &&& 31)) (show 0 < 9 by decide); omega⟩) (show ns < 8 by omega))
          simp only [Prod.mk.injEq] at hE_170
          obtain ⟨rfl, rfl, rfl, rfl, rfl, rfl⟩ := hE_170
          refine ky_iload C 1 dL_shoot_173 rfl ?_
          refine ky_icmp_eq C 180 dL_shoot_175 (by decide) (fun c_175 => ?_) (fun q => absurd rfl q)
          refine ky_aload_n C 4 dL_shoot_180 rfl rfl ?_
          refine ky_bipush C dL_shoot_181 (v := 47) (by decide) ?_
          refine ky_dup2 C dL_shoot_183 rfl rfl ?_
          refine ky_ialdN C 7 (k := 47) rfl (by omega) (by decide) dL_shoot_184 (v := nI ns) hg47 ?_
          refine ky_iconst C dL_shoot_185 (v := 1) (by decide) ?_
          refine ky_iadd C (v := nI (ns + 1)) dL_shoot_186 (nI_add ns 1) ?_
          refine ky_iastN C 7 (k := 47) rfl (by omega) (by decide) dL_shoot_187 (ws' := [(ad 0, .inr (7, [.ref (ad 1), .ref (ad 10), .ref (ad 14), .ref (ad 18), .ref (ad 23), .ref (ad 29), .ref (ad 32), .int left, .int lastF])), (ad 10, .inr (3, [.ref (ad 11), .ref (ad 12), .ref (ad 13), .int (nI N), .int wind, .int low, .int forb])), (ad 18, .inr (5, [.ref (ad 19), .ref (ad 20), .ref (ad 21), .ref (ad 22), .int (nI (ns + 1))])), (ad 19, .inl (cI, 10, .inl (upd kd ns (nI (kSm x 3))))), (ad 20, .inl (cI, 10, .inl (upd fr ns (nI (kSm (x >>> (10 &&& 31)) N))))), (ad 21, .inl (cI, 10, .inl (upd hor ns (nI (kSm (x >>> (2 &&& 31)) 3))))), (ad 22, .inl (cI, 10, .inl (upd pw ns (nI (1 + kSm (x >>> (6 &&& 31)) 9))))), (ga, .inl (cI, 48, .inl (upd g 47 (nI (ns + 1))))), (qa, .inl (cI, 40, .inl (upd (upd (upd (upd q ns (nI (kSm x 3))) (20 + ns) (nI (kSm (x >>> (2 &&& 31)) 3))) (30 + ns) (nI (1 + kSm (x >>> (6 &&& 31)) 9))) (10 + ns) (nI (kSm (x >>> (10 &&& 31)) N)))))]) rfl ?_
          refine ky_iconst C dL_shoot_188 (v := 1) (by decide) ?_
          exact ky_zret C hr hlk rfl ⟨(nI (kSm (x >>> (10 &&& 31)) N)), (kSm x 3), (kSm (x >>> (2 &&& 31)) 3), (1 + kSm (x >>> (6 &&& 31)) 9), (upd (upd (upd (upd q ns (nI (kSm x 3))) (20 + ns) (nI (kSm (x >>> (2 &&& 31)) 3))) (30 + ns) (nI (1 + kSm (x >>> (6 &&& 31)) 9))) (10 + ns) (nI (kSm (x >>> (10 &&& 31)) N))), rfl, rfl, (Nat.le_of_lt_succ (kSm_lt x (by decide))), (by first | exact Nat.le_of_lt_succ (kSm_lt _ (by decide)) | exact Nat.le_trans (Nat.le_of_lt_succ (kSm_lt _ (show 0 < 3 by decide))) (by decide)), ⟨by omega, by have := kSm_lt (x >>> ((6 : Int32) &&& 31)) (show 0 < 9 by decide); omega⟩, hf9, ⟨(by repeat (first | rw [pk_us] | rw [pk_un (by omega)])), (by repeat (first | rw [pk_us] | rw [pk_un (by omega)])), (by repeat (first | rw [pk_us] | rw [pk_un (by omega)])), (by repeat (first | rw [pk_us] | rw [pk_un (by omega)])), fun j e1 e2 e3 e4 => (by repeat (first | rw [pk_us] | rw [pk_un (by omega)]))⟩⟩ (Nat.le_of_ble_eq_true rfl) dL_shoot_189
        · have d_132 := Int32.not_le.mp c_132
          refine ky_aload_n C 5 dL_shoot_135 rfl rfl ?_
          refine ky_bipush C dL_shoot_136 (v := 10) (by decide) ?_
          refine ky_iload C 1 dL_shoot_138 rfl ?_
          refine ky_iadd C (v := nI (10 + ns)) dL_shoot_140 (nI_add 10 ns) ?_
          refine ky_iload C 0 dL_shoot_141 rfl ?_
          refine ky_iastN C 8 (k := 10 + ns) rfl (by omega) (by decide) dL_shoot_143 (ws' := [(ad 0, .inr (7, [.ref (ad 1), .ref (ad 10), .ref (ad 14), .ref (ad 18), .ref (ad 23), .ref (ad 29), .ref (ad 32), .int left, .int lastF])), (ad 10, .inr (3, [.ref (ad 11), .ref (ad 12), .ref (ad 13), .int (nI N), .int wind, .int low, .int forb])), (ad 18, .inr (5, [.ref (ad 19), .ref (ad 20), .ref (ad 21), .ref (ad 22), .int (nI ns)])), (ad 19, .inl (cI, 10, .inl kd)), (ad 20, .inl (cI, 10, .inl fr)), (ad 21, .inl (cI, 10, .inl hor)), (ad 22, .inl (cI, 10, .inl pw)), (ga, .inl (cI, 48, .inl g)), (qa, .inl (cI, 40, .inl (upd (upd (upd (upd (upd q ns (nI (kSm x 3))) (20 + ns) (nI (kSm (x >>> (2 &&& 31)) 3))) (30 + ns) (nI (1 + kSm (x >>> (6 &&& 31)) 9))) (10 + ns) (nI (kSm (x >>> (10 &&& 31)) N))) (10 + ns) ((g (29 + kSm (x >>> (15 &&& 31)) nc)) + ((g 25) * (nI (kSm (x >>> (2 &&& 31)) 3)))))))]) rfl ?_
          refine ky_aload_n C 2 dL_shoot_144 rfl rfl ?_
          refine ky_aload_n C 5 dL_shoot_145 rfl rfl ?_
          refine ky_iload C 1 dL_shoot_146 rfl ?_
          refine ky_ialdN C 8 (k := ns) rfl (by omega) (by decide) dL_shoot_148 (v := nI (kSm x 3)) (by repeat (first | rw [pk_us] | rw [pk_un (by omega)])) ?_
          refine ky_aload_n C 5 dL_shoot_149 rfl rfl ?_
          refine ky_bipush C dL_shoot_150 (v := 10) (by decide) ?_
          refine ky_iload C 1 dL_shoot_152 rfl ?_
          refine ky_iadd C (v := nI (10 + ns)) dL_shoot_154 (nI_add 10 ns) ?_
          refine ky_ialdN C 8 (k := 10 + ns) rfl (by omega) (by decide) dL_shoot_155 (v := (g (29 + kSm (x >>> (15 &&& 31)) nc)) + ((g 25) * (nI (kSm (x >>> (2 &&& 31)) 3)))) (by repeat (first | rw [pk_us] | rw [pk_un (by omega)])) ?_
          refine ky_aload_n C 5 dL_shoot_156 rfl rfl ?_
          refine ky_bipush C dL_shoot_157 (v := 20) (by decide) ?_
          refine ky_iload C 1 dL_shoot_159 rfl ?_
          refine ky_iadd C (v := nI (20 + ns)) dL_shoot_161 (nI_add 20 ns) ?_
          refine ky_ialdN C 8 (k := 20 + ns) rfl (by omega) (by decide) dL_shoot_162 (v := nI (kSm (x >>> (2 &&& 31)) 3)) (by repeat (first | rw [pk_us] | rw [pk_un (by omega)])) ?_
          refine ky_aload_n C 5 dL_shoot_163 rfl rfl ?_
          refine ky_bipush C dL_shoot_164 (v := 30) (by decide) ?_
          refine ky_iload C 1 dL_shoot_166 rfl ?_
          refine ky_iadd C (v := nI (30 + ns)) dL_shoot_168 (nI_add 30 ns) ?_
          refine ky_ialdN C 8 (k := 30 + ns) rfl (by omega) (by decide) dL_shoot_169 (v := nI (1 + kSm (x >>> (6 &&& 31)) 9)) (by repeat (first | rw [pk_us] | rw [pk_un (by omega)])) ?_
          refine ky_callV0 C 4 (kX7_shot l D cI cS ad left lastF N wind low forb ns kd fr hor pw (nI (kSm x 3)) ((g (29 + kSm (x >>> (15 &&& 31)) nc)) + ((g 25) * (nI (kSm (x >>> (2 &&& 31)) 3)))) (nI (kSm (x >>> (2 &&& 31)) 3)) (nI (1 + kSm (x >>> (6 &&& 31)) 9)) (by first | assumption | omega) (by first | assumption | omega)) gL_shoot_X7_shot rfl rfl rfl hdX7_shot 0 7 rfl rfl rfl ⟨Nat.le_of_ble_eq_true rfl, Nat.le_of_ble_eq_true rfl⟩ rfl rfl (Nat.le_of_ble_eq_true rfl) dL_shoot_170 [0, 1, 2, 3, 4, 5, 6] rfl rfl ?_
          rintro _ _ ⟨r2_170, ns2_170, kd2_170, fr2_170, hor2_170, pw2_170, rfl, rfl, hF_170⟩
          refine ky_ws (ws' := [(ad 0, .inr (7, [.ref (ad 1), .ref (ad 10), .ref (ad 14), .ref (ad 18), .ref (ad 23), .ref (ad 29), .ref (ad 32), .int left, .int lastF])), (ad 10, .inr (3, [.ref (ad 11), .ref (ad 12), .ref (ad 13), .int (nI N), .int wind, .int low, .int forb])), (ad 18, .inr (5, [.ref (ad 19), .ref (ad 20), .ref (ad 21), .ref (ad 22), .int (nI ns2_170)])), (ad 19, .inl (cI, 10, .inl kd2_170)), (ad 20, .inl (cI, 10, .inl fr2_170)), (ad 21, .inl (cI, 10, .inl hor2_170)), (ad 22, .inl (cI, 10, .inl pw2_170)), (ga, .inl (cI, 48, .inl g)), (qa, .inl (cI, 40, .inl (upd (upd (upd (upd (upd q ns (nI (kSm x 3))) (20 + ns) (nI (kSm (x >>> (2 &&& 31)) 3))) (30 + ns) (nI (1 + kSm (x >>> (6 &&& 31)) 9))) (10 + ns) (nI (kSm (x >>> (10 &&& 31)) N))) (10 + ns) ((g (29 + kSm (x >>> (15 &&& 31)) nc)) + ((g 25) * (nI (kSm (x >>> (2 &&& 31)) 3)))))))]) (st' := [.int r2_170]) rfl rfl ?_
          have hf9 : (0 : Int32) ≤ ((g (29 + kSm (x >>> (15 &&& 31)) nc)) + ((g 25) * (nI (kSm (x >>> (2 &&& 31)) 3)))) ∧ ((g (29 + kSm (x >>> (15 &&& 31)) nc)) + ((g 25) * (nI (kSm (x >>> (2 &&& 31)) 3)))) < nI N := ⟨d_124, d_132⟩
          have hE_170 := hF_170.trans (kShot_go hf9 (show kSm x 3 ≤ 2 from Nat.le_of_lt_succ (kSm_lt x (by decide))) (show kSm (x >>> (2 &&& 31)) 3 ≤ 11 from Nat.le_trans (Nat.le_of_lt_succ (kSm_lt _ (show 0 < 3 by decide))) (by decide)) (show 1 ≤ 1 + kSm (x >>> (6 &&& 31)) 9 ∧ 1 + kSm (x >>> (6 &&& 31)) 9 ≤ 9 from ⟨by omega, by have := kSm_lt (x >>> ((6 : Int32) &&& 31)) (show 0 < 9 by decide); omega⟩) (show ns < 8 by omega))
          simp only [Prod.mk.injEq] at hE_170
          obtain ⟨rfl, rfl, rfl, rfl, rfl, rfl⟩ := hE_170
          refine ky_iload C 1 dL_shoot_173 rfl ?_
          refine ky_icmp_eq C 180 dL_shoot_175 (by decide) (fun c_175 => ?_) (fun q => absurd rfl q)
          refine ky_aload_n C 4 dL_shoot_180 rfl rfl ?_
          refine ky_bipush C dL_shoot_181 (v := 47) (by decide) ?_
          refine ky_dup2 C dL_shoot_183 rfl rfl ?_
          refine ky_ialdN C 7 (k := 47) rfl (by omega) (by decide) dL_shoot_184 (v := nI ns) hg47 ?_
          refine ky_iconst C dL_shoot_185 (v := 1) (by decide) ?_
          refine ky_iadd C (v := nI (ns + 1)) dL_shoot_186 (nI_add ns 1) ?_
          refine ky_iastN C 7 (k := 47) rfl (by omega) (by decide) dL_shoot_187 (ws' := [(ad 0, .inr (7, [.ref (ad 1), .ref (ad 10), .ref (ad 14), .ref (ad 18), .ref (ad 23), .ref (ad 29), .ref (ad 32), .int left, .int lastF])), (ad 10, .inr (3, [.ref (ad 11), .ref (ad 12), .ref (ad 13), .int (nI N), .int wind, .int low, .int forb])), (ad 18, .inr (5, [.ref (ad 19), .ref (ad 20), .ref (ad 21), .ref (ad 22), .int (nI (ns + 1))])), (ad 19, .inl (cI, 10, .inl (upd kd ns (nI (kSm x 3))))), (ad 20, .inl (cI, 10, .inl (upd fr ns ((g (29 + kSm (x >>> (15 &&& 31)) nc)) + ((g 25) * (nI (kSm (x >>> (2 &&& 31)) 3))))))), (ad 21, .inl (cI, 10, .inl (upd hor ns (nI (kSm (x >>> (2 &&& 31)) 3))))), (ad 22, .inl (cI, 10, .inl (upd pw ns (nI (1 + kSm (x >>> (6 &&& 31)) 9))))), (ga, .inl (cI, 48, .inl (upd g 47 (nI (ns + 1))))), (qa, .inl (cI, 40, .inl (upd (upd (upd (upd (upd q ns (nI (kSm x 3))) (20 + ns) (nI (kSm (x >>> (2 &&& 31)) 3))) (30 + ns) (nI (1 + kSm (x >>> (6 &&& 31)) 9))) (10 + ns) (nI (kSm (x >>> (10 &&& 31)) N))) (10 + ns) ((g (29 + kSm (x >>> (15 &&& 31)) nc)) + ((g 25) * (nI (kSm (x >>> (2 &&& 31)) 3)))))))]) rfl ?_
          refine ky_iconst C dL_shoot_188 (v := 1) (by decide) ?_
          exact ky_zret C hr hlk rfl ⟨((g (29 + kSm (x >>> (15 &&& 31)) nc)) + ((g 25) * (nI (kSm (x >>> (2 &&& 31)) 3)))), (kSm x 3), (kSm (x >>> (2 &&& 31)) 3), (1 + kSm (x >>> (6 &&& 31)) 9), (upd (upd (upd (upd (upd q ns (nI (kSm x 3))) (20 + ns) (nI (kSm (x >>> (2 &&& 31)) 3))) (30 + ns) (nI (1 + kSm (x >>> (6 &&& 31)) 9))) (10 + ns) (nI (kSm (x >>> (10 &&& 31)) N))) (10 + ns) ((g (29 + kSm (x >>> (15 &&& 31)) nc)) + ((g 25) * (nI (kSm (x >>> (2 &&& 31)) 3))))), rfl, rfl, (Nat.le_of_lt_succ (kSm_lt x (by decide))), (by first | exact Nat.le_of_lt_succ (kSm_lt _ (by decide)) | exact Nat.le_trans (Nat.le_of_lt_succ (kSm_lt _ (show 0 < 3 by decide))) (by decide)), ⟨by omega, by have := kSm_lt (x >>> ((6 : Int32) &&& 31)) (show 0 < 9 by decide); omega⟩, hf9, ⟨(by repeat (first | rw [pk_us] | rw [pk_un (by omega)])), (by repeat (first | rw [pk_us] | rw [pk_un (by omega)])), (by repeat (first | rw [pk_us] | rw [pk_un (by omega)])), (by repeat (first | rw [pk_us] | rw [pk_un (by omega)])), fun j e1 e2 e3 e4 => (by repeat (first | rw [pk_us] | rw [pk_un (by omega)]))⟩⟩ (Nat.le_of_ble_eq_true rfl) dL_shoot_189
  · have n_32 := kn_eq (a := kSm (x >>> (14 &&& 31)) 2) (b := 0) (by omega) (by omega) c_32
    refine ky_bipush C dL_shoot_35 (v := 12) (by decide) ?_
    refine ky_goto C dL_shoot_37 (tgt := 41) (by decide) ?_
    refine ky_callS0 C 2 (kL_some l D cI cS (x >>> (2 &&& 31)) 12 (by omega) (by omega)) gL_shoot_L_some rfl rfl rfl hdL_some.2 ⟨Nat.le_of_ble_eq_true rfl, Nat.le_of_ble_eq_true rfl⟩ rfl rfl (Nat.le_of_ble_eq_true rfl) dL_shoot_41 [] rfl rfl ?_
    rintro _ _ ⟨rfl, rfl⟩
    refine ky_ws (ws' := [(ad 0, .inr (7, [.ref (ad 1), .ref (ad 10), .ref (ad 14), .ref (ad 18), .ref (ad 23), .ref (ad 29), .ref (ad 32), .int left, .int lastF])), (ad 10, .inr (3, [.ref (ad 11), .ref (ad 12), .ref (ad 13), .int (nI N), .int wind, .int low, .int forb])), (ad 18, .inr (5, [.ref (ad 19), .ref (ad 20), .ref (ad 21), .ref (ad 22), .int (nI ns)])), (ad 19, .inl (cI, 10, .inl kd)), (ad 20, .inl (cI, 10, .inl fr)), (ad 21, .inl (cI, 10, .inl hor)), (ad 22, .inl (cI, 10, .inl pw)), (ga, .inl (cI, 48, .inl g)), (qa, .inl (cI, 40, .inl (upd q ns (nI (kSm x 3)))))]) (st' := [.int (nI (kSm (x >>> (2 &&& 31)) 12)), .int (nI (20 + ns)), .ref qa]) rfl rfl ?_
    have hs_41 : kSm (x >>> (2 &&& 31)) 12 < 12 := kSm_lt _ (by omega)
    refine ky_iastN C 8 (k := 20 + ns) rfl (by omega) (by decide) dL_shoot_44 (ws' := [(ad 0, .inr (7, [.ref (ad 1), .ref (ad 10), .ref (ad 14), .ref (ad 18), .ref (ad 23), .ref (ad 29), .ref (ad 32), .int left, .int lastF])), (ad 10, .inr (3, [.ref (ad 11), .ref (ad 12), .ref (ad 13), .int (nI N), .int wind, .int low, .int forb])), (ad 18, .inr (5, [.ref (ad 19), .ref (ad 20), .ref (ad 21), .ref (ad 22), .int (nI ns)])), (ad 19, .inl (cI, 10, .inl kd)), (ad 20, .inl (cI, 10, .inl fr)), (ad 21, .inl (cI, 10, .inl hor)), (ad 22, .inl (cI, 10, .inl pw)), (ga, .inl (cI, 48, .inl g)), (qa, .inl (cI, 40, .inl (upd (upd q ns (nI (kSm x 3))) (20 + ns) (nI (kSm (x >>> (2 &&& 31)) 12)))))]) rfl ?_
    refine ky_aload_n C 4 dL_shoot_45 rfl rfl ?_
    refine ky_bipush C dL_shoot_46 (v := 30) (by decide) ?_
    refine ky_iload C 0 dL_shoot_48 rfl ?_
    refine ky_iadd C (v := nI (30 + ns)) dL_shoot_50 (nI_add 30 ns) ?_
    refine ky_iconst C dL_shoot_51 (v := 1) (by decide) ?_
    refine ky_iload_n C 2 dL_shoot_52 rfl rfl ?_
    refine ky_bipush C dL_shoot_53 (v := 6) (by decide) ?_
    refine ky_ishr C (v := x >>> (6 &&& 31)) dL_shoot_55 rfl ?_
    refine ky_bipush C dL_shoot_56 (v := 9) (by decide) ?_
    refine ky_callS0 C 2 (kL_some l D cI cS (x >>> (6 &&& 31)) 9 (by omega) (by omega)) gL_shoot_L_some rfl rfl rfl hdL_some.2 ⟨Nat.le_of_ble_eq_true rfl, Nat.le_of_ble_eq_true rfl⟩ rfl rfl (Nat.le_of_ble_eq_true rfl) dL_shoot_58 [] rfl rfl ?_
    rintro _ _ ⟨rfl, rfl⟩
    refine ky_ws (ws' := [(ad 0, .inr (7, [.ref (ad 1), .ref (ad 10), .ref (ad 14), .ref (ad 18), .ref (ad 23), .ref (ad 29), .ref (ad 32), .int left, .int lastF])), (ad 10, .inr (3, [.ref (ad 11), .ref (ad 12), .ref (ad 13), .int (nI N), .int wind, .int low, .int forb])), (ad 18, .inr (5, [.ref (ad 19), .ref (ad 20), .ref (ad 21), .ref (ad 22), .int (nI ns)])), (ad 19, .inl (cI, 10, .inl kd)), (ad 20, .inl (cI, 10, .inl fr)), (ad 21, .inl (cI, 10, .inl hor)), (ad 22, .inl (cI, 10, .inl pw)), (ga, .inl (cI, 48, .inl g)), (qa, .inl (cI, 40, .inl (upd (upd q ns (nI (kSm x 3))) (20 + ns) (nI (kSm (x >>> (2 &&& 31)) 12)))))]) (st' := [.int (nI (kSm (x >>> (6 &&& 31)) 9)), .int 1, .int (nI (30 + ns)), .ref qa]) rfl rfl ?_
    have hs_58 : kSm (x >>> (6 &&& 31)) 9 < 9 := kSm_lt _ (by omega)
    refine ky_iadd C (v := nI (1 + kSm (x >>> (6 &&& 31)) 9)) dL_shoot_61 (nI_add 1 (kSm (x >>> (6 &&& 31)) 9)) ?_
    refine ky_iastN C 8 (k := 30 + ns) rfl (by omega) (by decide) dL_shoot_62 (ws' := [(ad 0, .inr (7, [.ref (ad 1), .ref (ad 10), .ref (ad 14), .ref (ad 18), .ref (ad 23), .ref (ad 29), .ref (ad 32), .int left, .int lastF])), (ad 10, .inr (3, [.ref (ad 11), .ref (ad 12), .ref (ad 13), .int (nI N), .int wind, .int low, .int forb])), (ad 18, .inr (5, [.ref (ad 19), .ref (ad 20), .ref (ad 21), .ref (ad 22), .int (nI ns)])), (ad 19, .inl (cI, 10, .inl kd)), (ad 20, .inl (cI, 10, .inl fr)), (ad 21, .inl (cI, 10, .inl hor)), (ad 22, .inl (cI, 10, .inl pw)), (ga, .inl (cI, 48, .inl g)), (qa, .inl (cI, 40, .inl (upd (upd (upd q ns (nI (kSm x 3))) (20 + ns) (nI (kSm (x >>> (2 &&& 31)) 12))) (30 + ns) (nI (1 + kSm (x >>> (6 &&& 31)) 9)))))]) rfl ?_
    refine ky_aload_n C 4 dL_shoot_63 rfl rfl ?_
    refine ky_bipush C dL_shoot_64 (v := 10) (by decide) ?_
    refine ky_iload C 0 dL_shoot_66 rfl ?_
    refine ky_iadd C (v := nI (10 + ns)) dL_shoot_68 (nI_add 10 ns) ?_
    refine ky_iload_n C 2 dL_shoot_69 rfl rfl ?_
    refine ky_bipush C dL_shoot_70 (v := 10) (by decide) ?_
    refine ky_ishr C (v := x >>> (10 &&& 31)) dL_shoot_72 rfl ?_
    refine ky_aload_n C 3 dL_shoot_73 rfl rfl ?_
    refine ky_iconst C dL_shoot_74 (v := 0) (by decide) ?_
    refine ky_ialdN C 7 (k := 0) rfl (by omega) (by decide) dL_shoot_75 (v := nI N) hg0 ?_
    refine ky_callS0 C 2 (kL_some l D cI cS (x >>> (10 &&& 31)) N (by omega) (by omega)) gL_shoot_L_some rfl rfl rfl hdL_some.2 ⟨Nat.le_of_ble_eq_true rfl, Nat.le_of_ble_eq_true rfl⟩ rfl rfl (Nat.le_of_ble_eq_true rfl) dL_shoot_76 [] rfl rfl ?_
    rintro _ _ ⟨rfl, rfl⟩
    refine ky_ws (ws' := [(ad 0, .inr (7, [.ref (ad 1), .ref (ad 10), .ref (ad 14), .ref (ad 18), .ref (ad 23), .ref (ad 29), .ref (ad 32), .int left, .int lastF])), (ad 10, .inr (3, [.ref (ad 11), .ref (ad 12), .ref (ad 13), .int (nI N), .int wind, .int low, .int forb])), (ad 18, .inr (5, [.ref (ad 19), .ref (ad 20), .ref (ad 21), .ref (ad 22), .int (nI ns)])), (ad 19, .inl (cI, 10, .inl kd)), (ad 20, .inl (cI, 10, .inl fr)), (ad 21, .inl (cI, 10, .inl hor)), (ad 22, .inl (cI, 10, .inl pw)), (ga, .inl (cI, 48, .inl g)), (qa, .inl (cI, 40, .inl (upd (upd (upd q ns (nI (kSm x 3))) (20 + ns) (nI (kSm (x >>> (2 &&& 31)) 12))) (30 + ns) (nI (1 + kSm (x >>> (6 &&& 31)) 9)))))]) (st' := [.int (nI (kSm (x >>> (10 &&& 31)) N)), .int (nI (10 + ns)), .ref qa]) rfl rfl ?_
    have hs_76 : kSm (x >>> (10 &&& 31)) N < N := kSm_lt _ (by omega)
    refine ky_iastN C 8 (k := 10 + ns) rfl (by omega) (by decide) dL_shoot_79 (ws' := [(ad 0, .inr (7, [.ref (ad 1), .ref (ad 10), .ref (ad 14), .ref (ad 18), .ref (ad 23), .ref (ad 29), .ref (ad 32), .int left, .int lastF])), (ad 10, .inr (3, [.ref (ad 11), .ref (ad 12), .ref (ad 13), .int (nI N), .int wind, .int low, .int forb])), (ad 18, .inr (5, [.ref (ad 19), .ref (ad 20), .ref (ad 21), .ref (ad 22), .int (nI ns)])), (ad 19, .inl (cI, 10, .inl kd)), (ad 20, .inl (cI, 10, .inl fr)), (ad 21, .inl (cI, 10, .inl hor)), (ad 22, .inl (cI, 10, .inl pw)), (ga, .inl (cI, 48, .inl g)), (qa, .inl (cI, 40, .inl (upd (upd (upd (upd q ns (nI (kSm x 3))) (20 + ns) (nI (kSm (x >>> (2 &&& 31)) 12))) (30 + ns) (nI (1 + kSm (x >>> (6 &&& 31)) 9))) (10 + ns) (nI (kSm (x >>> (10 &&& 31)) N)))))]) rfl ?_
    refine ky_aload_n C 3 dL_shoot_80 rfl rfl ?_
    refine ky_bipush C dL_shoot_81 (v := 29) (by decide) ?_
    refine ky_iload_n C 2 dL_shoot_83 rfl rfl ?_
    refine ky_bipush C dL_shoot_84 (v := 15) (by decide) ?_
    refine ky_ishr C (v := x >>> (15 &&& 31)) dL_shoot_86 rfl ?_
    refine ky_aload_n C 3 dL_shoot_87 rfl rfl ?_
    refine ky_bipush C dL_shoot_88 (v := 28) (by decide) ?_
    refine ky_ialdN C 7 (k := 28) rfl (by omega) (by decide) dL_shoot_90 (v := nI nc) hg28 ?_
    refine ky_callS0 C 2 (kL_some l D cI cS (x >>> (15 &&& 31)) nc (by omega) (by omega)) gL_shoot_L_some rfl rfl rfl hdL_some.2 ⟨Nat.le_of_ble_eq_true rfl, Nat.le_of_ble_eq_true rfl⟩ rfl rfl (Nat.le_of_ble_eq_true rfl) dL_shoot_91 [] rfl rfl ?_
    rintro _ _ ⟨rfl, rfl⟩
    refine ky_ws (ws' := [(ad 0, .inr (7, [.ref (ad 1), .ref (ad 10), .ref (ad 14), .ref (ad 18), .ref (ad 23), .ref (ad 29), .ref (ad 32), .int left, .int lastF])), (ad 10, .inr (3, [.ref (ad 11), .ref (ad 12), .ref (ad 13), .int (nI N), .int wind, .int low, .int forb])), (ad 18, .inr (5, [.ref (ad 19), .ref (ad 20), .ref (ad 21), .ref (ad 22), .int (nI ns)])), (ad 19, .inl (cI, 10, .inl kd)), (ad 20, .inl (cI, 10, .inl fr)), (ad 21, .inl (cI, 10, .inl hor)), (ad 22, .inl (cI, 10, .inl pw)), (ga, .inl (cI, 48, .inl g)), (qa, .inl (cI, 40, .inl (upd (upd (upd (upd q ns (nI (kSm x 3))) (20 + ns) (nI (kSm (x >>> (2 &&& 31)) 12))) (30 + ns) (nI (1 + kSm (x >>> (6 &&& 31)) 9))) (10 + ns) (nI (kSm (x >>> (10 &&& 31)) N)))))]) (st' := [.int (nI (kSm (x >>> (15 &&& 31)) nc)), .int 29, .ref ga]) rfl rfl ?_
    have hs_91 : kSm (x >>> (15 &&& 31)) nc < nc := kSm_lt _ (by omega)
    refine ky_iadd C (v := nI (29 + kSm (x >>> (15 &&& 31)) nc)) dL_shoot_94 (nI_add 29 (kSm (x >>> (15 &&& 31)) nc)) ?_
    refine ky_ialdN C 7 (k := 29 + kSm (x >>> (15 &&& 31)) nc) rfl (by have := kSm_lt (x >>> ((15 : Int32) &&& 31)) (show 0 < nc by omega); omega) (by decide) dL_shoot_95 (v := g (29 + kSm (x >>> (15 &&& 31)) nc)) rfl ?_
    refine ky_aload_n C 3 dL_shoot_96 rfl rfl ?_
    refine ky_bipush C dL_shoot_97 (v := 25) (by decide) ?_
    refine ky_ialdN C 7 (k := 25) rfl (by omega) (by decide) dL_shoot_99 (v := g 25) rfl ?_
    refine ky_aload_n C 4 dL_shoot_100 rfl rfl ?_
    refine ky_bipush C dL_shoot_101 (v := 20) (by decide) ?_
    refine ky_iload C 0 dL_shoot_103 rfl ?_
    refine ky_iadd C (v := nI (20 + ns)) dL_shoot_105 (nI_add 20 ns) ?_
    refine ky_ialdN C 8 (k := 20 + ns) rfl (by omega) (by decide) dL_shoot_106 (v := nI (kSm (x >>> (2 &&& 31)) 12)) (by repeat (first | rw [pk_us] | rw [pk_un (by omega)])) ?_
    refine ky_imul C (v := (g 25) * (nI (kSm (x >>> (2 &&& 31)) 12))) dL_shoot_107 rfl ?_
    refine ky_iadd C (v := (g (29 + kSm (x >>> (15 &&& 31)) nc)) + ((g 25) * (nI (kSm (x >>> (2 &&& 31)) 12)))) dL_shoot_108 rfl ?_
    refine ky_istore C (lv' := [(5, .int ((g (29 + kSm (x >>> (15 &&& 31)) nc)) + ((g 25) * (nI (kSm (x >>> (2 &&& 31)) 12))))), (4, .int (nI ns)), (0, .ref (ad 0)), (1, .int x), (2, .ref ga), (3, .ref qa)]) dL_shoot_109 (by decide) rfl ?_
    refine ky_iload_n C 3 dL_shoot_111 rfl rfl ?_
    refine ky_bipush C dL_shoot_112 (v := 18) (by decide) ?_
    refine ky_ishr C (v := x >>> (18 &&& 31)) dL_shoot_114 rfl ?_
    refine ky_iconst C dL_shoot_115 (v := 3) (by decide) ?_
    refine ky_callS0 C 2 (kL_some l D cI cS (x >>> (18 &&& 31)) 3 (by omega) (by omega)) gL_shoot_L_some rfl rfl rfl hdL_some.2 ⟨Nat.le_of_ble_eq_true rfl, Nat.le_of_ble_eq_true rfl⟩ rfl rfl (Nat.le_of_ble_eq_true rfl) dL_shoot_116 [] rfl rfl ?_
    rintro _ _ ⟨rfl, rfl⟩
    refine ky_ws (ws' := [(ad 0, .inr (7, [.ref (ad 1), .ref (ad 10), .ref (ad 14), .ref (ad 18), .ref (ad 23), .ref (ad 29), .ref (ad 32), .int left, .int lastF])), (ad 10, .inr (3, [.ref (ad 11), .ref (ad 12), .ref (ad 13), .int (nI N), .int wind, .int low, .int forb])), (ad 18, .inr (5, [.ref (ad 19), .ref (ad 20), .ref (ad 21), .ref (ad 22), .int (nI ns)])), (ad 19, .inl (cI, 10, .inl kd)), (ad 20, .inl (cI, 10, .inl fr)), (ad 21, .inl (cI, 10, .inl hor)), (ad 22, .inl (cI, 10, .inl pw)), (ga, .inl (cI, 48, .inl g)), (qa, .inl (cI, 40, .inl (upd (upd (upd (upd q ns (nI (kSm x 3))) (20 + ns) (nI (kSm (x >>> (2 &&& 31)) 12))) (30 + ns) (nI (1 + kSm (x >>> (6 &&& 31)) 9))) (10 + ns) (nI (kSm (x >>> (10 &&& 31)) N)))))]) (st' := [.int (nI (kSm (x >>> (18 &&& 31)) 3))]) rfl rfl ?_
    have hs_116 : kSm (x >>> (18 &&& 31)) 3 < 3 := kSm_lt _ (by omega)
    refine ky_if_le C 144 dL_shoot_119 (by decide) (fun c_119 => ?_) (fun c_119 => ?_)
    · have d_119 := Int32.not_lt.mpr c_119
      have n_119 := kn_le (a := kSm (x >>> (18 &&& 31)) 3) (b := 0) (by omega) (by omega) c_119
      have m_119 := Nat.not_lt.mpr n_119
      refine ky_aload_n C 2 dL_shoot_144 rfl rfl ?_
      refine ky_aload_n C 5 dL_shoot_145 rfl rfl ?_
      refine ky_iload C 1 dL_shoot_146 rfl ?_
      refine ky_ialdN C 8 (k := ns) rfl (by omega) (by decide) dL_shoot_148 (v := nI (kSm x 3)) (by repeat (first | rw [pk_us] | rw [pk_un (by omega)])) ?_
      refine ky_aload_n C 5 dL_shoot_149 rfl rfl ?_
      refine ky_bipush C dL_shoot_150 (v := 10) (by decide) ?_
      refine ky_iload C 1 dL_shoot_152 rfl ?_
      refine ky_iadd C (v := nI (10 + ns)) dL_shoot_154 (nI_add 10 ns) ?_
      refine ky_ialdN C 8 (k := 10 + ns) rfl (by omega) (by decide) dL_shoot_155 (v := nI (kSm (x >>> (10 &&& 31)) N)) (by repeat (first | rw [pk_us] | rw [pk_un (by omega)])) ?_
      refine ky_aload_n C 5 dL_shoot_156 rfl rfl ?_
      refine ky_bipush C dL_shoot_157 (v := 20) (by decide) ?_
      refine ky_iload C 1 dL_shoot_159 rfl ?_
      refine ky_iadd C (v := nI (20 + ns)) dL_shoot_161 (nI_add 20 ns) ?_
      refine ky_ialdN C 8 (k := 20 + ns) rfl (by omega) (by decide) dL_shoot_162 (v := nI (kSm (x >>> (2 &&& 31)) 12)) (by repeat (first | rw [pk_us] | rw [pk_un (by omega)])) ?_
      refine ky_aload_n C 5 dL_shoot_163 rfl rfl ?_
      refine ky_bipush C dL_shoot_164 (v := 30) (by decide) ?_
      refine ky_iload C 1 dL_shoot_166 rfl ?_
      refine ky_iadd C (v := nI (30 + ns)) dL_shoot_168 (nI_add 30 ns) ?_
      refine ky_ialdN C 8 (k := 30 + ns) rfl (by omega) (by decide) dL_shoot_169 (v := nI (1 + kSm (x >>> (6 &&& 31)) 9)) (by repeat (first | rw [pk_us] | rw [pk_un (by omega)])) ?_
      refine ky_callV0 C 4 (kX7_shot l D cI cS ad left lastF N wind low forb ns kd fr hor pw (nI (kSm x 3)) (nI (kSm (x >>> (10 &&& 31)) N)) (nI (kSm (x >>> (2 &&& 31)) 12)) (nI (1 + kSm (x >>> (6 &&& 31)) 9)) (by first | assumption | omega) (by first | assumption | omega)) gL_shoot_X7_shot rfl rfl rfl hdX7_shot 0 7 rfl rfl rfl ⟨Nat.le_of_ble_eq_true rfl, Nat.le_of_ble_eq_true rfl⟩ rfl rfl (Nat.le_of_ble_eq_true rfl) dL_shoot_170 [0, 1, 2, 3, 4, 5, 6] rfl rfl ?_
      rintro _ _ ⟨r2_170, ns2_170, kd2_170, fr2_170, hor2_170, pw2_170, rfl, rfl, hF_170⟩
      refine ky_ws (ws' := [(ad 0, .inr (7, [.ref (ad 1), .ref (ad 10), .ref (ad 14), .ref (ad 18), .ref (ad 23), .ref (ad 29), .ref (ad 32), .int left, .int lastF])), (ad 10, .inr (3, [.ref (ad 11), .ref (ad 12), .ref (ad 13), .int (nI N), .int wind, .int low, .int forb])), (ad 18, .inr (5, [.ref (ad 19), .ref (ad 20), .ref (ad 21), .ref (ad 22), .int (nI ns2_170)])), (ad 19, .inl (cI, 10, .inl kd2_170)), (ad 20, .inl (cI, 10, .inl fr2_170)), (ad 21, .inl (cI, 10, .inl hor2_170)), (ad 22, .inl (cI, 10, .inl pw2_170)), (ga, .inl (cI, 48, .inl g)), (qa, .inl (cI, 40, .inl (upd (upd (upd (upd q ns (nI (kSm x 3))) (20 + ns) (nI (kSm (x >>> (2 &&& 31)) 12))) (30 + ns) (nI (1 + kSm (x >>> (6 &&& 31)) 9))) (10 + ns) (nI (kSm (x >>> (10 &&& 31)) N)))))]) (st' := [.int r2_170]) rfl rfl ?_
      have hf9 : (0 : Int32) ≤ (nI (kSm (x >>> (10 &&& 31)) N)) ∧ (nI (kSm (x >>> (10 &&& 31)) N)) < nI N := ⟨nI_pos' (by have := kSm_lt (x >>> ((10 : Int32) &&& 31)) (show 0 < N by omega); omega), nI_lt (kSm_lt _ (by omega)) (by omega)⟩
      have hE_170 := hF_170.trans (kShot_go hf9 (show kSm x 3 ≤ 2 from Nat.le_of_lt_succ (kSm_lt x (by decide))) (show kSm (x >>> (2 &&& 31)) 12 ≤ 11 from Nat.le_of_lt_succ (kSm_lt _ (by decide))) (show 1 ≤ 1 + kSm (x >>> (6 &&& 31)) 9 ∧ 1 + kSm (x >>> (6 &&& 31)) 9 ≤ 9 from ⟨by omega, by have := kSm_lt (x >>> ((6 : Int32) &&& 31)) (show 0 < 9 by decide); omega⟩) (show ns < 8 by omega))
      simp only [Prod.mk.injEq] at hE_170
      obtain ⟨rfl, rfl, rfl, rfl, rfl, rfl⟩ := hE_170
      refine ky_iload C 1 dL_shoot_173 rfl ?_
      refine ky_icmp_eq C 180 dL_shoot_175 (by decide) (fun c_175 => ?_) (fun q => absurd rfl q)
      refine ky_aload_n C 4 dL_shoot_180 rfl rfl ?_
      refine ky_bipush C dL_shoot_181 (v := 47) (by decide) ?_
      refine ky_dup2 C dL_shoot_183 rfl rfl ?_
      refine ky_ialdN C 7 (k := 47) rfl (by omega) (by decide) dL_shoot_184 (v := nI ns) hg47 ?_
      refine ky_iconst C dL_shoot_185 (v := 1) (by decide) ?_
      refine ky_iadd C (v := nI (ns + 1)) dL_shoot_186 (nI_add ns 1) ?_
      refine ky_iastN C 7 (k := 47) rfl (by omega) (by decide) dL_shoot_187 (ws' := [(ad 0, .inr (7, [.ref (ad 1), .ref (ad 10), .ref (ad 14), .ref (ad 18), .ref (ad 23), .ref (ad 29), .ref (ad 32), .int left, .int lastF])), (ad 10, .inr (3, [.ref (ad 11), .ref (ad 12), .ref (ad 13), .int (nI N), .int wind, .int low, .int forb])), (ad 18, .inr (5, [.ref (ad 19), .ref (ad 20), .ref (ad 21), .ref (ad 22), .int (nI (ns + 1))])), (ad 19, .inl (cI, 10, .inl (upd kd ns (nI (kSm x 3))))), (ad 20, .inl (cI, 10, .inl (upd fr ns (nI (kSm (x >>> (10 &&& 31)) N))))), (ad 21, .inl (cI, 10, .inl (upd hor ns (nI (kSm (x >>> (2 &&& 31)) 12))))), (ad 22, .inl (cI, 10, .inl (upd pw ns (nI (1 + kSm (x >>> (6 &&& 31)) 9))))), (ga, .inl (cI, 48, .inl (upd g 47 (nI (ns + 1))))), (qa, .inl (cI, 40, .inl (upd (upd (upd (upd q ns (nI (kSm x 3))) (20 + ns) (nI (kSm (x >>> (2 &&& 31)) 12))) (30 + ns) (nI (1 + kSm (x >>> (6 &&& 31)) 9))) (10 + ns) (nI (kSm (x >>> (10 &&& 31)) N)))))]) rfl ?_
      refine ky_iconst C dL_shoot_188 (v := 1) (by decide) ?_
      exact ky_zret C hr hlk rfl ⟨(nI (kSm (x >>> (10 &&& 31)) N)), (kSm x 3), (kSm (x >>> (2 &&& 31)) 12), (1 + kSm (x >>> (6 &&& 31)) 9), (upd (upd (upd (upd q ns (nI (kSm x 3))) (20 + ns) (nI (kSm (x >>> (2 &&& 31)) 12))) (30 + ns) (nI (1 + kSm (x >>> (6 &&& 31)) 9))) (10 + ns) (nI (kSm (x >>> (10 &&& 31)) N))), rfl, rfl, (Nat.le_of_lt_succ (kSm_lt x (by decide))), (by first | exact Nat.le_of_lt_succ (kSm_lt _ (by decide)) | exact Nat.le_trans (Nat.le_of_lt_succ (kSm_lt _ (show 0 < 3 by decide))) (by decide)), ⟨by omega, by have := kSm_lt (x >>> ((6 : Int32) &&& 31)) (show 0 < 9 by decide); omega⟩, hf9, ⟨(by repeat (first | rw [pk_us] | rw [pk_un (by omega)])), (by repeat (first | rw [pk_us] | rw [pk_un (by omega)])), (by repeat (first | rw [pk_us] | rw [pk_un (by omega)])), (by repeat (first | rw [pk_us] | rw [pk_un (by omega)])), fun j e1 e2 e3 e4 => (by repeat (first | rw [pk_us] | rw [pk_un (by omega)]))⟩⟩ (Nat.le_of_ble_eq_true rfl) dL_shoot_189
    · have d_119 := Int32.not_le.mp c_119
      have n_119 := kn_nle (a := kSm (x >>> (18 &&& 31)) 3) (b := 0) (by omega) (by omega) c_119
      have m_119 := Nat.not_le.mpr n_119
      refine ky_iload C 0 dL_shoot_122 rfl ?_
      refine ky_if_lt C 144 dL_shoot_124 (by decide) (fun c_124 => ?_) (fun c_124 => ?_)
      · have d_124 := Int32.not_le.mpr c_124
        refine ky_aload_n C 2 dL_shoot_144 rfl rfl ?_
        refine ky_aload_n C 5 dL_shoot_145 rfl rfl ?_
        refine ky_iload C 1 dL_shoot_146 rfl ?_
        refine ky_ialdN C 8 (k := ns) rfl (by omega) (by decide) dL_shoot_148 (v := nI (kSm x 3)) (by repeat (first | rw [pk_us] | rw [pk_un (by omega)])) ?_
        refine ky_aload_n C 5 dL_shoot_149 rfl rfl ?_
        refine ky_bipush C dL_shoot_150 (v := 10) (by decide) ?_
        refine ky_iload C 1 dL_shoot_152 rfl ?_
        refine ky_iadd C (v := nI (10 + ns)) dL_shoot_154 (nI_add 10 ns) ?_
        refine ky_ialdN C 8 (k := 10 + ns) rfl (by omega) (by decide) dL_shoot_155 (v := nI (kSm (x >>> (10 &&& 31)) N)) (by repeat (first | rw [pk_us] | rw [pk_un (by omega)])) ?_
        refine ky_aload_n C 5 dL_shoot_156 rfl rfl ?_
        refine ky_bipush C dL_shoot_157 (v := 20) (by decide) ?_
        refine ky_iload C 1 dL_shoot_159 rfl ?_
        refine ky_iadd C (v := nI (20 + ns)) dL_shoot_161 (nI_add 20 ns) ?_
        refine ky_ialdN C 8 (k := 20 + ns) rfl (by omega) (by decide) dL_shoot_162 (v := nI (kSm (x >>> (2 &&& 31)) 12)) (by repeat (first | rw [pk_us] | rw [pk_un (by omega)])) ?_
        refine ky_aload_n C 5 dL_shoot_163 rfl rfl ?_
        refine ky_bipush C dL_shoot_164 (v := 30) (by decide) ?_
        refine ky_iload C 1 dL_shoot_166 rfl ?_
        refine ky_iadd C (v := nI (30 + ns)) dL_shoot_168 (nI_add 30 ns) ?_
        refine ky_ialdN C 8 (k := 30 + ns) rfl (by omega) (by decide) dL_shoot_169 (v := nI (1 + kSm (x >>> (6 &&& 31)) 9)) (by repeat (first | rw [pk_us] | rw [pk_un (by omega)])) ?_
        refine ky_callV0 C 4 (kX7_shot l D cI cS ad left lastF N wind low forb ns kd fr hor pw (nI (kSm x 3)) (nI (kSm (x >>> (10 &&& 31)) N)) (nI (kSm (x >>> (2 &&& 31)) 12)) (nI (1 + kSm (x >>> (6 &&& 31)) 9)) (by first | assumption | omega) (by first | assumption | omega)) gL_shoot_X7_shot rfl rfl rfl hdX7_shot 0 7 rfl rfl rfl ⟨Nat.le_of_ble_eq_true rfl, Nat.le_of_ble_eq_true rfl⟩ rfl rfl (Nat.le_of_ble_eq_true rfl) dL_shoot_170 [0, 1, 2, 3, 4, 5, 6] rfl rfl ?_
        rintro _ _ ⟨r2_170, ns2_170, kd2_170, fr2_170, hor2_170, pw2_170, rfl, rfl, hF_170⟩
        refine ky_ws (ws' := [(ad 0, .inr (7, [.ref (ad 1), .ref (ad 10), .ref (ad 14), .ref (ad 18), .ref (ad 23), .ref (ad 29), .ref (ad 32), .int left, .int lastF])), (ad 10, .inr (3, [.ref (ad 11), .ref (ad 12), .ref (ad 13), .int (nI N), .int wind, .int low, .int forb])), (ad 18, .inr (5, [.ref (ad 19), .ref (ad 20), .ref (ad 21), .ref (ad 22), .int (nI ns2_170)])), (ad 19, .inl (cI, 10, .inl kd2_170)), (ad 20, .inl (cI, 10, .inl fr2_170)), (ad 21, .inl (cI, 10, .inl hor2_170)), (ad 22, .inl (cI, 10, .inl pw2_170)), (ga, .inl (cI, 48, .inl g)), (qa, .inl (cI, 40, .inl (upd (upd (upd (upd q ns (nI (kSm x 3))) (20 + ns) (nI (kSm (x >>> (2 &&& 31)) 12))) (30 + ns) (nI (1 + kSm (x >>> (6 &&& 31)) 9))) (10 + ns) (nI (kSm (x >>> (10 &&& 31)) N)))))]) (st' := [.int r2_170]) rfl rfl ?_
        have hf9 : (0 : Int32) ≤ (nI (kSm (x >>> (10 &&& 31)) N)) ∧ (nI (kSm (x >>> (10 &&& 31)) N)) < nI N := ⟨nI_pos' (by have := kSm_lt (x >>> ((10 : Int32) &&& 31)) (show 0 < N by omega); omega), nI_lt (kSm_lt _ (by omega)) (by omega)⟩
        have hE_170 := hF_170.trans (kShot_go hf9 (show kSm x 3 ≤ 2 from Nat.le_of_lt_succ (kSm_lt x (by decide))) (show kSm (x >>> (2 &&& 31)) 12 ≤ 11 from Nat.le_of_lt_succ (kSm_lt _ (by decide))) (show 1 ≤ 1 + kSm (x >>> (6 &&& 31)) 9 ∧ 1 + kSm (x >>> (6 &&& 31)) 9 ≤ 9 from ⟨by omega, by have := kSm_lt (x >>> ((6 : Int32) &&& 31)) (show 0 < 9 by decide); omega⟩) (show ns < 8 by omega))
        simp only [Prod.mk.injEq] at hE_170
        obtain ⟨rfl, rfl, rfl, rfl, rfl, rfl⟩ := hE_170
        refine ky_iload C 1 dL_shoot_173 rfl ?_
        refine ky_icmp_eq C 180 dL_shoot_175 (by decide) (fun c_175 => ?_) (fun q => absurd rfl q)
        refine ky_aload_n C 4 dL_shoot_180 rfl rfl ?_
        refine ky_bipush C dL_shoot_181 (v := 47) (by decide) ?_
        refine ky_dup2 C dL_shoot_183 rfl rfl ?_
        refine ky_ialdN C 7 (k := 47) rfl (by omega) (by decide) dL_shoot_184 (v := nI ns) hg47 ?_
        refine ky_iconst C dL_shoot_185 (v := 1) (by decide) ?_
        refine ky_iadd C (v := nI (ns + 1)) dL_shoot_186 (nI_add ns 1) ?_
        refine ky_iastN C 7 (k := 47) rfl (by omega) (by decide) dL_shoot_187 (ws' := [(ad 0, .inr (7, [.ref (ad 1), .ref (ad 10), .ref (ad 14), .ref (ad 18), .ref (ad 23), .ref (ad 29), .ref (ad 32), .int left, .int lastF])), (ad 10, .inr (3, [.ref (ad 11), .ref (ad 12), .ref (ad 13), .int (nI N), .int wind, .int low, .int forb])), (ad 18, .inr (5, [.ref (ad 19), .ref (ad 20), .ref (ad 21), .ref (ad 22), .int (nI (ns + 1))])), (ad 19, .inl (cI, 10, .inl (upd kd ns (nI (kSm x 3))))), (ad 20, .inl (cI, 10, .inl (upd fr ns (nI (kSm (x >>> (10 &&& 31)) N))))), (ad 21, .inl (cI, 10, .inl (upd hor ns (nI (kSm (x >>> (2 &&& 31)) 12))))), (ad 22, .inl (cI, 10, .inl (upd pw ns (nI (1 + kSm (x >>> (6 &&& 31)) 9))))), (ga, .inl (cI, 48, .inl (upd g 47 (nI (ns + 1))))), (qa, .inl (cI, 40, .inl (upd (upd (upd (upd q ns (nI (kSm x 3))) (20 + ns) (nI (kSm (x >>> (2 &&& 31)) 12))) (30 + ns) (nI (1 + kSm (x >>> (6 &&& 31)) 9))) (10 + ns) (nI (kSm (x >>> (10 &&& 31)) N)))))]) rfl ?_
        refine ky_iconst C dL_shoot_188 (v := 1) (by decide) ?_
        exact ky_zret C hr hlk rfl ⟨(nI (kSm (x >>> (10 &&& 31)) N)), (kSm x 3), (kSm (x >>> (2 &&& 31)) 12), (1 + kSm (x >>> (6 &&& 31)) 9), (upd (upd (upd (upd q ns (nI (kSm x 3))) (20 + ns) (nI (kSm (x >>> (2 &&& 31)) 12))) (30 + ns) (nI (1 + kSm (x >>> (6 &&& 31)) 9))) (10 + ns) (nI (kSm (x >>> (10 &&& 31)) N))), rfl, rfl, (Nat.le_of_lt_succ (kSm_lt x (by decide))), (by first | exact Nat.le_of_lt_succ (kSm_lt _ (by decide)) | exact Nat.le_trans (Nat.le_of_lt_succ (kSm_lt _ (show 0 < 3 by decide))) (by decide)), ⟨by omega, by have := kSm_lt (x >>> ((6 : Int32) &&& 31)) (show 0 < 9 by decide); omega⟩, hf9, ⟨(by repeat (first | rw [pk_us] | rw [pk_un (by omega)])), (by repeat (first | rw [pk_us] | rw [pk_un (by omega)])), (by repeat (first | rw [pk_us] | rw [pk_un (by omega)])), (by repeat (first | rw [pk_us] | rw [pk_un (by omega)])), fun j e1 e2 e3 e4 => (by repeat (first | rw [pk_us] | rw [pk_un (by omega)]))⟩⟩ (Nat.le_of_ble_eq_true rfl) dL_shoot_189
      · have d_124 := Int32.not_lt.mp c_124
        refine ky_iload C 0 dL_shoot_127 rfl ?_
        refine ky_aload_n C 4 dL_shoot_129 rfl rfl ?_
        refine ky_iconst C dL_shoot_130 (v := 0) (by decide) ?_
        refine ky_ialdN C 7 (k := 0) rfl (by omega) (by decide) dL_shoot_131 (v := nI N) hg0 ?_
        refine ky_icmp_ge C 144 dL_shoot_132 (by decide) (fun c_132 => ?_) (fun c_132 => ?_)
        · have d_132 := Int32.not_lt.mpr c_132
          refine ky_aload_n C 2 dL_shoot_144 rfl rfl ?_
          refine ky_aload_n C 5 dL_shoot_145 rfl rfl ?_
          refine ky_iload C 1 dL_shoot_146 rfl ?_
          refine ky_ialdN C 8 (k := ns) rfl (by omega) (by decide) dL_shoot_148 (v := nI (kSm x 3)) (by repeat (first | rw [pk_us] | rw [pk_un (by omega)])) ?_
          refine ky_aload_n C 5 dL_shoot_149 rfl rfl ?_
          refine ky_bipush C dL_shoot_150 (v := 10) (by decide) ?_
          refine ky_iload C 1 dL_shoot_152 rfl ?_
          refine ky_iadd C (v := nI (10 + ns)) dL_shoot_154 (nI_add 10 ns) ?_
          refine ky_ialdN C 8 (k := 10 + ns) rfl (by omega) (by decide) dL_shoot_155 (v := nI (kSm (x >>> (10 &&& 31)) N)) (by repeat (first | rw [pk_us] | rw [pk_un (by omega)])) ?_
          refine ky_aload_n C 5 dL_shoot_156 rfl rfl ?_
          refine ky_bipush C dL_shoot_157 (v := 20) (by decide) ?_
          refine ky_iload C 1 dL_shoot_159 rfl ?_
          refine ky_iadd C (v := nI (20 + ns)) dL_shoot_161 (nI_add 20 ns) ?_
          refine ky_ialdN C 8 (k := 20 + ns) rfl (by omega) (by decide) dL_shoot_162 (v := nI (kSm (x >>> (2 &&& 31)) 12)) (by repeat (first | rw [pk_us] | rw [pk_un (by omega)])) ?_
          refine ky_aload_n C 5 dL_shoot_163 rfl rfl ?_
          refine ky_bipush C dL_shoot_164 (v := 30) (by decide) ?_
          refine ky_iload C 1 dL_shoot_166 rfl ?_
          refine ky_iadd C (v := nI (30 + ns)) dL_shoot_168 (nI_add 30 ns) ?_
          refine ky_ialdN C 8 (k := 30 + ns) rfl (by omega) (by decide) dL_shoot_169 (v := nI (1 + kSm (x >>> (6 &&& 31)) 9)) (by repeat (first | rw [pk_us] | rw [pk_un (by omega)])) ?_
          refine ky_callV0 C 4 (kX7_shot l D cI cS ad left lastF N wind low forb ns kd fr hor pw (nI (kSm x 3)) (nI (kSm (x >>> (10 &&& 31)) N)) (nI (kSm (x >>> (2 &&& 31)) 12)) (nI (1 + kSm (x >>> (6 &&& 31)) 9)) (by first | assumption | omega) (by first | assumption | omega)) gL_shoot_X7_shot rfl rfl rfl hdX7_shot 0 7 rfl rfl rfl ⟨Nat.le_of_ble_eq_true rfl, Nat.le_of_ble_eq_true rfl⟩ rfl rfl (Nat.le_of_ble_eq_true rfl) dL_shoot_170 [0, 1, 2, 3, 4, 5, 6] rfl rfl ?_
          rintro _ _ ⟨r2_170, ns2_170, kd2_170, fr2_170, hor2_170, pw2_170, rfl, rfl, hF_170⟩
          refine ky_ws (ws' := [(ad 0, .inr (7, [.ref (ad 1), .ref (ad 10), .ref (ad 14), .ref (ad 18), .ref (ad 23), .ref (ad 29), .ref (ad 32), .int left, .int lastF])), (ad 10, .inr (3, [.ref (ad 11), .ref (ad 12), .ref (ad 13), .int (nI N), .int wind, .int low, .int forb])), (ad 18, .inr (5, [.ref (ad 19), .ref (ad 20), .ref (ad 21), .ref (ad 22), .int (nI ns2_170)])), (ad 19, .inl (cI, 10, .inl kd2_170)), (ad 20, .inl (cI, 10, .inl fr2_170)), (ad 21, .inl (cI, 10, .inl hor2_170)), (ad 22, .inl (cI, 10, .inl pw2_170)), (ga, .inl (cI, 48, .inl g)), (qa, .inl (cI, 40, .inl (upd (upd (upd (upd q ns (nI (kSm x 3))) (20 + ns) (nI (kSm (x >>> (2 &&& 31)) 12))) (30 + ns) (nI (1 + kSm (x >>> (6 &&& 31)) 9))) (10 + ns) (nI (kSm (x >>> (10 &&& 31)) N)))))]) (st' := [.int r2_170]) rfl rfl ?_
          have hf9 : (0 : Int32) ≤ (nI (kSm (x >>> (10 &&& 31)) N)) ∧ (nI (kSm (x >>> (10 &&& 31)) N)) < nI N := ⟨nI_pos' (by have := kSm_lt (x >>> ((10 : Int32) &&& 31)) (show 0 < N by omega); omega), nI_lt (kSm_lt _ (by omega)) (by omega)⟩
          have hE_170 := hF_170.trans (kShot_go hf9 (show kSm x 3 ≤ 2 from Nat.le_of_lt_succ (kSm_lt x (by decide))) (show kSm (x >>> (2 &&& 31)) 12 ≤ 11 from Nat.le_of_lt_succ (kSm_lt _ (by decide))) (show 1 ≤ 1 + kSm (x >>> (6 &&& 31)) 9 ∧ 1 + kSm (x >>> (6 &&& 31)) 9 ≤ 9 from ⟨by omega, by have := kSm_lt (x >>> ((6 : Int32) &&& 31)) (show 0 < 9 by decide); omega⟩) (show ns < 8 by omega))
          simp only [Prod.mk.injEq] at hE_170
          obtain ⟨rfl, rfl, rfl, rfl, rfl, rfl⟩ := hE_170
          refine ky_iload C 1 dL_shoot_173 rfl ?_
          refine ky_icmp_eq C 180 dL_shoot_175 (by decide) (fun c_175 => ?_) (fun q => absurd rfl q)
          refine ky_aload_n C 4 dL_shoot_180 rfl rfl ?_
          refine ky_bipush C dL_shoot_181 (v := 47) (by decide) ?_
          refine ky_dup2 C dL_shoot_183 rfl rfl ?_
          refine ky_ialdN C 7 (k := 47) rfl (by omega) (by decide) dL_shoot_184 (v := nI ns) hg47 ?_
          refine ky_iconst C dL_shoot_185 (v := 1) (by decide) ?_
          refine ky_iadd C (v := nI (ns + 1)) dL_shoot_186 (nI_add ns 1) ?_
          refine ky_iastN C 7 (k := 47) rfl (by omega) (by decide) dL_shoot_187 (ws' := [(ad 0, .inr (7, [.ref (ad 1), .ref (ad 10), .ref (ad 14), .ref (ad 18), .ref (ad 23), .ref (ad 29), .ref (ad 32), .int left, .int lastF])), (ad 10, .inr (3, [.ref (ad 11), .ref (ad 12), .ref (ad 13), .int (nI N), .int wind, .int low, .int forb])), (ad 18, .inr (5, [.ref (ad 19), .ref (ad 20), .ref (ad 21), .ref (ad 22), .int (nI (ns + 1))])), (ad 19, .inl (cI, 10, .inl (upd kd ns (nI (kSm x 3))))), (ad 20, .inl (cI, 10, .inl (upd fr ns (nI (kSm (x >>> (10 &&& 31)) N))))), (ad 21, .inl (cI, 10, .inl (upd hor ns (nI (kSm (x >>> (2 &&& 31)) 12))))), (ad 22, .inl (cI, 10, .inl (upd pw ns (nI (1 + kSm (x >>> (6 &&& 31)) 9))))), (ga, .inl (cI, 48, .inl (upd g 47 (nI (ns + 1))))), (qa, .inl (cI, 40, .inl (upd (upd (upd (upd q ns (nI (kSm x 3))) (20 + ns) (nI (kSm (x >>> (2 &&& 31)) 12))) (30 + ns) (nI (1 + kSm (x >>> (6 &&& 31)) 9))) (10 + ns) (nI (kSm (x >>> (10 &&& 31)) N)))))]) rfl ?_
          refine ky_iconst C dL_shoot_188 (v := 1) (by decide) ?_
          exact ky_zret C hr hlk rfl ⟨(nI (kSm (x >>> (10 &&& 31)) N)), (kSm x 3), (kSm (x >>> (2 &&& 31)) 12), (1 + kSm (x >>> (6 &&& 31)) 9), (upd (upd (upd (upd q ns (nI (kSm x 3))) (20 + ns) (nI (kSm (x >>> (2 &&& 31)) 12))) (30 + ns) (nI (1 + kSm (x >>> (6 &&& 31)) 9))) (10 + ns) (nI (kSm (x >>> (10 &&& 31)) N))), rfl, rfl, (Nat.le_of_lt_succ (kSm_lt x (by decide))), (by first | exact Nat.le_of_lt_succ (kSm_lt _ (by decide)) | exact Nat.le_trans (Nat.le_of_lt_succ (kSm_lt _ (show 0 < 3 by decide))) (by decide)), ⟨by omega, by have := kSm_lt (x >>> ((6 : Int32) &&& 31)) (show 0 < 9 by decide); omega⟩, hf9, ⟨(by repeat (first | rw [pk_us] | rw [pk_un (by omega)])), (by repeat (first | rw [pk_us] | rw [pk_un (by omega)])), (by repeat (first | rw [pk_us] | rw [pk_un (by omega)])), (by repeat (first | rw [pk_us] | rw [pk_un (by omega)])), fun j e1 e2 e3 e4 => (by repeat (first | rw [pk_us] | rw [pk_un (by omega)]))⟩⟩ (Nat.le_of_ble_eq_true rfl) dL_shoot_189
        · have d_132 := Int32.not_le.mp c_132
          refine ky_aload_n C 5 dL_shoot_135 rfl rfl ?_
          refine ky_bipush C dL_shoot_136 (v := 10) (by decide) ?_
          refine ky_iload C 1 dL_shoot_138 rfl ?_
          refine ky_iadd C (v := nI (10 + ns)) dL_shoot_140 (nI_add 10 ns) ?_
          refine ky_iload C 0 dL_shoot_141 rfl ?_
          refine ky_iastN C 8 (k := 10 + ns) rfl (by omega) (by decide) dL_shoot_143 (ws' := [(ad 0, .inr (7, [.ref (ad 1), .ref (ad 10), .ref (ad 14), .ref (ad 18), .ref (ad 23), .ref (ad 29), .ref (ad 32), .int left, .int lastF])), (ad 10, .inr (3, [.ref (ad 11), .ref (ad 12), .ref (ad 13), .int (nI N), .int wind, .int low, .int forb])), (ad 18, .inr (5, [.ref (ad 19), .ref (ad 20), .ref (ad 21), .ref (ad 22), .int (nI ns)])), (ad 19, .inl (cI, 10, .inl kd)), (ad 20, .inl (cI, 10, .inl fr)), (ad 21, .inl (cI, 10, .inl hor)), (ad 22, .inl (cI, 10, .inl pw)), (ga, .inl (cI, 48, .inl g)), (qa, .inl (cI, 40, .inl (upd (upd (upd (upd (upd q ns (nI (kSm x 3))) (20 + ns) (nI (kSm (x >>> (2 &&& 31)) 12))) (30 + ns) (nI (1 + kSm (x >>> (6 &&& 31)) 9))) (10 + ns) (nI (kSm (x >>> (10 &&& 31)) N))) (10 + ns) ((g (29 + kSm (x >>> (15 &&& 31)) nc)) + ((g 25) * (nI (kSm (x >>> (2 &&& 31)) 12)))))))]) rfl ?_
          refine ky_aload_n C 2 dL_shoot_144 rfl rfl ?_
          refine ky_aload_n C 5 dL_shoot_145 rfl rfl ?_
          refine ky_iload C 1 dL_shoot_146 rfl ?_
          refine ky_ialdN C 8 (k := ns) rfl (by omega) (by decide) dL_shoot_148 (v := nI (kSm x 3)) (by repeat (first | rw [pk_us] | rw [pk_un (by omega)])) ?_
          refine ky_aload_n C 5 dL_shoot_149 rfl rfl ?_
          refine ky_bipush C dL_shoot_150 (v := 10) (by decide) ?_
          refine ky_iload C 1 dL_shoot_152 rfl ?_
          refine ky_iadd C (v := nI (10 + ns)) dL_shoot_154 (nI_add 10 ns) ?_
          refine ky_ialdN C 8 (k := 10 + ns) rfl (by omega) (by decide) dL_shoot_155 (v := (g (29 + kSm (x >>> (15 &&& 31)) nc)) + ((g 25) * (nI (kSm (x >>> (2 &&& 31)) 12)))) (by repeat (first | rw [pk_us] | rw [pk_un (by omega)])) ?_
          refine ky_aload_n C 5 dL_shoot_156 rfl rfl ?_
          refine ky_bipush C dL_shoot_157 (v := 20) (by decide) ?_
          refine ky_iload C 1 dL_shoot_159 rfl ?_
          refine ky_iadd C (v := nI (20 + ns)) dL_shoot_161 (nI_add 20 ns) ?_
          refine ky_ialdN C 8 (k := 20 + ns) rfl (by omega) (by decide) dL_shoot_162 (v := nI (kSm (x >>> (2 &&& 31)) 12)) (by repeat (first | rw [pk_us] | rw [pk_un (by omega)])) ?_
          refine ky_aload_n C 5 dL_shoot_163 rfl rfl ?_
          refine ky_bipush C dL_shoot_164 (v := 30) (by decide) ?_
          refine ky_iload C 1 dL_shoot_166 rfl ?_
          refine ky_iadd C (v := nI (30 + ns)) dL_shoot_168 (nI_add 30 ns) ?_
          refine ky_ialdN C 8 (k := 30 + ns) rfl (by omega) (by decide) dL_shoot_169 (v := nI (1 + kSm (x >>> (6 &&& 31)) 9)) (by repeat (first | rw [pk_us] | rw [pk_un (by omega)])) ?_
          refine ky_callV0 C 4 (kX7_shot l D cI cS ad left lastF N wind low forb ns kd fr hor pw (nI (kSm x 3)) ((g (29 + kSm (x >>> (15 &&& 31)) nc)) + ((g 25) * (nI (kSm (x >>> (2 &&& 31)) 12)))) (nI (kSm (x >>> (2 &&& 31)) 12)) (nI (1 + kSm (x >>> (6 &&& 31)) 9)) (by first | assumption | omega) (by first | assumption | omega)) gL_shoot_X7_shot rfl rfl rfl hdX7_shot 0 7 rfl rfl rfl ⟨Nat.le_of_ble_eq_true rfl, Nat.le_of_ble_eq_true rfl⟩ rfl rfl (Nat.le_of_ble_eq_true rfl) dL_shoot_170 [0, 1, 2, 3, 4, 5, 6] rfl rfl ?_
          rintro _ _ ⟨r2_170, ns2_170, kd2_170, fr2_170, hor2_170, pw2_170, rfl, rfl, hF_170⟩
          refine ky_ws (ws' := [(ad 0, .inr (7, [.ref (ad 1), .ref (ad 10), .ref (ad 14), .ref (ad 18), .ref (ad 23), .ref (ad 29), .ref (ad 32), .int left, .int lastF])), (ad 10, .inr (3, [.ref (ad 11), .ref (ad 12), .ref (ad 13), .int (nI N), .int wind, .int low, .int forb])), (ad 18, .inr (5, [.ref (ad 19), .ref (ad 20), .ref (ad 21), .ref (ad 22), .int (nI ns2_170)])), (ad 19, .inl (cI, 10, .inl kd2_170)), (ad 20, .inl (cI, 10, .inl fr2_170)), (ad 21, .inl (cI, 10, .inl hor2_170)), (ad 22, .inl (cI, 10, .inl pw2_170)), (ga, .inl (cI, 48, .inl g)), (qa, .inl (cI, 40, .inl (upd (upd (upd (upd (upd q ns (nI (kSm x 3))) (20 + ns) (nI (kSm (x >>> (2 &&& 31)) 12))) (30 + ns) (nI (1 + kSm (x >>> (6 &&& 31)) 9))) (10 + ns) (nI (kSm (x >>> (10 &&& 31)) N))) (10 + ns) ((g (29 + kSm (x >>> (15 &&& 31)) nc)) + ((g 25) * (nI (kSm (x >>> (2 &&& 31)) 12)))))))]) (st' := [.int r2_170]) rfl rfl ?_
          have hf9 : (0 : Int32) ≤ ((g (29 + kSm (x >>> (15 &&& 31)) nc)) + ((g 25) * (nI (kSm (x >>> (2 &&& 31)) 12)))) ∧ ((g (29 + kSm (x >>> (15 &&& 31)) nc)) + ((g 25) * (nI (kSm (x >>> (2 &&& 31)) 12)))) < nI N := ⟨d_124, d_132⟩
          have hE_170 := hF_170.trans (kShot_go hf9 (show kSm x 3 ≤ 2 from Nat.le_of_lt_succ (kSm_lt x (by decide))) (show kSm (x >>> (2 &&& 31)) 12 ≤ 11 from Nat.le_of_lt_succ (kSm_lt _ (by decide))) (show 1 ≤ 1 + kSm (x >>> (6 &&& 31)) 9 ∧ 1 + kSm (x >>> (6 &&& 31)) 9 ≤ 9 from ⟨by omega, by have := kSm_lt (x >>> ((6 : Int32) &&& 31)) (show 0 < 9 by decide); omega⟩) (show ns < 8 by omega))
          simp only [Prod.mk.injEq] at hE_170
          obtain ⟨rfl, rfl, rfl, rfl, rfl, rfl⟩ := hE_170
          refine ky_iload C 1 dL_shoot_173 rfl ?_
          refine ky_icmp_eq C 180 dL_shoot_175 (by decide) (fun c_175 => ?_) (fun q => absurd rfl q)
          refine ky_aload_n C 4 dL_shoot_180 rfl rfl ?_
          refine ky_bipush C dL_shoot_181 (v := 47) (by decide) ?_
          refine ky_dup2 C dL_shoot_183 rfl rfl ?_
          refine ky_ialdN C 7 (k := 47) rfl (by omega) (by decide) dL_shoot_184 (v := nI ns) hg47 ?_
          refine ky_iconst C dL_shoot_185 (v := 1) (by decide) ?_
          refine ky_iadd C (v := nI (ns + 1)) dL_shoot_186 (nI_add ns 1) ?_
          refine ky_iastN C 7 (k := 47) rfl (by omega) (by decide) dL_shoot_187 (ws' := [(ad 0, .inr (7, [.ref (ad 1), .ref (ad 10), .ref (ad 14), .ref (ad 18), .ref (ad 23), .ref (ad 29), .ref (ad 32), .int left, .int lastF])), (ad 10, .inr (3, [.ref (ad 11), .ref (ad 12), .ref (ad 13), .int (nI N), .int wind, .int low, .int forb])), (ad 18, .inr (5, [.ref (ad 19), .ref (ad 20), .ref (ad 21), .ref (ad 22), .int (nI (ns + 1))])), (ad 19, .inl (cI, 10, .inl (upd kd ns (nI (kSm x 3))))), (ad 20, .inl (cI, 10, .inl (upd fr ns ((g (29 + kSm (x >>> (15 &&& 31)) nc)) + ((g 25) * (nI (kSm (x >>> (2 &&& 31)) 12))))))), (ad 21, .inl (cI, 10, .inl (upd hor ns (nI (kSm (x >>> (2 &&& 31)) 12))))), (ad 22, .inl (cI, 10, .inl (upd pw ns (nI (1 + kSm (x >>> (6 &&& 31)) 9))))), (ga, .inl (cI, 48, .inl (upd g 47 (nI (ns + 1))))), (qa, .inl (cI, 40, .inl (upd (upd (upd (upd (upd q ns (nI (kSm x 3))) (20 + ns) (nI (kSm (x >>> (2 &&& 31)) 12))) (30 + ns) (nI (1 + kSm (x >>> (6 &&& 31)) 9))) (10 + ns) (nI (kSm (x >>> (10 &&& 31)) N))) (10 + ns) ((g (29 + kSm (x >>> (15 &&& 31)) nc)) + ((g 25) * (nI (kSm (x >>> (2 &&& 31)) 12)))))))]) rfl ?_
          refine ky_iconst C dL_shoot_188 (v := 1) (by decide) ?_
          exact ky_zret C hr hlk rfl ⟨((g (29 + kSm (x >>> (15 &&& 31)) nc)) + ((g 25) * (nI (kSm (x >>> (2 &&& 31)) 12)))), (kSm x 3), (kSm (x >>> (2 &&& 31)) 12), (1 + kSm (x >>> (6 &&& 31)) 9), (upd (upd (upd (upd (upd q ns (nI (kSm x 3))) (20 + ns) (nI (kSm (x >>> (2 &&& 31)) 12))) (30 + ns) (nI (1 + kSm (x >>> (6 &&& 31)) 9))) (10 + ns) (nI (kSm (x >>> (10 &&& 31)) N))) (10 + ns) ((g (29 + kSm (x >>> (15 &&& 31)) nc)) + ((g 25) * (nI (kSm (x >>> (2 &&& 31)) 12))))), rfl, rfl, (Nat.le_of_lt_succ (kSm_lt x (by decide))), (by first | exact Nat.le_of_lt_succ (kSm_lt _ (by decide)) | exact Nat.le_trans (Nat.le_of_lt_succ (kSm_lt _ (show 0 < 3 by decide))) (by decide)), ⟨by omega, by have := kSm_lt (x >>> ((6 : Int32) &&& 31)) (show 0 < 9 by decide); omega⟩, hf9, ⟨(by repeat (first | rw [pk_us] | rw [pk_un (by omega)])), (by repeat (first | rw [pk_us] | rw [pk_un (by omega)])), (by repeat (first | rw [pk_us] | rw [pk_un (by omega)])), (by repeat (first | rw [pk_us] | rw [pk_un (by omega)])), fun j e1 e2 e3 e4 => (by repeat (first | rw [pk_us] | rw [pk_un (by omega)]))⟩⟩ (Nat.le_of_ble_eq_true rfl) dL_shoot_189
theorem hdL_clouds : yL_clouds.cls = RL ∧ yL_clouds.cls ≠ "java/lang/invoke/MethodHandle" ∧ yL_clouds.cls ≠ "java/lang/invoke/VarHandle" ∧ (parseMethodDescriptor yL_clouds.desc).map (fun d => d.parameters.length) = some 4 := by decide +kernel
set_option maxRecDepth 100000 in
set_option maxHeartbeats 4000000 in
theorem kL_clouds (l : Launch) (D : va_G) (cI cS : ClassId) (b : Nat) (L : Nat) (xs : Nat → Int32) (ad : Nat → Nat) (left : Int32) (lastF : Int32) (N : Nat) (wind : Int32) (low : Int32) (forb : Int32) (nc : Nat) (cat : Nat → Int32) (cwet : Nat → Int32) (chigh : Nat → Int32) (ga : Nat) (g : Nat → Int32) (fo : Nat) (hN1 : 1 ≤ N) (hN : N ≤ 8) (hL : L ≤ 260) (hfo : fo ≤ 50) (hnc0 : nc = 0) (hg28 : g 28 = 0) : kyMX l yL_clouds wsL_clouds ({ frames := 2, cells := 0, slots := 0, locals := 47 }) D cI cS b L xs [.ref (ad 0), .ref b, .int (nI fo), .ref ga] [(ad 0, .inr (7, [.ref (ad 1), .ref (ad 10), .ref (ad 14), .ref (ad 18), .ref (ad 23), .ref (ad 29), .ref (ad 32), .int left, .int lastF])), (ad 10, .inr (3, [.ref (ad 11), .ref (ad 12), .ref (ad 13), .int (nI N), .int wind, .int low, .int forb])), (ad 14, .inr (6, [.ref (ad 15), .ref (ad 16), .ref (ad 17), .int (nI nc)])), (ad 15, .inl (cI, 6, .inl cat)), (ad 16, .inl (cI, 6, .inl cwet)), (ad 17, .inl (cI, 6, .inl chigh)), (ga, .inl (cI, 48, .inl g))] 0 0 (fun vR wR => ∃ nc2 : Nat, ∃ cat2 : Nat → Int32, ∃ cwet2 : Nat → Int32, ∃ chi2 : Nat → Int32, ∃ g2 : Nat → Int32, vR = some (.int 1) ∧ wR = [(ad 0, .inr (7, [.ref (ad 1), .ref (ad 10), .ref (ad 14), .ref (ad 18), .ref (ad 23), .ref (ad 29), .ref (ad 32), .int left, .int lastF])), (ad 10, .inr (3, [.ref (ad 11), .ref (ad 12), .ref (ad 13), .int (nI N), .int wind, .int low, .int forb])), (ad 14, .inr (6, [.ref (ad 15), .ref (ad 16), .ref (ad 17), .int (nI nc2)])), (ad 15, .inl (cI, 6, .inl cat2)), (ad 16, .inl (cI, 6, .inl cwet2)), (ad 17, .inl (cI, 6, .inl chi2)), (ga, .inl (cI, 48, .inl g2))] ∧ (1 ≤ nc2 ∧ nc2 ≤ 6) ∧ (g2 28 = nI nc2) ∧ ((∀ c, c < nc2 → g2 (29 + c) = cat2 c ∧ g2 (35 + c) = cwet2 c ∧ g2 (41 + c) = chi2 c ∧ ∃ m : Nat, m ≤ 30 ∧ cwet2 c = nI m)) ∧ ((∀ j, j < 28 ∨ 46 < j → g2 j = g j))) := by
  refine ky_startX (own := RL) (cc := cL_clouds) (nL := 7) (ret := (some .boolean)) (by decide) rfl rfl (Nat.le_of_ble_eq_true rfl) ?_
  intro p e s m args below meth c hX hbl hbA C hr hlk hnm
  refine ky_conv (lv' := [(0, .ref (ad 0)), (1, .ref b), (2, .int (nI fo)), (3, .ref ga)]) (List.range 4) rfl rfl rfl ?_
  refine ky_iconst C dL_clouds_0 (v := 1) (by decide) ?_
  refine ky_aload_n C 1 dL_clouds_1 rfl rfl ?_
  refine ky_iload_n C 2 dL_clouds_2 rfl rfl ?_
  refine ky_callSX0 C hX hbl hbA 2 (kL_cell l D cI cS b L xs fo (by first | assumption | omega) (by first | assumption | omega)) gL_clouds_L_cell rfl rfl rfl hdL_cell.2 ⟨Nat.le_of_ble_eq_true rfl, Nat.le_of_ble_eq_true rfl⟩ rfl rfl (Nat.le_of_ble_eq_true rfl) dL_clouds_3 [] rfl rfl ?_
  rintro _ _ ⟨rfl, rfl⟩
  refine ky_ws (ws' := [(ad 0, .inr (7, [.ref (ad 1), .ref (ad 10), .ref (ad 14), .ref (ad 18), .ref (ad 23), .ref (ad 29), .ref (ad 32), .int left, .int lastF])), (ad 10, .inr (3, [.ref (ad 11), .ref (ad 12), .ref (ad 13), .int (nI N), .int wind, .int low, .int forb])), (ad 14, .inr (6, [.ref (ad 15), .ref (ad 16), .ref (ad 17), .int (nI nc)])), (ad 15, .inl (cI, 6, .inl cat)), (ad 16, .inl (cI, 6, .inl cwet)), (ad 17, .inl (cI, 6, .inl chigh)), (ga, .inl (cI, 48, .inl g))]) (st' := [.int (kCell L xs fo), .int 1]) rfl rfl ?_
  refine ky_bipush C dL_clouds_6 (v := 6) (by decide) ?_
  refine ky_callS0 C 2 (kL_some l D cI cS (kCell L xs fo) 6 (by first | assumption | omega) (by first | assumption | omega)) gL_clouds_L_some rfl rfl rfl hdL_some.2 ⟨Nat.le_of_ble_eq_true rfl, Nat.le_of_ble_eq_true rfl⟩ rfl rfl (Nat.le_of_ble_eq_true rfl) dL_clouds_8 [] rfl rfl ?_
  rintro _ _ ⟨rfl, rfl⟩
  refine ky_ws (ws' := [(ad 0, .inr (7, [.ref (ad 1), .ref (ad 10), .ref (ad 14), .ref (ad 18), .ref (ad 23), .ref (ad 29), .ref (ad 32), .int left, .int lastF])), (ad 10, .inr (3, [.ref (ad 11), .ref (ad 12), .ref (ad 13), .int (nI N), .int wind, .int low, .int forb])), (ad 14, .inr (6, [.ref (ad 15), .ref (ad 16), .ref (ad 17), .int (nI nc)])), (ad 15, .inl (cI, 6, .inl cat)), (ad 16, .inl (cI, 6, .inl cwet)), (ad 17, .inl (cI, 6, .inl chigh)), (ga, .inl (cI, 48, .inl g))]) (st' := [.int (nI (kSm (kCell L xs fo) 6)), .int 1]) rfl rfl ?_
  have hs_8 : kSm (kCell L xs fo) 6 < 6 := kSm_lt _ (by omega)
  refine ky_iadd C (v := nI (1 + kSm (kCell L xs fo) 6)) dL_clouds_11 (nI_add 1 (kSm (kCell L xs fo) 6)) ?_
  refine ky_istore C (lv' := [(4, .int (nI (1 + kSm (kCell L xs fo) 6))), (0, .ref (ad 0)), (1, .ref b), (2, .int (nI fo)), (3, .ref ga)]) dL_clouds_12 (by decide) rfl ?_
  refine ky_iconst C dL_clouds_14 (v := 0) (by decide) ?_
  refine ky_istore C (lv' := [(5, .int 0), (4, .int (nI (1 + kSm (kCell L xs fo) 6))), (0, .ref (ad 0)), (1, .ref b), (2, .int (nI fo)), (3, .ref ga)]) dL_clouds_15 (by decide) rfl ?_
  refine ky_conv (ws' := [(ad 0, .inr (7, [.ref (ad 1), .ref (ad 10), .ref (ad 14), .ref (ad 18), .ref (ad 23), .ref (ad 29), .ref (ad 32), .int left, .int lastF])), (ad 10, .inr (3, [.ref (ad 11), .ref (ad 12), .ref (ad 13), .int (nI N), .int wind, .int low, .int forb])), (ad 14, .inr (6, [.ref (ad 15), .ref (ad 16), .ref (ad 17), .int (nI nc)])), (ad 15, .inl (cI, 6, .inl cat)), (ad 16, .inl (cI, 6, .inl cwet)), (ad 17, .inl (cI, 6, .inl chigh)), (ga, .inl (cI, 48, .inl g))]) (lv' := [(5, .int 0), (4, .int (nI (1 + kSm (kCell L xs fo) 6))), (0, .ref (ad 0)), (1, .ref b), (2, .int (nI fo)), (3, .ref ga)]) (st' := []) [0, 1, 2, 3, 4, 5] rfl rfl rfl ?_
  refine ky_loop6 (T1 := Nat) (T2 := Nat → Int32) (T3 := Nat → Int32) (T4 := Nat → Int32) (T5 := Nat → Int32) (T6 := Nat) (Wf := (fun i1 g1 c1 w1 h1 n1 => [(ad 0, .inr (7, [.ref (ad 1), .ref (ad 10), .ref (ad 14), .ref (ad 18), .ref (ad 23), .ref (ad 29), .ref (ad 32), .int left, .int lastF])), (ad 10, .inr (3, [.ref (ad 11), .ref (ad 12), .ref (ad 13), .int (nI N), .int wind, .int low, .int forb])), (ad 14, .inr (6, [.ref (ad 15), .ref (ad 16), .ref (ad 17), .int (nI n1)])), (ad 15, .inl (cI, 6, .inl c1)), (ad 16, .inl (cI, 6, .inl w1)), (ad 17, .inl (cI, 6, .inl h1)), (ga, .inl (cI, 48, .inl g1))])) (Lf := (fun i1 g1 c1 w1 h1 n1 => [(5, .int (nI i1)), (4, .int (nI (1 + kSm (kCell L xs fo) 6))), (0, .ref (ad 0)), (1, .ref b), (2, .int (nI fo)), (3, .ref ga)])) (Sf := (fun i1 g1 c1 w1 h1 n1 => [])) (fun i1 g1 c1 w1 h1 n1 => (i1 ≤ (1 + kSm (kCell L xs fo) 6)) ∧ (i1 = n1) ∧ (g1 28 = nI i1) ∧ ((∀ c, c < i1 → g1 (29 + c) = c1 c ∧ g1 (35 + c) = w1 c ∧ g1 (41 + c) = h1 c ∧ ∃ m : Nat, m ≤ 30 ∧ w1 c = nI m)) ∧ ((∀ j, j < 28 ∨ 46 < j → g1 j = g j)) ∧ True) (fun i1 g1 c1 w1 h1 n1 => (1 + kSm (kCell L xs fo) 6) - i1) ?_ 0 g cat cwet chigh nc ⟨(by omega), hnc0.symm, hg28, (fun c hc => absurd hc (Nat.not_lt_zero c)), (fun _ _ => rfl), trivial⟩
  intro i1 g1 c1 w1 h1 n1 hI_17 ih_17
  obtain ⟨hi1, hn1, hg1, hc1, ho1, -⟩ := hI_17
  have hi1 : i1 ≤ (1 + kSm (kCell L xs fo) 6) := hi1
  have hn1 : i1 = n1 := hn1
  have hg1 : g1 28 = nI i1 := hg1
  have hc1 : (∀ c, c < i1 → g1 (29 + c) = c1 c ∧ g1 (35 + c) = w1 c ∧ g1 (41 + c) = h1 c ∧ ∃ m : Nat, m ≤ 30 ∧ w1 c = nI m) := hc1
  have ho1 : (∀ j, j < 28 ∨ 46 < j → g1 j = g j) := ho1
  refine ky_conv (ws' := [(ad 0, .inr (7, [.ref (ad 1), .ref (ad 10), .ref (ad 14), .ref (ad 18), .ref (ad 23), .ref (ad 29), .ref (ad 32), .int left, .int lastF])), (ad 10, .inr (3, [.ref (ad 11), .ref (ad 12), .ref (ad 13), .int (nI N), .int wind, .int low, .int forb])), (ad 14, .inr (6, [.ref (ad 15), .ref (ad 16), .ref (ad 17), .int (nI n1)])), (ad 15, .inl (cI, 6, .inl c1)), (ad 16, .inl (cI, 6, .inl w1)), (ad 17, .inl (cI, 6, .inl h1)), (ga, .inl (cI, 48, .inl g1))]) (lv' := [(5, .int (nI i1)), (4, .int (nI (1 + kSm (kCell L xs fo) 6))), (0, .ref (ad 0)), (1, .ref b), (2, .int (nI fo)), (3, .ref ga)]) (st' := []) (List.range 6) rfl rfl rfl ?_
  refine ky_iload C 0 dL_clouds_17 rfl ?_
  refine ky_iload C 1 dL_clouds_19 rfl ?_
  refine ky_icmp_ge C 196 dL_clouds_21 (by decide) (fun c_21 => ?_) (fun c_21 => ?_)
  · have d_21 := Int32.not_lt.mpr c_21
    have n_21 := kn_le (a := 1 + kSm (kCell L xs fo) 6) (b := i1) (by omega) (by omega) c_21
    have m_21 := Nat.not_lt.mpr n_21
    refine ky_iconst C dL_clouds_196 (v := 1) (by decide) ?_
    exact ky_zret C hr hlk rfl ⟨i1, c1, w1, h1, g1, rfl, (by subst hn1; rfl), ⟨by omega, by omega⟩, hg1, hc1, ho1⟩ (Nat.le_of_ble_eq_true rfl) dL_clouds_197
  · have d_21 := Int32.not_le.mp c_21
    have n_21 := kn_nle (a := 1 + kSm (kCell L xs fo) 6) (b := i1) (by omega) (by omega) c_21
    have m_21 := Nat.not_le.mpr n_21
    subst hn1
    refine ky_aload_n C 3 dL_clouds_24 rfl rfl ?_
    refine ky_iload_n C 4 dL_clouds_25 rfl rfl ?_
    refine ky_iconst C dL_clouds_26 (v := 1) (by decide) ?_
    refine ky_iadd C (v := nI (fo + 1)) dL_clouds_27 (nI_add fo 1) ?_
    refine ky_iload C 0 dL_clouds_28 rfl ?_
    refine ky_iconst C dL_clouds_30 (v := 3) (by decide) ?_
    refine ky_irem C (v := nI (i1 % 3)) dL_clouds_31 (by decide) (pk_rem (by omega) (by decide) (by decide)) ?_
    refine ky_iadd C (v := nI (fo + 1 + i1 % 3)) dL_clouds_32 (nI_add (fo + 1) (i1 % 3)) ?_
    refine ky_callSX0 C hX hbl hbA 2 (kL_cell l D cI cS b L xs (fo + 1 + i1 % 3) (by first | assumption | omega) (by first | assumption | omega)) gL_clouds_L_cell rfl rfl rfl hdL_cell.2 ⟨Nat.le_of_ble_eq_true rfl, Nat.le_of_ble_eq_true rfl⟩ rfl rfl (Nat.le_of_ble_eq_true rfl) dL_clouds_33 [] rfl rfl ?_
    rintro _ _ ⟨rfl, rfl⟩
    refine ky_ws (ws' := [(ad 0, .inr (7, [.ref (ad 1), .ref (ad 10), .ref (ad 14), .ref (ad 18), .ref (ad 23), .ref (ad 29), .ref (ad 32), .int left, .int lastF])), (ad 10, .inr (3, [.ref (ad 11), .ref (ad 12), .ref (ad 13), .int (nI N), .int wind, .int low, .int forb])), (ad 14, .inr (6, [.ref (ad 15), .ref (ad 16), .ref (ad 17), .int (nI i1)])), (ad 15, .inl (cI, 6, .inl c1)), (ad 16, .inl (cI, 6, .inl w1)), (ad 17, .inl (cI, 6, .inl h1)), (ga, .inl (cI, 48, .inl g1))]) (st' := [.int (kCell L xs (fo + 1 + i1 % 3))]) rfl rfl ?_
    refine ky_iload C 0 dL_clouds_36 rfl ?_
    refine ky_iconst C dL_clouds_38 (v := 3) (by decide) ?_
    refine ky_idiv C (v := nI (i1 / 3)) dL_clouds_39 (by decide) (pk_div (by omega) (by decide) (by decide)) ?_
    refine ky_bipush C dL_clouds_40 (v := 14) (by decide) ?_
    refine ky_imul C (v := nI ((i1 / 3) * 14)) dL_clouds_42 (pk_mul (i1 / 3) 14) ?_
    refine ky_ishr C (v := (kCell L xs (fo + 1 + i1 % 3)) >>> ((nI ((i1 / 3) * 14)) &&& 31)) dL_clouds_43 rfl ?_
    refine ky_istore C (lv' := [(6, .int ((kCell L xs (fo + 1 + i1 % 3)) >>> ((nI ((i1 / 3) * 14)) &&& 31))), (5, .int (nI i1)), (4, .int (nI (1 + kSm (kCell L xs fo) 6))), (0, .ref (ad 0)), (1, .ref b), (2, .int (nI fo)), (3, .ref ga)]) dL_clouds_44 (by decide) rfl ?_
    refine ky_aload_n C 6 dL_clouds_46 rfl rfl ?_
    refine ky_bipush C dL_clouds_47 (v := 29) (by decide) ?_
    refine ky_iload C 1 dL_clouds_49 rfl ?_
    refine ky_iadd C (v := nI (29 + i1)) dL_clouds_51 (nI_add 29 i1) ?_
    refine ky_join1 (T1 := Int32) (Wf := (fun v29 => [(ad 0, .inr (7, [.ref (ad 1), .ref (ad 10), .ref (ad 14), .ref (ad 18), .ref (ad 23), .ref (ad 29), .ref (ad 32), .int left, .int lastF])), (ad 10, .inr (3, [.ref (ad 11), .ref (ad 12), .ref (ad 13), .int (nI N), .int wind, .int low, .int forb])), (ad 14, .inr (6, [.ref (ad 15), .ref (ad 16), .ref (ad 17), .int (nI i1)])), (ad 15, .inl (cI, 6, .inl c1)), (ad 16, .inl (cI, 6, .inl w1)), (ad 17, .inl (cI, 6, .inl h1)), (ga, .inl (cI, 48, .inl g1))])) (Lf := (fun v29 => [(6, .int ((kCell L xs (fo + 1 + i1 % 3)) >>> ((nI ((i1 / 3) * 14)) &&& 31))), (5, .int (nI i1)), (4, .int (nI (1 + kSm (kCell L xs fo) 6))), (0, .ref (ad 0)), (1, .ref b), (2, .int (nI fo)), (3, .ref ga)])) (Sf := (fun v29 => [.int v29, .int (nI (29 + i1)), .ref ga])) (fun v29 => (-20 ≤ v29 ∧ v29 ≤ 20) ∧ True) 95 ?_ ?_
    · intro v29 hI_95
      obtain ⟨hv29, -⟩ := hI_95
      have hv29 : -20 ≤ v29 ∧ v29 ≤ 20 := hv29
      refine ky_conv (ws' := [(ad 0, .inr (7, [.ref (ad 1), .ref (ad 10), .ref (ad 14), .ref (ad 18), .ref (ad 23), .ref (ad 29), .ref (ad 32), .int left, .int lastF])), (ad 10, .inr (3, [.ref (ad 11), .ref (ad 12), .ref (ad 13), .int (nI N), .int wind, .int low, .int forb])), (ad 14, .inr (6, [.ref (ad 15), .ref (ad 16), .ref (ad 17), .int (nI i1)])), (ad 15, .inl (cI, 6, .inl c1)), (ad 16, .inl (cI, 6, .inl w1)), (ad 17, .inl (cI, 6, .inl h1)), (ga, .inl (cI, 48, .inl g1))]) (lv' := [(6, .int ((kCell L xs (fo + 1 + i1 % 3)) >>> ((nI ((i1 / 3) * 14)) &&& 31))), (5, .int (nI i1)), (4, .int (nI (1 + kSm (kCell L xs fo) 6))), (0, .ref (ad 0)), (1, .ref b), (2, .int (nI fo)), (3, .ref ga)]) (st' := [.int v29, .int (nI (29 + i1)), .ref ga]) (List.range 7) rfl rfl rfl ?_
      refine ky_iastN C 6 (k := 29 + i1) rfl (by omega) (by decide) dL_clouds_95 (ws' := [(ad 0, .inr (7, [.ref (ad 1), .ref (ad 10), .ref (ad 14), .ref (ad 18), .ref (ad 23), .ref (ad 29), .ref (ad 32), .int left, .int lastF])), (ad 10, .inr (3, [.ref (ad 11), .ref (ad 12), .ref (ad 13), .int (nI N), .int wind, .int low, .int forb])), (ad 14, .inr (6, [.ref (ad 15), .ref (ad 16), .ref (ad 17), .int (nI i1)])), (ad 15, .inl (cI, 6, .inl c1)), (ad 16, .inl (cI, 6, .inl w1)), (ad 17, .inl (cI, 6, .inl h1)), (ga, .inl (cI, 48, .inl (upd g1 (29 + i1) v29)))]) rfl ?_
      refine ky_aload_n C 6 dL_clouds_96 rfl rfl ?_
      refine ky_bipush C dL_clouds_97 (v := 35) (by decide) ?_
      refine ky_iload C 1 dL_clouds_99 rfl ?_
      refine ky_iadd C (v := nI (35 + i1)) dL_clouds_101 (nI_add 35 i1) ?_
      refine ky_iconst C dL_clouds_102 (v := 1) (by decide) ?_
      refine ky_join1 (T1 := Nat) (Wf := (fun v35 => [(ad 0, .inr (7, [.ref (ad 1), .ref (ad 10), .ref (ad 14), .ref (ad 18), .ref (ad 23), .ref (ad 29), .ref (ad 32), .int left, .int lastF])), (ad 10, .inr (3, [.ref (ad 11), .ref (ad 12), .ref (ad 13), .int (nI N), .int wind, .int low, .int forb])), (ad 14, .inr (6, [.ref (ad 15), .ref (ad 16), .ref (ad 17), .int (nI i1)])), (ad 15, .inl (cI, 6, .inl c1)), (ad 16, .inl (cI, 6, .inl w1)), (ad 17, .inl (cI, 6, .inl h1)), (ga, .inl (cI, 48, .inl (upd g1 (29 + i1) v29)))])) (Lf := (fun v35 => [(6, .int ((kCell L xs (fo + 1 + i1 % 3)) >>> ((nI ((i1 / 3) * 14)) &&& 31))), (5, .int (nI i1)), (4, .int (nI (1 + kSm (kCell L xs fo) 6))), (0, .ref (ad 0)), (1, .ref b), (2, .int (nI fo)), (3, .ref ga)])) (Sf := (fun v35 => [.int (nI v35), .int 1, .int (nI (35 + i1)), .ref ga])) (fun v35 => (v35 < 30) ∧ True) 129 ?_ ?_
      · intro v35 hI_129
        obtain ⟨hv35, -⟩ := hI_129
        have hv35 : v35 < 30 := hv35
        refine ky_conv (ws' := [(ad 0, .inr (7, [.ref (ad 1), .ref (ad 10), .ref (ad 14), .ref (ad 18), .ref (ad 23), .ref (ad 29), .ref (ad 32), .int left, .int lastF])), (ad 10, .inr (3, [.ref (ad 11), .ref (ad 12), .ref (ad 13), .int (nI N), .int wind, .int low, .int forb])), (ad 14, .inr (6, [.ref (ad 15), .ref (ad 16), .ref (ad 17), .int (nI i1)])), (ad 15, .inl (cI, 6, .inl c1)), (ad 16, .inl (cI, 6, .inl w1)), (ad 17, .inl (cI, 6, .inl h1)), (ga, .inl (cI, 48, .inl (upd g1 (29 + i1) v29)))]) (lv' := [(6, .int ((kCell L xs (fo + 1 + i1 % 3)) >>> ((nI ((i1 / 3) * 14)) &&& 31))), (5, .int (nI i1)), (4, .int (nI (1 + kSm (kCell L xs fo) 6))), (0, .ref (ad 0)), (1, .ref b), (2, .int (nI fo)), (3, .ref ga)]) (st' := [.int (nI v35), .int 1, .int (nI (35 + i1)), .ref ga]) (List.range 7) rfl rfl rfl ?_
        refine ky_iadd C (v := nI (1 + v35)) dL_clouds_129 (nI_add 1 v35) ?_
        refine ky_iastN C 6 (k := 35 + i1) rfl (by omega) (by decide) dL_clouds_130 (ws' := [(ad 0, .inr (7, [.ref (ad 1), .ref (ad 10), .ref (ad 14), .ref (ad 18), .ref (ad 23), .ref (ad 29), .ref (ad 32), .int left, .int lastF])), (ad 10, .inr (3, [.ref (ad 11), .ref (ad 12), .ref (ad 13), .int (nI N), .int wind, .int low, .int forb])), (ad 14, .inr (6, [.ref (ad 15), .ref (ad 16), .ref (ad 17), .int (nI i1)])), (ad 15, .inl (cI, 6, .inl c1)), (ad 16, .inl (cI, 6, .inl w1)), (ad 17, .inl (cI, 6, .inl h1)), (ga, .inl (cI, 48, .inl (upd (upd g1 (29 + i1) v29) (35 + i1) (nI (1 + v35)))))]) rfl ?_
        refine ky_aload_n C 6 dL_clouds_131 rfl rfl ?_
        refine ky_bipush C dL_clouds_132 (v := 41) (by decide) ?_
        refine ky_iload C 1 dL_clouds_134 rfl ?_
        refine ky_iadd C (v := nI (41 + i1)) dL_clouds_136 (nI_add 41 i1) ?_
        refine ky_iconst C dL_clouds_137 (v := 1) (by decide) ?_
        refine ky_iload C 0 dL_clouds_138 rfl ?_
        refine ky_bipush C dL_clouds_140 (v := 9) (by decide) ?_
        refine ky_ishr C (v := ((kCell L xs (fo + 1 + i1 % 3)) >>> ((nI ((i1 / 3) * 14)) &&& 31)) >>> (9 &&& 31)) dL_clouds_142 rfl ?_
        refine ky_bipush C dL_clouds_143 (v := 9) (by decide) ?_
        refine ky_callS0 C 2 (kL_some l D cI cS (((kCell L xs (fo + 1 + i1 % 3)) >>> ((nI ((i1 / 3) * 14)) &&& 31)) >>> (9 &&& 31)) 9 (by first | assumption | omega) (by first | assumption | omega)) gL_clouds_L_some rfl rfl rfl hdL_some.2 ⟨Nat.le_of_ble_eq_true rfl, Nat.le_of_ble_eq_true rfl⟩ rfl rfl (Nat.le_of_ble_eq_true rfl) dL_clouds_145 [] rfl rfl ?_
        rintro _ _ ⟨rfl, rfl⟩
        refine ky_ws (ws' := [(ad 0, .inr (7, [.ref (ad 1), .ref (ad 10), .ref (ad 14), .ref (ad 18), .ref (ad 23), .ref (ad 29), .ref (ad 32), .int left, .int lastF])), (ad 10, .inr (3, [.ref (ad 11), .ref (ad 12), .ref (ad 13), .int (nI N), .int wind, .int low, .int forb])), (ad 14, .inr (6, [.ref (ad 15), .ref (ad 16), .ref (ad 17), .int (nI i1)])), (ad 15, .inl (cI, 6, .inl c1)), (ad 16, .inl (cI, 6, .inl w1)), (ad 17, .inl (cI, 6, .inl h1)), (ga, .inl (cI, 48, .inl (upd (upd g1 (29 + i1) v29) (35 + i1) (nI (1 + v35)))))]) (st' := [.int (nI (kSm (((kCell L xs (fo + 1 + i1 % 3)) >>> ((nI ((i1 / 3) * 14)) &&& 31)) >>> (9 &&& 31)) 9)), .int 1, .int (nI (41 + i1)), .ref ga]) rfl rfl ?_
        have hs_145 : kSm (((kCell L xs (fo + 1 + i1 % 3)) >>> ((nI ((i1 / 3) * 14)) &&& 31)) >>> (9 &&& 31)) 9 < 9 := kSm_lt _ (by omega)
        refine ky_iadd C (v := nI (1 + kSm (((kCell L xs (fo + 1 + i1 % 3)) >>> ((nI ((i1 / 3) * 14)) &&& 31)) >>> (9 &&& 31)) 9)) dL_clouds_148 (nI_add 1 (kSm (((kCell L xs (fo + 1 + i1 % 3)) >>> ((nI ((i1 / 3) * 14)) &&& 31)) >>> (9 &&& 31)) 9)) ?_
        refine ky_iastN C 6 (k := 41 + i1) rfl (by omega) (by decide) dL_clouds_149 (ws' := [(ad 0, .inr (7, [.ref (ad 1), .ref (ad 10), .ref (ad 14), .ref (ad 18), .ref (ad 23), .ref (ad 29), .ref (ad 32), .int left, .int lastF])), (ad 10, .inr (3, [.ref (ad 11), .ref (ad 12), .ref (ad 13), .int (nI N), .int wind, .int low, .int forb])), (ad 14, .inr (6, [.ref (ad 15), .ref (ad 16), .ref (ad 17), .int (nI i1)])), (ad 15, .inl (cI, 6, .inl c1)), (ad 16, .inl (cI, 6, .inl w1)), (ad 17, .inl (cI, 6, .inl h1)), (ga, .inl (cI, 48, .inl (upd (upd (upd g1 (29 + i1) v29) (35 + i1) (nI (1 + v35))) (41 + i1) (nI (1 + kSm (((kCell L xs (fo + 1 + i1 % 3)) >>> ((nI ((i1 / 3) * 14)) &&& 31)) >>> (9 &&& 31)) 9)))))]) rfl ?_
        refine ky_aload_n C 3 dL_clouds_150 rfl rfl ?_
        refine ky_aload_n C 6 dL_clouds_151 rfl rfl ?_
        refine ky_bipush C dL_clouds_152 (v := 29) (by decide) ?_
        refine ky_iload C 1 dL_clouds_154 rfl ?_
        refine ky_iadd C (v := nI (29 + i1)) dL_clouds_156 (nI_add 29 i1) ?_
        refine ky_ialdN C 6 (k := 29 + i1) rfl (by omega) (by decide) dL_clouds_157 (v := v29) (by repeat (first | rw [pk_us] | rw [pk_un (by omega)])) ?_
        refine ky_aload_n C 6 dL_clouds_158 rfl rfl ?_
        refine ky_bipush C dL_clouds_159 (v := 35) (by decide) ?_
        refine ky_iload C 1 dL_clouds_161 rfl ?_
        refine ky_iadd C (v := nI (35 + i1)) dL_clouds_163 (nI_add 35 i1) ?_
        refine ky_ialdN C 6 (k := 35 + i1) rfl (by omega) (by decide) dL_clouds_164 (v := nI (1 + v35)) (by repeat (first | rw [pk_us] | rw [pk_un (by omega)])) ?_
        refine ky_aload_n C 6 dL_clouds_165 rfl rfl ?_
        refine ky_bipush C dL_clouds_166 (v := 41) (by decide) ?_
        refine ky_iload C 1 dL_clouds_168 rfl ?_
        refine ky_iadd C (v := nI (41 + i1)) dL_clouds_170 (nI_add 41 i1) ?_
        refine ky_ialdN C 6 (k := 41 + i1) rfl (by omega) (by decide) dL_clouds_171 (v := nI (1 + kSm (((kCell L xs (fo + 1 + i1 % 3)) >>> ((nI ((i1 / 3) * 14)) &&& 31)) >>> (9 &&& 31)) 9)) (by repeat (first | rw [pk_us] | rw [pk_un (by omega)])) ?_
        refine ky_callV0 C 3 (kX7_cloud l D cI cS ad left lastF N wind low forb i1 c1 w1 h1 v29 (nI (1 + v35)) (nI (1 + kSm (((kCell L xs (fo + 1 + i1 % 3)) >>> ((nI ((i1 / 3) * 14)) &&& 31)) >>> (9 &&& 31)) 9)) (by first | assumption | omega) (by omega)) gL_clouds_X7_cloud rfl rfl rfl hdX7_cloud 0 7 rfl rfl rfl ⟨Nat.le_of_ble_eq_true rfl, Nat.le_of_ble_eq_true rfl⟩ rfl rfl (Nat.le_of_ble_eq_true rfl) dL_clouds_172 [0, 1, 2, 3, 4, 5] rfl rfl ?_
        rintro _ _ ⟨r2_172, nc2_172, cat2_172, cwet2_172, chi2_172, rfl, rfl, hF_172⟩
        refine ky_ws (ws' := [(ad 0, .inr (7, [.ref (ad 1), .ref (ad 10), .ref (ad 14), .ref (ad 18), .ref (ad 23), .ref (ad 29), .ref (ad 32), .int left, .int lastF])), (ad 10, .inr (3, [.ref (ad 11), .ref (ad 12), .ref (ad 13), .int (nI N), .int wind, .int low, .int forb])), (ad 14, .inr (6, [.ref (ad 15), .ref (ad 16), .ref (ad 17), .int (nI nc2_172)])), (ad 15, .inl (cI, 6, .inl cat2_172)), (ad 16, .inl (cI, 6, .inl cwet2_172)), (ad 17, .inl (cI, 6, .inl chi2_172)), (ga, .inl (cI, 48, .inl (upd (upd (upd g1 (29 + i1) v29) (35 + i1) (nI (1 + v35))) (41 + i1) (nI (1 + kSm (((kCell L xs (fo + 1 + i1 % 3)) >>> ((nI ((i1 / 3) * 14)) &&& 31)) >>> (9 &&& 31)) 9)))))]) (st' := [.int r2_172]) rfl rfl ?_
        have hE_172 := hF_172.trans (kCloud_go hv29 (show 1 + v35 ≤ 30 from by omega) (show 1 ≤ 1 + v35 from by omega) (show 1 + kSm (((kCell L xs (fo + 1 + i1 % 3)) >>> ((nI ((i1 / 3) * 14)) &&& 31)) >>> (9 &&& 31)) 9 ≤ 9 from by omega) (show 1 ≤ 1 + kSm (((kCell L xs (fo + 1 + i1 % 3)) >>> ((nI ((i1 / 3) * 14)) &&& 31)) >>> (9 &&& 31)) 9 from by omega) (show i1 < 6 by omega) hN1)
        simp only [Prod.mk.injEq] at hE_172
        obtain ⟨rfl, rfl, rfl, rfl, rfl⟩ := hE_172
        refine ky_iload C 1 dL_clouds_175 rfl ?_
        refine ky_icmp_eq C 182 dL_clouds_177 (by decide) (fun c_177 => ?_) (fun q => absurd rfl q)
        refine ky_aload_n C 6 dL_clouds_182 rfl rfl ?_
        refine ky_bipush C dL_clouds_183 (v := 28) (by decide) ?_
        refine ky_dup2 C dL_clouds_185 rfl rfl ?_
        refine ky_ialdN C 6 (k := 28) rfl (by omega) (by decide) dL_clouds_186 (v := nI i1) (by rw [pk_un (by omega), pk_un (by omega), pk_un (by omega)]; exact hg1) ?_
        refine ky_iconst C dL_clouds_187 (v := 1) (by decide) ?_
        refine ky_iadd C (v := nI (i1 + 1)) dL_clouds_188 (nI_add i1 1) ?_
        refine ky_iastN C 6 (k := 28) rfl (by omega) (by decide) dL_clouds_189 (ws' := [(ad 0, .inr (7, [.ref (ad 1), .ref (ad 10), .ref (ad 14), .ref (ad 18), .ref (ad 23), .ref (ad 29), .ref (ad 32), .int left, .int lastF])), (ad 10, .inr (3, [.ref (ad 11), .ref (ad 12), .ref (ad 13), .int (nI N), .int wind, .int low, .int forb])), (ad 14, .inr (6, [.ref (ad 15), .ref (ad 16), .ref (ad 17), .int (nI (i1 + 1))])), (ad 15, .inl (cI, 6, .inl (upd c1 i1 v29))), (ad 16, .inl (cI, 6, .inl (upd w1 i1 (nI (1 + v35))))), (ad 17, .inl (cI, 6, .inl (upd h1 i1 (nI (1 + kSm (((kCell L xs (fo + 1 + i1 % 3)) >>> ((nI ((i1 / 3) * 14)) &&& 31)) >>> (9 &&& 31)) 9))))), (ga, .inl (cI, 48, .inl (upd (upd (upd (upd g1 (29 + i1) v29) (35 + i1) (nI (1 + v35))) (41 + i1) (nI (1 + kSm (((kCell L xs (fo + 1 + i1 % 3)) >>> ((nI ((i1 / 3) * 14)) &&& 31)) >>> (9 &&& 31)) 9))) 28 (nI (i1 + 1)))))]) rfl ?_
        refine ky_iinc C 1 (v := nI (i1 + 1)) (lv' := [(5, .int (nI (i1 + 1))), (6, .int ((kCell L xs (fo + 1 + i1 % 3)) >>> ((nI ((i1 / 3) * 14)) &&& 31))), (4, .int (nI (1 + kSm (kCell L xs fo) 6))), (0, .ref (ad 0)), (1, .ref b), (2, .int (nI fo)), (3, .ref ga)]) dL_clouds_190 rfl (nI_1 _) (by decide) rfl ?_
        refine ky_goto C dL_clouds_193 (tgt := 17) (by decide) ?_
        exact ky_conv (ws' := [(ad 0, .inr (7, [.ref (ad 1), .ref (ad 10), .ref (ad 14), .ref (ad 18), .ref (ad 23), .ref (ad 29), .ref (ad 32), .int left, .int lastF])), (ad 10, .inr (3, [.ref (ad 11), .ref (ad 12), .ref (ad 13), .int (nI N), .int wind, .int low, .int forb])), (ad 14, .inr (6, [.ref (ad 15), .ref (ad 16), .ref (ad 17), .int (nI (i1 + 1))])), (ad 15, .inl (cI, 6, .inl (upd c1 i1 v29))), (ad 16, .inl (cI, 6, .inl (upd w1 i1 (nI (1 + v35))))), (ad 17, .inl (cI, 6, .inl (upd h1 i1 (nI (1 + kSm (((kCell L xs (fo + 1 + i1 % 3)) >>> ((nI ((i1 / 3) * 14)) &&& 31)) >>> (9 &&& 31)) 9))))), (ga, .inl (cI, 48, .inl (upd (upd (upd (upd g1 (29 + i1) v29) (35 + i1) (nI (1 + v35))) (41 + i1) (nI (1 + kSm (((kCell L xs (fo + 1 + i1 % 3)) >>> ((nI ((i1 / 3) * 14)) &&& 31)) >>> (9 &&& 31)) 9))) 28 (nI (i1 + 1)))))]) (lv' := [(5, .int (nI (i1 + 1))), (4, .int (nI (1 + kSm (kCell L xs fo) 6))), (0, .ref (ad 0)), (1, .ref b), (2, .int (nI fo)), (3, .ref ga)]) (st' := []) [0, 2, 3, 4, 5, 6] rfl rfl rfl (ih_17 (i1 + 1) (upd (upd (upd (upd g1 (29 + i1) v29) (35 + i1) (nI (1 + v35))) (41 + i1) (nI (1 + kSm (((kCell L xs (fo + 1 + i1 % 3)) >>> ((nI ((i1 / 3) * 14)) &&& 31)) >>> (9 &&& 31)) 9))) 28 (nI (i1 + 1))) (upd c1 i1 v29) (upd w1 i1 (nI (1 + v35))) (upd h1 i1 (nI (1 + kSm (((kCell L xs (fo + 1 + i1 % 3)) >>> ((nI ((i1 / 3) * 14)) &&& 31)) >>> (9 &&& 31)) 9))) (i1 + 1) (show (1 + kSm (kCell L xs fo) 6) - (i1 + 1) < (1 + kSm (kCell L xs fo) 6) - i1 from by omega) ⟨(by omega), rfl, (by repeat (first | rw [pk_us] | rw [pk_un (by omega)])), (kCw_s hc1 (by omega) (by omega)), (fun j hj => (show _ = g1 j from (by repeat (first | rw [pk_us] | rw [pk_un (by omega)]))).trans (ho1 j hj)), trivial⟩)
      · intro kJ_129
        refine ky_iload C 0 dL_clouds_103 rfl ?_
        refine ky_iconst C dL_clouds_105 (v := 5) (by decide) ?_
        refine ky_ishr C (v := ((kCell L xs (fo + 1 + i1 % 3)) >>> ((nI ((i1 / 3) * 14)) &&& 31)) >>> (5 &&& 31)) dL_clouds_106 rfl ?_
        refine ky_iload C 0 dL_clouds_107 rfl ?_
        refine ky_bipush C dL_clouds_109 (v := 13) (by decide) ?_
        refine ky_ishr C (v := ((kCell L xs (fo + 1 + i1 % 3)) >>> ((nI ((i1 / 3) * 14)) &&& 31)) >>> (13 &&& 31)) dL_clouds_111 rfl ?_
        refine ky_iconst C dL_clouds_112 (v := 2) (by decide) ?_
        refine ky_callS0 C 2 (kL_some l D cI cS (((kCell L xs (fo + 1 + i1 % 3)) >>> ((nI ((i1 / 3) * 14)) &&& 31)) >>> (13 &&& 31)) 2 (by first | assumption | omega) (by first | assumption | omega)) gL_clouds_L_some rfl rfl rfl hdL_some.2 ⟨Nat.le_of_ble_eq_true rfl, Nat.le_of_ble_eq_true rfl⟩ rfl rfl (Nat.le_of_ble_eq_true rfl) dL_clouds_113 [] rfl rfl ?_
        rintro _ _ ⟨rfl, rfl⟩
        refine ky_ws (ws' := [(ad 0, .inr (7, [.ref (ad 1), .ref (ad 10), .ref (ad 14), .ref (ad 18), .ref (ad 23), .ref (ad 29), .ref (ad 32), .int left, .int lastF])), (ad 10, .inr (3, [.ref (ad 11), .ref (ad 12), .ref (ad 13), .int (nI N), .int wind, .int low, .int forb])), (ad 14, .inr (6, [.ref (ad 15), .ref (ad 16), .ref (ad 17), .int (nI i1)])), (ad 15, .inl (cI, 6, .inl c1)), (ad 16, .inl (cI, 6, .inl w1)), (ad 17, .inl (cI, 6, .inl h1)), (ga, .inl (cI, 48, .inl (upd g1 (29 + i1) v29)))]) (st' := [.int (nI (kSm (((kCell L xs (fo + 1 + i1 % 3)) >>> ((nI ((i1 / 3) * 14)) &&& 31)) >>> (13 &&& 31)) 2)), .int (((kCell L xs (fo + 1 + i1 % 3)) >>> ((nI ((i1 / 3) * 14)) &&& 31)) >>> (5 &&& 31)), .int 1, .int (nI (35 + i1)), .ref ga]) rfl rfl ?_
        have hs_113 : kSm (((kCell L xs (fo + 1 + i1 % 3)) >>> ((nI ((i1 / 3) * 14)) &&& 31)) >>> (13 &&& 31)) 2 < 2 := kSm_lt _ (by omega)
        refine ky_if_ne C 124 dL_clouds_116 (by decide) (fun c_116 => ?_) (fun c_116 => ?_)
        · have n_116 := kn_neq (a := kSm (((kCell L xs (fo + 1 + i1 % 3)) >>> ((nI ((i1 / 3) * 14)) &&& 31)) >>> (13 &&& 31)) 2) (b := 0) (by omega) (by omega) c_116
          refine ky_bipush C dL_clouds_124 (v := 6) (by decide) ?_
          refine ky_callS0 C 2 (kL_some l D cI cS (((kCell L xs (fo + 1 + i1 % 3)) >>> ((nI ((i1 / 3) * 14)) &&& 31)) >>> (5 &&& 31)) 6 (by first | assumption | omega) (by first | assumption | omega)) gL_clouds_L_some rfl rfl rfl hdL_some.2 ⟨Nat.le_of_ble_eq_true rfl, Nat.le_of_ble_eq_true rfl⟩ rfl rfl (Nat.le_of_ble_eq_true rfl) dL_clouds_126 [] rfl rfl ?_
          rintro _ _ ⟨rfl, rfl⟩
          refine ky_ws (ws' := [(ad 0, .inr (7, [.ref (ad 1), .ref (ad 10), .ref (ad 14), .ref (ad 18), .ref (ad 23), .ref (ad 29), .ref (ad 32), .int left, .int lastF])), (ad 10, .inr (3, [.ref (ad 11), .ref (ad 12), .ref (ad 13), .int (nI N), .int wind, .int low, .int forb])), (ad 14, .inr (6, [.ref (ad 15), .ref (ad 16), .ref (ad 17), .int (nI i1)])), (ad 15, .inl (cI, 6, .inl c1)), (ad 16, .inl (cI, 6, .inl w1)), (ad 17, .inl (cI, 6, .inl h1)), (ga, .inl (cI, 48, .inl (upd g1 (29 + i1) v29)))]) (st' := [.int (nI (kSm (((kCell L xs (fo + 1 + i1 % 3)) >>> ((nI ((i1 / 3) * 14)) &&& 31)) >>> (5 &&& 31)) 6)), .int 1, .int (nI (35 + i1)), .ref ga]) rfl rfl ?_
          have hs_126 : kSm (((kCell L xs (fo + 1 + i1 % 3)) >>> ((nI ((i1 / 3) * 14)) &&& 31)) >>> (5 &&& 31)) 6 < 6 := kSm_lt _ (by omega)
          exact ky_conv (ws' := [(ad 0, .inr (7, [.ref (ad 1), .ref (ad 10), .ref (ad 14), .ref (ad 18), .ref (ad 23), .ref (ad 29), .ref (ad 32), .int left, .int lastF])), (ad 10, .inr (3, [.ref (ad 11), .ref (ad 12), .ref (ad 13), .int (nI N), .int wind, .int low, .int forb])), (ad 14, .inr (6, [.ref (ad 15), .ref (ad 16), .ref (ad 17), .int (nI i1)])), (ad 15, .inl (cI, 6, .inl c1)), (ad 16, .inl (cI, 6, .inl w1)), (ad 17, .inl (cI, 6, .inl h1)), (ga, .inl (cI, 48, .inl (upd g1 (29 + i1) v29)))]) (lv' := [(6, .int ((kCell L xs (fo + 1 + i1 % 3)) >>> ((nI ((i1 / 3) * 14)) &&& 31))), (5, .int (nI i1)), (4, .int (nI (1 + kSm (kCell L xs fo) 6))), (0, .ref (ad 0)), (1, .ref b), (2, .int (nI fo)), (3, .ref ga)]) (st' := [.int (nI (kSm (((kCell L xs (fo + 1 + i1 % 3)) >>> ((nI ((i1 / 3) * 14)) &&& 31)) >>> (5 &&& 31)) 6)), .int 1, .int (nI (35 + i1)), .ref ga]) [0, 1, 2, 3, 4, 5, 6] rfl rfl rfl (kJ_129 (kSm (((kCell L xs (fo + 1 + i1 % 3)) >>> ((nI ((i1 / 3) * 14)) &&& 31)) >>> (5 &&& 31)) 6) ⟨(by omega), trivial⟩)
        · have n_116 := kn_eq (a := kSm (((kCell L xs (fo + 1 + i1 % 3)) >>> ((nI ((i1 / 3) * 14)) &&& 31)) >>> (13 &&& 31)) 2) (b := 0) (by omega) (by omega) c_116
          refine ky_bipush C dL_clouds_119 (v := 30) (by decide) ?_
          refine ky_goto C dL_clouds_121 (tgt := 126) (by decide) ?_
          refine ky_callS0 C 2 (kL_some l D cI cS (((kCell L xs (fo + 1 + i1 % 3)) >>> ((nI ((i1 / 3) * 14)) &&& 31)) >>> (5 &&& 31)) 30 (by first | assumption | omega) (by first | assumption | omega)) gL_clouds_L_some rfl rfl rfl hdL_some.2 ⟨Nat.le_of_ble_eq_true rfl, Nat.le_of_ble_eq_true rfl⟩ rfl rfl (Nat.le_of_ble_eq_true rfl) dL_clouds_126 [] rfl rfl ?_
          rintro _ _ ⟨rfl, rfl⟩
          refine ky_ws (ws' := [(ad 0, .inr (7, [.ref (ad 1), .ref (ad 10), .ref (ad 14), .ref (ad 18), .ref (ad 23), .ref (ad 29), .ref (ad 32), .int left, .int lastF])), (ad 10, .inr (3, [.ref (ad 11), .ref (ad 12), .ref (ad 13), .int (nI N), .int wind, .int low, .int forb])), (ad 14, .inr (6, [.ref (ad 15), .ref (ad 16), .ref (ad 17), .int (nI i1)])), (ad 15, .inl (cI, 6, .inl c1)), (ad 16, .inl (cI, 6, .inl w1)), (ad 17, .inl (cI, 6, .inl h1)), (ga, .inl (cI, 48, .inl (upd g1 (29 + i1) v29)))]) (st' := [.int (nI (kSm (((kCell L xs (fo + 1 + i1 % 3)) >>> ((nI ((i1 / 3) * 14)) &&& 31)) >>> (5 &&& 31)) 30)), .int 1, .int (nI (35 + i1)), .ref ga]) rfl rfl ?_
          have hs_126 : kSm (((kCell L xs (fo + 1 + i1 % 3)) >>> ((nI ((i1 / 3) * 14)) &&& 31)) >>> (5 &&& 31)) 30 < 30 := kSm_lt _ (by omega)
          exact ky_conv (ws' := [(ad 0, .inr (7, [.ref (ad 1), .ref (ad 10), .ref (ad 14), .ref (ad 18), .ref (ad 23), .ref (ad 29), .ref (ad 32), .int left, .int lastF])), (ad 10, .inr (3, [.ref (ad 11), .ref (ad 12), .ref (ad 13), .int (nI N), .int wind, .int low, .int forb])), (ad 14, .inr (6, [.ref (ad 15), .ref (ad 16), .ref (ad 17), .int (nI i1)])), (ad 15, .inl (cI, 6, .inl c1)), (ad 16, .inl (cI, 6, .inl w1)), (ad 17, .inl (cI, 6, .inl h1)), (ga, .inl (cI, 48, .inl (upd g1 (29 + i1) v29)))]) (lv' := [(6, .int ((kCell L xs (fo + 1 + i1 % 3)) >>> ((nI ((i1 / 3) * 14)) &&& 31))), (5, .int (nI i1)), (4, .int (nI (1 + kSm (kCell L xs fo) 6))), (0, .ref (ad 0)), (1, .ref b), (2, .int (nI fo)), (3, .ref ga)]) (st' := [.int (nI (kSm (((kCell L xs (fo + 1 + i1 % 3)) >>> ((nI ((i1 / 3) * 14)) &&& 31)) >>> (5 &&& 31)) 30)), .int 1, .int (nI (35 + i1)), .ref ga]) [0, 1, 2, 3, 4, 5, 6] rfl rfl rfl (kJ_129 (kSm (((kCell L xs (fo + 1 + i1 % 3)) >>> ((nI ((i1 / 3) * 14)) &&& 31)) >>> (5 &&& 31)) 30) ⟨(by omega), trivial⟩)
    · intro kJ_95
      refine ky_iload C 0 dL_clouds_52 rfl ?_
      refine ky_iload C 0 dL_clouds_54 rfl ?_
      refine ky_bipush C dL_clouds_56 (v := 12) (by decide) ?_
      refine ky_ishr C (v := ((kCell L xs (fo + 1 + i1 % 3)) >>> ((nI ((i1 / 3) * 14)) &&& 31)) >>> (12 &&& 31)) dL_clouds_58 rfl ?_
      refine ky_iconst C dL_clouds_59 (v := 2) (by decide) ?_
      refine ky_callS0 C 2 (kL_some l D cI cS (((kCell L xs (fo + 1 + i1 % 3)) >>> ((nI ((i1 / 3) * 14)) &&& 31)) >>> (12 &&& 31)) 2 (by first | assumption | omega) (by first | assumption | omega)) gL_clouds_L_some rfl rfl rfl hdL_some.2 ⟨Nat.le_of_ble_eq_true rfl, Nat.le_of_ble_eq_true rfl⟩ rfl rfl (Nat.le_of_ble_eq_true rfl) dL_clouds_60 [] rfl rfl ?_
      rintro _ _ ⟨rfl, rfl⟩
      refine ky_ws (ws' := [(ad 0, .inr (7, [.ref (ad 1), .ref (ad 10), .ref (ad 14), .ref (ad 18), .ref (ad 23), .ref (ad 29), .ref (ad 32), .int left, .int lastF])), (ad 10, .inr (3, [.ref (ad 11), .ref (ad 12), .ref (ad 13), .int (nI N), .int wind, .int low, .int forb])), (ad 14, .inr (6, [.ref (ad 15), .ref (ad 16), .ref (ad 17), .int (nI i1)])), (ad 15, .inl (cI, 6, .inl c1)), (ad 16, .inl (cI, 6, .inl w1)), (ad 17, .inl (cI, 6, .inl h1)), (ga, .inl (cI, 48, .inl g1))]) (st' := [.int (nI (kSm (((kCell L xs (fo + 1 + i1 % 3)) >>> ((nI ((i1 / 3) * 14)) &&& 31)) >>> (12 &&& 31)) 2)), .int ((kCell L xs (fo + 1 + i1 % 3)) >>> ((nI ((i1 / 3) * 14)) &&& 31)), .int (nI (29 + i1)), .ref ga]) rfl rfl ?_
      have hs_60 : kSm (((kCell L xs (fo + 1 + i1 % 3)) >>> ((nI ((i1 / 3) * 14)) &&& 31)) >>> (12 &&& 31)) 2 < 2 := kSm_lt _ (by omega)
      refine ky_if_ne C 71 dL_clouds_63 (by decide) (fun c_63 => ?_) (fun c_63 => ?_)
      · have n_63 := kn_neq (a := kSm (((kCell L xs (fo + 1 + i1 % 3)) >>> ((nI ((i1 / 3) * 14)) &&& 31)) >>> (12 &&& 31)) 2) (b := 0) (by omega) (by omega) c_63
        refine ky_bipush C dL_clouds_71 (v := 8) (by decide) ?_
        refine ky_callS0 C 2 (kL_some l D cI cS ((kCell L xs (fo + 1 + i1 % 3)) >>> ((nI ((i1 / 3) * 14)) &&& 31)) 8 (by first | assumption | omega) (by first | assumption | omega)) gL_clouds_L_some rfl rfl rfl hdL_some.2 ⟨Nat.le_of_ble_eq_true rfl, Nat.le_of_ble_eq_true rfl⟩ rfl rfl (Nat.le_of_ble_eq_true rfl) dL_clouds_73 [] rfl rfl ?_
        rintro _ _ ⟨rfl, rfl⟩
        refine ky_ws (ws' := [(ad 0, .inr (7, [.ref (ad 1), .ref (ad 10), .ref (ad 14), .ref (ad 18), .ref (ad 23), .ref (ad 29), .ref (ad 32), .int left, .int lastF])), (ad 10, .inr (3, [.ref (ad 11), .ref (ad 12), .ref (ad 13), .int (nI N), .int wind, .int low, .int forb])), (ad 14, .inr (6, [.ref (ad 15), .ref (ad 16), .ref (ad 17), .int (nI i1)])), (ad 15, .inl (cI, 6, .inl c1)), (ad 16, .inl (cI, 6, .inl w1)), (ad 17, .inl (cI, 6, .inl h1)), (ga, .inl (cI, 48, .inl g1))]) (st' := [.int (nI (kSm ((kCell L xs (fo + 1 + i1 % 3)) >>> ((nI ((i1 / 3) * 14)) &&& 31)) 8)), .int (nI (29 + i1)), .ref ga]) rfl rfl ?_
        have hs_73 : kSm ((kCell L xs (fo + 1 + i1 % 3)) >>> ((nI ((i1 / 3) * 14)) &&& 31)) 8 < 8 := kSm_lt _ (by omega)
        refine ky_iload C 0 dL_clouds_76 rfl ?_
        refine ky_bipush C dL_clouds_78 (v := 12) (by decide) ?_
        refine ky_ishr C (v := ((kCell L xs (fo + 1 + i1 % 3)) >>> ((nI ((i1 / 3) * 14)) &&& 31)) >>> (12 &&& 31)) dL_clouds_80 rfl ?_
        refine ky_iconst C dL_clouds_81 (v := 2) (by decide) ?_
        refine ky_callS0 C 2 (kL_some l D cI cS (((kCell L xs (fo + 1 + i1 % 3)) >>> ((nI ((i1 / 3) * 14)) &&& 31)) >>> (12 &&& 31)) 2 (by first | assumption | omega) (by first | assumption | omega)) gL_clouds_L_some rfl rfl rfl hdL_some.2 ⟨Nat.le_of_ble_eq_true rfl, Nat.le_of_ble_eq_true rfl⟩ rfl rfl (Nat.le_of_ble_eq_true rfl) dL_clouds_82 [] rfl rfl ?_
        rintro _ _ ⟨rfl, rfl⟩
        refine ky_ws (ws' := [(ad 0, .inr (7, [.ref (ad 1), .ref (ad 10), .ref (ad 14), .ref (ad 18), .ref (ad 23), .ref (ad 29), .ref (ad 32), .int left, .int lastF])), (ad 10, .inr (3, [.ref (ad 11), .ref (ad 12), .ref (ad 13), .int (nI N), .int wind, .int low, .int forb])), (ad 14, .inr (6, [.ref (ad 15), .ref (ad 16), .ref (ad 17), .int (nI i1)])), (ad 15, .inl (cI, 6, .inl c1)), (ad 16, .inl (cI, 6, .inl w1)), (ad 17, .inl (cI, 6, .inl h1)), (ga, .inl (cI, 48, .inl g1))]) (st' := [.int (nI (kSm (((kCell L xs (fo + 1 + i1 % 3)) >>> ((nI ((i1 / 3) * 14)) &&& 31)) >>> (12 &&& 31)) 2)), .int (nI (kSm ((kCell L xs (fo + 1 + i1 % 3)) >>> ((nI ((i1 / 3) * 14)) &&& 31)) 8)), .int (nI (29 + i1)), .ref ga]) rfl rfl ?_
        have hs_82 : kSm (((kCell L xs (fo + 1 + i1 % 3)) >>> ((nI ((i1 / 3) * 14)) &&& 31)) >>> (12 &&& 31)) 2 < 2 := kSm_lt _ (by omega)
        refine ky_if_ne C 93 dL_clouds_85 (by decide) (fun c_85 => ?_) (fun q => absurd q c_63)
        refine ky_iconst C dL_clouds_93 (v := 2) (by decide) ?_
        refine ky_isub C (v := (nI (kSm ((kCell L xs (fo + 1 + i1 % 3)) >>> ((nI ((i1 / 3) * 14)) &&& 31)) 8)) - 2) dL_clouds_94 rfl ?_
        exact ky_conv (ws' := [(ad 0, .inr (7, [.ref (ad 1), .ref (ad 10), .ref (ad 14), .ref (ad 18), .ref (ad 23), .ref (ad 29), .ref (ad 32), .int left, .int lastF])), (ad 10, .inr (3, [.ref (ad 11), .ref (ad 12), .ref (ad 13), .int (nI N), .int wind, .int low, .int forb])), (ad 14, .inr (6, [.ref (ad 15), .ref (ad 16), .ref (ad 17), .int (nI i1)])), (ad 15, .inl (cI, 6, .inl c1)), (ad 16, .inl (cI, 6, .inl w1)), (ad 17, .inl (cI, 6, .inl h1)), (ga, .inl (cI, 48, .inl g1))]) (lv' := [(6, .int ((kCell L xs (fo + 1 + i1 % 3)) >>> ((nI ((i1 / 3) * 14)) &&& 31))), (5, .int (nI i1)), (4, .int (nI (1 + kSm (kCell L xs fo) 6))), (0, .ref (ad 0)), (1, .ref b), (2, .int (nI fo)), (3, .ref ga)]) (st' := [.int ((nI (kSm ((kCell L xs (fo + 1 + i1 % 3)) >>> ((nI ((i1 / 3) * 14)) &&& 31)) 8)) - 2), .int (nI (29 + i1)), .ref ga]) [0, 1, 2, 3, 4, 5, 6] rfl rfl rfl (kJ_95 ((nI (kSm ((kCell L xs (fo + 1 + i1 % 3)) >>> ((nI ((i1 / 3) * 14)) &&& 31)) 8)) - 2) ⟨(kC29b hs_73), trivial⟩)
      · have n_63 := kn_eq (a := kSm (((kCell L xs (fo + 1 + i1 % 3)) >>> ((nI ((i1 / 3) * 14)) &&& 31)) >>> (12 &&& 31)) 2) (b := 0) (by omega) (by omega) c_63
        refine ky_bipush C dL_clouds_66 (v := 41) (by decide) ?_
        refine ky_goto C dL_clouds_68 (tgt := 73) (by decide) ?_
        refine ky_callS0 C 2 (kL_some l D cI cS ((kCell L xs (fo + 1 + i1 % 3)) >>> ((nI ((i1 / 3) * 14)) &&& 31)) 41 (by first | assumption | omega) (by first | assumption | omega)) gL_clouds_L_some rfl rfl rfl hdL_some.2 ⟨Nat.le_of_ble_eq_true rfl, Nat.le_of_ble_eq_true rfl⟩ rfl rfl (Nat.le_of_ble_eq_true rfl) dL_clouds_73 [] rfl rfl ?_
        rintro _ _ ⟨rfl, rfl⟩
        refine ky_ws (ws' := [(ad 0, .inr (7, [.ref (ad 1), .ref (ad 10), .ref (ad 14), .ref (ad 18), .ref (ad 23), .ref (ad 29), .ref (ad 32), .int left, .int lastF])), (ad 10, .inr (3, [.ref (ad 11), .ref (ad 12), .ref (ad 13), .int (nI N), .int wind, .int low, .int forb])), (ad 14, .inr (6, [.ref (ad 15), .ref (ad 16), .ref (ad 17), .int (nI i1)])), (ad 15, .inl (cI, 6, .inl c1)), (ad 16, .inl (cI, 6, .inl w1)), (ad 17, .inl (cI, 6, .inl h1)), (ga, .inl (cI, 48, .inl g1))]) (st' := [.int (nI (kSm ((kCell L xs (fo + 1 + i1 % 3)) >>> ((nI ((i1 / 3) * 14)) &&& 31)) 41)), .int (nI (29 + i1)), .ref ga]) rfl rfl ?_
        have hs_73 : kSm ((kCell L xs (fo + 1 + i1 % 3)) >>> ((nI ((i1 / 3) * 14)) &&& 31)) 41 < 41 := kSm_lt _ (by omega)
        refine ky_iload C 0 dL_clouds_76 rfl ?_
        refine ky_bipush C dL_clouds_78 (v := 12) (by decide) ?_
        refine ky_ishr C (v := ((kCell L xs (fo + 1 + i1 % 3)) >>> ((nI ((i1 / 3) * 14)) &&& 31)) >>> (12 &&& 31)) dL_clouds_80 rfl ?_
        refine ky_iconst C dL_clouds_81 (v := 2) (by decide) ?_
        refine ky_callS0 C 2 (kL_some l D cI cS (((kCell L xs (fo + 1 + i1 % 3)) >>> ((nI ((i1 / 3) * 14)) &&& 31)) >>> (12 &&& 31)) 2 (by first | assumption | omega) (by first | assumption | omega)) gL_clouds_L_some rfl rfl rfl hdL_some.2 ⟨Nat.le_of_ble_eq_true rfl, Nat.le_of_ble_eq_true rfl⟩ rfl rfl (Nat.le_of_ble_eq_true rfl) dL_clouds_82 [] rfl rfl ?_
        rintro _ _ ⟨rfl, rfl⟩
        refine ky_ws (ws' := [(ad 0, .inr (7, [.ref (ad 1), .ref (ad 10), .ref (ad 14), .ref (ad 18), .ref (ad 23), .ref (ad 29), .ref (ad 32), .int left, .int lastF])), (ad 10, .inr (3, [.ref (ad 11), .ref (ad 12), .ref (ad 13), .int (nI N), .int wind, .int low, .int forb])), (ad 14, .inr (6, [.ref (ad 15), .ref (ad 16), .ref (ad 17), .int (nI i1)])), (ad 15, .inl (cI, 6, .inl c1)), (ad 16, .inl (cI, 6, .inl w1)), (ad 17, .inl (cI, 6, .inl h1)), (ga, .inl (cI, 48, .inl g1))]) (st' := [.int (nI (kSm (((kCell L xs (fo + 1 + i1 % 3)) >>> ((nI ((i1 / 3) * 14)) &&& 31)) >>> (12 &&& 31)) 2)), .int (nI (kSm ((kCell L xs (fo + 1 + i1 % 3)) >>> ((nI ((i1 / 3) * 14)) &&& 31)) 41)), .int (nI (29 + i1)), .ref ga]) rfl rfl ?_
        have hs_82 : kSm (((kCell L xs (fo + 1 + i1 % 3)) >>> ((nI ((i1 / 3) * 14)) &&& 31)) >>> (12 &&& 31)) 2 < 2 := kSm_lt _ (by omega)
        refine ky_if_ne C 93 dL_clouds_85 (by decide) (fun q => absurd c_63 q) (fun c_85 => ?_)
        refine ky_bipush C dL_clouds_88 (v := 20) (by decide) ?_
        refine ky_goto C dL_clouds_90 (tgt := 94) (by decide) ?_
        refine ky_isub C (v := (nI (kSm ((kCell L xs (fo + 1 + i1 % 3)) >>> ((nI ((i1 / 3) * 14)) &&& 31)) 41)) - 20) dL_clouds_94 rfl ?_
        exact ky_conv (ws' := [(ad 0, .inr (7, [.ref (ad 1), .ref (ad 10), .ref (ad 14), .ref (ad 18), .ref (ad 23), .ref (ad 29), .ref (ad 32), .int left, .int lastF])), (ad 10, .inr (3, [.ref (ad 11), .ref (ad 12), .ref (ad 13), .int (nI N), .int wind, .int low, .int forb])), (ad 14, .inr (6, [.ref (ad 15), .ref (ad 16), .ref (ad 17), .int (nI i1)])), (ad 15, .inl (cI, 6, .inl c1)), (ad 16, .inl (cI, 6, .inl w1)), (ad 17, .inl (cI, 6, .inl h1)), (ga, .inl (cI, 48, .inl g1))]) (lv' := [(6, .int ((kCell L xs (fo + 1 + i1 % 3)) >>> ((nI ((i1 / 3) * 14)) &&& 31))), (5, .int (nI i1)), (4, .int (nI (1 + kSm (kCell L xs fo) 6))), (0, .ref (ad 0)), (1, .ref b), (2, .int (nI fo)), (3, .ref ga)]) (st' := [.int ((nI (kSm ((kCell L xs (fo + 1 + i1 % 3)) >>> ((nI ((i1 / 3) * 14)) &&& 31)) 41)) - 20), .int (nI (29 + i1)), .ref ga]) [0, 1, 2, 3, 4, 5, 6] rfl rfl rfl (kJ_95 ((nI (kSm ((kCell L xs (fo + 1 + i1 % 3)) >>> ((nI ((i1 / 3) * 14)) &&& 31)) 41)) - 20) ⟨(kC29a hs_73), trivial⟩)
theorem hdL_put : yL_put.cls = RL ∧ yL_put.cls ≠ "java/lang/invoke/MethodHandle" ∧ yL_put.cls ≠ "java/lang/invoke/VarHandle" ∧ (parseMethodDescriptor yL_put.desc).map (fun d => d.parameters.length) = some 5 := by decide +kernel
set_option maxRecDepth 100000 in
set_option maxHeartbeats 4000000 in
theorem kL_put (l : Launch) (D : va_G) (cI cS : ClassId) (b : Nat) (L : Nat) (xs : Nat → Int32) (ad : Nat → Nat) (left : Int32) (lastF : Int32) (sh : Nat → kSh) (ga : Nat) (g : Nat → Int32) (fo : Nat) (mo : Nat) (hL : L ≤ 260) (hfo : fo ≤ 50) (hmo : 2 ≤ mo) (hmo8 : mo ≤ 8) (hsh : kShOk sh) : kyMX l yL_put wsL_put ({ frames := 3, cells := 0, slots := 0, locals := 66 }) D cI cS b L xs [.ref (ad 0), .ref b, .int (nI fo), .int (nI mo), .ref ga] [(ad 0, .inr (7, [.ref (ad 1), .ref (ad 10), .ref (ad 14), .ref (ad 18), .ref (ad 23), .ref (ad 29), .ref (ad 32), .int left, .int lastF])), (ad 1, .inl (cS, 4, .inr (.inr (.inr (.inr (fun k => some (ad (2 + 2 * k)))))))), (ad 2, .inr (4, [.ref (ad 3), .int ((sh 0).1), .int ((sh 0).2.1)])), (ad 3, .inl (cI, 40, .inl ((sh 0).2.2))), (ad 4, .inr (4, [.ref (ad 5), .int ((sh 1).1), .int ((sh 1).2.1)])), (ad 5, .inl (cI, 40, .inl ((sh 1).2.2))), (ad 6, .inr (4, [.ref (ad 7), .int ((sh 2).1), .int ((sh 2).2.1)])), (ad 7, .inl (cI, 40, .inl ((sh 2).2.2))), (ad 8, .inr (4, [.ref (ad 9), .int ((sh 3).1), .int ((sh 3).2.1)])), (ad 9, .inl (cI, 40, .inl ((sh 3).2.2))), (ga, .inl (cI, 48, .inl g))] 0 0 (fun vR wR => ∃ N2 : Nat, ∃ at2 : Nat, ∃ lf2 : Int32, ∃ sh2 : Nat → kSh, ∃ g2 : Nat → Int32, vR = some (.int (nI at2)) ∧ wR = [(ad 0, .inr (7, [.ref (ad 1), .ref (ad 10), .ref (ad 14), .ref (ad 18), .ref (ad 23), .ref (ad 29), .ref (ad 32), .int left, .int lf2])), (ad 1, .inl (cS, 4, .inr (.inr (.inr (.inr (fun k => some (ad (2 + 2 * k)))))))), (ad 2, .inr (4, [.ref (ad 3), .int ((sh2 0).1), .int ((sh2 0).2.1)])), (ad 3, .inl (cI, 40, .inl ((sh2 0).2.2))), (ad 4, .inr (4, [.ref (ad 5), .int ((sh2 1).1), .int ((sh2 1).2.1)])), (ad 5, .inl (cI, 40, .inl ((sh2 1).2.2))), (ad 6, .inr (4, [.ref (ad 7), .int ((sh2 2).1), .int ((sh2 2).2.1)])), (ad 7, .inl (cI, 40, .inl ((sh2 2).2.2))), (ad 8, .inr (4, [.ref (ad 9), .int ((sh2 3).1), .int ((sh2 3).2.1)])), (ad 9, .inl (cI, 40, .inl ((sh2 3).2.2))), (ga, .inl (cI, 48, .inl g2))] ∧ (2 ≤ N2 ∧ N2 ≤ 8) ∧ (at2 + 1 = 4 * N2) ∧ (g2 0 = nI N2) ∧ ((g2 25 = 0 ∧ g2 26 = 0 ∧ g2 27 = 0 ∧ g2 28 = 0 ∧ g2 47 = 0)) ∧ ((∀ f, f < N2 → ∃ x y z : Nat, x ≤ 3 ∧ y ≤ 9 ∧ z ≤ 9 ∧ g2 (1 + f) = nI x ∧ g2 (9 + f) = nI y ∧ g2 (17 + f) = nI z)) ∧ (kTx sh2 at2 (kTxt g2))) := by
  refine ky_startX (own := RL) (cc := cL_put) (nL := 10) (ret := (some .int)) (by decide) rfl rfl (Nat.le_of_ble_eq_true rfl) ?_
  intro p e s m args below meth c hX hbl hbA C hr hlk hnm
  refine ky_conv (lv' := [(0, .ref (ad 0)), (1, .ref b), (2, .int (nI fo)), (3, .int (nI mo)), (4, .ref ga)]) (List.range 5) rfl rfl rfl ?_
  refine ky_aload_n C 1 dL_put_0 rfl rfl ?_
  refine ky_iload_n C 2 dL_put_1 rfl rfl ?_
  refine ky_callSX0 C hX hbl hbA 2 (kL_cell l D cI cS b L xs fo (by first | assumption | omega) (by first | assumption | omega)) gL_put_L_cell rfl rfl rfl hdL_cell.2 ⟨Nat.le_of_ble_eq_true rfl, Nat.le_of_ble_eq_true rfl⟩ rfl rfl (Nat.le_of_ble_eq_true rfl) dL_put_2 [] rfl rfl ?_
  rintro _ _ ⟨rfl, rfl⟩
  refine ky_ws (ws' := [(ad 0, .inr (7, [.ref (ad 1), .ref (ad 10), .ref (ad 14), .ref (ad 18), .ref (ad 23), .ref (ad 29), .ref (ad 32), .int left, .int lastF])), (ad 1, .inl (cS, 4, .inr (.inr (.inr (.inr (fun k => some (ad (2 + 2 * k)))))))), (ad 2, .inr (4, [.ref (ad 3), .int ((sh 0).1), .int ((sh 0).2.1)])), (ad 3, .inl (cI, 40, .inl ((sh 0).2.2))), (ad 4, .inr (4, [.ref (ad 5), .int ((sh 1).1), .int ((sh 1).2.1)])), (ad 5, .inl (cI, 40, .inl ((sh 1).2.2))), (ad 6, .inr (4, [.ref (ad 7), .int ((sh 2).1), .int ((sh 2).2.1)])), (ad 7, .inl (cI, 40, .inl ((sh 2).2.2))), (ad 8, .inr (4, [.ref (ad 9), .int ((sh 3).1), .int ((sh 3).2.1)])), (ad 9, .inl (cI, 40, .inl ((sh 3).2.2))), (ga, .inl (cI, 48, .inl g))]) (st' := [.int (kCell L xs fo)]) rfl rfl ?_
  refine ky_istore C (lv' := [(5, .int (kCell L xs fo)), (0, .ref (ad 0)), (1, .ref b), (2, .int (nI fo)), (3, .int (nI mo)), (4, .ref ga)]) dL_put_5 (by decide) rfl ?_
  refine ky_aload C 5 dL_put_7 rfl ?_
  refine ky_iconst C dL_put_9 (v := 0) (by decide) ?_
  refine ky_iconst C dL_put_10 (v := 2) (by decide) ?_
  refine ky_iload C 0 dL_put_11 rfl ?_
  refine ky_iload_n C 4 dL_put_13 rfl rfl ?_
  refine ky_iconst C dL_put_14 (v := 1) (by decide) ?_
  refine ky_isub C (v := nI (mo - 1)) dL_put_15 (pk_sub (b := 1) (by omega)) ?_
  refine ky_callS0 C 2 (kL_some l D cI cS (kCell L xs fo) (mo - 1) (by first | assumption | omega) (by first | assumption | omega)) gL_put_L_some rfl rfl rfl hdL_some.2 ⟨Nat.le_of_ble_eq_true rfl, Nat.le_of_ble_eq_true rfl⟩ rfl rfl (Nat.le_of_ble_eq_true rfl) dL_put_16 [] rfl rfl ?_
  rintro _ _ ⟨rfl, rfl⟩
  refine ky_ws (ws' := [(ad 0, .inr (7, [.ref (ad 1), .ref (ad 10), .ref (ad 14), .ref (ad 18), .ref (ad 23), .ref (ad 29), .ref (ad 32), .int left, .int lastF])), (ad 1, .inl (cS, 4, .inr (.inr (.inr (.inr (fun k => some (ad (2 + 2 * k)))))))), (ad 2, .inr (4, [.ref (ad 3), .int ((sh 0).1), .int ((sh 0).2.1)])), (ad 3, .inl (cI, 40, .inl ((sh 0).2.2))), (ad 4, .inr (4, [.ref (ad 5), .int ((sh 1).1), .int ((sh 1).2.1)])), (ad 5, .inl (cI, 40, .inl ((sh 1).2.2))), (ad 6, .inr (4, [.ref (ad 7), .int ((sh 2).1), .int ((sh 2).2.1)])), (ad 7, .inl (cI, 40, .inl ((sh 2).2.2))), (ad 8, .inr (4, [.ref (ad 9), .int ((sh 3).1), .int ((sh 3).2.1)])), (ad 9, .inl (cI, 40, .inl ((sh 3).2.2))), (ga, .inl (cI, 48, .inl g))]) (st' := [.int (nI (kSm (kCell L xs fo) (mo - 1))), .int 2, .int 0, .ref ga]) rfl rfl ?_
  have hs_16 : kSm (kCell L xs fo) (mo - 1) < mo - 1 := kSm_lt _ (by omega)
  refine ky_iadd C (v := nI (2 + kSm (kCell L xs fo) (mo - 1))) dL_put_19 (nI_add 2 (kSm (kCell L xs fo) (mo - 1))) ?_
  refine ky_iastN C 10 (k := 0) rfl (by omega) (by decide) dL_put_20 (ws' := [(ad 0, .inr (7, [.ref (ad 1), .ref (ad 10), .ref (ad 14), .ref (ad 18), .ref (ad 23), .ref (ad 29), .ref (ad 32), .int left, .int lastF])), (ad 1, .inl (cS, 4, .inr (.inr (.inr (.inr (fun k => some (ad (2 + 2 * k)))))))), (ad 2, .inr (4, [.ref (ad 3), .int ((sh 0).1), .int ((sh 0).2.1)])), (ad 3, .inl (cI, 40, .inl ((sh 0).2.2))), (ad 4, .inr (4, [.ref (ad 5), .int ((sh 1).1), .int ((sh 1).2.1)])), (ad 5, .inl (cI, 40, .inl ((sh 1).2.2))), (ad 6, .inr (4, [.ref (ad 7), .int ((sh 2).1), .int ((sh 2).2.1)])), (ad 7, .inl (cI, 40, .inl ((sh 2).2.2))), (ad 8, .inr (4, [.ref (ad 9), .int ((sh 3).1), .int ((sh 3).2.1)])), (ad 9, .inl (cI, 40, .inl ((sh 3).2.2))), (ga, .inl (cI, 48, .inl (upd g 0 (nI (2 + kSm (kCell L xs fo) (mo - 1))))))]) rfl ?_
  refine ky_aload C 5 dL_put_21 rfl ?_
  refine ky_bipush C dL_put_23 (v := 25) (by decide) ?_
  refine ky_iconst C dL_put_25 (v := 0) (by decide) ?_
  refine ky_iastN C 10 (k := 25) rfl (by omega) (by decide) dL_put_26 (ws' := [(ad 0, .inr (7, [.ref (ad 1), .ref (ad 10), .ref (ad 14), .ref (ad 18), .ref (ad 23), .ref (ad 29), .ref (ad 32), .int left, .int lastF])), (ad 1, .inl (cS, 4, .inr (.inr (.inr (.inr (fun k => some (ad (2 + 2 * k)))))))), (ad 2, .inr (4, [.ref (ad 3), .int ((sh 0).1), .int ((sh 0).2.1)])), (ad 3, .inl (cI, 40, .inl ((sh 0).2.2))), (ad 4, .inr (4, [.ref (ad 5), .int ((sh 1).1), .int ((sh 1).2.1)])), (ad 5, .inl (cI, 40, .inl ((sh 1).2.2))), (ad 6, .inr (4, [.ref (ad 7), .int ((sh 2).1), .int ((sh 2).2.1)])), (ad 7, .inl (cI, 40, .inl ((sh 2).2.2))), (ad 8, .inr (4, [.ref (ad 9), .int ((sh 3).1), .int ((sh 3).2.1)])), (ad 9, .inl (cI, 40, .inl ((sh 3).2.2))), (ga, .inl (cI, 48, .inl (upd (upd g 0 (nI (2 + kSm (kCell L xs fo) (mo - 1)))) 25 0)))]) rfl ?_
  refine ky_aload C 5 dL_put_27 rfl ?_
  refine ky_bipush C dL_put_29 (v := 26) (by decide) ?_
  refine ky_iconst C dL_put_31 (v := 0) (by decide) ?_
  refine ky_iastN C 10 (k := 26) rfl (by omega) (by decide) dL_put_32 (ws' := [(ad 0, .inr (7, [.ref (ad 1), .ref (ad 10), .ref (ad 14), .ref (ad 18), .ref (ad 23), .ref (ad 29), .ref (ad 32), .int left, .int lastF])), (ad 1, .inl (cS, 4, .inr (.inr (.inr (.inr (fun k => some (ad (2 + 2 * k)))))))), (ad 2, .inr (4, [.ref (ad 3), .int ((sh 0).1), .int ((sh 0).2.1)])), (ad 3, .inl (cI, 40, .inl ((sh 0).2.2))), (ad 4, .inr (4, [.ref (ad 5), .int ((sh 1).1), .int ((sh 1).2.1)])), (ad 5, .inl (cI, 40, .inl ((sh 1).2.2))), (ad 6, .inr (4, [.ref (ad 7), .int ((sh 2).1), .int ((sh 2).2.1)])), (ad 7, .inl (cI, 40, .inl ((sh 2).2.2))), (ad 8, .inr (4, [.ref (ad 9), .int ((sh 3).1), .int ((sh 3).2.1)])), (ad 9, .inl (cI, 40, .inl ((sh 3).2.2))), (ga, .inl (cI, 48, .inl (upd (upd (upd g 0 (nI (2 + kSm (kCell L xs fo) (mo - 1)))) 25 0) 26 0)))]) rfl ?_
  refine ky_aload C 5 dL_put_33 rfl ?_
  refine ky_bipush C dL_put_35 (v := 27) (by decide) ?_
  refine ky_iconst C dL_put_37 (v := 0) (by decide) ?_
  refine ky_iastN C 10 (k := 27) rfl (by omega) (by decide) dL_put_38 (ws' := [(ad 0, .inr (7, [.ref (ad 1), .ref (ad 10), .ref (ad 14), .ref (ad 18), .ref (ad 23), .ref (ad 29), .ref (ad 32), .int left, .int lastF])), (ad 1, .inl (cS, 4, .inr (.inr (.inr (.inr (fun k => some (ad (2 + 2 * k)))))))), (ad 2, .inr (4, [.ref (ad 3), .int ((sh 0).1), .int ((sh 0).2.1)])), (ad 3, .inl (cI, 40, .inl ((sh 0).2.2))), (ad 4, .inr (4, [.ref (ad 5), .int ((sh 1).1), .int ((sh 1).2.1)])), (ad 5, .inl (cI, 40, .inl ((sh 1).2.2))), (ad 6, .inr (4, [.ref (ad 7), .int ((sh 2).1), .int ((sh 2).2.1)])), (ad 7, .inl (cI, 40, .inl ((sh 2).2.2))), (ad 8, .inr (4, [.ref (ad 9), .int ((sh 3).1), .int ((sh 3).2.1)])), (ad 9, .inl (cI, 40, .inl ((sh 3).2.2))), (ga, .inl (cI, 48, .inl (upd (upd (upd (upd g 0 (nI (2 + kSm (kCell L xs fo) (mo - 1)))) 25 0) 26 0) 27 0)))]) rfl ?_
  refine ky_aload C 5 dL_put_39 rfl ?_
  refine ky_bipush C dL_put_41 (v := 28) (by decide) ?_
  refine ky_iconst C dL_put_43 (v := 0) (by decide) ?_
  refine ky_iastN C 10 (k := 28) rfl (by omega) (by decide) dL_put_44 (ws' := [(ad 0, .inr (7, [.ref (ad 1), .ref (ad 10), .ref (ad 14), .ref (ad 18), .ref (ad 23), .ref (ad 29), .ref (ad 32), .int left, .int lastF])), (ad 1, .inl (cS, 4, .inr (.inr (.inr (.inr (fun k => some (ad (2 + 2 * k)))))))), (ad 2, .inr (4, [.ref (ad 3), .int ((sh 0).1), .int ((sh 0).2.1)])), (ad 3, .inl (cI, 40, .inl ((sh 0).2.2))), (ad 4, .inr (4, [.ref (ad 5), .int ((sh 1).1), .int ((sh 1).2.1)])), (ad 5, .inl (cI, 40, .inl ((sh 1).2.2))), (ad 6, .inr (4, [.ref (ad 7), .int ((sh 2).1), .int ((sh 2).2.1)])), (ad 7, .inl (cI, 40, .inl ((sh 2).2.2))), (ad 8, .inr (4, [.ref (ad 9), .int ((sh 3).1), .int ((sh 3).2.1)])), (ad 9, .inl (cI, 40, .inl ((sh 3).2.2))), (ga, .inl (cI, 48, .inl (upd (upd (upd (upd (upd g 0 (nI (2 + kSm (kCell L xs fo) (mo - 1)))) 25 0) 26 0) 27 0) 28 0)))]) rfl ?_
  refine ky_aload C 5 dL_put_45 rfl ?_
  refine ky_bipush C dL_put_47 (v := 47) (by decide) ?_
  refine ky_iconst C dL_put_49 (v := 0) (by decide) ?_
  refine ky_iastN C 10 (k := 47) rfl (by omega) (by decide) dL_put_50 (ws' := [(ad 0, .inr (7, [.ref (ad 1), .ref (ad 10), .ref (ad 14), .ref (ad 18), .ref (ad 23), .ref (ad 29), .ref (ad 32), .int left, .int lastF])), (ad 1, .inl (cS, 4, .inr (.inr (.inr (.inr (fun k => some (ad (2 + 2 * k)))))))), (ad 2, .inr (4, [.ref (ad 3), .int ((sh 0).1), .int ((sh 0).2.1)])), (ad 3, .inl (cI, 40, .inl ((sh 0).2.2))), (ad 4, .inr (4, [.ref (ad 5), .int ((sh 1).1), .int ((sh 1).2.1)])), (ad 5, .inl (cI, 40, .inl ((sh 1).2.2))), (ad 6, .inr (4, [.ref (ad 7), .int ((sh 2).1), .int ((sh 2).2.1)])), (ad 7, .inl (cI, 40, .inl ((sh 2).2.2))), (ad 8, .inr (4, [.ref (ad 9), .int ((sh 3).1), .int ((sh 3).2.1)])), (ad 9, .inl (cI, 40, .inl ((sh 3).2.2))), (ga, .inl (cI, 48, .inl (upd (upd (upd (upd (upd (upd g 0 (nI (2 + kSm (kCell L xs fo) (mo - 1)))) 25 0) 26 0) 27 0) 28 0) 47 0)))]) rfl ?_
  refine ky_aload_n C 1 dL_put_51 rfl rfl ?_
  refine ky_iconst C dL_put_52 (v := 0) (by decide) ?_
  refine ky_iconst C dL_put_53 (v := 0) (by decide) ?_
  refine ky_bipush C dL_put_54 (v := 40) (by decide) ?_
  refine ky_callV0 C 3 (kX7_sheet l D cI cS ad left lastF sh 0 0 40 (by first | assumption | omega)) gL_put_X7_sheet rfl rfl rfl hdX7_sheet 0 7 rfl rfl rfl ⟨Nat.le_of_ble_eq_true rfl, Nat.le_of_ble_eq_true rfl⟩ rfl rfl (Nat.le_of_ble_eq_true rfl) dL_put_56 [0, 1, 2, 3, 4, 5, 6, 7, 8, 9] rfl rfl ?_
  rintro _ _ ⟨r2_56, lf2_56, sh2_56, rfl, rfl, hF_56⟩
  refine ky_ws (ws' := [(ad 0, .inr (7, [.ref (ad 1), .ref (ad 10), .ref (ad 14), .ref (ad 18), .ref (ad 23), .ref (ad 29), .ref (ad 32), .int left, .int lf2_56])), (ad 1, .inl (cS, 4, .inr (.inr (.inr (.inr (fun k => some (ad (2 + 2 * k)))))))), (ad 2, .inr (4, [.ref (ad 3), .int ((sh2_56 0).1), .int ((sh2_56 0).2.1)])), (ad 3, .inl (cI, 40, .inl ((sh2_56 0).2.2))), (ad 4, .inr (4, [.ref (ad 5), .int ((sh2_56 1).1), .int ((sh2_56 1).2.1)])), (ad 5, .inl (cI, 40, .inl ((sh2_56 1).2.2))), (ad 6, .inr (4, [.ref (ad 7), .int ((sh2_56 2).1), .int ((sh2_56 2).2.1)])), (ad 7, .inl (cI, 40, .inl ((sh2_56 2).2.2))), (ad 8, .inr (4, [.ref (ad 9), .int ((sh2_56 3).1), .int ((sh2_56 3).2.1)])), (ad 9, .inl (cI, 40, .inl ((sh2_56 3).2.2))), (ga, .inl (cI, 48, .inl (upd (upd (upd (upd (upd (upd g 0 (nI (2 + kSm (kCell L xs fo) (mo - 1)))) 25 0) 26 0) 27 0) 28 0) 47 0)))]) (st' := [.int r2_56]) rfl rfl ?_
  obtain ⟨hr_56, hT_56⟩ := kSheet_go hsh hF_56
  subst hr_56
  refine ky_iconst C dL_put_59 (v := 1) (by decide) ?_
  refine ky_icmp_eq C 66 dL_put_60 (by decide) (fun c_60 => ?_) (fun q => absurd q (by decide))
  refine ky_iconst C dL_put_66 (v := 0) (by decide) ?_
  refine ky_istore C (lv' := [(6, .int 0), (5, .int (kCell L xs fo)), (0, .ref (ad 0)), (1, .ref b), (2, .int (nI fo)), (3, .int (nI mo)), (4, .ref ga)]) dL_put_67 (by decide) rfl ?_
  refine ky_iconst C dL_put_69 (v := 0) (by decide) ?_
  refine ky_istore C (lv' := [(7, .int 0), (6, .int 0), (5, .int (kCell L xs fo)), (0, .ref (ad 0)), (1, .ref b), (2, .int (nI fo)), (3, .int (nI mo)), (4, .ref ga)]) dL_put_70 (by decide) rfl ?_
  refine ky_conv (ws' := [(ad 0, .inr (7, [.ref (ad 1), .ref (ad 10), .ref (ad 14), .ref (ad 18), .ref (ad 23), .ref (ad 29), .ref (ad 32), .int left, .int lf2_56])), (ad 1, .inl (cS, 4, .inr (.inr (.inr (.inr (fun k => some (ad (2 + 2 * k)))))))), (ad 2, .inr (4, [.ref (ad 3), .int ((sh2_56 0).1), .int ((sh2_56 0).2.1)])), (ad 3, .inl (cI, 40, .inl ((sh2_56 0).2.2))), (ad 4, .inr (4, [.ref (ad 5), .int ((sh2_56 1).1), .int ((sh2_56 1).2.1)])), (ad 5, .inl (cI, 40, .inl ((sh2_56 1).2.2))), (ad 6, .inr (4, [.ref (ad 7), .int ((sh2_56 2).1), .int ((sh2_56 2).2.1)])), (ad 7, .inl (cI, 40, .inl ((sh2_56 2).2.2))), (ad 8, .inr (4, [.ref (ad 9), .int ((sh2_56 3).1), .int ((sh2_56 3).2.1)])), (ad 9, .inl (cI, 40, .inl ((sh2_56 3).2.2))), (ga, .inl (cI, 48, .inl (upd (upd (upd (upd (upd (upd g 0 (nI (2 + kSm (kCell L xs fo) (mo - 1)))) 25 0) 26 0) 27 0) 28 0) 47 0)))]) (lv' := [(7, .int 0), (6, .int 0), (5, .int (kCell L xs fo)), (0, .ref (ad 0)), (1, .ref b), (2, .int (nI fo)), (3, .int (nI mo)), (4, .ref ga)]) (st' := []) [0, 1, 2, 3, 4, 5, 6, 7] rfl rfl rfl ?_
  refine ky_loop5 (T1 := Nat) (T2 := Nat) (T3 := Int32) (T4 := Nat → kSh) (T5 := Nat → Int32) (Wf := (fun f1 at1 lf1 sh1 g1 => [(ad 0, .inr (7, [.ref (ad 1), .ref (ad 10), .ref (ad 14), .ref (ad 18), .ref (ad 23), .ref (ad 29), .ref (ad 32), .int left, .int lf1])), (ad 1, .inl (cS, 4, .inr (.inr (.inr (.inr (fun k => some (ad (2 + 2 * k)))))))), (ad 2, .inr (4, [.ref (ad 3), .int ((sh1 0).1), .int ((sh1 0).2.1)])), (ad 3, .inl (cI, 40, .inl ((sh1 0).2.2))), (ad 4, .inr (4, [.ref (ad 5), .int ((sh1 1).1), .int ((sh1 1).2.1)])), (ad 5, .inl (cI, 40, .inl ((sh1 1).2.2))), (ad 6, .inr (4, [.ref (ad 7), .int ((sh1 2).1), .int ((sh1 2).2.1)])), (ad 7, .inl (cI, 40, .inl ((sh1 2).2.2))), (ad 8, .inr (4, [.ref (ad 9), .int ((sh1 3).1), .int ((sh1 3).2.1)])), (ad 9, .inl (cI, 40, .inl ((sh1 3).2.2))), (ga, .inl (cI, 48, .inl g1))])) (Lf := (fun f1 at1 lf1 sh1 g1 => [(7, .int (nI f1)), (6, .int (nI at1)), (5, .int (kCell L xs fo)), (0, .ref (ad 0)), (1, .ref b), (2, .int (nI fo)), (3, .int (nI mo)), (4, .ref ga)])) (Sf := (fun f1 at1 lf1 sh1 g1 => [])) (fun f1 at1 lf1 sh1 g1 => (f1 ≤ (2 + kSm (kCell L xs fo) (mo - 1))) ∧ (at1 + 1 = 4 * f1 ∨ (f1 = 0 ∧ at1 = 0)) ∧ (g1 0 = nI (2 + kSm (kCell L xs fo) (mo - 1))) ∧ ((g1 25 = 0 ∧ g1 26 = 0 ∧ g1 27 = 0 ∧ g1 28 = 0 ∧ g1 47 = 0)) ∧ ((∀ f, f < f1 → ∃ x y z : Nat, x ≤ 3 ∧ y ≤ 9 ∧ z ≤ 9 ∧ g1 (1 + f) = nI x ∧ g1 (9 + f) = nI y ∧ g1 (17 + f) = nI z)) ∧ (kTx sh1 at1 (kTxt g1)) ∧ True) (fun f1 at1 lf1 sh1 g1 => (2 + kSm (kCell L xs fo) (mo - 1)) - f1) ?_ 0 0 lf2_56 sh2_56 (upd (upd (upd (upd (upd (upd g 0 (nI (2 + kSm (kCell L xs fo) (mo - 1)))) 25 0) 26 0) 27 0) 28 0) 47 0) ⟨(by omega), (by omega), (by repeat (first | rw [pk_us] | rw [pk_un (by omega)])), ⟨(by repeat (first | rw [pk_us] | rw [pk_un (by omega)])), (by repeat (first | rw [pk_us] | rw [pk_un (by omega)])), (by repeat (first | rw [pk_us] | rw [pk_un (by omega)])), (by repeat (first | rw [pk_us] | rw [pk_un (by omega)])), (by repeat (first | rw [pk_us] | rw [pk_un (by omega)]))⟩, (fun f hf => absurd hf (Nat.not_lt_zero f)), hT_56, trivial⟩
  intro f1 at1 lf1 sh1 g1 hI_72 ih_72
  obtain ⟨hf1, hat, hg1, hz1, hb1, hT1, -⟩ := hI_72
  have hf1 : f1 ≤ (2 + kSm (kCell L xs fo) (mo - 1)) := hf1
  have hat : at1 + 1 = 4 * f1 ∨ (f1 = 0 ∧ at1 = 0) := hat
  have hg1 : g1 0 = nI (2 + kSm (kCell L xs fo) (mo - 1)) := hg1
  have hz1 : (g1 25 = 0 ∧ g1 26 = 0 ∧ g1 27 = 0 ∧ g1 28 = 0 ∧ g1 47 = 0) := hz1
  have hb1 : (∀ f, f < f1 → ∃ x y z : Nat, x ≤ 3 ∧ y ≤ 9 ∧ z ≤ 9 ∧ g1 (1 + f) = nI x ∧ g1 (9 + f) = nI y ∧ g1 (17 + f) = nI z) := hb1
  have hT1 : kTx sh1 at1 (kTxt g1) := hT1
  refine ky_conv (ws' := [(ad 0, .inr (7, [.ref (ad 1), .ref (ad 10), .ref (ad 14), .ref (ad 18), .ref (ad 23), .ref (ad 29), .ref (ad 32), .int left, .int lf1])), (ad 1, .inl (cS, 4, .inr (.inr (.inr (.inr (fun k => some (ad (2 + 2 * k)))))))), (ad 2, .inr (4, [.ref (ad 3), .int ((sh1 0).1), .int ((sh1 0).2.1)])), (ad 3, .inl (cI, 40, .inl ((sh1 0).2.2))), (ad 4, .inr (4, [.ref (ad 5), .int ((sh1 1).1), .int ((sh1 1).2.1)])), (ad 5, .inl (cI, 40, .inl ((sh1 1).2.2))), (ad 6, .inr (4, [.ref (ad 7), .int ((sh1 2).1), .int ((sh1 2).2.1)])), (ad 7, .inl (cI, 40, .inl ((sh1 2).2.2))), (ad 8, .inr (4, [.ref (ad 9), .int ((sh1 3).1), .int ((sh1 3).2.1)])), (ad 9, .inl (cI, 40, .inl ((sh1 3).2.2))), (ga, .inl (cI, 48, .inl g1))]) (lv' := [(7, .int (nI f1)), (6, .int (nI at1)), (5, .int (kCell L xs fo)), (0, .ref (ad 0)), (1, .ref b), (2, .int (nI fo)), (3, .int (nI mo)), (4, .ref ga)]) (st' := []) (List.range 8) rfl rfl rfl ?_
  refine ky_iload C 0 dL_put_72 rfl ?_
  refine ky_aload C 7 dL_put_74 rfl ?_
  refine ky_iconst C dL_put_76 (v := 0) (by decide) ?_
  refine ky_ialdN C 10 (k := 0) rfl (by omega) (by decide) dL_put_77 (v := nI (2 + kSm (kCell L xs fo) (mo - 1))) hg1 ?_
  refine ky_icmp_ge C 237 dL_put_78 (by decide) (fun c_78 => ?_) (fun c_78 => ?_)
  · have d_78 := Int32.not_lt.mpr c_78
    have n_78 := kn_le (a := (2 + kSm (kCell L xs fo) (mo - 1))) (b := f1) (by omega) (by omega) c_78
    have m_78 := Nat.not_lt.mpr n_78
    refine ky_iload C 1 dL_put_237 rfl ?_
    exact ky_iret C hr hlk ⟨(2 + kSm (kCell L xs fo) (mo - 1)), at1, lf1, sh1, g1, rfl, rfl, ⟨by omega, by omega⟩, (by omega), hg1, hz1, (fun f hf => hb1 f (by omega)), hT1⟩ (Nat.le_of_ble_eq_true rfl) dL_put_239
  · have d_78 := Int32.not_le.mp c_78
    have n_78 := kn_nle (a := (2 + kSm (kCell L xs fo) (mo - 1))) (b := f1) (by omega) (by omega) c_78
    have m_78 := Nat.not_le.mpr n_78
    refine ky_aload_n C 4 dL_put_81 rfl rfl ?_
    refine ky_iload_n C 5 dL_put_82 rfl rfl ?_
    refine ky_iconst C dL_put_83 (v := 1) (by decide) ?_
    refine ky_iadd C (v := nI (fo + 1)) dL_put_84 (nI_add fo 1) ?_
    refine ky_iload C 0 dL_put_85 rfl ?_
    refine ky_iconst C dL_put_87 (v := 2) (by decide) ?_
    refine ky_irem C (v := nI (f1 % 2)) dL_put_88 (by decide) (pk_rem (by omega) (by decide) (by decide)) ?_
    refine ky_iadd C (v := nI (fo + 1 + f1 % 2)) dL_put_89 (nI_add (fo + 1) (f1 % 2)) ?_
    refine ky_callSX0 C hX hbl hbA 2 (kL_cell l D cI cS b L xs (fo + 1 + f1 % 2) (by first | assumption | omega) (by first | assumption | omega)) gL_put_L_cell rfl rfl rfl hdL_cell.2 ⟨Nat.le_of_ble_eq_true rfl, Nat.le_of_ble_eq_true rfl⟩ rfl rfl (Nat.le_of_ble_eq_true rfl) dL_put_90 [] rfl rfl ?_
    rintro _ _ ⟨rfl, rfl⟩
    refine ky_ws (ws' := [(ad 0, .inr (7, [.ref (ad 1), .ref (ad 10), .ref (ad 14), .ref (ad 18), .ref (ad 23), .ref (ad 29), .ref (ad 32), .int left, .int lf1])), (ad 1, .inl (cS, 4, .inr (.inr (.inr (.inr (fun k => some (ad (2 + 2 * k)))))))), (ad 2, .inr (4, [.ref (ad 3), .int ((sh1 0).1), .int ((sh1 0).2.1)])), (ad 3, .inl (cI, 40, .inl ((sh1 0).2.2))), (ad 4, .inr (4, [.ref (ad 5), .int ((sh1 1).1), .int ((sh1 1).2.1)])), (ad 5, .inl (cI, 40, .inl ((sh1 1).2.2))), (ad 6, .inr (4, [.ref (ad 7), .int ((sh1 2).1), .int ((sh1 2).2.1)])), (ad 7, .inl (cI, 40, .inl ((sh1 2).2.2))), (ad 8, .inr (4, [.ref (ad 9), .int ((sh1 3).1), .int ((sh1 3).2.1)])), (ad 9, .inl (cI, 40, .inl ((sh1 3).2.2))), (ga, .inl (cI, 48, .inl g1))]) (st' := [.int (kCell L xs (fo + 1 + f1 % 2))]) rfl rfl ?_
    refine ky_iload C 0 dL_put_93 rfl ?_
    refine ky_iconst C dL_put_95 (v := 2) (by decide) ?_
    refine ky_idiv C (v := nI (f1 / 2)) dL_put_96 (by decide) (pk_div (by omega) (by decide) (by decide)) ?_
    refine ky_bipush C dL_put_97 (v := 7) (by decide) ?_
    refine ky_imul C (v := nI ((f1 / 2) * 7)) dL_put_99 (pk_mul (f1 / 2) 7) ?_
    refine ky_ishr C (v := (kCell L xs (fo + 1 + f1 % 2)) >>> ((nI ((f1 / 2) * 7)) &&& 31)) dL_put_100 rfl ?_
    refine ky_istore C (lv' := [(8, .int ((kCell L xs (fo + 1 + f1 % 2)) >>> ((nI ((f1 / 2) * 7)) &&& 31))), (7, .int (nI f1)), (6, .int (nI at1)), (5, .int (kCell L xs fo)), (0, .ref (ad 0)), (1, .ref b), (2, .int (nI fo)), (3, .int (nI mo)), (4, .ref ga)]) dL_put_101 (by decide) rfl ?_
    refine ky_aload C 8 dL_put_103 rfl ?_
    refine ky_iconst C dL_put_105 (v := 1) (by decide) ?_
    refine ky_iload C 1 dL_put_106 rfl ?_
    refine ky_iadd C (v := nI (1 + f1)) dL_put_108 (nI_add 1 f1) ?_
    refine ky_join1 (T1 := Nat) (Wf := (fun v1 => [(ad 0, .inr (7, [.ref (ad 1), .ref (ad 10), .ref (ad 14), .ref (ad 18), .ref (ad 23), .ref (ad 29), .ref (ad 32), .int left, .int lf1])), (ad 1, .inl (cS, 4, .inr (.inr (.inr (.inr (fun k => some (ad (2 + 2 * k)))))))), (ad 2, .inr (4, [.ref (ad 3), .int ((sh1 0).1), .int ((sh1 0).2.1)])), (ad 3, .inl (cI, 40, .inl ((sh1 0).2.2))), (ad 4, .inr (4, [.ref (ad 5), .int ((sh1 1).1), .int ((sh1 1).2.1)])), (ad 5, .inl (cI, 40, .inl ((sh1 1).2.2))), (ad 6, .inr (4, [.ref (ad 7), .int ((sh1 2).1), .int ((sh1 2).2.1)])), (ad 7, .inl (cI, 40, .inl ((sh1 2).2.2))), (ad 8, .inr (4, [.ref (ad 9), .int ((sh1 3).1), .int ((sh1 3).2.1)])), (ad 9, .inl (cI, 40, .inl ((sh1 3).2.2))), (ga, .inl (cI, 48, .inl g1))])) (Lf := (fun v1 => [(8, .int ((kCell L xs (fo + 1 + f1 % 2)) >>> ((nI ((f1 / 2) * 7)) &&& 31))), (7, .int (nI f1)), (6, .int (nI at1)), (5, .int (kCell L xs fo)), (0, .ref (ad 0)), (1, .ref b), (2, .int (nI fo)), (3, .int (nI mo)), (4, .ref ga)])) (Sf := (fun v1 => [.int (nI v1), .int (nI (1 + f1)), .ref ga])) (fun v1 => (v1 ≤ 3) ∧ True) 128 ?_ ?_
    · intro v1 hI_128
      obtain ⟨hv1, -⟩ := hI_128
      have hv1 : v1 ≤ 3 := hv1
      refine ky_conv (ws' := [(ad 0, .inr (7, [.ref (ad 1), .ref (ad 10), .ref (ad 14), .ref (ad 18), .ref (ad 23), .ref (ad 29), .ref (ad 32), .int left, .int lf1])), (ad 1, .inl (cS, 4, .inr (.inr (.inr (.inr (fun k => some (ad (2 + 2 * k)))))))), (ad 2, .inr (4, [.ref (ad 3), .int ((sh1 0).1), .int ((sh1 0).2.1)])), (ad 3, .inl (cI, 40, .inl ((sh1 0).2.2))), (ad 4, .inr (4, [.ref (ad 5), .int ((sh1 1).1), .int ((sh1 1).2.1)])), (ad 5, .inl (cI, 40, .inl ((sh1 1).2.2))), (ad 6, .inr (4, [.ref (ad 7), .int ((sh1 2).1), .int ((sh1 2).2.1)])), (ad 7, .inl (cI, 40, .inl ((sh1 2).2.2))), (ad 8, .inr (4, [.ref (ad 9), .int ((sh1 3).1), .int ((sh1 3).2.1)])), (ad 9, .inl (cI, 40, .inl ((sh1 3).2.2))), (ga, .inl (cI, 48, .inl g1))]) (lv' := [(8, .int ((kCell L xs (fo + 1 + f1 % 2)) >>> ((nI ((f1 / 2) * 7)) &&& 31))), (7, .int (nI f1)), (6, .int (nI at1)), (5, .int (kCell L xs fo)), (0, .ref (ad 0)), (1, .ref b), (2, .int (nI fo)), (3, .int (nI mo)), (4, .ref ga)]) (st' := [.int (nI v1), .int (nI (1 + f1)), .ref ga]) (List.range 9) rfl rfl rfl ?_
      refine ky_iastN C 10 (k := 1 + f1) rfl (by omega) (by decide) dL_put_128 (ws' := [(ad 0, .inr (7, [.ref (ad 1), .ref (ad 10), .ref (ad 14), .ref (ad 18), .ref (ad 23), .ref (ad 29), .ref (ad 32), .int left, .int lf1])), (ad 1, .inl (cS, 4, .inr (.inr (.inr (.inr (fun k => some (ad (2 + 2 * k)))))))), (ad 2, .inr (4, [.ref (ad 3), .int ((sh1 0).1), .int ((sh1 0).2.1)])), (ad 3, .inl (cI, 40, .inl ((sh1 0).2.2))), (ad 4, .inr (4, [.ref (ad 5), .int ((sh1 1).1), .int ((sh1 1).2.1)])), (ad 5, .inl (cI, 40, .inl ((sh1 1).2.2))), (ad 6, .inr (4, [.ref (ad 7), .int ((sh1 2).1), .int ((sh1 2).2.1)])), (ad 7, .inl (cI, 40, .inl ((sh1 2).2.2))), (ad 8, .inr (4, [.ref (ad 9), .int ((sh1 3).1), .int ((sh1 3).2.1)])), (ad 9, .inl (cI, 40, .inl ((sh1 3).2.2))), (ga, .inl (cI, 48, .inl (upd g1 (1 + f1) (nI v1))))]) rfl ?_
      refine ky_aload C 8 dL_put_129 rfl ?_
      refine ky_bipush C dL_put_131 (v := 9) (by decide) ?_
      refine ky_iload C 1 dL_put_133 rfl ?_
      refine ky_iadd C (v := nI (9 + f1)) dL_put_135 (nI_add 9 f1) ?_
      refine ky_iload C 0 dL_put_136 rfl ?_
      refine ky_iconst C dL_put_138 (v := 1) (by decide) ?_
      refine ky_ishr C (v := ((kCell L xs (fo + 1 + f1 % 2)) >>> ((nI ((f1 / 2) * 7)) &&& 31)) >>> (1 &&& 31)) dL_put_139 rfl ?_
      refine ky_bipush C dL_put_140 (v := 10) (by decide) ?_
      refine ky_callS0 C 2 (kL_some l D cI cS (((kCell L xs (fo + 1 + f1 % 2)) >>> ((nI ((f1 / 2) * 7)) &&& 31)) >>> (1 &&& 31)) 10 (by first | assumption | omega) (by first | assumption | omega)) gL_put_L_some rfl rfl rfl hdL_some.2 ⟨Nat.le_of_ble_eq_true rfl, Nat.le_of_ble_eq_true rfl⟩ rfl rfl (Nat.le_of_ble_eq_true rfl) dL_put_142 [] rfl rfl ?_
      rintro _ _ ⟨rfl, rfl⟩
      refine ky_ws (ws' := [(ad 0, .inr (7, [.ref (ad 1), .ref (ad 10), .ref (ad 14), .ref (ad 18), .ref (ad 23), .ref (ad 29), .ref (ad 32), .int left, .int lf1])), (ad 1, .inl (cS, 4, .inr (.inr (.inr (.inr (fun k => some (ad (2 + 2 * k)))))))), (ad 2, .inr (4, [.ref (ad 3), .int ((sh1 0).1), .int ((sh1 0).2.1)])), (ad 3, .inl (cI, 40, .inl ((sh1 0).2.2))), (ad 4, .inr (4, [.ref (ad 5), .int ((sh1 1).1), .int ((sh1 1).2.1)])), (ad 5, .inl (cI, 40, .inl ((sh1 1).2.2))), (ad 6, .inr (4, [.ref (ad 7), .int ((sh1 2).1), .int ((sh1 2).2.1)])), (ad 7, .inl (cI, 40, .inl ((sh1 2).2.2))), (ad 8, .inr (4, [.ref (ad 9), .int ((sh1 3).1), .int ((sh1 3).2.1)])), (ad 9, .inl (cI, 40, .inl ((sh1 3).2.2))), (ga, .inl (cI, 48, .inl (upd g1 (1 + f1) (nI v1))))]) (st' := [.int (nI (kSm (((kCell L xs (fo + 1 + f1 % 2)) >>> ((nI ((f1 / 2) * 7)) &&& 31)) >>> (1 &&& 31)) 10)), .int (nI (9 + f1)), .ref ga]) rfl rfl ?_
      have hs_142 : kSm (((kCell L xs (fo + 1 + f1 % 2)) >>> ((nI ((f1 / 2) * 7)) &&& 31)) >>> (1 &&& 31)) 10 < 10 := kSm_lt _ (by omega)
      refine ky_iastN C 10 (k := 9 + f1) rfl (by omega) (by decide) dL_put_145 (ws' := [(ad 0, .inr (7, [.ref (ad 1), .ref (ad 10), .ref (ad 14), .ref (ad 18), .ref (ad 23), .ref (ad 29), .ref (ad 32), .int left, .int lf1])), (ad 1, .inl (cS, 4, .inr (.inr (.inr (.inr (fun k => some (ad (2 + 2 * k)))))))), (ad 2, .inr (4, [.ref (ad 3), .int ((sh1 0).1), .int ((sh1 0).2.1)])), (ad 3, .inl (cI, 40, .inl ((sh1 0).2.2))), (ad 4, .inr (4, [.ref (ad 5), .int ((sh1 1).1), .int ((sh1 1).2.1)])), (ad 5, .inl (cI, 40, .inl ((sh1 1).2.2))), (ad 6, .inr (4, [.ref (ad 7), .int ((sh1 2).1), .int ((sh1 2).2.1)])), (ad 7, .inl (cI, 40, .inl ((sh1 2).2.2))), (ad 8, .inr (4, [.ref (ad 9), .int ((sh1 3).1), .int ((sh1 3).2.1)])), (ad 9, .inl (cI, 40, .inl ((sh1 3).2.2))), (ga, .inl (cI, 48, .inl (upd (upd g1 (1 + f1) (nI v1)) (9 + f1) (nI (kSm (((kCell L xs (fo + 1 + f1 % 2)) >>> ((nI ((f1 / 2) * 7)) &&& 31)) >>> (1 &&& 31)) 10)))))]) rfl ?_
      refine ky_aload C 8 dL_put_146 rfl ?_
      refine ky_bipush C dL_put_148 (v := 17) (by decide) ?_
      refine ky_iload C 1 dL_put_150 rfl ?_
      refine ky_iadd C (v := nI (17 + f1)) dL_put_152 (nI_add 17 f1) ?_
      refine ky_iload C 0 dL_put_153 rfl ?_
      refine ky_iconst C dL_put_155 (v := 4) (by decide) ?_
      refine ky_ishr C (v := ((kCell L xs (fo + 1 + f1 % 2)) >>> ((nI ((f1 / 2) * 7)) &&& 31)) >>> (4 &&& 31)) dL_put_156 rfl ?_
      refine ky_bipush C dL_put_157 (v := 10) (by decide) ?_
      refine ky_callS0 C 2 (kL_some l D cI cS (((kCell L xs (fo + 1 + f1 % 2)) >>> ((nI ((f1 / 2) * 7)) &&& 31)) >>> (4 &&& 31)) 10 (by first | assumption | omega) (by first | assumption | omega)) gL_put_L_some rfl rfl rfl hdL_some.2 ⟨Nat.le_of_ble_eq_true rfl, Nat.le_of_ble_eq_true rfl⟩ rfl rfl (Nat.le_of_ble_eq_true rfl) dL_put_159 [] rfl rfl ?_
      rintro _ _ ⟨rfl, rfl⟩
      refine ky_ws (ws' := [(ad 0, .inr (7, [.ref (ad 1), .ref (ad 10), .ref (ad 14), .ref (ad 18), .ref (ad 23), .ref (ad 29), .ref (ad 32), .int left, .int lf1])), (ad 1, .inl (cS, 4, .inr (.inr (.inr (.inr (fun k => some (ad (2 + 2 * k)))))))), (ad 2, .inr (4, [.ref (ad 3), .int ((sh1 0).1), .int ((sh1 0).2.1)])), (ad 3, .inl (cI, 40, .inl ((sh1 0).2.2))), (ad 4, .inr (4, [.ref (ad 5), .int ((sh1 1).1), .int ((sh1 1).2.1)])), (ad 5, .inl (cI, 40, .inl ((sh1 1).2.2))), (ad 6, .inr (4, [.ref (ad 7), .int ((sh1 2).1), .int ((sh1 2).2.1)])), (ad 7, .inl (cI, 40, .inl ((sh1 2).2.2))), (ad 8, .inr (4, [.ref (ad 9), .int ((sh1 3).1), .int ((sh1 3).2.1)])), (ad 9, .inl (cI, 40, .inl ((sh1 3).2.2))), (ga, .inl (cI, 48, .inl (upd (upd g1 (1 + f1) (nI v1)) (9 + f1) (nI (kSm (((kCell L xs (fo + 1 + f1 % 2)) >>> ((nI ((f1 / 2) * 7)) &&& 31)) >>> (1 &&& 31)) 10)))))]) (st' := [.int (nI (kSm (((kCell L xs (fo + 1 + f1 % 2)) >>> ((nI ((f1 / 2) * 7)) &&& 31)) >>> (4 &&& 31)) 10)), .int (nI (17 + f1)), .ref ga]) rfl rfl ?_
      have hs_159 : kSm (((kCell L xs (fo + 1 + f1 % 2)) >>> ((nI ((f1 / 2) * 7)) &&& 31)) >>> (4 &&& 31)) 10 < 10 := kSm_lt _ (by omega)
      refine ky_iastN C 10 (k := 17 + f1) rfl (by omega) (by decide) dL_put_162 (ws' := [(ad 0, .inr (7, [.ref (ad 1), .ref (ad 10), .ref (ad 14), .ref (ad 18), .ref (ad 23), .ref (ad 29), .ref (ad 32), .int left, .int lf1])), (ad 1, .inl (cS, 4, .inr (.inr (.inr (.inr (fun k => some (ad (2 + 2 * k)))))))), (ad 2, .inr (4, [.ref (ad 3), .int ((sh1 0).1), .int ((sh1 0).2.1)])), (ad 3, .inl (cI, 40, .inl ((sh1 0).2.2))), (ad 4, .inr (4, [.ref (ad 5), .int ((sh1 1).1), .int ((sh1 1).2.1)])), (ad 5, .inl (cI, 40, .inl ((sh1 1).2.2))), (ad 6, .inr (4, [.ref (ad 7), .int ((sh1 2).1), .int ((sh1 2).2.1)])), (ad 7, .inl (cI, 40, .inl ((sh1 2).2.2))), (ad 8, .inr (4, [.ref (ad 9), .int ((sh1 3).1), .int ((sh1 3).2.1)])), (ad 9, .inl (cI, 40, .inl ((sh1 3).2.2))), (ga, .inl (cI, 48, .inl (upd (upd (upd g1 (1 + f1) (nI v1)) (9 + f1) (nI (kSm (((kCell L xs (fo + 1 + f1 % 2)) >>> ((nI ((f1 / 2) * 7)) &&& 31)) >>> (1 &&& 31)) 10))) (17 + f1) (nI (kSm (((kCell L xs (fo + 1 + f1 % 2)) >>> ((nI ((f1 / 2) * 7)) &&& 31)) >>> (4 &&& 31)) 10)))))]) rfl ?_
      have hT_0 : kTx sh1 at1 (kTxt (upd (upd (upd g1 (1 + f1) (nI v1)) (9 + f1) (nI (kSm (((kCell L xs (fo + 1 + f1 % 2)) >>> ((nI ((f1 / 2) * 7)) &&& 31)) >>> (1 &&& 31)) 10))) (17 + f1) (nI (kSm (((kCell L xs (fo + 1 + f1 % 2)) >>> ((nI ((f1 / 2) * 7)) &&& 31)) >>> (4 &&& 31)) 10)))) := kTx_up hT1 hat (by omega)
      refine ky_iload C 1 dL_put_163 rfl ?_
      refine ky_if_le C 187 dL_put_165 (by decide) (fun c_165 => ?_) (fun c_165 => ?_)
      · have d_165 := Int32.not_lt.mpr c_165
        have n_165 := kn_le (a := f1) (b := 0) (by omega) (by omega) c_165
        have m_165 := Nat.not_lt.mpr n_165
        refine ky_iconst C dL_put_187 (v := 1) (by decide) ?_
        refine ky_istore C (lv' := [(9, .int 1), (8, .int ((kCell L xs (fo + 1 + f1 % 2)) >>> ((nI ((f1 / 2) * 7)) &&& 31))), (7, .int (nI f1)), (6, .int (nI at1)), (5, .int (kCell L xs fo)), (0, .ref (ad 0)), (1, .ref b), (2, .int (nI fo)), (3, .int (nI mo)), (4, .ref ga)]) dL_put_188 (by decide) rfl ?_
        refine ky_iload C 0 dL_put_190 rfl ?_
        refine ky_bipush C dL_put_192 (v := 25) (by decide) ?_
        refine ky_icmp_ge C 231 dL_put_194 (by decide) (fun q => absurd q (by decide)) (fun c_194 => ?_)
        refine ky_aload_n C 5 dL_put_197 rfl rfl ?_
        refine ky_iconst C dL_put_198 (v := 0) (by decide) ?_
        refine ky_iload C 3 dL_put_199 rfl ?_
        refine ky_iinc C 3 (v := nI (at1 + 1)) (lv' := [(6, .int (nI (at1 + 1))), (9, .int 1), (8, .int ((kCell L xs (fo + 1 + f1 % 2)) >>> ((nI ((f1 / 2) * 7)) &&& 31))), (7, .int (nI f1)), (5, .int (kCell L xs fo)), (0, .ref (ad 0)), (1, .ref b), (2, .int (nI fo)), (3, .int (nI mo)), (4, .ref ga)]) dL_put_201 rfl (nI_1 _) (by decide) rfl ?_
        refine ky_bipush C dL_put_204 (v := 48) (by decide) ?_
        refine ky_aload C 9 dL_put_206 rfl ?_
        refine ky_iload C 1 dL_put_208 rfl ?_
        refine ky_iload C 3 dL_put_210 rfl ?_
        refine ky_iadd C (v := nI (1 + f1)) dL_put_212 (nI_add 1 f1) ?_
        refine ky_ialdN C 10 (k := 1 + f1) rfl (by omega) (by decide) dL_put_213 (v := nI v1) (by repeat (first | rw [pk_us] | rw [pk_un (by omega)])) ?_
        refine ky_iadd C (v := nI (48 + v1)) dL_put_214 (nI_add 48 v1) ?_
        refine ky_callV0 C 3 (kX7_put l D cI cS ad left lf1 sh1 0 (nI at1) (nI (48 + v1)) hT_0.2.2.2) gL_put_X7_put rfl rfl rfl hdX7_put 0 7 rfl rfl rfl ⟨Nat.le_of_ble_eq_true rfl, Nat.le_of_ble_eq_true rfl⟩ rfl rfl (Nat.le_of_ble_eq_true rfl) dL_put_215 [0, 1, 2, 3, 4, 5, 6, 7, 8, 9] rfl rfl ?_
        rintro _ _ ⟨r2_215, lf2_215, sh2_215, rfl, rfl, hF_215⟩
        refine ky_ws (ws' := [(ad 0, .inr (7, [.ref (ad 1), .ref (ad 10), .ref (ad 14), .ref (ad 18), .ref (ad 23), .ref (ad 29), .ref (ad 32), .int left, .int lf2_215])), (ad 1, .inl (cS, 4, .inr (.inr (.inr (.inr (fun k => some (ad (2 + 2 * k)))))))), (ad 2, .inr (4, [.ref (ad 3), .int ((sh2_215 0).1), .int ((sh2_215 0).2.1)])), (ad 3, .inl (cI, 40, .inl ((sh2_215 0).2.2))), (ad 4, .inr (4, [.ref (ad 5), .int ((sh2_215 1).1), .int ((sh2_215 1).2.1)])), (ad 5, .inl (cI, 40, .inl ((sh2_215 1).2.2))), (ad 6, .inr (4, [.ref (ad 7), .int ((sh2_215 2).1), .int ((sh2_215 2).2.1)])), (ad 7, .inl (cI, 40, .inl ((sh2_215 2).2.2))), (ad 8, .inr (4, [.ref (ad 9), .int ((sh2_215 3).1), .int ((sh2_215 3).2.1)])), (ad 9, .inl (cI, 40, .inl ((sh2_215 3).2.2))), (ga, .inl (cI, 48, .inl (upd (upd (upd g1 (1 + f1) (nI v1)) (9 + f1) (nI (kSm (((kCell L xs (fo + 1 + f1 % 2)) >>> ((nI ((f1 / 2) * 7)) &&& 31)) >>> (1 &&& 31)) 10))) (17 + f1) (nI (kSm (((kCell L xs (fo + 1 + f1 % 2)) >>> ((nI ((f1 / 2) * 7)) &&& 31)) >>> (4 &&& 31)) 10)))))]) (st' := [.int r2_215]) rfl rfl ?_
        obtain ⟨hr_1, hT_1⟩ := kPut_go hT_0 (n := at1) (v := 48 + v1) (by omega) (kTxt_0 (f := f1) (by omega) (by repeat (first | rw [pk_us] | rw [pk_un (by omega)]))) (by omega) hF_215
        subst hr_1
        refine ky_iconst C dL_put_218 (v := 1) (by decide) ?_
        refine ky_icmp_eq C 225 dL_put_219 (by decide) (fun c_219 => ?_) (fun q => absurd q (by decide))
        refine ky_iinc C 1 (v := 9) (lv' := [(9, .int 9), (6, .int (nI (at1 + 1))), (8, .int ((kCell L xs (fo + 1 + f1 % 2)) >>> ((nI ((f1 / 2) * 7)) &&& 31))), (7, .int (nI f1)), (5, .int (kCell L xs fo)), (0, .ref (ad 0)), (1, .ref b), (2, .int (nI fo)), (3, .int (nI mo)), (4, .ref ga)]) dL_put_225 rfl (by decide) (by decide) rfl ?_
        refine ky_goto C dL_put_228 (tgt := 190) (by decide) ?_
        refine ky_iload C 0 dL_put_190 rfl ?_
        refine ky_bipush C dL_put_192 (v := 25) (by decide) ?_
        refine ky_icmp_ge C 231 dL_put_194 (by decide) (fun q => absurd q (by decide)) (fun c_194 => ?_)
        refine ky_aload_n C 5 dL_put_197 rfl rfl ?_
        refine ky_iconst C dL_put_198 (v := 0) (by decide) ?_
        refine ky_iload C 1 dL_put_199 rfl ?_
        refine ky_iinc C 1 (v := nI (at1 + 1 + 1)) (lv' := [(6, .int (nI (at1 + 1 + 1))), (9, .int 9), (8, .int ((kCell L xs (fo + 1 + f1 % 2)) >>> ((nI ((f1 / 2) * 7)) &&& 31))), (7, .int (nI f1)), (5, .int (kCell L xs fo)), (0, .ref (ad 0)), (1, .ref b), (2, .int (nI fo)), (3, .int (nI mo)), (4, .ref ga)]) dL_put_201 rfl (nI_1 _) (by decide) rfl ?_
        refine ky_bipush C dL_put_204 (v := 48) (by decide) ?_
        refine ky_aload C 9 dL_put_206 rfl ?_
        refine ky_iload C 1 dL_put_208 rfl ?_
        refine ky_iload C 3 dL_put_210 rfl ?_
        refine ky_iadd C (v := nI (9 + f1)) dL_put_212 (nI_add 9 f1) ?_
        refine ky_ialdN C 10 (k := 9 + f1) rfl (by omega) (by decide) dL_put_213 (v := nI (kSm (((kCell L xs (fo + 1 + f1 % 2)) >>> ((nI ((f1 / 2) * 7)) &&& 31)) >>> (1 &&& 31)) 10)) (by repeat (first | rw [pk_us] | rw [pk_un (by omega)])) ?_
        refine ky_iadd C (v := nI (48 + kSm (((kCell L xs (fo + 1 + f1 % 2)) >>> ((nI ((f1 / 2) * 7)) &&& 31)) >>> (1 &&& 31)) 10)) dL_put_214 (nI_add 48 (kSm (((kCell L xs (fo + 1 + f1 % 2)) >>> ((nI ((f1 / 2) * 7)) &&& 31)) >>> (1 &&& 31)) 10)) ?_
        refine ky_callV0 C 3 (kX7_put l D cI cS ad left lf2_215 sh2_215 0 (nI (at1 + 1)) (nI (48 + kSm (((kCell L xs (fo + 1 + f1 % 2)) >>> ((nI ((f1 / 2) * 7)) &&& 31)) >>> (1 &&& 31)) 10)) hT_1.2.2.2) gL_put_X7_put rfl rfl rfl hdX7_put 0 7 rfl rfl rfl ⟨Nat.le_of_ble_eq_true rfl, Nat.le_of_ble_eq_true rfl⟩ rfl rfl (Nat.le_of_ble_eq_true rfl) dL_put_215 [0, 1, 2, 3, 4, 5, 6, 7, 8, 9] rfl rfl ?_
        rintro _ _ ⟨r2_215_1, lf2_215_1, sh2_215_1, rfl, rfl, hF_215⟩
        refine ky_ws (ws' := [(ad 0, .inr (7, [.ref (ad 1), .ref (ad 10), .ref (ad 14), .ref (ad 18), .ref (ad 23), .ref (ad 29), .ref (ad 32), .int left, .int lf2_215_1])), (ad 1, .inl (cS, 4, .inr (.inr (.inr (.inr (fun k => some (ad (2 + 2 * k)))))))), (ad 2, .inr (4, [.ref (ad 3), .int ((sh2_215_1 0).1), .int ((sh2_215_1 0).2.1)])), (ad 3, .inl (cI, 40, .inl ((sh2_215_1 0).2.2))), (ad 4, .inr (4, [.ref (ad 5), .int ((sh2_215_1 1).1), .int ((sh2_215_1 1).2.1)])), (ad 5, .inl (cI, 40, .inl ((sh2_215_1 1).2.2))), (ad 6, .inr (4, [.ref (ad 7), .int ((sh2_215_1 2).1), .int ((sh2_215_1 2).2.1)])), (ad 7, .inl (cI, 40, .inl ((sh2_215_1 2).2.2))), (ad 8, .inr (4, [.ref (ad 9), .int ((sh2_215_1 3).1), .int ((sh2_215_1 3).2.1)])), (ad 9, .inl (cI, 40, .inl ((sh2_215_1 3).2.2))), (ga, .inl (cI, 48, .inl (upd (upd (upd g1 (1 + f1) (nI v1)) (9 + f1) (nI (kSm (((kCell L xs (fo + 1 + f1 % 2)) >>> ((nI ((f1 / 2) * 7)) &&& 31)) >>> (1 &&& 31)) 10))) (17 + f1) (nI (kSm (((kCell L xs (fo + 1 + f1 % 2)) >>> ((nI ((f1 / 2) * 7)) &&& 31)) >>> (4 &&& 31)) 10)))))]) (st' := [.int r2_215_1]) rfl rfl ?_
        obtain ⟨hr_2, hT_2⟩ := kPut_go hT_1 (n := at1 + 1) (v := 48 + kSm (((kCell L xs (fo + 1 + f1 % 2)) >>> ((nI ((f1 / 2) * 7)) &&& 31)) >>> (1 &&& 31)) 10) (by omega) (kTxt_1 (f := f1) (by omega) (by repeat (first | rw [pk_us] | rw [pk_un (by omega)]))) (by omega) hF_215
        subst hr_2
        refine ky_iconst C dL_put_218 (v := 1) (by decide) ?_
        refine ky_icmp_eq C 225 dL_put_219 (by decide) (fun c_219 => ?_) (fun q => absurd q (by decide))
        refine ky_iinc C 1 (v := 17) (lv' := [(9, .int 17), (6, .int (nI (at1 + 1 + 1))), (8, .int ((kCell L xs (fo + 1 + f1 % 2)) >>> ((nI ((f1 / 2) * 7)) &&& 31))), (7, .int (nI f1)), (5, .int (kCell L xs fo)), (0, .ref (ad 0)), (1, .ref b), (2, .int (nI fo)), (3, .int (nI mo)), (4, .ref ga)]) dL_put_225 rfl (by decide) (by decide) rfl ?_
        refine ky_goto C dL_put_228 (tgt := 190) (by decide) ?_
        refine ky_iload C 0 dL_put_190 rfl ?_
        refine ky_bipush C dL_put_192 (v := 25) (by decide) ?_
        refine ky_icmp_ge C 231 dL_put_194 (by decide) (fun q => absurd q (by decide)) (fun c_194 => ?_)
        refine ky_aload_n C 5 dL_put_197 rfl rfl ?_
        refine ky_iconst C dL_put_198 (v := 0) (by decide) ?_
        refine ky_iload C 1 dL_put_199 rfl ?_
        refine ky_iinc C 1 (v := nI (at1 + 1 + 1 + 1)) (lv' := [(6, .int (nI (at1 + 1 + 1 + 1))), (9, .int 17), (8, .int ((kCell L xs (fo + 1 + f1 % 2)) >>> ((nI ((f1 / 2) * 7)) &&& 31))), (7, .int (nI f1)), (5, .int (kCell L xs fo)), (0, .ref (ad 0)), (1, .ref b), (2, .int (nI fo)), (3, .int (nI mo)), (4, .ref ga)]) dL_put_201 rfl (nI_1 _) (by decide) rfl ?_
        refine ky_bipush C dL_put_204 (v := 48) (by decide) ?_
        refine ky_aload C 9 dL_put_206 rfl ?_
        refine ky_iload C 1 dL_put_208 rfl ?_
        refine ky_iload C 3 dL_put_210 rfl ?_
        refine ky_iadd C (v := nI (17 + f1)) dL_put_212 (nI_add 17 f1) ?_
        refine ky_ialdN C 10 (k := 17 + f1) rfl (by omega) (by decide) dL_put_213 (v := nI (kSm (((kCell L xs (fo + 1 + f1 % 2)) >>> ((nI ((f1 / 2) * 7)) &&& 31)) >>> (4 &&& 31)) 10)) (by repeat (first | rw [pk_us] | rw [pk_un (by omega)])) ?_
        refine ky_iadd C (v := nI (48 + kSm (((kCell L xs (fo + 1 + f1 % 2)) >>> ((nI ((f1 / 2) * 7)) &&& 31)) >>> (4 &&& 31)) 10)) dL_put_214 (nI_add 48 (kSm (((kCell L xs (fo + 1 + f1 % 2)) >>> ((nI ((f1 / 2) * 7)) &&& 31)) >>> (4 &&& 31)) 10)) ?_
        refine ky_callV0 C 3 (kX7_put l D cI cS ad left lf2_215_1 sh2_215_1 0 (nI (at1 + 1 + 1)) (nI (48 + kSm (((kCell L xs (fo + 1 + f1 % 2)) >>> ((nI ((f1 / 2) * 7)) &&& 31)) >>> (4 &&& 31)) 10)) hT_2.2.2.2) gL_put_X7_put rfl rfl rfl hdX7_put 0 7 rfl rfl rfl ⟨Nat.le_of_ble_eq_true rfl, Nat.le_of_ble_eq_true rfl⟩ rfl rfl (Nat.le_of_ble_eq_true rfl) dL_put_215 [0, 1, 2, 3, 4, 5, 6, 7, 8, 9] rfl rfl ?_
        rintro _ _ ⟨r2_215_2, lf2_215_2, sh2_215_2, rfl, rfl, hF_215⟩
        refine ky_ws (ws' := [(ad 0, .inr (7, [.ref (ad 1), .ref (ad 10), .ref (ad 14), .ref (ad 18), .ref (ad 23), .ref (ad 29), .ref (ad 32), .int left, .int lf2_215_2])), (ad 1, .inl (cS, 4, .inr (.inr (.inr (.inr (fun k => some (ad (2 + 2 * k)))))))), (ad 2, .inr (4, [.ref (ad 3), .int ((sh2_215_2 0).1), .int ((sh2_215_2 0).2.1)])), (ad 3, .inl (cI, 40, .inl ((sh2_215_2 0).2.2))), (ad 4, .inr (4, [.ref (ad 5), .int ((sh2_215_2 1).1), .int ((sh2_215_2 1).2.1)])), (ad 5, .inl (cI, 40, .inl ((sh2_215_2 1).2.2))), (ad 6, .inr (4, [.ref (ad 7), .int ((sh2_215_2 2).1), .int ((sh2_215_2 2).2.1)])), (ad 7, .inl (cI, 40, .inl ((sh2_215_2 2).2.2))), (ad 8, .inr (4, [.ref (ad 9), .int ((sh2_215_2 3).1), .int ((sh2_215_2 3).2.1)])), (ad 9, .inl (cI, 40, .inl ((sh2_215_2 3).2.2))), (ga, .inl (cI, 48, .inl (upd (upd (upd g1 (1 + f1) (nI v1)) (9 + f1) (nI (kSm (((kCell L xs (fo + 1 + f1 % 2)) >>> ((nI ((f1 / 2) * 7)) &&& 31)) >>> (1 &&& 31)) 10))) (17 + f1) (nI (kSm (((kCell L xs (fo + 1 + f1 % 2)) >>> ((nI ((f1 / 2) * 7)) &&& 31)) >>> (4 &&& 31)) 10)))))]) (st' := [.int r2_215_2]) rfl rfl ?_
        obtain ⟨hr_3, hT_3⟩ := kPut_go hT_2 (n := at1 + 1 + 1) (v := 48 + kSm (((kCell L xs (fo + 1 + f1 % 2)) >>> ((nI ((f1 / 2) * 7)) &&& 31)) >>> (4 &&& 31)) 10) (by omega) (kTxt_2 (f := f1) (by omega) (by repeat (first | rw [pk_us] | rw [pk_un (by omega)]))) (by omega) hF_215
        subst hr_3
        refine ky_iconst C dL_put_218 (v := 1) (by decide) ?_
        refine ky_icmp_eq C 225 dL_put_219 (by decide) (fun c_219 => ?_) (fun q => absurd q (by decide))
        refine ky_iinc C 1 (v := 25) (lv' := [(9, .int 25), (6, .int (nI (at1 + 1 + 1 + 1))), (8, .int ((kCell L xs (fo + 1 + f1 % 2)) >>> ((nI ((f1 / 2) * 7)) &&& 31))), (7, .int (nI f1)), (5, .int (kCell L xs fo)), (0, .ref (ad 0)), (1, .ref b), (2, .int (nI fo)), (3, .int (nI mo)), (4, .ref ga)]) dL_put_225 rfl (by decide) (by decide) rfl ?_
        refine ky_goto C dL_put_228 (tgt := 190) (by decide) ?_
        refine ky_iload C 0 dL_put_190 rfl ?_
        refine ky_bipush C dL_put_192 (v := 25) (by decide) ?_
        refine ky_icmp_ge C 231 dL_put_194 (by decide) (fun c_194 => ?_) (fun q => absurd q (by decide))
        refine ky_iinc C 3 (v := nI (f1 + 1)) (lv' := [(7, .int (nI (f1 + 1))), (9, .int 25), (6, .int (nI (at1 + 1 + 1 + 1))), (8, .int ((kCell L xs (fo + 1 + f1 % 2)) >>> ((nI ((f1 / 2) * 7)) &&& 31))), (5, .int (kCell L xs fo)), (0, .ref (ad 0)), (1, .ref b), (2, .int (nI fo)), (3, .int (nI mo)), (4, .ref ga)]) dL_put_231 rfl (nI_1 _) (by decide) rfl ?_
        refine ky_goto C dL_put_234 (tgt := 72) (by decide) ?_
        exact ky_conv (ws' := [(ad 0, .inr (7, [.ref (ad 1), .ref (ad 10), .ref (ad 14), .ref (ad 18), .ref (ad 23), .ref (ad 29), .ref (ad 32), .int left, .int lf2_215_2])), (ad 1, .inl (cS, 4, .inr (.inr (.inr (.inr (fun k => some (ad (2 + 2 * k)))))))), (ad 2, .inr (4, [.ref (ad 3), .int ((sh2_215_2 0).1), .int ((sh2_215_2 0).2.1)])), (ad 3, .inl (cI, 40, .inl ((sh2_215_2 0).2.2))), (ad 4, .inr (4, [.ref (ad 5), .int ((sh2_215_2 1).1), .int ((sh2_215_2 1).2.1)])), (ad 5, .inl (cI, 40, .inl ((sh2_215_2 1).2.2))), (ad 6, .inr (4, [.ref (ad 7), .int ((sh2_215_2 2).1), .int ((sh2_215_2 2).2.1)])), (ad 7, .inl (cI, 40, .inl ((sh2_215_2 2).2.2))), (ad 8, .inr (4, [.ref (ad 9), .int ((sh2_215_2 3).1), .int ((sh2_215_2 3).2.1)])), (ad 9, .inl (cI, 40, .inl ((sh2_215_2 3).2.2))), (ga, .inl (cI, 48, .inl (upd (upd (upd g1 (1 + f1) (nI v1)) (9 + f1) (nI (kSm (((kCell L xs (fo + 1 + f1 % 2)) >>> ((nI ((f1 / 2) * 7)) &&& 31)) >>> (1 &&& 31)) 10))) (17 + f1) (nI (kSm (((kCell L xs (fo + 1 + f1 % 2)) >>> ((nI ((f1 / 2) * 7)) &&& 31)) >>> (4 &&& 31)) 10)))))]) (lv' := [(7, .int (nI (f1 + 1))), (6, .int (nI (at1 + 1 + 1 + 1))), (5, .int (kCell L xs fo)), (0, .ref (ad 0)), (1, .ref b), (2, .int (nI fo)), (3, .int (nI mo)), (4, .ref ga)]) (st' := []) [0, 2, 4, 5, 6, 7, 8, 9] rfl rfl rfl (ih_72 (f1 + 1) (at1 + 1 + 1 + 1) lf2_215_2 sh2_215_2 (upd (upd (upd g1 (1 + f1) (nI v1)) (9 + f1) (nI (kSm (((kCell L xs (fo + 1 + f1 % 2)) >>> ((nI ((f1 / 2) * 7)) &&& 31)) >>> (1 &&& 31)) 10))) (17 + f1) (nI (kSm (((kCell L xs (fo + 1 + f1 % 2)) >>> ((nI ((f1 / 2) * 7)) &&& 31)) >>> (4 &&& 31)) 10))) (show (2 + kSm (kCell L xs fo) (mo - 1)) - (f1 + 1) < (2 + kSm (kCell L xs fo) (mo - 1)) - f1 from by omega) ⟨(by omega), (by omega), (by repeat (first | exact hg1 | rw [pk_us] | rw [pk_un (by omega)])), ⟨(by repeat (first | exact hz1.1 | rw [pk_us] | rw [pk_un (by omega)])), (by repeat (first | exact hz1.2.1 | rw [pk_us] | rw [pk_un (by omega)])), (by repeat (first | exact hz1.2.2.1 | rw [pk_us] | rw [pk_un (by omega)])), (by repeat (first | exact hz1.2.2.2.1 | rw [pk_us] | rw [pk_un (by omega)])), (by repeat (first | exact hz1.2.2.2.2 | rw [pk_us] | rw [pk_un (by omega)]))⟩, (kPb_s hb1 (by omega) (by omega) (by omega) (by omega)), hT_3, trivial⟩)
      · have d_165 := Int32.not_le.mp c_165
        have n_165 := kn_nle (a := f1) (b := 0) (by omega) (by omega) c_165
        have m_165 := Nat.not_le.mpr n_165
        refine ky_aload_n C 4 dL_put_168 rfl rfl ?_
        refine ky_iconst C dL_put_169 (v := 0) (by decide) ?_
        refine ky_iload C 2 dL_put_170 rfl ?_
        refine ky_iinc C 2 (v := nI (at1 + 1)) (lv' := [(6, .int (nI (at1 + 1))), (8, .int ((kCell L xs (fo + 1 + f1 % 2)) >>> ((nI ((f1 / 2) * 7)) &&& 31))), (7, .int (nI f1)), (5, .int (kCell L xs fo)), (0, .ref (ad 0)), (1, .ref b), (2, .int (nI fo)), (3, .int (nI mo)), (4, .ref ga)]) dL_put_172 rfl (nI_1 _) (by decide) rfl ?_
        refine ky_bipush C dL_put_175 (v := 59) (by decide) ?_
        refine ky_callV0 C 3 (kX7_put l D cI cS ad left lf1 sh1 0 (nI at1) 59 hT_0.2.2.2) gL_put_X7_put rfl rfl rfl hdX7_put 0 7 rfl rfl rfl ⟨Nat.le_of_ble_eq_true rfl, Nat.le_of_ble_eq_true rfl⟩ rfl rfl (Nat.le_of_ble_eq_true rfl) dL_put_177 [0, 1, 2, 3, 4, 5, 6, 7, 8, 9] rfl rfl ?_
        rintro _ _ ⟨r2_177, lf2_177, sh2_177, rfl, rfl, hF_177⟩
        refine ky_ws (ws' := [(ad 0, .inr (7, [.ref (ad 1), .ref (ad 10), .ref (ad 14), .ref (ad 18), .ref (ad 23), .ref (ad 29), .ref (ad 32), .int left, .int lf2_177])), (ad 1, .inl (cS, 4, .inr (.inr (.inr (.inr (fun k => some (ad (2 + 2 * k)))))))), (ad 2, .inr (4, [.ref (ad 3), .int ((sh2_177 0).1), .int ((sh2_177 0).2.1)])), (ad 3, .inl (cI, 40, .inl ((sh2_177 0).2.2))), (ad 4, .inr (4, [.ref (ad 5), .int ((sh2_177 1).1), .int ((sh2_177 1).2.1)])), (ad 5, .inl (cI, 40, .inl ((sh2_177 1).2.2))), (ad 6, .inr (4, [.ref (ad 7), .int ((sh2_177 2).1), .int ((sh2_177 2).2.1)])), (ad 7, .inl (cI, 40, .inl ((sh2_177 2).2.2))), (ad 8, .inr (4, [.ref (ad 9), .int ((sh2_177 3).1), .int ((sh2_177 3).2.1)])), (ad 9, .inl (cI, 40, .inl ((sh2_177 3).2.2))), (ga, .inl (cI, 48, .inl (upd (upd (upd g1 (1 + f1) (nI v1)) (9 + f1) (nI (kSm (((kCell L xs (fo + 1 + f1 % 2)) >>> ((nI ((f1 / 2) * 7)) &&& 31)) >>> (1 &&& 31)) 10))) (17 + f1) (nI (kSm (((kCell L xs (fo + 1 + f1 % 2)) >>> ((nI ((f1 / 2) * 7)) &&& 31)) >>> (4 &&& 31)) 10)))))]) (st' := [.int r2_177]) rfl rfl ?_
        obtain ⟨hr_4, hT_4⟩ := kPut_go hT_0 (n := at1) (v := 59) (by omega) (kTxt_59 (by omega)) (by omega) hF_177
        subst hr_4
        refine ky_iconst C dL_put_180 (v := 1) (by decide) ?_
        refine ky_icmp_eq C 187 dL_put_181 (by decide) (fun c_181 => ?_) (fun q => absurd q (by decide))
        refine ky_iconst C dL_put_187 (v := 1) (by decide) ?_
        refine ky_istore C (lv' := [(9, .int 1), (6, .int (nI (at1 + 1))), (8, .int ((kCell L xs (fo + 1 + f1 % 2)) >>> ((nI ((f1 / 2) * 7)) &&& 31))), (7, .int (nI f1)), (5, .int (kCell L xs fo)), (0, .ref (ad 0)), (1, .ref b), (2, .int (nI fo)), (3, .int (nI mo)), (4, .ref ga)]) dL_put_188 (by decide) rfl ?_
        refine ky_iload C 0 dL_put_190 rfl ?_
        refine ky_bipush C dL_put_192 (v := 25) (by decide) ?_
        refine ky_icmp_ge C 231 dL_put_194 (by decide) (fun q => absurd q (by decide)) (fun c_194 => ?_)
        refine ky_aload_n C 5 dL_put_197 rfl rfl ?_
        refine ky_iconst C dL_put_198 (v := 0) (by decide) ?_
        refine ky_iload C 1 dL_put_199 rfl ?_
        refine ky_iinc C 1 (v := nI (at1 + 1 + 1)) (lv' := [(6, .int (nI (at1 + 1 + 1))), (9, .int 1), (8, .int ((kCell L xs (fo + 1 + f1 % 2)) >>> ((nI ((f1 / 2) * 7)) &&& 31))), (7, .int (nI f1)), (5, .int (kCell L xs fo)), (0, .ref (ad 0)), (1, .ref b), (2, .int (nI fo)), (3, .int (nI mo)), (4, .ref ga)]) dL_put_201 rfl (nI_1 _) (by decide) rfl ?_
        refine ky_bipush C dL_put_204 (v := 48) (by decide) ?_
        refine ky_aload C 9 dL_put_206 rfl ?_
        refine ky_iload C 1 dL_put_208 rfl ?_
        refine ky_iload C 3 dL_put_210 rfl ?_
        refine ky_iadd C (v := nI (1 + f1)) dL_put_212 (nI_add 1 f1) ?_
        refine ky_ialdN C 10 (k := 1 + f1) rfl (by omega) (by decide) dL_put_213 (v := nI v1) (by repeat (first | rw [pk_us] | rw [pk_un (by omega)])) ?_
        refine ky_iadd C (v := nI (48 + v1)) dL_put_214 (nI_add 48 v1) ?_
        refine ky_callV0 C 3 (kX7_put l D cI cS ad left lf2_177 sh2_177 0 (nI (at1 + 1)) (nI (48 + v1)) hT_4.2.2.2) gL_put_X7_put rfl rfl rfl hdX7_put 0 7 rfl rfl rfl ⟨Nat.le_of_ble_eq_true rfl, Nat.le_of_ble_eq_true rfl⟩ rfl rfl (Nat.le_of_ble_eq_true rfl) dL_put_215 [0, 1, 2, 3, 4, 5, 6, 7, 8, 9] rfl rfl ?_
        rintro _ _ ⟨r2_215_3, lf2_215_3, sh2_215_3, rfl, rfl, hF_215⟩
        refine ky_ws (ws' := [(ad 0, .inr (7, [.ref (ad 1), .ref (ad 10), .ref (ad 14), .ref (ad 18), .ref (ad 23), .ref (ad 29), .ref (ad 32), .int left, .int lf2_215_3])), (ad 1, .inl (cS, 4, .inr (.inr (.inr (.inr (fun k => some (ad (2 + 2 * k)))))))), (ad 2, .inr (4, [.ref (ad 3), .int ((sh2_215_3 0).1), .int ((sh2_215_3 0).2.1)])), (ad 3, .inl (cI, 40, .inl ((sh2_215_3 0).2.2))), (ad 4, .inr (4, [.ref (ad 5), .int ((sh2_215_3 1).1), .int ((sh2_215_3 1).2.1)])), (ad 5, .inl (cI, 40, .inl ((sh2_215_3 1).2.2))), (ad 6, .inr (4, [.ref (ad 7), .int ((sh2_215_3 2).1), .int ((sh2_215_3 2).2.1)])), (ad 7, .inl (cI, 40, .inl ((sh2_215_3 2).2.2))), (ad 8, .inr (4, [.ref (ad 9), .int ((sh2_215_3 3).1), .int ((sh2_215_3 3).2.1)])), (ad 9, .inl (cI, 40, .inl ((sh2_215_3 3).2.2))), (ga, .inl (cI, 48, .inl (upd (upd (upd g1 (1 + f1) (nI v1)) (9 + f1) (nI (kSm (((kCell L xs (fo + 1 + f1 % 2)) >>> ((nI ((f1 / 2) * 7)) &&& 31)) >>> (1 &&& 31)) 10))) (17 + f1) (nI (kSm (((kCell L xs (fo + 1 + f1 % 2)) >>> ((nI ((f1 / 2) * 7)) &&& 31)) >>> (4 &&& 31)) 10)))))]) (st' := [.int r2_215_3]) rfl rfl ?_
        obtain ⟨hr_5, hT_5⟩ := kPut_go hT_4 (n := at1 + 1) (v := 48 + v1) (by omega) (kTxt_0 (f := f1) (by omega) (by repeat (first | rw [pk_us] | rw [pk_un (by omega)]))) (by omega) hF_215
        subst hr_5
        refine ky_iconst C dL_put_218 (v := 1) (by decide) ?_
        refine ky_icmp_eq C 225 dL_put_219 (by decide) (fun c_219 => ?_) (fun q => absurd q (by decide))
        refine ky_iinc C 1 (v := 9) (lv' := [(9, .int 9), (6, .int (nI (at1 + 1 + 1))), (8, .int ((kCell L xs (fo + 1 + f1 % 2)) >>> ((nI ((f1 / 2) * 7)) &&& 31))), (7, .int (nI f1)), (5, .int (kCell L xs fo)), (0, .ref (ad 0)), (1, .ref b), (2, .int (nI fo)), (3, .int (nI mo)), (4, .ref ga)]) dL_put_225 rfl (by decide) (by decide) rfl ?_
        refine ky_goto C dL_put_228 (tgt := 190) (by decide) ?_
        refine ky_iload C 0 dL_put_190 rfl ?_
        refine ky_bipush C dL_put_192 (v := 25) (by decide) ?_
        refine ky_icmp_ge C 231 dL_put_194 (by decide) (fun q => absurd q (by decide)) (fun c_194 => ?_)
        refine ky_aload_n C 5 dL_put_197 rfl rfl ?_
        refine ky_iconst C dL_put_198 (v := 0) (by decide) ?_
        refine ky_iload C 1 dL_put_199 rfl ?_
        refine ky_iinc C 1 (v := nI (at1 + 1 + 1 + 1)) (lv' := [(6, .int (nI (at1 + 1 + 1 + 1))), (9, .int 9), (8, .int ((kCell L xs (fo + 1 + f1 % 2)) >>> ((nI ((f1 / 2) * 7)) &&& 31))), (7, .int (nI f1)), (5, .int (kCell L xs fo)), (0, .ref (ad 0)), (1, .ref b), (2, .int (nI fo)), (3, .int (nI mo)), (4, .ref ga)]) dL_put_201 rfl (nI_1 _) (by decide) rfl ?_
        refine ky_bipush C dL_put_204 (v := 48) (by decide) ?_
        refine ky_aload C 9 dL_put_206 rfl ?_
        refine ky_iload C 1 dL_put_208 rfl ?_
        refine ky_iload C 3 dL_put_210 rfl ?_
        refine ky_iadd C (v := nI (9 + f1)) dL_put_212 (nI_add 9 f1) ?_
        refine ky_ialdN C 10 (k := 9 + f1) rfl (by omega) (by decide) dL_put_213 (v := nI (kSm (((kCell L xs (fo + 1 + f1 % 2)) >>> ((nI ((f1 / 2) * 7)) &&& 31)) >>> (1 &&& 31)) 10)) (by repeat (first | rw [pk_us] | rw [pk_un (by omega)])) ?_
        refine ky_iadd C (v := nI (48 + kSm (((kCell L xs (fo + 1 + f1 % 2)) >>> ((nI ((f1 / 2) * 7)) &&& 31)) >>> (1 &&& 31)) 10)) dL_put_214 (nI_add 48 (kSm (((kCell L xs (fo + 1 + f1 % 2)) >>> ((nI ((f1 / 2) * 7)) &&& 31)) >>> (1 &&& 31)) 10)) ?_
        refine ky_callV0 C 3 (kX7_put l D cI cS ad left lf2_215_3 sh2_215_3 0 (nI (at1 + 1 + 1)) (nI (48 + kSm (((kCell L xs (fo + 1 + f1 % 2)) >>> ((nI ((f1 / 2) * 7)) &&& 31)) >>> (1 &&& 31)) 10)) hT_5.2.2.2) gL_put_X7_put rfl rfl rfl hdX7_put 0 7 rfl rfl rfl ⟨Nat.le_of_ble_eq_true rfl, Nat.le_of_ble_eq_true rfl⟩ rfl rfl (Nat.le_of_ble_eq_true rfl) dL_put_215 [0, 1, 2, 3, 4, 5, 6, 7, 8, 9] rfl rfl ?_
        rintro _ _ ⟨r2_215_4, lf2_215_4, sh2_215_4, rfl, rfl, hF_215⟩
        refine ky_ws (ws' := [(ad 0, .inr (7, [.ref (ad 1), .ref (ad 10), .ref (ad 14), .ref (ad 18), .ref (ad 23), .ref (ad 29), .ref (ad 32), .int left, .int lf2_215_4])), (ad 1, .inl (cS, 4, .inr (.inr (.inr (.inr (fun k => some (ad (2 + 2 * k)))))))), (ad 2, .inr (4, [.ref (ad 3), .int ((sh2_215_4 0).1), .int ((sh2_215_4 0).2.1)])), (ad 3, .inl (cI, 40, .inl ((sh2_215_4 0).2.2))), (ad 4, .inr (4, [.ref (ad 5), .int ((sh2_215_4 1).1), .int ((sh2_215_4 1).2.1)])), (ad 5, .inl (cI, 40, .inl ((sh2_215_4 1).2.2))), (ad 6, .inr (4, [.ref (ad 7), .int ((sh2_215_4 2).1), .int ((sh2_215_4 2).2.1)])), (ad 7, .inl (cI, 40, .inl ((sh2_215_4 2).2.2))), (ad 8, .inr (4, [.ref (ad 9), .int ((sh2_215_4 3).1), .int ((sh2_215_4 3).2.1)])), (ad 9, .inl (cI, 40, .inl ((sh2_215_4 3).2.2))), (ga, .inl (cI, 48, .inl (upd (upd (upd g1 (1 + f1) (nI v1)) (9 + f1) (nI (kSm (((kCell L xs (fo + 1 + f1 % 2)) >>> ((nI ((f1 / 2) * 7)) &&& 31)) >>> (1 &&& 31)) 10))) (17 + f1) (nI (kSm (((kCell L xs (fo + 1 + f1 % 2)) >>> ((nI ((f1 / 2) * 7)) &&& 31)) >>> (4 &&& 31)) 10)))))]) (st' := [.int r2_215_4]) rfl rfl ?_
        obtain ⟨hr_6, hT_6⟩ := kPut_go hT_5 (n := at1 + 1 + 1) (v := 48 + kSm (((kCell L xs (fo + 1 + f1 % 2)) >>> ((nI ((f1 / 2) * 7)) &&& 31)) >>> (1 &&& 31)) 10) (by omega) (kTxt_1 (f := f1) (by omega) (by repeat (first | rw [pk_us] | rw [pk_un (by omega)]))) (by omega) hF_215
        subst hr_6
        refine ky_iconst C dL_put_218 (v := 1) (by decide) ?_
        refine ky_icmp_eq C 225 dL_put_219 (by decide) (fun c_219 => ?_) (fun q => absurd q (by decide))
        refine ky_iinc C 1 (v := 17) (lv' := [(9, .int 17), (6, .int (nI (at1 + 1 + 1 + 1))), (8, .int ((kCell L xs (fo + 1 + f1 % 2)) >>> ((nI ((f1 / 2) * 7)) &&& 31))), (7, .int (nI f1)), (5, .int (kCell L xs fo)), (0, .ref (ad 0)), (1, .ref b), (2, .int (nI fo)), (3, .int (nI mo)), (4, .ref ga)]) dL_put_225 rfl (by decide) (by decide) rfl ?_
        refine ky_goto C dL_put_228 (tgt := 190) (by decide) ?_
        refine ky_iload C 0 dL_put_190 rfl ?_
        refine ky_bipush C dL_put_192 (v := 25) (by decide) ?_
        refine ky_icmp_ge C 231 dL_put_194 (by decide) (fun q => absurd q (by decide)) (fun c_194 => ?_)
        refine ky_aload_n C 5 dL_put_197 rfl rfl ?_
        refine ky_iconst C dL_put_198 (v := 0) (by decide) ?_
        refine ky_iload C 1 dL_put_199 rfl ?_
        refine ky_iinc C 1 (v := nI (at1 + 1 + 1 + 1 + 1)) (lv' := [(6, .int (nI (at1 + 1 + 1 + 1 + 1))), (9, .int 17), (8, .int ((kCell L xs (fo + 1 + f1 % 2)) >>> ((nI ((f1 / 2) * 7)) &&& 31))), (7, .int (nI f1)), (5, .int (kCell L xs fo)), (0, .ref (ad 0)), (1, .ref b), (2, .int (nI fo)), (3, .int (nI mo)), (4, .ref ga)]) dL_put_201 rfl (nI_1 _) (by decide) rfl ?_
        refine ky_bipush C dL_put_204 (v := 48) (by decide) ?_
        refine ky_aload C 9 dL_put_206 rfl ?_
        refine ky_iload C 1 dL_put_208 rfl ?_
        refine ky_iload C 3 dL_put_210 rfl ?_
        refine ky_iadd C (v := nI (17 + f1)) dL_put_212 (nI_add 17 f1) ?_
        refine ky_ialdN C 10 (k := 17 + f1) rfl (by omega) (by decide) dL_put_213 (v := nI (kSm (((kCell L xs (fo + 1 + f1 % 2)) >>> ((nI ((f1 / 2) * 7)) &&& 31)) >>> (4 &&& 31)) 10)) (by repeat (first | rw [pk_us] | rw [pk_un (by omega)])) ?_
        refine ky_iadd C (v := nI (48 + kSm (((kCell L xs (fo + 1 + f1 % 2)) >>> ((nI ((f1 / 2) * 7)) &&& 31)) >>> (4 &&& 31)) 10)) dL_put_214 (nI_add 48 (kSm (((kCell L xs (fo + 1 + f1 % 2)) >>> ((nI ((f1 / 2) * 7)) &&& 31)) >>> (4 &&& 31)) 10)) ?_
        refine ky_callV0 C 3 (kX7_put l D cI cS ad left lf2_215_4 sh2_215_4 0 (nI (at1 + 1 + 1 + 1)) (nI (48 + kSm (((kCell L xs (fo + 1 + f1 % 2)) >>> ((nI ((f1 / 2) * 7)) &&& 31)) >>> (4 &&& 31)) 10)) hT_6.2.2.2) gL_put_X7_put rfl rfl rfl hdX7_put 0 7 rfl rfl rfl ⟨Nat.le_of_ble_eq_true rfl, Nat.le_of_ble_eq_true rfl⟩ rfl rfl (Nat.le_of_ble_eq_true rfl) dL_put_215 [0, 1, 2, 3, 4, 5, 6, 7, 8, 9] rfl rfl ?_
        rintro _ _ ⟨r2_215_5, lf2_215_5, sh2_215_5, rfl, rfl, hF_215⟩
        refine ky_ws (ws' := [(ad 0, .inr (7, [.ref (ad 1), .ref (ad 10), .ref (ad 14), .ref (ad 18), .ref (ad 23), .ref (ad 29), .ref (ad 32), .int left, .int lf2_215_5])), (ad 1, .inl (cS, 4, .inr (.inr (.inr (.inr (fun k => some (ad (2 + 2 * k)))))))), (ad 2, .inr (4, [.ref (ad 3), .int ((sh2_215_5 0).1), .int ((sh2_215_5 0).2.1)])), (ad 3, .inl (cI, 40, .inl ((sh2_215_5 0).2.2))), (ad 4, .inr (4, [.ref (ad 5), .int ((sh2_215_5 1).1), .int ((sh2_215_5 1).2.1)])), (ad 5, .inl (cI, 40, .inl ((sh2_215_5 1).2.2))), (ad 6, .inr (4, [.ref (ad 7), .int ((sh2_215_5 2).1), .int ((sh2_215_5 2).2.1)])), (ad 7, .inl (cI, 40, .inl ((sh2_215_5 2).2.2))), (ad 8, .inr (4, [.ref (ad 9), .int ((sh2_215_5 3).1), .int ((sh2_215_5 3).2.1)])), (ad 9, .inl (cI, 40, .inl ((sh2_215_5 3).2.2))), (ga, .inl (cI, 48, .inl (upd (upd (upd g1 (1 + f1) (nI v1)) (9 + f1) (nI (kSm (((kCell L xs (fo + 1 + f1 % 2)) >>> ((nI ((f1 / 2) * 7)) &&& 31)) >>> (1 &&& 31)) 10))) (17 + f1) (nI (kSm (((kCell L xs (fo + 1 + f1 % 2)) >>> ((nI ((f1 / 2) * 7)) &&& 31)) >>> (4 &&& 31)) 10)))))]) (st' := [.int r2_215_5]) rfl rfl ?_
        obtain ⟨hr_7, hT_7⟩ := kPut_go hT_6 (n := at1 + 1 + 1 + 1) (v := 48 + kSm (((kCell L xs (fo + 1 + f1 % 2)) >>> ((nI ((f1 / 2) * 7)) &&& 31)) >>> (4 &&& 31)) 10) (by omega) (kTxt_2 (f := f1) (by omega) (by repeat (first | rw [pk_us] | rw [pk_un (by omega)]))) (by omega) hF_215
        subst hr_7
        refine ky_iconst C dL_put_218 (v := 1) (by decide) ?_
        refine ky_icmp_eq C 225 dL_put_219 (by decide) (fun c_219 => ?_) (fun q => absurd q (by decide))
        refine ky_iinc C 1 (v := 25) (lv' := [(9, .int 25), (6, .int (nI (at1 + 1 + 1 + 1 + 1))), (8, .int ((kCell L xs (fo + 1 + f1 % 2)) >>> ((nI ((f1 / 2) * 7)) &&& 31))), (7, .int (nI f1)), (5, .int (kCell L xs fo)), (0, .ref (ad 0)), (1, .ref b), (2, .int (nI fo)), (3, .int (nI mo)), (4, .ref ga)]) dL_put_225 rfl (by decide) (by decide) rfl ?_
        refine ky_goto C dL_put_228 (tgt := 190) (by decide) ?_
        refine ky_iload C 0 dL_put_190 rfl ?_
        refine ky_bipush C dL_put_192 (v := 25) (by decide) ?_
        refine ky_icmp_ge C 231 dL_put_194 (by decide) (fun c_194 => ?_) (fun q => absurd q (by decide))
        refine ky_iinc C 3 (v := nI (f1 + 1)) (lv' := [(7, .int (nI (f1 + 1))), (9, .int 25), (6, .int (nI (at1 + 1 + 1 + 1 + 1))), (8, .int ((kCell L xs (fo + 1 + f1 % 2)) >>> ((nI ((f1 / 2) * 7)) &&& 31))), (5, .int (kCell L xs fo)), (0, .ref (ad 0)), (1, .ref b), (2, .int (nI fo)), (3, .int (nI mo)), (4, .ref ga)]) dL_put_231 rfl (nI_1 _) (by decide) rfl ?_
        refine ky_goto C dL_put_234 (tgt := 72) (by decide) ?_
        exact ky_conv (ws' := [(ad 0, .inr (7, [.ref (ad 1), .ref (ad 10), .ref (ad 14), .ref (ad 18), .ref (ad 23), .ref (ad 29), .ref (ad 32), .int left, .int lf2_215_5])), (ad 1, .inl (cS, 4, .inr (.inr (.inr (.inr (fun k => some (ad (2 + 2 * k)))))))), (ad 2, .inr (4, [.ref (ad 3), .int ((sh2_215_5 0).1), .int ((sh2_215_5 0).2.1)])), (ad 3, .inl (cI, 40, .inl ((sh2_215_5 0).2.2))), (ad 4, .inr (4, [.ref (ad 5), .int ((sh2_215_5 1).1), .int ((sh2_215_5 1).2.1)])), (ad 5, .inl (cI, 40, .inl ((sh2_215_5 1).2.2))), (ad 6, .inr (4, [.ref (ad 7), .int ((sh2_215_5 2).1), .int ((sh2_215_5 2).2.1)])), (ad 7, .inl (cI, 40, .inl ((sh2_215_5 2).2.2))), (ad 8, .inr (4, [.ref (ad 9), .int ((sh2_215_5 3).1), .int ((sh2_215_5 3).2.1)])), (ad 9, .inl (cI, 40, .inl ((sh2_215_5 3).2.2))), (ga, .inl (cI, 48, .inl (upd (upd (upd g1 (1 + f1) (nI v1)) (9 + f1) (nI (kSm (((kCell L xs (fo + 1 + f1 % 2)) >>> ((nI ((f1 / 2) * 7)) &&& 31)) >>> (1 &&& 31)) 10))) (17 + f1) (nI (kSm (((kCell L xs (fo + 1 + f1 % 2)) >>> ((nI ((f1 / 2) * 7)) &&& 31)) >>> (4 &&& 31)) 10)))))]) (lv' := [(7, .int (nI (f1 + 1))), (6, .int (nI (at1 + 1 + 1 + 1 + 1))), (5, .int (kCell L xs fo)), (0, .ref (ad 0)), (1, .ref b), (2, .int (nI fo)), (3, .int (nI mo)), (4, .ref ga)]) (st' := []) [0, 2, 4, 5, 6, 7, 8, 9] rfl rfl rfl (ih_72 (f1 + 1) (at1 + 1 + 1 + 1 + 1) lf2_215_5 sh2_215_5 (upd (upd (upd g1 (1 + f1) (nI v1)) (9 + f1) (nI (kSm (((kCell L xs (fo + 1 + f1 % 2)) >>> ((nI ((f1 / 2) * 7)) &&& 31)) >>> (1 &&& 31)) 10))) (17 + f1) (nI (kSm (((kCell L xs (fo + 1 + f1 % 2)) >>> ((nI ((f1 / 2) * 7)) &&& 31)) >>> (4 &&& 31)) 10))) (show (2 + kSm (kCell L xs fo) (mo - 1)) - (f1 + 1) < (2 + kSm (kCell L xs fo) (mo - 1)) - f1 from by omega) ⟨(by omega), (by omega), (by repeat (first | exact hg1 | rw [pk_us] | rw [pk_un (by omega)])), ⟨(by repeat (first | exact hz1.1 | rw [pk_us] | rw [pk_un (by omega)])), (by repeat (first | exact hz1.2.1 | rw [pk_us] | rw [pk_un (by omega)])), (by repeat (first | exact hz1.2.2.1 | rw [pk_us] | rw [pk_un (by omega)])), (by repeat (first | exact hz1.2.2.2.1 | rw [pk_us] | rw [pk_un (by omega)])), (by repeat (first | exact hz1.2.2.2.2 | rw [pk_us] | rw [pk_un (by omega)]))⟩, (kPb_s hb1 (by omega) (by omega) (by omega) (by omega)), hT_7, trivial⟩)
    · intro kJ_128
      refine ky_iload C 0 dL_put_109 rfl ?_
      refine ky_iconst C dL_put_111 (v := 5) (by decide) ?_
      refine ky_callS0 C 2 (kL_some l D cI cS ((kCell L xs (fo + 1 + f1 % 2)) >>> ((nI ((f1 / 2) * 7)) &&& 31)) 5 (by first | assumption | omega) (by first | assumption | omega)) gL_put_L_some rfl rfl rfl hdL_some.2 ⟨Nat.le_of_ble_eq_true rfl, Nat.le_of_ble_eq_true rfl⟩ rfl rfl (Nat.le_of_ble_eq_true rfl) dL_put_112 [] rfl rfl ?_
      rintro _ _ ⟨rfl, rfl⟩
      refine ky_ws (ws' := [(ad 0, .inr (7, [.ref (ad 1), .ref (ad 10), .ref (ad 14), .ref (ad 18), .ref (ad 23), .ref (ad 29), .ref (ad 32), .int left, .int lf1])), (ad 1, .inl (cS, 4, .inr (.inr (.inr (.inr (fun k => some (ad (2 + 2 * k)))))))), (ad 2, .inr (4, [.ref (ad 3), .int ((sh1 0).1), .int ((sh1 0).2.1)])), (ad 3, .inl (cI, 40, .inl ((sh1 0).2.2))), (ad 4, .inr (4, [.ref (ad 5), .int ((sh1 1).1), .int ((sh1 1).2.1)])), (ad 5, .inl (cI, 40, .inl ((sh1 1).2.2))), (ad 6, .inr (4, [.ref (ad 7), .int ((sh1 2).1), .int ((sh1 2).2.1)])), (ad 7, .inl (cI, 40, .inl ((sh1 2).2.2))), (ad 8, .inr (4, [.ref (ad 9), .int ((sh1 3).1), .int ((sh1 3).2.1)])), (ad 9, .inl (cI, 40, .inl ((sh1 3).2.2))), (ga, .inl (cI, 48, .inl g1))]) (st' := [.int (nI (kSm ((kCell L xs (fo + 1 + f1 % 2)) >>> ((nI ((f1 / 2) * 7)) &&& 31)) 5)), .int (nI (1 + f1)), .ref ga]) rfl rfl ?_
      have hs_112 : kSm ((kCell L xs (fo + 1 + f1 % 2)) >>> ((nI ((f1 / 2) * 7)) &&& 31)) 5 < 5 := kSm_lt _ (by omega)
      refine ky_if_ne C 122 dL_put_115 (by decide) (fun c_115 => ?_) (fun c_115 => ?_)
      · have n_115 := kn_neq (a := kSm ((kCell L xs (fo + 1 + f1 % 2)) >>> ((nI ((f1 / 2) * 7)) &&& 31)) 5) (b := 0) (by omega) (by omega) c_115
        refine ky_iload C 0 dL_put_122 rfl ?_
        refine ky_iconst C dL_put_124 (v := 2) (by decide) ?_
        refine ky_callS0 C 2 (kL_some l D cI cS ((kCell L xs (fo + 1 + f1 % 2)) >>> ((nI ((f1 / 2) * 7)) &&& 31)) 2 (by first | assumption | omega) (by first | assumption | omega)) gL_put_L_some rfl rfl rfl hdL_some.2 ⟨Nat.le_of_ble_eq_true rfl, Nat.le_of_ble_eq_true rfl⟩ rfl rfl (Nat.le_of_ble_eq_true rfl) dL_put_125 [] rfl rfl ?_
        rintro _ _ ⟨rfl, rfl⟩
        refine ky_ws (ws' := [(ad 0, .inr (7, [.ref (ad 1), .ref (ad 10), .ref (ad 14), .ref (ad 18), .ref (ad 23), .ref (ad 29), .ref (ad 32), .int left, .int lf1])), (ad 1, .inl (cS, 4, .inr (.inr (.inr (.inr (fun k => some (ad (2 + 2 * k)))))))), (ad 2, .inr (4, [.ref (ad 3), .int ((sh1 0).1), .int ((sh1 0).2.1)])), (ad 3, .inl (cI, 40, .inl ((sh1 0).2.2))), (ad 4, .inr (4, [.ref (ad 5), .int ((sh1 1).1), .int ((sh1 1).2.1)])), (ad 5, .inl (cI, 40, .inl ((sh1 1).2.2))), (ad 6, .inr (4, [.ref (ad 7), .int ((sh1 2).1), .int ((sh1 2).2.1)])), (ad 7, .inl (cI, 40, .inl ((sh1 2).2.2))), (ad 8, .inr (4, [.ref (ad 9), .int ((sh1 3).1), .int ((sh1 3).2.1)])), (ad 9, .inl (cI, 40, .inl ((sh1 3).2.2))), (ga, .inl (cI, 48, .inl g1))]) (st' := [.int (nI (kSm ((kCell L xs (fo + 1 + f1 % 2)) >>> ((nI ((f1 / 2) * 7)) &&& 31)) 2)), .int (nI (1 + f1)), .ref ga]) rfl rfl ?_
        have hs_125 : kSm ((kCell L xs (fo + 1 + f1 % 2)) >>> ((nI ((f1 / 2) * 7)) &&& 31)) 2 < 2 := kSm_lt _ (by omega)
        exact ky_conv (ws' := [(ad 0, .inr (7, [.ref (ad 1), .ref (ad 10), .ref (ad 14), .ref (ad 18), .ref (ad 23), .ref (ad 29), .ref (ad 32), .int left, .int lf1])), (ad 1, .inl (cS, 4, .inr (.inr (.inr (.inr (fun k => some (ad (2 + 2 * k)))))))), (ad 2, .inr (4, [.ref (ad 3), .int ((sh1 0).1), .int ((sh1 0).2.1)])), (ad 3, .inl (cI, 40, .inl ((sh1 0).2.2))), (ad 4, .inr (4, [.ref (ad 5), .int ((sh1 1).1), .int ((sh1 1).2.1)])), (ad 5, .inl (cI, 40, .inl ((sh1 1).2.2))), (ad 6, .inr (4, [.ref (ad 7), .int ((sh1 2).1), .int ((sh1 2).2.1)])), (ad 7, .inl (cI, 40, .inl ((sh1 2).2.2))), (ad 8, .inr (4, [.ref (ad 9), .int ((sh1 3).1), .int ((sh1 3).2.1)])), (ad 9, .inl (cI, 40, .inl ((sh1 3).2.2))), (ga, .inl (cI, 48, .inl g1))]) (lv' := [(8, .int ((kCell L xs (fo + 1 + f1 % 2)) >>> ((nI ((f1 / 2) * 7)) &&& 31))), (7, .int (nI f1)), (6, .int (nI at1)), (5, .int (kCell L xs fo)), (0, .ref (ad 0)), (1, .ref b), (2, .int (nI fo)), (3, .int (nI mo)), (4, .ref ga)]) (st' := [.int (nI (kSm ((kCell L xs (fo + 1 + f1 % 2)) >>> ((nI ((f1 / 2) * 7)) &&& 31)) 2)), .int (nI (1 + f1)), .ref ga]) [0, 1, 2, 3, 4, 5, 6, 7, 8] rfl rfl rfl (kJ_128 (kSm ((kCell L xs (fo + 1 + f1 % 2)) >>> ((nI ((f1 / 2) * 7)) &&& 31)) 2) ⟨(by omega), trivial⟩)
      · have n_115 := kn_eq (a := kSm ((kCell L xs (fo + 1 + f1 % 2)) >>> ((nI ((f1 / 2) * 7)) &&& 31)) 5) (b := 0) (by omega) (by omega) c_115
        refine ky_iconst C dL_put_118 (v := 3) (by decide) ?_
        refine ky_goto C dL_put_119 (tgt := 128) (by decide) ?_
        exact ky_conv (ws' := [(ad 0, .inr (7, [.ref (ad 1), .ref (ad 10), .ref (ad 14), .ref (ad 18), .ref (ad 23), .ref (ad 29), .ref (ad 32), .int left, .int lf1])), (ad 1, .inl (cS, 4, .inr (.inr (.inr (.inr (fun k => some (ad (2 + 2 * k)))))))), (ad 2, .inr (4, [.ref (ad 3), .int ((sh1 0).1), .int ((sh1 0).2.1)])), (ad 3, .inl (cI, 40, .inl ((sh1 0).2.2))), (ad 4, .inr (4, [.ref (ad 5), .int ((sh1 1).1), .int ((sh1 1).2.1)])), (ad 5, .inl (cI, 40, .inl ((sh1 1).2.2))), (ad 6, .inr (4, [.ref (ad 7), .int ((sh1 2).1), .int ((sh1 2).2.1)])), (ad 7, .inl (cI, 40, .inl ((sh1 2).2.2))), (ad 8, .inr (4, [.ref (ad 9), .int ((sh1 3).1), .int ((sh1 3).2.1)])), (ad 9, .inl (cI, 40, .inl ((sh1 3).2.2))), (ga, .inl (cI, 48, .inl g1))]) (lv' := [(8, .int ((kCell L xs (fo + 1 + f1 % 2)) >>> ((nI ((f1 / 2) * 7)) &&& 31))), (7, .int (nI f1)), (6, .int (nI at1)), (5, .int (kCell L xs fo)), (0, .ref (ad 0)), (1, .ref b), (2, .int (nI fo)), (3, .int (nI mo)), (4, .ref ga)]) (st' := [.int (nI 3), .int (nI (1 + f1)), .ref ga]) [0, 1, 2, 3, 4, 5, 6, 7, 8] rfl rfl rfl (kJ_128 3 ⟨(by omega), trivial⟩)
