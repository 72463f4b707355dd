/-! What comes before a call does anything; loops that set a run of places. -/
theorem loop_set {β : Type} (L : Nat → Int32 → Mem → Option β) (F : Int32 → Mem → Option β) (N o c : Nat) (g : Nat → Int32) (M : Mem) (hN : N < 2100)
    (h1 : ∀ n i M', i < N → (∀ a, a ≠ c → M' a = M a) → (∀ j, (j < o ∨ o + i ≤ j) → M' c j = M c j) → L (n + 1) (nI i) M' = L n (nI (i + 1)) (mset M' c (o + i) (g i)))
    (h2 : ∀ n M', (∀ a, a ≠ c → M' a = M a) → L (n + 1) (nI N) M' = F (nI N) M') : L FU (nI 0) M = F (nI N) (mrow M c (fun j => if o ≤ j ∧ j < o + N then g (j - o) else M c j)) := by
  have key : ∀ (k i n : Nat), i + k = N → k < n → L n (nI i) (mrow M c (fun j => if o ≤ j ∧ j < o + i then g (j - o) else M c j)) = F (nI N) (mrow M c (fun j => if o ≤ j ∧ j < o + N then g (j - o) else M c j)) := by
    intro k
    induction k with
    | zero =>
      intro i n e hn
      obtain ⟨n, rfl⟩ : ∃ q, n = q + 1 := ⟨n - 1, by omega⟩
      obtain rfl : i = N := by omega
      exact h2 n _ (fun a h => mrow_n _ _ h)
    | succ k ih =>
      intro i n e hn
      obtain ⟨n, rfl⟩ : ∃ q, n = q + 1 := ⟨n - 1, by omega⟩
      rw [h1 n i _ (by omega) (fun a h => mrow_n _ _ h) (fun j hj => by rw [mrow_s]; exact if_neg (by omega)), ← ih (i + 1) n (by omega) (by omega)]
      congr 1
      rw [mset_row, mrow_mrow, mrow_s]
      congr 1
      funext j
      show (if j = o + i then g i else if o ≤ j ∧ j < o + i then g (j - o) else M c j) = _
      by_cases d : j = o + i
      · subst d
        rw [if_pos rfl, if_pos (by omega), Nat.add_sub_cancel_left]
      · rw [if_neg d]
        by_cases d2 : o ≤ j ∧ j < o + i
        · rw [if_pos d2, if_pos (by omega)]
        · rw [if_neg d2, if_neg (by omega)]
  have e := key N 0 FU (by omega) (by have := FU_le; omega)
  rw [← e]
  congr 1
  funext a b
  rw [mrow_get]
  by_cases d : a = c
  · rw [if_pos d, if_neg (by omega), d]
  · rw [if_neg d]
def Bg (R : Mem) : Mem := mset (mset R 0 0 (nI 0)) 0 19 (nI 0)
def Bn (R : Mem) (n : Nat) : Mem := mset (Bg R) 0 19 (nI n)
theorem Bg_0 (R : Mem) : Bg R 0 19 = nI 0 := mset_s _ _ _ _
theorem Bn_0 (R : Mem) (n : Nat) : Bn R n 0 19 = nI n := mset_s _ _ _ _
theorem Bg_a (R : Mem) {a : Nat} (h : a ≠ 0) : Bg R a = R a := by unfold Bg; rw [mset_nk _ _ _ h, mset_nk _ _ _ h]
theorem Bn_a (R : Mem) (n : Nat) {a : Nat} (h : a ≠ 0) : Bn R n a = R a := by unfold Bn; rw [mset_nk _ _ _ h, Bg_a _ h]
theorem Bg_j (R : Mem) {j : Nat} (h : j ≠ 0) (h2 : j ≠ 19) : Bg R 0 j = R 0 j := by unfold Bg; rw [mset_nj _ _ _ h2, mset_nj _ _ _ h]
theorem Bn_j (R : Mem) (n : Nat) {j : Nat} (h : j ≠ 0) (h2 : j ≠ 19) : Bn R n 0 j = R 0 j := by unfold Bn; rw [mset_nj _ _ _ h2, Bg_j _ h h2]
theorem Rel_Bn {C R : Mem} (h : Rel C R) (n : Nat) : Rel C (Bn R n) := Rel_scr h (Bn_j _ _ (by omega) (by omega)) (Bn_j _ _ (by omega) (by omega)) (fun a h0 _ _ _ _ _ _ => Bn_a _ _ h0)
theorem begin_m (R : Mem) : fX6_begin R = some (Bg R) := by
  unfold fX6_begin Bg
  simp (disch := omega) only [mset_s, mset_nk, mset_nj, mrow_s, mrow_n, ifeq_s, nar_0, nar_1, isB_0, isB_1, bnd_e, jn_e, Option.bind_some, gd_true, gd_dec, Bool.true_and, Bool.and_true, Bool.and_self, tn_nI, inb_nI, ifle_t, ifle_f, iflt_t, iflt_f, ifeq_f, if_true, ofN_nI, nI_add, nI_subl, li_0, li_1, li_2, li_3, li_4, li_5, li_6, li_7, li_8, li_9, li_10, li_11, li_12, li_13, li_14, li_15, li_16, li_17, li_18, li_19, li_20, li_21, li_22, li_23, li_24, li_25, li_26, li_27, li_28, li_29, li_30, li_31, li_32, li_60, li_63, li_64, li_80, li_100, li_128, li_160, li_320, li_511, li_512, li_1600, li_1700, li_2000, li_2048, li_32000, li_2147483647]
theorem wr_1 (R : Mem) (n : Nat) : fX6_wrong (Bg R) (nI 1) (nI n) = some (Bn R n) := wrong_1 (Bg_0 R)
theorem wr_n (R : Mem) (n b : Nat) (x : Int32) (h : 0 < n) (h2 : n < 10) (hb : b ≤ 1) : fX6_wrong (Bn R n) (nI b) x = some (Bn R n) := wrong_n (Bn_0 R n) h h2 b hb
def hK (R : Mem) : Prop := ∀ q, q < 20 → ∃ k, k < 10 ∧ R 3 q = nI k
theorem hK_Bn {R : Mem} (h : hK R) (n : Nat) : hK (Bn R n) := fun q hq => by rw [Bn_a _ _ (by omega)]; exact h q hq
theorem isK_x {R : Mem} (h : hK R) (x : Int32) {k : Nat} (hk : k < 10) : ∃ b, b ≤ 1 ∧ fX6_isKind R x (nI k) = some (nI b, R) := by
  rcases argc x (show 20 < 2 ^ 31 by omega) with hx | ⟨p, hp, rfl⟩
  · exact ⟨0, by omega, isKind_b hx⟩
  · obtain ⟨k', h1, h2⟩ := h p hp
    exact ⟨if k' = k then 1 else 0, by split <;> omega, isKind_t hp h2 h1 hk⟩
theorem wF_n {R : Mem} (h : hK R) {n : Nat} (h0 : 0 < n) (h1 : n < 10) (x : Int32) : fX6_wantFree (Bn R n) x = some (Bn R n) := by
  obtain ⟨b, hb, e⟩ := isK_x (hK_Bn h n) x (show 0 < 10 by omega)
  unfold fX6_wantFree
  rw [li_0, e]
  rcases (show b = 0 ∨ b = 1 by omega) with rfl | rfl
  · simp (disch := omega) only [wr_n, mset_s, mset_nk, mset_nj, mrow_s, mrow_n, ifeq_s, nar_0, nar_1, isB_0, isB_1, bnd_e, jn_e, Option.bind_some, gd_true, gd_dec, Bool.true_and, Bool.and_true, Bool.and_self, tn_nI, inb_nI, ifle_t, ifle_f, iflt_t, iflt_f, ifeq_f, if_true, ofN_nI, nI_add, nI_subl, li_0, li_1, li_2, li_3, li_4, li_5, li_6, li_7, li_8, li_9, li_10, li_11, li_12, li_13, li_14, li_15, li_16, li_17, li_18, li_19, li_20, li_21, li_22, li_23, li_24, li_25, li_26, li_27, li_28, li_29, li_30, li_31, li_32, li_60, li_63, li_64, li_80, li_100, li_128, li_160, li_320, li_511, li_512, li_1600, li_1700, li_2000, li_2048, li_32000, li_2147483647]
  · simp (disch := omega) only [wr_n, mset_s, mset_nk, mset_nj, mrow_s, mrow_n, ifeq_s, nar_0, nar_1, isB_0, isB_1, bnd_e, jn_e, Option.bind_some, gd_true, gd_dec, Bool.true_and, Bool.and_true, Bool.and_self, tn_nI, inb_nI, ifle_t, ifle_f, iflt_t, iflt_f, ifeq_f, if_true, ofN_nI, nI_add, nI_subl, li_0, li_1, li_2, li_3, li_4, li_5, li_6, li_7, li_8, li_9, li_10, li_11, li_12, li_13, li_14, li_15, li_16, li_17, li_18, li_19, li_20, li_21, li_22, li_23, li_24, li_25, li_26, li_27, li_28, li_29, li_30, li_31, li_32, li_60, li_63, li_64, li_80, li_100, li_128, li_160, li_320, li_511, li_512, li_1600, li_1700, li_2000, li_2048, li_32000, li_2147483647]
theorem wS_n {R : Mem} (h : hK R) {n : Nat} (h0 : 0 < n) (h1 : n < 10) (x y : Int32) : fX6_wantSpace (Bn R n) x y = some (Bn R n) := by
  obtain ⟨b, hb, e⟩ := isK_x (hK_Bn h n) x (show 1 < 10 by omega)
  unfold fX6_wantSpace
  rw [li_1, e]
  rcases (show b = 0 ∨ b = 1 by omega) with rfl | rfl
  · simp (disch := omega) only [wr_n, Bn_0, mset_s, mset_nk, mset_nj, mrow_s, mrow_n, ifeq_s, nar_0, nar_1, isB_0, isB_1, bnd_e, jn_e, Option.bind_some, gd_true, gd_dec, Bool.true_and, Bool.and_true, Bool.and_self, tn_nI, inb_nI, ifle_t, ifle_f, iflt_t, iflt_f, ifeq_f, if_true, ofN_nI, nI_add, nI_subl, li_0, li_1, li_2, li_3, li_4, li_5, li_6, li_7, li_8, li_9, li_10, li_11, li_12, li_13, li_14, li_15, li_16, li_17, li_18, li_19, li_20, li_21, li_22, li_23, li_24, li_25, li_26, li_27, li_28, li_29, li_30, li_31, li_32, li_60, li_63, li_64, li_80, li_100, li_128, li_160, li_320, li_511, li_512, li_1600, li_1700, li_2000, li_2048, li_32000, li_2147483647]
  · simp (disch := omega) only [wr_n, Bn_0, mset_s, mset_nk, mset_nj, mrow_s, mrow_n, ifeq_s, nar_0, nar_1, isB_0, isB_1, bnd_e, jn_e, Option.bind_some, gd_true, gd_dec, Bool.true_and, Bool.and_true, Bool.and_self, tn_nI, inb_nI, ifle_t, ifle_f, iflt_t, iflt_f, ifeq_f, if_true, ofN_nI, nI_add, nI_subl, li_0, li_1, li_2, li_3, li_4, li_5, li_6, li_7, li_8, li_9, li_10, li_11, li_12, li_13, li_14, li_15, li_16, li_17, li_18, li_19, li_20, li_21, li_22, li_23, li_24, li_25, li_26, li_27, li_28, li_29, li_30, li_31, li_32, li_60, li_63, li_64, li_80, li_100, li_128, li_160, li_320, li_511, li_512, li_1600, li_1700, li_2000, li_2048, li_32000, li_2147483647]
theorem wF_t {R : Mem} {p : Nat} (hp : p < 20) (h : R 3 p = nI 0) : fX6_wantFree (Bg R) (nI p) = some (Bg R) := by
  have e := isKind_t (M := Bg R) (k' := 0) hp (by rw [Bg_a _ (by omega)]; exact h) (by omega) (by omega)
  unfold fX6_wantFree
  rw [li_0, e]
  simp (disch := omega) only [wrong_0, mset_s, mset_nk, mset_nj, mrow_s, mrow_n, ifeq_s, nar_0, nar_1, isB_0, isB_1, bnd_e, jn_e, Option.bind_some, gd_true, gd_dec, Bool.true_and, Bool.and_true, Bool.and_self, tn_nI, inb_nI, ifle_t, ifle_f, iflt_t, iflt_f, ifeq_f, if_true, ofN_nI, nI_add, nI_subl, li_0, li_1, li_2, li_3, li_4, li_5, li_6, li_7, li_8, li_9, li_10, li_11, li_12, li_13, li_14, li_15, li_16, li_17, li_18, li_19, li_20, li_21, li_22, li_23, li_24, li_25, li_26, li_27, li_28, li_29, li_30, li_31, li_32, li_60, li_63, li_64, li_80, li_100, li_128, li_160, li_320, li_511, li_512, li_1600, li_1700, li_2000, li_2048, li_32000, li_2147483647]
theorem wF_2 {R : Mem} {p k : Nat} (hp : p < 20) (h : R 3 p = nI k) (hk : k < 10) (h0 : k ≠ 0) : fX6_wantFree (Bg R) (nI p) = some (Bn R 2) := by
  have e := isKind_t (M := Bg R) (k' := 0) hp (by rw [Bg_a _ (by omega)]; exact h) (by omega) (by omega)
  rw [if_neg h0] at e
  unfold fX6_wantFree
  rw [li_0, e]
  simp (disch := omega) only [wr_1, mset_s, mset_nk, mset_nj, mrow_s, mrow_n, ifeq_s, nar_0, nar_1, isB_0, isB_1, bnd_e, jn_e, Option.bind_some, gd_true, gd_dec, Bool.true_and, Bool.and_true, Bool.and_self, tn_nI, inb_nI, ifle_t, ifle_f, iflt_t, iflt_f, ifeq_f, if_true, ofN_nI, nI_add, nI_subl, li_0, li_1, li_2, li_3, li_4, li_5, li_6, li_7, li_8, li_9, li_10, li_11, li_12, li_13, li_14, li_15, li_16, li_17, li_18, li_19, li_20, li_21, li_22, li_23, li_24, li_25, li_26, li_27, li_28, li_29, li_30, li_31, li_32, li_60, li_63, li_64, li_80, li_100, li_128, li_160, li_320, li_511, li_512, li_1600, li_1700, li_2000, li_2048, li_32000, li_2147483647]
theorem wS_t {R : Mem} {p v : Nat} (hp : p < 20) (h : R 3 p = nI 1) (h2 : R 5 p = nI v) : fX6_wantSpace (Bg R) (nI p) (nI v) = some (Bg R) := by
  have e := isKind_t (M := Bg R) (k' := 1) hp (by rw [Bg_a _ (by omega)]; exact h) (by omega) (by omega)
  unfold fX6_wantSpace
  rw [li_1, e]
  simp (disch := omega) only [wrong_0, Bg_0, Bg_a, h2, mset_s, mset_nk, mset_nj, mrow_s, mrow_n, ifeq_s, nar_0, nar_1, isB_0, isB_1, bnd_e, jn_e, Option.bind_some, gd_true, gd_dec, Bool.true_and, Bool.and_true, Bool.and_self, tn_nI, inb_nI, ifle_t, ifle_f, iflt_t, iflt_f, ifeq_f, if_true, ofN_nI, nI_add, nI_subl, li_0, li_1, li_2, li_3, li_4, li_5, li_6, li_7, li_8, li_9, li_10, li_11, li_12, li_13, li_14, li_15, li_16, li_17, li_18, li_19, li_20, li_21, li_22, li_23, li_24, li_25, li_26, li_27, li_28, li_29, li_30, li_31, li_32, li_60, li_63, li_64, li_80, li_100, li_128, li_160, li_320, li_511, li_512, li_1600, li_1700, li_2000, li_2048, li_32000, li_2147483647]
theorem wS_3 {R : Mem} {p k : Nat} {y : Int32} (hp : p < 20) (h : R 3 p = nI k) (hk : k < 10) (h0 : k ≠ 1) : fX6_wantSpace (Bg R) (nI p) y = some (Bn R 3) := by
  have e := isKind_t (M := Bg R) (k' := 1) hp (by rw [Bg_a _ (by omega)]; exact h) (by omega) (by omega)
  rw [if_neg h0] at e
  unfold fX6_wantSpace
  rw [li_1, e]
  simp (disch := omega) only [wr_1, wr_n, Bn_0, mset_s, mset_nk, mset_nj, mrow_s, mrow_n, ifeq_s, nar_0, nar_1, isB_0, isB_1, bnd_e, jn_e, Option.bind_some, gd_true, gd_dec, Bool.true_and, Bool.and_true, Bool.and_self, tn_nI, inb_nI, ifle_t, ifle_f, iflt_t, iflt_f, ifeq_f, if_true, ofN_nI, nI_add, nI_subl, li_0, li_1, li_2, li_3, li_4, li_5, li_6, li_7, li_8, li_9, li_10, li_11, li_12, li_13, li_14, li_15, li_16, li_17, li_18, li_19, li_20, li_21, li_22, li_23, li_24, li_25, li_26, li_27, li_28, li_29, li_30, li_31, li_32, li_60, li_63, li_64, li_80, li_100, li_128, li_160, li_320, li_511, li_512, li_1600, li_1700, li_2000, li_2048, li_32000, li_2147483647]
theorem wS_4 {R : Mem} {p v v' : Nat} (hp : p < 20) (h : R 3 p = nI 1) (h2 : R 5 p = nI v') (hv : v < 10) (hv' : v' < 10) (hn : v' ≠ v) : fX6_wantSpace (Bg R) (nI p) (nI v) = some (Bn R 4) := by
  have e := isKind_t (M := Bg R) (k' := 1) hp (by rw [Bg_a _ (by omega)]; exact h) (by omega) (by omega)
  unfold fX6_wantSpace
  rw [li_1, e]
  simp (disch := omega) only [wrong_0, wr_1, Bg_0, Bg_a, h2, mset_s, mset_nk, mset_nj, mrow_s, mrow_n, ifeq_s, nar_0, nar_1, isB_0, isB_1, bnd_e, jn_e, Option.bind_some, gd_true, gd_dec, Bool.true_and, Bool.and_true, Bool.and_self, tn_nI, inb_nI, ifle_t, ifle_f, iflt_t, iflt_f, ifeq_f, if_true, ofN_nI, nI_add, nI_subl, li_0, li_1, li_2, li_3, li_4, li_5, li_6, li_7, li_8, li_9, li_10, li_11, li_12, li_13, li_14, li_15, li_16, li_17, li_18, li_19, li_20, li_21, li_22, li_23, li_24, li_25, li_26, li_27, li_28, li_29, li_30, li_31, li_32, li_60, li_63, li_64, li_80, li_100, li_128, li_160, li_320, li_511, li_512, li_1600, li_1700, li_2000, li_2048, li_32000, li_2147483647]
-- the class
theorem rS_3 {C : Mem} {s k : Nat} {y : Int32} (hs : s < 20) (h : C (33 + 5 * s) 0 = nI k) (hk : k < 10) (h1 : k ≠ 1) : fX5_refusalOfSpace C (nI s) y = some (nI 3, C) := by
  unfold fX5_refusalOfSpace
  simp (disch := omega) only [h, isPg_p, isI_p1, isI_p2, isI_p3, isI_p4, lnC_p1, lnC_p2, lnC_p3, lnC_p4, isI_r, lnC_r, isI_k, lnC_134, lnC_136, lnC_137, lnC_138, lnC_139, lnC_140, lnC_141, lnC_142, mset_s, mset_nk, mset_nj, mrow_s, mrow_n, ifeq_s, nar_0, nar_1, isB_0, isB_1, bnd_e, jn_e, Option.bind_some, gd_true, gd_dec, Bool.true_and, Bool.and_true, Bool.and_self, tn_nI, inb_nI, ifle_t, ifle_f, iflt_t, iflt_f, ifeq_f, if_true, ofN_nI, nI_add, nI_subl, li_0, li_1, li_2, li_3, li_4, li_5, li_6, li_7, li_8, li_9, li_10, li_11, li_12, li_13, li_14, li_15, li_16, li_17, li_18, li_19, li_20, li_21, li_22, li_23, li_24, li_25, li_26, li_27, li_28, li_29, li_30, li_31, li_32, li_60, li_63, li_64, li_80, li_100, li_128, li_160, li_320, li_511, li_512, li_1600, li_1700, li_2000, li_2048, li_32000, li_2147483647]
theorem rS_4 {C : Mem} {s v l : Nat} (hs : s < 20) (h : C (33 + 5 * s) 0 = nI 1) (h2 : C (33 + 5 * s) 2 = nI v) (hl : l < v) (hv : v < 10) : fX5_refusalOfSpace C (nI s) (nI l) = some (nI 4, C) := by
  unfold fX5_refusalOfSpace
  simp (disch := omega) only [h, h2, isPg_p, isI_p1, isI_p2, isI_p3, isI_p4, lnC_p1, lnC_p2, lnC_p3, lnC_p4, isI_r, lnC_r, isI_k, lnC_134, lnC_136, lnC_137, lnC_138, lnC_139, lnC_140, lnC_141, lnC_142, mset_s, mset_nk, mset_nj, mrow_s, mrow_n, ifeq_s, nar_0, nar_1, isB_0, isB_1, bnd_e, jn_e, Option.bind_some, gd_true, gd_dec, Bool.true_and, Bool.and_true, Bool.and_self, tn_nI, inb_nI, ifle_t, ifle_f, iflt_t, iflt_f, ifeq_f, if_true, ofN_nI, nI_add, nI_subl, li_0, li_1, li_2, li_3, li_4, li_5, li_6, li_7, li_8, li_9, li_10, li_11, li_12, li_13, li_14, li_15, li_16, li_17, li_18, li_19, li_20, li_21, li_22, li_23, li_24, li_25, li_26, li_27, li_28, li_29, li_30, li_31, li_32, li_60, li_63, li_64, li_80, li_100, li_128, li_160, li_320, li_511, li_512, li_1600, li_1700, li_2000, li_2048, li_32000, li_2147483647]
theorem rS_0 {C : Mem} {s v l : Nat} (hs : s < 20) (h : C (33 + 5 * s) 0 = nI 1) (h2 : C (33 + 5 * s) 2 = nI v) (hl : v ≤ l) (hv : l < 10) : fX5_refusalOfSpace C (nI s) (nI l) = some (nI 0, C) := by
  unfold fX5_refusalOfSpace
  simp (disch := omega) only [h, h2, isPg_p, isI_p1, isI_p2, isI_p3, isI_p4, lnC_p1, lnC_p2, lnC_p3, lnC_p4, isI_r, lnC_r, isI_k, lnC_134, lnC_136, lnC_137, lnC_138, lnC_139, lnC_140, lnC_141, lnC_142, mset_s, mset_nk, mset_nj, mrow_s, mrow_n, ifeq_s, nar_0, nar_1, isB_0, isB_1, bnd_e, jn_e, Option.bind_some, gd_true, gd_dec, Bool.true_and, Bool.and_true, Bool.and_self, tn_nI, inb_nI, ifle_t, ifle_f, iflt_t, iflt_f, ifeq_f, if_true, ofN_nI, nI_add, nI_subl, li_0, li_1, li_2, li_3, li_4, li_5, li_6, li_7, li_8, li_9, li_10, li_11, li_12, li_13, li_14, li_15, li_16, li_17, li_18, li_19, li_20, li_21, li_22, li_23, li_24, li_25, li_26, li_27, li_28, li_29, li_30, li_31, li_32, li_60, li_63, li_64, li_80, li_100, li_128, li_160, li_320, li_511, li_512, li_1600, li_1700, li_2000, li_2048, li_32000, li_2147483647]
theorem rN_2 {C : Mem} {p k : Nat} {y z : Int32} (hp : p < 20) (h : C (33 + 5 * p) 0 = nI k) (hk : k < 10) (h1 : k ≠ 0) : fX5_refusalOfNew C (nI p) y z = some (nI 2, C) := by
  unfold fX5_refusalOfNew
  simp (disch := omega) only [h, isPg_p, isI_p1, isI_p2, isI_p3, isI_p4, lnC_p1, lnC_p2, lnC_p3, lnC_p4, isI_r, lnC_r, isI_k, lnC_134, lnC_136, lnC_137, lnC_138, lnC_139, lnC_140, lnC_141, lnC_142, mset_s, mset_nk, mset_nj, mrow_s, mrow_n, ifeq_s, nar_0, nar_1, isB_0, isB_1, bnd_e, jn_e, Option.bind_some, gd_true, gd_dec, Bool.true_and, Bool.and_true, Bool.and_self, tn_nI, inb_nI, ifle_t, ifle_f, iflt_t, iflt_f, ifeq_f, if_true, ofN_nI, nI_add, nI_subl, li_0, li_1, li_2, li_3, li_4, li_5, li_6, li_7, li_8, li_9, li_10, li_11, li_12, li_13, li_14, li_15, li_16, li_17, li_18, li_19, li_20, li_21, li_22, li_23, li_24, li_25, li_26, li_27, li_28, li_29, li_30, li_31, li_32, li_60, li_63, li_64, li_80, li_100, li_128, li_160, li_320, li_511, li_512, li_1600, li_1700, li_2000, li_2048, li_32000, li_2147483647]
theorem rN_s {C : Mem} {p : Nat} {y z r : Int32} (hp : p < 20) (h : C (33 + 5 * p) 0 = nI 0) (e : fX5_refusalOfSpace C y z = some (r, C)) : fX5_refusalOfNew C (nI p) y z = some (r, C) := by
  unfold fX5_refusalOfNew
  simp (disch := omega) only [h, e, isPg_p, isI_p1, isI_p2, isI_p3, isI_p4, lnC_p1, lnC_p2, lnC_p3, lnC_p4, isI_r, lnC_r, isI_k, lnC_134, lnC_136, lnC_137, lnC_138, lnC_139, lnC_140, lnC_141, lnC_142, mset_s, mset_nk, mset_nj, mrow_s, mrow_n, ifeq_s, nar_0, nar_1, isB_0, isB_1, bnd_e, jn_e, Option.bind_some, gd_true, gd_dec, Bool.true_and, Bool.and_true, Bool.and_self, tn_nI, inb_nI, ifle_t, ifle_f, iflt_t, iflt_f, ifeq_f, if_true, ofN_nI, nI_add, nI_subl, li_0, li_1, li_2, li_3, li_4, li_5, li_6, li_7, li_8, li_9, li_10, li_11, li_12, li_13, li_14, li_15, li_16, li_17, li_18, li_19, li_20, li_21, li_22, li_23, li_24, li_25, li_26, li_27, li_28, li_29, li_30, li_31, li_32, li_60, li_63, li_64, li_80, li_100, li_128, li_160, li_320, li_511, li_512, li_1600, li_1700, li_2000, li_2048, li_32000, li_2147483647]
theorem IV85 {kd ow st md et lg : Nat → Nat} {tb en rt : Nat → Nat → Nat} (h : IV kd ow st md et lg tb en rt) : ∀ q, q < 20 → lg q ≤ 85 := fun q hq => (h.1 q hq).2.2.2.2.1
theorem RM_hK {R : Mem} {kd ow st md et lg : Nat → Nat} {tb en rt : Nat → Nat → Nat} (h : RM R kd ow st md et lg tb en rt) (hI : IV kd ow st md et lg tb en rt) : hK R := fun q hq => ⟨kd q, by have := (hI.1 q hq).1; omega, (h.2 q hq).1⟩
theorem RQ_Bg {C R : Mem} {th : Nat} {kd ow st md et lg : Nat → Nat} {tb en rt : Nat → Nat → Nat} (h : RQ C R th kd ow st md et lg tb en rt) (hI : IV kd ow st md et lg tb en rt) : RQ C (Bg R) th kd ow st md et lg tb en rt :=
  RQ_fr h (IV85 hI) (fun _ _ _ _ _ _ _ => rfl) (fun a b h1 h2 h3 => by
    by_cases e : a = 0
    · subst e; exact Bg_j _ (by omega) (by omega)
    · rw [Bg_a _ e])
-- spare()
theorem sim_spare {C R : Mem} (h : Rel C R) (x y : Int32) : ∃ r C' R', fX5_spare C x y = some (r, C') ∧ fX6_spare R x y = some (r, R') ∧ Rel C' R' := by
  have h' := h
  obtain ⟨kd, ow, st, md, et, lg, tb, en, rt, hM, hC, hI⟩ := h'
  have k := RM_hK hM hI
  rcases argc x (show 20 < 2 ^ 31 by omega) with hx | ⟨p, hp, rfl⟩
  · refine ⟨nI 1, C, Bn R 1, ?_, ?_, Rel_Bn h 1⟩
    · simp (disch := omega) only [fX5_spare, isPage_b hx, mset_s, mset_nk, mset_nj, mrow_s, mrow_n, ifeq_s, nar_0, nar_1, isB_0, isB_1, bnd_e, jn_e, Option.bind_some, gd_true, gd_dec, Bool.true_and, Bool.and_true, Bool.and_self, tn_nI, inb_nI, ifle_t, ifle_f, iflt_t, iflt_f, ifeq_f, if_true, ofN_nI, nI_add, nI_subl, li_0, li_1, li_2, li_3, li_4, li_5, li_6, li_7, li_8, li_9, li_10, li_11, li_12, li_13, li_14, li_15, li_16, li_17, li_18, li_19, li_20, li_21, li_22, li_23, li_24, li_25, li_26, li_27, li_28, li_29, li_30, li_31, li_32, li_60, li_63, li_64, li_80, li_100, li_128, li_160, li_320, li_511, li_512, li_1600, li_1700, li_2000, li_2048, li_32000, li_2147483647]
    · obtain ⟨b, hb, e⟩ := isK_x (hK_Bn k 1) y (show 1 < 10 by omega)
      rcases (show b = 0 ∨ b = 1 by omega) with rfl | rfl
      · simp (disch := omega) only [fX6_spare, begin_m, noPage_b hx, wr_1, wF_n k, e, wr_n, Bn_0, mset_s, mset_nk, mset_nj, mrow_s, mrow_n, ifeq_s, nar_0, nar_1, isB_0, isB_1, bnd_e, jn_e, Option.bind_some, gd_true, gd_dec, Bool.true_and, Bool.and_true, Bool.and_self, tn_nI, inb_nI, ifle_t, ifle_f, iflt_t, iflt_f, ifeq_f, if_true, ofN_nI, nI_add, nI_subl, li_0, li_1, li_2, li_3, li_4, li_5, li_6, li_7, li_8, li_9, li_10, li_11, li_12, li_13, li_14, li_15, li_16, li_17, li_18, li_19, li_20, li_21, li_22, li_23, li_24, li_25, li_26, li_27, li_28, li_29, li_30, li_31, li_32, li_60, li_63, li_64, li_80, li_100, li_128, li_160, li_320, li_511, li_512, li_1600, li_1700, li_2000, li_2048, li_32000, li_2147483647]
      · simp (disch := omega) only [fX6_spare, begin_m, noPage_b hx, wr_1, wF_n k, e, wr_n, Bn_0, mset_s, mset_nk, mset_nj, mrow_s, mrow_n, ifeq_s, nar_0, nar_1, isB_0, isB_1, bnd_e, jn_e, Option.bind_some, gd_true, gd_dec, Bool.true_and, Bool.and_true, Bool.and_self, tn_nI, inb_nI, ifle_t, ifle_f, iflt_t, iflt_f, ifeq_f, if_true, ofN_nI, nI_add, nI_subl, li_0, li_1, li_2, li_3, li_4, li_5, li_6, li_7, li_8, li_9, li_10, li_11, li_12, li_13, li_14, li_15, li_16, li_17, li_18, li_19, li_20, li_21, li_22, li_23, li_24, li_25, li_26, li_27, li_28, li_29, li_30, li_31, li_32, li_60, li_63, li_64, li_80, li_100, li_128, li_160, li_320, li_511, li_512, li_1600, li_1700, li_2000, li_2048, li_32000, li_2147483647]
  rcases argc y (show 20 < 2 ^ 31 by omega) with hy | ⟨s, hs, rfl⟩
  · refine ⟨nI 1, C, Bn R 1, ?_, ?_, Rel_Bn h 1⟩
    · simp (disch := omega) only [fX5_spare, isPage_t hp, isPage_b hy, mset_s, mset_nk, mset_nj, mrow_s, mrow_n, ifeq_s, nar_0, nar_1, isB_0, isB_1, bnd_e, jn_e, Option.bind_some, gd_true, gd_dec, Bool.true_and, Bool.and_true, Bool.and_self, tn_nI, inb_nI, ifle_t, ifle_f, iflt_t, iflt_f, ifeq_f, if_true, ofN_nI, nI_add, nI_subl, li_0, li_1, li_2, li_3, li_4, li_5, li_6, li_7, li_8, li_9, li_10, li_11, li_12, li_13, li_14, li_15, li_16, li_17, li_18, li_19, li_20, li_21, li_22, li_23, li_24, li_25, li_26, li_27, li_28, li_29, li_30, li_31, li_32, li_60, li_63, li_64, li_80, li_100, li_128, li_160, li_320, li_511, li_512, li_1600, li_1700, li_2000, li_2048, li_32000, li_2147483647]
    · obtain ⟨b, hb, e⟩ := isK_x (hK_Bn k 1) y (show 1 < 10 by omega)
      rcases (show b = 0 ∨ b = 1 by omega) with rfl | rfl
      · simp (disch := omega) only [fX6_spare, begin_m, noPage_t hp, noPage_b hy, wr_1, wF_n k, e, wr_n, Bn_0, mset_s, mset_nk, mset_nj, mrow_s, mrow_n, ifeq_s, nar_0, nar_1, isB_0, isB_1, bnd_e, jn_e, Option.bind_some, gd_true, gd_dec, Bool.true_and, Bool.and_true, Bool.and_self, tn_nI, inb_nI, ifle_t, ifle_f, iflt_t, iflt_f, ifeq_f, if_true, ofN_nI, nI_add, nI_subl, li_0, li_1, li_2, li_3, li_4, li_5, li_6, li_7, li_8, li_9, li_10, li_11, li_12, li_13, li_14, li_15, li_16, li_17, li_18, li_19, li_20, li_21, li_22, li_23, li_24, li_25, li_26, li_27, li_28, li_29, li_30, li_31, li_32, li_60, li_63, li_64, li_80, li_100, li_128, li_160, li_320, li_511, li_512, li_1600, li_1700, li_2000, li_2048, li_32000, li_2147483647]
      · simp (disch := omega) only [fX6_spare, begin_m, noPage_t hp, noPage_b hy, wr_1, wF_n k, e, wr_n, Bn_0, mset_s, mset_nk, mset_nj, mrow_s, mrow_n, ifeq_s, nar_0, nar_1, isB_0, isB_1, bnd_e, jn_e, Option.bind_some, gd_true, gd_dec, Bool.true_and, Bool.and_true, Bool.and_self, tn_nI, inb_nI, ifle_t, ifle_f, iflt_t, iflt_f, ifeq_f, if_true, ofN_nI, nI_add, nI_subl, li_0, li_1, li_2, li_3, li_4, li_5, li_6, li_7, li_8, li_9, li_10, li_11, li_12, li_13, li_14, li_15, li_16, li_17, li_18, li_19, li_20, li_21, li_22, li_23, li_24, li_25, li_26, li_27, li_28, li_29, li_30, li_31, li_32, li_60, li_63, li_64, li_80, li_100, li_128, li_160, li_320, li_511, li_512, li_1600, li_1700, li_2000, li_2048, li_32000, li_2147483647]
  obtain ⟨m3, m4, m5, -⟩ := hM.2 p hp
  obtain ⟨n3, n4, n5, -⟩ := hM.2 s hs
  obtain ⟨c3, c4, c5, -⟩ := hC.2 p hp
  obtain ⟨d3, d4, d5, -⟩ := hC.2 s hs
  have ip := hI.1 p hp
  have is := hI.1 s hs
  by_cases kp : kd p = 0
  · rw [kp] at m3 c3
    by_cases ks : kd s = 1
    · rw [ks] at n3 d3
      have e := isKind_t (M := Bg R) (k' := 1) hs (by rw [Bg_a _ (by omega)]; exact n3) (by omega) (by omega)
      by_cases ss : st s = 2
      · rw [ss] at n5 d5
        refine ⟨nI 4, C, Bn R 4, ?_, ?_, Rel_Bn h 4⟩
        · simp (disch := omega) only [fX5_spare, isPage_t hp, isPage_t hs, rN_s hp c3 (rS_4 (l := 1) hs d3 d5 (by omega) (by omega)), mset_s, mset_nk, mset_nj, mrow_s, mrow_n, ifeq_s, nar_0, nar_1, isB_0, isB_1, bnd_e, jn_e, Option.bind_some, gd_true, gd_dec, Bool.true_and, Bool.and_true, Bool.and_self, tn_nI, inb_nI, ifle_t, ifle_f, iflt_t, iflt_f, ifeq_f, if_true, ofN_nI, nI_add, nI_subl, li_0, li_1, li_2, li_3, li_4, li_5, li_6, li_7, li_8, li_9, li_10, li_11, li_12, li_13, li_14, li_15, li_16, li_17, li_18, li_19, li_20, li_21, li_22, li_23, li_24, li_25, li_26, li_27, li_28, li_29, li_30, li_31, li_32, li_60, li_63, li_64, li_80, li_100, li_128, li_160, li_320, li_511, li_512, li_1600, li_1700, li_2000, li_2048, li_32000, li_2147483647]
        · simp (disch := omega) only [fX6_spare, begin_m, noPage_t hp, noPage_t hs, wrong_0, wF_t hp m3, e, Bg_0, Bg_a, n5, wr_1, Bn_0, mset_s, mset_nk, mset_nj, mrow_s, mrow_n, ifeq_s, nar_0, nar_1, isB_0, isB_1, bnd_e, jn_e, Option.bind_some, gd_true, gd_dec, Bool.true_and, Bool.and_true, Bool.and_self, tn_nI, inb_nI, ifle_t, ifle_f, iflt_t, iflt_f, ifeq_f, if_true, ofN_nI, nI_add, nI_subl, li_0, li_1, li_2, li_3, li_4, li_5, li_6, li_7, li_8, li_9, li_10, li_11, li_12, li_13, li_14, li_15, li_16, li_17, li_18, li_19, li_20, li_21, li_22, li_23, li_24, li_25, li_26, li_27, li_28, li_29, li_30, li_31, li_32, li_60, li_63, li_64, li_80, li_100, li_128, li_160, li_320, li_511, li_512, li_1600, li_1700, li_2000, li_2048, li_32000, li_2147483647]
      · refine ⟨nI 0, mset (mset C (33 + 5 * p) 0 (nI 5)) (33 + 5 * p) 1 (oI s), mset (mset (Bg R) 3 p (nI 5)) 4 p (oI s), ?_, ?_, ?_⟩
        · simp (disch := omega) only [fX5_spare, isPage_t hp, isPage_t hs, rN_s hp c3 (rS_0 (l := 1) hs d3 d5 (by omega) (by omega)), fX4_claim, oI_t hs, isPg_p, isI_p1, isI_p2, isI_p3, isI_p4, lnC_p1, lnC_p2, lnC_p3, lnC_p4, isI_r, lnC_r, isI_k, lnC_134, lnC_136, lnC_137, lnC_138, lnC_139, lnC_140, lnC_141, lnC_142, mset_s, mset_nk, mset_nj, mrow_s, mrow_n, ifeq_s, nar_0, nar_1, isB_0, isB_1, bnd_e, jn_e, Option.bind_some, gd_true, gd_dec, Bool.true_and, Bool.and_true, Bool.and_self, tn_nI, inb_nI, ifle_t, ifle_f, iflt_t, iflt_f, ifeq_f, if_true, ofN_nI, nI_add, nI_subl, li_0, li_1, li_2, li_3, li_4, li_5, li_6, li_7, li_8, li_9, li_10, li_11, li_12, li_13, li_14, li_15, li_16, li_17, li_18, li_19, li_20, li_21, li_22, li_23, li_24, li_25, li_26, li_27, li_28, li_29, li_30, li_31, li_32, li_60, li_63, li_64, li_80, li_100, li_128, li_160, li_320, li_511, li_512, li_1600, li_1700, li_2000, li_2048, li_32000, li_2147483647]
        · simp (disch := omega) only [fX6_spare, begin_m, noPage_t hp, noPage_t hs, wrong_0, wF_t hp m3, e, Bg_0, Bg_a, n5, fX6_become, oI_t hs, mset_s, mset_nk, mset_nj, mrow_s, mrow_n, ifeq_s, nar_0, nar_1, isB_0, isB_1, bnd_e, jn_e, Option.bind_some, gd_true, gd_dec, Bool.true_and, Bool.and_true, Bool.and_self, tn_nI, inb_nI, ifle_t, ifle_f, iflt_t, iflt_f, ifeq_f, if_true, ofN_nI, nI_add, nI_subl, li_0, li_1, li_2, li_3, li_4, li_5, li_6, li_7, li_8, li_9, li_10, li_11, li_12, li_13, li_14, li_15, li_16, li_17, li_18, li_19, li_20, li_21, li_22, li_23, li_24, li_25, li_26, li_27, li_28, li_29, li_30, li_31, li_32, li_60, li_63, li_64, li_80, li_100, li_128, li_160, li_320, li_511, li_512, li_1600, li_1700, li_2000, li_2048, li_32000, li_2147483647]
        · have q := RQ_cl (RQ_Bg ⟨hM, hC⟩ hI) (IV85 hI) (k := 5) (o := s) hp (by omega)
          exact ⟨_, _, _, _, _, _, _, _, _, q.1, q.2, IV_kd hI hs (by omega) (by omega) ks (fun e => absurd e (by omega))⟩
    · refine ⟨nI 3, C, Bn R 3, ?_, ?_, Rel_Bn h 3⟩
      · simp (disch := omega) only [fX5_spare, isPage_t hp, isPage_t hs, rN_s hp c3 (rS_3 hs d3 (by omega) ks), mset_s, mset_nk, mset_nj, mrow_s, mrow_n, ifeq_s, nar_0, nar_1, isB_0, isB_1, bnd_e, jn_e, Option.bind_some, gd_true, gd_dec, Bool.true_and, Bool.and_true, Bool.and_self, tn_nI, inb_nI, ifle_t, ifle_f, iflt_t, iflt_f, ifeq_f, if_true, ofN_nI, nI_add, nI_subl, li_0, li_1, li_2, li_3, li_4, li_5, li_6, li_7, li_8, li_9, li_10, li_11, li_12, li_13, li_14, li_15, li_16, li_17, li_18, li_19, li_20, li_21, li_22, li_23, li_24, li_25, li_26, li_27, li_28, li_29, li_30, li_31, li_32, li_60, li_63, li_64, li_80, li_100, li_128, li_160, li_320, li_511, li_512, li_1600, li_1700, li_2000, li_2048, li_32000, li_2147483647]
      · have e := isKind_t (M := Bg R) (k' := 1) hs (by rw [Bg_a _ (by omega)]; exact n3) (by omega) (by omega)
        rw [if_neg ks] at e
        simp (disch := omega) only [fX6_spare, begin_m, noPage_t hp, noPage_t hs, wrong_0, wF_t hp m3, e, wr_1, wr_n, Bn_0, mset_s, mset_nk, mset_nj, mrow_s, mrow_n, ifeq_s, nar_0, nar_1, isB_0, isB_1, bnd_e, jn_e, Option.bind_some, gd_true, gd_dec, Bool.true_and, Bool.and_true, Bool.and_self, tn_nI, inb_nI, ifle_t, ifle_f, iflt_t, iflt_f, ifeq_f, if_true, ofN_nI, nI_add, nI_subl, li_0, li_1, li_2, li_3, li_4, li_5, li_6, li_7, li_8, li_9, li_10, li_11, li_12, li_13, li_14, li_15, li_16, li_17, li_18, li_19, li_20, li_21, li_22, li_23, li_24, li_25, li_26, li_27, li_28, li_29, li_30, li_31, li_32, li_60, li_63, li_64, li_80, li_100, li_128, li_160, li_320, li_511, li_512, li_1600, li_1700, li_2000, li_2048, li_32000, li_2147483647]
  · refine ⟨nI 2, C, Bn R 2, ?_, ?_, Rel_Bn h 2⟩
    · simp (disch := omega) only [fX5_spare, isPage_t hp, isPage_t hs, rN_2 hp c3 (show kd p < 10 by omega) kp, mset_s, mset_nk, mset_nj, mrow_s, mrow_n, ifeq_s, nar_0, nar_1, isB_0, isB_1, bnd_e, jn_e, Option.bind_some, gd_true, gd_dec, Bool.true_and, Bool.and_true, Bool.and_self, tn_nI, inb_nI, ifle_t, ifle_f, iflt_t, iflt_f, ifeq_f, if_true, ofN_nI, nI_add, nI_subl, li_0, li_1, li_2, li_3, li_4, li_5, li_6, li_7, li_8, li_9, li_10, li_11, li_12, li_13, li_14, li_15, li_16, li_17, li_18, li_19, li_20, li_21, li_22, li_23, li_24, li_25, li_26, li_27, li_28, li_29, li_30, li_31, li_32, li_60, li_63, li_64, li_80, li_100, li_128, li_160, li_320, li_511, li_512, li_1600, li_1700, li_2000, li_2048, li_32000, li_2147483647]
    · obtain ⟨b, hb, e⟩ := isK_x (hK_Bn k 2) (nI s) (show 1 < 10 by omega)
      rcases (show b = 0 ∨ b = 1 by omega) with rfl | rfl
      · simp (disch := omega) only [fX6_spare, begin_m, noPage_t hp, noPage_t hs, wrong_0, wF_2 hp m3 (show kd p < 10 by omega) kp, e, wr_n, Bn_0, mset_s, mset_nk, mset_nj, mrow_s, mrow_n, ifeq_s, nar_0, nar_1, isB_0, isB_1, bnd_e, jn_e, Option.bind_some, gd_true, gd_dec, Bool.true_and, Bool.and_true, Bool.and_self, tn_nI, inb_nI, ifle_t, ifle_f, iflt_t, iflt_f, ifeq_f, if_true, ofN_nI, nI_add, nI_subl, li_0, li_1, li_2, li_3, li_4, li_5, li_6, li_7, li_8, li_9, li_10, li_11, li_12, li_13, li_14, li_15, li_16, li_17, li_18, li_19, li_20, li_21, li_22, li_23, li_24, li_25, li_26, li_27, li_28, li_29, li_30, li_31, li_32, li_60, li_63, li_64, li_80, li_100, li_128, li_160, li_320, li_511, li_512, li_1600, li_1700, li_2000, li_2048, li_32000, li_2147483647]
      · simp (disch := omega) only [fX6_spare, begin_m, noPage_t hp, noPage_t hs, wrong_0, wF_2 hp m3 (show kd p < 10 by omega) kp, e, wr_n, Bn_0, mset_s, mset_nk, mset_nj, mrow_s, mrow_n, ifeq_s, nar_0, nar_1, isB_0, isB_1, bnd_e, jn_e, Option.bind_some, gd_true, gd_dec, Bool.true_and, Bool.and_true, Bool.and_self, tn_nI, inb_nI, ifle_t, ifle_f, iflt_t, iflt_f, ifeq_f, if_true, ofN_nI, nI_add, nI_subl, li_0, li_1, li_2, li_3, li_4, li_5, li_6, li_7, li_8, li_9, li_10, li_11, li_12, li_13, li_14, li_15, li_16, li_17, li_18, li_19, li_20, li_21, li_22, li_23, li_24, li_25, li_26, li_27, li_28, li_29, li_30, li_31, li_32, li_60, li_63, li_64, li_80, li_100, li_128, li_160, li_320, li_511, li_512, li_1600, li_1700, li_2000, li_2048, li_32000, li_2147483647]
