/-! Measures and vouchers: chains of block steps. -/
theorem isPg_p {s : Nat} (h : s < 20) : isPg (33 + 5 * s) = true := decide_eq_true (by omega)
theorem isI_p1 {s : Nat} (h : s < 20) : isI (33 + 5 * s + 1) = true := decide_eq_true (by omega)
theorem isI_p2 {s : Nat} (h : s < 20) : isI (33 + 5 * s + 2) = true := decide_eq_true (by omega)
theorem isI_p3 {s : Nat} (h : s < 20) : isI (33 + 5 * s + 3) = true := decide_eq_true (by omega)
theorem isI_p4 {s : Nat} (h : s < 20) : isI (33 + 5 * s + 4) = true := decide_eq_true (by omega)
theorem isI_r {r : Nat} (h : r < 28) : isI (5 + r) = true := decide_eq_true (by omega)
theorem isI_k {k : Nat} (h : k = 134 ∨ (136 ≤ k ∧ k < 143)) : isI k = true := decide_eq_true (by omega)
theorem lnC_p1 {s : Nat} (h : s < 20) : lnC (33 + 5 * s + 1) = 4 := by
  unfold lnC
  rw [if_neg (by omega), if_pos (by omega), if_pos (by omega)]
theorem lnC_p2 {s : Nat} (h : s < 20) : lnC (33 + 5 * s + 2) = 8 := by
  unfold lnC
  rw [if_neg (by omega), if_pos (by omega), if_neg (by omega)]
theorem lnC_p3 {s : Nat} (h : s < 20) : lnC (33 + 5 * s + 3) = 4 := by
  unfold lnC
  rw [if_neg (by omega), if_pos (by omega), if_pos (by omega)]
theorem lnC_p4 {s : Nat} (h : s < 20) : lnC (33 + 5 * s + 4) = 8 := by
  unfold lnC
  rw [if_neg (by omega), if_pos (by omega), if_neg (by omega)]
theorem lnC_r {r : Nat} (h : r < 28) : lnC (5 + r) = 16 := by
  unfold lnC
  rw [if_pos (by omega)]
theorem lnC_134 : lnC 134 = 8 := by decide
theorem lnC_136 : lnC 136 = 64 := by decide
theorem lnC_137 : lnC 137 = 16 := by decide
theorem lnC_138 : lnC 138 = 16 := by decide
theorem lnC_139 : lnC 139 = 8 := by decide
theorem lnC_140 : lnC 140 = 8 := by decide
theorem lnC_141 : lnC 141 = 8 := by decide
theorem lnC_142 : lnC 142 = 8 := by decide
def chn (msg : Nat → Int32) : Nat → Nat → Int32
  | 0 => tbSTART
  | m + 1 => cmp (chn msg m) (fun k => msg (16 * m + k))
def padf (m : Nat) : Nat → Int32 := fun j => if j = 0 then (-2147483648 : Int32) else if j = 15 then nI (512 * m) else 0
def hsh (msg : Nat → Int32) (m : Nat) : Nat → Int32 := cmp (chn msg m) (padf m)
theorem chn_congr {f g : Nat → Int32} : ∀ m, (∀ j, j < 16 * m → f j = g j) → ∀ j, j < 8 → chn f m j = chn g m j
  | 0, _, _, _ => rfl
  | m + 1, h, j, hj => cmp_congr (chn_congr m (fun i hi => h i (by omega))) (fun i hi => h _ (by omega)) j hj
theorem hsh_congr {f g : Nat → Int32} {m : Nat} (h : ∀ j, j < 16 * m → f j = g j) : ∀ j, j < 8 → hsh f m j = hsh g m j :=
  cmp_congr (chn_congr m h) (fun _ _ => rfl)
def blk (a b c : Int32) : Nat → Int32 := fun j => if j = 0 then a else if j = 1 then b else if j = 2 then c else 0
theorem fill_l {M : Mem} {k n : Nat} {v : Int32} (hk : isI k = true) (hn : lnC k = n) : fJ7_fill_53178 M k v = some (mrow M k (fun j => if j < n then v else M k j)) := by
  subst hn
  exact fill_e hk
-- the class: a block is told
theorem tellW_e {C : Mem} {s w : Nat} (hs : s < 20) (hw : isI w = true) (hwl : 16 ≤ lnC w) (h1 : w ≠ 136) : ∃ C', fX2_tellWords C (33 + 5 * s) w = some C' ∧ (∀ j, j < 8 → C' (33 + 5 * s + 2) j = cmp (C (33 + 5 * s + 2)) (C w) j) ∧ C' (33 + 5 * s) 4 = C (33 + 5 * s) 4 + 1 ∧ (∀ j, j ≠ 4 → C' (33 + 5 * s) j = C (33 + 5 * s) j) ∧ ∀ a, a ≠ 33 + 5 * s → a ≠ 33 + 5 * s + 2 → a ≠ 136 → C' a = C a := by
  obtain ⟨q, hq, q1, q2, q3⟩ := take_e (M := C) (d := 33 + 5 * s + 2) (w := w) (isI_p2 hs) (by rw [lnC_p2 hs]; omega) hw hwl (by omega) h1
  unfold fX2_tellWords
  simp (disch := omega) only [hq, isPg_p, isI_p1, isI_p2, isI_p3, isI_p4, lnC_p1, lnC_p2, lnC_p3, lnC_p4, isI_r, lnC_r, isI_k, lnC_134, lnC_136, lnC_137, lnC_138, lnC_139, lnC_140, lnC_141, lnC_142, bnd_e, jn_e, Option.bind_some, gd_true, gd_dec, Bool.true_and, Bool.and_true, Bool.and_self, tn_nI, inb_nI, ifle_t, ifle_f, iflt_t, iflt_f, ifeq_f, if_true, ofN_nI, nI_add, nI_subl, li_0, li_1, li_2, li_3, li_4, li_5, li_6, li_7, li_8, li_9, li_10, li_11, li_12, li_13, li_14, li_15, li_16, li_17, li_18, li_19, li_20, li_21, li_22, li_23, li_24, li_25, li_26, li_27, li_28, li_29, li_30, li_31, li_32, li_60, li_63, li_64, li_80, li_100, li_128, li_160, li_320, li_511, li_512, li_1600, li_1700, li_2000, li_2048, li_32000, li_2147483647]
  refine ⟨_, rfl, ?_, ?_, ?_, ?_⟩
  · intro j hj
    rw [mset_nk _ _ _ (by omega), q1 j hj]
  · rw [mset_s, q3 _ (by omega) (by omega)]
  · intro j hj
    rw [mset_nj _ _ _ hj, q3 _ (by omega) (by omega)]
  · intro a h2 h3 h4
    rw [mset_nk _ _ _ h2, q3 a h3 h4]
theorem tell_e {C : Mem} {s : Nat} (hs : s < 20) (x y z : Int32) : ∃ C', fX2_tell C (33 + 5 * s) x y z = some C' ∧ (∀ j, j < 8 → C' (33 + 5 * s + 2) j = cmp (C (33 + 5 * s + 2)) (blk x y z) j) ∧ C' (33 + 5 * s) 4 = C (33 + 5 * s) 4 + 1 ∧ (∀ j, j ≠ 4 → C' (33 + 5 * s) j = C (33 + 5 * s) j) ∧ ∀ a, a ≠ 33 + 5 * s → a ≠ 33 + 5 * s + 2 → a ≠ 136 → a ≠ 138 → C' a = C a := by
  obtain ⟨q, hq⟩ : ∃ q, q = mset (mset (mset (mrow C 138 (fun j => if j < 16 then 0 else C 138 j)) 138 0 x) 138 1 y) 138 2 z := ⟨_, rfl⟩
  have hf : fX2_tell C (33 + 5 * s) x y z = fX2_tellWords q (33 + 5 * s) 138 := by
    unfold fX2_tell
    rw [fill_l (n := 16) (isI_k (by omega)) lnC_138, hq]
    simp (disch := omega) only [bnd_e, jn_e, Option.bind_some, gd_true, gd_dec, Bool.true_and, Bool.and_true, Bool.and_self, tn_nI, inb_nI, ifle_t, ifle_f, iflt_t, iflt_f, ifeq_f, if_true, ofN_nI, nI_add, nI_subl, li_0, li_1, li_2, li_3, li_4, li_5, li_6, li_7, li_8, li_9, li_10, li_11, li_12, li_13, li_14, li_15, li_16, li_17, li_18, li_19, li_20, li_21, li_22, li_23, li_24, li_25, li_26, li_27, li_28, li_29, li_30, li_31, li_32, li_60, li_63, li_64, li_80, li_100, li_128, li_160, li_320, li_511, li_512, li_1600, li_1700, li_2000, li_2048, li_32000, li_2147483647]
    cases fX2_tellWords _ (33 + 5 * s) 138 <;> rfl
  rw [hf]
  have qn : ∀ a, a ≠ 138 → q a = C a := fun a h => by rw [hq, mset_nk _ _ _ h, mset_nk _ _ _ h, mset_nk _ _ _ h, mrow_n _ _ h]
  have qb : ∀ j, j < 16 → q 138 j = blk x y z j := fun j hj => by
    rw [hq]
    simp only [mset_get, mrow_get, blk]
    by_cases h2 : j = 2
    · simp [h2]
    · by_cases h1 : j = 1
      · simp [h1]
      · by_cases h0 : j = 0
        · simp [h0]
        · simp [h0, h1, h2, hj]
  obtain ⟨C', e, e1, e2, e3, e4⟩ := tellW_e (C := q) (w := 138) hs (isI_k (by omega)) (by rw [lnC_138]; omega) (by omega)
  rw [e]
  refine ⟨C', rfl, ?_, ?_, ?_, ?_⟩
  · intro j hj
    rw [e1 j hj]
    exact cmp_congr (fun i hi => by rw [qn _ (by omega)]) qb j hj
  · rw [e2, qn _ (by omega)]
  · intro j hj
    rw [e3 j hj, qn _ (by omega)]
  · intro a h1 h2 h3 h4
    rw [e4 a h1 h2 h3, qn a h4]
/-- the padding row: only its first and last words ever change -/
def padOk (C : Mem) : Prop := ∀ j, 1 ≤ j → j < 15 → C 137 j = 0
theorem end_e {C : Mem} (m : Nat) (hp : padOk C) : ∃ C', fX0_endAfter C (nI m) = some (137, C') ∧ (∀ j, j < 16 → C' 137 j = padf m j) ∧ padOk C' ∧ ∀ a, a ≠ 137 → C' a = C a := by
  unfold fX0_endAfter
  simp (disch := omega) only [bnd_e, jn_e, Option.bind_some, gd_true, gd_dec, Bool.true_and, Bool.and_true, Bool.and_self, tn_nI, inb_nI, ifle_t, ifle_f, iflt_t, iflt_f, ifeq_f, if_true, ofN_nI, nI_add, nI_subl, li_0, li_1, li_2, li_3, li_4, li_5, li_6, li_7, li_8, li_9, li_10, li_11, li_12, li_13, li_14, li_15, li_16, li_17, li_18, li_19, li_20, li_21, li_22, li_23, li_24, li_25, li_26, li_27, li_28, li_29, li_30, li_31, li_32, li_60, li_63, li_64, li_80, li_100, li_128, li_160, li_320, li_511, li_512, li_1600, li_1700, li_2000, li_2048, li_32000, li_2147483647]
  refine ⟨_, rfl, ?_, ?_, ?_⟩
  · intro j hj
    simp only [mset_get, padf]
    by_cases h0 : j = 0
    · simp [h0]
    · by_cases h15 : j = 15
      · simp [h15]
        rw [pk_mul, Nat.mul_comm]
      · simp [h0, h15]
        exact hp j (by omega) (by omega)
  · intro j h1 h2
    simp only [mset_get]
    simp [show j ≠ 0 by omega, show j ≠ 15 by omega]
    exact hp j h1 h2
  · intro a h
    rw [mset_nk _ _ _ h, mset_nk _ _ _ h]
theorem seal_e {C : Mem} {s m : Nat} (hs : s < 20) (hm : C (33 + 5 * s) 4 = nI m) (hp : padOk C) : ∃ C', fX2_seal C (33 + 5 * s) = some C' ∧ (∀ j, j < 8 → C' (33 + 5 * s + 2) j = cmp (cmp (C (33 + 5 * s + 2)) (blk 4 0 0)) (padf (m + 1)) j) ∧ C' (33 + 5 * s) 3 = 1 ∧ (∀ j, j ≠ 3 → j ≠ 4 → C' (33 + 5 * s) j = C (33 + 5 * s) j) ∧ padOk C' ∧ ∀ a, a ≠ 33 + 5 * s → a ≠ 33 + 5 * s + 2 → a ≠ 136 → a ≠ 137 → a ≠ 138 → C' a = C a := by
  obtain ⟨q, e, e1, e2, e3, e4⟩ := tell_e (C := C) hs 4 0 0
  have hq4 : q (33 + 5 * s) 4 = nI (m + 1) := by rw [e2, hm]; exact nI_1 m
  have hpq : padOk q := fun j h1 h2 => by rw [e4 137 (by omega) (by omega) (by omega) (by omega)]; exact hp j h1 h2
  obtain ⟨q2, f, f1, f2, f3⟩ := end_e (C := q) (m + 1) hpq
  obtain ⟨q3, g, g1, g2, g3⟩ := take_e (M := q2) (d := 33 + 5 * s + 2) (w := 137) (isI_p2 hs) (by rw [lnC_p2 hs]; omega) (isI_k (by omega)) (by rw [lnC_137]; omega) (by omega) (by omega)
  unfold fX2_seal
  rw [e]
  simp (disch := omega) only [hq4, f, g, isPg_p, isI_p1, isI_p2, isI_p3, isI_p4, lnC_p1, lnC_p2, lnC_p3, lnC_p4, isI_r, lnC_r, isI_k, lnC_134, lnC_136, lnC_137, lnC_138, lnC_139, lnC_140, lnC_141, lnC_142, bnd_e, gd_true, Option.bind_some]
  refine ⟨_, rfl, ?_, ?_, ?_, ?_, ?_⟩
  · intro j hj
    rw [mset_nk _ _ _ (by omega), g1 j hj]
    exact cmp_congr (fun i hi => by rw [f3 _ (by omega), e1 i hi]) f1 j hj
  · rw [mset_s]
  · intro j h3 h4
    rw [mset_nj _ _ _ h3, g3 _ (by omega) (by omega), f3 _ (by omega), e3 j h4]
  · intro j h1 h2
    rw [mset_nk _ _ _ (by omega), g3 137 (by omega) (by omega)]
    exact f2 j h1 h2
  · intro a h1 h2 h3 h4 h5
    rw [mset_nk _ _ _ h1, g3 a h2 h3, f3 a h4, e4 a h1 h2 h3 h5]
