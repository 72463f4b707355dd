/-! Tables and entries. -/
theorem ce_or {a r : Nat} (ha : a < 28) (hr : r < 8) : (nI a <<< (nI 3 &&& nI 31)) ||| nI r = nI (8 * a + r) := by
  have k : ∀ a : Fin 28, ∀ r : Fin 8, (nI a.val <<< (nI 3 &&& nI 31)) ||| nI r.val = nI (8 * a.val + r.val) := by decide
  exact k ⟨a, ha⟩ ⟨r, hr⟩
theorem ce_and {a r k : Nat} (ha : a < 28) (hr : r < 8) (hk : k < 8) : nI (8 * a + r) &&& nI k = nI (r &&& k) := by
  have q : ∀ k : Fin 8, ∀ r : Fin 8, ∀ a : Fin 28, nI (8 * a.val + r.val) &&& nI k.val = nI (r.val &&& k.val) := by decide
  exact q ⟨k, hk⟩ ⟨r, hr⟩ ⟨a, ha⟩
theorem ce_shr {a r : Nat} (ha : a < 28) (hr : r < 8) : nI (8 * a + r) >>> (nI 3 &&& nI 31) = nI a := by
  have q : ∀ r : Fin 8, ∀ a : Fin 28, nI (8 * a.val + r.val) >>> (nI 3 &&& nI 31) = nI a.val := by decide
  exact q ⟨r, hr⟩ ⟨a, ha⟩
theorem rt_and {r k : Nat} (hr : r < 8) (hk : k < 8) : nI r &&& nI k = nI (r &&& k) := by
  have q : ∀ k : Fin 8, ∀ r : Fin 8, nI r.val &&& nI k.val = nI (r.val &&& k.val) := by decide
  exact q ⟨k, hk⟩ ⟨r, hr⟩
theorem rt_alt {r k : Nat} (hr : r < 8) (hk : k = 1 ∨ k = 2 ∨ k = 4) : r &&& k = 0 ∨ (r &&& k = k ∧ k ≠ 0) := by
  have q1 : ∀ r : Fin 8, r.val &&& 1 = 0 ∨ r.val &&& 1 = 1 := by decide
  have q2 : ∀ r : Fin 8, r.val &&& 2 = 0 ∨ r.val &&& 2 = 2 := by decide
  have q4 : ∀ r : Fin 8, r.val &&& 4 = 0 ∨ r.val &&& 4 = 4 := by decide
  rcases hk with rfl | rfl | rfl
  · rcases q1 ⟨r, hr⟩ with h | h
    · exact Or.inl h
    · exact Or.inr ⟨h, by omega⟩
  · rcases q2 ⟨r, hr⟩ with h | h
    · exact Or.inl h
    · exact Or.inr ⟨h, by omega⟩
  · rcases q4 ⟨r, hr⟩ with h | h
    · exact Or.inl h
    · exact Or.inr ⟨h, by omega⟩
theorem m1_lt0 : -nI 1 < nI 0 := by decide
theorem m1_ne (n : Nat) (h : n < 2 ^ 31) : ¬ nI n = -nI 1 := by
  intro e
  have e2 := congrArg Int32.toInt e
  rw [nI_toInt h] at e2
  have e3 : (-nI 1 : Int32).toInt = -1 := by decide
  omega
theorem m1_nle : ¬ nI 0 ≤ -nI 1 := by decide
theorem oI_t' {t : Nat} (h : t < 20) : oI t = nI t := if_pos h
theorem eI_0 {e : Nat} (h : e ≤ 28) : eI e = nI 0 ↔ e = 0 := by
  have q : ∀ e : Fin 29, eI e.val = nI 0 ↔ e.val = 0 := by decide
  exact q ⟨e, by omega⟩
theorem eI_p {e : Nat} (h : e ≤ 20) : eI e = nI e := if_pos h
theorem eI_fr {f : Nat} (h : f < 8) : eI (21 + f) = -nI f - nI 1 := by
  unfold eI
  rw [if_neg (by omega), Nat.add_sub_cancel_left]
theorem eI_neg {e : Nat} (h : 20 < e) (h2 : e ≤ 28) : eI e ≤ nI 0 ∧ ¬ eI e = nI 0 ∧ -eI e - nI 1 = nI (e - 21) ∧ ¬ nI 0 < eI e := by
  have q : ∀ f : Fin 8, eI (21 + f.val) ≤ nI 0 ∧ ¬ eI (21 + f.val) = nI 0 ∧ -eI (21 + f.val) - nI 1 = nI (21 + f.val - 21) ∧ ¬ nI 0 < eI (21 + f.val) := by decide
  have := q ⟨e - 21, by omega⟩
  rw [show 21 + (e - 21) = e by omega] at this
  exact this
theorem cE_0 (r : Nat) : cE 0 r = nI 0 := if_pos rfl
theorem cE_n {e r : Nat} (h : e ≠ 0) : cE e r = nI (8 * (e - 1) + r) := if_neg h
-- the class
theorem eF_b {C : Mem} {s : Nat} {x : Int32} (h : bad x 32) : fX4_entriesFor C (33 + 5 * s) x = some (none, C) := by
  unfold fX4_entriesFor
  simp (disch := omega) only [isBlock_b h, mset_s, mset_nk, mset_nj, mrow_s, mrow_n, ifeq_s, nar_0, nar_1, isB_0, isB_1, bnd_e, jn_e, Option.bind_some, gd_true, gd_dec, Bool.true_and, Bool.and_true, Bool.and_self, tn_nI, inb_nI, ifle_t, ifle_f, iflt_t, iflt_f, ifeq_f, if_true, ofN_nI, nI_add, nI_subl, li_0, li_1, li_2, li_3, li_4, li_5, li_6, li_7, li_8, li_9, li_10, li_11, li_12, li_13, li_14, li_15, li_16, li_17, li_18, li_19, li_20, li_21, li_22, li_23, li_24, li_25, li_26, li_27, li_28, li_29, li_30, li_31, li_32, li_60, li_63, li_64, li_80, li_100, li_128, li_160, li_320, li_511, li_512, li_1600, li_1700, li_2000, li_2048, li_32000, li_2147483647]
theorem eF_n {C : Mem} {s b : Nat} (hs : s < 20) (hb : b < 32) (h : C (33 + 5 * s + 1) (b / 8) = oI 20) : fX4_entriesFor C (33 + 5 * s) (nI b) = some (none, C) := by
  rw [oI_20n] at h
  unfold fX4_entriesFor
  simp (disch := omega) only [isBlock_t hb, pk_div, h, isPg_p, isI_p1, isI_p2, isI_p3, isI_p4, lnC_p1, lnC_p2, lnC_p3, lnC_p4, isI_r, lnC_r, isI_k, lnC_134, lnC_136, lnC_137, lnC_138, lnC_139, lnC_140, lnC_141, lnC_142, mset_s, mset_nk, mset_nj, mrow_s, mrow_n, ifeq_s, nar_0, nar_1, isB_0, isB_1, bnd_e, jn_e, Option.bind_some, gd_true, gd_dec, Bool.true_and, Bool.and_true, Bool.and_self, tn_nI, inb_nI, ifle_t, ifle_f, iflt_t, iflt_f, ifeq_f, if_true, ofN_nI, nI_add, nI_subl, li_0, li_1, li_2, li_3, li_4, li_5, li_6, li_7, li_8, li_9, li_10, li_11, li_12, li_13, li_14, li_15, li_16, li_17, li_18, li_19, li_20, li_21, li_22, li_23, li_24, li_25, li_26, li_27, li_28, li_29, li_30, li_31, li_32, li_60, li_63, li_64, li_80, li_100, li_128, li_160, li_320, li_511, li_512, li_1600, li_1700, li_2000, li_2048, li_32000, li_2147483647]
theorem eF_t {C : Mem} {s b t : Nat} (hs : s < 20) (hb : b < 32) (ht : t < 20) (h : C (33 + 5 * s + 1) (b / 8) = oI t) : fX4_entriesFor C (33 + 5 * s) (nI b) = some (some (33 + 5 * t + 4), C) := by
  rw [oI_t ht] at h
  have n := m1_ne t (by omega)
  unfold fX4_entriesFor
  simp (disch := omega) only [isBlock_t hb, pk_div, h, n, if_false, isPg_p, isI_p1, isI_p2, isI_p3, isI_p4, lnC_p1, lnC_p2, lnC_p3, lnC_p4, isI_r, lnC_r, isI_k, lnC_134, lnC_136, lnC_137, lnC_138, lnC_139, lnC_140, lnC_141, lnC_142, mset_s, mset_nk, mset_nj, mrow_s, mrow_n, ifeq_s, nar_0, nar_1, isB_0, isB_1, bnd_e, jn_e, Option.bind_some, gd_true, gd_dec, Bool.true_and, Bool.and_true, Bool.and_self, tn_nI, inb_nI, ifle_t, ifle_f, iflt_t, iflt_f, ifeq_f, if_true, ofN_nI, nI_add, nI_subl, li_0, li_1, li_2, li_3, li_4, li_5, li_6, li_7, li_8, li_9, li_10, li_11, li_12, li_13, li_14, li_15, li_16, li_17, li_18, li_19, li_20, li_21, li_22, li_23, li_24, li_25, li_26, li_27, li_28, li_29, li_30, li_31, li_32, li_60, li_63, li_64, li_80, li_100, li_128, li_160, li_320, li_511, li_512, li_1600, li_1700, li_2000, li_2048, li_32000, li_2147483647]
theorem hR_n {C : Mem} {s b : Nat} (hs : s < 20) (hb : b < 32) (h : C (33 + 5 * s + 1) (b / 8) = oI 20) : fX4_hasRoom C (33 + 5 * s) (nI b) = some (nI 0, C) := by
  unfold fX4_hasRoom
  rw [eF_n hs hb h]
  simp (disch := omega) only [oq, mset_s, mset_nk, mset_nj, mrow_s, mrow_n, ifeq_s, nar_0, nar_1, isB_0, isB_1, bnd_e, jn_e, Option.bind_some, gd_true, gd_dec, Bool.true_and, Bool.and_true, Bool.and_self, tn_nI, inb_nI, ifle_t, ifle_f, iflt_t, iflt_f, ifeq_f, if_true, ofN_nI, nI_add, nI_subl, li_0, li_1, li_2, li_3, li_4, li_5, li_6, li_7, li_8, li_9, li_10, li_11, li_12, li_13, li_14, li_15, li_16, li_17, li_18, li_19, li_20, li_21, li_22, li_23, li_24, li_25, li_26, li_27, li_28, li_29, li_30, li_31, li_32, li_60, li_63, li_64, li_80, li_100, li_128, li_160, li_320, li_511, li_512, li_1600, li_1700, li_2000, li_2048, li_32000, li_2147483647]
theorem hR_t {C : Mem} {s b t r : Nat} (hs : s < 20) (hb : b < 32) (ht : t < 20) (h : C (33 + 5 * s + 1) (b / 8) = oI t) (h2 : C (33 + 5 * t + 4) (b % 8) = cE 0 r) : fX4_hasRoom C (33 + 5 * s) (nI b) = some (nI 1, C) := by
  rw [cE_0] at h2
  unfold fX4_hasRoom
  rw [eF_t hs hb ht h]
  simp (disch := omega) only [oq, ↓pk_rem, h2, isPg_p, isI_p1, isI_p2, isI_p3, isI_p4, lnC_p1, lnC_p2, lnC_p3, lnC_p4, isI_r, lnC_r, isI_k, lnC_134, lnC_136, lnC_137, lnC_138, lnC_139, lnC_140, lnC_141, lnC_142, mset_s, mset_nk, mset_nj, mrow_s, mrow_n, ifeq_s, nar_0, nar_1, isB_0, isB_1, bnd_e, jn_e, Option.bind_some, gd_true, gd_dec, Bool.true_and, Bool.and_true, Bool.and_self, tn_nI, inb_nI, ifle_t, ifle_f, iflt_t, iflt_f, ifeq_f, if_true, ofN_nI, nI_add, nI_subl, li_0, li_1, li_2, li_3, li_4, li_5, li_6, li_7, li_8, li_9, li_10, li_11, li_12, li_13, li_14, li_15, li_16, li_17, li_18, li_19, li_20, li_21, li_22, li_23, li_24, li_25, li_26, li_27, li_28, li_29, li_30, li_31, li_32, li_60, li_63, li_64, li_80, li_100, li_128, li_160, li_320, li_511, li_512, li_1600, li_1700, li_2000, li_2048, li_32000, li_2147483647]
theorem hR_f {C : Mem} {s b t e r : Nat} (hs : s < 20) (hb : b < 32) (ht : t < 20) (h : C (33 + 5 * s + 1) (b / 8) = oI t) (he : e ≠ 0) (he2 : e ≤ 28) (hr : 1 ≤ r ∧ r ≤ 7) (h2 : C (33 + 5 * t + 4) (b % 8) = cE e r) : fX4_hasRoom C (33 + 5 * s) (nI b) = some (nI 0, C) := by
  rw [cE_n he] at h2
  unfold fX4_hasRoom
  rw [eF_t hs hb ht h]
  simp (disch := omega) only [oq, ↓pk_rem, h2, isPg_p, isI_p1, isI_p2, isI_p3, isI_p4, lnC_p1, lnC_p2, lnC_p3, lnC_p4, isI_r, lnC_r, isI_k, lnC_134, lnC_136, lnC_137, lnC_138, lnC_139, lnC_140, lnC_141, lnC_142, mset_s, mset_nk, mset_nj, mrow_s, mrow_n, ifeq_s, nar_0, nar_1, isB_0, isB_1, bnd_e, jn_e, Option.bind_some, gd_true, gd_dec, Bool.true_and, Bool.and_true, Bool.and_self, tn_nI, inb_nI, ifle_t, ifle_f, iflt_t, iflt_f, ifeq_f, if_true, ofN_nI, nI_add, nI_subl, li_0, li_1, li_2, li_3, li_4, li_5, li_6, li_7, li_8, li_9, li_10, li_11, li_12, li_13, li_14, li_15, li_16, li_17, li_18, li_19, li_20, li_21, li_22, li_23, li_24, li_25, li_26, li_27, li_28, li_29, li_30, li_31, li_32, li_60, li_63, li_64, li_80, li_100, li_128, li_160, li_320, li_511, li_512, li_1600, li_1700, li_2000, li_2048, li_32000, li_2147483647]
theorem map_t {C : Mem} {s b t r w : Nat} (hs : s < 20) (hb : b < 32) (ht : t < 20) (h : C (33 + 5 * s + 1) (b / 8) = oI t) (hw : w < 28) (hr : r < 8) : fX4_map C (33 + 5 * s) (nI b) (nI w) (nI r) = some (mset C (33 + 5 * t + 4) (b % 8) (cE (w + 1) r)) := by
  rw [cE_n (by omega), Nat.add_sub_cancel]
  unfold fX4_map
  rw [eF_t hs hb ht h]
  simp (disch := omega) only [oq, ↓pk_rem, ce_or, isPg_p, isI_p1, isI_p2, isI_p3, isI_p4, lnC_p1, lnC_p2, lnC_p3, lnC_p4, isI_r, lnC_r, isI_k, lnC_134, lnC_136, lnC_137, lnC_138, lnC_139, lnC_140, lnC_141, lnC_142, mset_s, mset_nk, mset_nj, mrow_s, mrow_n, ifeq_s, nar_0, nar_1, isB_0, isB_1, bnd_e, jn_e, Option.bind_some, gd_true, gd_dec, Bool.true_and, Bool.and_true, Bool.and_self, tn_nI, inb_nI, ifle_t, ifle_f, iflt_t, iflt_f, ifeq_f, if_true, ofN_nI, nI_add, nI_subl, li_0, li_1, li_2, li_3, li_4, li_5, li_6, li_7, li_8, li_9, li_10, li_11, li_12, li_13, li_14, li_15, li_16, li_17, li_18, li_19, li_20, li_21, li_22, li_23, li_24, li_25, li_26, li_27, li_28, li_29, li_30, li_31, li_32, li_60, li_63, li_64, li_80, li_100, li_128, li_160, li_320, li_511, li_512, li_1600, li_1700, li_2000, li_2048, li_32000, li_2147483647]
-- the reference
theorem tO_e {M : Mem} {s b : Nat} (hs : s < 20) (hb : b < 32) : fX6_tableOf M (nI s) (nI b) = some (M 9 (4 * s + b / 8), M) := by
  unfold fX6_tableOf
  simp (disch := omega) only [pk_div, pk_mul, mset_s, mset_nk, mset_nj, mrow_s, mrow_n, ifeq_s, nar_0, nar_1, isB_0, isB_1, bnd_e, jn_e, Option.bind_some, gd_true, gd_dec, Bool.true_and, Bool.and_true, Bool.and_self, tn_nI, inb_nI, ifle_t, ifle_f, iflt_t, iflt_f, ifeq_f, if_true, ofN_nI, nI_add, nI_subl, li_0, li_1, li_2, li_3, li_4, li_5, li_6, li_7, li_8, li_9, li_10, li_11, li_12, li_13, li_14, li_15, li_16, li_17, li_18, li_19, li_20, li_21, li_22, li_23, li_24, li_25, li_26, li_27, li_28, li_29, li_30, li_31, li_32, li_60, li_63, li_64, li_80, li_100, li_128, li_160, li_320, li_511, li_512, li_1600, li_1700, li_2000, li_2048, li_32000, li_2147483647]
theorem eO_e {M : Mem} {s b t : Nat} (hs : s < 20) (hb : b < 32) (ht : t < 20) (h : M 9 (4 * s + b / 8) = oI t) : fX6_entryOf M (nI s) (nI b) = some (nI (8 * t + b % 8), M) := by
  rw [oI_t ht] at h
  unfold fX6_entryOf
  rw [tO_e hs hb, h]
  simp (disch := omega) only [↓pk_rem, pk_mul, mset_s, mset_nk, mset_nj, mrow_s, mrow_n, ifeq_s, nar_0, nar_1, isB_0, isB_1, bnd_e, jn_e, Option.bind_some, gd_true, gd_dec, Bool.true_and, Bool.and_true, Bool.and_self, tn_nI, inb_nI, ifle_t, ifle_f, iflt_t, iflt_f, ifeq_f, if_true, ofN_nI, nI_add, nI_subl, li_0, li_1, li_2, li_3, li_4, li_5, li_6, li_7, li_8, li_9, li_10, li_11, li_12, li_13, li_14, li_15, li_16, li_17, li_18, li_19, li_20, li_21, li_22, li_23, li_24, li_25, li_26, li_27, li_28, li_29, li_30, li_31, li_32, li_60, li_63, li_64, li_80, li_100, li_128, li_160, li_320, li_511, li_512, li_1600, li_1700, li_2000, li_2048, li_32000, li_2147483647]
theorem iT_n {M : Mem} {s b : Nat} (hs : s < 20) (hb : b < 32) (h : M 9 (4 * s + b / 8) = oI 20) : fX6_isTaken M (nI s) (nI b) = some (nI 1, M) := by
  rw [oI_20n] at h
  unfold fX6_isTaken
  rw [tO_e hs hb, h]
  simp (disch := omega) only [m1_lt0, mset_s, mset_nk, mset_nj, mrow_s, mrow_n, ifeq_s, nar_0, nar_1, isB_0, isB_1, bnd_e, jn_e, Option.bind_some, gd_true, gd_dec, Bool.true_and, Bool.and_true, Bool.and_self, tn_nI, inb_nI, ifle_t, ifle_f, iflt_t, iflt_f, ifeq_f, if_true, ofN_nI, nI_add, nI_subl, li_0, li_1, li_2, li_3, li_4, li_5, li_6, li_7, li_8, li_9, li_10, li_11, li_12, li_13, li_14, li_15, li_16, li_17, li_18, li_19, li_20, li_21, li_22, li_23, li_24, li_25, li_26, li_27, li_28, li_29, li_30, li_31, li_32, li_60, li_63, li_64, li_80, li_100, li_128, li_160, li_320, li_511, li_512, li_1600, li_1700, li_2000, li_2048, li_32000, li_2147483647]
theorem iT_t {M : Mem} {s b t e : Nat} (hs : s < 20) (hb : b < 32) (ht : t < 20) (h : M 9 (4 * s + b / 8) = oI t) (he : e ≤ 28) (h2 : M 7 (8 * t + b % 8) = eI e) : fX6_isTaken M (nI s) (nI b) = some (nI (if e = 0 then 0 else 1), M) := by
  have q := eO_e hs hb ht h
  rw [oI_t ht] at h
  unfold fX6_isTaken
  rw [tO_e hs hb, h]
  by_cases c : e = 0
  · subst c
    rw [(eI_0 (by omega)).mpr rfl] at h2
    simp (disch := omega) only [q, h2, mset_s, mset_nk, mset_nj, mrow_s, mrow_n, ifeq_s, nar_0, nar_1, isB_0, isB_1, bnd_e, jn_e, Option.bind_some, gd_true, gd_dec, Bool.true_and, Bool.and_true, Bool.and_self, tn_nI, inb_nI, ifle_t, ifle_f, iflt_t, iflt_f, ifeq_f, if_true, ofN_nI, nI_add, nI_subl, li_0, li_1, li_2, li_3, li_4, li_5, li_6, li_7, li_8, li_9, li_10, li_11, li_12, li_13, li_14, li_15, li_16, li_17, li_18, li_19, li_20, li_21, li_22, li_23, li_24, li_25, li_26, li_27, li_28, li_29, li_30, li_31, li_32, li_60, li_63, li_64, li_80, li_100, li_128, li_160, li_320, li_511, li_512, li_1600, li_1700, li_2000, li_2048, li_32000, li_2147483647]
  · have n : ¬ eI e = nI 0 := fun k => c ((eI_0 he).mp k)
    simp (disch := omega) only [q, h2, n, c, if_false, mset_s, mset_nk, mset_nj, mrow_s, mrow_n, ifeq_s, nar_0, nar_1, isB_0, isB_1, bnd_e, jn_e, Option.bind_some, gd_true, gd_dec, Bool.true_and, Bool.and_true, Bool.and_self, tn_nI, inb_nI, ifle_t, ifle_f, iflt_t, iflt_f, ifeq_f, if_true, ofN_nI, nI_add, nI_subl, li_0, li_1, li_2, li_3, li_4, li_5, li_6, li_7, li_8, li_9, li_10, li_11, li_12, li_13, li_14, li_15, li_16, li_17, li_18, li_19, li_20, li_21, li_22, li_23, li_24, li_25, li_26, li_27, li_28, li_29, li_30, li_31, li_32, li_60, li_63, li_64, li_80, li_100, li_128, li_160, li_320, li_511, li_512, li_1600, li_1700, li_2000, li_2048, li_32000, li_2147483647]
theorem areDR_t {M : Mem} {r : Nat} (h : 1 ≤ r) (h2 : r ≤ 7) : fX5_areDataRights M (nI r) = some (nI 1, M) := by
  unfold fX5_areDataRights
  simp (disch := omega) only [mset_s, mset_nk, mset_nj, mrow_s, mrow_n, ifeq_s, nar_0, nar_1, isB_0, isB_1, bnd_e, jn_e, Option.bind_some, gd_true, gd_dec, Bool.true_and, Bool.and_true, Bool.and_self, tn_nI, inb_nI, ifle_t, ifle_f, iflt_t, iflt_f, ifeq_f, if_true, ofN_nI, nI_add, nI_subl, li_0, li_1, li_2, li_3, li_4, li_5, li_6, li_7, li_8, li_9, li_10, li_11, li_12, li_13, li_14, li_15, li_16, li_17, li_18, li_19, li_20, li_21, li_22, li_23, li_24, li_25, li_26, li_27, li_28, li_29, li_30, li_31, li_32, li_60, li_63, li_64, li_80, li_100, li_128, li_160, li_320, li_511, li_512, li_1600, li_1700, li_2000, li_2048, li_32000, li_2147483647]
