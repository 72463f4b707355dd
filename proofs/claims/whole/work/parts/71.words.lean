/-! Words in the running thread's reach. -/
def mrd (R : Mem) (n : Nat) : Int32 := if 320 ≤ n then R 2 (n - 320) else R 6 n
def mwr (R : Mem) (n : Nat) (v : Int32) : Mem := if 320 ≤ n then mset R 2 (n - 320) v else mset R 6 n v
theorem rd_eq {C R : Mem} {th : Nat} {kd ow st md et lg : Nat → Nat} {tb en rt : Nat → Nat → Nat} (h : RW C R th kd ow st md et lg tb en rt) {w a : Nat} (hw : w < 28) (ha : a < 16) : C (5 + w) a = mrd R (16 * w + a) := by
  unfold mrd
  rcases Nat.lt_or_ge w 20 with c | c
  · rw [if_neg (by omega)]
    exact (h.2.2 w c).2.2.2.2.2.1 a ha
  · rw [if_pos (by omega)]
    have := h.2.1.2.2 (w - 20) (by omega) a ha
    rw [show 5 + (20 + (w - 20)) = 5 + w by omega] at this
    rw [this]
    exact congrArg (R 2) (by omega)
theorem mrd_congr {R R' : Mem} (h2 : R' 2 = R 2) (h6 : R' 6 = R 6) (n : Nat) : mrd R' n = mrd R n := by
  unfold mrd
  rw [h2, h6]
theorem RW_st {C R : Mem} {th : Nat} {kd ow st md et lg : Nat → Nat} {tb en rt : Nat → Nat → Nat} (h : RW C R th kd ow st md et lg tb en rt) (hl : ∀ q, q < 20 → lg q ≤ 85) {w a : Nat} (hw : w < 28) (ha : a < 16) (v : Int32) : RW (mset C (5 + w) a v) (mwr R (16 * w + a) v) th kd ow st md et lg tb en rt := by
  unfold mwr
  rcases Nat.lt_or_ge w 20 with c | c
  · rw [if_neg (by omega)]
    refine RW_wd h hl c (fun j hj => ?_) (fun b hb => mset_nk _ _ _ hb) (fun j hj => mset_nj _ _ _ (by omega)) (fun b hb => mset_nk _ _ _ hb)
    by_cases e : j = a
    · subst e; rw [mset_s, mset_s]
    · rw [mset_nj _ _ _ e, mset_nj _ _ _ (by omega)]
      exact (h.2.2 w c).2.2.2.2.2.1 j hj
  · rw [if_pos (by omega)]
    obtain ⟨hm, ⟨r1, r4, r5⟩, hc⟩ := h
    refine ⟨⟨⟨fun t ht => ?_, fun j hj => ?_⟩, fun q hq => ?_⟩, ⟨fun j a b => ?_, fun j hj => ?_, fun f hf j hj => ?_⟩, fun q hq => ?_⟩
    · rw [mset_nk _ _ _ (by omega)]; exact hm.1.1 t ht
    · rw [mset_nk _ _ _ (by omega)]; exact hm.1.2 j hj
    · refine pgM_unt (hm.2 q hq) (untA_rf q) ?_
      unfold untR
      simp (disch := omega) only [mset_s, mset_nk, mset_nj, mrow_s, mrow_n, ifeq_s, nar_0, nar_1, isB_0, isB_1]
      simp
    · rw [mset_nk _ _ _ (by omega)]; exact r1 j a b
    · rw [mset_nk _ _ _ (by omega), mset_nk _ _ _ (by omega)]; exact r4 j hj
    · rw [mset_get, mset_get]
      by_cases e : f = w - 20 ∧ j = a
      · rw [if_pos (by omega), if_pos (by omega)]
      · rw [if_neg (by omega), if_neg (by omega)]; exact r5 f hf j hj
    · refine pgC_unt (hc q hq) (untA_rf q) ?_ (hl q hq) (fun e => e)
      unfold untC
      simp (disch := omega) only [mset_s, mset_nk, mset_nj, mrow_s, mrow_n, ifeq_s, nar_0, nar_1, isB_0, isB_1]
      simp
-- load, store of the reference
theorem ldM_s {R : Mem} {x : Int32} {n : Nat} (hn : n < 448) (h : fX6_lies R x (nI 1) = some (nI n, R)) : fX6_load R x = some (mrd R n, R) := by
  unfold fX6_load mrd
  rw [li_1, h]
  rcases Nat.lt_or_ge n 320 with c | c
  · rw [if_neg (by omega)]
    simp (disch := omega) only [mset_s, mset_nk, mset_nj, mrow_s, mrow_n, ifeq_s, nar_0, nar_1, isB_0, isB_1, bnd_e, jn_e, Option.bind_some, gd_true, gd_dec, Bool.true_and, Bool.and_true, Bool.and_self, tn_nI, inb_nI, ifle_t, ifle_f, iflt_t, iflt_f, ifeq_f, if_true, ofN_nI, nI_add, nI_subl, li_0, li_1, li_2, li_3, li_4, li_5, li_6, li_7, li_8, li_9, li_10, li_11, li_12, li_13, li_14, li_15, li_16, li_17, li_18, li_19, li_20, li_21, li_22, li_23, li_24, li_25, li_26, li_27, li_28, li_29, li_30, li_31, li_32, li_60, li_63, li_64, li_80, li_100, li_128, li_160, li_320, li_511, li_512, li_1600, li_1700, li_2000, li_2048, li_32000, li_2147483647]
  · rw [if_pos c]
    simp (disch := omega) only [mset_s, mset_nk, mset_nj, mrow_s, mrow_n, ifeq_s, nar_0, nar_1, isB_0, isB_1, bnd_e, jn_e, Option.bind_some, gd_true, gd_dec, Bool.true_and, Bool.and_true, Bool.and_self, tn_nI, inb_nI, ifle_t, ifle_f, iflt_t, iflt_f, ifeq_f, if_true, ofN_nI, nI_add, nI_subl, li_0, li_1, li_2, li_3, li_4, li_5, li_6, li_7, li_8, li_9, li_10, li_11, li_12, li_13, li_14, li_15, li_16, li_17, li_18, li_19, li_20, li_21, li_22, li_23, li_24, li_25, li_26, li_27, li_28, li_29, li_30, li_31, li_32, li_60, li_63, li_64, li_80, li_100, li_128, li_160, li_320, li_511, li_512, li_1600, li_1700, li_2000, li_2048, li_32000, li_2147483647]
theorem ldM_n {R : Mem} {x : Int32} {g : Nat} (hg : g < 10) (h24 : R 0 24 = nI g) (h : fX6_lies R x (nI 1) = some (-nI 1, R)) : fX6_load R x = some (nI 0, mset R 0 24 (nI (if g = 0 then 2 else g))) := by
  have nm := m1_nle
  unfold fX6_load
  rw [li_1, h]
  by_cases c : g = 0
  · subst c
    simp (disch := omega) only [nm, h24, if_false, mset_s, mset_nk, mset_nj, mrow_s, mrow_n, ifeq_s, nar_0, nar_1, isB_0, isB_1, bnd_e, jn_e, Option.bind_some, gd_true, gd_dec, Bool.true_and, Bool.and_true, Bool.and_self, tn_nI, inb_nI, ifle_t, ifle_f, iflt_t, iflt_f, ifeq_f, if_true, ofN_nI, nI_add, nI_subl, li_0, li_1, li_2, li_3, li_4, li_5, li_6, li_7, li_8, li_9, li_10, li_11, li_12, li_13, li_14, li_15, li_16, li_17, li_18, li_19, li_20, li_21, li_22, li_23, li_24, li_25, li_26, li_27, li_28, li_29, li_30, li_31, li_32, li_60, li_63, li_64, li_80, li_100, li_128, li_160, li_320, li_511, li_512, li_1600, li_1700, li_2000, li_2048, li_32000, li_2147483647]
  · rw [if_neg c]
    simp (disch := omega) only [nm, h24, if_false, mset_s, mset_nk, mset_nj, mrow_s, mrow_n, ifeq_s, nar_0, nar_1, isB_0, isB_1, bnd_e, jn_e, Option.bind_some, gd_true, gd_dec, Bool.true_and, Bool.and_true, Bool.and_self, tn_nI, inb_nI, ifle_t, ifle_f, iflt_t, iflt_f, ifeq_f, if_true, ofN_nI, nI_add, nI_subl, li_0, li_1, li_2, li_3, li_4, li_5, li_6, li_7, li_8, li_9, li_10, li_11, li_12, li_13, li_14, li_15, li_16, li_17, li_18, li_19, li_20, li_21, li_22, li_23, li_24, li_25, li_26, li_27, li_28, li_29, li_30, li_31, li_32, li_60, li_63, li_64, li_80, li_100, li_128, li_160, li_320, li_511, li_512, li_1600, li_1700, li_2000, li_2048, li_32000, li_2147483647]
theorem stM_s {R : Mem} {x v : Int32} {n : Nat} (hn : n < 448) (h : fX6_lies R x (nI 2) = some (nI n, R)) : fX6_store R x v = some (mwr R n v) := by
  unfold fX6_store mwr
  rw [li_2, h]
  rcases Nat.lt_or_ge n 320 with c | c
  · rw [if_neg (by omega)]
    simp (disch := omega) only [mset_s, mset_nk, mset_nj, mrow_s, mrow_n, ifeq_s, nar_0, nar_1, isB_0, isB_1, bnd_e, jn_e, Option.bind_some, gd_true, gd_dec, Bool.true_and, Bool.and_true, Bool.and_self, tn_nI, inb_nI, ifle_t, ifle_f, iflt_t, iflt_f, ifeq_f, if_true, ofN_nI, nI_add, nI_subl, li_0, li_1, li_2, li_3, li_4, li_5, li_6, li_7, li_8, li_9, li_10, li_11, li_12, li_13, li_14, li_15, li_16, li_17, li_18, li_19, li_20, li_21, li_22, li_23, li_24, li_25, li_26, li_27, li_28, li_29, li_30, li_31, li_32, li_60, li_63, li_64, li_80, li_100, li_128, li_160, li_320, li_511, li_512, li_1600, li_1700, li_2000, li_2048, li_32000, li_2147483647]
  · rw [if_pos c]
    simp (disch := omega) only [mset_s, mset_nk, mset_nj, mrow_s, mrow_n, ifeq_s, nar_0, nar_1, isB_0, isB_1, bnd_e, jn_e, Option.bind_some, gd_true, gd_dec, Bool.true_and, Bool.and_true, Bool.and_self, tn_nI, inb_nI, ifle_t, ifle_f, iflt_t, iflt_f, ifeq_f, if_true, ofN_nI, nI_add, nI_subl, li_0, li_1, li_2, li_3, li_4, li_5, li_6, li_7, li_8, li_9, li_10, li_11, li_12, li_13, li_14, li_15, li_16, li_17, li_18, li_19, li_20, li_21, li_22, li_23, li_24, li_25, li_26, li_27, li_28, li_29, li_30, li_31, li_32, li_60, li_63, li_64, li_80, li_100, li_128, li_160, li_320, li_511, li_512, li_1600, li_1700, li_2000, li_2048, li_32000, li_2147483647]
theorem stM_n {R : Mem} {x v : Int32} (h24 : R 0 24 = nI 0) (h : fX6_lies R x (nI 2) = some (-nI 1, R)) : fX6_store R x v = some (mset R 0 24 (nI 3)) := by
  have nm := m1_nle
  unfold fX6_store
  rw [li_2, h]
  simp (disch := omega) only [nm, h24, if_false, mset_s, mset_nk, mset_nj, mrow_s, mrow_n, ifeq_s, nar_0, nar_1, isB_0, isB_1, bnd_e, jn_e, Option.bind_some, gd_true, gd_dec, Bool.true_and, Bool.and_true, Bool.and_self, tn_nI, inb_nI, ifle_t, ifle_f, iflt_t, iflt_f, ifeq_f, if_true, ofN_nI, nI_add, nI_subl, li_0, li_1, li_2, li_3, li_4, li_5, li_6, li_7, li_8, li_9, li_10, li_11, li_12, li_13, li_14, li_15, li_16, li_17, li_18, li_19, li_20, li_21, li_22, li_23, li_24, li_25, li_26, li_27, li_28, li_29, li_30, li_31, li_32, li_60, li_63, li_64, li_80, li_100, li_128, li_160, li_320, li_511, li_512, li_1600, li_1700, li_2000, li_2048, li_32000, li_2147483647]
-- load, save of the class
theorem ldC_n {C : Mem} {s d : Nat} {x y : Int32} (h : fX4_rowAt C (33 + 5 * s) x (nI 1) = some (none, C)) : fX1_load C (33 + 5 * s) x d y = some (nI 2, C) := by
  unfold fX1_load
  rw [li_1, h]
  rfl
theorem ldC_s {C : Mem} {s th a w j : Nat} (ht : th < 20) (ha : a < 512) (hw : w < 28) (hj : j < 4) (h : fX4_rowAt C (33 + 5 * s) (nI a) (nI 1) = some (some (5 + w), C)) : fX1_load C (33 + 5 * s) (nI a) (33 + 5 * th + 3) (nI j) = some (nI 0, mset C (33 + 5 * th + 3) j (C (5 + w) (a % 16))) := by
  unfold fX1_load
  rw [li_1, h]
  simp (disch := omega) only [oq, ↓pk_rem, isPg_p, isI_p1, isI_p2, isI_p3, isI_p4, lnC_p1, lnC_p2, lnC_p3, lnC_p4, isI_r, lnC_r, isI_k, lnC_134, lnC_136, lnC_137, lnC_138, lnC_139, lnC_140, lnC_141, lnC_142, mset_s, mset_nk, mset_nj, mrow_s, mrow_n, ifeq_s, nar_0, nar_1, isB_0, isB_1, bnd_e, jn_e, Option.bind_some, gd_true, gd_dec, Bool.true_and, Bool.and_true, Bool.and_self, tn_nI, inb_nI, ifle_t, ifle_f, iflt_t, iflt_f, ifeq_f, if_true, ofN_nI, nI_add, nI_subl, li_0, li_1, li_2, li_3, li_4, li_5, li_6, li_7, li_8, li_9, li_10, li_11, li_12, li_13, li_14, li_15, li_16, li_17, li_18, li_19, li_20, li_21, li_22, li_23, li_24, li_25, li_26, li_27, li_28, li_29, li_30, li_31, li_32, li_60, li_63, li_64, li_80, li_100, li_128, li_160, li_320, li_511, li_512, li_1600, li_1700, li_2000, li_2048, li_32000, li_2147483647]
theorem svC_n {C : Mem} {s : Nat} {x y : Int32} (h : fX4_rowAt C (33 + 5 * s) x (nI 2) = some (none, C)) : fX1_save C (33 + 5 * s) x y = some (nI 3, C) := by
  unfold fX1_save
  rw [li_2, h]
  rfl
theorem svC_s {C : Mem} {s a w : Nat} {y : Int32} (ha : a < 512) (hw : w < 28) (h : fX4_rowAt C (33 + 5 * s) (nI a) (nI 2) = some (some (5 + w), C)) : fX1_save C (33 + 5 * s) (nI a) y = some (nI 0, mset C (5 + w) (a % 16) y) := by
  unfold fX1_save
  rw [li_2, h]
  simp (disch := omega) only [oq, ↓pk_rem, isPg_p, isI_p1, isI_p2, isI_p3, isI_p4, lnC_p1, lnC_p2, lnC_p3, lnC_p4, isI_r, lnC_r, isI_k, lnC_134, lnC_136, lnC_137, lnC_138, lnC_139, lnC_140, lnC_141, lnC_142, mset_s, mset_nk, mset_nj, mrow_s, mrow_n, ifeq_s, nar_0, nar_1, isB_0, isB_1, bnd_e, jn_e, Option.bind_some, gd_true, gd_dec, Bool.true_and, Bool.and_true, Bool.and_self, tn_nI, inb_nI, ifle_t, ifle_f, iflt_t, iflt_f, ifeq_f, if_true, ofN_nI, nI_add, nI_subl, li_0, li_1, li_2, li_3, li_4, li_5, li_6, li_7, li_8, li_9, li_10, li_11, li_12, li_13, li_14, li_15, li_16, li_17, li_18, li_19, li_20, li_21, li_22, li_23, li_24, li_25, li_26, li_27, li_28, li_29, li_30, li_31, li_32, li_60, li_63, li_64, li_80, li_100, li_128, li_160, li_320, li_511, li_512, li_1600, li_1700, li_2000, li_2048, li_32000, li_2147483647]
-- eight words are read
theorem rd8_e {C R : Mem} {th : Nat} {kd ow st md et lg : Nat → Nat} {tb en rt : Nat → Nat → Nat} (h : RW C R th kd ow st md et lg tb en rt) (hI : IV kd ow st md et lg tb en rt) {s : Nat} (hs : s < 20) (ks : kd s = 1) (ss : st s = 1) {d : Nat} (hd : d = 139 ∨ d = 140 ∨ d = 141) (x : Int32) :
    ∃ b C', fX1_readEight C (33 + 5 * s) x d = some (nI b, C') ∧ (∀ a, a ≠ d → C' a = C a) ∧ ((b = 1 ∧ ∀ k, k < 8 → ∃ n, lx tb en rt s 1 (x + nI k) = some n ∧ C' d k = mrd R n) ∨ (b = 0 ∧ ∃ k, k < 8 ∧ lx tb en rt s 1 (x + nI k) = none)) := by
  have dI : isI d = true := isI_k (by omega)
  have dl : lnC d = 8 := by
    rcases hd with rfl | rfl | rfl
    · exact lnC_139
    · exact lnC_140
    · exact lnC_141
  have key : ∀ (k i n : Nat) (M : Mem), i + k = 8 → k < n → (∀ a, a ≠ d → M a = C a) → (∀ j, j < i → ∃ n, lx tb en rt s 1 (x + nI j) = some n ∧ M d j = mrd R n) → ∃ b C', lp_X1_readEight_3 (33 + 5 * s) x d (fun _ M5 => some (nI 1, M5)) n (nI i) M = some (nI b, C') ∧ (∀ a, a ≠ d → C' a = C a) ∧ ((b = 1 ∧ ∀ k, k < 8 → ∃ n, lx tb en rt s 1 (x + nI k) = some n ∧ C' d k = mrd R n) ∨ (b = 0 ∧ ∃ k, k < 8 ∧ lx tb en rt s 1 (x + nI k) = none)) := by
    intro k
    induction k with
    | zero =>
      intro i n M e hn h1 h2
      obtain ⟨n, rfl⟩ : ∃ q, n = q + 1 := ⟨n - 1, by omega⟩
      obtain rfl : i = 8 := by omega
      refine ⟨1, M, ?_, h1, Or.inl ⟨rfl, h2⟩⟩
      simp (disch := omega) only [lp_X1_readEight_3_s, mset_s, mset_nk, mset_nj, mrow_s, mrow_n, ifeq_s, nar_0, nar_1, isB_0, isB_1, bnd_e, jn_e, Option.bind_some, gd_true, gd_dec, Bool.true_and, Bool.and_true, Bool.and_self, tn_nI, inb_nI, ifle_t, ifle_f, iflt_t, iflt_f, ifeq_f, if_true, ofN_nI, nI_add, nI_subl, li_0, li_1, li_2, li_3, li_4, li_5, li_6, li_7, li_8, li_9, li_10, li_11, li_12, li_13, li_14, li_15, li_16, li_17, li_18, li_19, li_20, li_21, li_22, li_23, li_24, li_25, li_26, li_27, li_28, li_29, li_30, li_31, li_32, li_60, li_63, li_64, li_80, li_100, li_128, li_160, li_320, li_511, li_512, li_1600, li_1700, li_2000, li_2048, li_32000, li_2147483647]
    | succ k ih =>
      intro i n M e hn h1 h2
      obtain ⟨n, rfl⟩ : ∃ q, n = q + 1 := ⟨n - 1, by omega⟩
      have hM : RW M R th kd ow st md et lg tb en rt := RW_fr h (IV85 hI) (fun a b _ _ _ _ _ _ => by rw [h1 a (by omega)]) (fun _ _ _ _ _ => rfl)
      have ra := rowAt_e hM hI hs (Or.inl rfl) (x + nI i)
      rcases lx_alt hI hs ks ss 1 (x + nI i) with l | ⟨a, w, ha, ex, hw, l, -⟩
      · rw [l] at ra
        refine ⟨0, M, ?_, h1, Or.inr ⟨rfl, i, by omega, l⟩⟩
        simp (disch := omega) only [lp_X1_readEight_3_s, ra, Option.map_none, oq, mset_s, mset_nk, mset_nj, mrow_s, mrow_n, ifeq_s, nar_0, nar_1, isB_0, isB_1, bnd_e, jn_e, Option.bind_some, gd_true, gd_dec, Bool.true_and, Bool.and_true, Bool.and_self, tn_nI, inb_nI, ifle_t, ifle_f, iflt_t, iflt_f, ifeq_f, if_true, ofN_nI, nI_add, nI_subl, li_0, li_1, li_2, li_3, li_4, li_5, li_6, li_7, li_8, li_9, li_10, li_11, li_12, li_13, li_14, li_15, li_16, li_17, li_18, li_19, li_20, li_21, li_22, li_23, li_24, li_25, li_26, li_27, li_28, li_29, li_30, li_31, li_32, li_60, li_63, li_64, li_80, li_100, li_128, li_160, li_320, li_511, li_512, li_1600, li_1700, li_2000, li_2048, li_32000, li_2147483647]
      · rw [l] at ra
        have dw : (16 * w + a % 16) / 16 = w := by omega
        have st1 : lp_X1_readEight_3 (33 + 5 * s) x d (fun _ M5 => some (nI 1, M5)) (n + 1) (nI i) M = lp_X1_readEight_3 (33 + 5 * s) x d (fun _ M5 => some (nI 1, M5)) n (nI (i + 1)) (mset M d i (M (5 + w) (a % 16))) := by
          rw [lp_X1_readEight_3_s]
          rw [ex] at ra ⊢
          simp (disch := omega) only [ra, Option.map_some, dw, oq, ↓pk_rem, dI, dl, isPg_p, isI_p1, isI_p2, isI_p3, isI_p4, lnC_p1, lnC_p2, lnC_p3, lnC_p4, isI_r, lnC_r, isI_k, lnC_134, lnC_136, lnC_137, lnC_138, lnC_139, lnC_140, lnC_141, lnC_142, mset_s, mset_nk, mset_nj, mrow_s, mrow_n, ifeq_s, nar_0, nar_1, isB_0, isB_1, bnd_e, jn_e, Option.bind_some, gd_true, gd_dec, Bool.true_and, Bool.and_true, Bool.and_self, tn_nI, inb_nI, ifle_t, ifle_f, iflt_t, iflt_f, ifeq_f, if_true, ofN_nI, nI_add, nI_subl, li_0, li_1, li_2, li_3, li_4, li_5, li_6, li_7, li_8, li_9, li_10, li_11, li_12, li_13, li_14, li_15, li_16, li_17, li_18, li_19, li_20, li_21, li_22, li_23, li_24, li_25, li_26, li_27, li_28, li_29, li_30, li_31, li_32, li_60, li_63, li_64, li_80, li_100, li_128, li_160, li_320, li_511, li_512, li_1600, li_1700, li_2000, li_2048, li_32000, li_2147483647]
        rw [st1]
        refine ih (i + 1) n _ (by omega) (by omega) (fun a ha => by rw [mset_nk _ _ _ ha]; exact h1 a ha) (fun j hj => ?_)
        by_cases c : j = i
        · subst c
          exact ⟨_, l, by rw [mset_s]; exact rd_eq hM hw (by omega)⟩
        · rw [mset_nj _ _ _ c]; exact h2 j (by omega)
  unfold fX1_readEight
  simp only [jn_e, li_0, li_1]
  exact key 8 0 FU C (by omega) (by have := FU_le; omega) (fun _ _ => rfl) (fun j hj => absurd hj (by omega))
theorem mw8_e {C R : Mem} {th : Nat} {kd ow st md et lg : Nat → Nat} {tb en rt : Nat → Nat → Nat} (h : RW C R th kd ow st md et lg tb en rt) (hI : IV kd ow st md et lg tb en rt) {s : Nat} (hs : s < 20) (x : Int32) :
    ∃ b, fX1_mayWriteEight C (33 + 5 * s) x = some (nI b, C) ∧ ((b = 1 ∧ ∀ k, k < 8 → ∃ n, lx tb en rt s 2 (x + nI k) = some n) ∨ (b = 0 ∧ ∃ k, k < 8 ∧ lx tb en rt s 2 (x + nI k) = none)) := by
  have key : ∀ (k i n : Nat), i + k = 8 → k < n → (∀ j, j < i → ∃ n, lx tb en rt s 2 (x + nI j) = some n) → ∃ b, lp_X1_mayWriteEight_2 (33 + 5 * s) x (fun _ M5 => some (nI 1, M5)) n (nI i) C = some (nI b, C) ∧ ((b = 1 ∧ ∀ k, k < 8 → ∃ n, lx tb en rt s 2 (x + nI k) = some n) ∨ (b = 0 ∧ ∃ k, k < 8 ∧ lx tb en rt s 2 (x + nI k) = none)) := by
    intro k
    induction k with
    | zero =>
      intro i n e hn h2
      obtain ⟨n, rfl⟩ : ∃ q, n = q + 1 := ⟨n - 1, by omega⟩
      obtain rfl : i = 8 := by omega
      refine ⟨1, ?_, Or.inl ⟨rfl, h2⟩⟩
      simp (disch := omega) only [lp_X1_mayWriteEight_2_s, mset_s, mset_nk, mset_nj, mrow_s, mrow_n, ifeq_s, nar_0, nar_1, isB_0, isB_1, bnd_e, jn_e, Option.bind_some, gd_true, gd_dec, Bool.true_and, Bool.and_true, Bool.and_self, tn_nI, inb_nI, ifle_t, ifle_f, iflt_t, iflt_f, ifeq_f, if_true, ofN_nI, nI_add, nI_subl, li_0, li_1, li_2, li_3, li_4, li_5, li_6, li_7, li_8, li_9, li_10, li_11, li_12, li_13, li_14, li_15, li_16, li_17, li_18, li_19, li_20, li_21, li_22, li_23, li_24, li_25, li_26, li_27, li_28, li_29, li_30, li_31, li_32, li_60, li_63, li_64, li_80, li_100, li_128, li_160, li_320, li_511, li_512, li_1600, li_1700, li_2000, li_2048, li_32000, li_2147483647]
    | succ k ih =>
      intro i n e hn h2
      obtain ⟨n, rfl⟩ : ∃ q, n = q + 1 := ⟨n - 1, by omega⟩
      have ra := rowAt_e h hI hs (Or.inr (Or.inl rfl)) (x + nI i)
      cases l : lx tb en rt s 2 (x + nI i) with
      | none =>
        rw [l] at ra
        refine ⟨0, ?_, Or.inr ⟨rfl, i, by omega, l⟩⟩
        simp (disch := omega) only [lp_X1_mayWriteEight_2_s, ra, Option.map_none, oq, mset_s, mset_nk, mset_nj, mrow_s, mrow_n, ifeq_s, nar_0, nar_1, isB_0, isB_1, bnd_e, jn_e, Option.bind_some, gd_true, gd_dec, Bool.true_and, Bool.and_true, Bool.and_self, tn_nI, inb_nI, ifle_t, ifle_f, iflt_t, iflt_f, ifeq_f, if_true, ofN_nI, nI_add, nI_subl, li_0, li_1, li_2, li_3, li_4, li_5, li_6, li_7, li_8, li_9, li_10, li_11, li_12, li_13, li_14, li_15, li_16, li_17, li_18, li_19, li_20, li_21, li_22, li_23, li_24, li_25, li_26, li_27, li_28, li_29, li_30, li_31, li_32, li_60, li_63, li_64, li_80, li_100, li_128, li_160, li_320, li_511, li_512, li_1600, li_1700, li_2000, li_2048, li_32000, li_2147483647]
      | some m =>
        rw [l] at ra
        have st1 : lp_X1_mayWriteEight_2 (33 + 5 * s) x (fun _ M5 => some (nI 1, M5)) (n + 1) (nI i) C = lp_X1_mayWriteEight_2 (33 + 5 * s) x (fun _ M5 => some (nI 1, M5)) n (nI (i + 1)) C := by
          simp (disch := omega) only [lp_X1_mayWriteEight_2_s, ra, Option.map_some, oq, mset_s, mset_nk, mset_nj, mrow_s, mrow_n, ifeq_s, nar_0, nar_1, isB_0, isB_1, bnd_e, jn_e, Option.bind_some, gd_true, gd_dec, Bool.true_and, Bool.and_true, Bool.and_self, tn_nI, inb_nI, ifle_t, ifle_f, iflt_t, iflt_f, ifeq_f, if_true, ofN_nI, nI_add, nI_subl, li_0, li_1, li_2, li_3, li_4, li_5, li_6, li_7, li_8, li_9, li_10, li_11, li_12, li_13, li_14, li_15, li_16, li_17, li_18, li_19, li_20, li_21, li_22, li_23, li_24, li_25, li_26, li_27, li_28, li_29, li_30, li_31, li_32, li_60, li_63, li_64, li_80, li_100, li_128, li_160, li_320, li_511, li_512, li_1600, li_1700, li_2000, li_2048, li_32000, li_2147483647]
        rw [st1]
        refine ih (i + 1) n (by omega) (by omega) (fun j hj => ?_)
        by_cases c : j = i
        · subst c; exact ⟨m, l⟩
        · exact h2 j (by omega)
  unfold fX1_mayWriteEight
  simp only [jn_e, li_0, li_1]
  exact key 8 0 FU (by omega) (by have := FU_le; omega) (fun j hj => absurd hj (by omega))
