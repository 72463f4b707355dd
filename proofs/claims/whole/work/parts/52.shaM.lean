/-! The reference's block step is the class's. -/
theorem loop_dn {σ β : Type} (L : Nat → Int32 → σ → Option β) (st : Nat → σ → σ) (F : Int32 → σ → Option β)
    (h1 : ∀ n i s, i < 7 → L (n + 1) (nI (i + 1)) s = L n (nI i) (st (i + 1) s)) (h2 : ∀ n s, L (n + 1) (nI 0) s = F (nI 0) s) (s7 : σ) {n : Nat} (hn : 8 ≤ n) :
    L n (nI 7) s7 = F (nI 0) (st 1 (st 2 (st 3 (st 4 (st 5 (st 6 (st 7 s7))))))) := by
  obtain ⟨n, rfl⟩ : ∃ q, n = q + 8 := ⟨n - 8, by omega⟩
  rw [h1 (n + 7) 6 _ (by omega), h1 (n + 6) 5 _ (by omega), h1 (n + 5) 4 _ (by omega), h1 (n + 4) 3 _ (by omega), h1 (n + 3) 2 _ (by omega), h1 (n + 2) 1 _ (by omega), h1 (n + 1) 0 _ (by omega), h2]
theorem nI_m1 (i : Nat) : nI (i + 1) + -nI 1 = nI i := pk_m1 i
theorem mset_mset (M : Mem) (c : Nat) (f : Nat → Int32) (j : Nat) (x : Int32) : mset (mrow M c f) c j x = mrow M c (upd f j x) := by
  rw [mset_row, mrow_s, mrow_mrow]
theorem mrow_id (M : Mem) (c : Nat) : mrow M c (M c) = M := by
  funext a
  by_cases h : a = c
  · subst h; rw [mrow_s]
  · rw [mrow_n _ _ h]
theorem shift_e {M : Mem} (F : Int32 → Mem → Option Mem) : lp_X6_block_306 F FU (nI 7) M = F (nI 0) (mrow M 23 (fun j => if j = 0 then M 23 0 else if j < 8 then M 23 (j - 1) else M 23 j)) := by
  have key := loop_dn (fun n x M' => lp_X6_block_306 F n x M') (fun i M' => mset M' 23 i (M' 23 (i - 1))) F
    (fun n i M' hi => by
      have e : nI (i + 1) - nI 1 = nI (i + 1 - 1) := nI_subl (by omega)
      have e1 : i + 1 - 1 = i := by omega
      simp (disch := omega) only [lp_X6_block_306_s, nI_m1, e, e1, bnd_e, gd_dec, tn_nI, inb_nI, ifle_f, li_0, li_1])
    (fun n M' => by simp (disch := omega) only [lp_X6_block_306_s, bnd_e, jn_e, Option.bind_some, gd_true, gd_dec, Bool.true_and, Bool.and_true, Bool.and_self, tn_nI, inb_nI, ifle_t, ifle_f, iflt_t, iflt_f, ifeq_f, if_true, ofN_nI, nI_add, nI_subl, li_0, li_1, li_2, li_3, li_4, li_5, li_6, li_7, li_8, li_9, li_10, li_11, li_12, li_13, li_14, li_15, li_16, li_17, li_18, li_19, li_20, li_21, li_22, li_23, li_24, li_25, li_26, li_27, li_28, li_29, li_30, li_31, li_32, li_60, li_63, li_64, li_80, li_100, li_128, li_160, li_320, li_511, li_512, li_1600, li_1700, li_2000, li_2048, li_32000, li_2147483647]) M (n := FU) (by have := FU_le; omega)
  refine key.trans (congrArg (F (nI 0)) ?_)
  funext a b
  simp only [mset_get, mrow_get]
  by_cases h : a = 23
  · subst h
    rcases Nat.lt_or_ge b 8 with hb | hb
    · rcases (show b = 0 ∨ b = 1 ∨ b = 2 ∨ b = 3 ∨ b = 4 ∨ b = 5 ∨ b = 6 ∨ b = 7 by omega) with rfl | rfl | rfl | rfl | rfl | rfl | rfl | rfl <;> simp
    · have e0 : b ≠ 0 := by omega
      have e8 : ¬ b < 8 := by omega
      simp [e0, e8, show b ≠ 1 by omega, show b ≠ 2 by omega, show b ≠ 3 by omega, show b ≠ 4 by omega, show b ≠ 5 by omega, show b ≠ 6 by omega, show b ≠ 7 by omega]
  · simp [h]
theorem round1_e {M : Mem} (F : Int32 → Mem → Option Mem) (n i : Nat) (hi : i < 64) : lp_X6_block_158 F (n + 1) (nI i) M = lp_X6_block_158 F n (nI (i + 1)) (mrow M 23 (rst (M 18) (M 21) i (M 23))) := by
  simp (disch := omega) only [lp_X6_block_158_s, fX6_turned, bnd_e, jn_e, Option.bind_some, gd_true, gd_dec, Bool.true_and, Bool.and_true, Bool.and_self, tn_nI, inb_nI, ifle_t, ifle_f, iflt_t, iflt_f, ifeq_f, if_true, ofN_nI, nI_add, nI_subl, li_0, li_1, li_2, li_3, li_4, li_5, li_6, li_7, li_8, li_9, li_10, li_11, li_12, li_13, li_14, li_15, li_16, li_17, li_18, li_19, li_20, li_21, li_22, li_23, li_24, li_25, li_26, li_27, li_28, li_29, li_30, li_31, li_32, li_60, li_63, li_64, li_80, li_100, li_128, li_160, li_320, li_511, li_512, li_1600, li_1700, li_2000, li_2048, li_32000, li_2147483647]
  rw [shift_e]
  congr 1
  funext a b
  simp only [mset_get, mrow_get]
  by_cases h : a = 23
  · subst h
    rcases Nat.lt_or_ge b 8 with hb | hb
    · rcases (show b = 0 ∨ b = 1 ∨ b = 2 ∨ b = 3 ∨ b = 4 ∨ b = 5 ∨ b = 6 ∨ b = 7 by omega) with rfl | rfl | rfl | rfl | rfl | rfl | rfl | rfl <;> rfl
    · rw [rst_b _ _ _ _ (by omega)]
      have e0 : b ≠ 0 := by omega
      have e8 : ¬ b < 8 := by omega
      simp [e0, e8, show b ≠ 4 by omega]
  · simp [h]
theorem roundsM_e {M : Mem} (F : Int32 → Mem → Option Mem) (u : Nat → Int32) (hu : u = itr (rst (M 18) (M 21)) 64 0 (M 23)) : lp_X6_block_158 F FU (nI 0) M = F (nI 64) (mrow M 23 u) := by
  have key := loop_up (fun n x (v : Nat → Int32) => lp_X6_block_158 F n x (mrow M 23 v)) (rst (M 18) (M 21)) (fun x v => F x (mrow M 23 v)) 64
    (fun n i v hi => by
      show lp_X6_block_158 F (n + 1) (nI i) (mrow M 23 v) = _
      rw [round1_e F n i hi, mrow_mrow, mrow_s, mrow_n _ _ (by omega), mrow_n _ _ (by omega)])
    (fun n v => by simp (disch := omega) only [lp_X6_block_158_s, bnd_e, jn_e, Option.bind_some, gd_true, gd_dec, Bool.true_and, Bool.and_true, Bool.and_self, tn_nI, inb_nI, ifle_t, ifle_f, iflt_t, iflt_f, ifeq_f, if_true, ofN_nI, nI_add, nI_subl, li_0, li_1, li_2, li_3, li_4, li_5, li_6, li_7, li_8, li_9, li_10, li_11, li_12, li_13, li_14, li_15, li_16, li_17, li_18, li_19, li_20, li_21, li_22, li_23, li_24, li_25, li_26, li_27, li_28, li_29, li_30, li_31, li_32, li_60, li_63, li_64, li_80, li_100, li_128, li_160, li_320, li_511, li_512, li_1600, li_1700, li_2000, li_2048, li_32000, li_2147483647])
    64 0 FU (M 23) (by omega) (by have := FU_le; omega)
  rw [hu, ← key]
  show _ = lp_X6_block_158 F FU (nI 0) (mrow M 23 (M 23))
  rw [mrow_id]
theorem copyM_e {M : Mem} (F : Int32 → Mem → Option Mem) : lp_X6_block_132 F FU (nI 0) M = F (nI 8) (mrow M 23 (fun j => if j < 8 then M 22 j else M 23 j)) := by
  have key := loop_up (fun n x (v : Nat → Int32) => lp_X6_block_132 F n x (mrow M 23 v)) (fun i v => upd v i (M 22 i)) (fun x v => F x (mrow M 23 v)) 8
    (fun n i v hi => by
      simp (disch := omega) only [lp_X6_block_132_s, mset_mset, bnd_e, jn_e, Option.bind_some, gd_true, gd_dec, Bool.true_and, Bool.and_true, Bool.and_self, tn_nI, inb_nI, ifle_t, ifle_f, iflt_t, iflt_f, ifeq_f, if_true, ofN_nI, nI_add, nI_subl, li_0, li_1, li_2, li_3, li_4, li_5, li_6, li_7, li_8, li_9, li_10, li_11, li_12, li_13, li_14, li_15, li_16, li_17, li_18, li_19, li_20, li_21, li_22, li_23, li_24, li_25, li_26, li_27, li_28, li_29, li_30, li_31, li_32, li_60, li_63, li_64, li_80, li_100, li_128, li_160, li_320, li_511, li_512, li_1600, li_1700, li_2000, li_2048, li_32000, li_2147483647]
      rw [mrow_n _ _ (by omega)])
    (fun n v => by simp (disch := omega) only [lp_X6_block_132_s, bnd_e, jn_e, Option.bind_some, gd_true, gd_dec, Bool.true_and, Bool.and_true, Bool.and_self, tn_nI, inb_nI, ifle_t, ifle_f, iflt_t, iflt_f, ifeq_f, if_true, ofN_nI, nI_add, nI_subl, li_0, li_1, li_2, li_3, li_4, li_5, li_6, li_7, li_8, li_9, li_10, li_11, li_12, li_13, li_14, li_15, li_16, li_17, li_18, li_19, li_20, li_21, li_22, li_23, li_24, li_25, li_26, li_27, li_28, li_29, li_30, li_31, li_32, li_60, li_63, li_64, li_80, li_100, li_128, li_160, li_320, li_511, li_512, li_1600, li_1700, li_2000, li_2048, li_32000, li_2147483647])
    8 0 FU (M 23) (by omega) (by have := FU_le; omega)
  have h0 : lp_X6_block_132 F FU (nI 0) M = lp_X6_block_132 F FU (nI 0) (mrow M 23 (M 23)) := by rw [mrow_id]
  rw [h0]
  refine key.trans (congrArg (fun v => F (nI 8) (mrow M 23 v)) ?_)
  funext j
  simp only [itr, upd]
  rcases Nat.lt_or_ge j 8 with hb | hb
  · rcases (show j = 0 ∨ j = 1 ∨ j = 2 ∨ j = 3 ∨ j = 4 ∨ j = 5 ∨ j = 6 ∨ j = 7 by omega) with rfl | rfl | rfl | rfl | rfl | rfl | rfl | rfl <;> simp
  · have e8 : ¬ j < 8 := by omega
    simp [e8, show j ≠ 0 by omega, show j ≠ 1 by omega, show j ≠ 2 by omega, show j ≠ 3 by omega, show j ≠ 4 by omega, show j ≠ 5 by omega, show j ≠ 6 by omega, show j ≠ 7 by omega]
theorem addM_e {M : Mem} (F : Int32 → Mem → Option Mem) : lp_X6_block_367 F FU (nI 0) M = F (nI 8) (mrow M 22 (fun j => if j < 8 then M 22 j + M 23 j else M 22 j)) := by
  have key := loop_up (fun n x (v : Nat → Int32) => lp_X6_block_367 F n x (mrow M 22 v)) (fun i v => upd v i (v i + M 23 i)) (fun x v => F x (mrow M 22 v)) 8
    (fun n i v hi => by
      simp (disch := omega) only [lp_X6_block_367_s, mset_mset, mrow_s, bnd_e, jn_e, Option.bind_some, gd_true, gd_dec, Bool.true_and, Bool.and_true, Bool.and_self, tn_nI, inb_nI, ifle_t, ifle_f, iflt_t, iflt_f, ifeq_f, if_true, ofN_nI, nI_add, nI_subl, li_0, li_1, li_2, li_3, li_4, li_5, li_6, li_7, li_8, li_9, li_10, li_11, li_12, li_13, li_14, li_15, li_16, li_17, li_18, li_19, li_20, li_21, li_22, li_23, li_24, li_25, li_26, li_27, li_28, li_29, li_30, li_31, li_32, li_60, li_63, li_64, li_80, li_100, li_128, li_160, li_320, li_511, li_512, li_1600, li_1700, li_2000, li_2048, li_32000, li_2147483647]
      rw [mrow_n _ _ (by omega)])
    (fun n v => by simp (disch := omega) only [lp_X6_block_367_s, bnd_e, jn_e, Option.bind_some, gd_true, gd_dec, Bool.true_and, Bool.and_true, Bool.and_self, tn_nI, inb_nI, ifle_t, ifle_f, iflt_t, iflt_f, ifeq_f, if_true, ofN_nI, nI_add, nI_subl, li_0, li_1, li_2, li_3, li_4, li_5, li_6, li_7, li_8, li_9, li_10, li_11, li_12, li_13, li_14, li_15, li_16, li_17, li_18, li_19, li_20, li_21, li_22, li_23, li_24, li_25, li_26, li_27, li_28, li_29, li_30, li_31, li_32, li_60, li_63, li_64, li_80, li_100, li_128, li_160, li_320, li_511, li_512, li_1600, li_1700, li_2000, li_2048, li_32000, li_2147483647])
    8 0 FU (M 22) (by omega) (by have := FU_le; omega)
  have h0 : lp_X6_block_367 F FU (nI 0) M = lp_X6_block_367 F FU (nI 0) (mrow M 22 (M 22)) := by rw [mrow_id]
  rw [h0]
  refine key.trans (congrArg (fun v => F (nI 8) (mrow M 22 v)) ?_)
  funext j
  simp only [itr, upd]
  rcases Nat.lt_or_ge j 8 with hb | hb
  · rcases (show j = 0 ∨ j = 1 ∨ j = 2 ∨ j = 3 ∨ j = 4 ∨ j = 5 ∨ j = 6 ∨ j = 7 by omega) with rfl | rfl | rfl | rfl | rfl | rfl | rfl | rfl <;> simp
  · have e8 : ¬ j < 8 := by omega
    simp [e8, show j ≠ 0 by omega, show j ≠ 1 by omega, show j ≠ 2 by omega, show j ≠ 3 by omega, show j ≠ 4 by omega, show j ≠ 5 by omega, show j ≠ 6 by omega, show j ≠ 7 by omega]
theorem schedM_e {M : Mem} {fr : Nat} (hfr : fr + 16 ≤ 1700) (F : Int32 → Mem → Option Mem) : lp_X6_block_2 (nI fr) F FU (nI 0) M = F (nI 64) (mrow M 21 (wexp (fun j => if j < 16 then M 20 (fr + j) else M 21 j))) := by
  have k1 := loop_up (fun n x (v : Nat → Int32) => lp_X6_block_2 (nI fr) F n x (mrow M 21 v)) (fun i v => if i < 16 then upd v i (M 20 (fr + i)) else wst i v) (fun x v => F x (mrow M 21 v)) 64
    (fun n i v hi => by
      by_cases h16 : i < 16
      · simp (disch := omega) only [lp_X6_block_2_s, mset_mset, h16, if_true, bnd_e, jn_e, Option.bind_some, gd_true, gd_dec, Bool.true_and, Bool.and_true, Bool.and_self, tn_nI, inb_nI, ifle_t, ifle_f, iflt_t, iflt_f, ifeq_f, if_true, ofN_nI, nI_add, nI_subl, li_0, li_1, li_2, li_3, li_4, li_5, li_6, li_7, li_8, li_9, li_10, li_11, li_12, li_13, li_14, li_15, li_16, li_17, li_18, li_19, li_20, li_21, li_22, li_23, li_24, li_25, li_26, li_27, li_28, li_29, li_30, li_31, li_32, li_60, li_63, li_64, li_80, li_100, li_128, li_160, li_320, li_511, li_512, li_1600, li_1700, li_2000, li_2048, li_32000, li_2147483647]
        rw [mrow_n _ _ (by omega)]
      · simp (disch := omega) only [lp_X6_block_2_s, mset_mset, mrow_s, fX6_turned, h16, if_false, bnd_e, jn_e, Option.bind_some, gd_true, gd_dec, Bool.true_and, Bool.and_true, Bool.and_self, tn_nI, inb_nI, ifle_t, ifle_f, iflt_t, iflt_f, ifeq_f, if_true, ofN_nI, nI_add, nI_subl, li_0, li_1, li_2, li_3, li_4, li_5, li_6, li_7, li_8, li_9, li_10, li_11, li_12, li_13, li_14, li_15, li_16, li_17, li_18, li_19, li_20, li_21, li_22, li_23, li_24, li_25, li_26, li_27, li_28, li_29, li_30, li_31, li_32, li_60, li_63, li_64, li_80, li_100, li_128, li_160, li_320, li_511, li_512, li_1600, li_1700, li_2000, li_2048, li_32000, li_2147483647]
        rfl)
    (fun n v => by simp (disch := omega) only [lp_X6_block_2_s, bnd_e, jn_e, Option.bind_some, gd_true, gd_dec, Bool.true_and, Bool.and_true, Bool.and_self, tn_nI, inb_nI, ifle_t, ifle_f, iflt_t, iflt_f, ifeq_f, if_true, ofN_nI, nI_add, nI_subl, li_0, li_1, li_2, li_3, li_4, li_5, li_6, li_7, li_8, li_9, li_10, li_11, li_12, li_13, li_14, li_15, li_16, li_17, li_18, li_19, li_20, li_21, li_22, li_23, li_24, li_25, li_26, li_27, li_28, li_29, li_30, li_31, li_32, li_60, li_63, li_64, li_80, li_100, li_128, li_160, li_320, li_511, li_512, li_1600, li_1700, li_2000, li_2048, li_32000, li_2147483647])
    64 0 FU (M 21) (by omega) (by have := FU_le; omega)
  have h0 : lp_X6_block_2 (nI fr) F FU (nI 0) M = lp_X6_block_2 (nI fr) F FU (nI 0) (mrow M 21 (M 21)) := by rw [mrow_id]
  rw [h0]
  refine k1.trans (congrArg (fun v => F (nI 64) (mrow M 21 v)) ?_)
  have a1 : ∀ k, k ≤ 16 → itr (fun i v => if i < 16 then upd v i (M 20 (fr + i)) else wst i v) k 0 (M 21) = (fun j => if j < k then M 20 (fr + j) else M 21 j) := by
    intro k
    induction k with
    | zero => intro _; funext j; simp [itr]
    | succ k ih =>
      intro hk
      rw [itr_s, ih (by omega), if_pos (by omega)]
      funext j
      unfold upd
      by_cases h : j = 0 + k
      · subst h; simp
      · have h4 : j ≠ k := by omega
        have h5 : (j < k + 1) ↔ j < k := by omega
        simp [h4, h5]
  have a2 : ∀ k (v : Nat → Int32), itr (fun i v => if i < 16 then upd v i (M 20 (fr + i)) else wst i v) k 16 v = itr wst k 16 v := by
    intro k
    induction k with
    | zero => intro v; rfl
    | succ k ih => intro v; rw [itr_s, itr_s, ih, if_neg (by omega)]
  have a3 : ∀ (st : Nat → (Nat → Int32) → Nat → Int32) (k l i : Nat) (v : Nat → Int32), itr st (k + l) i v = itr st l (i + k) (itr st k i v) := by
    intro st k
    induction k with
    | zero => intro l i v; simp [itr]
    | succ k ih =>
      intro l i v
      have e : k + 1 + l = (k + l) + 1 := by omega
      rw [e]
      show itr st (k + l) (i + 1) (st i v) = itr st l (i + (k + 1)) (itr st k (i + 1) (st i v))
      rw [ih]
      have e2 : i + 1 + k = i + (k + 1) := by omega
      rw [e2]
  have a4 := a3 (fun i v => if i < 16 then upd v i (M 20 (fr + i)) else wst i v) 16 48 0 (M 21)
  rw [a1 16 (by omega)] at a4
  exact a4.trans (a2 48 _)
theorem block_e {M : Mem} {fr : Nat} (hfr : fr + 16 ≤ 1700) (hK : ∀ t, t < 64 → M 18 t = tbADDED t) : ∃ M', fX6_block M (nI fr) = some M' ∧ (∀ j, j < 8 → M' 22 j = cmp (M 22) (fun k => M 20 (fr + k)) j) ∧ ∀ a, a ≠ 21 → a ≠ 22 → a ≠ 23 → M' a = M a := by
  unfold fX6_block
  simp only [jn_e, li_0]
  rw [schedM_e hfr, copyM_e]
  obtain ⟨w, hw⟩ : ∃ w, w = wexp (fun j => if j < 16 then M 20 (fr + j) else M 21 j) := ⟨_, rfl⟩
  rw [← hw]
  obtain ⟨q, hq⟩ : ∃ q, q = mrow (mrow M 21 w) 23 (fun j => if j < 8 then mrow M 21 w 22 j else mrow M 21 w 23 j) := ⟨_, rfl⟩
  rw [← hq]
  have q18 : q 18 = M 18 := by rw [hq, mrow_n _ _ (by omega), mrow_n _ _ (by omega)]
  have q21 : q 21 = w := by rw [hq, mrow_n _ _ (by omega), mrow_s]
  have q22 : q 22 = M 22 := by rw [hq, mrow_n _ _ (by omega), mrow_n _ _ (by omega)]
  have q23 : ∀ j, j < 8 → q 23 j = M 22 j := fun j hj => by rw [hq, mrow_s, if_pos hj, mrow_n _ _ (by omega)]
  have qn : ∀ a, a ≠ 21 → a ≠ 23 → q a = M a := fun a h1 h3 => by rw [hq, mrow_n _ _ h3, mrow_n _ _ h1]
  obtain ⟨u, hu⟩ : ∃ u, u = itr (rst (q 18) (q 21)) 64 0 (q 23) := ⟨_, rfl⟩
  have hc : ∀ j, j < 8 → M 22 j + u j = cmp (M 22) (fun k => M 20 (fr + k)) j := fun j hj => by
    unfold cmp
    have kk : ∀ k, k ≤ 64 → itr (rst (q 18) (q 21)) k 0 (q 23) = itr (rst tbADDED (q 21)) k 0 (q 23) := by
      intro k
      induction k with
      | zero => intro _; rfl
      | succ k ih =>
        intro hk
        rw [itr_s, itr_s, ih (by omega)]
        unfold rst one1
        rw [q18, hK (0 + k) (by omega)]
    rw [hu, kk 64 (by omega), q21, hw, rst_congr (wexp_congr (fun i hi => ?_)) q23 64 (by omega) j hj]
    rw [if_pos hi]
  rw [roundsM_e (u := u) (hu := hu), addM_e]
  clear hu hq hw
  refine ⟨_, rfl, ?_, ?_⟩
  · intro j hj
    rw [mrow_s, if_pos hj, mrow_s, mrow_n _ _ (by omega), q22, hc j hj]
  · intro a h1 h2 h3
    rw [mrow_n _ _ h2, mrow_n _ _ h3, qn a h1 h3]
