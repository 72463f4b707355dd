/-! data(), finish(). -/
theorem data151_e {R3 : Mem} {p s f n : Nat} (hp : p < 20) (hs : s < 20) (hf : f < 8) (hn : R3 11 s = nI (16 * n)) (hb : n ≤ 98) (F : Int32 → Mem → Option (Int32 × Mem)) : ∃ R', lp_X6_data_151 (nI f) (nI p) (nI s) F FU (nI 0) R3 = F (nI 16) R' ∧ (∀ j, R' 6 j = if 16 * p ≤ j ∧ j < 16 * p + 16 then R3 2 (16 * f + (j - 16 * p)) else R3 6 j) ∧ (∀ j, R' 10 j = if 1600 * s + 16 * n ≤ j ∧ j < 1600 * s + 16 * n + 16 then R3 2 (16 * f + (j - (1600 * s + 16 * n))) else R3 10 j) ∧ ∀ a, a ≠ 6 → a ≠ 10 → R' a = R3 a := by
  obtain ⟨R', e, p1, p2, p3⟩ := loop_inv (fun n x M => lp_X6_data_151 (nI f) (nI p) (nI s) F n x M) F 16 (fun i M => (∀ j, M 6 j = if 16 * p ≤ j ∧ j < 16 * p + i then R3 2 (16 * f + (j - 16 * p)) else R3 6 j) ∧ (∀ j, M 10 j = if 1600 * s + 16 * n ≤ j ∧ j < 1600 * s + 16 * n + i then R3 2 (16 * f + (j - (1600 * s + 16 * n))) else R3 10 j) ∧ ∀ a, a ≠ 6 → a ≠ 10 → M a = R3 a) (by omega)
    (fun m i M hi hp' => by
      have e11 : M 11 s = nI (16 * n) := by rw [hp'.2.2 11 (by omega) (by omega)]; exact hn
      have e2 : M 2 = R3 2 := hp'.2.2 2 (by omega) (by omega)
      refine ⟨mset (mset M 6 (16 * p + i) (R3 2 (16 * f + i))) 10 (1600 * s + 16 * n + i) (R3 2 (16 * f + i)), ?_, fun j => ?_, fun j => ?_, fun a h6 h10 => ?_⟩
      · simp (disch := omega) only [lp_X6_data_151_s, pk_mul, e11, e2, mset_s, mset_nk, mset_nj, mrow_s, mrow_n, ifeq_s, nar_0, nar_1, isB_0, isB_1, bnd_e, jn_e, Option.bind_some, gd_true, gd_dec, Bool.true_and, Bool.and_true, Bool.and_self, tn_nI, inb_nI, ifle_t, ifle_f, iflt_t, iflt_f, ifeq_f, if_true, ofN_nI, nI_add, nI_subl, li_0, li_1, li_2, li_3, li_4, li_5, li_6, li_7, li_8, li_9, li_10, li_11, li_12, li_13, li_14, li_15, li_16, li_17, li_18, li_19, li_20, li_21, li_22, li_23, li_24, li_25, li_26, li_27, li_28, li_29, li_30, li_31, li_32, li_60, li_63, li_64, li_80, li_100, li_128, li_160, li_320, li_511, li_512, li_1600, li_1700, li_2000, li_2048, li_32000, li_2147483647]
      · rw [mset_nk _ _ _ (by omega), mset_get]
        by_cases d : j = 16 * p + i
        · subst d
          rw [if_pos ⟨rfl, rfl⟩, if_pos (by omega), Nat.add_sub_cancel_left]
        · rw [if_neg (by omega), hp'.1 j]
          by_cases d2 : 16 * p ≤ j ∧ j < 16 * p + i
          · rw [if_pos d2, if_pos (by omega)]
          · rw [if_neg d2, if_neg (by omega)]
      · rw [mset_get]
        by_cases d : j = 1600 * s + 16 * n + i
        · subst d
          rw [if_pos ⟨rfl, rfl⟩, if_pos (by omega), Nat.add_sub_cancel_left]
        · rw [if_neg (by omega), mset_nk _ _ _ (by omega), hp'.2.1 j]
          by_cases d2 : 1600 * s + 16 * n ≤ j ∧ j < 1600 * s + 16 * n + i
          · rw [if_pos d2, if_pos (by omega)]
          · rw [if_neg d2, if_neg (by omega)]
      · rw [mset_nk _ _ _ h10, mset_nk _ _ _ h6]; exact hp'.2.2 a h6 h10)
    (fun m M hp' => by simp (disch := omega) only [lp_X6_data_151_s, mset_s, mset_nk, mset_nj, mrow_s, mrow_n, ifeq_s, nar_0, nar_1, isB_0, isB_1, bnd_e, jn_e, Option.bind_some, gd_true, gd_dec, Bool.true_and, Bool.and_true, Bool.and_self, tn_nI, inb_nI, ifle_t, ifle_f, iflt_t, iflt_f, ifeq_f, if_true, ofN_nI, nI_add, nI_subl, li_0, li_1, li_2, li_3, li_4, li_5, li_6, li_7, li_8, li_9, li_10, li_11, li_12, li_13, li_14, li_15, li_16, li_17, li_18, li_19, li_20, li_21, li_22, li_23, li_24, li_25, li_26, li_27, li_28, li_29, li_30, li_31, li_32, li_60, li_63, li_64, li_80, li_100, li_128, li_160, li_320, li_511, li_512, li_1600, li_1700, li_2000, li_2048, li_32000, li_2147483647]) (M := R3)
    ⟨fun j => by rw [if_neg (by omega)], fun j => by rw [if_neg (by omega)], fun _ _ _ => rfl⟩
  exact ⟨R', e, p1, p2, p3⟩
theorem cpy16 {f g : Nat → Int32} {j : Nat} (h : j < 16) : va_cpy f g 0 0 16 j = f j := by
  rw [pk_cpy_in (Nat.zero_le _) (by omega)]
  congr 1
  omega
theorem areDR_b {M : Mem} {x : Int32} (h : x < nI 1 ∨ (¬ x < nI 1 ∧ nI 7 < x)) : fX5_areDataRights M x = some (nI 0, M) := by
  unfold fX5_areDataRights
  rcases h with h | ⟨h, h2⟩
  · simp (disch := omega) only [h, mset_s, mset_nk, mset_nj, mrow_s, mrow_n, ifeq_s, nar_0, nar_1, isB_0, isB_1, bnd_e, jn_e, Option.bind_some, gd_true, gd_dec, Bool.true_and, Bool.and_true, Bool.and_self, tn_nI, inb_nI, ifle_t, ifle_f, iflt_t, iflt_f, ifeq_f, if_true, ofN_nI, nI_add, nI_subl, li_0, li_1, li_2, li_3, li_4, li_5, li_6, li_7, li_8, li_9, li_10, li_11, li_12, li_13, li_14, li_15, li_16, li_17, li_18, li_19, li_20, li_21, li_22, li_23, li_24, li_25, li_26, li_27, li_28, li_29, li_30, li_31, li_32, li_60, li_63, li_64, li_80, li_100, li_128, li_160, li_320, li_511, li_512, li_1600, li_1700, li_2000, li_2048, li_32000, li_2147483647]
  · simp (disch := omega) only [h, h2, if_false, mset_s, mset_nk, mset_nj, mrow_s, mrow_n, ifeq_s, nar_0, nar_1, isB_0, isB_1, bnd_e, jn_e, Option.bind_some, gd_true, gd_dec, Bool.true_and, Bool.and_true, Bool.and_self, tn_nI, inb_nI, ifle_t, ifle_f, iflt_t, iflt_f, ifeq_f, if_true, ofN_nI, nI_add, nI_subl, li_0, li_1, li_2, li_3, li_4, li_5, li_6, li_7, li_8, li_9, li_10, li_11, li_12, li_13, li_14, li_15, li_16, li_17, li_18, li_19, li_20, li_21, li_22, li_23, li_24, li_25, li_26, li_27, li_28, li_29, li_30, li_31, li_32, li_60, li_63, li_64, li_80, li_100, li_128, li_160, li_320, li_511, li_512, li_1600, li_1700, li_2000, li_2048, li_32000, li_2147483647]
theorem argr (x : Int32) : (x < nI 1 ∨ (¬ x < nI 1 ∧ nI 7 < x)) ∨ ∃ r, 1 ≤ r ∧ r ≤ 7 ∧ x = nI r := by
  rcases pk_ix x (show 8 < 2 ^ 31 by omega) with h | h | ⟨j, hj, rfl⟩
  · left; left
    rw [Int32.lt_iff_toInt_lt] at *
    rw [nI_toInt (by omega)]
    have : (0 : Int32).toInt = 0 := by decide
    omega
  · left; right
    have := Int32.le_iff_toInt_le.mp h
    rw [nI_toInt (by omega)] at this
    refine ⟨fun c => ?_, ?_⟩
    · rw [Int32.lt_iff_toInt_lt, nI_toInt (by omega)] at c
      omega
    · rw [Int32.lt_iff_toInt_lt, nI_toInt (by omega)]
      omega
  · rcases Nat.lt_or_ge j 1 with c | c
    · left; left; exact nI_lt c (by omega)
    · right; exact ⟨j, c, by omega, rfl⟩
theorem sim_data {C R : Mem} (h : Rel C R) (x y u z w : Int32) : ∃ r C' R', fX5_data C x y u z w = some (r, C') ∧ fX6_data R x y u z w = some (r, R') ∧ Rel C' R' := by
  have h' := h
  obtain ⟨kd, ow, st, md, et, lg, tb, en, rt, hM, hC, hI⟩ := h'
  have k := RM_hK hM hI
  rcases argc x (show 20 < 2 ^ 31 by omega) with hx | ⟨p, hp, rfl⟩
  · refine ⟨nI 1, C, Bn R 1, ?_, ?_, Rel_Bn h 1⟩
    · unfold fX5_data
      rw [isPage_b hx, Option.bind_some]
      refine (if_pos li_0.symm).trans ?_
      rfl
    · simp (disch := omega) only [fX6_data, begin_m, noPage_b hx, wr_1, wF_n k, wS_n k, wr_n, Bn_0, mset_s, mset_nk, mset_nj, mrow_s, mrow_n, ifeq_s, nar_0, nar_1, isB_0, isB_1, bnd_e, Option.bind_some, gd_true, gd_dec, Bool.true_and, Bool.and_true, Bool.and_self, tn_nI, inb_nI, ifle_t, ifle_f, iflt_t, iflt_f, ifeq_f, if_true, ofN_nI, nI_add, nI_subl, li_0, li_1, li_2, li_3, li_4, li_5, li_6, li_7, li_8, li_9, li_10, li_11, li_12, li_13, li_14, li_15, li_16, li_17, li_18, li_19, li_20, li_21, li_22, li_23, li_24, li_25, li_26, li_27, li_28, li_29, li_30, li_31, li_32, li_60, li_63, li_64, li_80, li_100, li_128, li_160, li_320, li_511, li_512, li_1600, li_1700, li_2000, li_2048, li_32000, li_2147483647]; repeat (refine js ?_; simp (disch := omega) only [begin_m, noPage_b hx, wr_1, wF_n k, wS_n k, wr_n, Bn_0, mset_s, mset_nk, mset_nj, mrow_s, mrow_n, ifeq_s, nar_0, nar_1, isB_0, isB_1, bnd_e, Option.bind_some, gd_true, gd_dec, Bool.true_and, Bool.and_true, Bool.and_self, tn_nI, inb_nI, ifle_t, ifle_f, iflt_t, iflt_f, ifeq_f, if_true, ofN_nI, nI_add, nI_subl, li_0, li_1, li_2, li_3, li_4, li_5, li_6, li_7, li_8, li_9, li_10, li_11, li_12, li_13, li_14, li_15, li_16, li_17, li_18, li_19, li_20, li_21, li_22, li_23, li_24, li_25, li_26, li_27, li_28, li_29, li_30, li_31, li_32, li_60, li_63, li_64, li_80, li_100, li_128, li_160, li_320, li_511, li_512, li_1600, li_1700, li_2000, li_2048, li_32000, li_2147483647])
  rcases argc y (show 20 < 2 ^ 31 by omega) with hy | ⟨s, hs, rfl⟩
  · refine ⟨nI 1, C, Bn R 1, ?_, ?_, Rel_Bn h 1⟩
    · simp (disch := omega) only [fX5_data, isPage_t hp, isPage_b hy, mset_s, mset_nk, mset_nj, mrow_s, mrow_n, ifeq_s, nar_0, nar_1, isB_0, isB_1, bnd_e, jn_e, Option.bind_some, gd_true, gd_dec, Bool.true_and, Bool.and_true, Bool.and_self, tn_nI, inb_nI, ifle_t, ifle_f, iflt_t, iflt_f, ifeq_f, if_true, ofN_nI, nI_add, nI_subl, li_0, li_1, li_2, li_3, li_4, li_5, li_6, li_7, li_8, li_9, li_10, li_11, li_12, li_13, li_14, li_15, li_16, li_17, li_18, li_19, li_20, li_21, li_22, li_23, li_24, li_25, li_26, li_27, li_28, li_29, li_30, li_31, li_32, li_60, li_63, li_64, li_80, li_100, li_128, li_160, li_320, li_511, li_512, li_1600, li_1700, li_2000, li_2048, li_32000, li_2147483647]
    · simp (disch := omega) only [fX6_data, begin_m, noPage_t hp, noPage_b hy, wr_1, wF_n k, wS_n k, wr_n, Bn_0, mset_s, mset_nk, mset_nj, mrow_s, mrow_n, ifeq_s, nar_0, nar_1, isB_0, isB_1, bnd_e, Option.bind_some, gd_true, gd_dec, Bool.true_and, Bool.and_true, Bool.and_self, tn_nI, inb_nI, ifle_t, ifle_f, iflt_t, iflt_f, ifeq_f, if_true, ofN_nI, nI_add, nI_subl, li_0, li_1, li_2, li_3, li_4, li_5, li_6, li_7, li_8, li_9, li_10, li_11, li_12, li_13, li_14, li_15, li_16, li_17, li_18, li_19, li_20, li_21, li_22, li_23, li_24, li_25, li_26, li_27, li_28, li_29, li_30, li_31, li_32, li_60, li_63, li_64, li_80, li_100, li_128, li_160, li_320, li_511, li_512, li_1600, li_1700, li_2000, li_2048, li_32000, li_2147483647]; repeat (refine js ?_; simp (disch := omega) only [begin_m, noPage_t hp, noPage_b hy, wr_1, wF_n k, wS_n k, wr_n, Bn_0, mset_s, mset_nk, mset_nj, mrow_s, mrow_n, ifeq_s, nar_0, nar_1, isB_0, isB_1, bnd_e, Option.bind_some, gd_true, gd_dec, Bool.true_and, Bool.and_true, Bool.and_self, tn_nI, inb_nI, ifle_t, ifle_f, iflt_t, iflt_f, ifeq_f, if_true, ofN_nI, nI_add, nI_subl, li_0, li_1, li_2, li_3, li_4, li_5, li_6, li_7, li_8, li_9, li_10, li_11, li_12, li_13, li_14, li_15, li_16, li_17, li_18, li_19, li_20, li_21, li_22, li_23, li_24, li_25, li_26, li_27, li_28, li_29, li_30, li_31, li_32, li_60, li_63, li_64, li_80, li_100, li_128, li_160, li_320, li_511, li_512, li_1600, li_1700, li_2000, li_2048, li_32000, li_2147483647])
  rcases argc u (show 32 < 2 ^ 31 by omega) with hu | ⟨b, hb, rfl⟩
  · refine ⟨nI 1, C, Bn R 1, ?_, ?_, Rel_Bn h 1⟩
    · simp (disch := omega) only [fX5_data, isPage_t hp, isPage_t hs, isBlock_b hu, mset_s, mset_nk, mset_nj, mrow_s, mrow_n, ifeq_s, nar_0, nar_1, isB_0, isB_1, bnd_e, jn_e, Option.bind_some, gd_true, gd_dec, Bool.true_and, Bool.and_true, Bool.and_self, tn_nI, inb_nI, ifle_t, ifle_f, iflt_t, iflt_f, ifeq_f, if_true, ofN_nI, nI_add, nI_subl, li_0, li_1, li_2, li_3, li_4, li_5, li_6, li_7, li_8, li_9, li_10, li_11, li_12, li_13, li_14, li_15, li_16, li_17, li_18, li_19, li_20, li_21, li_22, li_23, li_24, li_25, li_26, li_27, li_28, li_29, li_30, li_31, li_32, li_60, li_63, li_64, li_80, li_100, li_128, li_160, li_320, li_511, li_512, li_1600, li_1700, li_2000, li_2048, li_32000, li_2147483647]
    · simp (disch := omega) only [fX6_data, begin_m, noPage_t hp, noPage_t hs, noBlock_b hu, wr_1, wF_n k, wS_n k, wr_n, Bn_0, mset_s, mset_nk, mset_nj, mrow_s, mrow_n, ifeq_s, nar_0, nar_1, isB_0, isB_1, bnd_e, Option.bind_some, gd_true, gd_dec, Bool.true_and, Bool.and_true, Bool.and_self, tn_nI, inb_nI, ifle_t, ifle_f, iflt_t, iflt_f, ifeq_f, if_true, ofN_nI, nI_add, nI_subl, li_0, li_1, li_2, li_3, li_4, li_5, li_6, li_7, li_8, li_9, li_10, li_11, li_12, li_13, li_14, li_15, li_16, li_17, li_18, li_19, li_20, li_21, li_22, li_23, li_24, li_25, li_26, li_27, li_28, li_29, li_30, li_31, li_32, li_60, li_63, li_64, li_80, li_100, li_128, li_160, li_320, li_511, li_512, li_1600, li_1700, li_2000, li_2048, li_32000, li_2147483647]; repeat (refine js ?_; simp (disch := omega) only [begin_m, noPage_t hp, noPage_t hs, noBlock_b hu, wr_1, wF_n k, wS_n k, wr_n, Bn_0, mset_s, mset_nk, mset_nj, mrow_s, mrow_n, ifeq_s, nar_0, nar_1, isB_0, isB_1, bnd_e, Option.bind_some, gd_true, gd_dec, Bool.true_and, Bool.and_true, Bool.and_self, tn_nI, inb_nI, ifle_t, ifle_f, iflt_t, iflt_f, ifeq_f, if_true, ofN_nI, nI_add, nI_subl, li_0, li_1, li_2, li_3, li_4, li_5, li_6, li_7, li_8, li_9, li_10, li_11, li_12, li_13, li_14, li_15, li_16, li_17, li_18, li_19, li_20, li_21, li_22, li_23, li_24, li_25, li_26, li_27, li_28, li_29, li_30, li_31, li_32, li_60, li_63, li_64, li_80, li_100, li_128, li_160, li_320, li_511, li_512, li_1600, li_1700, li_2000, li_2048, li_32000, li_2147483647])
  rcases argr z with hz | ⟨r, hr1, hr7, rfl⟩
  · refine ⟨nI 1, C, Bn R 1, ?_, ?_, Rel_Bn h 1⟩
    · rcases argc w (show 8 < 2 ^ 31 by omega) with hw | ⟨f, hf, rfl⟩
      · simp (disch := omega) only [fX5_data, isPage_t hp, isPage_t hs, isBlock_t hb, isFrame_b hw, mset_s, mset_nk, mset_nj, mrow_s, mrow_n, ifeq_s, nar_0, nar_1, isB_0, isB_1, bnd_e, jn_e, Option.bind_some, gd_true, gd_dec, Bool.true_and, Bool.and_true, Bool.and_self, tn_nI, inb_nI, ifle_t, ifle_f, iflt_t, iflt_f, ifeq_f, if_true, ofN_nI, nI_add, nI_subl, li_0, li_1, li_2, li_3, li_4, li_5, li_6, li_7, li_8, li_9, li_10, li_11, li_12, li_13, li_14, li_15, li_16, li_17, li_18, li_19, li_20, li_21, li_22, li_23, li_24, li_25, li_26, li_27, li_28, li_29, li_30, li_31, li_32, li_60, li_63, li_64, li_80, li_100, li_128, li_160, li_320, li_511, li_512, li_1600, li_1700, li_2000, li_2048, li_32000, li_2147483647]
      · simp (disch := omega) only [fX5_data, isPage_t hp, isPage_t hs, isBlock_t hb, isFrame_t hf, areDR_b hz, mset_s, mset_nk, mset_nj, mrow_s, mrow_n, ifeq_s, nar_0, nar_1, isB_0, isB_1, bnd_e, jn_e, Option.bind_some, gd_true, gd_dec, Bool.true_and, Bool.and_true, Bool.and_self, tn_nI, inb_nI, ifle_t, ifle_f, iflt_t, iflt_f, ifeq_f, if_true, ofN_nI, nI_add, nI_subl, li_0, li_1, li_2, li_3, li_4, li_5, li_6, li_7, li_8, li_9, li_10, li_11, li_12, li_13, li_14, li_15, li_16, li_17, li_18, li_19, li_20, li_21, li_22, li_23, li_24, li_25, li_26, li_27, li_28, li_29, li_30, li_31, li_32, li_60, li_63, li_64, li_80, li_100, li_128, li_160, li_320, li_511, li_512, li_1600, li_1700, li_2000, li_2048, li_32000, li_2147483647]
    · rcases hz with hz | ⟨hz, hz2⟩
      · simp (disch := omega) only [fX6_data, begin_m, noPage_t hp, noPage_t hs, noBlock_t hb, hz, wr_1, wF_n k, wS_n k, wr_n, Bn_0, mset_s, mset_nk, mset_nj, mrow_s, mrow_n, ifeq_s, nar_0, nar_1, isB_0, isB_1, bnd_e, Option.bind_some, gd_true, gd_dec, Bool.true_and, Bool.and_true, Bool.and_self, tn_nI, inb_nI, ifle_t, ifle_f, iflt_t, iflt_f, ifeq_f, if_true, ofN_nI, nI_add, nI_subl, li_0, li_1, li_2, li_3, li_4, li_5, li_6, li_7, li_8, li_9, li_10, li_11, li_12, li_13, li_14, li_15, li_16, li_17, li_18, li_19, li_20, li_21, li_22, li_23, li_24, li_25, li_26, li_27, li_28, li_29, li_30, li_31, li_32, li_60, li_63, li_64, li_80, li_100, li_128, li_160, li_320, li_511, li_512, li_1600, li_1700, li_2000, li_2048, li_32000, li_2147483647]; repeat (refine js ?_; simp (disch := omega) only [begin_m, noPage_t hp, noPage_t hs, noBlock_t hb, hz, wr_1, wF_n k, wS_n k, wr_n, Bn_0, mset_s, mset_nk, mset_nj, mrow_s, mrow_n, ifeq_s, nar_0, nar_1, isB_0, isB_1, bnd_e, Option.bind_some, gd_true, gd_dec, Bool.true_and, Bool.and_true, Bool.and_self, tn_nI, inb_nI, ifle_t, ifle_f, iflt_t, iflt_f, ifeq_f, if_true, ofN_nI, nI_add, nI_subl, li_0, li_1, li_2, li_3, li_4, li_5, li_6, li_7, li_8, li_9, li_10, li_11, li_12, li_13, li_14, li_15, li_16, li_17, li_18, li_19, li_20, li_21, li_22, li_23, li_24, li_25, li_26, li_27, li_28, li_29, li_30, li_31, li_32, li_60, li_63, li_64, li_80, li_100, li_128, li_160, li_320, li_511, li_512, li_1600, li_1700, li_2000, li_2048, li_32000, li_2147483647])
      · simp (disch := omega) only [fX6_data, begin_m, noPage_t hp, noPage_t hs, noBlock_t hb, hz, hz2, if_false, wr_1, wF_n k, wS_n k, wr_n, Bn_0, mset_s, mset_nk, mset_nj, mrow_s, mrow_n, ifeq_s, nar_0, nar_1, isB_0, isB_1, bnd_e, Option.bind_some, gd_true, gd_dec, Bool.true_and, Bool.and_true, Bool.and_self, tn_nI, inb_nI, ifle_t, ifle_f, iflt_t, iflt_f, ifeq_f, if_true, ofN_nI, nI_add, nI_subl, li_0, li_1, li_2, li_3, li_4, li_5, li_6, li_7, li_8, li_9, li_10, li_11, li_12, li_13, li_14, li_15, li_16, li_17, li_18, li_19, li_20, li_21, li_22, li_23, li_24, li_25, li_26, li_27, li_28, li_29, li_30, li_31, li_32, li_60, li_63, li_64, li_80, li_100, li_128, li_160, li_320, li_511, li_512, li_1600, li_1700, li_2000, li_2048, li_32000, li_2147483647]; repeat (refine js ?_; simp (disch := omega) only [begin_m, noPage_t hp, noPage_t hs, noBlock_t hb, hz, hz2, if_false, wr_1, wF_n k, wS_n k, wr_n, Bn_0, mset_s, mset_nk, mset_nj, mrow_s, mrow_n, ifeq_s, nar_0, nar_1, isB_0, isB_1, bnd_e, Option.bind_some, gd_true, gd_dec, Bool.true_and, Bool.and_true, Bool.and_self, tn_nI, inb_nI, ifle_t, ifle_f, iflt_t, iflt_f, ifeq_f, if_true, ofN_nI, nI_add, nI_subl, li_0, li_1, li_2, li_3, li_4, li_5, li_6, li_7, li_8, li_9, li_10, li_11, li_12, li_13, li_14, li_15, li_16, li_17, li_18, li_19, li_20, li_21, li_22, li_23, li_24, li_25, li_26, li_27, li_28, li_29, li_30, li_31, li_32, li_60, li_63, li_64, li_80, li_100, li_128, li_160, li_320, li_511, li_512, li_1600, li_1700, li_2000, li_2048, li_32000, li_2147483647])
  rcases argc w (show 8 < 2 ^ 31 by omega) with hw | ⟨f, hf, rfl⟩
  · refine ⟨nI 1, C, Bn R 1, ?_, ?_, Rel_Bn h 1⟩
    · simp (disch := omega) only [fX5_data, isPage_t hp, isPage_t hs, isBlock_t hb, isFrame_b hw, mset_s, mset_nk, mset_nj, mrow_s, mrow_n, ifeq_s, nar_0, nar_1, isB_0, isB_1, bnd_e, jn_e, Option.bind_some, gd_true, gd_dec, Bool.true_and, Bool.and_true, Bool.and_self, tn_nI, inb_nI, ifle_t, ifle_f, iflt_t, iflt_f, ifeq_f, if_true, ofN_nI, nI_add, nI_subl, li_0, li_1, li_2, li_3, li_4, li_5, li_6, li_7, li_8, li_9, li_10, li_11, li_12, li_13, li_14, li_15, li_16, li_17, li_18, li_19, li_20, li_21, li_22, li_23, li_24, li_25, li_26, li_27, li_28, li_29, li_30, li_31, li_32, li_60, li_63, li_64, li_80, li_100, li_128, li_160, li_320, li_511, li_512, li_1600, li_1700, li_2000, li_2048, li_32000, li_2147483647]
    · simp (disch := omega) only [fX6_data, begin_m, noPage_t hp, noPage_t hs, noBlock_t hb, noFrame_b hw, wr_1, wF_n k, wS_n k, wr_n, Bn_0, mset_s, mset_nk, mset_nj, mrow_s, mrow_n, ifeq_s, nar_0, nar_1, isB_0, isB_1, bnd_e, Option.bind_some, gd_true, gd_dec, Bool.true_and, Bool.and_true, Bool.and_self, tn_nI, inb_nI, ifle_t, ifle_f, iflt_t, iflt_f, ifeq_f, if_true, ofN_nI, nI_add, nI_subl, li_0, li_1, li_2, li_3, li_4, li_5, li_6, li_7, li_8, li_9, li_10, li_11, li_12, li_13, li_14, li_15, li_16, li_17, li_18, li_19, li_20, li_21, li_22, li_23, li_24, li_25, li_26, li_27, li_28, li_29, li_30, li_31, li_32, li_60, li_63, li_64, li_80, li_100, li_128, li_160, li_320, li_511, li_512, li_1600, li_1700, li_2000, li_2048, li_32000, li_2147483647]; repeat (refine js ?_; simp (disch := omega) only [begin_m, noPage_t hp, noPage_t hs, noBlock_t hb, noFrame_b hw, wr_1, wF_n k, wS_n k, wr_n, Bn_0, mset_s, mset_nk, mset_nj, mrow_s, mrow_n, ifeq_s, nar_0, nar_1, isB_0, isB_1, bnd_e, Option.bind_some, gd_true, gd_dec, Bool.true_and, Bool.and_true, Bool.and_self, tn_nI, inb_nI, ifle_t, ifle_f, iflt_t, iflt_f, ifeq_f, if_true, ofN_nI, nI_add, nI_subl, li_0, li_1, li_2, li_3, li_4, li_5, li_6, li_7, li_8, li_9, li_10, li_11, li_12, li_13, li_14, li_15, li_16, li_17, li_18, li_19, li_20, li_21, li_22, li_23, li_24, li_25, li_26, li_27, li_28, li_29, li_30, li_31, li_32, li_60, li_63, li_64, li_80, li_100, li_128, li_160, li_320, li_511, li_512, li_1600, li_1700, li_2000, li_2048, li_32000, li_2147483647])
  obtain ⟨m3, m4, m5, -⟩ := hM.2 p hp
  obtain ⟨n3, n4, n5, -, -, n11, n9, -⟩ := hM.2 s hs
  obtain ⟨c3, c4, c5, -⟩ := hC.2 p hp
  obtain ⟨d3, d4, d5, d9, -⟩ := hC.2 s hs
  have n9 := n9 (b / 8) (by omega)
  have d9 := d9 (b / 8) (by omega)
  have ip := hI.1 p hp
  have is := hI.1 s hs
  have it := is.2.2.2.2.2.2.2.2.1 (b / 8) (by omega)
  by_cases kp : kd p = 0
  · rw [kp] at m3 c3
    by_cases ks : kd s = 1
    · rw [ks] at n3 d3
      by_cases ss : st s = 0
      · rw [ss] at n5 d5
        have ne : s ≠ p := fun e => by rw [e] at ks; omega
        have n9' : Bg R 9 (4 * s + b / 8) = oI (tb s (b / 8)) := by rw [Bg_a _ (by omega)]; exact n9
        by_cases tz : tb s (b / 8) = 20
        · rw [tz] at n9' d9
          refine ⟨nI 5, C, Bn R 5, ?_, ?_, Rel_Bn h 5⟩
          · simp (disch := omega) only [fX5_data, isPage_t hp, isPage_t hs, isBlock_t hb, isFrame_t hf, areDR_t hr1 hr7, rN_s hp c3 (rS_0 (l := 0) hs d3 d5 (by omega) (by omega)), hR_n hs hb d9, isPg_p, isI_p1, isI_p2, isI_p3, isI_p4, lnC_p1, lnC_p2, lnC_p3, lnC_p4, isI_r, lnC_r, isI_k, lnC_134, lnC_136, lnC_137, lnC_138, lnC_139, lnC_140, lnC_141, lnC_142, mset_s, mset_nk, mset_nj, mrow_s, mrow_n, ifeq_s, nar_0, nar_1, isB_0, isB_1, bnd_e, jn_e, Option.bind_some, gd_true, gd_dec, Bool.true_and, Bool.and_true, Bool.and_self, tn_nI, inb_nI, ifle_t, ifle_f, iflt_t, iflt_f, ifeq_f, if_true, ofN_nI, nI_add, nI_subl, li_0, li_1, li_2, li_3, li_4, li_5, li_6, li_7, li_8, li_9, li_10, li_11, li_12, li_13, li_14, li_15, li_16, li_17, li_18, li_19, li_20, li_21, li_22, li_23, li_24, li_25, li_26, li_27, li_28, li_29, li_30, li_31, li_32, li_60, li_63, li_64, li_80, li_100, li_128, li_160, li_320, li_511, li_512, li_1600, li_1700, li_2000, li_2048, li_32000, li_2147483647]
          · simp (disch := omega) only [fX6_data, begin_m, noPage_t hp, noPage_t hs, noBlock_t hb, noFrame_t hf, wrong_0, wF_t hp m3, wS_t hs n3 n5, Bg_0, iT_n hs hb n9', wr_1, Bn_0, mset_s, mset_nk, mset_nj, mrow_s, mrow_n, ifeq_s, nar_0, nar_1, isB_0, isB_1, bnd_e, Option.bind_some, gd_true, gd_dec, Bool.true_and, Bool.and_true, Bool.and_self, tn_nI, inb_nI, ifle_t, ifle_f, iflt_t, iflt_f, ifeq_f, if_true, ofN_nI, nI_add, nI_subl, li_0, li_1, li_2, li_3, li_4, li_5, li_6, li_7, li_8, li_9, li_10, li_11, li_12, li_13, li_14, li_15, li_16, li_17, li_18, li_19, li_20, li_21, li_22, li_23, li_24, li_25, li_26, li_27, li_28, li_29, li_30, li_31, li_32, li_60, li_63, li_64, li_80, li_100, li_128, li_160, li_320, li_511, li_512, li_1600, li_1700, li_2000, li_2048, li_32000, li_2147483647]; repeat (refine js ?_; simp (disch := omega) only [begin_m, noPage_t hp, noPage_t hs, noBlock_t hb, noFrame_t hf, wrong_0, wF_t hp m3, wS_t hs n3 n5, Bg_0, iT_n hs hb n9', wr_1, Bn_0, mset_s, mset_nk, mset_nj, mrow_s, mrow_n, ifeq_s, nar_0, nar_1, isB_0, isB_1, bnd_e, Option.bind_some, gd_true, gd_dec, Bool.true_and, Bool.and_true, Bool.and_self, tn_nI, inb_nI, ifle_t, ifle_f, iflt_t, iflt_f, ifeq_f, if_true, ofN_nI, nI_add, nI_subl, li_0, li_1, li_2, li_3, li_4, li_5, li_6, li_7, li_8, li_9, li_10, li_11, li_12, li_13, li_14, li_15, li_16, li_17, li_18, li_19, li_20, li_21, li_22, li_23, li_24, li_25, li_26, li_27, li_28, li_29, li_30, li_31, li_32, li_60, li_63, li_64, li_80, li_100, li_128, li_160, li_320, li_511, li_512, li_1600, li_1700, li_2000, li_2048, li_32000, li_2147483647])
        obtain ⟨T, hT⟩ : ∃ T, T = tb s (b / 8) := ⟨_, rfl⟩
        obtain ⟨i, hi0⟩ : ∃ i, i = b % 8 := ⟨_, rfl⟩
        have hi : i < 8 := by omega
        rw [← hT] at d9 n9 n9' tz it
        have tl : T < 20 := by omega
        have m7 := (hM.2 T tl).2.2.2.2.2.2.2.1 i hi
        have c4' := (hC.2 T tl).2.2.2.2.1 i hi
        have m7' : Bg R 7 (8 * T + i) = eI (en T i) := by rw [Bg_a _ (by omega)]; exact m7
        have iT := hI.1 T tl
        have ie := iT.2.2.2.2.2.2.2.2.2.1 i hi
        have itk := iT_t hs hb tl n9' ie (by rw [← hi0]; exact m7')
        have hlink := hI.2.1 s hs ks (by omega) (b / 8) (by omega) (by rw [← hT]; exact tl)
        rw [← hT] at hlink
        by_cases e0 : en T i = 0
        · rw [if_pos e0] at itk
          rw [e0] at c4'
          have nT : T ≠ p := fun e => by rw [e] at hlink; omega
          have q0 := RQ_Bg ⟨hM, hC⟩ hI
          have q1 := RQ_cl q0 (IV85 hI) (k := 4) (o := s) hp (by omega)
          have i1 := IV_kd hI hs (p := p) (b := 4) (by omega) (by omega) ks (fun e => absurd e (by omega))
          rw [oI_t hs] at q1
          obtain ⟨C1, hC1⟩ : ∃ C1, C1 = mset (mset C (33 + 5 * p) 0 (nI 4)) (33 + 5 * p) 1 (nI s) := ⟨_, rfl⟩
          obtain ⟨R1, hR1⟩ : ∃ R1, R1 = mset (mset (Bg R) 3 p (nI 4)) 4 p (nI s) := ⟨_, rfl⟩
          rw [← hC1, ← hR1] at q1
          obtain ⟨g, hg⟩ : ∃ g : Nat → Int32, g = fun j => if 16 * p ≤ j ∧ j < 16 * p + 16 then R 2 (16 * f + (j - 16 * p)) else R 6 j := ⟨_, rfl⟩
          obtain ⟨C2, hC2⟩ : ∃ C2, C2 = mrow C1 (5 + p) (va_cpy (C (5 + (20 + f))) (C (5 + p)) 0 0 16) := ⟨_, rfl⟩
          have r6 : R1 6 = R 6 := by rw [hR1, mset_nk _ _ _ (by omega), mset_nk _ _ _ (by omega), Bg_a _ (by omega)]
          have r2 : R1 2 = R 2 := by rw [hR1, mset_nk _ _ _ (by omega), mset_nk _ _ _ (by omega), Bg_a _ (by omega)]
          have cf : ∀ j, j < 16 → C (5 + (20 + f)) j = R 2 (16 * f + j) := fun j hj => hC.1.2.2.2.2 f hf j hj
          have q2 : RQ C2 (mrow R1 6 g) 20 _ _ st md et lg tb en rt := RQ_wd q1 (IV85 i1) hp
            (fun j hj => by rw [hC2, mrow_s, mrow_s, cpy16 hj, cf j hj, hg]; show _ = if _ then _ else _; rw [if_pos (by omega), Nat.add_sub_cancel_left])
            (fun a ha => by rw [hC2, mrow_n _ _ ha])
            (fun j hj => by rw [mrow_s, r6, hg]; exact if_neg (by omega))
            (fun a ha => mrow_n _ _ ha)
          have tb2 : C2 (33 + 5 * s + 1) (b / 8) = oI T := by rw [hT]; exact (q2.2.2 s hs).2.2.2.1 (b / 8) (by omega)
          have mp := map_t (w := p) (r := r) hs hb tl tb2 (by omega) (by omega)
          rw [← hi0] at mp
          obtain ⟨R2, hR2⟩ : ∃ R2, R2 = mset R1 7 (8 * T + i) (nI (p + 1)) := ⟨_, rfl⟩
          obtain ⟨R2', hR2'⟩ : ∃ R2', R2' = mset R2 8 (8 * T + i) (nI r) := ⟨_, rfl⟩
          have q3 := RQ_en q2 (IV85 i1) (T := T) (i := i) (e := p + 1) (rt' := up2 rt T i r) (R' := mrow R2' 6 g) tl hi
            (by rw [mrow_n _ _ (by omega), hR2', mset_nk _ _ _ (by omega), hR2, mset_s, eI_p (by omega)])
            (fun _ => by rw [mrow_n _ _ (by omega), hR2', mset_s, up2_s])
            (fun a b h1 h2 => by
              rw [mrow_get, mrow_get]
              by_cases e : a = 6
              · rw [if_pos e, if_pos e]
              · rw [if_neg e, if_neg e, hR2', mset_nk _ _ _ h2, hR2, mset_nk _ _ _ h1])
            (fun b hb => by
              rw [mrow_n _ _ (by omega), mrow_n _ _ (by omega), mrow_n _ _ (by omega), mrow_n _ _ (by omega), hR2']
              exact ⟨by rw [mset_nk _ _ _ (by omega), hR2, mset_nj _ _ _ hb], by rw [mset_nj _ _ _ hb, hR2, mset_nk _ _ _ (by omega)]⟩)
            (fun t j hn => up2_n _ _ hn)
          have i2 := IV_map (T := T) (i := i) (e := p + 1) (r := r) i1 e0 (by omega) (by omega) (fun _ => by
            rw [Nat.add_sub_cancel, up_s, up_s, up_n _ _ nT]
            refine ⟨rfl, hlink.2.symm, fun t ht k3 k2 j hj he => ?_⟩
            have a := up_o k3 (by omega)
            rw [up_n _ _ a.1] at k2
            have := (hI.2.2.1 t ht a.2 k2 j hj (by omega) (by omega)).1
            rw [he, Nat.add_sub_cancel] at this
            omega)
          rw [up2_s] at q3
          obtain ⟨C3, hC3⟩ : ∃ C3, C3 = mset C2 (33 + 5 * T + 4) i (cE (p + 1) r) := ⟨_, rfl⟩
          rw [← hC3] at mp q3
          have kds : up kd p 4 s = 1 := by rw [up_n _ _ ne]; exact ks
          have mds : md s = 0 := (is.2.2.2.2.2.2.2.1 ks).2 ss
          have R11 : R2' 11 s = nI (16 * lg s) := by
            have := (q3.1.2 s hs).2.2.2.2.2.1
            rw [mrow_n _ _ (by omega)] at this
            exact this
          obtain ⟨C4, e1, e2, e3, e4, e5⟩ := tell_e (C := C3) hs (nI 2) (nI b) (nI r)
          obtain ⟨R3, f1, f2, f3, f4, f5, f6⟩ := tellM_e (R := R2') hs R11 (by omega) (nI 2) (nI b) (nI r)
          have q4 := RQ_tl q3 (IV85 i2) (C' := C4) (R' := mrow R3 6 g) hs kds ss mds (blk (nI 2) (nI b) (nI r)) e2 e3 e4 e5
            (by rw [mrow_n _ _ (by omega)]; exact f2) (fun q hq => by rw [mrow_n _ _ (by omega), mrow_n _ _ (by omega)]; exact f3 q hq) (fun j hj => by rw [mrow_n _ _ (by omega)]; exact f4 j hj)
            (fun j hj => by rw [mrow_n _ _ (by omega), mrow_n _ _ (by omega)]; exact f5 j hj) (fun a h10 h11 => by
              by_cases e : a = 6
              · subst e; rw [mrow_s, mrow_s]
              · rw [mrow_n _ _ e, mrow_n _ _ e]; exact f6 a h10 h11)
          have i3 : IV (up kd p 4) (up ow p s) st md et (up lg s (lg s + 1)) tb (up2 en T i (p + 1)) (up2 rt T i r) := IV_lg i2 (by
            have a1 := hI.2.2.2.2 s hs ks ss
            have a2 := tak_map (tb := tb) (en := en) (s := s) (b := b) (e := p + 1) hb (by rw [← hT]; exact tl) (by rw [← hT, ← hi0]; exact e0) (by omega)
            rw [← hT, ← hi0] at a2
            have a3 := thr_kd (kd := kd) (ow := ow) (p := p) (b := 4) (s := s) (q := s) (by omega)
            omega)
          have u1 : up lg s (lg s + 1) s = lg s + 1 := up_s _ _ _
          obtain ⟨C5, g1, g2, g3, g4, g5⟩ := tellW_e (C := C4) (s := s) (w := 5 + p) hs (isI_r (by omega)) (by rw [lnC_r (by omega)]; omega) (by omega)
          obtain ⟨R4, k1, k2, k3, k4⟩ := data151_e (R3 := R3) (n := lg s + 1) hp hs hf f2 (by omega) (fun _ M29 => some (nI 0, mset M29 11 s (M29 11 s + nI 16)))
          have r32 : R3 2 = R 2 := by rw [f6 2 (by omega) (by omega), hR2', mset_nk _ _ _ (by omega), hR2, mset_nk _ _ _ (by omega), r2]
          have r36 : R3 6 = R 6 := by rw [f6 6 (by omega) (by omega), hR2', mset_nk _ _ _ (by omega), hR2, mset_nk _ _ _ (by omega), r6]
          have c4p : ∀ j, j < 16 → C4 (5 + p) j = R 2 (16 * f + j) := fun j hj => by rw [e5 _ (by omega) (by omega) (by omega) (by omega), hC3, mset_nk _ _ _ (by omega), hC2, mrow_s, cpy16 hj, cf j hj]
          have q5 := RQ_tl q4 (IV85 i3) (C' := C5) (R' := mset R4 11 s (R4 11 s + nI 16)) hs kds ss mds (C4 (5 + p)) g2 g3 g4 (fun a h1 h2 h3 _ => g5 a h1 h2 h3)
            (by rw [u1, mset_s, k4 11 (by omega) (by omega), f2, nI_add]; exact congrArg nI (by omega))
            (fun q hq => by rw [mset_nj _ _ _ hq, k4 11 (by omega) (by omega), mrow_n _ _ (by omega)])
            (fun j hj => by rw [u1, mset_nk _ _ _ (by omega), k3, if_pos (by omega), c4p j hj, r32]; congr 1; omega)
            (fun j hj => by rw [u1] at hj; rw [mset_nk _ _ _ (by omega), k3, if_neg (by omega), mrow_n _ _ (by omega)])
            (fun a h10 h11 => by
              rw [mset_nk _ _ _ h11]
              by_cases e : a = 6
              · subst e
                rw [mrow_s]
                funext j
                rw [k2, hg, r32, r36]
              · rw [mrow_n _ _ e, k4 a e h10])
          rw [u1] at q5
          refine ⟨nI 0, C5, mset R4 11 s (R4 11 s + nI 16), ?_, ?_, ⟨_, _, _, _, _, _, _, _, _, q5.1, q5.2, IV_lg i3 ?_⟩⟩
          · simp (disch := omega) only [fX5_data, isPage_t hp, isPage_t hs, isBlock_t hb, isFrame_t hf, areDR_t hr1 hr7, rN_s hp c3 (rS_0 (l := 0) hs d3 d5 (by omega) (by omega)), hR_t hs hb tl d9 (by rw [← hi0]; exact c4'), fX4_claim, frameRow_e hf, ← hC1, ← hC2, mp, e1, g1, Nat.zero_add, Nat.le_refl, decide_true, isPg_p, isI_p1, isI_p2, isI_p3, isI_p4, lnC_p1, lnC_p2, lnC_p3, lnC_p4, isI_r, lnC_r, isI_k, lnC_134, lnC_136, lnC_137, lnC_138, lnC_139, lnC_140, lnC_141, lnC_142, mset_s, mset_nk, mset_nj, mrow_s, mrow_n, ifeq_s, nar_0, nar_1, isB_0, isB_1, bnd_e, jn_e, Option.bind_some, gd_true, gd_dec, Bool.true_and, Bool.and_true, Bool.and_self, tn_nI, inb_nI, ifle_t, ifle_f, iflt_t, iflt_f, ifeq_f, if_true, ofN_nI, nI_add, nI_subl, li_0, li_1, li_2, li_3, li_4, li_5, li_6, li_7, li_8, li_9, li_10, li_11, li_12, li_13, li_14, li_15, li_16, li_17, li_18, li_19, li_20, li_21, li_22, li_23, li_24, li_25, li_26, li_27, li_28, li_29, li_30, li_31, li_32, li_60, li_63, li_64, li_80, li_100, li_128, li_160, li_320, li_511, li_512, li_1600, li_1700, li_2000, li_2048, li_32000, li_2147483647]
          · have eo1 := eO_e (M := R1) hs hb tl (by rw [hR1, mset_nk _ _ _ (by omega), mset_nk _ _ _ (by omega)]; exact n9')
            have eo2 := eO_e (M := R2) hs hb tl (by rw [hR2, mset_nk _ _ _ (by omega), hR1, mset_nk _ _ _ (by omega), mset_nk _ _ _ (by omega)]; exact n9')
            rw [← hi0] at eo1 eo2
            simp (disch := omega) only [fX6_data, begin_m, noPage_t hp, noPage_t hs, noBlock_t hb, noFrame_t hf, wrong_0, wF_t hp m3, wS_t hs n3 n5, Bg_0, itk, fX6_become, ← hR1, eo1, ← hR2, eo2, ← hR2', f1, k1, mset_s, mset_nk, mset_nj, mrow_s, mrow_n, ifeq_s, nar_0, nar_1, isB_0, isB_1, bnd_e, Option.bind_some, gd_true, gd_dec, Bool.true_and, Bool.and_true, Bool.and_self, tn_nI, inb_nI, ifle_t, ifle_f, iflt_t, iflt_f, ifeq_f, if_true, ofN_nI, nI_add, nI_subl, li_0, li_1, li_2, li_3, li_4, li_5, li_6, li_7, li_8, li_9, li_10, li_11, li_12, li_13, li_14, li_15, li_16, li_17, li_18, li_19, li_20, li_21, li_22, li_23, li_24, li_25, li_26, li_27, li_28, li_29, li_30, li_31, li_32, li_60, li_63, li_64, li_80, li_100, li_128, li_160, li_320, li_511, li_512, li_1600, li_1700, li_2000, li_2048, li_32000, li_2147483647]; repeat (refine js ?_; simp (disch := omega) only [begin_m, noPage_t hp, noPage_t hs, noBlock_t hb, noFrame_t hf, wrong_0, wF_t hp m3, wS_t hs n3 n5, Bg_0, itk, fX6_become, ← hR1, eo1, ← hR2, eo2, ← hR2', f1, k1, mset_s, mset_nk, mset_nj, mrow_s, mrow_n, ifeq_s, nar_0, nar_1, isB_0, isB_1, bnd_e, Option.bind_some, gd_true, gd_dec, Bool.true_and, Bool.and_true, Bool.and_self, tn_nI, inb_nI, ifle_t, ifle_f, iflt_t, iflt_f, ifeq_f, if_true, ofN_nI, nI_add, nI_subl, li_0, li_1, li_2, li_3, li_4, li_5, li_6, li_7, li_8, li_9, li_10, li_11, li_12, li_13, li_14, li_15, li_16, li_17, li_18, li_19, li_20, li_21, li_22, li_23, li_24, li_25, li_26, li_27, li_28, li_29, li_30, li_31, li_32, li_60, li_63, li_64, li_80, li_100, li_128, li_160, li_320, li_511, li_512, li_1600, li_1700, li_2000, li_2048, li_32000, li_2147483647])
          · have a1 := hI.2.2.2.2 s hs ks ss
            have a2 := tak_map (tb := tb) (en := en) (s := s) (b := b) (e := p + 1) hb (by rw [← hT]; exact tl) (by rw [← hT, ← hi0]; exact e0) (by omega)
            rw [← hT, ← hi0] at a2
            have a3 := thr_kd (kd := kd) (ow := ow) (p := p) (b := 4) (s := s) (q := s) (by omega)
            omega
        · rw [if_neg e0] at itk
          have ir := iT.2.2.2.2.2.2.2.2.2.2 i hi e0
          refine ⟨nI 5, C, Bn R 5, ?_, ?_, Rel_Bn h 5⟩
          · simp (disch := omega) only [fX5_data, isPage_t hp, isPage_t hs, isBlock_t hb, isFrame_t hf, areDR_t hr1 hr7, rN_s hp c3 (rS_0 (l := 0) hs d3 d5 (by omega) (by omega)), hR_f hs hb tl d9 e0 ie ir (by rw [← hi0]; exact c4'), isPg_p, isI_p1, isI_p2, isI_p3, isI_p4, lnC_p1, lnC_p2, lnC_p3, lnC_p4, isI_r, lnC_r, isI_k, lnC_134, lnC_136, lnC_137, lnC_138, lnC_139, lnC_140, lnC_141, lnC_142, mset_s, mset_nk, mset_nj, mrow_s, mrow_n, ifeq_s, nar_0, nar_1, isB_0, isB_1, bnd_e, jn_e, Option.bind_some, gd_true, gd_dec, Bool.true_and, Bool.and_true, Bool.and_self, tn_nI, inb_nI, ifle_t, ifle_f, iflt_t, iflt_f, ifeq_f, if_true, ofN_nI, nI_add, nI_subl, li_0, li_1, li_2, li_3, li_4, li_5, li_6, li_7, li_8, li_9, li_10, li_11, li_12, li_13, li_14, li_15, li_16, li_17, li_18, li_19, li_20, li_21, li_22, li_23, li_24, li_25, li_26, li_27, li_28, li_29, li_30, li_31, li_32, li_60, li_63, li_64, li_80, li_100, li_128, li_160, li_320, li_511, li_512, li_1600, li_1700, li_2000, li_2048, li_32000, li_2147483647]
          · simp (disch := omega) only [fX6_data, begin_m, noPage_t hp, noPage_t hs, noBlock_t hb, noFrame_t hf, wrong_0, wF_t hp m3, wS_t hs n3 n5, Bg_0, itk, wr_1, Bn_0, mset_s, mset_nk, mset_nj, mrow_s, mrow_n, ifeq_s, nar_0, nar_1, isB_0, isB_1, bnd_e, Option.bind_some, gd_true, gd_dec, Bool.true_and, Bool.and_true, Bool.and_self, tn_nI, inb_nI, ifle_t, ifle_f, iflt_t, iflt_f, ifeq_f, if_true, ofN_nI, nI_add, nI_subl, li_0, li_1, li_2, li_3, li_4, li_5, li_6, li_7, li_8, li_9, li_10, li_11, li_12, li_13, li_14, li_15, li_16, li_17, li_18, li_19, li_20, li_21, li_22, li_23, li_24, li_25, li_26, li_27, li_28, li_29, li_30, li_31, li_32, li_60, li_63, li_64, li_80, li_100, li_128, li_160, li_320, li_511, li_512, li_1600, li_1700, li_2000, li_2048, li_32000, li_2147483647]; repeat (refine js ?_; simp (disch := omega) only [begin_m, noPage_t hp, noPage_t hs, noBlock_t hb, noFrame_t hf, wrong_0, wF_t hp m3, wS_t hs n3 n5, Bg_0, itk, wr_1, Bn_0, mset_s, mset_nk, mset_nj, mrow_s, mrow_n, ifeq_s, nar_0, nar_1, isB_0, isB_1, bnd_e, Option.bind_some, gd_true, gd_dec, Bool.true_and, Bool.and_true, Bool.and_self, tn_nI, inb_nI, ifle_t, ifle_f, iflt_t, iflt_f, ifeq_f, if_true, ofN_nI, nI_add, nI_subl, li_0, li_1, li_2, li_3, li_4, li_5, li_6, li_7, li_8, li_9, li_10, li_11, li_12, li_13, li_14, li_15, li_16, li_17, li_18, li_19, li_20, li_21, li_22, li_23, li_24, li_25, li_26, li_27, li_28, li_29, li_30, li_31, li_32, li_60, li_63, li_64, li_80, li_100, li_128, li_160, li_320, li_511, li_512, li_1600, li_1700, li_2000, li_2048, li_32000, li_2147483647])
      · refine ⟨nI 4, C, Bn R 4, ?_, ?_, Rel_Bn h 4⟩
        · simp (disch := omega) only [fX5_data, isPage_t hp, isPage_t hs, isBlock_t hb, isFrame_t hf, areDR_t hr1 hr7, rN_s hp c3 (rS_4 (l := 0) hs d3 d5 (by omega) (by omega)), mset_s, mset_nk, mset_nj, mrow_s, mrow_n, ifeq_s, nar_0, nar_1, isB_0, isB_1, bnd_e, jn_e, Option.bind_some, gd_true, gd_dec, Bool.true_and, Bool.and_true, Bool.and_self, tn_nI, inb_nI, ifle_t, ifle_f, iflt_t, iflt_f, ifeq_f, if_true, ofN_nI, nI_add, nI_subl, li_0, li_1, li_2, li_3, li_4, li_5, li_6, li_7, li_8, li_9, li_10, li_11, li_12, li_13, li_14, li_15, li_16, li_17, li_18, li_19, li_20, li_21, li_22, li_23, li_24, li_25, li_26, li_27, li_28, li_29, li_30, li_31, li_32, li_60, li_63, li_64, li_80, li_100, li_128, li_160, li_320, li_511, li_512, li_1600, li_1700, li_2000, li_2048, li_32000, li_2147483647]
        · simp (disch := omega) only [fX6_data, begin_m, noPage_t hp, noPage_t hs, noBlock_t hb, noFrame_t hf, wrong_0, wF_t hp m3, wS_4 (v := 0) hs n3 n5 (by omega) (by omega) ss, wr_n, Bn_0, mset_s, mset_nk, mset_nj, mrow_s, mrow_n, ifeq_s, nar_0, nar_1, isB_0, isB_1, bnd_e, Option.bind_some, gd_true, gd_dec, Bool.true_and, Bool.and_true, Bool.and_self, tn_nI, inb_nI, ifle_t, ifle_f, iflt_t, iflt_f, ifeq_f, if_true, ofN_nI, nI_add, nI_subl, li_0, li_1, li_2, li_3, li_4, li_5, li_6, li_7, li_8, li_9, li_10, li_11, li_12, li_13, li_14, li_15, li_16, li_17, li_18, li_19, li_20, li_21, li_22, li_23, li_24, li_25, li_26, li_27, li_28, li_29, li_30, li_31, li_32, li_60, li_63, li_64, li_80, li_100, li_128, li_160, li_320, li_511, li_512, li_1600, li_1700, li_2000, li_2048, li_32000, li_2147483647]; repeat (refine js ?_; simp (disch := omega) only [begin_m, noPage_t hp, noPage_t hs, noBlock_t hb, noFrame_t hf, wrong_0, wF_t hp m3, wS_4 (v := 0) hs n3 n5 (by omega) (by omega) ss, wr_n, Bn_0, mset_s, mset_nk, mset_nj, mrow_s, mrow_n, ifeq_s, nar_0, nar_1, isB_0, isB_1, bnd_e, Option.bind_some, gd_true, gd_dec, Bool.true_and, Bool.and_true, Bool.and_self, tn_nI, inb_nI, ifle_t, ifle_f, iflt_t, iflt_f, ifeq_f, if_true, ofN_nI, nI_add, nI_subl, li_0, li_1, li_2, li_3, li_4, li_5, li_6, li_7, li_8, li_9, li_10, li_11, li_12, li_13, li_14, li_15, li_16, li_17, li_18, li_19, li_20, li_21, li_22, li_23, li_24, li_25, li_26, li_27, li_28, li_29, li_30, li_31, li_32, li_60, li_63, li_64, li_80, li_100, li_128, li_160, li_320, li_511, li_512, li_1600, li_1700, li_2000, li_2048, li_32000, li_2147483647])
    · refine ⟨nI 3, C, Bn R 3, ?_, ?_, Rel_Bn h 3⟩
      · simp (disch := omega) only [fX5_data, isPage_t hp, isPage_t hs, isBlock_t hb, isFrame_t hf, areDR_t hr1 hr7, rN_s hp c3 (rS_3 hs d3 (by omega) ks), mset_s, mset_nk, mset_nj, mrow_s, mrow_n, ifeq_s, nar_0, nar_1, isB_0, isB_1, bnd_e, jn_e, Option.bind_some, gd_true, gd_dec, Bool.true_and, Bool.and_true, Bool.and_self, tn_nI, inb_nI, ifle_t, ifle_f, iflt_t, iflt_f, ifeq_f, if_true, ofN_nI, nI_add, nI_subl, li_0, li_1, li_2, li_3, li_4, li_5, li_6, li_7, li_8, li_9, li_10, li_11, li_12, li_13, li_14, li_15, li_16, li_17, li_18, li_19, li_20, li_21, li_22, li_23, li_24, li_25, li_26, li_27, li_28, li_29, li_30, li_31, li_32, li_60, li_63, li_64, li_80, li_100, li_128, li_160, li_320, li_511, li_512, li_1600, li_1700, li_2000, li_2048, li_32000, li_2147483647]
      · simp (disch := omega) only [fX6_data, begin_m, noPage_t hp, noPage_t hs, noBlock_t hb, noFrame_t hf, wrong_0, wF_t hp m3, wS_3 hs n3 (show kd s < 10 by omega) ks, wr_n, Bn_0, mset_s, mset_nk, mset_nj, mrow_s, mrow_n, ifeq_s, nar_0, nar_1, isB_0, isB_1, bnd_e, Option.bind_some, gd_true, gd_dec, Bool.true_and, Bool.and_true, Bool.and_self, tn_nI, inb_nI, ifle_t, ifle_f, iflt_t, iflt_f, ifeq_f, if_true, ofN_nI, nI_add, nI_subl, li_0, li_1, li_2, li_3, li_4, li_5, li_6, li_7, li_8, li_9, li_10, li_11, li_12, li_13, li_14, li_15, li_16, li_17, li_18, li_19, li_20, li_21, li_22, li_23, li_24, li_25, li_26, li_27, li_28, li_29, li_30, li_31, li_32, li_60, li_63, li_64, li_80, li_100, li_128, li_160, li_320, li_511, li_512, li_1600, li_1700, li_2000, li_2048, li_32000, li_2147483647]; repeat (refine js ?_; simp (disch := omega) only [begin_m, noPage_t hp, noPage_t hs, noBlock_t hb, noFrame_t hf, wrong_0, wF_t hp m3, wS_3 hs n3 (show kd s < 10 by omega) ks, wr_n, Bn_0, mset_s, mset_nk, mset_nj, mrow_s, mrow_n, ifeq_s, nar_0, nar_1, isB_0, isB_1, bnd_e, Option.bind_some, gd_true, gd_dec, Bool.true_and, Bool.and_true, Bool.and_self, tn_nI, inb_nI, ifle_t, ifle_f, iflt_t, iflt_f, ifeq_f, if_true, ofN_nI, nI_add, nI_subl, li_0, li_1, li_2, li_3, li_4, li_5, li_6, li_7, li_8, li_9, li_10, li_11, li_12, li_13, li_14, li_15, li_16, li_17, li_18, li_19, li_20, li_21, li_22, li_23, li_24, li_25, li_26, li_27, li_28, li_29, li_30, li_31, li_32, li_60, li_63, li_64, li_80, li_100, li_128, li_160, li_320, li_511, li_512, li_1600, li_1700, li_2000, li_2048, li_32000, li_2147483647])
  · refine ⟨nI 2, C, Bn R 2, ?_, ?_, Rel_Bn h 2⟩
    · simp (disch := omega) only [fX5_data, isPage_t hp, isPage_t hs, isBlock_t hb, isFrame_t hf, areDR_t hr1 hr7, rN_2 hp c3 (show kd p < 10 by omega) kp, mset_s, mset_nk, mset_nj, mrow_s, mrow_n, ifeq_s, nar_0, nar_1, isB_0, isB_1, bnd_e, jn_e, Option.bind_some, gd_true, gd_dec, Bool.true_and, Bool.and_true, Bool.and_self, tn_nI, inb_nI, ifle_t, ifle_f, iflt_t, iflt_f, ifeq_f, if_true, ofN_nI, nI_add, nI_subl, li_0, li_1, li_2, li_3, li_4, li_5, li_6, li_7, li_8, li_9, li_10, li_11, li_12, li_13, li_14, li_15, li_16, li_17, li_18, li_19, li_20, li_21, li_22, li_23, li_24, li_25, li_26, li_27, li_28, li_29, li_30, li_31, li_32, li_60, li_63, li_64, li_80, li_100, li_128, li_160, li_320, li_511, li_512, li_1600, li_1700, li_2000, li_2048, li_32000, li_2147483647]
    · simp (disch := omega) only [fX6_data, begin_m, noPage_t hp, noPage_t hs, noBlock_t hb, noFrame_t hf, wrong_0, wF_2 hp m3 (show kd p < 10 by omega) kp, wS_n k, wr_n, Bn_0, mset_s, mset_nk, mset_nj, mrow_s, mrow_n, ifeq_s, nar_0, nar_1, isB_0, isB_1, bnd_e, Option.bind_some, gd_true, gd_dec, Bool.true_and, Bool.and_true, Bool.and_self, tn_nI, inb_nI, ifle_t, ifle_f, iflt_t, iflt_f, ifeq_f, if_true, ofN_nI, nI_add, nI_subl, li_0, li_1, li_2, li_3, li_4, li_5, li_6, li_7, li_8, li_9, li_10, li_11, li_12, li_13, li_14, li_15, li_16, li_17, li_18, li_19, li_20, li_21, li_22, li_23, li_24, li_25, li_26, li_27, li_28, li_29, li_30, li_31, li_32, li_60, li_63, li_64, li_80, li_100, li_128, li_160, li_320, li_511, li_512, li_1600, li_1700, li_2000, li_2048, li_32000, li_2147483647]; repeat (refine js ?_; simp (disch := omega) only [begin_m, noPage_t hp, noPage_t hs, noBlock_t hb, noFrame_t hf, wrong_0, wF_2 hp m3 (show kd p < 10 by omega) kp, wS_n k, wr_n, Bn_0, mset_s, mset_nk, mset_nj, mrow_s, mrow_n, ifeq_s, nar_0, nar_1, isB_0, isB_1, bnd_e, Option.bind_some, gd_true, gd_dec, Bool.true_and, Bool.and_true, Bool.and_self, tn_nI, inb_nI, ifle_t, ifle_f, iflt_t, iflt_f, ifeq_f, if_true, ofN_nI, nI_add, nI_subl, li_0, li_1, li_2, li_3, li_4, li_5, li_6, li_7, li_8, li_9, li_10, li_11, li_12, li_13, li_14, li_15, li_16, li_17, li_18, li_19, li_20, li_21, li_22, li_23, li_24, li_25, li_26, li_27, li_28, li_29, li_30, li_31, li_32, li_60, li_63, li_64, li_80, li_100, li_128, li_160, li_320, li_511, li_512, li_1600, li_1700, li_2000, li_2048, li_32000, li_2147483647])
