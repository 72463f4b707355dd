/-! The reference's voucher and tell. -/
theorem voucherM_e {M : Mem} {p0 fr : Nat} (hi : isIM p0 = true) (hl : fr + 8 ≤ lnM p0) (hln : lnM p0 < 40000) (n1 : p0 ≠ 20) (hk : kOk M) : ∃ M', fX6_voucher M p0 (nI fr) = some M' ∧ (∀ j, j < 8 → M' 22 j = hsh (vmsg (M 1) (fun k => M p0 (fr + k)) (fun k => M 20 (16 + k))) 2 j) ∧ ∀ a, a ≠ 20 → a ≠ 21 → a ≠ 22 → a ≠ 23 → M' a = M a := by
  obtain ⟨st, hst⟩ : ∃ st : Nat → (Nat → Int32) → Nat → Int32, st = fun i v => upd (upd (upd v i (M 1 i)) (8 + i) (M p0 (fr + i))) (24 + i) 0 := ⟨_, rfl⟩
  have key := loop_up (fun n x (v : Nat → Int32) => lp_X6_voucher_2 p0 (nI fr) (fun _ M5 => (fX6_hash M5 (32 : Int32)).bind (fun q6 => some q6)) n x (mrow M 20 v)) st (fun x v => (fX6_hash (mrow M 20 v) (32 : Int32)).bind (fun q6 => some q6)) 8
    (fun n i v hi' => by
      simp (disch := omega) only [lp_X6_voucher_2_s, mset_mset, hi, bnd_e, jn_e, Option.bind_some, gd_true, gd_dec, Bool.true_and, Bool.and_true, Bool.and_self, tn_nI, inb_nI, ifle_t, ifle_f, iflt_t, iflt_f, ifeq_f, if_true, ofN_nI, nI_add, nI_subl, li_0, li_1, li_2, li_3, li_4, li_5, li_6, li_7, li_8, li_9, li_10, li_11, li_12, li_13, li_14, li_15, li_16, li_17, li_18, li_19, li_20, li_21, li_22, li_23, li_24, li_25, li_26, li_27, li_28, li_29, li_30, li_31, li_32, li_60, li_63, li_64, li_80, li_100, li_128, li_160, li_320, li_511, li_512, li_1600, li_1700, li_2000, li_2048, li_32000, li_2147483647]
      rw [mrow_n M _ (show (1 : Nat) ≠ 20 by omega), mrow_n M _ n1, hst]
      rfl)
    (fun n v => by simp (disch := omega) only [lp_X6_voucher_2_s, bnd_e, jn_e, Option.bind_some, gd_true, gd_dec, Bool.true_and, Bool.and_true, Bool.and_self, tn_nI, inb_nI, ifle_t, ifle_f, iflt_t, iflt_f, ifeq_f, if_true, ofN_nI, nI_add, nI_subl, li_0, li_1, li_2, li_3, li_4, li_5, li_6, li_7, li_8, li_9, li_10, li_11, li_12, li_13, li_14, li_15, li_16, li_17, li_18, li_19, li_20, li_21, li_22, li_23, li_24, li_25, li_26, li_27, li_28, li_29, li_30, li_31, li_32, li_60, li_63, li_64, li_80, li_100, li_128, li_160, li_320, li_511, li_512, li_1600, li_1700, li_2000, li_2048, li_32000, li_2147483647])
    8 0 FU (M 20) (by omega) (by have := FU_le; omega)
  obtain ⟨v, hv⟩ : ∃ v, v = itr st 8 0 (M 20) := ⟨_, rfl⟩
  rw [← hv] at key
  have inv := itr_inv (st := st) (N := 8) (fun i v => (∀ j, j < i → v j = M 1 j) ∧ (∀ j, j < i → v (8 + j) = M p0 (fr + j)) ∧ (∀ j, j < i → v (24 + j) = 0) ∧ ∀ j, j < 8 → v (16 + j) = M 20 (16 + j))
    (fun i v hi' h => by
      obtain ⟨h1, h2, h3, h4⟩ := h
      rw [hst]
      refine ⟨fun j hj => ?_, fun j hj => ?_, fun j hj => ?_, fun j hj => ?_⟩
      · show upd (upd (upd v i (M 1 i)) (8 + i) (M p0 (fr + i))) (24 + i) 0 j = _
        rw [upd_n _ _ (by omega), upd_n _ _ (by omega)]
        by_cases h : j = i
        · subst h; rw [upd_s]
        · rw [upd_n _ _ h, h1 j (by omega)]
      · show upd (upd (upd v i (M 1 i)) (8 + i) (M p0 (fr + i))) (24 + i) 0 (8 + j) = _
        rw [upd_n _ _ (by omega)]
        by_cases h : j = i
        · subst h; rw [upd_s]
        · rw [upd_n _ _ (by omega), upd_n _ _ (by omega), h2 j (by omega)]
      · show upd (upd (upd v i (M 1 i)) (8 + i) (M p0 (fr + i))) (24 + i) 0 (24 + j) = _
        by_cases h : j = i
        · subst h; rw [upd_s]
        · rw [upd_n _ _ (by omega), upd_n _ _ (by omega), upd_n _ _ (by omega), h3 j (by omega)]
      · show upd (upd (upd v i (M 1 i)) (8 + i) (M p0 (fr + i))) (24 + i) 0 (16 + j) = _
        rw [upd_n _ _ (by omega), upd_n _ _ (by omega), upd_n _ _ (by omega), h4 j hj])
    8 0 (M 20) (by omega) ⟨fun j hj => absurd hj (by omega), fun j hj => absurd hj (by omega), fun j hj => absurd hj (by omega), fun j _ => rfl⟩
  rw [← hv] at inv
  obtain ⟨v1, v2, v3, v4⟩ := inv
  obtain ⟨M', f1, f2, f3⟩ := hash_e (M := mrow M 20 v) (m := 2) (by omega) ⟨fun t ht => by rw [mrow_n _ _ (by omega)]; exact hk.1 t ht, fun j hj => by rw [mrow_n _ _ (by omega)]; exact hk.2 j hj⟩
  have f1' : fX6_hash (mrow M 20 v) (32 : Int32) = some M' := f1
  refine ⟨M', ?_, ?_, ?_⟩
  · unfold fX6_voucher
    simp only [jn_e, li_0]
    have h0 : ∀ F, lp_X6_voucher_2 p0 (nI fr) F FU (nI 0) M = lp_X6_voucher_2 p0 (nI fr) F FU (nI 0) (mrow M 20 (M 20)) := fun F => by rw [mrow_id]
    rw [h0]
    refine key.trans ?_
    rw [f1']
    rfl
  · intro j hj
    rw [f2 j hj, mrow_s]
    refine hsh_congr (fun i hi' => ?_) j hj
    unfold vmsg
    by_cases h8 : i < 8
    · rw [if_pos h8, v1 i (by omega)]
    · by_cases h16 : i < 16
      · rw [if_neg h8, if_pos h16]
        show v i = M p0 (fr + (i - 8))
        rw [← v2 (i - 8) (by omega)]
        congr 1
        omega
      · by_cases h24 : i < 24
        · rw [if_neg h8, if_neg h16, if_pos h24]
          show v i = M 20 (16 + (i - 16))
          rw [← v4 (i - 16) (by omega)]
          congr 1
          omega
        · rw [if_neg h8, if_neg h16, if_neg h24, ← v3 (i - 24) (by omega)]
          congr 1
          omega
  · intro a h0 h1 h2 h3
    rw [f3 a h0 h1 h2 h3, mrow_n _ _ h0]
theorem tellM_e {R : Mem} {s n : Nat} (hs : s < 20) (hn : R 11 s = nI (16 * n)) (hb : n ≤ 98) (x y z : Int32) : ∃ R', fX6_tell R (nI s) x y z = some R' ∧ R' 11 s = nI (16 * (n + 1)) ∧ (∀ q, q ≠ s → R' 11 q = R 11 q) ∧ (∀ k, k < 16 → R' 10 (1600 * s + (16 * n + k)) = blk x y z k) ∧ (∀ j, (j < 1600 * s + 16 * n ∨ 1600 * s + 16 * n + 16 ≤ j) → R' 10 j = R 10 j) ∧ ∀ a, a ≠ 10 → a ≠ 11 → R' a = R a := by
  obtain ⟨st, hst⟩ : ∃ st : Nat → (Nat → Int32) → Nat → Int32, st = fun i v => upd v (1600 * s + 16 * n + i) (blk x y z i) := ⟨_, rfl⟩
  obtain ⟨F, hF⟩ : ∃ F : Int32 → Mem → Option Mem, F = fun _ M7 => gd (inb (nI s) 20) (bnd (M7 11 s) (fun x8 => gd (inb (nI s) 20) (bnd (mset M7 11 s (x8 + nI 16)) (fun M9 => some M9)))) := ⟨_, rfl⟩
  have key := loop_up (fun q w (v : Nat → Int32) => lp_X6_tell_17 (nI (1600 * s + 16 * n)) x y z F q w (mrow R 10 v)) st (fun w v => F w (mrow R 10 v)) 16
    (fun q i v hi => by
      rw [hst]
      unfold blk
      by_cases h0 : i = 0
      · subst h0
        simp (disch := omega) only [lp_X6_tell_17_s, mset_mset, bnd_e, jn_e, Option.bind_some, gd_true, gd_dec, Bool.true_and, Bool.and_true, Bool.and_self, tn_nI, inb_nI, ifle_t, ifle_f, iflt_t, iflt_f, ifeq_f, if_true, ofN_nI, nI_add, nI_subl, li_0, li_1, li_2, li_3, li_4, li_5, li_6, li_7, li_8, li_9, li_10, li_11, li_12, li_13, li_14, li_15, li_16, li_17, li_18, li_19, li_20, li_21, li_22, li_23, li_24, li_25, li_26, li_27, li_28, li_29, li_30, li_31, li_32, li_60, li_63, li_64, li_80, li_100, li_128, li_160, li_320, li_511, li_512, li_1600, li_1700, li_2000, li_2048, li_32000, li_2147483647]
      · by_cases h1 : i = 1
        · subst h1
          simp (disch := omega) only [lp_X6_tell_17_s, mset_mset, Nat.one_ne_zero, if_false, bnd_e, jn_e, Option.bind_some, gd_true, gd_dec, Bool.true_and, Bool.and_true, Bool.and_self, tn_nI, inb_nI, ifle_t, ifle_f, iflt_t, iflt_f, ifeq_f, if_true, ofN_nI, nI_add, nI_subl, li_0, li_1, li_2, li_3, li_4, li_5, li_6, li_7, li_8, li_9, li_10, li_11, li_12, li_13, li_14, li_15, li_16, li_17, li_18, li_19, li_20, li_21, li_22, li_23, li_24, li_25, li_26, li_27, li_28, li_29, li_30, li_31, li_32, li_60, li_63, li_64, li_80, li_100, li_128, li_160, li_320, li_511, li_512, li_1600, li_1700, li_2000, li_2048, li_32000, li_2147483647]
        · by_cases h2 : i = 2
          · subst h2
            simp (disch := omega) only [lp_X6_tell_17_s, mset_mset, bnd_e, jn_e, Option.bind_some, gd_true, gd_dec, Bool.true_and, Bool.and_true, Bool.and_self, tn_nI, inb_nI, ifle_t, ifle_f, iflt_t, iflt_f, ifeq_f, if_true, ofN_nI, nI_add, nI_subl, li_0, li_1, li_2, li_3, li_4, li_5, li_6, li_7, li_8, li_9, li_10, li_11, li_12, li_13, li_14, li_15, li_16, li_17, li_18, li_19, li_20, li_21, li_22, li_23, li_24, li_25, li_26, li_27, li_28, li_29, li_30, li_31, li_32, li_60, li_63, li_64, li_80, li_100, li_128, li_160, li_320, li_511, li_512, li_1600, li_1700, li_2000, li_2048, li_32000, li_2147483647]
            rfl
          · simp (disch := omega) only [lp_X6_tell_17_s, mset_mset, h0, h1, h2, if_false, bnd_e, jn_e, Option.bind_some, gd_true, gd_dec, Bool.true_and, Bool.and_true, Bool.and_self, tn_nI, inb_nI, ifle_t, ifle_f, iflt_t, iflt_f, ifeq_f, if_true, ofN_nI, nI_add, nI_subl, li_0, li_1, li_2, li_3, li_4, li_5, li_6, li_7, li_8, li_9, li_10, li_11, li_12, li_13, li_14, li_15, li_16, li_17, li_18, li_19, li_20, li_21, li_22, li_23, li_24, li_25, li_26, li_27, li_28, li_29, li_30, li_31, li_32, li_60, li_63, li_64, li_80, li_100, li_128, li_160, li_320, li_511, li_512, li_1600, li_1700, li_2000, li_2048, li_32000, li_2147483647])
    (fun q v => by simp (disch := omega) only [lp_X6_tell_17_s, bnd_e, jn_e, Option.bind_some, gd_true, gd_dec, Bool.true_and, Bool.and_true, Bool.and_self, tn_nI, inb_nI, ifle_t, ifle_f, iflt_t, iflt_f, ifeq_f, if_true, ofN_nI, nI_add, nI_subl, li_0, li_1, li_2, li_3, li_4, li_5, li_6, li_7, li_8, li_9, li_10, li_11, li_12, li_13, li_14, li_15, li_16, li_17, li_18, li_19, li_20, li_21, li_22, li_23, li_24, li_25, li_26, li_27, li_28, li_29, li_30, li_31, li_32, li_60, li_63, li_64, li_80, li_100, li_128, li_160, li_320, li_511, li_512, li_1600, li_1700, li_2000, li_2048, li_32000, li_2147483647])
    16 0 FU (R 10) (by omega) (by have := FU_le; omega)
  obtain ⟨v, hv⟩ : ∃ v, v = itr st 16 0 (R 10) := ⟨_, rfl⟩
  rw [← hv] at key
  have inv := itr_inv (st := st) (N := 16) (fun i v => (∀ k, k < i → v (1600 * s + 16 * n + k) = blk x y z k) ∧ ∀ j, (j < 1600 * s + 16 * n ∨ 1600 * s + 16 * n + 16 ≤ j) → v j = R 10 j)
    (fun i v hi h => by
      rw [hst]
      refine ⟨fun k hk => ?_, fun j hj => ?_⟩
      · show upd v (1600 * s + 16 * n + i) (blk x y z i) (1600 * s + 16 * n + k) = _
        by_cases e : k = i
        · subst e; rw [upd_s]
        · rw [upd_n _ _ (by omega), h.1 k (by omega)]
      · show upd v (1600 * s + 16 * n + i) (blk x y z i) j = _
        rw [upd_n _ _ (by omega), h.2 j hj])
    16 0 (R 10) (by omega) ⟨fun k hk => absurd hk (by omega), fun _ _ => rfl⟩
  rw [← hv] at inv
  have e16 : nI (16 * n) + nI 16 = nI (16 * (n + 1)) := nI_add (16 * n) 16
  refine ⟨mset (mrow R 10 v) 11 s (nI (16 * (n + 1))), ?_, ?_, ?_, ?_, ?_, ?_⟩
  · unfold fX6_tell
    simp (disch := omega) only [hn, pk_mul, bnd_e, jn_e, Option.bind_some, gd_true, gd_dec, Bool.true_and, Bool.and_true, Bool.and_self, tn_nI, inb_nI, ifle_t, ifle_f, iflt_t, iflt_f, ifeq_f, if_true, ofN_nI, nI_add, nI_subl, li_0, li_1, li_2, li_3, li_4, li_5, li_6, li_7, li_8, li_9, li_10, li_11, li_12, li_13, li_14, li_15, li_16, li_17, li_18, li_19, li_20, li_21, li_22, li_23, li_24, li_25, li_26, li_27, li_28, li_29, li_30, li_31, li_32, li_60, li_63, li_64, li_80, li_100, li_128, li_160, li_320, li_511, li_512, li_1600, li_1700, li_2000, li_2048, li_32000, li_2147483647]
    have h0 : ∀ F, lp_X6_tell_17 (nI (1600 * s + 16 * n)) x y z F FU (nI 0) R = lp_X6_tell_17 (nI (1600 * s + 16 * n)) x y z F FU (nI 0) (mrow R 10 (R 10)) := fun F => by rw [mrow_id]
    rw [h0]
    have h1 := key
    rw [hF] at h1
    simp (disch := omega) only [bnd_e, jn_e, Option.bind_some, gd_true, gd_dec, Bool.true_and, Bool.and_true, Bool.and_self, tn_nI, inb_nI, ifle_t, ifle_f, iflt_t, iflt_f, ifeq_f, if_true, ofN_nI, nI_add, nI_subl, li_0, li_1, li_2, li_3, li_4, li_5, li_6, li_7, li_8, li_9, li_10, li_11, li_12, li_13, li_14, li_15, li_16, li_17, li_18, li_19, li_20, li_21, li_22, li_23, li_24, li_25, li_26, li_27, li_28, li_29, li_30, li_31, li_32, li_60, li_63, li_64, li_80, li_100, li_128, li_160, li_320, li_511, li_512, li_1600, li_1700, li_2000, li_2048, li_32000, li_2147483647] at h1
    refine h1.trans ?_
    rw [mrow_n _ _ (by omega), hn]
    exact congrArg (fun w => some (mset (mrow R 10 v) 11 s w)) e16
  · rw [mset_s]
  · intro q hq
    rw [mset_nj _ _ _ hq, mrow_n _ _ (by omega)]
  · intro k hk
    rw [mset_nk _ _ _ (by omega), mrow_s, ← Nat.add_assoc, inv.1 k (by omega)]
  · intro j hj
    rw [mset_nk _ _ _ (by omega), mrow_s, inv.2 j hj]
  · intro a h1 h2
    rw [mset_nk _ _ _ h2, mrow_n _ _ h1]
