/-! Checking a voucher. -/
theorem RW_pd {C C' R R' : Mem} {th : Nat} {kd ow st md et lg : Nat → Nat} {tb en rt : Nat → Nat → Nat} (h : RW C R th kd ow st md et lg tb en rt) (hl : ∀ q, q < 20 → lg q ≤ 85) (hC : ∀ a, a ≠ 136 → (a < 137 ∨ 142 < a) → a ≠ 33 + 5 * th + 3 → C' a = C a) (hp : padOk C') (hR : ∀ a, a ≠ 0 → a ≠ 17 → (a < 20 ∨ 24 < a) → R' a = R a) : RW C' R' th kd ow st md et lg tb en rt := by
  have q := RW_fr (C' := mrow C' 137 (C 137)) (R' := R') h hl (fun a b h1 h2 h3 h4 h5 h6 => by
    by_cases c : a = 137
    · rw [c, mrow_s]
    · rw [mrow_n _ _ c, hC a h1 (by omega) h4]) (fun a b h1 h2 h3 => by rw [hR a h3 h1 h2])
  refine ⟨q.1, ⟨hp, fun j hj => ?_, fun f hf j hj => ?_⟩, fun p hp => ?_⟩
  · have := q.2.1.2.1 j hj; rw [mrow_n _ _ (by omega)] at this; exact this
  · have := q.2.1.2.2 f hf j hj; rw [mrow_n _ _ (by omega)] at this; exact this
  · have := q.2.2 p hp
    unfold pgC at this ⊢
    rw [mrow_n _ _ (by omega), mrow_n _ _ (by omega), mrow_n _ _ (by omega), mrow_n _ _ (by omega), mrow_n _ _ (by omega), mrow_n _ _ (by omega)] at this
    exact this
theorem cmpC_e {C : Mem} {th j : Nat} (ht : th < 20) (hj : j < 4) (F : Int32 → Mem → Option (Int32 × Mem)) (h1 : C (33 + 5 * th + 3) j = nI 1) : ∃ C', lp_X1_compare_74 (33 + 5 * th + 3) (nI j) F FU (nI 0) C = F (nI 8) C' ∧ ((∀ k, k < 8 → C 142 k = C 141 k) → C' (33 + 5 * th + 3) j = nI 1) ∧ (¬ (∀ k, k < 8 → C 142 k = C 141 k) → C' (33 + 5 * th + 3) j = nI 0) ∧ (∀ b, b ≠ j → C' (33 + 5 * th + 3) b = C (33 + 5 * th + 3) b) ∧ ∀ a, a ≠ 33 + 5 * th + 3 → C' a = C a := by
  refine loop_inv (fun n i M => lp_X1_compare_74 (33 + 5 * th + 3) (nI j) F n i M) F 8 (fun i M => ((∀ k, k < i → C 142 k = C 141 k) → M (33 + 5 * th + 3) j = nI 1) ∧ (¬ (∀ k, k < i → C 142 k = C 141 k) → M (33 + 5 * th + 3) j = nI 0) ∧ (∀ b, b ≠ j → M (33 + 5 * th + 3) b = C (33 + 5 * th + 3) b) ∧ ∀ a, a ≠ 33 + 5 * th + 3 → M a = C a) (by omega) (fun n i M hi hp => ?_) (fun n M _ => by simp (disch := omega) only [lp_X1_compare_74_s, mset_s, mset_nk, mset_nj, mrow_s, mrow_n, ifeq_s, nar_0, nar_1, isB_0, isB_1, bnd_e, jn_e, Option.bind_some, gd_true, gd_dec, Bool.true_and, Bool.and_true, Bool.and_self, tn_nI, inb_nI, ifle_t, ifle_f, iflt_t, iflt_f, ifeq_f, if_true, ofN_nI, nI_add, nI_subl, li_0, li_1, li_2, li_3, li_4, li_5, li_6, li_7, li_8, li_9, li_10, li_11, li_12, li_13, li_14, li_15, li_16, li_17, li_18, li_19, li_20, li_21, li_22, li_23, li_24, li_25, li_26, li_27, li_28, li_29, li_30, li_31, li_32, li_60, li_63, li_64, li_80, li_100, li_128, li_160, li_320, li_511, li_512, li_1600, li_1700, li_2000, li_2048, li_32000, li_2147483647]) ⟨fun _ => h1, fun c => absurd (fun k hk => absurd hk (by omega)) c, fun _ _ => rfl, fun _ _ => rfl⟩
  obtain ⟨p1, p2, p3, p4⟩ := hp
  have e1 : M 142 = C 142 := p4 142 (by omega)
  have e2 : M 141 = C 141 := p4 141 (by omega)
  by_cases c : C 142 i = C 141 i
  · refine ⟨M, ?_, fun q => p1 (fun k hk => q k (by omega)), fun q => p2 (fun g => q (fun k hk => ?_)), p3, p4⟩
    · simp (disch := omega) only [lp_X1_compare_74_s, e1, e2, c, if_true, isPg_p, isI_p1, isI_p2, isI_p3, isI_p4, lnC_p1, lnC_p2, lnC_p3, lnC_p4, isI_r, lnC_r, isI_k, lnC_134, lnC_136, lnC_137, lnC_138, lnC_139, lnC_140, lnC_141, lnC_142, mset_s, mset_nk, mset_nj, mrow_s, mrow_n, ifeq_s, nar_0, nar_1, isB_0, isB_1, bnd_e, jn_e, Option.bind_some, gd_true, gd_dec, Bool.true_and, Bool.and_true, Bool.and_self, tn_nI, inb_nI, ifle_t, ifle_f, iflt_t, iflt_f, ifeq_f, if_true, ofN_nI, nI_add, nI_subl, li_0, li_1, li_2, li_3, li_4, li_5, li_6, li_7, li_8, li_9, li_10, li_11, li_12, li_13, li_14, li_15, li_16, li_17, li_18, li_19, li_20, li_21, li_22, li_23, li_24, li_25, li_26, li_27, li_28, li_29, li_30, li_31, li_32, li_60, li_63, li_64, li_80, li_100, li_128, li_160, li_320, li_511, li_512, li_1600, li_1700, li_2000, li_2048, li_32000, li_2147483647]
    · by_cases d : k = i
      · rw [d]; exact c
      · exact g k (by omega)
  · refine ⟨mset M (33 + 5 * th + 3) j (nI 0), ?_, fun q => absurd (q i (by omega)) c, fun _ => mset_s _ _ _ _, fun b hb => by rw [mset_nj _ _ _ hb]; exact p3 b hb, fun a ha => by rw [mset_nk _ _ _ ha]; exact p4 a ha⟩
    simp (disch := omega) only [lp_X1_compare_74_s, e1, e2, c, if_false, isPg_p, isI_p1, isI_p2, isI_p3, isI_p4, lnC_p1, lnC_p2, lnC_p3, lnC_p4, isI_r, lnC_r, isI_k, lnC_134, lnC_136, lnC_137, lnC_138, lnC_139, lnC_140, lnC_141, lnC_142, mset_s, mset_nk, mset_nj, mrow_s, mrow_n, ifeq_s, nar_0, nar_1, isB_0, isB_1, bnd_e, jn_e, Option.bind_some, gd_true, gd_dec, Bool.true_and, Bool.and_true, Bool.and_self, tn_nI, inb_nI, ifle_t, ifle_f, iflt_t, iflt_f, ifeq_f, if_true, ofN_nI, nI_add, nI_subl, li_0, li_1, li_2, li_3, li_4, li_5, li_6, li_7, li_8, li_9, li_10, li_11, li_12, li_13, li_14, li_15, li_16, li_17, li_18, li_19, li_20, li_21, li_22, li_23, li_24, li_25, li_26, li_27, li_28, li_29, li_30, li_31, li_32, li_60, li_63, li_64, li_80, li_100, li_128, li_160, li_320, li_511, li_512, li_1600, li_1700, li_2000, li_2048, li_32000, li_2147483647]
theorem cmpM_e {R : Mem} (F : Int32 → Int32 → Mem → Option (Int32 × Mem)) : ∃ b, lp_X6_verified_72 F FU (nI 1) (nI 0) R = F (nI b) (nI 8) R ∧ ((∀ k, k < 8 → R 24 (16 + k) = R 22 k) → b = 1) ∧ (¬ (∀ k, k < 8 → R 24 (16 + k) = R 22 k) → b = 0) := by
  have key : ∀ (k i n b : Nat), i + k = 8 → k < n → ((∀ k, k < i → R 24 (16 + k) = R 22 k) → b = 1) → (¬ (∀ k, k < i → R 24 (16 + k) = R 22 k) → b = 0) → ∃ b', lp_X6_verified_72 F n (nI b) (nI i) R = F (nI b') (nI 8) R ∧ ((∀ k, k < 8 → R 24 (16 + k) = R 22 k) → b' = 1) ∧ (¬ (∀ k, k < 8 → R 24 (16 + k) = R 22 k) → b' = 0) := by
    intro k
    induction k with
    | zero =>
      intro i n b e hn h1 h2
      obtain ⟨n, rfl⟩ : ∃ q, n = q + 1 := ⟨n - 1, by omega⟩
      obtain rfl : i = 8 := by omega
      exact ⟨b, by simp (disch := omega) only [lp_X6_verified_72_s, mset_s, mset_nk, mset_nj, mrow_s, mrow_n, ifeq_s, nar_0, nar_1, isB_0, isB_1, bnd_e, jn_e, Option.bind_some, gd_true, gd_dec, Bool.true_and, Bool.and_true, Bool.and_self, tn_nI, inb_nI, ifle_t, ifle_f, iflt_t, iflt_f, ifeq_f, if_true, ofN_nI, nI_add, nI_subl, li_0, li_1, li_2, li_3, li_4, li_5, li_6, li_7, li_8, li_9, li_10, li_11, li_12, li_13, li_14, li_15, li_16, li_17, li_18, li_19, li_20, li_21, li_22, li_23, li_24, li_25, li_26, li_27, li_28, li_29, li_30, li_31, li_32, li_60, li_63, li_64, li_80, li_100, li_128, li_160, li_320, li_511, li_512, li_1600, li_1700, li_2000, li_2048, li_32000, li_2147483647], h1, h2⟩
    | succ k ih =>
      intro i n b e hn h1 h2
      obtain ⟨n, rfl⟩ : ∃ q, n = q + 1 := ⟨n - 1, by omega⟩
      by_cases all : ∀ k, k < i → R 24 (16 + k) = R 22 k
      · obtain rfl := h1 all
        by_cases c : R 24 (16 + i) = R 22 i
        · have st1 : lp_X6_verified_72 F (n + 1) (nI 1) (nI i) R = lp_X6_verified_72 F n (nI 1) (nI (i + 1)) R := by
            simp (disch := omega) only [lp_X6_verified_72_s, c, if_true, mset_s, mset_nk, mset_nj, mrow_s, mrow_n, ifeq_s, nar_0, nar_1, isB_0, isB_1, bnd_e, jn_e, Option.bind_some, gd_true, gd_dec, Bool.true_and, Bool.and_true, Bool.and_self, tn_nI, inb_nI, ifle_t, ifle_f, iflt_t, iflt_f, ifeq_f, if_true, ofN_nI, nI_add, nI_subl, li_0, li_1, li_2, li_3, li_4, li_5, li_6, li_7, li_8, li_9, li_10, li_11, li_12, li_13, li_14, li_15, li_16, li_17, li_18, li_19, li_20, li_21, li_22, li_23, li_24, li_25, li_26, li_27, li_28, li_29, li_30, li_31, li_32, li_60, li_63, li_64, li_80, li_100, li_128, li_160, li_320, li_511, li_512, li_1600, li_1700, li_2000, li_2048, li_32000, li_2147483647]
          rw [st1]
          refine ih (i + 1) n 1 (by omega) (by omega) (fun _ => rfl) (fun q => absurd (fun k hk => ?_) q)
          by_cases d : k = i
          · rw [d]; exact c
          · exact all k (by omega)
        · have st1 : lp_X6_verified_72 F (n + 1) (nI 1) (nI i) R = lp_X6_verified_72 F n (nI 0) (nI (i + 1)) R := by
            simp (disch := omega) only [lp_X6_verified_72_s, c, if_false, mset_s, mset_nk, mset_nj, mrow_s, mrow_n, ifeq_s, nar_0, nar_1, isB_0, isB_1, bnd_e, jn_e, Option.bind_some, gd_true, gd_dec, Bool.true_and, Bool.and_true, Bool.and_self, tn_nI, inb_nI, ifle_t, ifle_f, iflt_t, iflt_f, ifeq_f, if_true, ofN_nI, nI_add, nI_subl, li_0, li_1, li_2, li_3, li_4, li_5, li_6, li_7, li_8, li_9, li_10, li_11, li_12, li_13, li_14, li_15, li_16, li_17, li_18, li_19, li_20, li_21, li_22, li_23, li_24, li_25, li_26, li_27, li_28, li_29, li_30, li_31, li_32, li_60, li_63, li_64, li_80, li_100, li_128, li_160, li_320, li_511, li_512, li_1600, li_1700, li_2000, li_2048, li_32000, li_2147483647]
          rw [st1]
          exact ih (i + 1) n 0 (by omega) (by omega) (fun q => absurd (q i (by omega)) c) (fun _ => rfl)
      · obtain rfl := h2 all
        have st1 : lp_X6_verified_72 F (n + 1) (nI 0) (nI i) R = lp_X6_verified_72 F n (nI 0) (nI (i + 1)) R := by
          simp (disch := omega) only [lp_X6_verified_72_s, mset_s, mset_nk, mset_nj, mrow_s, mrow_n, ifeq_s, nar_0, nar_1, isB_0, isB_1, bnd_e, jn_e, Option.bind_some, gd_true, gd_dec, Bool.true_and, Bool.and_true, Bool.and_self, tn_nI, inb_nI, ifle_t, ifle_f, iflt_t, iflt_f, ifeq_f, if_true, ofN_nI, nI_add, nI_subl, li_0, li_1, li_2, li_3, li_4, li_5, li_6, li_7, li_8, li_9, li_10, li_11, li_12, li_13, li_14, li_15, li_16, li_17, li_18, li_19, li_20, li_21, li_22, li_23, li_24, li_25, li_26, li_27, li_28, li_29, li_30, li_31, li_32, li_60, li_63, li_64, li_80, li_100, li_128, li_160, li_320, li_511, li_512, li_1600, li_1700, li_2000, li_2048, li_32000, li_2147483647]
        rw [st1]
        exact ih (i + 1) n 0 (by omega) (by omega) (fun q => absurd (fun k hk => q k (by omega)) all) (fun _ => rfl)
  exact key 8 0 FU 1 (by omega) (by have := FU_le; omega) (fun _ => rfl) (fun q => absurd (fun k hk => absurd hk (by omega)) q)
theorem ln24 : lnM 24 = 24 := by decide
theorem sim_compare {C R : Mem} {th : Nat} {kd ow st md et lg : Nat → Nat} {tb en rt : Nat → Nat → Nat} (h : RW C R th kd ow st md et lg tb en rt) (hI : IV kd ow st md et lg tb en rt) {s j : Nat} (ht : th < 20) (hj : j < 4) (hs : s < 20) (ks : kd s = 1) (ss : st s = 1) (h21 : R 0 21 = nI s) (h24 : R 0 24 = nI 0) (x : Int32) :
    ∃ o C' v R', fX1_compare C (33 + 5 * s) x (33 + 5 * th + 3) (nI j) = some (nI o, C') ∧ fX6_verified R x = some (v, R') ∧ o < 4 ∧ R' 0 24 = nI o ∧ RW C' R' th kd ow st md et lg tb en rt ∧ (∀ a, (a < 5 ∨ (33 ≤ a ∧ a < 136)) → a ≠ 33 + 5 * th + 3 → C' a = C a) ∧ (∀ b, b ≠ j → C' (33 + 5 * th + 3) b = C (33 + 5 * th + 3) b) ∧ (o = 0 → C' (33 + 5 * th + 3) j = v) ∧ (o ≠ 0 → C' (33 + 5 * th + 3) j = C (33 + 5 * th + 3) j) ∧ (∀ b, b ≠ 24 → R' 0 b = R 0 b) ∧ ∀ a, a ≠ 0 → (a < 20 ∨ 24 < a) → R' a = R a := by
  obtain ⟨F2, hF2⟩ : ∃ F2 : Int32 → Mem → Option (Int32 × Mem), F2 = fun _ M10 => (fX6_voucher M10 24 (nI 0)).bind (fun q11 => lp_X6_verified_72 (fun x16 _ M18 => if x16 = nI 0 then some (nI 0, M18) else some (nI 1, M18)) FU (nI 1) (nI 0) q11) := ⟨_, rfl⟩
  have un : fX6_verified R x = lp_X6_verified_2 x (fun _ M5 => lp_X6_verified_29 F2 FU (nI 0) M5) FU (nI 0) R := by
    rw [hF2]
    unfold fX6_verified
    simp only [jn_e, bnd_e, li_0, li_1]
  obtain ⟨R1, a1, a2, a3, a4⟩ := ldl_e h hI hs ks ss h21 h24 x (fun n i M => lp_X6_verified_2 x (fun _ M5 => lp_X6_verified_29 F2 FU (nI 0) M5) n i M) (fun _ M5 => lp_X6_verified_29 F2 FU (nI 0) M5) 24 24 0 (by omega) (Or.inr rfl)
    (fun n i M v M' hi e => by simp (disch := omega) only [lp_X6_verified_2_s, e, Nat.zero_add, mset_s, mset_nk, mset_nj, mrow_s, mrow_n, ifeq_s, nar_0, nar_1, isB_0, isB_1, bnd_e, jn_e, Option.bind_some, gd_true, gd_dec, Bool.true_and, Bool.and_true, Bool.and_self, tn_nI, inb_nI, ifle_t, ifle_f, iflt_t, iflt_f, ifeq_f, if_true, ofN_nI, nI_add, nI_subl, li_0, li_1, li_2, li_3, li_4, li_5, li_6, li_7, li_8, li_9, li_10, li_11, li_12, li_13, li_14, li_15, li_16, li_17, li_18, li_19, li_20, li_21, li_22, li_23, li_24, li_25, li_26, li_27, li_28, li_29, li_30, li_31, li_32, li_60, li_63, li_64, li_80, li_100, li_128, li_160, li_320, li_511, li_512, li_1600, li_1700, li_2000, li_2048, li_32000, li_2147483647]) (fun n M => by simp (disch := omega) only [lp_X6_verified_2_s, mset_s, mset_nk, mset_nj, mrow_s, mrow_n, ifeq_s, nar_0, nar_1, isB_0, isB_1, bnd_e, jn_e, Option.bind_some, gd_true, gd_dec, Bool.true_and, Bool.and_true, Bool.and_self, tn_nI, inb_nI, ifle_t, ifle_f, iflt_t, iflt_f, ifeq_f, if_true, ofN_nI, nI_add, nI_subl, li_0, li_1, li_2, li_3, li_4, li_5, li_6, li_7, li_8, li_9, li_10, li_11, li_12, li_13, li_14, li_15, li_16, li_17, li_18, li_19, li_20, li_21, li_22, li_23, li_24, li_25, li_26, li_27, li_28, li_29, li_30, li_31, li_32, li_60, li_63, li_64, li_80, li_100, li_128, li_160, li_320, li_511, li_512, li_1600, li_1700, li_2000, li_2048, li_32000, li_2147483647])
  have a1 : lp_X6_verified_2 x (fun _ M5 => lp_X6_verified_29 F2 FU (nI 0) M5) FU (nI 0) R = lp_X6_verified_29 F2 FU (nI 0) R1 := a1
  obtain ⟨R2, hR2⟩ : ∃ R2, R2 = mrow R1 20 (fun j => if 16 ≤ j ∧ j < 16 + 8 then R1 24 (8 + (j - 16)) else R1 20 j) := ⟨_, rfl⟩
  have lp2 : lp_X6_verified_29 F2 FU (nI 0) R1 = F2 (nI 8) R2 := by
    rw [hR2]
    exact loop_set (fun n i M => lp_X6_verified_29 F2 n i M) F2 8 16 20 (fun j => R1 24 (8 + j)) R1 (by omega)
      (fun m i M' hi h1 h2 => by
        have e24 : M' 24 = R1 24 := h1 24 (by omega)
        simp (disch := omega) only [lp_X6_verified_29_s, e24, mset_s, mset_nk, mset_nj, mrow_s, mrow_n, ifeq_s, nar_0, nar_1, isB_0, isB_1, bnd_e, jn_e, Option.bind_some, gd_true, gd_dec, Bool.true_and, Bool.and_true, Bool.and_self, tn_nI, inb_nI, ifle_t, ifle_f, iflt_t, iflt_f, ifeq_f, if_true, ofN_nI, nI_add, nI_subl, li_0, li_1, li_2, li_3, li_4, li_5, li_6, li_7, li_8, li_9, li_10, li_11, li_12, li_13, li_14, li_15, li_16, li_17, li_18, li_19, li_20, li_21, li_22, li_23, li_24, li_25, li_26, li_27, li_28, li_29, li_30, li_31, li_32, li_60, li_63, li_64, li_80, li_100, li_128, li_160, li_320, li_511, li_512, li_1600, li_1700, li_2000, li_2048, li_32000, li_2147483647])
      (fun m M' h1 => by simp (disch := omega) only [lp_X6_verified_29_s, mset_s, mset_nk, mset_nj, mrow_s, mrow_n, ifeq_s, nar_0, nar_1, isB_0, isB_1, bnd_e, jn_e, Option.bind_some, gd_true, gd_dec, Bool.true_and, Bool.and_true, Bool.and_self, tn_nI, inb_nI, ifle_t, ifle_f, iflt_t, iflt_f, ifeq_f, if_true, ofN_nI, nI_add, nI_subl, li_0, li_1, li_2, li_3, li_4, li_5, li_6, li_7, li_8, li_9, li_10, li_11, li_12, li_13, li_14, li_15, li_16, li_17, li_18, li_19, li_20, li_21, li_22, li_23, li_24, li_25, li_26, li_27, li_28, li_29, li_30, li_31, li_32, li_60, li_63, li_64, li_80, li_100, li_128, li_160, li_320, li_511, li_512, li_1600, li_1700, li_2000, li_2048, li_32000, li_2147483647])
  have k2 : kOk R2 := ⟨fun t ht => by rw [hR2, mrow_n _ _ (by omega), a2 18 (by omega) (by omega)]; exact h.1.1.1 t ht, fun j hj => by rw [hR2, mrow_n _ _ (by omega), a2 19 (by omega) (by omega)]; exact h.1.1.2 j hj⟩
  obtain ⟨R3, b1, b2, b3⟩ := voucherM_e (M := R2) (p0 := 24) (fr := 0) (by decide) (by rw [ln24]; omega) (by decide) (by omega) k2
  obtain ⟨bb, m1, m2, m3⟩ := cmpM_e (R := R3) (fun x16 _ M18 => if x16 = nI 0 then some (nI 0, M18) else some (nI 1, M18))
  have bb1 : bb = 0 ∨ bb = 1 := by
    by_cases c : ∀ k, k < 8 → R3 24 (16 + k) = R3 22 k
    · exact Or.inr (m2 c)
    · exact Or.inl (m3 c)
  have ver : fX6_verified R x = some (nI bb, R3) := by
    rw [un, a1, lp2, hF2]
    show (fX6_voucher R2 24 (nI 0)).bind _ = _
    rw [b1]
    show lp_X6_verified_72 _ FU (nI 1) (nI 0) R3 = _
    rw [m1]
    rcases bb1 with rfl | rfl
    · simp (disch := omega) only [mset_s, mset_nk, mset_nj, mrow_s, mrow_n, ifeq_s, nar_0, nar_1, isB_0, isB_1, bnd_e, jn_e, Option.bind_some, gd_true, gd_dec, Bool.true_and, Bool.and_true, Bool.and_self, tn_nI, inb_nI, ifle_t, ifle_f, iflt_t, iflt_f, ifeq_f, if_true, ofN_nI, nI_add, nI_subl, li_0, li_1, li_2, li_3, li_4, li_5, li_6, li_7, li_8, li_9, li_10, li_11, li_12, li_13, li_14, li_15, li_16, li_17, li_18, li_19, li_20, li_21, li_22, li_23, li_24, li_25, li_26, li_27, li_28, li_29, li_30, li_31, li_32, li_60, li_63, li_64, li_80, li_100, li_128, li_160, li_320, li_511, li_512, li_1600, li_1700, li_2000, li_2048, li_32000, li_2147483647]
    · simp (disch := omega) only [mset_s, mset_nk, mset_nj, mrow_s, mrow_n, ifeq_s, nar_0, nar_1, isB_0, isB_1, bnd_e, jn_e, Option.bind_some, gd_true, gd_dec, Bool.true_and, Bool.and_true, Bool.and_self, tn_nI, inb_nI, ifle_t, ifle_f, iflt_t, iflt_f, ifeq_f, if_true, ofN_nI, nI_add, nI_subl, li_0, li_1, li_2, li_3, li_4, li_5, li_6, li_7, li_8, li_9, li_10, li_11, li_12, li_13, li_14, li_15, li_16, li_17, li_18, li_19, li_20, li_21, li_22, li_23, li_24, li_25, li_26, li_27, li_28, li_29, li_30, li_31, li_32, li_60, li_63, li_64, li_80, li_100, li_128, li_160, li_320, li_511, li_512, li_1600, li_1700, li_2000, li_2048, li_32000, li_2147483647]
  have r3 : ∀ a, a ≠ 0 → (a < 20 ∨ 24 < a) → R3 a = R a := fun a h0 h1 => by rw [b3 a (by omega) (by omega) (by omega) (by omega), hR2, mrow_n _ _ (by omega), a2 a h0 (by omega)]
  have r30 : ∀ b, R3 0 b = R1 0 b := fun b => by rw [b3 0 (by omega) (by omega) (by omega) (by omega), hR2, mrow_n _ _ (by omega)]
  have r24 : R3 24 = R1 24 := by rw [b3 24 (by omega) (by omega) (by omega) (by omega), hR2, mrow_n _ _ (by omega)]
  have fr : ∀ C', (∀ a, a ≠ 136 → (a < 137 ∨ 142 < a) → a ≠ 33 + 5 * th + 3 → C' a = C a) → padOk C' → RW C' R3 th kd ow st md et lg tb en rt := fun C' h1 h2 => RW_pd h (IV85 hI) h1 h2 (fun a h0 _ h3 => r3 a h0 h3)
  have ad : ∀ m k : Nat, x + nI m + nI k = x + nI (m + k) := fun m k => by rw [Int32.add_assoc, nI_add]
  obtain ⟨c0, C1, c1, c2, c3⟩ := rd8_e h hI hs ks ss (Or.inr (Or.inl rfl) : (140 : Nat) = 139 ∨ _) x
  have w1 : RW C1 R th kd ow st md et lg tb en rt := RW_fr h (IV85 hI) (fun a b _ _ _ _ _ _ => by rw [c2 a (by omega)]) (fun _ _ _ _ _ => rfl)
  have bad1 : ∀ (C' : Mem), (∀ a, a ≠ 139 → a ≠ 140 → a ≠ 141 → C' a = C a) → fX1_compare C (33 + 5 * s) x (33 + 5 * th + 3) (nI j) = some (nI 2, C') → (∃ k, k < 24 ∧ lx tb en rt s 1 (x + nI k) = none) → ∃ o C' v R', fX1_compare C (33 + 5 * s) x (33 + 5 * th + 3) (nI j) = some (nI o, C') ∧ fX6_verified R x = some (v, R') ∧ o < 4 ∧ R' 0 24 = nI o ∧ RW C' R' th kd ow st md et lg tb en rt ∧ (∀ a, (a < 5 ∨ (33 ≤ a ∧ a < 136)) → a ≠ 33 + 5 * th + 3 → C' a = C a) ∧ (∀ b, b ≠ j → C' (33 + 5 * th + 3) b = C (33 + 5 * th + 3) b) ∧ (o = 0 → C' (33 + 5 * th + 3) j = v) ∧ (o ≠ 0 → C' (33 + 5 * th + 3) j = C (33 + 5 * th + 3) j) ∧ (∀ b, b ≠ 24 → R' 0 b = R 0 b) ∧ ∀ a, a ≠ 0 → (a < 20 ∨ 24 < a) → R' a = R a := fun C' hC' e ⟨k, hk, l⟩ => by
    rcases a4 with ⟨-, a5⟩ | ⟨a4, -⟩
    · obtain ⟨n, hn, -⟩ := a5 k hk
      rw [hn] at l
      exact absurd l (by simp)
    · exact ⟨2, C', nI bb, R3, e, ver, by omega, by rw [r30]; exact a4, fr C' (fun a h1 h2 h3 => hC' a (by omega) (by omega) (by omega)) (fun i h1 h2 => by rw [hC' 137 (by omega) (by omega) (by omega)]; exact h.2.1.1 i h1 h2), fun a h1 h2 => hC' a (by omega) (by omega) (by omega), fun b _ => by rw [hC' _ (by omega) (by omega) (by omega)], fun e => absurd e (by omega), fun _ => by rw [hC' _ (by omega) (by omega) (by omega)], fun b hb => by rw [r30]; exact a3 b hb, r3⟩
  replace c3 := c3.symm
  rcases c3 with ⟨rfl, k, hk, c3⟩ | ⟨rfl, c3⟩
  · refine bad1 C1 (fun a _ h2 _ => c2 a h2) ?_ ⟨k, by omega, c3⟩
    unfold fX1_compare
    simp (disch := omega) only [c1, mset_s, mset_nk, mset_nj, mrow_s, mrow_n, ifeq_s, nar_0, nar_1, isB_0, isB_1, bnd_e, jn_e, Option.bind_some, gd_true, gd_dec, Bool.true_and, Bool.and_true, Bool.and_self, tn_nI, inb_nI, ifle_t, ifle_f, iflt_t, iflt_f, ifeq_f, if_true, ofN_nI, nI_add, nI_subl, li_0, li_1, li_2, li_3, li_4, li_5, li_6, li_7, li_8, li_9, li_10, li_11, li_12, li_13, li_14, li_15, li_16, li_17, li_18, li_19, li_20, li_21, li_22, li_23, li_24, li_25, li_26, li_27, li_28, li_29, li_30, li_31, li_32, li_60, li_63, li_64, li_80, li_100, li_128, li_160, li_320, li_511, li_512, li_1600, li_1700, li_2000, li_2048, li_32000, li_2147483647]
  obtain ⟨d0, C2, d1, d2, d3⟩ := rd8_e w1 hI hs ks ss (Or.inl rfl : (139 : Nat) = 139 ∨ _) (x + nI 8)
  have w2 : RW C2 R th kd ow st md et lg tb en rt := RW_fr w1 (IV85 hI) (fun a b _ _ _ _ _ _ => by rw [d2 a (by omega)]) (fun _ _ _ _ _ => rfl)
  replace d3 := d3.symm
  rcases d3 with ⟨rfl, k, hk, d3⟩ | ⟨rfl, d3⟩
  · refine bad1 C2 (fun a h1 h2 _ => by rw [d2 a h1, c2 a h2]) ?_ ⟨8 + k, by omega, by rw [← ad]; exact d3⟩
    unfold fX1_compare
    simp (disch := omega) only [c1, d1, mset_s, mset_nk, mset_nj, mrow_s, mrow_n, ifeq_s, nar_0, nar_1, isB_0, isB_1, bnd_e, jn_e, Option.bind_some, gd_true, gd_dec, Bool.true_and, Bool.and_true, Bool.and_self, tn_nI, inb_nI, ifle_t, ifle_f, iflt_t, iflt_f, ifeq_f, if_true, ofN_nI, nI_add, nI_subl, li_0, li_1, li_2, li_3, li_4, li_5, li_6, li_7, li_8, li_9, li_10, li_11, li_12, li_13, li_14, li_15, li_16, li_17, li_18, li_19, li_20, li_21, li_22, li_23, li_24, li_25, li_26, li_27, li_28, li_29, li_30, li_31, li_32, li_60, li_63, li_64, li_80, li_100, li_128, li_160, li_320, li_511, li_512, li_1600, li_1700, li_2000, li_2048, li_32000, li_2147483647]
  obtain ⟨e0, C3, e1, e2, e3⟩ := rd8_e w2 hI hs ks ss (Or.inr (Or.inr rfl) : (141 : Nat) = 139 ∨ _) (x + nI 16)
  have w3 : RW C3 R th kd ow st md et lg tb en rt := RW_fr w2 (IV85 hI) (fun a b _ _ _ _ _ _ => by rw [e2 a (by omega)]) (fun _ _ _ _ _ => rfl)
  replace e3 := e3.symm
  rcases e3 with ⟨rfl, k, hk, e3⟩ | ⟨rfl, e3⟩
  · refine bad1 C3 (fun a h1 h2 h3 => by rw [e2 a h3, d2 a h1, c2 a h2]) ?_ ⟨16 + k, by omega, by rw [← ad]; exact e3⟩
    unfold fX1_compare
    simp (disch := omega) only [c1, d1, e1, mset_s, mset_nk, mset_nj, mrow_s, mrow_n, ifeq_s, nar_0, nar_1, isB_0, isB_1, bnd_e, jn_e, Option.bind_some, gd_true, gd_dec, Bool.true_and, Bool.and_true, Bool.and_self, tn_nI, inb_nI, ifle_t, ifle_f, iflt_t, iflt_f, ifeq_f, if_true, ofN_nI, nI_add, nI_subl, li_0, li_1, li_2, li_3, li_4, li_5, li_6, li_7, li_8, li_9, li_10, li_11, li_12, li_13, li_14, li_15, li_16, li_17, li_18, li_19, li_20, li_21, li_22, li_23, li_24, li_25, li_26, li_27, li_28, li_29, li_30, li_31, li_32, li_60, li_63, li_64, li_80, li_100, li_128, li_160, li_320, li_511, li_512, li_1600, li_1700, li_2000, li_2048, li_32000, li_2147483647]
  replace a4 := a4.symm
  rcases a4 with ⟨-, k, hk, a5⟩ | ⟨a4, a5⟩
  · exfalso
    rcases Nat.lt_or_ge k 8 with g | g
    · obtain ⟨n, hn, -⟩ := c3 k g
      rw [hn] at a5; exact absurd a5 (by simp)
    · rcases Nat.lt_or_ge k 16 with g2 | g2
      · obtain ⟨n, hn, -⟩ := d3 (k - 8) (by omega)
        rw [ad, show 8 + (k - 8) = k by omega, a5] at hn; exact absurd hn (by simp)
      · obtain ⟨n, hn, -⟩ := e3 (k - 16) (by omega)
        rw [ad, show 16 + (k - 16) = k by omega, a5] at hn; exact absurd hn (by simp)
  have t140 : ∀ k, k < 8 → C3 140 k = R1 24 k := fun k hk => by
    obtain ⟨n, l1, v1⟩ := c3 k hk
    obtain ⟨n', l2, v2⟩ := a5 k (by omega)
    rw [l1] at l2
    have l2 := Option.some.inj l2
    rw [Nat.zero_add] at v2
    rw [e2 140 (by omega), d2 140 (by omega), v1, v2, l2]
  have t139 : ∀ k, k < 8 → C3 139 k = R1 24 (8 + k) := fun k hk => by
    obtain ⟨n, l1, v1⟩ := d3 k hk
    obtain ⟨n', l2, v2⟩ := a5 (8 + k) (by omega)
    rw [ad, l2] at l1
    have l1 := Option.some.inj l1
    rw [Nat.zero_add] at v2
    rw [e2 139 (by omega), v1, v2, l1]
  have t141 : ∀ k, k < 8 → C3 141 k = R1 24 (16 + k) := fun k hk => by
    obtain ⟨n, l1, v1⟩ := e3 k hk
    obtain ⟨n', l2, v2⟩ := a5 (16 + k) (by omega)
    rw [ad, l2] at l1
    have l1 := Option.some.inj l1
    rw [Nat.zero_add] at v2
    rw [v1, v2, l1]
  obtain ⟨C4, g1, g2, g3, g4⟩ := voucherC_e (C := C3) (p0 := 140) (isI_k (by omega)) lnC_140 (by omega) (by omega) (by omega) (by omega) w3.2.1.1
  obtain ⟨C5, hC5⟩ : ∃ C5, C5 = mset C4 (33 + 5 * th + 3) j (nI 1) := ⟨_, rfl⟩
  obtain ⟨C6, n1, n2, n3, n4, n5⟩ := cmpC_e (C := C5) ht hj (fun _ M10 => some (nI 0, M10)) (by rw [hC5, mset_s])
  have vv : ∀ k, k < 8 → C5 142 k = R3 22 k := fun k hk => by
    rw [hC5, mset_nk _ _ _ (by omega), g2 k hk, b2 k hk]
    refine hsh_congr (fun i hi => ?_) k hk
    unfold vmsg
    by_cases i8 : i < 8
    · rw [if_pos i8, if_pos i8, hR2, mrow_n _ _ (by omega), a2 1 (by omega) (by omega)]; exact w3.2.1.2.1 i i8
    · rw [if_neg i8, if_neg i8]
      by_cases i16 : i < 16
      · rw [if_pos i16, if_pos i16, t140 _ (by omega), hR2, mrow_n _ _ (by omega)]
        show _ = R1 24 (0 + (i - 8))
        rw [Nat.zero_add]
      · rw [if_neg i16, if_neg i16]
        by_cases i24 : i < 24
        · rw [if_pos i24, if_pos i24, t139 _ (by omega), hR2, mrow_s]
          show _ = if _ then _ else _
          rw [if_pos (by omega), Nat.add_sub_cancel_left]
        · rw [if_neg i24, if_neg i24]
  have v41 : ∀ k, k < 8 → C5 141 k = R3 24 (16 + k) := fun k hk => by rw [hC5, mset_nk _ _ _ (by omega), g4 141 (by omega) (by omega) (by omega) (by omega), t141 k hk, r24]
  have iff1 : (∀ k, k < 8 → C5 142 k = C5 141 k) ↔ ∀ k, k < 8 → R3 24 (16 + k) = R3 22 k := ⟨fun q k hk => by rw [← vv k hk, ← v41 k hk]; exact (q k hk).symm, fun q k hk => by rw [vv k hk, v41 k hk]; exact (q k hk).symm⟩
  have res : C6 (33 + 5 * th + 3) j = nI bb := by
    by_cases c : ∀ k, k < 8 → C5 142 k = C5 141 k
    · rw [n2 c, m2 (iff1.mp c)]
    · rw [n3 c, m3 (fun q => c (iff1.mpr q))]
  have c6 : ∀ a, a ≠ 33 + 5 * th + 3 → a ≠ 136 → (a < 137 ∨ 142 < a) → C6 a = C a := fun a h1 h2 h3 => by rw [n5 a h1, hC5, mset_nk _ _ _ h1, g4 a (by omega) (by omega) (by omega) (by omega), e2 a (by omega), d2 a (by omega), c2 a (by omega)]
  refine ⟨0, C6, nI bb, R3, ?_, ver, by omega, by rw [r30]; exact a4, fr C6 (fun a h1 h2 h3 => c6 a h3 h1 h2) (fun i h1 h2 => ?_), fun a h1 h2 => c6 a h2 (by omega) (by omega), fun b hb => ?_, fun _ => res, fun e => absurd rfl e, fun b hb => by rw [r30]; exact a3 b hb, r3⟩
  · unfold fX1_compare
    simp (disch := omega) only [c1, d1, e1, g1, ← hC5, n1, isPg_p, isI_p1, isI_p2, isI_p3, isI_p4, lnC_p1, lnC_p2, lnC_p3, lnC_p4, isI_r, lnC_r, isI_k, lnC_134, lnC_136, lnC_137, lnC_138, lnC_139, lnC_140, lnC_141, lnC_142, mset_s, mset_nk, mset_nj, mrow_s, mrow_n, ifeq_s, nar_0, nar_1, isB_0, isB_1, bnd_e, jn_e, Option.bind_some, gd_true, gd_dec, Bool.true_and, Bool.and_true, Bool.and_self, tn_nI, inb_nI, ifle_t, ifle_f, iflt_t, iflt_f, ifeq_f, if_true, ofN_nI, nI_add, nI_subl, li_0, li_1, li_2, li_3, li_4, li_5, li_6, li_7, li_8, li_9, li_10, li_11, li_12, li_13, li_14, li_15, li_16, li_17, li_18, li_19, li_20, li_21, li_22, li_23, li_24, li_25, li_26, li_27, li_28, li_29, li_30, li_31, li_32, li_60, li_63, li_64, li_80, li_100, li_128, li_160, li_320, li_511, li_512, li_1600, li_1700, li_2000, li_2048, li_32000, li_2147483647]
  · rw [n5 137 (by omega), hC5, mset_nk _ _ _ (by omega)]; exact g3 i h1 h2
  · rw [n4 b hb, hC5, mset_nj _ _ _ hb, g4 _ (by omega) (by omega) (by omega) (by omega), e2 _ (by omega), d2 _ (by omega), c2 _ (by omega)]
