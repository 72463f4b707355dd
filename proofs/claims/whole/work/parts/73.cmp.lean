/-! Checking a voucher. -/
theorem RW_pd {C C' R R' : Mem} {th : Nat} {kd ow st md et lg : Nat → Nat} {tb en rt : Nat → Nat → Nat} (h : RW C R th kd ow st md et lg tb en rt) (hl : ∀ q, q < 20 → lg q ≤ 85) (hC : ∀ a, a ≠ 136 → (a < 137 ∨ 142 < a) → a ≠ 33 + 5 * th + 3 → C' a = C a) (hp : padOk C') (hR : ∀ a, a ≠ 0 → a ≠ 17 → (a < 20 ∨ 24 < a) → R' a = R a) : RW C' R' th kd ow st md et lg tb en rt := by
  have q := RW_fr (C' := mrow C' 137 (C 137)) (R' := R') h hl (fun a b h1 h2 h3 h4 h5 h6 => by
    by_cases c : a = 137
    · rw [c, mrow_s]
    · rw [mrow_n _ _ c, hC a h1 (by omega) h4]) (fun a b h1 h2 h3 => by rw [hR a h3 h1 h2])
  refine ⟨q.1, ⟨hp, fun j hj => ?_, fun f hf j hj => ?_⟩, fun p hp => ?_⟩
  · have := q.2.1.2.1 j hj; rw [mrow_n _ _ (by omega)] at this; exact this
  · have := q.2.1.2.2 f hf j hj; rw [mrow_n _ _ (by omega)] at this; exact this
  · have := q.2.2 p hp
    unfold pgC at this ⊢
    rw [mrow_n _ _ (by omega), mrow_n _ _ (by omega), mrow_n _ _ (by omega), mrow_n _ _ (by omega), mrow_n _ _ (by omega), mrow_n _ _ (by omega)] at this
    exact this
theorem cmpC_e {C : Mem} {th j : Nat} (ht : th < 20) (hj : j < 4) (F : Int32 → Mem → Option (Int32 × Mem)) (h1 : C (33 + 5 * th + 3) j = nI 1) : ∃ C', lp_X1_compare_74 (33 + 5 * th + 3) (nI j) F FU (nI 0) C = F (nI 8) C' ∧ ((∀ k, k < 8 → C 142 k = C 141 k) → C' (33 + 5 * th + 3) j = nI 1) ∧ (¬ (∀ k, k < 8 → C 142 k = C 141 k) → C' (33 + 5 * th + 3) j = nI 0) ∧ (∀ b, b ≠ j → C' (33 + 5 * th + 3) b = C (33 + 5 * th + 3) b) ∧ ∀ a, a ≠ 33 + 5 * th + 3 → C' a = C a := by
  refine loop_inv (fun n i M => lp_X1_compare_74 (33 + 5 * th + 3) (nI j) F n i M) F 8 (fun i M => ((∀ k, k < i → C 142 k = C 141 k) → M (33 + 5 * th + 3) j = nI 1) ∧ (¬ (∀ k, k < i → C 142 k = C 141 k) → M (33 + 5 * th + 3) j = nI 0) ∧ (∀ b, b ≠ j → M (33 + 5 * th + 3) b = C (33 + 5 * th + 3) b) ∧ ∀ a, a ≠ 33 + 5 * th + 3 → M a = C a) (by omega) (fun n i M hi hp => ?_) (fun n M _ => by simp (disch := omega) only [lp_X1_compare_74_s, mset_s, mset_nk, mset_nj, mrow_s, mrow_n, ifeq_s, nar_0, nar_1, isB_0, isB_1, bnd_e, jn_e, Option.bind_some, gd_true, gd_dec, Bool.true_and, Bool.and_true, Bool.and_self, tn_nI, inb_nI, ifle_t, ifle_f, iflt_t, iflt_f, ifeq_f, if_true, ofN_nI, nI_add, nI_subl, li_0, li_1, li_2, li_3, li_4, li_5, li_6, li_7, li_8, li_9, li_10, li_11, li_12, li_13, li_14, li_15, li_16, li_17, li_18, li_19, li_20, li_21, li_22, li_23, li_24, li_25, li_26, li_27, li_28, li_29, li_30, li_31, li_32, li_60, li_63, li_64, li_80, li_100, li_128, li_160, li_320, li_511, li_512, li_1600, li_1700, li_2000, li_2048, li_32000, li_2147483647]) ⟨fun _ => h1, fun c => absurd (fun k hk => absurd hk (by omega)) c, fun _ _ => rfl, fun _ _ => rfl⟩
  obtain ⟨p1, p2, p3, p4⟩ := hp
  have e1 : M 142 = C 142 := p4 142 (by omega)
  have e2 : M 141 = C 141 := p4 141 (by omega)
  by_cases c : C 142 i = C 141 i
  · refine ⟨M, ?_, fun q => p1 (fun k hk => q k (by omega)), fun q => p2 (fun g => q (fun k hk => ?_)), p3, p4⟩
    · simp (disch := omega) only [lp_X1_compare_74_s, e1, e2, c, if_true, isPg_p, isI_p1, isI_p2, isI_p3, isI_p4, lnC_p1, lnC_p2, lnC_p3, lnC_p4, isI_r, lnC_r, isI_k, lnC_134, lnC_136, lnC_137, lnC_138, lnC_139, lnC_140, lnC_141, lnC_142, mset_s, mset_nk, mset_nj, mrow_s, mrow_n, ifeq_s, nar_0, nar_1, isB_0, isB_1, bnd_e, jn_e, Option.bind_some, gd_true, gd_dec, Bool.true_and, Bool.and_true, Bool.and_self, tn_nI, inb_nI, ifle_t, ifle_f, iflt_t, iflt_f, ifeq_f, if_true, ofN_nI, nI_add, nI_subl, li_0, li_1, li_2, li_3, li_4, li_5, li_6, li_7, li_8, li_9, li_10, li_11, li_12, li_13, li_14, li_15, li_16, li_17, li_18, li_19, li_20, li_21, li_22, li_23, li_24, li_25, li_26, li_27, li_28, li_29, li_30, li_31, li_32, li_60, li_63, li_64, li_80, li_100, li_128, li_160, li_320, li_511, li_512, li_1600, li_1700, li_2000, li_2048, li_32000, li_2147483647]
    · by_cases d : k = i
      · rw [d]; exact c
      · exact g k (by omega)
  · refine ⟨mset M (33 + 5 * th + 3) j (nI 0), ?_, fun q => absurd (q i (by omega)) c, fun _ => mset_s _ _ _ _, fun b hb => by rw [mset_nj _ _ _ hb]; exact p3 b hb, fun a ha => by rw [mset_nk _ _ _ ha]; exact p4 a ha⟩
    simp (disch := omega) only [lp_X1_compare_74_s, e1, e2, c, if_false, isPg_p, isI_p1, isI_p2, isI_p3, isI_p4, lnC_p1, lnC_p2, lnC_p3, lnC_p4, isI_r, lnC_r, isI_k, lnC_134, lnC_136, lnC_137, lnC_138, lnC_139, lnC_140, lnC_141, lnC_142, mset_s, mset_nk, mset_nj, mrow_s, mrow_n, ifeq_s, nar_0, nar_1, isB_0, isB_1, bnd_e, jn_e, Option.bind_some, gd_true, gd_dec, Bool.true_and, Bool.and_true, Bool.and_self, tn_nI, inb_nI, ifle_t, ifle_f, iflt_t, iflt_f, ifeq_f, if_true, ofN_nI, nI_add, nI_subl, li_0, li_1, li_2, li_3, li_4, li_5, li_6, li_7, li_8, li_9, li_10, li_11, li_12, li_13, li_14, li_15, li_16, li_17, li_18, li_19, li_20, li_21, li_22, li_23, li_24, li_25, li_26, li_27, li_28, li_29, li_30, li_31, li_32, li_60, li_63, li_64, li_80, li_100, li_128, li_160, li_320, li_511, li_512, li_1600, li_1700, li_2000, li_2048, li_32000, li_2147483647]
theorem cmpM_e {R : Mem} (F : Int32 → Int32 → Mem → Option (Int32 × Mem)) : ∃ b, lp_X6_verified_72 F FU (nI 1) (nI 0) R = F (nI b) (nI 8) R ∧ ((∀ k, k < 8 → R 24 (16 + k) = R 22 k) → b = 1) ∧ (¬ (∀ k, k < 8 → R 24 (16 + k) = R 22 k) → b = 0) := by
  have key : ∀ (k i n b : Nat), i + k = 8 → k < n → ((∀ k, k < i → R 24 (16 + k) = R 22 k) → b = 1) → (¬ (∀ k, k < i → R 24 (16 + k) = R 22 k) → b = 0) → ∃ b, lp_X6_verified_72 F n (nI b) (nI i) R = F (nI b) (nI 8) R ∧ ((∀ k, k < 8 → R 24 (16 + k) = R 22 k) → b = 1) ∧ (¬ (∀ k, k < 8 → R 24 (16 + k) = R 22 k) → b = 0) := sorry
  sorry
