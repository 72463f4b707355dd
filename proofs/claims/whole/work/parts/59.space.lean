/-! key(), space(). -/
theorem oI_20n : oI 20 = -nI 1 := by decide
theorem Rel_scr0 {C R : Mem} (h : Rel C R) (a b : Int32) : Rel C (mset (mset R 0 0 a) 0 19 b) :=
  Rel_scr h (by rw [mset_nj _ _ _ (by omega), mset_nj _ _ _ (by omega)]) (by rw [mset_nj _ _ _ (by omega), mset_nj _ _ _ (by omega)]) (fun a h0 _ _ _ _ _ _ => by rw [mset_nk _ _ _ h0, mset_nk _ _ _ h0])
theorem keyC_e {M : Mem} (F : Int32 → Mem → Option ((Nat × Int32) × Mem)) : ∃ M', lp_X5_key_30 F FU (nI 0) M = F (nI 20) M' ∧ (∀ q, q < 20 → M' (33 + 5 * q) 0 = nI 0 ∧ M' (33 + 5 * q) 1 = -nI 1) ∧ ∀ a b, (2 ≤ b ∨ a < 33 ∨ 133 ≤ a ∨ (a - 33) % 5 ≠ 0) → M' a b = M a b := by
  have key := loop_up (fun n x M' => lp_X5_key_30 F n x M') (fun i M' => mset (mset M' (33 + 5 * i) 0 (nI 0)) (33 + 5 * i) 1 (-nI 1)) F 20
    (fun n i M' hi => by simp (disch := omega) only [lp_X5_key_30_s, fX4_claim, isPg_p, isI_p1, isI_p2, isI_p3, isI_p4, lnC_p1, lnC_p2, lnC_p3, lnC_p4, isI_r, lnC_r, isI_k, lnC_134, lnC_136, lnC_137, lnC_138, lnC_139, lnC_140, lnC_141, lnC_142, mset_s, mset_nk, mset_nj, mrow_s, mrow_n, ifeq_s, nar_0, nar_1, isB_0, isB_1, bnd_e, jn_e, Option.bind_some, gd_true, gd_dec, Bool.true_and, Bool.and_true, Bool.and_self, tn_nI, inb_nI, ifle_t, ifle_f, iflt_t, iflt_f, ifeq_f, if_true, ofN_nI, nI_add, nI_subl, li_0, li_1, li_2, li_3, li_4, li_5, li_6, li_7, li_8, li_9, li_10, li_11, li_12, li_13, li_14, li_15, li_16, li_17, li_18, li_19, li_20, li_21, li_22, li_23, li_24, li_25, li_26, li_27, li_28, li_29, li_30, li_31, li_32, li_60, li_63, li_64, li_80, li_100, li_128, li_160, li_320, li_511, li_512, li_1600, li_1700, li_2000, li_2048, li_32000, li_2147483647])
    (fun n M' => by simp (disch := omega) only [lp_X5_key_30_s, mset_s, mset_nk, mset_nj, mrow_s, mrow_n, ifeq_s, nar_0, nar_1, isB_0, isB_1, bnd_e, jn_e, Option.bind_some, gd_true, gd_dec, Bool.true_and, Bool.and_true, Bool.and_self, tn_nI, inb_nI, ifle_t, ifle_f, iflt_t, iflt_f, ifeq_f, if_true, ofN_nI, nI_add, nI_subl, li_0, li_1, li_2, li_3, li_4, li_5, li_6, li_7, li_8, li_9, li_10, li_11, li_12, li_13, li_14, li_15, li_16, li_17, li_18, li_19, li_20, li_21, li_22, li_23, li_24, li_25, li_26, li_27, li_28, li_29, li_30, li_31, li_32, li_60, li_63, li_64, li_80, li_100, li_128, li_160, li_320, li_511, li_512, li_1600, li_1700, li_2000, li_2048, li_32000, li_2147483647])
    20 0 FU M (by omega) (by have := FU_le; omega)
  refine ⟨_, key, ?_⟩
  have inv := itr_inv (st := fun i (M' : Mem) => mset (mset M' (33 + 5 * i) 0 (nI 0)) (33 + 5 * i) 1 (-nI 1)) (N := 20) (fun i M' => (∀ q, q < i → M' (33 + 5 * q) 0 = nI 0 ∧ M' (33 + 5 * q) 1 = -nI 1) ∧ ∀ a b, (2 ≤ b ∨ a < 33 ∨ 133 ≤ a ∨ (a - 33) % 5 ≠ 0) → M' a b = M a b)
    (fun i M' hi h => by
      refine ⟨fun q hq => ?_, fun a b hab => ?_⟩
      · by_cases e : q = i
        · subst e
          simp (disch := omega) only [mset_s, mset_nk, mset_nj, mrow_s, mrow_n, ifeq_s, nar_0, nar_1, isB_0, isB_1]
          simp
        · have := h.1 q (by omega)
          simp (disch := omega) only [mset_s, mset_nk, mset_nj, mrow_s, mrow_n, ifeq_s, nar_0, nar_1, isB_0, isB_1]
          exact this
      · rw [mset_get, mset_get, if_neg (by omega), if_neg (by omega)]
        exact h.2 a b hab)
    20 0 M (by omega) ⟨fun q hq => absurd hq (by omega), fun _ _ _ => rfl⟩
  exact inv
theorem freeM_e {M : Mem} : ∃ M', fX6_free M = some M' ∧ (∀ q, q < 20 → M' 3 q = nI 0 ∧ M' 4 q = -nI 1) ∧ M' 0 17 = nI 0 ∧ (∀ j, j ≠ 17 → M' 0 j = M 0 j) ∧ ∀ a, a ≠ 0 → a ≠ 3 → a ≠ 4 → M' a = M a := by
  obtain ⟨F, hF⟩ : ∃ F : Int32 → Mem → Option Mem, F = fun _ M5 => some (mset M5 0 17 (nI 0)) := ⟨_, rfl⟩
  have key := loop_up (fun n x M' => lp_X6_free_2 F n x M') (fun i M' => mset (mset M' 3 i (nI 0)) 4 i (-nI 1)) F 20
    (fun n i M' hi => by simp (disch := omega) only [lp_X6_free_2_s, mset_s, mset_nk, mset_nj, mrow_s, mrow_n, ifeq_s, nar_0, nar_1, isB_0, isB_1, bnd_e, jn_e, Option.bind_some, gd_true, gd_dec, Bool.true_and, Bool.and_true, Bool.and_self, tn_nI, inb_nI, ifle_t, ifle_f, iflt_t, iflt_f, ifeq_f, if_true, ofN_nI, nI_add, nI_subl, li_0, li_1, li_2, li_3, li_4, li_5, li_6, li_7, li_8, li_9, li_10, li_11, li_12, li_13, li_14, li_15, li_16, li_17, li_18, li_19, li_20, li_21, li_22, li_23, li_24, li_25, li_26, li_27, li_28, li_29, li_30, li_31, li_32, li_60, li_63, li_64, li_80, li_100, li_128, li_160, li_320, li_511, li_512, li_1600, li_1700, li_2000, li_2048, li_32000, li_2147483647])
    (fun n M' => by simp (disch := omega) only [lp_X6_free_2_s, mset_s, mset_nk, mset_nj, mrow_s, mrow_n, ifeq_s, nar_0, nar_1, isB_0, isB_1, bnd_e, jn_e, Option.bind_some, gd_true, gd_dec, Bool.true_and, Bool.and_true, Bool.and_self, tn_nI, inb_nI, ifle_t, ifle_f, iflt_t, iflt_f, ifeq_f, if_true, ofN_nI, nI_add, nI_subl, li_0, li_1, li_2, li_3, li_4, li_5, li_6, li_7, li_8, li_9, li_10, li_11, li_12, li_13, li_14, li_15, li_16, li_17, li_18, li_19, li_20, li_21, li_22, li_23, li_24, li_25, li_26, li_27, li_28, li_29, li_30, li_31, li_32, li_60, li_63, li_64, li_80, li_100, li_128, li_160, li_320, li_511, li_512, li_1600, li_1700, li_2000, li_2048, li_32000, li_2147483647])
    20 0 FU M (by omega) (by have := FU_le; omega)
  have inv := itr_inv (st := fun i (M' : Mem) => mset (mset M' 3 i (nI 0)) 4 i (-nI 1)) (N := 20) (fun i M' => (∀ q, q < i → M' 3 q = nI 0 ∧ M' 4 q = -nI 1) ∧ ∀ a, a ≠ 3 → a ≠ 4 → M' a = M a)
    (fun i M' hi h => by
      refine ⟨fun q hq => ?_, fun a h3 h4 => ?_⟩
      · by_cases e : q = i
        · subst e
          simp (disch := omega) only [mset_s, mset_nk, mset_nj, mrow_s, mrow_n, ifeq_s, nar_0, nar_1, isB_0, isB_1]
          simp
        · have := h.1 q (by omega)
          simp (disch := omega) only [mset_s, mset_nk, mset_nj, mrow_s, mrow_n, ifeq_s, nar_0, nar_1, isB_0, isB_1]
          exact this
      · rw [mset_nk _ _ _ h4, mset_nk _ _ _ h3]
        exact h.2 a h3 h4)
    20 0 M (by omega) ⟨fun q hq => absurd hq (by omega), fun _ _ _ => rfl⟩
  generalize itr (fun i (M' : Mem) => mset (mset M' 3 i (nI 0)) 4 i (-nI 1)) 20 0 M = V at key inv
  refine ⟨mset V 0 17 (nI 0), ?_, fun q hq => ?_, mset_s _ _ _ _, fun j hj => ?_, fun a h0 h3 h4 => ?_⟩
  · unfold fX6_free
    simp only [jn_e, bnd_e, li_0]
    rw [hF] at key
    exact key
  · rw [mset_nk _ _ _ (by omega), mset_nk _ _ _ (by omega)]; exact inv.1 q hq
  · rw [mset_nj _ _ _ hj, inv.2 0 (by omega) (by omega)]
  · rw [mset_nk _ _ _ h0, inv.2 a h3 h4]
theorem sim_key {C R : Mem} (h : Rel C R) (x v : Int32) : ∃ c r C' R', fX5_key C x v = some ((c, r), C') ∧ fX6_key R x v = some R' ∧ R' 0 0 = nI c ∧ c ≤ 2 ∧ Rel C' R' := by
  rcases argc x (show 8 < 2 ^ 31 by omega) with hx | ⟨i, hi, rfl⟩
  · have bd : Rel C (mset R 0 0 (nI 1)) := Rel_scr h (mset_nj _ _ _ (by omega)) (mset_nj _ _ _ (by omega)) (fun a h0 _ _ _ _ _ _ => mset_nk _ _ _ h0)
    refine ⟨1, nI 0, C, mset R 0 0 (nI 1), ?_, ?_, mset_s _ _ _ _, by omega, bd⟩
    · rcases hx with hx | ⟨hx, hx2⟩
      · simp (disch := omega) only [fX5_key, hx, mset_s, mset_nk, mset_nj, mrow_s, mrow_n, ifeq_s, nar_0, nar_1, isB_0, isB_1, bnd_e, jn_e, Option.bind_some, gd_true, gd_dec, Bool.true_and, Bool.and_true, Bool.and_self, tn_nI, inb_nI, ifle_t, ifle_f, iflt_t, iflt_f, ifeq_f, if_true, ofN_nI, nI_add, nI_subl, li_0, li_1, li_2, li_3, li_4, li_5, li_6, li_7, li_8, li_9, li_10, li_11, li_12, li_13, li_14, li_15, li_16, li_17, li_18, li_19, li_20, li_21, li_22, li_23, li_24, li_25, li_26, li_27, li_28, li_29, li_30, li_31, li_32, li_60, li_63, li_64, li_80, li_100, li_128, li_160, li_320, li_511, li_512, li_1600, li_1700, li_2000, li_2048, li_32000, li_2147483647]
      · simp (disch := omega) only [fX5_key, hx, bad_nlt hx hx2, if_false, mset_s, mset_nk, mset_nj, mrow_s, mrow_n, ifeq_s, nar_0, nar_1, isB_0, isB_1, bnd_e, jn_e, Option.bind_some, gd_true, gd_dec, Bool.true_and, Bool.and_true, Bool.and_self, tn_nI, inb_nI, ifle_t, ifle_f, iflt_t, iflt_f, ifeq_f, if_true, ofN_nI, nI_add, nI_subl, li_0, li_1, li_2, li_3, li_4, li_5, li_6, li_7, li_8, li_9, li_10, li_11, li_12, li_13, li_14, li_15, li_16, li_17, li_18, li_19, li_20, li_21, li_22, li_23, li_24, li_25, li_26, li_27, li_28, li_29, li_30, li_31, li_32, li_60, li_63, li_64, li_80, li_100, li_128, li_160, li_320, li_511, li_512, li_1600, li_1700, li_2000, li_2048, li_32000, li_2147483647]
    · rcases hx with hx | ⟨hx, hx2⟩
      · simp (disch := omega) only [fX6_key, hx, mset_s, mset_nk, mset_nj, mrow_s, mrow_n, ifeq_s, nar_0, nar_1, isB_0, isB_1, bnd_e, jn_e, Option.bind_some, gd_true, gd_dec, Bool.true_and, Bool.and_true, Bool.and_self, tn_nI, inb_nI, ifle_t, ifle_f, iflt_t, iflt_f, ifeq_f, if_true, ofN_nI, nI_add, nI_subl, li_0, li_1, li_2, li_3, li_4, li_5, li_6, li_7, li_8, li_9, li_10, li_11, li_12, li_13, li_14, li_15, li_16, li_17, li_18, li_19, li_20, li_21, li_22, li_23, li_24, li_25, li_26, li_27, li_28, li_29, li_30, li_31, li_32, li_60, li_63, li_64, li_80, li_100, li_128, li_160, li_320, li_511, li_512, li_1600, li_1700, li_2000, li_2048, li_32000, li_2147483647]
      · simp (disch := omega) only [fX6_key, hx, nle_of_ge (n := 7) hx2 (by omega), if_false, mset_s, mset_nk, mset_nj, mrow_s, mrow_n, ifeq_s, nar_0, nar_1, isB_0, isB_1, bnd_e, jn_e, Option.bind_some, gd_true, gd_dec, Bool.true_and, Bool.and_true, Bool.and_self, tn_nI, inb_nI, ifle_t, ifle_f, iflt_t, iflt_f, ifeq_f, if_true, ofN_nI, nI_add, nI_subl, li_0, li_1, li_2, li_3, li_4, li_5, li_6, li_7, li_8, li_9, li_10, li_11, li_12, li_13, li_14, li_15, li_16, li_17, li_18, li_19, li_20, li_21, li_22, li_23, li_24, li_25, li_26, li_27, li_28, li_29, li_30, li_31, li_32, li_60, li_63, li_64, li_80, li_100, li_128, li_160, li_320, li_511, li_512, li_1600, li_1700, li_2000, li_2048, li_32000, li_2147483647]
  · obtain ⟨kd, ow, st, md, et, lg, tb, en, rt, hM, hC, hI⟩ := h
    obtain ⟨⟨hp, hr, hs, hk, hfr⟩, hpg⟩ := hC
    obtain ⟨V, v1, v2, v3⟩ := keyC_e (M := mset C 134 i v) (fun _ M6 => some ((0, nI 0), mset M6 1 2 (nI 0)))
    obtain ⟨U, u1, u2, u3, u4, u5⟩ := freeM_e (M := mset (mset R 0 0 (nI 0)) 1 i v)
    have v4 : ∀ a b, (2 ≤ b ∨ a < 33 ∨ 133 ≤ a ∨ (a - 33) % 5 ≠ 0) → (a ≠ 134 ∨ b ≠ i) → V a b = C a b := fun a b h1 h2 => by rw [v3 a b h1, mset_get, if_neg (by omega)]
    have u6 : ∀ a, a ≠ 0 → a ≠ 1 → a ≠ 3 → a ≠ 4 → U a = R a := fun a h0 h1 h3 h4 => by rw [u5 a h0 h3 h4, mset_nk _ _ _ h1, mset_nk _ _ _ h0]
    have w : ∀ a b, ¬ (a = 1 ∧ b = 2) → mset V 1 2 (nI 0) a b = V a b := fun a b h => by rw [mset_get, if_neg h]
    refine ⟨0, nI 0, mset V 1 2 (nI 0), U, ?_, ?_, ?_, by omega, ?_⟩
    · simp (disch := omega) only [fX5_key, v1, mset_s, mset_nk, mset_nj, mrow_s, mrow_n, ifeq_s, nar_0, nar_1, isB_0, isB_1, bnd_e, jn_e, Option.bind_some, gd_true, gd_dec, Bool.true_and, Bool.and_true, Bool.and_self, tn_nI, inb_nI, ifle_t, ifle_f, iflt_t, iflt_f, ifeq_f, if_true, ofN_nI, nI_add, nI_subl, li_0, li_1, li_2, li_3, li_4, li_5, li_6, li_7, li_8, li_9, li_10, li_11, li_12, li_13, li_14, li_15, li_16, li_17, li_18, li_19, li_20, li_21, li_22, li_23, li_24, li_25, li_26, li_27, li_28, li_29, li_30, li_31, li_32, li_60, li_63, li_64, li_80, li_100, li_128, li_160, li_320, li_511, li_512, li_1600, li_1700, li_2000, li_2048, li_32000, li_2147483647]
    · simp (disch := omega) only [fX6_key, u1, mset_s, mset_nk, mset_nj, mrow_s, mrow_n, ifeq_s, nar_0, nar_1, isB_0, isB_1, bnd_e, jn_e, Option.bind_some, gd_true, gd_dec, Bool.true_and, Bool.and_true, Bool.and_self, tn_nI, inb_nI, ifle_t, ifle_f, iflt_t, iflt_f, ifeq_f, if_true, ofN_nI, nI_add, nI_subl, li_0, li_1, li_2, li_3, li_4, li_5, li_6, li_7, li_8, li_9, li_10, li_11, li_12, li_13, li_14, li_15, li_16, li_17, li_18, li_19, li_20, li_21, li_22, li_23, li_24, li_25, li_26, li_27, li_28, li_29, li_30, li_31, li_32, li_60, li_63, li_64, li_80, li_100, li_128, li_160, li_320, li_511, li_512, li_1600, li_1700, li_2000, li_2048, li_32000, li_2147483647]
    · rw [u4 0 (by omega), mset_nk _ _ _ (by omega), mset_s]
    refine ⟨fun _ => 0, fun _ => 20, st, md, et, lg, tb, en, rt, ⟨⟨fun t ht => ?_, fun j hj => ?_⟩, fun q hq => ?_⟩, ⟨⟨?_, ?_, ?_, ?_, ?_⟩, fun q hq => ?_⟩, ⟨fun q hq => ?_, ?_, ?_, ?_, ?_⟩⟩
    · rw [u6 18 (by omega) (by omega) (by omega) (by omega)]; exact hM.1.1 t ht
    · rw [u6 19 (by omega) (by omega) (by omega) (by omega)]; exact hM.1.2 j hj
    · obtain ⟨a1, a2, a3, a4, a5, a6, a7, a8, a9⟩ := hM.2 q hq
      have e5 := u6 5 (by omega) (by omega) (by omega) (by omega)
      have e13 := u6 13 (by omega) (by omega) (by omega) (by omega)
      have e15 := u6 15 (by omega) (by omega) (by omega) (by omega)
      have e11 := u6 11 (by omega) (by omega) (by omega) (by omega)
      have e9 := u6 9 (by omega) (by omega) (by omega) (by omega)
      have e7 := u6 7 (by omega) (by omega) (by omega) (by omega)
      have e8 := u6 8 (by omega) (by omega) (by omega) (by omega)
      unfold pgM
      rw [e5, e13, e15, e11, e9, e7, e8]
      exact ⟨(u2 q hq).1, by rw [oI_20n]; exact (u2 q hq).2, a3, a4, a5, a6, a7, a8, a9⟩
    · intro j h1 h2; rw [w _ _ (by omega), v4 _ _ (by omega) (by omega)]; exact hp j h1 h2
    · rw [mset_s, u3]
    · rw [w _ _ (by omega), v4 _ _ (by omega) (by omega), u4 18 (by omega), mset_nk _ _ _ (by omega), mset_nj _ _ _ (by omega)]; exact hs
    · intro j hj
      rw [w _ _ (by omega), v3 _ _ (by omega), u5 1 (by omega) (by omega) (by omega), mset_get, mset_get]
      by_cases e : j = i
      · simp [e]
      · rw [if_neg (by omega), if_neg (by omega), mset_nk _ _ _ (by omega)]; exact hk j hj
    · intro f hf j hj
      rw [w _ _ (by omega), v4 _ _ (by omega) (by omega), u6 2 (by omega) (by omega) (by omega) (by omega)]; exact hfr f hf j hj
    · obtain ⟨a1, a2, a3, a4, a5, a6, -⟩ := hpg q hq
      refine ⟨?_, ?_, ?_, fun j hj => ?_, fun j hj => ?_, fun j hj => ?_, fun e => absurd (show (0:Nat) = 1 from e) (by omega), fun e => absurd (show (0:Nat) = 1 from e) (by omega), fun e => absurd (show (0:Nat) = 1 from e) (by omega), fun e => absurd (show (0:Nat) = 2 from e) (by omega), fun e => absurd (show (0:Nat) = 2 from e) (by omega), fun e => absurd (show (0:Nat) = 2 from e) (by omega)⟩
      · rw [w _ _ (by omega)]; exact (v2 q hq).1
      · rw [w _ _ (by omega), oI_20n]; exact (v2 q hq).2
      · rw [w _ _ (by omega), v4 _ _ (by omega) (by omega)]; exact a3
      · rw [w _ _ (by omega), v4 _ _ (by omega) (by omega)]; exact a4 j hj
      · rw [w _ _ (by omega), v4 _ _ (by omega) (by omega)]; exact a5 j hj
      · rw [w _ _ (by omega), v4 _ _ (by omega) (by omega), u6 6 (by omega) (by omega) (by omega) (by omega)]; exact a6 j hj
    · obtain ⟨b1, b2, b3, b4, b5, b6, b7, b8, b9, b10, b11⟩ := hI.1 q hq
      exact ⟨Nat.zero_le _, b2, b3, b4, b5, fun _ => rfl, fun e => absurd (show (2:Nat) ≤ 0 from e) (by omega), fun e => absurd (show (0:Nat) = 1 from e) (by omega), b9, b10, b11⟩
    · intro q hq e; exact absurd (show (0:Nat) = 1 from e) (by omega)
    · intro q hq e; exact absurd (show (0:Nat) = 3 from e) (by omega)
    · intro q q' hq hq' e; exact absurd (show (0:Nat) = 3 from e) (by omega)
    · intro q hq e; exact absurd (show (0:Nat) = 1 from e) (by omega)
