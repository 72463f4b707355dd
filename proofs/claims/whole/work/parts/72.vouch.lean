/-! Vouching and checking. -/
theorem ldl_e {C R : Mem} {th : Nat} {kd ow st md et lg : Nat → Nat} {tb en rt : Nat → Nat → Nat} {β : Type} (h : RW C R th kd ow st md et lg tb en rt) (hI : IV kd ow st md et lg tb en rt) {s : Nat} (hs : s < 20) (ks : kd s = 1) (ss : st s = 1) (h21 : R 0 21 = nI s) (h24 : R 0 24 = nI 0) (x : Int32) (L : Nat → Int32 → Mem → Option β) (F : Int32 → Mem → Option β) (N c o : Nat) (hN : N ≤ 24) (hc : c = 20 ∨ c = 24)
    (l1 : ∀ n i M v M', i < N → fX6_load M (x + nI i) = some (v, M') → L (n + 1) (nI i) M = L n (nI (i + 1)) (mset M' c (o + i) v)) (l2 : ∀ n M, L (n + 1) (nI N) M = F (nI N) M) :
    ∃ R', L FU (nI 0) R = F (nI N) R' ∧ (∀ a, a ≠ 0 → a ≠ c → R' a = R a) ∧ (∀ b, b ≠ 24 → R' 0 b = R 0 b) ∧ ((R' 0 24 = nI 0 ∧ ∀ k, k < N → ∃ n, lx tb en rt s 1 (x + nI k) = some n ∧ R' c (o + k) = mrd R n) ∨ (R' 0 24 = nI 2 ∧ ∃ k, k < N ∧ lx tb en rt s 1 (x + nI k) = none)) := by
  refine loop_inv L F N (fun i M => (∀ a, a ≠ 0 → a ≠ c → M a = R a) ∧ (∀ b, b ≠ 24 → M 0 b = R 0 b) ∧ ((M 0 24 = nI 0 ∧ ∀ k, k < i → ∃ n, lx tb en rt s 1 (x + nI k) = some n ∧ M c (o + k) = mrd R n) ∨ (M 0 24 = nI 2 ∧ ∃ k, k < i ∧ lx tb en rt s 1 (x + nI k) = none))) (by omega) (fun n i M hi hp => ?_) (fun n M _ => l2 n M) ⟨fun _ _ _ => rfl, fun _ _ => rfl, Or.inl ⟨h24, fun k hk => absurd hk (by omega)⟩⟩
  obtain ⟨p1, p2, p3⟩ := hp
  have hM : RW C M th kd ow st md et lg tb en rt := RW_fr h (IV85 hI) (fun _ _ _ _ _ _ _ _ => rfl) (fun a b _ _ _ => by rw [p1 a (by omega) (by omega)])
  have li := lies_e hM hI hs (Or.inl rfl) (by rw [p2 21 (by omega)]; exact h21) (x + nI i)
  rcases lx_alt hI hs ks ss 1 (x + nI i) with l | ⟨a, w, ha, ex, hw, l, -⟩
  · rw [l] at li
    rcases p3 with ⟨q1, q2⟩ | ⟨q1, q2⟩
    · have e := ldM_n (g := 0) (by omega) q1 li
      refine ⟨_, l1 n i M _ _ hi e, fun a h0 hc => by rw [mset_nk _ _ _ hc, mset_nk _ _ _ h0]; exact p1 a h0 hc, fun b hb => by rw [mset_nk _ _ _ (by omega), mset_nj _ _ _ hb]; exact p2 b hb, Or.inr ⟨by rw [mset_nk _ _ _ (by omega), mset_s]; rfl, i, by omega, l⟩⟩
    · have e := ldM_n (g := 2) (by omega) q1 li
      refine ⟨_, l1 n i M _ _ hi e, fun a h0 hc => by rw [mset_nk _ _ _ hc, mset_nk _ _ _ h0]; exact p1 a h0 hc, fun b hb => by rw [mset_nk _ _ _ (by omega), mset_nj _ _ _ hb]; exact p2 b hb, Or.inr ⟨by rw [mset_nk _ _ _ (by omega), mset_s]; rfl, i, by omega, l⟩⟩
  · rw [l] at li
    have e := ldM_s (by omega) li
    have er : mrd M (16 * w + a % 16) = mrd R (16 * w + a % 16) := mrd_congr (p1 2 (by omega) (by omega)) (p1 6 (by omega) (by omega)) _
    refine ⟨_, l1 n i M _ _ hi e, fun a h0 hc => by rw [mset_nk _ _ _ hc]; exact p1 a h0 hc, fun b hb => by rw [mset_nk _ _ _ (by omega)]; exact p2 b hb, ?_⟩
    rw [mset_nk _ _ _ (show 0 ≠ c by omega)]
    rcases p3 with ⟨q1, q2⟩ | ⟨q1, k, q2, q3⟩
    · refine Or.inl ⟨q1, fun k hk => ?_⟩
      by_cases d : k = i
      · subst d; exact ⟨_, l, by rw [mset_s]; exact er⟩
      · rw [mset_nj _ _ _ (by omega)]; exact q2 k (by omega)
    · exact Or.inr ⟨q1, k, by omega, q3⟩
theorem v32_e {C R : Mem} {th : Nat} {kd ow st md et lg : Nat → Nat} {tb en rt : Nat → Nat → Nat} (h : RW C R th kd ow st md et lg tb en rt) (hI : IV kd ow st md et lg tb en rt) {s : Nat} (hs : s < 20) (h21 : R 0 21 = nI s) (h24 : R 0 24 = nI 0) (x : Int32) (F : Int32 → Mem → Option Mem) :
    ∃ R', lp_X6_vouch_32 x F FU (nI 0) R = F (nI 8) R' ∧ (∀ a, a ≠ 0 → R' a = R a) ∧ (∀ b, b ≠ 24 → R' 0 b = R 0 b) ∧ ((R' 0 24 = nI 0 ∧ ∀ k, k < 8 → ∃ n, lx tb en rt s 2 (x + nI k) = some n) ∨ (R' 0 24 = nI 3 ∧ ∃ k, k < 8 ∧ lx tb en rt s 2 (x + nI k) = none)) := by
  refine loop_inv (fun n i M => lp_X6_vouch_32 x F n i M) F 8 (fun i M => (∀ a, a ≠ 0 → M a = R a) ∧ (∀ b, b ≠ 24 → M 0 b = R 0 b) ∧ ((M 0 24 = nI 0 ∧ ∀ k, k < i → ∃ n, lx tb en rt s 2 (x + nI k) = some n) ∨ (M 0 24 = nI 3 ∧ ∃ k, k < i ∧ lx tb en rt s 2 (x + nI k) = none))) (by omega) (fun n i M hi hp => ?_) (fun n M _ => by simp (disch := omega) only [lp_X6_vouch_32_s, mset_s, mset_nk, mset_nj, mrow_s, mrow_n, ifeq_s, nar_0, nar_1, isB_0, isB_1, bnd_e, jn_e, Option.bind_some, gd_true, gd_dec, Bool.true_and, Bool.and_true, Bool.and_self, tn_nI, inb_nI, ifle_t, ifle_f, iflt_t, iflt_f, ifeq_f, if_true, ofN_nI, nI_add, nI_subl, li_0, li_1, li_2, li_3, li_4, li_5, li_6, li_7, li_8, li_9, li_10, li_11, li_12, li_13, li_14, li_15, li_16, li_17, li_18, li_19, li_20, li_21, li_22, li_23, li_24, li_25, li_26, li_27, li_28, li_29, li_30, li_31, li_32, li_60, li_63, li_64, li_80, li_100, li_128, li_160, li_320, li_511, li_512, li_1600, li_1700, li_2000, li_2048, li_32000, li_2147483647]) ⟨fun _ _ => rfl, fun _ _ => rfl, Or.inl ⟨h24, fun k hk => absurd hk (by omega)⟩⟩
  obtain ⟨p1, p2, p3⟩ := hp
  rcases p3 with ⟨q1, q2⟩ | ⟨q1, k, q2, q3⟩
  · have hM : RW C M th kd ow st md et lg tb en rt := RW_fr h (IV85 hI) (fun _ _ _ _ _ _ _ _ => rfl) (fun a b _ _ _ => by rw [p1 a (by omega)])
    have li := lies_e hM hI hs (Or.inr (Or.inl rfl)) (by rw [p2 21 (by omega)]; exact h21) (x + nI i)
    cases l : lx tb en rt s 2 (x + nI i) with
    | none =>
      rw [l] at li
      have li : fX6_lies M (x + nI i) (nI 2) = some (-nI 1, M) := li
      have nm := m1_nle
      refine ⟨mset M 0 24 (nI 3), ?_, fun a h0 => by rw [mset_nk _ _ _ h0]; exact p1 a h0, fun b hb => by rw [mset_nj _ _ _ hb]; exact p2 b hb, Or.inr ⟨mset_s _ _ _ _, i, by omega, l⟩⟩
      simp (disch := omega) only [lp_X6_vouch_32_s, q1, li, nm, if_false, mset_s, mset_nk, mset_nj, mrow_s, mrow_n, ifeq_s, nar_0, nar_1, isB_0, isB_1, bnd_e, jn_e, Option.bind_some, gd_true, gd_dec, Bool.true_and, Bool.and_true, Bool.and_self, tn_nI, inb_nI, ifle_t, ifle_f, iflt_t, iflt_f, ifeq_f, if_true, ofN_nI, nI_add, nI_subl, li_0, li_1, li_2, li_3, li_4, li_5, li_6, li_7, li_8, li_9, li_10, li_11, li_12, li_13, li_14, li_15, li_16, li_17, li_18, li_19, li_20, li_21, li_22, li_23, li_24, li_25, li_26, li_27, li_28, li_29, li_30, li_31, li_32, li_60, li_63, li_64, li_80, li_100, li_128, li_160, li_320, li_511, li_512, li_1600, li_1700, li_2000, li_2048, li_32000, li_2147483647]
    | some m =>
      rw [l] at li
      have li : fX6_lies M (x + nI i) (nI 2) = some (nI m, M) := li
      have hm : m < 448 := by
        rcases argc (x + nI i) (show 512 < 2 ^ 31 by omega) with hx | ⟨a, ha, ex⟩
        · rw [lx_bad hx] at l; exact absurd l (by simp)
        · rw [ex, lx_nI ha] at l
          unfold lk at l
          by_cases c : tb s (a / 16 / 8) < 20 ∧ en (tb s (a / 16 / 8)) (a / 16 % 8) ≠ 0 ∧ rt (tb s (a / 16 / 8)) (a / 16 % 8) &&& 2 ≠ 0
          · rw [if_pos c] at l
            have b := (hI.1 _ c.1).2.2.2.2.2.2.2.2.2.1 (a / 16 % 8) (by omega)
            have l := Option.some.inj l
            omega
          · rw [if_neg c] at l; exact absurd l (by simp)
      refine ⟨M, ?_, p1, p2, Or.inl ⟨q1, fun k hk => ?_⟩⟩
      · simp (disch := omega) only [lp_X6_vouch_32_s, q1, li, mset_s, mset_nk, mset_nj, mrow_s, mrow_n, ifeq_s, nar_0, nar_1, isB_0, isB_1, bnd_e, jn_e, Option.bind_some, gd_true, gd_dec, Bool.true_and, Bool.and_true, Bool.and_self, tn_nI, inb_nI, ifle_t, ifle_f, iflt_t, iflt_f, ifeq_f, if_true, ofN_nI, nI_add, nI_subl, li_0, li_1, li_2, li_3, li_4, li_5, li_6, li_7, li_8, li_9, li_10, li_11, li_12, li_13, li_14, li_15, li_16, li_17, li_18, li_19, li_20, li_21, li_22, li_23, li_24, li_25, li_26, li_27, li_28, li_29, li_30, li_31, li_32, li_60, li_63, li_64, li_80, li_100, li_128, li_160, li_320, li_511, li_512, li_1600, li_1700, li_2000, li_2048, li_32000, li_2147483647]
      · by_cases d : k = i
        · subst d; exact ⟨_, l⟩
        · exact q2 k (by omega)
  · refine ⟨M, ?_, p1, p2, Or.inr ⟨q1, k, by omega, q3⟩⟩
    simp (disch := omega) only [lp_X6_vouch_32_s, q1, mset_s, mset_nk, mset_nj, mrow_s, mrow_n, ifeq_s, nar_0, nar_1, isB_0, isB_1, bnd_e, jn_e, Option.bind_some, gd_true, gd_dec, Bool.true_and, Bool.and_true, Bool.and_self, tn_nI, inb_nI, ifle_t, ifle_f, iflt_t, iflt_f, ifeq_f, if_true, ofN_nI, nI_add, nI_subl, li_0, li_1, li_2, li_3, li_4, li_5, li_6, li_7, li_8, li_9, li_10, li_11, li_12, li_13, li_14, li_15, li_16, li_17, li_18, li_19, li_20, li_21, li_22, li_23, li_24, li_25, li_26, li_27, li_28, li_29, li_30, li_31, li_32, li_60, li_63, li_64, li_80, li_100, li_128, li_160, li_320, li_511, li_512, li_1600, li_1700, li_2000, li_2048, li_32000, li_2147483647]
theorem v32_n {R : Mem} {g : Nat} (hg : 0 < g) (hg2 : g < 10) (h24 : R 0 24 = nI g) (x : Int32) (F : Int32 → Mem → Option Mem) : lp_X6_vouch_32 x F FU (nI 0) R = F (nI 8) R := by
  obtain ⟨R', e, rfl⟩ := loop_inv (fun n i M => lp_X6_vouch_32 x F n i M) F 8 (fun i M => M = R) (by omega) (fun n i M hi hp => ⟨R, by subst hp; simp (disch := omega) only [lp_X6_vouch_32_s, h24, mset_s, mset_nk, mset_nj, mrow_s, mrow_n, ifeq_s, nar_0, nar_1, isB_0, isB_1, bnd_e, jn_e, Option.bind_some, gd_true, gd_dec, Bool.true_and, Bool.and_true, Bool.and_self, tn_nI, inb_nI, ifle_t, ifle_f, iflt_t, iflt_f, ifeq_f, if_true, ofN_nI, nI_add, nI_subl, li_0, li_1, li_2, li_3, li_4, li_5, li_6, li_7, li_8, li_9, li_10, li_11, li_12, li_13, li_14, li_15, li_16, li_17, li_18, li_19, li_20, li_21, li_22, li_23, li_24, li_25, li_26, li_27, li_28, li_29, li_30, li_31, li_32, li_60, li_63, li_64, li_80, li_100, li_128, li_160, li_320, li_511, li_512, li_1600, li_1700, li_2000, li_2048, li_32000, li_2147483647], rfl⟩) (fun n M _ => by simp (disch := omega) only [lp_X6_vouch_32_s, mset_s, mset_nk, mset_nj, mrow_s, mrow_n, ifeq_s, nar_0, nar_1, isB_0, isB_1, bnd_e, jn_e, Option.bind_some, gd_true, gd_dec, Bool.true_and, Bool.and_true, Bool.and_self, tn_nI, inb_nI, ifle_t, ifle_f, iflt_t, iflt_f, ifeq_f, if_true, ofN_nI, nI_add, nI_subl, li_0, li_1, li_2, li_3, li_4, li_5, li_6, li_7, li_8, li_9, li_10, li_11, li_12, li_13, li_14, li_15, li_16, li_17, li_18, li_19, li_20, li_21, li_22, li_23, li_24, li_25, li_26, li_27, li_28, li_29, li_30, li_31, li_32, li_60, li_63, li_64, li_80, li_100, li_128, li_160, li_320, li_511, li_512, li_1600, li_1700, li_2000, li_2048, li_32000, li_2147483647]) (M := R) rfl
  exact e
theorem sv_e {th : Nat} {kd ow st md et lg : Nat → Nat} {tb en rt : Nat → Nat → Nat} (hI : IV kd ow st md et lg tb en rt) {s : Nat} (hs : s < 20) (ks : kd s = 1) (ss : st s = 1) (x : Int32) (F : Int32 → Mem → Option (Int32 × Mem)) (G : Int32 → Mem → Option Mem) (hx : ∀ k, k < 8 → ∃ n, lx tb en rt s 2 (x + nI k) = some n) :
    ∀ (k i n m : Nat) (C R : Mem), i + k = 8 → k < n → k < m → RW C R th kd ow st md et lg tb en rt → R 0 21 = nI s → R 0 24 = nI 0 → (∀ j, j < 8 → C 142 j = R 22 j) →
    ∃ C' R', lp_X1_vouch_48 (33 + 5 * s) x F n (nI i) C = F (nI 8) C' ∧ lp_X6_vouch_84 x G m (nI i) R = G (nI 8) R' ∧ RW C' R' th kd ow st md et lg tb en rt ∧ (∀ a, (a < 5 ∨ 33 ≤ a) → C' a = C a) ∧ ∀ a, a ≠ 2 → a ≠ 6 → R' a = R a := by
  intro k
  induction k with
  | zero =>
    intro i n m C R e hn hm h h21 h24 hv
    obtain ⟨n, rfl⟩ : ∃ q, n = q + 1 := ⟨n - 1, by omega⟩
    obtain ⟨m, rfl⟩ : ∃ q, m = q + 1 := ⟨m - 1, by omega⟩
    obtain rfl : i = 8 := by omega
    refine ⟨C, R, ?_, ?_, h, fun _ _ => rfl, fun _ _ _ => rfl⟩
    · simp (disch := omega) only [lp_X1_vouch_48_s, mset_s, mset_nk, mset_nj, mrow_s, mrow_n, ifeq_s, nar_0, nar_1, isB_0, isB_1, bnd_e, jn_e, Option.bind_some, gd_true, gd_dec, Bool.true_and, Bool.and_true, Bool.and_self, tn_nI, inb_nI, ifle_t, ifle_f, iflt_t, iflt_f, ifeq_f, if_true, ofN_nI, nI_add, nI_subl, li_0, li_1, li_2, li_3, li_4, li_5, li_6, li_7, li_8, li_9, li_10, li_11, li_12, li_13, li_14, li_15, li_16, li_17, li_18, li_19, li_20, li_21, li_22, li_23, li_24, li_25, li_26, li_27, li_28, li_29, li_30, li_31, li_32, li_60, li_63, li_64, li_80, li_100, li_128, li_160, li_320, li_511, li_512, li_1600, li_1700, li_2000, li_2048, li_32000, li_2147483647]
    · simp (disch := omega) only [lp_X6_vouch_84_s, mset_s, mset_nk, mset_nj, mrow_s, mrow_n, ifeq_s, nar_0, nar_1, isB_0, isB_1, bnd_e, jn_e, Option.bind_some, gd_true, gd_dec, Bool.true_and, Bool.and_true, Bool.and_self, tn_nI, inb_nI, ifle_t, ifle_f, iflt_t, iflt_f, ifeq_f, if_true, ofN_nI, nI_add, nI_subl, li_0, li_1, li_2, li_3, li_4, li_5, li_6, li_7, li_8, li_9, li_10, li_11, li_12, li_13, li_14, li_15, li_16, li_17, li_18, li_19, li_20, li_21, li_22, li_23, li_24, li_25, li_26, li_27, li_28, li_29, li_30, li_31, li_32, li_60, li_63, li_64, li_80, li_100, li_128, li_160, li_320, li_511, li_512, li_1600, li_1700, li_2000, li_2048, li_32000, li_2147483647]
  | succ k ih =>
    intro i n m C R e hn hm h h21 h24 hv
    obtain ⟨n, rfl⟩ : ∃ q, n = q + 1 := ⟨n - 1, by omega⟩
    obtain ⟨m, rfl⟩ : ∃ q, m = q + 1 := ⟨m - 1, by omega⟩
    have ra := rowAt_e h hI hs (Or.inr (Or.inl rfl)) (x + nI i)
    have li := lies_e h hI hs (Or.inr (Or.inl rfl)) h21 (x + nI i)
    rcases lx_alt hI hs ks ss 2 (x + nI i) with l | ⟨a, w, ha, ex, hw, l, -⟩
    · obtain ⟨n, hn⟩ := hx i (by omega)
      rw [hn] at l
      exact absurd l (by simp)
    · rw [l] at ra li
      have ra : fX4_rowAt C (33 + 5 * s) (x + nI i) (nI 2) = some (some (5 + (16 * w + a % 16) / 16), C) := ra
      rw [show (16 * w + a % 16) / 16 = w by omega] at ra
      have sc : fX1_save C (33 + 5 * s) (x + nI i) (C 142 i) = some (nI 0, mset C (5 + w) (a % 16) (C 142 i)) := by
        rw [ex] at ra ⊢
        exact svC_s ha hw ra
      have sm : fX6_store R (x + nI i) (R 22 i) = some (mwr R (16 * w + a % 16) (R 22 i)) := stM_s (by omega) li
      rw [← hv i (by omega)] at sm
      have h' := RW_st h (IV85 hI) hw (show a % 16 < 16 by omega) (C 142 i)
      have mw : ∀ b, b ≠ 2 → b ≠ 6 → mwr R (16 * w + a % 16) (C 142 i) b = R b := fun b h2 h6 => by
        unfold mwr
        by_cases c : 320 ≤ 16 * w + a % 16
        · rw [if_pos c, mset_nk _ _ _ h2]
        · rw [if_neg c, mset_nk _ _ _ h6]
      obtain ⟨C', R', e1, e2, e3, e4, e5⟩ := ih (i + 1) n m _ _ (by omega) (by omega) (by omega) h' (by rw [mw 0 (by omega) (by omega)]; exact h21) (by rw [mw 0 (by omega) (by omega)]; exact h24) (fun j hj => by rw [mw 22 (by omega) (by omega), mset_nk _ _ _ (by omega)]; exact hv j hj)
      refine ⟨C', R', ?_, ?_, e3, fun b hb => by rw [e4 b hb, mset_nk _ _ _ (by omega)], fun b h2 h6 => by rw [e5 b h2 h6, mw b h2 h6]⟩
      · rw [← e1]
        simp (disch := omega) only [lp_X1_vouch_48_s, sc, mset_s, mset_nk, mset_nj, mrow_s, mrow_n, ifeq_s, nar_0, nar_1, isB_0, isB_1, bnd_e, jn_e, Option.bind_some, gd_true, gd_dec, Bool.true_and, Bool.and_true, Bool.and_self, tn_nI, inb_nI, ifle_t, ifle_f, iflt_t, iflt_f, ifeq_f, if_true, ofN_nI, nI_add, nI_subl, li_0, li_1, li_2, li_3, li_4, li_5, li_6, li_7, li_8, li_9, li_10, li_11, li_12, li_13, li_14, li_15, li_16, li_17, li_18, li_19, li_20, li_21, li_22, li_23, li_24, li_25, li_26, li_27, li_28, li_29, li_30, li_31, li_32, li_60, li_63, li_64, li_80, li_100, li_128, li_160, li_320, li_511, li_512, li_1600, li_1700, li_2000, li_2048, li_32000, li_2147483647]
      · rw [← e2, hv i (by omega)]
        rw [hv i (by omega)] at sm
        simp (disch := omega) only [lp_X6_vouch_84_s, h24, sm, mset_s, mset_nk, mset_nj, mrow_s, mrow_n, ifeq_s, nar_0, nar_1, isB_0, isB_1, bnd_e, jn_e, Option.bind_some, gd_true, gd_dec, Bool.true_and, Bool.and_true, Bool.and_self, tn_nI, inb_nI, ifle_t, ifle_f, iflt_t, iflt_f, ifeq_f, if_true, ofN_nI, nI_add, nI_subl, li_0, li_1, li_2, li_3, li_4, li_5, li_6, li_7, li_8, li_9, li_10, li_11, li_12, li_13, li_14, li_15, li_16, li_17, li_18, li_19, li_20, li_21, li_22, li_23, li_24, li_25, li_26, li_27, li_28, li_29, li_30, li_31, li_32, li_60, li_63, li_64, li_80, li_100, li_128, li_160, li_320, li_511, li_512, li_1600, li_1700, li_2000, li_2048, li_32000, li_2147483647]
theorem ln12 : lnM 12 = 160 := by decide
theorem sim_vouch {C R : Mem} {th : Nat} {kd ow st md et lg : Nat → Nat} {tb en rt : Nat → Nat → Nat} (h : RW C R th kd ow st md et lg tb en rt) (hI : IV kd ow st md et lg tb en rt) {s : Nat} (hs : s < 20) (ks : kd s = 1) (ss : st s = 1) (h21 : R 0 21 = nI s) (h24 : R 0 24 = nI 0) (x y : Int32) :
    ∃ o C' R', fX1_vouch C (33 + 5 * s) x y = some (nI o, C') ∧ fX6_vouch R x y = some R' ∧ o < 4 ∧ R' 0 24 = nI o ∧ RW C' R' th kd ow st md et lg tb en rt ∧ (∀ a, (a < 5 ∨ (33 ≤ a ∧ a < 136)) → C' a = C a) ∧ (∀ b, b ≠ 24 → R' 0 b = R 0 b) ∧ ∀ a, a ≠ 0 → a ≠ 2 → a ≠ 6 → a ≠ 20 → a ≠ 21 → a ≠ 22 → a ≠ 23 → R' a = R a := by
  obtain ⟨R1, a1, a2, a3, a4⟩ := ldl_e h hI hs ks ss h21 h24 x (fun n i M => lp_X6_vouch_2 x (fun x4 M5 => lp_X6_vouch_32 y (fun x9 M10 => (fX6_voucher M10 12 (nI 8 * M10 0 21)).bind (fun q12 => lp_X6_vouch_84 y (fun _ M17 => some M17) FU (nI 0) q12)) FU (nI 0) M5) n i M) (fun x4 M5 => lp_X6_vouch_32 y (fun x9 M10 => (fX6_voucher M10 12 (nI 8 * M10 0 21)).bind (fun q12 => lp_X6_vouch_84 y (fun _ M17 => some M17) FU (nI 0) q12)) FU (nI 0) M5) 8 20 16 (by omega) (Or.inl rfl)
    (fun n i M v M' hi e => by simp (disch := omega) only [lp_X6_vouch_2_s, e, mset_s, mset_nk, mset_nj, mrow_s, mrow_n, ifeq_s, nar_0, nar_1, isB_0, isB_1, bnd_e, jn_e, Option.bind_some, gd_true, gd_dec, Bool.true_and, Bool.and_true, Bool.and_self, tn_nI, inb_nI, ifle_t, ifle_f, iflt_t, iflt_f, ifeq_f, if_true, ofN_nI, nI_add, nI_subl, li_0, li_1, li_2, li_3, li_4, li_5, li_6, li_7, li_8, li_9, li_10, li_11, li_12, li_13, li_14, li_15, li_16, li_17, li_18, li_19, li_20, li_21, li_22, li_23, li_24, li_25, li_26, li_27, li_28, li_29, li_30, li_31, li_32, li_60, li_63, li_64, li_80, li_100, li_128, li_160, li_320, li_511, li_512, li_1600, li_1700, li_2000, li_2048, li_32000, li_2147483647]) (fun n M => by simp (disch := omega) only [lp_X6_vouch_2_s, mset_s, mset_nk, mset_nj, mrow_s, mrow_n, ifeq_s, nar_0, nar_1, isB_0, isB_1, bnd_e, jn_e, Option.bind_some, gd_true, gd_dec, Bool.true_and, Bool.and_true, Bool.and_self, tn_nI, inb_nI, ifle_t, ifle_f, iflt_t, iflt_f, ifeq_f, if_true, ofN_nI, nI_add, nI_subl, li_0, li_1, li_2, li_3, li_4, li_5, li_6, li_7, li_8, li_9, li_10, li_11, li_12, li_13, li_14, li_15, li_16, li_17, li_18, li_19, li_20, li_21, li_22, li_23, li_24, li_25, li_26, li_27, li_28, li_29, li_30, li_31, li_32, li_60, li_63, li_64, li_80, li_100, li_128, li_160, li_320, li_511, li_512, li_1600, li_1700, li_2000, li_2048, li_32000, li_2147483647])
  have un : fX6_vouch R x y = lp_X6_vouch_2 x (fun x4 M5 => lp_X6_vouch_32 y (fun x9 M10 => (fX6_voucher M10 12 (nI 8 * M10 0 21)).bind (fun q12 => lp_X6_vouch_84 y (fun _ M17 => some M17) FU (nI 0) q12)) FU (nI 0) M5) FU (nI 0) R := by
    unfold fX6_vouch
    simp only [jn_e, bnd_e, li_0, li_8]
  have a1 : lp_X6_vouch_2 x (fun x4 M5 => lp_X6_vouch_32 y (fun x9 M10 => (fX6_voucher M10 12 (nI 8 * M10 0 21)).bind (fun q12 => lp_X6_vouch_84 y (fun _ M17 => some M17) FU (nI 0) q12)) FU (nI 0) M5) FU (nI 0) R = lp_X6_vouch_32 y (fun x9 M10 => (fX6_voucher M10 12 (nI 8 * M10 0 21)).bind (fun q12 => lp_X6_vouch_84 y (fun _ M17 => some M17) FU (nI 0) q12)) FU (nI 0) R1 := a1
  have h1 : RW C R1 th kd ow st md et lg tb en rt := RW_fr h (IV85 hI) (fun _ _ _ _ _ _ _ _ => rfl) (fun a b _ _ _ => by rw [a2 a (by omega) (by omega)])
  have s1 : R1 0 21 = nI s := by rw [a3 21 (by omega)]; exact h21
  -- the voucher of the reference, whatever the fault
  have vou : ∀ R2 : Mem, (∀ a, a ≠ 0 → R2 a = R1 a) → R2 0 21 = nI s → ∃ R3, fX6_voucher R2 12 (nI 8 * R2 0 21) = some R3 ∧ (∀ j, j < 8 → R3 22 j = hsh (vmsg (R1 1) (fun k => R1 12 (8 * s + k)) (fun k => R1 20 (16 + k))) 2 j) ∧ ∀ a, a ≠ 20 → a ≠ 21 → a ≠ 22 → a ≠ 23 → R3 a = R2 a := fun R2 e0 e21 => by
    have k2 : kOk R2 := ⟨fun t ht => by rw [e0 _ (by omega)]; exact h1.1.1.1 t ht, fun j hj => by rw [e0 _ (by omega)]; exact h1.1.1.2 j hj⟩
    obtain ⟨R3, b1, b2, b3⟩ := voucherM_e (M := R2) (p0 := 12) (fr := 8 * s) (by decide) (by rw [ln12]; omega) (by decide) (by omega) k2
    rw [e21, pk_mul]
    refine ⟨R3, b1, fun j hj => ?_, b3⟩
    rw [b2 j hj, e0 1 (by omega), e0 12 (by omega), e0 20 (by omega)]
  have stop : ∀ (R3 : Mem) (g : Nat), 0 < g → g < 4 → R3 0 24 = nI g → lp_X6_vouch_84 y (fun _ M17 => some M17) FU (nI 0) R3 = some R3 := fun R3 g g0 g1 e => by
    obtain ⟨n, hn⟩ : ∃ n, FU = n + 1 := ⟨FU - 1, by have := FU_le; omega⟩
    rw [hn]
    simp (disch := omega) only [lp_X6_vouch_84_s, e, mset_s, mset_nk, mset_nj, mrow_s, mrow_n, ifeq_s, nar_0, nar_1, isB_0, isB_1, bnd_e, jn_e, Option.bind_some, gd_true, gd_dec, Bool.true_and, Bool.and_true, Bool.and_self, tn_nI, inb_nI, ifle_t, ifle_f, iflt_t, iflt_f, ifeq_f, if_true, ofN_nI, nI_add, nI_subl, li_0, li_1, li_2, li_3, li_4, li_5, li_6, li_7, li_8, li_9, li_10, li_11, li_12, li_13, li_14, li_15, li_16, li_17, li_18, li_19, li_20, li_21, li_22, li_23, li_24, li_25, li_26, li_27, li_28, li_29, li_30, li_31, li_32, li_60, li_63, li_64, li_80, li_100, li_128, li_160, li_320, li_511, li_512, li_1600, li_1700, li_2000, li_2048, li_32000, li_2147483647]
  obtain ⟨b, C1, c1, c2, c3⟩ := rd8_e h hI hs ks ss (Or.inl rfl : (139 : Nat) = 139 ∨ _) x
  have hC1 : RW C1 R th kd ow st md et lg tb en rt := RW_fr h (IV85 hI) (fun a b _ _ _ _ _ _ => by rw [c2 a (by omega)]) (fun _ _ _ _ _ => rfl)
  rcases c3 with ⟨rfl, c3⟩ | ⟨rfl, k, hk, c3⟩
  · rcases a4 with ⟨a4, a5⟩ | ⟨-, k, hk, a5⟩
    · obtain ⟨b, d1, d2⟩ := mw8_e hC1 hI hs y
      obtain ⟨R2, e1, e2, e3, e4⟩ := v32_e h1 hI hs s1 a4 y (fun x9 M10 => (fX6_voucher M10 12 (nI 8 * M10 0 21)).bind (fun q12 => lp_X6_vouch_84 y (fun _ M17 => some M17) FU (nI 0) q12))
      obtain ⟨R3, f1, f2, f3⟩ := vou R2 e2 (by rw [e3 21 (by omega)]; exact s1)
      have r3 : ∀ a, a ≠ 0 → a ≠ 20 → a ≠ 21 → a ≠ 22 → a ≠ 23 → R3 a = R a := fun a h0 h20 h21 h22 h23 => by rw [f3 a h20 h21 h22 h23, e2 a h0, a2 a h0 h20]
      have r30 : ∀ b, b ≠ 24 → R3 0 b = R 0 b := fun b hb => by rw [f3 0 (by omega) (by omega) (by omega) (by omega), e3 b hb, a3 b hb]
      have hR3 : ∀ C', (∀ a, a ≠ 139 → a ≠ 136 → a ≠ 137 → a ≠ 138 → a ≠ 142 → C' a = C a) → padOk C' → RW C' R3 th kd ow st md et lg tb en rt := fun C' hh hp => by
        have q := RW_fr (C' := mrow C' 137 (C 137)) (R' := R3) h (IV85 hI) (fun a b _ _ _ _ _ _ => by
          by_cases c : a = 137
          · rw [c, mrow_s]
          · rw [mrow_n _ _ c, hh a (by omega) (by omega) (by omega) (by omega) (by omega)]) (fun a b _ _ _ => by rw [r3 a (by omega) (by omega) (by omega) (by omega) (by omega)])
        refine ⟨q.1, ⟨hp, fun j hj => ?_, fun f hf j hj => ?_⟩, fun p hp => ?_⟩
        · have := q.2.1.2.1 j hj; rw [mrow_n _ _ (by omega)] at this; exact this
        · have := q.2.1.2.2 f hf j hj; rw [mrow_n _ _ (by omega)] at this; exact this
        · have := q.2.2 p hp
          unfold pgC at this ⊢
          rw [mrow_n _ _ (by omega), mrow_n _ _ (by omega), mrow_n _ _ (by omega), mrow_n _ _ (by omega), mrow_n _ _ (by omega), mrow_n _ _ (by omega)] at this
          exact this
      have p1 : padOk C1 := hC1.2.1.1
      rcases d2 with ⟨rfl, d2⟩ | ⟨rfl, k, hk, d2⟩
      · rcases e4 with ⟨e4, e5⟩ | ⟨-, k, hk, e5⟩
        · have md1 := ((hI.1 s hs).2.2.2.2.2.2.2.1 ks).1 ss
          obtain ⟨C2, g1, g2, g3, g4⟩ := voucherC_e (C := C1) (p0 := 33 + 5 * s + 2) (isI_p2 hs) (lnC_p2 hs) (by omega) (by omega) (by omega) (by omega) p1
          have hv : ∀ j, j < 8 → C2 142 j = R3 22 j := fun j hj => by
            rw [g2 j hj, f2 j hj]
            refine hsh_congr (fun i hi => ?_) j hj
            unfold vmsg
            by_cases i8 : i < 8
            · rw [if_pos i8, if_pos i8, a2 1 (by omega) (by omega)]; exact hC1.2.1.2.1 i i8
            · rw [if_neg i8, if_neg i8]
              by_cases i16 : i < 16
              · rw [if_pos i16, if_pos i16, a2 12 (by omega) (by omega)]
                exact (hC1.2.2 s hs).2.2.2.2.2.2.2.1 ks md1 (i - 8) (by omega)
              · rw [if_neg i16, if_neg i16]
                by_cases i24 : i < 24
                · rw [if_pos i24, if_pos i24]
                  obtain ⟨n1, k1, k2⟩ := c3 (i - 16) (by omega)
                  obtain ⟨n2, k3, k4⟩ := a5 (i - 16) (by omega)
                  rw [k1] at k3
                  have k3 := Option.some.inj k3
                  rw [k2, k3]; exact k4.symm
                · rw [if_neg i24, if_neg i24]
          have hw := hR3 C2 (fun a h1 h2 h3 h4 h5 => by rw [g4 a h2 h3 h4 h5, c2 a h1]) g3
          obtain ⟨C', R', j1, j2, j3, j4, j5⟩ := sv_e hI hs ks ss y (fun _ M8 => some (nI 0, M8)) (fun _ M17 => some M17) d2 8 0 FU FU C2 R3 (by omega) (by have := FU_le; omega) (by have := FU_le; omega) hw (by rw [r30 21 (by omega)]; exact h21) (by rw [f3 0 (by omega) (by omega) (by omega) (by omega)]; exact e4) hv
          refine ⟨0, C', R', ?_, ?_, by omega, ?_, j3, fun a ha => ?_, fun b hb => ?_, fun a h0 h2 h6 h20 h21 h22 h23 => ?_⟩
          · unfold fX1_vouch
            simp (disch := omega) only [c1, d1, g1, j1, isPg_p, isI_p1, isI_p2, isI_p3, isI_p4, lnC_p1, lnC_p2, lnC_p3, lnC_p4, isI_r, lnC_r, isI_k, lnC_134, lnC_136, lnC_137, lnC_138, lnC_139, lnC_140, lnC_141, lnC_142, mset_s, mset_nk, mset_nj, mrow_s, mrow_n, ifeq_s, nar_0, nar_1, isB_0, isB_1, bnd_e, jn_e, Option.bind_some, gd_true, gd_dec, Bool.true_and, Bool.and_true, Bool.and_self, tn_nI, inb_nI, ifle_t, ifle_f, iflt_t, iflt_f, ifeq_f, if_true, ofN_nI, nI_add, nI_subl, li_0, li_1, li_2, li_3, li_4, li_5, li_6, li_7, li_8, li_9, li_10, li_11, li_12, li_13, li_14, li_15, li_16, li_17, li_18, li_19, li_20, li_21, li_22, li_23, li_24, li_25, li_26, li_27, li_28, li_29, li_30, li_31, li_32, li_60, li_63, li_64, li_80, li_100, li_128, li_160, li_320, li_511, li_512, li_1600, li_1700, li_2000, li_2048, li_32000, li_2147483647]
          · rw [un, a1, e1]
            show (fX6_voucher R2 12 (nI 8 * R2 0 21)).bind _ = _
            rw [f1]
            exact j2
          · rw [j5 0 (by omega) (by omega), f3 0 (by omega) (by omega) (by omega) (by omega)]; exact e4
          · rw [j4 a (by omega), g4 a (by omega) (by omega) (by omega) (by omega), c2 a (by omega)]
          · rw [j5 0 (by omega) (by omega)]; exact r30 b hb
          · rw [j5 a h2 h6]; exact r3 a h0 h20 h21 h22 h23
        · obtain ⟨n, hn⟩ := d2 k hk
          rw [hn] at e5
          exact absurd e5 (by simp)
      · rcases e4 with ⟨-, e5⟩ | ⟨e4, -⟩
        · obtain ⟨n, hn⟩ := e5 k hk
          rw [hn] at d2
          exact absurd d2 (by simp)
        · have f0 : R3 0 24 = nI 3 := by rw [f3 0 (by omega) (by omega) (by omega) (by omega)]; exact e4
          refine ⟨3, C1, R3, ?_, ?_, by omega, f0, hR3 C1 (fun a h1 _ _ _ _ => c2 a h1) p1, fun a ha => c2 a (by omega), r30, fun a h0 _ _ h20 h21 h22 h23 => r3 a h0 h20 h21 h22 h23⟩
          · unfold fX1_vouch
            simp (disch := omega) only [c1, d1, isPg_p, isI_p1, isI_p2, isI_p3, isI_p4, lnC_p1, lnC_p2, lnC_p3, lnC_p4, isI_r, lnC_r, isI_k, lnC_134, lnC_136, lnC_137, lnC_138, lnC_139, lnC_140, lnC_141, lnC_142, mset_s, mset_nk, mset_nj, mrow_s, mrow_n, ifeq_s, nar_0, nar_1, isB_0, isB_1, bnd_e, jn_e, Option.bind_some, gd_true, gd_dec, Bool.true_and, Bool.and_true, Bool.and_self, tn_nI, inb_nI, ifle_t, ifle_f, iflt_t, iflt_f, ifeq_f, if_true, ofN_nI, nI_add, nI_subl, li_0, li_1, li_2, li_3, li_4, li_5, li_6, li_7, li_8, li_9, li_10, li_11, li_12, li_13, li_14, li_15, li_16, li_17, li_18, li_19, li_20, li_21, li_22, li_23, li_24, li_25, li_26, li_27, li_28, li_29, li_30, li_31, li_32, li_60, li_63, li_64, li_80, li_100, li_128, li_160, li_320, li_511, li_512, li_1600, li_1700, li_2000, li_2048, li_32000, li_2147483647]
          · rw [un, a1, e1]
            show (fX6_voucher R2 12 (nI 8 * R2 0 21)).bind _ = _
            rw [f1]
            exact stop R3 3 (by omega) (by omega) f0
    · obtain ⟨n, hn, -⟩ := c3 k hk
      rw [hn] at a5
      exact absurd a5 (by simp)
  · rcases a4 with ⟨-, a5⟩ | ⟨a4, -⟩
    · obtain ⟨n, hn, -⟩ := a5 k hk
      rw [hn] at c3
      exact absurd c3 (by simp)
    · obtain ⟨R3, f1, f2, f3⟩ := vou R1 (fun _ _ => rfl) s1
      have f0 : R3 0 24 = nI 2 := by rw [f3 0 (by omega) (by omega) (by omega) (by omega)]; exact a4
      have hw : RW C1 R3 th kd ow st md et lg tb en rt := RW_fr h (IV85 hI) (fun a b _ _ _ _ _ _ => by rw [c2 a (by omega)]) (fun a b _ _ _ => by rw [f3 a (by omega) (by omega) (by omega) (by omega), a2 a (by omega) (by omega)])
      refine ⟨2, C1, R3, ?_, ?_, by omega, f0, hw, fun a ha => c2 a (by omega), fun b hb => by rw [f3 0 (by omega) (by omega) (by omega) (by omega)]; exact a3 b hb, fun a h0 _ _ h20 h21 h22 h23 => by rw [f3 a h20 h21 h22 h23]; exact a2 a h0 h20⟩
      · unfold fX1_vouch
        simp (disch := omega) only [c1, isPg_p, isI_p1, isI_p2, isI_p3, isI_p4, lnC_p1, lnC_p2, lnC_p3, lnC_p4, isI_r, lnC_r, isI_k, lnC_134, lnC_136, lnC_137, lnC_138, lnC_139, lnC_140, lnC_141, lnC_142, mset_s, mset_nk, mset_nj, mrow_s, mrow_n, ifeq_s, nar_0, nar_1, isB_0, isB_1, bnd_e, jn_e, Option.bind_some, gd_true, gd_dec, Bool.true_and, Bool.and_true, Bool.and_self, tn_nI, inb_nI, ifle_t, ifle_f, iflt_t, iflt_f, ifeq_f, if_true, ofN_nI, nI_add, nI_subl, li_0, li_1, li_2, li_3, li_4, li_5, li_6, li_7, li_8, li_9, li_10, li_11, li_12, li_13, li_14, li_15, li_16, li_17, li_18, li_19, li_20, li_21, li_22, li_23, li_24, li_25, li_26, li_27, li_28, li_29, li_30, li_31, li_32, li_60, li_63, li_64, li_80, li_100, li_128, li_160, li_320, li_511, li_512, li_1600, li_1700, li_2000, li_2048, li_32000, li_2147483647]
      · rw [un, a1, v32_n (g := 2) (by omega) (by omega) a4]
        show (fX6_voucher R1 12 (nI 8 * R1 0 21)).bind _ = _
        rw [f1]
        exact stop R3 2 (by omega) (by omega) f0
