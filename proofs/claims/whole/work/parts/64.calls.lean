/-! space(), thread(), table(). -/
theorem loop_inv {β : Type} (L : Nat → Int32 → Mem → Option β) (F : Int32 → Mem → Option β) (N : Nat) (P : Nat → Mem → Prop) (hN : N < 2100)
    (h1 : ∀ n i M, i < N → P i M → ∃ M', L (n + 1) (nI i) M = L n (nI (i + 1)) M' ∧ P (i + 1) M') (h2 : ∀ n M, P N M → L (n + 1) (nI N) M = F (nI N) M) {M : Mem} (h0 : P 0 M) : ∃ M', L FU (nI 0) M = F (nI N) M' ∧ P N M' := by
  have key : ∀ (k i n : Nat) (M : Mem), i + k = N → k < n → P i M → ∃ M', L n (nI i) M = F (nI N) M' ∧ P N M' := by
    intro k
    induction k with
    | zero =>
      intro i n M e hn hp
      obtain ⟨n, rfl⟩ : ∃ q, n = q + 1 := ⟨n - 1, by omega⟩
      obtain rfl : i = N := by omega
      exact ⟨M, h2 n M hp, hp⟩
    | succ k ih =>
      intro i n M e hn hp
      obtain ⟨n, rfl⟩ : ∃ q, n = q + 1 := ⟨n - 1, by omega⟩
      obtain ⟨M', e1, p1⟩ := h1 n i M (by omega) hp
      rw [e1]
      exact ih (i + 1) n M' (by omega) (by omega) p1
  exact key N 0 FU M (by omega) (by have := FU_le; omega) h0
theorem js {γ β : Type} {K : γ} {F : γ → Option β} {r : Option β} (h : F K = r) : jn K F = r := h
theorem mset_comm (M : Mem) {k k' : Nat} (j j' : Nat) (x y : Int32) (h : k ≠ k') : mset (mset M k j x) k' j' y = mset (mset M k' j' y) k j x := by
  funext a b
  rw [mset_get, mset_get, mset_get, mset_get]
  by_cases e : a = k ∧ b = j
  · rw [if_neg (fun c : a = k' ∧ b = j' => h (by rw [← e.1, c.1])), if_pos e, if_pos e]
  · rw [if_neg e, if_neg e]
theorem RQ_sp {C C' R R' : Mem} {th : Nat} {kd ow st md et lg : Nat → Nat} {tb en rt : Nat → Nat → Nat} (h : RQ C R th kd ow st md et lg tb en rt) (hl : ∀ q, q < 20 → lg q ≤ 85) {p : Nat} (hp : p < 20)
    (c0 : C' (33 + 5 * p) 0 = nI 1) (c1 : C' (33 + 5 * p) 1 = oI 20) (c2 : C' (33 + 5 * p) 2 = nI 0) (c3 : C' (33 + 5 * p) 3 = nI 0) (c4 : C' (33 + 5 * p) 4 = nI 0) (c5 : ∀ j, j < 4 → C' (33 + 5 * p + 1) j = oI 20) (c6 : ∀ j, j < 8 → C' (33 + 5 * p + 2) j = tbSTART j) (c7 : ∀ a, a ≠ 33 + 5 * p → a ≠ 33 + 5 * p + 1 → a ≠ 33 + 5 * p + 2 → C' a = C a)
    (r0 : R' 3 p = nI 1) (r1 : R' 4 p = oI 20) (r2 : R' 5 p = nI 0) (r3 : R' 13 p = nI 0) (r4 : R' 11 p = nI 0) (r5 : ∀ j, j < 4 → R' 9 (4 * p + j) = oI 20) (r6 : ∀ a b, (a ≠ 9 ∨ b < 4 * p ∨ 4 * p + 4 ≤ b) → (b ≠ p ∨ (a ≠ 3 ∧ a ≠ 4 ∧ a ≠ 5 ∧ a ≠ 13 ∧ a ≠ 11)) → R' a b = R a b) :
    RQ C' R' th (up kd p 1) (up ow p 20) (up st p 0) (up md p 0) et (up lg p 0) (up tb p (fun _ => 20)) en rt := by
  refine RQ_step h hl (fun a b _ => ?_) (fun a b _ => ?_) (fun q hq => ?_)
  · rw [c7 a (by omega) (by omega) (by omega)]
  · exact r6 _ _ (by omega) (by omega)
  · by_cases e : q = p
    · subst e
      right
      obtain ⟨b1, b2, b3, b4, b5, b6, b7, b8, b9⟩ := h.1.2 q hq
      obtain ⟨a1, a2, a3, a4, a5, a6, -⟩ := h.2.2 q hq
      unfold pgM pgC
      rw [up_s, up_s, up_s, up_s, up_s, up_s, c0, c1, c2, c3, c4]
      refine ⟨⟨r0, r1, r2, r3, ?_, r4, r5, fun i hi => ?_, fun i hi hn => ?_⟩, ⟨rfl, rfl, rfl, c5, fun i hi => ?_, fun j hj => ?_, fun _ => rfl, fun _ e => absurd e (by omega), fun _ _ => ⟨rfl, c6⟩, fun e => absurd e (by omega), fun e => absurd e (by omega), fun e => absurd e (by omega)⟩⟩
      · rw [r6 _ _ (by omega) (by omega)]; exact b5
      · rw [r6 _ _ (by omega) (by omega)]; exact b8 i hi
      · rw [r6 _ _ (by omega) (by omega)]; exact b9 i hi hn
      · rw [c7 _ (by omega) (by omega) (by omega)]; exact a5 i hi
      · rw [c7 _ (by omega) (by omega) (by omega), r6 _ _ (by omega) (by omega)]; exact a6 j hj
    · left
      refine ⟨⟨up_n _ _ e, up_n _ _ e, up_n _ _ e, up_n _ _ e, rfl, up_n _ _ e, fun _ => by rw [up_n _ _ e], fun _ => rfl, fun _ => rfl⟩, ?_, ?_⟩
      · unfold untR
        refine ⟨?_, ?_, ?_, ?_, ?_, ?_, fun j hj => ?_, fun j hj => ?_, fun j hj => ?_⟩ <;> exact r6 _ _ (by omega) (by omega)
      · unfold untC
        refine ⟨fun j => ?_, fun j => ?_, fun j => ?_, fun j => ?_, fun j => ?_, fun j => ?_, fun j hj => ?_, fun j hj => ?_, fun j hj => ?_, ?_, fun j hj => ?_⟩
        · rw [c7 _ (by omega) (by omega) (by omega)]
        · rw [c7 _ (by omega) (by omega) (by omega)]
        · rw [c7 _ (by omega) (by omega) (by omega)]
        · rw [c7 _ (by omega) (by omega) (by omega)]
        · rw [c7 _ (by omega) (by omega) (by omega)]
        · rw [c7 _ (by omega) (by omega) (by omega)]
        · exact r6 _ _ (by omega) (by omega)
        · exact r6 _ _ (by omega) (by omega)
        · exact r6 _ _ (by omega) (by omega)
        · exact r6 _ _ (by omega) (by omega)
        · exact r6 _ _ (by omega) (by omega)
theorem sim_space {C R : Mem} (h : Rel C R) (x : Int32) : ∃ r C' R', fX5_space C x = some (r, C') ∧ fX6_space R x = some (r, R') ∧ Rel C' R' := by
  have h' := h
  obtain ⟨kd, ow, st, md, et, lg, tb, en, rt, hM, hC, hI⟩ := h'
  have k := RM_hK hM hI
  rcases argc x (show 20 < 2 ^ 31 by omega) with hx | ⟨p, hp, rfl⟩
  · refine ⟨nI 1, C, Bn R 1, ?_, ?_, Rel_Bn h 1⟩
    · simp (disch := omega) only [fX5_space, isPage_b hx, mset_s, mset_nk, mset_nj, mrow_s, mrow_n, ifeq_s, nar_0, nar_1, isB_0, isB_1, bnd_e, jn_e, Option.bind_some, gd_true, gd_dec, Bool.true_and, Bool.and_true, Bool.and_self, tn_nI, inb_nI, ifle_t, ifle_f, iflt_t, iflt_f, ifeq_f, if_true, ofN_nI, nI_add, nI_subl, li_0, li_1, li_2, li_3, li_4, li_5, li_6, li_7, li_8, li_9, li_10, li_11, li_12, li_13, li_14, li_15, li_16, li_17, li_18, li_19, li_20, li_21, li_22, li_23, li_24, li_25, li_26, li_27, li_28, li_29, li_30, li_31, li_32, li_60, li_63, li_64, li_80, li_100, li_128, li_160, li_320, li_511, li_512, li_1600, li_1700, li_2000, li_2048, li_32000, li_2147483647]
    · simp (disch := omega) only [fX6_space, begin_m, noPage_b hx, wr_1, wF_n k, Bn_0, mset_s, mset_nk, mset_nj, mrow_s, mrow_n, ifeq_s, nar_0, nar_1, isB_0, isB_1, bnd_e, jn_e, Option.bind_some, gd_true, gd_dec, Bool.true_and, Bool.and_true, Bool.and_self, tn_nI, inb_nI, ifle_t, ifle_f, iflt_t, iflt_f, ifeq_f, if_true, ofN_nI, nI_add, nI_subl, li_0, li_1, li_2, li_3, li_4, li_5, li_6, li_7, li_8, li_9, li_10, li_11, li_12, li_13, li_14, li_15, li_16, li_17, li_18, li_19, li_20, li_21, li_22, li_23, li_24, li_25, li_26, li_27, li_28, li_29, li_30, li_31, li_32, li_60, li_63, li_64, li_80, li_100, li_128, li_160, li_320, li_511, li_512, li_1600, li_1700, li_2000, li_2048, li_32000, li_2147483647]
  obtain ⟨m3, m4, m5, -⟩ := hM.2 p hp
  obtain ⟨c3, c4, c5, -⟩ := hC.2 p hp
  have ip := hI.1 p hp
  by_cases kp : kd p = 0
  · rw [kp] at m3 c3
    obtain ⟨C1, hC1⟩ : ∃ C1, C1 = mset (mset (mset C (33 + 5 * p) 0 (nI 1)) (33 + 5 * p) 1 (-nI 1)) (33 + 5 * p) 2 (nI 0) := ⟨_, rfl⟩
    obtain ⟨C2, hC2⟩ : ∃ C2, C2 = mrow C1 (33 + 5 * p + 1) (fun j => if j < 4 then -nI 1 else C (33 + 5 * p + 1) j) := ⟨_, rfl⟩
    obtain ⟨C3, hC3⟩ : ∃ C3, C3 = mset (mset C2 (33 + 5 * p) 3 (nI 0)) (33 + 5 * p) 4 (nI 0) := ⟨_, rfl⟩
    obtain ⟨C4, hC4⟩ : ∃ C4, C4 = mrow C3 (33 + 5 * p + 2) (va_cpy tbSTART (C (33 + 5 * p + 2)) 0 0 8) := ⟨_, rfl⟩
    obtain ⟨R1, hR1⟩ : ∃ R1, R1 = mset (mset (mset (mset (mset (Bg R) 3 p (nI 1)) 4 p (-nI 1)) 5 p (nI 0)) 13 p (nI 0)) 11 p (nI 0) := ⟨_, rfl⟩
    have lp : ∀ F : Int32 → Mem → Option (Int32 × Mem), lp_X6_space_60 (nI p) F FU (nI 0) R1 = F (nI 4) (mrow R1 9 (fun j => if 4 * p ≤ j ∧ j < 4 * p + 4 then -nI 1 else R1 9 j)) := fun F =>
      loop_set (fun n x M => lp_X6_space_60 (nI p) F n x M) F 4 (4 * p) 9 (fun _ => -nI 1) R1 (by omega)
        (fun n i M' hi _ _ => by simp (disch := omega) only [lp_X6_space_60_s, pk_mul, mset_s, mset_nk, mset_nj, mrow_s, mrow_n, ifeq_s, nar_0, nar_1, isB_0, isB_1, bnd_e, jn_e, Option.bind_some, gd_true, gd_dec, Bool.true_and, Bool.and_true, Bool.and_self, tn_nI, inb_nI, ifle_t, ifle_f, iflt_t, iflt_f, ifeq_f, if_true, ofN_nI, nI_add, nI_subl, li_0, li_1, li_2, li_3, li_4, li_5, li_6, li_7, li_8, li_9, li_10, li_11, li_12, li_13, li_14, li_15, li_16, li_17, li_18, li_19, li_20, li_21, li_22, li_23, li_24, li_25, li_26, li_27, li_28, li_29, li_30, li_31, li_32, li_60, li_63, li_64, li_80, li_100, li_128, li_160, li_320, li_511, li_512, li_1600, li_1700, li_2000, li_2048, li_32000, li_2147483647])
        (fun n M' _ => by simp (disch := omega) only [lp_X6_space_60_s, mset_s, mset_nk, mset_nj, mrow_s, mrow_n, ifeq_s, nar_0, nar_1, isB_0, isB_1, bnd_e, jn_e, Option.bind_some, gd_true, gd_dec, Bool.true_and, Bool.and_true, Bool.and_self, tn_nI, inb_nI, ifle_t, ifle_f, iflt_t, iflt_f, ifeq_f, if_true, ofN_nI, nI_add, nI_subl, li_0, li_1, li_2, li_3, li_4, li_5, li_6, li_7, li_8, li_9, li_10, li_11, li_12, li_13, li_14, li_15, li_16, li_17, li_18, li_19, li_20, li_21, li_22, li_23, li_24, li_25, li_26, li_27, li_28, li_29, li_30, li_31, li_32, li_60, li_63, li_64, li_80, li_100, li_128, li_160, li_320, li_511, li_512, li_1600, li_1700, li_2000, li_2048, li_32000, li_2147483647])
    refine ⟨nI 0, C4, mrow R1 9 (fun j => if 4 * p ≤ j ∧ j < 4 * p + 4 then -nI 1 else R1 9 j), ?_, ?_, ?_⟩
    · simp (disch := omega) only [fX5_space, isPage_t hp, c3, fX4_claim, fill_l (isI_p1 hp) (lnC_p1 hp), fX2_open, begin_e (isI_p2 hp) (lnC_p2 hp), ← hC1, ← hC2, ← hC3, ← hC4, isPg_p, isI_p1, isI_p2, isI_p3, isI_p4, lnC_p1, lnC_p2, lnC_p3, lnC_p4, isI_r, lnC_r, isI_k, lnC_134, lnC_136, lnC_137, lnC_138, lnC_139, lnC_140, lnC_141, lnC_142, mset_s, mset_nk, mset_nj, mrow_s, mrow_n, ifeq_s, nar_0, nar_1, isB_0, isB_1, bnd_e, jn_e, Option.bind_some, gd_true, gd_dec, Bool.true_and, Bool.and_true, Bool.and_self, tn_nI, inb_nI, ifle_t, ifle_f, iflt_t, iflt_f, ifeq_f, if_true, ofN_nI, nI_add, nI_subl, li_0, li_1, li_2, li_3, li_4, li_5, li_6, li_7, li_8, li_9, li_10, li_11, li_12, li_13, li_14, li_15, li_16, li_17, li_18, li_19, li_20, li_21, li_22, li_23, li_24, li_25, li_26, li_27, li_28, li_29, li_30, li_31, li_32, li_60, li_63, li_64, li_80, li_100, li_128, li_160, li_320, li_511, li_512, li_1600, li_1700, li_2000, li_2048, li_32000, li_2147483647]
    · simp (disch := omega) only [fX6_space, begin_m, noPage_t hp, wrong_0, wF_t hp m3, Bg_0, fX6_become, ← hR1, lp, mset_s, mset_nk, mset_nj, mrow_s, mrow_n, ifeq_s, nar_0, nar_1, isB_0, isB_1, bnd_e, jn_e, Option.bind_some, gd_true, gd_dec, Bool.true_and, Bool.and_true, Bool.and_self, tn_nI, inb_nI, ifle_t, ifle_f, iflt_t, iflt_f, ifeq_f, if_true, ofN_nI, nI_add, nI_subl, li_0, li_1, li_2, li_3, li_4, li_5, li_6, li_7, li_8, li_9, li_10, li_11, li_12, li_13, li_14, li_15, li_16, li_17, li_18, li_19, li_20, li_21, li_22, li_23, li_24, li_25, li_26, li_27, li_28, li_29, li_30, li_31, li_32, li_60, li_63, li_64, li_80, li_100, li_128, li_160, li_320, li_511, li_512, li_1600, li_1700, li_2000, li_2048, li_32000, li_2147483647]
    · have q := RQ_sp (RQ_Bg ⟨hM, hC⟩ hI) (IV85 hI) (C' := C4) (R' := mrow R1 9 (fun j => if 4 * p ≤ j ∧ j < 4 * p + 4 then -nI 1 else R1 9 j)) hp
        (by rw [hC4, mrow_n _ _ (by omega), hC3, hC2, hC1]; simp (disch := omega) only [mset_s, mset_nk, mset_nj, mrow_s, mrow_n, ifeq_s, nar_0, nar_1, isB_0, isB_1])
        (by rw [hC4, mrow_n _ _ (by omega), hC3, hC2, hC1, oI_20n]; simp (disch := omega) only [mset_s, mset_nk, mset_nj, mrow_s, mrow_n, ifeq_s, nar_0, nar_1, isB_0, isB_1])
        (by rw [hC4, mrow_n _ _ (by omega), hC3, hC2, hC1]; simp (disch := omega) only [mset_s, mset_nk, mset_nj, mrow_s, mrow_n, ifeq_s, nar_0, nar_1, isB_0, isB_1])
        (by rw [hC4, mrow_n _ _ (by omega), hC3, hC2, hC1]; simp (disch := omega) only [mset_s, mset_nk, mset_nj, mrow_s, mrow_n, ifeq_s, nar_0, nar_1, isB_0, isB_1])
        (by rw [hC4, mrow_n _ _ (by omega), hC3, hC2, hC1]; simp (disch := omega) only [mset_s, mset_nk, mset_nj, mrow_s, mrow_n, ifeq_s, nar_0, nar_1, isB_0, isB_1])
        (fun j hj => by rw [hC4, mrow_n _ _ (by omega), hC3, mset_nk _ _ _ (by omega), mset_nk _ _ _ (by omega), hC2, mrow_s, if_pos hj, oI_20n])
        (fun j hj => by rw [hC4, mrow_s, cpy8 hj])
        (fun a h1 h2 h3 => by rw [hC4, mrow_n _ _ h3, hC3, mset_nk _ _ _ h1, mset_nk _ _ _ h1, hC2, mrow_n _ _ h2, hC1, mset_nk _ _ _ h1, mset_nk _ _ _ h1, mset_nk _ _ _ h1])
        (by rw [mrow_n _ _ (by omega), hR1]; simp (disch := omega) only [mset_s, mset_nk, mset_nj, mrow_s, mrow_n, ifeq_s, nar_0, nar_1, isB_0, isB_1])
        (by rw [mrow_n _ _ (by omega), hR1, oI_20n]; simp (disch := omega) only [mset_s, mset_nk, mset_nj, mrow_s, mrow_n, ifeq_s, nar_0, nar_1, isB_0, isB_1])
        (by rw [mrow_n _ _ (by omega), hR1]; simp (disch := omega) only [mset_s, mset_nk, mset_nj, mrow_s, mrow_n, ifeq_s, nar_0, nar_1, isB_0, isB_1])
        (by rw [mrow_n _ _ (by omega), hR1]; simp (disch := omega) only [mset_s, mset_nk, mset_nj, mrow_s, mrow_n, ifeq_s, nar_0, nar_1, isB_0, isB_1])
        (by rw [mrow_n _ _ (by omega), hR1]; simp (disch := omega) only [mset_s, mset_nk, mset_nj, mrow_s, mrow_n, ifeq_s, nar_0, nar_1, isB_0, isB_1])
        (fun j hj => by rw [mrow_s, if_pos (by omega), oI_20n])
        (fun a b h1 h2 => by
          rw [mrow_get]
          by_cases e : a = 9
          · subst e
            rw [if_pos rfl, if_neg (by omega), hR1]
            simp (disch := omega) only [mset_s, mset_nk, mset_nj, mrow_s, mrow_n, ifeq_s, nar_0, nar_1, isB_0, isB_1]
          · rw [if_neg e, hR1]
            rw [mset_get, mset_get, mset_get, mset_get, mset_get, if_neg (by omega), if_neg (by omega), if_neg (by omega), if_neg (by omega), if_neg (by omega)])
      exact ⟨_, _, _, _, _, _, _, _, _, q.1, q.2, IV_sp hI kp⟩
  · refine ⟨nI 2, C, Bn R 2, ?_, ?_, Rel_Bn h 2⟩
    · simp (disch := omega) only [fX5_space, isPage_t hp, c3, isPg_p, isI_p1, isI_p2, isI_p3, isI_p4, lnC_p1, lnC_p2, lnC_p3, lnC_p4, isI_r, lnC_r, isI_k, lnC_134, lnC_136, lnC_137, lnC_138, lnC_139, lnC_140, lnC_141, lnC_142, mset_s, mset_nk, mset_nj, mrow_s, mrow_n, ifeq_s, nar_0, nar_1, isB_0, isB_1, bnd_e, jn_e, Option.bind_some, gd_true, gd_dec, Bool.true_and, Bool.and_true, Bool.and_self, tn_nI, inb_nI, ifle_t, ifle_f, iflt_t, iflt_f, ifeq_f, if_true, ofN_nI, nI_add, nI_subl, li_0, li_1, li_2, li_3, li_4, li_5, li_6, li_7, li_8, li_9, li_10, li_11, li_12, li_13, li_14, li_15, li_16, li_17, li_18, li_19, li_20, li_21, li_22, li_23, li_24, li_25, li_26, li_27, li_28, li_29, li_30, li_31, li_32, li_60, li_63, li_64, li_80, li_100, li_128, li_160, li_320, li_511, li_512, li_1600, li_1700, li_2000, li_2048, li_32000, li_2147483647]
    · simp (disch := omega) only [fX6_space, begin_m, noPage_t hp, wrong_0, wF_2 hp m3 (show kd p < 10 by omega) kp, Bn_0, mset_s, mset_nk, mset_nj, mrow_s, mrow_n, ifeq_s, nar_0, nar_1, isB_0, isB_1, bnd_e, jn_e, Option.bind_some, gd_true, gd_dec, Bool.true_and, Bool.and_true, Bool.and_self, tn_nI, inb_nI, ifle_t, ifle_f, iflt_t, iflt_f, ifeq_f, if_true, ofN_nI, nI_add, nI_subl, li_0, li_1, li_2, li_3, li_4, li_5, li_6, li_7, li_8, li_9, li_10, li_11, li_12, li_13, li_14, li_15, li_16, li_17, li_18, li_19, li_20, li_21, li_22, li_23, li_24, li_25, li_26, li_27, li_28, li_29, li_30, li_31, li_32, li_60, li_63, li_64, li_80, li_100, li_128, li_160, li_320, li_511, li_512, li_1600, li_1700, li_2000, li_2048, li_32000, li_2147483647]
-- thread()
theorem sim_thread {C R : Mem} (h : Rel C R) (x y z : Int32) : ∃ r C' R', fX5_thread C x y z = some (r, C') ∧ fX6_thread R x y z = some (r, R') ∧ Rel C' R' := by
  have h' := h
  obtain ⟨kd, ow, st, md, et, lg, tb, en, rt, hM, hC, hI⟩ := h'
  have k := RM_hK hM hI
  rcases argc x (show 20 < 2 ^ 31 by omega) with hx | ⟨p, hp, rfl⟩
  · refine ⟨nI 1, C, Bn R 1, ?_, ?_, Rel_Bn h 1⟩
    · simp (disch := omega) only [fX5_thread, isPage_b hx, mset_s, mset_nk, mset_nj, mrow_s, mrow_n, ifeq_s, nar_0, nar_1, isB_0, isB_1, bnd_e, jn_e, Option.bind_some, gd_true, gd_dec, Bool.true_and, Bool.and_true, Bool.and_self, tn_nI, inb_nI, ifle_t, ifle_f, iflt_t, iflt_f, ifeq_f, if_true, ofN_nI, nI_add, nI_subl, li_0, li_1, li_2, li_3, li_4, li_5, li_6, li_7, li_8, li_9, li_10, li_11, li_12, li_13, li_14, li_15, li_16, li_17, li_18, li_19, li_20, li_21, li_22, li_23, li_24, li_25, li_26, li_27, li_28, li_29, li_30, li_31, li_32, li_60, li_63, li_64, li_80, li_100, li_128, li_160, li_320, li_511, li_512, li_1600, li_1700, li_2000, li_2048, li_32000, li_2147483647]
    · simp (disch := omega) only [fX6_thread, begin_m, noPage_b hx, wr_1, wF_n k, wS_n k, Bn_0, mset_s, mset_nk, mset_nj, mrow_s, mrow_n, ifeq_s, nar_0, nar_1, isB_0, isB_1, bnd_e, jn_e, Option.bind_some, gd_true, gd_dec, Bool.true_and, Bool.and_true, Bool.and_self, tn_nI, inb_nI, ifle_t, ifle_f, iflt_t, iflt_f, ifeq_f, if_true, ofN_nI, nI_add, nI_subl, li_0, li_1, li_2, li_3, li_4, li_5, li_6, li_7, li_8, li_9, li_10, li_11, li_12, li_13, li_14, li_15, li_16, li_17, li_18, li_19, li_20, li_21, li_22, li_23, li_24, li_25, li_26, li_27, li_28, li_29, li_30, li_31, li_32, li_60, li_63, li_64, li_80, li_100, li_128, li_160, li_320, li_511, li_512, li_1600, li_1700, li_2000, li_2048, li_32000, li_2147483647]
  rcases argc y (show 20 < 2 ^ 31 by omega) with hy | ⟨s, hs, rfl⟩
  · refine ⟨nI 1, C, Bn R 1, ?_, ?_, Rel_Bn h 1⟩
    · simp (disch := omega) only [fX5_thread, isPage_t hp, isPage_b hy, mset_s, mset_nk, mset_nj, mrow_s, mrow_n, ifeq_s, nar_0, nar_1, isB_0, isB_1, bnd_e, jn_e, Option.bind_some, gd_true, gd_dec, Bool.true_and, Bool.and_true, Bool.and_self, tn_nI, inb_nI, ifle_t, ifle_f, iflt_t, iflt_f, ifeq_f, if_true, ofN_nI, nI_add, nI_subl, li_0, li_1, li_2, li_3, li_4, li_5, li_6, li_7, li_8, li_9, li_10, li_11, li_12, li_13, li_14, li_15, li_16, li_17, li_18, li_19, li_20, li_21, li_22, li_23, li_24, li_25, li_26, li_27, li_28, li_29, li_30, li_31, li_32, li_60, li_63, li_64, li_80, li_100, li_128, li_160, li_320, li_511, li_512, li_1600, li_1700, li_2000, li_2048, li_32000, li_2147483647]
    · simp (disch := omega) only [fX6_thread, begin_m, noPage_t hp, noPage_b hy, wr_1, wF_n k, wS_n k, Bn_0, mset_s, mset_nk, mset_nj, mrow_s, mrow_n, ifeq_s, nar_0, nar_1, isB_0, isB_1, bnd_e, jn_e, Option.bind_some, gd_true, gd_dec, Bool.true_and, Bool.and_true, Bool.and_self, tn_nI, inb_nI, ifle_t, ifle_f, iflt_t, iflt_f, ifeq_f, if_true, ofN_nI, nI_add, nI_subl, li_0, li_1, li_2, li_3, li_4, li_5, li_6, li_7, li_8, li_9, li_10, li_11, li_12, li_13, li_14, li_15, li_16, li_17, li_18, li_19, li_20, li_21, li_22, li_23, li_24, li_25, li_26, li_27, li_28, li_29, li_30, li_31, li_32, li_60, li_63, li_64, li_80, li_100, li_128, li_160, li_320, li_511, li_512, li_1600, li_1700, li_2000, li_2048, li_32000, li_2147483647]
  rcases argc z (show 512 < 2 ^ 31 by omega) with hz | ⟨z, hz, rfl⟩
  · refine ⟨nI 1, C, Bn R 1, ?_, ?_, Rel_Bn h 1⟩
    · rcases hz with hz | ⟨hz, hz2⟩
      · simp (disch := omega) only [fX5_thread, isPage_t hp, isPage_t hs, hz, mset_s, mset_nk, mset_nj, mrow_s, mrow_n, ifeq_s, nar_0, nar_1, isB_0, isB_1, bnd_e, jn_e, Option.bind_some, gd_true, gd_dec, Bool.true_and, Bool.and_true, Bool.and_self, tn_nI, inb_nI, ifle_t, ifle_f, iflt_t, iflt_f, ifeq_f, if_true, ofN_nI, nI_add, nI_subl, li_0, li_1, li_2, li_3, li_4, li_5, li_6, li_7, li_8, li_9, li_10, li_11, li_12, li_13, li_14, li_15, li_16, li_17, li_18, li_19, li_20, li_21, li_22, li_23, li_24, li_25, li_26, li_27, li_28, li_29, li_30, li_31, li_32, li_60, li_63, li_64, li_80, li_100, li_128, li_160, li_320, li_511, li_512, li_1600, li_1700, li_2000, li_2048, li_32000, li_2147483647]
      · simp (disch := omega) only [fX5_thread, isPage_t hp, isPage_t hs, hz, bad_nlt hz hz2, if_false, mset_s, mset_nk, mset_nj, mrow_s, mrow_n, ifeq_s, nar_0, nar_1, isB_0, isB_1, bnd_e, jn_e, Option.bind_some, gd_true, gd_dec, Bool.true_and, Bool.and_true, Bool.and_self, tn_nI, inb_nI, ifle_t, ifle_f, iflt_t, iflt_f, ifeq_f, if_true, ofN_nI, nI_add, nI_subl, li_0, li_1, li_2, li_3, li_4, li_5, li_6, li_7, li_8, li_9, li_10, li_11, li_12, li_13, li_14, li_15, li_16, li_17, li_18, li_19, li_20, li_21, li_22, li_23, li_24, li_25, li_26, li_27, li_28, li_29, li_30, li_31, li_32, li_60, li_63, li_64, li_80, li_100, li_128, li_160, li_320, li_511, li_512, li_1600, li_1700, li_2000, li_2048, li_32000, li_2147483647]
    · rcases hz with hz | ⟨hz, hz2⟩
      · simp (disch := omega) only [fX6_thread, begin_m, noPage_t hp, noPage_t hs, hz, wr_1, wF_n k, wS_n k, Bn_0, mset_s, mset_nk, mset_nj, mrow_s, mrow_n, ifeq_s, nar_0, nar_1, isB_0, isB_1, bnd_e, jn_e, Option.bind_some, gd_true, gd_dec, Bool.true_and, Bool.and_true, Bool.and_self, tn_nI, inb_nI, ifle_t, ifle_f, iflt_t, iflt_f, ifeq_f, if_true, ofN_nI, nI_add, nI_subl, li_0, li_1, li_2, li_3, li_4, li_5, li_6, li_7, li_8, li_9, li_10, li_11, li_12, li_13, li_14, li_15, li_16, li_17, li_18, li_19, li_20, li_21, li_22, li_23, li_24, li_25, li_26, li_27, li_28, li_29, li_30, li_31, li_32, li_60, li_63, li_64, li_80, li_100, li_128, li_160, li_320, li_511, li_512, li_1600, li_1700, li_2000, li_2048, li_32000, li_2147483647]
      · simp (disch := omega) only [fX6_thread, begin_m, noPage_t hp, noPage_t hs, hz, nle_of_ge (n := 511) hz2 (by omega), if_false, wr_1, wF_n k, wS_n k, Bn_0, mset_s, mset_nk, mset_nj, mrow_s, mrow_n, ifeq_s, nar_0, nar_1, isB_0, isB_1, bnd_e, jn_e, Option.bind_some, gd_true, gd_dec, Bool.true_and, Bool.and_true, Bool.and_self, tn_nI, inb_nI, ifle_t, ifle_f, iflt_t, iflt_f, ifeq_f, if_true, ofN_nI, nI_add, nI_subl, li_0, li_1, li_2, li_3, li_4, li_5, li_6, li_7, li_8, li_9, li_10, li_11, li_12, li_13, li_14, li_15, li_16, li_17, li_18, li_19, li_20, li_21, li_22, li_23, li_24, li_25, li_26, li_27, li_28, li_29, li_30, li_31, li_32, li_60, li_63, li_64, li_80, li_100, li_128, li_160, li_320, li_511, li_512, li_1600, li_1700, li_2000, li_2048, li_32000, li_2147483647]
  obtain ⟨m3, m4, m5, -⟩ := hM.2 p hp
  obtain ⟨n3, n4, n5, -, -, n11, -⟩ := hM.2 s hs
  obtain ⟨c3, c4, c5, -⟩ := hC.2 p hp
  obtain ⟨d3, d4, d5, -⟩ := hC.2 s hs
  have ip := hI.1 p hp
  have is := hI.1 s hs
  by_cases kp : kd p = 0
  · rw [kp] at m3 c3
    by_cases ks : kd s = 1
    · rw [ks] at n3 d3
      by_cases ss : st s = 0
      · rw [ss] at n5 d5
        have ne : s ≠ p := fun e => by rw [e] at ks; omega
        have q1 := RQ_th (RQ_Bg ⟨hM, hC⟩ hI) (IV85 hI) (s := s) hp (nI z)
        have i1 : IV (up kd p 2) (up ow p s) st md (up et p 0) lg tb en rt := IV_et (IV_kd hI hs (by omega) (by omega) ks (fun e => absurd e (by omega))) _ (fun q hq => by
          by_cases e : q = p
          · rw [e, up_s]; omega
          · rw [up_n _ _ e]; exact (hI.1 q hq).2.2.2.1)
        rw [oI_t hs] at q1
        obtain ⟨C1, hC1⟩ : ∃ C1, C1 = mset (mset (mset (mset C (33 + 5 * p) 0 (nI 2)) (33 + 5 * p) 1 (nI s)) (33 + 5 * p) 7 (nI z)) (33 + 5 * p) 8 (nI 0) := ⟨_, rfl⟩
        obtain ⟨R1, hR1⟩ : ∃ R1, R1 = mset (mset (mset (mset (Bg R) 3 p (nI 2)) 4 p (nI s)) 14 p (nI z)) 15 p (nI 0) := ⟨_, rfl⟩
        rw [← hC1, ← hR1] at q1
        obtain ⟨C2, e1, e2, e3, e4, e5⟩ := tell_e (C := C1) hs (nI 1) (nI z) (nI 0)
        obtain ⟨R2, f1, f2, f3, f4, f5, f6⟩ := tellM_e (R := R1) hs (q1.1.2 s hs).2.2.2.2.2.1 (by omega) (nI 1) (nI z) (nI 0)
        have q2 := RQ_tl q1 (IV85 i1) hs (by rw [up_n _ _ ne]; exact ks) ss (is.2.2.2.2.2.2.2.1 ks |>.2 ss) (blk (nI 1) (nI z) (nI 0)) e2 e3 e4 e5 f2 f3 f4 f5 f6
        refine ⟨nI 0, C2, R2, ?_, ?_, ⟨_, _, _, _, _, _, _, _, _, q2.1, q2.2, IV_lg i1 ?_⟩⟩
        · simp (disch := omega) only [fX5_thread, isPage_t hp, isPage_t hs, rN_s hp c3 (rS_0 (l := 0) hs d3 d5 (by omega) (by omega)), fX4_claim, ← hC1, e1, isPg_p, isI_p1, isI_p2, isI_p3, isI_p4, lnC_p1, lnC_p2, lnC_p3, lnC_p4, isI_r, lnC_r, isI_k, lnC_134, lnC_136, lnC_137, lnC_138, lnC_139, lnC_140, lnC_141, lnC_142, mset_s, mset_nk, mset_nj, mrow_s, mrow_n, ifeq_s, nar_0, nar_1, isB_0, isB_1, bnd_e, jn_e, Option.bind_some, gd_true, gd_dec, Bool.true_and, Bool.and_true, Bool.and_self, tn_nI, inb_nI, ifle_t, ifle_f, iflt_t, iflt_f, ifeq_f, if_true, ofN_nI, nI_add, nI_subl, li_0, li_1, li_2, li_3, li_4, li_5, li_6, li_7, li_8, li_9, li_10, li_11, li_12, li_13, li_14, li_15, li_16, li_17, li_18, li_19, li_20, li_21, li_22, li_23, li_24, li_25, li_26, li_27, li_28, li_29, li_30, li_31, li_32, li_60, li_63, li_64, li_80, li_100, li_128, li_160, li_320, li_511, li_512, li_1600, li_1700, li_2000, li_2048, li_32000, li_2147483647]
        · simp (disch := omega) only [fX6_thread, begin_m, noPage_t hp, noPage_t hs, wrong_0, wF_t hp m3, wS_t hs n3 n5, Bg_0, fX6_become, ← hR1, f1, mset_s, mset_nk, mset_nj, mrow_s, mrow_n, ifeq_s, nar_0, nar_1, isB_0, isB_1, bnd_e, jn_e, Option.bind_some, gd_true, gd_dec, Bool.true_and, Bool.and_true, Bool.and_self, tn_nI, inb_nI, ifle_t, ifle_f, iflt_t, iflt_f, ifeq_f, if_true, ofN_nI, nI_add, nI_subl, li_0, li_1, li_2, li_3, li_4, li_5, li_6, li_7, li_8, li_9, li_10, li_11, li_12, li_13, li_14, li_15, li_16, li_17, li_18, li_19, li_20, li_21, li_22, li_23, li_24, li_25, li_26, li_27, li_28, li_29, li_30, li_31, li_32, li_60, li_63, li_64, li_80, li_100, li_128, li_160, li_320, li_511, li_512, li_1600, li_1700, li_2000, li_2048, li_32000, li_2147483647]
        · have := hI.2.2.2.2 s hs ks ss
          have := thr_new (ow := ow) (s := s) hp kp
          omega
      · refine ⟨nI 4, C, Bn R 4, ?_, ?_, Rel_Bn h 4⟩
        · simp (disch := omega) only [fX5_thread, isPage_t hp, isPage_t hs, rN_s hp c3 (rS_4 (l := 0) hs d3 d5 (by omega) (by omega)), mset_s, mset_nk, mset_nj, mrow_s, mrow_n, ifeq_s, nar_0, nar_1, isB_0, isB_1, bnd_e, jn_e, Option.bind_some, gd_true, gd_dec, Bool.true_and, Bool.and_true, Bool.and_self, tn_nI, inb_nI, ifle_t, ifle_f, iflt_t, iflt_f, ifeq_f, if_true, ofN_nI, nI_add, nI_subl, li_0, li_1, li_2, li_3, li_4, li_5, li_6, li_7, li_8, li_9, li_10, li_11, li_12, li_13, li_14, li_15, li_16, li_17, li_18, li_19, li_20, li_21, li_22, li_23, li_24, li_25, li_26, li_27, li_28, li_29, li_30, li_31, li_32, li_60, li_63, li_64, li_80, li_100, li_128, li_160, li_320, li_511, li_512, li_1600, li_1700, li_2000, li_2048, li_32000, li_2147483647]
        · simp (disch := omega) only [fX6_thread, begin_m, noPage_t hp, noPage_t hs, wrong_0, wF_t hp m3, wS_4 (v := 0) hs n3 n5 (by omega) (by omega) ss, Bn_0, mset_s, mset_nk, mset_nj, mrow_s, mrow_n, ifeq_s, nar_0, nar_1, isB_0, isB_1, bnd_e, jn_e, Option.bind_some, gd_true, gd_dec, Bool.true_and, Bool.and_true, Bool.and_self, tn_nI, inb_nI, ifle_t, ifle_f, iflt_t, iflt_f, ifeq_f, if_true, ofN_nI, nI_add, nI_subl, li_0, li_1, li_2, li_3, li_4, li_5, li_6, li_7, li_8, li_9, li_10, li_11, li_12, li_13, li_14, li_15, li_16, li_17, li_18, li_19, li_20, li_21, li_22, li_23, li_24, li_25, li_26, li_27, li_28, li_29, li_30, li_31, li_32, li_60, li_63, li_64, li_80, li_100, li_128, li_160, li_320, li_511, li_512, li_1600, li_1700, li_2000, li_2048, li_32000, li_2147483647]
    · refine ⟨nI 3, C, Bn R 3, ?_, ?_, Rel_Bn h 3⟩
      · simp (disch := omega) only [fX5_thread, isPage_t hp, isPage_t hs, rN_s hp c3 (rS_3 hs d3 (by omega) ks), mset_s, mset_nk, mset_nj, mrow_s, mrow_n, ifeq_s, nar_0, nar_1, isB_0, isB_1, bnd_e, jn_e, Option.bind_some, gd_true, gd_dec, Bool.true_and, Bool.and_true, Bool.and_self, tn_nI, inb_nI, ifle_t, ifle_f, iflt_t, iflt_f, ifeq_f, if_true, ofN_nI, nI_add, nI_subl, li_0, li_1, li_2, li_3, li_4, li_5, li_6, li_7, li_8, li_9, li_10, li_11, li_12, li_13, li_14, li_15, li_16, li_17, li_18, li_19, li_20, li_21, li_22, li_23, li_24, li_25, li_26, li_27, li_28, li_29, li_30, li_31, li_32, li_60, li_63, li_64, li_80, li_100, li_128, li_160, li_320, li_511, li_512, li_1600, li_1700, li_2000, li_2048, li_32000, li_2147483647]
      · simp (disch := omega) only [fX6_thread, begin_m, noPage_t hp, noPage_t hs, wrong_0, wF_t hp m3, wS_3 hs n3 (show kd s < 10 by omega) ks, Bn_0, mset_s, mset_nk, mset_nj, mrow_s, mrow_n, ifeq_s, nar_0, nar_1, isB_0, isB_1, bnd_e, jn_e, Option.bind_some, gd_true, gd_dec, Bool.true_and, Bool.and_true, Bool.and_self, tn_nI, inb_nI, ifle_t, ifle_f, iflt_t, iflt_f, ifeq_f, if_true, ofN_nI, nI_add, nI_subl, li_0, li_1, li_2, li_3, li_4, li_5, li_6, li_7, li_8, li_9, li_10, li_11, li_12, li_13, li_14, li_15, li_16, li_17, li_18, li_19, li_20, li_21, li_22, li_23, li_24, li_25, li_26, li_27, li_28, li_29, li_30, li_31, li_32, li_60, li_63, li_64, li_80, li_100, li_128, li_160, li_320, li_511, li_512, li_1600, li_1700, li_2000, li_2048, li_32000, li_2147483647]
  · refine ⟨nI 2, C, Bn R 2, ?_, ?_, Rel_Bn h 2⟩
    · simp (disch := omega) only [fX5_thread, isPage_t hp, isPage_t hs, rN_2 hp c3 (show kd p < 10 by omega) kp, mset_s, mset_nk, mset_nj, mrow_s, mrow_n, ifeq_s, nar_0, nar_1, isB_0, isB_1, bnd_e, jn_e, Option.bind_some, gd_true, gd_dec, Bool.true_and, Bool.and_true, Bool.and_self, tn_nI, inb_nI, ifle_t, ifle_f, iflt_t, iflt_f, ifeq_f, if_true, ofN_nI, nI_add, nI_subl, li_0, li_1, li_2, li_3, li_4, li_5, li_6, li_7, li_8, li_9, li_10, li_11, li_12, li_13, li_14, li_15, li_16, li_17, li_18, li_19, li_20, li_21, li_22, li_23, li_24, li_25, li_26, li_27, li_28, li_29, li_30, li_31, li_32, li_60, li_63, li_64, li_80, li_100, li_128, li_160, li_320, li_511, li_512, li_1600, li_1700, li_2000, li_2048, li_32000, li_2147483647]
    · simp (disch := omega) only [fX6_thread, begin_m, noPage_t hp, noPage_t hs, wrong_0, wF_2 hp m3 (show kd p < 10 by omega) kp, wS_n k, Bn_0, mset_s, mset_nk, mset_nj, mrow_s, mrow_n, ifeq_s, nar_0, nar_1, isB_0, isB_1, bnd_e, jn_e, Option.bind_some, gd_true, gd_dec, Bool.true_and, Bool.and_true, Bool.and_self, tn_nI, inb_nI, ifle_t, ifle_f, iflt_t, iflt_f, ifeq_f, if_true, ofN_nI, nI_add, nI_subl, li_0, li_1, li_2, li_3, li_4, li_5, li_6, li_7, li_8, li_9, li_10, li_11, li_12, li_13, li_14, li_15, li_16, li_17, li_18, li_19, li_20, li_21, li_22, li_23, li_24, li_25, li_26, li_27, li_28, li_29, li_30, li_31, li_32, li_60, li_63, li_64, li_80, li_100, li_128, li_160, li_320, li_511, li_512, li_1600, li_1700, li_2000, li_2048, li_32000, li_2147483647]
-- table()
theorem RQ_tt {C R : Mem} {th : Nat} {kd ow st md et lg : Nat → Nat} {tb en rt : Nat → Nat → Nat} (h : RQ C R th kd ow st md et lg tb en rt) (hl : ∀ q, q < 20 → lg q ≤ 85) {s i v : Nat} (hs : s < 20) (hi : i < 4) :
    RQ (mset C (33 + 5 * s + 1) i (oI v)) (mset R 9 (4 * s + i) (oI v)) th kd ow st md et lg (up2 tb s i v) en rt := by
  refine RQ_step h hl (fun a b _ => ?_) (fun a b _ => ?_) (fun q hq => ?_)
  · rw [mset_get, if_neg (by omega)]
  · rw [mset_get, if_neg (by omega)]
  · by_cases e : q = s
    · subst e
      right
      obtain ⟨b1, b2, b3, b4, b5, b6, b7, b8, b9⟩ := h.1.2 q hq
      obtain ⟨a1, a2, a3, a4, a5, a6, a7, a8, a9, a10, a11, a12⟩ := h.2.2 q hq
      unfold pgM pgC
      simp (disch := omega) only [mset_nk]
      refine ⟨⟨b1, b2, b3, b4, b5, b6, fun j hj => ?_, b8, b9⟩, ⟨a1, a2, a3, fun j hj => ?_, a5, a6, a7, a8, a9, a10, a11, a12⟩⟩
      · by_cases d : j = i
        · subst d; rw [up2_s, mset_s]
        · rw [up2_n _ _ (by omega), mset_nj _ _ _ (by omega)]; exact b7 j hj
      · by_cases d : j = i
        · subst d; rw [up2_s, mset_s]
        · rw [up2_n _ _ (by omega), mset_nj _ _ _ (by omega)]; exact a4 j hj
    · left
      refine ⟨⟨rfl, rfl, rfl, rfl, rfl, rfl, fun _ => up2_n _ _ (by omega), fun _ => rfl, fun _ => rfl⟩, ?_, ?_⟩
      · unfold untR
        simp (disch := omega) only [mset_nk]
        refine ⟨trivial, trivial, trivial, trivial, trivial, trivial, fun j hj => ?_, fun _ _ => trivial, fun _ _ => trivial⟩
        rw [mset_nj _ _ _ (by omega)]
      · unfold untC
        simp (disch := omega) only [mset_s, mset_nk, mset_nj, mrow_s, mrow_n, ifeq_s, nar_0, nar_1, isB_0, isB_1]
        simp
theorem RQ_ez {C R : Mem} {th : Nat} {kd ow st md et lg : Nat → Nat} {tb en rt : Nat → Nat → Nat} (h : RQ C R th kd ow st md et lg tb en rt) (hl : ∀ q, q < 20 → lg q ≤ 85) {p : Nat} (hp : p < 20) :
    RQ (mrow C (33 + 5 * p + 4) (fun j => if j < 8 then nI 0 else C (33 + 5 * p + 4) j)) (mrow R 7 (fun j => if 8 * p ≤ j ∧ j < 8 * p + 8 then nI 0 else R 7 j)) th kd ow st md et lg tb (up en p (fun _ => 0)) rt := by
  refine RQ_step h hl (fun a b _ => ?_) (fun a b _ => ?_) (fun q hq => ?_)
  · rw [mrow_get, if_neg (by omega)]
  · rw [mrow_get, if_neg (by omega)]
  · by_cases e : q = p
    · subst e
      right
      obtain ⟨b1, b2, b3, b4, b5, b6, b7, b8, b9⟩ := h.1.2 q hq
      obtain ⟨a1, a2, a3, a4, a5, a6, a7, a8, a9, a10, a11, a12⟩ := h.2.2 q hq
      unfold pgM pgC
      simp (disch := omega) only [mrow_n]
      refine ⟨⟨b1, b2, b3, b4, b5, b6, b7, fun j hj => ?_, fun j hj hn => ?_⟩, ⟨a1, a2, a3, a4, fun j hj => ?_, a6, a7, a8, a9, a10, a11, a12⟩⟩
      · rw [up_s, mrow_s, if_pos (by omega)]; rfl
      · rw [up_s] at hn; exact absurd rfl hn
      · rw [up_s, mrow_s, if_pos hj, cE_0]
    · left
      refine ⟨⟨rfl, rfl, rfl, rfl, rfl, rfl, fun _ => rfl, fun _ => by rw [up_n _ _ e], fun _ => rfl⟩, ?_, ?_⟩
      · unfold untR
        simp (disch := omega) only [mrow_n]
        refine ⟨trivial, trivial, trivial, trivial, trivial, trivial, fun _ _ => trivial, fun j hj => ?_, fun _ _ => trivial⟩
        rw [mrow_s, if_neg (by omega)]
      · unfold untC
        simp (disch := omega) only [mset_s, mset_nk, mset_nj, mrow_s, mrow_n, ifeq_s, nar_0, nar_1, isB_0, isB_1]
        simp
