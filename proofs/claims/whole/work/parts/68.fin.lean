/-! finish(). -/
theorem RQ_stp {C C' R R' : Mem} {th : Nat} {kd ow st md et lg kd' ow' st' md' et' lg' : Nat → Nat} {tb en rt tb' en' rt' : Nat → Nat → Nat} (h : RQ C R th kd ow st md et lg tb en rt) (hl : ∀ q, q < 20 → lg q ≤ 85) (hpad : padOk C')
    (hC : ∀ a b, (a = 1 ∨ a = 134 ∨ (25 ≤ a ∧ a < 33)) → C' a b = C a b)
    (hR : ∀ a b, (a = 0 ∨ a = 1 ∨ a = 2 ∨ a = 18 ∨ a = 19) → R' a b = R a b)
    (hq : ∀ q, q < 20 → (untA kd ow st md et lg kd' ow' st' md' et' lg' tb en rt tb' en' rt' q ∧ untR R R' q ∧ untC C C' R R' q) ∨ (pgM R' kd' ow' st' md' et' lg' tb' en' rt' q ∧ pgC C' R' th kd' ow' st' md' et' lg' tb' en' rt' q)) : RQ C' R' th kd' ow' st' md' et' lg' tb' en' rt' := by
  obtain ⟨⟨⟨k1, k2⟩, hm⟩, ⟨⟨r1, r2, r3, r4, r5⟩, hc⟩⟩ := h
  refine ⟨⟨⟨fun t ht => ?_, fun j hj => ?_⟩, fun q h20 => ?_⟩, ⟨⟨hpad, ?_, ?_, fun j hj => ?_, fun f hf j hj => ?_⟩, fun q h20 => ?_⟩⟩
  · rw [hR _ _ (by omega)]; exact k1 t ht
  · rw [hR _ _ (by omega)]; exact k2 j hj
  · rcases hq q h20 with ⟨a, b, c⟩ | ⟨a, b⟩
    · exact pgM_unt (hm q h20) a b
    · exact a
  · rw [hC _ _ (by omega), hR _ _ (by omega)]; exact r2
  · rw [hC _ _ (by omega), hR _ _ (by omega)]; exact r3
  · rw [hC _ _ (by omega), hR _ _ (by omega)]; exact r4 j hj
  · rw [hC _ _ (by omega), hR _ _ (by omega)]; exact r5 f hf j hj
  · rcases hq q h20 with ⟨a, b, c⟩ | ⟨a, b⟩
    · exact pgC_unt (hc q h20) a c (hl q h20) (fun e => e)
    · exact b
theorem finM_e {R : Mem} {s n : Nat} (hs : s < 20) (hn : R 11 s = nI (16 * n)) (hb : n ≤ 85) (hk : kOk R) : ∃ R' : Mem, (∀ G : Mem → Option (Int32 × Mem), ((fX6_tell R (nI s) (nI 4) (nI 0) (nI 0)).bind (fun q6 => lp_X6_finish_41 (nI s) (fun _ M11 => (fX6_hash M11 (M11 11 s)).bind (fun q13 => lp_X6_finish_87 (nI s) (fun _ M18 => G M18) FU (nI 0) q13)) FU (nI 0) q6)) = G R') ∧
    (∀ j, j < 8 → R' 12 (8 * s + j) = cmp (cmp (chn (fun i => R 10 (1600 * s + i)) n) (blk 4 0 0)) (padf (n + 1)) j) ∧ (∀ j, (j < 8 * s ∨ 8 * s + 8 ≤ j) → R' 12 j = R 12 j) ∧ R' 11 s = nI (16 * (n + 1)) ∧ (∀ q, q ≠ s → R' 11 q = R 11 q) ∧ (∀ j, (j < 1600 * s + 16 * n ∨ 1600 * s + 16 * n + 16 ≤ j) → R' 10 j = R 10 j) ∧ ∀ a, a ≠ 10 → a ≠ 11 → a ≠ 12 → a ≠ 20 → a ≠ 21 → a ≠ 22 → a ≠ 23 → R' a = R a := by
  obtain ⟨R1, f1, f2, f3, f4, f5, f6⟩ := tellM_e (R := R) hs hn (by omega) (nI 4) (nI 0) (nI 0)
  obtain ⟨R2, hR2⟩ : ∃ R2, R2 = mrow R1 20 (fun j => if 0 ≤ j ∧ j < 0 + 16 * (n + 1) then R1 10 (1600 * s + (j - 0)) else R1 20 j) := ⟨_, rfl⟩
  have lp1 : ∀ F : Int32 → Mem → Option (Int32 × Mem), lp_X6_finish_41 (nI s) F FU (nI 0) R1 = F (nI (16 * (n + 1))) R2 := fun F => by
    rw [hR2]
    exact loop_set (fun n x M => lp_X6_finish_41 (nI s) F n x M) F (16 * (n + 1)) 0 20 (fun j => R1 10 (1600 * s + j)) R1 (by omega)
      (fun m i M' hi h1 h2 => by
        have e11 : M' 11 s = nI (16 * (n + 1)) := by rw [h1 11 (by omega)]; exact f2
        have e10 : M' 10 = R1 10 := h1 10 (by omega)
        simp (disch := omega) only [lp_X6_finish_41_s, e11, e10, pk_mul, Nat.zero_add, mset_s, mset_nk, mset_nj, mrow_s, mrow_n, ifeq_s, nar_0, nar_1, isB_0, isB_1, bnd_e, jn_e, Option.bind_some, gd_true, gd_dec, Bool.true_and, Bool.and_true, Bool.and_self, tn_nI, inb_nI, ifle_t, ifle_f, iflt_t, iflt_f, ifeq_f, if_true, ofN_nI, nI_add, nI_subl, li_0, li_1, li_2, li_3, li_4, li_5, li_6, li_7, li_8, li_9, li_10, li_11, li_12, li_13, li_14, li_15, li_16, li_17, li_18, li_19, li_20, li_21, li_22, li_23, li_24, li_25, li_26, li_27, li_28, li_29, li_30, li_31, li_32, li_60, li_63, li_64, li_80, li_100, li_128, li_160, li_320, li_511, li_512, li_1600, li_1700, li_2000, li_2048, li_32000, li_2147483647])
      (fun m M' h1 => by
        have e11 : M' 11 s = nI (16 * (n + 1)) := by rw [h1 11 (by omega)]; exact f2
        simp (disch := omega) only [lp_X6_finish_41_s, e11, mset_s, mset_nk, mset_nj, mrow_s, mrow_n, ifeq_s, nar_0, nar_1, isB_0, isB_1, bnd_e, jn_e, Option.bind_some, gd_true, gd_dec, Bool.true_and, Bool.and_true, Bool.and_self, tn_nI, inb_nI, ifle_t, ifle_f, iflt_t, iflt_f, ifeq_f, if_true, ofN_nI, nI_add, nI_subl, li_0, li_1, li_2, li_3, li_4, li_5, li_6, li_7, li_8, li_9, li_10, li_11, li_12, li_13, li_14, li_15, li_16, li_17, li_18, li_19, li_20, li_21, li_22, li_23, li_24, li_25, li_26, li_27, li_28, li_29, li_30, li_31, li_32, li_60, li_63, li_64, li_80, li_100, li_128, li_160, li_320, li_511, li_512, li_1600, li_1700, li_2000, li_2048, li_32000, li_2147483647])
  have k2 : kOk R2 := ⟨fun t ht => by rw [hR2, mrow_n _ _ (by omega), f6 _ (by omega) (by omega)]; exact hk.1 t ht, fun j hj => by rw [hR2, mrow_n _ _ (by omega), f6 _ (by omega) (by omega)]; exact hk.2 j hj⟩
  obtain ⟨R3, g1, g2, g3⟩ := hash_e (M := R2) (m := n + 1) (by omega) k2
  obtain ⟨R4, hR4⟩ : ∃ R4, R4 = mrow R3 12 (fun j => if 8 * s ≤ j ∧ j < 8 * s + 8 then R3 22 (j - 8 * s) else R3 12 j) := ⟨_, rfl⟩
  have lp2 : ∀ F : Int32 → Mem → Option (Int32 × Mem), lp_X6_finish_87 (nI s) F FU (nI 0) R3 = F (nI 8) R4 := fun F => by
    rw [hR4]
    exact loop_set (fun n x M => lp_X6_finish_87 (nI s) F n x M) F 8 (8 * s) 12 (fun j => R3 22 j) R3 (by omega)
      (fun m i M' hi h1 h2 => by
        have e22 : M' 22 = R3 22 := h1 22 (by omega)
        simp (disch := omega) only [lp_X6_finish_87_s, e22, pk_mul, mset_s, mset_nk, mset_nj, mrow_s, mrow_n, ifeq_s, nar_0, nar_1, isB_0, isB_1, bnd_e, jn_e, Option.bind_some, gd_true, gd_dec, Bool.true_and, Bool.and_true, Bool.and_self, tn_nI, inb_nI, ifle_t, ifle_f, iflt_t, iflt_f, ifeq_f, if_true, ofN_nI, nI_add, nI_subl, li_0, li_1, li_2, li_3, li_4, li_5, li_6, li_7, li_8, li_9, li_10, li_11, li_12, li_13, li_14, li_15, li_16, li_17, li_18, li_19, li_20, li_21, li_22, li_23, li_24, li_25, li_26, li_27, li_28, li_29, li_30, li_31, li_32, li_60, li_63, li_64, li_80, li_100, li_128, li_160, li_320, li_511, li_512, li_1600, li_1700, li_2000, li_2048, li_32000, li_2147483647])
      (fun m M' h1 => by simp (disch := omega) only [lp_X6_finish_87_s, mset_s, mset_nk, mset_nj, mrow_s, mrow_n, ifeq_s, nar_0, nar_1, isB_0, isB_1, bnd_e, jn_e, Option.bind_some, gd_true, gd_dec, Bool.true_and, Bool.and_true, Bool.and_self, tn_nI, inb_nI, ifle_t, ifle_f, iflt_t, iflt_f, ifeq_f, if_true, ofN_nI, nI_add, nI_subl, li_0, li_1, li_2, li_3, li_4, li_5, li_6, li_7, li_8, li_9, li_10, li_11, li_12, li_13, li_14, li_15, li_16, li_17, li_18, li_19, li_20, li_21, li_22, li_23, li_24, li_25, li_26, li_27, li_28, li_29, li_30, li_31, li_32, li_60, li_63, li_64, li_80, li_100, li_128, li_160, li_320, li_511, li_512, li_1600, li_1700, li_2000, li_2048, li_32000, li_2147483647])
  have e11 : R2 11 s = nI (16 * (n + 1)) := by rw [hR2, mrow_n _ _ (by omega)]; exact f2
  refine ⟨R4, fun G => ?_, fun j hj => ?_, fun j hj => ?_, ?_, fun q hq => ?_, fun j hj => ?_, fun a h1 h2 h3 h4 h5 h6 h7 => ?_⟩
  · rw [f1]
    show lp_X6_finish_41 _ _ _ _ R1 = _
    rw [lp1]
    show (fX6_hash R2 (R2 11 s)).bind _ = _
    rw [e11, g1]
    show lp_X6_finish_87 _ _ _ _ R3 = _
    rw [lp2]
  · rw [hR4, mrow_s, if_pos (by omega), Nat.add_sub_cancel_left, g2 j hj]
    show cmp (chn (R2 20) (n + 1)) (padf (n + 1)) j = _
    refine cmp_congr (fun i hi => ?_) (fun _ _ => rfl) j hj
    show cmp (chn (R2 20) n) (fun k => R2 20 (16 * n + k)) i = _
    have m20 : ∀ i, i < 16 * (n + 1) → R2 20 i = R1 10 (1600 * s + i) := fun i hi => by rw [hR2, mrow_s, if_pos (by omega)]; rfl
    refine cmp_congr (fun i hi => ?_) (fun k hk => ?_) i hi
    · exact chn_congr _ (fun m hm => by rw [m20 m (by omega), f5 _ (by omega)]) i hi
    · rw [m20 _ (by omega), f4 k hk]; rfl
  · rw [hR4, mrow_s, if_neg (by omega), g3 12 (by omega) (by omega) (by omega) (by omega), hR2, mrow_n _ _ (by omega), f6 12 (by omega) (by omega)]
  · rw [hR4, mrow_n _ _ (by omega), g3 11 (by omega) (by omega) (by omega) (by omega)]; exact e11
  · rw [hR4, mrow_n _ _ (by omega), g3 11 (by omega) (by omega) (by omega) (by omega), hR2, mrow_n _ _ (by omega)]; exact f3 q hq
  · rw [hR4, mrow_n _ _ (by omega), g3 10 (by omega) (by omega) (by omega) (by omega), hR2, mrow_n _ _ (by omega)]; exact f5 j hj
  · rw [hR4, mrow_n _ _ h3, g3 a h4 h5 h6 h7, hR2, mrow_n _ _ h4]; exact f6 a h1 h2
theorem sim_finish {C R : Mem} (h : Rel C R) (x : Int32) : ∃ r C' R', fX5_finish C x = some (r, C') ∧ fX6_finish R x = some (r, R') ∧ Rel C' R' := by
  have h' := h
  obtain ⟨kd, ow, st, md, et, lg, tb, en, rt, hM, hC, hI⟩ := h'
  have k := RM_hK hM hI
  rcases argc x (show 20 < 2 ^ 31 by omega) with hx | ⟨s, hs, rfl⟩
  · refine ⟨nI 1, C, Bn R 1, ?_, ?_, Rel_Bn h 1⟩
    · simp (disch := omega) only [fX5_finish, isPage_b hx, mset_s, mset_nk, mset_nj, mrow_s, mrow_n, ifeq_s, nar_0, nar_1, isB_0, isB_1, bnd_e, jn_e, Option.bind_some, gd_true, gd_dec, Bool.true_and, Bool.and_true, Bool.and_self, tn_nI, inb_nI, ifle_t, ifle_f, iflt_t, iflt_f, ifeq_f, if_true, ofN_nI, nI_add, nI_subl, li_0, li_1, li_2, li_3, li_4, li_5, li_6, li_7, li_8, li_9, li_10, li_11, li_12, li_13, li_14, li_15, li_16, li_17, li_18, li_19, li_20, li_21, li_22, li_23, li_24, li_25, li_26, li_27, li_28, li_29, li_30, li_31, li_32, li_60, li_63, li_64, li_80, li_100, li_128, li_160, li_320, li_511, li_512, li_1600, li_1700, li_2000, li_2048, li_32000, li_2147483647]
    · simp (disch := omega) only [fX6_finish, begin_m, noPage_b hx, wr_1, wS_n k, wr_n, Bn_0, mset_s, mset_nk, mset_nj, mrow_s, mrow_n, ifeq_s, nar_0, nar_1, isB_0, isB_1, bnd_e, Option.bind_some, gd_true, gd_dec, Bool.true_and, Bool.and_true, Bool.and_self, tn_nI, inb_nI, ifle_t, ifle_f, iflt_t, iflt_f, ifeq_f, if_true, ofN_nI, nI_add, nI_subl, li_0, li_1, li_2, li_3, li_4, li_5, li_6, li_7, li_8, li_9, li_10, li_11, li_12, li_13, li_14, li_15, li_16, li_17, li_18, li_19, li_20, li_21, li_22, li_23, li_24, li_25, li_26, li_27, li_28, li_29, li_30, li_31, li_32, li_60, li_63, li_64, li_80, li_100, li_128, li_160, li_320, li_511, li_512, li_1600, li_1700, li_2000, li_2048, li_32000, li_2147483647]; repeat (refine js ?_; simp (disch := omega) only [begin_m, noPage_b hx, wr_1, wS_n k, wr_n, Bn_0, mset_s, mset_nk, mset_nj, mrow_s, mrow_n, ifeq_s, nar_0, nar_1, isB_0, isB_1, bnd_e, Option.bind_some, gd_true, gd_dec, Bool.true_and, Bool.and_true, Bool.and_self, tn_nI, inb_nI, ifle_t, ifle_f, iflt_t, iflt_f, ifeq_f, if_true, ofN_nI, nI_add, nI_subl, li_0, li_1, li_2, li_3, li_4, li_5, li_6, li_7, li_8, li_9, li_10, li_11, li_12, li_13, li_14, li_15, li_16, li_17, li_18, li_19, li_20, li_21, li_22, li_23, li_24, li_25, li_26, li_27, li_28, li_29, li_30, li_31, li_32, li_60, li_63, li_64, li_80, li_100, li_128, li_160, li_320, li_511, li_512, li_1600, li_1700, li_2000, li_2048, li_32000, li_2147483647])
  obtain ⟨n3, n4, n5, -⟩ := hM.2 s hs
  obtain ⟨d3, d4, d5, -⟩ := hC.2 s hs
  have is := hI.1 s hs
  by_cases ks : kd s = 1
  · rw [ks] at n3 d3
    by_cases ss : st s = 0
    · rw [ss] at n5 d5
      have q1 := RQ_Bg ⟨hM, hC⟩ hI
      have cs := (q1.2.2 s hs).2.2.2.2.2.2.2.2.1 ks ss
      obtain ⟨C1, hC1⟩ : ∃ C1, C1 = mset C (33 + 5 * s) 2 (nI 1) := ⟨_, rfl⟩
      have pd : padOk C1 := fun j a b => by rw [hC1, mset_nk _ _ _ (by omega)]; exact hC.1.1 j a b
      obtain ⟨C2, e1, e2, e3, e4, e5, e6⟩ := seal_e (C := C1) (m := lg s) hs (by rw [hC1, mset_nj _ _ _ (by omega)]; exact cs.1) pd
      have bd := hI.2.2.2.2 s hs ks ss
      have bd1 : thr kd ow s ≤ 20 := cnt_le _ _
      have bd2 : tak tb en s ≤ 32 := cnt_le _ _
      obtain ⟨R2, g1, g2, g3, g4, g5, g6, g7⟩ := finM_e (R := Bg R) hs (q1.1.2 s hs).2.2.2.2.2.1 (by omega) q1.1.1
      obtain ⟨R3, hR3⟩ : ∃ R3, R3 = mset (mset R2 13 s (nI 1)) 5 s (nI 1) := ⟨_, rfl⟩
      have c2 : ∀ a, a ≠ 33 + 5 * s → a ≠ 33 + 5 * s + 2 → a ≠ 136 → a ≠ 137 → a ≠ 138 → C2 a = C a := fun a h1 h2 h3 h4 h5 => by rw [e6 a h1 h2 h3 h4 h5, hC1, mset_nk _ _ _ h1]
      have c2s : ∀ j, j ≠ 2 → j ≠ 3 → j ≠ 4 → C2 (33 + 5 * s) j = C (33 + 5 * s) j := fun j h2 h3 h4 => by rw [e4 j h3 h4, hC1, mset_nj _ _ _ h2]
      have r3 : ∀ a b, ¬ (a = 13 ∧ b = s) → ¬ (a = 5 ∧ b = s) → a ≠ 10 → a ≠ 11 → a ≠ 12 → a ≠ 20 → a ≠ 21 → a ≠ 22 → a ≠ 23 → R3 a b = Bg R a b := fun a b h1 h2 h3 h4 h5 h6 h7 h8 h9 => by rw [hR3, mset_get, if_neg h2, mset_get, if_neg h1, g7 a h3 h4 h5 h6 h7 h8 h9]
      have r3' : ∀ a, a = 10 ∨ a = 11 ∨ a = 12 → R3 a = R2 a := fun a ha => by rw [hR3, mset_nk _ _ _ (by omega), mset_nk _ _ _ (by omega)]
      have q2 : RQ C2 R3 20 kd ow (up st s 1) (up md s 1) et (up lg s (lg s + 1)) tb en rt := by
        refine RQ_stp q1 (IV85 hI) e5 (fun a b _ => ?_) (fun a b _ => ?_) (fun q hq => ?_)
        · rw [c2 a (by omega) (by omega) (by omega) (by omega) (by omega)]
        · exact r3 a b (by omega) (by omega) (by omega) (by omega) (by omega) (by omega) (by omega) (by omega) (by omega)
        · by_cases e : q = s
          · subst e
            right
            obtain ⟨b1, b2, b3, b4, b5, b6, b7, b8, b9⟩ := q1.1.2 q hq
            obtain ⟨a1, a2, a3, a4, a5, a6, a7, a8, a9, a10, a11, a12⟩ := q1.2.2 q hq
            unfold pgM pgC
            rw [up_s, up_s, up_s]
            refine ⟨⟨?_, ?_, ?_, ?_, ?_, ?_, fun j hj => ?_, fun j hj => ?_, fun j hj hn => ?_⟩, ⟨?_, ?_, ?_, fun j hj => ?_, fun j hj => ?_, fun j hj => ?_, fun _ => e3, fun _ _ j hj => ?_, fun _ e => absurd e (by omega), fun e => absurd e (by omega), fun e => absurd e (by omega), fun e => absurd e (by omega)⟩⟩
            · rw [r3 _ _ (by omega) (by omega) (by omega) (by omega) (by omega) (by omega) (by omega) (by omega) (by omega)]; exact b1
            · rw [r3 _ _ (by omega) (by omega) (by omega) (by omega) (by omega) (by omega) (by omega) (by omega) (by omega)]; exact b2
            · rw [hR3, mset_s]
            · rw [hR3, mset_nk _ _ _ (by omega), mset_s]
            · rw [r3 _ _ (by omega) (by omega) (by omega) (by omega) (by omega) (by omega) (by omega) (by omega) (by omega)]; exact b5
            · rw [r3' 11 (by omega)]; exact g4
            · rw [r3 _ _ (by omega) (by omega) (by omega) (by omega) (by omega) (by omega) (by omega) (by omega) (by omega)]; exact b7 j hj
            · rw [r3 _ _ (by omega) (by omega) (by omega) (by omega) (by omega) (by omega) (by omega) (by omega) (by omega)]; exact b8 j hj
            · rw [r3 _ _ (by omega) (by omega) (by omega) (by omega) (by omega) (by omega) (by omega) (by omega) (by omega)]; exact b9 j hj hn
            · rw [c2s _ (by omega) (by omega) (by omega)]; exact a1
            · rw [c2s _ (by omega) (by omega) (by omega)]; exact a2
            · rw [e4 2 (by omega) (by omega), hC1, mset_s]
            · rw [c2 _ (by omega) (by omega) (by omega) (by omega) (by omega)]; exact a4 j hj
            · rw [c2 _ (by omega) (by omega) (by omega) (by omega) (by omega)]; exact a5 j hj
            · rw [c2 _ (by omega) (by omega) (by omega) (by omega) (by omega), r3 _ _ (by omega) (by omega) (by omega) (by omega) (by omega) (by omega) (by omega) (by omega) (by omega)]; exact a6 j hj
            · rw [e2 j hj, r3' 12 (by omega), g2 j hj]
              refine cmp_congr (fun i hi => ?_) (fun _ _ => rfl) j hj
              refine cmp_congr (fun i hi => ?_) (fun _ _ => rfl) i hi
              rw [hC1, mset_nk _ _ _ (by omega)]
              exact cs.2 i hi
          · left
            refine ⟨⟨rfl, rfl, up_n _ _ e, up_n _ _ e, rfl, up_n _ _ e, fun _ => rfl, fun _ => rfl, fun _ => rfl⟩, ?_, ?_⟩
            · unfold untR
              refine ⟨?_, ?_, ?_, ?_, ?_, ?_, fun j hj => ?_, fun j hj => ?_, fun j hj => ?_⟩
              · exact r3 _ _ (by omega) (by omega) (by omega) (by omega) (by omega) (by omega) (by omega) (by omega) (by omega)
              · exact r3 _ _ (by omega) (by omega) (by omega) (by omega) (by omega) (by omega) (by omega) (by omega) (by omega)
              · exact r3 _ _ (by omega) (by omega) (by omega) (by omega) (by omega) (by omega) (by omega) (by omega) (by omega)
              · exact r3 _ _ (by omega) (by omega) (by omega) (by omega) (by omega) (by omega) (by omega) (by omega) (by omega)
              · exact r3 _ _ (by omega) (by omega) (by omega) (by omega) (by omega) (by omega) (by omega) (by omega) (by omega)
              · rw [r3' 11 (by omega)]; exact g5 q e
              · exact r3 _ _ (by omega) (by omega) (by omega) (by omega) (by omega) (by omega) (by omega) (by omega) (by omega)
              · exact r3 _ _ (by omega) (by omega) (by omega) (by omega) (by omega) (by omega) (by omega) (by omega) (by omega)
              · exact r3 _ _ (by omega) (by omega) (by omega) (by omega) (by omega) (by omega) (by omega) (by omega) (by omega)
            · unfold untC
              refine ⟨fun j => ?_, fun j => ?_, fun j => ?_, fun j => ?_, fun j => ?_, fun j => ?_, fun j hj => ?_, fun j hj => ?_, fun j hj => ?_, ?_, fun j hj => ?_⟩
              · rw [c2 _ (by omega) (by omega) (by omega) (by omega) (by omega)]
              · rw [c2 _ (by omega) (by omega) (by omega) (by omega) (by omega)]
              · rw [c2 _ (by omega) (by omega) (by omega) (by omega) (by omega)]
              · rw [c2 _ (by omega) (by omega) (by omega) (by omega) (by omega)]
              · rw [c2 _ (by omega) (by omega) (by omega) (by omega) (by omega)]
              · rw [c2 _ (by omega) (by omega) (by omega) (by omega) (by omega)]
              · exact r3 _ _ (by omega) (by omega) (by omega) (by omega) (by omega) (by omega) (by omega) (by omega) (by omega)
              · rw [r3' 12 (by omega)]; exact g3 _ (by omega)
              · rw [r3' 10 (by omega)]; exact g6 _ (by omega)
              · exact r3 _ _ (by omega) (by omega) (by omega) (by omega) (by omega) (by omega) (by omega) (by omega) (by omega)
              · exact r3 _ _ (by omega) (by omega) (by omega) (by omega) (by omega) (by omega) (by omega) (by omega) (by omega)
      refine ⟨nI 0, C2, R3, ?_, ?_, ⟨_, _, _, _, _, _, _, _, _, q2.1, q2.2, IV_st hI (Or.inl rfl) (by omega) ?_ (fun _ => up_s _ _ _) ?_⟩⟩
      · simp (disch := omega) only [fX5_finish, isPage_t hs, rS_0 (l := 0) hs d3 d5 (by omega) (by omega), ← hC1, e1, isPg_p, isI_p1, isI_p2, isI_p3, isI_p4, lnC_p1, lnC_p2, lnC_p3, lnC_p4, isI_r, lnC_r, isI_k, lnC_134, lnC_136, lnC_137, lnC_138, lnC_139, lnC_140, lnC_141, lnC_142, mset_s, mset_nk, mset_nj, mrow_s, mrow_n, ifeq_s, nar_0, nar_1, isB_0, isB_1, bnd_e, jn_e, Option.bind_some, gd_true, gd_dec, Bool.true_and, Bool.and_true, Bool.and_self, tn_nI, inb_nI, ifle_t, ifle_f, iflt_t, iflt_f, ifeq_f, if_true, ofN_nI, nI_add, nI_subl, li_0, li_1, li_2, li_3, li_4, li_5, li_6, li_7, li_8, li_9, li_10, li_11, li_12, li_13, li_14, li_15, li_16, li_17, li_18, li_19, li_20, li_21, li_22, li_23, li_24, li_25, li_26, li_27, li_28, li_29, li_30, li_31, li_32, li_60, li_63, li_64, li_80, li_100, li_128, li_160, li_320, li_511, li_512, li_1600, li_1700, li_2000, li_2048, li_32000, li_2147483647]
      · have g := g1 (fun M18 => some (nI 0, mset (mset M18 13 s (nI 1)) 5 s (nI 1)))
        rw [← hR3] at g
        rw [← g]
        simp (disch := omega) only [fX6_finish, begin_m, noPage_t hs, wrong_0, wS_t hs n3 n5, Bg_0, mset_s, mset_nk, mset_nj, mrow_s, mrow_n, ifeq_s, nar_0, nar_1, isB_0, isB_1, bnd_e, jn_e, Option.bind_some, gd_true, gd_dec, Bool.true_and, Bool.and_true, Bool.and_self, tn_nI, inb_nI, ifle_t, ifle_f, iflt_t, iflt_f, ifeq_f, if_true, ofN_nI, nI_add, nI_subl, li_0, li_1, li_2, li_3, li_4, li_5, li_6, li_7, li_8, li_9, li_10, li_11, li_12, li_13, li_14, li_15, li_16, li_17, li_18, li_19, li_20, li_21, li_22, li_23, li_24, li_25, li_26, li_27, li_28, li_29, li_30, li_31, li_32, li_60, li_63, li_64, li_80, li_100, li_128, li_160, li_320, li_511, li_512, li_1600, li_1700, li_2000, li_2048, li_32000, li_2147483647]
      · intro q hq
        by_cases e : q = s
        · rw [e, up_s]; exact ⟨by omega, fun c => absurd rfl c⟩
        · rw [up_n _ _ e]; exact ⟨(hI.1 q hq).2.2.1, fun _ => rfl⟩
      · intro q hq
        by_cases e : q = s
        · rw [e, up_s]; exact ⟨by omega, fun c => absurd rfl c⟩
        · rw [up_n _ _ e]; exact ⟨(hI.1 q hq).2.2.2.2.1, fun _ => rfl⟩
    · refine ⟨nI 4, C, Bn R 4, ?_, ?_, Rel_Bn h 4⟩
      · simp (disch := omega) only [fX5_finish, isPage_t hs, rS_4 (l := 0) hs d3 d5 (by omega) (by omega), mset_s, mset_nk, mset_nj, mrow_s, mrow_n, ifeq_s, nar_0, nar_1, isB_0, isB_1, bnd_e, jn_e, Option.bind_some, gd_true, gd_dec, Bool.true_and, Bool.and_true, Bool.and_self, tn_nI, inb_nI, ifle_t, ifle_f, iflt_t, iflt_f, ifeq_f, if_true, ofN_nI, nI_add, nI_subl, li_0, li_1, li_2, li_3, li_4, li_5, li_6, li_7, li_8, li_9, li_10, li_11, li_12, li_13, li_14, li_15, li_16, li_17, li_18, li_19, li_20, li_21, li_22, li_23, li_24, li_25, li_26, li_27, li_28, li_29, li_30, li_31, li_32, li_60, li_63, li_64, li_80, li_100, li_128, li_160, li_320, li_511, li_512, li_1600, li_1700, li_2000, li_2048, li_32000, li_2147483647]
      · simp (disch := omega) only [fX6_finish, begin_m, noPage_t hs, wrong_0, wS_4 (v := 0) hs n3 n5 (by omega) (by omega) ss, wr_n, Bn_0, mset_s, mset_nk, mset_nj, mrow_s, mrow_n, ifeq_s, nar_0, nar_1, isB_0, isB_1, bnd_e, Option.bind_some, gd_true, gd_dec, Bool.true_and, Bool.and_true, Bool.and_self, tn_nI, inb_nI, ifle_t, ifle_f, iflt_t, iflt_f, ifeq_f, if_true, ofN_nI, nI_add, nI_subl, li_0, li_1, li_2, li_3, li_4, li_5, li_6, li_7, li_8, li_9, li_10, li_11, li_12, li_13, li_14, li_15, li_16, li_17, li_18, li_19, li_20, li_21, li_22, li_23, li_24, li_25, li_26, li_27, li_28, li_29, li_30, li_31, li_32, li_60, li_63, li_64, li_80, li_100, li_128, li_160, li_320, li_511, li_512, li_1600, li_1700, li_2000, li_2048, li_32000, li_2147483647]; repeat (refine js ?_; simp (disch := omega) only [begin_m, noPage_t hs, wrong_0, wS_4 (v := 0) hs n3 n5 (by omega) (by omega) ss, wr_n, Bn_0, mset_s, mset_nk, mset_nj, mrow_s, mrow_n, ifeq_s, nar_0, nar_1, isB_0, isB_1, bnd_e, Option.bind_some, gd_true, gd_dec, Bool.true_and, Bool.and_true, Bool.and_self, tn_nI, inb_nI, ifle_t, ifle_f, iflt_t, iflt_f, ifeq_f, if_true, ofN_nI, nI_add, nI_subl, li_0, li_1, li_2, li_3, li_4, li_5, li_6, li_7, li_8, li_9, li_10, li_11, li_12, li_13, li_14, li_15, li_16, li_17, li_18, li_19, li_20, li_21, li_22, li_23, li_24, li_25, li_26, li_27, li_28, li_29, li_30, li_31, li_32, li_60, li_63, li_64, li_80, li_100, li_128, li_160, li_320, li_511, li_512, li_1600, li_1700, li_2000, li_2048, li_32000, li_2147483647])
  · refine ⟨nI 3, C, Bn R 3, ?_, ?_, Rel_Bn h 3⟩
    · simp (disch := omega) only [fX5_finish, isPage_t hs, rS_3 hs d3 (show kd s < 10 by omega) ks, mset_s, mset_nk, mset_nj, mrow_s, mrow_n, ifeq_s, nar_0, nar_1, isB_0, isB_1, bnd_e, jn_e, Option.bind_some, gd_true, gd_dec, Bool.true_and, Bool.and_true, Bool.and_self, tn_nI, inb_nI, ifle_t, ifle_f, iflt_t, iflt_f, ifeq_f, if_true, ofN_nI, nI_add, nI_subl, li_0, li_1, li_2, li_3, li_4, li_5, li_6, li_7, li_8, li_9, li_10, li_11, li_12, li_13, li_14, li_15, li_16, li_17, li_18, li_19, li_20, li_21, li_22, li_23, li_24, li_25, li_26, li_27, li_28, li_29, li_30, li_31, li_32, li_60, li_63, li_64, li_80, li_100, li_128, li_160, li_320, li_511, li_512, li_1600, li_1700, li_2000, li_2048, li_32000, li_2147483647]
    · simp (disch := omega) only [fX6_finish, begin_m, noPage_t hs, wrong_0, wS_3 hs n3 (show kd s < 10 by omega) ks, wr_n, Bn_0, mset_s, mset_nk, mset_nj, mrow_s, mrow_n, ifeq_s, nar_0, nar_1, isB_0, isB_1, bnd_e, Option.bind_some, gd_true, gd_dec, Bool.true_and, Bool.and_true, Bool.and_self, tn_nI, inb_nI, ifle_t, ifle_f, iflt_t, iflt_f, ifeq_f, if_true, ofN_nI, nI_add, nI_subl, li_0, li_1, li_2, li_3, li_4, li_5, li_6, li_7, li_8, li_9, li_10, li_11, li_12, li_13, li_14, li_15, li_16, li_17, li_18, li_19, li_20, li_21, li_22, li_23, li_24, li_25, li_26, li_27, li_28, li_29, li_30, li_31, li_32, li_60, li_63, li_64, li_80, li_100, li_128, li_160, li_320, li_511, li_512, li_1600, li_1700, li_2000, li_2048, li_32000, li_2147483647]; repeat (refine js ?_; simp (disch := omega) only [begin_m, noPage_t hs, wrong_0, wS_3 hs n3 (show kd s < 10 by omega) ks, wr_n, Bn_0, mset_s, mset_nk, mset_nj, mrow_s, mrow_n, ifeq_s, nar_0, nar_1, isB_0, isB_1, bnd_e, Option.bind_some, gd_true, gd_dec, Bool.true_and, Bool.and_true, Bool.and_self, tn_nI, inb_nI, ifle_t, ifle_f, iflt_t, iflt_f, ifeq_f, if_true, ofN_nI, nI_add, nI_subl, li_0, li_1, li_2, li_3, li_4, li_5, li_6, li_7, li_8, li_9, li_10, li_11, li_12, li_13, li_14, li_15, li_16, li_17, li_18, li_19, li_20, li_21, li_22, li_23, li_24, li_25, li_26, li_27, li_28, li_29, li_30, li_31, li_32, li_60, li_63, li_64, li_80, li_100, li_128, li_160, li_320, li_511, li_512, li_1600, li_1700, li_2000, li_2048, li_32000, li_2147483647])
