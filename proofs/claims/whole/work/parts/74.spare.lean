/-! Taking spare pages in, giving pages back. -/
def RU (C R : Mem) (th s : Nat) : Prop := ∃ (kd ow st md et lg : Nat → Nat) (tb en rt : Nat → Nat → Nat), RW C R th kd ow st md et lg tb en rt ∧ IV kd ow st md et lg tb en rt ∧ kd th = 2 ∧ ow th = s ∧ kd s = 1 ∧ st s = 1 ∧ et th = 0
theorem mset_id (M : Mem) (k j : Nat) {x : Int32} (h : M k j = x) : mset M k j x = M := by
  funext a b
  rw [mset_get]
  by_cases c : a = k ∧ b = j
  · rw [if_pos c, c.1, c.2, h]
  · rw [if_neg c]
theorem hR_b {C : Mem} {s : Nat} {x : Int32} (h : bad x 32) : fX4_hasRoom C (33 + 5 * s) x = some (nI 0, C) := by
  unfold fX4_hasRoom
  rw [eF_b h]
  simp (disch := omega) only [oq, mset_s, mset_nk, mset_nj, mrow_s, mrow_n, ifeq_s, nar_0, nar_1, isB_0, isB_1, bnd_e, jn_e, Option.bind_some, gd_true, gd_dec, Bool.true_and, Bool.and_true, Bool.and_self, tn_nI, inb_nI, ifle_t, ifle_f, iflt_t, iflt_f, ifeq_f, if_true, ofN_nI, nI_add, nI_subl, li_0, li_1, li_2, li_3, li_4, li_5, li_6, li_7, li_8, li_9, li_10, li_11, li_12, li_13, li_14, li_15, li_16, li_17, li_18, li_19, li_20, li_21, li_22, li_23, li_24, li_25, li_26, li_27, li_28, li_29, li_30, li_31, li_32, li_60, li_63, li_64, li_80, li_100, li_128, li_160, li_320, li_511, li_512, li_1600, li_1700, li_2000, li_2048, li_32000, li_2147483647]
theorem areDR_0 {M : Mem} : fX5_areDataRights M (nI 0) = some (nI 0, M) := areDR_b (Or.inl (nI_lt (by omega) (by omega)))
theorem sim_take {C R : Mem} {th s : Nat} (hu : RU C R th s) (ht : th < 20) (hs : s < 20) (h21 : R 0 21 = nI s) (x y : Int32) {r : Nat} (hr : r < 8) :
    ∃ b C' R', b ≤ 1 ∧ fX4_useSpare C (nI s) x y (nI r) = some (nI b, C') ∧ fX6_takeIn R x y (nI r) = some (nI (1 - b), R') ∧ RU C' R' th s ∧ C' 1 = C 1 ∧ C' (33 + 5 * th) = C (33 + 5 * th) ∧ C' (33 + 5 * th + 3) = C (33 + 5 * th + 3) ∧ R' 0 = R 0 ∧ R' 17 = R 17 := by
  have hu' := hu
  obtain ⟨kd, ow, st, md, et, lg, tb, en, rt, h, hI, kt, ot, ks, ss, te⟩ := hu'
  have no : ∀ {P Q : Prop}, P → Q → (fX4_useSpare C (nI s) x y (nI r) = some (nI 0, C)) → (fX6_takeIn R x y (nI r) = some (nI 1, R)) → ∃ b C' R', b ≤ 1 ∧ fX4_useSpare C (nI s) x y (nI r) = some (nI b, C') ∧ fX6_takeIn R x y (nI r) = some (nI (1 - b), R') ∧ RU C' R' th s ∧ C' 1 = C 1 ∧ C' (33 + 5 * th) = C (33 + 5 * th) ∧ C' (33 + 5 * th + 3) = C (33 + 5 * th + 3) ∧ R' 0 = R 0 ∧ R' 17 = R 17 := fun _ _ e1 e2 => ⟨0, C, R, by omega, e1, e2, hu, rfl, rfl, rfl, rfl, rfl⟩
  rcases argc x (show 20 < 2 ^ 31 by omega) with hx | ⟨p, hp, rfl⟩
  · refine no trivial trivial ?_ ?_
    · simp (disch := omega) only [fX4_useSpare, isPage_b hx, mset_s, mset_nk, mset_nj, mrow_s, mrow_n, ifeq_s, nar_0, nar_1, isB_0, isB_1, bnd_e, jn_e, Option.bind_some, gd_true, gd_dec, Bool.true_and, Bool.and_true, Bool.and_self, tn_nI, inb_nI, ifle_t, ifle_f, iflt_t, iflt_f, ifeq_f, if_true, ofN_nI, nI_add, nI_subl, li_0, li_1, li_2, li_3, li_4, li_5, li_6, li_7, li_8, li_9, li_10, li_11, li_12, li_13, li_14, li_15, li_16, li_17, li_18, li_19, li_20, li_21, li_22, li_23, li_24, li_25, li_26, li_27, li_28, li_29, li_30, li_31, li_32, li_60, li_63, li_64, li_80, li_100, li_128, li_160, li_320, li_511, li_512, li_1600, li_1700, li_2000, li_2048, li_32000, li_2147483647]
    · simp (disch := omega) only [fX6_takeIn, isKind_b hx, mset_s, mset_nk, mset_nj, mrow_s, mrow_n, ifeq_s, nar_0, nar_1, isB_0, isB_1, bnd_e, jn_e, Option.bind_some, gd_true, gd_dec, Bool.true_and, Bool.and_true, Bool.and_self, tn_nI, inb_nI, ifle_t, ifle_f, iflt_t, iflt_f, ifeq_f, if_true, ofN_nI, nI_add, nI_subl, li_0, li_1, li_2, li_3, li_4, li_5, li_6, li_7, li_8, li_9, li_10, li_11, li_12, li_13, li_14, li_15, li_16, li_17, li_18, li_19, li_20, li_21, li_22, li_23, li_24, li_25, li_26, li_27, li_28, li_29, li_30, li_31, li_32, li_60, li_63, li_64, li_80, li_100, li_128, li_160, li_320, li_511, li_512, li_1600, li_1700, li_2000, li_2048, li_32000, li_2147483647]
  obtain ⟨m3, m4, m5, -⟩ := h.1.2 p hp
  obtain ⟨c3, c4, c5, -⟩ := h.2.2 p hp
  have ip := hI.1 p hp
  have is := hI.1 s hs
  have e0 := isKind_t (M := R) (k' := 5) hp m3 (by omega) (by omega)
  by_cases k5 : kd p = 5
  · rw [if_pos k5] at e0
    rw [k5] at m3 c3
    have o1 := IV_ow hI hp
    by_cases os : ow p = s
    · rw [os, oI_t hs] at m4 c4
      rcases argc y (show 32 < 2 ^ 31 by omega) with hy | ⟨b, hb, rfl⟩
      · refine no trivial trivial ?_ ?_
        · rcases (show r = 0 ∨ 1 ≤ r by omega) with r0 | r0
          · subst r0
            simp (disch := omega) only [fX4_useSpare, isPage_t hp, c3, c4, areDR_0, isPg_p, isI_p1, isI_p2, isI_p3, isI_p4, lnC_p1, lnC_p2, lnC_p3, lnC_p4, isI_r, lnC_r, isI_k, lnC_134, lnC_136, lnC_137, lnC_138, lnC_139, lnC_140, lnC_141, lnC_142, mset_s, mset_nk, mset_nj, mrow_s, mrow_n, ifeq_s, nar_0, nar_1, isB_0, isB_1, bnd_e, jn_e, Option.bind_some, gd_true, gd_dec, Bool.true_and, Bool.and_true, Bool.and_self, tn_nI, inb_nI, ifle_t, ifle_f, iflt_t, iflt_f, ifeq_f, if_true, ofN_nI, nI_add, nI_subl, li_0, li_1, li_2, li_3, li_4, li_5, li_6, li_7, li_8, li_9, li_10, li_11, li_12, li_13, li_14, li_15, li_16, li_17, li_18, li_19, li_20, li_21, li_22, li_23, li_24, li_25, li_26, li_27, li_28, li_29, li_30, li_31, li_32, li_60, li_63, li_64, li_80, li_100, li_128, li_160, li_320, li_511, li_512, li_1600, li_1700, li_2000, li_2048, li_32000, li_2147483647]
          · simp (disch := omega) only [fX4_useSpare, isPage_t hp, c3, c4, areDR_t r0 (show r ≤ 7 by omega), hR_b hy, isPg_p, isI_p1, isI_p2, isI_p3, isI_p4, lnC_p1, lnC_p2, lnC_p3, lnC_p4, isI_r, lnC_r, isI_k, lnC_134, lnC_136, lnC_137, lnC_138, lnC_139, lnC_140, lnC_141, lnC_142, mset_s, mset_nk, mset_nj, mrow_s, mrow_n, ifeq_s, nar_0, nar_1, isB_0, isB_1, bnd_e, jn_e, Option.bind_some, gd_true, gd_dec, Bool.true_and, Bool.and_true, Bool.and_self, tn_nI, inb_nI, ifle_t, ifle_f, iflt_t, iflt_f, ifeq_f, if_true, ofN_nI, nI_add, nI_subl, li_0, li_1, li_2, li_3, li_4, li_5, li_6, li_7, li_8, li_9, li_10, li_11, li_12, li_13, li_14, li_15, li_16, li_17, li_18, li_19, li_20, li_21, li_22, li_23, li_24, li_25, li_26, li_27, li_28, li_29, li_30, li_31, li_32, li_60, li_63, li_64, li_80, li_100, li_128, li_160, li_320, li_511, li_512, li_1600, li_1700, li_2000, li_2048, li_32000, li_2147483647]
        · simp (disch := omega) only [fX6_takeIn, e0, m4, h21, noBlock_b hy, mset_s, mset_nk, mset_nj, mrow_s, mrow_n, ifeq_s, nar_0, nar_1, isB_0, isB_1, bnd_e, jn_e, Option.bind_some, gd_true, gd_dec, Bool.true_and, Bool.and_true, Bool.and_self, tn_nI, inb_nI, ifle_t, ifle_f, iflt_t, iflt_f, ifeq_f, if_true, ofN_nI, nI_add, nI_subl, li_0, li_1, li_2, li_3, li_4, li_5, li_6, li_7, li_8, li_9, li_10, li_11, li_12, li_13, li_14, li_15, li_16, li_17, li_18, li_19, li_20, li_21, li_22, li_23, li_24, li_25, li_26, li_27, li_28, li_29, li_30, li_31, li_32, li_60, li_63, li_64, li_80, li_100, li_128, li_160, li_320, li_511, li_512, li_1600, li_1700, li_2000, li_2048, li_32000, li_2147483647]
      rcases (show r = 0 ∨ 1 ≤ r by omega) with r0 | r0
      · subst r0
        refine no trivial trivial ?_ ?_
        · simp (disch := omega) only [fX4_useSpare, isPage_t hp, c3, c4, areDR_0, isPg_p, isI_p1, isI_p2, isI_p3, isI_p4, lnC_p1, lnC_p2, lnC_p3, lnC_p4, isI_r, lnC_r, isI_k, lnC_134, lnC_136, lnC_137, lnC_138, lnC_139, lnC_140, lnC_141, lnC_142, mset_s, mset_nk, mset_nj, mrow_s, mrow_n, ifeq_s, nar_0, nar_1, isB_0, isB_1, bnd_e, jn_e, Option.bind_some, gd_true, gd_dec, Bool.true_and, Bool.and_true, Bool.and_self, tn_nI, inb_nI, ifle_t, ifle_f, iflt_t, iflt_f, ifeq_f, if_true, ofN_nI, nI_add, nI_subl, li_0, li_1, li_2, li_3, li_4, li_5, li_6, li_7, li_8, li_9, li_10, li_11, li_12, li_13, li_14, li_15, li_16, li_17, li_18, li_19, li_20, li_21, li_22, li_23, li_24, li_25, li_26, li_27, li_28, li_29, li_30, li_31, li_32, li_60, li_63, li_64, li_80, li_100, li_128, li_160, li_320, li_511, li_512, li_1600, li_1700, li_2000, li_2048, li_32000, li_2147483647]
        · simp (disch := omega) only [fX6_takeIn, e0, m4, h21, noBlock_t hb, mset_s, mset_nk, mset_nj, mrow_s, mrow_n, ifeq_s, nar_0, nar_1, isB_0, isB_1, bnd_e, jn_e, Option.bind_some, gd_true, gd_dec, Bool.true_and, Bool.and_true, Bool.and_self, tn_nI, inb_nI, ifle_t, ifle_f, iflt_t, iflt_f, ifeq_f, if_true, ofN_nI, nI_add, nI_subl, li_0, li_1, li_2, li_3, li_4, li_5, li_6, li_7, li_8, li_9, li_10, li_11, li_12, li_13, li_14, li_15, li_16, li_17, li_18, li_19, li_20, li_21, li_22, li_23, li_24, li_25, li_26, li_27, li_28, li_29, li_30, li_31, li_32, li_60, li_63, li_64, li_80, li_100, li_128, li_160, li_320, li_511, li_512, li_1600, li_1700, li_2000, li_2048, li_32000, li_2147483647]
      have n9 := (h.1.2 s hs).2.2.2.2.2.2.1 (b / 8) (by omega)
      have d9 := (h.2.2 s hs).2.2.2.1 (b / 8) (by omega)
      have it := is.2.2.2.2.2.2.2.2.1 (b / 8) (by omega)
      by_cases tz : tb s (b / 8) = 20
      · rw [tz] at n9 d9
        refine no trivial trivial ?_ ?_
        · simp (disch := omega) only [fX4_useSpare, isPage_t hp, c3, c4, areDR_t r0 (show r ≤ 7 by omega), hR_n hs hb d9, isPg_p, isI_p1, isI_p2, isI_p3, isI_p4, lnC_p1, lnC_p2, lnC_p3, lnC_p4, isI_r, lnC_r, isI_k, lnC_134, lnC_136, lnC_137, lnC_138, lnC_139, lnC_140, lnC_141, lnC_142, mset_s, mset_nk, mset_nj, mrow_s, mrow_n, ifeq_s, nar_0, nar_1, isB_0, isB_1, bnd_e, jn_e, Option.bind_some, gd_true, gd_dec, Bool.true_and, Bool.and_true, Bool.and_self, tn_nI, inb_nI, ifle_t, ifle_f, iflt_t, iflt_f, ifeq_f, if_true, ofN_nI, nI_add, nI_subl, li_0, li_1, li_2, li_3, li_4, li_5, li_6, li_7, li_8, li_9, li_10, li_11, li_12, li_13, li_14, li_15, li_16, li_17, li_18, li_19, li_20, li_21, li_22, li_23, li_24, li_25, li_26, li_27, li_28, li_29, li_30, li_31, li_32, li_60, li_63, li_64, li_80, li_100, li_128, li_160, li_320, li_511, li_512, li_1600, li_1700, li_2000, li_2048, li_32000, li_2147483647]
        · simp (disch := omega) only [fX6_takeIn, e0, m4, h21, noBlock_t hb, iT_n hs hb n9, mset_s, mset_nk, mset_nj, mrow_s, mrow_n, ifeq_s, nar_0, nar_1, isB_0, isB_1, bnd_e, jn_e, Option.bind_some, gd_true, gd_dec, Bool.true_and, Bool.and_true, Bool.and_self, tn_nI, inb_nI, ifle_t, ifle_f, iflt_t, iflt_f, ifeq_f, if_true, ofN_nI, nI_add, nI_subl, li_0, li_1, li_2, li_3, li_4, li_5, li_6, li_7, li_8, li_9, li_10, li_11, li_12, li_13, li_14, li_15, li_16, li_17, li_18, li_19, li_20, li_21, li_22, li_23, li_24, li_25, li_26, li_27, li_28, li_29, li_30, li_31, li_32, li_60, li_63, li_64, li_80, li_100, li_128, li_160, li_320, li_511, li_512, li_1600, li_1700, li_2000, li_2048, li_32000, li_2147483647]
      obtain ⟨T, hT⟩ : ∃ T, T = tb s (b / 8) := ⟨_, rfl⟩
      obtain ⟨i, hi0⟩ : ∃ i, i = b % 8 := ⟨_, rfl⟩
      have hi : i < 8 := by omega
      rw [← hT] at d9 n9 tz it
      have tl : T < 20 := by omega
      have m7 := (h.1.2 T tl).2.2.2.2.2.2.2.1 i hi
      have c4' := (h.2.2 T tl).2.2.2.2.1 i hi
      have iT := hI.1 T tl
      have ie := iT.2.2.2.2.2.2.2.2.2.1 i hi
      have itk := iT_t hs hb tl n9 ie (by rw [← hi0]; exact m7)
      have hlink := hI.2.1 s hs ks (by omega) (b / 8) (by omega) (by rw [← hT]; exact tl)
      rw [← hT] at hlink
      by_cases e00 : en T i = 0
      · rw [if_pos e00] at itk
        rw [e00] at c4'
        have nT : T ≠ p := fun e => by rw [e] at hlink; omega
        have nh : th ≠ p := fun e => by rw [e] at kt; omega
        have ns : s ≠ p := fun e => by rw [e] at ks; omega
        have q1 := RW_cl h (IV85 hI) (k := 4) (o := s) hp (by omega)
        have i1 := IV_kd hI hs (p := p) (b := 4) (by omega) (by omega) ks (fun e => absurd e (by omega))
        rw [oI_t hs, mset_id (mset C (33 + 5 * p) 0 (nI 4)) (33 + 5 * p) 1 (by rw [mset_nj _ _ _ (by omega)]; exact c4)] at q1
        obtain ⟨C1, hC1⟩ : ∃ C1, C1 = mset C (33 + 5 * p) 0 (nI 4) := ⟨_, rfl⟩
        obtain ⟨R1, hR1⟩ : ∃ R1, R1 = mset (mset R 3 p (nI 4)) 4 p (nI s) := ⟨_, rfl⟩
        rw [← hC1, ← hR1] at q1
        obtain ⟨C2, hC2⟩ : ∃ C2, C2 = mrow C1 (5 + p) (fun j => if j < 16 then nI 0 else C1 (5 + p) j) := ⟨_, rfl⟩
        have r6 : R1 6 = R 6 := by rw [hR1, mset_nk _ _ _ (by omega), mset_nk _ _ _ (by omega)]
        obtain ⟨g, hg⟩ : ∃ g : Nat → Int32, g = fun j => if 16 * p ≤ j ∧ j < 16 * p + 16 then nI 0 else R 6 j := ⟨_, rfl⟩
        have q2 : RW C2 (mrow R1 6 g) th _ _ st md et lg tb en rt := RW_wd q1 (IV85 i1) hp
          (fun j hj => by rw [hC2, mrow_s, mrow_s, if_pos hj, hg]; show _ = if _ then _ else _; rw [if_pos (by omega)])
          (fun a ha => by rw [hC2, mrow_n _ _ ha])
          (fun j hj => by rw [mrow_s, r6, hg]; exact if_neg (by omega))
          (fun a ha => mrow_n _ _ ha)
        have tb2 : C2 (33 + 5 * s + 1) (b / 8) = oI T := by rw [hT]; exact (q2.2.2 s hs).2.2.2.1 (b / 8) (by omega)
        have mp := map_t (w := p) (r := r) hs hb tl tb2 (by omega) (by omega)
        rw [← hi0] at mp
        obtain ⟨R2, hR2⟩ : ∃ R2, R2 = mset R1 7 (8 * T + i) (nI (p + 1)) := ⟨_, rfl⟩
        obtain ⟨R3, hR3⟩ : ∃ R3, R3 = mset R2 8 (8 * T + i) (nI r) := ⟨_, rfl⟩
        have r36 : R3 6 = R 6 := by rw [hR3, mset_nk _ _ _ (by omega), hR2, mset_nk _ _ _ (by omega), r6]
        have q3 := RW_en q2 (IV85 i1) (T := T) (i := i) (e := p + 1) (rt' := up2 rt T i r) (R' := mrow R3 6 g) tl hi
          (by rw [mrow_n _ _ (by omega), hR3, mset_nk _ _ _ (by omega), hR2, mset_s, eI_p (by omega)])
          (fun _ => by rw [mrow_n _ _ (by omega), hR3, mset_s, up2_s])
          (fun a b h1 h2 => by
            rw [mrow_get, mrow_get]
            by_cases e : a = 6
            · rw [if_pos e, if_pos e]
            · rw [if_neg e, if_neg e, hR3, mset_nk _ _ _ h2, hR2, mset_nk _ _ _ h1])
          (fun b hb => by
            rw [mrow_n _ _ (by omega), mrow_n _ _ (by omega), mrow_n _ _ (by omega), mrow_n _ _ (by omega), hR3]
            exact ⟨by rw [mset_nk _ _ _ (by omega), hR2, mset_nj _ _ _ hb], by rw [mset_nj _ _ _ hb, hR2, mset_nk _ _ _ (by omega)]⟩)
          (fun t j hn => up2_n _ _ hn)
        have i2 := IV_map (T := T) (i := i) (e := p + 1) (r := r) i1 e00 (by omega) (by omega) (fun _ => by
          rw [Nat.add_sub_cancel, up_s, up_s, up_n _ _ nT]
          refine ⟨rfl, hlink.2.symm, fun t ht k3 k2 j hj he => ?_⟩
          have a := up_o k3 (by omega)
          rw [up_n _ _ a.1] at k2
          have := (hI.2.2.1 t ht a.2 k2 j hj (by omega) (by omega)).1
          rw [he, Nat.add_sub_cancel] at this
          omega)
        rw [up2_s] at q3
        obtain ⟨C3, hC3⟩ : ∃ C3, C3 = mset C2 (33 + 5 * T + 4) i (cE (p + 1) r) := ⟨_, rfl⟩
        rw [← hC3] at mp q3
        have c3a : ∀ a, a ≠ 33 + 5 * p → a ≠ 5 + p → a ≠ 33 + 5 * T + 4 → C3 a = C a := fun a h1 h2 h3 => by rw [hC3, mset_nk _ _ _ h3, hC2, mrow_n _ _ h2, hC1, mset_nk _ _ _ h1]
        have r3a : ∀ a, a ≠ 3 → a ≠ 4 → a ≠ 7 → a ≠ 8 → R3 a = R a := fun a h1 h2 h3 h4 => by rw [hR3, mset_nk _ _ _ h4, hR2, mset_nk _ _ _ h3, hR1, mset_nk _ _ _ h2, mset_nk _ _ _ h1]
        refine ⟨1, C3, mrow R3 6 g, by omega, ?_, ?_, ⟨_, _, _, _, _, _, _, _, _, q3, i2, by rw [up_n _ _ nh]; exact kt, by rw [up_n _ _ nh]; exact ot, by rw [up_n _ _ ns]; exact ks, ss, te⟩, c3a 1 (by omega) (by omega) (by omega), c3a _ (by omega) (by omega) (by omega), c3a _ (by omega) (by omega) (by omega), by rw [mrow_n _ _ (by omega)]; exact r3a 0 (by omega) (by omega) (by omega) (by omega), by rw [mrow_n _ _ (by omega)]; exact r3a 17 (by omega) (by omega) (by omega) (by omega)⟩
        · have fl := fill_l (M := C1) (k := 5 + p) (v := nI 0) (isI_r (by omega)) (lnC_r (by omega))
          rw [← hC2] at fl
          simp (disch := omega) only [fX4_useSpare, isPage_t hp, c3, c4, areDR_t r0 (show r ≤ 7 by omega), hR_t hs hb tl d9 (by rw [← hi0]; exact c4'), ← hC1, fl, mp, isPg_p, isI_p1, isI_p2, isI_p3, isI_p4, lnC_p1, lnC_p2, lnC_p3, lnC_p4, isI_r, lnC_r, isI_k, lnC_134, lnC_136, lnC_137, lnC_138, lnC_139, lnC_140, lnC_141, lnC_142, mset_s, mset_nk, mset_nj, mrow_s, mrow_n, ifeq_s, nar_0, nar_1, isB_0, isB_1, bnd_e, jn_e, Option.bind_some, gd_true, gd_dec, Bool.true_and, Bool.and_true, Bool.and_self, tn_nI, inb_nI, ifle_t, ifle_f, iflt_t, iflt_f, ifeq_f, if_true, ofN_nI, nI_add, nI_subl, li_0, li_1, li_2, li_3, li_4, li_5, li_6, li_7, li_8, li_9, li_10, li_11, li_12, li_13, li_14, li_15, li_16, li_17, li_18, li_19, li_20, li_21, li_22, li_23, li_24, li_25, li_26, li_27, li_28, li_29, li_30, li_31, li_32, li_60, li_63, li_64, li_80, li_100, li_128, li_160, li_320, li_511, li_512, li_1600, li_1700, li_2000, li_2048, li_32000, li_2147483647]
        · have eo1 := eO_e (M := R1) hs hb tl (by rw [hR1, mset_nk _ _ _ (by omega), mset_nk _ _ _ (by omega)]; exact n9)
          have eo2 := eO_e (M := R2) hs hb tl (by rw [hR2, mset_nk _ _ _ (by omega), hR1, mset_nk _ _ _ (by omega), mset_nk _ _ _ (by omega)]; exact n9)
          rw [← hi0] at eo1 eo2
          have z1 : R1 0 21 = nI s := by rw [hR1, mset_nk _ _ _ (by omega), mset_nk _ _ _ (by omega)]; exact h21
          have z2 : R2 0 21 = nI s := by rw [hR2, mset_nk _ _ _ (by omega)]; exact z1
          have lp : ∀ F : Int32 → Mem → Option (Int32 × Mem), lp_X6_takeIn_92 (nI p) F FU (nI 0) R3 = F (nI 16) (mrow R3 6 g) := fun F => by
            have q := loop_set (fun n x M => lp_X6_takeIn_92 (nI p) F n x M) F 16 (16 * p) 6 (fun _ => nI 0) R3 (by omega)
              (fun n i M' hi _ _ => by simp (disch := omega) only [lp_X6_takeIn_92_s, pk_mul, mset_s, mset_nk, mset_nj, mrow_s, mrow_n, ifeq_s, nar_0, nar_1, isB_0, isB_1, bnd_e, jn_e, Option.bind_some, gd_true, gd_dec, Bool.true_and, Bool.and_true, Bool.and_self, tn_nI, inb_nI, ifle_t, ifle_f, iflt_t, iflt_f, ifeq_f, if_true, ofN_nI, nI_add, nI_subl, li_0, li_1, li_2, li_3, li_4, li_5, li_6, li_7, li_8, li_9, li_10, li_11, li_12, li_13, li_14, li_15, li_16, li_17, li_18, li_19, li_20, li_21, li_22, li_23, li_24, li_25, li_26, li_27, li_28, li_29, li_30, li_31, li_32, li_60, li_63, li_64, li_80, li_100, li_128, li_160, li_320, li_511, li_512, li_1600, li_1700, li_2000, li_2048, li_32000, li_2147483647])
              (fun n M' _ => by simp (disch := omega) only [lp_X6_takeIn_92_s, mset_s, mset_nk, mset_nj, mrow_s, mrow_n, ifeq_s, nar_0, nar_1, isB_0, isB_1, bnd_e, jn_e, Option.bind_some, gd_true, gd_dec, Bool.true_and, Bool.and_true, Bool.and_self, tn_nI, inb_nI, ifle_t, ifle_f, iflt_t, iflt_f, ifeq_f, if_true, ofN_nI, nI_add, nI_subl, li_0, li_1, li_2, li_3, li_4, li_5, li_6, li_7, li_8, li_9, li_10, li_11, li_12, li_13, li_14, li_15, li_16, li_17, li_18, li_19, li_20, li_21, li_22, li_23, li_24, li_25, li_26, li_27, li_28, li_29, li_30, li_31, li_32, li_60, li_63, li_64, li_80, li_100, li_128, li_160, li_320, li_511, li_512, li_1600, li_1700, li_2000, li_2048, li_32000, li_2147483647])
            rw [r36, ← hg] at q
            exact q
          simp (disch := omega) only [fX6_takeIn, e0, m4, h21, noBlock_t hb, itk, fX6_become, ← hR1, eo1, z1, ← hR2, eo2, z2, ← hR3, lp, mset_s, mset_nk, mset_nj, mrow_s, mrow_n, ifeq_s, nar_0, nar_1, isB_0, isB_1, bnd_e, jn_e, Option.bind_some, gd_true, gd_dec, Bool.true_and, Bool.and_true, Bool.and_self, tn_nI, inb_nI, ifle_t, ifle_f, iflt_t, iflt_f, ifeq_f, if_true, ofN_nI, nI_add, nI_subl, li_0, li_1, li_2, li_3, li_4, li_5, li_6, li_7, li_8, li_9, li_10, li_11, li_12, li_13, li_14, li_15, li_16, li_17, li_18, li_19, li_20, li_21, li_22, li_23, li_24, li_25, li_26, li_27, li_28, li_29, li_30, li_31, li_32, li_60, li_63, li_64, li_80, li_100, li_128, li_160, li_320, li_511, li_512, li_1600, li_1700, li_2000, li_2048, li_32000, li_2147483647]
      · rw [if_neg e00] at itk
        have ir := iT.2.2.2.2.2.2.2.2.2.2 i hi e00
        refine no trivial trivial ?_ ?_
        · simp (disch := omega) only [fX4_useSpare, isPage_t hp, c3, c4, areDR_t r0 (show r ≤ 7 by omega), hR_f hs hb tl d9 e00 ie ir (by rw [← hi0]; exact c4'), isPg_p, isI_p1, isI_p2, isI_p3, isI_p4, lnC_p1, lnC_p2, lnC_p3, lnC_p4, isI_r, lnC_r, isI_k, lnC_134, lnC_136, lnC_137, lnC_138, lnC_139, lnC_140, lnC_141, lnC_142, mset_s, mset_nk, mset_nj, mrow_s, mrow_n, ifeq_s, nar_0, nar_1, isB_0, isB_1, bnd_e, jn_e, Option.bind_some, gd_true, gd_dec, Bool.true_and, Bool.and_true, Bool.and_self, tn_nI, inb_nI, ifle_t, ifle_f, iflt_t, iflt_f, ifeq_f, if_true, ofN_nI, nI_add, nI_subl, li_0, li_1, li_2, li_3, li_4, li_5, li_6, li_7, li_8, li_9, li_10, li_11, li_12, li_13, li_14, li_15, li_16, li_17, li_18, li_19, li_20, li_21, li_22, li_23, li_24, li_25, li_26, li_27, li_28, li_29, li_30, li_31, li_32, li_60, li_63, li_64, li_80, li_100, li_128, li_160, li_320, li_511, li_512, li_1600, li_1700, li_2000, li_2048, li_32000, li_2147483647]
        · simp (disch := omega) only [fX6_takeIn, e0, m4, h21, noBlock_t hb, itk, mset_s, mset_nk, mset_nj, mrow_s, mrow_n, ifeq_s, nar_0, nar_1, isB_0, isB_1, bnd_e, jn_e, Option.bind_some, gd_true, gd_dec, Bool.true_and, Bool.and_true, Bool.and_self, tn_nI, inb_nI, ifle_t, ifle_f, iflt_t, iflt_f, ifeq_f, if_true, ofN_nI, nI_add, nI_subl, li_0, li_1, li_2, li_3, li_4, li_5, li_6, li_7, li_8, li_9, li_10, li_11, li_12, li_13, li_14, li_15, li_16, li_17, li_18, li_19, li_20, li_21, li_22, li_23, li_24, li_25, li_26, li_27, li_28, li_29, li_30, li_31, li_32, li_60, li_63, li_64, li_80, li_100, li_128, li_160, li_320, li_511, li_512, li_1600, li_1700, li_2000, li_2048, li_32000, li_2147483647]
    · have n1 : ¬ oI (ow p) = nI s := fun e => os ((oI_eq o1 hs).mp e)
      refine no trivial trivial ?_ ?_
      · simp (disch := omega) only [fX4_useSpare, isPage_t hp, c3, c4, n1, if_false, isPg_p, isI_p1, isI_p2, isI_p3, isI_p4, lnC_p1, lnC_p2, lnC_p3, lnC_p4, isI_r, lnC_r, isI_k, lnC_134, lnC_136, lnC_137, lnC_138, lnC_139, lnC_140, lnC_141, lnC_142, mset_s, mset_nk, mset_nj, mrow_s, mrow_n, ifeq_s, nar_0, nar_1, isB_0, isB_1, bnd_e, jn_e, Option.bind_some, gd_true, gd_dec, Bool.true_and, Bool.and_true, Bool.and_self, tn_nI, inb_nI, ifle_t, ifle_f, iflt_t, iflt_f, ifeq_f, if_true, ofN_nI, nI_add, nI_subl, li_0, li_1, li_2, li_3, li_4, li_5, li_6, li_7, li_8, li_9, li_10, li_11, li_12, li_13, li_14, li_15, li_16, li_17, li_18, li_19, li_20, li_21, li_22, li_23, li_24, li_25, li_26, li_27, li_28, li_29, li_30, li_31, li_32, li_60, li_63, li_64, li_80, li_100, li_128, li_160, li_320, li_511, li_512, li_1600, li_1700, li_2000, li_2048, li_32000, li_2147483647]
      · simp (disch := omega) only [fX6_takeIn, e0, m4, h21, n1, if_false, mset_s, mset_nk, mset_nj, mrow_s, mrow_n, ifeq_s, nar_0, nar_1, isB_0, isB_1, bnd_e, jn_e, Option.bind_some, gd_true, gd_dec, Bool.true_and, Bool.and_true, Bool.and_self, tn_nI, inb_nI, ifle_t, ifle_f, iflt_t, iflt_f, ifeq_f, if_true, ofN_nI, nI_add, nI_subl, li_0, li_1, li_2, li_3, li_4, li_5, li_6, li_7, li_8, li_9, li_10, li_11, li_12, li_13, li_14, li_15, li_16, li_17, li_18, li_19, li_20, li_21, li_22, li_23, li_24, li_25, li_26, li_27, li_28, li_29, li_30, li_31, li_32, li_60, li_63, li_64, li_80, li_100, li_128, li_160, li_320, li_511, li_512, li_1600, li_1700, li_2000, li_2048, li_32000, li_2147483647]
  · rw [if_neg k5] at e0
    refine no trivial trivial ?_ ?_
    · simp (disch := omega) only [fX4_useSpare, isPage_t hp, c3, isPg_p, isI_p1, isI_p2, isI_p3, isI_p4, lnC_p1, lnC_p2, lnC_p3, lnC_p4, isI_r, lnC_r, isI_k, lnC_134, lnC_136, lnC_137, lnC_138, lnC_139, lnC_140, lnC_141, lnC_142, mset_s, mset_nk, mset_nj, mrow_s, mrow_n, ifeq_s, nar_0, nar_1, isB_0, isB_1, bnd_e, jn_e, Option.bind_some, gd_true, gd_dec, Bool.true_and, Bool.and_true, Bool.and_self, tn_nI, inb_nI, ifle_t, ifle_f, iflt_t, iflt_f, ifeq_f, if_true, ofN_nI, nI_add, nI_subl, li_0, li_1, li_2, li_3, li_4, li_5, li_6, li_7, li_8, li_9, li_10, li_11, li_12, li_13, li_14, li_15, li_16, li_17, li_18, li_19, li_20, li_21, li_22, li_23, li_24, li_25, li_26, li_27, li_28, li_29, li_30, li_31, li_32, li_60, li_63, li_64, li_80, li_100, li_128, li_160, li_320, li_511, li_512, li_1600, li_1700, li_2000, li_2048, li_32000, li_2147483647]
    · simp (disch := omega) only [fX6_takeIn, e0, mset_s, mset_nk, mset_nj, mrow_s, mrow_n, ifeq_s, nar_0, nar_1, isB_0, isB_1, bnd_e, jn_e, Option.bind_some, gd_true, gd_dec, Bool.true_and, Bool.and_true, Bool.and_self, tn_nI, inb_nI, ifle_t, ifle_f, iflt_t, iflt_f, ifeq_f, if_true, ofN_nI, nI_add, nI_subl, li_0, li_1, li_2, li_3, li_4, li_5, li_6, li_7, li_8, li_9, li_10, li_11, li_12, li_13, li_14, li_15, li_16, li_17, li_18, li_19, li_20, li_21, li_22, li_23, li_24, li_25, li_26, li_27, li_28, li_29, li_30, li_31, li_32, li_60, li_63, li_64, li_80, li_100, li_128, li_160, li_320, li_511, li_512, li_1600, li_1700, li_2000, li_2048, li_32000, li_2147483647]
theorem sim_give {C R : Mem} {th s : Nat} (hu : RU C R th s) (ht : th < 20) (hs : s < 20) (h21 : R 0 21 = nI s) (x : Int32) :
    ∃ v C' R', fX4_giveBack C (nI s) x = some (v, C') ∧ fX6_giveBack R x = some (v, R') ∧ RU C' R' th s ∧ C' 1 = C 1 ∧ C' (33 + 5 * th) = C (33 + 5 * th) ∧ C' (33 + 5 * th + 3) = C (33 + 5 * th + 3) ∧ R' 0 = R 0 ∧ R' 17 = R 17 := by
  have hu' := hu
  obtain ⟨kd, ow, st, md, et, lg, tb, en, rt, h, hI, kt, ot, ks, ss, te⟩ := hu'
  have no : fX4_giveBack C (nI s) x = some (-nI 1, C) → fX6_giveBack R x = some (-nI 1, R) → ∃ v C' R', fX4_giveBack C (nI s) x = some (v, C') ∧ fX6_giveBack R x = some (v, R') ∧ RU C' R' th s ∧ C' 1 = C 1 ∧ C' (33 + 5 * th) = C (33 + 5 * th) ∧ C' (33 + 5 * th + 3) = C (33 + 5 * th + 3) ∧ R' 0 = R 0 ∧ R' 17 = R 17 := fun e1 e2 => ⟨-nI 1, C, R, e1, e2, hu, rfl, rfl, rfl, rfl, rfl⟩
  rcases argc x (show 32 < 2 ^ 31 by omega) with hx | ⟨b, hb, rfl⟩
  · refine no ?_ ?_
    · simp (disch := omega) only [fX4_giveBack, eF_b hx, oq, mset_s, mset_nk, mset_nj, mrow_s, mrow_n, ifeq_s, nar_0, nar_1, isB_0, isB_1, bnd_e, jn_e, Option.bind_some, gd_true, gd_dec, Bool.true_and, Bool.and_true, Bool.and_self, tn_nI, inb_nI, ifle_t, ifle_f, iflt_t, iflt_f, ifeq_f, if_true, ofN_nI, nI_add, nI_subl, li_0, li_1, li_2, li_3, li_4, li_5, li_6, li_7, li_8, li_9, li_10, li_11, li_12, li_13, li_14, li_15, li_16, li_17, li_18, li_19, li_20, li_21, li_22, li_23, li_24, li_25, li_26, li_27, li_28, li_29, li_30, li_31, li_32, li_60, li_63, li_64, li_80, li_100, li_128, li_160, li_320, li_511, li_512, li_1600, li_1700, li_2000, li_2048, li_32000, li_2147483647]
    · simp (disch := omega) only [fX6_giveBack, noBlock_b hx, mset_s, mset_nk, mset_nj, mrow_s, mrow_n, ifeq_s, nar_0, nar_1, isB_0, isB_1, bnd_e, jn_e, Option.bind_some, gd_true, gd_dec, Bool.true_and, Bool.and_true, Bool.and_self, tn_nI, inb_nI, ifle_t, ifle_f, iflt_t, iflt_f, ifeq_f, if_true, ofN_nI, nI_add, nI_subl, li_0, li_1, li_2, li_3, li_4, li_5, li_6, li_7, li_8, li_9, li_10, li_11, li_12, li_13, li_14, li_15, li_16, li_17, li_18, li_19, li_20, li_21, li_22, li_23, li_24, li_25, li_26, li_27, li_28, li_29, li_30, li_31, li_32, li_60, li_63, li_64, li_80, li_100, li_128, li_160, li_320, li_511, li_512, li_1600, li_1700, li_2000, li_2048, li_32000, li_2147483647]
  have is := hI.1 s hs
  have n9 := (h.1.2 s hs).2.2.2.2.2.2.1 (b / 8) (by omega)
  have d9 := (h.2.2 s hs).2.2.2.1 (b / 8) (by omega)
  have it := is.2.2.2.2.2.2.2.2.1 (b / 8) (by omega)
  have to := tO_e (M := R) hs hb
  by_cases tz : tb s (b / 8) = 20
  · rw [tz] at n9 d9
    have ml := m1_lt0
    refine no ?_ ?_
    · simp (disch := omega) only [fX4_giveBack, eF_n hs hb d9, oq, mset_s, mset_nk, mset_nj, mrow_s, mrow_n, ifeq_s, nar_0, nar_1, isB_0, isB_1, bnd_e, jn_e, Option.bind_some, gd_true, gd_dec, Bool.true_and, Bool.and_true, Bool.and_self, tn_nI, inb_nI, ifle_t, ifle_f, iflt_t, iflt_f, ifeq_f, if_true, ofN_nI, nI_add, nI_subl, li_0, li_1, li_2, li_3, li_4, li_5, li_6, li_7, li_8, li_9, li_10, li_11, li_12, li_13, li_14, li_15, li_16, li_17, li_18, li_19, li_20, li_21, li_22, li_23, li_24, li_25, li_26, li_27, li_28, li_29, li_30, li_31, li_32, li_60, li_63, li_64, li_80, li_100, li_128, li_160, li_320, li_511, li_512, li_1600, li_1700, li_2000, li_2048, li_32000, li_2147483647]
    · rw [n9, oI_20n] at to
      simp (disch := omega) only [fX6_giveBack, noBlock_t hb, h21, to, ml, mset_s, mset_nk, mset_nj, mrow_s, mrow_n, ifeq_s, nar_0, nar_1, isB_0, isB_1, bnd_e, jn_e, Option.bind_some, gd_true, gd_dec, Bool.true_and, Bool.and_true, Bool.and_self, tn_nI, inb_nI, ifle_t, ifle_f, iflt_t, iflt_f, ifeq_f, if_true, ofN_nI, nI_add, nI_subl, li_0, li_1, li_2, li_3, li_4, li_5, li_6, li_7, li_8, li_9, li_10, li_11, li_12, li_13, li_14, li_15, li_16, li_17, li_18, li_19, li_20, li_21, li_22, li_23, li_24, li_25, li_26, li_27, li_28, li_29, li_30, li_31, li_32, li_60, li_63, li_64, li_80, li_100, li_128, li_160, li_320, li_511, li_512, li_1600, li_1700, li_2000, li_2048, li_32000, li_2147483647]
  obtain ⟨T, hT⟩ : ∃ T, T = tb s (b / 8) := ⟨_, rfl⟩
  obtain ⟨i, hi0⟩ : ∃ i, i = b % 8 := ⟨_, rfl⟩
  have hi : i < 8 := by omega
  rw [← hT] at d9 n9 tz it
  have tl : T < 20 := by omega
  have eo := eO_e (M := R) hs hb tl n9
  rw [n9, oI_t tl] at to
  have m7 := (h.1.2 T tl).2.2.2.2.2.2.2.1 i hi
  have c4' := (h.2.2 T tl).2.2.2.2.1 i hi
  have iT := hI.1 T tl
  have ie := iT.2.2.2.2.2.2.2.2.2.1 i hi
  have hlink := hI.2.1 s hs ks (by omega) (b / 8) (by omega) (by rw [← hT]; exact tl)
  rw [← hT] at hlink
  have eF := eF_t hs hb tl d9
  rw [← hi0] at eo
  have rm : nI b - nI b / nI 8 * nI 8 = nI i := by rw [pk_rem (by omega) (by omega) (by omega), hi0]
  by_cases e00 : en T i = 0
  · rw [e00, cE_0] at c4'
    rw [e00, (eI_0 (by omega)).mpr rfl] at m7
    refine no ?_ ?_
    · simp (disch := omega) only [fX4_giveBack, eF, oq, ↓rm, c4', isPg_p, isI_p1, isI_p2, isI_p3, isI_p4, lnC_p1, lnC_p2, lnC_p3, lnC_p4, isI_r, lnC_r, isI_k, lnC_134, lnC_136, lnC_137, lnC_138, lnC_139, lnC_140, lnC_141, lnC_142, mset_s, mset_nk, mset_nj, mrow_s, mrow_n, ifeq_s, nar_0, nar_1, isB_0, isB_1, bnd_e, jn_e, Option.bind_some, gd_true, gd_dec, Bool.true_and, Bool.and_true, Bool.and_self, tn_nI, inb_nI, ifle_t, ifle_f, iflt_t, iflt_f, ifeq_f, if_true, ofN_nI, nI_add, nI_subl, li_0, li_1, li_2, li_3, li_4, li_5, li_6, li_7, li_8, li_9, li_10, li_11, li_12, li_13, li_14, li_15, li_16, li_17, li_18, li_19, li_20, li_21, li_22, li_23, li_24, li_25, li_26, li_27, li_28, li_29, li_30, li_31, li_32, li_60, li_63, li_64, li_80, li_100, li_128, li_160, li_320, li_511, li_512, li_1600, li_1700, li_2000, li_2048, li_32000, li_2147483647]
    · simp (disch := omega) only [fX6_giveBack, noBlock_t hb, h21, to, eo, m7, mset_s, mset_nk, mset_nj, mrow_s, mrow_n, ifeq_s, nar_0, nar_1, isB_0, isB_1, bnd_e, jn_e, Option.bind_some, gd_true, gd_dec, Bool.true_and, Bool.and_true, Bool.and_self, tn_nI, inb_nI, ifle_t, ifle_f, iflt_t, iflt_f, ifeq_f, if_true, ofN_nI, nI_add, nI_subl, li_0, li_1, li_2, li_3, li_4, li_5, li_6, li_7, li_8, li_9, li_10, li_11, li_12, li_13, li_14, li_15, li_16, li_17, li_18, li_19, li_20, li_21, li_22, li_23, li_24, li_25, li_26, li_27, li_28, li_29, li_30, li_31, li_32, li_60, li_63, li_64, li_80, li_100, li_128, li_160, li_320, li_511, li_512, li_1600, li_1700, li_2000, li_2048, li_32000, li_2147483647]
  · have ir := iT.2.2.2.2.2.2.2.2.2.2 i hi e00
    rw [cE_n e00] at c4'
    have sh := ce_shr (a := en T i - 1) (r := rt T i) (by omega) (by omega)
    rcases Nat.lt_or_ge 20 (en T i) with g | g
    · obtain ⟨g1, g2, g3, g4⟩ := eI_neg g ie
      refine no ?_ ?_
      · simp (disch := omega) only [fX4_giveBack, eF, oq, ↓rm, c4', sh, isPg_p, isI_p1, isI_p2, isI_p3, isI_p4, lnC_p1, lnC_p2, lnC_p3, lnC_p4, isI_r, lnC_r, isI_k, lnC_134, lnC_136, lnC_137, lnC_138, lnC_139, lnC_140, lnC_141, lnC_142, mset_s, mset_nk, mset_nj, mrow_s, mrow_n, ifeq_s, nar_0, nar_1, isB_0, isB_1, bnd_e, jn_e, Option.bind_some, gd_true, gd_dec, Bool.true_and, Bool.and_true, Bool.and_self, tn_nI, inb_nI, ifle_t, ifle_f, iflt_t, iflt_f, ifeq_f, if_true, ofN_nI, nI_add, nI_subl, li_0, li_1, li_2, li_3, li_4, li_5, li_6, li_7, li_8, li_9, li_10, li_11, li_12, li_13, li_14, li_15, li_16, li_17, li_18, li_19, li_20, li_21, li_22, li_23, li_24, li_25, li_26, li_27, li_28, li_29, li_30, li_31, li_32, li_60, li_63, li_64, li_80, li_100, li_128, li_160, li_320, li_511, li_512, li_1600, li_1700, li_2000, li_2048, li_32000, li_2147483647]
      · simp (disch := omega) only [fX6_giveBack, noBlock_t hb, h21, to, eo, m7, g4, if_false, mset_s, mset_nk, mset_nj, mrow_s, mrow_n, ifeq_s, nar_0, nar_1, isB_0, isB_1, bnd_e, jn_e, Option.bind_some, gd_true, gd_dec, Bool.true_and, Bool.and_true, Bool.and_self, tn_nI, inb_nI, ifle_t, ifle_f, iflt_t, iflt_f, ifeq_f, if_true, ofN_nI, nI_add, nI_subl, li_0, li_1, li_2, li_3, li_4, li_5, li_6, li_7, li_8, li_9, li_10, li_11, li_12, li_13, li_14, li_15, li_16, li_17, li_18, li_19, li_20, li_21, li_22, li_23, li_24, li_25, li_26, li_27, li_28, li_29, li_30, li_31, li_32, li_60, li_63, li_64, li_80, li_100, li_128, li_160, li_320, li_511, li_512, li_1600, li_1700, li_2000, li_2048, li_32000, li_2147483647]
    · obtain ⟨p, hp0⟩ : ∃ p, p = en T i - 1 := ⟨_, rfl⟩
      have hp : p < 20 := by omega
      rw [eI_p g, show en T i = p + 1 by omega] at m7
      have lv := hI.2.2.1 T tl hlink.1 (by rw [hlink.2]; omega) i hi (by omega) g
      rw [← hp0] at lv sh c4'
      have nh : th ≠ p := fun e => by rw [e] at kt; omega
      have ns : s ≠ p := fun e => by rw [e] at ks; omega
      have nT : T ≠ p := fun e => by rw [e] at hlink; omega
      have ops : ow p = s := by rw [lv.2, hlink.2]
      have c1 := (h.2.2 p hp).2.1
      have r1 := (h.1.2 p hp).2.1
      rw [ops] at c1 r1
      have q1 := RW_en h (IV85 hI) (T := T) (i := i) (e := 0) (rt' := rt) (R' := mset R 7 (8 * T + i) (nI 0)) tl hi (by rw [mset_s]; rfl) (fun e => absurd rfl e) (fun a b h1 _ => by rw [mset_nk _ _ _ h1]) (fun b hb => ⟨mset_nj _ _ _ hb, by rw [mset_nk _ _ _ (by omega)]⟩) (fun _ _ _ => rfl)
      have i1 := IV_unmap hI (T := T) (i := i) (by rw [hlink.2]; omega)
      rw [cE_0] at q1
      have q2 := RW_cl q1 (IV85 i1) (k := 5) (o := s) hp (by omega)
      rw [mset_id (mset (mset C (33 + 5 * T + 4) i (nI 0)) (33 + 5 * p) 0 (nI 5)) (33 + 5 * p) 1 (by rw [mset_nj _ _ _ (by omega), mset_nk _ _ _ (by omega)]; exact c1), mset_id (mset (mset R 7 (8 * T + i) (nI 0)) 3 p (nI 5)) 4 p (by rw [mset_nk _ _ _ (by omega), mset_nk _ _ _ (by omega)]; exact r1), mset_comm C (k := 33 + 5 * T + 4) (k' := 33 + 5 * p) _ _ _ _ (by omega)] at q2
      have i2 := IV_kd i1 (p := p) (b := 5) (s := s) hs (by omega) (by omega) ks (fun _ t ht k3 k2 j hj e => by
        by_cases c : t = T ∧ j = i
        · rw [c.1, c.2, up2_s] at e; omega
        · rw [up2_n _ _ c] at e
          have u := hI.2.2.2.1 t T ht tl k3 hlink.1 k2 (by rw [hlink.2]; omega) j i hj hi (by omega) (by omega) (by omega)
          exact c u)
      refine ⟨nI p, _, _, ?_, ?_, ⟨_, _, _, _, _, _, _, _, _, q2, i2, by rw [up_n _ _ nh]; exact kt, by rw [up_n _ _ nh]; exact ot, by rw [up_n _ _ ns]; exact ks, ss, te⟩, ?_, ?_, ?_, ?_, ?_⟩
      · simp (disch := omega) only [fX4_giveBack, eF, oq, ↓rm, c4', sh, isPg_p, isI_p1, isI_p2, isI_p3, isI_p4, lnC_p1, lnC_p2, lnC_p3, lnC_p4, isI_r, lnC_r, isI_k, lnC_134, lnC_136, lnC_137, lnC_138, lnC_139, lnC_140, lnC_141, lnC_142, mset_s, mset_nk, mset_nj, mrow_s, mrow_n, ifeq_s, nar_0, nar_1, isB_0, isB_1, bnd_e, jn_e, Option.bind_some, gd_true, gd_dec, Bool.true_and, Bool.and_true, Bool.and_self, tn_nI, inb_nI, ifle_t, ifle_f, iflt_t, iflt_f, ifeq_f, if_true, ofN_nI, nI_add, nI_subl, li_0, li_1, li_2, li_3, li_4, li_5, li_6, li_7, li_8, li_9, li_10, li_11, li_12, li_13, li_14, li_15, li_16, li_17, li_18, li_19, li_20, li_21, li_22, li_23, li_24, li_25, li_26, li_27, li_28, li_29, li_30, li_31, li_32, li_60, li_63, li_64, li_80, li_100, li_128, li_160, li_320, li_511, li_512, li_1600, li_1700, li_2000, li_2048, li_32000, li_2147483647]
      · simp (disch := omega) only [fX6_giveBack, noBlock_t hb, h21, to, eo, m7, Nat.add_sub_cancel, mset_s, mset_nk, mset_nj, mrow_s, mrow_n, ifeq_s, nar_0, nar_1, isB_0, isB_1, bnd_e, jn_e, Option.bind_some, gd_true, gd_dec, Bool.true_and, Bool.and_true, Bool.and_self, tn_nI, inb_nI, ifle_t, ifle_f, iflt_t, iflt_f, ifeq_f, if_true, ofN_nI, nI_add, nI_subl, li_0, li_1, li_2, li_3, li_4, li_5, li_6, li_7, li_8, li_9, li_10, li_11, li_12, li_13, li_14, li_15, li_16, li_17, li_18, li_19, li_20, li_21, li_22, li_23, li_24, li_25, li_26, li_27, li_28, li_29, li_30, li_31, li_32, li_60, li_63, li_64, li_80, li_100, li_128, li_160, li_320, li_511, li_512, li_1600, li_1700, li_2000, li_2048, li_32000, li_2147483647]
      · rw [mset_nk _ _ _ (by omega), mset_nk _ _ _ (by omega)]
      · rw [mset_nk _ _ _ (by omega), mset_nk _ _ _ (by omega)]
      · rw [mset_nk _ _ _ (by omega), mset_nk _ _ _ (by omega)]
      · rw [mset_nk _ _ _ (by omega), mset_nk _ _ _ (by omega)]
      · rw [mset_nk _ _ _ (by omega), mset_nk _ _ _ (by omega)]
