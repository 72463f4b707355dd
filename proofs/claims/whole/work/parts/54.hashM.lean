/-! Vouchers of the class; the reference's hash, voucher, tell. -/
theorem cpyok {a b : Nat} : decide (a ≤ b) = true ↔ a ≤ b := decide_eq_true_iff
def vmsg (key mea sai : Nat → Int32) : Nat → Int32 := fun j => if j < 8 then key j else if j < 16 then mea (j - 8) else if j < 24 then sai (j - 16) else 0
theorem begin_e {M : Mem} {k : Nat} (hk : isI k = true) (hl : lnC k = 8) : fX0_begin M k = some (mrow M k (va_cpy tbSTART (M k) 0 0 8)) := by
  unfold fX0_begin
  rw [gd_t (by rw [hk, hl]; decide)]
  rfl
theorem cpy8 {f g : Nat → Int32} {j : Nat} (h : j < 8) : va_cpy f g 0 0 8 j = f j := by
  rw [pk_cpy_in (by omega) (by omega)]
  congr 1
  omega
theorem voucherC_e {C : Mem} {p0 : Nat} (h0 : isI p0 = true) (hl : lnC p0 = 8) (n1 : p0 ≠ 136) (n2 : p0 ≠ 137) (n3 : p0 ≠ 138) (n4 : p0 ≠ 142) (hp : padOk C) : ∃ C', fX2_writeVoucher C p0 139 142 = some C' ∧ (∀ j, j < 8 → C' 142 j = hsh (vmsg (C 134) (C p0) (C 139)) 2 j) ∧ padOk C' ∧ ∀ a, a ≠ 136 → a ≠ 137 → a ≠ 138 → a ≠ 142 → C' a = C a := by
  obtain ⟨c1, e1⟩ : ∃ c1, c1 = mrow (mrow (mrow C 142 (va_cpy tbSTART (C 142) 0 0 8)) 138 (va_cpy (C 134) (C 138) 0 0 8)) 138 (va_cpy (C p0) (va_cpy (C 134) (C 138) 0 0 8) 0 8 8) := ⟨_, rfl⟩
  have a1 : ∀ a, a ≠ 138 → a ≠ 142 → c1 a = C a := fun a h h' => by rw [e1, mrow_n _ _ h, mrow_n _ _ h, mrow_n _ _ h']
  have b1 : ∀ j, j < 16 → c1 138 j = vmsg (C 134) (C p0) (C 139) j := fun j hj => by
    rw [e1, mrow_s]
    unfold vmsg
    by_cases h : j < 8
    · rw [pk_cpy_out (by omega), cpy8 h, if_pos h]
    · rw [pk_cpy_in (by omega) (by omega), if_neg h, if_pos hj, Nat.zero_add]
  have d1 : ∀ j, j < 8 → c1 142 j = tbSTART j := fun j hj => by rw [e1, mrow_n _ _ (by omega), mrow_n _ _ (by omega), mrow_s, cpy8 hj]
  obtain ⟨c2, t2, g2, -, k2⟩ := take_e (M := c1) (d := 142) (w := 138) (isI_k (by omega)) (by rw [lnC_142]; omega) (isI_k (by omega)) (by rw [lnC_138]; omega) (by omega) (by omega)
  obtain ⟨c3, e3⟩ : ∃ c3, c3 = mrow (mrow c2 138 (fun j => if j < 16 then 0 else c2 138 j)) 138 (va_cpy (c2 139) (fun j => if j < 16 then 0 else c2 138 j) 0 0 8) := ⟨_, rfl⟩
  have a3 : ∀ a, a ≠ 138 → c3 a = c2 a := fun a h => by rw [e3, mrow_n _ _ h, mrow_n _ _ h]
  have b3 : ∀ j, j < 16 → c3 138 j = vmsg (C 134) (C p0) (C 139) (16 + j) := fun j hj => by
    rw [e3, mrow_s]
    unfold vmsg
    rw [if_neg (by omega), if_neg (by omega)]
    by_cases h : j < 8
    · rw [cpy8 h, if_pos (by omega), k2 139 (by omega) (by omega), a1 139 (by omega) (by omega)]
      congr 1
      omega
    · rw [pk_cpy_out (by omega), if_pos hj, if_neg (by omega)]
  obtain ⟨c4, t4, g4, -, k4⟩ := take_e (M := c3) (d := 142) (w := 138) (isI_k (by omega)) (by rw [lnC_142]; omega) (isI_k (by omega)) (by rw [lnC_138]; omega) (by omega) (by omega)
  have hp4 : padOk c4 := fun j h1 h2 => by rw [k4 137 (by omega) (by omega), a3 137 (by omega), k2 137 (by omega) (by omega), a1 137 (by omega) (by omega)]; exact hp j h1 h2
  obtain ⟨c5, t5, g5, p5, k5⟩ := end_e (C := c4) 2 hp4
  obtain ⟨c6, t6, g6, -, k6⟩ := take_e (M := c5) (d := 142) (w := 137) (isI_k (by omega)) (by rw [lnC_142]; omega) (isI_k (by omega)) (by rw [lnC_137]; omega) (by omega) (by omega)
  have hf : fX2_writeVoucher C p0 139 142 = some c6 := by
    unfold fX2_writeVoucher
    rw [begin_e (isI_k (by omega)) lnC_142, Option.bind_some, gd_t (by decide), bnd_e, gd_t (by rw [h0, hl]; decide), bnd_e]
    have x1 : mrow (mrow (mrow C 142 (va_cpy tbSTART (C 142) 0 0 8)) 138 (va_cpy (mrow C 142 (va_cpy tbSTART (C 142) 0 0 8) 134) (mrow C 142 (va_cpy tbSTART (C 142) 0 0 8) 138) 0 0 8)) 138 (va_cpy (mrow (mrow C 142 (va_cpy tbSTART (C 142) 0 0 8)) 138 (va_cpy (mrow C 142 (va_cpy tbSTART (C 142) 0 0 8) 134) (mrow C 142 (va_cpy tbSTART (C 142) 0 0 8) 138) 0 0 8) p0) (mrow (mrow C 142 (va_cpy tbSTART (C 142) 0 0 8)) 138 (va_cpy (mrow C 142 (va_cpy tbSTART (C 142) 0 0 8) 134) (mrow C 142 (va_cpy tbSTART (C 142) 0 0 8) 138) 0 0 8) 138) 0 8 8) = c1 := by
      rw [e1, mrow_s, mrow_n _ _ n3, mrow_n _ _ n4, mrow_n C _ (show (134 : Nat) ≠ 142 by omega), mrow_n C _ (show (138 : Nat) ≠ 142 by omega)]
    rw [x1, t2, Option.bind_some, fill_l (n := 16) (isI_k (by omega)) lnC_138, Option.bind_some, gd_t (by decide), bnd_e]
    have x3 : mrow (mrow c2 138 (fun j => if j < 16 then 0 else c2 138 j)) 138 (va_cpy (mrow c2 138 (fun j => if j < 16 then 0 else c2 138 j) 139) (mrow c2 138 (fun j => if j < 16 then 0 else c2 138 j) 138) 0 0 8) = c3 := by
      rw [e3, mrow_s, mrow_n c2 _ (show (139 : Nat) ≠ 138 by omega)]
    rw [x3, t4, Option.bind_some, li_2, t5, Option.bind_some, t6, Option.bind_some]
  refine ⟨c6, hf, ?_, ?_, ?_⟩
  · intro j hj
    rw [g6 j hj]
    unfold hsh
    refine cmp_congr (fun i hi => ?_) g5 j hj
    rw [k5 142 (by omega), g4 i hi]
    show _ = cmp (chn _ 1) _ i
    refine cmp_congr (fun i hi => ?_) (fun i hi => ?_) i hi
    · rw [a3 142 (by omega), g2 i hi]
      show _ = cmp (chn _ 0) _ i
      refine cmp_congr d1 (fun i hi => ?_) i hi
      rw [b1 i hi, Nat.mul_zero, Nat.zero_add]
    · rw [b3 i hi]
  · intro j h1 h2
    rw [k6 137 (by omega) (by omega)]
    exact p5 j h1 h2
  · intro a h1 h2 h3 h4
    rw [k6 a h4 h1, k5 a h2, k4 a h4 h1, a3 a h3, k2 a h4 h1, a1 a h3 h4]
-- the reference
def kOk (R : Mem) : Prop := (∀ t, t < 64 → R 18 t = tbADDED t) ∧ ∀ j, j < 8 → R 19 j = tbSTART j
theorem hash2_e {M : Mem} (F : Int32 → Mem → Option Mem) : lp_X6_hash_2 F FU (nI 0) M = F (nI 8) (mrow M 22 (fun j => if j < 8 then M 19 j else M 22 j)) := by
  have key := loop_up (fun n x (v : Nat → Int32) => lp_X6_hash_2 F n x (mrow M 22 v)) (fun i v => upd v i (M 19 i)) (fun x v => F x (mrow M 22 v)) 8
    (fun n i v hi => by
      simp (disch := omega) only [lp_X6_hash_2_s, mset_mset, bnd_e, jn_e, Option.bind_some, gd_true, gd_dec, Bool.true_and, Bool.and_true, Bool.and_self, tn_nI, inb_nI, ifle_t, ifle_f, iflt_t, iflt_f, ifeq_f, if_true, ofN_nI, nI_add, nI_subl, li_0, li_1, li_2, li_3, li_4, li_5, li_6, li_7, li_8, li_9, li_10, li_11, li_12, li_13, li_14, li_15, li_16, li_17, li_18, li_19, li_20, li_21, li_22, li_23, li_24, li_25, li_26, li_27, li_28, li_29, li_30, li_31, li_32, li_60, li_63, li_64, li_80, li_100, li_128, li_160, li_320, li_511, li_512, li_1600, li_1700, li_2000, li_2048, li_32000, li_2147483647]
      rw [mrow_n _ _ (by omega)])
    (fun n v => by simp (disch := omega) only [lp_X6_hash_2_s, bnd_e, jn_e, Option.bind_some, gd_true, gd_dec, Bool.true_and, Bool.and_true, Bool.and_self, tn_nI, inb_nI, ifle_t, ifle_f, iflt_t, iflt_f, ifeq_f, if_true, ofN_nI, nI_add, nI_subl, li_0, li_1, li_2, li_3, li_4, li_5, li_6, li_7, li_8, li_9, li_10, li_11, li_12, li_13, li_14, li_15, li_16, li_17, li_18, li_19, li_20, li_21, li_22, li_23, li_24, li_25, li_26, li_27, li_28, li_29, li_30, li_31, li_32, li_60, li_63, li_64, li_80, li_100, li_128, li_160, li_320, li_511, li_512, li_1600, li_1700, li_2000, li_2048, li_32000, li_2147483647])
    8 0 FU (M 22) (by omega) (by have := FU_le; omega)
  have h0 : lp_X6_hash_2 F FU (nI 0) M = lp_X6_hash_2 F FU (nI 0) (mrow M 22 (M 22)) := by rw [mrow_id]
  rw [h0]
  refine key.trans (congrArg (fun v => F (nI 8) (mrow M 22 v)) ?_)
  funext j
  simp only [itr, upd]
  rcases Nat.lt_or_ge j 8 with hb | hb
  · rcases (show j = 0 ∨ j = 1 ∨ j = 2 ∨ j = 3 ∨ j = 4 ∨ j = 5 ∨ j = 6 ∨ j = 7 by omega) with rfl | rfl | rfl | rfl | rfl | rfl | rfl | rfl <;> simp
  · have e8 : ¬ j < 8 := by omega
    simp [e8, show j ≠ 0 by omega, show j ≠ 1 by omega, show j ≠ 2 by omega, show j ≠ 3 by omega, show j ≠ 4 by omega, show j ≠ 5 by omega, show j ≠ 6 by omega, show j ≠ 7 by omega]
theorem hash38_e {M : Mem} {n : Nat} (hn : n + 16 ≤ 1700) (F : Int32 → Mem → Option Mem) : lp_X6_hash_38 (nI n) F FU (nI (n + 1)) M = F (nI (n + 16)) (mrow M 20 (fun j => if n + 1 ≤ j ∧ j < n + 16 then 0 else M 20 j)) := by
  have key := loop_ge (fun q x (v : Nat → Int32) => lp_X6_hash_38 (nI n) F q x (mrow M 20 v)) (fun i v => upd v i 0) (fun x v => F x (mrow M 20 v)) (n + 1) (n + 16)
    (fun q i v h1 hi => by
      simp (disch := omega) only [lp_X6_hash_38_s, mset_mset, bnd_e, jn_e, Option.bind_some, gd_true, gd_dec, Bool.true_and, Bool.and_true, Bool.and_self, tn_nI, inb_nI, ifle_t, ifle_f, iflt_t, iflt_f, ifeq_f, if_true, ofN_nI, nI_add, nI_subl, li_0, li_1, li_2, li_3, li_4, li_5, li_6, li_7, li_8, li_9, li_10, li_11, li_12, li_13, li_14, li_15, li_16, li_17, li_18, li_19, li_20, li_21, li_22, li_23, li_24, li_25, li_26, li_27, li_28, li_29, li_30, li_31, li_32, li_60, li_63, li_64, li_80, li_100, li_128, li_160, li_320, li_511, li_512, li_1600, li_1700, li_2000, li_2048, li_32000, li_2147483647])
    (fun q v => by simp (disch := omega) only [lp_X6_hash_38_s, bnd_e, jn_e, Option.bind_some, gd_true, gd_dec, Bool.true_and, Bool.and_true, Bool.and_self, tn_nI, inb_nI, ifle_t, ifle_f, iflt_t, iflt_f, ifeq_f, if_true, ofN_nI, nI_add, nI_subl, li_0, li_1, li_2, li_3, li_4, li_5, li_6, li_7, li_8, li_9, li_10, li_11, li_12, li_13, li_14, li_15, li_16, li_17, li_18, li_19, li_20, li_21, li_22, li_23, li_24, li_25, li_26, li_27, li_28, li_29, li_30, li_31, li_32, li_60, li_63, li_64, li_80, li_100, li_128, li_160, li_320, li_511, li_512, li_1600, li_1700, li_2000, li_2048, li_32000, li_2147483647])
    15 (n + 1) FU (M 20) (by omega) (by omega) (by have := FU_le; omega)
  have h0 : lp_X6_hash_38 (nI n) F FU (nI (n + 1)) M = lp_X6_hash_38 (nI n) F FU (nI (n + 1)) (mrow M 20 (M 20)) := by rw [mrow_id]
  rw [h0]
  refine key.trans (congrArg (fun v => F (nI (n + 16)) (mrow M 20 v)) ?_)
  have a1 : ∀ k (v : Nat → Int32), itr (fun i v => upd v i 0) k (n + 1) v = (fun j => if n + 1 ≤ j ∧ j < n + 1 + k then 0 else v j) := by
    intro k
    induction k with
    | zero => intro v; funext j; simp [itr, show ¬ (n + 1 ≤ j ∧ j < n + 1) by omega]
    | succ k ih =>
      intro v
      rw [itr_s, ih]
      funext j
      unfold upd
      by_cases h : j = n + 1 + k
      · subst h; simp
      · have h5 : (n + 1 ≤ j ∧ j < n + 1 + (k + 1)) ↔ (n + 1 ≤ j ∧ j < n + 1 + k) := by omega
        simp [h, h5]
  rw [a1 15 (M 20)]
theorem hash74_e {m : Nat} (hm : 16 * m + 16 ≤ 1700) (F : Int32 → Mem → Option Mem) : ∀ (k i n : Nat) (M : Mem), i + k = m + 1 → k < n → kOk M → (∀ j, j < 8 → M 22 j = chn (M 20) i j) →
    ∃ M', lp_X6_hash_74 (nI (16 * m)) F n (nI (16 * i)) M = F (nI (16 * (m + 1))) M' ∧ (∀ j, j < 8 → M' 22 j = chn (M 20) (m + 1) j) ∧ ∀ a, a ≠ 21 → a ≠ 22 → a ≠ 23 → M' a = M a
  | 0, i, n, M, e, hn, hk, hc => by
    obtain ⟨n, rfl⟩ : ∃ q, n = q + 1 := ⟨n - 1, by omega⟩
    have e2 : i = m + 1 := by omega
    subst e2
    refine ⟨M, ?_, hc, fun _ _ _ _ => rfl⟩
    rw [lp_X6_hash_74_s, iflt_t (by omega) (by omega)]
  | k + 1, i, n, M, e, hn, hk, hc => by
    obtain ⟨n, rfl⟩ : ∃ q, n = q + 1 := ⟨n - 1, by omega⟩
    obtain ⟨q, b1, b2, b3⟩ := block_e (M := M) (fr := 16 * i) (by omega) hk.1
    have hk2 : kOk q := ⟨fun t ht => by rw [b3 18 (by omega) (by omega) (by omega)]; exact hk.1 t ht, fun j hj => by rw [b3 19 (by omega) (by omega) (by omega)]; exact hk.2 j hj⟩
    have q20 : q 20 = M 20 := b3 20 (by omega) (by omega) (by omega)
    have hc2 : ∀ j, j < 8 → q 22 j = chn (q 20) (i + 1) j := fun j hj => by
      rw [b2 j hj, q20]
      show _ = cmp (chn (M 20) i) (fun k => M 20 (16 * i + k)) j
      exact cmp_congr hc (fun _ _ => rfl) j hj
    obtain ⟨M', f1, f2, f3⟩ := hash74_e hm F k (i + 1) n q (by omega) (by omega) hk2 hc2
    refine ⟨M', ?_, fun j hj => by rw [f2 j hj, q20], fun a h1 h2 h3 => by rw [f3 a h1 h2 h3, b3 a h1 h2 h3]⟩
    rw [lp_X6_hash_74_s, iflt_f (by omega) (by omega), b1, Option.bind_some, li_16, nI_add, ← f1]
    rfl
theorem hash_e {M : Mem} {m : Nat} (hm : 16 * m + 16 ≤ 1700) (hk : kOk M) : ∃ M', fX6_hash M (nI (16 * m)) = some M' ∧ (∀ j, j < 8 → M' 22 j = hsh (M 20) m j) ∧ ∀ a, a ≠ 20 → a ≠ 21 → a ≠ 22 → a ≠ 23 → M' a = M a := by
  obtain ⟨c1, e1⟩ : ∃ c1, c1 = mrow M 22 (fun j => if j < 8 then M 19 j else M 22 j) := ⟨_, rfl⟩
  obtain ⟨c2, e2⟩ : ∃ c2, c2 = mset (mrow (mset c1 20 (16 * m) (-2147483648 : Int32)) 20 (fun j => if 16 * m + 1 ≤ j ∧ j < 16 * m + 16 then 0 else mset c1 20 (16 * m) (-2147483648 : Int32) 20 j)) 20 (16 * m + 15) (nI (32 * (16 * m))) := ⟨_, rfl⟩
  have n2 : ∀ a, a ≠ 20 → c2 a = c1 a := fun a h => by rw [e2, mset_nk _ _ _ h, mrow_n _ _ h, mset_nk _ _ _ h]
  have n1 : ∀ a, a ≠ 22 → c1 a = M a := fun a h => by rw [e1, mrow_n _ _ h]
  have lo : ∀ j, j < 16 * m → c2 20 j = M 20 j := fun j hj => by
    rw [e2, mset_nj _ _ _ (by omega), mrow_s, if_neg (by omega), mset_nj _ _ _ (by omega), n1 20 (by omega)]
  have hi : ∀ j, j < 16 → c2 20 (16 * m + j) = padf m j := fun j hj => by
    rw [e2]
    unfold padf
    by_cases h15 : j = 15
    · subst h15
      rw [mset_s, if_neg (by omega), if_pos rfl]
      congr 1
      omega
    · rw [mset_nj _ _ _ (by omega), mrow_s]
      by_cases h0 : j = 0
      · subst h0
        rw [if_neg (by omega), Nat.add_zero, mset_s, if_pos rfl]
      · rw [if_pos (by omega), if_neg h0, if_neg h15]
  have hk2 : kOk c2 := ⟨fun t ht => by rw [n2 18 (by omega), n1 18 (by omega)]; exact hk.1 t ht, fun j hj => by rw [n2 19 (by omega), n1 19 (by omega)]; exact hk.2 j hj⟩
  have h22 : ∀ j, j < 8 → c2 22 j = chn (c2 20) 0 j := fun j hj => by
    rw [n2 22 (by omega), e1, mrow_s, if_pos hj, hk.2 j hj]
    rfl
  obtain ⟨M', f1, f2, f3⟩ := hash74_e hm (fun _ M18 => some M18) (m + 1) 0 FU c2 (by omega) (by have := FU_le; omega) hk2 h22
  refine ⟨M', ?_, ?_, ?_⟩
  · unfold fX6_hash
    simp only [jn_e, li_0]
    rw [hash2_e, ← e1]
    simp (disch := omega) only [bnd_e, jn_e, Option.bind_some, gd_true, gd_dec, Bool.true_and, Bool.and_true, Bool.and_self, tn_nI, inb_nI, ifle_t, ifle_f, iflt_t, iflt_f, ifeq_f, if_true, ofN_nI, nI_add, nI_subl, li_0, li_1, li_2, li_3, li_4, li_5, li_6, li_7, li_8, li_9, li_10, li_11, li_12, li_13, li_14, li_15, li_16, li_17, li_18, li_19, li_20, li_21, li_22, li_23, li_24, li_25, li_26, li_27, li_28, li_29, li_30, li_31, li_32, li_60, li_63, li_64, li_80, li_100, li_128, li_160, li_320, li_511, li_512, li_1600, li_1700, li_2000, li_2048, li_32000, li_2147483647]
    rw [hash38_e (by omega)]
    simp (disch := omega) only [pk_mul, bnd_e, jn_e, Option.bind_some, gd_true, gd_dec, Bool.true_and, Bool.and_true, Bool.and_self, tn_nI, inb_nI, ifle_t, ifle_f, iflt_t, iflt_f, ifeq_f, if_true, ofN_nI, nI_add, nI_subl, li_0, li_1, li_2, li_3, li_4, li_5, li_6, li_7, li_8, li_9, li_10, li_11, li_12, li_13, li_14, li_15, li_16, li_17, li_18, li_19, li_20, li_21, li_22, li_23, li_24, li_25, li_26, li_27, li_28, li_29, li_30, li_31, li_32, li_60, li_63, li_64, li_80, li_100, li_128, li_160, li_320, li_511, li_512, li_1600, li_1700, li_2000, li_2048, li_32000, li_2147483647]
    rw [e2] at f1
    exact f1
  · intro j hj
    rw [f2 j hj]
    show cmp (chn (c2 20) m) (fun k => c2 20 (16 * m + k)) j = cmp (chn (M 20) m) (padf m) j
    exact cmp_congr (chn_congr m lo) hi j hj
  · intro a h0 h1 h2 h3
    rw [f3 a h1 h2 h3, n2 a h0, n1 a h2]
