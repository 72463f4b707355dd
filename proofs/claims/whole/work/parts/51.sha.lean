/-! SHA-256's block step, as both write it. -/
def sg0 (x : Int32) : Int32 := (((usr x (7 : Int32)) ||| (x <<< ((25 : Int32) &&& 31))) ^^^ ((usr x (18 : Int32)) ||| (x <<< ((14 : Int32) &&& 31)))) ^^^ (usr x (3 : Int32))
def sg1 (x : Int32) : Int32 := (((usr x (17 : Int32)) ||| (x <<< ((15 : Int32) &&& 31))) ^^^ ((usr x (19 : Int32)) ||| (x <<< ((13 : Int32) &&& 31)))) ^^^ (usr x (10 : Int32))
def bs1 (x : Int32) : Int32 := (((usr x (6 : Int32)) ||| (x <<< ((26 : Int32) &&& 31))) ^^^ ((usr x (11 : Int32)) ||| (x <<< ((21 : Int32) &&& 31)))) ^^^ ((usr x (25 : Int32)) ||| (x <<< ((7 : Int32) &&& 31)))
def bs0 (x : Int32) : Int32 := (((usr x (2 : Int32)) ||| (x <<< ((30 : Int32) &&& 31))) ^^^ ((usr x (13 : Int32)) ||| (x <<< ((19 : Int32) &&& 31)))) ^^^ ((usr x (22 : Int32)) ||| (x <<< ((10 : Int32) &&& 31)))
def wst (t : Nat) (f : Nat → Int32) : Nat → Int32 := upd f t (((f (t - 16) + sg0 (f (t - 15))) + f (t - 7)) + sg1 (f (t - 2)))
def wexp (f : Nat → Int32) : Nat → Int32 := itr wst 48 16 f
def one1 (K w : Nat → Int32) (t : Nat) (v : Nat → Int32) : Int32 := (((v 7 + bs1 (v 4)) + ((v 4 &&& v 5) ^^^ ((v 4 ^^^ (-1 : Int32)) &&& v 6))) + K t) + w t
def two1 (v : Nat → Int32) : Int32 := bs0 (v 0) + (((v 0 &&& v 1) ^^^ (v 0 &&& v 2)) ^^^ (v 1 &&& v 2))
def rst (K w : Nat → Int32) (t : Nat) (v : Nat → Int32) : Nat → Int32 := fun j => if j = 0 then one1 K w t v + two1 v else if j = 4 then v 3 + one1 K w t v else if j < 8 then v (j - 1) else v j
def cmp (d w : Nat → Int32) : Nat → Int32 := fun j => d j + itr (rst tbADDED (wexp w)) 64 0 d j
theorem upd_s (f : Nat → Int32) (k : Nat) (x : Int32) : upd f k x k = x := if_pos rfl
theorem upd_n (f : Nat → Int32) {k j : Nat} (x : Int32) (h : j ≠ k) : upd f k x j = f j := if_neg h
theorem wst_s (t : Nat) (f : Nat → Int32) : wst t f t = ((f (t - 16) + sg0 (f (t - 15))) + f (t - 7)) + sg1 (f (t - 2)) := upd_s _ _ _
theorem wst_n {t j : Nat} (f : Nat → Int32) (h : j ≠ t) : wst t f j = f j := upd_n _ _ h
theorem rst_0 (K w : Nat → Int32) (t : Nat) (v : Nat → Int32) : rst K w t v 0 = one1 K w t v + two1 v := rfl
theorem rst_4 (K w : Nat → Int32) (t : Nat) (v : Nat → Int32) : rst K w t v 4 = v 3 + one1 K w t v := rfl
theorem rst_j (K w : Nat → Int32) (t : Nat) (v : Nat → Int32) {j : Nat} (h0 : j ≠ 0) (h4 : j ≠ 4) (h8 : j < 8) : rst K w t v j = v (j - 1) := by
  unfold rst
  rw [if_neg h0, if_neg h4, if_pos h8]
theorem rst_b (K w : Nat → Int32) (t : Nat) (v : Nat → Int32) {j : Nat} (h8 : ¬ j < 8) : rst K w t v j = v j := by
  unfold rst
  rw [if_neg (by omega), if_neg (by omega), if_neg h8]
theorem wexp_congr {f g : Nat → Int32} (h : ∀ j, j < 16 → f j = g j) : ∀ j, j < 64 → wexp f j = wexp g j := by
  have key : ∀ k, k ≤ 48 → ∀ j, j < 16 + k → itr wst k 16 f j = itr wst k 16 g j := by
    intro k
    induction k with
    | zero => intro _ j hj; exact h j (by omega)
    | succ k ih =>
      intro hk j hj
      rw [itr_s, itr_s]
      by_cases e : j = 16 + k
      · subst e
        rw [wst_s, wst_s, ih (by omega) _ (by omega), ih (by omega) _ (by omega), ih (by omega) _ (by omega), ih (by omega) _ (by omega)]
      · rw [wst_n _ e, wst_n _ e]
        exact ih (by omega) j (by omega)
  intro j hj
  exact key 48 (by omega) j (by omega)
theorem rst_congr {K w w' : Nat → Int32} (hw : ∀ t, t < 64 → w t = w' t) {d d' : Nat → Int32} (hd : ∀ j, j < 8 → d j = d' j) : ∀ k, k ≤ 64 → ∀ j, j < 8 → itr (rst K w) k 0 d j = itr (rst K w') k 0 d' j := by
  intro k
  induction k with
  | zero => intro _ j hj; exact hd j hj
  | succ k ih =>
    intro hk j hj
    have ih := ih (by omega)
    rw [itr_s, itr_s]
    have e1 : one1 K w (0 + k) (itr (rst K w) k 0 d) = one1 K w' (0 + k) (itr (rst K w') k 0 d') := by
      unfold one1
      rw [ih 7 (by omega), ih 4 (by omega), ih 5 (by omega), ih 6 (by omega), hw (0 + k) (by omega)]
    have e2 : two1 (itr (rst K w) k 0 d) = two1 (itr (rst K w') k 0 d') := by
      unfold two1
      rw [ih 0 (by omega), ih 1 (by omega), ih 2 (by omega)]
    by_cases h0 : j = 0
    · subst h0
      rw [rst_0, rst_0, e1, e2]
    · by_cases h4 : j = 4
      · subst h4
        rw [rst_4, rst_4, e1, ih 3 (by omega)]
      · rw [rst_j _ _ _ _ h0 h4 hj, rst_j _ _ _ _ h0 h4 hj]
        exact ih (j - 1) (by omega)
theorem cmp_congr {d d' w w' : Nat → Int32} (hd : ∀ j, j < 8 → d j = d' j) (hw : ∀ j, j < 16 → w j = w' j) : ∀ j, j < 8 → cmp d w j = cmp d' w' j := by
  intro j hj
  unfold cmp
  rw [hd j hj, rst_congr (wexp_congr hw) hd 64 (by omega) j hj]
-- Arrays.fill
theorem fill_e {M : Mem} {k : Nat} {v : Int32} (hk : isI k = true) : fJ7_fill_53178 M k v = some (mrow M k (fun j => if j < lnC k then v else M k j)) := by
  have hl : lnC k ≤ 64 := by
    unfold lnC
    split
    · omega
    · split
      · split <;> omega
      · split
        · omega
        · split <;> omega
  unfold fJ7_fill_53178
  rw [gd_t hk]
  simp only [bnd_e, jn_e, ofN_nI]
  have key := loop_up (fun n x M' => lp_J7_fill_53178_5 (nI (lnC k)) k v (fun _ M6 => some M6) n x M') (fun i M' => mset M' k i v) (fun _ M6 => some M6) (lnC k)
    (fun n i M' hi => by
      simp (disch := omega) only [lp_J7_fill_53178_5_s, hk, bnd_e, jn_e, Option.bind_some, gd_true, gd_dec, Bool.true_and, Bool.and_true, Bool.and_self, tn_nI, inb_nI, ifle_t, ifle_f, iflt_t, iflt_f, ifeq_f, if_true, ofN_nI, nI_add, nI_subl, li_0, li_1, li_2, li_3, li_4, li_5, li_6, li_7, li_8, li_9, li_10, li_11, li_12, li_13, li_14, li_15, li_16, li_17, li_18, li_19, li_20, li_21, li_22, li_23, li_24, li_25, li_26, li_27, li_28, li_29, li_30, li_31, li_32, li_60, li_63, li_64, li_80, li_100, li_128, li_160, li_320, li_511, li_512, li_1600, li_1700, li_2000, li_2048, li_32000, li_2147483647])
    (fun n M' => by
      simp (disch := omega) only [lp_J7_fill_53178_5_s, bnd_e, jn_e, Option.bind_some, gd_true, gd_dec, Bool.true_and, Bool.and_true, Bool.and_self, tn_nI, inb_nI, ifle_t, ifle_f, iflt_t, iflt_f, ifeq_f, if_true, ofN_nI, nI_add, nI_subl, li_0, li_1, li_2, li_3, li_4, li_5, li_6, li_7, li_8, li_9, li_10, li_11, li_12, li_13, li_14, li_15, li_16, li_17, li_18, li_19, li_20, li_21, li_22, li_23, li_24, li_25, li_26, li_27, li_28, li_29, li_30, li_31, li_32, li_60, li_63, li_64, li_80, li_100, li_128, li_160, li_320, li_511, li_512, li_1600, li_1700, li_2000, li_2048, li_32000, li_2147483647])
    (lnC k) 0 FU M (by omega) (by have := FU_le; omega)
  refine key.trans (congrArg some ?_)
  have h2 : ∀ i, i ≤ lnC k → itr (fun i M' => mset M' k i v) i 0 M = mrow M k (fun j => if j < i then v else M k j) := by
    intro i
    induction i with
    | zero =>
      intro _
      funext a b
      rw [mrow_get]
      by_cases h : a = k <;> simp [itr, h]
    | succ i ih =>
      intro hi
      rw [itr_s, ih (by omega)]
      funext a b
      rw [mset_get, mrow_get, mrow_get]
      by_cases h : a = k
      · subst h
        by_cases h3 : b = 0 + i
        · subst h3; simp
        · have h4 : b ≠ i := by omega
          have h5 : (b < i + 1) ↔ b < i := by omega
          simp [h4, h5]
      · simp [h]
  exact h2 (lnC k) (Nat.le_refl _)
-- the class
theorem spread_e {M : Mem} {p : Nat} (hp : isI p = true) (hl : 16 ≤ lnC p) : fX0_spread M p = some (mrow M 136 (wexp (va_cpy (M p) (M 136) 0 0 16))) := by
  unfold fX0_spread
  rw [gd_t (by rw [hp, decide_eq_true (show 0 + 16 ≤ lnC p by omega)]; decide), bnd_e, jn_e]
  have key := loop_ge (fun n x M' => lp_X0_spread_15 (fun _ M6 => some M6) n x M') (fun i M' => mrow M' 136 (wst i (M' 136))) (fun _ M6 => some M6) 16 64
    (fun n i M' h16 hi => by
      simp (disch := omega) only [lp_X0_spread_15_s, bnd_e, jn_e, Option.bind_some, gd_true, gd_dec, Bool.true_and, Bool.and_true, Bool.and_self, tn_nI, inb_nI, ifle_t, ifle_f, iflt_t, iflt_f, ifeq_f, if_true, ofN_nI, nI_add, nI_subl, li_0, li_1, li_2, li_3, li_4, li_5, li_6, li_7, li_8, li_9, li_10, li_11, li_12, li_13, li_14, li_15, li_16, li_17, li_18, li_19, li_20, li_21, li_22, li_23, li_24, li_25, li_26, li_27, li_28, li_29, li_30, li_31, li_32, li_60, li_63, li_64, li_80, li_100, li_128, li_160, li_320, li_511, li_512, li_1600, li_1700, li_2000, li_2048, li_32000, li_2147483647]
      rfl)
    (fun n M' => by
      simp (disch := omega) only [lp_X0_spread_15_s, bnd_e, jn_e, Option.bind_some, gd_true, gd_dec, Bool.true_and, Bool.and_true, Bool.and_self, tn_nI, inb_nI, ifle_t, ifle_f, iflt_t, iflt_f, ifeq_f, if_true, ofN_nI, nI_add, nI_subl, li_0, li_1, li_2, li_3, li_4, li_5, li_6, li_7, li_8, li_9, li_10, li_11, li_12, li_13, li_14, li_15, li_16, li_17, li_18, li_19, li_20, li_21, li_22, li_23, li_24, li_25, li_26, li_27, li_28, li_29, li_30, li_31, li_32, li_60, li_63, li_64, li_80, li_100, li_128, li_160, li_320, li_511, li_512, li_1600, li_1700, li_2000, li_2048, li_32000, li_2147483647])
    48 16 FU (mrow M 136 (va_cpy (M p) (M 136) 0 0 16)) (by omega) (by omega) (by have := FU_le; omega)
  refine key.trans (congrArg some ?_)
  rw [itr_row (st := wst), mrow_s, mrow_mrow]
  rfl
theorem rounds_e {q : Mem} (F : Int32 → Int32 → Int32 → Int32 → Int32 → Int32 → Int32 → Int32 → Int32 → Mem → Option Mem) (v u : Nat → Int32) (hu : u = itr (rst tbADDED (q 136)) 64 0 v) : lp_X0_take_49 F FU (v 0) (v 1) (v 2) (v 3) (v 4) (v 5) (v 6) (v 7) (nI 0) q = F (u 0) (u 1) (u 2) (u 3) (u 4) (u 5) (u 6) (u 7) (nI 64) q := by
  subst hu
  exact loop_up (fun n x (v : Nat → Int32) => lp_X0_take_49 F n (v 0) (v 1) (v 2) (v 3) (v 4) (v 5) (v 6) (v 7) x q) (rst tbADDED (q 136)) (fun x v => F (v 0) (v 1) (v 2) (v 3) (v 4) (v 5) (v 6) (v 7) x q) 64
    (fun n i v hi => by
      simp (disch := omega) only [lp_X0_take_49_s, bnd_e, jn_e, Option.bind_some, gd_true, gd_dec, Bool.true_and, Bool.and_true, Bool.and_self, tn_nI, inb_nI, ifle_t, ifle_f, iflt_t, iflt_f, ifeq_f, if_true, ofN_nI, nI_add, nI_subl, li_0, li_1, li_2, li_3, li_4, li_5, li_6, li_7, li_8, li_9, li_10, li_11, li_12, li_13, li_14, li_15, li_16, li_17, li_18, li_19, li_20, li_21, li_22, li_23, li_24, li_25, li_26, li_27, li_28, li_29, li_30, li_31, li_32, li_60, li_63, li_64, li_80, li_100, li_128, li_160, li_320, li_511, li_512, li_1600, li_1700, li_2000, li_2048, li_32000, li_2147483647]
      rfl)
    (fun n v => by
      simp (disch := omega) only [lp_X0_take_49_s, bnd_e, jn_e, Option.bind_some, gd_true, gd_dec, Bool.true_and, Bool.and_true, Bool.and_self, tn_nI, inb_nI, ifle_t, ifle_f, iflt_t, iflt_f, ifeq_f, if_true, ofN_nI, nI_add, nI_subl, li_0, li_1, li_2, li_3, li_4, li_5, li_6, li_7, li_8, li_9, li_10, li_11, li_12, li_13, li_14, li_15, li_16, li_17, li_18, li_19, li_20, li_21, li_22, li_23, li_24, li_25, li_26, li_27, li_28, li_29, li_30, li_31, li_32, li_60, li_63, li_64, li_80, li_100, li_128, li_160, li_320, li_511, li_512, li_1600, li_1700, li_2000, li_2048, li_32000, li_2147483647])
    64 0 FU v (by omega) (by have := FU_le; omega)
theorem take_e {M : Mem} {d w : Nat} (hd : isI d = true) (hdl : 8 ≤ lnC d) (hw : isI w = true) (hwl : 16 ≤ lnC w) (h1 : d ≠ 136) (h2 : w ≠ 136) : ∃ M', fX0_take M d w = some M' ∧ (∀ j, j < 8 → M' d j = cmp (M d) (M w) j) ∧ (∀ j, ¬ j < 8 → M' d j = M d j) ∧ ∀ a, a ≠ d → a ≠ 136 → M' a = M a := by
  unfold fX0_take
  rw [spread_e hw hwl]
  obtain ⟨q, hq⟩ : ∃ q, q = mrow M 136 (wexp (va_cpy (M w) (M 136) 0 0 16)) := ⟨_, rfl⟩
  have hqd : q d = M d := by rw [hq, mrow_n _ _ h1]
  have hq1 : q 136 = wexp (va_cpy (M w) (M 136) 0 0 16) := by rw [hq, mrow_s]
  have hqn : ∀ a, a ≠ 136 → q a = M a := fun a ha => by rw [hq, mrow_n _ _ ha]
  rw [← hq]
  simp (disch := omega) only [hd, bnd_e, jn_e, Option.bind_some, gd_true, gd_dec, Bool.true_and, Bool.and_true, Bool.and_self, tn_nI, inb_nI, ifle_t, ifle_f, iflt_t, iflt_f, ifeq_f, if_true, ofN_nI, nI_add, nI_subl, li_0, li_1, li_2, li_3, li_4, li_5, li_6, li_7, li_8, li_9, li_10, li_11, li_12, li_13, li_14, li_15, li_16, li_17, li_18, li_19, li_20, li_21, li_22, li_23, li_24, li_25, li_26, li_27, li_28, li_29, li_30, li_31, li_32, li_60, li_63, li_64, li_80, li_100, li_128, li_160, li_320, li_511, li_512, li_1600, li_1700, li_2000, li_2048, li_32000, li_2147483647]
  obtain ⟨u, hu⟩ : ∃ u, u = itr (rst tbADDED (q 136)) 64 0 (q d) := ⟨_, rfl⟩
  have hc : ∀ j, j < 8 → M d j + u j = cmp (M d) (M w) j := fun j hj => by
    unfold cmp
    rw [hu, hqd, hq1, rst_congr (wexp_congr (fun i hi => ?_)) (fun _ _ => rfl) 64 (by omega) j hj]
    rw [pk_cpy_in (by omega) (by omega)]
    congr 1
    omega
  rw [rounds_e (v := q d) (u := u) (hu := hu), hqd]
  clear hu hq hq1
  refine ⟨_, rfl, ?_, ?_, ?_⟩
  · intro j hj
    rw [← hc j hj]
    simp only [mset_get, hqd]
    rcases (show j = 0 ∨ j = 1 ∨ j = 2 ∨ j = 3 ∨ j = 4 ∨ j = 5 ∨ j = 6 ∨ j = 7 by omega) with rfl | rfl | rfl | rfl | rfl | rfl | rfl | rfl <;> simp
  · intro j hj
    simp only [mset_get, hqd]
    simp [show j ≠ 0 by omega, show j ≠ 1 by omega, show j ≠ 2 by omega, show j ≠ 3 by omega, show j ≠ 4 by omega, show j ≠ 5 by omega, show j ≠ 6 by omega, show j ≠ 7 by omega]
  · intro a h3 h4
    funext j
    simp only [mset_get, h3, false_and, if_false]
    rw [hqn a h4]
