/-! A thread runs. -/
theorem lp_out {p1 x4 x3 : Int32} {p0 k2 : Nat} (F : Int32 → Int32 → Mem → Option (Int32 × Mem)) (n : Nat) (C : Mem) (h : ¬ x3 = nI 0) : lp_X1_run_19 p1 p0 k2 F (n + 1) x3 x4 C = F x3 x4 C := by
  rw [lp_X1_run_19_s, li_0, if_neg h]
  by_cases c : p1 ≤ x4
  · rw [if_pos c]
  · rw [if_neg c]
theorem sim_loop {th s N : Nat} (ht : th < 20) (hs : s < 20) (hN : N ≤ 2000) (F : Int32 → Int32 → Mem → Option (Int32 × Mem)) (G : Mem → Option (Int32 × Mem)) :
    ∀ (k i n m : Nat) (C R : Mem), i + k = N → k < n → k < m → RG C R th s → R 0 18 = nI i → R 0 17 = nI 0 →
    ∃ C' R', RU C' R' th s ∧ R' 0 20 = nI th ∧ (
      (lp_X1_run_19 (nI N) (33 + 5 * th) (33 + 5 * s) F n (nI 0) (nI i) C = F (nI 0) (nI N) C' ∧ lp_X6_run_38 (nI N) G m R = G R' ∧ RG C' R' th s ∧ R' 0 17 = nI 0 ∧ R' 0 18 = nI N) ∨
      (∃ i', lp_X1_run_19 (nI N) (33 + 5 * th) (33 + 5 * s) F n (nI 0) (nI i) C = F (-nI 1) (nI i') C' ∧ lp_X6_run_38 (nI N) G m R = some (nI 0, R') ∧ C' 1 2 = R' 0 17 ∧ R' 0 18 = nI i') ∨
      (∃ i' g, 1 ≤ g ∧ g < 5 ∧ lp_X1_run_19 (nI N) (33 + 5 * th) (33 + 5 * s) F n (nI 0) (nI i) C = F (nI g) (nI i') C' ∧ lp_X6_run_38 (nI N) G m R = some (nI 9, R') ∧ R' 0 17 = nI g ∧ R' 0 18 = nI i')) := by
  intro k
  induction k with
  | zero =>
    intro i n m C R hi hn hm g h18 h17
    obtain ⟨n, rfl⟩ : ∃ n', n = n' + 1 := ⟨n - 1, by omega⟩
    obtain ⟨m, rfl⟩ : ∃ m', m = m' + 1 := ⟨m - 1, by omega⟩
    have e : i = N := by omega
    subst e
    refine ⟨C, R, g.1, g.2.2.2.2.1, Or.inl ⟨?_, ?_, g, h17, h18⟩⟩
    · rw [lp_X1_run_19_s, if_pos (nI_le (Nat.le_refl _) (by omega))]
    · rw [lp_X6_run_38_s, bnd_e, h18, if_pos (nI_le (Nat.le_refl _) (by omega))]
  | succ k ih =>
    intro i n m C R hi hn hm g h18 h17
    obtain ⟨n, rfl⟩ : ∃ n', n = n' + 2 := ⟨n - 2, by omega⟩
    obtain ⟨m, rfl⟩ : ∃ m', m = m' + 1 := ⟨m - 1, by omega⟩
    have np : ¬ nI N ≤ nI i := nI_ge (by omega) (by omega)
    have g1 : RG C (mset R 0 18 (nI (i + 1))) th s := RG_RW g (RU_fr g.1 (fun _ _ _ _ _ => rfl) (fun a b _ h => by rw [mset_nk _ _ _ h])) rfl rfl (fun b _ h _ => by rw [mset_nj _ _ _ h]) (by rw [mset_nj _ _ _ (by omega)]; exact g.2.2.2.2.2) (mset_nk _ _ _ (by omega))
    obtain ⟨o, C1, b, R1, ⟨u, o18, o20, oc⟩, e1, e2⟩ := sim_stp g1 ht hs
    rw [mset_s] at o18
    rw [mset_nj _ _ _ (by omega), g.2.2.2.2.1] at o20
    have ec := e2 (nI N) (nI i) F (n + 1) np
    rw [nI_s] at ec
    rw [ec, lp_X6_run_38_s, bnd_e, h18, if_neg np, bnd_e, bnd_e, li_1, nI_s, e1, Option.bind_some]
    rcases oc with ⟨rfl, rfl, g2, o17⟩ | ⟨rfl, rfl, c12⟩ | ⟨f, f1, f2, rfl, rfl, r24⟩
    · rw [li_0, if_pos rfl, bnd_e, if_pos (show (nI 0, R1).2 0 24 ≤ nI 0 from by show R1 0 24 ≤ nI 0; rw [g2.2.2.2.2.2]; exact nI_le (Nat.le_refl _) (by omega))]
      exact ih (i + 1) (n + 1) m C1 R1 (by omega) (by omega) (by omega) g2 o18 (by rw [o17, mset_nj _ _ _ (by omega), h17])
    · refine ⟨C1, R1, u, o20, Or.inr (Or.inl ⟨i + 1, ?_, ?_, c12, o18⟩)⟩
      · exact lp_out F n C1 (by decide)
      · show (if nI 1 = (0 : Int32) then _ else _) = _
        rw [li_0, if_neg (by decide)]
    · refine ⟨C1, mset R1 0 17 (nI f), RU_fr u (fun _ _ _ _ _ => rfl) (fun a b _ h => by rw [mset_nk _ _ _ h]), by rw [mset_nj _ _ _ (by omega), o20], Or.inr (Or.inr ⟨i + 1, f, f1, f2, ?_, ?_, mset_s _ _ _ _, by rw [mset_nj _ _ _ (by omega), o18]⟩)⟩
      · exact lp_out F n C1 (fun e => by have := (nI_eq (by omega) (by omega)).mp e; omega)
      · rw [li_0, if_pos rfl, bnd_e, if_neg (show ¬ (nI 0, R1).2 0 24 ≤ nI 0 from by show ¬ R1 0 24 ≤ nI 0; rw [r24]; exact nI_ge (by omega) (by omega)), bnd_e, bnd_e, li_9]
        dsimp only
        rw [r24]
def runF (p0 : Nat) : Int32 → Int32 → Mem → Option (Int32 × Mem) := fun (x7 : Int32) (x8 : Int32) (M9 : Mem) => bnd (mset M9 1 3 x8) (fun M10 => jn (fun (x11 : Int32) => gd (isB x11) (gd (isPg p0) (bnd (mset M10 p0 8 x11) (fun M13 => if x7 = (-1 : Int32) then some ((0 : Int32), M13) else jn (fun (x14 : Int32) => bnd (mset M13 1 2 x14) (fun M16 => jn (fun (x17 : Int32) => some (x17, M16)) (fun K18 => if x7 = 0 then K18 (8 : Int32) else K18 (9 : Int32)))) (fun K15 => if x7 = 0 then K15 (0 : Int32) else K15 x7))))) (fun K12 => if x7 = 0 then K12 (1 : Int32) else K12 (0 : Int32)))
noncomputable def runG : Mem → Option (Int32 × Mem) := fun (M11 : Mem) => bnd (M11 0 20) (fun x12 => gd (inb x12 20) (bnd (mset M11 15 (x12).toNatClampNeg (vp_nar .boolean (1 : Int32))) (fun M13 => jn (fun (x17 : Int32) (M18 : Mem) => bnd (M18 0 20) (fun x19 => bnd (M18 0 23) (fun x20 => gd (inb (((5 : Int32) * x19) + (4 : Int32)) 100) (bnd (mset M18 16 (((5 : Int32) * x19) + (4 : Int32)).toNatClampNeg x20) (fun M21 => some ((8 : Int32), M21)))))) (fun F16 => lp_X6_run_95 F16 FU (0 : Int32) M13))))
theorem li_n1 : (-1 : Int32) = -nI 1 := by decide
theorem runF_0 {C : Mem} {th : Nat} (ht : th < 20) (x : Int32) : runF (33 + 5 * th) (nI 0) x C = some (nI 8, mset (mset (mset C 1 3 x) (33 + 5 * th) 8 (nI 1)) 1 2 (nI 0)) := by
  unfold runF
  rw [bnd_e, jn_e, li_0, if_pos rfl, li_1]
  dsimp only
  rw [gd_t isB_1, gd_t (isPg_p ht), bnd_e, if_neg (by decide), jn_e, if_pos rfl]
  dsimp only
  rw [bnd_e, jn_e, if_pos rfl, li_8]
theorem runF_m {C : Mem} {th : Nat} (ht : th < 20) (x : Int32) : runF (33 + 5 * th) (-nI 1) x C = some (nI 0, mset (mset C 1 3 x) (33 + 5 * th) 8 (nI 0)) := by
  unfold runF
  rw [bnd_e, jn_e, li_0, if_neg (by decide)]
  dsimp only
  rw [gd_t isB_0, gd_t (isPg_p ht), bnd_e, li_n1, if_pos rfl]
theorem runF_g {C : Mem} {th g : Nat} (ht : th < 20) (h1 : 1 ≤ g) (h2 : g < 5) (x : Int32) : runF (33 + 5 * th) (nI g) x C = some (nI 9, mset (mset (mset C 1 3 x) (33 + 5 * th) 8 (nI 0)) 1 2 (nI g)) := by
  have n0 : ¬ nI g = nI 0 := fun e => by have := (nI_eq (by omega) (by omega)).mp e; omega
  unfold runF
  rw [bnd_e, jn_e, li_0, if_neg n0]
  dsimp only
  rw [gd_t isB_0, gd_t (isPg_p ht), bnd_e, li_n1, if_neg (m1_ne g (by omega)), jn_e, if_neg n0]
  dsimp only
  rw [bnd_e, jn_e, if_neg n0, li_9]
theorem runG_e {R : Mem} {th : Nat} (ht : th < 20) (h20 : R 0 20 = nI th) : ∃ R', runG R = some (nI 8, R') ∧ (∀ a b, a ≠ 15 → a ≠ 16 → R' a b = R a b) ∧ R' 15 = mset R 15 th (nI 1) 15 ∧ (∀ b, (b < 5 * th ∨ 5 * th + 5 ≤ b) → R' 16 b = R 16 b) ∧ (∀ j, j < 4 → R' 16 (5 * th + j) = R 17 j) ∧ R' 16 (5 * th + 4) = R 0 23 := by
  obtain ⟨F, hF⟩ : ∃ F : Int32 → Mem → Option (Int32 × Mem), F = fun (x17 : Int32) (M18 : Mem) => bnd (M18 0 20) (fun x19 => bnd (M18 0 23) (fun x20 => gd (inb (((5 : Int32) * x19) + (4 : Int32)) 100) (bnd (mset M18 16 (((5 : Int32) * x19) + (4 : Int32)).toNatClampNeg x20) (fun M21 => some ((8 : Int32), M21))))) := ⟨_, rfl⟩
  obtain ⟨R1, hR1⟩ : ∃ R1, R1 = mset R 15 th (nI 1) := ⟨_, rfl⟩
  have z20 : R1 0 20 = nI th := by rw [hR1, mset_nk _ _ _ (by omega), h20]
  obtain ⟨R2, a1, a2, a3, a4⟩ := loop_inv (fun n i M => lp_X6_run_95 F n i M) F 4 (fun i M => (∀ a, a ≠ 16 → M a = R1 a) ∧ (∀ b, (b < 5 * th ∨ 5 * th + 5 ≤ b) → M 16 b = R1 16 b) ∧ ∀ j, j < i → M 16 (5 * th + j) = R1 17 j) (by omega) (fun n i M hi hp => by
    obtain ⟨p1, p2, p3⟩ := hp
    refine ⟨mset M 16 (5 * th + i) (R1 17 i), ?_, fun a ha => ?_, fun b hb => ?_, fun j hj => ?_⟩
    · have q20 : M 0 20 = nI th := by rw [p1 0 (by omega), z20]
      have q17 : M 17 = R1 17 := p1 17 (by omega)
      simp (disch := omega) only [lp_X6_run_95_s, q20, q17, pk_mul, mset_s, mset_nk, mset_nj, mrow_s, mrow_n, ifeq_s, nar_0, nar_1, isB_0, isB_1, bnd_e, jn_e, Option.bind_some, gd_true, gd_dec, Bool.true_and, Bool.and_true, Bool.and_self, tn_nI, inb_nI, ifle_t, ifle_f, iflt_t, iflt_f, ifeq_f, if_true, ofN_nI, nI_add, nI_subl, li_0, li_1, li_2, li_3, li_4, li_5, li_6, li_7, li_8, li_9, li_10, li_11, li_12, li_13, li_14, li_15, li_16, li_17, li_18, li_19, li_20, li_21, li_22, li_23, li_24, li_25, li_26, li_27, li_28, li_29, li_30, li_31, li_32, li_60, li_63, li_64, li_80, li_100, li_128, li_160, li_320, li_511, li_512, li_1600, li_1700, li_2000, li_2048, li_32000, li_2147483647]
    · rw [mset_nk _ _ _ ha, p1 a ha]
    · rw [mset_nj _ _ _ (by omega), p2 b hb]
    · by_cases e : j = i
      · rw [e, mset_s]
      · rw [mset_nj _ _ _ (by omega), p3 j (by omega)]) (fun n M _ => by simp (disch := omega) only [lp_X6_run_95_s, mset_s, mset_nk, mset_nj, mrow_s, mrow_n, ifeq_s, nar_0, nar_1, isB_0, isB_1, bnd_e, jn_e, Option.bind_some, gd_true, gd_dec, Bool.true_and, Bool.and_true, Bool.and_self, tn_nI, inb_nI, ifle_t, ifle_f, iflt_t, iflt_f, ifeq_f, if_true, ofN_nI, nI_add, nI_subl, li_0, li_1, li_2, li_3, li_4, li_5, li_6, li_7, li_8, li_9, li_10, li_11, li_12, li_13, li_14, li_15, li_16, li_17, li_18, li_19, li_20, li_21, li_22, li_23, li_24, li_25, li_26, li_27, li_28, li_29, li_30, li_31, li_32, li_60, li_63, li_64, li_80, li_100, li_128, li_160, li_320, li_511, li_512, li_1600, li_1700, li_2000, li_2048, li_32000, li_2147483647]) (M := R1) ⟨fun _ _ => rfl, fun _ _ => rfl, fun j hj => absurd hj (by omega)⟩
  have w20 : R2 0 20 = nI th := by rw [a2 0 (by omega), z20]
  have wf : F (nI 4) R2 = some (nI 8, mset R2 16 (5 * th + 4) (R2 0 23)) := by
    subst hF
    simp (disch := omega) only [w20, pk_mul, mset_s, mset_nk, mset_nj, mrow_s, mrow_n, ifeq_s, nar_0, nar_1, isB_0, isB_1, bnd_e, jn_e, Option.bind_some, gd_true, gd_dec, Bool.true_and, Bool.and_true, Bool.and_self, tn_nI, inb_nI, ifle_t, ifle_f, iflt_t, iflt_f, ifeq_f, if_true, ofN_nI, nI_add, nI_subl, li_0, li_1, li_2, li_3, li_4, li_5, li_6, li_7, li_8, li_9, li_10, li_11, li_12, li_13, li_14, li_15, li_16, li_17, li_18, li_19, li_20, li_21, li_22, li_23, li_24, li_25, li_26, li_27, li_28, li_29, li_30, li_31, li_32, li_60, li_63, li_64, li_80, li_100, li_128, li_160, li_320, li_511, li_512, li_1600, li_1700, li_2000, li_2048, li_32000, li_2147483647]
  refine ⟨mset R2 16 (5 * th + 4) (R2 0 23), ?_, fun a b h1 h2 => ?_, ?_, fun b hb => ?_, fun j hj => ?_, ?_⟩
  · unfold runG
    rw [bnd_e, h20, gd_t (by rw [inb_nI (by omega)]; simp [ht]), tn_nI (by omega), bnd_e, li_1, nar_1, ← hR1, jn_e, ← hF, li_0, a1, wf]
  · rw [mset_nk _ _ _ h2, a2 a h2, hR1, mset_nk _ _ _ h1]
  · rw [mset_nk _ _ _ (by omega), a2 15 (by omega), hR1]
  · rw [mset_nj _ _ _ (by omega), a3 b hb, hR1, mset_nk _ _ _ (by omega)]
  · rw [mset_nj _ _ _ (by omega), a4 j hj, hR1, mset_nk _ _ _ (by omega)]
  · rw [mset_s, a2 0 (by omega), hR1, mset_nk _ _ _ (by omega)]
/-- the run is over -/
theorem RU_end {C C' R R' : Mem} {th s e : Nat} (hu : RU C R th s) (ht : th < 20) (he : e ≤ 1) (c : ∀ a b, a ≠ 1 → ¬ (a = 33 + 5 * th ∧ b = 8) → C' a b = C a b) (c8 : C' (33 + 5 * th) 8 = nI e)
    (r : ∀ a b, a ≠ 0 → a ≠ 16 → ¬ (a = 15 ∧ b = th) → R' a b = R a b) (r16 : ∀ b, (b < 5 * th ∨ 5 * th + 5 ≤ b) → R' 16 b = R 16 b) (r15 : R' 15 th = nI e) (h2 : C' 1 2 = R' 0 17) (h3 : C' 1 3 = R' 0 18)
    (hk : e = 1 → (∀ j, j < 4 → C (33 + 5 * th + 3) j = R' 16 (5 * th + j)) ∧ C (33 + 5 * th) 9 = R' 16 (5 * th + 4)) : Rel C' R' := by
  obtain ⟨kd, ow, st, md, et, lg, tb, en, rt, h, hI, kt, ot, ks, ss, te⟩ := hu
  have f18 : R' 18 = R 18 := funext (fun b => r 18 b (by omega) (by omega) (by omega))
  have f19 : R' 19 = R 19 := funext (fun b => r 19 b (by omega) (by omega) (by omega))
  have f137 : C' 137 = C 137 := funext (fun b => c 137 b (by omega) (by omega))
  refine ⟨kd, ow, st, md, up et th e, lg, tb, en, rt, ⟨?_, fun q hq => ?_⟩, ⟨⟨?_, h2, h3, fun j hj => ?_, fun f hf j hj => ?_⟩, fun q hq => ?_⟩, IV_et hI _ (fun q hq => ?_)⟩
  · have := h.1.1
    unfold kOk at this ⊢
    rw [f18, f19]
    exact this
  · obtain ⟨b1, b2, b3, b4, b5, b6, b7, b8, b9⟩ := h.1.2 q hq
    refine ⟨by rw [r 3 q (by omega) (by omega) (by omega)]; exact b1, by rw [r 4 q (by omega) (by omega) (by omega)]; exact b2, by rw [r 5 q (by omega) (by omega) (by omega)]; exact b3, by rw [r 13 q (by omega) (by omega) (by omega)]; exact b4, ?_, by rw [r 11 q (by omega) (by omega) (by omega)]; exact b6, fun j hj => by rw [r 9 _ (by omega) (by omega) (by omega)]; exact b7 j hj, fun j hj => by rw [r 7 _ (by omega) (by omega) (by omega)]; exact b8 j hj, fun j hj hn => by rw [r 8 _ (by omega) (by omega) (by omega)]; exact b9 j hj hn⟩
    by_cases e' : q = th
    · rw [e', up_s, r15]
    · rw [up_n _ _ e', r 15 q (by omega) (by omega) (by omega)]; exact b5
  · have := h.2.1.1
    unfold padOk at this ⊢
    rw [f137]
    exact this
  · rw [c 134 j (by omega) (by omega), r 1 j (by omega) (by omega) (by omega)]; exact h.2.1.2.1 j hj
  · rw [c _ j (by omega) (by omega), r 2 _ (by omega) (by omega) (by omega)]; exact h.2.1.2.2 f hf j hj
  · by_cases e' : q = th
    · subst e'
      obtain ⟨a1, a2, a3, a4, a5, a6, a7, a8, a9, a10, a11, a12⟩ := h.2.2 q hq
      refine ⟨by rw [c _ _ (by omega) (by omega)]; exact a1, by rw [c _ _ (by omega) (by omega)]; exact a2, by rw [c _ _ (by omega) (by omega)]; exact a3, fun j hj => by rw [c _ _ (by omega) (by omega)]; exact a4 j hj, fun j hj => by rw [c _ _ (by omega) (by omega)]; exact a5 j hj, fun j hj => by rw [c _ _ (by omega) (by omega), r 6 _ (by omega) (by omega) (by omega)]; exact a6 j hj, fun k1 => absurd k1 (by omega), fun k1 => absurd k1 (by omega), fun k1 => absurd k1 (by omega), fun k1 => by rw [c _ _ (by omega) (by omega), r 14 _ (by omega) (by omega) (by omega)]; exact a10 k1, fun k1 _ => by rw [c8, up_s], fun k1 _ k3 => ?_⟩
      rw [up_s] at k3
      obtain ⟨d1, d2⟩ := hk k3
      exact ⟨fun j hj => by rw [c _ _ (by omega) (by omega)]; exact d1 j hj, by rw [c _ _ (by omega) (by omega)]; exact d2⟩
    · refine pgC_unt (h.2.2 q hq) ⟨rfl, rfl, rfl, rfl, up_n _ _ e', rfl, fun _ => rfl, fun _ => rfl, fun _ => rfl⟩ ⟨fun j => c _ _ (by omega) (by omega), fun j => c _ _ (by omega) (by omega), fun j => c _ _ (by omega) (by omega), fun j => c _ _ (by omega) (by omega), fun j => c _ _ (by omega) (by omega), fun j => c _ _ (by omega) (by omega), fun j _ => r _ _ (by omega) (by omega) (by omega), fun j _ => r _ _ (by omega) (by omega) (by omega), fun j _ => r _ _ (by omega) (by omega) (by omega), r _ _ (by omega) (by omega) (by omega), fun j hj => r16 _ (by omega)⟩ (IV85 hI q hq) (fun _ => e')
  · by_cases e' : q = th
    · rw [e', up_s]; exact he
    · rw [up_n _ _ e']; exact (hI.1 q hq).2.2.2.1
theorem RU_15 {C R : Mem} {th s : Nat} (hu : RU C R th s) (ht : th < 20) : R 15 th = nI 0 := by
  obtain ⟨kd, ow, st, md, et, lg, tb, en, rt, h, hI, kt, ot, ks, ss, te⟩ := hu
  rw [(h.1.2 th ht).2.2.2.2.1, te]
theorem sim_run {C R : Mem} {th s N : Nat} (hu : RU C (mset R 15 th (nI 0)) th s) (ht : th < 20) (hs : s < 20) (hg : ∀ j, j < 4 → C (33 + 5 * th + 3) j = R 17 j) (hp : C (33 + 5 * th) 9 = R 0 23) (h20 : R 0 20 = nI th) (hN : N ≤ 2000) :
    ∃ r C' R', fX1_run C (33 + 5 * th) (nI N) = some (r, C') ∧ fX6_run R (nI N) = some (r, R') ∧ Rel C' R' := by
  obtain ⟨kd, ow, st, md, et, lg, tb, en, rt, h, hI, kt, ot, ks, ss, te⟩ := id hu
  have ow1 : C (33 + 5 * th) 1 = nI s := by rw [(h.2.2 th ht).2.1, ot]; unfold oI; rw [if_pos hs]
  have ow4 : R 4 th = nI s := by
    have := (h.1.2 th ht).2.1
    rw [mset_nk _ _ _ (by omega), ot] at this
    rw [this]; unfold oI; rw [if_pos hs]
  have unC : fX1_run C (33 + 5 * th) (nI N) = lp_X1_run_19 (nI N) (33 + 5 * th) (33 + 5 * s) (runF (33 + 5 * th)) FU (nI 0) (nI 0) C := by
    unfold fX1_run
    rw [gd_t (isPg_p ht), bnd_e, ow1, gd_t (by rw [inb_nI (by omega)]; simp [hs]), bnd_e, tn_nI (by omega), jn_e]
    rfl
  obtain ⟨R8, hR8⟩ : ∃ R8, R8 = mset (mset (mset (mset (mset R 0 21 (nI s)) 15 th (nI 0)) 0 24 (nI 0)) 0 17 (nI 0)) 0 18 (nI 0) := ⟨_, rfl⟩
  have unM : fX6_run R (nI N) = lp_X6_run_38 (nI N) runG FU R8 := by
    unfold fX6_run
    rw [bnd_e, h20, gd_t (by rw [inb_nI (by omega)]; simp [ht]), tn_nI (by omega), bnd_e, ow4, bnd_e, bnd_e, mset_nj _ _ _ (by omega), h20, gd_t (by rw [inb_nI (by omega)]; simp [ht]), tn_nI (by omega), bnd_e, li_0, nar_0, bnd_e, bnd_e, bnd_e, ← hR8, jn_e]
    rfl
  have f8 : ∀ a b, a ≠ 0 → R8 a b = mset R 15 th (nI 0) a b := fun a b ha => by
    rw [hR8, mset_nk _ _ _ ha, mset_nk _ _ _ ha, mset_nk _ _ _ ha]
    by_cases e : a = 15 ∧ b = th
    · rw [e.1, e.2, mset_s, mset_s]
    · rw [mset_get, if_neg e, mset_nk _ _ _ ha, mset_get, if_neg e]
  have g8 : RG C R8 th s := by
    refine ⟨RU_fr hu (fun _ _ _ _ _ => rfl) (fun a b _ ha => f8 a b ha), fun j hj => ?_, ?_, ?_, ?_, ?_⟩
    · rw [f8 17 j (by omega), mset_nk _ _ _ (by omega)]; exact hg j hj
    · rw [hp, hR8, mset_nj _ _ _ (by omega), mset_nj _ _ _ (by omega), mset_nj _ _ _ (by omega), mset_nk _ _ _ (by omega), mset_nj _ _ _ (by omega)]
    · rw [hR8, mset_nj _ _ _ (by omega), mset_nj _ _ _ (by omega), mset_nj _ _ _ (by omega), mset_nk _ _ _ (by omega), mset_s]
    · rw [hR8, mset_nj _ _ _ (by omega), mset_nj _ _ _ (by omega), mset_nj _ _ _ (by omega), mset_nk _ _ _ (by omega), mset_nj _ _ _ (by omega), h20]
    · rw [hR8, mset_nj _ _ _ (by omega), mset_nj _ _ _ (by omega), mset_s]
  have z18 : R8 0 18 = nI 0 := by rw [hR8, mset_s]
  have z17 : R8 0 17 = nI 0 := by rw [hR8, mset_nj _ _ _ (by omega), mset_s]
  have fu := FU_le
  obtain ⟨C1, R1, u1, r20, oc⟩ := sim_loop ht hs hN (runF (33 + 5 * th)) runG N 0 FU FU C R8 (by omega) (by omega) (by omega) g8 z18 z17
  rw [unC, unM]
  rcases oc with ⟨e1, e2, g1, r17, r18⟩ | ⟨i', e1, e2, c12, r18⟩ | ⟨i', f, f1, f2, e1, e2, r17, r18⟩
  · obtain ⟨R2, b1, b2, b3, b4, b5, b6⟩ := runG_e ht r20
    rw [e1, e2, runF_0 ht, b1]
    refine ⟨_, _, _, rfl, rfl, RU_end (e := 1) u1 ht (by omega) (fun a b h1 h2 => ?_) ?_ (fun a b h1 h2 h3 => ?_) b4 (by rw [b3, mset_s]) ?_ ?_ (fun _ => ⟨fun j hj => ?_, ?_⟩)⟩
    · rw [mset_nk _ _ _ h1, mset_get, if_neg h2, mset_nk _ _ _ h1]
    · rw [mset_nk _ _ _ (by omega), mset_s]
    · by_cases e : a = 15
      · subst e
        rw [b3, mset_nj _ _ _ (by omega)]
      · exact b2 a b e h2
    · rw [mset_s, b2 _ _ (by omega) (by omega), r17]
    · rw [mset_nj _ _ _ (by omega), mset_nk _ _ _ (by omega), mset_s, b2 _ _ (by omega) (by omega), r18]
    · rw [b5 j hj]; exact g1.2.1 j hj
    · rw [b6]; exact g1.2.2.1
  · rw [e1, e2, runF_m ht]
    refine ⟨_, _, _, rfl, rfl, RU_end (e := 0) u1 ht (by omega) (fun a b h1 h2 => ?_) (mset_s _ _ _ _) (fun a b _ _ _ => rfl) (fun _ _ => rfl) (RU_15 u1 ht) ?_ ?_ (fun e => absurd e (by omega))⟩
    · rw [mset_get, if_neg h2, mset_nk _ _ _ h1]
    · rw [mset_nk _ _ _ (by omega), mset_nj _ _ _ (by omega), c12]
    · rw [mset_nk _ _ _ (by omega), mset_s, r18]
  · rw [e1, e2, runF_g ht f1 f2]
    refine ⟨_, _, _, rfl, rfl, RU_end (e := 0) u1 ht (by omega) (fun a b h1 h2 => ?_) ?_ (fun a b _ _ _ => rfl) (fun _ _ => rfl) (RU_15 u1 ht) ?_ ?_ (fun e => absurd e (by omega))⟩
    · rw [mset_nk _ _ _ h1, mset_get, if_neg h2, mset_nk _ _ _ h1]
    · rw [mset_nk _ _ _ (by omega), mset_s]
    · rw [mset_s, r17]
    · rw [mset_nj _ _ _ (by omega), mset_nk _ _ _ (by omega), mset_s, r18]
theorem stp_alt (y : Int32) : y < nI 1 ∨ (¬ y < nI 1 ∧ ¬ y ≤ nI 2000) ∨ ∃ N, 1 ≤ N ∧ N ≤ 2000 ∧ y = nI N := by
  rcases pk_ix y (show 2001 < 2 ^ 31 by omega) with c | c | ⟨j, hj, e⟩
  · left
    rw [li_0] at c
    rw [Int32.lt_iff_toInt_lt] at c ⊢
    rw [nI_toInt (by omega)] at c ⊢
    omega
  · right; left
    rw [Int32.le_iff_toInt_le, nI_toInt (by omega)] at c
    rw [Int32.lt_iff_toInt_lt, Int32.le_iff_toInt_le, nI_toInt (by omega), nI_toInt (by omega)]
    omega
  · by_cases h : j = 0
    · left
      rw [e, h]
      exact nI_lt (by omega) (by omega)
    · right; right
      exact ⟨j, by omega, by omega, e⟩
theorem want_e {C R : Mem} {kd ow st md et lg : Nat → Nat} {tb en rt : Nat → Nat → Nat} (hM : RM R kd ow st md et lg tb en rt) (hC : RC C R 20 kd ow st md et lg tb en rt) (hI : IV kd ow st md et lg tb en rt) (x y : Int32) {v : Nat} (hv : v ≤ 1) :
    (∃ n, 1 ≤ n ∧ n < 10 ∧ fX5_refusalOfRun C x y (nI v) = some (nI n, C) ∧ fX6_wantThread R x y (nI v) = some (Bn R n)) ∨
    (∃ p N, p < 20 ∧ 1 ≤ N ∧ N ≤ 2000 ∧ x = nI p ∧ y = nI N ∧ kd p = 2 ∧ ow p < 20 ∧ kd (ow p) = 1 ∧ st (ow p) = 1 ∧ et p = v ∧ fX5_refusalOfRun C x y (nI v) = some (nI 0, C) ∧ fX6_wantThread R x y (nI v) = some (Bg R)) := by
  have k := RM_hK hM hI
  rcases argc x (show 20 < 2 ^ 31 by omega) with hx | ⟨p, hp, rfl⟩
  · left
    refine ⟨1, by omega, by omega, ?_, ?_⟩
    · simp (disch := omega) only [fX5_refusalOfRun, isPage_b hx, mset_s, mset_nk, mset_nj, mrow_s, mrow_n, ifeq_s, nar_0, nar_1, isB_0, isB_1, bnd_e, Option.bind_some, gd_true, gd_dec, Bool.true_and, Bool.and_true, Bool.and_self, tn_nI, inb_nI, ifle_t, ifle_f, iflt_t, iflt_f, ifeq_f, if_true, ofN_nI, nI_add, nI_subl, li_0, li_1, li_2, li_3, li_4, li_5, li_6, li_7, li_8, li_9, li_10, li_11, li_12, li_13, li_14, li_15, li_16, li_17, li_18, li_19, li_20, li_21, li_22, li_23, li_24, li_25, li_26, li_27, li_28, li_29, li_30, li_31, li_32, li_60, li_63, li_64, li_80, li_100, li_128, li_160, li_320, li_511, li_512, li_1600, li_1700, li_2000, li_2048, li_32000, li_2147483647]; repeat (refine js ?_; simp (disch := omega) only [isPage_b hx, mset_s, mset_nk, mset_nj, mrow_s, mrow_n, ifeq_s, nar_0, nar_1, isB_0, isB_1, bnd_e, Option.bind_some, gd_true, gd_dec, Bool.true_and, Bool.and_true, Bool.and_self, tn_nI, inb_nI, ifle_t, ifle_f, iflt_t, iflt_f, ifeq_f, if_true, ofN_nI, nI_add, nI_subl, li_0, li_1, li_2, li_3, li_4, li_5, li_6, li_7, li_8, li_9, li_10, li_11, li_12, li_13, li_14, li_15, li_16, li_17, li_18, li_19, li_20, li_21, li_22, li_23, li_24, li_25, li_26, li_27, li_28, li_29, li_30, li_31, li_32, li_60, li_63, li_64, li_80, li_100, li_128, li_160, li_320, li_511, li_512, li_1600, li_1700, li_2000, li_2048, li_32000, li_2147483647])
    · simp (disch := omega) only [fX6_wantThread, begin_m, noPage_b hx, isKind_b hx, wr_1, wr_n, Bn_0, mset_s, mset_nk, mset_nj, mrow_s, mrow_n, ifeq_s, nar_0, nar_1, isB_0, isB_1, bnd_e, Option.bind_some, gd_true, gd_dec, Bool.true_and, Bool.and_true, Bool.and_self, tn_nI, inb_nI, ifle_t, ifle_f, iflt_t, iflt_f, ifeq_f, if_true, ofN_nI, nI_add, nI_subl, li_0, li_1, li_2, li_3, li_4, li_5, li_6, li_7, li_8, li_9, li_10, li_11, li_12, li_13, li_14, li_15, li_16, li_17, li_18, li_19, li_20, li_21, li_22, li_23, li_24, li_25, li_26, li_27, li_28, li_29, li_30, li_31, li_32, li_60, li_63, li_64, li_80, li_100, li_128, li_160, li_320, li_511, li_512, li_1600, li_1700, li_2000, li_2048, li_32000, li_2147483647]; repeat (refine js ?_; simp (disch := omega) only [begin_m, noPage_b hx, isKind_b hx, wr_1, wr_n, Bn_0, mset_s, mset_nk, mset_nj, mrow_s, mrow_n, ifeq_s, nar_0, nar_1, isB_0, isB_1, bnd_e, Option.bind_some, gd_true, gd_dec, Bool.true_and, Bool.and_true, Bool.and_self, tn_nI, inb_nI, ifle_t, ifle_f, iflt_t, iflt_f, ifeq_f, if_true, ofN_nI, nI_add, nI_subl, li_0, li_1, li_2, li_3, li_4, li_5, li_6, li_7, li_8, li_9, li_10, li_11, li_12, li_13, li_14, li_15, li_16, li_17, li_18, li_19, li_20, li_21, li_22, li_23, li_24, li_25, li_26, li_27, li_28, li_29, li_30, li_31, li_32, li_60, li_63, li_64, li_80, li_100, li_128, li_160, li_320, li_511, li_512, li_1600, li_1700, li_2000, li_2048, li_32000, li_2147483647])
  obtain ⟨n3, n4, n5, n6, n7, -⟩ := hM.2 p hp
  obtain ⟨d3, d4, d5, -, -, -, -, -, -, -, d8, -⟩ := hC.2 p hp
  have ip := hI.1 p hp
  rcases stp_alt y with c | ⟨c, c2⟩ | ⟨N, N1, N2, rfl⟩
  · left
    obtain ⟨b, hb, eb⟩ := isK_x (hK_Bn k 1) (nI p) (show 2 < 10 by omega)
    have hb' : b = 0 ∨ b = 1 := by omega
    refine ⟨1, by omega, by omega, ?_, ?_⟩
    · simp only [fX5_refusalOfRun]
      simp (disch := omega) only [fX5_refusalOfRun, isPage_t hp, if_pos c, mset_s, mset_nk, mset_nj, mrow_s, mrow_n, ifeq_s, nar_0, nar_1, isB_0, isB_1, bnd_e, Option.bind_some, gd_true, gd_dec, Bool.true_and, Bool.and_true, Bool.and_self, tn_nI, inb_nI, ifle_t, ifle_f, iflt_t, iflt_f, ifeq_f, if_true, ofN_nI, nI_add, nI_subl, li_0, li_1, li_2, li_3, li_4, li_5, li_6, li_7, li_8, li_9, li_10, li_11, li_12, li_13, li_14, li_15, li_16, li_17, li_18, li_19, li_20, li_21, li_22, li_23, li_24, li_25, li_26, li_27, li_28, li_29, li_30, li_31, li_32, li_60, li_63, li_64, li_80, li_100, li_128, li_160, li_320, li_511, li_512, li_1600, li_1700, li_2000, li_2048, li_32000, li_2147483647]; repeat (refine js ?_; simp (disch := omega) only [isPage_t hp, if_pos c, mset_s, mset_nk, mset_nj, mrow_s, mrow_n, ifeq_s, nar_0, nar_1, isB_0, isB_1, bnd_e, Option.bind_some, gd_true, gd_dec, Bool.true_and, Bool.and_true, Bool.and_self, tn_nI, inb_nI, ifle_t, ifle_f, iflt_t, iflt_f, ifeq_f, if_true, ofN_nI, nI_add, nI_subl, li_0, li_1, li_2, li_3, li_4, li_5, li_6, li_7, li_8, li_9, li_10, li_11, li_12, li_13, li_14, li_15, li_16, li_17, li_18, li_19, li_20, li_21, li_22, li_23, li_24, li_25, li_26, li_27, li_28, li_29, li_30, li_31, li_32, li_60, li_63, li_64, li_80, li_100, li_128, li_160, li_320, li_511, li_512, li_1600, li_1700, li_2000, li_2048, li_32000, li_2147483647])
    · rcases hb' with rfl | rfl
      · simp (disch := omega) only [fX6_wantThread, begin_m, noPage_t hp, if_pos c, eb, wr_1, wr_n, Bn_0, mset_s, mset_nk, mset_nj, mrow_s, mrow_n, ifeq_s, nar_0, nar_1, isB_0, isB_1, bnd_e, Option.bind_some, gd_true, gd_dec, Bool.true_and, Bool.and_true, Bool.and_self, tn_nI, inb_nI, ifle_t, ifle_f, iflt_t, iflt_f, ifeq_f, if_true, ofN_nI, nI_add, nI_subl, li_0, li_1, li_2, li_3, li_4, li_5, li_6, li_7, li_8, li_9, li_10, li_11, li_12, li_13, li_14, li_15, li_16, li_17, li_18, li_19, li_20, li_21, li_22, li_23, li_24, li_25, li_26, li_27, li_28, li_29, li_30, li_31, li_32, li_60, li_63, li_64, li_80, li_100, li_128, li_160, li_320, li_511, li_512, li_1600, li_1700, li_2000, li_2048, li_32000, li_2147483647]; repeat (refine js ?_; simp (disch := omega) only [begin_m, noPage_t hp, if_pos c, eb, wr_1, wr_n, Bn_0, mset_s, mset_nk, mset_nj, mrow_s, mrow_n, ifeq_s, nar_0, nar_1, isB_0, isB_1, bnd_e, Option.bind_some, gd_true, gd_dec, Bool.true_and, Bool.and_true, Bool.and_self, tn_nI, inb_nI, ifle_t, ifle_f, iflt_t, iflt_f, ifeq_f, if_true, ofN_nI, nI_add, nI_subl, li_0, li_1, li_2, li_3, li_4, li_5, li_6, li_7, li_8, li_9, li_10, li_11, li_12, li_13, li_14, li_15, li_16, li_17, li_18, li_19, li_20, li_21, li_22, li_23, li_24, li_25, li_26, li_27, li_28, li_29, li_30, li_31, li_32, li_60, li_63, li_64, li_80, li_100, li_128, li_160, li_320, li_511, li_512, li_1600, li_1700, li_2000, li_2048, li_32000, li_2147483647])
      · simp (disch := omega) only [fX6_wantThread, begin_m, noPage_t hp, if_pos c, eb, wr_1, wr_n, Bn_0, mset_s, mset_nk, mset_nj, mrow_s, mrow_n, ifeq_s, nar_0, nar_1, isB_0, isB_1, bnd_e, Option.bind_some, gd_true, gd_dec, Bool.true_and, Bool.and_true, Bool.and_self, tn_nI, inb_nI, ifle_t, ifle_f, iflt_t, iflt_f, ifeq_f, if_true, ofN_nI, nI_add, nI_subl, li_0, li_1, li_2, li_3, li_4, li_5, li_6, li_7, li_8, li_9, li_10, li_11, li_12, li_13, li_14, li_15, li_16, li_17, li_18, li_19, li_20, li_21, li_22, li_23, li_24, li_25, li_26, li_27, li_28, li_29, li_30, li_31, li_32, li_60, li_63, li_64, li_80, li_100, li_128, li_160, li_320, li_511, li_512, li_1600, li_1700, li_2000, li_2048, li_32000, li_2147483647]; repeat (refine js ?_; simp (disch := omega) only [begin_m, noPage_t hp, if_pos c, eb, wr_1, wr_n, Bn_0, mset_s, mset_nk, mset_nj, mrow_s, mrow_n, ifeq_s, nar_0, nar_1, isB_0, isB_1, bnd_e, Option.bind_some, gd_true, gd_dec, Bool.true_and, Bool.and_true, Bool.and_self, tn_nI, inb_nI, ifle_t, ifle_f, iflt_t, iflt_f, ifeq_f, if_true, ofN_nI, nI_add, nI_subl, li_0, li_1, li_2, li_3, li_4, li_5, li_6, li_7, li_8, li_9, li_10, li_11, li_12, li_13, li_14, li_15, li_16, li_17, li_18, li_19, li_20, li_21, li_22, li_23, li_24, li_25, li_26, li_27, li_28, li_29, li_30, li_31, li_32, li_60, li_63, li_64, li_80, li_100, li_128, li_160, li_320, li_511, li_512, li_1600, li_1700, li_2000, li_2048, li_32000, li_2147483647])
  · left
    obtain ⟨b, hb, eb⟩ := isK_x (hK_Bn k 1) (nI p) (show 2 < 10 by omega)
    have hb' : b = 0 ∨ b = 1 := by omega
    refine ⟨1, by omega, by omega, ?_, ?_⟩
    · simp (disch := omega) only [fX5_refusalOfRun, isPage_t hp, if_neg c, if_neg c2, mset_s, mset_nk, mset_nj, mrow_s, mrow_n, ifeq_s, nar_0, nar_1, isB_0, isB_1, bnd_e, Option.bind_some, gd_true, gd_dec, Bool.true_and, Bool.and_true, Bool.and_self, tn_nI, inb_nI, ifle_t, ifle_f, iflt_t, iflt_f, ifeq_f, if_true, ofN_nI, nI_add, nI_subl, li_0, li_1, li_2, li_3, li_4, li_5, li_6, li_7, li_8, li_9, li_10, li_11, li_12, li_13, li_14, li_15, li_16, li_17, li_18, li_19, li_20, li_21, li_22, li_23, li_24, li_25, li_26, li_27, li_28, li_29, li_30, li_31, li_32, li_60, li_63, li_64, li_80, li_100, li_128, li_160, li_320, li_511, li_512, li_1600, li_1700, li_2000, li_2048, li_32000, li_2147483647]; repeat (refine js ?_; simp (disch := omega) only [isPage_t hp, if_neg c, if_neg c2, mset_s, mset_nk, mset_nj, mrow_s, mrow_n, ifeq_s, nar_0, nar_1, isB_0, isB_1, bnd_e, Option.bind_some, gd_true, gd_dec, Bool.true_and, Bool.and_true, Bool.and_self, tn_nI, inb_nI, ifle_t, ifle_f, iflt_t, iflt_f, ifeq_f, if_true, ofN_nI, nI_add, nI_subl, li_0, li_1, li_2, li_3, li_4, li_5, li_6, li_7, li_8, li_9, li_10, li_11, li_12, li_13, li_14, li_15, li_16, li_17, li_18, li_19, li_20, li_21, li_22, li_23, li_24, li_25, li_26, li_27, li_28, li_29, li_30, li_31, li_32, li_60, li_63, li_64, li_80, li_100, li_128, li_160, li_320, li_511, li_512, li_1600, li_1700, li_2000, li_2048, li_32000, li_2147483647])
    · rcases hb' with rfl | rfl
      · simp (disch := omega) only [fX6_wantThread, begin_m, noPage_t hp, if_neg c, if_neg c2, eb, wr_1, wr_n, Bn_0, mset_s, mset_nk, mset_nj, mrow_s, mrow_n, ifeq_s, nar_0, nar_1, isB_0, isB_1, bnd_e, Option.bind_some, gd_true, gd_dec, Bool.true_and, Bool.and_true, Bool.and_self, tn_nI, inb_nI, ifle_t, ifle_f, iflt_t, iflt_f, ifeq_f, if_true, ofN_nI, nI_add, nI_subl, li_0, li_1, li_2, li_3, li_4, li_5, li_6, li_7, li_8, li_9, li_10, li_11, li_12, li_13, li_14, li_15, li_16, li_17, li_18, li_19, li_20, li_21, li_22, li_23, li_24, li_25, li_26, li_27, li_28, li_29, li_30, li_31, li_32, li_60, li_63, li_64, li_80, li_100, li_128, li_160, li_320, li_511, li_512, li_1600, li_1700, li_2000, li_2048, li_32000, li_2147483647]; repeat (refine js ?_; simp (disch := omega) only [begin_m, noPage_t hp, if_neg c, if_neg c2, eb, wr_1, wr_n, Bn_0, mset_s, mset_nk, mset_nj, mrow_s, mrow_n, ifeq_s, nar_0, nar_1, isB_0, isB_1, bnd_e, Option.bind_some, gd_true, gd_dec, Bool.true_and, Bool.and_true, Bool.and_self, tn_nI, inb_nI, ifle_t, ifle_f, iflt_t, iflt_f, ifeq_f, if_true, ofN_nI, nI_add, nI_subl, li_0, li_1, li_2, li_3, li_4, li_5, li_6, li_7, li_8, li_9, li_10, li_11, li_12, li_13, li_14, li_15, li_16, li_17, li_18, li_19, li_20, li_21, li_22, li_23, li_24, li_25, li_26, li_27, li_28, li_29, li_30, li_31, li_32, li_60, li_63, li_64, li_80, li_100, li_128, li_160, li_320, li_511, li_512, li_1600, li_1700, li_2000, li_2048, li_32000, li_2147483647])
      · simp (disch := omega) only [fX6_wantThread, begin_m, noPage_t hp, if_neg c, if_neg c2, eb, wr_1, wr_n, Bn_0, mset_s, mset_nk, mset_nj, mrow_s, mrow_n, ifeq_s, nar_0, nar_1, isB_0, isB_1, bnd_e, Option.bind_some, gd_true, gd_dec, Bool.true_and, Bool.and_true, Bool.and_self, tn_nI, inb_nI, ifle_t, ifle_f, iflt_t, iflt_f, ifeq_f, if_true, ofN_nI, nI_add, nI_subl, li_0, li_1, li_2, li_3, li_4, li_5, li_6, li_7, li_8, li_9, li_10, li_11, li_12, li_13, li_14, li_15, li_16, li_17, li_18, li_19, li_20, li_21, li_22, li_23, li_24, li_25, li_26, li_27, li_28, li_29, li_30, li_31, li_32, li_60, li_63, li_64, li_80, li_100, li_128, li_160, li_320, li_511, li_512, li_1600, li_1700, li_2000, li_2048, li_32000, li_2147483647]; repeat (refine js ?_; simp (disch := omega) only [begin_m, noPage_t hp, if_neg c, if_neg c2, eb, wr_1, wr_n, Bn_0, mset_s, mset_nk, mset_nj, mrow_s, mrow_n, ifeq_s, nar_0, nar_1, isB_0, isB_1, bnd_e, Option.bind_some, gd_true, gd_dec, Bool.true_and, Bool.and_true, Bool.and_self, tn_nI, inb_nI, ifle_t, ifle_f, iflt_t, iflt_f, ifeq_f, if_true, ofN_nI, nI_add, nI_subl, li_0, li_1, li_2, li_3, li_4, li_5, li_6, li_7, li_8, li_9, li_10, li_11, li_12, li_13, li_14, li_15, li_16, li_17, li_18, li_19, li_20, li_21, li_22, li_23, li_24, li_25, li_26, li_27, li_28, li_29, li_30, li_31, li_32, li_60, li_63, li_64, li_80, li_100, li_128, li_160, li_320, li_511, li_512, li_1600, li_1700, li_2000, li_2048, li_32000, li_2147483647])
  have e0 := isKind_t (M := Bg R) (k' := 2) hp (by rw [Bg_a _ (by omega)]; exact n3) (by omega) (by omega)
  by_cases kp : kd p = 2
  · rw [if_pos kp] at e0
    rw [kp] at n3 d3
    obtain ⟨o1, o2⟩ := ip.2.2.2.2.2.2.1 (by omega)
    have oe : oI (ow p) = nI (ow p) := by unfold oI; rw [if_pos o1]
    rw [oe] at n4 d4
    have n5s := (hM.2 (ow p) o1).2.2.1
    have d5s := (hC.2 (ow p) o1).2.2.1
    have is := (hI.1 (ow p) o1).2.1
    have d8' := d8 kp (by omega)
    have he := ip.2.2.2.1
    by_cases so : st (ow p) = 1
    · rw [so] at n5s d5s
      by_cases ev : et p = v
      · right
        rw [ev] at n7 d8'
        refine ⟨p, N, hp, N1, N2, rfl, rfl, kp, o1, o2, so, ev, ?_, ?_⟩
        · simp (disch := omega) only [fX5_refusalOfRun, isPage_t hp, fX5_homeOf, isPg_p, d3, d4, d5s, d8', ifeq_s, mset_s, mset_nk, mset_nj, mrow_s, mrow_n, ifeq_s, nar_0, nar_1, isB_0, isB_1, bnd_e, Option.bind_some, gd_true, gd_dec, Bool.true_and, Bool.and_true, Bool.and_self, tn_nI, inb_nI, ifle_t, ifle_f, iflt_t, iflt_f, ifeq_f, if_true, ofN_nI, nI_add, nI_subl, li_0, li_1, li_2, li_3, li_4, li_5, li_6, li_7, li_8, li_9, li_10, li_11, li_12, li_13, li_14, li_15, li_16, li_17, li_18, li_19, li_20, li_21, li_22, li_23, li_24, li_25, li_26, li_27, li_28, li_29, li_30, li_31, li_32, li_60, li_63, li_64, li_80, li_100, li_128, li_160, li_320, li_511, li_512, li_1600, li_1700, li_2000, li_2048, li_32000, li_2147483647]; repeat (refine js ?_; simp (disch := omega) only [isPage_t hp, fX5_homeOf, isPg_p, d3, d4, d5s, d8', ifeq_s, mset_s, mset_nk, mset_nj, mrow_s, mrow_n, ifeq_s, nar_0, nar_1, isB_0, isB_1, bnd_e, Option.bind_some, gd_true, gd_dec, Bool.true_and, Bool.and_true, Bool.and_self, tn_nI, inb_nI, ifle_t, ifle_f, iflt_t, iflt_f, ifeq_f, if_true, ofN_nI, nI_add, nI_subl, li_0, li_1, li_2, li_3, li_4, li_5, li_6, li_7, li_8, li_9, li_10, li_11, li_12, li_13, li_14, li_15, li_16, li_17, li_18, li_19, li_20, li_21, li_22, li_23, li_24, li_25, li_26, li_27, li_28, li_29, li_30, li_31, li_32, li_60, li_63, li_64, li_80, li_100, li_128, li_160, li_320, li_511, li_512, li_1600, li_1700, li_2000, li_2048, li_32000, li_2147483647])
        · simp (disch := omega) only [fX6_wantThread, begin_m, noPage_t hp, wrong_0, e0, Bg_0, Bg_a, n4, n5s, n7, ifeq_s, mset_s, mset_nk, mset_nj, mrow_s, mrow_n, ifeq_s, nar_0, nar_1, isB_0, isB_1, bnd_e, Option.bind_some, gd_true, gd_dec, Bool.true_and, Bool.and_true, Bool.and_self, tn_nI, inb_nI, ifle_t, ifle_f, iflt_t, iflt_f, ifeq_f, if_true, ofN_nI, nI_add, nI_subl, li_0, li_1, li_2, li_3, li_4, li_5, li_6, li_7, li_8, li_9, li_10, li_11, li_12, li_13, li_14, li_15, li_16, li_17, li_18, li_19, li_20, li_21, li_22, li_23, li_24, li_25, li_26, li_27, li_28, li_29, li_30, li_31, li_32, li_60, li_63, li_64, li_80, li_100, li_128, li_160, li_320, li_511, li_512, li_1600, li_1700, li_2000, li_2048, li_32000, li_2147483647]; repeat (refine js ?_; simp (disch := omega) only [begin_m, noPage_t hp, wrong_0, e0, Bg_0, Bg_a, n4, n5s, n7, ifeq_s, mset_s, mset_nk, mset_nj, mrow_s, mrow_n, ifeq_s, nar_0, nar_1, isB_0, isB_1, bnd_e, Option.bind_some, gd_true, gd_dec, Bool.true_and, Bool.and_true, Bool.and_self, tn_nI, inb_nI, ifle_t, ifle_f, iflt_t, iflt_f, ifeq_f, if_true, ofN_nI, nI_add, nI_subl, li_0, li_1, li_2, li_3, li_4, li_5, li_6, li_7, li_8, li_9, li_10, li_11, li_12, li_13, li_14, li_15, li_16, li_17, li_18, li_19, li_20, li_21, li_22, li_23, li_24, li_25, li_26, li_27, li_28, li_29, li_30, li_31, li_32, li_60, li_63, li_64, li_80, li_100, li_128, li_160, li_320, li_511, li_512, li_1600, li_1700, li_2000, li_2048, li_32000, li_2147483647])
      · left
        refine ⟨6, by omega, by omega, ?_, ?_⟩
        · simp (disch := omega) only [fX5_refusalOfRun, isPage_t hp, fX5_homeOf, isPg_p, d3, d4, d5s, d8', mset_s, mset_nk, mset_nj, mrow_s, mrow_n, ifeq_s, nar_0, nar_1, isB_0, isB_1, bnd_e, Option.bind_some, gd_true, gd_dec, Bool.true_and, Bool.and_true, Bool.and_self, tn_nI, inb_nI, ifle_t, ifle_f, iflt_t, iflt_f, ifeq_f, if_true, ofN_nI, nI_add, nI_subl, li_0, li_1, li_2, li_3, li_4, li_5, li_6, li_7, li_8, li_9, li_10, li_11, li_12, li_13, li_14, li_15, li_16, li_17, li_18, li_19, li_20, li_21, li_22, li_23, li_24, li_25, li_26, li_27, li_28, li_29, li_30, li_31, li_32, li_60, li_63, li_64, li_80, li_100, li_128, li_160, li_320, li_511, li_512, li_1600, li_1700, li_2000, li_2048, li_32000, li_2147483647]; repeat (refine js ?_; simp (disch := omega) only [isPage_t hp, fX5_homeOf, isPg_p, d3, d4, d5s, d8', mset_s, mset_nk, mset_nj, mrow_s, mrow_n, ifeq_s, nar_0, nar_1, isB_0, isB_1, bnd_e, Option.bind_some, gd_true, gd_dec, Bool.true_and, Bool.and_true, Bool.and_self, tn_nI, inb_nI, ifle_t, ifle_f, iflt_t, iflt_f, ifeq_f, if_true, ofN_nI, nI_add, nI_subl, li_0, li_1, li_2, li_3, li_4, li_5, li_6, li_7, li_8, li_9, li_10, li_11, li_12, li_13, li_14, li_15, li_16, li_17, li_18, li_19, li_20, li_21, li_22, li_23, li_24, li_25, li_26, li_27, li_28, li_29, li_30, li_31, li_32, li_60, li_63, li_64, li_80, li_100, li_128, li_160, li_320, li_511, li_512, li_1600, li_1700, li_2000, li_2048, li_32000, li_2147483647])
        · simp (disch := omega) only [fX6_wantThread, begin_m, noPage_t hp, wrong_0, e0, Bg_0, Bg_a, n4, n5s, n7, wr_1, mset_s, mset_nk, mset_nj, mrow_s, mrow_n, ifeq_s, nar_0, nar_1, isB_0, isB_1, bnd_e, Option.bind_some, gd_true, gd_dec, Bool.true_and, Bool.and_true, Bool.and_self, tn_nI, inb_nI, ifle_t, ifle_f, iflt_t, iflt_f, ifeq_f, if_true, ofN_nI, nI_add, nI_subl, li_0, li_1, li_2, li_3, li_4, li_5, li_6, li_7, li_8, li_9, li_10, li_11, li_12, li_13, li_14, li_15, li_16, li_17, li_18, li_19, li_20, li_21, li_22, li_23, li_24, li_25, li_26, li_27, li_28, li_29, li_30, li_31, li_32, li_60, li_63, li_64, li_80, li_100, li_128, li_160, li_320, li_511, li_512, li_1600, li_1700, li_2000, li_2048, li_32000, li_2147483647]; repeat (refine js ?_; simp (disch := omega) only [begin_m, noPage_t hp, wrong_0, e0, Bg_0, Bg_a, n4, n5s, n7, wr_1, mset_s, mset_nk, mset_nj, mrow_s, mrow_n, ifeq_s, nar_0, nar_1, isB_0, isB_1, bnd_e, Option.bind_some, gd_true, gd_dec, Bool.true_and, Bool.and_true, Bool.and_self, tn_nI, inb_nI, ifle_t, ifle_f, iflt_t, iflt_f, ifeq_f, if_true, ofN_nI, nI_add, nI_subl, li_0, li_1, li_2, li_3, li_4, li_5, li_6, li_7, li_8, li_9, li_10, li_11, li_12, li_13, li_14, li_15, li_16, li_17, li_18, li_19, li_20, li_21, li_22, li_23, li_24, li_25, li_26, li_27, li_28, li_29, li_30, li_31, li_32, li_60, li_63, li_64, li_80, li_100, li_128, li_160, li_320, li_511, li_512, li_1600, li_1700, li_2000, li_2048, li_32000, li_2147483647])
    · left
      refine ⟨4, by omega, by omega, ?_, ?_⟩
      · simp (disch := omega) only [fX5_refusalOfRun, isPage_t hp, fX5_homeOf, isPg_p, d3, d4, d5s, d8', mset_s, mset_nk, mset_nj, mrow_s, mrow_n, ifeq_s, nar_0, nar_1, isB_0, isB_1, bnd_e, Option.bind_some, gd_true, gd_dec, Bool.true_and, Bool.and_true, Bool.and_self, tn_nI, inb_nI, ifle_t, ifle_f, iflt_t, iflt_f, ifeq_f, if_true, ofN_nI, nI_add, nI_subl, li_0, li_1, li_2, li_3, li_4, li_5, li_6, li_7, li_8, li_9, li_10, li_11, li_12, li_13, li_14, li_15, li_16, li_17, li_18, li_19, li_20, li_21, li_22, li_23, li_24, li_25, li_26, li_27, li_28, li_29, li_30, li_31, li_32, li_60, li_63, li_64, li_80, li_100, li_128, li_160, li_320, li_511, li_512, li_1600, li_1700, li_2000, li_2048, li_32000, li_2147483647]; repeat (refine js ?_; simp (disch := omega) only [isPage_t hp, fX5_homeOf, isPg_p, d3, d4, d5s, d8', mset_s, mset_nk, mset_nj, mrow_s, mrow_n, ifeq_s, nar_0, nar_1, isB_0, isB_1, bnd_e, Option.bind_some, gd_true, gd_dec, Bool.true_and, Bool.and_true, Bool.and_self, tn_nI, inb_nI, ifle_t, ifle_f, iflt_t, iflt_f, ifeq_f, if_true, ofN_nI, nI_add, nI_subl, li_0, li_1, li_2, li_3, li_4, li_5, li_6, li_7, li_8, li_9, li_10, li_11, li_12, li_13, li_14, li_15, li_16, li_17, li_18, li_19, li_20, li_21, li_22, li_23, li_24, li_25, li_26, li_27, li_28, li_29, li_30, li_31, li_32, li_60, li_63, li_64, li_80, li_100, li_128, li_160, li_320, li_511, li_512, li_1600, li_1700, li_2000, li_2048, li_32000, li_2147483647])
      · simp (disch := omega) only [fX6_wantThread, begin_m, noPage_t hp, wrong_0, e0, Bg_0, Bg_a, n4, n5s, n7, wr_1, wr_n, Bn_0, mset_s, mset_nk, mset_nj, mrow_s, mrow_n, ifeq_s, nar_0, nar_1, isB_0, isB_1, bnd_e, Option.bind_some, gd_true, gd_dec, Bool.true_and, Bool.and_true, Bool.and_self, tn_nI, inb_nI, ifle_t, ifle_f, iflt_t, iflt_f, ifeq_f, if_true, ofN_nI, nI_add, nI_subl, li_0, li_1, li_2, li_3, li_4, li_5, li_6, li_7, li_8, li_9, li_10, li_11, li_12, li_13, li_14, li_15, li_16, li_17, li_18, li_19, li_20, li_21, li_22, li_23, li_24, li_25, li_26, li_27, li_28, li_29, li_30, li_31, li_32, li_60, li_63, li_64, li_80, li_100, li_128, li_160, li_320, li_511, li_512, li_1600, li_1700, li_2000, li_2048, li_32000, li_2147483647]; repeat (refine js ?_; simp (disch := omega) only [begin_m, noPage_t hp, wrong_0, e0, Bg_0, Bg_a, n4, n5s, n7, wr_1, wr_n, Bn_0, mset_s, mset_nk, mset_nj, mrow_s, mrow_n, ifeq_s, nar_0, nar_1, isB_0, isB_1, bnd_e, Option.bind_some, gd_true, gd_dec, Bool.true_and, Bool.and_true, Bool.and_self, tn_nI, inb_nI, ifle_t, ifle_f, iflt_t, iflt_f, ifeq_f, if_true, ofN_nI, nI_add, nI_subl, li_0, li_1, li_2, li_3, li_4, li_5, li_6, li_7, li_8, li_9, li_10, li_11, li_12, li_13, li_14, li_15, li_16, li_17, li_18, li_19, li_20, li_21, li_22, li_23, li_24, li_25, li_26, li_27, li_28, li_29, li_30, li_31, li_32, li_60, li_63, li_64, li_80, li_100, li_128, li_160, li_320, li_511, li_512, li_1600, li_1700, li_2000, li_2048, li_32000, li_2147483647])
  · left
    rw [if_neg kp] at e0
    have kl := ip.1
    refine ⟨3, by omega, by omega, ?_, ?_⟩
    · simp (disch := omega) only [fX5_refusalOfRun, isPage_t hp, isPg_p, d3, mset_s, mset_nk, mset_nj, mrow_s, mrow_n, ifeq_s, nar_0, nar_1, isB_0, isB_1, bnd_e, Option.bind_some, gd_true, gd_dec, Bool.true_and, Bool.and_true, Bool.and_self, tn_nI, inb_nI, ifle_t, ifle_f, iflt_t, iflt_f, ifeq_f, if_true, ofN_nI, nI_add, nI_subl, li_0, li_1, li_2, li_3, li_4, li_5, li_6, li_7, li_8, li_9, li_10, li_11, li_12, li_13, li_14, li_15, li_16, li_17, li_18, li_19, li_20, li_21, li_22, li_23, li_24, li_25, li_26, li_27, li_28, li_29, li_30, li_31, li_32, li_60, li_63, li_64, li_80, li_100, li_128, li_160, li_320, li_511, li_512, li_1600, li_1700, li_2000, li_2048, li_32000, li_2147483647]; repeat (refine js ?_; simp (disch := omega) only [isPage_t hp, isPg_p, d3, mset_s, mset_nk, mset_nj, mrow_s, mrow_n, ifeq_s, nar_0, nar_1, isB_0, isB_1, bnd_e, Option.bind_some, gd_true, gd_dec, Bool.true_and, Bool.and_true, Bool.and_self, tn_nI, inb_nI, ifle_t, ifle_f, iflt_t, iflt_f, ifeq_f, if_true, ofN_nI, nI_add, nI_subl, li_0, li_1, li_2, li_3, li_4, li_5, li_6, li_7, li_8, li_9, li_10, li_11, li_12, li_13, li_14, li_15, li_16, li_17, li_18, li_19, li_20, li_21, li_22, li_23, li_24, li_25, li_26, li_27, li_28, li_29, li_30, li_31, li_32, li_60, li_63, li_64, li_80, li_100, li_128, li_160, li_320, li_511, li_512, li_1600, li_1700, li_2000, li_2048, li_32000, li_2147483647])
    · simp (disch := omega) only [fX6_wantThread, begin_m, noPage_t hp, wrong_0, e0, Bg_0, Bg_a, wr_1, wr_n, Bn_0, mset_s, mset_nk, mset_nj, mrow_s, mrow_n, ifeq_s, nar_0, nar_1, isB_0, isB_1, bnd_e, Option.bind_some, gd_true, gd_dec, Bool.true_and, Bool.and_true, Bool.and_self, tn_nI, inb_nI, ifle_t, ifle_f, iflt_t, iflt_f, ifeq_f, if_true, ofN_nI, nI_add, nI_subl, li_0, li_1, li_2, li_3, li_4, li_5, li_6, li_7, li_8, li_9, li_10, li_11, li_12, li_13, li_14, li_15, li_16, li_17, li_18, li_19, li_20, li_21, li_22, li_23, li_24, li_25, li_26, li_27, li_28, li_29, li_30, li_31, li_32, li_60, li_63, li_64, li_80, li_100, li_128, li_160, li_320, li_511, li_512, li_1600, li_1700, li_2000, li_2048, li_32000, li_2147483647]; repeat (refine js ?_; simp (disch := omega) only [begin_m, noPage_t hp, wrong_0, e0, Bg_0, Bg_a, wr_1, wr_n, Bn_0, mset_s, mset_nk, mset_nj, mrow_s, mrow_n, ifeq_s, nar_0, nar_1, isB_0, isB_1, bnd_e, Option.bind_some, gd_true, gd_dec, Bool.true_and, Bool.and_true, Bool.and_self, tn_nI, inb_nI, ifle_t, ifle_f, iflt_t, iflt_f, ifeq_f, if_true, ofN_nI, nI_add, nI_subl, li_0, li_1, li_2, li_3, li_4, li_5, li_6, li_7, li_8, li_9, li_10, li_11, li_12, li_13, li_14, li_15, li_16, li_17, li_18, li_19, li_20, li_21, li_22, li_23, li_24, li_25, li_26, li_27, li_28, li_29, li_30, li_31, li_32, li_60, li_63, li_64, li_80, li_100, li_128, li_160, li_320, li_511, li_512, li_1600, li_1700, li_2000, li_2048, li_32000, li_2147483647])
/-- a thread is about to run -/
theorem RU_start {C R : Mem} {kd ow st md et lg : Nat → Nat} {tb en rt : Nat → Nat → Nat} (hM : RM R kd ow st md et lg tb en rt) (hC : RC C R 20 kd ow st md et lg tb en rt) (hI : IV kd ow st md et lg tb en rt) {p : Nat} (hp : p < 20) (kp : kd p = 2) (ko : kd (ow p) = 1) (so : st (ow p) = 1) : RU C (mset (Bg R) 15 p (nI 0)) p (ow p) := by
  have q1 := RQ_Bg ⟨hM, hC⟩ hI
  have q2 : RQ C (Bg R) p kd ow st md et lg tb en rt := by
    refine ⟨q1.1, q1.2.1, fun q hq => ?_⟩
    obtain ⟨a1, a2, a3, a4, a5, a6, a7, a8, a9, a10, a11, a12⟩ := q1.2.2 q hq
    exact ⟨a1, a2, a3, a4, a5, a6, a7, a8, a9, a10, fun k _ => a11 k (by omega), fun k _ => a12 k (by omega)⟩
  have q3 := RQ_et (v := 0) q2 (IV85 hI) hp (Or.inr rfl)
  refine ⟨kd, ow, st, md, up et p 0, lg, tb, en, rt, RW_of q3, IV_et hI _ (fun q hq => ?_), kp, rfl, ko, so, up_s _ _ _⟩
  by_cases e' : q = p
  · rw [e', up_s]; omega
  · rw [up_n _ _ e']; exact (hI.1 q hq).2.2.2.1
theorem sim_enter {C R : Mem} (h : Rel C R) (x y z w : Int32) : ∃ r C' R', fX5_enter C x y z w = some (r, C') ∧ fX6_enter R x y z w = some (r, R') ∧ Rel C' R' := by
  obtain ⟨kd, ow, st, md, et, lg, tb, en, rt, hM, hC, hI⟩ := id h
  rcases want_e hM hC hI x w (v := 0) (by omega) with ⟨n, n1, n2, e1, e2⟩ | ⟨p, N, hp, N1, N2, rfl, rfl, kp, o1, o2, so, ev, e1, e2⟩
  · refine ⟨nI n, C, Bn R n, ?_, ?_, Rel_Bn h n⟩
    · simp (disch := omega) only [fX5_enter, e1, mset_s, mset_nk, mset_nj, mrow_s, mrow_n, ifeq_s, nar_0, nar_1, isB_0, isB_1, bnd_e, Option.bind_some, gd_true, gd_dec, Bool.true_and, Bool.and_true, Bool.and_self, tn_nI, inb_nI, ifle_t, ifle_f, iflt_t, iflt_f, ifeq_f, if_true, ofN_nI, nI_add, nI_subl, li_0, li_1, li_2, li_3, li_4, li_5, li_6, li_7, li_8, li_9, li_10, li_11, li_12, li_13, li_14, li_15, li_16, li_17, li_18, li_19, li_20, li_21, li_22, li_23, li_24, li_25, li_26, li_27, li_28, li_29, li_30, li_31, li_32, li_60, li_63, li_64, li_80, li_100, li_128, li_160, li_320, li_511, li_512, li_1600, li_1700, li_2000, li_2048, li_32000, li_2147483647]; repeat (refine js ?_; simp (disch := omega) only [e1, mset_s, mset_nk, mset_nj, mrow_s, mrow_n, ifeq_s, nar_0, nar_1, isB_0, isB_1, bnd_e, Option.bind_some, gd_true, gd_dec, Bool.true_and, Bool.and_true, Bool.and_self, tn_nI, inb_nI, ifle_t, ifle_f, iflt_t, iflt_f, ifeq_f, if_true, ofN_nI, nI_add, nI_subl, li_0, li_1, li_2, li_3, li_4, li_5, li_6, li_7, li_8, li_9, li_10, li_11, li_12, li_13, li_14, li_15, li_16, li_17, li_18, li_19, li_20, li_21, li_22, li_23, li_24, li_25, li_26, li_27, li_28, li_29, li_30, li_31, li_32, li_60, li_63, li_64, li_80, li_100, li_128, li_160, li_320, li_511, li_512, li_1600, li_1700, li_2000, li_2048, li_32000, li_2147483647])
    · simp (disch := omega) only [fX6_enter, e2, Bn_0, mset_s, mset_nk, mset_nj, mrow_s, mrow_n, ifeq_s, nar_0, nar_1, isB_0, isB_1, bnd_e, Option.bind_some, gd_true, gd_dec, Bool.true_and, Bool.and_true, Bool.and_self, tn_nI, inb_nI, ifle_t, ifle_f, iflt_t, iflt_f, ifeq_f, if_true, ofN_nI, nI_add, nI_subl, li_0, li_1, li_2, li_3, li_4, li_5, li_6, li_7, li_8, li_9, li_10, li_11, li_12, li_13, li_14, li_15, li_16, li_17, li_18, li_19, li_20, li_21, li_22, li_23, li_24, li_25, li_26, li_27, li_28, li_29, li_30, li_31, li_32, li_60, li_63, li_64, li_80, li_100, li_128, li_160, li_320, li_511, li_512, li_1600, li_1700, li_2000, li_2048, li_32000, li_2147483647]; repeat (refine js ?_; simp (disch := omega) only [e2, Bn_0, mset_s, mset_nk, mset_nj, mrow_s, mrow_n, ifeq_s, nar_0, nar_1, isB_0, isB_1, bnd_e, Option.bind_some, gd_true, gd_dec, Bool.true_and, Bool.and_true, Bool.and_self, tn_nI, inb_nI, ifle_t, ifle_f, iflt_t, iflt_f, ifeq_f, if_true, ofN_nI, nI_add, nI_subl, li_0, li_1, li_2, li_3, li_4, li_5, li_6, li_7, li_8, li_9, li_10, li_11, li_12, li_13, li_14, li_15, li_16, li_17, li_18, li_19, li_20, li_21, li_22, li_23, li_24, li_25, li_26, li_27, li_28, li_29, li_30, li_31, li_32, li_60, li_63, li_64, li_80, li_100, li_128, li_160, li_320, li_511, li_512, li_1600, li_1700, li_2000, li_2048, li_32000, li_2147483647])
  have u := RU_start hM hC hI hp kp o2 so
  have d7 : C (33 + 5 * p) 7 = R 14 p := (hC.2 p hp).2.2.2.2.2.2.2.2.2.1 kp
  obtain ⟨C1, hC1⟩ : ∃ C1, C1 = mset (mset (mset (mrow C (33 + 5 * p + 3) (fun j => if j < 4 then nI 0 else C (33 + 5 * p + 3) j)) (33 + 5 * p + 3) 0 y) (33 + 5 * p + 3) 1 z) (33 + 5 * p) 9 (R 14 p) := ⟨_, rfl⟩
  obtain ⟨R1, hR1⟩ : ∃ R1, R1 = mset (mset (mset (mset (mset (mset (Bg R) 0 20 (nI p)) 17 0 y) 17 1 z) 17 2 (nI 0)) 17 3 (nI 0)) 0 23 (R 14 p) := ⟨_, rfl⟩
  have unC : fX5_enter C (nI p) y z (nI N) = fX1_run C1 (33 + 5 * p) (nI N) := by
    have q7 : ∀ f : Mem, f (33 + 5 * p) 7 = C (33 + 5 * p) 7 → f (33 + 5 * p) 7 = R 14 p := fun f hf => by rw [hf, d7]
    unfold fX5_enter
    rw [li_0, e1, Option.bind_some, bnd_e, if_pos rfl, gd_t (by rw [inb_nI (by omega)]; simp [hp]), bnd_e, tn_nI (by omega), gd_t (isPg_p hp), fill_l (isI_p3 hp) (lnC_p3 hp), Option.bind_some, gd_t (isPg_p hp), gd_t (by rw [isI_p3 hp, lnC_p3 hp, inb_nI (by omega)]; decide), bnd_e, gd_t (isPg_p hp), li_1, gd_t (by rw [isI_p3 hp, lnC_p3 hp, inb_nI (by omega)]; decide), bnd_e, tn_nI (by omega), tn_nI (by omega), gd_t (isPg_p hp), bnd_e, gd_t (isPg_p hp), bnd_e]
    rw [mset_nk _ _ _ (by omega), mset_nk _ _ _ (by omega), mrow_n _ _ (by omega)]
    dsimp only
    rw [d7, ← hC1]
    cases fX1_run C1 (33 + 5 * p) (nI N) <;> rfl
  have unM : fX6_enter R (nI p) y z (nI N) = fX6_run R1 (nI N) := by
    unfold fX6_enter
    rw [li_0, e2, Option.bind_some, bnd_e, Bg_0, if_pos (nI_le (Nat.le_refl _) (by omega)), bnd_e, gd_t (by rw [inb_nI (by omega)]; decide), bnd_e, li_1, li_2, li_3, gd_t (by rw [inb_nI (by omega)]; decide), bnd_e, gd_t (by rw [inb_nI (by omega)]; decide), bnd_e, gd_t (by rw [inb_nI (by omega)]; decide), bnd_e, gd_t (by rw [inb_nI (by omega)]; simp [hp]), bnd_e, tn_nI (by omega), tn_nI (by omega), tn_nI (by omega), tn_nI (by omega), tn_nI (by omega), bnd_e]
    rw [mset_nk _ _ _ (by omega), mset_nk _ _ _ (by omega), mset_nk _ _ _ (by omega), mset_nk _ _ _ (by omega), mset_nk _ _ _ (by omega), Bg_a _ (by omega), ← hR1]
    cases fX6_run R1 (nI N) <;> rfl
  rw [unC, unM]
  refine sim_run (s := ow p) (RU_fr u (fun a b h1 h2 h3 => ?_) (fun a b h1 h2 => ?_)) hp o1 (fun j hj => ?_) ?_ ?_ N2
  · rw [hC1, mset_get, if_neg (by omega), mset_nk _ _ _ h2, mset_nk _ _ _ h2, mrow_n _ _ h2]
  · by_cases e : a = 15 ∧ b = p
    · rw [e.1, e.2, mset_s, mset_s]
    · rw [mset_get, mset_get, if_neg e, if_neg e, hR1, mset_nk _ _ _ h2, mset_nk _ _ _ h1, mset_nk _ _ _ h1, mset_nk _ _ _ h1, mset_nk _ _ _ h1, mset_nk _ _ _ h2]
  · rw [hC1, hR1]
    have e1 : ¬ 33 + 5 * p + 3 = 33 + 5 * p := by omega
    have hj' : j = 0 ∨ j = 1 ∨ j = 2 ∨ j = 3 := by omega
    rcases hj' with rfl | rfl | rfl | rfl <;> simp [mset_get, mrow_get]
  · rw [hC1, hR1, mset_s, mset_s]
  · rw [hR1, mset_nj _ _ _ (by omega), mset_nk _ _ _ (by omega), mset_nk _ _ _ (by omega), mset_nk _ _ _ (by omega), mset_nk _ _ _ (by omega), mset_s]
theorem sim_resume {C R : Mem} (h : Rel C R) (x w : Int32) : ∃ r C' R', fX5_resume C x w = some (r, C') ∧ fX6_resume R x w = some (r, R') ∧ Rel C' R' := by
  obtain ⟨kd, ow, st, md, et, lg, tb, en, rt, hM, hC, hI⟩ := id h
  rcases want_e hM hC hI x w (v := 1) (by omega) with ⟨n, n1, n2, e1, e2⟩ | ⟨p, N, hp, N1, N2, rfl, rfl, kp, o1, o2, so, ev, e1, e2⟩
  · refine ⟨nI n, C, Bn R n, ?_, ?_, Rel_Bn h n⟩
    · simp (disch := omega) only [fX5_resume, e1, mset_s, mset_nk, mset_nj, mrow_s, mrow_n, ifeq_s, nar_0, nar_1, isB_0, isB_1, bnd_e, Option.bind_some, gd_true, gd_dec, Bool.true_and, Bool.and_true, Bool.and_self, tn_nI, inb_nI, ifle_t, ifle_f, iflt_t, iflt_f, ifeq_f, if_true, ofN_nI, nI_add, nI_subl, li_0, li_1, li_2, li_3, li_4, li_5, li_6, li_7, li_8, li_9, li_10, li_11, li_12, li_13, li_14, li_15, li_16, li_17, li_18, li_19, li_20, li_21, li_22, li_23, li_24, li_25, li_26, li_27, li_28, li_29, li_30, li_31, li_32, li_60, li_63, li_64, li_80, li_100, li_128, li_160, li_320, li_511, li_512, li_1600, li_1700, li_2000, li_2048, li_32000, li_2147483647]; repeat (refine js ?_; simp (disch := omega) only [e1, mset_s, mset_nk, mset_nj, mrow_s, mrow_n, ifeq_s, nar_0, nar_1, isB_0, isB_1, bnd_e, Option.bind_some, gd_true, gd_dec, Bool.true_and, Bool.and_true, Bool.and_self, tn_nI, inb_nI, ifle_t, ifle_f, iflt_t, iflt_f, ifeq_f, if_true, ofN_nI, nI_add, nI_subl, li_0, li_1, li_2, li_3, li_4, li_5, li_6, li_7, li_8, li_9, li_10, li_11, li_12, li_13, li_14, li_15, li_16, li_17, li_18, li_19, li_20, li_21, li_22, li_23, li_24, li_25, li_26, li_27, li_28, li_29, li_30, li_31, li_32, li_60, li_63, li_64, li_80, li_100, li_128, li_160, li_320, li_511, li_512, li_1600, li_1700, li_2000, li_2048, li_32000, li_2147483647])
    · simp (disch := omega) only [fX6_resume, e2, Bn_0, mset_s, mset_nk, mset_nj, mrow_s, mrow_n, ifeq_s, nar_0, nar_1, isB_0, isB_1, bnd_e, Option.bind_some, gd_true, gd_dec, Bool.true_and, Bool.and_true, Bool.and_self, tn_nI, inb_nI, ifle_t, ifle_f, iflt_t, iflt_f, ifeq_f, if_true, ofN_nI, nI_add, nI_subl, li_0, li_1, li_2, li_3, li_4, li_5, li_6, li_7, li_8, li_9, li_10, li_11, li_12, li_13, li_14, li_15, li_16, li_17, li_18, li_19, li_20, li_21, li_22, li_23, li_24, li_25, li_26, li_27, li_28, li_29, li_30, li_31, li_32, li_60, li_63, li_64, li_80, li_100, li_128, li_160, li_320, li_511, li_512, li_1600, li_1700, li_2000, li_2048, li_32000, li_2147483647]; repeat (refine js ?_; simp (disch := omega) only [e2, Bn_0, mset_s, mset_nk, mset_nj, mrow_s, mrow_n, ifeq_s, nar_0, nar_1, isB_0, isB_1, bnd_e, Option.bind_some, gd_true, gd_dec, Bool.true_and, Bool.and_true, Bool.and_self, tn_nI, inb_nI, ifle_t, ifle_f, iflt_t, iflt_f, ifeq_f, if_true, ofN_nI, nI_add, nI_subl, li_0, li_1, li_2, li_3, li_4, li_5, li_6, li_7, li_8, li_9, li_10, li_11, li_12, li_13, li_14, li_15, li_16, li_17, li_18, li_19, li_20, li_21, li_22, li_23, li_24, li_25, li_26, li_27, li_28, li_29, li_30, li_31, li_32, li_60, li_63, li_64, li_80, li_100, li_128, li_160, li_320, li_511, li_512, li_1600, li_1700, li_2000, li_2048, li_32000, li_2147483647])
  have u := RU_start hM hC hI hp kp o2 so
  obtain ⟨kr, kx⟩ := (hC.2 p hp).2.2.2.2.2.2.2.2.2.2.2 kp (by omega) ev
  obtain ⟨F, hF⟩ : ∃ F : Int32 → Mem → Option (Int32 × Mem), F = fun (x7 : Int32) (M8 : Mem) => gd (inb (((5 : Int32) * nI p) + (4 : Int32)) 100) (bnd (M8 16 (((5 : Int32) * nI p) + (4 : Int32)).toNatClampNeg) (fun x9 => bnd (mset M8 0 23 x9) (fun M10 => (fX6_run M10 (nI N)).bind (fun q11 => some (q11.1, q11.2))))) := ⟨_, rfl⟩
  obtain ⟨R0, hR0⟩ : ∃ R0, R0 = mset (Bg R) 0 20 (nI p) := ⟨_, rfl⟩
  have z16 : R0 16 = R 16 := by rw [hR0, mset_nk _ _ _ (by omega), Bg_a _ (by omega)]
  obtain ⟨R2, a1, a2, a3⟩ := loop_inv (fun n i M => lp_X6_resume_26 (nI p) F n i M) F 4 (fun i M => (∀ a, a ≠ 17 → M a = R0 a) ∧ ∀ j, j < i → M 17 j = R 16 (5 * p + j)) (by omega) (fun n i M hi hp' => by
    obtain ⟨p1, p2⟩ := hp'
    refine ⟨mset M 17 i (R 16 (5 * p + i)), ?_, fun a ha => ?_, fun j hj => ?_⟩
    · have q16 : M 16 = R 16 := by rw [p1 16 (by omega), z16]
      simp (disch := omega) only [lp_X6_resume_26_s, q16, pk_mul, mset_s, mset_nk, mset_nj, mrow_s, mrow_n, ifeq_s, nar_0, nar_1, isB_0, isB_1, bnd_e, jn_e, Option.bind_some, gd_true, gd_dec, Bool.true_and, Bool.and_true, Bool.and_self, tn_nI, inb_nI, ifle_t, ifle_f, iflt_t, iflt_f, ifeq_f, if_true, ofN_nI, nI_add, nI_subl, li_0, li_1, li_2, li_3, li_4, li_5, li_6, li_7, li_8, li_9, li_10, li_11, li_12, li_13, li_14, li_15, li_16, li_17, li_18, li_19, li_20, li_21, li_22, li_23, li_24, li_25, li_26, li_27, li_28, li_29, li_30, li_31, li_32, li_60, li_63, li_64, li_80, li_100, li_128, li_160, li_320, li_511, li_512, li_1600, li_1700, li_2000, li_2048, li_32000, li_2147483647]
    · rw [mset_nk _ _ _ ha, p1 a ha]
    · by_cases e : j = i
      · rw [e, mset_s]
      · rw [mset_nj _ _ _ e, p2 j (by omega)]) (fun n M _ => by simp (disch := omega) only [lp_X6_resume_26_s, mset_s, mset_nk, mset_nj, mrow_s, mrow_n, ifeq_s, nar_0, nar_1, isB_0, isB_1, bnd_e, jn_e, Option.bind_some, gd_true, gd_dec, Bool.true_and, Bool.and_true, Bool.and_self, tn_nI, inb_nI, ifle_t, ifle_f, iflt_t, iflt_f, ifeq_f, if_true, ofN_nI, nI_add, nI_subl, li_0, li_1, li_2, li_3, li_4, li_5, li_6, li_7, li_8, li_9, li_10, li_11, li_12, li_13, li_14, li_15, li_16, li_17, li_18, li_19, li_20, li_21, li_22, li_23, li_24, li_25, li_26, li_27, li_28, li_29, li_30, li_31, li_32, li_60, li_63, li_64, li_80, li_100, li_128, li_160, li_320, li_511, li_512, li_1600, li_1700, li_2000, li_2048, li_32000, li_2147483647]) (M := R0) ⟨fun _ _ => rfl, fun j hj => absurd hj (by omega)⟩
  have w16 : R2 16 = R 16 := by rw [a2 16 (by omega), z16]
  obtain ⟨R1, hR1⟩ : ∃ R1, R1 = mset R2 0 23 (R 16 (5 * p + 4)) := ⟨_, rfl⟩
  have unC : fX5_resume C (nI p) (nI N) = fX1_run C (33 + 5 * p) (nI N) := by
    unfold fX5_resume
    rw [li_1, e1, Option.bind_some, bnd_e, li_0, if_pos rfl, gd_t (by rw [inb_nI (by omega)]; simp [hp]), bnd_e, tn_nI (by omega)]
    cases fX1_run C (33 + 5 * p) (nI N) <;> rfl
  have unM : fX6_resume R (nI p) (nI N) = fX6_run R1 (nI N) := by
    unfold fX6_resume
    rw [li_1, e2, Option.bind_some, bnd_e, Bg_0, li_0, if_pos (nI_le (Nat.le_refl _) (by omega)), bnd_e, ← hR0, jn_e, ← hF, a1, hF]
    show gd _ _ = _
    rw [li_5, li_4, pk_mul, nI_add, gd_t (by rw [inb_nI (by omega)]; simp; omega), bnd_e, tn_nI (by omega), w16, bnd_e, ← hR1]
    cases fX6_run R1 (nI N) <;> rfl
  rw [unC, unM]
  refine sim_run (s := ow p) (RU_fr u (fun a b h1 h2 h3 => rfl) (fun a b h1 h2 => ?_)) hp o1 (fun j hj => ?_) ?_ ?_ N2
  · by_cases e : a = 15 ∧ b = p
    · rw [e.1, e.2, mset_s, mset_s]
    · rw [mset_get, mset_get, if_neg e, if_neg e, hR1, mset_nk _ _ _ h2, a2 a h1, hR0, mset_nk _ _ _ h2]
  · rw [hR1, mset_nk _ _ _ (by omega), a3 j hj]; exact kr j hj
  · rw [hR1, mset_s]; exact kx
  · rw [hR1, mset_nj _ _ _ (by omega), a2 0 (by omega), hR0, mset_s]
