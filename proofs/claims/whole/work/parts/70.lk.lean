/-! The relation while a thread runs; addresses. -/
def RB2 (C R : Mem) : Prop := padOk C ∧ (∀ j, j < 8 → C 134 j = R 1 j) ∧ ∀ f, f < 8 → ∀ j, j < 16 → C (5 + (20 + f)) j = R 2 (16 * f + j)
def RW (C R : Mem) (th : Nat) (kd ow st md et lg : Nat → Nat) (tb en rt : Nat → Nat → Nat) : Prop := RM R kd ow st md et lg tb en rt ∧ RB2 C R ∧ ∀ p, p < 20 → pgC C R th kd ow st md et lg tb en rt p
theorem RW_step {C C' R R' : Mem} {th : Nat} {kd ow st md et lg kd' ow' st' md' et' lg' : Nat → Nat} {tb en rt tb' en' rt' : Nat → Nat → Nat} (h : RW C R th kd ow st md et lg tb en rt) (hl : ∀ q, q < 20 → lg q ≤ 85)
    (hC : ∀ a b, (a = 134 ∨ a = 137 ∨ (25 ≤ a ∧ a < 33)) → C' a b = C a b)
    (hR : ∀ a b, (a = 1 ∨ a = 2 ∨ a = 18 ∨ a = 19) → R' a b = R a b)
    (hq : ∀ q, q < 20 → (untA kd ow st md et lg kd' ow' st' md' et' lg' tb en rt tb' en' rt' q ∧ untR R R' q ∧ untC C C' R R' q) ∨ (pgM R' kd' ow' st' md' et' lg' tb' en' rt' q ∧ pgC C' R' th kd' ow' st' md' et' lg' tb' en' rt' q)) : RW C' R' th kd' ow' st' md' et' lg' tb' en' rt' := by
  obtain ⟨⟨⟨k1, k2⟩, hm⟩, ⟨⟨r1, r4, r5⟩, hc⟩⟩ := h
  refine ⟨⟨⟨fun t ht => ?_, fun j hj => ?_⟩, fun q h20 => ?_⟩, ⟨⟨fun j a b => ?_, fun j hj => ?_, fun f hf j hj => ?_⟩, fun q h20 => ?_⟩⟩
  · rw [hR _ _ (by omega)]; exact k1 t ht
  · rw [hR _ _ (by omega)]; exact k2 j hj
  · rcases hq q h20 with ⟨a, b, c⟩ | ⟨a, b⟩
    · exact pgM_unt (hm q h20) a b
    · exact a
  · rw [hC _ _ (by omega)]; exact r1 j a b
  · rw [hC _ _ (by omega), hR _ _ (by omega)]; exact r4 j hj
  · rw [hC _ _ (by omega), hR _ _ (by omega)]; exact r5 f hf j hj
  · rcases hq q h20 with ⟨a, b, c⟩ | ⟨a, b⟩
    · exact pgC_unt (hc q h20) a c (hl q h20) (fun e => e)
    · exact b
theorem RW_fr {C C' R R' : Mem} {th : Nat} {kd ow st md et lg : Nat → Nat} {tb en rt : Nat → Nat → Nat} (h : RW C R th kd ow st md et lg tb en rt) (hl : ∀ q, q < 20 → lg q ≤ 85)
    (hC : ∀ a b, a ≠ 136 → (a < 138 ∨ 142 < a) → ¬ (a = 33 + 5 * th ∧ (b = 8 ∨ b = 9)) → a ≠ 33 + 5 * th + 3 → ¬ (a = 137 ∧ (b = 0 ∨ b = 15)) → a ≠ 1 → C' a b = C a b)
    (hR : ∀ a b, a ≠ 17 → (a < 20 ∨ 24 < a) → a ≠ 0 → R' a b = R a b) : RW C' R' th kd ow st md et lg tb en rt := by
  obtain ⟨⟨⟨k1, k2⟩, hm⟩, ⟨⟨r1, r4, r5⟩, hc⟩⟩ := h
  refine ⟨⟨⟨fun t ht => ?_, fun j hj => ?_⟩, fun q h20 => ?_⟩, ⟨⟨fun j a b => ?_, fun j hj => ?_, fun f hf j hj => ?_⟩, fun q h20 => ?_⟩⟩
  · rw [hR _ _ (by omega) (by omega) (by omega)]; exact k1 t ht
  · rw [hR _ _ (by omega) (by omega) (by omega)]; exact k2 j hj
  · refine pgM_unt (hm q h20) (untA_rf q) ⟨?_, ?_, ?_, ?_, ?_, ?_, fun j hj => ?_, fun j hj => ?_, fun j hj => ?_⟩ <;> exact hR _ _ (by omega) (by omega) (by omega)
  · rw [hC _ _ (by omega) (by omega) (by omega) (by omega) (by omega) (by omega)]; exact r1 j a b
  · rw [hC _ _ (by omega) (by omega) (by omega) (by omega) (by omega) (by omega), hR _ _ (by omega) (by omega) (by omega)]; exact r4 j hj
  · rw [hC _ _ (by omega) (by omega) (by omega) (by omega) (by omega) (by omega), hR _ _ (by omega) (by omega) (by omega)]; exact r5 f hf j hj
  · have e6 : ∀ j, R' 6 j = R 6 j := fun j => hR _ _ (by omega) (by omega) (by omega)
    have e12 : ∀ j, R' 12 j = R 12 j := fun j => hR _ _ (by omega) (by omega) (by omega)
    have e10 : ∀ j, R' 10 j = R 10 j := fun j => hR _ _ (by omega) (by omega) (by omega)
    have e14 : ∀ j, R' 14 j = R 14 j := fun j => hR _ _ (by omega) (by omega) (by omega)
    have e16 : ∀ j, R' 16 j = R 16 j := fun j => hR _ _ (by omega) (by omega) (by omega)
    obtain ⟨a1, a2, a3, a4, a5, a6, a7, a8, a9, a10, a11, a12⟩ := hc q h20
    refine ⟨?_, ?_, ?_, fun j hj => ?_, fun j hj => ?_, fun j hj => ?_, fun k => ?_, fun k k' j hj => ?_, fun k k' => ⟨?_, fun j hj => ?_⟩, fun k => ?_, fun k n => ?_, fun k n k' => ⟨fun j hj => ?_, ?_⟩⟩
    · rw [hC _ _ (by omega) (by omega) (by omega) (by omega) (by omega) (by omega)]; exact a1
    · rw [hC _ _ (by omega) (by omega) (by omega) (by omega) (by omega) (by omega)]; exact a2
    · rw [hC _ _ (by omega) (by omega) (by omega) (by omega) (by omega) (by omega)]; exact a3
    · rw [hC _ _ (by omega) (by omega) (by omega) (by omega) (by omega) (by omega)]; exact a4 j hj
    · rw [hC _ _ (by omega) (by omega) (by omega) (by omega) (by omega) (by omega)]; exact a5 j hj
    · rw [hC _ _ (by omega) (by omega) (by omega) (by omega) (by omega) (by omega), e6]; exact a6 j hj
    · rw [hC _ _ (by omega) (by omega) (by omega) (by omega) (by omega) (by omega)]; exact a7 k
    · rw [hC _ _ (by omega) (by omega) (by omega) (by omega) (by omega) (by omega), e12]; exact a8 k k' j hj
    · rw [hC _ _ (by omega) (by omega) (by omega) (by omega) (by omega) (by omega)]; exact (a9 k k').1
    · rw [hC _ _ (by omega) (by omega) (by omega) (by omega) (by omega) (by omega), (a9 k k').2 j hj]
      exact chn_congr _ (fun i _ => (e10 _).symm) j hj
    · rw [hC _ _ (by omega) (by omega) (by omega) (by omega) (by omega) (by omega), e14]; exact a10 k
    · rw [hC _ _ (by omega) (by omega) (by omega) (by omega) (by omega) (by omega)]; exact a11 k n
    · rw [hC _ _ (by omega) (by omega) (by omega) (by omega) (by omega) (by omega), e16]; exact (a12 k n k').1 j hj
    · rw [hC _ _ (by omega) (by omega) (by omega) (by omega) (by omega) (by omega), e16]; exact (a12 k n k').2
theorem RW_cl {C R : Mem} {th : Nat} {kd ow st md et lg : Nat → Nat} {tb en rt : Nat → Nat → Nat} (h : RW C R th kd ow st md et lg tb en rt) (hl : ∀ q, q < 20 → lg q ≤ 85) {p k o : Nat} (hp : p < 20) (hk : k ≠ 1 ∧ k ≠ 2) :
    RW (mset (mset C (33 + 5 * p) 0 (nI k)) (33 + 5 * p) 1 (oI o)) (mset (mset R 3 p (nI k)) 4 p (oI o)) th (up kd p k) (up ow p o) st md et lg tb en rt := by
  refine RW_step h hl (fun a b _ => ?_) (fun a b _ => ?_) (fun q hq => ?_)
  · rw [mset_get, mset_get, if_neg (by omega), if_neg (by omega)]
  · rw [mset_get, mset_get, if_neg (by omega), if_neg (by omega)]
  · by_cases e : q = p
    · subst e
      right
      obtain ⟨b1, b2, b3, b4, b5, b6, b7, b8, b9⟩ := h.1.2 q hq
      obtain ⟨a1, a2, a3, a4, a5, a6, -⟩ := h.2.2 q hq
      unfold pgM pgC
      simp (disch := omega) only [up_s, mset_s, mset_nk, mset_nj, mrow_s, mrow_n, ifeq_s, nar_0, nar_1, isB_0, isB_1]
      exact ⟨⟨trivial, trivial, b3, b4, b5, b6, b7, b8, b9⟩, ⟨trivial, trivial, a3, a4, a5, a6, fun e => absurd e hk.1, fun e => absurd e hk.1, fun e => absurd e hk.1, fun e => absurd e hk.2, fun e => absurd e hk.2, fun e => absurd e hk.2⟩⟩
    · left
      refine ⟨⟨up_n _ _ e, up_n _ _ e, rfl, rfl, rfl, rfl, fun _ => rfl, fun _ => rfl, fun _ => rfl⟩, ?_, ?_⟩
      · unfold untR
        simp (disch := omega) only [mset_s, mset_nk, mset_nj, mrow_s, mrow_n, ifeq_s, nar_0, nar_1, isB_0, isB_1]
        simp
      · unfold untC
        simp (disch := omega) only [mset_s, mset_nk, mset_nj, mrow_s, mrow_n, ifeq_s, nar_0, nar_1, isB_0, isB_1]
        simp
theorem RW_en {C R R' : Mem} {th : Nat} {kd ow st md et lg : Nat → Nat} {tb en rt rt' : Nat → Nat → Nat} (h : RW C R th kd ow st md et lg tb en rt) (hl : ∀ q, q < 20 → lg q ≤ 85) {T i e : Nat} (hT : T < 20) (hi : i < 8)
    (r1 : R' 7 (8 * T + i) = eI e) (r2 : e ≠ 0 → R' 8 (8 * T + i) = nI (rt' T i)) (r3 : ∀ a b, a ≠ 7 → a ≠ 8 → R' a b = R a b) (r4 : ∀ b, b ≠ 8 * T + i → R' 7 b = R 7 b ∧ R' 8 b = R 8 b) (r5 : ∀ t j, ¬ (t = T ∧ j = i) → rt' t j = rt t j) :
    RW (mset C (33 + 5 * T + 4) i (cE e (rt' T i))) R' th kd ow st md et lg tb (up2 en T i e) rt' := by
  refine RW_step h hl (fun a b _ => ?_) (fun a b _ => ?_) (fun q hq => ?_)
  · rw [mset_get, if_neg (by omega)]
  · rw [r3 a b (by omega) (by omega)]
  · by_cases c : q = T
    · subst c
      right
      obtain ⟨b1, b2, b3, b4, b5, b6, b7, b8, b9⟩ := h.1.2 q hq
      obtain ⟨a1, a2, a3, a4, a5, a6, a7, a8, a9, a10, a11, a12⟩ := h.2.2 q hq
      have f3 : ∀ a, a ≠ 7 → a ≠ 8 → R' a = R a := fun a h1 h2 => funext (fun b => r3 a b h1 h2)
      unfold pgM pgC
      rw [f3 3 (by omega) (by omega), f3 4 (by omega) (by omega), f3 5 (by omega) (by omega), f3 13 (by omega) (by omega), f3 15 (by omega) (by omega), f3 9 (by omega) (by omega), f3 11 (by omega) (by omega), f3 6 (by omega) (by omega), f3 12 (by omega) (by omega), f3 10 (by omega) (by omega), f3 14 (by omega) (by omega), f3 16 (by omega) (by omega)]
      rw [mset_nk C (a := 33 + 5 * q) _ _ (by omega), mset_nk C (a := 33 + 5 * q + 1) _ _ (by omega), mset_nk C (a := 33 + 5 * q + 2) _ _ (by omega), mset_nk C (a := 33 + 5 * q + 3) _ _ (by omega), mset_nk C (a := 5 + q) _ _ (by omega)]
      refine ⟨⟨b1, b2, b3, b4, b5, b6, b7, fun j hj => ?_, fun j hj hn => ?_⟩, ⟨a1, a2, a3, a4, fun j hj => ?_, a6, a7, a8, a9, a10, a11, a12⟩⟩
      · by_cases d : j = i
        · subst d; rw [up2_s]; exact r1
        · rw [up2_n _ _ (by omega), (r4 _ (by omega)).1]; exact b8 j hj
      · by_cases d : j = i
        · subst d; rw [up2_s] at hn; exact r2 hn
        · rw [up2_n _ _ (by omega)] at hn
          rw [(r4 _ (by omega)).2, r5 _ _ (by omega)]; exact b9 j hj hn
      · by_cases d : j = i
        · subst d; rw [up2_s, mset_s]
        · rw [up2_n _ _ (by omega), mset_nj _ _ _ d, r5 _ _ (by omega)]; exact a5 j hj
    · left
      refine ⟨⟨rfl, rfl, rfl, rfl, rfl, rfl, fun _ => rfl, fun _ => up2_n _ _ (by omega), fun _ => r5 _ _ (by omega)⟩, ?_, ?_⟩
      · unfold untR
        refine ⟨?_, ?_, ?_, ?_, ?_, ?_, fun j hj => ?_, fun j hj => ?_, fun j hj => ?_⟩
        · exact r3 _ _ (by omega) (by omega)
        · exact r3 _ _ (by omega) (by omega)
        · exact r3 _ _ (by omega) (by omega)
        · exact r3 _ _ (by omega) (by omega)
        · exact r3 _ _ (by omega) (by omega)
        · exact r3 _ _ (by omega) (by omega)
        · exact r3 _ _ (by omega) (by omega)
        · exact (r4 _ (by omega)).1
        · exact (r4 _ (by omega)).2
      · unfold untC
        refine ⟨fun j => ?_, fun j => ?_, fun j => ?_, fun j => ?_, fun j => ?_, fun j => ?_, fun j hj => ?_, fun j hj => ?_, fun j hj => ?_, ?_, fun j hj => ?_⟩
        · rw [mset_nk _ _ _ (by omega)]
        · rw [mset_nk _ _ _ (by omega)]
        · rw [mset_nk _ _ _ (by omega)]
        · rw [mset_nk _ _ _ (by omega)]
        · rw [mset_nk _ _ _ (by omega)]
        · rw [mset_nk _ _ _ (by omega)]
        · exact r3 _ _ (by omega) (by omega)
        · exact r3 _ _ (by omega) (by omega)
        · exact r3 _ _ (by omega) (by omega)
        · exact r3 _ _ (by omega) (by omega)
        · exact r3 _ _ (by omega) (by omega)
theorem RW_wd {C C' R R' : Mem} {th : Nat} {kd ow st md et lg : Nat → Nat} {tb en rt : Nat → Nat → Nat} (h : RW C R th kd ow st md et lg tb en rt) (hl : ∀ q, q < 20 → lg q ≤ 85) {p : Nat} (hp : p < 20)
    (c1 : ∀ j, j < 16 → C' (5 + p) j = R' 6 (16 * p + j)) (c2 : ∀ a, a ≠ 5 + p → C' a = C a) (r1 : ∀ j, (j < 16 * p ∨ 16 * p + 16 ≤ j) → R' 6 j = R 6 j) (r2 : ∀ a, a ≠ 6 → R' a = R a) : RW C' R' th kd ow st md et lg tb en rt := by
  refine RW_step h hl (fun a b _ => ?_) (fun a b _ => ?_) (fun q hq => ?_)
  · rw [c2 a (by omega)]
  · rw [r2 a (by omega)]
  · by_cases e : q = p
    · subst e
      right
      obtain ⟨b1, b2, b3, b4, b5, b6, b7, b8, b9⟩ := h.1.2 q hq
      obtain ⟨a1, a2, a3, a4, a5, a6, a7, a8, a9, a10, a11, a12⟩ := h.2.2 q hq
      unfold pgM pgC
      rw [r2 3 (by omega), r2 4 (by omega), r2 5 (by omega), r2 13 (by omega), r2 15 (by omega), r2 11 (by omega), r2 9 (by omega), r2 7 (by omega), r2 8 (by omega), r2 12 (by omega), r2 10 (by omega), r2 14 (by omega), r2 16 (by omega), c2 (33 + 5 * q) (by omega), c2 (33 + 5 * q + 1) (by omega), c2 (33 + 5 * q + 2) (by omega), c2 (33 + 5 * q + 3) (by omega), c2 (33 + 5 * q + 4) (by omega)]
      exact ⟨⟨b1, b2, b3, b4, b5, b6, b7, b8, b9⟩, ⟨a1, a2, a3, a4, a5, c1, a7, a8, a9, a10, a11, a12⟩⟩
    · left
      refine ⟨untA_rf q, ?_, ?_⟩
      · unfold untR
        refine ⟨?_, ?_, ?_, ?_, ?_, ?_, fun j hj => ?_, fun j hj => ?_, fun j hj => ?_⟩ <;> rw [r2 _ (by omega)]
      · unfold untC
        refine ⟨fun j => ?_, fun j => ?_, fun j => ?_, fun j => ?_, fun j => ?_, fun j => ?_, fun j hj => ?_, fun j hj => ?_, fun j hj => ?_, ?_, fun j hj => ?_⟩
        · rw [c2 _ (by omega)]
        · rw [c2 _ (by omega)]
        · rw [c2 _ (by omega)]
        · rw [c2 _ (by omega)]
        · rw [c2 _ (by omega)]
        · rw [c2 _ (by omega)]
        · exact r1 _ (by omega)
        · rw [r2 _ (by omega)]
        · rw [r2 _ (by omega)]
        · rw [r2 _ (by omega)]
        · rw [r2 _ (by omega)]
theorem RW_of {C R : Mem} {th : Nat} {kd ow st md et lg : Nat → Nat} {tb en rt : Nat → Nat → Nat} (h : RQ C R th kd ow st md et lg tb en rt) : RW C R th kd ow st md et lg tb en rt := ⟨h.1, ⟨h.2.1.1, h.2.1.2.2.2.1, h.2.1.2.2.2.2⟩, h.2.2⟩
theorem RW_to {C R : Mem} {th : Nat} {kd ow st md et lg : Nat → Nat} {tb en rt : Nat → Nat → Nat} (h : RW C R th kd ow st md et lg tb en rt) (h1 : C 1 2 = R 0 17) (h2 : C 1 3 = R 0 18) : RQ C R th kd ow st md et lg tb en rt := ⟨h.1, ⟨h.2.1.1, h1, h2, h.2.1.2.1, h.2.1.2.2⟩, h.2.2⟩
-- addresses
def lk (tb en rt : Nat → Nat → Nat) (s k a : Nat) : Option Nat := if tb s (a / 16 / 8) < 20 ∧ en (tb s (a / 16 / 8)) (a / 16 % 8) ≠ 0 ∧ rt (tb s (a / 16 / 8)) (a / 16 % 8) &&& k ≠ 0 then some (16 * (en (tb s (a / 16 / 8)) (a / 16 % 8) - 1) + a % 16) else none
def lx (tb en rt : Nat → Nat → Nat) (s k : Nat) (x : Int32) : Option Nat := if x < nI 0 then none else if nI 512 ≤ x then none else lk tb en rt s k x.toNatClampNeg
theorem lx_nI {tb en rt : Nat → Nat → Nat} {s k a : Nat} (h : a < 512) : lx tb en rt s k (nI a) = lk tb en rt s k a := by
  unfold lx
  rw [if_neg (nI_nlt (Nat.zero_le _) (by omega)), if_neg (nI_ge h (by omega)), nI_clamp (by omega)]
theorem lx_bad {tb en rt : Nat → Nat → Nat} {s k : Nat} {x : Int32} (h : bad x 512) : lx tb en rt s k x = none := by
  unfold lx
  rcases h with h | ⟨h, h2⟩
  · rw [if_pos h]
  · rw [if_neg h, if_pos h2]
theorem lx_alt {kd ow st md et lg : Nat → Nat} {tb en rt : Nat → Nat → Nat} (hI : IV kd ow st md et lg tb en rt) {s : Nat} (hs : s < 20) (ks : kd s = 1) (ss : st s = 1) (k : Nat) (x : Int32) : lx tb en rt s k x = none ∨ ∃ a w, a < 512 ∧ x = nI a ∧ w < 28 ∧ lx tb en rt s k x = some (16 * w + a % 16) ∧ (w < 20 → kd w = 4) := by
  rcases argc x (show 512 < 2 ^ 31 by omega) with h | ⟨a, ha, rfl⟩
  · exact Or.inl (lx_bad h)
  · rw [lx_nI ha]
    unfold lk
    by_cases c : tb s (a / 16 / 8) < 20 ∧ en (tb s (a / 16 / 8)) (a / 16 % 8) ≠ 0 ∧ rt (tb s (a / 16 / 8)) (a / 16 % 8) &&& k ≠ 0
    · right
      have b := (hI.1 _ c.1).2.2.2.2.2.2.2.2.2.1 (a / 16 % 8) (by omega)
      refine ⟨a, en (tb s (a / 16 / 8)) (a / 16 % 8) - 1, ha, rfl, by have := c.2.1; omega, if_pos c, fun hw => ?_⟩
      have l := hI.2.1 s hs ks (by omega) (a / 16 / 8) (by omega) c.1
      exact (hI.2.2.1 _ c.1 l.1 (by rw [l.2]; omega) (a / 16 % 8) (by omega) (by have := c.2.1; omega) (by omega)).1
    · left; exact if_neg c
theorem and0 (k : Nat) (h : k < 8) : nI 0 &&& nI k = nI 0 := by rw [rt_and (by omega) h, Nat.zero_and]
theorem rowAt_e {C R : Mem} {th : Nat} {kd ow st md et lg : Nat → Nat} {tb en rt : Nat → Nat → Nat} (h : RW C R th kd ow st md et lg tb en rt) (hI : IV kd ow st md et lg tb en rt) {s k : Nat} (hs : s < 20) (hk : k = 1 ∨ k = 2 ∨ k = 4) (x : Int32) : fX4_rowAt C (33 + 5 * s) x (nI k) = some ((lx tb en rt s k x).map (fun n => 5 + n / 16), C) := by
  rcases argc x (show 512 < 2 ^ 31 by omega) with hx | ⟨a, ha, rfl⟩
  · rw [lx_bad hx]
    unfold fX4_rowAt
    rcases hx with hx | ⟨hx, hx2⟩
    · rw [li_0, if_pos hx]; rfl
    · rw [li_0, if_neg hx, li_512, if_neg (bad_nlt hx hx2)]; rfl
  · rw [lx_nI ha]
    have hT := (hI.1 s hs).2.2.2.2.2.2.2.2.1 (a / 16 / 8) (by omega)
    have d9 := (h.2.2 s hs).2.2.2.1 (a / 16 / 8) (by omega)
    unfold fX4_rowAt lk
    rw [li_0, if_neg (nI_nlt (Nat.zero_le _) (by omega)), li_512, if_pos (nI_lt ha (by omega)), bnd_e, li_16, pk_div (by omega) (by omega) (by omega)]
    rcases Nat.lt_or_ge (tb s (a / 16 / 8)) 20 with tl | tl
    · have iT := hI.1 _ tl
      have ie := iT.2.2.2.2.2.2.2.2.2.1 (a / 16 % 8) (by omega)
      have c4 := (h.2.2 _ tl).2.2.2.2.1 (a / 16 % 8) (by omega)
      rw [eF_t hs (by omega) tl d9]
      by_cases e0 : en (tb s (a / 16 / 8)) (a / 16 % 8) = 0
      · rw [if_neg (fun c => c.2.1 e0)]
        rw [e0, cE_0] at c4
        have z := and0 k (by omega)
        simp (disch := omega) only [oq, ↓pk_rem, c4, z, isPg_p, isI_p1, isI_p2, isI_p3, isI_p4, lnC_p1, lnC_p2, lnC_p3, lnC_p4, isI_r, lnC_r, isI_k, lnC_134, lnC_136, lnC_137, lnC_138, lnC_139, lnC_140, lnC_141, lnC_142, mset_s, mset_nk, mset_nj, mrow_s, mrow_n, ifeq_s, nar_0, nar_1, isB_0, isB_1, bnd_e, jn_e, Option.bind_some, gd_true, gd_dec, Bool.true_and, Bool.and_true, Bool.and_self, tn_nI, inb_nI, ifle_t, ifle_f, iflt_t, iflt_f, ifeq_f, if_true, ofN_nI, nI_add, nI_subl, li_0, li_1, li_2, li_3, li_4, li_5, li_6, li_7, li_8, li_9, li_10, li_11, li_12, li_13, li_14, li_15, li_16, li_17, li_18, li_19, li_20, li_21, li_22, li_23, li_24, li_25, li_26, li_27, li_28, li_29, li_30, li_31, li_32, li_60, li_63, li_64, li_80, li_100, li_128, li_160, li_320, li_511, li_512, li_1600, li_1700, li_2000, li_2048, li_32000, li_2147483647]
        rfl
      · have ir := iT.2.2.2.2.2.2.2.2.2.2 (a / 16 % 8) (by omega) e0
        rw [cE_n e0] at c4
        have z := ce_and (a := en (tb s (a / 16 / 8)) (a / 16 % 8) - 1) (r := rt (tb s (a / 16 / 8)) (a / 16 % 8)) (k := k) (by omega) (by omega) (by omega)
        have y := ce_shr (a := en (tb s (a / 16 / 8)) (a / 16 % 8) - 1) (r := rt (tb s (a / 16 / 8)) (a / 16 % 8)) (by omega) (by omega)
        rcases rt_alt (r := rt (tb s (a / 16 / 8)) (a / 16 % 8)) (by omega) hk with r0 | ⟨r0, k0⟩
        · rw [if_neg (fun c => c.2.2 r0)]
          rw [r0] at z
          simp (disch := omega) only [oq, ↓pk_rem, c4, z, isPg_p, isI_p1, isI_p2, isI_p3, isI_p4, lnC_p1, lnC_p2, lnC_p3, lnC_p4, isI_r, lnC_r, isI_k, lnC_134, lnC_136, lnC_137, lnC_138, lnC_139, lnC_140, lnC_141, lnC_142, mset_s, mset_nk, mset_nj, mrow_s, mrow_n, ifeq_s, nar_0, nar_1, isB_0, isB_1, bnd_e, jn_e, Option.bind_some, gd_true, gd_dec, Bool.true_and, Bool.and_true, Bool.and_self, tn_nI, inb_nI, ifle_t, ifle_f, iflt_t, iflt_f, ifeq_f, if_true, ofN_nI, nI_add, nI_subl, li_0, li_1, li_2, li_3, li_4, li_5, li_6, li_7, li_8, li_9, li_10, li_11, li_12, li_13, li_14, li_15, li_16, li_17, li_18, li_19, li_20, li_21, li_22, li_23, li_24, li_25, li_26, li_27, li_28, li_29, li_30, li_31, li_32, li_60, li_63, li_64, li_80, li_100, li_128, li_160, li_320, li_511, li_512, li_1600, li_1700, li_2000, li_2048, li_32000, li_2147483647]
          rfl
        · rw [if_pos ⟨tl, e0, by rw [r0]; exact k0⟩]
          rw [r0] at z
          have kn : ¬ nI k = nI 0 := fun e => k0 ((nI_eq (by omega) (by omega)).mp e)
          simp (disch := omega) only [oq, ↓pk_rem, c4, z, kn, if_false, y, isPg_p, isI_p1, isI_p2, isI_p3, isI_p4, lnC_p1, lnC_p2, lnC_p3, lnC_p4, isI_r, lnC_r, isI_k, lnC_134, lnC_136, lnC_137, lnC_138, lnC_139, lnC_140, lnC_141, lnC_142, mset_s, mset_nk, mset_nj, mrow_s, mrow_n, ifeq_s, nar_0, nar_1, isB_0, isB_1, bnd_e, jn_e, Option.bind_some, gd_true, gd_dec, Bool.true_and, Bool.and_true, Bool.and_self, tn_nI, inb_nI, ifle_t, ifle_f, iflt_t, iflt_f, ifeq_f, if_true, ofN_nI, nI_add, nI_subl, li_0, li_1, li_2, li_3, li_4, li_5, li_6, li_7, li_8, li_9, li_10, li_11, li_12, li_13, li_14, li_15, li_16, li_17, li_18, li_19, li_20, li_21, li_22, li_23, li_24, li_25, li_26, li_27, li_28, li_29, li_30, li_31, li_32, li_60, li_63, li_64, li_80, li_100, li_128, li_160, li_320, li_511, li_512, li_1600, li_1700, li_2000, li_2048, li_32000, li_2147483647]
          show _ = some (some (5 + (16 * (en (tb s (a / 16 / 8)) (a / 16 % 8) - 1) + a % 16) / 16), C)
          congr 3
          omega
    · have t20 : tb s (a / 16 / 8) = 20 := by omega
      rw [if_neg (fun c => by have := c.1; omega), eF_n hs (by omega) (by rw [d9, t20])]
      rfl
theorem lies_e {C R : Mem} {th : Nat} {kd ow st md et lg : Nat → Nat} {tb en rt : Nat → Nat → Nat} (h : RW C R th kd ow st md et lg tb en rt) (hI : IV kd ow st md et lg tb en rt) {s k : Nat} (hs : s < 20) (hk : k = 1 ∨ k = 2 ∨ k = 4) (h21 : R 0 21 = nI s) (x : Int32) : fX6_lies R x (nI k) = some ((lx tb en rt s k x).elim (-nI 1) nI, R) := by
  rcases argc x (show 512 < 2 ^ 31 by omega) with hx | ⟨a, ha, rfl⟩
  · rw [lx_bad hx]
    unfold fX6_lies
    rcases hx with hx | ⟨hx, hx2⟩
    · rw [li_0, if_pos hx]; rfl
    · have : nI 511 < x := by
        rw [Int32.lt_iff_toInt_lt, nI_toInt (by omega)]
        have := Int32.le_iff_toInt_le.mp hx2
        rw [nI_toInt (by omega)] at this
        omega
      rw [li_0, if_neg hx, li_511, if_pos this]; rfl
  · rw [lx_nI ha]
    have hT := (hI.1 s hs).2.2.2.2.2.2.2.2.1 (a / 16 / 8) (by omega)
    have n9 := (h.1.2 s hs).2.2.2.2.2.2.1 (a / 16 / 8) (by omega)
    unfold fX6_lies lk
    rw [li_0, if_neg (nI_nlt (Nat.zero_le _) (by omega)), li_511, if_neg (nI_nlt (by omega) (by omega)), bnd_e, li_16, pk_div (by omega) (by omega) (by omega), h21, tO_e hs (by omega), n9]
    rcases Nat.lt_or_ge (tb s (a / 16 / 8)) 20 with tl | tl
    · have iT := hI.1 _ tl
      have ie := iT.2.2.2.2.2.2.2.2.2.1 (a / 16 % 8) (by omega)
      have m7 := (h.1.2 _ tl).2.2.2.2.2.2.2.1 (a / 16 % 8) (by omega)
      have m8 := (h.1.2 _ tl).2.2.2.2.2.2.2.2 (a / 16 % 8) (by omega)
      have eo := eO_e (M := R) (b := a / 16) hs (by omega) tl n9
      have ot := oI_t tl
      by_cases e0 : en (tb s (a / 16 / 8)) (a / 16 % 8) = 0
      · rw [if_neg (fun c => c.2.1 e0)]
        rw [e0, (eI_0 (by omega)).mpr rfl] at m7
        simp (disch := omega) only [ot, h21, eo, m7, mset_s, mset_nk, mset_nj, mrow_s, mrow_n, ifeq_s, nar_0, nar_1, isB_0, isB_1, bnd_e, jn_e, Option.bind_some, gd_true, gd_dec, Bool.true_and, Bool.and_true, Bool.and_self, tn_nI, inb_nI, ifle_t, ifle_f, iflt_t, iflt_f, ifeq_f, if_true, ofN_nI, nI_add, nI_subl, li_0, li_1, li_2, li_3, li_4, li_5, li_6, li_7, li_8, li_9, li_10, li_11, li_12, li_13, li_14, li_15, li_16, li_17, li_18, li_19, li_20, li_21, li_22, li_23, li_24, li_25, li_26, li_27, li_28, li_29, li_30, li_31, li_32, li_60, li_63, li_64, li_80, li_100, li_128, li_160, li_320, li_511, li_512, li_1600, li_1700, li_2000, li_2048, li_32000, li_2147483647]
        rfl
      · have ir := iT.2.2.2.2.2.2.2.2.2.2 (a / 16 % 8) (by omega) e0
        have m8 := m8 e0
        have z := rt_and (r := rt (tb s (a / 16 / 8)) (a / 16 % 8)) (k := k) (by omega) (by omega)
        have ez : ¬ eI (en (tb s (a / 16 / 8)) (a / 16 % 8)) = nI 0 := fun c => e0 ((eI_0 ie).mp c)
        rcases rt_alt (r := rt (tb s (a / 16 / 8)) (a / 16 % 8)) (by omega) hk with r0 | ⟨r0, k0⟩
        · rw [if_neg (fun c => c.2.2 r0)]
          rw [r0] at z
          have kn : ¬ nI 0 = nI k := fun e => by have := (nI_eq (by omega) (by omega)).mp e; omega
          simp (disch := omega) only [ot, h21, eo, m7, m8, ez, z, kn, if_false, mset_s, mset_nk, mset_nj, mrow_s, mrow_n, ifeq_s, nar_0, nar_1, isB_0, isB_1, bnd_e, jn_e, Option.bind_some, gd_true, gd_dec, Bool.true_and, Bool.and_true, Bool.and_self, tn_nI, inb_nI, ifle_t, ifle_f, iflt_t, iflt_f, ifeq_f, if_true, ofN_nI, nI_add, nI_subl, li_0, li_1, li_2, li_3, li_4, li_5, li_6, li_7, li_8, li_9, li_10, li_11, li_12, li_13, li_14, li_15, li_16, li_17, li_18, li_19, li_20, li_21, li_22, li_23, li_24, li_25, li_26, li_27, li_28, li_29, li_30, li_31, li_32, li_60, li_63, li_64, li_80, li_100, li_128, li_160, li_320, li_511, li_512, li_1600, li_1700, li_2000, li_2048, li_32000, li_2147483647]
          rfl
        · rw [if_pos ⟨tl, e0, by rw [r0]; exact k0⟩]
          rw [r0] at z
          rcases Nat.lt_or_ge 20 (en (tb s (a / 16 / 8)) (a / 16 % 8)) with g | g
          · obtain ⟨g1, g2, g3, g4⟩ := eI_neg g ie
            simp (disch := omega) only [ot, h21, eo, m7, m8, ez, z, g1, g3, ↓pk_rem, pk_mul, if_false, mset_s, mset_nk, mset_nj, mrow_s, mrow_n, ifeq_s, nar_0, nar_1, isB_0, isB_1, bnd_e, jn_e, Option.bind_some, gd_true, gd_dec, Bool.true_and, Bool.and_true, Bool.and_self, tn_nI, inb_nI, ifle_t, ifle_f, iflt_t, iflt_f, ifeq_f, if_true, ofN_nI, nI_add, nI_subl, li_0, li_1, li_2, li_3, li_4, li_5, li_6, li_7, li_8, li_9, li_10, li_11, li_12, li_13, li_14, li_15, li_16, li_17, li_18, li_19, li_20, li_21, li_22, li_23, li_24, li_25, li_26, li_27, li_28, li_29, li_30, li_31, li_32, li_60, li_63, li_64, li_80, li_100, li_128, li_160, li_320, li_511, li_512, li_1600, li_1700, li_2000, li_2048, li_32000, li_2147483647]
            show _ = some (nI _, R)
            congr 3
            omega
          · rw [eI_p g] at m7
            simp (disch := omega) only [ot, h21, eo, m7, m8, z, ↓pk_rem, pk_mul, if_false, mset_s, mset_nk, mset_nj, mrow_s, mrow_n, ifeq_s, nar_0, nar_1, isB_0, isB_1, bnd_e, jn_e, Option.bind_some, gd_true, gd_dec, Bool.true_and, Bool.and_true, Bool.and_self, tn_nI, inb_nI, ifle_t, ifle_f, iflt_t, iflt_f, ifeq_f, if_true, ofN_nI, nI_add, nI_subl, li_0, li_1, li_2, li_3, li_4, li_5, li_6, li_7, li_8, li_9, li_10, li_11, li_12, li_13, li_14, li_15, li_16, li_17, li_18, li_19, li_20, li_21, li_22, li_23, li_24, li_25, li_26, li_27, li_28, li_29, li_30, li_31, li_32, li_60, li_63, li_64, li_80, li_100, li_128, li_160, li_320, li_511, li_512, li_1600, li_1700, li_2000, li_2048, li_32000, li_2147483647]
            show _ = some (nI _, R)
            congr 3
            omega
    · have t20 : tb s (a / 16 / 8) = 20 := by omega
      have nm := m1_nle
      rw [if_neg (fun c => by have := c.1; omega), t20, oI_20n]
      simp (disch := omega) only [nm, if_false, mset_s, mset_nk, mset_nj, mrow_s, mrow_n, ifeq_s, nar_0, nar_1, isB_0, isB_1, bnd_e, jn_e, Option.bind_some, gd_true, gd_dec, Bool.true_and, Bool.and_true, Bool.and_self, tn_nI, inb_nI, ifle_t, ifle_f, iflt_t, iflt_f, ifeq_f, if_true, ofN_nI, nI_add, nI_subl, li_0, li_1, li_2, li_3, li_4, li_5, li_6, li_7, li_8, li_9, li_10, li_11, li_12, li_13, li_14, li_15, li_16, li_17, li_18, li_19, li_20, li_21, li_22, li_23, li_24, li_25, li_26, li_27, li_28, li_29, li_30, li_31, li_32, li_60, li_63, li_64, li_80, li_100, li_128, li_160, li_320, li_511, li_512, li_1600, li_1700, li_2000, li_2048, li_32000, li_2147483647]
      rfl
