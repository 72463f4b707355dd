/-! Steps of both memories. -/
def RQ (C R : Mem) (th : Nat) (kd ow st md et lg : Nat → Nat) (tb en rt : Nat → Nat → Nat) : Prop := RM R kd ow st md et lg tb en rt ∧ RC C R th kd ow st md et lg tb en rt
theorem RQ_step {C C' R R' : Mem} {th : Nat} {kd ow st md et lg kd' ow' st' md' et' lg' : Nat → Nat} {tb en rt tb' en' rt' : Nat → Nat → Nat} (h : RQ C R th kd ow st md et lg tb en rt) (hl : ∀ q, q < 20 → lg q ≤ 85)
    (hC : ∀ a b, (a = 1 ∨ a = 134 ∨ a = 137 ∨ (25 ≤ a ∧ a < 33)) → C' a b = C a b)
    (hR : ∀ a b, (a = 0 ∨ a = 1 ∨ a = 2 ∨ a = 18 ∨ a = 19) → R' a b = R a b)
    (hq : ∀ q, q < 20 → (untA kd ow st md et lg kd' ow' st' md' et' lg' tb en rt tb' en' rt' q ∧ untR R R' q ∧ untC C C' R R' q) ∨ (pgM R' kd' ow' st' md' et' lg' tb' en' rt' q ∧ pgC C' R' th kd' ow' st' md' et' lg' tb' en' rt' q)) : RQ C' R' th kd' ow' st' md' et' lg' tb' en' rt' := by
  obtain ⟨⟨⟨k1, k2⟩, hm⟩, ⟨⟨r1, r2, r3, r4, r5⟩, hc⟩⟩ := h
  refine ⟨⟨⟨fun t ht => ?_, fun j hj => ?_⟩, fun q h20 => ?_⟩, ⟨⟨fun j a b => ?_, ?_, ?_, fun j hj => ?_, fun f hf j hj => ?_⟩, fun q h20 => ?_⟩⟩
  · rw [hR _ _ (by omega)]; exact k1 t ht
  · rw [hR _ _ (by omega)]; exact k2 j hj
  · rcases hq q h20 with ⟨a, b, c⟩ | ⟨a, b⟩
    · exact pgM_unt (hm q h20) a b
    · exact a
  · rw [hC _ _ (by omega)]; exact r1 j a b
  · rw [hC _ _ (by omega), hR _ _ (by omega)]; exact r2
  · rw [hC _ _ (by omega), hR _ _ (by omega)]; exact r3
  · rw [hC _ _ (by omega), hR _ _ (by omega)]; exact r4 j hj
  · rw [hC _ _ (by omega), hR _ _ (by omega)]; exact r5 f hf j hj
  · rcases hq q h20 with ⟨a, b, c⟩ | ⟨a, b⟩
    · exact pgC_unt (hc q h20) a c (hl q h20) (fun e => e)
    · exact b
/-- what is kept for passing use alone -/
theorem RQ_fr {C C' R R' : Mem} {th : Nat} {kd ow st md et lg : Nat → Nat} {tb en rt : Nat → Nat → Nat} (h : RQ C R th kd ow st md et lg tb en rt) (hl : ∀ q, q < 20 → lg q ≤ 85)
    (hC : ∀ a b, a ≠ 136 → (a < 138 ∨ 142 < a) → ¬ (a = 33 + 5 * th ∧ (b = 8 ∨ b = 9)) → a ≠ 33 + 5 * th + 3 → ¬ (a = 137 ∧ (b = 0 ∨ b = 15)) → C' a b = C a b)
    (hR : ∀ a b, a ≠ 17 → (a < 20 ∨ 24 < a) → (a = 0 → b = 17 ∨ b = 18) → R' a b = R a b) : RQ C' R' th kd ow st md et lg tb en rt := by
  obtain ⟨⟨⟨k1, k2⟩, hm⟩, ⟨⟨r1, r2, r3, r4, r5⟩, hc⟩⟩ := h
  refine ⟨⟨⟨fun t ht => ?_, fun j hj => ?_⟩, fun q h20 => ?_⟩, ⟨⟨fun j a b => ?_, ?_, ?_, fun j hj => ?_, fun f hf j hj => ?_⟩, fun q h20 => ?_⟩⟩
  · rw [hR _ _ (by omega) (by omega) (by omega)]; exact k1 t ht
  · rw [hR _ _ (by omega) (by omega) (by omega)]; exact k2 j hj
  · refine pgM_unt (hm q h20) (untA_rf q) ⟨?_, ?_, ?_, ?_, ?_, ?_, fun j hj => ?_, fun j hj => ?_, fun j hj => ?_⟩ <;> exact hR _ _ (by omega) (by omega) (by omega)
  · rw [hC _ _ (by omega) (by omega) (by omega) (by omega) (by omega)]; exact r1 j a b
  · rw [hC _ _ (by omega) (by omega) (by omega) (by omega) (by omega), hR _ _ (by omega) (by omega) (by omega)]; exact r2
  · rw [hC _ _ (by omega) (by omega) (by omega) (by omega) (by omega), hR _ _ (by omega) (by omega) (by omega)]; exact r3
  · rw [hC _ _ (by omega) (by omega) (by omega) (by omega) (by omega), hR _ _ (by omega) (by omega) (by omega)]; exact r4 j hj
  · rw [hC _ _ (by omega) (by omega) (by omega) (by omega) (by omega), hR _ _ (by omega) (by omega) (by omega)]; exact r5 f hf j hj
  · have e6 : ∀ j, R' 6 j = R 6 j := fun j => hR _ _ (by omega) (by omega) (by omega)
    have e12 : ∀ j, R' 12 j = R 12 j := fun j => hR _ _ (by omega) (by omega) (by omega)
    have e10 : ∀ j, R' 10 j = R 10 j := fun j => hR _ _ (by omega) (by omega) (by omega)
    have e14 : ∀ j, R' 14 j = R 14 j := fun j => hR _ _ (by omega) (by omega) (by omega)
    have e16 : ∀ j, R' 16 j = R 16 j := fun j => hR _ _ (by omega) (by omega) (by omega)
    obtain ⟨a1, a2, a3, a4, a5, a6, a7, a8, a9, a10, a11, a12⟩ := hc q h20
    refine ⟨?_, ?_, ?_, fun j hj => ?_, fun j hj => ?_, fun j hj => ?_, fun k => ?_, fun k k' j hj => ?_, fun k k' => ⟨?_, fun j hj => ?_⟩, fun k => ?_, fun k n => ?_, fun k n k' => ⟨fun j hj => ?_, ?_⟩⟩
    · rw [hC _ _ (by omega) (by omega) (by omega) (by omega) (by omega)]; exact a1
    · rw [hC _ _ (by omega) (by omega) (by omega) (by omega) (by omega)]; exact a2
    · rw [hC _ _ (by omega) (by omega) (by omega) (by omega) (by omega)]; exact a3
    · rw [hC _ _ (by omega) (by omega) (by omega) (by omega) (by omega)]; exact a4 j hj
    · rw [hC _ _ (by omega) (by omega) (by omega) (by omega) (by omega)]; exact a5 j hj
    · rw [hC _ _ (by omega) (by omega) (by omega) (by omega) (by omega), e6]; exact a6 j hj
    · rw [hC _ _ (by omega) (by omega) (by omega) (by omega) (by omega)]; exact a7 k
    · rw [hC _ _ (by omega) (by omega) (by omega) (by omega) (by omega), e12]; exact a8 k k' j hj
    · rw [hC _ _ (by omega) (by omega) (by omega) (by omega) (by omega)]; exact (a9 k k').1
    · rw [hC _ _ (by omega) (by omega) (by omega) (by omega) (by omega), (a9 k k').2 j hj]
      exact chn_congr _ (fun i _ => (e10 _).symm) j hj
    · rw [hC _ _ (by omega) (by omega) (by omega) (by omega) (by omega), e14]; exact a10 k
    · rw [hC _ _ (by omega) (by omega) (by omega) (by omega) (by omega)]; exact a11 k n
    · rw [hC _ _ (by omega) (by omega) (by omega) (by omega) (by omega), e16]; exact (a12 k n k').1 j hj
    · rw [hC _ _ (by omega) (by omega) (by omega) (by omega) (by omega), e16]; exact (a12 k n k').2
theorem RQ_cl {C R : Mem} {th : Nat} {kd ow st md et lg : Nat → Nat} {tb en rt : Nat → Nat → Nat} (h : RQ C R th kd ow st md et lg tb en rt) (hl : ∀ q, q < 20 → lg q ≤ 85) {p k o : Nat} (hp : p < 20) (hk : k ≠ 1 ∧ k ≠ 2) :
    RQ (mset (mset C (33 + 5 * p) 0 (nI k)) (33 + 5 * p) 1 (oI o)) (mset (mset R 3 p (nI k)) 4 p (oI o)) th (up kd p k) (up ow p o) st md et lg tb en rt := by
  refine RQ_step h hl (fun a b _ => ?_) (fun a b _ => ?_) (fun q hq => ?_)
  · rw [mset_get, mset_get, if_neg (by omega), if_neg (by omega)]
  · rw [mset_get, mset_get, if_neg (by omega), if_neg (by omega)]
  · by_cases e : q = p
    · subst e
      right
      obtain ⟨b1, b2, b3, b4, b5, b6, b7, b8, b9⟩ := h.1.2 q hq
      obtain ⟨a1, a2, a3, a4, a5, a6, -⟩ := h.2.2 q hq
      unfold pgM pgC
      simp (disch := omega) only [up_s, mset_s, mset_nk, mset_nj, mrow_s, mrow_n, ifeq_s, nar_0, nar_1, isB_0, isB_1]
      exact ⟨⟨trivial, trivial, b3, b4, b5, b6, b7, b8, b9⟩, ⟨trivial, trivial, a3, a4, a5, a6, fun e => absurd e hk.1, fun e => absurd e hk.1, fun e => absurd e hk.1, fun e => absurd e hk.2, fun e => absurd e hk.2, fun e => absurd e hk.2⟩⟩
    · left
      refine ⟨⟨up_n _ _ e, up_n _ _ e, rfl, rfl, rfl, rfl, fun _ => rfl, fun _ => rfl, fun _ => rfl⟩, ?_, ?_⟩
      · unfold untR
        simp (disch := omega) only [mset_s, mset_nk, mset_nj, mrow_s, mrow_n, ifeq_s, nar_0, nar_1, isB_0, isB_1]
        simp
      · unfold untC
        simp (disch := omega) only [mset_s, mset_nk, mset_nj, mrow_s, mrow_n, ifeq_s, nar_0, nar_1, isB_0, isB_1]
        simp
theorem RQ_th {C R : Mem} {th : Nat} {kd ow st md et lg : Nat → Nat} {tb en rt : Nat → Nat → Nat} (h : RQ C R th kd ow st md et lg tb en rt) (hl : ∀ q, q < 20 → lg q ≤ 85) {p s : Nat} (hp : p < 20) (x : Int32) :
    RQ (mset (mset (mset (mset C (33 + 5 * p) 0 (nI 2)) (33 + 5 * p) 1 (oI s)) (33 + 5 * p) 7 x) (33 + 5 * p) 8 (nI 0)) (mset (mset (mset (mset R 3 p (nI 2)) 4 p (oI s)) 14 p x) 15 p (nI 0)) th (up kd p 2) (up ow p s) st md (up et p 0) lg tb en rt := by
  refine RQ_step h hl (fun a b _ => ?_) (fun a b _ => ?_) (fun q hq => ?_)
  · rw [mset_get, mset_get, mset_get, mset_get, if_neg (by omega), if_neg (by omega), if_neg (by omega), if_neg (by omega)]
  · rw [mset_get, mset_get, mset_get, mset_get, if_neg (by omega), if_neg (by omega), if_neg (by omega), if_neg (by omega)]
  · by_cases e : q = p
    · subst e
      right
      obtain ⟨b1, b2, b3, b4, b5, b6, b7, b8, b9⟩ := h.1.2 q hq
      obtain ⟨a1, a2, a3, a4, a5, a6, -⟩ := h.2.2 q hq
      unfold pgM pgC
      simp (disch := omega) only [up_s, mset_s, mset_nk, mset_nj, mrow_s, mrow_n, ifeq_s, nar_0, nar_1, isB_0, isB_1]
      refine ⟨⟨trivial, trivial, b3, b4, trivial, b6, b7, b8, b9⟩, ⟨trivial, trivial, a3, a4, a5, a6, ?_, ?_, ?_, ?_, ?_, ?_⟩⟩ <;> simp
    · left
      refine ⟨⟨up_n _ _ e, up_n _ _ e, rfl, rfl, up_n _ _ e, rfl, fun _ => rfl, fun _ => rfl, fun _ => rfl⟩, ?_, ?_⟩
      · unfold untR
        simp (disch := omega) only [mset_s, mset_nk, mset_nj, mrow_s, mrow_n, ifeq_s, nar_0, nar_1, isB_0, isB_1]
        simp
      · unfold untC
        simp (disch := omega) only [mset_s, mset_nk, mset_nj, mrow_s, mrow_n, ifeq_s, nar_0, nar_1, isB_0, isB_1]
        simp
/-- a block of sixteen words is told -/
theorem RQ_tl {C C' R R' : Mem} {th : Nat} {kd ow st md et lg : Nat → Nat} {tb en rt : Nat → Nat → Nat} (h : RQ C R th kd ow st md et lg tb en rt) (hl : ∀ q, q < 20 → lg q ≤ 85) {s : Nat} (hs : s < 20) (ks : kd s = 1) (ss : st s = 0) (ms : md s = 0) (w : Nat → Int32)
    (c1 : ∀ j, j < 8 → C' (33 + 5 * s + 2) j = cmp (C (33 + 5 * s + 2)) w j) (c2 : C' (33 + 5 * s) 4 = C (33 + 5 * s) 4 + 1) (c3 : ∀ j, j ≠ 4 → C' (33 + 5 * s) j = C (33 + 5 * s) j) (c4 : ∀ a, a ≠ 33 + 5 * s → a ≠ 33 + 5 * s + 2 → a ≠ 136 → a ≠ 138 → C' a = C a)
    (r1 : R' 11 s = nI (16 * (lg s + 1))) (r2 : ∀ q, q ≠ s → R' 11 q = R 11 q) (r3 : ∀ k, k < 16 → R' 10 (1600 * s + (16 * lg s + k)) = w k) (r4 : ∀ j, (j < 1600 * s + 16 * lg s ∨ 1600 * s + 16 * lg s + 16 ≤ j) → R' 10 j = R 10 j) (r5 : ∀ a, a ≠ 10 → a ≠ 11 → R' a = R a) :
    RQ C' R' th kd ow st md et (up lg s (lg s + 1)) tb en rt := by
  have l := hl s hs
  refine RQ_step h hl (fun a b _ => ?_) (fun a b _ => ?_) (fun q hq => ?_)
  · rw [c4 a (by omega) (by omega) (by omega) (by omega)]
  · rw [r5 a (by omega) (by omega)]
  · by_cases e : q = s
    · subst e
      right
      obtain ⟨b1, b2, b3, b4, b5, b6, b7, b8, b9⟩ := h.1.2 q hq
      obtain ⟨a1, a2, a3, a4, a5, a6, a7, a8, a9, -⟩ := h.2.2 q hq
      have a9 := a9 ks ss
      unfold pgM pgC
      rw [up_s, r5 3 (by omega) (by omega), r5 4 (by omega) (by omega), r5 5 (by omega) (by omega), r5 13 (by omega) (by omega), r5 15 (by omega) (by omega), r5 9 (by omega) (by omega), r5 7 (by omega) (by omega), r5 8 (by omega) (by omega), r5 6 (by omega) (by omega), c3 0 (by omega), c3 1 (by omega), c3 2 (by omega), c3 3 (by omega), c2, c4 (33 + 5 * q + 1) (by omega) (by omega) (by omega) (by omega), c4 (33 + 5 * q + 4) (by omega) (by omega) (by omega) (by omega), c4 (5 + q) (by omega) (by omega) (by omega) (by omega)]
      refine ⟨⟨b1, b2, b3, b4, b5, r1, b7, b8, b9⟩, ⟨a1, a2, a3, a4, a5, a6, a7, fun _ e => absurd e (by omega), fun _ _ => ⟨?_, fun j hj => ?_⟩, fun e => absurd e (by omega), fun e => absurd e (by omega), fun e => absurd e (by omega)⟩⟩
      · rw [a9.1, li_1]; exact nI_add _ _
      · rw [c1 j hj]
        show _ = cmp (chn (fun i => R' 10 (1600 * q + i)) (lg q)) (fun k => R' 10 (1600 * q + (16 * lg q + k))) j
        refine cmp_congr (fun i hi => ?_) (fun k hk => ?_) j hj
        · rw [a9.2 i hi]
          exact chn_congr _ (fun m hm => (r4 _ (by omega)).symm) i hi
        · exact (r3 k hk).symm
    · left
      refine ⟨⟨rfl, rfl, rfl, rfl, rfl, up_n _ _ e, fun _ => rfl, fun _ => rfl, fun _ => rfl⟩, ?_, ?_⟩
      · unfold untR
        rw [r2 q e]
        refine ⟨?_, ?_, ?_, ?_, ?_, rfl, fun j hj => ?_, fun j hj => ?_, fun j hj => ?_⟩ <;> rw [r5 _ (by omega) (by omega)]
      · unfold untC
        refine ⟨fun j => ?_, fun j => ?_, fun j => ?_, fun j => ?_, fun j => ?_, fun j => ?_, fun j hj => ?_, fun j hj => ?_, fun j hj => ?_, ?_, fun j hj => ?_⟩
        · rw [c4 _ (by omega) (by omega) (by omega) (by omega)]
        · rw [c4 _ (by omega) (by omega) (by omega) (by omega)]
        · rw [c4 _ (by omega) (by omega) (by omega) (by omega)]
        · rw [c4 _ (by omega) (by omega) (by omega) (by omega)]
        · rw [c4 _ (by omega) (by omega) (by omega) (by omega)]
        · rw [c4 _ (by omega) (by omega) (by omega) (by omega)]
        · rw [r5 _ (by omega) (by omega)]
        · rw [r5 _ (by omega) (by omega)]
        · exact r4 _ (by omega)
        · rw [r5 _ (by omega) (by omega)]
        · rw [r5 _ (by omega) (by omega)]
/-- an entry is set -/
theorem RQ_en {C R R' : Mem} {th : Nat} {kd ow st md et lg : Nat → Nat} {tb en rt rt' : Nat → Nat → Nat} (h : RQ C R th kd ow st md et lg tb en rt) (hl : ∀ q, q < 20 → lg q ≤ 85) {T i e : Nat} (hT : T < 20) (hi : i < 8)
    (r1 : R' 7 (8 * T + i) = eI e) (r2 : e ≠ 0 → R' 8 (8 * T + i) = nI (rt' T i)) (r3 : ∀ a b, a ≠ 7 → a ≠ 8 → R' a b = R a b) (r4 : ∀ b, b ≠ 8 * T + i → R' 7 b = R 7 b ∧ R' 8 b = R 8 b) (r5 : ∀ t j, ¬ (t = T ∧ j = i) → rt' t j = rt t j) :
    RQ (mset C (33 + 5 * T + 4) i (cE e (rt' T i))) R' th kd ow st md et lg tb (up2 en T i e) rt' := by
  refine RQ_step h hl (fun a b _ => ?_) (fun a b _ => ?_) (fun q hq => ?_)
  · rw [mset_get, if_neg (by omega)]
  · rw [r3 a b (by omega) (by omega)]
  · by_cases c : q = T
    · subst c
      right
      obtain ⟨b1, b2, b3, b4, b5, b6, b7, b8, b9⟩ := h.1.2 q hq
      obtain ⟨a1, a2, a3, a4, a5, a6, a7, a8, a9, a10, a11, a12⟩ := h.2.2 q hq
      have f3 : ∀ a, a ≠ 7 → a ≠ 8 → R' a = R a := fun a h1 h2 => funext (fun b => r3 a b h1 h2)
      unfold pgM pgC
      rw [f3 3 (by omega) (by omega), f3 4 (by omega) (by omega), f3 5 (by omega) (by omega), f3 13 (by omega) (by omega), f3 15 (by omega) (by omega), f3 9 (by omega) (by omega), f3 11 (by omega) (by omega), f3 6 (by omega) (by omega), f3 12 (by omega) (by omega), f3 10 (by omega) (by omega), f3 14 (by omega) (by omega), f3 16 (by omega) (by omega)]
      rw [mset_nk C (a := 33 + 5 * q) _ _ (by omega), mset_nk C (a := 33 + 5 * q + 1) _ _ (by omega), mset_nk C (a := 33 + 5 * q + 2) _ _ (by omega), mset_nk C (a := 33 + 5 * q + 3) _ _ (by omega), mset_nk C (a := 5 + q) _ _ (by omega)]
      refine ⟨⟨b1, b2, b3, b4, b5, b6, b7, fun j hj => ?_, fun j hj hn => ?_⟩, ⟨a1, a2, a3, a4, fun j hj => ?_, a6, a7, a8, a9, a10, a11, a12⟩⟩
      · by_cases d : j = i
        · subst d; rw [up2_s]; exact r1
        · rw [up2_n _ _ (by omega), (r4 _ (by omega)).1]; exact b8 j hj
      · by_cases d : j = i
        · subst d; rw [up2_s] at hn; exact r2 hn
        · rw [up2_n _ _ (by omega)] at hn
          rw [(r4 _ (by omega)).2, r5 _ _ (by omega)]; exact b9 j hj hn
      · by_cases d : j = i
        · subst d; rw [up2_s, mset_s]
        · rw [up2_n _ _ (by omega), mset_nj _ _ _ d, r5 _ _ (by omega)]; exact a5 j hj
    · left
      refine ⟨⟨rfl, rfl, rfl, rfl, rfl, rfl, fun _ => rfl, fun _ => up2_n _ _ (by omega), fun _ => r5 _ _ (by omega)⟩, ?_, ?_⟩
      · unfold untR
        refine ⟨?_, ?_, ?_, ?_, ?_, ?_, fun j hj => ?_, fun j hj => ?_, fun j hj => ?_⟩
        · exact r3 _ _ (by omega) (by omega)
        · exact r3 _ _ (by omega) (by omega)
        · exact r3 _ _ (by omega) (by omega)
        · exact r3 _ _ (by omega) (by omega)
        · exact r3 _ _ (by omega) (by omega)
        · exact r3 _ _ (by omega) (by omega)
        · exact r3 _ _ (by omega) (by omega)
        · exact (r4 _ (by omega)).1
        · exact (r4 _ (by omega)).2
      · unfold untC
        refine ⟨fun j => ?_, fun j => ?_, fun j => ?_, fun j => ?_, fun j => ?_, fun j => ?_, fun j hj => ?_, fun j hj => ?_, fun j hj => ?_, ?_, fun j hj => ?_⟩
        · rw [mset_nk _ _ _ (by omega)]
        · rw [mset_nk _ _ _ (by omega)]
        · rw [mset_nk _ _ _ (by omega)]
        · rw [mset_nk _ _ _ (by omega)]
        · rw [mset_nk _ _ _ (by omega)]
        · rw [mset_nk _ _ _ (by omega)]
        · exact r3 _ _ (by omega) (by omega)
        · exact r3 _ _ (by omega) (by omega)
        · exact r3 _ _ (by omega) (by omega)
        · exact r3 _ _ (by omega) (by omega)
        · exact r3 _ _ (by omega) (by omega)
/-- the words of a page are written -/
theorem RQ_wd {C C' R R' : Mem} {th : Nat} {kd ow st md et lg : Nat → Nat} {tb en rt : Nat → Nat → Nat} (h : RQ C R th kd ow st md et lg tb en rt) (hl : ∀ q, q < 20 → lg q ≤ 85) {p : Nat} (hp : p < 20)
    (c1 : ∀ j, j < 16 → C' (5 + p) j = R' 6 (16 * p + j)) (c2 : ∀ a, a ≠ 5 + p → C' a = C a) (r1 : ∀ j, (j < 16 * p ∨ 16 * p + 16 ≤ j) → R' 6 j = R 6 j) (r2 : ∀ a, a ≠ 6 → R' a = R a) : RQ C' R' th kd ow st md et lg tb en rt := by
  refine RQ_step h hl (fun a b _ => ?_) (fun a b _ => ?_) (fun q hq => ?_)
  · rw [c2 a (by omega)]
  · rw [r2 a (by omega)]
  · by_cases e : q = p
    · subst e
      right
      obtain ⟨b1, b2, b3, b4, b5, b6, b7, b8, b9⟩ := h.1.2 q hq
      obtain ⟨a1, a2, a3, a4, a5, a6, a7, a8, a9, a10, a11, a12⟩ := h.2.2 q hq
      unfold pgM pgC
      rw [r2 3 (by omega), r2 4 (by omega), r2 5 (by omega), r2 13 (by omega), r2 15 (by omega), r2 11 (by omega), r2 9 (by omega), r2 7 (by omega), r2 8 (by omega), r2 12 (by omega), r2 10 (by omega), r2 14 (by omega), r2 16 (by omega), c2 (33 + 5 * q) (by omega), c2 (33 + 5 * q + 1) (by omega), c2 (33 + 5 * q + 2) (by omega), c2 (33 + 5 * q + 3) (by omega), c2 (33 + 5 * q + 4) (by omega)]
      exact ⟨⟨b1, b2, b3, b4, b5, b6, b7, b8, b9⟩, ⟨a1, a2, a3, a4, a5, c1, a7, a8, a9, a10, a11, a12⟩⟩
    · left
      refine ⟨untA_rf q, ?_, ?_⟩
      · unfold untR
        refine ⟨?_, ?_, ?_, ?_, ?_, ?_, fun j hj => ?_, fun j hj => ?_, fun j hj => ?_⟩ <;> rw [r2 _ (by omega)]
      · unfold untC
        refine ⟨fun j => ?_, fun j => ?_, fun j => ?_, fun j => ?_, fun j => ?_, fun j => ?_, fun j hj => ?_, fun j hj => ?_, fun j hj => ?_, ?_, fun j hj => ?_⟩
        · rw [c2 _ (by omega)]
        · rw [c2 _ (by omega)]
        · rw [c2 _ (by omega)]
        · rw [c2 _ (by omega)]
        · rw [c2 _ (by omega)]
        · rw [c2 _ (by omega)]
        · exact r1 _ (by omega)
        · rw [r2 _ (by omega)]
        · rw [r2 _ (by omega)]
        · rw [r2 _ (by omega)]
        · rw [r2 _ (by omega)]
