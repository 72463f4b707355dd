/-! The abstract state that both memories picture, and its invariants. Kinds kd, owners ow (20: none), states st, measured md, entered et, tables tb (20: none), entries en (0 empty, 1 + page, 21 + frame), rights rt, told blocks lg. -/
def oI (n : Nat) : Int32 := if n < 20 then nI n else (-1 : Int32)
def eI (e : Nat) : Int32 := if e ≤ 20 then nI e else -nI (e - 21) - nI 1
def cE (e r : Nat) : Int32 := if e = 0 then nI 0 else nI (8 * (e - 1) + r)
def cnt (n : Nat) (P : Nat → Bool) : Nat := ((List.range n).filter P).length
def thr (kd ow : Nat → Nat) (p : Nat) : Nat := cnt 20 (fun q => decide (kd q = 2 ∧ ow q = p))
def tak (tb en : Nat → Nat → Nat) (p : Nat) : Nat := cnt 32 (fun b => decide (tb p (b / 8) < 20 ∧ en (tb p (b / 8)) (b % 8) ≠ 0))
/-- the reference's memory, a page -/
def pgM (R : Mem) (kd ow st md et lg : Nat → Nat) (tb en rt : Nat → Nat → Nat) (p : Nat) : Prop :=
  R 3 p = nI (kd p) ∧ R 4 p = oI (ow p) ∧ R 5 p = nI (st p) ∧ R 13 p = nI (md p) ∧ R 15 p = nI (et p) ∧ R 11 p = nI (16 * lg p) ∧ (∀ j, j < 4 → R 9 (4 * p + j) = oI (tb p j)) ∧ (∀ i, i < 8 → R 7 (8 * p + i) = eI (en p i)) ∧ (∀ i, i < 8 → en p i ≠ 0 → R 8 (8 * p + i) = nI (rt p i))
def RM (R : Mem) (kd ow st md et lg : Nat → Nat) (tb en rt : Nat → Nat → Nat) : Prop := kOk R ∧ ∀ p, p < 20 → pgM R kd ow st md et lg tb en rt p
/-- the class's memory, a page, beside the reference's; th: the thread that runs (20: none) -/
def pgC (C R : Mem) (th : Nat) (kd ow st md et lg : Nat → Nat) (tb en rt : Nat → Nat → Nat) (p : Nat) : Prop :=
  C (33 + 5 * p) 0 = nI (kd p) ∧ C (33 + 5 * p) 1 = oI (ow p) ∧ C (33 + 5 * p) 2 = nI (st p) ∧ (∀ j, j < 4 → C (33 + 5 * p + 1) j = oI (tb p j)) ∧ (∀ i, i < 8 → C (33 + 5 * p + 4) i = cE (en p i) (rt p i)) ∧ (∀ j, j < 16 → C (5 + p) j = R 6 (16 * p + j)) ∧
    (kd p = 1 → C (33 + 5 * p) 3 = nI (md p)) ∧ (kd p = 1 → md p = 1 → ∀ j, j < 8 → C (33 + 5 * p + 2) j = R 12 (8 * p + j)) ∧
    (kd p = 1 → st p = 0 → C (33 + 5 * p) 4 = nI (lg p) ∧ ∀ j, j < 8 → C (33 + 5 * p + 2) j = chn (fun i => R 10 (1600 * p + i)) (lg p) j) ∧
    (kd p = 2 → C (33 + 5 * p) 7 = R 14 p) ∧ (kd p = 2 → p ≠ th → C (33 + 5 * p) 8 = nI (et p)) ∧ (kd p = 2 → p ≠ th → et p = 1 → (∀ j, j < 4 → C (33 + 5 * p + 3) j = R 16 (5 * p + j)) ∧ C (33 + 5 * p) 9 = R 16 (5 * p + 4))
def RB (C R : Mem) : Prop := padOk C ∧ C 1 2 = R 0 17 ∧ C 1 3 = R 0 18 ∧ (∀ j, j < 8 → C 134 j = R 1 j) ∧ ∀ f, f < 8 → ∀ j, j < 16 → C (5 + (20 + f)) j = R 2 (16 * f + j)
def RC (C R : Mem) (th : Nat) (kd ow st md et lg : Nat → Nat) (tb en rt : Nat → Nat → Nat) : Prop := RB C R ∧ ∀ p, p < 20 → pgC C R th kd ow st md et lg tb en rt p
/-- what holds of the abstract state -/
def IV (kd ow st md et lg : Nat → Nat) (tb en rt : Nat → Nat → Nat) : Prop :=
  (∀ p, p < 20 → kd p ≤ 5 ∧ st p ≤ 2 ∧ md p ≤ 1 ∧ et p ≤ 1 ∧ lg p ≤ 85 ∧ (kd p ≤ 1 → ow p = 20) ∧ (2 ≤ kd p → ow p < 20 ∧ kd (ow p) = 1) ∧ (kd p = 1 → (st p = 1 → md p = 1) ∧ (st p = 0 → md p = 0)) ∧ (∀ j, j < 4 → tb p j ≤ 20) ∧ (∀ i, i < 8 → en p i ≤ 28) ∧ (∀ i, i < 8 → en p i ≠ 0 → 1 ≤ rt p i ∧ rt p i ≤ 7)) ∧
  (∀ p, p < 20 → kd p = 1 → st p ≠ 2 → ∀ j, j < 4 → tb p j < 20 → kd (tb p j) = 3 ∧ ow (tb p j) = p) ∧
  (∀ t, t < 20 → kd t = 3 → st (ow t) ≠ 2 → ∀ i, i < 8 → 1 ≤ en t i → en t i ≤ 20 → kd (en t i - 1) = 4 ∧ ow (en t i - 1) = ow t) ∧
  (∀ t t', t < 20 → t' < 20 → kd t = 3 → kd t' = 3 → st (ow t) ≠ 2 → st (ow t') ≠ 2 → ∀ i i', i < 8 → i' < 8 → en t i = en t' i' → 1 ≤ en t i → en t i ≤ 20 → t = t' ∧ i = i') ∧
  (∀ p, p < 20 → kd p = 1 → st p = 0 → lg p ≤ thr kd ow p + 2 * tak tb en p)
def Rel (C R : Mem) : Prop := ∃ (kd ow st md et lg : Nat → Nat) (tb en rt : Nat → Nat → Nat), RM R kd ow st md et lg tb en rt ∧ RC C R 20 kd ow st md et lg tb en rt ∧ IV kd ow st md et lg tb en rt
theorem cnt_le (n : Nat) (P : Nat → Bool) : cnt n P ≤ n := by
  unfold cnt
  have h := List.length_filter_le P (List.range n)
  rw [List.length_range] at h
  exact h
theorem cnt_mono {n : Nat} {P Q : Nat → Bool} (h : ∀ i, i < n → P i = true → Q i = true) : cnt n P ≤ cnt n Q := by
  unfold cnt
  induction n with
  | zero => simp
  | succ n ih =>
    have := ih (fun i hi => h i (by omega))
    simp only [List.range_succ, List.filter_append, List.length_append]
    by_cases hp : P n = true
    · have hq := h n (by omega) hp
      simp [hp, hq]
      exact this
    · simp [hp]
      omega
theorem cnt_add {n : Nat} {P Q : Nat → Bool} (h : ∀ i, i < n → P i = true → Q i = true) {k : Nat} (hk : k < n) (h1 : P k = false) (h2 : Q k = true) : cnt n P + 1 ≤ cnt n Q := by
  unfold cnt
  induction n with
  | zero => omega
  | succ n ih =>
    simp only [List.range_succ, List.filter_append, List.length_append]
    by_cases e : k = n
    · subst e
      have := cnt_mono (n := k) (P := P) (Q := Q) (fun i hi => h i (by omega))
      unfold cnt at this
      simp [h1, h2]
      exact this
    · have := ih (fun i hi => h i (by omega)) (by omega)
      by_cases hp : P n = true
      · have hq := h n (by omega) hp
        simp [hp, hq]
        exact this
      · simp [hp]
        omega
theorem cnt_congr {n : Nat} {P Q : Nat → Bool} (h : ∀ i, i < n → P i = Q i) : cnt n P = cnt n Q := by
  have h1 := cnt_mono (n := n) (P := P) (Q := Q) (fun i hi hp => by rw [← h i hi]; exact hp)
  have h2 := cnt_mono (n := n) (P := Q) (Q := P) (fun i hi hp => by rw [h i hi]; exact hp)
  omega
/-- what the reference keeps for itself alone -/
theorem Rel_scr {C R R' : Mem} (h : Rel C R) (h0 : R' 0 17 = R 0 17) (h1 : R' 0 18 = R 0 18) (hn : ∀ a, a ≠ 0 → a ≠ 17 → a ≠ 20 → a ≠ 21 → a ≠ 22 → a ≠ 23 → a ≠ 24 → R' a = R a) : Rel C R' := by
  obtain ⟨kd, ow, st, md, et, lg, tb, en, rt, hM, hC, hI⟩ := h
  have e : ∀ a, a ≠ 0 → a ≠ 17 → a ≠ 20 → a ≠ 21 → a ≠ 22 → a ≠ 23 → a ≠ 24 → R' a = R a := hn
  have e1 := hn 1 (by omega) (by omega) (by omega) (by omega) (by omega) (by omega) (by omega)
  have e2 := hn 2 (by omega) (by omega) (by omega) (by omega) (by omega) (by omega) (by omega)
  have e3 := hn 3 (by omega) (by omega) (by omega) (by omega) (by omega) (by omega) (by omega)
  have e4 := hn 4 (by omega) (by omega) (by omega) (by omega) (by omega) (by omega) (by omega)
  have e5 := hn 5 (by omega) (by omega) (by omega) (by omega) (by omega) (by omega) (by omega)
  have e6 := hn 6 (by omega) (by omega) (by omega) (by omega) (by omega) (by omega) (by omega)
  have e7 := hn 7 (by omega) (by omega) (by omega) (by omega) (by omega) (by omega) (by omega)
  have e8 := hn 8 (by omega) (by omega) (by omega) (by omega) (by omega) (by omega) (by omega)
  have e9 := hn 9 (by omega) (by omega) (by omega) (by omega) (by omega) (by omega) (by omega)
  have e10 := hn 10 (by omega) (by omega) (by omega) (by omega) (by omega) (by omega) (by omega)
  have e11 := hn 11 (by omega) (by omega) (by omega) (by omega) (by omega) (by omega) (by omega)
  have e12 := hn 12 (by omega) (by omega) (by omega) (by omega) (by omega) (by omega) (by omega)
  have e13 := hn 13 (by omega) (by omega) (by omega) (by omega) (by omega) (by omega) (by omega)
  have e14 := hn 14 (by omega) (by omega) (by omega) (by omega) (by omega) (by omega) (by omega)
  have e15 := hn 15 (by omega) (by omega) (by omega) (by omega) (by omega) (by omega) (by omega)
  have e16 := hn 16 (by omega) (by omega) (by omega) (by omega) (by omega) (by omega) (by omega)
  have e18 := hn 18 (by omega) (by omega) (by omega) (by omega) (by omega) (by omega) (by omega)
  have e19 := hn 19 (by omega) (by omega) (by omega) (by omega) (by omega) (by omega) (by omega)
  refine ⟨kd, ow, st, md, et, lg, tb, en, rt, ?_, ?_, hI⟩
  · unfold RM pgM kOk at *
    rw [e3, e4, e5, e7, e8, e9, e11, e13, e15, e18, e19]
    exact hM
  · unfold RC RB pgC at *
    rw [h0, h1, e1, e2, e6, e10, e12, e14, e16]
    exact hC
/-- an int argument: below, above, or a number -/
theorem arg20 (x : Int32) : x < 0 ∨ nI 20 ≤ x ∨ ∃ j, j < 20 ∧ x = nI j := pk_ix x (by omega)
theorem ge_nlt {x : Int32} {n : Nat} (h : nI n ≤ x) : ¬ x < nI n := by
  rw [Int32.lt_iff_toInt_lt]
  have := Int32.le_iff_toInt_le.mp h
  omega
theorem ge_nneg {x : Int32} {n : Nat} (hn : n < 2 ^ 31) (h : nI n ≤ x) : ¬ x < nI 0 := by
  rw [Int32.lt_iff_toInt_lt]
  have := Int32.le_iff_toInt_le.mp h
  rw [nI_toInt hn] at this
  rw [nI_toInt (by omega)]
  omega
def untA (kd ow st md et lg kd' ow' st' md' et' lg' : Nat → Nat) (tb en rt tb' en' rt' : Nat → Nat → Nat) (q : Nat) : Prop := kd' q = kd q ∧ ow' q = ow q ∧ st' q = st q ∧ md' q = md q ∧ et' q = et q ∧ lg' q = lg q ∧ (∀ j, tb' q j = tb q j) ∧ (∀ i, en' q i = en q i) ∧ (∀ i, rt' q i = rt q i)
def untR (R R' : Mem) (q : Nat) : Prop := R' 3 q = R 3 q ∧ R' 4 q = R 4 q ∧ R' 5 q = R 5 q ∧ R' 13 q = R 13 q ∧ R' 15 q = R 15 q ∧ R' 11 q = R 11 q ∧ (∀ j, j < 4 → R' 9 (4 * q + j) = R 9 (4 * q + j)) ∧ (∀ i, i < 8 → R' 7 (8 * q + i) = R 7 (8 * q + i)) ∧ (∀ i, i < 8 → R' 8 (8 * q + i) = R 8 (8 * q + i))
def untC (C C' R R' : Mem) (q : Nat) : Prop := (∀ j, C' (33 + 5 * q) j = C (33 + 5 * q) j) ∧ (∀ j, C' (33 + 5 * q + 1) j = C (33 + 5 * q + 1) j) ∧ (∀ j, C' (33 + 5 * q + 2) j = C (33 + 5 * q + 2) j) ∧ (∀ j, C' (33 + 5 * q + 3) j = C (33 + 5 * q + 3) j) ∧ (∀ j, C' (33 + 5 * q + 4) j = C (33 + 5 * q + 4) j) ∧ (∀ j, C' (5 + q) j = C (5 + q) j) ∧ (∀ j, j < 16 → R' 6 (16 * q + j) = R 6 (16 * q + j)) ∧ (∀ j, j < 8 → R' 12 (8 * q + j) = R 12 (8 * q + j)) ∧ (∀ i, i < 1600 → R' 10 (1600 * q + i) = R 10 (1600 * q + i)) ∧ R' 14 q = R 14 q ∧ (∀ j, j < 5 → R' 16 (5 * q + j) = R 16 (5 * q + j))
theorem pgM_unt {R R' : Mem} {kd ow st md et lg kd' ow' st' md' et' lg' : Nat → Nat} {tb en rt tb' en' rt' : Nat → Nat → Nat} {q : Nat} (h : pgM R kd ow st md et lg tb en rt q) (hA : untA kd ow st md et lg kd' ow' st' md' et' lg' tb en rt tb' en' rt' q) (hR : untR R R' q) : pgM R' kd' ow' st' md' et' lg' tb' en' rt' q := by
  obtain ⟨a1, a2, a3, a4, a5, a6, a7, a8, a9⟩ := h
  obtain ⟨b1, b2, b3, b4, b5, b6, b7, b8, b9⟩ := hA
  obtain ⟨c1, c2, c3, c4, c5, c6, c7, c8, c9⟩ := hR
  exact ⟨by rw [c1, b1, a1], by rw [c2, b2, a2], by rw [c3, b3, a3], by rw [c4, b4, a4], by rw [c5, b5, a5], by rw [c6, b6, a6], fun j hj => by rw [c7 j hj, b7, a7 j hj], fun i hi => by rw [c8 i hi, b8, a8 i hi], fun i hi h0 => by rw [c9 i hi, b9, a9 i hi (by rw [← b8]; exact h0)]⟩
theorem pgC_unt {C C' R R' : Mem} {th th' : Nat} {kd ow st md et lg kd' ow' st' md' et' lg' : Nat → Nat} {tb en rt tb' en' rt' : Nat → Nat → Nat} {q : Nat} (h : pgC C R th kd ow st md et lg tb en rt q) (hA : untA kd ow st md et lg kd' ow' st' md' et' lg' tb en rt tb' en' rt' q) (hC : untC C C' R R' q) (hl : lg q ≤ 85) (ht : q ≠ th' → q ≠ th) : pgC C' R' th' kd' ow' st' md' et' lg' tb' en' rt' q := by
  obtain ⟨a1, a2, a3, a4, a5, a6, a7, a8, a9, a10, a11, a12⟩ := h
  obtain ⟨b1, b2, b3, b4, b5, b6, b7, b8, b9⟩ := hA
  obtain ⟨c1, c2, c3, c4, c5, c6, c7, c8, c9, c10, c11⟩ := hC
  refine ⟨by rw [c1, b1, a1], by rw [c1, b2, a2], by rw [c1, b3, a3], fun j hj => by rw [c2, b7, a4 j hj], fun i hi => by rw [c5, b8, b9, a5 i hi], fun j hj => by rw [c6, c7 j hj, a6 j hj], ?_, ?_, ?_, ?_, ?_, ?_⟩
  · intro h; rw [c1, b4, a7 (by rw [← b1]; exact h)]
  · intro h1 h2 j hj; rw [c3, c8 j hj, a8 (by rw [← b1]; exact h1) (by rw [← b4]; exact h2) j hj]
  · intro h1 h2
    obtain ⟨d1, d2⟩ := a9 (by rw [← b1]; exact h1) (by rw [← b3]; exact h2)
    refine ⟨by rw [c1, b6, d1], fun j hj => ?_⟩
    rw [c3, b6, d2 j hj]
    exact chn_congr _ (fun i hi => (c9 i (by omega)).symm) j hj
  · intro h; rw [c1, c10, a10 (by rw [← b1]; exact h)]
  · intro h1 h2; rw [c1, b5, a11 (by rw [← b1]; exact h1) (ht h2)]
  · intro h1 h2 h3
    obtain ⟨d1, d2⟩ := a12 (by rw [← b1]; exact h1) (ht h2) (by rw [← b5]; exact h3)
    exact ⟨fun j hj => by rw [c4, c11 j (by omega), d1 j hj], by rw [c1, c11 4 (by omega), d2]⟩
theorem untA_rf {kd ow st md et lg : Nat → Nat} {tb en rt : Nat → Nat → Nat} (q : Nat) : untA kd ow st md et lg kd ow st md et lg tb en rt tb en rt q := ⟨rfl, rfl, rfl, rfl, rfl, rfl, fun _ => rfl, fun _ => rfl, fun _ => rfl⟩
