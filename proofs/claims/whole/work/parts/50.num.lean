/-! Numbers, memories, loops: what the pure part rests on. -/
theorem lit_nI (n : Nat) : (@OfNat.ofNat Int32 n _) = nI n := rfl
theorem li_0 : (0 : Int32) = nI 0 := by decide
theorem li_1 : (1 : Int32) = nI 1 := by decide
theorem li_2 : (2 : Int32) = nI 2 := by decide
theorem li_3 : (3 : Int32) = nI 3 := by decide
theorem li_4 : (4 : Int32) = nI 4 := by decide
theorem li_5 : (5 : Int32) = nI 5 := by decide
theorem li_6 : (6 : Int32) = nI 6 := by decide
theorem li_7 : (7 : Int32) = nI 7 := by decide
theorem li_8 : (8 : Int32) = nI 8 := by decide
theorem li_9 : (9 : Int32) = nI 9 := by decide
theorem li_10 : (10 : Int32) = nI 10 := by decide
theorem li_11 : (11 : Int32) = nI 11 := by decide
theorem li_12 : (12 : Int32) = nI 12 := by decide
theorem li_13 : (13 : Int32) = nI 13 := by decide
theorem li_14 : (14 : Int32) = nI 14 := by decide
theorem li_15 : (15 : Int32) = nI 15 := by decide
theorem li_16 : (16 : Int32) = nI 16 := by decide
theorem li_17 : (17 : Int32) = nI 17 := by decide
theorem li_18 : (18 : Int32) = nI 18 := by decide
theorem li_19 : (19 : Int32) = nI 19 := by decide
theorem li_20 : (20 : Int32) = nI 20 := by decide
theorem li_21 : (21 : Int32) = nI 21 := by decide
theorem li_22 : (22 : Int32) = nI 22 := by decide
theorem li_23 : (23 : Int32) = nI 23 := by decide
theorem li_24 : (24 : Int32) = nI 24 := by decide
theorem li_25 : (25 : Int32) = nI 25 := by decide
theorem li_26 : (26 : Int32) = nI 26 := by decide
theorem li_27 : (27 : Int32) = nI 27 := by decide
theorem li_28 : (28 : Int32) = nI 28 := by decide
theorem li_29 : (29 : Int32) = nI 29 := by decide
theorem li_30 : (30 : Int32) = nI 30 := by decide
theorem li_31 : (31 : Int32) = nI 31 := by decide
theorem li_32 : (32 : Int32) = nI 32 := by decide
theorem li_60 : (60 : Int32) = nI 60 := by decide
theorem li_63 : (63 : Int32) = nI 63 := by decide
theorem li_64 : (64 : Int32) = nI 64 := by decide
theorem li_80 : (80 : Int32) = nI 80 := by decide
theorem li_100 : (100 : Int32) = nI 100 := by decide
theorem li_128 : (128 : Int32) = nI 128 := by decide
theorem li_160 : (160 : Int32) = nI 160 := by decide
theorem li_320 : (320 : Int32) = nI 320 := by decide
theorem li_511 : (511 : Int32) = nI 511 := by decide
theorem li_512 : (512 : Int32) = nI 512 := by decide
theorem li_1600 : (1600 : Int32) = nI 1600 := by decide
theorem li_1700 : (1700 : Int32) = nI 1700 := by decide
theorem li_2000 : (2000 : Int32) = nI 2000 := by decide
theorem li_2048 : (2048 : Int32) = nI 2048 := by decide
theorem li_32000 : (32000 : Int32) = nI 32000 := by decide
theorem li_2147483647 : (2147483647 : Int32) = nI 2147483647 := by decide
theorem tn_nI {i : Nat} (h : i < 2 ^ 31) : (nI i).toNatClampNeg = i := nI_clamp h
theorem inb_nI {i n : Nat} (h : i < 2 ^ 31) : inb (nI i) n = decide (i < n) := by
  unfold inb
  have h1 := nI_pos h
  rw [nI_clamp h]
  by_cases hn : i < n
  · rw [decide_eq_true hn, decide_eq_true_iff]
    intro q
    rcases q with q | q
    · exact h1 q
    · omega
  · rw [decide_eq_false hn, decide_eq_false_iff_not]
    intro q
    exact q (Or.inr (by omega))
theorem gd_t {β : Type} {b : Bool} {F : Option β} (h : b = true) : gd b F = F := if_pos h
theorem gd_inb {β : Type} {i n : Nat} {F : Option β} (h : i < n) (hn : n < 2 ^ 31) : gd (inb (nI i) n) F = F := gd_t (by rw [inb_nI (by omega)]; exact decide_eq_true h)
theorem bnd_e {α β : Type} (x : α) (F : α → Option β) : bnd x F = F x := rfl
theorem jn_e {γ β : Type} (K : γ) (F : γ → Option β) : jn K F = F K := rfl
theorem mset_get (M : Mem) (k j : Nat) (x : Int32) (a b : Nat) : mset M k j x a b = if a = k ∧ b = j then x else M a b := by
  unfold mset mrow upd
  by_cases h : a = k
  · subst h
    by_cases h2 : b = j
    · simp [h2]
    · simp [h2]
  · simp [h]
theorem mrow_get (M : Mem) (k : Nat) (f : Nat → Int32) (a b : Nat) : mrow M k f a b = if a = k then f b else M a b := by
  unfold mrow
  by_cases h : a = k <;> simp [h]
theorem mset_s (M : Mem) (k j : Nat) (x : Int32) : mset M k j x k j = x := by rw [mset_get]; simp
theorem mset_nk (M : Mem) {k a : Nat} (j : Nat) (x : Int32) (h : a ≠ k) : mset M k j x a = M a := by
  funext b
  rw [mset_get]
  simp [h]
theorem mset_nj (M : Mem) (k : Nat) {j b : Nat} (x : Int32) (h : b ≠ j) : mset M k j x k b = M k b := by
  rw [mset_get]
  simp [h]
-- a counter that goes up
def itr {σ : Type} (st : Nat → σ → σ) : Nat → Nat → σ → σ
  | 0, _, s => s
  | k + 1, i, s => itr st k (i + 1) (st i s)
theorem itr_s {σ : Type} (st : Nat → σ → σ) : ∀ (k i : Nat) (s : σ), itr st (k + 1) i s = st (i + k) (itr st k i s)
  | 0, i, s => by simp [itr]
  | k + 1, i, s => by
    show itr st (k + 1) (i + 1) (st i s) = _
    rw [itr_s st k (i + 1) (st i s)]
    have e : i + 1 + k = i + (k + 1) := by omega
    rw [e]
    rfl
theorem loop_up {σ β : Type} (L : Nat → Int32 → σ → Option β) (st : Nat → σ → σ) (F : Int32 → σ → Option β) (N : Nat)
    (h1 : ∀ n i s, i < N → L (n + 1) (nI i) s = L n (nI (i + 1)) (st i s)) (h2 : ∀ n s, L (n + 1) (nI N) s = F (nI N) s) :
    ∀ (k i n : Nat) (s : σ), i + k = N → k < n → L n (nI i) s = F (nI N) (itr st k i s)
  | 0, i, n, s, e, hn => by
    obtain ⟨n, rfl⟩ : ∃ q, n = q + 1 := ⟨n - 1, by omega⟩
    have e2 : i = N := by omega
    subst e2
    exact h2 n s
  | k + 1, i, n, s, e, hn => by
    obtain ⟨n, rfl⟩ : ∃ q, n = q + 1 := ⟨n - 1, by omega⟩
    rw [h1 n i s (by omega)]
    exact loop_up L st F N h1 h2 k (i + 1) n (st i s) (by omega) (by omega)
/-- what holds of every step holds at the end -/
theorem itr_inv {σ : Type} {st : Nat → σ → σ} (P : Nat → σ → Prop) {N : Nat} (hs : ∀ i s, i < N → P i s → P (i + 1) (st i s)) : ∀ (k i : Nat) (s : σ), i + k ≤ N → P i s → P (i + k) (itr st k i s)
  | 0, i, s, _, h => h
  | k + 1, i, s, hk, h => by
    have := itr_inv P hs k (i + 1) (st i s) (by omega) (hs i s (by omega) h)
    have e : i + (k + 1) = i + 1 + k := by omega
    rw [e]
    exact this
theorem nI_s (i : Nat) : nI i + nI 1 = nI (i + 1) := nI_add i 1
theorem loop_ge {σ β : Type} (L : Nat → Int32 → σ → Option β) (st : Nat → σ → σ) (F : Int32 → σ → Option β) (lo N : Nat)
    (h1 : ∀ n i s, lo ≤ i → i < N → L (n + 1) (nI i) s = L n (nI (i + 1)) (st i s)) (h2 : ∀ n s, L (n + 1) (nI N) s = F (nI N) s) :
    ∀ (k i n : Nat) (s : σ), lo ≤ i → i + k = N → k < n → L n (nI i) s = F (nI N) (itr st k i s)
  | 0, i, n, s, _, e, hn => by
    obtain ⟨n, rfl⟩ : ∃ q, n = q + 1 := ⟨n - 1, by omega⟩
    have e2 : i = N := by omega
    subst e2
    exact h2 n s
  | k + 1, i, n, s, hi, e, hn => by
    obtain ⟨n, rfl⟩ : ∃ q, n = q + 1 := ⟨n - 1, by omega⟩
    rw [h1 n i s hi (by omega)]
    exact loop_ge L st F lo N h1 h2 k (i + 1) n (st i s) (by omega) (by omega) (by omega)
/-- a step that works on one cell alone -/
theorem itr_row {st : Nat → (Nat → Int32) → Nat → Int32} {c : Nat} : ∀ (k i : Nat) (M : Mem), itr (fun i M' => mrow M' c (st i (M' c))) k i M = mrow M c (itr st k i (M c))
  | 0, i, M => by
    funext a
    by_cases h : a = c
    · subst h; rw [mrow_s]; rfl
    · rw [mrow_n _ _ h]; rfl
  | k + 1, i, M => by
    show itr _ k (i + 1) (mrow M c (st i (M c))) = _
    rw [itr_row k (i + 1) (mrow M c (st i (M c))), mrow_s]
    funext a
    by_cases h : a = c
    · subst h; rw [mrow_s, mrow_s]; rfl
    · rw [mrow_n _ _ h, mrow_n _ _ h, mrow_n _ _ h]
theorem mrow_mrow (M : Mem) (c : Nat) (f g : Nat → Int32) : mrow (mrow M c f) c g = mrow M c g := by
  funext a
  by_cases h : a = c
  · subst h; rw [mrow_s, mrow_s]
  · rw [mrow_n _ _ h, mrow_n _ _ h, mrow_n _ _ h]
theorem mset_row (M : Mem) (c j : Nat) (x : Int32) : mset M c j x = mrow M c (upd (M c) j x) := rfl
theorem gd_dec {β : Type} {P : Prop} [Decidable P] {F : Option β} (h : P) : gd (decide P) F = F := gd_t (decide_eq_true h)
theorem gd_true {β : Type} {F : Option β} : gd true F = F := rfl
theorem ifle_t {α : Type} {a b : Nat} {x y : α} (h : a ≤ b) (hb : b < 2 ^ 31) : (if nI a ≤ nI b then x else y) = x := if_pos (nI_le h hb)
theorem ifle_f {α : Type} {a b : Nat} {x y : α} (h : b < a) (hb : a < 2 ^ 31) : (if nI a ≤ nI b then x else y) = y := if_neg (nI_ge h hb)
theorem iflt_t {α : Type} {a b : Nat} {x y : α} (h : a < b) (hb : b < 2 ^ 31) : (if nI a < nI b then x else y) = x := if_pos (nI_lt h hb)
theorem iflt_f {α : Type} {a b : Nat} {x y : α} (h : b ≤ a) (hb : a < 2 ^ 31) : (if nI a < nI b then x else y) = y := if_neg (nI_nlt h hb)
theorem ifeq_f {α : Type} {a b : Nat} {x y : α} (h : a ≠ b) (ha : a < 2 ^ 31) (hb : b < 2 ^ 31) : (if nI a = nI b then x else y) = y := if_neg (fun e => h ((nI_eq ha hb).mp e))
theorem ofN_nI (n : Nat) : Int32.ofNat n = nI n := Int32.toInt_inj.mp (congrArg Int32.toInt (show Int32.ofNat n = nI n from rfl))
theorem nI_subl {a b : Nat} (h : b ≤ a) : nI a - nI b = nI (a - b) := pk_sub h
