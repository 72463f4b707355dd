/-! What both constructors leave is related. -/
theorem free_e (M : Mem) : ∃ M', fX6_free M = some M' ∧ (∀ j, j < 20 → M' 3 j = nI 0 ∧ M' 4 j = -nI 1) ∧ M' 0 17 = nI 0 ∧ (∀ a, a ≠ 0 → a ≠ 3 → a ≠ 4 → M' a = M a) ∧ ∀ b, b ≠ 17 → M' 0 b = M 0 b := by
  obtain ⟨F, hF⟩ : ∃ F : Int32 → Mem → Option Mem, F = fun (x4 : Int32) (M5 : Mem) => bnd (mset M5 0 17 (0 : Int32)) (fun M6 => some M6) := ⟨_, rfl⟩
  obtain ⟨M1, a1, a2, a3⟩ := loop_inv (fun n i M => lp_X6_free_2 F n i M) F 20 (fun i M' => (∀ j, j < i → M' 3 j = nI 0 ∧ M' 4 j = -nI 1) ∧ ∀ a, a ≠ 3 → a ≠ 4 → M' a = M a) (by omega) (fun n i M' hi hp => by
    obtain ⟨p1, p2⟩ := hp
    refine ⟨mset (mset M' 3 i (nI 0)) 4 i (-nI 1), ?_, fun j hj => ?_, fun a h3 h4 => ?_⟩
    · simp (disch := omega) only [lp_X6_free_2_s, show (-1 : Int32) = -nI 1 from by decide, mset_s, mset_nk, mset_nj, mrow_s, mrow_n, ifeq_s, nar_0, nar_1, isB_0, isB_1, bnd_e, jn_e, Option.bind_some, gd_true, gd_dec, Bool.true_and, Bool.and_true, Bool.and_self, tn_nI, inb_nI, ifle_t, ifle_f, iflt_t, iflt_f, ifeq_f, if_true, ofN_nI, nI_add, nI_subl, li_0, li_1, li_2, li_3, li_4, li_5, li_6, li_7, li_8, li_9, li_10, li_11, li_12, li_13, li_14, li_15, li_16, li_17, li_18, li_19, li_20, li_21, li_22, li_23, li_24, li_25, li_26, li_27, li_28, li_29, li_30, li_31, li_32, li_60, li_63, li_64, li_80, li_100, li_128, li_160, li_320, li_511, li_512, li_1600, li_1700, li_2000, li_2048, li_32000, li_2147483647]
    · by_cases e : j = i
      · subst e
        exact ⟨by rw [mset_nk _ _ _ (by omega), mset_s], by rw [mset_s]⟩
      · rw [mset_nk _ _ _ (by omega), mset_nj _ _ _ e, mset_nj _ _ _ e, mset_nk _ _ _ (by omega)]
        exact p1 j (by omega)
    · rw [mset_nk _ _ _ h4, mset_nk _ _ _ h3, p2 a h3 h4]) (fun n M' _ => by simp (disch := omega) only [lp_X6_free_2_s, mset_s, mset_nk, mset_nj, mrow_s, mrow_n, ifeq_s, nar_0, nar_1, isB_0, isB_1, bnd_e, jn_e, Option.bind_some, gd_true, gd_dec, Bool.true_and, Bool.and_true, Bool.and_self, tn_nI, inb_nI, ifle_t, ifle_f, iflt_t, iflt_f, ifeq_f, if_true, ofN_nI, nI_add, nI_subl, li_0, li_1, li_2, li_3, li_4, li_5, li_6, li_7, li_8, li_9, li_10, li_11, li_12, li_13, li_14, li_15, li_16, li_17, li_18, li_19, li_20, li_21, li_22, li_23, li_24, li_25, li_26, li_27, li_28, li_29, li_30, li_31, li_32, li_60, li_63, li_64, li_80, li_100, li_128, li_160, li_320, li_511, li_512, li_1600, li_1700, li_2000, li_2048, li_32000, li_2147483647]) (M := M) ⟨fun j hj => absurd hj (by omega), fun _ _ _ => rfl⟩
  refine ⟨mset M1 0 17 (nI 0), ?_, fun j hj => ?_, mset_s _ _ _ _, fun a h0 h3 h4 => ?_, fun b hb => ?_⟩
  · unfold fX6_free
    rw [jn_e, ← hF, li_0, a1, hF]
    rfl
  · rw [mset_nk _ _ _ (by omega), mset_nk _ _ _ (by omega)]
    exact a2 j hj
  · rw [mset_nk _ _ _ h0, a3 a h3 h4]
  · rw [mset_nj _ _ _ hb, a3 0 (by omega) (by omega)]
theorem free_some (M : Mem) : ∃ M', fX6_free M = some M' := by
  obtain ⟨M', h, -⟩ := free_e M
  exact ⟨M', h⟩
def M0M (f g : Nat → Int32) : Mem := fun k => if k = 18 then f else if k = 19 then g else fun _ => 0
def C0C : Mem := fun k j => if isPg k = true ∧ j = 1 then -1 else 0
theorem C0C_n {k j : Nat} (h : isPg k = false ∨ j ≠ 1) : C0C k j = nI 0 := by
  unfold C0C
  rw [if_neg (fun q => by
    rcases h with h | h
    · rw [h] at q; exact absurd q.1 (by decide)
    · exact h q.2)]
  rfl
theorem isPg_no {k : Nat} (h : k < 33 ∨ 133 ≤ k ∨ (k - 33) % 5 ≠ 0) : isPg k = false := by
  unfold isPg
  rw [decide_eq_false_iff_not]
  omega
theorem M0M_n {f g : Nat → Int32} {k j : Nat} (h : k ≠ 18) (h2 : k ≠ 19) : M0M f g k j = nI 0 := by
  unfold M0M
  rw [if_neg h, if_neg h2]
  rfl
theorem Rel_0 {f g : Nat → Int32} {M1 : Mem} (hf : ∀ t, t < 64 → f t = tbADDED t) (hg : ∀ j, j < 8 → g j = tbSTART j) (h : fX6_free (M0M f g) = some M1) : Rel C0C M1 := by
  obtain ⟨M', h', a1, a2, a3, a4⟩ := free_e (M0M f g)
  rw [h] at h'
  cases h'
  have z : ∀ a b, a ≠ 0 → a ≠ 3 → a ≠ 4 → a ≠ 18 → a ≠ 19 → M1 a b = nI 0 := fun a b h0 h3 h4 h8 h9 => by rw [a3 a h0 h3 h4]; exact M0M_n h8 h9
  have pz : ∀ p i, 0 < i → i < 5 → isPg (33 + 5 * p + i) = false := fun p i h1 h2 => isPg_no (by omega)
  refine ⟨fun _ => 0, fun _ => 20, fun _ => 0, fun _ => 0, fun _ => 0, fun _ => 0, fun _ _ => 0, fun _ _ => 0, fun _ _ => 0, ⟨⟨fun t ht => ?_, fun j hj => ?_⟩, fun p hp => ?_⟩, ⟨⟨fun j h1 h2 => ?_, ?_, ?_, fun j hj => ?_, fun f hf j hj => ?_⟩, fun p hp => ?_⟩, ?_⟩
  · rw [a3 18 (by omega) (by omega) (by omega)]; exact hf t ht
  · rw [a3 19 (by omega) (by omega) (by omega)]; exact hg j hj
  · refine ⟨(a1 p hp).1, (a1 p hp).2, z _ _ (by omega) (by omega) (by omega) (by omega) (by omega), z _ _ (by omega) (by omega) (by omega) (by omega) (by omega), z _ _ (by omega) (by omega) (by omega) (by omega) (by omega), z _ _ (by omega) (by omega) (by omega) (by omega) (by omega), fun j hj => z _ _ (by omega) (by omega) (by omega) (by omega) (by omega), fun j hj => z _ _ (by omega) (by omega) (by omega) (by omega) (by omega), fun j hj hn => absurd rfl hn⟩
  · exact C0C_n (Or.inl (isPg_no (by omega)))
  · rw [a2]; exact C0C_n (Or.inl (isPg_no (by omega)))
  · rw [a4 18 (by omega)]; exact (C0C_n (Or.inl (isPg_no (by omega)))).trans (M0M_n (by omega) (by omega)).symm
  · rw [z 1 j (by omega) (by omega) (by omega) (by omega) (by omega)]; exact C0C_n (Or.inl (isPg_no (by omega)))
  · rw [z 2 _ (by omega) (by omega) (by omega) (by omega) (by omega)]; exact C0C_n (Or.inl (isPg_no (by omega)))
  · refine ⟨C0C_n (Or.inr (by omega)), ?_, C0C_n (Or.inr (by omega)), fun j hj => C0C_n (Or.inl (pz p 1 (by omega) (by omega))), fun j hj => C0C_n (Or.inl (pz p 4 (by omega) (by omega))), fun j hj => ?_, fun k => absurd (show (0 : Nat) = 1 from k) (by decide), fun k => absurd (show (0 : Nat) = 1 from k) (by decide), fun k => absurd (show (0 : Nat) = 1 from k) (by decide), fun k => absurd (show (0 : Nat) = 2 from k) (by decide), fun k => absurd (show (0 : Nat) = 2 from k) (by decide), fun k => absurd (show (0 : Nat) = 2 from k) (by decide)⟩
    · unfold C0C
      rw [if_pos ⟨isPg_p hp, rfl⟩]
      rfl
    · rw [z 6 _ (by omega) (by omega) (by omega) (by omega) (by omega)]; exact C0C_n (Or.inl (isPg_no (by omega)))
  · refine ⟨fun p hp => ⟨Nat.zero_le _, Nat.zero_le _, Nat.zero_le _, Nat.zero_le _, Nat.zero_le _, fun _ => rfl, fun h => absurd (show (2 : Nat) ≤ 0 from h) (by decide), fun h => absurd (show (0 : Nat) = 1 from h) (by decide), fun _ _ => Nat.zero_le _, fun _ _ => Nat.zero_le _, fun _ _ h => absurd rfl h⟩, fun p hp h => absurd (show (0 : Nat) = 1 from h) (by decide), fun t ht h => absurd (show (0 : Nat) = 3 from h) (by decide), fun t t' ht ht' h => absurd (show (0 : Nat) = 3 from h) (by decide), fun p hp h => absurd (show (0 : Nat) = 1 from h) (by decide)⟩
