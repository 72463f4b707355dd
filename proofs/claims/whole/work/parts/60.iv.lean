/-! What the calls do to the abstract state. -/
theorem up_o {f : Nat → Nat} {p v q w : Nat} (h : up f p v q = w) (hv : v ≠ w) : q ≠ p ∧ f q = w := by
  by_cases e : q = p
  · subst e; rw [up_s] at h; exact absurd h hv
  · rw [up_n _ _ e] at h; exact ⟨e, h⟩
theorem up_ne {f : Nat → Nat} {p q a b : Nat} (hp : f p = a) (hq : f q = b) (h : a ≠ b) : q ≠ p := by
  intro e
  rw [e, hp] at hq
  exact h hq
theorem IV_kd {kd ow st md et lg : Nat → Nat} {tb en rt : Nat → Nat → Nat} (h : IV kd ow st md et lg tb en rt) {p s b : Nat} (hs : s < 20) (kp : kd p ≠ 1 ∧ kd p ≠ 2 ∧ kd p ≠ 3) (hb : 2 ≤ b ∧ b ≠ 3 ∧ b ≤ 5) (ks : kd s = 1) (hl : kd p = 4 → ∀ t, t < 20 → kd t = 3 → st (ow t) ≠ 2 → ∀ i, i < 8 → en t i ≠ p + 1) : IV (up kd p b) (up ow p s) st md et lg tb en rt := by
  obtain ⟨h1, h2, h3, h4, h5⟩ := h
  have ne1 : ∀ q, kd q = 1 → q ≠ p := fun q hq e => kp.1 (e ▸ hq)
  have ne3 : ∀ q, kd q = 3 → q ≠ p := fun q hq e => kp.2.2 (e ▸ hq)
  refine ⟨fun q hq => ?_, fun q hq k1 k2 j hj k3 => ?_, fun t ht k3 k2 i hi e1 e2 => ?_, fun t t' ht ht' k3 k3' k2 k2' i i' hi hi' ee e1 e2 => ?_, fun q hq k1 k2 => ?_⟩
  · obtain ⟨b1, b2, b3, b4, b5, b6, b7, b8, b9, b10, b11⟩ := h1 q hq
    by_cases e : q = p
    · subst e
      rw [up_s, up_s, up_n _ _ (ne1 s ks)]
      exact ⟨by omega, b2, b3, b4, b5, fun k => absurd k (by omega), fun _ => ⟨hs, ks⟩, fun k => absurd k (by omega), b9, b10, b11⟩
    · rw [up_n _ _ e, up_n _ _ e]
      exact ⟨b1, b2, b3, b4, b5, b6, fun k => ⟨(b7 k).1, by rw [up_n _ _ (ne1 _ (b7 k).2)]; exact (b7 k).2⟩, b8, b9, b10, b11⟩
  · have a := up_o k1 (by omega)
    have c := h2 q hq a.2 k2 j hj k3
    rw [up_n _ _ (ne3 _ c.1), up_n _ _ (ne3 _ c.1)]
    exact c
  · have a := up_o k3 (by omega)
    rw [up_n _ _ a.1] at k2
    have c := h3 t ht a.2 k2 i hi e1 e2
    have n : en t i - 1 ≠ p := fun e => hl (e ▸ c.1) t ht a.2 k2 i hi (by omega)
    rw [up_n _ _ n, up_n _ _ n, up_n _ _ a.1]
    exact c
  · have a := up_o k3 (by omega)
    have a' := up_o k3' (by omega)
    rw [up_n _ _ a.1] at k2
    rw [up_n _ _ a'.1] at k2'
    exact h4 t t' ht ht' a.2 a'.2 k2 k2' i i' hi hi' ee e1 e2
  · have a := up_o k1 (by omega)
    have c := h5 q hq a.2 k2
    have e : thr kd ow q ≤ thr (up kd p b) (up ow p s) q := by
      unfold thr
      refine cnt_mono (fun i hi h => ?_)
      have d := of_decide_eq_true h
      have n : i ≠ p := fun e => kp.2.1 (e ▸ d.1)
      rw [up_n _ _ n, up_n _ _ n]
      exact h
    omega
theorem IV_lg {kd ow st md et lg : Nat → Nat} {tb en rt : Nat → Nat → Nat} (h : IV kd ow st md et lg tb en rt) {s v : Nat} (hv : v ≤ thr kd ow s + 2 * tak tb en s) : IV kd ow st md et (up lg s v) tb en rt := by
  obtain ⟨h1, h2, h3, h4, h5⟩ := h
  have b1 : thr kd ow s ≤ 20 := cnt_le _ _
  have b2 : tak tb en s ≤ 32 := cnt_le _ _
  refine ⟨fun q hq => ?_, h2, h3, h4, fun q hq k1 k2 => ?_⟩
  · obtain ⟨b1, b2, b3, b4, b5, b6⟩ := h1 q hq
    refine ⟨b1, b2, b3, b4, ?_, b6⟩
    by_cases e : q = s
    · subst e; rw [up_s]; omega
    · rw [up_n _ _ e]; exact b5
  · by_cases e : q = s
    · subst e; rw [up_s]; exact hv
    · rw [up_n _ _ e]; exact h5 q hq k1 k2
theorem IV_et {kd ow st md et lg : Nat → Nat} {tb en rt : Nat → Nat → Nat} (h : IV kd ow st md et lg tb en rt) (et' : Nat → Nat) (he : ∀ q, q < 20 → et' q ≤ 1) : IV kd ow st md et' lg tb en rt := by
  obtain ⟨h1, h2, h3, h4, h5⟩ := h
  refine ⟨fun q hq => ?_, h2, h3, h4, h5⟩
  obtain ⟨b1, b2, b3, b4, b5⟩ := h1 q hq
  exact ⟨b1, b2, b3, he q hq, b5⟩
def up2 (f : Nat → Nat → Nat) (t i v : Nat) : Nat → Nat → Nat := up f t (up (f t) i v)
theorem up2_s (f : Nat → Nat → Nat) (t i v : Nat) : up2 f t i v t i = v := by unfold up2; rw [up_s, up_s]
theorem up2_n (f : Nat → Nat → Nat) {t i t' i' : Nat} (v : Nat) (h : ¬ (t' = t ∧ i' = i)) : up2 f t i v t' i' = f t' i' := by
  unfold up2
  by_cases e : t' = t
  · subst e
    rw [up_s, up_n _ _ (fun e2 => h ⟨rfl, e2⟩)]
  · rw [up_n _ _ e]
theorem IV_map {kd ow st md et lg : Nat → Nat} {tb en rt : Nat → Nat → Nat} (h : IV kd ow st md et lg tb en rt) {T i e r : Nat} (h0 : en T i = 0) (he : 1 ≤ e ∧ e ≤ 28) (hr : 1 ≤ r ∧ r ≤ 7) (hp : e ≤ 20 → kd (e - 1) = 4 ∧ ow (e - 1) = ow T ∧ ∀ t, t < 20 → kd t = 3 → st (ow t) ≠ 2 → ∀ i, i < 8 → en t i ≠ e) : IV kd ow st md et lg tb (up2 en T i e) (up2 rt T i r) := by
  obtain ⟨h1, h2, h3, h4, h5⟩ := h
  refine ⟨fun q hq => ?_, h2, fun t ht k3 k2 j hj e1 e2 => ?_, fun t t' ht ht' k3 k3' k2 k2' j j' hj hj' ee e1 e2 => ?_, fun q hq k1 k2 => ?_⟩
  · obtain ⟨b1, b2, b3, b4, b5, b6, b7, b8, b9, b10, b11⟩ := h1 q hq
    refine ⟨b1, b2, b3, b4, b5, b6, b7, b8, b9, fun j hj => ?_, fun j hj hn => ?_⟩
    · by_cases c : q = T ∧ j = i
      · rw [c.1, c.2, up2_s]; omega
      · rw [up2_n _ _ c]; exact b10 j hj
    · by_cases c : q = T ∧ j = i
      · rw [c.1, c.2, up2_s]; exact hr
      · rw [up2_n _ _ c] at hn
        rw [up2_n _ _ c]; exact b11 j hj hn
  · by_cases c : t = T ∧ j = i
    · obtain ⟨rfl, rfl⟩ := c
      rw [up2_s] at e1 e2
      rw [up2_s]
      exact ⟨(hp e2).1, (hp e2).2.1⟩
    · rw [up2_n _ _ c] at e1 e2
      rw [up2_n _ _ c]
      exact h3 t ht k3 k2 j hj e1 e2
  · by_cases c : t = T ∧ j = i
    · by_cases c' : t' = T ∧ j' = i
      · exact ⟨by rw [c.1, c'.1], by rw [c.2, c'.2]⟩
      · obtain ⟨rfl, rfl⟩ := c
        rw [up2_s] at e1 e2
        rw [up2_s, up2_n _ _ c'] at ee
        exact absurd ee.symm ((hp e2).2.2 t' ht' k3' k2' j' hj')
    · by_cases c' : t' = T ∧ j' = i
      · obtain ⟨rfl, rfl⟩ := c'
        rw [up2_n _ _ c] at e1 e2
        rw [up2_s, up2_n _ _ c] at ee
        exact absurd ee ((hp (by omega)).2.2 t ht k3 k2 j hj)
      · rw [up2_n _ _ c] at e1 e2
        rw [up2_n _ _ c, up2_n _ _ c'] at ee
        exact h4 t t' ht ht' k3 k3' k2 k2' j j' hj hj' ee e1 e2
  · have c := h5 q hq k1 k2
    have e : tak tb en q ≤ tak tb (up2 en T i e) q := by
      unfold tak
      refine cnt_mono (fun b hb h => ?_)
      have d := of_decide_eq_true h
      refine decide_eq_true ⟨d.1, ?_⟩
      by_cases c : tb q (b / 8) = T ∧ b % 8 = i
      · rw [c.1, c.2, up2_s]; omega
      · rw [up2_n _ _ c]; exact d.2
    omega
theorem tak_map {tb en : Nat → Nat → Nat} {s b e : Nat} (hb : b < 32) (ht : tb s (b / 8) < 20) (h0 : en (tb s (b / 8)) (b % 8) = 0) (he : 1 ≤ e) : tak tb en s + 1 ≤ tak tb (up2 en (tb s (b / 8)) (b % 8) e) s := by
  unfold tak
  refine cnt_add (k := b) (fun c hc h => ?_) hb ?_ ?_
  · have d := of_decide_eq_true h
    refine decide_eq_true ⟨d.1, ?_⟩
    rw [up2_n _ _ (fun q => d.2 (by rw [q.1, q.2]; exact h0))]
    exact d.2
  · exact decide_eq_false (fun q => q.2 h0)
  · refine decide_eq_true ⟨ht, ?_⟩
    rw [up2_s]
    omega
theorem IV_unmap {kd ow st md et lg : Nat → Nat} {tb en rt : Nat → Nat → Nat} (h : IV kd ow st md et lg tb en rt) {T i : Nat} (kT : st (ow T) ≠ 0) : IV kd ow st md et lg tb (up2 en T i 0) rt := by
  obtain ⟨h1, h2, h3, h4, h5⟩ := h
  refine ⟨fun q hq => ?_, h2, fun t ht k3 k2 j hj e1 e2 => ?_, fun t t' ht ht' k3 k3' k2 k2' j j' hj hj' ee e1 e2 => ?_, fun q hq k1 k2 => ?_⟩
  · obtain ⟨b1, b2, b3, b4, b5, b6, b7, b8, b9, b10, b11⟩ := h1 q hq
    refine ⟨b1, b2, b3, b4, b5, b6, b7, b8, b9, fun j hj => ?_, fun j hj hn => ?_⟩
    · by_cases c : q = T ∧ j = i
      · rw [c.1, c.2, up2_s]; omega
      · rw [up2_n _ _ c]; exact b10 j hj
    · by_cases c : q = T ∧ j = i
      · rw [c.1, c.2, up2_s] at hn; exact absurd rfl hn
      · rw [up2_n _ _ c] at hn
        exact b11 j hj hn
  · by_cases c : t = T ∧ j = i
    · rw [c.1, c.2, up2_s] at e1; omega
    · rw [up2_n _ _ c] at e1 e2
      rw [up2_n _ _ c]
      exact h3 t ht k3 k2 j hj e1 e2
  · by_cases c : t = T ∧ j = i
    · rw [c.1, c.2, up2_s] at e1; omega
    · by_cases c' : t' = T ∧ j' = i
      · rw [ee, c'.1, c'.2, up2_s] at e1; omega
      · rw [up2_n _ _ c] at e1 e2
        rw [up2_n _ _ c, up2_n _ _ c'] at ee
        exact h4 t t' ht ht' k3 k3' k2 k2' j j' hj hj' ee e1 e2
  · have c := h5 q hq k1 k2
    have e : tak tb en q ≤ tak tb (up2 en T i 0) q := by
      unfold tak
      refine cnt_mono (fun b hb h => ?_)
      have d := of_decide_eq_true h
      refine decide_eq_true ⟨d.1, ?_⟩
      have o := (h2 q hq k1 (by omega) (b / 8) (by omega) d.1).2
      rw [up2_n _ _ (fun c => kT (by rw [← c.1, o]; exact k2))]
      exact d.2
    omega
theorem IV_tb {kd ow st md et lg : Nat → Nat} {tb en rt : Nat → Nat → Nat} (h : IV kd ow st md et lg tb en rt) {p s j : Nat} (hp : p < 20) (hs : s < 20) (kp : kd p = 0) (ks : kd s = 1) (hj : tb s j = 20) : IV (up kd p 3) (up ow p s) st md et lg (up2 tb s j p) (up en p (fun _ => 0)) rt := by
  obtain ⟨h1, h2, h3, h4, h5⟩ := h
  have ne : ∀ q, kd q ≠ 0 → q ≠ p := fun q hq e => hq (e ▸ kp)
  refine ⟨fun q hq => ?_, fun q hq k1 k2 j' hj' k3 => ?_, fun t ht k3 k2 i hi e1 e2 => ?_, fun t t' ht ht' k3 k3' k2 k2' i i' hi hi' ee e1 e2 => ?_, fun q hq k1 k2 => ?_⟩
  · obtain ⟨b1, b2, b3, b4, b5, b6, b7, b8, b9, b10, b11⟩ := h1 q hq
    have t9 : ∀ j', j' < 4 → up2 tb s j p q j' ≤ 20 := fun j' hj' => by
      by_cases c : q = s ∧ j' = j
      · rw [c.1, c.2, up2_s]; omega
      · rw [up2_n _ _ c]; exact b9 j' hj'
    by_cases e : q = p
    · subst e
      rw [up_s, up_s, up_s, up_n _ _ (ne s (by omega))]
      exact ⟨by omega, b2, b3, b4, b5, fun k => absurd k (by omega), fun _ => ⟨hs, ks⟩, fun k => absurd k (by omega), t9, fun i hi => Nat.zero_le _, fun i hi k => absurd rfl k⟩
    · rw [up_n _ _ e, up_n _ _ e, up_n _ _ e]
      exact ⟨b1, b2, b3, b4, b5, b6, fun k => ⟨(b7 k).1, by rw [up_n _ _ (ne _ (by have := (b7 k).2; omega))]; exact (b7 k).2⟩, b8, t9, b10, b11⟩
  · have a := up_o k1 (by omega)
    by_cases c : q = s ∧ j' = j
    · rw [c.1, c.2, up2_s, up_s, up_s]; exact ⟨rfl, rfl⟩
    · rw [up2_n _ _ c] at k3
      rw [up2_n _ _ c]
      have d := h2 q hq a.2 k2 j' hj' k3
      have n := ne _ (show kd (tb q j') ≠ 0 by omega)
      rw [up_n _ _ n, up_n _ _ n]
      exact d
  · by_cases e : t = p
    · subst e
      rw [up_s] at e1; omega
    · rw [up_n _ _ e] at k3 k2 e1 e2
      rw [up_n en _ e, up_n ow _ e]
      have c := h3 t ht k3 k2 i hi e1 e2
      have n := ne _ (show kd (en t i - 1) ≠ 0 by omega)
      rw [up_n _ _ n, up_n _ _ n]
      exact c
  · by_cases e : t = p
    · subst e
      rw [up_s] at e1; omega
    · by_cases e' : t' = p
      · subst e'
        rw [ee, up_s] at e1; omega
      · rw [up_n _ _ e] at k3 k2 e1 e2
        rw [up_n _ _ e'] at k3' k2'
        rw [up_n _ _ e, up_n _ _ e'] at ee
        exact h4 t t' ht ht' k3 k3' k2 k2' i i' hi hi' ee e1 e2
  · have a := up_o k1 (by omega)
    have c := h5 q hq a.2 k2
    have e : thr kd ow q ≤ thr (up kd p 3) (up ow p s) q := by
      unfold thr
      refine cnt_mono (fun i hi h => ?_)
      have d := of_decide_eq_true h
      have n : i ≠ p := ne _ (by omega)
      rw [up_n _ _ n, up_n _ _ n]
      exact h
    have e2 : tak tb en q ≤ tak (up2 tb s j p) (up en p (fun _ => 0)) q := by
      unfold tak
      refine cnt_mono (fun b hb h => ?_)
      have d := of_decide_eq_true h
      have n : ¬ (q = s ∧ b / 8 = j) := fun c => by
        have := d.1
        rw [c.1, c.2, hj] at this
        omega
      have o := (h2 q hq a.2 (by omega) (b / 8) (by omega) d.1).1
      rw [up2_n _ _ n, up_n _ _ (ne _ (by omega))]
      exact h
    omega
theorem IV_sp {kd ow st md et lg : Nat → Nat} {tb en rt : Nat → Nat → Nat} (h : IV kd ow st md et lg tb en rt) {p : Nat} (kp : kd p = 0) : IV (up kd p 1) (up ow p 20) (up st p 0) (up md p 0) et (up lg p 0) (up tb p (fun _ => 20)) en rt := by
  obtain ⟨h1, h2, h3, h4, h5⟩ := h
  have ne : ∀ q, kd q ≠ 0 → q ≠ p := fun q hq e => hq (e ▸ kp)
  refine ⟨fun q hq => ?_, fun q hq k1 k2 j' hj' k3 => ?_, fun t ht k3 k2 i hi e1 e2 => ?_, fun t t' ht ht' k3 k3' k2 k2' i i' hi hi' ee e1 e2 => ?_, fun q hq k1 k2 => ?_⟩
  · obtain ⟨b1, b2, b3, b4, b5, b6, b7, b8, b9, b10, b11⟩ := h1 q hq
    by_cases e : q = p
    · subst e
      rw [up_s, up_s, up_s, up_s, up_s, up_s]
      exact ⟨by omega, by omega, by omega, b4, by omega, fun _ => rfl, fun k => absurd k (by omega), fun _ => ⟨fun k => absurd k (by omega), fun _ => rfl⟩, fun _ _ => Nat.le_refl _, b10, b11⟩
    · rw [up_n _ _ e, up_n _ _ e, up_n _ _ e, up_n _ _ e, up_n _ _ e, up_n _ _ e]
      exact ⟨b1, b2, b3, b4, b5, b6, fun k => ⟨(b7 k).1, by rw [up_n _ _ (ne _ (by have := (b7 k).2; omega))]; exact (b7 k).2⟩, b8, b9, b10, b11⟩
  · by_cases e : q = p
    · subst e
      rw [up_s] at k3; omega
    · rw [up_n _ _ e] at k1 k2 k3
      rw [up_n tb _ e]
      have d := h2 q hq k1 k2 j' hj' k3
      have n := ne _ (show kd (tb q j') ≠ 0 by omega)
      rw [up_n _ _ n, up_n _ _ n]
      exact d
  · have a := up_o k3 (by omega)
    have o := ne _ (show kd (ow t) ≠ 0 by have := ((h1 t ht).2.2.2.2.2.2.1 (by omega)).2; omega)
    rw [up_n ow _ a.1, up_n _ _ o] at k2
    rw [up_n ow _ a.1]
    have c := h3 t ht a.2 k2 i hi e1 e2
    have n := ne _ (show kd (en t i - 1) ≠ 0 by omega)
    rw [up_n _ _ n, up_n _ _ n]
    exact c
  · have a := up_o k3 (by omega)
    have a' := up_o k3' (by omega)
    have o := ne _ (show kd (ow t) ≠ 0 by have := ((h1 t ht).2.2.2.2.2.2.1 (by omega)).2; omega)
    have o' := ne _ (show kd (ow t') ≠ 0 by have := ((h1 t' ht').2.2.2.2.2.2.1 (by omega)).2; omega)
    rw [up_n ow _ a.1, up_n _ _ o] at k2
    rw [up_n ow _ a'.1, up_n _ _ o'] at k2'
    exact h4 t t' ht ht' a.2 a'.2 k2 k2' i i' hi hi' ee e1 e2
  · by_cases e : q = p
    · subst e
      rw [up_s]; omega
    · rw [up_n _ _ e] at k1 k2
      rw [up_n _ _ e]
      have c := h5 q hq k1 k2
      have e1 : thr kd ow q ≤ thr (up kd p 1) (up ow p 20) q := by
        unfold thr
        refine cnt_mono (fun i hi h => ?_)
        have d := of_decide_eq_true h
        have n : i ≠ p := ne _ (by omega)
        rw [up_n _ _ n, up_n _ _ n]
        exact h
      have e2 : tak tb en q ≤ tak (up tb p (fun _ => 20)) en q := by
        unfold tak
        rw [up_n _ _ e]
        exact Nat.le_refl _
      omega
theorem IV_st {kd ow st md et lg : Nat → Nat} {tb en rt : Nat → Nat → Nat} (h : IV kd ow st md et lg tb en rt) {s v : Nat} (hv : v = 1 ∨ v = 2) (h2' : st s ≠ 2) {md' lg' : Nat → Nat} (hm : ∀ q, q < 20 → md' q ≤ 1 ∧ (q ≠ s → md' q = md q)) (hm1 : v = 1 → md' s = 1) (hl : ∀ q, q < 20 → lg' q ≤ 85 ∧ (q ≠ s → lg' q = lg q)) : IV kd ow (up st s v) md' et lg' tb en rt := by
  obtain ⟨h1, h2, h3, h4, h5⟩ := h
  have nst : ∀ q, up st s v q ≠ 2 → st q ≠ 2 := fun q hq e => by
    by_cases c : q = s
    · rw [c] at e; exact h2' e
    · rw [up_n _ _ c] at hq; exact hq e
  refine ⟨fun q hq => ?_, fun q hq k1 k2 => h2 q hq k1 (nst _ k2), fun t ht k3 k2 => h3 t ht k3 (nst _ k2), fun t t' ht ht' k3 k3' k2 k2' => h4 t t' ht ht' k3 k3' (nst _ k2) (nst _ k2'), fun q hq k1 k2 => ?_⟩
  · obtain ⟨b1, b2, b3, b4, b5, b6, b7, b8, b9, b10, b11⟩ := h1 q hq
    refine ⟨b1, ?_, (hm q hq).1, b4, (hl q hq).1, b6, b7, ?_, b9, b10, b11⟩
    · by_cases c : q = s
      · rw [c, up_s]; omega
      · rw [up_n _ _ c]; exact b2
    · intro k1
      by_cases c : q = s
      · rw [c, up_s]; exact ⟨hm1, fun k => absurd k (by omega)⟩
      · rw [up_n _ _ c, (hm q hq).2 c]; exact b8 k1
  · have a := up_o k2 (by omega)
    rw [(hl q hq).2 a.1]
    exact h5 q hq k1 a.2
theorem IV_rm {kd ow st md et lg : Nat → Nat} {tb en rt : Nat → Nat → Nat} (h : IV kd ow st md et lg tb en rt) {p : Nat} (hp : p < 20) (hk : kd p = 1 → st p = 2 ∧ ∀ q, q < 20 → ow q ≠ p) (hk2 : kd p ≠ 1 → kd p ≠ 5 → kd p ≠ 0 → st (ow p) = 2) : IV (up kd p 0) (up ow p 20) st md et lg tb en rt := by
  obtain ⟨h1, h2, h3, h4, h5⟩ := h
  refine ⟨fun q hq => ?_, fun q hq k1 k2 j' hj' k3 => ?_, fun t ht k3 k2 i hi e1 e2 => ?_, fun t t' ht ht' k3 k3' k2 k2' i i' hi hi' ee e1 e2 => ?_, fun q hq k1 k2 => ?_⟩
  · obtain ⟨b1, b2, b3, b4, b5, b6, b7, b8, b9, b10, b11⟩ := h1 q hq
    by_cases e : q = p
    · subst e
      rw [up_s, up_s]
      exact ⟨by omega, b2, b3, b4, b5, fun _ => rfl, fun k => absurd k (by omega), fun k => absurd k (by omega), b9, b10, b11⟩
    · rw [up_n _ _ e, up_n _ _ e]
      refine ⟨b1, b2, b3, b4, b5, b6, fun k => ⟨(b7 k).1, ?_⟩, b8, b9, b10, b11⟩
      have n : ow q ≠ p := fun c => (hk (c ▸ (b7 k).2)).2 q hq c
      rw [up_n _ _ n]
      exact (b7 k).2
  · have a := up_o k1 (by omega)
    have d := h2 q hq a.2 k2 j' hj' k3
    have n : tb q j' ≠ p := fun c => by
      rw [c] at d
      have := hk2 (by omega) (by omega) (by omega)
      rw [d.2] at this
      exact k2 this
    rw [up_n _ _ n, up_n _ _ n]
    exact d
  · have a := up_o k3 (by omega)
    rw [up_n _ _ a.1] at k2
    have c := h3 t ht a.2 k2 i hi e1 e2
    have n : en t i - 1 ≠ p := fun e => by
      rw [e] at c
      have := hk2 (by omega) (by omega) (by omega)
      rw [c.2] at this
      exact k2 this
    rw [up_n _ _ n, up_n _ _ n, up_n _ _ a.1]
    exact c
  · have a := up_o k3 (by omega)
    have a' := up_o k3' (by omega)
    rw [up_n _ _ a.1] at k2
    rw [up_n _ _ a'.1] at k2'
    exact h4 t t' ht ht' a.2 a'.2 k2 k2' i i' hi hi' ee e1 e2
  · have a := up_o k1 (by omega)
    have c := h5 q hq a.2 k2
    have e : thr kd ow q ≤ thr (up kd p 0) (up ow p 20) q := by
      unfold thr
      refine cnt_mono (fun i hi h => ?_)
      have d := of_decide_eq_true h
      have n : i ≠ p := fun e => by
        subst e
        have := hk2 (by omega) (by omega) (by omega)
        rw [d.2] at this
        omega
      rw [up_n _ _ n, up_n _ _ n]
      exact h
    omega
theorem thr_new {kd ow : Nat → Nat} {p s : Nat} (hp : p < 20) (kp : kd p = 0) : thr kd ow s + 1 ≤ thr (up kd p 2) (up ow p s) s := by
  unfold thr
  refine cnt_add (k := p) (fun i hi h => ?_) hp ?_ ?_
  · have d := of_decide_eq_true h
    have n : i ≠ p := fun e => by rw [e] at d; omega
    rw [up_n _ _ n, up_n _ _ n]
    exact h
  · exact decide_eq_false (fun q => by omega)
  · rw [up_s, up_s]; exact decide_eq_true ⟨rfl, rfl⟩
theorem thr_kd {kd ow : Nat → Nat} {p b s q : Nat} (kp : kd p ≠ 2) : thr kd ow q ≤ thr (up kd p b) (up ow p s) q := by
  unfold thr
  refine cnt_mono (fun i hi h => ?_)
  have d := of_decide_eq_true h
  have n : i ≠ p := fun e => by rw [e] at d; omega
  rw [up_n _ _ n, up_n _ _ n]
  exact h
