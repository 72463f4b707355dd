/-! What the constructor built is the world of the contracts. -/
theorem arrV_cg {c : ClassId} {n : Nat} {f f' : Nat → Value} (h : ∀ j, j < n → f j = f' j) : arrV c n f = arrV c n f' := by
  unfold arrV
  have : (fun j : Fin n => f j.val) = (fun j : Fin n => f' j.val) := funext (fun j => h j.val j.isLt)
  rw [this]
theorem C0C_z {k : Nat} (h : isPg k = false) : C0C k = fun _ => 0 := by
  funext j
  exact C0C_n (Or.inl h)
theorem cons5 {α : Type} (a b c d e : α) (L : List α) (j : Nat) : (a :: b :: c :: d :: e :: L)[5 + j]? = L[j]? := by
  rw [show 5 + j = j + 1 + 1 + 1 + 1 + 1 by omega]
  simp only [List.getElem?_cons_succ]
set_option maxHeartbeats 4000000 in
set_option maxRecDepth 100000 in
theorem built_C {D : va_G} {A : Nat → Prop} {cI cP cR : ClassId} {h0 q5 qs qn : Nat} {u1 v : va_W} {H : Heap} (e : u1 = (h0, .inr (5, [.ref q5, .ref qs, .ref qn])) :: v) (hm : MD cI cP cR q5 v qs qn) (hP : va_P D vwCl u1 H) (hD : va_D A u1) :
    ∃ ad, ad 0 = h0 ∧ gInj 143 ad ∧ (∀ k, k < 143 → A (ad k)) ∧ va_P D vwCl (gw 143 ad (spC ad cI cP cR) C0C) H := by
  obtain ⟨w, a, b, c, d, e1, s1, s2, s3, s4, hv, q1, q2, g, r, W0, hw, hl, hr, hp⟩ := hm
  obtain ⟨T, hT⟩ : ∃ T : va_W, T = [(qn, .inr (2, [.ref a, .ref b, .ref e1])), (a, zI cI 8), (b, .inr (0, [.ref c, .ref d])), (c, zI cI 64), (d, zI cI 16), (e1, zI cI 16), (s1, zI cI 8), (s2, zI cI 8), (s3, zI cI 8), (s4, zI cI 8)] := ⟨_, rfl⟩
  have eL : u1 = (h0, .inr (5, [.ref q5, .ref qs, .ref qn])) :: (q5, .inr (1, [.ref qs, .ref qn, .int 0, .int 0, .ref s1, .ref s2, .ref s3, .ref s4])) :: (qs, .inr (4, [.ref q1, .ref q2])) :: (q1, .inl (cP, 20, .inr (.inr (.inr (.inr g))))) :: (q2, .inl (cR, 28, .inr (.inr (.inr (.inr r))))) :: (W0 ++ T) := by
    rw [e, hv, hw, hT]
    unfold wS
    simp only [List.append_assoc, List.cons_append, List.nil_append]
  have z0 : u1[0]? = some (h0, .inr (5, [.ref q5, .ref qs, .ref qn])) := by rw [eL]; rfl
  have z1 : u1[1]? = some (q5, .inr (1, [.ref qs, .ref qn, .int 0, .int 0, .ref s1, .ref s2, .ref s3, .ref s4])) := by rw [eL]; rfl
  have z2 : u1[2]? = some (qs, .inr (4, [.ref q1, .ref q2])) := by rw [eL]; rfl
  have z3 : u1[3]? = some (q1, .inl (cP, 20, .inr (.inr (.inr (.inr g))))) := by rw [eL]; rfl
  have z4 : u1[4]? = some (q2, .inl (cR, 28, .inr (.inr (.inr (.inr r))))) := by rw [eL]; rfl
  have zW : ∀ j, j < 128 → u1[5 + j]? = W0[j]? := fun j hj => by rw [eL, cons5, List.getElem?_append_left (by omega)]
  have zT : ∀ i, u1[133 + i]? = T[i]? := fun i => by
    rw [eL, show 133 + i = 5 + (128 + i) by omega, cons5, List.getElem?_append_right (by omega), hl]
    rw [show 128 + i - (28 + 5 * 20) = i by omega]
  obtain ⟨ad, had⟩ : ∃ ad : Nat → Nat, ad = fun k => (u1[k]?.getD (0, zI cI 0)).1 := ⟨_, rfl⟩
  have adk : ∀ {k x : Nat} {E : va_E}, u1[k]? = some (x, E) → ad k = x := fun {k x E} h => by rw [had]; show (u1[k]?.getD (0, zI cI 0)).1 = x; rw [h]; rfl
  have ad0 := adk z0
  have ad1 := adk z1
  have ad2 := adk z2
  have ad3 := adk z3
  have ad4 := adk z4
  have t0 : u1[133]? = some (qn, .inr (2, [.ref a, .ref b, .ref e1])) := by rw [show 133 = 133 + 0 from rfl, zT, hT]; rfl
  have t1 : u1[134]? = some (a, zI cI 8) := by rw [show 134 = 133 + 1 from rfl, zT, hT]; rfl
  have t2 : u1[135]? = some (b, .inr (0, [.ref c, .ref d])) := by rw [show 135 = 133 + 2 from rfl, zT, hT]; rfl
  have t3 : u1[136]? = some (c, zI cI 64) := by rw [show 136 = 133 + 3 from rfl, zT, hT]; rfl
  have t4 : u1[137]? = some (d, zI cI 16) := by rw [show 137 = 133 + 4 from rfl, zT, hT]; rfl
  have t5 : u1[138]? = some (e1, zI cI 16) := by rw [show 138 = 133 + 5 from rfl, zT, hT]; rfl
  have t6 : u1[139]? = some (s1, zI cI 8) := by rw [show 139 = 133 + 6 from rfl, zT, hT]; rfl
  have t7 : u1[140]? = some (s2, zI cI 8) := by rw [show 140 = 133 + 7 from rfl, zT, hT]; rfl
  have t8 : u1[141]? = some (s3, zI cI 8) := by rw [show 141 = 133 + 8 from rfl, zT, hT]; rfl
  have t9 : u1[142]? = some (s4, zI cI 8) := by rw [show 142 = 133 + 9 from rfl, zT, hT]; rfl
  have arr : ∀ (k x n : Nat), u1[k]? = some (x, zI cI n) → isI k = true → lnC k = n → isPg k = false → ∃ E, u1[k]? = some (ad k, E) ∧ (va_at D vwCl (ad k, E) H → va_at D vwCl (ad k, spC ad cI cP cR k (C0C k)) H) := fun k x n h1 h2 h3 h4 => by
    refine ⟨zI cI n, by rw [adk h1]; exact h1, fun hh => ?_⟩
    rw [(isI_s h2).2, h3, C0C_z h4]
    exact hh
  have main : ∀ k, k < 143 → ∃ E, u1[k]? = some (ad k, E) ∧ (va_at D vwCl (ad k, E) H → va_at D vwCl (ad k, spC ad cI cP cR k (C0C k)) H) := by
    intro k hk
    have hc : k = 0 ∨ k = 1 ∨ k = 2 ∨ k = 3 ∨ k = 4 ∨ (∃ j, j < 28 ∧ k = 5 + j) ∨ (∃ p i, p < 20 ∧ i < 5 ∧ k = 33 + 5 * p + i) ∨ k = 133 ∨ k = 134 ∨ k = 135 ∨ k = 136 ∨ k = 137 ∨ k = 138 ∨ k = 139 ∨ k = 140 ∨ k = 141 ∨ k = 142 := by
      by_cases h1 : k < 5
      · omega
      · by_cases h2 : k < 33
        · exact Or.inr (Or.inr (Or.inr (Or.inr (Or.inr (Or.inl ⟨k - 5, by omega, by omega⟩)))))
        · by_cases h3 : k < 133
          · exact Or.inr (Or.inr (Or.inr (Or.inr (Or.inr (Or.inr (Or.inl ⟨(k - 33) / 5, (k - 33) % 5, by omega, by omega, by omega⟩))))))
          · omega
    rcases hc with rfl | rfl | rfl | rfl | rfl | ⟨j, hj, rfl⟩ | ⟨p, i, hp', hi, rfl⟩ | rfl | rfl | rfl | rfl | rfl | rfl | rfl | rfl | rfl | rfl
    · refine ⟨_, by rw [ad0]; exact z0, fun hh => ?_⟩
      show va_at D vwCl (ad 0, .inr (5, [.ref (ad 1), .ref (ad 2), .ref (ad 133)])) H
      rw [ad1, ad2, adk t0]
      exact hh
    · refine ⟨_, by rw [ad1]; exact z1, fun hh => ?_⟩
      show va_at D vwCl (ad 1, .inr (1, [.ref (ad 2), .ref (ad 133), .int 0, .int 0, .ref (ad 139), .ref (ad 140), .ref (ad 141), .ref (ad 142)])) H
      rw [ad2, adk t0, adk t6, adk t7, adk t8, adk t9]
      exact hh
    · refine ⟨_, by rw [ad2]; exact z2, fun hh => ?_⟩
      show va_at D vwCl (ad 2, .inr (4, [.ref (ad 3), .ref (ad 4)])) H
      rw [ad3, ad4]
      exact hh
    · refine ⟨_, by rw [ad3]; exact z3, fun hh => ?_⟩
      show H[ad 3]? = some (arrV cP 20 (fun j => va_rf (some (ad (33 + 5 * j)))))
      rw [← arrV_cg (f := fun j => va_rf (g j)) (fun j hj => ?_)]
      · exact hh
      · obtain ⟨x, t, dd, xx, yy, g0, g1, -⟩ := hp j hj
        rw [g0, adk (k := 33 + 5 * j) (by rw [show 33 + 5 * j = 5 + (28 + 5 * j) by omega, zW _ (by omega)]; exact g1)]
    · refine ⟨_, by rw [ad4]; exact z4, fun hh => ?_⟩
      show H[ad 4]? = some (arrV cR 28 (fun j => va_rf (some (ad (5 + j)))))
      rw [← arrV_cg (f := fun j => va_rf (r j)) (fun j hj => ?_)]
      · exact hh
      · obtain ⟨x, g0, g1⟩ := hr j hj
        rw [g0, adk (k := 5 + j) (by rw [zW _ (by omega)]; exact g1)]
    · obtain ⟨x, g0, g1⟩ := hr j hj
      exact arr _ x 16 (by rw [zW _ (by omega)]; exact g1) (isI_r hj) (lnC_r hj) (isPg_no (by omega))
    · obtain ⟨x, t, dd, xx, yy, g0, g1, g2, g3, g4, g5⟩ := hp p hp'
      have y1 : u1[33 + 5 * p]? = some (x, pgE t dd xx yy) := by rw [show 33 + 5 * p = 5 + (28 + 5 * p) by omega, zW _ (by omega)]; exact g1
      have y2 : u1[33 + 5 * p + 1]? = some (t, zI cI 4) := by rw [show 33 + 5 * p + 1 = 5 + (28 + 5 * p + 1) by omega, zW _ (by omega)]; exact g2
      have y3 : u1[33 + 5 * p + 2]? = some (dd, zI cI 8) := by rw [show 33 + 5 * p + 2 = 5 + (28 + 5 * p + 2) by omega, zW _ (by omega)]; exact g3
      have y4 : u1[33 + 5 * p + 3]? = some (xx, zI cI 4) := by rw [show 33 + 5 * p + 3 = 5 + (28 + 5 * p + 3) by omega, zW _ (by omega)]; exact g4
      have y5 : u1[33 + 5 * p + 4]? = some (yy, zI cI 8) := by rw [show 33 + 5 * p + 4 = 5 + (28 + 5 * p + 4) by omega, zW _ (by omega)]; exact g5
      have hi' : i = 0 ∨ i = 1 ∨ i = 2 ∨ i = 3 ∨ i = 4 := by omega
      rcases hi' with rfl | rfl | rfl | rfl | rfl
      · refine ⟨_, by rw [adk (k := 33 + 5 * p + 0) y1]; exact y1, fun hh => ?_⟩
        rw [(isPg_s (k := 33 + 5 * p + 0) (isPg_p hp')).2]
        have c1 : C0C (33 + 5 * p + 0) 1 = -1 := if_pos ⟨isPg_p hp', rfl⟩
        have cz : ∀ i, i ≠ 1 → C0C (33 + 5 * p + 0) i = nI 0 := fun i hi => C0C_n (Or.inr hi)
        rw [adk (k := 33 + 5 * p + 0 + 1) y2, adk (k := 33 + 5 * p + 0 + 2) y3, adk (k := 33 + 5 * p + 0 + 3) y4, adk (k := 33 + 5 * p + 0 + 4) y5, cz 0 (by omega), c1, cz 2 (by omega), cz 3 (by omega), cz 4 (by omega), cz 7 (by omega), cz 8 (by omega), cz 9 (by omega)]
        exact hh
      · exact arr _ t 4 y2 (isI_p1 hp') (lnC_p1 hp') (isPg_no (by omega))
      · exact arr _ dd 8 y3 (isI_p2 hp') (lnC_p2 hp') (isPg_no (by omega))
      · exact arr _ xx 4 y4 (isI_p3 hp') (lnC_p3 hp') (isPg_no (by omega))
      · exact arr _ yy 8 y5 (isI_p4 hp') (lnC_p4 hp') (isPg_no (by omega))
    · refine ⟨_, by rw [adk t0]; exact t0, fun hh => ?_⟩
      show va_at D vwCl (ad 133, .inr (2, [.ref (ad 134), .ref (ad 135), .ref (ad 138)])) H
      rw [adk t1, adk t2, adk t5]
      exact hh
    · exact arr _ a 8 t1 (by decide) (by decide) (by decide)
    · refine ⟨_, by rw [adk t2]; exact t2, fun hh => ?_⟩
      show va_at D vwCl (ad 135, .inr (0, [.ref (ad 136), .ref (ad 137)])) H
      rw [adk t3, adk t4]
      exact hh
    · exact arr _ c 64 t3 (by decide) (by decide) (by decide)
    · exact arr _ d 16 t4 (by decide) (by decide) (by decide)
    · exact arr _ e1 16 t5 (by decide) (by decide) (by decide)
    · exact arr _ s1 8 t6 (by decide) (by decide) (by decide)
    · exact arr _ s2 8 t7 (by decide) (by decide) (by decide)
    · exact arr _ s3 8 t8 (by decide) (by decide) (by decide)
    · exact arr _ s4 8 t9 (by decide) (by decide) (by decide)
  refine ⟨ad, ad0, fun i j hi hj h => ?_, fun k hk => ?_, fun k q hq => ?_⟩
  · obtain ⟨E, h1, -⟩ := main i hi
    obtain ⟨E', h2, -⟩ := main j hj
    exact hD.1 i j _ _ h1 h2 h
  · obtain ⟨E, h1, -⟩ := main k hk
    exact hD.2 k _ h1
  · have hk := gw_lt hq
    rw [gw_at hk] at hq
    cases hq
    obtain ⟨E, h1, h2⟩ := main k hk
    exact h2 (hP k _ h1)
