/-! The law from its entry. -/
theorem P_l {D : va_G} {cl : List vw_C} {X Y : va_W} {H : Heap} (h : va_P D cl (X ++ Y) H) : va_P D cl X H := fun k q hq => h k q (by rw [List.getElem?_append_left (List.getElem?_eq_some_iff.mp hq).1]; exact hq)
theorem P_r {D : va_G} {cl : List vw_C} {X Y : va_W} {H : Heap} (h : va_P D cl (X ++ Y) H) : va_P D cl Y H := fun k q hq => h (X.length + k) q (by rw [List.getElem?_append_right (by omega), Nat.add_sub_cancel_left]; exact hq)
theorem D_r {A : Nat → Prop} {X Y : va_W} (h : va_D A (X ++ Y)) {j : Nat} {q : Nat × va_E} (hj : Y[j]? = some q) : A q.1 := h.2 (X.length + j) q (by rw [List.getElem?_append_right (by omega), Nat.add_sub_cancel_left]; exact hj)
theorem D_ne {A : Nat → Prop} {X Y : va_W} (h : va_D A (X ++ Y)) {i j : Nat} {p q : Nat × va_E} (hi : X[i]? = some p) (hj : Y[j]? = some q) : p.1 ≠ q.1 := fun e => by
  have l1 := (List.getElem?_eq_some_iff.mp hi).1
  have := h.1 i (X.length + j) p q (by rw [List.getElem?_append_left l1]; exact hi) (by rw [List.getElem?_append_right (by omega), Nat.add_sub_cancel_left]; exact hj) e
  omega
theorem arr_K {args : Array Value} {s : State} {ty : FieldType} (h : (Cond.arrayClass ty).before args s = true) (hp : ∀ C, ty ≠ .object C) : ∃ cA, ArrOfT s cA ty ∧ s.vm.findClass ("[" ++ ty.toString) = some cA := by
  obtain ⟨c, k, comp, h1, h2, h3⟩ := Cond.arrayClass_spec h
  exact ⟨c, fun n z => ⟨fun k' h' => (by cases h'), k, h2, comp, h3⟩, h1⟩
theorem K_one {D : va_G} {cl : List vw_C} {s : State} {cA : ClassId} {ty : FieldType} (h : ∀ (c : Nat) (q : vw_C), cl[c]? = some q → u_Kn s q.1 q.2.1 q.2.2 (D.1 c) (D.2 c)) (h1 : ArrOfT s cA ty) (h2 : va_RA s cA ty) : va_K D cl [(cA, ty)] s := ⟨h, fun k q hq => by
  have hk := (List.getElem?_eq_some_iff.mp hq).1
  simp at hk
  subst hk
  cases hq
  exact ⟨h1, h2⟩⟩
set_option maxRecDepth 100000 in
theorem st_START {b : Nat} {s : State} (hgv : (Jvm.Cond.and given_1 narrow_1).before #[Value.ref b] s = true) (hl : (Cond.laysStatic "PageMonitor$Hasher" "START" "[I").before #[Value.ref b] s = true) (hi : (Cond.initialized "PageMonitor$Hasher").before #[Value.ref b] s = true) (hA : ∀ a : Nat, a < s.heap.size → ¬ AL s a) :
    ∃ t, va_Z "PageMonitor$Hasher" "START" "[I" (.ref t) (AL s) s s.heap ∧ va_T .int t 8 (fun j => .int (tbSTART j)) (AL s) s s.heap := by
  have hs := flat_of_before _ hgv
  have hm : ∀ j, j < 8 → Cond.eq (.elem (.static "PageMonitor$Hasher" "START" "[I") (.int (Int32.ofNat j))) (.int (tbSTART j)) ∈ flatC (Jvm.Cond.and given_1 narrow_1) := by decide +kernel
  obtain ⟨t, h1, h2⟩ := va_Tof (tm := .static "PageMonitor$Hasher" "START" "[I") (ty := .int) (N := 8) (f := fun j => .int (tbSTART j)) (A := AL s) (by decide) (hs (.arrayOf (.static "PageMonitor$Hasher" "START" "[I") .int) (by decide +kernel)) (va_eqt (hs (.eq (.length (.static "PageMonitor$Hasher" "START" "[I")) (.int 8)) (by decide +kernel))) (fun j hj => va_eqt (hs _ (hm j hj))) hA
  exact ⟨t, va_Zref hl hi h1 hA, h2⟩
set_option maxRecDepth 100000 in
theorem st_ADDED {b : Nat} {s : State} (hgv : (Jvm.Cond.and given_1 narrow_1).before #[Value.ref b] s = true) (hl : (Cond.laysStatic "PageMonitor$Hasher" "ADDED" "[I").before #[Value.ref b] s = true) (hi : (Cond.initialized "PageMonitor$Hasher").before #[Value.ref b] s = true) (hA : ∀ a : Nat, a < s.heap.size → ¬ AL s a) :
    ∃ t, va_Z "PageMonitor$Hasher" "ADDED" "[I" (.ref t) (AL s) s s.heap ∧ va_T .int t 64 (fun j => .int (tbADDED j)) (AL s) s s.heap := by
  have hs := flat_of_before _ hgv
  have hm : ∀ j, j < 64 → Cond.eq (.elem (.static "PageMonitor$Hasher" "ADDED" "[I") (.int (Int32.ofNat j))) (.int (tbADDED j)) ∈ flatC (Jvm.Cond.and given_1 narrow_1) := by decide +kernel
  obtain ⟨t, h1, h2⟩ := va_Tof (tm := .static "PageMonitor$Hasher" "ADDED" "[I") (ty := .int) (N := 64) (f := fun j => .int (tbADDED j)) (A := AL s) (by decide) (hs (.arrayOf (.static "PageMonitor$Hasher" "ADDED" "[I") .int) (by decide +kernel)) (va_eqt (hs (.eq (.length (.static "PageMonitor$Hasher" "ADDED" "[I")) (.int 64)) (by decide +kernel))) (fun j hj => va_eqt (hs _ (hm j hj))) hA
  exact ⟨t, va_Zref hl hi h1 hA, h2⟩
set_option maxRecDepth 100000 in
theorem exIn : ∀ w ∈ exBad exA ++ exBad exB ++ exBad exC, w ∈ lw_tbl := in_at [442, 444, 446, 441, 442, 444, 446, 532, 442, 444, 446, 555] rfl
set_option maxHeartbeats 4000000 in
set_option maxRecDepth 100000 in
/-- what the start gives -/
theorem st_XW {b : Nat} {s : State} (hts0 : ∀ w ∈ lw_tbl, w.before #[Value.ref b] s = true) (hgv : (Jvm.Cond.and given_1 narrow_1).before #[Value.ref b] s = true) : XW (AL s) s s.heap := by
  have hA : ∀ a : Nat, a < s.heap.size → ¬ AL s a := fun a h => Nat.not_le.mpr h
  have hs := flat_of_before _ hgv
  have hi0 := hts0 (.initialized "PageMonitor$Hasher") (List.mem_of_getElem? (i := 46) rfl)
  have hi1 := hts0 (.initialized Bundle.tN) (List.mem_of_getElem? (i := 48) rfl)
  refine ⟨⟨⟨st_START hgv (hts0 (.laysStatic "PageMonitor$Hasher" "START" "[I") (List.mem_of_getElem? (i := 248) rfl)) hi0 hA, st_ADDED hgv (hts0 (.laysStatic "PageMonitor$Hasher" "ADDED" "[I") (List.mem_of_getElem? (i := 282) rfl)) hi0 hA, va_Nw.of rfl (hts0 (.methodLinkNest RX4 30 yX5_isBlock "PageMonitor") (List.mem_of_getElem? (i := 308) rfl)), va_Nw.of rfl (hts0 (.methodLinkNest RX4 45 yX5_isPage "PageMonitor") (List.mem_of_getElem? (i := 410) rfl)), va_Nw.of rfl (hts0 (.methodLinkNest RX4 48 yX5_areDataRights "PageMonitor") (List.mem_of_getElem? (i := 411) rfl))⟩, ?_, ?_, ?_⟩, ?_, ?_⟩
  · exact vx_Zqof (hts0 (.laysStatic Bundle.tN "UNASSIGNED_STACK" Bundle.steD) (List.mem_of_getElem? (i := 466) rfl)) hi1 (hs (.isRef (.static Bundle.tN "UNASSIGNED_STACK" Bundle.steD)) (by decide +kernel)) hA
  · exact vx_Zqof (hts0 (.laysStatic Bundle.tN "SUPPRESSED_SENTINEL" Bundle.listD) (List.mem_of_getElem? (i := 468) rfl)) hi1 (hs (.isRef (.static Bundle.tN "SUPPRESSED_SENTINEL" Bundle.listD)) (by decide +kernel)) hA
  · intro w hw
    exact va_Nw.of (exBad_ok w hw).2 (hts0 w (exIn w hw))
  · exact va_Nc.of (hs (.not (.castable exB exA)) (by decide +kernel))
  · exact va_Nc.of (hs (.not (.castable exC exA)) (by decide +kernel))
theorem st_XI {b : Nat} {s : State} (hts0 : ∀ w ∈ lw_tbl, w.before #[Value.ref b] s = true) : XI s :=
  ⟨va_AO.of (hts0 (.arrayOver (.object "PageMonitor$Page")) (List.mem_of_getElem? (i := 77) rfl)), hts0 (.arrayOver (.array .int)) (List.mem_of_getElem? (i := 79) rfl), va_Nw.of rfl (hts0 (.methodLinkNest RX1 20 yX2_init "PageMonitor") (List.mem_of_getElem? (i := 158) rfl)), va_Nw.of rfl (hts0 (.methodLinkNest RX2 17 yX0_init "PageMonitor") (List.mem_of_getElem? (i := 164) rfl)), va_Nw.of rfl (hts0 (.methodLinkNest RX4 22 yX3_init "PageMonitor") (List.mem_of_getElem? (i := 81) rfl)), va_Nw.of rfl (hts0 (.methodLinkNest RX5 9 yX1_init "PageMonitor") (List.mem_of_getElem? (i := 66) rfl))⟩
set_option maxHeartbeats 4000000 in
set_option maxRecDepth 100000 in
theorem whole_start {p : Program} {e : Env} {s : State} {m : MethodId} {below : List Frame} {meth : Method} {c : Code} (l : Launch) (hnt : l.stackTraces = false) {b L : Nat} {xs : Nat → Int32} (hL : L ≤ 3072) (C0 : lw_At p s m meth c b L xs) : W p l e room_1 s m #[Value.ref b] below meth c s.heap [] 0 0 (lw_Z below #[Value.ref b] s) (entryFrame m ([Value.ref b] : List Value).toArray 7) := by
  obtain ⟨hx, hb, hr, hml, hown, hts0, hXs, hbl, hlocks, hgv⟩ := id C0
  have hts := fun w h => hts0 w (wsL_law_in w h)
  have hA : ∀ q : Nat, s.heap.size ≤ q → AL s q := fun _ h => h
  obtain ⟨c0, i0, k0⟩ := u_known (C := RX0) (T := TX0) (N := 2) (n := 2) hts0 inX0 (hts0 (.instantiable RX0 2) (List.mem_of_getElem? (i := 163) rfl))
  obtain ⟨c1, i1, k1⟩ := u_known (C := RX1) (T := TX1) (N := 8) (n := 8) hts0 inX1 (hts0 (.instantiable RX1 8) (List.mem_of_getElem? (i := 65) rfl))
  obtain ⟨c2, i2, k2⟩ := u_known (C := RX2) (T := TX2) (N := 3) (n := 3) hts0 inX2 (hts0 (.instantiable RX2 3) (List.mem_of_getElem? (i := 157) rfl))
  obtain ⟨c3, i3, k3⟩ := u_known (C := RX3) (T := TX3) (N := 12) (n := 12) hts0 inX3 (hts0 (.instantiable RX3 12) (List.mem_of_getElem? (i := 80) rfl))
  obtain ⟨c4, i4, k4⟩ := u_known (C := RX4) (T := TX4) (N := 2) (n := 2) hts0 inX4 (hts0 (.instantiable RX4 2) (List.mem_of_getElem? (i := 71) rfl))
  obtain ⟨c5, i5, k5⟩ := u_known (C := RX5) (T := TX5) (N := 3) (n := 3) hts0 inX5 (hts0 (.instantiable RX5 3) (List.mem_of_getElem? (i := 57) rfl))
  obtain ⟨c6, i6, k6⟩ := u_known (C := RX6) (T := TX6) (N := 32) (n := 32) hts0 inX6 (hts0 (.instantiable RX6 32) (List.mem_of_getElem? (i := 569) rfl))
  obtain ⟨D, hKc⟩ : ∃ D : va_G, ∀ (k : Nat) (q : vw_C), vwCl[k]? = some q → u_Kn s q.1 q.2.1 q.2.2 (D.1 k) (D.2 k) := by
    refine ⟨(fun k => if k = 0 then c0 else if k = 1 then c1 else if k = 2 then c2 else if k = 3 then c3 else if k = 4 then c4 else if k = 5 then c5 else c6, fun k => if k = 0 then i0 else if k = 1 then i1 else if k = 2 then i2 else if k = 3 then i3 else if k = 4 then i4 else if k = 5 then i5 else i6), ?_⟩
    intro k q hq
    match k, hq with
    | 0, hq => cases hq; exact k0
    | 1, hq => cases hq; exact k1
    | 2, hq => cases hq; exact k2
    | 3, hq => cases hq; exact k3
    | 4, hq => cases hq; exact k4
    | 5, hq => cases hq; exact k5
    | 6, hq => cases hq; exact k6
    | k + 7, hq => simp [vwCl] at hq
  obtain ⟨cI, aI, fI⟩ := arr_K (hts0 (.arrayClass .int) (List.mem_of_getElem? (i := 145) rfl)) (fun C h => by cases h)
  obtain ⟨cZ, aZ, fZ⟩ := arr_K (hts0 (.arrayClass .boolean) (List.mem_of_getElem? (i := 747) rfl)) (fun C h => by cases h)
  have hKI : va_K D vwCl [(cI, .int)] s := K_one hKc aI fI
  have hKZ : va_K D vwCl [(cZ, .boolean)] s := K_one hKc aZ fZ
  have hXI := st_XI hts0
  have hXW := st_XW hts0 hgv
  have hS : va_S (AL s) s.heap s.heap [] := va_S.rf
  have hK0 : va_K D vwCl [] s := ⟨hKc, fun k q h => by simp at h⟩
  have hP : va_P D vwCl [] s.heap := fun k q h => by simp at h
  have hD : va_D (AL s) [] := ⟨fun i j p q h => by simp at h, fun k q h => by simp at h⟩
  have hl := lv_entry ([.ref b]) (n := 7) (Nat.le_of_ble_eq_true rfl)
  rw [lg_entry_eq]
  generalize (lg_sl ([.ref b]) ++ List.replicate (7 - (lg_sl ([.ref b])).length) Slot.unset).toArray = ls at hl ⊢
  have hl : lv_has ls 7 [(0, .ref b)] := hl
  refine va_new (ci := 5) (fs := [.null, .null, .null]) (C := RX5) (T := TX5) (N := 3) hx hb hts0 inX5 tyX5 tyX5_ok hown (hts0 (.classLink RL 8 RX5) (List.mem_of_getElem? (i := 56) rfl)) (hts0 (.instantiable RX5 3) (List.mem_of_getElem? (i := 57) rfl)) (hts0 (.initialized RX5) (List.mem_of_getElem? (i := 41) rfl)) hK0 hP hD hS hA rfl (fun j hj => by rcases (show j = 0 ∨ j = 1 ∨ j = 2 by omega) with rfl | rfl | rfl <;> rfl) (Nat.le_of_ble_eq_true rfl) (Nat.le_of_ble_eq_true rfl) dL_law_0 (fun q0 H hP hD hS => ?_)
  refine lv_dup hx hb dL_law_3 rfl ?_
  have hPc : va_P D vwCl [(q0, .inr (5, [.null, .null, .null]))] H := P_last (X := []) hP
  have hFc := A_last (X := []) hD hS hA
  refine va_callv (va_runI (As := []) (rest := [.ref q0]) ⟨hx, hb, hml, hown, hts⟩ (c_X5_init l D cI q0 H.size) (cwI 0 hts gL_law_X5_init rfl rfl rfl (hts0 (.initialized RX5) (List.mem_of_getElem? (i := 41) rfl)) (hts0 (.methodLink RL 33 yX5_init) (List.mem_of_getElem? (i := 58) rfl)) (hts0 (.instanceMethod yX5_init) (List.mem_of_getElem? (i := 59) rfl)) rfl (by decide +kernel) ⟨Nat.le_of_ble_eq_true rfl, Nat.le_of_ble_eq_true rfl⟩) (PI_S hPc hKI hXI) rfl rfl hl.1 rfl (lv_room (Nat.le_of_ble_eq_true rfl)) dL_law_4 ⟨Nat.le_of_ble_eq_true rfl, Nat.le_of_ble_eq_true rfl⟩) hS (fun z _ h => hFc z h) hFc (fun u t H1 locs1 ht hvm hw hB hsz hk1 hS => ?_)
  obtain ⟨w, cP, cR⟩ := u
  obtain ⟨hP1, hD1, hK1⟩ := hB
  obtain ⟨q5, qs, qn, v, hw1, hw2⟩ := hw
  rw [ht] at hP1
  have hKPR := va_K.moved hvm.symm hK1
  obtain ⟨adC, ad0, hIC, hAC, hPC⟩ := built_C hw1 hw2 hP1 hD1
  have hAC' : ∀ k, k < 143 → s.heap.size ≤ adC k := fun k hk => hFc _ (hAC k hk)
  have hK : va_K D vwCl (tysW cI cZ cP cR) s := (hKI.app hKZ).app hKPR
  refine W.widen (k := 143) (n := 1370) (by decide) (by decide) ?_
  refine lv_astore_n (lv' := [(1, .ref q0), (0, .ref b)]) hx hb dL_law_7 rfl hl (by decide) rfl (fun ls hl => ?_)
  generalize H1 = H at hPC hS ⊢
  have hDC : va_D (AL s) (gw 143 adC (spC adC cI cP cR) C0C) := gw_D hIC hAC'
  refine va_new (ci := 6) (fs := [.int 0, .null, .null, .null, .null, .null, .null, .null, .null, .null, .null, .null, .null, .null, .null, .null, .null, .int 0, .int 0, .int 0, .int 0, .int 0, .null, .int 0, .int 0, .null, .null, .null, .null, .null, .null, .null]) (C := RX6) (T := TX6) (N := 32) hx hb hts0 inX6 tyX6 tyX6_ok hown (hts0 (.classLink RL 34 RX6) (List.mem_of_getElem? (i := 568) rfl)) (hts0 (.instantiable RX6 32) (List.mem_of_getElem? (i := 569) rfl)) (hts0 (.initialized RX6) (List.mem_of_getElem? (i := 47) rfl)) hK hPC hDC hS hA rfl (fun j hj => by rcases (show j = 0 ∨ j = 1 ∨ j = 2 ∨ j = 3 ∨ j = 4 ∨ j = 5 ∨ j = 6 ∨ j = 7 ∨ j = 8 ∨ j = 9 ∨ j = 10 ∨ j = 11 ∨ j = 12 ∨ j = 13 ∨ j = 14 ∨ j = 15 ∨ j = 16 ∨ j = 17 ∨ j = 18 ∨ j = 19 ∨ j = 20 ∨ j = 21 ∨ j = 22 ∨ j = 23 ∨ j = 24 ∨ j = 25 ∨ j = 26 ∨ j = 27 ∨ j = 28 ∨ j = 29 ∨ j = 30 ∨ j = 31 by omega) with rfl | rfl | rfl | rfl | rfl | rfl | rfl | rfl | rfl | rfl | rfl | rfl | rfl | rfl | rfl | rfl | rfl | rfl | rfl | rfl | rfl | rfl | rfl | rfl | rfl | rfl | rfl | rfl | rfl | rfl | rfl | rfl <;> rfl) (Nat.le_of_ble_eq_true rfl) (Nat.le_of_ble_eq_true rfl) dL_law_8 (fun q8 H hP hD hS => ?_)
  refine lv_dup hx hb dL_law_11 rfl ?_
  have hPm := P_last hP
  have hFm := A_last hD hS hA
  have hPC := P_l hP
  have nq8 : ∀ k, k < 143 → ¬ va_A [(q8, (.inr (6, [.int 0, .null, .null, .null, .null, .null, .null, .null, .null, .null, .null, .null, .null, .null, .null, .null, .null, .int 0, .int 0, .int 0, .int 0, .int 0, .null, .int 0, .int 0, .null, .null, .null, .null, .null, .null, .null]) : va_E))] H.size (adC k) := fun k hk h => by
    have h1 := (hPC k _ (gw_at hk)).lt
    rcases h with ⟨k', e', hk'⟩ | h
    · have h2 := (List.getElem?_eq_some_iff.mp hk').1
      simp at h2
      subst h2
      cases hk'
      exact D_ne hD (gw_at hk) (j := 0) rfl rfl
    · have h1' : adC k < H.size := h1
      omega
  refine va_callv (va_runI (As := []) (rest := [.ref q8]) ⟨hx, hb, hml, hown, hts⟩ (c_X6_init l D cI cZ cP cR q8 H.size) (cwI 0 hts gL_law_X6_init rfl rfl rfl (hts0 (.initialized RX6) (List.mem_of_getElem? (i := 47) rfl)) (hts0 (.methodLink RL 36 yX6_init) (List.mem_of_getElem? (i := 570) rfl)) (hts0 (.instanceMethod yX6_init) (List.mem_of_getElem? (i := 571) rfl)) rfl (by decide +kernel) ⟨Nat.le_of_ble_eq_true rfl, Nat.le_of_ble_eq_true rfl⟩) (PM_S hPm hK) rfl rfl hl.1 rfl (lv_room (Nat.le_of_ble_eq_true rfl)) dL_law_12 ⟨Nat.le_of_ble_eq_true rfl, Nat.le_of_ble_eq_true rfl⟩) hS (fun z _ h => hFm z h) hFm (fun u t H1 locs1 ht hvm hw hB hsz hk1 hS => ?_)
  obtain ⟨adM, M1⟩ := u
  obtain ⟨hPM, hIM, hAM⟩ := hB
  obtain ⟨adm0, f0, g0, hf0, hg0, hfr⟩ := hw
  dsimp only at hPM hIM hAM adm0 hfr
  rw [ht] at hPM
  have hRel := Rel_0 hf0 hg0 hfr
  have hPC1 := P_keep hPC hk1 nq8
  have hAM' : ∀ k, k < 25 → s.heap.size ≤ adM k := fun k hk => hFm _ (hAM k hk)
  have hCM : ∀ i j, i < 143 → j < 25 → adC i ≠ adM j := fun i j hi hj h => nq8 i hi (by rw [h]; exact hAM j hj)
  refine W.widen (k := 168) (n := 36538) (by decide) (by decide) ?_
  refine lv_astore_n (lv' := [(2, .ref q8), (1, .ref q0), (0, .ref b)]) hx hb dL_law_15 rfl hl (by decide) rfl (fun ls hl => ?_)
  generalize H1 = H at hPC1 hPM hS ⊢
  have hDD : va_D (AL s) (gw 143 adC (spC adC cI cP cR) C0C ++ gw 25 adM (spM adM cI cZ) M1) := va_D.app (gw_D hIC hAC') (gw_D hIM hAM') (fun i j y z hi hj h => by
    have h1 := gw_lt hi
    have h2 := gw_lt hj
    rw [gw_at h1] at hi
    rw [gw_at h2] at hj
    cases hi
    cases hj
    exact hCM i j h1 h2 h)
  refine lv_iconst (v := (1 : Int32)) hx hb dL_law_16 (by decide) ?_
  refine va_newa (atype := .long) (ty := .long) (a0 := (1, .inr (.inl (fun _ => 0)))) hx hb (hts0 (.arrayClass .long) (List.mem_of_getElem? (i := 937) rfl)) rfl hK (hPC1.app hPM) hDD hS hA (fun cA => rfl) (n := 1) (N' := 1) (by decide) rfl (by decide) (Nat.le_of_ble_eq_true rfl) (Nat.le_of_ble_eq_true rfl) dL_law_17 (fun qo cL H hKL hP hD hS => ?_)
  have hKl : va_K D vwCl [(cL, .long)] s := hKL.sub [4] rfl
  refine W.widen (k := 169 + 0) (n := 36539 + 6 * 0) (by decide) (by decide) ?_
  refine lv_astore_n (lv' := [(3, .ref qo), (2, .ref q8), (1, .ref q0), (0, .ref b)]) hx hb dL_law_19 rfl hl (by decide) rfl (fun ls hl => ?_)
  refine lv_iconst (v := (0 : Int32)) hx hb dL_law_20 (by decide) ?_
  refine lv_istore (lv' := [(4, .int 0), (3, .ref qo), (2, .ref q8), (1, .ref q0), (0, .ref b)]) hx hb dL_law_21 hl (by decide) rfl (fun ls hl => ?_)
  have hl : lv_has ls 7 [(4, .int 0), (3, .ref qo), (2, .ref (adM 0)), (1, .ref (adC 0)), (0, .ref b)] := by rw [adm0, ad0]; exact hl
  have hqo : s.heap.size ≤ qo := D_r hD (j := 0) rfl
  have hX : LWx p s m meth c l b L xs D adC adM cI cZ cP cR cL qo := ⟨hnt, C0, hK, hKl, hIC, hIM, hAC', hAM', hqo, hCM, fun i hi h => D_ne hD (i := i) (j := 0) (by rw [List.getElem?_append_left (by simp [gw]; omega)]; exact gw_at hi) rfl h, fun i hi h => D_ne hD (i := 143 + i) (j := 0) (by rw [List.getElem?_append_right (by simp [gw])]; simp only [gw, List.length_map, List.length_range, Nat.add_sub_cancel_left]; exact gw_at hi) rfl h, hXW, hL⟩
  exact law_loop hX 513 0 0 C0C M1 (fun _ => 0) H locs1 ls (by omega) (by omega) rfl ⟨P_l (P_l hP), P_r (P_l hP), P_r hP, hS, hRel⟩ hl
