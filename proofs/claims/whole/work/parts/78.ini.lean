/-! The class's constructors. -/
abbrev zI (cI : ClassId) (n : Nat) : va_E := .inl (cI, n, .inl (fun _ => 0))
/-- what the constructors ask of the tables beside their words -/
def XI (U : State) : Prop := va_AO "PageMonitor$Page" U ∧ va_AOA .int U ∧ va_Nw (.methodLinkNest RX1 20 yX2_init "PageMonitor") U ∧ va_Nw (.methodLinkNest RX2 17 yX0_init "PageMonitor") U ∧ va_Nw (.methodLinkNest RX4 22 yX3_init "PageMonitor") U ∧ va_Nw (.methodLinkNest RX5 9 yX1_init "PageMonitor") U
theorem aoa_spec {t : FieldType} {s : State} (h : va_AOA t s) : ∃ comp c k, s.vm.findClass (FieldType.array t).toString = some comp ∧ (s.vm.classes.findIdx? fun (x : Class) => match x.kind with | .array component _ => component == comp | _ => false) = some c ∧ s.vm.classes[c]? = some k ∧ k.kind = .array comp (.array t) ∧ s.vm.findClass ("[" ++ (FieldType.array t).toString) = some c := by
  unfold va_AOA Cond.before at h
  simp only [Cond.holds, Cond.value, beq_iff_eq] at h
  cases hc : s.vm.findClass (FieldType.array t).toString with
  | none => simp [hc] at h
  | some comp =>
    simp only [hc, Option.bind_some, Option.bind_eq_some_iff, Option.map_eq_some_iff] at h
    obtain ⟨c, hi, k, hk, hb⟩ := h
    obtain ⟨hlt, hp, -⟩ := Array.findIdx?_eq_some_iff_getElem.mp hi
    have hkk : s.vm.classes[c] = k := (Array.getElem?_eq_some_iff.mp hk).2
    rw [hkk] at hp
    cases hkind : k.kind with
    | array component ty =>
      rw [hkind] at hb hp
      simp at hb hp
      exact ⟨comp, c, k, rfl, hi, hk, by rw [hkind, hp, hb.1], hb.2⟩
    | _ => rw [hkind] at hb; simp at hb
theorem va_AOA.moved {t : FieldType} {u U : State} (hvm : u.vm.Alike U.vm) (h : va_AOA t u) : va_AOA t U := by
  obtain ⟨comp, c, k, h1, h2, h3, h4, h5⟩ := aoa_spec h
  obtain ⟨k', hk', he⟩ := hvm.2.2 _ _ h3
  have hi : (U.vm.classes.findIdx? fun (x : Class) => match x.kind with | .array component _ => component == comp | _ => false) = some c := by
    have e1 := va_idx_bare U.vm comp
    have e2 := va_idx_bare u.vm comp
    first | rw [hvm.bare_eq] at e1 | rw [← hvm.bare_eq] at e1
    exact e1.symm.trans (e2.trans h2)
  have hkind : k'.kind = .array comp (.array t) := by rw [he]; exact h4
  have f1 : U.vm.findClass (FieldType.array t).toString = some comp := by rw [hvm.findClass]; exact h1
  have f2 : U.vm.findClass ("[" ++ (FieldType.array t).toString) = some c := by rw [hvm.findClass]; exact h5
  unfold va_AOA Cond.before Cond.holds
  simp only [Cond.value]
  rw [f1, Option.bind_some]
  refine (congrArg (fun o : Option Nat => (o.bind (fun c => (U.vm.classes[c]?).map fun (k : Class) => match k.kind with | .array _ ty => decide (ty = FieldType.array t) && decide (U.vm.findClass ("[" ++ (FieldType.array t).toString) = some c) | _ => false) == some true)) hi).trans ?_
  simp [hk', hkind, f2]
theorem XI_mv {s U : State} (hW : s.WarmedH U.vm) (h : XI s) : XI U := ⟨va_AO.moved hW.alike h.1, va_AOA.moved hW.alike h.2.1, va_Nw.warmM hW h.2.2.1, va_Nw.warmM hW h.2.2.2.1, va_Nw.warmM hW h.2.2.2.2.1, va_Nw.warmM hW h.2.2.2.2.2⟩
theorem XI_bl {U : State} {g : JFrame} {mk : MethodId} {a : Array Value} (h : XI U) : XI (U.calling g mk a) := ⟨va_AO.moved (u := U) (U := U.calling g mk a) (Vm.Alike.refl U.vm) h.1, va_AOA.moved (u := U) (U := U.calling g mk a) (Vm.Alike.refl U.vm) h.2.1, va_Nw.same rfl (u := U) (U := U.calling g mk a) rfl h.2.2.1, va_Nw.same rfl (u := U) (U := U.calling g mk a) rfl h.2.2.2.1, va_Nw.same rfl (u := U) (U := U.calling g mk a) rfl h.2.2.2.2.1, va_Nw.same rfl (u := U) (U := U.calling g mk a) rfl h.2.2.2.2.2⟩
def PI (D : va_G) (cI : ClassId) (h0 : Nat) (e : va_E) (sz : Nat) (U : State) : Prop := U.heap.size = sz ∧ va_P D vwCl [(h0, e)] U.heap ∧ va_K D vwCl [(cI, .int)] U ∧ va_D (fun _ => True) [(h0, e)] ∧ XI U
def BI (D : va_G) (A : Nat → Prop) (w : va_W) (t : State) : Prop := va_P D vwCl w t.heap ∧ va_D A w
theorem PI_S {s : State} {H : Heap} {D : va_G} {cI : ClassId} {q : Nat} {e : va_E} (hP : va_P D vwCl [(q, e)] H) (hK : va_K D vwCl [(cI, .int)] s) (hX : XI s) : PreS s H (va_Pc [.ref q] (PI D cI q e H.size)) [.ref q] :=
  ⟨fun a U g mk z => by
    obtain ⟨z0, z1, z2, z3, z4, z5⟩ := z
    exact ⟨z0, z1, z2, va_K.moved (u := U) (U := U.calling g mk a) (Vm.Alike.refl U.vm) z3, z4, XI_bl z5⟩,
   fun U hU hW => ⟨rfl, by rw [hU], by rw [hU]; exact hP, va_K.moved hW.alike hK, ⟨fun i j p q hi hj _ => by
      have h1 := (List.getElem?_eq_some_iff.mp hi).1
      have h2 := (List.getElem?_eq_some_iff.mp hj).1
      simp at h1 h2
      omega, fun _ _ _ => trivial⟩, XI_mv hW hX⟩⟩
theorem P_last {D : va_G} {cl : List vw_C} {X : va_W} {x : Nat × va_E} {H : Heap} (h : va_P D cl (X ++ [x]) H) : va_P D cl [x] H := fun k q hq => by
  have h1 := (List.getElem?_eq_some_iff.mp hq).1
  simp at h1
  subst h1
  exact h X.length q (by rw [List.getElem?_append_right (Nat.le_refl _), Nat.sub_self]; exact hq)
theorem A_last {A0 : Nat → Prop} {X : va_W} {q : Nat} {e : va_E} {H0 H : Heap} {locs : List Loc} (hD : va_D A0 (X ++ [(q, e)])) (hS : va_S A0 H0 H locs) (hA : ∀ z, H0.size ≤ z → A0 z) : ∀ z, va_A [(q, e)] H.size z → A0 z := fun z hz => by
  rcases hz with ⟨k, e', hk⟩ | hz
  · have h1 := (List.getElem?_eq_some_iff.mp hk).1
    simp at h1
    subst h1
    cases hk
    exact hD.2 X.length _ (by rw [List.getElem?_append_right (Nat.le_refl _), Nat.sub_self]; rfl)
  · exact hA z (Nat.le_trans hS.1 hz)
theorem join_last {A0 : Nat → Prop} {D : va_G} {cl : List vw_C} {X w1 : va_W} {q : Nat} {e : va_E} {H H1 : Heap} (hP : va_P D cl (X ++ [(q, e)]) H) (hD : va_D A0 (X ++ [(q, e)])) (hk : ∀ z : Nat, z < H.size → ¬ va_A [(q, e)] H.size z → H1[z]? = H[z]?) (hF : ∀ z, va_A [(q, e)] H.size z → A0 z) (hP1 : va_P D cl w1 H1) (hD1 : va_D (va_A [(q, e)] H.size) w1) : va_P D cl (X ++ w1) H1 ∧ va_D A0 (X ++ w1) := by
  have hX : ∀ (k : Nat) (x : Nat × va_E), X[k]? = some x → x.1 < H.size ∧ x.1 ≠ q := fun k x hx => by
    have hl := (List.getElem?_eq_some_iff.mp hx).1
    have h1 : (X ++ [(q, e)])[k]? = some x := by rw [List.getElem?_append_left hl]; exact hx
    refine ⟨(hP k x h1).lt, fun h => ?_⟩
    have h2 : (X ++ [(q, e)])[X.length]? = some (q, e) := by rw [List.getElem?_append_right (Nat.le_refl _), Nat.sub_self]; rfl
    have := hD.1 k X.length x (q, e) h1 h2 h
    omega
  have nA : ∀ (k : Nat) (x : Nat × va_E), X[k]? = some x → ¬ va_A [(q, e)] H.size x.1 := fun k x hx h => by
    obtain ⟨a, b⟩ := hX k x hx
    rcases h with ⟨k', e', hk'⟩ | h
    · have h1 := (List.getElem?_eq_some_iff.mp hk').1
      simp at h1
      subst h1
      cases hk'
      exact b rfl
    · omega
  have hPX : va_P D cl X H := fun k x hx => hP k x (by rw [List.getElem?_append_left (List.getElem?_eq_some_iff.mp hx).1]; exact hx)
  refine ⟨(hPX.kept (fun k x hx => hk x.1 (hX k x hx).1 (nA k x hx))).app hP1, ?_⟩
  refine va_D.app ⟨fun i j p z hi hj h => hD.1 i j p z (by rw [List.getElem?_append_left (List.getElem?_eq_some_iff.mp hi).1]; exact hi) (by rw [List.getElem?_append_left (List.getElem?_eq_some_iff.mp hj).1]; exact hj) h, fun k x hx => hD.2 k x (by rw [List.getElem?_append_left (List.getElem?_eq_some_iff.mp hx).1]; exact hx)⟩ ⟨hD1.1, fun k x hx => hF _ (hD1.2 k x hx)⟩ (fun i j p z hi hj h => ?_)
  exact nA i p hi (by rw [h]; exact hD1.2 j z hj)
section KN
variable {p : Program} {l : Launch} {e : Env} {R : Room} {s : State} {m : MethodId} {args : Array Value} {below : List Frame} {meth : Method} {c : Code} {H : Heap} {locs : List Loc} {cells slots : Nat} {Q : State → Prop}
variable {cc : ByteArray} {pc : Nat} {ls : Array Slot} {rest : List Value} {D : va_G} {cl : List vw_C} {A : Nat → Prop} {tys : List (ClassId × FieldType)} {ws : va_W} {H0 : Heap}
theorem k_newi (hexec : p.tables.exec = Jvm.exec) (hb : c.code = cc) (harr : (Cond.arrayClass .int).before args s = true) (hK : va_K D cl tys s) (t0 : Nat) {cI : ClassId} (ht : tys[t0]? = some (cI, .int)) (hP : va_P D cl ws H) (hD : va_D A ws) (hS : va_S A H0 H locs) (hA : ∀ q, H0.size ≤ q → A q)
    {n : Int32} {N' : Nat} (hn : ¬ n < 0) (hN : n.toNatClampNeg = N') (hbytes : N' * componentBytes .int ≤ 536870912) (hcells : cells + 1 ≤ R.cells) (hslots : slots + N' ≤ R.slots) (hdg : decode cc pc = .ok (.newarray .int, 2))
    (kk : ∀ (q : Nat) (H1 : Heap), va_P D cl (ws ++ [(q, zI cI N')]) H1 → va_D A (ws ++ [(q, zI cI N')]) → va_S A H0 H1 locs → W p l e R s m args below meth c H1 locs (cells + 1) (slots + N') Q (F0 m (pc + 2) ls (.ref q :: rest))) : W p l e R s m args below meth c H locs cells slots Q (F0 m pc ls (.int n :: rest)) := by
  refine va_newa (atype := .int) (ty := .int) (a0 := (N', .inl (fun _ => 0))) hexec hb harr rfl hK hP hD hS hA (fun cA => rfl) hn hN hbytes hcells hslots hdg (fun q cA H1 hK1 hP1 hD1 hS1 => ?_)
  have e1 : s.vm.findClass ("[" ++ FieldType.int.toString) = some cA := (hK1.2 tys.length (cA, .int) (by simp)).2
  have e2 : s.vm.findClass ("[" ++ FieldType.int.toString) = some cI := (hK.2 t0 _ ht).2
  have e3 : cA = cI := Option.some.inj (e1.symm.trans e2)
  subst e3
  exact kk q H1 hP1 hD1 hS1
theorem k_newz (hexec : p.tables.exec = Jvm.exec) (hb : c.code = cc) (harr : (Cond.arrayClass .boolean).before args s = true) (hK : va_K D cl tys s) (t0 : Nat) {cI : ClassId} (ht : tys[t0]? = some (cI, .boolean)) (hP : va_P D cl ws H) (hD : va_D A ws) (hS : va_S A H0 H locs) (hA : ∀ q, H0.size ≤ q → A q)
    {n : Int32} {N' : Nat} (hn : ¬ n < 0) (hN : n.toNatClampNeg = N') (hbytes : N' * componentBytes .boolean ≤ 536870912) (hcells : cells + 1 ≤ R.cells) (hslots : slots + N' ≤ R.slots) (hdg : decode cc pc = .ok (.newarray .boolean, 2))
    (kk : ∀ (q : Nat) (H1 : Heap), va_P D cl (ws ++ [(q, zI cI N')]) H1 → va_D A (ws ++ [(q, zI cI N')]) → va_S A H0 H1 locs → W p l e R s m args below meth c H1 locs (cells + 1) (slots + N') Q (F0 m (pc + 2) ls (.ref q :: rest))) : W p l e R s m args below meth c H locs cells slots Q (F0 m pc ls (.int n :: rest)) := by
  refine va_newa (atype := .boolean) (ty := .boolean) (a0 := (N', .inl (fun _ => 0))) hexec hb harr rfl hK hP hD hS hA (fun cA => rfl) hn hN hbytes hcells hslots hdg (fun q cA H1 hK1 hP1 hD1 hS1 => ?_)
  have e1 : s.vm.findClass ("[" ++ FieldType.boolean.toString) = some cA := (hK1.2 tys.length (cA, .boolean) (by simp)).2
  have e2 : s.vm.findClass ("[" ++ FieldType.boolean.toString) = some cI := (hK.2 t0 _ ht).2
  have e3 : cA = cI := Option.some.inj (e1.symm.trans e2)
  subst e3
  exact kk q H1 hP1 hD1 hS1
end KN
set_option maxHeartbeats 4000000 in
set_option maxRecDepth 100000 in
theorem c_X0_init (l : Launch) (D : va_G) (cI : ClassId) (h0 sz : Nat) : Met l yX0_init wsX0_init { frames := 1, cells := 2, slots := 80, locals := 12 } (va_Pc [.ref h0] (PI D cI h0 (.inr (0, [.null, .null])) sz)) (va_Qv (fun w : va_W => ∃ a b, w = [(h0, .inr (0, [.ref a, .ref b])), (a, zI cI 64), (b, zI cI 16)]) (BI D (va_A [(h0, .inr (0, [.null, .null]))] sz)) (va_A [(h0, .inr (0, [.null, .null]))] sz)) 2 80 (va_A [(h0, .inr (0, [.null, .null]))] sz) := by
  refine Met.ofW (cc := cX0_init) (maxL := 1) (ret := none) (by decide) rfl ?_
  intro p e s m args below meth c s₁ B hml hv
  obtain ⟨rfl, hsz, hP, hK, hD0, hX⟩ := hv
  have hx := B.exec
  have hb := B.bytes
  have hr := B.returns
  have hts := atoms_spec (ws := wsX0_init) B.pre
  have hown : s.vm.findClass RX0 = some m.cls := findClass_of_methodNamed B.named
  have hlocks := B.notSynchronized
  have hin : meth.name = "<init>" := (name_of_methodNamed B.named B.method).1
  have inX0 : ∀ w ∈ wsX00, w ∈ wsX0_init := by decide +kernel
  subst hsz
  have hD := hD0.self (sz := s.heap.size)
  generalize hAe : va_A [(h0, .inr (0, [.null, .null]))] s.heap.size = A at hD ⊢
  have hA : ∀ q : Nat, s.heap.size ≤ q → A q := fun q h => by rw [← hAe]; exact Or.inr h
  have hS : va_S A s.heap s.heap [] := va_S.rf
  have hP : va_P D vwCl [(h0, .inr (0, [.null, .null]))] s.heap := hP
  have hl := lv_entry ([.ref h0]) (n := 1) (Nat.le_of_ble_eq_true rfl)
  rw [lg_entry_eq]
  generalize (lg_sl ([.ref h0]) ++ List.replicate (1 - (lg_sl ([.ref h0])).length) Slot.unset).toArray = ls at hl ⊢
  have hl : lv_has ls 1 [(0, .ref h0)] := hl
  refine lv_aload_n hx hb dX0_init_0 rfl (lv_at hl 0 rfl) ?_
  refine W.objInit hx hb hown (hts (.methodLink RX0 3 objectInit) (by decide +kernel)) (hts (.instanceMethod objectInit) (by decide +kernel)) (hts _ (List.mem_cons_of_mem _ (List.mem_append_left _ (List.mem_of_getElem? (i := 2) rfl)))) rfl (by rw [hml]; exact hl.1) rfl dX0_init_1 (Nat.le_of_ble_eq_true rfl) (Nat.le_of_ble_eq_true rfl) ?_
  refine W.eq (g2 := F0 m 4 ls []) rfl ?_
  refine lv_aload_n hx hb dX0_init_4 rfl (lv_at hl 0 rfl) ?_
  refine lv_bipush (v := (64 : Int32)) hx hb dX0_init_5 (by decide) ?_
  refine k_newi hx hb (hts (.arrayClass .int) (by decide +kernel)) hK 0 rfl hP hD hS hA (n := (64 : Int32)) (N' := 64) (by decide) rfl (by decide) (by decide) (by decide) dX0_init_7 (fun q7 H hP hD hS => ?_)
  have hP : va_P D vwCl [(h0, .inr (0, [.null, .null])), (q7, zI cI 64)] H := hP
  have hD : va_D A [(h0, .inr (0, [.null, .null])), (q7, zI cI 64)] := hD
  refine W.widen (k := 1) (n := 64) (by decide) (by decide) ?_
  refine va_putF (D := D) (ci := 0) (v := .ref q7) (ty := (tyX0 0)) (C := RX0) (T := TX0) (N := 2) hx hb hts inX0 tyX0 tyX0_ok nmX0 hown hK hP hD hS 0 rfl rfl 0 (by decide) (hts (.fieldLink RX0 11 "PageMonitor$Hasher" "schedule" "[I") (by decide +kernel)) (fun _ h9 => h9) rfl hin rfl (by decide +kernel) rfl rfl (Nat.le_of_ble_eq_true rfl) dX0_init_9 (fun H locs hP hD hS => ?_)
  have hP : va_P D vwCl [(h0, .inr (0, [.ref q7, .null])), (q7, zI cI 64)] H := hP
  have hD : va_D A [(h0, .inr (0, [.ref q7, .null])), (q7, zI cI 64)] := hD
  refine lv_aload_n hx hb dX0_init_12 rfl (lv_at hl 0 rfl) ?_
  refine lv_bipush (v := (16 : Int32)) hx hb dX0_init_13 (by decide) ?_
  refine k_newi hx hb (hts (.arrayClass .int) (by decide +kernel)) hK 0 rfl hP hD hS hA (n := (16 : Int32)) (N' := 16) (by decide) rfl (by decide) (by decide) (by decide) dX0_init_15 (fun q15 H hP hD hS => ?_)
  have hP : va_P D vwCl [(h0, .inr (0, [.ref q7, .null])), (q7, zI cI 64), (q15, zI cI 16)] H := hP
  have hD : va_D A [(h0, .inr (0, [.ref q7, .null])), (q7, zI cI 64), (q15, zI cI 16)] := hD
  refine W.widen (k := 2) (n := 80) (by decide) (by decide) ?_
  refine va_putF (D := D) (ci := 0) (v := .ref q15) (ty := (tyX0 1)) (C := RX0) (T := TX0) (N := 2) hx hb hts inX0 tyX0 tyX0_ok nmX0 hown hK hP hD hS 0 rfl rfl 1 (by decide) (hts (.fieldLink RX0 15 "PageMonitor$Hasher" "padding" "[I") (by decide +kernel)) (fun _ h9 => h9) rfl hin rfl (by decide +kernel) rfl rfl (Nat.le_of_ble_eq_true rfl) dX0_init_17 (fun H locs hP hD hS => ?_)
  have hP : va_P D vwCl [(h0, .inr (0, [.ref q7, .ref q15])), (q7, zI cI 64), (q15, zI cI 16)] H := hP
  have hD : va_D A [(h0, .inr (0, [.ref q7, .ref q15])), (q7, zI cI 64), (q15, zI cI 16)] := hD
  exact W.vret hx hb hr (fun t ht hW => ⟨⟨_, rfl, ⟨_, _, rfl⟩, by rw [ht]; exact hP, hD⟩, hS.F ht⟩) hS.2.2 dX0_init_20
set_option maxHeartbeats 4000000 in
set_option maxRecDepth 100000 in
theorem c_X3_init (l : Launch) (D : va_G) (cI : ClassId) (h0 sz : Nat) : Met l yX3_init wsX3_init { frames := 1, cells := 4, slots := 24, locals := 12 } (va_Pc [.ref h0] (PI D cI h0 (.inr (3, [.int 0, .int 0, .int 0, .int 0, .int 0, .null, .null, .int 0, .int 0, .int 0, .null, .null])) sz)) (va_Qv (fun w : va_W => ∃ a b c d, w = [(h0, .inr (3, [.int 0, .int (-1), .int 0, .int 0, .int 0, .ref a, .ref b, .int 0, .int 0, .int 0, .ref c, .ref d])), (a, zI cI 4), (b, zI cI 8), (c, zI cI 4), (d, zI cI 8)]) (BI D (va_A [(h0, .inr (3, [.int 0, .int 0, .int 0, .int 0, .int 0, .null, .null, .int 0, .int 0, .int 0, .null, .null]))] sz)) (va_A [(h0, .inr (3, [.int 0, .int 0, .int 0, .int 0, .int 0, .null, .null, .int 0, .int 0, .int 0, .null, .null]))] sz)) 4 24 (va_A [(h0, .inr (3, [.int 0, .int 0, .int 0, .int 0, .int 0, .null, .null, .int 0, .int 0, .int 0, .null, .null]))] sz) := by
  refine Met.ofW (cc := cX3_init) (maxL := 1) (ret := none) (by decide) rfl ?_
  intro p e s m args below meth c s₁ B hml hv
  obtain ⟨rfl, hsz, hP, hK, hD0, hX⟩ := hv
  have hx := B.exec
  have hb := B.bytes
  have hr := B.returns
  have hts := atoms_spec (ws := wsX3_init) B.pre
  have hown : s.vm.findClass RX3 = some m.cls := findClass_of_methodNamed B.named
  have hlocks := B.notSynchronized
  have hin : meth.name = "<init>" := (name_of_methodNamed B.named B.method).1
  have inX3 : ∀ w ∈ wsX30, w ∈ wsX3_init := by decide +kernel
  subst hsz
  have hD := hD0.self (sz := s.heap.size)
  generalize hAe : va_A [(h0, .inr (3, [.int 0, .int 0, .int 0, .int 0, .int 0, .null, .null, .int 0, .int 0, .int 0, .null, .null]))] s.heap.size = A at hD ⊢
  have hA : ∀ q : Nat, s.heap.size ≤ q → A q := fun q h => by rw [← hAe]; exact Or.inr h
  have hS : va_S A s.heap s.heap [] := va_S.rf
  have hP : va_P D vwCl [(h0, .inr (3, [.int 0, .int 0, .int 0, .int 0, .int 0, .null, .null, .int 0, .int 0, .int 0, .null, .null]))] s.heap := hP
  have hl := lv_entry ([.ref h0]) (n := 1) (Nat.le_of_ble_eq_true rfl)
  rw [lg_entry_eq]
  generalize (lg_sl ([.ref h0]) ++ List.replicate (1 - (lg_sl ([.ref h0])).length) Slot.unset).toArray = ls at hl ⊢
  have hl : lv_has ls 1 [(0, .ref h0)] := hl
  refine lv_aload_n hx hb dX3_init_0 rfl (lv_at hl 0 rfl) ?_
  refine W.objInit hx hb hown (hts (.methodLink RX3 3 objectInit) (by decide +kernel)) (hts (.instanceMethod objectInit) (by decide +kernel)) (hts _ (List.mem_cons_of_mem _ (List.mem_append_left _ (List.mem_of_getElem? (i := 2) rfl)))) rfl (by rw [hml]; exact hl.1) rfl dX3_init_1 (Nat.le_of_ble_eq_true rfl) (Nat.le_of_ble_eq_true rfl) ?_
  refine W.eq (g2 := F0 m 4 ls []) rfl ?_
  refine lv_aload_n hx hb dX3_init_4 rfl (lv_at hl 0 rfl) ?_
  refine lv_iconst (v := (0 : Int32)) hx hb dX3_init_5 (by decide) ?_
  refine va_put (D := D) (ci := 3) (v := .int (0 : Int32)) (ty := (tyX3 0)) (C := RX3) (T := TX3) (N := 12) hx hb hts inX3 tyX3 tyX3_ok nmX3 hown hK hP hD hS 0 rfl rfl 0 (by decide) (hts (.fieldLink RX3 9 "PageMonitor$Page" "kind" "I") (by decide +kernel)) (fun _ h9 => h9) rfl (by decide +kernel) rfl rfl (Nat.le_of_ble_eq_true rfl) dX3_init_6 (fun H locs hP hD hS => ?_)
  have hP : va_P D vwCl [(h0, .inr (3, [.int (0 : Int32), .int 0, .int 0, .int 0, .int 0, .null, .null, .int 0, .int 0, .int 0, .null, .null]))] H := hP
  have hD : va_D A [(h0, .inr (3, [.int (0 : Int32), .int 0, .int 0, .int 0, .int 0, .null, .null, .int 0, .int 0, .int 0, .null, .null]))] := hD
  refine lv_aload_n hx hb dX3_init_9 rfl (lv_at hl 0 rfl) ?_
  refine lv_iconst (v := (-1 : Int32)) hx hb dX3_init_10 (by decide) ?_
  refine va_put (D := D) (ci := 3) (v := .int (-1 : Int32)) (ty := (tyX3 1)) (C := RX3) (T := TX3) (N := 12) hx hb hts inX3 tyX3 tyX3_ok nmX3 hown hK hP hD hS 0 rfl rfl 1 (by decide) (hts (.fieldLink RX3 15 "PageMonitor$Page" "owner" "I") (by decide +kernel)) (fun _ h9 => h9) rfl (by decide +kernel) rfl rfl (Nat.le_of_ble_eq_true rfl) dX3_init_11 (fun H locs hP hD hS => ?_)
  have hP : va_P D vwCl [(h0, .inr (3, [.int (0 : Int32), .int (-1 : Int32), .int 0, .int 0, .int 0, .null, .null, .int 0, .int 0, .int 0, .null, .null]))] H := hP
  have hD : va_D A [(h0, .inr (3, [.int (0 : Int32), .int (-1 : Int32), .int 0, .int 0, .int 0, .null, .null, .int 0, .int 0, .int 0, .null, .null]))] := hD
  refine lv_aload_n hx hb dX3_init_14 rfl (lv_at hl 0 rfl) ?_
  refine lv_iconst (v := (0 : Int32)) hx hb dX3_init_15 (by decide) ?_
  refine va_put (D := D) (ci := 3) (v := .int (0 : Int32)) (ty := (tyX3 2)) (C := RX3) (T := TX3) (N := 12) hx hb hts inX3 tyX3 tyX3_ok nmX3 hown hK hP hD hS 0 rfl rfl 2 (by decide) (hts (.fieldLink RX3 18 "PageMonitor$Page" "state" "I") (by decide +kernel)) (fun _ h9 => h9) rfl (by decide +kernel) rfl rfl (Nat.le_of_ble_eq_true rfl) dX3_init_16 (fun H locs hP hD hS => ?_)
  have hP : va_P D vwCl [(h0, .inr (3, [.int (0 : Int32), .int (-1 : Int32), .int (0 : Int32), .int 0, .int 0, .null, .null, .int 0, .int 0, .int 0, .null, .null]))] H := hP
  have hD : va_D A [(h0, .inr (3, [.int (0 : Int32), .int (-1 : Int32), .int (0 : Int32), .int 0, .int 0, .null, .null, .int 0, .int 0, .int 0, .null, .null]))] := hD
  refine lv_aload_n hx hb dX3_init_19 rfl (lv_at hl 0 rfl) ?_
  refine lv_iconst (v := (0 : Int32)) hx hb dX3_init_20 (by decide) ?_
  refine va_put (D := D) (ci := 3) (v := .int (0 : Int32)) (ty := (tyX3 3)) (C := RX3) (T := TX3) (N := 12) hx hb hts inX3 tyX3 tyX3_ok nmX3 hown hK hP hD hS 0 rfl rfl 3 (by decide) (hts (.fieldLink RX3 21 "PageMonitor$Page" "sealed" "Z") (by decide +kernel)) (fun _ h9 => h9) rfl (by decide +kernel) (by decide) (by decide) (Nat.le_of_ble_eq_true rfl) dX3_init_21 (fun H locs hP hD hS => ?_)
  have hP : va_P D vwCl [(h0, .inr (3, [.int (0 : Int32), .int (-1 : Int32), .int (0 : Int32), .int (0 : Int32), .int 0, .null, .null, .int 0, .int 0, .int 0, .null, .null]))] H := hP
  have hD : va_D A [(h0, .inr (3, [.int (0 : Int32), .int (-1 : Int32), .int (0 : Int32), .int (0 : Int32), .int 0, .null, .null, .int 0, .int 0, .int 0, .null, .null]))] := hD
  refine lv_aload_n hx hb dX3_init_24 rfl (lv_at hl 0 rfl) ?_
  refine lv_iconst (v := (0 : Int32)) hx hb dX3_init_25 (by decide) ?_
  refine va_put (D := D) (ci := 3) (v := .int (0 : Int32)) (ty := (tyX3 4)) (C := RX3) (T := TX3) (N := 12) hx hb hts inX3 tyX3 tyX3_ok nmX3 hown hK hP hD hS 0 rfl rfl 4 (by decide) (hts (.fieldLink RX3 25 "PageMonitor$Page" "blocksTold" "I") (by decide +kernel)) (fun _ h9 => h9) rfl (by decide +kernel) rfl rfl (Nat.le_of_ble_eq_true rfl) dX3_init_26 (fun H locs hP hD hS => ?_)
  have hP : va_P D vwCl [(h0, .inr (3, [.int (0 : Int32), .int (-1 : Int32), .int (0 : Int32), .int (0 : Int32), .int (0 : Int32), .null, .null, .int 0, .int 0, .int 0, .null, .null]))] H := hP
  have hD : va_D A [(h0, .inr (3, [.int (0 : Int32), .int (-1 : Int32), .int (0 : Int32), .int (0 : Int32), .int (0 : Int32), .null, .null, .int 0, .int 0, .int 0, .null, .null]))] := hD
  refine lv_aload_n hx hb dX3_init_29 rfl (lv_at hl 0 rfl) ?_
  refine lv_iconst (v := (4 : Int32)) hx hb dX3_init_30 (by decide) ?_
  refine k_newi hx hb (hts (.arrayClass .int) (by decide +kernel)) hK 0 rfl hP hD hS hA (n := (4 : Int32)) (N' := 4) (by decide) rfl (by decide) (by decide) (by decide) dX3_init_31 (fun q31 H hP hD hS => ?_)
  have hP : va_P D vwCl [(h0, .inr (3, [.int (0 : Int32), .int (-1 : Int32), .int (0 : Int32), .int (0 : Int32), .int (0 : Int32), .null, .null, .int 0, .int 0, .int 0, .null, .null])), (q31, zI cI 4)] H := hP
  have hD : va_D A [(h0, .inr (3, [.int (0 : Int32), .int (-1 : Int32), .int (0 : Int32), .int (0 : Int32), .int (0 : Int32), .null, .null, .int 0, .int 0, .int 0, .null, .null])), (q31, zI cI 4)] := hD
  refine W.widen (k := 1) (n := 4) (by decide) (by decide) ?_
  refine va_putF (D := D) (ci := 3) (v := .ref q31) (ty := (tyX3 5)) (C := RX3) (T := TX3) (N := 12) hx hb hts inX3 tyX3 tyX3_ok nmX3 hown hK hP hD hS 0 rfl rfl 5 (by decide) (hts (.fieldLink RX3 28 "PageMonitor$Page" "tables" "[I") (by decide +kernel)) (fun _ h9 => h9) rfl hin rfl (by decide +kernel) rfl rfl (Nat.le_of_ble_eq_true rfl) dX3_init_33 (fun H locs hP hD hS => ?_)
  have hP : va_P D vwCl [(h0, .inr (3, [.int (0 : Int32), .int (-1 : Int32), .int (0 : Int32), .int (0 : Int32), .int (0 : Int32), .ref q31, .null, .int 0, .int 0, .int 0, .null, .null])), (q31, zI cI 4)] H := hP
  have hD : va_D A [(h0, .inr (3, [.int (0 : Int32), .int (-1 : Int32), .int (0 : Int32), .int (0 : Int32), .int (0 : Int32), .ref q31, .null, .int 0, .int 0, .int 0, .null, .null])), (q31, zI cI 4)] := hD
  refine lv_aload_n hx hb dX3_init_36 rfl (lv_at hl 0 rfl) ?_
  refine lv_bipush (v := (8 : Int32)) hx hb dX3_init_37 (by decide) ?_
  refine k_newi hx hb (hts (.arrayClass .int) (by decide +kernel)) hK 0 rfl hP hD hS hA (n := (8 : Int32)) (N' := 8) (by decide) rfl (by decide) (by decide) (by decide) dX3_init_39 (fun q39 H hP hD hS => ?_)
  have hP : va_P D vwCl [(h0, .inr (3, [.int (0 : Int32), .int (-1 : Int32), .int (0 : Int32), .int (0 : Int32), .int (0 : Int32), .ref q31, .null, .int 0, .int 0, .int 0, .null, .null])), (q31, zI cI 4), (q39, zI cI 8)] H := hP
  have hD : va_D A [(h0, .inr (3, [.int (0 : Int32), .int (-1 : Int32), .int (0 : Int32), .int (0 : Int32), .int (0 : Int32), .ref q31, .null, .int 0, .int 0, .int 0, .null, .null])), (q31, zI cI 4), (q39, zI cI 8)] := hD
  refine W.widen (k := 2) (n := 12) (by decide) (by decide) ?_
  refine va_putF (D := D) (ci := 3) (v := .ref q39) (ty := (tyX3 6)) (C := RX3) (T := TX3) (N := 12) hx hb hts inX3 tyX3 tyX3_ok nmX3 hown hK hP hD hS 0 rfl rfl 6 (by decide) (hts (.fieldLink RX3 32 "PageMonitor$Page" "digest" "[I") (by decide +kernel)) (fun _ h9 => h9) rfl hin rfl (by decide +kernel) rfl rfl (Nat.le_of_ble_eq_true rfl) dX3_init_41 (fun H locs hP hD hS => ?_)
  have hP : va_P D vwCl [(h0, .inr (3, [.int (0 : Int32), .int (-1 : Int32), .int (0 : Int32), .int (0 : Int32), .int (0 : Int32), .ref q31, .ref q39, .int 0, .int 0, .int 0, .null, .null])), (q31, zI cI 4), (q39, zI cI 8)] H := hP
  have hD : va_D A [(h0, .inr (3, [.int (0 : Int32), .int (-1 : Int32), .int (0 : Int32), .int (0 : Int32), .int (0 : Int32), .ref q31, .ref q39, .int 0, .int 0, .int 0, .null, .null])), (q31, zI cI 4), (q39, zI cI 8)] := hD
  refine lv_aload_n hx hb dX3_init_44 rfl (lv_at hl 0 rfl) ?_
  refine lv_iconst (v := (0 : Int32)) hx hb dX3_init_45 (by decide) ?_
  refine va_put (D := D) (ci := 3) (v := .int (0 : Int32)) (ty := (tyX3 7)) (C := RX3) (T := TX3) (N := 12) hx hb hts inX3 tyX3 tyX3_ok nmX3 hown hK hP hD hS 0 rfl rfl 7 (by decide) (hts (.fieldLink RX3 35 "PageMonitor$Page" "entry" "I") (by decide +kernel)) (fun _ h9 => h9) rfl (by decide +kernel) rfl rfl (Nat.le_of_ble_eq_true rfl) dX3_init_46 (fun H locs hP hD hS => ?_)
  have hP : va_P D vwCl [(h0, .inr (3, [.int (0 : Int32), .int (-1 : Int32), .int (0 : Int32), .int (0 : Int32), .int (0 : Int32), .ref q31, .ref q39, .int (0 : Int32), .int 0, .int 0, .null, .null])), (q31, zI cI 4), (q39, zI cI 8)] H := hP
  have hD : va_D A [(h0, .inr (3, [.int (0 : Int32), .int (-1 : Int32), .int (0 : Int32), .int (0 : Int32), .int (0 : Int32), .ref q31, .ref q39, .int (0 : Int32), .int 0, .int 0, .null, .null])), (q31, zI cI 4), (q39, zI cI 8)] := hD
  refine lv_aload_n hx hb dX3_init_49 rfl (lv_at hl 0 rfl) ?_
  refine lv_iconst (v := (0 : Int32)) hx hb dX3_init_50 (by decide) ?_
  refine va_put (D := D) (ci := 3) (v := .int (0 : Int32)) (ty := (tyX3 8)) (C := RX3) (T := TX3) (N := 12) hx hb hts inX3 tyX3 tyX3_ok nmX3 hown hK hP hD hS 0 rfl rfl 8 (by decide) (hts (.fieldLink RX3 38 "PageMonitor$Page" "entered" "Z") (by decide +kernel)) (fun _ h9 => h9) rfl (by decide +kernel) (by decide) (by decide) (Nat.le_of_ble_eq_true rfl) dX3_init_51 (fun H locs hP hD hS => ?_)
  have hP : va_P D vwCl [(h0, .inr (3, [.int (0 : Int32), .int (-1 : Int32), .int (0 : Int32), .int (0 : Int32), .int (0 : Int32), .ref q31, .ref q39, .int (0 : Int32), .int (0 : Int32), .int 0, .null, .null])), (q31, zI cI 4), (q39, zI cI 8)] H := hP
  have hD : va_D A [(h0, .inr (3, [.int (0 : Int32), .int (-1 : Int32), .int (0 : Int32), .int (0 : Int32), .int (0 : Int32), .ref q31, .ref q39, .int (0 : Int32), .int (0 : Int32), .int 0, .null, .null])), (q31, zI cI 4), (q39, zI cI 8)] := hD
  refine lv_aload_n hx hb dX3_init_54 rfl (lv_at hl 0 rfl) ?_
  refine lv_iconst (v := (0 : Int32)) hx hb dX3_init_55 (by decide) ?_
  refine va_put (D := D) (ci := 3) (v := .int (0 : Int32)) (ty := (tyX3 9)) (C := RX3) (T := TX3) (N := 12) hx hb hts inX3 tyX3 tyX3_ok nmX3 hown hK hP hD hS 0 rfl rfl 9 (by decide) (hts (.fieldLink RX3 41 "PageMonitor$Page" "place" "I") (by decide +kernel)) (fun _ h9 => h9) rfl (by decide +kernel) rfl rfl (Nat.le_of_ble_eq_true rfl) dX3_init_56 (fun H locs hP hD hS => ?_)
  have hP : va_P D vwCl [(h0, .inr (3, [.int (0 : Int32), .int (-1 : Int32), .int (0 : Int32), .int (0 : Int32), .int (0 : Int32), .ref q31, .ref q39, .int (0 : Int32), .int (0 : Int32), .int (0 : Int32), .null, .null])), (q31, zI cI 4), (q39, zI cI 8)] H := hP
  have hD : va_D A [(h0, .inr (3, [.int (0 : Int32), .int (-1 : Int32), .int (0 : Int32), .int (0 : Int32), .int (0 : Int32), .ref q31, .ref q39, .int (0 : Int32), .int (0 : Int32), .int (0 : Int32), .null, .null])), (q31, zI cI 4), (q39, zI cI 8)] := hD
  refine lv_aload_n hx hb dX3_init_59 rfl (lv_at hl 0 rfl) ?_
  refine lv_iconst (v := (4 : Int32)) hx hb dX3_init_60 (by decide) ?_
  refine k_newi hx hb (hts (.arrayClass .int) (by decide +kernel)) hK 0 rfl hP hD hS hA (n := (4 : Int32)) (N' := 4) (by decide) rfl (by decide) (by decide) (by decide) dX3_init_61 (fun q61 H hP hD hS => ?_)
  have hP : va_P D vwCl [(h0, .inr (3, [.int (0 : Int32), .int (-1 : Int32), .int (0 : Int32), .int (0 : Int32), .int (0 : Int32), .ref q31, .ref q39, .int (0 : Int32), .int (0 : Int32), .int (0 : Int32), .null, .null])), (q31, zI cI 4), (q39, zI cI 8), (q61, zI cI 4)] H := hP
  have hD : va_D A [(h0, .inr (3, [.int (0 : Int32), .int (-1 : Int32), .int (0 : Int32), .int (0 : Int32), .int (0 : Int32), .ref q31, .ref q39, .int (0 : Int32), .int (0 : Int32), .int (0 : Int32), .null, .null])), (q31, zI cI 4), (q39, zI cI 8), (q61, zI cI 4)] := hD
  refine W.widen (k := 3) (n := 16) (by decide) (by decide) ?_
  refine va_putF (D := D) (ci := 3) (v := .ref q61) (ty := (tyX3 10)) (C := RX3) (T := TX3) (N := 12) hx hb hts inX3 tyX3 tyX3_ok nmX3 hown hK hP hD hS 0 rfl rfl 10 (by decide) (hts (.fieldLink RX3 44 "PageMonitor$Page" "registers" "[I") (by decide +kernel)) (fun _ h9 => h9) rfl hin rfl (by decide +kernel) rfl rfl (Nat.le_of_ble_eq_true rfl) dX3_init_63 (fun H locs hP hD hS => ?_)
  have hP : va_P D vwCl [(h0, .inr (3, [.int (0 : Int32), .int (-1 : Int32), .int (0 : Int32), .int (0 : Int32), .int (0 : Int32), .ref q31, .ref q39, .int (0 : Int32), .int (0 : Int32), .int (0 : Int32), .ref q61, .null])), (q31, zI cI 4), (q39, zI cI 8), (q61, zI cI 4)] H := hP
  have hD : va_D A [(h0, .inr (3, [.int (0 : Int32), .int (-1 : Int32), .int (0 : Int32), .int (0 : Int32), .int (0 : Int32), .ref q31, .ref q39, .int (0 : Int32), .int (0 : Int32), .int (0 : Int32), .ref q61, .null])), (q31, zI cI 4), (q39, zI cI 8), (q61, zI cI 4)] := hD
  refine lv_aload_n hx hb dX3_init_66 rfl (lv_at hl 0 rfl) ?_
  refine lv_bipush (v := (8 : Int32)) hx hb dX3_init_67 (by decide) ?_
  refine k_newi hx hb (hts (.arrayClass .int) (by decide +kernel)) hK 0 rfl hP hD hS hA (n := (8 : Int32)) (N' := 8) (by decide) rfl (by decide) (by decide) (by decide) dX3_init_69 (fun q69 H hP hD hS => ?_)
  have hP : va_P D vwCl [(h0, .inr (3, [.int (0 : Int32), .int (-1 : Int32), .int (0 : Int32), .int (0 : Int32), .int (0 : Int32), .ref q31, .ref q39, .int (0 : Int32), .int (0 : Int32), .int (0 : Int32), .ref q61, .null])), (q31, zI cI 4), (q39, zI cI 8), (q61, zI cI 4), (q69, zI cI 8)] H := hP
  have hD : va_D A [(h0, .inr (3, [.int (0 : Int32), .int (-1 : Int32), .int (0 : Int32), .int (0 : Int32), .int (0 : Int32), .ref q31, .ref q39, .int (0 : Int32), .int (0 : Int32), .int (0 : Int32), .ref q61, .null])), (q31, zI cI 4), (q39, zI cI 8), (q61, zI cI 4), (q69, zI cI 8)] := hD
  refine W.widen (k := 4) (n := 24) (by decide) (by decide) ?_
  refine va_putF (D := D) (ci := 3) (v := .ref q69) (ty := (tyX3 11)) (C := RX3) (T := TX3) (N := 12) hx hb hts inX3 tyX3 tyX3_ok nmX3 hown hK hP hD hS 0 rfl rfl 11 (by decide) (hts (.fieldLink RX3 47 "PageMonitor$Page" "entries" "[I") (by decide +kernel)) (fun _ h9 => h9) rfl hin rfl (by decide +kernel) rfl rfl (Nat.le_of_ble_eq_true rfl) dX3_init_71 (fun H locs hP hD hS => ?_)
  have hP : va_P D vwCl [(h0, .inr (3, [.int (0 : Int32), .int (-1 : Int32), .int (0 : Int32), .int (0 : Int32), .int (0 : Int32), .ref q31, .ref q39, .int (0 : Int32), .int (0 : Int32), .int (0 : Int32), .ref q61, .ref q69])), (q31, zI cI 4), (q39, zI cI 8), (q61, zI cI 4), (q69, zI cI 8)] H := hP
  have hD : va_D A [(h0, .inr (3, [.int (0 : Int32), .int (-1 : Int32), .int (0 : Int32), .int (0 : Int32), .int (0 : Int32), .ref q31, .ref q39, .int (0 : Int32), .int (0 : Int32), .int (0 : Int32), .ref q61, .ref q69])), (q31, zI cI 4), (q39, zI cI 8), (q61, zI cI 4), (q69, zI cI 8)] := hD
  exact W.vret hx hb hr (fun t ht hW => ⟨⟨_, rfl, ⟨_, _, _, _, rfl⟩, by rw [ht]; exact hP, hD⟩, hS.F ht⟩) hS.2.2 dX3_init_74
set_option maxHeartbeats 4000000 in
set_option maxRecDepth 100000 in
theorem c_X2_init (l : Launch) (D : va_G) (cI : ClassId) (h0 sz : Nat) : Met l yX2_init wsX2_init { frames := 2, cells := 5, slots := 106, locals := 32 } (va_Pc [.ref h0] (PI D cI h0 (.inr (2, [.null, .null, .null])) sz)) (va_Qv (fun w : va_W => ∃ a b c d e, w = [(h0, .inr (2, [.ref a, .ref b, .ref e])), (a, zI cI 8), (b, .inr (0, [.ref c, .ref d])), (c, zI cI 64), (d, zI cI 16), (e, zI cI 16)]) (BI D (va_A [(h0, .inr (2, [.null, .null, .null]))] sz)) (va_A [(h0, .inr (2, [.null, .null, .null]))] sz)) 5 106 (va_A [(h0, .inr (2, [.null, .null, .null]))] sz) := by
  refine Met.ofW (cc := cX2_init) (maxL := 1) (ret := none) (by decide) rfl ?_
  intro p e s m args below meth c s₁ B hml hv
  obtain ⟨rfl, hsz, hP, hK, hD0, hX⟩ := hv
  have hx := B.exec
  have hb := B.bytes
  have hr := B.returns
  have hts := atoms_spec (ws := wsX2_init) B.pre
  have hown : s.vm.findClass RX2 = some m.cls := findClass_of_methodNamed B.named
  have hlocks := B.notSynchronized
  have hin : meth.name = "<init>" := (name_of_methodNamed B.named B.method).1
  have inX2 : ∀ w ∈ wsX20, w ∈ wsX2_init := by decide +kernel
  subst hsz
  have hD := hD0.self (sz := s.heap.size)
  generalize hAe : va_A [(h0, .inr (2, [.null, .null, .null]))] s.heap.size = A at hD ⊢
  have hA : ∀ q : Nat, s.heap.size ≤ q → A q := fun q h => by rw [← hAe]; exact Or.inr h
  have hS : va_S A s.heap s.heap [] := va_S.rf
  have hP : va_P D vwCl [(h0, .inr (2, [.null, .null, .null]))] s.heap := hP
  have hl := lv_entry ([.ref h0]) (n := 1) (Nat.le_of_ble_eq_true rfl)
  rw [lg_entry_eq]
  generalize (lg_sl ([.ref h0]) ++ List.replicate (1 - (lg_sl ([.ref h0])).length) Slot.unset).toArray = ls at hl ⊢
  have hl : lv_has ls 1 [(0, .ref h0)] := hl
  refine lv_aload_n hx hb dX2_init_0 rfl (lv_at hl 0 rfl) ?_
  refine W.objInit hx hb hown (hts (.methodLink RX2 3 objectInit) (by decide +kernel)) (hts (.instanceMethod objectInit) (by decide +kernel)) (hts _ (List.mem_cons_of_mem _ (List.mem_append_left _ (List.mem_append_left _ (List.mem_of_getElem? (i := 2) rfl))))) rfl (by rw [hml]; exact hl.1) rfl dX2_init_1 (Nat.le_of_ble_eq_true rfl) (Nat.le_of_ble_eq_true rfl) ?_
  refine W.eq (g2 := F0 m 4 ls []) rfl ?_
  refine lv_aload_n hx hb dX2_init_4 rfl (lv_at hl 0 rfl) ?_
  refine lv_bipush (v := (8 : Int32)) hx hb dX2_init_5 (by decide) ?_
  refine k_newi hx hb (hts (.arrayClass .int) (by decide +kernel)) hK 0 rfl hP hD hS hA (n := (8 : Int32)) (N' := 8) (by decide) rfl (by decide) (by decide) (by decide) dX2_init_7 (fun q7 H hP hD hS => ?_)
  have hP : va_P D vwCl [(h0, .inr (2, [.null, .null, .null])), (q7, zI cI 8)] H := hP
  have hD : va_D A [(h0, .inr (2, [.null, .null, .null])), (q7, zI cI 8)] := hD
  refine W.widen (k := 1) (n := 8) (by decide) (by decide) ?_
  refine va_putF (D := D) (ci := 2) (v := .ref q7) (ty := (tyX2 0)) (C := RX2) (T := TX2) (N := 3) hx hb hts inX2 tyX2 tyX2_ok nmX2 hown hK hP hD hS 0 rfl rfl 0 (by decide) (hts (.fieldLink RX2 9 "PageMonitor$Notary" "secret" "[I") (by decide +kernel)) (fun _ h9 => h9) rfl hin rfl (by decide +kernel) rfl rfl (Nat.le_of_ble_eq_true rfl) dX2_init_9 (fun H locs hP hD hS => ?_)
  have hP : va_P D vwCl [(h0, .inr (2, [.ref q7, .null, .null])), (q7, zI cI 8)] H := hP
  have hD : va_D A [(h0, .inr (2, [.ref q7, .null, .null])), (q7, zI cI 8)] := hD
  refine lv_aload_n hx hb dX2_init_12 rfl (lv_at hl 0 rfl) ?_
  refine va_new (ci := 0) (fs := [.null, .null]) (C := RX0) (T := TX0) (N := 2) hx hb hts (by decide +kernel) tyX0 tyX0_ok hown (hts (.classLink RX2 15 RX0) (by decide +kernel)) (hts (.instantiable RX0 2) (by decide +kernel)) (hts (.initialized RX0) (by decide +kernel)) hK hP hD hS hA rfl (fun j hj => by rcases (show j = 0 ∨ j = 1 by omega) with rfl | rfl <;> rfl) (by decide) (by decide) dX2_init_13 (fun q13 H hP hD hS => ?_)
  have hP : va_P D vwCl [(h0, .inr (2, [.ref q7, .null, .null])), (q7, zI cI 8), (q13, .inr (0, [.null, .null]))] H := hP
  have hD : va_D A [(h0, .inr (2, [.ref q7, .null, .null])), (q7, zI cI 8), (q13, .inr (0, [.null, .null]))] := hD
  refine W.widen (k := 2) (n := 10) (by decide) (by decide) ?_
  refine lv_dup hx hb dX2_init_16 rfl ?_
  have hPc : va_P D vwCl [(q13, .inr (0, [.null, .null]))] H := P_last (X := [(h0, .inr (2, [.ref q7, .null, .null])), (q7, zI cI 8)]) hP
  have hFc := A_last (X := [(h0, .inr (2, [.ref q7, .null, .null])), (q7, zI cI 8)]) (q := q13) (e := .inr (0, [.null, .null])) hD hS hA
  refine va_callv (va_runIN (As := []) (rest := [.ref q13, .ref h0]) ⟨hx, hb, hml, hown, hts⟩ (c_X0_init l D cI q13 H.size) ⟨va_cnB 0 hts gX2_init_X0_init_n17 rfl rfl rfl hX.2.2.2.1 (hts (.initialized RX0) (by decide +kernel)) (by decide +kernel) ⟨Nat.le_of_ble_eq_true rfl, Nat.le_of_ble_eq_true rfl⟩, rfl, hts (.instanceMethod yX0_init) (by decide +kernel)⟩ (PI_S hPc hK hX) rfl rfl hl.1 rfl (lv_room (Nat.le_of_ble_eq_true rfl)) dX2_init_17 ⟨by decide, by decide⟩) hS (fun z _ h => hFc z h) hFc (fun w t H1 locs ht hvm hw hB hsz hk1 hS => ?_)
  obtain ⟨hP1, hD1⟩ := hB
  rw [ht] at hP1
  obtain ⟨hP, hD⟩ := join_last (X := [(h0, .inr (2, [.ref q7, .null, .null])), (q7, zI cI 8)]) hP hD hk1 hFc hP1 hD1
  obtain ⟨a0, b0, rfl⟩ := hw
  generalize H1 = H at hP hS ⊢
  have hP : va_P D vwCl [(h0, .inr (2, [.ref q7, .null, .null])), (q7, zI cI 8), (q13, .inr (0, [.ref a0, .ref b0])), (a0, zI cI 64), (b0, zI cI 16)] H := hP
  have hD : va_D A [(h0, .inr (2, [.ref q7, .null, .null])), (q7, zI cI 8), (q13, .inr (0, [.ref a0, .ref b0])), (a0, zI cI 64), (b0, zI cI 16)] := hD
  refine W.widen (k := 4) (n := 90) (by decide) (by decide) ?_
  refine va_putF (D := D) (ci := 2) (v := .ref q13) (ty := (tyX2 1)) (C := RX2) (T := TX2) (N := 3) hx hb hts inX2 tyX2 tyX2_ok nmX2 hown hK hP hD hS 0 rfl rfl 1 (by decide) (hts (.fieldLink RX2 18 "PageMonitor$Notary" "hasher" "LPageMonitor$Hasher;") (by decide +kernel)) (fun _ h9 => h9) rfl hin rfl (by decide +kernel) rfl rfl (Nat.le_of_ble_eq_true rfl) dX2_init_20 (fun H locs hP hD hS => ?_)
  have hP : va_P D vwCl [(h0, .inr (2, [.ref q7, .ref q13, .null])), (q7, zI cI 8), (q13, .inr (0, [.ref a0, .ref b0])), (a0, zI cI 64), (b0, zI cI 16)] H := hP
  have hD : va_D A [(h0, .inr (2, [.ref q7, .ref q13, .null])), (q7, zI cI 8), (q13, .inr (0, [.ref a0, .ref b0])), (a0, zI cI 64), (b0, zI cI 16)] := hD
  refine lv_aload_n hx hb dX2_init_23 rfl (lv_at hl 0 rfl) ?_
  refine lv_bipush (v := (16 : Int32)) hx hb dX2_init_24 (by decide) ?_
  refine k_newi hx hb (hts (.arrayClass .int) (by decide +kernel)) hK 0 rfl hP hD hS hA (n := (16 : Int32)) (N' := 16) (by decide) rfl (by decide) (by decide) (by decide) dX2_init_26 (fun q26 H hP hD hS => ?_)
  have hP : va_P D vwCl [(h0, .inr (2, [.ref q7, .ref q13, .null])), (q7, zI cI 8), (q13, .inr (0, [.ref a0, .ref b0])), (a0, zI cI 64), (b0, zI cI 16), (q26, zI cI 16)] H := hP
  have hD : va_D A [(h0, .inr (2, [.ref q7, .ref q13, .null])), (q7, zI cI 8), (q13, .inr (0, [.ref a0, .ref b0])), (a0, zI cI 64), (b0, zI cI 16), (q26, zI cI 16)] := hD
  refine W.widen (k := 5) (n := 106) (by decide) (by decide) ?_
  refine va_putF (D := D) (ci := 2) (v := .ref q26) (ty := (tyX2 2)) (C := RX2) (T := TX2) (N := 3) hx hb hts inX2 tyX2 tyX2_ok nmX2 hown hK hP hD hS 0 rfl rfl 2 (by decide) (hts (.fieldLink RX2 22 "PageMonitor$Notary" "block" "[I") (by decide +kernel)) (fun _ h9 => h9) rfl hin rfl (by decide +kernel) rfl rfl (Nat.le_of_ble_eq_true rfl) dX2_init_28 (fun H locs hP hD hS => ?_)
  have hP : va_P D vwCl [(h0, .inr (2, [.ref q7, .ref q13, .ref q26])), (q7, zI cI 8), (q13, .inr (0, [.ref a0, .ref b0])), (a0, zI cI 64), (b0, zI cI 16), (q26, zI cI 16)] H := hP
  have hD : va_D A [(h0, .inr (2, [.ref q7, .ref q13, .ref q26])), (q7, zI cI 8), (q13, .inr (0, [.ref a0, .ref b0])), (a0, zI cI 64), (b0, zI cI 16), (q26, zI cI 16)] := hD
  exact W.vret hx hb hr (fun t ht hW => ⟨⟨_, rfl, ⟨_, _, _, _, _, rfl⟩, by rw [ht]; exact hP, hD⟩, hS.F ht⟩) hS.2.2 dX2_init_31
-- the store: an array of pages, the rows, and a loop
def pgE (t d x y : Nat) : va_E := .inr (3, [.int 0, .int (-1), .int 0, .int 0, .int 0, .ref t, .ref d, .int 0, .int 0, .int 0, .ref x, .ref y])
def wS (cP cR : ClassId) (h0 q1 q2 : Nat) (g r : Nat → Option Nat) (W : va_W) : va_W := (h0, .inr (4, [.ref q1, .ref q2])) :: (q1, .inl (cP, 20, .inr (.inr (.inr (.inr g))))) :: (q2, .inl (cR, 28, .inr (.inr (.inr (.inr r))))) :: W
def IS (cI : ClassId) (n : Nat) (g r : Nat → Option Nat) (W : va_W) : Prop := W.length = 28 + 5 * n ∧ (∀ j, j < 28 → ∃ a, r j = some a ∧ W[j]? = some (a, zI cI 16)) ∧
  ∀ p, p < n → ∃ a t d x y, g p = some a ∧ W[28 + 5 * p]? = some (a, pgE t d x y) ∧ W[28 + 5 * p + 1]? = some (t, zI cI 4) ∧ W[28 + 5 * p + 2]? = some (d, zI cI 8) ∧ W[28 + 5 * p + 3]? = some (x, zI cI 4) ∧ W[28 + 5 * p + 4]? = some (y, zI cI 8)
theorem IS_0 {cI : ClassId} {r : Nat → Nat} : IS cI 0 (fun _ => none) (fun i => if i < 28 then some (r i) else none) (va_pl ([] ++ (List.range 28).map r) (vr_up (fun _ => zI cI 0) ((List.range 28).map r) (zI cI 16))) := by
  refine ⟨by simp [va_pl], fun j hj => ⟨r j, if_pos hj, ?_⟩, fun p hp => absurd hp (by omega)⟩
  have hm : r j ∈ (List.range 28).map r := List.mem_map.mpr ⟨j, List.mem_range.mpr hj, rfl⟩
  unfold va_pl
  rw [List.nil_append, List.getElem?_map, List.getElem?_map, List.getElem?_range hj]
  show some (r j, vr_up (fun _ => zI cI 0) ((List.range 28).map r) (zI cI 16) (r j)) = _
  rw [vr_up_in hm]
theorem IS_s {cI : ClassId} {i q t d x y : Nat} {g r : Nat → Option Nat} {W : va_W} (h : IS cI i g r W) : IS cI (i + 1) (va_up g i (some q)) r (W ++ [(q, pgE t d x y), (t, zI cI 4), (d, zI cI 8), (x, zI cI 4), (y, zI cI 8)]) := by
  obtain ⟨h1, h2, h3⟩ := h
  refine ⟨by rw [List.length_append, h1]; simp; omega, fun j hj => ?_, fun p hp => ?_⟩
  · obtain ⟨a, b, c⟩ := h2 j hj
    exact ⟨a, b, by rw [List.getElem?_append_left (by omega)]; exact c⟩
  · by_cases e : p = i
    · subst e
      refine ⟨q, t, d, x, y, va_up_self _ _ _, ?_, ?_, ?_, ?_, ?_⟩
      all_goals rw [List.getElem?_append_right (by omega), h1]
      · rw [show 28 + 5 * p - (28 + 5 * p) = 0 by omega]; rfl
      · rw [show 28 + 5 * p + 1 - (28 + 5 * p) = 1 by omega]; rfl
      · rw [show 28 + 5 * p + 2 - (28 + 5 * p) = 2 by omega]; rfl
      · rw [show 28 + 5 * p + 3 - (28 + 5 * p) = 3 by omega]; rfl
      · rw [show 28 + 5 * p + 4 - (28 + 5 * p) = 4 by omega]; rfl
    · obtain ⟨a, t', d', x', y', b0, b1, b2, b3, b4, b5⟩ := h3 p (by omega)
      refine ⟨a, t', d', x', y', by rw [va_up_ne _ _ e]; exact b0, ?_, ?_, ?_, ?_, ?_⟩
      all_goals rw [List.getElem?_append_left (by omega)]
      · exact b1
      · exact b2
      · exact b3
      · exact b4
      · exact b5
set_option maxHeartbeats 4000000 in
set_option maxRecDepth 100000 in
theorem X4_loop {p : Program} {l : Launch} {e : Env} {R : Room} {s : State} {m : MethodId} {args : Array Value} {below : List Frame} {meth : Method} {c : Code} {Q : State → Prop} {D : va_G} {A : Nat → Prop} {cI cP cR : ClassId} {h0 q1 q2 : Nat} {r : Nat → Option Nat}
    (hx : p.tables.exec = Jvm.exec) (hb : c.code = cX4_init) (hml : c.maxLocals = 2) (hown : s.vm.findClass RX4 = some m.cls) (hts : ∀ w ∈ wsX4_init, w.before args s = true) (hX : XI s) (hK : va_K D vwCl [(cI, .int), (cP, .object RX3), (cR, .array .int)] s) (hA : ∀ q, s.heap.size ≤ q → A q)
    (hRc : 130 ≤ R.cells) (hRs : 1216 ≤ R.slots) (hRf : 2 ≤ R.frames) (hRl : 32 ≤ R.locals)
    (kk : ∀ (g : Nat → Option Nat) (W0 : va_W) (H : Heap) (locs : List Loc) (ls : Array Slot), IS cI 20 g r W0 → va_P D vwCl (wS cP cR h0 q1 q2 g r W0) H → va_D A (wS cP cR h0 q1 q2 g r W0) → va_S A s.heap H locs → W p l e R s m args below meth c H locs 130 1216 Q (F0 m 52 ls [])) :
    ∀ (k i : Nat) (x1 : Int32) (g : Nat → Option Nat) (W0 : va_W) (H : Heap) (locs : List Loc) (ls : Array Slot), i + k = 20 → x1 = nI i → IS cI i g r W0 → va_P D vwCl (wS cP cR h0 q1 q2 g r W0) H → va_D A (wS cP cR h0 q1 q2 g r W0) → va_S A s.heap H locs → lv_has ls 2 [(1, .int x1), (0, .ref h0)] → W p l e R s m args below meth c H locs (30 + 5 * i) (496 + 36 * i) Q (F0 m 27 ls []) := by
  intro k
  induction k with
  | zero =>
    intro i x1 g W0 H locs ls hi ex hIS hP hD hS hl
    have e20 : i = 20 := by omega
    subst e20
    refine lv_iload_n hx hb dX4_init_27 rfl (lv_at hl 0 rfl) ?_
    refine lv_bipush (v := (20 : Int32)) hx hb dX4_init_28 (by decide) ?_
    refine lv_icmp_ge (tgt := 52) hx hb dX4_init_30 (by decide) (fun _ => ?_) (fun hc => absurd (by rw [ex]; decide) hc)
    exact kk g W0 H locs ls hIS hP hD hS
  | succ k ih =>
    intro i x1 g W0 H locs ls hi ex hIS hP hD hS hl
    have hlt : i < 20 := by omega
    refine lv_iload_n hx hb dX4_init_27 rfl (lv_at hl 0 rfl) ?_
    refine lv_bipush (v := (20 : Int32)) hx hb dX4_init_28 (by decide) ?_
    refine lv_icmp_ge (tgt := 52) hx hb dX4_init_30 (by decide) (fun hc => absurd hc (by rw [ex]; exact nI_ge (b := 20) hlt (by omega))) (fun _ => ?_)
    refine lv_aload_n hx hb dX4_init_33 rfl (lv_at hl 1 rfl) ?_
    refine va_get (D := D) (ci := 4) (v := .ref q1) (C := RX4) (T := TX4) (N := 2) hx hb hts (by decide +kernel) hown hK hP 0 rfl rfl 0 (by decide) (hts (.fieldLink RX4 11 "PageMonitor$Store" "pages" "[LPageMonitor$Page;") (by decide +kernel)) (fun _ h9 => h9) rfl dX4_init_34 ?_
    refine lv_iload_n hx hb dX4_init_37 rfl (lv_at hl 0 rfl) ?_
    refine va_new (ci := 3) (fs := [.int 0, .int 0, .int 0, .int 0, .int 0, .null, .null, .int 0, .int 0, .int 0, .null, .null]) (C := RX3) (T := TX3) (N := 12) hx hb hts (by decide +kernel) tyX3 tyX3_ok hown (hts (.classLink RX4 9 RX3) (by decide +kernel)) (hts (.instantiable RX3 12) (by decide +kernel)) (hts (.initialized RX3) (by decide +kernel)) hK hP hD hS hA rfl (fun j hj => by rcases (show j = 0 ∨ j = 1 ∨ j = 2 ∨ j = 3 ∨ j = 4 ∨ j = 5 ∨ j = 6 ∨ j = 7 ∨ j = 8 ∨ j = 9 ∨ j = 10 ∨ j = 11 by omega) with rfl | rfl | rfl | rfl | rfl | rfl | rfl | rfl | rfl | rfl | rfl | rfl <;> rfl) (by omega) (by omega) dX4_init_38 (fun q H hP hD hS => ?_)
    refine lv_dup hx hb dX4_init_41 rfl ?_
    have hPc := P_last hP
    have hFc := A_last hD hS hA
    have hK1 : va_K D vwCl [(cI, .int)] s := hK.sub [0] rfl
    refine va_callv (va_runIN (As := []) (rest := [.ref q, .int x1, .ref q1]) ⟨hx, hb, hml, hown, hts⟩ (c_X3_init l D cI q H.size) ⟨va_cnB 0 hts gX4_init_X3_init_n22 rfl rfl rfl hX.2.2.2.2.1 (hts (.initialized RX3) (by decide +kernel)) (by decide +kernel) ⟨hRf, hRl⟩, rfl, hts (.instanceMethod yX3_init) (by decide +kernel)⟩ (PI_S hPc hK1 hX) rfl rfl hl.1 rfl (lv_room (Nat.le_of_ble_eq_true rfl)) dX4_init_42 ⟨by omega, by omega⟩) hS (fun z _ h => hFc z h) hFc (fun w t H1 locs ht hvm hw hB hsz hk1 hS => ?_)
    obtain ⟨hP1, hD1⟩ := hB
    rw [ht] at hP1
    obtain ⟨hP, hD⟩ := join_last hP hD hk1 hFc hP1 hD1
    obtain ⟨ta, da, xa, ya, rfl⟩ := hw
    have hlen := hIS.1
    have hin : vp_in x1 20 := by rw [ex]; exact vp_in_nI hlt (by omega)
    have hcl : x1.toNatClampNeg = i := by rw [ex]; exact nI_clamp (by omega)
    refine va_astq hx hb hK hP hD hS 1 1 (wS cP cR h0 q1 q2 g r W0).length 3 (r := (RX3, TX3, 12)) rfl rfl (by rw [List.getElem?_append_right (Nat.le_refl _), Nat.sub_self]; rfl) rfl hin dX4_init_45 (fun H locs hP hD hS => ?_)
    rw [hcl] at hP hD
    have hP : va_P D vwCl (wS cP cR h0 q1 q2 (va_up g i (some q)) r (W0 ++ [(q, pgE ta da xa ya), (ta, zI cI 4), (da, zI cI 8), (xa, zI cI 4), (ya, zI cI 8)])) H := hP
    have hD : va_D A (wS cP cR h0 q1 q2 (va_up g i (some q)) r (W0 ++ [(q, pgE ta da xa ya), (ta, zI cI 4), (da, zI cI 8), (xa, zI cI 4), (ya, zI cI 8)])) := hD
    obtain ⟨y1, ey⟩ : ∃ y : Int32, y = x1 + 1 := ⟨_, rfl⟩
    refine lv_iinc (v := y1) (lv' := [(1, .int y1), (0, .ref h0)]) hx hb dX4_init_46 hl (k := 0) rfl (by rw [ey]; rfl) (by decide) rfl (fun ls hl => ?_)
    refine lv_goto (tgt := 27) hx hb dX4_init_49 (by decide) ?_
    refine W.widen (k := 30 + 5 * (i + 1)) (n := 496 + 36 * (i + 1)) (by omega) (by omega) ?_
    exact ih (i + 1) y1 _ _ _ _ _ (by omega) (by rw [ey, ex]; exact nI_1 i) (IS_s hIS) hP hD hS hl
set_option maxHeartbeats 4000000 in
set_option maxRecDepth 100000 in
theorem c_X4_init (l : Launch) (D : va_G) (cI : ClassId) (h0 sz : Nat) : Met l yX4_init wsX4_init { frames := 2, cells := 130, slots := 1216, locals := 32 } (va_Pc [.ref h0] (PI D cI h0 (.inr (4, [.null, .null])) sz)) (va_Qv (fun u : va_W × ClassId × ClassId => ∃ q1 q2 g r W0, u.1 = wS u.2.1 u.2.2 h0 q1 q2 g r W0 ∧ IS cI 20 g r W0) (fun u t => va_P D vwCl u.1 t.heap ∧ va_D (va_A [(h0, .inr (4, [.null, .null]))] sz) u.1 ∧ va_K D vwCl [(u.2.1, .object RX3), (u.2.2, .array .int)] t) (va_A [(h0, .inr (4, [.null, .null]))] sz)) 130 1216 (va_A [(h0, .inr (4, [.null, .null]))] sz) := by
  refine Met.ofW (cc := cX4_init) (maxL := 2) (ret := none) (by decide) rfl ?_
  intro p e s m args below meth c s₁ B hml hv
  obtain ⟨rfl, hsz, hP, hK, hD0, hX⟩ := hv
  have hx := B.exec
  have hb := B.bytes
  have hr := B.returns
  have hts := atoms_spec (ws := wsX4_init) B.pre
  have hown : s.vm.findClass RX4 = some m.cls := findClass_of_methodNamed B.named
  have hlocks := B.notSynchronized
  have hin : meth.name = "<init>" := (name_of_methodNamed B.named B.method).1
  have inX4 : ∀ w ∈ wsX40, w ∈ wsX4_init := by decide +kernel
  subst hsz
  have hD := hD0.self (sz := s.heap.size)
  generalize hAe : va_A [(h0, .inr (4, [.null, .null]))] s.heap.size = A at hD ⊢
  have hA : ∀ q : Nat, s.heap.size ≤ q → A q := fun q h => by rw [← hAe]; exact Or.inr h
  have hS : va_S A s.heap s.heap [] := va_S.rf
  have hP : va_P D vwCl [(h0, .inr (4, [.null, .null]))] s.heap := hP
  have hl := lv_entry ([.ref h0]) (n := 2) (Nat.le_of_ble_eq_true rfl)
  rw [lg_entry_eq]
  generalize (lg_sl ([.ref h0]) ++ List.replicate (2 - (lg_sl ([.ref h0])).length) Slot.unset).toArray = ls at hl ⊢
  have hl : lv_has ls 2 [(0, .ref h0)] := hl
  refine lv_aload_n hx hb dX4_init_0 rfl (lv_at hl 0 rfl) ?_
  refine W.objInit hx hb hown (hts (.methodLink RX4 3 objectInit) (by decide +kernel)) (hts (.instanceMethod objectInit) (by decide +kernel)) (hts _ (List.mem_cons_of_mem _ (List.mem_append_left _ (List.mem_append_left _ (List.mem_append_left _ (List.mem_of_getElem? (i := 2) rfl)))))) rfl (by rw [hml]; exact hl.1) rfl dX4_init_1 (Nat.le_of_ble_eq_true rfl) (Nat.le_of_ble_eq_true rfl) ?_
  refine W.eq (g2 := F0 m 4 ls []) rfl ?_
  refine lv_aload_n hx hb dX4_init_4 rfl (lv_at hl 0 rfl) ?_
  refine lv_bipush (v := (20 : Int32)) hx hb dX4_init_5 (by decide) ?_
  refine va_newq (C := RX3) hx hb hown (hts (.classLink RX4 9 RX3) (by decide +kernel)) hX.1 hK hP hD hS hA (n := 20) (N' := 20) (by decide) rfl (by decide) (by decide) (by decide) dX4_init_7 (fun q1 cP H hK hP hD hS => ?_)
  have hP : va_P D vwCl [(h0, .inr (4, [.null, .null])), (q1, .inl (cP, 20, .inr (.inr (.inr (.inr (fun _ => none))))))] H := hP
  have hD : va_D A [(h0, .inr (4, [.null, .null])), (q1, .inl (cP, 20, .inr (.inr (.inr (.inr (fun _ => none))))))] := hD
  refine W.widen (k := 1) (n := 20) (by decide) (by decide) ?_
  refine va_putF (D := D) (ci := 4) (v := .ref q1) (ty := tyX4 0) (C := RX4) (T := TX4) (N := 2) hx hb hts inX4 tyX4 tyX4_ok nmX4 hown hK hP hD hS 0 rfl rfl 0 (by decide) (hts (.fieldLink RX4 11 "PageMonitor$Store" "pages" "[LPageMonitor$Page;") (by decide +kernel)) (fun _ h9 => h9) rfl hin rfl (by decide +kernel) rfl rfl (Nat.le_of_ble_eq_true rfl) dX4_init_10 (fun H locs hP hD hS => ?_)
  have hP : va_P D vwCl [(h0, .inr (4, [.ref q1, .null])), (q1, .inl (cP, 20, .inr (.inr (.inr (.inr (fun _ => none))))))] H := hP
  have hD : va_D A [(h0, .inr (4, [.ref q1, .null])), (q1, .inl (cP, 20, .inr (.inr (.inr (.inr (fun _ => none))))))] := hD
  refine lv_aload_n hx hb dX4_init_13 rfl (lv_at hl 0 rfl) ?_
  refine lv_bipush (v := (28 : Int32)) hx hb dX4_init_14 (by decide) ?_
  refine lv_bipush (v := (16 : Int32)) hx hb dX4_init_16 (by decide) ?_
  refine va_mna (X := [(h0, .inr (4, [.ref q1, .null])), (q1, .inl (cP, 20, .inr (.inr (.inr (.inr (fun _ => none))))))]) (L := []) (f := fun _ => zI cI 0) (own := RX4) (index := 17) (ty := .int) (cy := cI) hx hb hown (hts (.classLink RX4 17 "[[I") (by decide +kernel)) hX.2.1 (hts (.arrayClass .int) (by decide +kernel)) (hK.2 0 _ rfl).2 hK hP hD hS hA (n := 28) (k := 16) (N' := 28) (K' := 16) (z := (16, .inl (fun _ => 0))) (by decide) (by decide) rfl rfl (by decide) (by decide) (by decide) rfl rfl (by decide) (by decide) (fun c => arrV_new _ _ _) dX4_init_18 (fun q2 r cR H hri hrl hK hP hD hS => ?_)
  have hIS := IS_0 (cI := cI) (r := r)
  generalize va_pl ([] ++ (List.range 28).map r) (vr_up (fun _ => zI cI 0) ((List.range 28).map r) (zI cI 16)) = W0 at hP hD hIS
  generalize (fun i => if i < 28 then some (r i) else none) = r' at hP hD hIS
  have hP : va_P D vwCl ((h0, .inr (4, [.ref q1, .null])) :: (q1, .inl (cP, 20, .inr (.inr (.inr (.inr (fun _ => none)))))) :: (q2, .inl (cR, 28, .inr (.inr (.inr (.inr r'))))) :: W0) H := hP
  have hD : va_D A ((h0, .inr (4, [.ref q1, .null])) :: (q1, .inl (cP, 20, .inr (.inr (.inr (.inr (fun _ => none)))))) :: (q2, .inl (cR, 28, .inr (.inr (.inr (.inr r'))))) :: W0) := hD
  have hK : va_K D vwCl [(cI, .int), (cP, .object RX3), (cR, .array .int)] s := hK
  refine W.widen (k := 30) (n := 496) (by decide) (by decide) ?_
  refine va_putF (D := D) (ci := 4) (v := .ref q2) (ty := tyX4 1) (C := RX4) (T := TX4) (N := 2) hx hb hts inX4 tyX4 tyX4_ok nmX4 hown hK hP hD hS 0 rfl rfl 1 (by decide) (hts (.fieldLink RX4 19 "PageMonitor$Store" "rows" "[[I") (by decide +kernel)) (fun _ h9 => h9) rfl hin rfl (by decide +kernel) rfl rfl (Nat.le_of_ble_eq_true rfl) dX4_init_22 (fun H locs hP hD hS => ?_)
  have hP : va_P D vwCl (wS cP cR h0 q1 q2 (fun _ => none) r' W0) H := hP
  have hD : va_D A (wS cP cR h0 q1 q2 (fun _ => none) r' W0) := hD
  refine lv_iconst (v := (0 : Int32)) hx hb dX4_init_25 (by decide) ?_
  refine lv_istore_n (lv' := [(1, .int 0), (0, .ref h0)]) hx hb dX4_init_26 rfl hl (by decide) rfl (fun ls hl => ?_)
  refine X4_loop hx hb hml hown hts hX hK hA (by decide) (by decide) (by decide) (by decide) (fun g W1 H locs ls hI1 hP hD hS => ?_) 20 0 0 (fun _ => none) W0 H locs ls rfl rfl hIS hP hD hS hl
  exact W.vret hx hb hr (fun t ht hW => ⟨⟨(_, cP, cR), rfl, ⟨_, _, _, _, _, rfl, hI1⟩, by rw [ht]; exact hP, hD, va_K.moved hW.alike (hK.sub [1, 2] rfl)⟩, hS.F ht⟩) hS.2.2 dX4_init_52
def MD (cI cP cR : ClassId) (h0 : Nat) (v : va_W) (qs qn : Nat) : Prop := ∃ w a b c d e s1 s2 s3 s4, v = (h0, .inr (1, [.ref qs, .ref qn, .int 0, .int 0, .ref s1, .ref s2, .ref s3, .ref s4])) :: (((((w ++ [(qn, .inr (2, [.ref a, .ref b, .ref e])), (a, zI cI 8), (b, .inr (0, [.ref c, .ref d])), (c, zI cI 64), (d, zI cI 16), (e, zI cI 16)]) ++ [(s1, zI cI 8)]) ++ [(s2, zI cI 8)]) ++ [(s3, zI cI 8)]) ++ [(s4, zI cI 8)]) ∧ ∃ q1 q2 g r W0, w = wS cP cR qs q1 q2 g r W0 ∧ IS cI 20 g r W0
set_option maxHeartbeats 4000000 in
set_option maxRecDepth 100000 in
theorem c_X1_init (l : Launch) (D : va_G) (cI : ClassId) (h0 sz : Nat) : Met l yX1_init wsX1_init { frames := 3, cells := 141, slots := 1359, locals := 53 } (va_Pc [.ref h0] (PI D cI h0 (.inr (1, [.null, .null, .int 0, .int 0, .null, .null, .null, .null])) sz)) (va_Qv (fun u : va_W × ClassId × ClassId => ∃ qs qn, MD cI u.2.1 u.2.2 h0 u.1 qs qn) (fun u t => va_P D vwCl u.1 t.heap ∧ va_D (va_A [(h0, .inr (1, [.null, .null, .int 0, .int 0, .null, .null, .null, .null]))] sz) u.1 ∧ va_K D vwCl [(u.2.1, .object RX3), (u.2.2, .array .int)] t) (va_A [(h0, .inr (1, [.null, .null, .int 0, .int 0, .null, .null, .null, .null]))] sz)) 141 1359 (va_A [(h0, .inr (1, [.null, .null, .int 0, .int 0, .null, .null, .null, .null]))] sz) := by
  refine Met.ofW (cc := cX1_init) (maxL := 1) (ret := none) (by decide) rfl ?_
  intro p e s m args below meth c s₁ B hml hv
  obtain ⟨rfl, hsz, hP, hK, hD0, hX⟩ := hv
  have hx := B.exec
  have hb := B.bytes
  have hr := B.returns
  have hts := atoms_spec (ws := wsX1_init) B.pre
  have hown : s.vm.findClass RX1 = some m.cls := findClass_of_methodNamed B.named
  have hlocks := B.notSynchronized
  have hin : meth.name = "<init>" := (name_of_methodNamed B.named B.method).1
  have inX1 : ∀ w ∈ wsX10, w ∈ wsX1_init := by decide +kernel
  subst hsz
  have hD := hD0.self (sz := s.heap.size)
  generalize hAe : va_A [(h0, .inr (1, [.null, .null, .int 0, .int 0, .null, .null, .null, .null]))] s.heap.size = A at hD ⊢
  have hA : ∀ q : Nat, s.heap.size ≤ q → A q := fun q h => by rw [← hAe]; exact Or.inr h
  have hS : va_S A s.heap s.heap [] := va_S.rf
  have hP : va_P D vwCl [(h0, .inr (1, [.null, .null, .int 0, .int 0, .null, .null, .null, .null]))] s.heap := hP
  have hl := lv_entry ([.ref h0]) (n := 1) (Nat.le_of_ble_eq_true rfl)
  rw [lg_entry_eq]
  generalize (lg_sl ([.ref h0]) ++ List.replicate (1 - (lg_sl ([.ref h0])).length) Slot.unset).toArray = ls at hl ⊢
  have hl : lv_has ls 1 [(0, .ref h0)] := hl
  refine lv_aload_n hx hb dX1_init_0 rfl (lv_at hl 0 rfl) ?_
  refine W.objInit hx hb hown (hts (.methodLink RX1 3 objectInit) (by decide +kernel)) (hts (.instanceMethod objectInit) (by decide +kernel)) (hts _ (List.mem_cons_of_mem _ (List.mem_append_left _ (List.mem_append_left _ (List.mem_append_left _ (List.mem_append_left _ (List.mem_append_left _ (List.mem_append_left _ (List.mem_of_getElem? (i := 2) rfl))))))))) rfl (by rw [hml]; exact hl.1) rfl dX1_init_1 (Nat.le_of_ble_eq_true rfl) (Nat.le_of_ble_eq_true rfl) ?_
  refine W.eq (g2 := F0 m 4 ls []) rfl ?_
  refine lv_aload_n hx hb dX1_init_4 rfl (lv_at hl 0 rfl) ?_
  refine va_new (ci := 4) (fs := [.null, .null]) (C := RX4) (T := TX4) (N := 2) hx hb hts (by decide +kernel) tyX4 tyX4_ok hown (hts (.classLink RX1 9 RX4) (by decide +kernel)) (hts (.instantiable RX4 2) (by decide +kernel)) (hts (.initialized RX4) (by decide +kernel)) hK hP hD hS hA rfl (fun j hj => by rcases (show j = 0 ∨ j = 1 by omega) with rfl | rfl <;> rfl) (by decide) (by decide) dX1_init_5 (fun q5 H hP hD hS => ?_)
  refine W.widen (k := 1) (n := 2) (by decide) (by decide) ?_
  refine lv_dup hx hb dX1_init_8 rfl ?_
  have hPc : va_P D vwCl [(q5, .inr (4, [.null, .null]))] H := P_last (X := ((h0, .inr (1, [.null, .null, .int 0, .int 0, .null, .null, .null, .null])) :: [])) hP
  have hFc := A_last (X := ((h0, .inr (1, [.null, .null, .int 0, .int 0, .null, .null, .null, .null])) :: [])) (q := q5) (e := .inr (4, [.null, .null])) hD hS hA
  refine va_callv (va_runI (As := []) (rest := [.ref q5, .ref h0]) ⟨hx, hb, hml, hown, hts⟩ (c_X4_init l D cI q5 H.size) (cwI 0 hts gX1_init_X4_init rfl rfl rfl (hts (.initialized RX4) (by decide +kernel)) (hts (.methodLink RX1 11 yX4_init) (by decide +kernel)) (hts (.instanceMethod yX4_init) (by decide +kernel)) rfl (by decide +kernel) ⟨Nat.le_of_ble_eq_true rfl, Nat.le_of_ble_eq_true rfl⟩) (PI_S hPc hK hX) rfl rfl hl.1 rfl (lv_room (Nat.le_of_ble_eq_true rfl)) dX1_init_9 ⟨by decide, by decide⟩) hS (fun z _ h => hFc z h) hFc (fun w t H1 locs ht hvm hw hB hsz hk1 hS => ?_)
  obtain ⟨wa, cP, cR⟩ := w
  obtain ⟨hP1, hD1, hK1⟩ := hB
  rw [ht] at hP1
  obtain ⟨hP, hD⟩ := join_last (X := ((h0, .inr (1, [.null, .null, .int 0, .int 0, .null, .null, .null, .null])) :: [])) hP hD hk1 hFc hP1 hD1
  have hKP := va_K.moved hvm.symm hK1
  generalize H1 = H at hP hS ⊢
  have hP : va_P D vwCl ((h0, .inr (1, [.null, .null, .int 0, .int 0, .null, .null, .null, .null])) :: wa) H := hP
  have hD : va_D A ((h0, .inr (1, [.null, .null, .int 0, .int 0, .null, .null, .null, .null])) :: wa) := hD
  refine W.widen (k := 131) (n := 1218) (by decide) (by decide) ?_
  refine va_putF (D := D) (ci := 1) (v := .ref q5) (ty := (tyX1 0)) (C := RX1) (T := TX1) (N := 8) hx hb hts inX1 tyX1 tyX1_ok nmX1 hown hK hP hD hS 0 rfl rfl 0 (by decide) (hts (.fieldLink RX1 12 "PageMonitor$Machine" "store" "LPageMonitor$Store;") (by decide +kernel)) (fun _ h9 => h9) rfl hin rfl (by decide +kernel) rfl rfl (Nat.le_of_ble_eq_true rfl) dX1_init_12 (fun H locs hP hD hS => ?_)
  have hP : va_P D vwCl ((h0, .inr (1, [.ref q5, .null, .int 0, .int 0, .null, .null, .null, .null])) :: wa) H := hP
  have hD : va_D A ((h0, .inr (1, [.ref q5, .null, .int 0, .int 0, .null, .null, .null, .null])) :: wa) := hD
  refine lv_aload_n hx hb dX1_init_15 rfl (lv_at hl 0 rfl) ?_
  refine va_new (ci := 2) (fs := [.null, .null, .null]) (C := RX2) (T := TX2) (N := 3) hx hb hts (by decide +kernel) tyX2 tyX2_ok hown (hts (.classLink RX1 18 RX2) (by decide +kernel)) (hts (.instantiable RX2 3) (by decide +kernel)) (hts (.initialized RX2) (by decide +kernel)) hK hP hD hS hA rfl (fun j hj => by rcases (show j = 0 ∨ j = 1 ∨ j = 2 by omega) with rfl | rfl | rfl <;> rfl) (by decide) (by decide) dX1_init_16 (fun q16 H hP hD hS => ?_)
  refine W.widen (k := 132) (n := 1221) (by decide) (by decide) ?_
  refine lv_dup hx hb dX1_init_19 rfl ?_
  have hPc : va_P D vwCl [(q16, .inr (2, [.null, .null, .null]))] H := P_last (X := ((h0, .inr (1, [.ref q5, .null, .int 0, .int 0, .null, .null, .null, .null])) :: wa)) hP
  have hFc := A_last (X := ((h0, .inr (1, [.ref q5, .null, .int 0, .int 0, .null, .null, .null, .null])) :: wa)) (q := q16) (e := .inr (2, [.null, .null, .null])) hD hS hA
  refine va_callv (va_runIN (As := []) (rest := [.ref q16, .ref h0]) ⟨hx, hb, hml, hown, hts⟩ (c_X2_init l D cI q16 H.size) ⟨va_cnB 0 hts gX1_init_X2_init_n20 rfl rfl rfl hX.2.2.1 (hts (.initialized RX2) (by decide +kernel)) (by decide +kernel) ⟨Nat.le_of_ble_eq_true rfl, Nat.le_of_ble_eq_true rfl⟩, rfl, hts (.instanceMethod yX2_init) (by decide +kernel)⟩ (PI_S hPc hK hX) rfl rfl hl.1 rfl (lv_room (Nat.le_of_ble_eq_true rfl)) dX1_init_20 ⟨by decide, by decide⟩) hS (fun z _ h => hFc z h) hFc (fun w2 t H1 locs ht hvm hw2 hB hsz hk1 hS => ?_)
  obtain ⟨hP1, hD1⟩ := hB
  rw [ht] at hP1
  obtain ⟨hP, hD⟩ := join_last (X := ((h0, .inr (1, [.ref q5, .null, .int 0, .int 0, .null, .null, .null, .null])) :: wa)) hP hD hk1 hFc hP1 hD1
  obtain ⟨a, b, c1, d1, e1, rfl⟩ := hw2
  generalize H1 = H at hP hS ⊢
  have hP : va_P D vwCl ((h0, .inr (1, [.ref q5, .null, .int 0, .int 0, .null, .null, .null, .null])) :: (wa ++ [(q16, .inr (2, [.ref a, .ref b, .ref e1])), (a, zI cI 8), (b, .inr (0, [.ref c1, .ref d1])), (c1, zI cI 64), (d1, zI cI 16), (e1, zI cI 16)])) H := hP
  have hD : va_D A ((h0, .inr (1, [.ref q5, .null, .int 0, .int 0, .null, .null, .null, .null])) :: (wa ++ [(q16, .inr (2, [.ref a, .ref b, .ref e1])), (a, zI cI 8), (b, .inr (0, [.ref c1, .ref d1])), (c1, zI cI 64), (d1, zI cI 16), (e1, zI cI 16)])) := hD
  refine W.widen (k := 137) (n := 1327) (by decide) (by decide) ?_
  refine va_putF (D := D) (ci := 1) (v := .ref q16) (ty := (tyX1 1)) (C := RX1) (T := TX1) (N := 8) hx hb hts inX1 tyX1 tyX1_ok nmX1 hown hK hP hD hS 0 rfl rfl 1 (by decide) (hts (.fieldLink RX1 21 "PageMonitor$Machine" "notary" "LPageMonitor$Notary;") (by decide +kernel)) (fun _ h9 => h9) rfl hin rfl (by decide +kernel) rfl rfl (Nat.le_of_ble_eq_true rfl) dX1_init_23 (fun H locs hP hD hS => ?_)
  have hP : va_P D vwCl ((h0, .inr (1, [.ref q5, .ref q16, .int 0, .int 0, .null, .null, .null, .null])) :: (wa ++ [(q16, .inr (2, [.ref a, .ref b, .ref e1])), (a, zI cI 8), (b, .inr (0, [.ref c1, .ref d1])), (c1, zI cI 64), (d1, zI cI 16), (e1, zI cI 16)])) H := hP
  have hD : va_D A ((h0, .inr (1, [.ref q5, .ref q16, .int 0, .int 0, .null, .null, .null, .null])) :: (wa ++ [(q16, .inr (2, [.ref a, .ref b, .ref e1])), (a, zI cI 8), (b, .inr (0, [.ref c1, .ref d1])), (c1, zI cI 64), (d1, zI cI 16), (e1, zI cI 16)])) := hD
  refine lv_aload_n hx hb dX1_init_26 rfl (lv_at hl 0 rfl) ?_
  refine lv_iconst (v := (0 : Int32)) hx hb dX1_init_27 (by decide) ?_
  refine va_put (D := D) (ci := 1) (v := .int (0 : Int32)) (ty := (tyX1 2)) (C := RX1) (T := TX1) (N := 8) hx hb hts inX1 tyX1 tyX1_ok nmX1 hown hK hP hD hS 0 rfl rfl 2 (by decide) (hts (.fieldLink RX1 25 "PageMonitor$Machine" "lastResult" "I") (by decide +kernel)) (fun _ h9 => h9) rfl (by decide +kernel) rfl rfl (Nat.le_of_ble_eq_true rfl) dX1_init_28 (fun H locs hP hD hS => ?_)
  have hP : va_P D vwCl ((h0, .inr (1, [.ref q5, .ref q16, .int (0 : Int32), .int 0, .null, .null, .null, .null])) :: (wa ++ [(q16, .inr (2, [.ref a, .ref b, .ref e1])), (a, zI cI 8), (b, .inr (0, [.ref c1, .ref d1])), (c1, zI cI 64), (d1, zI cI 16), (e1, zI cI 16)])) H := hP
  have hD : va_D A ((h0, .inr (1, [.ref q5, .ref q16, .int (0 : Int32), .int 0, .null, .null, .null, .null])) :: (wa ++ [(q16, .inr (2, [.ref a, .ref b, .ref e1])), (a, zI cI 8), (b, .inr (0, [.ref c1, .ref d1])), (c1, zI cI 64), (d1, zI cI 16), (e1, zI cI 16)])) := hD
  refine lv_aload_n hx hb dX1_init_31 rfl (lv_at hl 0 rfl) ?_
  refine lv_iconst (v := (0 : Int32)) hx hb dX1_init_32 (by decide) ?_
  refine va_put (D := D) (ci := 1) (v := .int (0 : Int32)) (ty := (tyX1 3)) (C := RX1) (T := TX1) (N := 8) hx hb hts inX1 tyX1 tyX1_ok nmX1 hown hK hP hD hS 0 rfl rfl 3 (by decide) (hts (.fieldLink RX1 29 "PageMonitor$Machine" "lastSteps" "I") (by decide +kernel)) (fun _ h9 => h9) rfl (by decide +kernel) rfl rfl (Nat.le_of_ble_eq_true rfl) dX1_init_33 (fun H locs hP hD hS => ?_)
  have hP : va_P D vwCl ((h0, .inr (1, [.ref q5, .ref q16, .int (0 : Int32), .int (0 : Int32), .null, .null, .null, .null])) :: (wa ++ [(q16, .inr (2, [.ref a, .ref b, .ref e1])), (a, zI cI 8), (b, .inr (0, [.ref c1, .ref d1])), (c1, zI cI 64), (d1, zI cI 16), (e1, zI cI 16)])) H := hP
  have hD : va_D A ((h0, .inr (1, [.ref q5, .ref q16, .int (0 : Int32), .int (0 : Int32), .null, .null, .null, .null])) :: (wa ++ [(q16, .inr (2, [.ref a, .ref b, .ref e1])), (a, zI cI 8), (b, .inr (0, [.ref c1, .ref d1])), (c1, zI cI 64), (d1, zI cI 16), (e1, zI cI 16)])) := hD
  refine lv_aload_n hx hb dX1_init_36 rfl (lv_at hl 0 rfl) ?_
  refine lv_bipush (v := (8 : Int32)) hx hb dX1_init_37 (by decide) ?_
  refine k_newi hx hb (hts (.arrayClass .int) (by decide +kernel)) hK 0 rfl hP hD hS hA (n := (8 : Int32)) (N' := 8) (by decide) rfl (by decide) (by decide) (by decide) dX1_init_39 (fun q39 H hP hD hS => ?_)
  have hP : va_P D vwCl ((h0, .inr (1, [.ref q5, .ref q16, .int (0 : Int32), .int (0 : Int32), .null, .null, .null, .null])) :: ((wa ++ [(q16, .inr (2, [.ref a, .ref b, .ref e1])), (a, zI cI 8), (b, .inr (0, [.ref c1, .ref d1])), (c1, zI cI 64), (d1, zI cI 16), (e1, zI cI 16)]) ++ [(q39, zI cI 8)])) H := hP
  have hD : va_D A ((h0, .inr (1, [.ref q5, .ref q16, .int (0 : Int32), .int (0 : Int32), .null, .null, .null, .null])) :: ((wa ++ [(q16, .inr (2, [.ref a, .ref b, .ref e1])), (a, zI cI 8), (b, .inr (0, [.ref c1, .ref d1])), (c1, zI cI 64), (d1, zI cI 16), (e1, zI cI 16)]) ++ [(q39, zI cI 8)])) := hD
  refine W.widen (k := 138) (n := 1335) (by decide) (by decide) ?_
  refine va_putF (D := D) (ci := 1) (v := .ref q39) (ty := (tyX1 4)) (C := RX1) (T := TX1) (N := 8) hx hb hts inX1 tyX1 tyX1_ok nmX1 hown hK hP hD hS 0 rfl rfl 4 (by decide) (hts (.fieldLink RX1 32 "PageMonitor$Machine" "said" "[I") (by decide +kernel)) (fun _ h9 => h9) rfl hin rfl (by decide +kernel) rfl rfl (Nat.le_of_ble_eq_true rfl) dX1_init_41 (fun H locs hP hD hS => ?_)
  have hP : va_P D vwCl ((h0, .inr (1, [.ref q5, .ref q16, .int (0 : Int32), .int (0 : Int32), .ref q39, .null, .null, .null])) :: ((wa ++ [(q16, .inr (2, [.ref a, .ref b, .ref e1])), (a, zI cI 8), (b, .inr (0, [.ref c1, .ref d1])), (c1, zI cI 64), (d1, zI cI 16), (e1, zI cI 16)]) ++ [(q39, zI cI 8)])) H := hP
  have hD : va_D A ((h0, .inr (1, [.ref q5, .ref q16, .int (0 : Int32), .int (0 : Int32), .ref q39, .null, .null, .null])) :: ((wa ++ [(q16, .inr (2, [.ref a, .ref b, .ref e1])), (a, zI cI 8), (b, .inr (0, [.ref c1, .ref d1])), (c1, zI cI 64), (d1, zI cI 16), (e1, zI cI 16)]) ++ [(q39, zI cI 8)])) := hD
  refine lv_aload_n hx hb dX1_init_44 rfl (lv_at hl 0 rfl) ?_
  refine lv_bipush (v := (8 : Int32)) hx hb dX1_init_45 (by decide) ?_
  refine k_newi hx hb (hts (.arrayClass .int) (by decide +kernel)) hK 0 rfl hP hD hS hA (n := (8 : Int32)) (N' := 8) (by decide) rfl (by decide) (by decide) (by decide) dX1_init_47 (fun q47 H hP hD hS => ?_)
  have hP : va_P D vwCl ((h0, .inr (1, [.ref q5, .ref q16, .int (0 : Int32), .int (0 : Int32), .ref q39, .null, .null, .null])) :: (((wa ++ [(q16, .inr (2, [.ref a, .ref b, .ref e1])), (a, zI cI 8), (b, .inr (0, [.ref c1, .ref d1])), (c1, zI cI 64), (d1, zI cI 16), (e1, zI cI 16)]) ++ [(q39, zI cI 8)]) ++ [(q47, zI cI 8)])) H := hP
  have hD : va_D A ((h0, .inr (1, [.ref q5, .ref q16, .int (0 : Int32), .int (0 : Int32), .ref q39, .null, .null, .null])) :: (((wa ++ [(q16, .inr (2, [.ref a, .ref b, .ref e1])), (a, zI cI 8), (b, .inr (0, [.ref c1, .ref d1])), (c1, zI cI 64), (d1, zI cI 16), (e1, zI cI 16)]) ++ [(q39, zI cI 8)]) ++ [(q47, zI cI 8)])) := hD
  refine W.widen (k := 139) (n := 1343) (by decide) (by decide) ?_
  refine va_putF (D := D) (ci := 1) (v := .ref q47) (ty := (tyX1 5)) (C := RX1) (T := TX1) (N := 8) hx hb hts inX1 tyX1 tyX1_ok nmX1 hown hK hP hD hS 0 rfl rfl 5 (by decide) (hts (.fieldLink RX1 36 "PageMonitor$Machine" "claimedMeasure" "[I") (by decide +kernel)) (fun _ h9 => h9) rfl hin rfl (by decide +kernel) rfl rfl (Nat.le_of_ble_eq_true rfl) dX1_init_49 (fun H locs hP hD hS => ?_)
  have hP : va_P D vwCl ((h0, .inr (1, [.ref q5, .ref q16, .int (0 : Int32), .int (0 : Int32), .ref q39, .ref q47, .null, .null])) :: (((wa ++ [(q16, .inr (2, [.ref a, .ref b, .ref e1])), (a, zI cI 8), (b, .inr (0, [.ref c1, .ref d1])), (c1, zI cI 64), (d1, zI cI 16), (e1, zI cI 16)]) ++ [(q39, zI cI 8)]) ++ [(q47, zI cI 8)])) H := hP
  have hD : va_D A ((h0, .inr (1, [.ref q5, .ref q16, .int (0 : Int32), .int (0 : Int32), .ref q39, .ref q47, .null, .null])) :: (((wa ++ [(q16, .inr (2, [.ref a, .ref b, .ref e1])), (a, zI cI 8), (b, .inr (0, [.ref c1, .ref d1])), (c1, zI cI 64), (d1, zI cI 16), (e1, zI cI 16)]) ++ [(q39, zI cI 8)]) ++ [(q47, zI cI 8)])) := hD
  refine lv_aload_n hx hb dX1_init_52 rfl (lv_at hl 0 rfl) ?_
  refine lv_bipush (v := (8 : Int32)) hx hb dX1_init_53 (by decide) ?_
  refine k_newi hx hb (hts (.arrayClass .int) (by decide +kernel)) hK 0 rfl hP hD hS hA (n := (8 : Int32)) (N' := 8) (by decide) rfl (by decide) (by decide) (by decide) dX1_init_55 (fun q55 H hP hD hS => ?_)
  have hP : va_P D vwCl ((h0, .inr (1, [.ref q5, .ref q16, .int (0 : Int32), .int (0 : Int32), .ref q39, .ref q47, .null, .null])) :: ((((wa ++ [(q16, .inr (2, [.ref a, .ref b, .ref e1])), (a, zI cI 8), (b, .inr (0, [.ref c1, .ref d1])), (c1, zI cI 64), (d1, zI cI 16), (e1, zI cI 16)]) ++ [(q39, zI cI 8)]) ++ [(q47, zI cI 8)]) ++ [(q55, zI cI 8)])) H := hP
  have hD : va_D A ((h0, .inr (1, [.ref q5, .ref q16, .int (0 : Int32), .int (0 : Int32), .ref q39, .ref q47, .null, .null])) :: ((((wa ++ [(q16, .inr (2, [.ref a, .ref b, .ref e1])), (a, zI cI 8), (b, .inr (0, [.ref c1, .ref d1])), (c1, zI cI 64), (d1, zI cI 16), (e1, zI cI 16)]) ++ [(q39, zI cI 8)]) ++ [(q47, zI cI 8)]) ++ [(q55, zI cI 8)])) := hD
  refine W.widen (k := 140) (n := 1351) (by decide) (by decide) ?_
  refine va_putF (D := D) (ci := 1) (v := .ref q55) (ty := (tyX1 6)) (C := RX1) (T := TX1) (N := 8) hx hb hts inX1 tyX1 tyX1_ok nmX1 hown hK hP hD hS 0 rfl rfl 6 (by decide) (hts (.fieldLink RX1 39 "PageMonitor$Machine" "claimedVoucher" "[I") (by decide +kernel)) (fun _ h9 => h9) rfl hin rfl (by decide +kernel) rfl rfl (Nat.le_of_ble_eq_true rfl) dX1_init_57 (fun H locs hP hD hS => ?_)
  have hP : va_P D vwCl ((h0, .inr (1, [.ref q5, .ref q16, .int (0 : Int32), .int (0 : Int32), .ref q39, .ref q47, .ref q55, .null])) :: ((((wa ++ [(q16, .inr (2, [.ref a, .ref b, .ref e1])), (a, zI cI 8), (b, .inr (0, [.ref c1, .ref d1])), (c1, zI cI 64), (d1, zI cI 16), (e1, zI cI 16)]) ++ [(q39, zI cI 8)]) ++ [(q47, zI cI 8)]) ++ [(q55, zI cI 8)])) H := hP
  have hD : va_D A ((h0, .inr (1, [.ref q5, .ref q16, .int (0 : Int32), .int (0 : Int32), .ref q39, .ref q47, .ref q55, .null])) :: ((((wa ++ [(q16, .inr (2, [.ref a, .ref b, .ref e1])), (a, zI cI 8), (b, .inr (0, [.ref c1, .ref d1])), (c1, zI cI 64), (d1, zI cI 16), (e1, zI cI 16)]) ++ [(q39, zI cI 8)]) ++ [(q47, zI cI 8)]) ++ [(q55, zI cI 8)])) := hD
  refine lv_aload_n hx hb dX1_init_60 rfl (lv_at hl 0 rfl) ?_
  refine lv_bipush (v := (8 : Int32)) hx hb dX1_init_61 (by decide) ?_
  refine k_newi hx hb (hts (.arrayClass .int) (by decide +kernel)) hK 0 rfl hP hD hS hA (n := (8 : Int32)) (N' := 8) (by decide) rfl (by decide) (by decide) (by decide) dX1_init_63 (fun q63 H hP hD hS => ?_)
  have hP : va_P D vwCl ((h0, .inr (1, [.ref q5, .ref q16, .int (0 : Int32), .int (0 : Int32), .ref q39, .ref q47, .ref q55, .null])) :: (((((wa ++ [(q16, .inr (2, [.ref a, .ref b, .ref e1])), (a, zI cI 8), (b, .inr (0, [.ref c1, .ref d1])), (c1, zI cI 64), (d1, zI cI 16), (e1, zI cI 16)]) ++ [(q39, zI cI 8)]) ++ [(q47, zI cI 8)]) ++ [(q55, zI cI 8)]) ++ [(q63, zI cI 8)])) H := hP
  have hD : va_D A ((h0, .inr (1, [.ref q5, .ref q16, .int (0 : Int32), .int (0 : Int32), .ref q39, .ref q47, .ref q55, .null])) :: (((((wa ++ [(q16, .inr (2, [.ref a, .ref b, .ref e1])), (a, zI cI 8), (b, .inr (0, [.ref c1, .ref d1])), (c1, zI cI 64), (d1, zI cI 16), (e1, zI cI 16)]) ++ [(q39, zI cI 8)]) ++ [(q47, zI cI 8)]) ++ [(q55, zI cI 8)]) ++ [(q63, zI cI 8)])) := hD
  refine W.widen (k := 141) (n := 1359) (by decide) (by decide) ?_
  refine va_putF (D := D) (ci := 1) (v := .ref q63) (ty := (tyX1 7)) (C := RX1) (T := TX1) (N := 8) hx hb hts inX1 tyX1 tyX1_ok nmX1 hown hK hP hD hS 0 rfl rfl 7 (by decide) (hts (.fieldLink RX1 42 "PageMonitor$Machine" "voucher" "[I") (by decide +kernel)) (fun _ h9 => h9) rfl hin rfl (by decide +kernel) rfl rfl (Nat.le_of_ble_eq_true rfl) dX1_init_65 (fun H locs hP hD hS => ?_)
  have hP : va_P D vwCl ((h0, .inr (1, [.ref q5, .ref q16, .int (0 : Int32), .int (0 : Int32), .ref q39, .ref q47, .ref q55, .ref q63])) :: (((((wa ++ [(q16, .inr (2, [.ref a, .ref b, .ref e1])), (a, zI cI 8), (b, .inr (0, [.ref c1, .ref d1])), (c1, zI cI 64), (d1, zI cI 16), (e1, zI cI 16)]) ++ [(q39, zI cI 8)]) ++ [(q47, zI cI 8)]) ++ [(q55, zI cI 8)]) ++ [(q63, zI cI 8)])) H := hP
  have hD : va_D A ((h0, .inr (1, [.ref q5, .ref q16, .int (0 : Int32), .int (0 : Int32), .ref q39, .ref q47, .ref q55, .ref q63])) :: (((((wa ++ [(q16, .inr (2, [.ref a, .ref b, .ref e1])), (a, zI cI 8), (b, .inr (0, [.ref c1, .ref d1])), (c1, zI cI 64), (d1, zI cI 16), (e1, zI cI 16)]) ++ [(q39, zI cI 8)]) ++ [(q47, zI cI 8)]) ++ [(q55, zI cI 8)]) ++ [(q63, zI cI 8)])) := hD
  exact W.vret hx hb hr (fun t ht hW => ⟨⟨(_, cP, cR), rfl, ⟨_, _, _, _, _, _, _, _, _, _, _, _, rfl, hw⟩, by rw [ht]; exact hP, hD, va_K.moved hW.alike hKP⟩, hS.F ht⟩) hS.2.2 dX1_init_68
set_option maxHeartbeats 4000000 in
set_option maxRecDepth 100000 in
theorem c_X5_init (l : Launch) (D : va_G) (cI : ClassId) (h0 sz : Nat) : Met l yX5_init wsX5_init { frames := 4, cells := 142, slots := 1367, locals := 73 } (va_Pc [.ref h0] (PI D cI h0 (.inr (5, [.null, .null, .null])) sz)) (va_Qv (fun u : va_W × ClassId × ClassId => ∃ q5 qs qn v, u.1 = (h0, .inr (5, [.ref q5, .ref qs, .ref qn])) :: v ∧ MD cI u.2.1 u.2.2 q5 v qs qn) (fun u t => va_P D vwCl u.1 t.heap ∧ va_D (va_A [(h0, .inr (5, [.null, .null, .null]))] sz) u.1 ∧ va_K D vwCl [(u.2.1, .object RX3), (u.2.2, .array .int)] t) (va_A [(h0, .inr (5, [.null, .null, .null]))] sz)) 142 1367 (va_A [(h0, .inr (5, [.null, .null, .null]))] sz) := by
  refine Met.ofW (cc := cX5_init) (maxL := 1) (ret := none) (by decide) rfl ?_
  intro p e s m args below meth c s₁ B hml hv
  obtain ⟨rfl, hsz, hP, hK, hD0, hX⟩ := hv
  have hx := B.exec
  have hb := B.bytes
  have hr := B.returns
  have hts := atoms_spec (ws := wsX5_init) B.pre
  have hown : s.vm.findClass RX5 = some m.cls := findClass_of_methodNamed B.named
  have hlocks := B.notSynchronized
  have hin : meth.name = "<init>" := (name_of_methodNamed B.named B.method).1
  have inX5 : ∀ w ∈ wsX50, w ∈ wsX5_init := by decide +kernel
  subst hsz
  have hD := hD0.self (sz := s.heap.size)
  generalize hAe : va_A [(h0, .inr (5, [.null, .null, .null]))] s.heap.size = A at hD ⊢
  have hA : ∀ q : Nat, s.heap.size ≤ q → A q := fun q h => by rw [← hAe]; exact Or.inr h
  have hS : va_S A s.heap s.heap [] := va_S.rf
  have hP : va_P D vwCl [(h0, .inr (5, [.null, .null, .null]))] s.heap := hP
  have hl := lv_entry ([.ref h0]) (n := 1) (Nat.le_of_ble_eq_true rfl)
  rw [lg_entry_eq]
  generalize (lg_sl ([.ref h0]) ++ List.replicate (1 - (lg_sl ([.ref h0])).length) Slot.unset).toArray = ls at hl ⊢
  have hl : lv_has ls 1 [(0, .ref h0)] := hl
  refine lv_aload_n hx hb dX5_init_0 rfl (lv_at hl 0 rfl) ?_
  refine W.objInit hx hb hown (hts (.methodLink RX5 1 objectInit) (by decide +kernel)) (hts (.instanceMethod objectInit) (by decide +kernel)) (hts _ (List.mem_cons_of_mem _ (List.mem_append_left _ (List.mem_append_left _ (List.mem_append_left _ (List.mem_append_left _ (List.mem_append_left _ (List.mem_append_left _ (List.mem_append_left _ (List.mem_of_getElem? (i := 2) rfl)))))))))) rfl (by rw [hml]; exact hl.1) rfl dX5_init_1 (Nat.le_of_ble_eq_true rfl) (Nat.le_of_ble_eq_true rfl) ?_
  refine W.eq (g2 := F0 m 4 ls []) rfl ?_
  refine lv_aload_n hx hb dX5_init_4 rfl (lv_at hl 0 rfl) ?_
  refine va_new (ci := 1) (fs := [.null, .null, .int 0, .int 0, .null, .null, .null, .null]) (C := RX1) (T := TX1) (N := 8) hx hb hts (by decide +kernel) tyX1 tyX1_ok hown (hts (.classLink RX5 7 RX1) (by decide +kernel)) (hts (.instantiable RX1 8) (by decide +kernel)) (hts (.initialized RX1) (by decide +kernel)) hK hP hD hS hA rfl (fun j hj => by rcases (show j = 0 ∨ j = 1 ∨ j = 2 ∨ j = 3 ∨ j = 4 ∨ j = 5 ∨ j = 6 ∨ j = 7 by omega) with rfl | rfl | rfl | rfl | rfl | rfl | rfl | rfl <;> rfl) (by decide) (by decide) dX5_init_5 (fun q5 H hP hD hS => ?_)
  refine W.widen (k := 1) (n := 8) (by decide) (by decide) ?_
  refine lv_dup hx hb dX5_init_8 rfl ?_
  have hPc : va_P D vwCl [(q5, .inr (1, [.null, .null, .int 0, .int 0, .null, .null, .null, .null]))] H := P_last (X := ((h0, .inr (5, [.null, .null, .null])) :: [])) hP
  have hFc := A_last (X := ((h0, .inr (5, [.null, .null, .null])) :: [])) (q := q5) (e := .inr (1, [.null, .null, .int 0, .int 0, .null, .null, .null, .null])) hD hS hA
  refine va_callv (va_runIN (As := []) (rest := [.ref q5, .ref h0]) ⟨hx, hb, hml, hown, hts⟩ (c_X1_init l D cI q5 H.size) ⟨va_cnB 0 hts gX5_init_X1_init_n9 rfl rfl rfl hX.2.2.2.2.2 (hts (.initialized RX1) (by decide +kernel)) (by decide +kernel) ⟨Nat.le_of_ble_eq_true rfl, Nat.le_of_ble_eq_true rfl⟩, rfl, hts (.instanceMethod yX1_init) (by decide +kernel)⟩ (PI_S hPc hK hX) rfl rfl hl.1 rfl (lv_room (Nat.le_of_ble_eq_true rfl)) dX5_init_9 ⟨by decide, by decide⟩) hS (fun z _ h => hFc z h) hFc (fun w t H1 locs ht hvm hw hB hsz hk1 hS => ?_)
  obtain ⟨wa, cP, cR⟩ := w
  obtain ⟨hP1, hD1, hK1⟩ := hB
  rw [ht] at hP1
  obtain ⟨hP, hD⟩ := join_last (X := ((h0, .inr (5, [.null, .null, .null])) :: [])) hP hD hk1 hFc hP1 hD1
  have hKP := va_K.moved hvm.symm hK1
  generalize H1 = H at hP hS ⊢
  obtain ⟨qs, qn, hw⟩ := hw
  refine W.widen (k := 142) (n := 1367) (by decide) (by decide) ?_
  obtain ⟨v1, hv1, hv2⟩ : ∃ v1, wa = (q5, .inr (1, v1)) :: wa.tail ∧ v1[0]? = some (.ref qs) ∧ v1[1]? = some (.ref qn) := by
    obtain ⟨w, a, b, c, d, e, s1, s2, s3, s4, h1, h2⟩ := hw
    dsimp only at h1
    exact ⟨_, by rw [h1]; rfl, rfl, rfl⟩
  have hP0 : va_P D vwCl ((h0, .inr (5, [.null, .null, .null])) :: (q5, .inr (1, v1)) :: wa.tail) H := by rw [← hv1]; exact hP
  have hD0 : va_D A ((h0, .inr (5, [.null, .null, .null])) :: (q5, .inr (1, v1)) :: wa.tail) := by rw [← hv1]; exact hD
  refine va_putF (D := D) (ci := 5) (v := .ref q5) (ty := tyX5 0) (C := RX5) (T := TX5) (N := 3) hx hb hts inX5 tyX5 tyX5_ok nmX5 hown hK hP0 hD0 hS 0 rfl rfl 0 (by decide) (hts (.fieldLink RX5 10 "PageMonitor" "machine" "LPageMonitor$Machine;") (by decide +kernel)) (fun _ h9 => h9) rfl hin rfl (by decide +kernel) rfl rfl (Nat.le_of_ble_eq_true rfl) dX5_init_12 (fun H locs hP0 hD0 hS => ?_)
  have hP0 : va_P D vwCl ((h0, .inr (5, [.ref q5, .null, .null])) :: (q5, .inr (1, v1)) :: wa.tail) H := hP0
  have hD0 : va_D A ((h0, .inr (5, [.ref q5, .null, .null])) :: (q5, .inr (1, v1)) :: wa.tail) := hD0
  refine lv_aload_n hx hb dX5_init_15 rfl (lv_at hl 0 rfl) ?_
  refine lv_aload_n hx hb dX5_init_16 rfl (lv_at hl 0 rfl) ?_
  refine va_get (D := D) (ci := 5) (v := .ref q5) (C := RX5) (T := TX5) (N := 3) hx hb hts inX5 hown hK hP0 0 rfl rfl 0 (by decide) (hts (.fieldLink RX5 10 "PageMonitor" "machine" "LPageMonitor$Machine;") (by decide +kernel)) (fun _ h9 => h9) rfl dX5_init_17 ?_
  refine va_get (D := D) (ci := 1) (v := .ref qs) (C := RX1) (T := TX1) (N := 8) hx hb hts (by decide +kernel) hown hK hP0 1 rfl rfl 0 (by decide) (hts (.fieldLink RX5 16 "PageMonitor$Machine" "store" "LPageMonitor$Store;") (by decide +kernel)) (fun _ h9 => h9) hv2.1 dX5_init_20 ?_
  refine va_putF (D := D) (ci := 5) (v := .ref qs) (ty := tyX5 1) (C := RX5) (T := TX5) (N := 3) hx hb hts inX5 tyX5 tyX5_ok nmX5 hown hK hP0 hD0 hS 0 rfl rfl 1 (by decide) (hts (.fieldLink RX5 20 "PageMonitor" "store" "LPageMonitor$Store;") (by decide +kernel)) (fun _ h9 => h9) rfl hin rfl (by decide +kernel) rfl rfl (Nat.le_of_ble_eq_true rfl) dX5_init_23 (fun H locs hP0 hD0 hS => ?_)
  have hP0 : va_P D vwCl ((h0, .inr (5, [.ref q5, .ref qs, .null])) :: (q5, .inr (1, v1)) :: wa.tail) H := hP0
  have hD0 : va_D A ((h0, .inr (5, [.ref q5, .ref qs, .null])) :: (q5, .inr (1, v1)) :: wa.tail) := hD0
  refine lv_aload_n hx hb dX5_init_26 rfl (lv_at hl 0 rfl) ?_
  refine lv_aload_n hx hb dX5_init_27 rfl (lv_at hl 0 rfl) ?_
  refine va_get (D := D) (ci := 5) (v := .ref q5) (C := RX5) (T := TX5) (N := 3) hx hb hts inX5 hown hK hP0 0 rfl rfl 0 (by decide) (hts (.fieldLink RX5 10 "PageMonitor" "machine" "LPageMonitor$Machine;") (by decide +kernel)) (fun _ h9 => h9) rfl dX5_init_28 ?_
  refine va_get (D := D) (ci := 1) (v := .ref qn) (C := RX1) (T := TX1) (N := 8) hx hb hts (by decide +kernel) hown hK hP0 1 rfl rfl 1 (by decide) (hts (.fieldLink RX5 21 "PageMonitor$Machine" "notary" "LPageMonitor$Notary;") (by decide +kernel)) (fun _ h9 => h9) hv2.2 dX5_init_31 ?_
  refine va_putF (D := D) (ci := 5) (v := .ref qn) (ty := tyX5 2) (C := RX5) (T := TX5) (N := 3) hx hb hts inX5 tyX5 tyX5_ok nmX5 hown hK hP0 hD0 hS 0 rfl rfl 2 (by decide) (hts (.fieldLink RX5 25 "PageMonitor" "notary" "LPageMonitor$Notary;") (by decide +kernel)) (fun _ h9 => h9) rfl hin rfl (by decide +kernel) rfl rfl (Nat.le_of_ble_eq_true rfl) dX5_init_34 (fun H locs hP0 hD0 hS => ?_)
  have hP0 : va_P D vwCl ((h0, .inr (5, [.ref q5, .ref qs, .ref qn])) :: (q5, .inr (1, v1)) :: wa.tail) H := hP0
  have hD0 : va_D A ((h0, .inr (5, [.ref q5, .ref qs, .ref qn])) :: (q5, .inr (1, v1)) :: wa.tail) := hD0
  rw [← hv1] at hP0 hD0
  exact W.vret hx hb hr (fun t ht hW => ⟨⟨(_, cP, cR), rfl, ⟨q5, qs, qn, wa, rfl, hw⟩, by rw [ht]; exact hP0, hD0, va_K.moved hW.alike hKP⟩, hS.F ht⟩) hS.2.2 dX5_init_37
