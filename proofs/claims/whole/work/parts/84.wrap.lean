/-! The law's own methods: they call, and catch. -/
theorem mOfWH {l : Launch} {y : MethodName} {ws ws' : List Cond} {rm : Room} {Pc : Array Value → State → Prop} {Qc : Array Value → State → Outcome → State → Prop} {mc ms : Nat} {free : Addr → Prop} {cc : ByteArray} {maxL : Nat} {ret : Option FieldType} {hh : List (Nat × Nat × Nat × Nat)}
    (hy : plainName y.cls = true) (hw : ws = Cond.codeWith y cc maxL ret hh :: ws')
    (body : ∀ p e s m args below meth c s₁, BodyLoose p l y (headSpec ws rm) cc maxL ret e s m args below meth c s₁ → c.maxLocals = maxL → Pc args s →
      W p l e (headSpec ws rm).room s m args below meth c s.heap [] 0 0 (MQ below Qc args s mc ms free) (entryFrame m args maxL)) : Met l y ws rm Pc Qc mc ms free := by
  refine MetFree.of_bodyS (code := cc) (maxLocals := maxL) (ret := ret) hy ?_ ?_
  · intro args s m h hn
    obtain ⟨m9, meth, c, hn9, h1, h2, h3, h4, -, h5, h6, -⟩ := Cond.codeWith_spec (atoms_spec (ws := ws) h _ (by rw [hw]; exact List.mem_cons_self))
    cases hn.symm.trans hn9
    exact ⟨meth, c, h1, h2, h3, h4, h5, h6⟩
  · intro p e s m args below meth c s₁ B hml hP _
    have hh0 : s₁.heap = s.heap := by rw [B.state]; rfl
    obtain ⟨t, a1, o, b1, b2, b3⟩ := body p e s m args below meth c s₁ B hml hP s₁ hh0 (Stand.of_body B)
    exact ⟨t, o, a1, b1, b2, ⟨b3.1, b3.2⟩⟩
theorem key_c1 {M : Mem} {x v : Int32} {res : (Nat × Int32) × Mem} (h : fX5_key M x v = some res) : res.1.1 ≤ 1 := by
  have lp : ∀ (F : Int32 → Mem → Option ((Nat × Int32) × Mem)), (∀ i M r, F i M = some r → r.1.1 ≤ 1) → ∀ n i M r, lp_X5_key_30 F n i M = some r → r.1.1 ≤ 1 := by
    intro F hF n
    induction n with
    | zero => intro i M r h; cases h
    | succ n ih =>
      intro i M r h
      rw [lp_X5_key_30_s] at h
      by_cases c : (20 : Int32) ≤ i
      · rw [if_pos c] at h; exact hF _ _ _ h
      · rw [if_neg c] at h
        obtain ⟨q, -, h⟩ := ob h
        exact ih _ _ _ h
  unfold fX5_key at h
  by_cases c : x < 0
  · rw [if_pos c] at h; cases h; exact Nat.le_refl 1
  · rw [if_neg c] at h
    by_cases c2 : x < (8 : Int32)
    · rw [if_pos c2] at h
      obtain ⟨-, h⟩ := gd_s h
      exact lp _ (fun i M r h => by cases h; exact Nat.zero_le _) _ _ _ _ h
    · rw [if_neg c2] at h; cases h; exact Nat.le_refl 1
theorem poke_c1 {M : Mem} {x y v : Int32} {res : (Nat × Int32) × Mem} (h : fX5_poke M x y v = some res) : res.1.1 ≤ 1 := by
  unfold fX5_poke at h
  obtain ⟨q1, -, h⟩ := ob h
  by_cases c : q1.1 = 0
  · rw [if_pos c] at h; cases h; exact Nat.le_refl 1
  · rw [if_neg c] at h
    obtain ⟨q2, -, h⟩ := ob h
    by_cases c : q2.1 = 0
    · rw [if_pos c] at h; cases h; exact Nat.le_refl 1
    · rw [if_neg c] at h
      obtain ⟨q3, -, h⟩ := ob h
      obtain ⟨-, h⟩ := gd_s h
      obtain ⟨-, h⟩ := gd_s h
      cases h
      exact Nat.zero_le _
theorem peek_c1 {M : Mem} {x y : Int32} {res : (Nat × Int32) × Mem} (h : fX5_peek M x y = some res) : res.1.1 ≤ 1 := by
  unfold fX5_peek at h
  obtain ⟨q1, -, h⟩ := ob h
  by_cases c : q1.1 = 0
  · rw [if_pos c] at h; cases h; exact Nat.le_refl 1
  · rw [if_neg c] at h
    obtain ⟨q2, -, h⟩ := ob h
    by_cases c : q2.1 = 0
    · rw [if_pos c] at h; cases h; exact Nat.le_refl 1
    · rw [if_neg c] at h
      obtain ⟨q3, -, h⟩ := ob h
      obtain ⟨-, h⟩ := gd_s h
      cases h
      exact Nat.zero_le _
def XW (A : Nat → Prop) : Xt := fun U H => XT A U H ∧ va_Nc exB exA U ∧ va_Nc exC exA U
theorem XWo (A : Nat → Prop) : XtOk A (XW A) := fun u U H hW hq h => ⟨XTo A u U H hW hq h.1, va_Nc.moved hW.alike h.2.1, va_Nc.moved hW.alike h.2.2⟩
theorem XWb (A : Nat → Prop) : XtBl (XW A) := fun U g mk a h => ⟨XTb A U g mk a h.1, va_Nc.moved (u := U) (U := U.calling g mk a) (Vm.Alike.refl U.vm) h.2.1, va_Nc.moved (u := U) (U := U.calling g mk a) (Vm.Alike.refl U.vm) h.2.2⟩
section XR
variable {p : Program} {l : Launch} {e : Env} {R : Room} {s : State} {m : MethodId} {args : Array Value} {below : List Frame} {meth : Method} {c : Code} {H : Heap} {locs : List Loc} {cells slots : Nat} {Q : State → Prop}
variable {cc : ByteArray} {pc : Nat} {ls : Array Slot} {rest : List Value} {D : va_G} {cl : List vw_C} {A : Nat → Prop} {tys : List (ClassId × FieldType)} {H0 : Heap} {N : Nat} {ad : Nat → Nat} {sp : Shp} {M : Mem}
theorem x_call {A0 : Nat → Prop} {E2 : String} {void : Bool} {res : (Nat × Int32) × Mem} {st0 : List Value} {a : Array Value} (hr : vx_Run p l e R s m args below meth c H locs cells slots 1 6 (F0 m pc ls st0) rest (Qt D cl N ad sp A void res a) (Xx D cl N ad sp A E2 res) A) (hS : va_S A0 H0 H locs) (hA : ∀ q, A q → A0 q)
    (kx : ∀ (E : String) (ce : Cell) (q9 : Addr) (H1 : Heap) (locs1 : List Loc), ((res.1.1 = 1 ∧ E = exA) ∨ (res.1.1 = 2 ∧ E = E2)) → va_P D cl (gw N ad sp res.2) H1 → (∀ q : Nat, q < H.size → ¬ A q → H1[q]? = H[q]?) → va_S A0 H0 H1 locs1 → H1[q9]? = some ce → ce.vm = .none → s.vm.findClass E = some ce.cls → vx_W p l e R s m args below meth c H1 locs1 (cells + 1) (slots + 6) Q (F0 m pc ls rest) q9)
    (kk : ∀ (H1 : Heap) (locs1 : List Loc), res.1.1 = 0 → va_P D cl (gw N ad sp res.2) H1 → (∀ q : Nat, q < H.size → ¬ A q → H1[q]? = H[q]?) → va_S A0 H0 H1 locs1 → W p l e R s m args below meth c H1 locs1 (cells + 1) (slots + 6) Q (F0 m (pc + 3) ls ((if void = true then none else some (Value.int res.1.2)).toList ++ rest))) : W p l e R s m args below meth c H locs cells slots Q (F0 m pc ls st0) := by
  intro T hT X
  rcases hr T hT X with ⟨v, st₀, t, T', L, h0, X', hL, e1, e2, ⟨hc, hv, hp, hF⟩, st⟩ | ⟨q, st₀, t, T', L, E, ce, h0, X', hL, e1, e2, ⟨hc, hp, hF⟩, hce, hcv, hcl, st⟩
  · cases hv
    obtain ⟨k1, k2, k3⟩ := vx_keep h0 e1 hS (fun q _ h => hA q h) hA hL hF
    obtain ⟨t2, a1, b1⟩ := kk T'.heap (locs ++ L) hc (by rw [e1]; exact hp) k2 k3 T' rfl X'
    exact ⟨t2, st t2 a1, b1⟩
  · obtain ⟨k1, k2, k3⟩ := vx_keep h0 e1 hS (fun q _ h => hA q h) hA hL hF
    obtain ⟨t2, a1, b1⟩ := kx E ce q T'.heap (locs ++ L) hc (by rw [e1]; exact hp) k2 k3 (by rw [e1]; exact hce) hcv hcl T' rfl X'
    exact ⟨t2, st.trans a1, b1⟩
theorem P_one {D : va_G} {cl : List vw_C} {x : Nat × va_E} {L : va_W} {H : Heap} (h : va_P D cl (x :: L) H) : va_P D cl [x] H := fun k q hq => by
  have hk := (List.getElem?_eq_some_iff.mp hq).1
  simp at hk
  subst hk
  exact h 0 q hq
theorem P_tl {D : va_G} {cl : List vw_C} {x : Nat × va_E} {L : va_W} {H : Heap} (h : va_P D cl (x :: L) H) : va_P D cl L H := fun k q hq => h (k + 1) q hq
theorem P_keep1 {D : va_G} {cl : List vw_C} {a : Nat} {E : va_E} {H H1 : Heap} (h : va_P D cl [(a, E)] H) (hk : H1[a]? = H[a]?) : va_P D cl [(a, E)] H1 := h.kept (fun k q hq => by
  have hk' := (List.getElem?_eq_some_iff.mp hq).1
  simp at hk'
  subst hk'
  cases hq
  exact hk)
theorem o_last {cL : ClassId} {qo : Nat} {f : Nat → Int64} (hexec : p.tables.exec = Jvm.exec) (hb : c.code = cc) (hKo : va_K D cl [(cL, .long)] s) (hP : va_P D cl (gw N ad sp M) H) (hPo : va_P D cl [(qo, .inl (cL, 1, .inr (.inl f)))] H) (hI : gInj N ad) (hA : ∀ k, k < N → A (ad k)) (hqo : A qo) (hne : ∀ k, k < N → ad k ≠ qo) (hS : va_S A H0 H locs) {x : Int64} (hdg : decode cc pc = .ok (.lastore, 1))
    (kk : ∀ (H1 : Heap) (locs1 : List Loc), va_P D cl (gw N ad sp M) H1 → va_P D cl [(qo, .inl (cL, 1, .inr (.inl (vp_updL f 0 x))))] H1 → va_S A H0 H1 locs1 → W p l e R s m args below meth c H1 locs1 cells slots Q (F0 m (pc + 1) ls rest)) : W p l e R s m args below meth c H locs cells slots Q (F0 m pc ls (.long x :: .int 0 :: .ref qo :: rest)) := by
  have hD : va_D A ([(qo, .inl (cL, 1, .inr (.inl f)))] ++ gw N ad sp M) := va_D.app ⟨fun i j y z hi hj _ => by
      have h1 := (List.getElem?_eq_some_iff.mp hi).1
      have h2 := (List.getElem?_eq_some_iff.mp hj).1
      simp at h1 h2
      omega, fun k q hq => by
      have hk := (List.getElem?_eq_some_iff.mp hq).1
      simp at hk
      subst hk
      cases hq
      exact hqo⟩ (gw_D hI hA) (fun i j y z hi hj h => by
      have h1 := (List.getElem?_eq_some_iff.mp hi).1
      simp at h1
      subst h1
      cases hi
      have h2 := gw_lt hj
      rw [gw_at h2] at hj
      cases hj
      exact hne j h2 h.symm)
  refine va_last hexec hb hKo (hPo.app hP) hD hS 0 0 rfl rfl (by unfold vp_in; decide) hdg (fun H1 locs1 hP1 hD1 hS1 => kk H1 locs1 (P_tl hP1) (P_one hP1) hS1)
end XR
/-- the answer goes into the law's cell qo -/
def PW (D : va_G) (ad : Nat → Nat) (cI cZ cP cR cL : ClassId) (A : Nat → Prop) (qo : Nat) (f : Nat → Int64) (M : Mem) (U : State) : Prop := Pf D vwCl (tysW cI cZ cP cR) 143 ad (spC ad cI cP cR) (XW A) M U ∧ va_P D vwCl [(qo, .inl (cL, 1, .inr (.inl f)))] U.heap ∧ va_K D vwCl [(cL, .long)] U
def QW (D : va_G) (ad : Nat → Nat) (cI cP cR cL : ClassId) (A : Nat → Prop) (qo : Nat) (res : (Nat × Int32) × Mem) : Array Value → State → Outcome → State → Prop := fun _ st oc t => oc = .returned (some (.int (nI res.1.1))) ∧ va_P D vwCl (gw 143 ad (spC ad cI cP cR) res.2) t.heap ∧ (∃ f : Nat → Int64, (res.1.1 = 0 → f 0 = res.1.2.toInt64) ∧ va_P D vwCl [(qo, .inl (cL, 1, .inr (.inl f)))] t.heap) ∧ va_F (fun q => A q ∨ q = qo) st t
set_option maxHeartbeats 4000000 in
set_option maxRecDepth 100000 in
theorem c_L_key {l : Launch} {D : va_G} {ad : Nat → Nat} {cI cZ cP cR : ClassId} {A : Nat → Prop} {M : Mem} {p0 p1 : Int32} {res : (Nat × Int32) × Mem} (hI : gInj 143 ad) (hA : ∀ k, k < 143 → A (ad k)) (hnt : l.stackTraces = false) (hf : fX5_key M p0 p1 = some res) : Met l yL_key wsL_key { frames := 7, cells := 1, slots := 6, locals := 300 } (va_Pc [.ref (ad 0), .int p0, .int p1] (Pf D vwCl (tysW cI cZ cP cR) 143 ad (spC ad cI cP cR) (XW A) M)) (Qf D vwCl 143 ad (spC ad cI cP cR) A (some (.int (nI res.1.1))) res.2) 1 6 A := by
  have hc1 := key_c1 hf
  refine mOfWH (cc := cL_key) (maxL := 4) (ret := some .int) (by decide) rfl ?_
  intro p e s m args below meth c s₁ B hml hv
  obtain ⟨rfl, hP, hK, hX⟩ := hv
  have hx := B.exec
  have hb := B.bytes
  have hr := B.returns
  have hts := atoms_spec (ws := wsL_key) B.pre
  have hown : s.vm.findClass RL = some m.cls := findClass_of_methodNamed B.named
  have hlocks := B.notSynchronized
  have htb := vx_table (x := yL_key) B (hts _ List.mem_cons_self)
  have hl := lv_entry ([.ref (ad 0), .int p0, .int p1]) (n := 4) (Nat.le_of_ble_eq_true rfl)
  rw [lg_entry_eq]
  generalize (lg_sl ([.ref (ad 0), .int p0, .int p1]) ++ List.replicate (4 - (lg_sl ([.ref (ad 0), .int p0, .int p1])).length) Slot.unset).toArray = ls at hl ⊢
  have hl : lv_has ls 4 [(0, .ref (ad 0)), (1, .int p0), (2, .int p1)] := hl
  have hS : va_S A s.heap s.heap [] := va_S.rf
  refine lv_aload_n hx hb dL_key_0 rfl (lv_at hl 0 rfl) ?_
  refine lv_iload_n hx hb dL_key_1 rfl (lv_at hl 1 rfl) ?_
  refine lv_iload_n hx hb dL_key_2 rfl (lv_at hl 2 rfl) ?_
  refine x_call (vx_runV (As := [.int p0, .int p1]) (rest := []) ⟨hx, hb, hml, hown, hts⟩ (c_X5_key hI hA hnt hf) (cwV 2 hts gL_key_X5_key rfl rfl rfl (by decide +kernel) ⟨Nat.le_of_ble_eq_true rfl, Nat.le_of_ble_eq_true rfl⟩) (Pf_V (XTb A) (XTo A) hX.1 hK hP hS obX5 rfl) rfl rfl hl.1 rfl (lv_room (Nat.le_of_ble_eq_true rfl)) dL_key_3 ⟨by decide, by decide⟩) hS (fun _ h => h) (fun E ce q9 H1 locs1 hc hP hkp hS h9 hv9 hcl => ?_) (fun H1 locs1 hc hP hkp hS => ?_)
  · have hE : res.1.1 = 1 ∧ E = exA := by
      rcases hc with hc | hc
      · exact hc
      · exact absurd hc.1 (by omega)
    obtain ⟨e1, rfl⟩ := hE
    refine vx_catch (own := RL) (name := exA) hown [] ⟨0, 6, 9, 13⟩ [] (by rw [htb]; rfl) (fun z hz => by cases hz) (by decide) (by decide) (hts (.classLink RL 13 "java/lang/IndexOutOfBoundsException") (by decide +kernel)) (va_Nw.use rfl (hX.1.2.2.2 (.castable exA exA) (by decide))) h9 hv9 hcl ?_
    refine lv_astore_n (lv' := [(3, .ref q9), (0, .ref (ad 0)), (1, .int p0), (2, .int p1)]) hx hb dL_key_9 rfl hl (by decide) rfl (fun ls hl => ?_)
    refine lv_iconst (v := (1 : Int32)) hx hb dL_key_10 (by decide) ?_
    rw [e1]
    exact W.iret hx hb hr (fun t ht hW => ⟨rfl, by rw [ht]; exact hP, hS.F ht⟩) hS.2.2 dL_key_11 hlocks
  · refine lv_goto (tgt := 12) hx hb dL_key_6 (by decide) ?_
    refine lv_iconst (v := (0 : Int32)) hx hb dL_key_12 (by decide) ?_
    rw [hc]
    exact W.iret hx hb hr (fun t ht hW => ⟨rfl, by rw [ht]; exact hP, hS.F ht⟩) hS.2.2 dL_key_13 hlocks
set_option maxHeartbeats 4000000 in
set_option maxRecDepth 100000 in
theorem c_L_poke {l : Launch} {D : va_G} {ad : Nat → Nat} {cI cZ cP cR : ClassId} {A : Nat → Prop} {M : Mem} {cL : ClassId} {qo : Nat} {f : Nat → Int64} {p0 p1 p2 : Int32} {res : (Nat × Int32) × Mem} (hI : gInj 143 ad) (hA : ∀ k, k < 143 → A (ad k)) (hqo : ¬ A qo) (hnt : l.stackTraces = false) (hf : fX5_poke M p0 p1 p2 = some res) : Met l yL_poke wsL_poke { frames := 7, cells := 1, slots := 6, locals := 300 } (va_Pc [.ref (ad 0), .int p0, .int p1, .int p2, .ref qo] (PW D ad cI cZ cP cR cL A qo f M)) (QW D ad cI cP cR cL A qo res) 1 6 (fun q => A q ∨ q = qo) := by
  have hc1 := poke_c1 hf
  refine mOfWH (cc := cL_poke) (maxL := 6) (ret := some .int) (by decide) rfl ?_
  intro p e s m args below meth c s₁ B hml hv
  obtain ⟨rfl, ⟨hP, hK, hX⟩, hPo, hKo⟩ := hv
  have hx := B.exec
  have hb := B.bytes
  have hr := B.returns
  have hts := atoms_spec (ws := wsL_poke) B.pre
  have hown : s.vm.findClass RL = some m.cls := findClass_of_methodNamed B.named
  have hlocks := B.notSynchronized
  have htb := vx_table (x := yL_poke) B (hts _ List.mem_cons_self)
  have hl := lv_entry ([.ref (ad 0), .int p0, .int p1, .int p2, .ref qo]) (n := 6) (Nat.le_of_ble_eq_true rfl)
  rw [lg_entry_eq]
  generalize (lg_sl ([.ref (ad 0), .int p0, .int p1, .int p2, .ref qo]) ++ List.replicate (6 - (lg_sl ([.ref (ad 0), .int p0, .int p1, .int p2, .ref qo])).length) Slot.unset).toArray = ls at hl ⊢
  have hl : lv_has ls 6 [(0, .ref (ad 0)), (1, .int p0), (2, .int p1), (3, .int p2), (4, .ref qo)] := hl
  have hS0 : va_S A s.heap s.heap [] := va_S.rf
  have hS : va_S (fun q => A q ∨ q = qo) s.heap s.heap [] := va_S.rf
  have hlo : qo < s.heap.size := (hPo 0 _ rfl).lt
  refine lv_aload hx hb dL_poke_0 (lv_at hl 4 rfl) ?_
  refine lv_iconst (v := (0 : Int32)) hx hb dL_poke_2 (by decide) ?_
  refine lv_aload_n hx hb dL_poke_3 rfl (lv_at hl 0 rfl) ?_
  refine lv_iload_n hx hb dL_poke_4 rfl (lv_at hl 1 rfl) ?_
  refine lv_iload_n hx hb dL_poke_5 rfl (lv_at hl 2 rfl) ?_
  refine lv_iload_n hx hb dL_poke_6 rfl (lv_at hl 3 rfl) ?_
  refine x_call (vx_runV (As := [.int p0, .int p1, .int p2]) (rest := [.int 0, .ref qo]) ⟨hx, hb, hml, hown, hts⟩ (c_X5_poke hI hA hnt hf) (cwV 3 hts gL_poke_X5_poke rfl rfl rfl (by decide +kernel) ⟨Nat.le_of_ble_eq_true rfl, Nat.le_of_ble_eq_true rfl⟩) (Pf_V (XTb A) (XTo A) hX.1 hK hP hS0 obX5 rfl) rfl rfl hl.1 rfl (lv_room (Nat.le_of_ble_eq_true rfl)) dL_poke_7 ⟨by decide, by decide⟩) hS (fun _ h => Or.inl h) (fun E ce q9 H1 locs1 hc hP hkp hS h9 hv9 hcl => ?_) (fun H1 locs1 hc hP hkp hS => ?_)
  · have hPo1 : va_P D vwCl [(qo, .inl (cL, 1, .inr (.inl f)))] H1 := P_keep1 hPo (hkp qo hlo hqo)
    have hE : res.1.1 = 1 ∧ E = exA := by
      rcases hc with hc | hc
      · exact hc
      · exact absurd hc.1 (by omega)
    obtain ⟨e1, rfl⟩ := hE
    refine vx_catch (own := RL) (name := exA) hown [] ⟨0, 12, 15, 13⟩ [] (by rw [htb]; rfl) (fun z hz => by cases hz) (by decide) (by decide) (hts (.classLink RL 13 "java/lang/IndexOutOfBoundsException") (by decide +kernel)) (va_Nw.use rfl (hX.1.2.2.2 (.castable exA exA) (by decide))) h9 hv9 hcl ?_
    refine lv_astore (lv' := [(5, .ref q9), (0, .ref (ad 0)), (1, .int p0), (2, .int p1), (3, .int p2), (4, .ref qo)]) hx hb dL_poke_15 hl (by decide) rfl (fun ls hl => ?_)
    refine lv_iconst (v := (1 : Int32)) hx hb dL_poke_17 (by decide) ?_
    exact W.iret hx hb hr (fun t ht hW => ⟨by rw [e1]; rfl, by rw [ht]; exact hP, ⟨f, fun h => absurd (h.symm.trans e1) (by decide), by rw [ht]; exact hPo1⟩, hS.F ht⟩) hS.2.2 dL_poke_18 hlocks
  · have hPo1 : va_P D vwCl [(qo, .inl (cL, 1, .inr (.inl f)))] H1 := P_keep1 hPo (hkp qo hlo hqo)
    refine lv_i2l hx hb dL_poke_10 rfl ?_
    refine o_last hx hb hKo hP hPo1 hI (fun k hk => Or.inl (hA k hk)) (Or.inr rfl) (fun k hk h => hqo (h ▸ hA k hk)) hS dL_poke_11 (fun H2 locs2 hP2 hPo2 hS2 => ?_)
    refine lv_goto (tgt := 19) hx hb dL_poke_12 (by decide) ?_
    refine lv_iconst (v := (0 : Int32)) hx hb dL_poke_19 (by decide) ?_
    exact W.iret hx hb hr (fun t ht hW => ⟨by rw [hc]; rfl, by rw [ht]; exact hP2, ⟨_, fun _ => rfl, by rw [ht]; exact hPo2⟩, hS2.F ht⟩) hS2.2.2 dL_poke_20 hlocks
set_option maxHeartbeats 4000000 in
set_option maxRecDepth 100000 in
theorem c_L_peek {l : Launch} {D : va_G} {ad : Nat → Nat} {cI cZ cP cR : ClassId} {A : Nat → Prop} {M : Mem} {cL : ClassId} {qo : Nat} {f : Nat → Int64} {p0 p1 : Int32} {res : (Nat × Int32) × Mem} (hI : gInj 143 ad) (hA : ∀ k, k < 143 → A (ad k)) (hqo : ¬ A qo) (hnt : l.stackTraces = false) (hf : fX5_peek M p0 p1 = some res) : Met l yL_peek wsL_peek { frames := 7, cells := 1, slots := 6, locals := 300 } (va_Pc [.ref (ad 0), .int p0, .int p1, .ref qo] (PW D ad cI cZ cP cR cL A qo f M)) (QW D ad cI cP cR cL A qo res) 1 6 (fun q => A q ∨ q = qo) := by
  have hc1 := peek_c1 hf
  refine mOfWH (cc := cL_peek) (maxL := 5) (ret := some .int) (by decide) rfl ?_
  intro p e s m args below meth c s₁ B hml hv
  obtain ⟨rfl, ⟨hP, hK, hX⟩, hPo, hKo⟩ := hv
  have hx := B.exec
  have hb := B.bytes
  have hr := B.returns
  have hts := atoms_spec (ws := wsL_peek) B.pre
  have hown : s.vm.findClass RL = some m.cls := findClass_of_methodNamed B.named
  have hlocks := B.notSynchronized
  have htb := vx_table (x := yL_peek) B (hts _ List.mem_cons_self)
  have hl := lv_entry ([.ref (ad 0), .int p0, .int p1, .ref qo]) (n := 5) (Nat.le_of_ble_eq_true rfl)
  rw [lg_entry_eq]
  generalize (lg_sl ([.ref (ad 0), .int p0, .int p1, .ref qo]) ++ List.replicate (5 - (lg_sl ([.ref (ad 0), .int p0, .int p1, .ref qo])).length) Slot.unset).toArray = ls at hl ⊢
  have hl : lv_has ls 5 [(0, .ref (ad 0)), (1, .int p0), (2, .int p1), (3, .ref qo)] := hl
  have hS0 : va_S A s.heap s.heap [] := va_S.rf
  have hS : va_S (fun q => A q ∨ q = qo) s.heap s.heap [] := va_S.rf
  have hlo : qo < s.heap.size := (hPo 0 _ rfl).lt
  refine lv_aload_n hx hb dL_peek_0 rfl (lv_at hl 3 rfl) ?_
  refine lv_iconst (v := (0 : Int32)) hx hb dL_peek_1 (by decide) ?_
  refine lv_aload_n hx hb dL_peek_2 rfl (lv_at hl 0 rfl) ?_
  refine lv_iload_n hx hb dL_peek_3 rfl (lv_at hl 1 rfl) ?_
  refine lv_iload_n hx hb dL_peek_4 rfl (lv_at hl 2 rfl) ?_
  refine x_call (vx_runV (As := [.int p0, .int p1]) (rest := [.int 0, .ref qo]) ⟨hx, hb, hml, hown, hts⟩ (c_X5_peek hI hA hnt hf) (cwV 2 hts gL_peek_X5_peek rfl rfl rfl (by decide +kernel) ⟨Nat.le_of_ble_eq_true rfl, Nat.le_of_ble_eq_true rfl⟩) (Pf_V (XTb A) (XTo A) hX.1 hK hP hS0 obX5 rfl) rfl rfl hl.1 rfl (lv_room (Nat.le_of_ble_eq_true rfl)) dL_peek_5 ⟨by decide, by decide⟩) hS (fun _ h => Or.inl h) (fun E ce q9 H1 locs1 hc hP hkp hS h9 hv9 hcl => ?_) (fun H1 locs1 hc hP hkp hS => ?_)
  · have hPo1 : va_P D vwCl [(qo, .inl (cL, 1, .inr (.inl f)))] H1 := P_keep1 hPo (hkp qo hlo hqo)
    have hE : res.1.1 = 1 ∧ E = exA := by
      rcases hc with hc | hc
      · exact hc
      · exact absurd hc.1 (by omega)
    obtain ⟨e1, rfl⟩ := hE
    refine vx_catch (own := RL) (name := exA) hown [] ⟨0, 10, 13, 13⟩ [] (by rw [htb]; rfl) (fun z hz => by cases hz) (by decide) (by decide) (hts (.classLink RL 13 "java/lang/IndexOutOfBoundsException") (by decide +kernel)) (va_Nw.use rfl (hX.1.2.2.2 (.castable exA exA) (by decide))) h9 hv9 hcl ?_
    refine lv_astore (lv' := [(4, .ref q9), (0, .ref (ad 0)), (1, .int p0), (2, .int p1), (3, .ref qo)]) hx hb dL_peek_13 hl (by decide) rfl (fun ls hl => ?_)
    refine lv_iconst (v := (1 : Int32)) hx hb dL_peek_15 (by decide) ?_
    exact W.iret hx hb hr (fun t ht hW => ⟨by rw [e1]; rfl, by rw [ht]; exact hP, ⟨f, fun h => absurd (h.symm.trans e1) (by decide), by rw [ht]; exact hPo1⟩, hS.F ht⟩) hS.2.2 dL_peek_16 hlocks
  · have hPo1 : va_P D vwCl [(qo, .inl (cL, 1, .inr (.inl f)))] H1 := P_keep1 hPo (hkp qo hlo hqo)
    refine lv_i2l hx hb dL_peek_8 rfl ?_
    refine o_last hx hb hKo hP hPo1 hI (fun k hk => Or.inl (hA k hk)) (Or.inr rfl) (fun k hk h => hqo (h ▸ hA k hk)) hS dL_peek_9 (fun H2 locs2 hP2 hPo2 hS2 => ?_)
    refine lv_goto (tgt := 17) hx hb dL_peek_10 (by decide) ?_
    refine lv_iconst (v := (0 : Int32)) hx hb dL_peek_17 (by decide) ?_
    exact W.iret hx hb hr (fun t ht hW => ⟨by rw [hc]; rfl, by rw [ht]; exact hP2, ⟨_, fun _ => rfl, by rw [ht]; exact hPo2⟩, hS2.F ht⟩) hS2.2.2 dL_peek_18 hlocks
set_option maxHeartbeats 4000000 in
set_option maxRecDepth 100000 in
theorem c_L_told {l : Launch} {D : va_G} {ad : Nat → Nat} {cI cZ cP cR : ClassId} {A : Nat → Prop} {M : Mem} {cL : ClassId} {qo : Nat} {f : Nat → Int64} {p0 p1 : Int32} {res : (Nat × Int32) × Mem} (hI : gInj 143 ad) (hA : ∀ k, k < 143 → A (ad k)) (hqo : ¬ A qo) (hnt : l.stackTraces = false) (hf : fX5_told M p0 p1 = some res) : Met l yL_told wsL_told { frames := 7, cells := 1, slots := 6, locals := 300 } (va_Pc [.ref (ad 0), .int p0, .int p1, .ref qo] (PW D ad cI cZ cP cR cL A qo f M)) (QW D ad cI cP cR cL A qo res) 1 6 (fun q => A q ∨ q = qo) := by
  refine mOfWH (cc := cL_told) (maxL := 5) (ret := some .int) (by decide) rfl ?_
  intro p e s m args below meth c s₁ B hml hv
  obtain ⟨rfl, ⟨hP, hK, hX⟩, hPo, hKo⟩ := hv
  have hx := B.exec
  have hb := B.bytes
  have hr := B.returns
  have hts := atoms_spec (ws := wsL_told) B.pre
  have hown : s.vm.findClass RL = some m.cls := findClass_of_methodNamed B.named
  have hlocks := B.notSynchronized
  have htb := vx_table (x := yL_told) B (hts _ List.mem_cons_self)
  have hl := lv_entry ([.ref (ad 0), .int p0, .int p1, .ref qo]) (n := 5) (Nat.le_of_ble_eq_true rfl)
  rw [lg_entry_eq]
  generalize (lg_sl ([.ref (ad 0), .int p0, .int p1, .ref qo]) ++ List.replicate (5 - (lg_sl ([.ref (ad 0), .int p0, .int p1, .ref qo])).length) Slot.unset).toArray = ls at hl ⊢
  have hl : lv_has ls 5 [(0, .ref (ad 0)), (1, .int p0), (2, .int p1), (3, .ref qo)] := hl
  have hS0 : va_S A s.heap s.heap [] := va_S.rf
  have hS : va_S (fun q => A q ∨ q = qo) s.heap s.heap [] := va_S.rf
  have hlo : qo < s.heap.size := (hPo 0 _ rfl).lt
  refine lv_aload_n hx hb dL_told_0 rfl (lv_at hl 3 rfl) ?_
  refine lv_iconst (v := (0 : Int32)) hx hb dL_told_1 (by decide) ?_
  refine lv_aload_n hx hb dL_told_2 rfl (lv_at hl 0 rfl) ?_
  refine lv_iload_n hx hb dL_told_3 rfl (lv_at hl 1 rfl) ?_
  refine lv_iload_n hx hb dL_told_4 rfl (lv_at hl 2 rfl) ?_
  refine x_call (vx_runV (As := [.int p0, .int p1]) (rest := [.int 0, .ref qo]) ⟨hx, hb, hml, hown, hts⟩ (c_X5_told hI hA hnt hf) (cwV 2 hts gL_told_X5_told rfl rfl rfl (by decide +kernel) ⟨Nat.le_of_ble_eq_true rfl, Nat.le_of_ble_eq_true rfl⟩) (Pf_V (XTb A) (XTo A) hX.1 hK hP hS0 obX5 rfl) rfl rfl hl.1 rfl (lv_room (Nat.le_of_ble_eq_true rfl)) dL_told_5 ⟨by decide, by decide⟩) hS (fun _ h => Or.inl h) (fun E ce q9 H1 locs1 hc hP hkp hS h9 hv9 hcl => ?_) (fun H1 locs1 hc hP hkp hS => ?_)
  · have hPo1 : va_P D vwCl [(qo, .inl (cL, 1, .inr (.inl f)))] H1 := P_keep1 hPo (hkp qo hlo hqo)
    rcases hc with ⟨e1, rfl⟩ | ⟨e1, rfl⟩
    · refine vx_catch (own := RL) (name := exA) hown [] ⟨0, 10, 13, 13⟩ [⟨0, 10, 17, 26⟩] (by rw [htb]; rfl) (fun z hz => by cases hz) (by decide) (by decide) (hts (.classLink RL 13 "java/lang/IndexOutOfBoundsException") (by decide +kernel)) (va_Nw.use rfl (hX.1.2.2.2 (.castable exA exA) (by decide))) h9 hv9 hcl ?_
      refine lv_astore (lv' := [(4, .ref q9), (0, .ref (ad 0)), (1, .int p0), (2, .int p1), (3, .ref qo)]) hx hb dL_told_13 hl (by decide) rfl (fun ls hl => ?_)
      refine lv_iconst (v := (1 : Int32)) hx hb dL_told_15 (by decide) ?_
      exact W.iret hx hb hr (fun t ht hW => ⟨by rw [e1]; rfl, by rw [ht]; exact hP, ⟨f, fun h => absurd (h.symm.trans e1) (by decide), by rw [ht]; exact hPo1⟩, hS.F ht⟩) hS.2.2 dL_told_16 hlocks
    · refine vx_catch (own := RL) (name := exB) hown [⟨0, 10, 13, 13⟩] ⟨0, 10, 17, 26⟩ [] (by rw [htb]; rfl) (fun z hz => by
        rw [List.mem_singleton] at hz
        subst hz
        exact Or.inr ⟨by decide, exA, hts (.classLink RL 13 "java/lang/IndexOutOfBoundsException") (by decide +kernel), hX.2.1⟩) (by decide) (by decide) (hts (.classLink RL 26 "java/lang/IllegalArgumentException") (by decide +kernel)) (va_Nw.use rfl (hX.1.2.2.2 (.castable exB exB) (by decide))) h9 hv9 hcl ?_
      refine lv_astore (lv' := [(4, .ref q9), (0, .ref (ad 0)), (1, .int p0), (2, .int p1), (3, .ref qo)]) hx hb dL_told_17 hl (by decide) rfl (fun ls hl => ?_)
      refine lv_iconst (v := (2 : Int32)) hx hb dL_told_19 (by decide) ?_
      exact W.iret hx hb hr (fun t ht hW => ⟨by rw [e1]; rfl, by rw [ht]; exact hP, ⟨f, fun h => absurd (h.symm.trans e1) (by decide), by rw [ht]; exact hPo1⟩, hS.F ht⟩) hS.2.2 dL_told_20 hlocks
  · have hPo1 : va_P D vwCl [(qo, .inl (cL, 1, .inr (.inl f)))] H1 := P_keep1 hPo (hkp qo hlo hqo)
    refine lv_i2l hx hb dL_told_8 rfl ?_
    refine o_last hx hb hKo hP hPo1 hI (fun k hk => Or.inl (hA k hk)) (Or.inr rfl) (fun k hk h => hqo (h ▸ hA k hk)) hS dL_told_9 (fun H2 locs2 hP2 hPo2 hS2 => ?_)
    refine lv_goto (tgt := 21) hx hb dL_told_10 (by decide) ?_
    refine lv_iconst (v := (0 : Int32)) hx hb dL_told_21 (by decide) ?_
    exact W.iret hx hb hr (fun t ht hW => ⟨by rw [hc]; rfl, by rw [ht]; exact hP2, ⟨_, fun _ => rfl, by rw [ht]; exact hPo2⟩, hS2.F ht⟩) hS2.2.2 dL_told_22 hlocks
set_option maxHeartbeats 4000000 in
set_option maxRecDepth 100000 in
theorem c_L_measure {l : Launch} {D : va_G} {ad : Nat → Nat} {cI cZ cP cR : ClassId} {A : Nat → Prop} {M : Mem} {cL : ClassId} {qo : Nat} {f : Nat → Int64} {p0 p1 : Int32} {res : (Nat × Int32) × Mem} (hI : gInj 143 ad) (hA : ∀ k, k < 143 → A (ad k)) (hqo : ¬ A qo) (hnt : l.stackTraces = false) (hf : fX5_measure M p0 p1 = some res) : Met l yL_measure wsL_measure { frames := 7, cells := 1, slots := 6, locals := 300 } (va_Pc [.ref (ad 0), .int p0, .int p1, .ref qo] (PW D ad cI cZ cP cR cL A qo f M)) (QW D ad cI cP cR cL A qo res) 1 6 (fun q => A q ∨ q = qo) := by
  refine mOfWH (cc := cL_measure) (maxL := 5) (ret := some .int) (by decide) rfl ?_
  intro p e s m args below meth c s₁ B hml hv
  obtain ⟨rfl, ⟨hP, hK, hX⟩, hPo, hKo⟩ := hv
  have hx := B.exec
  have hb := B.bytes
  have hr := B.returns
  have hts := atoms_spec (ws := wsL_measure) B.pre
  have hown : s.vm.findClass RL = some m.cls := findClass_of_methodNamed B.named
  have hlocks := B.notSynchronized
  have htb := vx_table (x := yL_measure) B (hts _ List.mem_cons_self)
  have hl := lv_entry ([.ref (ad 0), .int p0, .int p1, .ref qo]) (n := 5) (Nat.le_of_ble_eq_true rfl)
  rw [lg_entry_eq]
  generalize (lg_sl ([.ref (ad 0), .int p0, .int p1, .ref qo]) ++ List.replicate (5 - (lg_sl ([.ref (ad 0), .int p0, .int p1, .ref qo])).length) Slot.unset).toArray = ls at hl ⊢
  have hl : lv_has ls 5 [(0, .ref (ad 0)), (1, .int p0), (2, .int p1), (3, .ref qo)] := hl
  have hS0 : va_S A s.heap s.heap [] := va_S.rf
  have hS : va_S (fun q => A q ∨ q = qo) s.heap s.heap [] := va_S.rf
  have hlo : qo < s.heap.size := (hPo 0 _ rfl).lt
  refine lv_aload_n hx hb dL_measure_0 rfl (lv_at hl 3 rfl) ?_
  refine lv_iconst (v := (0 : Int32)) hx hb dL_measure_1 (by decide) ?_
  refine lv_aload_n hx hb dL_measure_2 rfl (lv_at hl 0 rfl) ?_
  refine lv_iload_n hx hb dL_measure_3 rfl (lv_at hl 1 rfl) ?_
  refine lv_iload_n hx hb dL_measure_4 rfl (lv_at hl 2 rfl) ?_
  refine x_call (vx_runV (As := [.int p0, .int p1]) (rest := [.int 0, .ref qo]) ⟨hx, hb, hml, hown, hts⟩ (c_X5_measure hI hA hnt hf) (cwV 2 hts gL_measure_X5_measure rfl rfl rfl (by decide +kernel) ⟨Nat.le_of_ble_eq_true rfl, Nat.le_of_ble_eq_true rfl⟩) (Pf_V (XTb A) (XTo A) hX.1 hK hP hS0 obX5 rfl) rfl rfl hl.1 rfl (lv_room (Nat.le_of_ble_eq_true rfl)) dL_measure_5 ⟨by decide, by decide⟩) hS (fun _ h => Or.inl h) (fun E ce q9 H1 locs1 hc hP hkp hS h9 hv9 hcl => ?_) (fun H1 locs1 hc hP hkp hS => ?_)
  · have hPo1 : va_P D vwCl [(qo, .inl (cL, 1, .inr (.inl f)))] H1 := P_keep1 hPo (hkp qo hlo hqo)
    rcases hc with ⟨e1, rfl⟩ | ⟨e1, rfl⟩
    · refine vx_catch (own := RL) (name := exA) hown [] ⟨0, 10, 13, 13⟩ [⟨0, 10, 17, 31⟩] (by rw [htb]; rfl) (fun z hz => by cases hz) (by decide) (by decide) (hts (.classLink RL 13 "java/lang/IndexOutOfBoundsException") (by decide +kernel)) (va_Nw.use rfl (hX.1.2.2.2 (.castable exA exA) (by decide))) h9 hv9 hcl ?_
      refine lv_astore (lv' := [(4, .ref q9), (0, .ref (ad 0)), (1, .int p0), (2, .int p1), (3, .ref qo)]) hx hb dL_measure_13 hl (by decide) rfl (fun ls hl => ?_)
      refine lv_iconst (v := (1 : Int32)) hx hb dL_measure_15 (by decide) ?_
      exact W.iret hx hb hr (fun t ht hW => ⟨by rw [e1]; rfl, by rw [ht]; exact hP, ⟨f, fun h => absurd (h.symm.trans e1) (by decide), by rw [ht]; exact hPo1⟩, hS.F ht⟩) hS.2.2 dL_measure_16 hlocks
    · refine vx_catch (own := RL) (name := exC) hown [⟨0, 10, 13, 13⟩] ⟨0, 10, 17, 31⟩ [] (by rw [htb]; rfl) (fun z hz => by
        rw [List.mem_singleton] at hz
        subst hz
        exact Or.inr ⟨by decide, exA, hts (.classLink RL 13 "java/lang/IndexOutOfBoundsException") (by decide +kernel), hX.2.2⟩) (by decide) (by decide) (hts (.classLink RL 31 "java/lang/IllegalStateException") (by decide +kernel)) (va_Nw.use rfl (hX.1.2.2.2 (.castable exC exC) (by decide))) h9 hv9 hcl ?_
      refine lv_astore (lv' := [(4, .ref q9), (0, .ref (ad 0)), (1, .int p0), (2, .int p1), (3, .ref qo)]) hx hb dL_measure_17 hl (by decide) rfl (fun ls hl => ?_)
      refine lv_iconst (v := (2 : Int32)) hx hb dL_measure_19 (by decide) ?_
      exact W.iret hx hb hr (fun t ht hW => ⟨by rw [e1]; rfl, by rw [ht]; exact hP, ⟨f, fun h => absurd (h.symm.trans e1) (by decide), by rw [ht]; exact hPo1⟩, hS.F ht⟩) hS.2.2 dL_measure_20 hlocks
  · have hPo1 : va_P D vwCl [(qo, .inl (cL, 1, .inr (.inl f)))] H1 := P_keep1 hPo (hkp qo hlo hqo)
    refine lv_i2l hx hb dL_measure_8 rfl ?_
    refine o_last hx hb hKo hP hPo1 hI (fun k hk => Or.inl (hA k hk)) (Or.inr rfl) (fun k hk h => hqo (h ▸ hA k hk)) hS dL_measure_9 (fun H2 locs2 hP2 hPo2 hS2 => ?_)
    refine lv_goto (tgt := 21) hx hb dL_measure_10 (by decide) ?_
    refine lv_iconst (v := (0 : Int32)) hx hb dL_measure_21 (by decide) ?_
    exact W.iret hx hb hr (fun t ht hW => ⟨by rw [hc]; rfl, by rw [ht]; exact hP2, ⟨_, fun _ => rfl, by rw [ht]; exact hPo2⟩, hS2.F ht⟩) hS2.2.2 dL_measure_22 hlocks
