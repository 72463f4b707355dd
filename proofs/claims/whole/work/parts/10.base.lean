/-! The world of a system whose references never change: numbered cells, a memory of ints; methods as functions on it. -/
abbrev Mem : Type := Nat → Nat → Int32
def mrow (M : Mem) (k : Nat) (f : Nat → Int32) : Mem := fun a => if a = k then f else M a
def mset (M : Mem) (k j : Nat) (x : Int32) : Mem := mrow M k (upd (M k) j x)
theorem mrow_s (M : Mem) (k : Nat) (f : Nat → Int32) : mrow M k f k = f := if_pos rfl
theorem mrow_n (M : Mem) {k a : Nat} (f : Nat → Int32) (h : a ≠ k) : mrow M k f a = M a := if_neg h
abbrev Shp : Type := Nat → (Nat → Int32) → va_E
def gw (N : Nat) (ad : Nat → Nat) (sp : Shp) (M : Mem) : va_W := (List.range N).map (fun k => (ad k, sp k (M k)))
theorem gw_at {N : Nat} {ad : Nat → Nat} {sp : Shp} {M : Mem} {k : Nat} (h : k < N) : (gw N ad sp M)[k]? = some (ad k, sp k (M k)) := by
  unfold gw
  rw [List.getElem?_map, List.getElem?_range h]
  rfl
theorem gw_lt {N : Nat} {ad : Nat → Nat} {sp : Shp} {M : Mem} {k : Nat} {q : Nat × va_E} (h : (gw N ad sp M)[k]? = some q) : k < N := by
  have h1 := (List.getElem?_eq_some_iff.mp h).1
  simpa [gw] using h1
theorem gw_set {N : Nat} {ad : Nat → Nat} {sp : Shp} {M : Mem} {k : Nat} {f : Nat → Int32} (h : k < N) : (gw N ad sp M).set k (ad k, sp k f) = gw N ad sp (mrow M k f) := by
  apply List.ext_getElem?
  intro i
  by_cases hi : i = k
  · subst hi
    rw [List.getElem?_set_self (by simpa [gw] using h), gw_at h, mrow_s]
  · rw [List.getElem?_set_ne (Ne.symm hi)]
    by_cases hN : i < N
    · rw [gw_at hN, gw_at hN, mrow_n _ _ hi]
    · rw [List.getElem?_eq_none (by simpa [gw] using hN), List.getElem?_eq_none (by simpa [gw] using hN)]
def gInj (N : Nat) (ad : Nat → Nat) : Prop := ∀ i j, i < N → j < N → ad i = ad j → i = j
theorem gw_D {N : Nat} {ad : Nat → Nat} {sp : Shp} {M : Mem} {A : Nat → Prop} (hI : gInj N ad) (hA : ∀ k, k < N → A (ad k)) : va_D A (gw N ad sp M) := by
  refine ⟨fun i j p q hi hj e => ?_, fun k q hk => ?_⟩
  · have h1 := gw_lt hi
    have h2 := gw_lt hj
    rw [gw_at h1] at hi
    rw [gw_at h2] at hj
    cases hi
    cases hj
    exact hI i j h1 h2 e
  · have h1 := gw_lt hk
    rw [gw_at h1] at hk
    cases hk
    exact hA k h1
-- the words of the functions
/-- fuel for a loop: some number, more than any loop here needs; which one can't be seen -/
noncomputable def FU : Nat := Classical.choose (⟨2100, Nat.le_refl 2100⟩ : ∃ n : Nat, 2100 ≤ n)
theorem FU_le : 2100 ≤ FU := Classical.choose_spec (⟨2100, Nat.le_refl 2100⟩ : ∃ n : Nat, 2100 ≤ n)
def bnd {α β : Type} (x : α) (F : α → Option β) : Option β := F x
def gd {β : Type} (b : Bool) (F : Option β) : Option β := if b = true then F else none
def jn {γ β : Type} (K : γ) (F : γ → Option β) : Option β := F K
def oq {β : Type} (o : Option Nat) (a : Option β) (b : Nat → Option β) : Option β := match o with
  | none => a
  | some k => b k
def inb (i : Int32) (n : Nat) : Bool := decide (¬ (i < 0 ∨ n ≤ i.toNatClampNeg))
def usr (x y : Int32) : Int32 := (x.toUInt32 >>> (y.toUInt32 &&& Int32.toUInt32 31)).toInt32
theorem gd_s {β : Type} {b : Bool} {F : Option β} {r : β} (h : gd b F = some r) : b = true ∧ F = some r := by
  unfold gd at h
  by_cases hb : b = true
  · rw [if_pos hb] at h
    exact ⟨hb, h⟩
  · rw [if_neg hb] at h
    cases h
theorem inb_s {i : Int32} {n : Nat} (h : inb i n = true) : vp_in i n := by
  have h2 : ¬ (i < 0 ∨ n ≤ i.toNatClampNeg) := of_decide_eq_true h
  exact h2
theorem ob {α β : Type} {o : Option α} {F : α → Option β} {r : β} (h : o.bind F = some r) : ∃ q, o = some q ∧ F q = some r := by
  cases o with
  | none => cases h
  | some q => exact ⟨q, rfl, h⟩
-- what a method asks and leaves
abbrev Xt : Type := State → Heap → Prop
def XtOk (A : Nat → Prop) (X : Xt) : Prop := ∀ (u U : State) (H : Heap), u.WarmedH U.vm → (∀ q, q < u.heap.size → ¬ A q → H[q]? = u.heap[q]?) → X u u.heap → X U H
def XtBl (X : Xt) : Prop := ∀ (U : State) (g : JFrame) (mk : MethodId) (a : Array Value), X U U.heap → X (U.calling g mk a) U.heap
def Pf (D : va_G) (cl : List vw_C) (tys : List (ClassId × FieldType)) (N : Nat) (ad : Nat → Nat) (sp : Shp) (X : Xt) (M : Mem) (U : State) : Prop := va_P D cl (gw N ad sp M) U.heap ∧ va_K D cl tys U ∧ X U U.heap
def Qf (D : va_G) (cl : List vw_C) (N : Nat) (ad : Nat → Nat) (sp : Shp) (A : Nat → Prop) (v : Option Value) (M : Mem) : Array Value → State → Outcome → State → Prop := fun _ st oc t => oc = .returned v ∧ va_P D cl (gw N ad sp M) t.heap ∧ va_F A st t
theorem Pf_blind {D : va_G} {cl : List vw_C} {tys : List (ClassId × FieldType)} {N : Nat} {ad : Nat → Nat} {sp : Shp} {X : Xt} {M : Mem} {av : List Value} (hX : XtBl X) : FrameBlind (va_Pc av (Pf D cl tys N ad sp X M)) := by
  intro a U g mk q
  obtain ⟨q0, qP, qK, qX⟩ := q
  exact ⟨q0, qP, va_K.moved (u := U) (U := U.calling g mk a) (Vm.Alike.refl U.vm) qK, hX U g mk a qX⟩
theorem Pf_S {s : State} {H : Heap} {locs : List Loc} {D : va_G} {cl : List vw_C} {tys : List (ClassId × FieldType)} {N : Nat} {ad : Nat → Nat} {sp : Shp} {X : Xt} {M : Mem} {A : Nat → Prop} {av : List Value} (hXb : XtBl X) (hXo : XtOk A X) (hX : X s s.heap) (hK : va_K D cl tys s) (hP : va_P D cl (gw N ad sp M) H) (hS : va_S A s.heap H locs) : PreS s H (va_Pc av (Pf D cl tys N ad sp X M)) av :=
  ⟨Pf_blind hXb, fun U hU hW => ⟨rfl, by rw [hU]; exact hP, va_K.moved hW.alike hK, by rw [hU]; exact hXo s U H hW hS.2.1 hX⟩⟩
theorem Pf_V {s : State} {H : Heap} {locs : List Loc} {D : va_G} {cl : List vw_C} {tys : List (ClassId × FieldType)} {N : Nat} {ad : Nat → Nat} {sp : Shp} {X : Xt} {M : Mem} {A : Nat → Prop} {As : List Value} {C : String} {T : u_T} {Nf k ci : Nat} {fs : (Nat → Int32) → List Value} (hXb : XtBl X) (hXo : XtOk A X) (hX : X s s.heap) (hK : va_K D cl tys s) (hP : va_P D cl (gw N ad sp M) H) (hS : va_S A s.heap H locs) (hk : k < N ∧ ∀ f, sp k f = .inr (ci, fs f)) (hc : cl[ci]? = some (C, T, Nf)) : PreV s H C (ad k) (va_Pc (.ref (ad k) :: As) (Pf D cl tys N ad sp X M)) As :=
  ⟨Pf_blind hXb, va_recv hK hP hc (by rw [gw_at hk.1, hk.2]), (Pf_S (av := .ref (ad k) :: As) hXb hXo hX hK hP hS).2⟩
section RW
variable {p : Program} {l : Launch} {e : Env} {R : Room} {s : State} {m : MethodId} {args : Array Value} {below : List Frame} {meth : Method} {c : Code} {H : Heap} {locs : List Loc} {cells slots : Nat} {Q : State → Prop}
variable {cc : ByteArray} {pc : Nat} {ls : Array Slot} {rest : List Value} {D : va_G} {cl : List vw_C} {A : Nat → Prop} {tys : List (ClassId × FieldType)} {H0 : Heap} {N : Nat} {ad : Nat → Nat} {sp : Shp} {M : Mem} {β : Type} {res : β}
theorem r_top {α : Type} {g : α → Value} {x : α} {F : α → Option β} (hf : bnd x F = some res) (kk : ∀ y, F y = some res → W p l e R s m args below meth c H locs cells slots Q (F0 m pc ls (g y :: rest))) : W p l e R s m args below meth c H locs cells slots Q (F0 m pc ls (g x :: rest)) := kk x hf
theorem r_bnd {α : Type} {G : α → Prop} {x : α} {F : α → Option β} (hf : bnd x F = some res) (kk : ∀ y, F y = some res → G y) : G x := kk x hf
theorem r_jn {γ : Type} {G : Prop} {K : γ} {F : γ → Option β} (hf : jn K F = some res) (kk : ∀ K', K' = K → F K' = some res → G) : G := kk K rfl hf
theorem r_if {P : Prop} [Decidable P] {G1 G2 : Prop} {a b : Option β} (hf : (if P then a else b) = some res) (k1 : a = some res → G1) (k2 : b = some res → G2) : (P → G1) ∧ (¬ P → G2) :=
  ⟨fun h => k1 (by rw [if_pos h] at hf; exact hf), fun h => k2 (by rw [if_neg h] at hf; exact hf)⟩
theorem r_oq {o : Option Nat} {a : Option β} {b : Nat → Option β} (hf : oq o a b = some res) (k1 : a = some res → W p l e R s m args below meth c H locs cells slots Q (F0 m pc ls (.null :: rest))) (k2 : ∀ k, b k = some res → W p l e R s m args below meth c H locs cells slots Q (F0 m pc ls (.ref (ad k) :: rest))) : W p l e R s m args below meth c H locs cells slots Q (F0 m pc ls (va_rf (o.map ad) :: rest)) := by
  cases o with
  | none => exact k1 hf
  | some k => exact k2 k hf
-- arrays of ints
theorem r_iald (hx : p.tables.exec = Jvm.exec) (hb : c.code = cc) (hK : va_K D cl tys s) (hP : va_P D cl (gw N ad sp M) H) (t0 : Nat) {cA : ClassId} {k n : Nat} {ok : Bool} (hk : ok = true → k < N ∧ ∀ f, sp k f = .inl (cA, n, .inl f)) (ht : tys[t0]? = some (cA, .int)) {i : Int32} {F : Int32 → Option β} (hdg : decode cc pc = .ok (.iaload, 1))
    (hf : gd (ok && inb i n) (bnd (M k i.toNatClampNeg) F) = some res) (kk : ∀ x, F x = some res → W p l e R s m args below meth c H locs cells slots Q (F0 m (pc + 1) ls (.int x :: rest))) : W p l e R s m args below meth c H locs cells slots Q (F0 m pc ls (.int i :: .ref (ad k) :: rest)) := by
  obtain ⟨h1, hf⟩ := gd_s hf
  rw [Bool.and_eq_true] at h1
  obtain ⟨hN, hs⟩ := hk h1.1
  exact va_iald hx hb hK hP k t0 (by rw [gw_at hN, hs]) ht (inb_s h1.2) hdg (kk _ hf)
theorem r_zald (hx : p.tables.exec = Jvm.exec) (hb : c.code = cc) (hK : va_K D cl tys s) (hP : va_P D cl (gw N ad sp M) H) (t0 : Nat) {cA : ClassId} {k n : Nat} {ok : Bool} (hk : ok = true → k < N ∧ ∀ f, sp k f = .inl (cA, n, .inl f)) (ht : tys[t0]? = some (cA, .boolean)) {i : Int32} {F : Int32 → Option β} (hdg : decode cc pc = .ok (.baload, 1))
    (hf : gd (ok && inb i n) (bnd (M k i.toNatClampNeg) F) = some res) (kk : ∀ x, F x = some res → W p l e R s m args below meth c H locs cells slots Q (F0 m (pc + 1) ls (.int x :: rest))) : W p l e R s m args below meth c H locs cells slots Q (F0 m pc ls (.int i :: .ref (ad k) :: rest)) := by
  obtain ⟨h1, hf⟩ := gd_s hf
  rw [Bool.and_eq_true] at h1
  obtain ⟨hN, hs⟩ := hk h1.1
  exact va_zald hx hb hK hP k t0 (by rw [gw_at hN, hs]) ht (inb_s h1.2) hdg (kk _ hf)
theorem r_iast (hx : p.tables.exec = Jvm.exec) (hb : c.code = cc) (hI : gInj N ad) (hA : ∀ k, k < N → A (ad k)) (hK : va_K D cl tys s) (hP : va_P D cl (gw N ad sp M) H) (hS : va_S A H0 H locs) (t0 : Nat) {cA : ClassId} {k n : Nat} {ok : Bool} (hk : ok = true → k < N ∧ ∀ f, sp k f = .inl (cA, n, .inl f)) (ht : tys[t0]? = some (cA, .int)) {i x : Int32} {F : Mem → Option β} (hdg : decode cc pc = .ok (.iastore, 1))
    (hf : gd (ok && inb i n) (bnd (mset M k i.toNatClampNeg x) F) = some res) (kk : ∀ (M' : Mem) (H1 : Heap) (locs1 : List Loc), va_P D cl (gw N ad sp M') H1 → va_S A H0 H1 locs1 → F M' = some res → W p l e R s m args below meth c H1 locs1 cells slots Q (F0 m (pc + 1) ls rest)) : W p l e R s m args below meth c H locs cells slots Q (F0 m pc ls (.int x :: .int i :: .ref (ad k) :: rest)) := by
  obtain ⟨h1, hf⟩ := gd_s hf
  rw [Bool.and_eq_true] at h1
  obtain ⟨hN, hs⟩ := hk h1.1
  refine va_iast hx hb hK hP (gw_D hI hA) hS k t0 (by rw [gw_at hN, hs]) ht (inb_s h1.2) hdg (fun H1 locs1 hP1 _ hS1 => kk _ H1 locs1 ?_ hS1 hf)
  rw [← hs (upd (M k) i.toNatClampNeg x), gw_set hN] at hP1
  exact hP1
theorem r_zast (hx : p.tables.exec = Jvm.exec) (hb : c.code = cc) (hI : gInj N ad) (hA : ∀ k, k < N → A (ad k)) (hK : va_K D cl tys s) (hP : va_P D cl (gw N ad sp M) H) (hS : va_S A H0 H locs) (t0 : Nat) {cA : ClassId} {k n : Nat} {ok : Bool} (hk : ok = true → k < N ∧ ∀ f, sp k f = .inl (cA, n, .inl f)) (ht : tys[t0]? = some (cA, .boolean)) {i x : Int32} {F : Mem → Option β} (hdg : decode cc pc = .ok (.bastore, 1))
    (hf : gd (ok && inb i n) (bnd (mset M k i.toNatClampNeg (vp_nar .boolean x)) F) = some res) (kk : ∀ (M' : Mem) (H1 : Heap) (locs1 : List Loc), va_P D cl (gw N ad sp M') H1 → va_S A H0 H1 locs1 → F M' = some res → W p l e R s m args below meth c H1 locs1 cells slots Q (F0 m (pc + 1) ls rest)) : W p l e R s m args below meth c H locs cells slots Q (F0 m pc ls (.int x :: .int i :: .ref (ad k) :: rest)) := by
  obtain ⟨h1, hf⟩ := gd_s hf
  rw [Bool.and_eq_true] at h1
  obtain ⟨hN, hs⟩ := hk h1.1
  refine va_zast hx hb hK hP (gw_D hI hA) hS k t0 (by rw [gw_at hN, hs]) ht (inb_s h1.2) hdg (fun H1 locs1 hP1 _ hS1 => kk _ H1 locs1 ?_ hS1 hf)
  rw [← hs (upd (M k) i.toNatClampNeg (vp_nar .boolean x)), gw_set hN] at hP1
  exact hP1
theorem r_alen (hx : p.tables.exec = Jvm.exec) (hb : c.code = cc) (hK : va_K D cl tys s) (hP : va_P D cl (gw N ad sp M) H) (t0 : Nat) {cA : ClassId} {k n : Nat} {ok : Bool} (hk : ok = true → k < N ∧ ∀ f, sp k f = .inl (cA, n, .inl f)) (ht : tys[t0]? = some (cA, .int)) {F : Int32 → Option β} (hdg : decode cc pc = .ok (.arraylength, 1))
    (hf : gd ok (bnd (Int32.ofNat n) F) = some res) (kk : ∀ x, F x = some res → W p l e R s m args below meth c H locs cells slots Q (F0 m (pc + 1) ls (.int x :: rest))) : W p l e R s m args below meth c H locs cells slots Q (F0 m pc ls (.ref (ad k) :: rest)) := by
  obtain ⟨h1, hf⟩ := gd_s hf
  obtain ⟨hN, hs⟩ := hk h1
  exact va_alen (v := Int32.ofNat n) hx hb hK hP k t0 (by rw [gw_at hN, hs]) ht rfl hdg (kk _ hf)
-- arrays of references: place j holds the cell g j
theorem r_aald (hx : p.tables.exec = Jvm.exec) (hb : c.code = cc) (hK : va_K D cl tys s) (hP : va_P D cl (gw N ad sp M) H) (t0 : Nat) {cA : ClassId} {ty : FieldType} {k n : Nat} {g : Nat → Nat} (hk : k < N ∧ ∀ f, sp k f = .inl (cA, n, .inr (.inr (.inr (.inr (fun j => some (ad (g j)))))))) (ht : tys[t0]? = some (cA, ty)) (hty : ty.isReference = true) {i : Int32} {F : Nat → Option β} (hdg : decode cc pc = .ok (.aaload, 1))
    (hf : gd (inb i n) (bnd (g i.toNatClampNeg) F) = some res) (kk : ∀ k', F k' = some res → W p l e R s m args below meth c H locs cells slots Q (F0 m (pc + 1) ls (.ref (ad k') :: rest))) : W p l e R s m args below meth c H locs cells slots Q (F0 m pc ls (.int i :: .ref (ad k) :: rest)) := by
  obtain ⟨h1, hf⟩ := gd_s hf
  have hin := inb_s h1
  have hlt : i.toNatClampNeg < n := Nat.not_le.mp fun q => hin (Or.inr q)
  have ha : (gw N ad sp M)[k]? = some (ad k, .inl (cA, n, .inr (.inr (.inr (.inr (fun j => some (ad (g j)))))))) := by rw [gw_at hk.1, hk.2]
  exact W.aald (v := va_rf (some (ad (g i.toNatClampNeg)))) (ty := ty) hx hb (hP k _ ha) ((hK.2 t0 _ ht).1 n (fun j => va_rf (some (ad (g j))))) hty (fun q => by cases q) (by show ¬ (i < 0 ∨ (arrV _ _ _).slots.size ≤ _); rw [arrV_size]; exact hin) (by show (arrV _ _ _).slots[_]? = _; rw [arrV_read _ _ hlt]) rfl rfl hdg (kk _ hf)
-- fields
theorem r_geti (hx : p.tables.exec = Jvm.exec) (hb : c.code = cc) {own C : String} {T : u_T} {Nf ci index : Nat} {Ts : List Cond} (hts : ∀ w ∈ Ts, w.before args s = true) (hin : ∀ w ∈ u_ws C T Nf, w ∈ Ts) (hown : s.vm.findClass own = some m.cls) (hK : va_K D cl tys s) (hP : va_P D cl (gw N ad sp M) H) {k j : Nat} {ok : Bool} {fs : (Nat → Int32) → List Value} (hk : ok = true → k < N ∧ ∀ f, sp k f = .inr (ci, fs f)) (hc : cl[ci]? = some (C, T, Nf)) (hj : j < Nf) (hlink : (Cond.fieldLink own index (T j).1 (T j).2.1 (T j).2.2.1).before args s = true) (hv : ∀ f, (fs f)[j]? = some (.int (f j))) {F : Int32 → Option β} (hdg : decode cc pc = .ok (.getfield index, 3))
    (hf : gd ok (bnd (M k j) F) = some res) (kk : ∀ x, F x = some res → W p l e R s m args below meth c H locs cells slots Q (F0 m (pc + 3) ls (.int x :: rest))) : W p l e R s m args below meth c H locs cells slots Q (F0 m pc ls (.ref (ad k) :: rest)) := by
  obtain ⟨h1, hf⟩ := gd_s hf
  obtain ⟨hN, hs⟩ := hk h1
  exact va_get hx hb hts hin hown hK hP k (by rw [gw_at hN, hs]) hc j hj hlink (fun _ h => h) (hv (M k)) hdg (kk _ hf)
theorem r_getr (hx : p.tables.exec = Jvm.exec) (hb : c.code = cc) {own C : String} {T : u_T} {Nf ci index : Nat} {Ts : List Cond} (hts : ∀ w ∈ Ts, w.before args s = true) (hin : ∀ w ∈ u_ws C T Nf, w ∈ Ts) (hown : s.vm.findClass own = some m.cls) (hK : va_K D cl tys s) (hP : va_P D cl (gw N ad sp M) H) {k j k' : Nat} {ok : Bool} {fs : (Nat → Int32) → List Value} (hk : ok = true → k < N ∧ ∀ f, sp k f = .inr (ci, fs f)) (hc : cl[ci]? = some (C, T, Nf)) (hj : j < Nf) (hlink : (Cond.fieldLink own index (T j).1 (T j).2.1 (T j).2.2.1).before args s = true) (hv : ∀ f, (fs f)[j]? = some (.ref (ad k'))) {F : Option β} (hdg : decode cc pc = .ok (.getfield index, 3))
    (hf : gd ok F = some res) (kk : F = some res → W p l e R s m args below meth c H locs cells slots Q (F0 m (pc + 3) ls (.ref (ad k') :: rest))) : W p l e R s m args below meth c H locs cells slots Q (F0 m pc ls (.ref (ad k) :: rest)) := by
  obtain ⟨h1, hf⟩ := gd_s hf
  obtain ⟨hN, hs⟩ := hk h1
  exact va_get hx hb hts hin hown hK hP k (by rw [gw_at hN, hs]) hc j hj hlink (fun _ h => h) (hv (M k)) hdg (kk hf)
theorem r_getc (hx : p.tables.exec = Jvm.exec) (hb : c.code = cc) {own C : String} {T : u_T} {Nf ci index : Nat} {Ts : List Cond} (hts : ∀ w ∈ Ts, w.before args s = true) (hin : ∀ w ∈ u_ws C T Nf, w ∈ Ts) (hown : s.vm.findClass own = some m.cls) (hK : va_K D cl tys s) (hP : va_P D cl (gw N ad sp M) H) {k j k' : Nat} {fs : (Nat → Int32) → List Value} (hk : k < N ∧ ∀ f, sp k f = .inr (ci, fs f)) (hc : cl[ci]? = some (C, T, Nf)) (hj : j < Nf) (hlink : (Cond.fieldLink own index (T j).1 (T j).2.1 (T j).2.2.1).before args s = true) (hv : ∀ f, (fs f)[j]? = some (.ref (ad k'))) (hdg : decode cc pc = .ok (.getfield index, 3))
    (kk : W p l e R s m args below meth c H locs cells slots Q (F0 m (pc + 3) ls (.ref (ad k') :: rest))) : W p l e R s m args below meth c H locs cells slots Q (F0 m pc ls (.ref (ad k) :: rest)) :=
  va_get hx hb hts hin hown hK hP k (by rw [gw_at hk.1, hk.2]) hc j hj hlink (fun _ h => h) (hv (M k)) hdg kk
theorem r_puti (hx : p.tables.exec = Jvm.exec) (hb : c.code = cc) {own C : String} {T : u_T} {Nf ci index : Nat} {Ts : List Cond} (hts : ∀ w ∈ Ts, w.before args s = true) (hin : ∀ w ∈ u_ws C T Nf, w ∈ Ts) (ty0 : Nat → FieldType) (hty : ∀ k, k < Nf → parseFieldDescriptor (T k).2.2.1 = some (ty0 k)) (hnm : ∀ a, a < Nf → ∀ b, b < Nf → a ≠ b → (T a).2.1 ≠ (T b).2.1) (hown : s.vm.findClass own = some m.cls) (hI : gInj N ad) (hA : ∀ k, k < N → A (ad k)) (hK : va_K D cl tys s) (hP : va_P D cl (gw N ad sp M) H) (hS : va_S A H0 H locs) {k j : Nat} {ok : Bool} {fs : (Nat → Int32) → List Value} (hk : ok = true → k < N ∧ ∀ f, sp k f = .inr (ci, fs f)) (hc : cl[ci]? = some (C, T, Nf)) (hj : j < Nf) (hlink : (Cond.fieldLink own index (T j).1 (T j).2.1 (T j).2.2.1).before args s = true) (hfin : (T j).2.2.2 = false) {x : Int32} (hn : narrow (ty0 j) (.int x) = .int x) (hfit : fits (ty0 j) (.int x) = true) (hl : ∀ f, j < (fs f).length) (hu : ∀ (f : Nat → Int32) (x : Int32), (fs f).set j (.int x) = fs (upd f j x)) {F : Mem → Option β} (hdg : decode cc pc = .ok (.putfield index, 3))
    (hf : gd ok (bnd (mset M k j x) F) = some res) (kk : ∀ (M' : Mem) (H1 : Heap) (locs1 : List Loc), va_P D cl (gw N ad sp M') H1 → va_S A H0 H1 locs1 → F M' = some res → W p l e R s m args below meth c H1 locs1 cells slots Q (F0 m (pc + 3) ls rest)) : W p l e R s m args below meth c H locs cells slots Q (F0 m pc ls (.int x :: .ref (ad k) :: rest)) := by
  obtain ⟨h1, hf⟩ := gd_s hf
  obtain ⟨hN, hs⟩ := hk h1
  refine va_put (ty := ty0 j) hx hb hts hin ty0 hty hnm hown hK hP (gw_D hI hA) hS k (by rw [gw_at hN, hs]) hc j hj hlink (fun _ h => h) hfin (hty j hj) hn hfit (hl (M k)) hdg (fun H1 locs1 hP1 _ hS1 => kk _ H1 locs1 ?_ hS1 hf)
  rw [hu, ← hs (upd (M k) j x), gw_set hN] at hP1
  exact hP1
-- calls
theorem r_callv {M' : Mem} {st0 : List Value} {a : Array Value} (hr : va_Run p l e R s m args below meth c H locs cells slots 0 0 (F0 m pc ls st0) rest (Qf D cl N ad sp A none M' a) A) (hS : va_S A H0 H locs)
    (kk : ∀ (H1 : Heap) (locs1 : List Loc), va_P D cl (gw N ad sp M') H1 → va_S A H0 H1 locs1 → W p l e R s m args below meth c H1 locs1 cells slots Q (F0 m (pc + 3) ls rest)) : W p l e R s m args below meth c H locs cells slots Q (F0 m pc ls st0) := by
  intro T hT X
  obtain ⟨v, st₀, t, T', L, h0, X', hL, e1, e2, ⟨hv, hP1, hz, hk⟩, st⟩ := hr T hT X
  cases hv
  rw [h0] at hz hk
  obtain ⟨t2, a1, b1⟩ := kk T'.heap (locs ++ L) (by rw [e1]; exact hP1) ⟨Nat.le_trans hS.1 (by rw [e1]; exact hz), fun q h1 h2 => by rw [e1, hk q (Nat.lt_of_lt_of_le h1 hS.1) h2]; exact hS.2.1 q h1 h2, fun q hq => by
      rcases List.mem_append.mp hq with h | h
      · exact hS.2.2 q h
      · exact hL q h⟩ T' rfl X'
  exact ⟨t2, st t2 a1, b1⟩
theorem r_call1 {M' : Mem} {st0 : List Value} {a : Array Value} {w : Value} (hr : va_Run p l e R s m args below meth c H locs cells slots 0 0 (F0 m pc ls st0) rest (Qf D cl N ad sp A (some w) M' a) A) (hS : va_S A H0 H locs)
    (kk : ∀ (H1 : Heap) (locs1 : List Loc), va_P D cl (gw N ad sp M') H1 → va_S A H0 H1 locs1 → W p l e R s m args below meth c H1 locs1 cells slots Q (F0 m (pc + 3) ls (w :: rest))) : W p l e R s m args below meth c H locs cells slots Q (F0 m pc ls st0) := by
  intro T hT X
  obtain ⟨v, st₀, t, T', L, h0, X', hL, e1, e2, ⟨hv, hP1, hz, hk⟩, st⟩ := hr T hT X
  cases hv
  rw [h0] at hz hk
  obtain ⟨t2, a1, b1⟩ := kk T'.heap (locs ++ L) (by rw [e1]; exact hP1) ⟨Nat.le_trans hS.1 (by rw [e1]; exact hz), fun q h1 h2 => by rw [e1, hk q (Nat.lt_of_lt_of_le h1 hS.1) h2]; exact hS.2.1 q h1 h2, fun q hq => by
      rcases List.mem_append.mp hq with h | h
      · exact hS.2.2 q h
      · exact hL q h⟩ T' rfl X'
  exact ⟨t2, st t2 a1, b1⟩
-- ends
theorem r_iret {v : Int32} (hx : p.tables.exec = Jvm.exec) (hb : c.code = cc) (hr : meth.sig.returnType = some .int) (hlocks : meth.locks = false) (hP : va_P D cl (gw N ad sp M) H) (hS : va_S A s.heap H locs) (hdg : decode cc pc = .ok (.ireturn, 1)) : W p l e R s m args below meth c H locs 0 0 (MQ below (Qf D cl N ad sp A (some (.int v)) M) args s 0 0 A) (F0 m pc ls [.int v]) :=
  W.iret hx hb hr (fun t ht hW => ⟨rfl, by rw [ht]; exact hP, hS.F ht⟩) hS.2.2 hdg hlocks
theorem r_zret {v : Int32} (hx : p.tables.exec = Jvm.exec) (hb : c.code = cc) (hr : meth.sig.returnType = some .boolean) (hn : narrow .boolean (.int v) = .int v) (hlocks : meth.locks = false) (hP : va_P D cl (gw N ad sp M) H) (hS : va_S A s.heap H locs) (hdg : decode cc pc = .ok (.ireturn, 1)) : W p l e R s m args below meth c H locs 0 0 (MQ below (Qf D cl N ad sp A (some (.int v)) M) args s 0 0 A) (F0 m pc ls [.int v]) :=
  W.zret hx hb hr hn (fun t ht hW => ⟨rfl, by rw [ht]; exact hP, hS.F ht⟩) hS.2.2 hdg hlocks
theorem r_vret (hx : p.tables.exec = Jvm.exec) (hb : c.code = cc) (hr : meth.sig.returnType = none) (hlocks : meth.locks = false) (hP : va_P D cl (gw N ad sp M) H) (hS : va_S A s.heap H locs) (hdg : decode cc pc = .ok (.return_, 1)) : W p l e R s m args below meth c H locs 0 0 (MQ below (Qf D cl N ad sp A none M) args s 0 0 A) (F0 m pc ls []) :=
  W.vret hx hb hr (fun t ht hW => ⟨rfl, by rw [ht]; exact hP, hS.F ht⟩) hS.2.2 hdg hlocks
end RW
