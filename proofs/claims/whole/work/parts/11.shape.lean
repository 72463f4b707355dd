/-! Rows for fixed cells, branches, switches, copies; the shapes of the two worlds. -/
section RK
variable {p : Program} {l : Launch} {e : Env} {R : Room} {s : State} {m : MethodId} {args : Array Value} {below : List Frame} {meth : Method} {c : Code} {H : Heap} {locs : List Loc} {cells slots : Nat} {Q : State → Prop}
variable {cc : ByteArray} {pc : Nat} {ls : Array Slot} {rest : List Value} {D : va_G} {cl : List vw_C} {A : Nat → Prop} {tys : List (ClassId × FieldType)} {H0 : Heap} {N : Nat} {ad : Nat → Nat} {sp : Shp} {M : Mem} {β : Type} {res : β}
theorem r_ialdk (hx : p.tables.exec = Jvm.exec) (hb : c.code = cc) (hK : va_K D cl tys s) (hP : va_P D cl (gw N ad sp M) H) (t0 : Nat) {cA : ClassId} {k n : Nat} (hk : k < N ∧ ∀ f, sp k f = .inl (cA, n, .inl f)) (ht : tys[t0]? = some (cA, .int)) {i : Int32} {F : Int32 → Option β} (hdg : decode cc pc = .ok (.iaload, 1))
    (hf : gd (inb i n) (bnd (M k i.toNatClampNeg) F) = some res) (kk : ∀ x, F x = some res → W p l e R s m args below meth c H locs cells slots Q (F0 m (pc + 1) ls (.int x :: rest))) : W p l e R s m args below meth c H locs cells slots Q (F0 m pc ls (.int i :: .ref (ad k) :: rest)) :=
  r_iald (ok := true) hx hb hK hP t0 (fun _ => hk) ht hdg (by rw [Bool.true_and]; exact hf) kk
theorem r_zaldk (hx : p.tables.exec = Jvm.exec) (hb : c.code = cc) (hK : va_K D cl tys s) (hP : va_P D cl (gw N ad sp M) H) (t0 : Nat) {cA : ClassId} {k n : Nat} (hk : k < N ∧ ∀ f, sp k f = .inl (cA, n, .inl f)) (ht : tys[t0]? = some (cA, .boolean)) {i : Int32} {F : Int32 → Option β} (hdg : decode cc pc = .ok (.baload, 1))
    (hf : gd (inb i n) (bnd (M k i.toNatClampNeg) F) = some res) (kk : ∀ x, F x = some res → W p l e R s m args below meth c H locs cells slots Q (F0 m (pc + 1) ls (.int x :: rest))) : W p l e R s m args below meth c H locs cells slots Q (F0 m pc ls (.int i :: .ref (ad k) :: rest)) :=
  r_zald (ok := true) hx hb hK hP t0 (fun _ => hk) ht hdg (by rw [Bool.true_and]; exact hf) kk
theorem r_iastk (hx : p.tables.exec = Jvm.exec) (hb : c.code = cc) (hI : gInj N ad) (hA : ∀ k, k < N → A (ad k)) (hK : va_K D cl tys s) (hP : va_P D cl (gw N ad sp M) H) (hS : va_S A H0 H locs) (t0 : Nat) {cA : ClassId} {k n : Nat} (hk : k < N ∧ ∀ f, sp k f = .inl (cA, n, .inl f)) (ht : tys[t0]? = some (cA, .int)) {i x : Int32} {F : Mem → Option β} (hdg : decode cc pc = .ok (.iastore, 1))
    (hf : gd (inb i n) (bnd (mset M k i.toNatClampNeg x) F) = some res) (kk : ∀ (M' : Mem) (H1 : Heap) (locs1 : List Loc), va_P D cl (gw N ad sp M') H1 → va_S A H0 H1 locs1 → F M' = some res → W p l e R s m args below meth c H1 locs1 cells slots Q (F0 m (pc + 1) ls rest)) : W p l e R s m args below meth c H locs cells slots Q (F0 m pc ls (.int x :: .int i :: .ref (ad k) :: rest)) :=
  r_iast (ok := true) hx hb hI hA hK hP hS t0 (fun _ => hk) ht hdg (by rw [Bool.true_and]; exact hf) kk
theorem r_zastk (hx : p.tables.exec = Jvm.exec) (hb : c.code = cc) (hI : gInj N ad) (hA : ∀ k, k < N → A (ad k)) (hK : va_K D cl tys s) (hP : va_P D cl (gw N ad sp M) H) (hS : va_S A H0 H locs) (t0 : Nat) {cA : ClassId} {k n : Nat} (hk : k < N ∧ ∀ f, sp k f = .inl (cA, n, .inl f)) (ht : tys[t0]? = some (cA, .boolean)) {i x : Int32} {F : Mem → Option β} (hdg : decode cc pc = .ok (.bastore, 1))
    (hf : gd (inb i n) (bnd (mset M k i.toNatClampNeg (vp_nar .boolean x)) F) = some res) (kk : ∀ (M' : Mem) (H1 : Heap) (locs1 : List Loc), va_P D cl (gw N ad sp M') H1 → va_S A H0 H1 locs1 → F M' = some res → W p l e R s m args below meth c H1 locs1 cells slots Q (F0 m (pc + 1) ls rest)) : W p l e R s m args below meth c H locs cells slots Q (F0 m pc ls (.int x :: .int i :: .ref (ad k) :: rest)) :=
  r_zast (ok := true) hx hb hI hA hK hP hS t0 (fun _ => hk) ht hdg (by rw [Bool.true_and]; exact hf) kk
theorem r_getik (hx : p.tables.exec = Jvm.exec) (hb : c.code = cc) {own C : String} {T : u_T} {Nf ci index : Nat} {Ts : List Cond} (hts : ∀ w ∈ Ts, w.before args s = true) (hin : ∀ w ∈ u_ws C T Nf, w ∈ Ts) (hown : s.vm.findClass own = some m.cls) (hK : va_K D cl tys s) (hP : va_P D cl (gw N ad sp M) H) {k j : Nat} {fs : (Nat → Int32) → List Value} (hk : k < N ∧ ∀ f, sp k f = .inr (ci, fs f)) (hc : cl[ci]? = some (C, T, Nf)) (hj : j < Nf) (hlink : (Cond.fieldLink own index (T j).1 (T j).2.1 (T j).2.2.1).before args s = true) (hv : ∀ f, (fs f)[j]? = some (.int (f j))) {F : Int32 → Option β} (hdg : decode cc pc = .ok (.getfield index, 3))
    (hf : bnd (M k j) F = some res) (kk : ∀ x, F x = some res → W p l e R s m args below meth c H locs cells slots Q (F0 m (pc + 3) ls (.int x :: rest))) : W p l e R s m args below meth c H locs cells slots Q (F0 m pc ls (.ref (ad k) :: rest)) :=
  r_geti (ok := true) hx hb hts hin hown hK hP (fun _ => hk) hc hj hlink hv hdg hf kk
theorem r_putik (hx : p.tables.exec = Jvm.exec) (hb : c.code = cc) {own C : String} {T : u_T} {Nf ci index : Nat} {Ts : List Cond} (hts : ∀ w ∈ Ts, w.before args s = true) (hin : ∀ w ∈ u_ws C T Nf, w ∈ Ts) (ty0 : Nat → FieldType) (hty : ∀ k, k < Nf → parseFieldDescriptor (T k).2.2.1 = some (ty0 k)) (hnm : ∀ a, a < Nf → ∀ b, b < Nf → a ≠ b → (T a).2.1 ≠ (T b).2.1) (hown : s.vm.findClass own = some m.cls) (hI : gInj N ad) (hA : ∀ k, k < N → A (ad k)) (hK : va_K D cl tys s) (hP : va_P D cl (gw N ad sp M) H) (hS : va_S A H0 H locs) {k j : Nat} {fs : (Nat → Int32) → List Value} (hk : k < N ∧ ∀ f, sp k f = .inr (ci, fs f)) (hc : cl[ci]? = some (C, T, Nf)) (hj : j < Nf) (hlink : (Cond.fieldLink own index (T j).1 (T j).2.1 (T j).2.2.1).before args s = true) (hfin : (T j).2.2.2 = false) {x : Int32} (hn : narrow (ty0 j) (.int x) = .int x) (hfit : fits (ty0 j) (.int x) = true) (hl : ∀ f, j < (fs f).length) (hu : ∀ (f : Nat → Int32) (x : Int32), (fs f).set j (.int x) = fs (upd f j x)) {F : Mem → Option β} (hdg : decode cc pc = .ok (.putfield index, 3))
    (hf : bnd (mset M k j x) F = some res) (kk : ∀ (M' : Mem) (H1 : Heap) (locs1 : List Loc), va_P D cl (gw N ad sp M') H1 → va_S A H0 H1 locs1 → F M' = some res → W p l e R s m args below meth c H1 locs1 cells slots Q (F0 m (pc + 3) ls rest)) : W p l e R s m args below meth c H locs cells slots Q (F0 m pc ls (.int x :: .ref (ad k) :: rest)) :=
  r_puti (ok := true) hx hb hts hin ty0 hty hnm hown hI hA hK hP hS (fun _ => hk) hc hj hlink hfin hn hfit hl hu hdg hf kk
theorem r_aret {v : Value} {rt : FieldType} (hx : p.tables.exec = Jvm.exec) (hb : c.code = cc) (hr : meth.sig.returnType = some rt) (hrt : (∃ n, rt = .object n) ∨ ∃ t, rt = .array t) (hv : v = .null ∨ ∃ a, v = .ref a) (hlocks : meth.locks = false) (hP : va_P D cl (gw N ad sp M) H) (hS : va_S A s.heap H locs) (hdg : decode cc pc = .ok (.areturn, 1)) : W p l e R s m args below meth c H locs 0 0 (MQ below (Qf D cl N ad sp A (some v) M) args s 0 0 A) (F0 m pc ls [v]) :=
  W.aret hx hb hr hrt hv (fun t ht hW => ⟨rfl, by rw [ht]; exact hP, hS.F ht⟩) hS.2.2 hdg hlocks
theorem r_if_eq (hx : p.tables.exec = Jvm.exec) (hb : c.code = cc) {x : Int32} {off : Int} {tgt : Nat} (hdg : decode cc pc = .ok (.ifCond .eq off, 3)) (ht : (pc : Int) + off = (tgt : Int)) {a b : Option β} (hf : (if x = 0 then a else b) = some res)
    (kt : a = some res → W p l e R s m args below meth c H locs cells slots Q (F0 m tgt ls rest)) (kf : b = some res → W p l e R s m args below meth c H locs cells slots Q (F0 m (pc + 3) ls rest)) : W p l e R s m args below meth c H locs cells slots Q (F0 m pc ls (.int x :: rest)) :=
  lv_if_eq hx hb hdg ht (fun h => kt (by rw [if_pos h] at hf; exact hf)) (fun h => kf (by rw [if_neg h] at hf; exact hf))
theorem r_if_ne (hx : p.tables.exec = Jvm.exec) (hb : c.code = cc) {x : Int32} {off : Int} {tgt : Nat} (hdg : decode cc pc = .ok (.ifCond .ne off, 3)) (ht : (pc : Int) + off = (tgt : Int)) {a b : Option β} (hf : (if x = 0 then b else a) = some res)
    (kt : a = some res → W p l e R s m args below meth c H locs cells slots Q (F0 m tgt ls rest)) (kf : b = some res → W p l e R s m args below meth c H locs cells slots Q (F0 m (pc + 3) ls rest)) : W p l e R s m args below meth c H locs cells slots Q (F0 m pc ls (.int x :: rest)) :=
  lv_if_ne hx hb hdg ht (fun h => kt (by rw [if_neg h] at hf; exact hf)) (fun h => kf (by rw [if_pos h] at hf; exact hf))
theorem r_if_lt (hx : p.tables.exec = Jvm.exec) (hb : c.code = cc) {x : Int32} {off : Int} {tgt : Nat} (hdg : decode cc pc = .ok (.ifCond .lt off, 3)) (ht : (pc : Int) + off = (tgt : Int)) {a b : Option β} (hf : (if x < 0 then a else b) = some res)
    (kt : a = some res → W p l e R s m args below meth c H locs cells slots Q (F0 m tgt ls rest)) (kf : b = some res → W p l e R s m args below meth c H locs cells slots Q (F0 m (pc + 3) ls rest)) : W p l e R s m args below meth c H locs cells slots Q (F0 m pc ls (.int x :: rest)) :=
  lv_if_lt hx hb hdg ht (fun h => kt (by rw [if_pos h] at hf; exact hf)) (fun h => kf (by rw [if_neg h] at hf; exact hf))
theorem r_if_ge (hx : p.tables.exec = Jvm.exec) (hb : c.code = cc) {x : Int32} {off : Int} {tgt : Nat} (hdg : decode cc pc = .ok (.ifCond .ge off, 3)) (ht : (pc : Int) + off = (tgt : Int)) {a b : Option β} (hf : (if 0 ≤ x then a else b) = some res)
    (kt : a = some res → W p l e R s m args below meth c H locs cells slots Q (F0 m tgt ls rest)) (kf : b = some res → W p l e R s m args below meth c H locs cells slots Q (F0 m (pc + 3) ls rest)) : W p l e R s m args below meth c H locs cells slots Q (F0 m pc ls (.int x :: rest)) :=
  lv_if_ge hx hb hdg ht (fun h => kt (by rw [if_pos h] at hf; exact hf)) (fun h => kf (by rw [if_neg h] at hf; exact hf))
theorem r_if_gt (hx : p.tables.exec = Jvm.exec) (hb : c.code = cc) {x : Int32} {off : Int} {tgt : Nat} (hdg : decode cc pc = .ok (.ifCond .gt off, 3)) (ht : (pc : Int) + off = (tgt : Int)) {a b : Option β} (hf : (if 0 < x then a else b) = some res)
    (kt : a = some res → W p l e R s m args below meth c H locs cells slots Q (F0 m tgt ls rest)) (kf : b = some res → W p l e R s m args below meth c H locs cells slots Q (F0 m (pc + 3) ls rest)) : W p l e R s m args below meth c H locs cells slots Q (F0 m pc ls (.int x :: rest)) :=
  lv_if_gt hx hb hdg ht (fun h => kt (by rw [if_pos h] at hf; exact hf)) (fun h => kf (by rw [if_neg h] at hf; exact hf))
theorem r_if_le (hx : p.tables.exec = Jvm.exec) (hb : c.code = cc) {x : Int32} {off : Int} {tgt : Nat} (hdg : decode cc pc = .ok (.ifCond .le off, 3)) (ht : (pc : Int) + off = (tgt : Int)) {a b : Option β} (hf : (if x ≤ 0 then a else b) = some res)
    (kt : a = some res → W p l e R s m args below meth c H locs cells slots Q (F0 m tgt ls rest)) (kf : b = some res → W p l e R s m args below meth c H locs cells slots Q (F0 m (pc + 3) ls rest)) : W p l e R s m args below meth c H locs cells slots Q (F0 m pc ls (.int x :: rest)) :=
  lv_if_le hx hb hdg ht (fun h => kt (by rw [if_pos h] at hf; exact hf)) (fun h => kf (by rw [if_neg h] at hf; exact hf))
theorem r_icmp_eq (hx : p.tables.exec = Jvm.exec) (hb : c.code = cc) {x y : Int32} {off : Int} {tgt : Nat} (hdg : decode cc pc = .ok (.if_icmp .eq off, 3)) (ht : (pc : Int) + off = (tgt : Int)) {a b : Option β} (hf : (if x = y then a else b) = some res)
    (kt : a = some res → W p l e R s m args below meth c H locs cells slots Q (F0 m tgt ls rest)) (kf : b = some res → W p l e R s m args below meth c H locs cells slots Q (F0 m (pc + 3) ls rest)) : W p l e R s m args below meth c H locs cells slots Q (F0 m pc ls (.int y :: .int x :: rest)) :=
  lv_icmp_eq hx hb hdg ht (fun h => kt (by rw [if_pos h] at hf; exact hf)) (fun h => kf (by rw [if_neg h] at hf; exact hf))
theorem r_icmp_ne (hx : p.tables.exec = Jvm.exec) (hb : c.code = cc) {x y : Int32} {off : Int} {tgt : Nat} (hdg : decode cc pc = .ok (.if_icmp .ne off, 3)) (ht : (pc : Int) + off = (tgt : Int)) {a b : Option β} (hf : (if x = y then b else a) = some res)
    (kt : a = some res → W p l e R s m args below meth c H locs cells slots Q (F0 m tgt ls rest)) (kf : b = some res → W p l e R s m args below meth c H locs cells slots Q (F0 m (pc + 3) ls rest)) : W p l e R s m args below meth c H locs cells slots Q (F0 m pc ls (.int y :: .int x :: rest)) :=
  lv_icmp_ne hx hb hdg ht (fun h => kt (by rw [if_neg h] at hf; exact hf)) (fun h => kf (by rw [if_pos h] at hf; exact hf))
theorem r_icmp_lt (hx : p.tables.exec = Jvm.exec) (hb : c.code = cc) {x y : Int32} {off : Int} {tgt : Nat} (hdg : decode cc pc = .ok (.if_icmp .lt off, 3)) (ht : (pc : Int) + off = (tgt : Int)) {a b : Option β} (hf : (if x < y then a else b) = some res)
    (kt : a = some res → W p l e R s m args below meth c H locs cells slots Q (F0 m tgt ls rest)) (kf : b = some res → W p l e R s m args below meth c H locs cells slots Q (F0 m (pc + 3) ls rest)) : W p l e R s m args below meth c H locs cells slots Q (F0 m pc ls (.int y :: .int x :: rest)) :=
  lv_icmp_lt hx hb hdg ht (fun h => kt (by rw [if_pos h] at hf; exact hf)) (fun h => kf (by rw [if_neg h] at hf; exact hf))
theorem r_icmp_ge (hx : p.tables.exec = Jvm.exec) (hb : c.code = cc) {x y : Int32} {off : Int} {tgt : Nat} (hdg : decode cc pc = .ok (.if_icmp .ge off, 3)) (ht : (pc : Int) + off = (tgt : Int)) {a b : Option β} (hf : (if y ≤ x then a else b) = some res)
    (kt : a = some res → W p l e R s m args below meth c H locs cells slots Q (F0 m tgt ls rest)) (kf : b = some res → W p l e R s m args below meth c H locs cells slots Q (F0 m (pc + 3) ls rest)) : W p l e R s m args below meth c H locs cells slots Q (F0 m pc ls (.int y :: .int x :: rest)) :=
  lv_icmp_ge hx hb hdg ht (fun h => kt (by rw [if_pos h] at hf; exact hf)) (fun h => kf (by rw [if_neg h] at hf; exact hf))
theorem r_icmp_gt (hx : p.tables.exec = Jvm.exec) (hb : c.code = cc) {x y : Int32} {off : Int} {tgt : Nat} (hdg : decode cc pc = .ok (.if_icmp .gt off, 3)) (ht : (pc : Int) + off = (tgt : Int)) {a b : Option β} (hf : (if y < x then a else b) = some res)
    (kt : a = some res → W p l e R s m args below meth c H locs cells slots Q (F0 m tgt ls rest)) (kf : b = some res → W p l e R s m args below meth c H locs cells slots Q (F0 m (pc + 3) ls rest)) : W p l e R s m args below meth c H locs cells slots Q (F0 m pc ls (.int y :: .int x :: rest)) :=
  lv_icmp_gt hx hb hdg ht (fun h => kt (by rw [if_pos h] at hf; exact hf)) (fun h => kf (by rw [if_neg h] at hf; exact hf))
theorem r_icmp_le (hx : p.tables.exec = Jvm.exec) (hb : c.code = cc) {x y : Int32} {off : Int} {tgt : Nat} (hdg : decode cc pc = .ok (.if_icmp .le off, 3)) (ht : (pc : Int) + off = (tgt : Int)) {a b : Option β} (hf : (if x ≤ y then a else b) = some res)
    (kt : a = some res → W p l e R s m args below meth c H locs cells slots Q (F0 m tgt ls rest)) (kf : b = some res → W p l e R s m args below meth c H locs cells slots Q (F0 m (pc + 3) ls rest)) : W p l e R s m args below meth c H locs cells slots Q (F0 m pc ls (.int y :: .int x :: rest)) :=
  lv_icmp_le hx hb hdg ht (fun h => kt (by rw [if_pos h] at hf; exact hf)) (fun h => kf (by rw [if_neg h] at hf; exact hf))
theorem r_tald (hx : p.tables.exec = Jvm.exec) (hb : c.code = cc) {t n : Nat} {f : Nat → Int32} (hT : va_T .int t n (fun j => .int (f j)) A s s.heap) (hS : va_S A s.heap H locs) {i : Int32} {F : Int32 → Option β} (hdg : decode cc pc = .ok (.iaload, 1))
    (hf : gd (inb i n) (bnd (f i.toNatClampNeg) F) = some res) (kk : ∀ x, F x = some res → W p l e R s m args below meth c H locs cells slots Q (F0 m (pc + 1) ls (.int x :: rest))) : W p l e R s m args below meth c H locs cells slots Q (F0 m pc ls (.int i :: .ref t :: rest)) := by
  obtain ⟨h1, hf⟩ := gd_s hf
  exact va_ti hx hb hT hS (inb_s h1) rfl hdg (kk _ hf)
theorem tsw_out {x : Int32} (n : Nat) (h : ∀ j, j ≤ n → x ≠ Int32.ofNat j) (hn : n < 1000 := by decide) : x.toInt < 0 ∨ ((n : Nat) : Int) < x.toInt := by
  rcases Int.lt_or_le x.toInt 0 with h1 | h1
  · exact Or.inl h1
  · rcases Int.lt_or_le (n : Int) x.toInt with h2 | h2
    · exact Or.inr h2
    · refine absurd ?_ (h x.toInt.toNat (by omega))
      apply Int32.toInt_inj.mp
      have h3 : (nI x.toInt.toNat).toInt = ((x.toInt.toNat : Nat) : Int) := nI_toInt (by omega)
      have h4 : (Int32.ofNat x.toInt.toNat).toInt = ((x.toInt.toNat : Nat) : Int) := h3
      rw [h4]
      omega
theorem r_cpy (hx : p.tables.exec = Jvm.exec) (hb : c.code = cc) (hml : c.maxLocals = ls.size) {own : String} {index : Nat} (hown : s.vm.findClass own = some m.cls) (hlink : (Cond.methodLink own index arraycopyName).before args s = true) (hnat : (Cond.native arraycopyName).before args s = true) (hstat : (Cond.static arraycopyName).before args s = true) (hini : (Cond.initialized "java/lang/System").before args s = true) (hI : gInj N ad) (hA : ∀ k, k < N → A (ad k)) (hK : va_K D cl tys s) (hP : va_P D cl (gw N ad sp M) H) (hS : va_S A H0 H locs) {cA : ClassId} {k0 k1 n0 n1 : Nat} {ok0 ok1 : Bool} (hk0 : ok0 = true → k0 < N ∧ ∀ f, sp k0 f = .inl (cA, n0, .inl f)) (hk1 : ok1 = true → k1 < N ∧ ∀ f, sp k1 f = .inl (cA, n1, .inl f)) (ht : tys[0]? = some (cA, .int)) {sp0 dp n : Int32} {a0 b0 c0 : Nat} (e1 : ¬ sp0 < 0 ∧ sp0.toNatClampNeg = a0) (e2 : ¬ dp < 0 ∧ dp.toNatClampNeg = b0) (e3 : ¬ n < 0 ∧ n.toNatClampNeg = c0) (hfr : 1 ≤ R.frames) (hlo : (rest.map fun v => v.category).sum + (nativeFrameWords "java/lang/System" "arraycopy" 5 + 11) ≤ R.locals) {F : Mem → Option β} (hdg : decode cc pc = .ok (.invokestatic index, 3))
    (hf : gd (ok0 && ok1 && decide (a0 + c0 ≤ n0) && decide (b0 + c0 ≤ n1)) (bnd (mrow M k1 (va_cpy (M k0) (M k1) a0 b0 c0)) F) = some res) (kk : ∀ (M' : Mem) (H1 : Heap) (locs1 : List Loc), va_P D cl (gw N ad sp M') H1 → va_S A H0 H1 locs1 → F M' = some res → W p l e R s m args below meth c H1 locs1 cells slots Q (F0 m (pc + 3) ls rest)) : W p l e R s m args below meth c H locs cells slots Q (F0 m pc ls (.int n :: .int dp :: .ref (ad k1) :: .int sp0 :: .ref (ad k0) :: rest)) := by
  obtain ⟨h1, hf⟩ := gd_s hf
  rw [Bool.and_eq_true, Bool.and_eq_true, Bool.and_eq_true, decide_eq_true_iff, decide_eq_true_iff] at h1
  obtain ⟨⟨⟨o0, o1⟩, g0⟩, g1⟩ := h1
  obtain ⟨hN0, hs0⟩ := hk0 o0
  obtain ⟨hN1, hs1⟩ := hk1 o1
  obtain ⟨e1a, rfl⟩ := e1
  obtain ⟨e2a, rfl⟩ := e2
  obtain ⟨e3a, rfl⟩ := e3
  refine va_copyi (ty := .int) hx hb hml hown hlink hnat hstat hini hK hP (gw_D hI hA) hS k0 k1 0 0 (by rw [gw_at hN0, hs0]) (by rw [gw_at hN1, hs1]) ht ht rfl e1a e2a e3a g0 g1 (fun _ _ => rfl) hfr hlo hdg (fun H1 locs1 hP1 _ hS1 => kk _ H1 locs1 ?_ hS1 hf)
  rw [← hs1 (va_cpy (M k0) (M k1) sp0.toNatClampNeg dp.toNatClampNeg n.toNatClampNeg), gw_set hN1] at hP1
  exact hP1
theorem r_cpyt (hx : p.tables.exec = Jvm.exec) (hb : c.code = cc) (hml : c.maxLocals = ls.size) {own : String} {index : Nat} (hown : s.vm.findClass own = some m.cls) (hlink : (Cond.methodLink own index arraycopyName).before args s = true) (hnat : (Cond.native arraycopyName).before args s = true) (hstat : (Cond.static arraycopyName).before args s = true) (hini : (Cond.initialized "java/lang/System").before args s = true) (hI : gInj N ad) (hA : ∀ k, k < N → A (ad k)) (hK : va_K D cl tys s) (hP : va_P D cl (gw N ad sp M) H) {t n0 : Nat} {f : Nat → Int32} (hT : va_T .int t n0 (fun j => .int (f j)) A s s.heap) (hS : va_S A s.heap H locs) {cA : ClassId} {k1 n1 : Nat} {ok1 : Bool} (hk1 : ok1 = true → k1 < N ∧ ∀ f, sp k1 f = .inl (cA, n1, .inl f)) (ht : tys[0]? = some (cA, .int)) {sp0 dp n : Int32} {a0 b0 c0 : Nat} (e1 : ¬ sp0 < 0 ∧ sp0.toNatClampNeg = a0) (e2 : ¬ dp < 0 ∧ dp.toNatClampNeg = b0) (e3 : ¬ n < 0 ∧ n.toNatClampNeg = c0) (hin0 : a0 + c0 ≤ n0) (hfr : 1 ≤ R.frames) (hlo : (rest.map fun v => v.category).sum + (nativeFrameWords "java/lang/System" "arraycopy" 5 + 11) ≤ R.locals) {F : Mem → Option β} (hdg : decode cc pc = .ok (.invokestatic index, 3))
    (hf : gd (ok1 && decide (b0 + c0 ≤ n1)) (bnd (mrow M k1 (va_cpy f (M k1) a0 b0 c0)) F) = some res) (kk : ∀ (M' : Mem) (H1 : Heap) (locs1 : List Loc), va_P D cl (gw N ad sp M') H1 → va_S A s.heap H1 locs1 → F M' = some res → W p l e R s m args below meth c H1 locs1 cells slots Q (F0 m (pc + 3) ls rest)) : W p l e R s m args below meth c H locs cells slots Q (F0 m pc ls (.int n :: .int dp :: .ref (ad k1) :: .int sp0 :: .ref t :: rest)) := by
  obtain ⟨h1, hf⟩ := gd_s hf
  rw [Bool.and_eq_true, decide_eq_true_iff] at h1
  obtain ⟨hN1, hs1⟩ := hk1 h1.1
  obtain ⟨e1a, rfl⟩ := e1
  obtain ⟨e2a, rfl⟩ := e2
  obtain ⟨e3a, rfl⟩ := e3
  have big : ∀ z : Int32, ¬ z < 0 → z.toInt = (z.toNatClampNeg : Int) := fun z hz => by
    have h0 := Int32.le_iff_toInt_le.mp (Int32.not_lt.mp hz)
    have h1 : (0 : Int) ≤ z.toInt := h0
    show z.toInt = ((z.toInt.toNat : Nat) : Int)
    omega
  obtain ⟨cs, c1, ⟨c2, ka, c3, ca, c4⟩, c5, c6, -, c7, c8⟩ := hT
  have hlt : t < s.heap.size := (Array.getElem?_eq_some_iff.mp c1).1
  have hcs : H[t]? = some cs := by rw [hS.2.1 t hlt c8]; exact c1
  have ha1 : (gw N ad sp M)[k1]? = some (ad k1, .inl (cA, n1, .inl (M k1))) := by rw [gw_at hN1, hs1]
  have hcd : H[ad k1]? = some (vp_cell cA (n1, .inl (M k1))) := hP k1 _ ha1
  have hlt1 : ad k1 < H.size := (Array.getElem?_eq_some_iff.mp hcd).1
  obtain ⟨-, kb, d3, cb, d4⟩ := (hK.2 0 _ ht).1 n1 (fun j => .int (M k1 j))
  have hsz : (vp_cell cA (n1, .inl (M k1))).slots.size = n1 := by
    show (arrV cA n1 (fun j => .int (M k1 j))).slots.size = n1
    rw [arrV_size]
  intro T hT X
  have hval : ∀ i, i < n.toNatClampNeg → cs.slots.getD (sp0.toNatClampNeg + i) .null = .int (f (sp0.toNatClampNeg + i)) := fun i hi => by
    rw [Array.getD_eq_getD_getElem?, c7 _ (by omega)]
    rfl
  obtain ⟨vm', X', step⟩ := X.arraycopy hx hown hlink hnat hstat hini (src := t) (dst := ad k1) (cs := cs) (cd := vp_cell cA (n1, .inl (M k1))) (srcPos := sp0) (destPos := dp) (n := n) (by rw [hT]; exact hcs) (by rw [hT]; exact hcd)
    c2 (fun _ h => by cases h) c5 (fun h => by cases h) c3 d3 c4 d4 (by simp [refKind]) e1a e2a e3a
    (by rw [big sp0 e1a, big n e3a]; omega) (by rw [big dp e2a, big n e3a, hsz]; have := h1.2; omega)
    (fun vm₁ _ i hi => by rw [hval i hi]; exact ⟨rfl, trivial⟩)
    (g := F0 m pc ls (.int n :: .int dp :: .ref (ad k1) :: .int sp0 :: .ref t :: rest)) rfl (by rw [hml]) (rest := rest) rfl (by rw [hb]; exact hdg) hfr (by show 2 * 0 + _ + _ ≤ _; omega)
  have ec : copied cs (vp_cell cA (n1, .inl (M k1))) sp0 dp n = vp_cell cA (n1, .inl (va_cpy f (M k1) sp0.toNatClampNeg dp.toNatClampNeg n.toNatClampNeg)) := va_copiedX (fun z => .int z) cs cA f (M k1) c7 hin0
  rw [ec] at X' step
  have hA1 : A (ad k1) := hA k1 hN1
  have oq : ∀ q : Nat, q ≠ ad k1 → (H.setIfInBounds (ad k1) (vp_cell cA (n1, .inl (va_cpy f (M k1) sp0.toNatClampNeg dp.toNatClampNeg n.toNatClampNeg))))[q]? = H[q]? := fun q hq => by simp [Array.getElem?_setIfInBounds, Ne.symm hq]
  have hP1 := hP.set (gw_D hI hA) ha1 (e := .inl (cA, n1, .inl (va_cpy f (M k1) sp0.toNatClampNeg dp.toNatClampNeg n.toNatClampNeg))) (show (H.setIfInBounds (ad k1) _)[ad k1]? = some _ by simp [Array.getElem?_setIfInBounds, hlt1]) oq
  rw [← hs1 (va_cpy f (M k1) sp0.toNatClampNeg dp.toNatClampNeg n.toNatClampNeg), gw_set hN1] at hP1
  obtain ⟨t2, a1, b1⟩ := kk _ _ (locs ++ (cs.stretch sp0.toNatClampNeg n.toNatClampNeg).zipIdx.map fun q => ⟨ad k1, dp.toNatClampNeg + q.2⟩) hP1 ⟨by simp; exact hS.1, fun q g1 g2 => by rw [oq q (fun h => g2 (h ▸ hA1))]; exact hS.2.1 q g1 g2, fun q hq => by
      rcases List.mem_append.mp hq with h | h
      · exact hS.2.2 q h
      · obtain ⟨z, -, hz⟩ := List.mem_map.mp h
        rw [← hz]
        exact hA1⟩ hf _ (by rw [← hT]; rfl) X'
  exact ⟨t2, step t2 a1, b1⟩
end RK
def isB (x : Int32) : Bool := decide (x = 0 ∨ x = 1)
theorem isB_n {x : Int32} (h : isB x = true) : narrow .boolean (.int x) = .int x := by
  rcases (show x = 0 ∨ x = 1 from of_decide_eq_true h) with rfl | rfl <;> decide
theorem isB_f {x : Int32} (h : isB x = true) : fits .boolean (.int x) = true := by
  rcases (show x = 0 ∨ x = 1 from of_decide_eq_true h) with rfl | rfl <;> decide
abbrev tysW (cI cZ cP cR : ClassId) : List (ClassId × FieldType) := [(cI, .int), (cZ, .boolean), (cP, .object "PageMonitor$Page"), (cR, .array .int)]
def lnC (k : Nat) : Nat := if k < 33 then 16 else if k < 133 then (if (k - 33) % 5 = 1 ∨ (k - 33) % 5 = 3 then 4 else 8) else if k = 136 then 64 else if k = 137 ∨ k = 138 then 16 else 8
def isI (k : Nat) : Bool := decide ((5 ≤ k ∧ k < 33) ∨ (33 ≤ k ∧ k < 133 ∧ (k - 33) % 5 ≠ 0) ∨ k = 134 ∨ (136 ≤ k ∧ k < 143))
def isPg (k : Nat) : Bool := decide (33 ≤ k ∧ k < 133 ∧ (k - 33) % 5 = 0)
def spC (ad : Nat → Nat) (cI cP cR : ClassId) : Shp := fun k f =>
  if k = 0 then .inr (5, [.ref (ad 1), .ref (ad 2), .ref (ad 133)])
  else if k = 1 then .inr (1, [.ref (ad 2), .ref (ad 133), .int (f 2), .int (f 3), .ref (ad 139), .ref (ad 140), .ref (ad 141), .ref (ad 142)])
  else if k = 2 then .inr (4, [.ref (ad 3), .ref (ad 4)])
  else if k = 3 then .inl (cP, 20, .inr (.inr (.inr (.inr (fun j => some (ad (33 + 5 * j)))))))
  else if k = 4 then .inl (cR, 28, .inr (.inr (.inr (.inr (fun j => some (ad (5 + j)))))))
  else if k = 133 then .inr (2, [.ref (ad 134), .ref (ad 135), .ref (ad 138)])
  else if k = 135 then .inr (0, [.ref (ad 136), .ref (ad 137)])
  else if isPg k = true then .inr (3, [.int (f 0), .int (f 1), .int (f 2), .int (f 3), .int (f 4), .ref (ad (k + 1)), .ref (ad (k + 2)), .int (f 7), .int (f 8), .int (f 9), .ref (ad (k + 3)), .ref (ad (k + 4))])
  else .inl (cI, lnC k, .inl f)
theorem isPg_s {ad : Nat → Nat} {cI cP cR : ClassId} {k : Nat} (h : isPg k = true) : k < 143 ∧ ∀ f, spC ad cI cP cR k f = .inr (3, [.int (f 0), .int (f 1), .int (f 2), .int (f 3), .int (f 4), .ref (ad (k + 1)), .ref (ad (k + 2)), .int (f 7), .int (f 8), .int (f 9), .ref (ad (k + 3)), .ref (ad (k + 4))]) := by
  have h2 : 33 ≤ k ∧ k < 133 ∧ (k - 33) % 5 = 0 := of_decide_eq_true h
  refine ⟨by omega, fun f => ?_⟩
  unfold spC
  rw [if_neg (by omega), if_neg (by omega), if_neg (by omega), if_neg (by omega), if_neg (by omega), if_neg (by omega), if_neg (by omega), if_pos h]
theorem isI_s {ad : Nat → Nat} {cI cP cR : ClassId} {k : Nat} (h : isI k = true) : k < 143 ∧ ∀ f, spC ad cI cP cR k f = .inl (cI, lnC k, .inl f) := by
  have h2 : (5 ≤ k ∧ k < 33) ∨ (33 ≤ k ∧ k < 133 ∧ (k - 33) % 5 ≠ 0) ∨ k = 134 ∨ (136 ≤ k ∧ k < 143) := of_decide_eq_true h
  have h3 : ¬ isPg k = true := fun q => by
    have q2 : 33 ≤ k ∧ k < 133 ∧ (k - 33) % 5 = 0 := of_decide_eq_true q
    omega
  refine ⟨by omega, fun f => ?_⟩
  unfold spC
  rw [if_neg (by omega), if_neg (by omega), if_neg (by omega), if_neg (by omega), if_neg (by omega), if_neg (by omega), if_neg (by omega), if_neg h3]
theorem obX5 {ad : Nat → Nat} {cI cP cR : ClassId} : 0 < 143 ∧ ∀ f, spC ad cI cP cR 0 f = .inr (5, [.ref (ad 1), .ref (ad 2), .ref (ad 133)]) := ⟨by decide, fun _ => rfl⟩
theorem obX1 {ad : Nat → Nat} {cI cP cR : ClassId} : 1 < 143 ∧ ∀ f, spC ad cI cP cR 1 f = .inr (1, [.ref (ad 2), .ref (ad 133), .int (f 2), .int (f 3), .ref (ad 139), .ref (ad 140), .ref (ad 141), .ref (ad 142)]) := ⟨by decide, fun _ => rfl⟩
theorem obX4 {ad : Nat → Nat} {cI cP cR : ClassId} : 2 < 143 ∧ ∀ f, spC ad cI cP cR 2 f = .inr (4, [.ref (ad 3), .ref (ad 4)]) := ⟨by decide, fun _ => rfl⟩
theorem obX2 {ad : Nat → Nat} {cI cP cR : ClassId} : 133 < 143 ∧ ∀ f, spC ad cI cP cR 133 f = .inr (2, [.ref (ad 134), .ref (ad 135), .ref (ad 138)]) := ⟨by decide, fun _ => rfl⟩
theorem obX0 {ad : Nat → Nat} {cI cP cR : ClassId} : 135 < 143 ∧ ∀ f, spC ad cI cP cR 135 f = .inr (0, [.ref (ad 136), .ref (ad 137)]) := ⟨by decide, fun _ => rfl⟩
theorem ca134 {ad : Nat → Nat} {cI cP cR : ClassId} : 134 < 143 ∧ ∀ f, spC ad cI cP cR 134 f = .inl (cI, 8, .inl f) := ⟨by decide, fun _ => rfl⟩
theorem ca136 {ad : Nat → Nat} {cI cP cR : ClassId} : 136 < 143 ∧ ∀ f, spC ad cI cP cR 136 f = .inl (cI, 64, .inl f) := ⟨by decide, fun _ => rfl⟩
theorem ca137 {ad : Nat → Nat} {cI cP cR : ClassId} : 137 < 143 ∧ ∀ f, spC ad cI cP cR 137 f = .inl (cI, 16, .inl f) := ⟨by decide, fun _ => rfl⟩
theorem ca138 {ad : Nat → Nat} {cI cP cR : ClassId} : 138 < 143 ∧ ∀ f, spC ad cI cP cR 138 f = .inl (cI, 16, .inl f) := ⟨by decide, fun _ => rfl⟩
theorem ca139 {ad : Nat → Nat} {cI cP cR : ClassId} : 139 < 143 ∧ ∀ f, spC ad cI cP cR 139 f = .inl (cI, 8, .inl f) := ⟨by decide, fun _ => rfl⟩
theorem ca140 {ad : Nat → Nat} {cI cP cR : ClassId} : 140 < 143 ∧ ∀ f, spC ad cI cP cR 140 f = .inl (cI, 8, .inl f) := ⟨by decide, fun _ => rfl⟩
theorem ca141 {ad : Nat → Nat} {cI cP cR : ClassId} : 141 < 143 ∧ ∀ f, spC ad cI cP cR 141 f = .inl (cI, 8, .inl f) := ⟨by decide, fun _ => rfl⟩
theorem ca142 {ad : Nat → Nat} {cI cP cR : ClassId} : 142 < 143 ∧ ∀ f, spC ad cI cP cR 142 f = .inl (cI, 8, .inl f) := ⟨by decide, fun _ => rfl⟩
theorem ra3 {ad : Nat → Nat} {cI cP cR : ClassId} : 3 < 143 ∧ ∀ f, spC ad cI cP cR 3 f = .inl (cP, 20, .inr (.inr (.inr (.inr (fun j => some (ad (33 + 5 * j))))))) := ⟨by decide, fun _ => rfl⟩
theorem ra4 {ad : Nat → Nat} {cI cP cR : ClassId} : 4 < 143 ∧ ∀ f, spC ad cI cP cR 4 f = .inl (cR, 28, .inr (.inr (.inr (.inr (fun j => some (ad (5 + j))))))) := ⟨by decide, fun _ => rfl⟩
def lnM (k : Nat) : Nat := [0, 8, 128, 20, 20, 20, 320, 160, 160, 80, 32000, 20, 160, 20, 20, 20, 100, 4, 64, 8, 1700, 64, 8, 8, 24].getD k 0
def isZM (k : Nat) : Bool := decide (k = 13 ∨ k = 15)
def isIM (k : Nat) : Bool := decide (1 ≤ k ∧ k < 25 ∧ isZM k = false)
def spM (ad : Nat → Nat) (cI cZ : ClassId) : Shp := fun k f => if k = 0 then .inr (6, [.int (f 0), .ref (ad 1), .ref (ad 2), .ref (ad 3), .ref (ad 4), .ref (ad 5), .ref (ad 6), .ref (ad 7), .ref (ad 8), .ref (ad 9), .ref (ad 10), .ref (ad 11), .ref (ad 12), .ref (ad 13), .ref (ad 14), .ref (ad 15), .ref (ad 16), .int (f 17), .int (f 18), .int (f 19), .int (f 20), .int (f 21), .ref (ad 17), .int (f 23), .int (f 24), .ref (ad 18), .ref (ad 19), .ref (ad 20), .ref (ad 21), .ref (ad 22), .ref (ad 23), .ref (ad 24)]) else if isZM k = true then .inl (cZ, lnM k, .inl f) else .inl (cI, lnM k, .inl f)
theorem obX6 {ad : Nat → Nat} {cI cZ : ClassId} : 0 < 25 ∧ ∀ f, spM ad cI cZ 0 f = .inr (6, [.int (f 0), .ref (ad 1), .ref (ad 2), .ref (ad 3), .ref (ad 4), .ref (ad 5), .ref (ad 6), .ref (ad 7), .ref (ad 8), .ref (ad 9), .ref (ad 10), .ref (ad 11), .ref (ad 12), .ref (ad 13), .ref (ad 14), .ref (ad 15), .ref (ad 16), .int (f 17), .int (f 18), .int (f 19), .int (f 20), .int (f 21), .ref (ad 17), .int (f 23), .int (f 24), .ref (ad 18), .ref (ad 19), .ref (ad 20), .ref (ad 21), .ref (ad 22), .ref (ad 23), .ref (ad 24)]) := ⟨by decide, fun _ => rfl⟩
theorem ma1 {ad : Nat → Nat} {cI cZ : ClassId} : 1 < 25 ∧ ∀ f, spM ad cI cZ 1 f = .inl (cI, 8, .inl f) := ⟨by decide, fun _ => rfl⟩
theorem ma2 {ad : Nat → Nat} {cI cZ : ClassId} : 2 < 25 ∧ ∀ f, spM ad cI cZ 2 f = .inl (cI, 128, .inl f) := ⟨by decide, fun _ => rfl⟩
theorem ma3 {ad : Nat → Nat} {cI cZ : ClassId} : 3 < 25 ∧ ∀ f, spM ad cI cZ 3 f = .inl (cI, 20, .inl f) := ⟨by decide, fun _ => rfl⟩
theorem ma4 {ad : Nat → Nat} {cI cZ : ClassId} : 4 < 25 ∧ ∀ f, spM ad cI cZ 4 f = .inl (cI, 20, .inl f) := ⟨by decide, fun _ => rfl⟩
theorem ma5 {ad : Nat → Nat} {cI cZ : ClassId} : 5 < 25 ∧ ∀ f, spM ad cI cZ 5 f = .inl (cI, 20, .inl f) := ⟨by decide, fun _ => rfl⟩
theorem ma6 {ad : Nat → Nat} {cI cZ : ClassId} : 6 < 25 ∧ ∀ f, spM ad cI cZ 6 f = .inl (cI, 320, .inl f) := ⟨by decide, fun _ => rfl⟩
theorem ma7 {ad : Nat → Nat} {cI cZ : ClassId} : 7 < 25 ∧ ∀ f, spM ad cI cZ 7 f = .inl (cI, 160, .inl f) := ⟨by decide, fun _ => rfl⟩
theorem ma8 {ad : Nat → Nat} {cI cZ : ClassId} : 8 < 25 ∧ ∀ f, spM ad cI cZ 8 f = .inl (cI, 160, .inl f) := ⟨by decide, fun _ => rfl⟩
theorem ma9 {ad : Nat → Nat} {cI cZ : ClassId} : 9 < 25 ∧ ∀ f, spM ad cI cZ 9 f = .inl (cI, 80, .inl f) := ⟨by decide, fun _ => rfl⟩
theorem ma10 {ad : Nat → Nat} {cI cZ : ClassId} : 10 < 25 ∧ ∀ f, spM ad cI cZ 10 f = .inl (cI, 32000, .inl f) := ⟨by decide, fun _ => rfl⟩
theorem ma11 {ad : Nat → Nat} {cI cZ : ClassId} : 11 < 25 ∧ ∀ f, spM ad cI cZ 11 f = .inl (cI, 20, .inl f) := ⟨by decide, fun _ => rfl⟩
theorem ma12 {ad : Nat → Nat} {cI cZ : ClassId} : 12 < 25 ∧ ∀ f, spM ad cI cZ 12 f = .inl (cI, 160, .inl f) := ⟨by decide, fun _ => rfl⟩
theorem ma13 {ad : Nat → Nat} {cI cZ : ClassId} : 13 < 25 ∧ ∀ f, spM ad cI cZ 13 f = .inl (cZ, 20, .inl f) := ⟨by decide, fun _ => rfl⟩
theorem ma14 {ad : Nat → Nat} {cI cZ : ClassId} : 14 < 25 ∧ ∀ f, spM ad cI cZ 14 f = .inl (cI, 20, .inl f) := ⟨by decide, fun _ => rfl⟩
theorem ma15 {ad : Nat → Nat} {cI cZ : ClassId} : 15 < 25 ∧ ∀ f, spM ad cI cZ 15 f = .inl (cZ, 20, .inl f) := ⟨by decide, fun _ => rfl⟩
theorem ma16 {ad : Nat → Nat} {cI cZ : ClassId} : 16 < 25 ∧ ∀ f, spM ad cI cZ 16 f = .inl (cI, 100, .inl f) := ⟨by decide, fun _ => rfl⟩
theorem ma17 {ad : Nat → Nat} {cI cZ : ClassId} : 17 < 25 ∧ ∀ f, spM ad cI cZ 17 f = .inl (cI, 4, .inl f) := ⟨by decide, fun _ => rfl⟩
theorem ma18 {ad : Nat → Nat} {cI cZ : ClassId} : 18 < 25 ∧ ∀ f, spM ad cI cZ 18 f = .inl (cI, 64, .inl f) := ⟨by decide, fun _ => rfl⟩
theorem ma19 {ad : Nat → Nat} {cI cZ : ClassId} : 19 < 25 ∧ ∀ f, spM ad cI cZ 19 f = .inl (cI, 8, .inl f) := ⟨by decide, fun _ => rfl⟩
theorem ma20 {ad : Nat → Nat} {cI cZ : ClassId} : 20 < 25 ∧ ∀ f, spM ad cI cZ 20 f = .inl (cI, 1700, .inl f) := ⟨by decide, fun _ => rfl⟩
theorem ma21 {ad : Nat → Nat} {cI cZ : ClassId} : 21 < 25 ∧ ∀ f, spM ad cI cZ 21 f = .inl (cI, 64, .inl f) := ⟨by decide, fun _ => rfl⟩
theorem ma22 {ad : Nat → Nat} {cI cZ : ClassId} : 22 < 25 ∧ ∀ f, spM ad cI cZ 22 f = .inl (cI, 8, .inl f) := ⟨by decide, fun _ => rfl⟩
theorem ma23 {ad : Nat → Nat} {cI cZ : ClassId} : 23 < 25 ∧ ∀ f, spM ad cI cZ 23 f = .inl (cI, 8, .inl f) := ⟨by decide, fun _ => rfl⟩
theorem ma24 {ad : Nat → Nat} {cI cZ : ClassId} : 24 < 25 ∧ ∀ f, spM ad cI cZ 24 f = .inl (cI, 24, .inl f) := ⟨by decide, fun _ => rfl⟩
theorem isIM_s {ad : Nat → Nat} {cI cZ : ClassId} {k : Nat} (h : isIM k = true) : k < 25 ∧ ∀ f, spM ad cI cZ k f = .inl (cI, lnM k, .inl f) := by
  have h2 : 1 ≤ k ∧ k < 25 ∧ isZM k = false := of_decide_eq_true h
  refine ⟨h2.2.1, fun f => ?_⟩
  unfold spM
  rw [if_neg (by omega), if_neg (by rw [h2.2.2]; decide)]
def tbSTART (j : Nat) : Int32 := ([(1779033703 : Int32), (-1150833019 : Int32), (1013904242 : Int32), (-1521486534 : Int32), (1359893119 : Int32), (-1694144372 : Int32), (528734635 : Int32), (1541459225 : Int32)] : List Int32).getD j 0
def tbADDED (j : Nat) : Int32 := ([(1116352408 : Int32), (1899447441 : Int32), (-1245643825 : Int32), (-373957723 : Int32), (961987163 : Int32), (1508970993 : Int32), (-1841331548 : Int32), (-1424204075 : Int32), (-670586216 : Int32), (310598401 : Int32), (607225278 : Int32), (1426881987 : Int32), (1925078388 : Int32), (-2132889090 : Int32), (-1680079193 : Int32), (-1046744716 : Int32), (-459576895 : Int32), (-272742522 : Int32), (264347078 : Int32), (604807628 : Int32), (770255983 : Int32), (1249150122 : Int32), (1555081692 : Int32), (1996064986 : Int32), (-1740746414 : Int32), (-1473132947 : Int32), (-1341970488 : Int32), (-1084653625 : Int32), (-958395405 : Int32), (-710438585 : Int32), (113926993 : Int32), (338241895 : Int32), (666307205 : Int32), (773529912 : Int32), (1294757372 : Int32), (1396182291 : Int32), (1695183700 : Int32), (1986661051 : Int32), (-2117940946 : Int32), (-1838011259 : Int32), (-1564481375 : Int32), (-1474664885 : Int32), (-1035236496 : Int32), (-949202525 : Int32), (-778901479 : Int32), (-694614492 : Int32), (-200395387 : Int32), (275423344 : Int32), (430227734 : Int32), (506948616 : Int32), (659060556 : Int32), (883997877 : Int32), (958139571 : Int32), (1322822218 : Int32), (1537002063 : Int32), (1747873779 : Int32), (1955562222 : Int32), (2024104815 : Int32), (-2067236844 : Int32), (-1933114872 : Int32), (-1866530822 : Int32), (-1538233109 : Int32), (-1090935817 : Int32), (-965641998 : Int32)] : List Int32).getD j 0
def XC (A : Nat → Prop) : Xt := fun U H => (∃ t, va_Z "PageMonitor$Hasher" "START" "[I" (.ref t) A U H ∧ va_T .int t 8 (fun j => .int (tbSTART j)) A U H) ∧ (∃ t, va_Z "PageMonitor$Hasher" "ADDED" "[I" (.ref t) A U H ∧ va_T .int t 64 (fun j => .int (tbADDED j)) A U H) ∧ va_Nw (.methodLinkNest RX4 30 yX5_isBlock "PageMonitor") U ∧ va_Nw (.methodLinkNest RX4 45 yX5_isPage "PageMonitor") U ∧ va_Nw (.methodLinkNest RX4 48 yX5_areDataRights "PageMonitor") U
theorem XCo (A : Nat → Prop) : XtOk A (XC A) := by
  intro u U H hW hq h
  obtain ⟨⟨t, h1, h2⟩, ⟨t', h3, h4⟩, h5, h6, h7⟩ := h
  exact ⟨⟨t, va_Z.moved hW.alike (h1.kept hq), va_T.moved hW.alike (h2.kept hq)⟩, ⟨t', va_Z.moved hW.alike (h3.kept hq), va_T.moved hW.alike (h4.kept hq)⟩, va_Nw.warmM hW h5, va_Nw.warmM hW h6, va_Nw.warmM hW h7⟩
theorem XCb (A : Nat → Prop) : XtBl (XC A) := by
  intro U g mk a h
  obtain ⟨⟨t, h1, h2⟩, ⟨t', h3, h4⟩, h5, h6, h7⟩ := h
  exact ⟨⟨t, va_Z.moved (u := U) (U := U.calling g mk a) (Vm.Alike.refl U.vm) h1, va_T.moved (u := U) (U := U.calling g mk a) (Vm.Alike.refl U.vm) h2⟩, ⟨t', va_Z.moved (u := U) (U := U.calling g mk a) (Vm.Alike.refl U.vm) h3, va_T.moved (u := U) (U := U.calling g mk a) (Vm.Alike.refl U.vm) h4⟩, va_Nw.same rfl (u := U) (U := U.calling g mk a) rfl h5, va_Nw.same rfl (u := U) (U := U.calling g mk a) rfl h6, va_Nw.same rfl (u := U) (U := U.calling g mk a) rfl h7⟩
theorem xs_START {A : Nat → Prop} {U : State} {H : Heap} (h : XC A U H) : ∃ t, va_Z "PageMonitor$Hasher" "START" "[I" (.ref t) A U H ∧ va_T .int t 8 (fun j => .int (tbSTART j)) A U H := h.1
theorem xs_ADDED {A : Nat → Prop} {U : State} {H : Heap} (h : XC A U H) : ∃ t, va_Z "PageMonitor$Hasher" "ADDED" "[I" (.ref t) A U H ∧ va_T .int t 64 (fun j => .int (tbADDED j)) A U H := h.2.1
theorem nw30 {A : Nat → Prop} {U : State} {H : Heap} (h : XC A U H) : va_Nw (.methodLinkNest RX4 30 yX5_isBlock "PageMonitor") U := h.2.2.1
theorem nw45 {A : Nat → Prop} {U : State} {H : Heap} (h : XC A U H) : va_Nw (.methodLinkNest RX4 45 yX5_isPage "PageMonitor") U := h.2.2.2.1
theorem nw48 {A : Nat → Prop} {U : State} {H : Heap} (h : XC A U H) : va_Nw (.methodLinkNest RX4 48 yX5_areDataRights "PageMonitor") U := h.2.2.2.2
def XM : Xt := fun _ _ => True
theorem XMo (A : Nat → Prop) : XtOk A XM := fun _ _ _ _ _ _ => trivial
theorem XMb : XtBl XM := fun _ _ _ _ _ => trivial
