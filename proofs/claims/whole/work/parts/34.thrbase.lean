/-! Methods of the class that may throw: what they ask, what they leave. -/
def exA : String := "java/lang/IndexOutOfBoundsException"
def exB : String := "java/lang/IllegalArgumentException"
def exC : String := "java/lang/IllegalStateException"
abbrev exUp : List String := ["java/lang/RuntimeException", "java/lang/Exception"]
/-- the words of a throw that neither stay by themselves nor speak of the heap -/
abbrev exBad (E : String) : List Cond := [.declares (Bundle.init0 "java/lang/RuntimeException"), .declares (Bundle.init0 "java/lang/Exception"), .declares (Bundle.init0 "java/lang/Throwable"), .castable E E]
def XT (A : Nat → Prop) : Xt := fun U H => XC A U H ∧ vx_Zq Bundle.tN "UNASSIGNED_STACK" Bundle.steD A U H ∧ vx_Zq Bundle.tN "SUPPRESSED_SENTINEL" Bundle.listD A U H ∧ (∀ w ∈ exBad exA ++ exBad exB ++ exBad exC, va_Nw w U)
theorem nwFace {w : Cond} (hk : w.keepsFace = true) (ho : w.onTables = true) {s U : State} (hW : s.WarmedH U.vm) (h : va_Nw w s) : va_Nw w U :=
  va_tabs ho (rfl : (s.setVm U.vm).vm = U.vm) (Cond.before_shiftedFace (State.Shifted.of_warmed hW) w hk h)
theorem exBad_ok : ∀ w ∈ exBad exA ++ exBad exB ++ exBad exC, w.keepsFace = true ∧ w.onTables = true := by decide +kernel
theorem XTo (A : Nat → Prop) : XtOk A (XT A) := by
  intro u U H hW hq h
  obtain ⟨h1, h2, h3, h4⟩ := h
  exact ⟨XCo A u U H hW hq h1, vx_Zq.moved hW.alike (h2.kept hq), vx_Zq.moved hW.alike (h3.kept hq), fun w hw => nwFace (exBad_ok w hw).1 (exBad_ok w hw).2 hW (h4 w hw)⟩
theorem XTb (A : Nat → Prop) : XtBl (XT A) := by
  intro U g mk a h
  obtain ⟨h1, h2, h3, h4⟩ := h
  exact ⟨XCb A U g mk a h1, vx_Zq.moved (u := U) (U := U.calling g mk a) (Vm.Alike.refl U.vm) h2, vx_Zq.moved (u := U) (U := U.calling g mk a) (Vm.Alike.refl U.vm) h3, fun w hw => va_Nw.same (exBad_ok w hw).2 (u := U) (U := U.calling g mk a) rfl (h4 w hw)⟩
/-- returned: code 0, the answer -/
def Qt (D : va_G) (cl : List vw_C) (N : Nat) (ad : Nat → Nat) (sp : Shp) (A : Nat → Prop) (void : Bool) (r : (Nat × Int32) × Mem) : Array Value → State → Outcome → State → Prop := fun _ st oc t => r.1.1 = 0 ∧ oc = .returned (if void = true then none else some (.int r.1.2)) ∧ va_P D cl (gw N ad sp r.2) t.heap ∧ va_F A st t
/-- threw: code 1 or 2, by the class -/
def Xx (D : va_G) (cl : List vw_C) (N : Nat) (ad : Nat → Nat) (sp : Shp) (A : Nat → Prop) (E2 : String) (r : (Nat × Int32) × Mem) : String → State → State → Prop := fun E st t => ((r.1.1 = 1 ∧ E = exA) ∨ (r.1.1 = 2 ∧ E = E2)) ∧ va_P D cl (gw N ad sp r.2) t.heap ∧ va_F A st t
section RT
variable {p : Program} {l : Launch} {e : Env} {R : Room} {s : State} {m : MethodId} {args : Array Value} {below : List Frame} {meth : Method} {c : Code} {H : Heap} {locs : List Loc} {Q : State → Prop}
variable {cc : ByteArray} {pc : Nat} {ls : Array Slot} {rest : List Value} {D : va_G} {cl : List vw_C} {A : Nat → Prop} {N : Nat} {ad : Nat → Nat} {sp : Shp} {M : Mem} {E2 : String}
theorem r_itret {v : Int32} (hx : p.tables.exec = Jvm.exec) (hb : c.code = cc) (hr : meth.sig.returnType = some .int) (hlocks : meth.locks = false) (hP : va_P D cl (gw N ad sp M) H) (hS : va_S A s.heap H locs) (hdg : decode cc pc = .ok (.ireturn, 1)) : W p l e R s m args below meth c H locs 0 0 (vx_MQ below (Qt D cl N ad sp A false ((0, v), M)) (Xx D cl N ad sp A E2 ((0, v), M)) args s 1 6 A) (F0 m pc ls [.int v]) :=
  W.widen (k := 1) (n := 6) (by omega) (by omega) (vx_ret (W.iret hx hb hr (fun t ht hW => ⟨rfl, rfl, by rw [ht]; exact hP, hS.F ht⟩) hS.2.2 hdg hlocks))
theorem r_vtret (hx : p.tables.exec = Jvm.exec) (hb : c.code = cc) (hr : meth.sig.returnType = none) (hlocks : meth.locks = false) (hP : va_P D cl (gw N ad sp M) H) (hS : va_S A s.heap H locs) (hdg : decode cc pc = .ok (.return_, 1)) : W p l e R s m args below meth c H locs 0 0 (vx_MQ below (Qt D cl N ad sp A true ((0, 0), M)) (Xx D cl N ad sp A E2 ((0, 0), M)) args s 1 6 A) (F0 m pc ls []) :=
  W.widen (k := 1) (n := 6) (by omega) (by omega) (vx_ret (W.vret hx hb hr (fun t ht hW => ⟨rfl, rfl, by rw [ht]; exact hP, hS.F ht⟩) hS.2.2 hdg hlocks))
theorem r_thr {E own : String} {ik ic code : Nat} {Ts : List Cond} {void : Bool} (hx : p.tables.exec = Jvm.exec) (hb : c.code = cc) (hnt : l.stackTraces = false) (hts : ∀ w ∈ Ts, w.before args s = true) (hown : s.vm.findClass own = some m.cls) (hfit : Bundle.fit E = true) (hk : Cond.classLink own ik E ∈ Ts) (hi : Cond.initialized E ∈ Ts) (hg : ∀ w ∈ (vx_at0 own ic E exUp).filter goodWord, w ∈ Ts) (hbad : ∀ w ∈ (vx_at0 own ic E exUp).filter (fun w => !goodWord w), w ∈ exBad E) (hot : ∀ w ∈ Cond.classLink own ik E :: Cond.initialized E :: vx_at0 own ic E exUp, vx_ot w = true) (hE : ∀ w ∈ exBad E, w ∈ exBad exA ++ exBad exB ++ exBad exC) (hcode : (code = 1 ∧ E = exA) ∨ (code = 2 ∧ E = E2)) (hX : XT A s s.heap) (hP : va_P D cl (gw N ad sp M) H) (hS : va_S A s.heap H locs) (hsize : ls.size = c.maxLocals) (hno : ∀ x ∈ c.exceptionTable.toList, False)
    (d0 : decode cc pc = .ok (.new ik, 3)) (d3 : decode cc (pc + 3) = .ok (.dup, 1)) (d4 : decode cc (pc + 4) = .ok (.invokespecial ic, 3)) (d7 : decode cc (pc + 7) = .ok (.athrow, 1)) (hRf : 5 < R.frames) (hRl : 81 ≤ R.locals) (hRc : 1 ≤ R.cells) (hRs : 6 ≤ R.slots) (hlocks : meth.locks = false) :
    W p l e R s m args below meth c H locs 0 0 (vx_MQ below (Qt D cl N ad sp A void ((code, 0), M)) (Xx D cl N ad sp A E2 ((code, 0), M)) args s 1 6 A) (F0 m pc ls []) := by
  obtain ⟨-, hU, hN, hW4⟩ := hX
  refine vx_throw0 (own := own) (cls := E) (names := exUp) (ik := ik) (ic := ic) hx hb hnt hown hfit (by decide +kernel) (hts _ hk) (hts _ hi) (vx_hat (B := exBad E) (fun w hw => hts w (hg w hw)) hbad (fun w hw => va_Nw.use (exBad_ok w (hE w hw)).2 (hW4 w (hE w hw)))) hot hU hN hS hsize d0 d3 d4 d7 (fun x hx' => (hno x hx').elim) hRf (by simpa using hRl) (by omega) (by omega) hlocks (fun t hal hsz hq => ?_) hS.2.2 (by omega) (by omega)
  refine ⟨hcode, hP.kept (fun k q hk' => hq q.1 (hP k q hk').lt), Nat.le_trans hS.1 hsz, fun q h1 h2 => ?_⟩
  rw [hq q (Nat.lt_of_lt_of_le h1 hS.1)]
  exact hS.2.1 q h1 h2
end RT
