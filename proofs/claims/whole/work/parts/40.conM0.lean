set_option maxHeartbeats 4000000 in
set_option maxRecDepth 100000 in
theorem c_X6_thrown {l : Launch} {D : va_G} {ad : Nat → Nat} {cI cZ cP cR : ClassId} {A : Nat → Prop} {M : Mem} {res : (Int32 × Mem)} (hI : gInj 25 ad) (hA : ∀ k, k < 25 → A (ad k)) (hf : fX6_thrown M = some res) : Met l yX6_thrown wsX6_thrown { frames := 0, cells := 0, slots := 0, locals := 0 } (va_Pc [.ref (ad 0)] (Pf D vwCl (tysW cI cZ cP cR) 25 ad (spM ad cI cZ) XM M)) (Qf D vwCl 25 ad (spM ad cI cZ) A (some (.int res.1)) res.2) 0 0 A := by
  refine Met.ofW (cc := cX6_thrown) (maxL := 1) (ret := (some .int)) (by decide) rfl ?_
  intro p e s m args below meth c s₁ B hml hv
  obtain ⟨rfl, hP, hK, hX⟩ := hv
  have hx := B.exec
  have hb := B.bytes
  have hr := B.returns
  have hts := atoms_spec (ws := wsX6_thrown) B.pre
  have hown : s.vm.findClass RX6 = some m.cls := findClass_of_methodNamed B.named
  have hlocks := B.notSynchronized
  have inX6 : ∀ w ∈ wsX60, w ∈ wsX6_thrown := by decide +kernel
  have hS : va_S A s.heap s.heap [] := va_S.rf
  have hl := lv_entry ([.ref (ad 0)]) (n := 1) (Nat.le_of_ble_eq_true rfl)
  rw [lg_entry_eq]
  generalize (lg_sl ([.ref (ad 0)]) ++ List.replicate (1 - (lg_sl ([.ref (ad 0)])).length) Slot.unset).toArray = ls at hl ⊢
  have hl : lv_has ls 1 [(0, .ref (ad 0))] := hl
  rw [fX6_thrown] at hf
  refine lv_aload_n hx hb dX6_thrown_0 rfl (lv_at hl 0 rfl) ?_
  refine r_getik (j := 0) hx hb hts inX6 hown hK hP (obX6) rfl (by decide) (hts (.fieldLink RX6 158 "PageMonitorModel" "thrown" "I") (by decide +kernel)) (fun _ => rfl) dX6_thrown_1 hf (fun x1 hf => ?_)
  obtain rfl := Option.some.inj hf
  exact r_iret hx hb hr hlocks hP hS dX6_thrown_4
set_option maxHeartbeats 4000000 in
set_option maxRecDepth 100000 in
theorem c_X6_free {l : Launch} {D : va_G} {ad : Nat → Nat} {cI cZ cP cR : ClassId} {A : Nat → Prop} {M : Mem} {res : Mem} (hI : gInj 25 ad) (hA : ∀ k, k < 25 → A (ad k)) (hf : fX6_free M = some res) : Met l yX6_free wsX6_free { frames := 0, cells := 0, slots := 0, locals := 0 } (va_Pc [.ref (ad 0)] (Pf D vwCl (tysW cI cZ cP cR) 25 ad (spM ad cI cZ) XM M)) (Qf D vwCl 25 ad (spM ad cI cZ) A none res) 0 0 A := by
  refine Met.ofW (cc := cX6_free) (maxL := 2) (ret := none) (by decide) rfl ?_
  intro p e s m args below meth c s₁ B hml hv
  obtain ⟨rfl, hP, hK, hX⟩ := hv
  have hx := B.exec
  have hb := B.bytes
  have hr := B.returns
  have hts := atoms_spec (ws := wsX6_free) B.pre
  have hown : s.vm.findClass RX6 = some m.cls := findClass_of_methodNamed B.named
  have hlocks := B.notSynchronized
  have inX6 : ∀ w ∈ wsX60, w ∈ wsX6_free := by decide +kernel
  have hS : va_S A s.heap s.heap [] := va_S.rf
  have hl := lv_entry ([.ref (ad 0)]) (n := 2) (Nat.le_of_ble_eq_true rfl)
  rw [lg_entry_eq]
  generalize (lg_sl ([.ref (ad 0)]) ++ List.replicate (2 - (lg_sl ([.ref (ad 0)])).length) Slot.unset).toArray = ls at hl ⊢
  have hl : lv_has ls 2 [(0, .ref (ad 0))] := hl
  rw [fX6_free] at hf
  refine lv_iconst (v := (0 : Int32)) hx hb dX6_free_0 (by decide) ?_
  refine lv_istore_n (lv' := [(1, .int (0 : Int32)), (0, .ref (ad 0))]) hx hb dX6_free_1 rfl hl (by decide) rfl (fun ls hl => ?_)
  refine r_jn hf (fun F3 eF3 hf => ?_)
  have EF3 : ∀ (x4 : Int32) (M5 : Mem) (H : Heap) (locs : List Loc) (ls : Array Slot), va_P D vwCl (gw 25 ad (spM ad cI cZ) M5) H → va_S A s.heap H locs → lv_has ls 2 [(0, .ref (ad 0)), (1, .int x4)] → F3 x4 M5 = some res → W p l e (headSpec wsX6_free { frames := 0, cells := 0, slots := 0, locals := 0 }).room s m (([.ref (ad 0)] : List Value).toArray) below meth c H locs 0 0 (MQ below (Qf D vwCl 25 ad (spM ad cI cZ) A none res) (([.ref (ad 0)] : List Value).toArray) s 0 0 A) (F0 m 28 ls []) := by
    intro x4 M5 H locs ls hP hS hl hf
    rw [eF3] at hf
    refine lv_aload_n hx hb dX6_free_28 rfl (lv_at hl 0 rfl) ?_
    refine lv_iconst (v := (0 : Int32)) hx hb dX6_free_29 (by decide) ?_
    refine r_putik (j := 17) hx hb hts inX6 tyX6 tyX6_ok nmX6 hown hI hA hK hP hS (obX6) rfl (by decide) (hts (.fieldLink RX6 162 "PageMonitorModel" "result" "I") (by decide +kernel)) rfl rfl rfl (fun _ => Nat.le_of_ble_eq_true rfl) (fun _ _ => rfl) dX6_free_30 hf (fun M6 H locs hP hS hf => ?_)
    obtain rfl := Option.some.inj hf
    exact r_vret hx hb hr hlocks hP hS dX6_free_33
  have LF3 : ∀ (n : Nat) (x1 : Int32) (M2 : Mem) (H : Heap) (locs : List Loc) (ls : Array Slot), va_P D vwCl (gw 25 ad (spM ad cI cZ) M2) H → va_S A s.heap H locs → lv_has ls 2 [(0, .ref (ad 0)), (1, .int x1)] → lp_X6_free_2 F3 n x1 M2 = some res → W p l e (headSpec wsX6_free { frames := 0, cells := 0, slots := 0, locals := 0 }).room s m (([.ref (ad 0)] : List Value).toArray) below meth c H locs 0 0 (MQ below (Qf D vwCl 25 ad (spM ad cI cZ) A none res) (([.ref (ad 0)] : List Value).toArray) s 0 0 A) (F0 m 2 ls []) := by
    intro n
    induction n with
    | zero =>
      intro x1 M2 H locs ls hP hS hl hf
      exact absurd hf (fun h => nomatch h)
    | succ n ih =>
      intro x1 M2 H locs ls hP hS hl hf
      rw [lp_X6_free_2_s] at hf
      refine lv_iload_n hx hb dX6_free_2 rfl (lv_at hl 1 rfl) ?_
      refine lv_bipush (v := (20 : Int32)) hx hb dX6_free_3 (by decide) ?_
      refine r_icmp_ge (tgt := 28) hx hb dX6_free_5 (by decide) hf (fun hf => ?_) (fun hf => ?_)
      · exact EF3 x1 M2 _ _ _ hP hS (lv_sub hl [0, 1] rfl) hf
      · refine lv_aload_n hx hb dX6_free_8 rfl (lv_at hl 0 rfl) ?_
        refine r_getc (k' := 3) (j := 3) hx hb hts inX6 hown hK hP (obX6) rfl (by decide) (hts (.fieldLink RX6 16 "PageMonitorModel" "kinds" "[I") (by decide +kernel)) (fun _ => rfl) dX6_free_9 ?_
        refine lv_iload_n hx hb dX6_free_12 rfl (lv_at hl 1 rfl) ?_
        refine lv_iconst (v := (0 : Int32)) hx hb dX6_free_13 (by decide) ?_
        refine r_iastk hx hb hI hA hK hP hS 0 ma3 rfl dX6_free_14 hf (fun M7 H locs hP hS hf => ?_)
        refine lv_aload_n hx hb dX6_free_15 rfl (lv_at hl 0 rfl) ?_
        refine r_getc (k' := 4) (j := 4) hx hb hts inX6 hown hK hP (obX6) rfl (by decide) (hts (.fieldLink RX6 19 "PageMonitorModel" "owners" "[I") (by decide +kernel)) (fun _ => rfl) dX6_free_16 ?_
        refine lv_iload_n hx hb dX6_free_19 rfl (lv_at hl 1 rfl) ?_
        refine lv_iconst (v := (-1 : Int32)) hx hb dX6_free_20 (by decide) ?_
        refine r_iastk hx hb hI hA hK hP hS 0 ma4 rfl dX6_free_21 hf (fun M8 H locs hP hS hf => ?_)
        refine lv_iinc (v := x1 + (1 : Int32)) (lv' := [(1, .int (x1 + (1 : Int32))), (0, .ref (ad 0))]) hx hb dX6_free_22 hl (k := 1) rfl rfl (by decide) rfl (fun ls hl => ?_)
        refine lv_goto (tgt := 2) hx hb dX6_free_25 (by decide) ?_
        exact ih (x1 + (1 : Int32)) M8 _ _ _ hP hS (lv_sub hl [1, 0] rfl) hf
  exact LF3 FU (0 : Int32) M _ _ _ hP hS (lv_sub hl [1, 0] rfl) hf
set_option maxHeartbeats 4000000 in
set_option maxRecDepth 100000 in
theorem c_X6_turned {l : Launch} {D : va_G} {ad : Nat → Nat} {cI cZ cP cR : ClassId} {A : Nat → Prop} {M : Mem} {p0 : Int32} {p1 : Int32} {res : (Int32 × Mem)} (hI : gInj 25 ad) (hA : ∀ k, k < 25 → A (ad k)) (hf : fX6_turned M p0 p1 = some res) : Met l yX6_turned wsX6_turned { frames := 0, cells := 0, slots := 0, locals := 0 } (va_Pc [.int p0, .int p1] (Pf D vwCl (tysW cI cZ cP cR) 25 ad (spM ad cI cZ) XM M)) (Qf D vwCl 25 ad (spM ad cI cZ) A (some (.int res.1)) res.2) 0 0 A := by
  refine Met.ofW (cc := cX6_turned) (maxL := 2) (ret := (some .int)) (by decide) rfl ?_
  intro p e s m args below meth c s₁ B hml hv
  obtain ⟨rfl, hP, hK, hX⟩ := hv
  have hx := B.exec
  have hb := B.bytes
  have hr := B.returns
  have hts := atoms_spec (ws := wsX6_turned) B.pre
  have hown : s.vm.findClass RX6 = some m.cls := findClass_of_methodNamed B.named
  have hlocks := B.notSynchronized
  have hS : va_S A s.heap s.heap [] := va_S.rf
  have hl := lv_entry ([.int p0, .int p1]) (n := 2) (Nat.le_of_ble_eq_true rfl)
  rw [lg_entry_eq]
  generalize (lg_sl ([.int p0, .int p1]) ++ List.replicate (2 - (lg_sl ([.int p0, .int p1])).length) Slot.unset).toArray = ls at hl ⊢
  have hl : lv_has ls 2 [(0, .int p0), (1, .int p1)] := hl
  rw [fX6_turned] at hf
  refine lv_iload_n hx hb dX6_turned_0 rfl (lv_at hl 0 rfl) ?_
  refine lv_iload_n hx hb dX6_turned_1 rfl (lv_at hl 1 rfl) ?_
  refine lv_iushr (v := usr p0 p1) hx hb dX6_turned_2 rfl ?_
  refine lv_iload_n hx hb dX6_turned_3 rfl (lv_at hl 0 rfl) ?_
  refine lv_bipush (v := (32 : Int32)) hx hb dX6_turned_4 (by decide) ?_
  refine lv_iload_n hx hb dX6_turned_6 rfl (lv_at hl 1 rfl) ?_
  refine lv_isub hx hb dX6_turned_7 ?_
  refine lv_ishl hx hb dX6_turned_8 ?_
  refine lv_ior hx hb dX6_turned_9 ?_
  obtain rfl := Option.some.inj hf
  exact r_iret hx hb hr hlocks hP hS dX6_turned_10
set_option maxHeartbeats 4000000 in
set_option maxRecDepth 100000 in
theorem c_X6_block {l : Launch} {D : va_G} {ad : Nat → Nat} {cI cZ cP cR : ClassId} {A : Nat → Prop} {M : Mem} {p0 : Int32} {res : Mem} (hI : gInj 25 ad) (hA : ∀ k, k < 25 → A (ad k)) (hf : fX6_block M p0 = some res) : Met l yX6_block wsX6_block { frames := 1, cells := 0, slots := 0, locals := 21 } (va_Pc [.ref (ad 0), .int p0] (Pf D vwCl (tysW cI cZ cP cR) 25 ad (spM ad cI cZ) XM M)) (Qf D vwCl 25 ad (spM ad cI cZ) A none res) 0 0 A := by
  refine Met.ofW (cc := cX6_block) (maxL := 8) (ret := none) (by decide) rfl ?_
  intro p e s m args below meth c s₁ B hml hv
  obtain ⟨rfl, hP, hK, hX⟩ := hv
  have hx := B.exec
  have hb := B.bytes
  have hr := B.returns
  have hts := atoms_spec (ws := wsX6_block) B.pre
  have hown : s.vm.findClass RX6 = some m.cls := findClass_of_methodNamed B.named
  have hlocks := B.notSynchronized
  have inX6 : ∀ w ∈ wsX60, w ∈ wsX6_block := by decide +kernel
  have hS : va_S A s.heap s.heap [] := va_S.rf
  have hl := lv_entry ([.ref (ad 0), .int p0]) (n := 8) (Nat.le_of_ble_eq_true rfl)
  rw [lg_entry_eq]
  generalize (lg_sl ([.ref (ad 0), .int p0]) ++ List.replicate (8 - (lg_sl ([.ref (ad 0), .int p0])).length) Slot.unset).toArray = ls at hl ⊢
  have hl : lv_has ls 8 [(0, .ref (ad 0)), (1, .int p0)] := hl
  rw [fX6_block] at hf
  refine lv_iconst (v := (0 : Int32)) hx hb dX6_block_0 (by decide) ?_
  refine lv_istore_n (lv' := [(2, .int (0 : Int32)), (0, .ref (ad 0)), (1, .int p0)]) hx hb dX6_block_1 rfl hl (by decide) rfl (fun ls hl => ?_)
  refine r_jn hf (fun F3 eF3 hf => ?_)
  have EF3 : ∀ (x4 : Int32) (M5 : Mem) (H : Heap) (locs : List Loc) (ls : Array Slot), va_P D vwCl (gw 25 ad (spM ad cI cZ) M5) H → va_S A s.heap H locs → lv_has ls 8 [(0, .ref (ad 0)), (1, .int p0), (2, .int x4)] → F3 x4 M5 = some res → W p l e (headSpec wsX6_block { frames := 1, cells := 0, slots := 0, locals := 21 }).room s m (([.ref (ad 0), .int p0] : List Value).toArray) below meth c H locs 0 0 (MQ below (Qf D vwCl 25 ad (spM ad cI cZ) A none res) (([.ref (ad 0), .int p0] : List Value).toArray) s 0 0 A) (F0 m 130 ls []) := by
    intro x4 M5 H locs ls hP hS hl hf
    rw [eF3] at hf
    refine lv_iconst (v := (0 : Int32)) hx hb dX6_block_130 (by decide) ?_
    refine lv_istore_n (lv' := [(2, .int (0 : Int32)), (0, .ref (ad 0)), (1, .int p0)]) hx hb dX6_block_131 rfl hl (by decide) rfl (fun ls hl => ?_)
    refine r_jn hf (fun F8 eF8 hf => ?_)
    have EF8 : ∀ (x9 : Int32) (M10 : Mem) (H : Heap) (locs : List Loc) (ls : Array Slot), va_P D vwCl (gw 25 ad (spM ad cI cZ) M10) H → va_S A s.heap H locs → lv_has ls 8 [(0, .ref (ad 0)), (1, .int p0), (2, .int x9)] → F8 x9 M10 = some res → W p l e (headSpec wsX6_block { frames := 1, cells := 0, slots := 0, locals := 21 }).room s m (([.ref (ad 0), .int p0] : List Value).toArray) below meth c H locs 0 0 (MQ below (Qf D vwCl 25 ad (spM ad cI cZ) A none res) (([.ref (ad 0), .int p0] : List Value).toArray) s 0 0 A) (F0 m 156 ls []) := by
      intro x9 M10 H locs ls hP hS hl hf
      rw [eF8] at hf
      refine lv_iconst (v := (0 : Int32)) hx hb dX6_block_156 (by decide) ?_
      refine lv_istore_n (lv' := [(2, .int (0 : Int32)), (0, .ref (ad 0)), (1, .int p0)]) hx hb dX6_block_157 rfl hl (by decide) rfl (fun ls hl => ?_)
      refine r_jn hf (fun F13 eF13 hf => ?_)
      have EF13 : ∀ (x14 : Int32) (M15 : Mem) (H : Heap) (locs : List Loc) (ls : Array Slot), va_P D vwCl (gw 25 ad (spM ad cI cZ) M15) H → va_S A s.heap H locs → lv_has ls 8 [(0, .ref (ad 0)), (1, .int p0), (2, .int x14)] → F13 x14 M15 = some res → W p l e (headSpec wsX6_block { frames := 1, cells := 0, slots := 0, locals := 21 }).room s m (([.ref (ad 0), .int p0] : List Value).toArray) below meth c H locs 0 0 (MQ below (Qf D vwCl 25 ad (spM ad cI cZ) A none res) (([.ref (ad 0), .int p0] : List Value).toArray) s 0 0 A) (F0 m 365 ls []) := by
        intro x14 M15 H locs ls hP hS hl hf
        rw [eF13] at hf
        refine lv_iconst (v := (0 : Int32)) hx hb dX6_block_365 (by decide) ?_
        refine lv_istore_n (lv' := [(2, .int (0 : Int32)), (0, .ref (ad 0)), (1, .int p0)]) hx hb dX6_block_366 rfl hl (by decide) rfl (fun ls hl => ?_)
        refine r_jn hf (fun F18 eF18 hf => ?_)
        have EF18 : ∀ (x19 : Int32) (M20 : Mem) (H : Heap) (locs : List Loc) (ls : Array Slot), va_P D vwCl (gw 25 ad (spM ad cI cZ) M20) H → va_S A s.heap H locs → lv_has ls 8 [(0, .ref (ad 0)), (1, .int p0), (2, .int x19)] → F18 x19 M20 = some res → W p l e (headSpec wsX6_block { frames := 1, cells := 0, slots := 0, locals := 21 }).room s m (([.ref (ad 0), .int p0] : List Value).toArray) below meth c H locs 0 0 (MQ below (Qf D vwCl 25 ad (spM ad cI cZ) A none res) (([.ref (ad 0), .int p0] : List Value).toArray) s 0 0 A) (F0 m 398 ls []) := by
          intro x19 M20 H locs ls hP hS hl hf
          rw [eF18] at hf
          obtain rfl := Option.some.inj hf
          exact r_vret hx hb hr hlocks hP hS dX6_block_398
        have LF18 : ∀ (n : Nat) (x16 : Int32) (M17 : Mem) (H : Heap) (locs : List Loc) (ls : Array Slot), va_P D vwCl (gw 25 ad (spM ad cI cZ) M17) H → va_S A s.heap H locs → lv_has ls 8 [(0, .ref (ad 0)), (1, .int p0), (2, .int x16)] → lp_X6_block_367 F18 n x16 M17 = some res → W p l e (headSpec wsX6_block { frames := 1, cells := 0, slots := 0, locals := 21 }).room s m (([.ref (ad 0), .int p0] : List Value).toArray) below meth c H locs 0 0 (MQ below (Qf D vwCl 25 ad (spM ad cI cZ) A none res) (([.ref (ad 0), .int p0] : List Value).toArray) s 0 0 A) (F0 m 367 ls []) := by
          intro n
          induction n with
          | zero =>
            intro x16 M17 H locs ls hP hS hl hf
            exact absurd hf (fun h => nomatch h)
          | succ n ih =>
            intro x16 M17 H locs ls hP hS hl hf
            rw [lp_X6_block_367_s] at hf
            refine lv_iload_n hx hb dX6_block_367 rfl (lv_at hl 2 rfl) ?_
            refine lv_bipush (v := (8 : Int32)) hx hb dX6_block_368 (by decide) ?_
            refine r_icmp_ge (tgt := 398) hx hb dX6_block_370 (by decide) hf (fun hf => ?_) (fun hf => ?_)
            · exact EF18 x16 M17 _ _ _ hP hS (lv_sub hl [0, 1, 2] rfl) hf
            · refine lv_aload_n hx hb dX6_block_373 rfl (lv_at hl 0 rfl) ?_
              refine r_getc (k' := 22) (j := 29) hx hb hts inX6 hown hK hP (obX6) rfl (by decide) (hts (.fieldLink RX6 146 "PageMonitorModel" "digest" "[I") (by decide +kernel)) (fun _ => rfl) dX6_block_374 ?_
              refine lv_iload_n hx hb dX6_block_377 rfl (lv_at hl 2 rfl) ?_
              refine lv_aload_n hx hb dX6_block_378 rfl (lv_at hl 0 rfl) ?_
              refine r_getc (k' := 22) (j := 29) hx hb hts inX6 hown hK hP (obX6) rfl (by decide) (hts (.fieldLink RX6 146 "PageMonitorModel" "digest" "[I") (by decide +kernel)) (fun _ => rfl) dX6_block_379 ?_
              refine lv_iload_n hx hb dX6_block_382 rfl (lv_at hl 2 rfl) ?_
              refine r_ialdk hx hb hK hP 0 ma22 rfl dX6_block_383 hf (fun x21 hf => ?_)
              refine lv_aload_n hx hb dX6_block_384 rfl (lv_at hl 0 rfl) ?_
              refine r_getc (k' := 23) (j := 30) hx hb hts inX6 hown hK hP (obX6) rfl (by decide) (hts (.fieldLink RX6 149 "PageMonitorModel" "v" "[I") (by decide +kernel)) (fun _ => rfl) dX6_block_385 ?_
              refine lv_iload_n hx hb dX6_block_388 rfl (lv_at hl 2 rfl) ?_
              refine r_ialdk hx hb hK hP 0 ma23 rfl dX6_block_389 hf (fun x22 hf => ?_)
              refine lv_iadd hx hb dX6_block_390 ?_
              refine r_iastk hx hb hI hA hK hP hS 0 ma22 rfl dX6_block_391 hf (fun M23 H locs hP hS hf => ?_)
              refine lv_iinc (v := x16 + (1 : Int32)) (lv' := [(2, .int (x16 + (1 : Int32))), (0, .ref (ad 0)), (1, .int p0)]) hx hb dX6_block_392 hl (k := 2) rfl rfl (by decide) rfl (fun ls hl => ?_)
              refine lv_goto (tgt := 367) hx hb dX6_block_395 (by decide) ?_
              exact ih (x16 + (1 : Int32)) M23 _ _ _ hP hS (lv_sub hl [1, 2, 0] rfl) hf
        exact LF18 FU (0 : Int32) M15 _ _ _ hP hS (lv_sub hl [1, 2, 0] rfl) hf
      have LF13 : ∀ (n : Nat) (x11 : Int32) (M12 : Mem) (H : Heap) (locs : List Loc) (ls : Array Slot), va_P D vwCl (gw 25 ad (spM ad cI cZ) M12) H → va_S A s.heap H locs → lv_has ls 8 [(0, .ref (ad 0)), (1, .int p0), (2, .int x11)] → lp_X6_block_158 F13 n x11 M12 = some res → W p l e (headSpec wsX6_block { frames := 1, cells := 0, slots := 0, locals := 21 }).room s m (([.ref (ad 0), .int p0] : List Value).toArray) below meth c H locs 0 0 (MQ below (Qf D vwCl 25 ad (spM ad cI cZ) A none res) (([.ref (ad 0), .int p0] : List Value).toArray) s 0 0 A) (F0 m 158 ls []) := by
        intro n
        induction n with
        | zero =>
          intro x11 M12 H locs ls hP hS hl hf
          exact absurd hf (fun h => nomatch h)
        | succ n ih =>
          intro x11 M12 H locs ls hP hS hl hf
          rw [lp_X6_block_158_s] at hf
          refine lv_iload_n hx hb dX6_block_158 rfl (lv_at hl 2 rfl) ?_
          refine lv_bipush (v := (64 : Int32)) hx hb dX6_block_159 (by decide) ?_
          refine r_icmp_ge (tgt := 365) hx hb dX6_block_161 (by decide) hf (fun hf => ?_) (fun hf => ?_)
          · exact EF13 x11 M12 _ _ _ hP hS (lv_sub hl [0, 1, 2] rfl) hf
          · refine lv_aload_n hx hb dX6_block_164 rfl (lv_at hl 0 rfl) ?_
            refine r_getc (k' := 23) (j := 30) hx hb hts inX6 hown hK hP (obX6) rfl (by decide) (hts (.fieldLink RX6 149 "PageMonitorModel" "v" "[I") (by decide +kernel)) (fun _ => rfl) dX6_block_165 ?_
            refine lv_iconst (v := (4 : Int32)) hx hb dX6_block_168 (by decide) ?_
            refine r_ialdk hx hb hK hP 0 ma23 rfl dX6_block_169 hf (fun x24 hf => ?_)
            refine lv_istore_n (lv' := [(3, .int x24), (0, .ref (ad 0)), (1, .int p0), (2, .int x11)]) hx hb dX6_block_170 rfl hl (by decide) rfl (fun ls hl => ?_)
            refine lv_aload_n hx hb dX6_block_171 rfl (lv_at hl 1 rfl) ?_
            refine r_getc (k' := 23) (j := 30) hx hb hts inX6 hown hK hP (obX6) rfl (by decide) (hts (.fieldLink RX6 149 "PageMonitorModel" "v" "[I") (by decide +kernel)) (fun _ => rfl) dX6_block_172 ?_
            refine lv_iconst (v := (0 : Int32)) hx hb dX6_block_175 (by decide) ?_
            refine r_ialdk hx hb hK hP 0 ma23 rfl dX6_block_176 hf (fun x25 hf => ?_)
            refine lv_istore (lv' := [(4, .int x25), (3, .int x24), (0, .ref (ad 0)), (1, .int p0), (2, .int x11)]) hx hb dX6_block_177 hl (by decide) rfl (fun ls hl => ?_)
            refine lv_aload_n hx hb dX6_block_179 rfl (lv_at hl 2 rfl) ?_
            refine r_getc (k' := 23) (j := 30) hx hb hts inX6 hown hK hP (obX6) rfl (by decide) (hts (.fieldLink RX6 149 "PageMonitorModel" "v" "[I") (by decide +kernel)) (fun _ => rfl) dX6_block_180 ?_
            refine lv_bipush (v := (7 : Int32)) hx hb dX6_block_183 (by decide) ?_
            refine r_ialdk hx hb hK hP 0 ma23 rfl dX6_block_185 hf (fun x26 hf => ?_)
            refine lv_iload_n hx hb dX6_block_186 rfl (lv_at hl 1 rfl) ?_
            refine lv_bipush (v := (6 : Int32)) hx hb dX6_block_187 (by decide) ?_
            obtain ⟨q27, hq27, hf⟩ := ob hf
            refine r_call1 (va_runS (As := [.int x24, .int (6 : Int32)]) (rest := [.int x26]) ⟨hx, hb, hml, hown, hts⟩ (c_X6_turned hI hA hq27) (va_cwS 2 hts gX6_block_X6_turned rfl rfl rfl (by decide +kernel) ⟨Nat.le_of_ble_eq_true rfl, Nat.le_of_ble_eq_true rfl⟩) (Pf_S XMb (XMo A) hX hK hP hS) rfl rfl hl.1 rfl (lv_room (Nat.le_of_ble_eq_true rfl)) dX6_block_189 ⟨Nat.zero_le _, Nat.zero_le _⟩) hS (fun H locs hP hS => ?_)
            refine lv_iload_n hx hb dX6_block_192 rfl (lv_at hl 1 rfl) ?_
            refine lv_bipush (v := (11 : Int32)) hx hb dX6_block_193 (by decide) ?_
            obtain ⟨q28, hq28, hf⟩ := ob hf
            refine r_call1 (va_runS (As := [.int x24, .int (11 : Int32)]) (rest := [.int q27.1, .int x26]) ⟨hx, hb, hml, hown, hts⟩ (c_X6_turned hI hA hq28) (va_cwS 2 hts gX6_block_X6_turned rfl rfl rfl (by decide +kernel) ⟨Nat.le_of_ble_eq_true rfl, Nat.le_of_ble_eq_true rfl⟩) (Pf_S XMb (XMo A) hX hK hP hS) rfl rfl hl.1 rfl (lv_room (Nat.le_of_ble_eq_true rfl)) dX6_block_195 ⟨Nat.zero_le _, Nat.zero_le _⟩) hS (fun H locs hP hS => ?_)
            refine lv_ixor hx hb dX6_block_198 ?_
            refine lv_iload_n hx hb dX6_block_199 rfl (lv_at hl 1 rfl) ?_
            refine lv_bipush (v := (25 : Int32)) hx hb dX6_block_200 (by decide) ?_
            obtain ⟨q29, hq29, hf⟩ := ob hf
            refine r_call1 (va_runS (As := [.int x24, .int (25 : Int32)]) (rest := [.int (q27.1 ^^^ q28.1), .int x26]) ⟨hx, hb, hml, hown, hts⟩ (c_X6_turned hI hA hq29) (va_cwS 2 hts gX6_block_X6_turned rfl rfl rfl (by decide +kernel) ⟨Nat.le_of_ble_eq_true rfl, Nat.le_of_ble_eq_true rfl⟩) (Pf_S XMb (XMo A) hX hK hP hS) rfl rfl hl.1 rfl (lv_room (Nat.le_of_ble_eq_true rfl)) dX6_block_202 ⟨Nat.zero_le _, Nat.zero_le _⟩) hS (fun H locs hP hS => ?_)
            refine lv_ixor hx hb dX6_block_205 ?_
            refine lv_iadd hx hb dX6_block_206 ?_
            refine lv_iload_n hx hb dX6_block_207 rfl (lv_at hl 1 rfl) ?_
            refine lv_aload_n hx hb dX6_block_208 rfl (lv_at hl 2 rfl) ?_
            refine r_getc (k' := 23) (j := 30) hx hb hts inX6 hown hK hP (obX6) rfl (by decide) (hts (.fieldLink RX6 149 "PageMonitorModel" "v" "[I") (by decide +kernel)) (fun _ => rfl) dX6_block_209 ?_
            refine lv_iconst (v := (5 : Int32)) hx hb dX6_block_212 (by decide) ?_
            refine r_ialdk hx hb hK hP 0 ma23 rfl dX6_block_213 hf (fun x30 hf => ?_)
            refine lv_iand hx hb dX6_block_214 ?_
            refine lv_iload_n hx hb dX6_block_215 rfl (lv_at hl 1 rfl) ?_
            refine lv_iconst (v := (-1 : Int32)) hx hb dX6_block_216 (by decide) ?_
            refine lv_ixor hx hb dX6_block_217 ?_
            refine lv_aload_n hx hb dX6_block_218 rfl (lv_at hl 2 rfl) ?_
            refine r_getc (k' := 23) (j := 30) hx hb hts inX6 hown hK hP (obX6) rfl (by decide) (hts (.fieldLink RX6 149 "PageMonitorModel" "v" "[I") (by decide +kernel)) (fun _ => rfl) dX6_block_219 ?_
            refine lv_bipush (v := (6 : Int32)) hx hb dX6_block_222 (by decide) ?_
            refine r_ialdk hx hb hK hP 0 ma23 rfl dX6_block_224 hf (fun x31 hf => ?_)
            refine lv_iand hx hb dX6_block_225 ?_
            refine lv_ixor hx hb dX6_block_226 ?_
            refine lv_iadd hx hb dX6_block_227 ?_
            refine lv_aload_n hx hb dX6_block_228 rfl (lv_at hl 2 rfl) ?_
            refine r_getc (k' := 18) (j := 25) hx hb hts inX6 hown hK hP (obX6) rfl (by decide) (hts (.fieldLink RX6 126 "PageMonitorModel" "constants" "[I") (by decide +kernel)) (fun _ => rfl) dX6_block_229 ?_
            refine lv_iload_n hx hb dX6_block_232 rfl (lv_at hl 4 rfl) ?_
            refine r_ialdk hx hb hK hP 0 ma18 rfl dX6_block_233 hf (fun x32 hf => ?_)
            refine lv_iadd hx hb dX6_block_234 ?_
            refine lv_aload_n hx hb dX6_block_235 rfl (lv_at hl 2 rfl) ?_
            refine r_getc (k' := 21) (j := 28) hx hb hts inX6 hown hK hP (obX6) rfl (by decide) (hts (.fieldLink RX6 143 "PageMonitorModel" "w" "[I") (by decide +kernel)) (fun _ => rfl) dX6_block_236 ?_
            refine lv_iload_n hx hb dX6_block_239 rfl (lv_at hl 4 rfl) ?_
            refine r_ialdk hx hb hK hP 0 ma21 rfl dX6_block_240 hf (fun x33 hf => ?_)
            refine lv_iadd hx hb dX6_block_241 ?_
            refine r_top (g := .int) hf (fun x34 hf => ?_)
            refine lv_istore (lv' := [(5, .int x34), (4, .int x25), (3, .int x24), (0, .ref (ad 0)), (1, .int p0), (2, .int x11)]) hx hb dX6_block_242 hl (by decide) rfl (fun ls hl => ?_)
            refine lv_iload hx hb dX6_block_244 (lv_at hl 1 rfl) ?_
            refine lv_iconst (v := (2 : Int32)) hx hb dX6_block_246 (by decide) ?_
            obtain ⟨q35, hq35, hf⟩ := ob hf
            refine r_call1 (va_runS (As := [.int x25, .int (2 : Int32)]) (rest := []) ⟨hx, hb, hml, hown, hts⟩ (c_X6_turned hI hA hq35) (va_cwS 2 hts gX6_block_X6_turned rfl rfl rfl (by decide +kernel) ⟨Nat.le_of_ble_eq_true rfl, Nat.le_of_ble_eq_true rfl⟩) (Pf_S XMb (XMo A) hX hK hP hS) rfl rfl hl.1 rfl (lv_room (Nat.le_of_ble_eq_true rfl)) dX6_block_247 ⟨Nat.zero_le _, Nat.zero_le _⟩) hS (fun H locs hP hS => ?_)
            refine lv_iload hx hb dX6_block_250 (lv_at hl 1 rfl) ?_
            refine lv_bipush (v := (13 : Int32)) hx hb dX6_block_252 (by decide) ?_
            obtain ⟨q36, hq36, hf⟩ := ob hf
            refine r_call1 (va_runS (As := [.int x25, .int (13 : Int32)]) (rest := [.int q35.1]) ⟨hx, hb, hml, hown, hts⟩ (c_X6_turned hI hA hq36) (va_cwS 2 hts gX6_block_X6_turned rfl rfl rfl (by decide +kernel) ⟨Nat.le_of_ble_eq_true rfl, Nat.le_of_ble_eq_true rfl⟩) (Pf_S XMb (XMo A) hX hK hP hS) rfl rfl hl.1 rfl (lv_room (Nat.le_of_ble_eq_true rfl)) dX6_block_254 ⟨Nat.zero_le _, Nat.zero_le _⟩) hS (fun H locs hP hS => ?_)
            refine lv_ixor hx hb dX6_block_257 ?_
            refine lv_iload hx hb dX6_block_258 (lv_at hl 1 rfl) ?_
            refine lv_bipush (v := (22 : Int32)) hx hb dX6_block_260 (by decide) ?_
            obtain ⟨q37, hq37, hf⟩ := ob hf
            refine r_call1 (va_runS (As := [.int x25, .int (22 : Int32)]) (rest := [.int (q35.1 ^^^ q36.1)]) ⟨hx, hb, hml, hown, hts⟩ (c_X6_turned hI hA hq37) (va_cwS 2 hts gX6_block_X6_turned rfl rfl rfl (by decide +kernel) ⟨Nat.le_of_ble_eq_true rfl, Nat.le_of_ble_eq_true rfl⟩) (Pf_S XMb (XMo A) hX hK hP hS) rfl rfl hl.1 rfl (lv_room (Nat.le_of_ble_eq_true rfl)) dX6_block_262 ⟨Nat.zero_le _, Nat.zero_le _⟩) hS (fun H locs hP hS => ?_)
            refine lv_ixor hx hb dX6_block_265 ?_
            refine lv_iload hx hb dX6_block_266 (lv_at hl 1 rfl) ?_
            refine lv_aload_n hx hb dX6_block_268 rfl (lv_at hl 3 rfl) ?_
            refine r_getc (k' := 23) (j := 30) hx hb hts inX6 hown hK hP (obX6) rfl (by decide) (hts (.fieldLink RX6 149 "PageMonitorModel" "v" "[I") (by decide +kernel)) (fun _ => rfl) dX6_block_269 ?_
            refine lv_iconst (v := (1 : Int32)) hx hb dX6_block_272 (by decide) ?_
            refine r_ialdk hx hb hK hP 0 ma23 rfl dX6_block_273 hf (fun x38 hf => ?_)
            refine lv_iand hx hb dX6_block_274 ?_
            refine lv_iload hx hb dX6_block_275 (lv_at hl 1 rfl) ?_
            refine lv_aload_n hx hb dX6_block_277 rfl (lv_at hl 3 rfl) ?_
            refine r_getc (k' := 23) (j := 30) hx hb hts inX6 hown hK hP (obX6) rfl (by decide) (hts (.fieldLink RX6 149 "PageMonitorModel" "v" "[I") (by decide +kernel)) (fun _ => rfl) dX6_block_278 ?_
            refine lv_iconst (v := (2 : Int32)) hx hb dX6_block_281 (by decide) ?_
            refine r_ialdk hx hb hK hP 0 ma23 rfl dX6_block_282 hf (fun x39 hf => ?_)
            refine lv_iand hx hb dX6_block_283 ?_
            refine lv_ixor hx hb dX6_block_284 ?_
            refine lv_aload_n hx hb dX6_block_285 rfl (lv_at hl 3 rfl) ?_
            refine r_getc (k' := 23) (j := 30) hx hb hts inX6 hown hK hP (obX6) rfl (by decide) (hts (.fieldLink RX6 149 "PageMonitorModel" "v" "[I") (by decide +kernel)) (fun _ => rfl) dX6_block_286 ?_
            refine lv_iconst (v := (1 : Int32)) hx hb dX6_block_289 (by decide) ?_
            refine r_ialdk hx hb hK hP 0 ma23 rfl dX6_block_290 hf (fun x40 hf => ?_)
            refine lv_aload_n hx hb dX6_block_291 rfl (lv_at hl 3 rfl) ?_
            refine r_getc (k' := 23) (j := 30) hx hb hts inX6 hown hK hP (obX6) rfl (by decide) (hts (.fieldLink RX6 149 "PageMonitorModel" "v" "[I") (by decide +kernel)) (fun _ => rfl) dX6_block_292 ?_
            refine lv_iconst (v := (2 : Int32)) hx hb dX6_block_295 (by decide) ?_
            refine r_ialdk hx hb hK hP 0 ma23 rfl dX6_block_296 hf (fun x41 hf => ?_)
            refine lv_iand hx hb dX6_block_297 ?_
            refine lv_ixor hx hb dX6_block_298 ?_
            refine lv_iadd hx hb dX6_block_299 ?_
            refine r_top (g := .int) hf (fun x42 hf => ?_)
            refine lv_istore (lv' := [(6, .int x42), (5, .int x34), (4, .int x25), (3, .int x24), (0, .ref (ad 0)), (1, .int p0), (2, .int x11)]) hx hb dX6_block_300 hl (by decide) rfl (fun ls hl => ?_)
            refine lv_bipush (v := (7 : Int32)) hx hb dX6_block_302 (by decide) ?_
            refine lv_istore (lv' := [(7, .int (7 : Int32)), (6, .int x42), (5, .int x34), (4, .int x25), (3, .int x24), (0, .ref (ad 0)), (1, .int p0), (2, .int x11)]) hx hb dX6_block_304 hl (by decide) rfl (fun ls hl => ?_)
            refine r_jn hf (fun F45 eF45 hf => ?_)
            have EF45 : ∀ (x46 : Int32) (M47 : Mem) (H : Heap) (locs : List Loc) (ls : Array Slot), va_P D vwCl (gw 25 ad (spM ad cI cZ) M47) H → va_S A s.heap H locs → lv_has ls 8 [(0, .ref (ad 0)), (1, .int p0), (2, .int x11), (3, .int x24), (4, .int x25), (5, .int x34), (6, .int x42), (7, .int x46)] → F45 x46 M47 = some res → W p l e (headSpec wsX6_block { frames := 1, cells := 0, slots := 0, locals := 21 }).room s m (([.ref (ad 0), .int p0] : List Value).toArray) below meth c H locs 0 0 (MQ below (Qf D vwCl 25 ad (spM ad cI cZ) A none res) (([.ref (ad 0), .int p0] : List Value).toArray) s 0 0 A) (F0 m 333 ls []) := by
              intro x46 M47 H locs ls hP hS hl hf
              rw [eF45] at hf
              refine lv_aload_n hx hb dX6_block_333 rfl (lv_at hl 0 rfl) ?_
              refine r_getc (k' := 23) (j := 30) hx hb hts inX6 hown hK hP (obX6) rfl (by decide) (hts (.fieldLink RX6 149 "PageMonitorModel" "v" "[I") (by decide +kernel)) (fun _ => rfl) dX6_block_334 ?_
              refine lv_iconst (v := (4 : Int32)) hx hb dX6_block_337 (by decide) ?_
              refine lv_aload_n hx hb dX6_block_338 rfl (lv_at hl 0 rfl) ?_
              refine r_getc (k' := 23) (j := 30) hx hb hts inX6 hown hK hP (obX6) rfl (by decide) (hts (.fieldLink RX6 149 "PageMonitorModel" "v" "[I") (by decide +kernel)) (fun _ => rfl) dX6_block_339 ?_
              refine lv_iconst (v := (4 : Int32)) hx hb dX6_block_342 (by decide) ?_
              refine r_ialdk hx hb hK hP 0 ma23 rfl dX6_block_343 hf (fun x48 hf => ?_)
              refine lv_iload hx hb dX6_block_344 (lv_at hl 5 rfl) ?_
              refine lv_iadd hx hb dX6_block_346 ?_
              refine r_iastk hx hb hI hA hK hP hS 0 ma23 rfl dX6_block_347 hf (fun M49 H locs hP hS hf => ?_)
              refine lv_aload_n hx hb dX6_block_348 rfl (lv_at hl 0 rfl) ?_
              refine r_getc (k' := 23) (j := 30) hx hb hts inX6 hown hK hP (obX6) rfl (by decide) (hts (.fieldLink RX6 149 "PageMonitorModel" "v" "[I") (by decide +kernel)) (fun _ => rfl) dX6_block_349 ?_
              refine lv_iconst (v := (0 : Int32)) hx hb dX6_block_352 (by decide) ?_
              refine lv_iload hx hb dX6_block_353 (lv_at hl 5 rfl) ?_
              refine lv_iload hx hb dX6_block_355 (lv_at hl 6 rfl) ?_
              refine lv_iadd hx hb dX6_block_357 ?_
              refine r_iastk hx hb hI hA hK hP hS 0 ma23 rfl dX6_block_358 hf (fun M50 H locs hP hS hf => ?_)
              refine lv_iinc (v := x11 + (1 : Int32)) (lv' := [(2, .int (x11 + (1 : Int32))), (0, .ref (ad 0)), (1, .int p0), (3, .int x24), (4, .int x25), (5, .int x34), (6, .int x42), (7, .int x46)]) hx hb dX6_block_359 hl (k := 2) rfl rfl (by decide) rfl (fun ls hl => ?_)
              refine lv_goto (tgt := 158) hx hb dX6_block_362 (by decide) ?_
              exact ih (x11 + (1 : Int32)) M50 _ _ _ hP hS (lv_sub hl [1, 2, 0] rfl) hf
            have LF45 : ∀ (n : Nat) (x43 : Int32) (M44 : Mem) (H : Heap) (locs : List Loc) (ls : Array Slot), va_P D vwCl (gw 25 ad (spM ad cI cZ) M44) H → va_S A s.heap H locs → lv_has ls 8 [(0, .ref (ad 0)), (1, .int p0), (2, .int x11), (3, .int x24), (4, .int x25), (5, .int x34), (6, .int x42), (7, .int x43)] → lp_X6_block_306 F45 n x43 M44 = some res → W p l e (headSpec wsX6_block { frames := 1, cells := 0, slots := 0, locals := 21 }).room s m (([.ref (ad 0), .int p0] : List Value).toArray) below meth c H locs 0 0 (MQ below (Qf D vwCl 25 ad (spM ad cI cZ) A none res) (([.ref (ad 0), .int p0] : List Value).toArray) s 0 0 A) (F0 m 306 ls []) := by
              intro n
              induction n with
              | zero =>
                intro x43 M44 H locs ls hP hS hl hf
                exact absurd hf (fun h => nomatch h)
              | succ n ih =>
                intro x43 M44 H locs ls hP hS hl hf
                rw [lp_X6_block_306_s] at hf
                refine lv_iload hx hb dX6_block_306 (lv_at hl 7 rfl) ?_
                refine r_if_le (tgt := 333) hx hb dX6_block_308 (by decide) hf (fun hf => ?_) (fun hf => ?_)
                · exact EF45 x43 M44 _ _ _ hP hS (lv_sub hl [0, 1, 2, 3, 4, 5, 6, 7] rfl) hf
                · refine lv_aload_n hx hb dX6_block_311 rfl (lv_at hl 0 rfl) ?_
                  refine r_getc (k' := 23) (j := 30) hx hb hts inX6 hown hK hP (obX6) rfl (by decide) (hts (.fieldLink RX6 149 "PageMonitorModel" "v" "[I") (by decide +kernel)) (fun _ => rfl) dX6_block_312 ?_
                  refine lv_iload hx hb dX6_block_315 (lv_at hl 7 rfl) ?_
                  refine lv_aload_n hx hb dX6_block_317 rfl (lv_at hl 0 rfl) ?_
                  refine r_getc (k' := 23) (j := 30) hx hb hts inX6 hown hK hP (obX6) rfl (by decide) (hts (.fieldLink RX6 149 "PageMonitorModel" "v" "[I") (by decide +kernel)) (fun _ => rfl) dX6_block_318 ?_
                  refine lv_iload hx hb dX6_block_321 (lv_at hl 7 rfl) ?_
                  refine lv_iconst (v := (1 : Int32)) hx hb dX6_block_323 (by decide) ?_
                  refine lv_isub hx hb dX6_block_324 ?_
                  refine r_ialdk hx hb hK hP 0 ma23 rfl dX6_block_325 hf (fun x51 hf => ?_)
                  refine r_iastk hx hb hI hA hK hP hS 0 ma23 rfl dX6_block_326 hf (fun M52 H locs hP hS hf => ?_)
                  refine lv_iinc (v := x43 + (-1 : Int32)) (lv' := [(7, .int (x43 + (-1 : Int32))), (0, .ref (ad 0)), (1, .int p0), (2, .int x11), (3, .int x24), (4, .int x25), (5, .int x34), (6, .int x42)]) hx hb dX6_block_327 hl (k := 7) rfl rfl (by decide) rfl (fun ls hl => ?_)
                  refine lv_goto (tgt := 306) hx hb dX6_block_330 (by decide) ?_
                  exact ih (x43 + (-1 : Int32)) M52 _ _ _ hP hS (lv_sub hl [1, 2, 3, 4, 5, 6, 7, 0] rfl) hf
            exact LF45 FU (7 : Int32) q37.2 _ _ _ hP hS (lv_sub hl [5, 6, 7, 4, 3, 2, 1, 0] rfl) hf
      exact LF13 FU (0 : Int32) M10 _ _ _ hP hS (lv_sub hl [1, 2, 0] rfl) hf
    have LF8 : ∀ (n : Nat) (x6 : Int32) (M7 : Mem) (H : Heap) (locs : List Loc) (ls : Array Slot), va_P D vwCl (gw 25 ad (spM ad cI cZ) M7) H → va_S A s.heap H locs → lv_has ls 8 [(0, .ref (ad 0)), (1, .int p0), (2, .int x6)] → lp_X6_block_132 F8 n x6 M7 = some res → W p l e (headSpec wsX6_block { frames := 1, cells := 0, slots := 0, locals := 21 }).room s m (([.ref (ad 0), .int p0] : List Value).toArray) below meth c H locs 0 0 (MQ below (Qf D vwCl 25 ad (spM ad cI cZ) A none res) (([.ref (ad 0), .int p0] : List Value).toArray) s 0 0 A) (F0 m 132 ls []) := by
      intro n
      induction n with
      | zero =>
        intro x6 M7 H locs ls hP hS hl hf
        exact absurd hf (fun h => nomatch h)
      | succ n ih =>
        intro x6 M7 H locs ls hP hS hl hf
        rw [lp_X6_block_132_s] at hf
        refine lv_iload_n hx hb dX6_block_132 rfl (lv_at hl 2 rfl) ?_
        refine lv_bipush (v := (8 : Int32)) hx hb dX6_block_133 (by decide) ?_
        refine r_icmp_ge (tgt := 156) hx hb dX6_block_135 (by decide) hf (fun hf => ?_) (fun hf => ?_)
        · exact EF8 x6 M7 _ _ _ hP hS (lv_sub hl [0, 1, 2] rfl) hf
        · refine lv_aload_n hx hb dX6_block_138 rfl (lv_at hl 0 rfl) ?_
          refine r_getc (k' := 23) (j := 30) hx hb hts inX6 hown hK hP (obX6) rfl (by decide) (hts (.fieldLink RX6 149 "PageMonitorModel" "v" "[I") (by decide +kernel)) (fun _ => rfl) dX6_block_139 ?_
          refine lv_iload_n hx hb dX6_block_142 rfl (lv_at hl 2 rfl) ?_
          refine lv_aload_n hx hb dX6_block_143 rfl (lv_at hl 0 rfl) ?_
          refine r_getc (k' := 22) (j := 29) hx hb hts inX6 hown hK hP (obX6) rfl (by decide) (hts (.fieldLink RX6 146 "PageMonitorModel" "digest" "[I") (by decide +kernel)) (fun _ => rfl) dX6_block_144 ?_
          refine lv_iload_n hx hb dX6_block_147 rfl (lv_at hl 2 rfl) ?_
          refine r_ialdk hx hb hK hP 0 ma22 rfl dX6_block_148 hf (fun x53 hf => ?_)
          refine r_iastk hx hb hI hA hK hP hS 0 ma23 rfl dX6_block_149 hf (fun M54 H locs hP hS hf => ?_)
          refine lv_iinc (v := x6 + (1 : Int32)) (lv' := [(2, .int (x6 + (1 : Int32))), (0, .ref (ad 0)), (1, .int p0)]) hx hb dX6_block_150 hl (k := 2) rfl rfl (by decide) rfl (fun ls hl => ?_)
          refine lv_goto (tgt := 132) hx hb dX6_block_153 (by decide) ?_
          exact ih (x6 + (1 : Int32)) M54 _ _ _ hP hS (lv_sub hl [1, 2, 0] rfl) hf
    exact LF8 FU (0 : Int32) M5 _ _ _ hP hS (lv_sub hl [1, 2, 0] rfl) hf
  have LF3 : ∀ (n : Nat) (x1 : Int32) (M2 : Mem) (H : Heap) (locs : List Loc) (ls : Array Slot), va_P D vwCl (gw 25 ad (spM ad cI cZ) M2) H → va_S A s.heap H locs → lv_has ls 8 [(0, .ref (ad 0)), (1, .int p0), (2, .int x1)] → lp_X6_block_2 p0 F3 n x1 M2 = some res → W p l e (headSpec wsX6_block { frames := 1, cells := 0, slots := 0, locals := 21 }).room s m (([.ref (ad 0), .int p0] : List Value).toArray) below meth c H locs 0 0 (MQ below (Qf D vwCl 25 ad (spM ad cI cZ) A none res) (([.ref (ad 0), .int p0] : List Value).toArray) s 0 0 A) (F0 m 2 ls []) := by
    intro n
    induction n with
    | zero =>
      intro x1 M2 H locs ls hP hS hl hf
      exact absurd hf (fun h => nomatch h)
    | succ n ih =>
      intro x1 M2 H locs ls hP hS hl hf
      rw [lp_X6_block_2_s] at hf
      refine lv_iload_n hx hb dX6_block_2 rfl (lv_at hl 2 rfl) ?_
      refine lv_bipush (v := (64 : Int32)) hx hb dX6_block_3 (by decide) ?_
      refine r_icmp_ge (tgt := 130) hx hb dX6_block_5 (by decide) hf (fun hf => ?_) (fun hf => ?_)
      · exact EF3 x1 M2 _ _ _ hP hS (lv_sub hl [0, 1, 2] rfl) hf
      · refine lv_iload_n hx hb dX6_block_8 rfl (lv_at hl 2 rfl) ?_
        refine lv_bipush (v := (16 : Int32)) hx hb dX6_block_9 (by decide) ?_
        refine r_jn hf (fun K69 eK69 hf => ?_)
        have JK69 : ∀ (M68 : Mem) (H : Heap) (locs : List Loc) (ls : Array Slot), va_P D vwCl (gw 25 ad (spM ad cI cZ) M68) H → va_S A s.heap H locs → lv_has ls 8 [(0, .ref (ad 0)), (1, .int p0), (2, .int x1)] → K69 M68 = some res → W p l e (headSpec wsX6_block { frames := 1, cells := 0, slots := 0, locals := 21 }).room s m (([.ref (ad 0), .int p0] : List Value).toArray) below meth c H locs 0 0 (MQ below (Qf D vwCl 25 ad (spM ad cI cZ) A none res) (([.ref (ad 0), .int p0] : List Value).toArray) s 0 0 A) (F0 m 124 ls []) := by
          intro M68 H locs ls hP hS hl hf
          rw [eK69] at hf
          refine lv_iinc (v := x1 + (1 : Int32)) (lv' := [(2, .int (x1 + (1 : Int32))), (0, .ref (ad 0)), (1, .int p0)]) hx hb dX6_block_124 hl (k := 2) rfl rfl (by decide) rfl (fun ls hl => ?_)
          refine lv_goto (tgt := 2) hx hb dX6_block_127 (by decide) ?_
          exact ih (x1 + (1 : Int32)) M68 _ _ _ hP hS (lv_sub hl [1, 2, 0] rfl) hf
        refine r_icmp_ge (tgt := 31) hx hb dX6_block_11 (by decide) hf (fun hf => ?_) (fun hf => ?_)
        · refine lv_aload_n hx hb dX6_block_31 rfl (lv_at hl 0 rfl) ?_
          refine r_getc (k' := 21) (j := 28) hx hb hts inX6 hown hK hP (obX6) rfl (by decide) (hts (.fieldLink RX6 143 "PageMonitorModel" "w" "[I") (by decide +kernel)) (fun _ => rfl) dX6_block_32 ?_
          refine lv_iload_n hx hb dX6_block_35 rfl (lv_at hl 2 rfl) ?_
          refine lv_bipush (v := (15 : Int32)) hx hb dX6_block_36 (by decide) ?_
          refine lv_isub hx hb dX6_block_38 ?_
          refine r_ialdk hx hb hK hP 0 ma21 rfl dX6_block_39 hf (fun x70 hf => ?_)
          refine lv_istore_n (lv' := [(3, .int x70), (0, .ref (ad 0)), (1, .int p0), (2, .int x1)]) hx hb dX6_block_40 rfl hl (by decide) rfl (fun ls hl => ?_)
          refine lv_aload_n hx hb dX6_block_41 rfl (lv_at hl 1 rfl) ?_
          refine r_getc (k' := 21) (j := 28) hx hb hts inX6 hown hK hP (obX6) rfl (by decide) (hts (.fieldLink RX6 143 "PageMonitorModel" "w" "[I") (by decide +kernel)) (fun _ => rfl) dX6_block_42 ?_
          refine lv_iload_n hx hb dX6_block_45 rfl (lv_at hl 3 rfl) ?_
          refine lv_iconst (v := (2 : Int32)) hx hb dX6_block_46 (by decide) ?_
          refine lv_isub hx hb dX6_block_47 ?_
          refine r_ialdk hx hb hK hP 0 ma21 rfl dX6_block_48 hf (fun x71 hf => ?_)
          refine lv_istore (lv' := [(4, .int x71), (3, .int x70), (0, .ref (ad 0)), (1, .int p0), (2, .int x1)]) hx hb dX6_block_49 hl (by decide) rfl (fun ls hl => ?_)
          refine lv_iload_n hx hb dX6_block_51 rfl (lv_at hl 1 rfl) ?_
          refine lv_bipush (v := (7 : Int32)) hx hb dX6_block_52 (by decide) ?_
          obtain ⟨q72, hq72, hf⟩ := ob hf
          refine r_call1 (va_runS (As := [.int x70, .int (7 : Int32)]) (rest := []) ⟨hx, hb, hml, hown, hts⟩ (c_X6_turned hI hA hq72) (va_cwS 2 hts gX6_block_X6_turned rfl rfl rfl (by decide +kernel) ⟨Nat.le_of_ble_eq_true rfl, Nat.le_of_ble_eq_true rfl⟩) (Pf_S XMb (XMo A) hX hK hP hS) rfl rfl hl.1 rfl (lv_room (Nat.le_of_ble_eq_true rfl)) dX6_block_54 ⟨Nat.zero_le _, Nat.zero_le _⟩) hS (fun H locs hP hS => ?_)
          refine lv_iload_n hx hb dX6_block_57 rfl (lv_at hl 1 rfl) ?_
          refine lv_bipush (v := (18 : Int32)) hx hb dX6_block_58 (by decide) ?_
          obtain ⟨q73, hq73, hf⟩ := ob hf
          refine r_call1 (va_runS (As := [.int x70, .int (18 : Int32)]) (rest := [.int q72.1]) ⟨hx, hb, hml, hown, hts⟩ (c_X6_turned hI hA hq73) (va_cwS 2 hts gX6_block_X6_turned rfl rfl rfl (by decide +kernel) ⟨Nat.le_of_ble_eq_true rfl, Nat.le_of_ble_eq_true rfl⟩) (Pf_S XMb (XMo A) hX hK hP hS) rfl rfl hl.1 rfl (lv_room (Nat.le_of_ble_eq_true rfl)) dX6_block_60 ⟨Nat.zero_le _, Nat.zero_le _⟩) hS (fun H locs hP hS => ?_)
          refine lv_ixor hx hb dX6_block_63 ?_
          refine lv_iload_n hx hb dX6_block_64 rfl (lv_at hl 1 rfl) ?_
          refine lv_iconst (v := (3 : Int32)) hx hb dX6_block_65 (by decide) ?_
          refine lv_iushr (v := usr x70 (3 : Int32)) hx hb dX6_block_66 rfl ?_
          refine lv_ixor hx hb dX6_block_67 ?_
          refine r_top (g := .int) hf (fun x74 hf => ?_)
          refine lv_istore (lv' := [(5, .int x74), (4, .int x71), (3, .int x70), (0, .ref (ad 0)), (1, .int p0), (2, .int x1)]) hx hb dX6_block_68 hl (by decide) rfl (fun ls hl => ?_)
          refine lv_iload hx hb dX6_block_70 (lv_at hl 1 rfl) ?_
          refine lv_bipush (v := (17 : Int32)) hx hb dX6_block_72 (by decide) ?_
          obtain ⟨q75, hq75, hf⟩ := ob hf
          refine r_call1 (va_runS (As := [.int x71, .int (17 : Int32)]) (rest := []) ⟨hx, hb, hml, hown, hts⟩ (c_X6_turned hI hA hq75) (va_cwS 2 hts gX6_block_X6_turned rfl rfl rfl (by decide +kernel) ⟨Nat.le_of_ble_eq_true rfl, Nat.le_of_ble_eq_true rfl⟩) (Pf_S XMb (XMo A) hX hK hP hS) rfl rfl hl.1 rfl (lv_room (Nat.le_of_ble_eq_true rfl)) dX6_block_74 ⟨Nat.zero_le _, Nat.zero_le _⟩) hS (fun H locs hP hS => ?_)
          refine lv_iload hx hb dX6_block_77 (lv_at hl 1 rfl) ?_
          refine lv_bipush (v := (19 : Int32)) hx hb dX6_block_79 (by decide) ?_
          obtain ⟨q76, hq76, hf⟩ := ob hf
          refine r_call1 (va_runS (As := [.int x71, .int (19 : Int32)]) (rest := [.int q75.1]) ⟨hx, hb, hml, hown, hts⟩ (c_X6_turned hI hA hq76) (va_cwS 2 hts gX6_block_X6_turned rfl rfl rfl (by decide +kernel) ⟨Nat.le_of_ble_eq_true rfl, Nat.le_of_ble_eq_true rfl⟩) (Pf_S XMb (XMo A) hX hK hP hS) rfl rfl hl.1 rfl (lv_room (Nat.le_of_ble_eq_true rfl)) dX6_block_81 ⟨Nat.zero_le _, Nat.zero_le _⟩) hS (fun H locs hP hS => ?_)
          refine lv_ixor hx hb dX6_block_84 ?_
          refine lv_iload hx hb dX6_block_85 (lv_at hl 1 rfl) ?_
          refine lv_bipush (v := (10 : Int32)) hx hb dX6_block_87 (by decide) ?_
          refine lv_iushr (v := usr x71 (10 : Int32)) hx hb dX6_block_89 rfl ?_
          refine lv_ixor hx hb dX6_block_90 ?_
          refine r_top (g := .int) hf (fun x77 hf => ?_)
          refine lv_istore (lv' := [(6, .int x77), (5, .int x74), (4, .int x71), (3, .int x70), (0, .ref (ad 0)), (1, .int p0), (2, .int x1)]) hx hb dX6_block_91 hl (by decide) rfl (fun ls hl => ?_)
          refine lv_aload_n hx hb dX6_block_93 rfl (lv_at hl 4 rfl) ?_
          refine r_getc (k' := 21) (j := 28) hx hb hts inX6 hown hK hP (obX6) rfl (by decide) (hts (.fieldLink RX6 143 "PageMonitorModel" "w" "[I") (by decide +kernel)) (fun _ => rfl) dX6_block_94 ?_
          refine lv_iload_n hx hb dX6_block_97 rfl (lv_at hl 6 rfl) ?_
          refine lv_aload_n hx hb dX6_block_98 rfl (lv_at hl 4 rfl) ?_
          refine r_getc (k' := 21) (j := 28) hx hb hts inX6 hown hK hP (obX6) rfl (by decide) (hts (.fieldLink RX6 143 "PageMonitorModel" "w" "[I") (by decide +kernel)) (fun _ => rfl) dX6_block_99 ?_
          refine lv_iload_n hx hb dX6_block_102 rfl (lv_at hl 6 rfl) ?_
          refine lv_bipush (v := (16 : Int32)) hx hb dX6_block_103 (by decide) ?_
          refine lv_isub hx hb dX6_block_105 ?_
          refine r_ialdk hx hb hK hP 0 ma21 rfl dX6_block_106 hf (fun x78 hf => ?_)
          refine lv_iload hx hb dX6_block_107 (lv_at hl 1 rfl) ?_
          refine lv_iadd hx hb dX6_block_109 ?_
          refine lv_aload_n hx hb dX6_block_110 rfl (lv_at hl 4 rfl) ?_
          refine r_getc (k' := 21) (j := 28) hx hb hts inX6 hown hK hP (obX6) rfl (by decide) (hts (.fieldLink RX6 143 "PageMonitorModel" "w" "[I") (by decide +kernel)) (fun _ => rfl) dX6_block_111 ?_
          refine lv_iload_n hx hb dX6_block_114 rfl (lv_at hl 6 rfl) ?_
          refine lv_bipush (v := (7 : Int32)) hx hb dX6_block_115 (by decide) ?_
          refine lv_isub hx hb dX6_block_117 ?_
          refine r_ialdk hx hb hK hP 0 ma21 rfl dX6_block_118 hf (fun x79 hf => ?_)
          refine lv_iadd hx hb dX6_block_119 ?_
          refine lv_iload hx hb dX6_block_120 (lv_at hl 0 rfl) ?_
          refine lv_iadd hx hb dX6_block_122 ?_
          refine r_iastk hx hb hI hA hK hP hS 0 ma21 rfl dX6_block_123 hf (fun M80 H locs hP hS hf => ?_)
          exact JK69 M80 _ _ _ hP hS (lv_sub hl [4, 5, 6] rfl) hf
        · refine lv_aload_n hx hb dX6_block_14 rfl (lv_at hl 0 rfl) ?_
          refine r_getc (k' := 21) (j := 28) hx hb hts inX6 hown hK hP (obX6) rfl (by decide) (hts (.fieldLink RX6 143 "PageMonitorModel" "w" "[I") (by decide +kernel)) (fun _ => rfl) dX6_block_15 ?_
          refine lv_iload_n hx hb dX6_block_18 rfl (lv_at hl 2 rfl) ?_
          refine lv_aload_n hx hb dX6_block_19 rfl (lv_at hl 0 rfl) ?_
          refine r_getc (k' := 20) (j := 27) hx hb hts inX6 hown hK hP (obX6) rfl (by decide) (hts (.fieldLink RX6 140 "PageMonitorModel" "message" "[I") (by decide +kernel)) (fun _ => rfl) dX6_block_20 ?_
          refine lv_iload_n hx hb dX6_block_23 rfl (lv_at hl 1 rfl) ?_
          refine lv_iload_n hx hb dX6_block_24 rfl (lv_at hl 2 rfl) ?_
          refine lv_iadd hx hb dX6_block_25 ?_
          refine r_ialdk hx hb hK hP 0 ma20 rfl dX6_block_26 hf (fun x81 hf => ?_)
          refine r_iastk hx hb hI hA hK hP hS 0 ma21 rfl dX6_block_27 hf (fun M82 H locs hP hS hf => ?_)
          refine lv_goto (tgt := 124) hx hb dX6_block_28 (by decide) ?_
          exact JK69 M82 _ _ _ hP hS (lv_sub hl [0, 1, 2] rfl) hf
  exact LF3 FU (0 : Int32) M _ _ _ hP hS (lv_sub hl [1, 2, 0] rfl) hf
set_option maxHeartbeats 4000000 in
set_option maxRecDepth 100000 in
theorem c_X6_hash {l : Launch} {D : va_G} {ad : Nat → Nat} {cI cZ cP cR : ClassId} {A : Nat → Prop} {M : Mem} {p0 : Int32} {res : Mem} (hI : gInj 25 ad) (hA : ∀ k, k < 25 → A (ad k)) (hf : fX6_hash M p0 = some res) : Met l yX6_hash wsX6_hash { frames := 2, cells := 0, slots := 0, locals := 48 } (va_Pc [.ref (ad 0), .int p0] (Pf D vwCl (tysW cI cZ cP cR) 25 ad (spM ad cI cZ) XM M)) (Qf D vwCl 25 ad (spM ad cI cZ) A none res) 0 0 A := by
  refine Met.ofW (cc := cX6_hash) (maxL := 3) (ret := none) (by decide) rfl ?_
  intro p e s m args below meth c s₁ B hml hv
  obtain ⟨rfl, hP, hK, hX⟩ := hv
  have hx := B.exec
  have hb := B.bytes
  have hr := B.returns
  have hts := atoms_spec (ws := wsX6_hash) B.pre
  have hown : s.vm.findClass RX6 = some m.cls := findClass_of_methodNamed B.named
  have hlocks := B.notSynchronized
  have inX6 : ∀ w ∈ wsX60, w ∈ wsX6_hash := by decide +kernel
  have hS : va_S A s.heap s.heap [] := va_S.rf
  have hl := lv_entry ([.ref (ad 0), .int p0]) (n := 3) (Nat.le_of_ble_eq_true rfl)
  rw [lg_entry_eq]
  generalize (lg_sl ([.ref (ad 0), .int p0]) ++ List.replicate (3 - (lg_sl ([.ref (ad 0), .int p0])).length) Slot.unset).toArray = ls at hl ⊢
  have hl : lv_has ls 3 [(0, .ref (ad 0)), (1, .int p0)] := hl
  rw [fX6_hash] at hf
  refine lv_iconst (v := (0 : Int32)) hx hb dX6_hash_0 (by decide) ?_
  refine lv_istore_n (lv' := [(2, .int (0 : Int32)), (0, .ref (ad 0)), (1, .int p0)]) hx hb dX6_hash_1 rfl hl (by decide) rfl (fun ls hl => ?_)
  refine r_jn hf (fun F3 eF3 hf => ?_)
  have EF3 : ∀ (x4 : Int32) (M5 : Mem) (H : Heap) (locs : List Loc) (ls : Array Slot), va_P D vwCl (gw 25 ad (spM ad cI cZ) M5) H → va_S A s.heap H locs → lv_has ls 3 [(0, .ref (ad 0)), (1, .int p0), (2, .int x4)] → F3 x4 M5 = some res → W p l e (headSpec wsX6_hash { frames := 2, cells := 0, slots := 0, locals := 48 }).room s m (([.ref (ad 0), .int p0] : List Value).toArray) below meth c H locs 0 0 (MQ below (Qf D vwCl 25 ad (spM ad cI cZ) A none res) (([.ref (ad 0), .int p0] : List Value).toArray) s 0 0 A) (F0 m 26 ls []) := by
    intro x4 M5 H locs ls hP hS hl hf
    rw [eF3] at hf
    refine lv_aload_n hx hb dX6_hash_26 rfl (lv_at hl 0 rfl) ?_
    refine r_getc (k' := 20) (j := 27) hx hb hts inX6 hown hK hP (obX6) rfl (by decide) (hts (.fieldLink RX6 140 "PageMonitorModel" "message" "[I") (by decide +kernel)) (fun _ => rfl) dX6_hash_27 ?_
    refine lv_iload_n hx hb dX6_hash_30 rfl (lv_at hl 1 rfl) ?_
    refine lv_ldc hx hb hown (hts (.constant RX6 171 (-2147483648 : Int32)) (by decide +kernel)) dX6_hash_31 ?_
    refine r_iastk hx hb hI hA hK hP hS 0 ma20 rfl dX6_hash_33 hf (fun M6 H locs hP hS hf => ?_)
    refine lv_iload_n hx hb dX6_hash_34 rfl (lv_at hl 1 rfl) ?_
    refine lv_iconst (v := (1 : Int32)) hx hb dX6_hash_35 (by decide) ?_
    refine lv_iadd hx hb dX6_hash_36 ?_
    refine r_top (g := .int) hf (fun x7 hf => ?_)
    refine lv_istore_n (lv' := [(2, .int x7), (0, .ref (ad 0)), (1, .int p0)]) hx hb dX6_hash_37 rfl hl (by decide) rfl (fun ls hl => ?_)
    refine r_jn hf (fun F10 eF10 hf => ?_)
    have EF10 : ∀ (x11 : Int32) (M12 : Mem) (H : Heap) (locs : List Loc) (ls : Array Slot), va_P D vwCl (gw 25 ad (spM ad cI cZ) M12) H → va_S A s.heap H locs → lv_has ls 3 [(0, .ref (ad 0)), (1, .int p0), (2, .int x11)] → F10 x11 M12 = some res → W p l e (headSpec wsX6_hash { frames := 2, cells := 0, slots := 0, locals := 48 }).room s m (([.ref (ad 0), .int p0] : List Value).toArray) below meth c H locs 0 0 (MQ below (Qf D vwCl 25 ad (spM ad cI cZ) A none res) (([.ref (ad 0), .int p0] : List Value).toArray) s 0 0 A) (F0 m 59 ls []) := by
      intro x11 M12 H locs ls hP hS hl hf
      rw [eF10] at hf
      refine lv_aload_n hx hb dX6_hash_59 rfl (lv_at hl 0 rfl) ?_
      refine r_getc (k' := 20) (j := 27) hx hb hts inX6 hown hK hP (obX6) rfl (by decide) (hts (.fieldLink RX6 140 "PageMonitorModel" "message" "[I") (by decide +kernel)) (fun _ => rfl) dX6_hash_60 ?_
      refine lv_iload_n hx hb dX6_hash_63 rfl (lv_at hl 1 rfl) ?_
      refine lv_bipush (v := (15 : Int32)) hx hb dX6_hash_64 (by decide) ?_
      refine lv_iadd hx hb dX6_hash_66 ?_
      refine lv_bipush (v := (32 : Int32)) hx hb dX6_hash_67 (by decide) ?_
      refine lv_iload_n hx hb dX6_hash_69 rfl (lv_at hl 1 rfl) ?_
      refine lv_imul hx hb dX6_hash_70 ?_
      refine r_iastk hx hb hI hA hK hP hS 0 ma20 rfl dX6_hash_71 hf (fun M13 H locs hP hS hf => ?_)
      refine lv_iconst (v := (0 : Int32)) hx hb dX6_hash_72 (by decide) ?_
      refine lv_istore_n (lv' := [(2, .int (0 : Int32)), (0, .ref (ad 0)), (1, .int p0)]) hx hb dX6_hash_73 rfl hl (by decide) rfl (fun ls hl => ?_)
      refine r_jn hf (fun F16 eF16 hf => ?_)
      have EF16 : ∀ (x17 : Int32) (M18 : Mem) (H : Heap) (locs : List Loc) (ls : Array Slot), va_P D vwCl (gw 25 ad (spM ad cI cZ) M18) H → va_S A s.heap H locs → lv_has ls 3 [(0, .ref (ad 0)), (1, .int p0), (2, .int x17)] → F16 x17 M18 = some res → W p l e (headSpec wsX6_hash { frames := 2, cells := 0, slots := 0, locals := 48 }).room s m (([.ref (ad 0), .int p0] : List Value).toArray) below meth c H locs 0 0 (MQ below (Qf D vwCl 25 ad (spM ad cI cZ) A none res) (([.ref (ad 0), .int p0] : List Value).toArray) s 0 0 A) (F0 m 90 ls []) := by
        intro x17 M18 H locs ls hP hS hl hf
        rw [eF16] at hf
        obtain rfl := Option.some.inj hf
        exact r_vret hx hb hr hlocks hP hS dX6_hash_90
      have LF16 : ∀ (n : Nat) (x14 : Int32) (M15 : Mem) (H : Heap) (locs : List Loc) (ls : Array Slot), va_P D vwCl (gw 25 ad (spM ad cI cZ) M15) H → va_S A s.heap H locs → lv_has ls 3 [(0, .ref (ad 0)), (1, .int p0), (2, .int x14)] → lp_X6_hash_74 p0 F16 n x14 M15 = some res → W p l e (headSpec wsX6_hash { frames := 2, cells := 0, slots := 0, locals := 48 }).room s m (([.ref (ad 0), .int p0] : List Value).toArray) below meth c H locs 0 0 (MQ below (Qf D vwCl 25 ad (spM ad cI cZ) A none res) (([.ref (ad 0), .int p0] : List Value).toArray) s 0 0 A) (F0 m 74 ls []) := by
        intro n
        induction n with
        | zero =>
          intro x14 M15 H locs ls hP hS hl hf
          exact absurd hf (fun h => nomatch h)
        | succ n ih =>
          intro x14 M15 H locs ls hP hS hl hf
          rw [lp_X6_hash_74_s] at hf
          refine lv_iload_n hx hb dX6_hash_74 rfl (lv_at hl 2 rfl) ?_
          refine lv_iload_n hx hb dX6_hash_75 rfl (lv_at hl 1 rfl) ?_
          refine r_icmp_gt (tgt := 90) hx hb dX6_hash_76 (by decide) hf (fun hf => ?_) (fun hf => ?_)
          · exact EF16 x14 M15 _ _ _ hP hS (lv_sub hl [0, 1, 2] rfl) hf
          · refine lv_aload_n hx hb dX6_hash_79 rfl (lv_at hl 0 rfl) ?_
            refine lv_iload_n hx hb dX6_hash_80 rfl (lv_at hl 2 rfl) ?_
            obtain ⟨q19, hq19, hf⟩ := ob hf
            refine r_callv (va_runV (As := [.int x14]) (rest := []) ⟨hx, hb, hml, hown, hts⟩ (c_X6_block hI hA hq19) (cwV 1 hts gX6_hash_X6_block rfl rfl rfl (by decide +kernel) ⟨Nat.le_of_ble_eq_true rfl, Nat.le_of_ble_eq_true rfl⟩) (Pf_V XMb (XMo A) hX hK hP hS obX6 rfl) rfl rfl hl.1 rfl (lv_room (Nat.le_of_ble_eq_true rfl)) dX6_hash_81 ⟨Nat.zero_le _, Nat.zero_le _⟩) hS (fun H locs hP hS => ?_)
            refine lv_iinc (v := x14 + (16 : Int32)) (lv' := [(2, .int (x14 + (16 : Int32))), (0, .ref (ad 0)), (1, .int p0)]) hx hb dX6_hash_84 hl (k := 2) rfl rfl (by decide) rfl (fun ls hl => ?_)
            refine lv_goto (tgt := 74) hx hb dX6_hash_87 (by decide) ?_
            exact ih (x14 + (16 : Int32)) q19 _ _ _ hP hS (lv_sub hl [1, 2, 0] rfl) hf
      exact LF16 FU (0 : Int32) M13 _ _ _ hP hS (lv_sub hl [1, 2, 0] rfl) hf
    have LF10 : ∀ (n : Nat) (x8 : Int32) (M9 : Mem) (H : Heap) (locs : List Loc) (ls : Array Slot), va_P D vwCl (gw 25 ad (spM ad cI cZ) M9) H → va_S A s.heap H locs → lv_has ls 3 [(0, .ref (ad 0)), (1, .int p0), (2, .int x8)] → lp_X6_hash_38 p0 F10 n x8 M9 = some res → W p l e (headSpec wsX6_hash { frames := 2, cells := 0, slots := 0, locals := 48 }).room s m (([.ref (ad 0), .int p0] : List Value).toArray) below meth c H locs 0 0 (MQ below (Qf D vwCl 25 ad (spM ad cI cZ) A none res) (([.ref (ad 0), .int p0] : List Value).toArray) s 0 0 A) (F0 m 38 ls []) := by
      intro n
      induction n with
      | zero =>
        intro x8 M9 H locs ls hP hS hl hf
        exact absurd hf (fun h => nomatch h)
      | succ n ih =>
        intro x8 M9 H locs ls hP hS hl hf
        rw [lp_X6_hash_38_s] at hf
        refine lv_iload_n hx hb dX6_hash_38 rfl (lv_at hl 2 rfl) ?_
        refine lv_iload_n hx hb dX6_hash_39 rfl (lv_at hl 1 rfl) ?_
        refine lv_bipush (v := (16 : Int32)) hx hb dX6_hash_40 (by decide) ?_
        refine lv_iadd hx hb dX6_hash_42 ?_
        refine r_icmp_ge (tgt := 59) hx hb dX6_hash_43 (by decide) hf (fun hf => ?_) (fun hf => ?_)
        · exact EF10 x8 M9 _ _ _ hP hS (lv_sub hl [0, 1, 2] rfl) hf
        · refine lv_aload_n hx hb dX6_hash_46 rfl (lv_at hl 0 rfl) ?_
          refine r_getc (k' := 20) (j := 27) hx hb hts inX6 hown hK hP (obX6) rfl (by decide) (hts (.fieldLink RX6 140 "PageMonitorModel" "message" "[I") (by decide +kernel)) (fun _ => rfl) dX6_hash_47 ?_
          refine lv_iload_n hx hb dX6_hash_50 rfl (lv_at hl 2 rfl) ?_
          refine lv_iconst (v := (0 : Int32)) hx hb dX6_hash_51 (by decide) ?_
          refine r_iastk hx hb hI hA hK hP hS 0 ma20 rfl dX6_hash_52 hf (fun M20 H locs hP hS hf => ?_)
          refine lv_iinc (v := x8 + (1 : Int32)) (lv' := [(2, .int (x8 + (1 : Int32))), (0, .ref (ad 0)), (1, .int p0)]) hx hb dX6_hash_53 hl (k := 2) rfl rfl (by decide) rfl (fun ls hl => ?_)
          refine lv_goto (tgt := 38) hx hb dX6_hash_56 (by decide) ?_
          exact ih (x8 + (1 : Int32)) M20 _ _ _ hP hS (lv_sub hl [1, 2, 0] rfl) hf
    exact LF10 FU x7 M6 _ _ _ hP hS (lv_sub hl [1, 2, 0] rfl) hf
  have LF3 : ∀ (n : Nat) (x1 : Int32) (M2 : Mem) (H : Heap) (locs : List Loc) (ls : Array Slot), va_P D vwCl (gw 25 ad (spM ad cI cZ) M2) H → va_S A s.heap H locs → lv_has ls 3 [(0, .ref (ad 0)), (1, .int p0), (2, .int x1)] → lp_X6_hash_2 F3 n x1 M2 = some res → W p l e (headSpec wsX6_hash { frames := 2, cells := 0, slots := 0, locals := 48 }).room s m (([.ref (ad 0), .int p0] : List Value).toArray) below meth c H locs 0 0 (MQ below (Qf D vwCl 25 ad (spM ad cI cZ) A none res) (([.ref (ad 0), .int p0] : List Value).toArray) s 0 0 A) (F0 m 2 ls []) := by
    intro n
    induction n with
    | zero =>
      intro x1 M2 H locs ls hP hS hl hf
      exact absurd hf (fun h => nomatch h)
    | succ n ih =>
      intro x1 M2 H locs ls hP hS hl hf
      rw [lp_X6_hash_2_s] at hf
      refine lv_iload_n hx hb dX6_hash_2 rfl (lv_at hl 2 rfl) ?_
      refine lv_bipush (v := (8 : Int32)) hx hb dX6_hash_3 (by decide) ?_
      refine r_icmp_ge (tgt := 26) hx hb dX6_hash_5 (by decide) hf (fun hf => ?_) (fun hf => ?_)
      · exact EF3 x1 M2 _ _ _ hP hS (lv_sub hl [0, 1, 2] rfl) hf
      · refine lv_aload_n hx hb dX6_hash_8 rfl (lv_at hl 0 rfl) ?_
        refine r_getc (k' := 22) (j := 29) hx hb hts inX6 hown hK hP (obX6) rfl (by decide) (hts (.fieldLink RX6 146 "PageMonitorModel" "digest" "[I") (by decide +kernel)) (fun _ => rfl) dX6_hash_9 ?_
        refine lv_iload_n hx hb dX6_hash_12 rfl (lv_at hl 2 rfl) ?_
        refine lv_aload_n hx hb dX6_hash_13 rfl (lv_at hl 0 rfl) ?_
        refine r_getc (k' := 19) (j := 26) hx hb hts inX6 hown hK hP (obX6) rfl (by decide) (hts (.fieldLink RX6 137 "PageMonitorModel" "begins" "[I") (by decide +kernel)) (fun _ => rfl) dX6_hash_14 ?_
        refine lv_iload_n hx hb dX6_hash_17 rfl (lv_at hl 2 rfl) ?_
        refine r_ialdk hx hb hK hP 0 ma19 rfl dX6_hash_18 hf (fun x21 hf => ?_)
        refine r_iastk hx hb hI hA hK hP hS 0 ma22 rfl dX6_hash_19 hf (fun M22 H locs hP hS hf => ?_)
        refine lv_iinc (v := x1 + (1 : Int32)) (lv' := [(2, .int (x1 + (1 : Int32))), (0, .ref (ad 0)), (1, .int p0)]) hx hb dX6_hash_20 hl (k := 2) rfl rfl (by decide) rfl (fun ls hl => ?_)
        refine lv_goto (tgt := 2) hx hb dX6_hash_23 (by decide) ?_
        exact ih (x1 + (1 : Int32)) M22 _ _ _ hP hS (lv_sub hl [1, 2, 0] rfl) hf
  exact LF3 FU (0 : Int32) M _ _ _ hP hS (lv_sub hl [1, 2, 0] rfl) hf
set_option maxHeartbeats 4000000 in
set_option maxRecDepth 100000 in
theorem c_X6_voucher {l : Launch} {D : va_G} {ad : Nat → Nat} {cI cZ cP cR : ClassId} {A : Nat → Prop} {M : Mem} {p0 : Nat} {p1 : Int32} {res : Mem} (hI : gInj 25 ad) (hA : ∀ k, k < 25 → A (ad k)) (hf : fX6_voucher M p0 p1 = some res) : Met l yX6_voucher wsX6_voucher { frames := 3, cells := 0, slots := 0, locals := 70 } (va_Pc [.ref (ad 0), .ref (ad p0), .int p1] (Pf D vwCl (tysW cI cZ cP cR) 25 ad (spM ad cI cZ) XM M)) (Qf D vwCl 25 ad (spM ad cI cZ) A none res) 0 0 A := by
  refine Met.ofW (cc := cX6_voucher) (maxL := 4) (ret := none) (by decide) rfl ?_
  intro p e s m args below meth c s₁ B hml hv
  obtain ⟨rfl, hP, hK, hX⟩ := hv
  have hx := B.exec
  have hb := B.bytes
  have hr := B.returns
  have hts := atoms_spec (ws := wsX6_voucher) B.pre
  have hown : s.vm.findClass RX6 = some m.cls := findClass_of_methodNamed B.named
  have hlocks := B.notSynchronized
  have inX6 : ∀ w ∈ wsX60, w ∈ wsX6_voucher := by decide +kernel
  have hS : va_S A s.heap s.heap [] := va_S.rf
  have hl := lv_entry ([.ref (ad 0), .ref (ad p0), .int p1]) (n := 4) (Nat.le_of_ble_eq_true rfl)
  rw [lg_entry_eq]
  generalize (lg_sl ([.ref (ad 0), .ref (ad p0), .int p1]) ++ List.replicate (4 - (lg_sl ([.ref (ad 0), .ref (ad p0), .int p1])).length) Slot.unset).toArray = ls at hl ⊢
  have hl : lv_has ls 4 [(0, .ref (ad 0)), (1, .ref (ad p0)), (2, .int p1)] := hl
  rw [fX6_voucher] at hf
  refine lv_iconst (v := (0 : Int32)) hx hb dX6_voucher_0 (by decide) ?_
  refine lv_istore_n (lv' := [(3, .int (0 : Int32)), (0, .ref (ad 0)), (1, .ref (ad p0)), (2, .int p1)]) hx hb dX6_voucher_1 rfl hl (by decide) rfl (fun ls hl => ?_)
  refine r_jn hf (fun F3 eF3 hf => ?_)
  have EF3 : ∀ (x4 : Int32) (M5 : Mem) (H : Heap) (locs : List Loc) (ls : Array Slot), va_P D vwCl (gw 25 ad (spM ad cI cZ) M5) H → va_S A s.heap H locs → lv_has ls 4 [(0, .ref (ad 0)), (1, .ref (ad p0)), (2, .int p1), (3, .int x4)] → F3 x4 M5 = some res → W p l e (headSpec wsX6_voucher { frames := 3, cells := 0, slots := 0, locals := 70 }).room s m (([.ref (ad 0), .ref (ad p0), .int p1] : List Value).toArray) below meth c H locs 0 0 (MQ below (Qf D vwCl 25 ad (spM ad cI cZ) A none res) (([.ref (ad 0), .ref (ad p0), .int p1] : List Value).toArray) s 0 0 A) (F0 m 50 ls []) := by
    intro x4 M5 H locs ls hP hS hl hf
    rw [eF3] at hf
    refine lv_aload_n hx hb dX6_voucher_50 rfl (lv_at hl 0 rfl) ?_
    refine lv_bipush (v := (32 : Int32)) hx hb dX6_voucher_51 (by decide) ?_
    obtain ⟨q6, hq6, hf⟩ := ob hf
    refine r_callv (va_runV (As := [.int (32 : Int32)]) (rest := []) ⟨hx, hb, hml, hown, hts⟩ (c_X6_hash hI hA hq6) (cwV 1 hts gX6_voucher_X6_hash rfl rfl rfl (by decide +kernel) ⟨Nat.le_of_ble_eq_true rfl, Nat.le_of_ble_eq_true rfl⟩) (Pf_V XMb (XMo A) hX hK hP hS obX6 rfl) rfl rfl hl.1 rfl (lv_room (Nat.le_of_ble_eq_true rfl)) dX6_voucher_53 ⟨Nat.zero_le _, Nat.zero_le _⟩) hS (fun H locs hP hS => ?_)
    obtain rfl := Option.some.inj hf
    exact r_vret hx hb hr hlocks hP hS dX6_voucher_56
  have LF3 : ∀ (n : Nat) (x1 : Int32) (M2 : Mem) (H : Heap) (locs : List Loc) (ls : Array Slot), va_P D vwCl (gw 25 ad (spM ad cI cZ) M2) H → va_S A s.heap H locs → lv_has ls 4 [(0, .ref (ad 0)), (1, .ref (ad p0)), (2, .int p1), (3, .int x1)] → lp_X6_voucher_2 p0 p1 F3 n x1 M2 = some res → W p l e (headSpec wsX6_voucher { frames := 3, cells := 0, slots := 0, locals := 70 }).room s m (([.ref (ad 0), .ref (ad p0), .int p1] : List Value).toArray) below meth c H locs 0 0 (MQ below (Qf D vwCl 25 ad (spM ad cI cZ) A none res) (([.ref (ad 0), .ref (ad p0), .int p1] : List Value).toArray) s 0 0 A) (F0 m 2 ls []) := by
    intro n
    induction n with
    | zero =>
      intro x1 M2 H locs ls hP hS hl hf
      exact absurd hf (fun h => nomatch h)
    | succ n ih =>
      intro x1 M2 H locs ls hP hS hl hf
      rw [lp_X6_voucher_2_s] at hf
      refine lv_iload_n hx hb dX6_voucher_2 rfl (lv_at hl 3 rfl) ?_
      refine lv_bipush (v := (8 : Int32)) hx hb dX6_voucher_3 (by decide) ?_
      refine r_icmp_ge (tgt := 50) hx hb dX6_voucher_5 (by decide) hf (fun hf => ?_) (fun hf => ?_)
      · exact EF3 x1 M2 _ _ _ hP hS (lv_sub hl [0, 1, 2, 3] rfl) hf
      · refine lv_aload_n hx hb dX6_voucher_8 rfl (lv_at hl 0 rfl) ?_
        refine r_getc (k' := 20) (j := 27) hx hb hts inX6 hown hK hP (obX6) rfl (by decide) (hts (.fieldLink RX6 140 "PageMonitorModel" "message" "[I") (by decide +kernel)) (fun _ => rfl) dX6_voucher_9 ?_
        refine lv_iload_n hx hb dX6_voucher_12 rfl (lv_at hl 3 rfl) ?_
        refine lv_aload_n hx hb dX6_voucher_13 rfl (lv_at hl 0 rfl) ?_
        refine r_getc (k' := 1) (j := 1) hx hb hts inX6 hown hK hP (obX6) rfl (by decide) (hts (.fieldLink RX6 7 "PageMonitorModel" "key" "[I") (by decide +kernel)) (fun _ => rfl) dX6_voucher_14 ?_
        refine lv_iload_n hx hb dX6_voucher_17 rfl (lv_at hl 3 rfl) ?_
        refine r_ialdk hx hb hK hP 0 ma1 rfl dX6_voucher_18 hf (fun x7 hf => ?_)
        refine r_iastk hx hb hI hA hK hP hS 0 ma20 rfl dX6_voucher_19 hf (fun M8 H locs hP hS hf => ?_)
        refine lv_aload_n hx hb dX6_voucher_20 rfl (lv_at hl 0 rfl) ?_
        refine r_getc (k' := 20) (j := 27) hx hb hts inX6 hown hK hP (obX6) rfl (by decide) (hts (.fieldLink RX6 140 "PageMonitorModel" "message" "[I") (by decide +kernel)) (fun _ => rfl) dX6_voucher_21 ?_
        refine lv_bipush (v := (8 : Int32)) hx hb dX6_voucher_24 (by decide) ?_
        refine lv_iload_n hx hb dX6_voucher_26 rfl (lv_at hl 3 rfl) ?_
        refine lv_iadd hx hb dX6_voucher_27 ?_
        refine lv_aload_n hx hb dX6_voucher_28 rfl (lv_at hl 1 rfl) ?_
        refine lv_iload_n hx hb dX6_voucher_29 rfl (lv_at hl 2 rfl) ?_
        refine lv_iload_n hx hb dX6_voucher_30 rfl (lv_at hl 3 rfl) ?_
        refine lv_iadd hx hb dX6_voucher_31 ?_
        refine r_iald hx hb hK hP 0 isIM_s rfl dX6_voucher_32 hf (fun x9 hf => ?_)
        refine r_iastk hx hb hI hA hK hP hS 0 ma20 rfl dX6_voucher_33 hf (fun M10 H locs hP hS hf => ?_)
        refine lv_aload_n hx hb dX6_voucher_34 rfl (lv_at hl 0 rfl) ?_
        refine r_getc (k' := 20) (j := 27) hx hb hts inX6 hown hK hP (obX6) rfl (by decide) (hts (.fieldLink RX6 140 "PageMonitorModel" "message" "[I") (by decide +kernel)) (fun _ => rfl) dX6_voucher_35 ?_
        refine lv_bipush (v := (24 : Int32)) hx hb dX6_voucher_38 (by decide) ?_
        refine lv_iload_n hx hb dX6_voucher_40 rfl (lv_at hl 3 rfl) ?_
        refine lv_iadd hx hb dX6_voucher_41 ?_
        refine lv_iconst (v := (0 : Int32)) hx hb dX6_voucher_42 (by decide) ?_
        refine r_iastk hx hb hI hA hK hP hS 0 ma20 rfl dX6_voucher_43 hf (fun M11 H locs hP hS hf => ?_)
        refine lv_iinc (v := x1 + (1 : Int32)) (lv' := [(3, .int (x1 + (1 : Int32))), (0, .ref (ad 0)), (1, .ref (ad p0)), (2, .int p1)]) hx hb dX6_voucher_44 hl (k := 3) rfl rfl (by decide) rfl (fun ls hl => ?_)
        refine lv_goto (tgt := 2) hx hb dX6_voucher_47 (by decide) ?_
        exact ih (x1 + (1 : Int32)) M11 _ _ _ hP hS (lv_sub hl [1, 2, 3, 0] rfl) hf
  exact LF3 FU (0 : Int32) M _ _ _ hP hS (lv_sub hl [1, 2, 3, 0] rfl) hf
