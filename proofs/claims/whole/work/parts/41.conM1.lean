set_option maxHeartbeats 4000000 in
set_option maxRecDepth 100000 in
theorem c_X6_key {l : Launch} {D : va_G} {ad : Nat → Nat} {cI cZ cP cR : ClassId} {A : Nat → Prop} {M : Mem} {p0 : Int32} {p1 : Int32} {res : Mem} (hI : gInj 25 ad) (hA : ∀ k, k < 25 → A (ad k)) (hf : fX6_key M p0 p1 = some res) : Met l yX6_key wsX6_key { frames := 1, cells := 0, slots := 0, locals := 21 } (va_Pc [.ref (ad 0), .int p0, .int p1] (Pf D vwCl (tysW cI cZ cP cR) 25 ad (spM ad cI cZ) XM M)) (Qf D vwCl 25 ad (spM ad cI cZ) A none res) 0 0 A := by
  refine Met.ofW (cc := cX6_key) (maxL := 3) (ret := none) (by decide) rfl ?_
  intro p e s m args below meth c s₁ B hml hv
  obtain ⟨rfl, hP, hK, hX⟩ := hv
  have hx := B.exec
  have hb := B.bytes
  have hr := B.returns
  have hts := atoms_spec (ws := wsX6_key) B.pre
  have hown : s.vm.findClass RX6 = some m.cls := findClass_of_methodNamed B.named
  have hlocks := B.notSynchronized
  have inX6 : ∀ w ∈ wsX60, w ∈ wsX6_key := by decide +kernel
  have hS : va_S A s.heap s.heap [] := va_S.rf
  have hl := lv_entry ([.ref (ad 0), .int p0, .int p1]) (n := 3) (Nat.le_of_ble_eq_true rfl)
  rw [lg_entry_eq]
  generalize (lg_sl ([.ref (ad 0), .int p0, .int p1]) ++ List.replicate (3 - (lg_sl ([.ref (ad 0), .int p0, .int p1])).length) Slot.unset).toArray = ls at hl ⊢
  have hl : lv_has ls 3 [(0, .ref (ad 0)), (1, .int p0), (2, .int p1)] := hl
  rw [fX6_key] at hf
  refine lv_aload_n hx hb dX6_key_0 rfl (lv_at hl 0 rfl) ?_
  refine lv_iload_n hx hb dX6_key_1 rfl (lv_at hl 1 rfl) ?_
  refine r_jn hf (fun K2 eK2 hf => ?_)
  have JK2 : ∀ (x1 : Int32) (H : Heap) (locs : List Loc) (ls : Array Slot), va_P D vwCl (gw 25 ad (spM ad cI cZ) M) H → va_S A s.heap H locs → lv_has ls 3 [(0, .ref (ad 0)), (1, .int p0), (2, .int p1)] → K2 x1 = some res → W p l e (headSpec wsX6_key { frames := 1, cells := 0, slots := 0, locals := 21 }).room s m (([.ref (ad 0), .int p0, .int p1] : List Value).toArray) below meth c H locs 0 0 (MQ below (Qf D vwCl 25 ad (spM ad cI cZ) A none res) (([.ref (ad 0), .int p0, .int p1] : List Value).toArray) s 0 0 A) (F0 m 16 ls [.int x1, .ref (ad 0)]) := by
    intro x1 H locs ls hP hS hl hf
    rw [eK2] at hf
    refine r_putik (j := 0) hx hb hts inX6 tyX6 tyX6_ok nmX6 hown hI hA hK hP hS (obX6) rfl (by decide) (hts (.fieldLink RX6 158 "PageMonitorModel" "thrown" "I") (by decide +kernel)) rfl rfl rfl (fun _ => Nat.le_of_ble_eq_true rfl) (fun _ _ => rfl) dX6_key_16 hf (fun M3 H locs hP hS hf => ?_)
    refine lv_aload_n hx hb dX6_key_19 rfl (lv_at hl 0 rfl) ?_
    refine r_getik (j := 0) hx hb hts inX6 hown hK hP (obX6) rfl (by decide) (hts (.fieldLink RX6 158 "PageMonitorModel" "thrown" "I") (by decide +kernel)) (fun _ => rfl) dX6_key_20 hf (fun x4 hf => ?_)
    refine r_jn hf (fun K8 eK8 hf => ?_)
    have JK8 : ∀ (M7 : Mem) (H : Heap) (locs : List Loc) (ls : Array Slot), va_P D vwCl (gw 25 ad (spM ad cI cZ) M7) H → va_S A s.heap H locs → lv_has ls 3 [(0, .ref (ad 0)), (1, .int p0), (2, .int p1)] → K8 M7 = some res → W p l e (headSpec wsX6_key { frames := 1, cells := 0, slots := 0, locals := 21 }).room s m (([.ref (ad 0), .int p0, .int p1] : List Value).toArray) below meth c H locs 0 0 (MQ below (Qf D vwCl 25 ad (spM ad cI cZ) A none res) (([.ref (ad 0), .int p0, .int p1] : List Value).toArray) s 0 0 A) (F0 m 37 ls []) := by
      intro M7 H locs ls hP hS hl hf
      rw [eK8] at hf
      obtain rfl := Option.some.inj hf
      exact r_vret hx hb hr hlocks hP hS dX6_key_37
    refine r_if_ne (tgt := 37) hx hb dX6_key_23 (by decide) hf (fun hf => ?_) (fun hf => ?_)
    · exact JK8 M3 _ _ _ hP hS (lv_sub hl [0, 1, 2] rfl) hf
    · refine lv_aload_n hx hb dX6_key_26 rfl (lv_at hl 0 rfl) ?_
      refine r_getc (k' := 1) (j := 1) hx hb hts inX6 hown hK hP (obX6) rfl (by decide) (hts (.fieldLink RX6 7 "PageMonitorModel" "key" "[I") (by decide +kernel)) (fun _ => rfl) dX6_key_27 ?_
      refine lv_iload_n hx hb dX6_key_30 rfl (lv_at hl 1 rfl) ?_
      refine lv_iload_n hx hb dX6_key_31 rfl (lv_at hl 2 rfl) ?_
      refine r_iastk hx hb hI hA hK hP hS 0 ma1 rfl dX6_key_32 hf (fun M9 H locs hP hS hf => ?_)
      refine lv_aload_n hx hb dX6_key_33 rfl (lv_at hl 0 rfl) ?_
      obtain ⟨q10, hq10, hf⟩ := ob hf
      refine r_callv (va_runV (As := []) (rest := []) ⟨hx, hb, hml, hown, hts⟩ (c_X6_free hI hA hq10) (cwV 0 hts gX6_key_X6_free rfl rfl rfl (by decide +kernel) ⟨Nat.le_of_ble_eq_true rfl, Nat.le_of_ble_eq_true rfl⟩) (Pf_V XMb (XMo A) hX hK hP hS obX6 rfl) rfl rfl hl.1 rfl (lv_room (Nat.le_of_ble_eq_true rfl)) dX6_key_34 ⟨Nat.zero_le _, Nat.zero_le _⟩) hS (fun H locs hP hS => ?_)
      exact JK8 q10 _ _ _ hP hS (lv_sub hl [0, 1, 2] rfl) hf
  refine r_if_lt (tgt := 11) hx hb dX6_key_2 (by decide) hf (fun hf => ?_) (fun hf => ?_)
  · refine lv_iconst (v := (1 : Int32)) hx hb dX6_key_11 (by decide) ?_
    refine lv_goto (tgt := 16) hx hb dX6_key_12 (by decide) ?_
    exact JK2 (1 : Int32) _ _ _ hP hS (lv_sub hl [0, 1, 2] rfl) hf
  · refine lv_iload_n hx hb dX6_key_5 rfl (lv_at hl 1 rfl) ?_
    refine lv_bipush (v := (7 : Int32)) hx hb dX6_key_6 (by decide) ?_
    refine r_icmp_le (tgt := 15) hx hb dX6_key_8 (by decide) hf (fun hf => ?_) (fun hf => ?_)
    · refine lv_iconst (v := (0 : Int32)) hx hb dX6_key_15 (by decide) ?_
      exact JK2 (0 : Int32) _ _ _ hP hS (lv_sub hl [0, 1, 2] rfl) hf
    · refine lv_iconst (v := (1 : Int32)) hx hb dX6_key_11 (by decide) ?_
      refine lv_goto (tgt := 16) hx hb dX6_key_12 (by decide) ?_
      exact JK2 (1 : Int32) _ _ _ hP hS (lv_sub hl [0, 1, 2] rfl) hf
set_option maxHeartbeats 4000000 in
set_option maxRecDepth 100000 in
theorem c_X6_noFrame {l : Launch} {D : va_G} {ad : Nat → Nat} {cI cZ cP cR : ClassId} {A : Nat → Prop} {M : Mem} {p0 : Int32} {res : (Int32 × Mem)} (hI : gInj 25 ad) (hA : ∀ k, k < 25 → A (ad k)) (hf : fX6_noFrame M p0 = some res) : Met l yX6_noFrame wsX6_noFrame { frames := 0, cells := 0, slots := 0, locals := 0 } (va_Pc [.int p0] (Pf D vwCl (tysW cI cZ cP cR) 25 ad (spM ad cI cZ) XM M)) (Qf D vwCl 25 ad (spM ad cI cZ) A (some (.int res.1)) res.2) 0 0 A := by
  refine Met.ofW (cc := cX6_noFrame) (maxL := 1) (ret := (some .boolean)) (by decide) rfl ?_
  intro p e s m args below meth c s₁ B hml hv
  obtain ⟨rfl, hP, hK, hX⟩ := hv
  have hx := B.exec
  have hb := B.bytes
  have hr := B.returns
  have hts := atoms_spec (ws := wsX6_noFrame) B.pre
  have hown : s.vm.findClass RX6 = some m.cls := findClass_of_methodNamed B.named
  have hlocks := B.notSynchronized
  have hS : va_S A s.heap s.heap [] := va_S.rf
  have hl := lv_entry ([.int p0]) (n := 1) (Nat.le_of_ble_eq_true rfl)
  rw [lg_entry_eq]
  generalize (lg_sl ([.int p0]) ++ List.replicate (1 - (lg_sl ([.int p0])).length) Slot.unset).toArray = ls at hl ⊢
  have hl : lv_has ls 1 [(0, .int p0)] := hl
  rw [fX6_noFrame] at hf
  refine lv_iload_n hx hb dX6_noFrame_0 rfl (lv_at hl 0 rfl) ?_
  refine r_jn hf (fun K2 eK2 hf => ?_)
  have JK2 : ∀ (x1 : Int32) (H : Heap) (locs : List Loc) (ls : Array Slot), va_P D vwCl (gw 25 ad (spM ad cI cZ) M) H → va_S A s.heap H locs → lv_has ls 1 [(0, .int p0)] → K2 x1 = some res → W p l e (headSpec wsX6_noFrame { frames := 0, cells := 0, slots := 0, locals := 0 }).room s m (([.int p0] : List Value).toArray) below meth c H locs 0 0 (MQ below (Qf D vwCl 25 ad (spM ad cI cZ) A (some (.int res.1)) res.2) (([.int p0] : List Value).toArray) s 0 0 A) (F0 m 15 ls [.int x1]) := by
    intro x1 H locs ls hP hS hl hf
    rw [eK2] at hf
    obtain ⟨hz, hf⟩ := gd_s hf
    obtain rfl := Option.some.inj hf
    exact r_zret hx hb hr (isB_n hz) hlocks hP hS dX6_noFrame_15
  refine r_if_lt (tgt := 10) hx hb dX6_noFrame_1 (by decide) hf (fun hf => ?_) (fun hf => ?_)
  · refine lv_iconst (v := (1 : Int32)) hx hb dX6_noFrame_10 (by decide) ?_
    refine lv_goto (tgt := 15) hx hb dX6_noFrame_11 (by decide) ?_
    exact JK2 (1 : Int32) _ _ _ hP hS (lv_sub hl [0] rfl) hf
  · refine lv_iload_n hx hb dX6_noFrame_4 rfl (lv_at hl 0 rfl) ?_
    refine lv_bipush (v := (8 : Int32)) hx hb dX6_noFrame_5 (by decide) ?_
    refine r_icmp_lt (tgt := 14) hx hb dX6_noFrame_7 (by decide) hf (fun hf => ?_) (fun hf => ?_)
    · refine lv_iconst (v := (0 : Int32)) hx hb dX6_noFrame_14 (by decide) ?_
      exact JK2 (0 : Int32) _ _ _ hP hS (lv_sub hl [0] rfl) hf
    · refine lv_iconst (v := (1 : Int32)) hx hb dX6_noFrame_10 (by decide) ?_
      refine lv_goto (tgt := 15) hx hb dX6_noFrame_11 (by decide) ?_
      exact JK2 (1 : Int32) _ _ _ hP hS (lv_sub hl [0] rfl) hf
set_option maxHeartbeats 4000000 in
set_option maxRecDepth 100000 in
theorem c_X6_poke {l : Launch} {D : va_G} {ad : Nat → Nat} {cI cZ cP cR : ClassId} {A : Nat → Prop} {M : Mem} {p0 : Int32} {p1 : Int32} {p2 : Int32} {res : (Int32 × Mem)} (hI : gInj 25 ad) (hA : ∀ k, k < 25 → A (ad k)) (hf : fX6_poke M p0 p1 p2 = some res) : Met l yX6_poke wsX6_poke { frames := 1, cells := 0, slots := 0, locals := 20 } (va_Pc [.ref (ad 0), .int p0, .int p1, .int p2] (Pf D vwCl (tysW cI cZ cP cR) 25 ad (spM ad cI cZ) XM M)) (Qf D vwCl 25 ad (spM ad cI cZ) A (some (.int res.1)) res.2) 0 0 A := by
  refine Met.ofW (cc := cX6_poke) (maxL := 5) (ret := (some .int)) (by decide) rfl ?_
  intro p e s m args below meth c s₁ B hml hv
  obtain ⟨rfl, hP, hK, hX⟩ := hv
  have hx := B.exec
  have hb := B.bytes
  have hr := B.returns
  have hts := atoms_spec (ws := wsX6_poke) B.pre
  have hown : s.vm.findClass RX6 = some m.cls := findClass_of_methodNamed B.named
  have hlocks := B.notSynchronized
  have inX6 : ∀ w ∈ wsX60, w ∈ wsX6_poke := by decide +kernel
  have hS : va_S A s.heap s.heap [] := va_S.rf
  have hl := lv_entry ([.ref (ad 0), .int p0, .int p1, .int p2]) (n := 5) (Nat.le_of_ble_eq_true rfl)
  rw [lg_entry_eq]
  generalize (lg_sl ([.ref (ad 0), .int p0, .int p1, .int p2]) ++ List.replicate (5 - (lg_sl ([.ref (ad 0), .int p0, .int p1, .int p2])).length) Slot.unset).toArray = ls at hl ⊢
  have hl : lv_has ls 5 [(0, .ref (ad 0)), (1, .int p0), (2, .int p1), (3, .int p2)] := hl
  rw [fX6_poke] at hf
  refine lv_aload_n hx hb dX6_poke_0 rfl (lv_at hl 0 rfl) ?_
  refine lv_iload_n hx hb dX6_poke_1 rfl (lv_at hl 1 rfl) ?_
  obtain ⟨q1, hq1, hf⟩ := ob hf
  refine r_call1 (va_runS (As := [.int p0]) (rest := [.ref (ad 0)]) ⟨hx, hb, hml, hown, hts⟩ (c_X6_noFrame hI hA hq1) (va_cwS 1 hts gX6_poke_X6_noFrame rfl rfl rfl (by decide +kernel) ⟨Nat.le_of_ble_eq_true rfl, Nat.le_of_ble_eq_true rfl⟩) (Pf_S XMb (XMo A) hX hK hP hS) rfl rfl hl.1 rfl (lv_room (Nat.le_of_ble_eq_true rfl)) dX6_poke_2 ⟨Nat.zero_le _, Nat.zero_le _⟩) hS (fun H locs hP hS => ?_)
  refine r_jn hf (fun K3 eK3 hf => ?_)
  have JK3 : ∀ (x2 : Int32) (H : Heap) (locs : List Loc) (ls : Array Slot), va_P D vwCl (gw 25 ad (spM ad cI cZ) q1.2) H → va_S A s.heap H locs → lv_has ls 5 [(0, .ref (ad 0)), (1, .int p0), (2, .int p1), (3, .int p2)] → K3 x2 = some res → W p l e (headSpec wsX6_poke { frames := 1, cells := 0, slots := 0, locals := 20 }).room s m (([.ref (ad 0), .int p0, .int p1, .int p2] : List Value).toArray) below meth c H locs 0 0 (MQ below (Qf D vwCl 25 ad (spM ad cI cZ) A (some (.int res.1)) res.2) (([.ref (ad 0), .int p0, .int p1, .int p2] : List Value).toArray) s 0 0 A) (F0 m 23 ls [.int x2, .ref (ad 0)]) := by
    intro x2 H locs ls hP hS hl hf
    rw [eK3] at hf
    refine r_putik (j := 0) hx hb hts inX6 tyX6 tyX6_ok nmX6 hown hI hA hK hP hS (obX6) rfl (by decide) (hts (.fieldLink RX6 158 "PageMonitorModel" "thrown" "I") (by decide +kernel)) rfl rfl rfl (fun _ => Nat.le_of_ble_eq_true rfl) (fun _ _ => rfl) dX6_poke_23 hf (fun M4 H locs hP hS hf => ?_)
    refine lv_aload_n hx hb dX6_poke_26 rfl (lv_at hl 0 rfl) ?_
    refine r_getik (j := 0) hx hb hts inX6 hown hK hP (obX6) rfl (by decide) (hts (.fieldLink RX6 158 "PageMonitorModel" "thrown" "I") (by decide +kernel)) (fun _ => rfl) dX6_poke_27 hf (fun x5 hf => ?_)
    refine r_if_le (tgt := 35) hx hb dX6_poke_30 (by decide) hf (fun hf => ?_) (fun hf => ?_)
    · refine lv_aload_n hx hb dX6_poke_35 rfl (lv_at hl 0 rfl) ?_
      refine r_getc (k' := 2) (j := 2) hx hb hts inX6 hown hK hP (obX6) rfl (by decide) (hts (.fieldLink RX6 13 "PageMonitorModel" "frames" "[I") (by decide +kernel)) (fun _ => rfl) dX6_poke_36 ?_
      refine lv_bipush (v := (16 : Int32)) hx hb dX6_poke_39 (by decide) ?_
      refine lv_iload_n hx hb dX6_poke_41 rfl (lv_at hl 1 rfl) ?_
      refine lv_imul hx hb dX6_poke_42 ?_
      refine lv_iload_n hx hb dX6_poke_43 rfl (lv_at hl 2 rfl) ?_
      refine lv_iadd hx hb dX6_poke_44 ?_
      refine r_ialdk hx hb hK hP 0 ma2 rfl dX6_poke_45 hf (fun x6 hf => ?_)
      refine lv_istore (lv' := [(4, .int x6), (0, .ref (ad 0)), (1, .int p0), (2, .int p1), (3, .int p2)]) hx hb dX6_poke_46 hl (by decide) rfl (fun ls hl => ?_)
      refine lv_aload_n hx hb dX6_poke_48 rfl (lv_at hl 1 rfl) ?_
      refine r_getc (k' := 2) (j := 2) hx hb hts inX6 hown hK hP (obX6) rfl (by decide) (hts (.fieldLink RX6 13 "PageMonitorModel" "frames" "[I") (by decide +kernel)) (fun _ => rfl) dX6_poke_49 ?_
      refine lv_bipush (v := (16 : Int32)) hx hb dX6_poke_52 (by decide) ?_
      refine lv_iload_n hx hb dX6_poke_54 rfl (lv_at hl 2 rfl) ?_
      refine lv_imul hx hb dX6_poke_55 ?_
      refine lv_iload_n hx hb dX6_poke_56 rfl (lv_at hl 3 rfl) ?_
      refine lv_iadd hx hb dX6_poke_57 ?_
      refine lv_iload_n hx hb dX6_poke_58 rfl (lv_at hl 4 rfl) ?_
      refine r_iastk hx hb hI hA hK hP hS 0 ma2 rfl dX6_poke_59 hf (fun M7 H locs hP hS hf => ?_)
      refine lv_iload hx hb dX6_poke_60 (lv_at hl 0 rfl) ?_
      obtain rfl := Option.some.inj hf
      exact r_iret hx hb hr hlocks hP hS dX6_poke_62
    · refine lv_iconst (v := (0 : Int32)) hx hb dX6_poke_33 (by decide) ?_
      obtain rfl := Option.some.inj hf
      exact r_iret hx hb hr hlocks hP hS dX6_poke_34
  refine r_if_ne (tgt := 18) hx hb dX6_poke_5 (by decide) hf (fun hf => ?_) (fun hf => ?_)
  · refine lv_iconst (v := (1 : Int32)) hx hb dX6_poke_18 (by decide) ?_
    refine lv_goto (tgt := 23) hx hb dX6_poke_19 (by decide) ?_
    exact JK3 (1 : Int32) _ _ _ hP hS (lv_sub hl [0, 1, 2, 3] rfl) hf
  · refine lv_iload_n hx hb dX6_poke_8 rfl (lv_at hl 2 rfl) ?_
    refine r_if_lt (tgt := 18) hx hb dX6_poke_9 (by decide) hf (fun hf => ?_) (fun hf => ?_)
    · refine lv_iconst (v := (1 : Int32)) hx hb dX6_poke_18 (by decide) ?_
      refine lv_goto (tgt := 23) hx hb dX6_poke_19 (by decide) ?_
      exact JK3 (1 : Int32) _ _ _ hP hS (lv_sub hl [0, 1, 2, 3] rfl) hf
    · refine lv_iload_n hx hb dX6_poke_12 rfl (lv_at hl 2 rfl) ?_
      refine lv_bipush (v := (16 : Int32)) hx hb dX6_poke_13 (by decide) ?_
      refine r_icmp_lt (tgt := 22) hx hb dX6_poke_15 (by decide) hf (fun hf => ?_) (fun hf => ?_)
      · refine lv_iconst (v := (0 : Int32)) hx hb dX6_poke_22 (by decide) ?_
        exact JK3 (0 : Int32) _ _ _ hP hS (lv_sub hl [0, 1, 2, 3] rfl) hf
      · refine lv_iconst (v := (1 : Int32)) hx hb dX6_poke_18 (by decide) ?_
        refine lv_goto (tgt := 23) hx hb dX6_poke_19 (by decide) ?_
        exact JK3 (1 : Int32) _ _ _ hP hS (lv_sub hl [0, 1, 2, 3] rfl) hf
set_option maxHeartbeats 4000000 in
set_option maxRecDepth 100000 in
theorem c_X6_peek {l : Launch} {D : va_G} {ad : Nat → Nat} {cI cZ cP cR : ClassId} {A : Nat → Prop} {M : Mem} {p0 : Int32} {p1 : Int32} {res : (Int32 × Mem)} (hI : gInj 25 ad) (hA : ∀ k, k < 25 → A (ad k)) (hf : fX6_peek M p0 p1 = some res) : Met l yX6_peek wsX6_peek { frames := 1, cells := 0, slots := 0, locals := 20 } (va_Pc [.ref (ad 0), .int p0, .int p1] (Pf D vwCl (tysW cI cZ cP cR) 25 ad (spM ad cI cZ) XM M)) (Qf D vwCl 25 ad (spM ad cI cZ) A (some (.int res.1)) res.2) 0 0 A := by
  refine Met.ofW (cc := cX6_peek) (maxL := 3) (ret := (some .int)) (by decide) rfl ?_
  intro p e s m args below meth c s₁ B hml hv
  obtain ⟨rfl, hP, hK, hX⟩ := hv
  have hx := B.exec
  have hb := B.bytes
  have hr := B.returns
  have hts := atoms_spec (ws := wsX6_peek) B.pre
  have hown : s.vm.findClass RX6 = some m.cls := findClass_of_methodNamed B.named
  have hlocks := B.notSynchronized
  have inX6 : ∀ w ∈ wsX60, w ∈ wsX6_peek := by decide +kernel
  have hS : va_S A s.heap s.heap [] := va_S.rf
  have hl := lv_entry ([.ref (ad 0), .int p0, .int p1]) (n := 3) (Nat.le_of_ble_eq_true rfl)
  rw [lg_entry_eq]
  generalize (lg_sl ([.ref (ad 0), .int p0, .int p1]) ++ List.replicate (3 - (lg_sl ([.ref (ad 0), .int p0, .int p1])).length) Slot.unset).toArray = ls at hl ⊢
  have hl : lv_has ls 3 [(0, .ref (ad 0)), (1, .int p0), (2, .int p1)] := hl
  rw [fX6_peek] at hf
  refine lv_aload_n hx hb dX6_peek_0 rfl (lv_at hl 0 rfl) ?_
  refine lv_iload_n hx hb dX6_peek_1 rfl (lv_at hl 1 rfl) ?_
  obtain ⟨q1, hq1, hf⟩ := ob hf
  refine r_call1 (va_runS (As := [.int p0]) (rest := [.ref (ad 0)]) ⟨hx, hb, hml, hown, hts⟩ (c_X6_noFrame hI hA hq1) (va_cwS 1 hts gX6_peek_X6_noFrame rfl rfl rfl (by decide +kernel) ⟨Nat.le_of_ble_eq_true rfl, Nat.le_of_ble_eq_true rfl⟩) (Pf_S XMb (XMo A) hX hK hP hS) rfl rfl hl.1 rfl (lv_room (Nat.le_of_ble_eq_true rfl)) dX6_peek_2 ⟨Nat.zero_le _, Nat.zero_le _⟩) hS (fun H locs hP hS => ?_)
  refine r_jn hf (fun K3 eK3 hf => ?_)
  have JK3 : ∀ (x2 : Int32) (H : Heap) (locs : List Loc) (ls : Array Slot), va_P D vwCl (gw 25 ad (spM ad cI cZ) q1.2) H → va_S A s.heap H locs → lv_has ls 3 [(0, .ref (ad 0)), (1, .int p0), (2, .int p1)] → K3 x2 = some res → W p l e (headSpec wsX6_peek { frames := 1, cells := 0, slots := 0, locals := 20 }).room s m (([.ref (ad 0), .int p0, .int p1] : List Value).toArray) below meth c H locs 0 0 (MQ below (Qf D vwCl 25 ad (spM ad cI cZ) A (some (.int res.1)) res.2) (([.ref (ad 0), .int p0, .int p1] : List Value).toArray) s 0 0 A) (F0 m 23 ls [.int x2, .ref (ad 0)]) := by
    intro x2 H locs ls hP hS hl hf
    rw [eK3] at hf
    refine r_putik (j := 0) hx hb hts inX6 tyX6 tyX6_ok nmX6 hown hI hA hK hP hS (obX6) rfl (by decide) (hts (.fieldLink RX6 158 "PageMonitorModel" "thrown" "I") (by decide +kernel)) rfl rfl rfl (fun _ => Nat.le_of_ble_eq_true rfl) (fun _ _ => rfl) dX6_peek_23 hf (fun M4 H locs hP hS hf => ?_)
    refine lv_aload_n hx hb dX6_peek_26 rfl (lv_at hl 0 rfl) ?_
    refine r_getik (j := 0) hx hb hts inX6 hown hK hP (obX6) rfl (by decide) (hts (.fieldLink RX6 158 "PageMonitorModel" "thrown" "I") (by decide +kernel)) (fun _ => rfl) dX6_peek_27 hf (fun x5 hf => ?_)
    refine r_jn hf (fun K8 eK8 hf => ?_)
    have JK8 : ∀ (x7 : Int32) (H : Heap) (locs : List Loc) (ls : Array Slot), va_P D vwCl (gw 25 ad (spM ad cI cZ) M4) H → va_S A s.heap H locs → lv_has ls 3 [(0, .ref (ad 0)), (1, .int p0), (2, .int p1)] → K8 x7 = some res → W p l e (headSpec wsX6_peek { frames := 1, cells := 0, slots := 0, locals := 20 }).room s m (([.ref (ad 0), .int p0, .int p1] : List Value).toArray) below meth c H locs 0 0 (MQ below (Qf D vwCl 25 ad (spM ad cI cZ) A (some (.int res.1)) res.2) (([.ref (ad 0), .int p0, .int p1] : List Value).toArray) s 0 0 A) (F0 m 48 ls [.int x7]) := by
      intro x7 H locs ls hP hS hl hf
      rw [eK8] at hf
      obtain rfl := Option.some.inj hf
      exact r_iret hx hb hr hlocks hP hS dX6_peek_48
    refine r_if_le (tgt := 37) hx hb dX6_peek_30 (by decide) hf (fun hf => ?_) (fun hf => ?_)
    · refine lv_aload_n hx hb dX6_peek_37 rfl (lv_at hl 0 rfl) ?_
      refine r_getc (k' := 2) (j := 2) hx hb hts inX6 hown hK hP (obX6) rfl (by decide) (hts (.fieldLink RX6 13 "PageMonitorModel" "frames" "[I") (by decide +kernel)) (fun _ => rfl) dX6_peek_38 ?_
      refine lv_bipush (v := (16 : Int32)) hx hb dX6_peek_41 (by decide) ?_
      refine lv_iload_n hx hb dX6_peek_43 rfl (lv_at hl 1 rfl) ?_
      refine lv_imul hx hb dX6_peek_44 ?_
      refine lv_iload_n hx hb dX6_peek_45 rfl (lv_at hl 2 rfl) ?_
      refine lv_iadd hx hb dX6_peek_46 ?_
      refine r_ialdk hx hb hK hP 0 ma2 rfl dX6_peek_47 hf (fun x9 hf => ?_)
      exact JK8 x9 _ _ _ hP hS (lv_sub hl [0, 1, 2] rfl) hf
    · refine lv_iconst (v := (0 : Int32)) hx hb dX6_peek_33 (by decide) ?_
      refine lv_goto (tgt := 48) hx hb dX6_peek_34 (by decide) ?_
      exact JK8 (0 : Int32) _ _ _ hP hS (lv_sub hl [0, 1, 2] rfl) hf
  refine r_if_ne (tgt := 18) hx hb dX6_peek_5 (by decide) hf (fun hf => ?_) (fun hf => ?_)
  · refine lv_iconst (v := (1 : Int32)) hx hb dX6_peek_18 (by decide) ?_
    refine lv_goto (tgt := 23) hx hb dX6_peek_19 (by decide) ?_
    exact JK3 (1 : Int32) _ _ _ hP hS (lv_sub hl [0, 1, 2] rfl) hf
  · refine lv_iload_n hx hb dX6_peek_8 rfl (lv_at hl 2 rfl) ?_
    refine r_if_lt (tgt := 18) hx hb dX6_peek_9 (by decide) hf (fun hf => ?_) (fun hf => ?_)
    · refine lv_iconst (v := (1 : Int32)) hx hb dX6_peek_18 (by decide) ?_
      refine lv_goto (tgt := 23) hx hb dX6_peek_19 (by decide) ?_
      exact JK3 (1 : Int32) _ _ _ hP hS (lv_sub hl [0, 1, 2] rfl) hf
    · refine lv_iload_n hx hb dX6_peek_12 rfl (lv_at hl 2 rfl) ?_
      refine lv_bipush (v := (16 : Int32)) hx hb dX6_peek_13 (by decide) ?_
      refine r_icmp_lt (tgt := 22) hx hb dX6_peek_15 (by decide) hf (fun hf => ?_) (fun hf => ?_)
      · refine lv_iconst (v := (0 : Int32)) hx hb dX6_peek_22 (by decide) ?_
        exact JK3 (0 : Int32) _ _ _ hP hS (lv_sub hl [0, 1, 2] rfl) hf
      · refine lv_iconst (v := (1 : Int32)) hx hb dX6_peek_18 (by decide) ?_
        refine lv_goto (tgt := 23) hx hb dX6_peek_19 (by decide) ?_
        exact JK3 (1 : Int32) _ _ _ hP hS (lv_sub hl [0, 1, 2] rfl) hf
set_option maxHeartbeats 4000000 in
set_option maxRecDepth 100000 in
theorem c_X6_noPage {l : Launch} {D : va_G} {ad : Nat → Nat} {cI cZ cP cR : ClassId} {A : Nat → Prop} {M : Mem} {p0 : Int32} {res : (Int32 × Mem)} (hI : gInj 25 ad) (hA : ∀ k, k < 25 → A (ad k)) (hf : fX6_noPage M p0 = some res) : Met l yX6_noPage wsX6_noPage { frames := 0, cells := 0, slots := 0, locals := 0 } (va_Pc [.int p0] (Pf D vwCl (tysW cI cZ cP cR) 25 ad (spM ad cI cZ) XM M)) (Qf D vwCl 25 ad (spM ad cI cZ) A (some (.int res.1)) res.2) 0 0 A := by
  refine Met.ofW (cc := cX6_noPage) (maxL := 1) (ret := (some .boolean)) (by decide) rfl ?_
  intro p e s m args below meth c s₁ B hml hv
  obtain ⟨rfl, hP, hK, hX⟩ := hv
  have hx := B.exec
  have hb := B.bytes
  have hr := B.returns
  have hts := atoms_spec (ws := wsX6_noPage) B.pre
  have hown : s.vm.findClass RX6 = some m.cls := findClass_of_methodNamed B.named
  have hlocks := B.notSynchronized
  have hS : va_S A s.heap s.heap [] := va_S.rf
  have hl := lv_entry ([.int p0]) (n := 1) (Nat.le_of_ble_eq_true rfl)
  rw [lg_entry_eq]
  generalize (lg_sl ([.int p0]) ++ List.replicate (1 - (lg_sl ([.int p0])).length) Slot.unset).toArray = ls at hl ⊢
  have hl : lv_has ls 1 [(0, .int p0)] := hl
  rw [fX6_noPage] at hf
  refine lv_iload_n hx hb dX6_noPage_0 rfl (lv_at hl 0 rfl) ?_
  refine r_jn hf (fun K2 eK2 hf => ?_)
  have JK2 : ∀ (x1 : Int32) (H : Heap) (locs : List Loc) (ls : Array Slot), va_P D vwCl (gw 25 ad (spM ad cI cZ) M) H → va_S A s.heap H locs → lv_has ls 1 [(0, .int p0)] → K2 x1 = some res → W p l e (headSpec wsX6_noPage { frames := 0, cells := 0, slots := 0, locals := 0 }).room s m (([.int p0] : List Value).toArray) below meth c H locs 0 0 (MQ below (Qf D vwCl 25 ad (spM ad cI cZ) A (some (.int res.1)) res.2) (([.int p0] : List Value).toArray) s 0 0 A) (F0 m 15 ls [.int x1]) := by
    intro x1 H locs ls hP hS hl hf
    rw [eK2] at hf
    obtain ⟨hz, hf⟩ := gd_s hf
    obtain rfl := Option.some.inj hf
    exact r_zret hx hb hr (isB_n hz) hlocks hP hS dX6_noPage_15
  refine r_if_lt (tgt := 10) hx hb dX6_noPage_1 (by decide) hf (fun hf => ?_) (fun hf => ?_)
  · refine lv_iconst (v := (1 : Int32)) hx hb dX6_noPage_10 (by decide) ?_
    refine lv_goto (tgt := 15) hx hb dX6_noPage_11 (by decide) ?_
    exact JK2 (1 : Int32) _ _ _ hP hS (lv_sub hl [0] rfl) hf
  · refine lv_iload_n hx hb dX6_noPage_4 rfl (lv_at hl 0 rfl) ?_
    refine lv_bipush (v := (20 : Int32)) hx hb dX6_noPage_5 (by decide) ?_
    refine r_icmp_lt (tgt := 14) hx hb dX6_noPage_7 (by decide) hf (fun hf => ?_) (fun hf => ?_)
    · refine lv_iconst (v := (0 : Int32)) hx hb dX6_noPage_14 (by decide) ?_
      exact JK2 (0 : Int32) _ _ _ hP hS (lv_sub hl [0] rfl) hf
    · refine lv_iconst (v := (1 : Int32)) hx hb dX6_noPage_10 (by decide) ?_
      refine lv_goto (tgt := 15) hx hb dX6_noPage_11 (by decide) ?_
      exact JK2 (1 : Int32) _ _ _ hP hS (lv_sub hl [0] rfl) hf
set_option maxHeartbeats 4000000 in
set_option maxRecDepth 100000 in
theorem c_X6_begin {l : Launch} {D : va_G} {ad : Nat → Nat} {cI cZ cP cR : ClassId} {A : Nat → Prop} {M : Mem} {res : Mem} (hI : gInj 25 ad) (hA : ∀ k, k < 25 → A (ad k)) (hf : fX6_begin M = some res) : Met l yX6_begin wsX6_begin { frames := 0, cells := 0, slots := 0, locals := 0 } (va_Pc [.ref (ad 0)] (Pf D vwCl (tysW cI cZ cP cR) 25 ad (spM ad cI cZ) XM M)) (Qf D vwCl 25 ad (spM ad cI cZ) A none res) 0 0 A := by
  refine Met.ofW (cc := cX6_begin) (maxL := 1) (ret := none) (by decide) rfl ?_
  intro p e s m args below meth c s₁ B hml hv
  obtain ⟨rfl, hP, hK, hX⟩ := hv
  have hx := B.exec
  have hb := B.bytes
  have hr := B.returns
  have hts := atoms_spec (ws := wsX6_begin) B.pre
  have hown : s.vm.findClass RX6 = some m.cls := findClass_of_methodNamed B.named
  have hlocks := B.notSynchronized
  have inX6 : ∀ w ∈ wsX60, w ∈ wsX6_begin := by decide +kernel
  have hS : va_S A s.heap s.heap [] := va_S.rf
  have hl := lv_entry ([.ref (ad 0)]) (n := 1) (Nat.le_of_ble_eq_true rfl)
  rw [lg_entry_eq]
  generalize (lg_sl ([.ref (ad 0)]) ++ List.replicate (1 - (lg_sl ([.ref (ad 0)])).length) Slot.unset).toArray = ls at hl ⊢
  have hl : lv_has ls 1 [(0, .ref (ad 0))] := hl
  rw [fX6_begin] at hf
  refine lv_aload_n hx hb dX6_begin_0 rfl (lv_at hl 0 rfl) ?_
  refine lv_iconst (v := (0 : Int32)) hx hb dX6_begin_1 (by decide) ?_
  refine r_putik (j := 0) hx hb hts inX6 tyX6 tyX6_ok nmX6 hown hI hA hK hP hS (obX6) rfl (by decide) (hts (.fieldLink RX6 158 "PageMonitorModel" "thrown" "I") (by decide +kernel)) rfl rfl rfl (fun _ => Nat.le_of_ble_eq_true rfl) (fun _ _ => rfl) dX6_begin_2 hf (fun M1 H locs hP hS hf => ?_)
  refine lv_aload_n hx hb dX6_begin_5 rfl (lv_at hl 0 rfl) ?_
  refine lv_iconst (v := (0 : Int32)) hx hb dX6_begin_6 (by decide) ?_
  refine r_putik (j := 19) hx hb hts inX6 tyX6 tyX6_ok nmX6 hown hI hA hK hP hS (obX6) rfl (by decide) (hts (.fieldLink RX6 183 "PageMonitorModel" "least" "I") (by decide +kernel)) rfl rfl rfl (fun _ => Nat.le_of_ble_eq_true rfl) (fun _ _ => rfl) dX6_begin_7 hf (fun M2 H locs hP hS hf => ?_)
  obtain rfl := Option.some.inj hf
  exact r_vret hx hb hr hlocks hP hS dX6_begin_10
set_option maxHeartbeats 4000000 in
set_option maxRecDepth 100000 in
theorem c_X6_wrong {l : Launch} {D : va_G} {ad : Nat → Nat} {cI cZ cP cR : ClassId} {A : Nat → Prop} {M : Mem} {p0 : Int32} {p1 : Int32} {res : Mem} (hI : gInj 25 ad) (hA : ∀ k, k < 25 → A (ad k)) (hf : fX6_wrong M p0 p1 = some res) : Met l yX6_wrong wsX6_wrong { frames := 0, cells := 0, slots := 0, locals := 0 } (va_Pc [.ref (ad 0), .int p0, .int p1] (Pf D vwCl (tysW cI cZ cP cR) 25 ad (spM ad cI cZ) XM M)) (Qf D vwCl 25 ad (spM ad cI cZ) A none res) 0 0 A := by
  refine Met.ofW (cc := cX6_wrong) (maxL := 3) (ret := none) (by decide) rfl ?_
  intro p e s m args below meth c s₁ B hml hv
  obtain ⟨rfl, hP, hK, hX⟩ := hv
  have hx := B.exec
  have hb := B.bytes
  have hr := B.returns
  have hts := atoms_spec (ws := wsX6_wrong) B.pre
  have hown : s.vm.findClass RX6 = some m.cls := findClass_of_methodNamed B.named
  have hlocks := B.notSynchronized
  have inX6 : ∀ w ∈ wsX60, w ∈ wsX6_wrong := by decide +kernel
  have hS : va_S A s.heap s.heap [] := va_S.rf
  have hl := lv_entry ([.ref (ad 0), .int p0, .int p1]) (n := 3) (Nat.le_of_ble_eq_true rfl)
  rw [lg_entry_eq]
  generalize (lg_sl ([.ref (ad 0), .int p0, .int p1]) ++ List.replicate (3 - (lg_sl ([.ref (ad 0), .int p0, .int p1])).length) Slot.unset).toArray = ls at hl ⊢
  have hl : lv_has ls 3 [(0, .ref (ad 0)), (1, .int p0), (2, .int p1)] := hl
  rw [fX6_wrong] at hf
  refine lv_iload_n hx hb dX6_wrong_0 rfl (lv_at hl 1 rfl) ?_
  refine r_jn hf (fun K4 eK4 hf => ?_)
  have JK4 : ∀ (M3 : Mem) (H : Heap) (locs : List Loc) (ls : Array Slot), va_P D vwCl (gw 25 ad (spM ad cI cZ) M3) H → va_S A s.heap H locs → lv_has ls 3 [(0, .ref (ad 0)), (1, .int p0), (2, .int p1)] → K4 M3 = some res → W p l e (headSpec wsX6_wrong { frames := 0, cells := 0, slots := 0, locals := 0 }).room s m (([.ref (ad 0), .int p0, .int p1] : List Value).toArray) below meth c H locs 0 0 (MQ below (Qf D vwCl 25 ad (spM ad cI cZ) A none res) (([.ref (ad 0), .int p0, .int p1] : List Value).toArray) s 0 0 A) (F0 m 16 ls []) := by
    intro M3 H locs ls hP hS hl hf
    rw [eK4] at hf
    obtain rfl := Option.some.inj hf
    exact r_vret hx hb hr hlocks hP hS dX6_wrong_16
  refine r_if_eq (tgt := 16) hx hb dX6_wrong_1 (by decide) hf (fun hf => ?_) (fun hf => ?_)
  · exact JK4 M _ _ _ hP hS (lv_sub hl [0, 1, 2] rfl) hf
  · refine lv_aload_n hx hb dX6_wrong_4 rfl (lv_at hl 0 rfl) ?_
    refine r_getik (j := 19) hx hb hts inX6 hown hK hP (obX6) rfl (by decide) (hts (.fieldLink RX6 183 "PageMonitorModel" "least" "I") (by decide +kernel)) (fun _ => rfl) dX6_wrong_5 hf (fun x5 hf => ?_)
    refine r_if_ne (tgt := 16) hx hb dX6_wrong_8 (by decide) hf (fun hf => ?_) (fun hf => ?_)
    · exact JK4 M _ _ _ hP hS (lv_sub hl [0, 1, 2] rfl) hf
    · refine lv_aload_n hx hb dX6_wrong_11 rfl (lv_at hl 0 rfl) ?_
      refine lv_iload_n hx hb dX6_wrong_12 rfl (lv_at hl 2 rfl) ?_
      refine r_putik (j := 19) hx hb hts inX6 tyX6 tyX6_ok nmX6 hown hI hA hK hP hS (obX6) rfl (by decide) (hts (.fieldLink RX6 183 "PageMonitorModel" "least" "I") (by decide +kernel)) rfl rfl rfl (fun _ => Nat.le_of_ble_eq_true rfl) (fun _ _ => rfl) dX6_wrong_13 hf (fun M6 H locs hP hS hf => ?_)
      exact JK4 M6 _ _ _ hP hS (lv_sub hl [0, 1, 2] rfl) hf
set_option maxHeartbeats 4000000 in
set_option maxRecDepth 100000 in
theorem c_X6_isKind {l : Launch} {D : va_G} {ad : Nat → Nat} {cI cZ cP cR : ClassId} {A : Nat → Prop} {M : Mem} {p0 : Int32} {p1 : Int32} {res : (Int32 × Mem)} (hI : gInj 25 ad) (hA : ∀ k, k < 25 → A (ad k)) (hf : fX6_isKind M p0 p1 = some res) : Met l yX6_isKind wsX6_isKind { frames := 1, cells := 0, slots := 0, locals := 20 } (va_Pc [.ref (ad 0), .int p0, .int p1] (Pf D vwCl (tysW cI cZ cP cR) 25 ad (spM ad cI cZ) XM M)) (Qf D vwCl 25 ad (spM ad cI cZ) A (some (.int res.1)) res.2) 0 0 A := by
  refine Met.ofW (cc := cX6_isKind) (maxL := 3) (ret := (some .boolean)) (by decide) rfl ?_
  intro p e s m args below meth c s₁ B hml hv
  obtain ⟨rfl, hP, hK, hX⟩ := hv
  have hx := B.exec
  have hb := B.bytes
  have hr := B.returns
  have hts := atoms_spec (ws := wsX6_isKind) B.pre
  have hown : s.vm.findClass RX6 = some m.cls := findClass_of_methodNamed B.named
  have hlocks := B.notSynchronized
  have inX6 : ∀ w ∈ wsX60, w ∈ wsX6_isKind := by decide +kernel
  have hS : va_S A s.heap s.heap [] := va_S.rf
  have hl := lv_entry ([.ref (ad 0), .int p0, .int p1]) (n := 3) (Nat.le_of_ble_eq_true rfl)
  rw [lg_entry_eq]
  generalize (lg_sl ([.ref (ad 0), .int p0, .int p1]) ++ List.replicate (3 - (lg_sl ([.ref (ad 0), .int p0, .int p1])).length) Slot.unset).toArray = ls at hl ⊢
  have hl : lv_has ls 3 [(0, .ref (ad 0)), (1, .int p0), (2, .int p1)] := hl
  rw [fX6_isKind] at hf
  refine lv_iload_n hx hb dX6_isKind_0 rfl (lv_at hl 1 rfl) ?_
  obtain ⟨q1, hq1, hf⟩ := ob hf
  refine r_call1 (va_runS (As := [.int p0]) (rest := []) ⟨hx, hb, hml, hown, hts⟩ (c_X6_noPage hI hA hq1) (va_cwS 1 hts gX6_isKind_X6_noPage rfl rfl rfl (by decide +kernel) ⟨Nat.le_of_ble_eq_true rfl, Nat.le_of_ble_eq_true rfl⟩) (Pf_S XMb (XMo A) hX hK hP hS) rfl rfl hl.1 rfl (lv_room (Nat.le_of_ble_eq_true rfl)) dX6_isKind_1 ⟨Nat.zero_le _, Nat.zero_le _⟩) hS (fun H locs hP hS => ?_)
  refine r_jn hf (fun K4 eK4 hf => ?_)
  have JK4 : ∀ (x3 : Int32) (H : Heap) (locs : List Loc) (ls : Array Slot), va_P D vwCl (gw 25 ad (spM ad cI cZ) q1.2) H → va_S A s.heap H locs → lv_has ls 3 [(0, .ref (ad 0)), (1, .int p0), (2, .int p1)] → K4 x3 = some res → W p l e (headSpec wsX6_isKind { frames := 1, cells := 0, slots := 0, locals := 20 }).room s m (([.ref (ad 0), .int p0, .int p1] : List Value).toArray) below meth c H locs 0 0 (MQ below (Qf D vwCl 25 ad (spM ad cI cZ) A (some (.int res.1)) res.2) (([.ref (ad 0), .int p0, .int p1] : List Value).toArray) s 0 0 A) (F0 m 22 ls [.int x3]) := by
    intro x3 H locs ls hP hS hl hf
    rw [eK4] at hf
    obtain ⟨hz, hf⟩ := gd_s hf
    obtain rfl := Option.some.inj hf
    exact r_zret hx hb hr (isB_n hz) hlocks hP hS dX6_isKind_22
  refine r_if_ne (tgt := 21) hx hb dX6_isKind_4 (by decide) hf (fun hf => ?_) (fun hf => ?_)
  · refine lv_iconst (v := (0 : Int32)) hx hb dX6_isKind_21 (by decide) ?_
    exact JK4 (0 : Int32) _ _ _ hP hS (lv_sub hl [0, 1, 2] rfl) hf
  · refine lv_aload_n hx hb dX6_isKind_7 rfl (lv_at hl 0 rfl) ?_
    refine r_getc (k' := 3) (j := 3) hx hb hts inX6 hown hK hP (obX6) rfl (by decide) (hts (.fieldLink RX6 16 "PageMonitorModel" "kinds" "[I") (by decide +kernel)) (fun _ => rfl) dX6_isKind_8 ?_
    refine lv_iload_n hx hb dX6_isKind_11 rfl (lv_at hl 1 rfl) ?_
    refine r_ialdk hx hb hK hP 0 ma3 rfl dX6_isKind_12 hf (fun x5 hf => ?_)
    refine lv_iload_n hx hb dX6_isKind_13 rfl (lv_at hl 2 rfl) ?_
    refine r_icmp_ne (tgt := 21) hx hb dX6_isKind_14 (by decide) hf (fun hf => ?_) (fun hf => ?_)
    · refine lv_iconst (v := (0 : Int32)) hx hb dX6_isKind_21 (by decide) ?_
      exact JK4 (0 : Int32) _ _ _ hP hS (lv_sub hl [0, 1, 2] rfl) hf
    · refine lv_iconst (v := (1 : Int32)) hx hb dX6_isKind_17 (by decide) ?_
      refine lv_goto (tgt := 22) hx hb dX6_isKind_18 (by decide) ?_
      exact JK4 (1 : Int32) _ _ _ hP hS (lv_sub hl [0, 1, 2] rfl) hf
set_option maxHeartbeats 4000000 in
set_option maxRecDepth 100000 in
theorem c_X6_wantFree {l : Launch} {D : va_G} {ad : Nat → Nat} {cI cZ cP cR : ClassId} {A : Nat → Prop} {M : Mem} {p0 : Int32} {res : Mem} (hI : gInj 25 ad) (hA : ∀ k, k < 25 → A (ad k)) (hf : fX6_wantFree M p0 = some res) : Met l yX6_wantFree wsX6_wantFree { frames := 2, cells := 0, slots := 0, locals := 42 } (va_Pc [.ref (ad 0), .int p0] (Pf D vwCl (tysW cI cZ cP cR) 25 ad (spM ad cI cZ) XM M)) (Qf D vwCl 25 ad (spM ad cI cZ) A none res) 0 0 A := by
  refine Met.ofW (cc := cX6_wantFree) (maxL := 2) (ret := none) (by decide) rfl ?_
  intro p e s m args below meth c s₁ B hml hv
  obtain ⟨rfl, hP, hK, hX⟩ := hv
  have hx := B.exec
  have hb := B.bytes
  have hr := B.returns
  have hts := atoms_spec (ws := wsX6_wantFree) B.pre
  have hown : s.vm.findClass RX6 = some m.cls := findClass_of_methodNamed B.named
  have hlocks := B.notSynchronized
  have hS : va_S A s.heap s.heap [] := va_S.rf
  have hl := lv_entry ([.ref (ad 0), .int p0]) (n := 2) (Nat.le_of_ble_eq_true rfl)
  rw [lg_entry_eq]
  generalize (lg_sl ([.ref (ad 0), .int p0]) ++ List.replicate (2 - (lg_sl ([.ref (ad 0), .int p0])).length) Slot.unset).toArray = ls at hl ⊢
  have hl : lv_has ls 2 [(0, .ref (ad 0)), (1, .int p0)] := hl
  rw [fX6_wantFree] at hf
  refine lv_aload_n hx hb dX6_wantFree_0 rfl (lv_at hl 0 rfl) ?_
  refine lv_aload_n hx hb dX6_wantFree_1 rfl (lv_at hl 0 rfl) ?_
  refine lv_iload_n hx hb dX6_wantFree_2 rfl (lv_at hl 1 rfl) ?_
  refine lv_iconst (v := (0 : Int32)) hx hb dX6_wantFree_3 (by decide) ?_
  obtain ⟨q1, hq1, hf⟩ := ob hf
  refine r_call1 (va_runV (As := [.int p0, .int (0 : Int32)]) (rest := [.ref (ad 0)]) ⟨hx, hb, hml, hown, hts⟩ (c_X6_isKind hI hA hq1) (cwV 2 hts gX6_wantFree_X6_isKind rfl rfl rfl (by decide +kernel) ⟨Nat.le_of_ble_eq_true rfl, Nat.le_of_ble_eq_true rfl⟩) (Pf_V XMb (XMo A) hX hK hP hS obX6 rfl) rfl rfl hl.1 rfl (lv_room (Nat.le_of_ble_eq_true rfl)) dX6_wantFree_4 ⟨Nat.zero_le _, Nat.zero_le _⟩) hS (fun H locs hP hS => ?_)
  refine r_jn hf (fun K3 eK3 hf => ?_)
  have JK3 : ∀ (x2 : Int32) (H : Heap) (locs : List Loc) (ls : Array Slot), va_P D vwCl (gw 25 ad (spM ad cI cZ) q1.2) H → va_S A s.heap H locs → lv_has ls 2 [(0, .ref (ad 0)), (1, .int p0)] → K3 x2 = some res → W p l e (headSpec wsX6_wantFree { frames := 2, cells := 0, slots := 0, locals := 42 }).room s m (([.ref (ad 0), .int p0] : List Value).toArray) below meth c H locs 0 0 (MQ below (Qf D vwCl 25 ad (spM ad cI cZ) A none res) (([.ref (ad 0), .int p0] : List Value).toArray) s 0 0 A) (F0 m 15 ls [.int x2, .ref (ad 0)]) := by
    intro x2 H locs ls hP hS hl hf
    rw [eK3] at hf
    refine lv_iconst (v := (2 : Int32)) hx hb dX6_wantFree_15 (by decide) ?_
    obtain ⟨q4, hq4, hf⟩ := ob hf
    refine r_callv (va_runV (As := [.int x2, .int (2 : Int32)]) (rest := []) ⟨hx, hb, hml, hown, hts⟩ (c_X6_wrong hI hA hq4) (cwV 2 hts gX6_wantFree_X6_wrong rfl rfl rfl (by decide +kernel) ⟨Nat.le_of_ble_eq_true rfl, Nat.le_of_ble_eq_true rfl⟩) (Pf_V XMb (XMo A) hX hK hP hS obX6 rfl) rfl rfl hl.1 rfl (lv_room (Nat.le_of_ble_eq_true rfl)) dX6_wantFree_16 ⟨Nat.zero_le _, Nat.zero_le _⟩) hS (fun H locs hP hS => ?_)
    obtain rfl := Option.some.inj hf
    exact r_vret hx hb hr hlocks hP hS dX6_wantFree_19
  refine r_if_ne (tgt := 14) hx hb dX6_wantFree_7 (by decide) hf (fun hf => ?_) (fun hf => ?_)
  · refine lv_iconst (v := (0 : Int32)) hx hb dX6_wantFree_14 (by decide) ?_
    exact JK3 (0 : Int32) _ _ _ hP hS (lv_sub hl [0, 1] rfl) hf
  · refine lv_iconst (v := (1 : Int32)) hx hb dX6_wantFree_10 (by decide) ?_
    refine lv_goto (tgt := 15) hx hb dX6_wantFree_11 (by decide) ?_
    exact JK3 (1 : Int32) _ _ _ hP hS (lv_sub hl [0, 1] rfl) hf
set_option maxHeartbeats 4000000 in
set_option maxRecDepth 100000 in
theorem c_X6_wantSpace {l : Launch} {D : va_G} {ad : Nat → Nat} {cI cZ cP cR : ClassId} {A : Nat → Prop} {M : Mem} {p0 : Int32} {p1 : Int32} {res : Mem} (hI : gInj 25 ad) (hA : ∀ k, k < 25 → A (ad k)) (hf : fX6_wantSpace M p0 p1 = some res) : Met l yX6_wantSpace wsX6_wantSpace { frames := 2, cells := 0, slots := 0, locals := 42 } (va_Pc [.ref (ad 0), .int p0, .int p1] (Pf D vwCl (tysW cI cZ cP cR) 25 ad (spM ad cI cZ) XM M)) (Qf D vwCl 25 ad (spM ad cI cZ) A none res) 0 0 A := by
  refine Met.ofW (cc := cX6_wantSpace) (maxL := 3) (ret := none) (by decide) rfl ?_
  intro p e s m args below meth c s₁ B hml hv
  obtain ⟨rfl, hP, hK, hX⟩ := hv
  have hx := B.exec
  have hb := B.bytes
  have hr := B.returns
  have hts := atoms_spec (ws := wsX6_wantSpace) B.pre
  have hown : s.vm.findClass RX6 = some m.cls := findClass_of_methodNamed B.named
  have hlocks := B.notSynchronized
  have inX6 : ∀ w ∈ wsX60, w ∈ wsX6_wantSpace := by decide +kernel
  have hS : va_S A s.heap s.heap [] := va_S.rf
  have hl := lv_entry ([.ref (ad 0), .int p0, .int p1]) (n := 3) (Nat.le_of_ble_eq_true rfl)
  rw [lg_entry_eq]
  generalize (lg_sl ([.ref (ad 0), .int p0, .int p1]) ++ List.replicate (3 - (lg_sl ([.ref (ad 0), .int p0, .int p1])).length) Slot.unset).toArray = ls at hl ⊢
  have hl : lv_has ls 3 [(0, .ref (ad 0)), (1, .int p0), (2, .int p1)] := hl
  rw [fX6_wantSpace] at hf
  refine lv_aload_n hx hb dX6_wantSpace_0 rfl (lv_at hl 0 rfl) ?_
  refine lv_aload_n hx hb dX6_wantSpace_1 rfl (lv_at hl 0 rfl) ?_
  refine lv_iload_n hx hb dX6_wantSpace_2 rfl (lv_at hl 1 rfl) ?_
  refine lv_iconst (v := (1 : Int32)) hx hb dX6_wantSpace_3 (by decide) ?_
  obtain ⟨q1, hq1, hf⟩ := ob hf
  refine r_call1 (va_runV (As := [.int p0, .int (1 : Int32)]) (rest := [.ref (ad 0)]) ⟨hx, hb, hml, hown, hts⟩ (c_X6_isKind hI hA hq1) (cwV 2 hts gX6_wantSpace_X6_isKind rfl rfl rfl (by decide +kernel) ⟨Nat.le_of_ble_eq_true rfl, Nat.le_of_ble_eq_true rfl⟩) (Pf_V XMb (XMo A) hX hK hP hS obX6 rfl) rfl rfl hl.1 rfl (lv_room (Nat.le_of_ble_eq_true rfl)) dX6_wantSpace_4 ⟨Nat.zero_le _, Nat.zero_le _⟩) hS (fun H locs hP hS => ?_)
  refine r_jn hf (fun K3 eK3 hf => ?_)
  have JK3 : ∀ (x2 : Int32) (H : Heap) (locs : List Loc) (ls : Array Slot), va_P D vwCl (gw 25 ad (spM ad cI cZ) q1.2) H → va_S A s.heap H locs → lv_has ls 3 [(0, .ref (ad 0)), (1, .int p0), (2, .int p1)] → K3 x2 = some res → W p l e (headSpec wsX6_wantSpace { frames := 2, cells := 0, slots := 0, locals := 42 }).room s m (([.ref (ad 0), .int p0, .int p1] : List Value).toArray) below meth c H locs 0 0 (MQ below (Qf D vwCl 25 ad (spM ad cI cZ) A none res) (([.ref (ad 0), .int p0, .int p1] : List Value).toArray) s 0 0 A) (F0 m 15 ls [.int x2, .ref (ad 0)]) := by
    intro x2 H locs ls hP hS hl hf
    rw [eK3] at hf
    refine lv_iconst (v := (3 : Int32)) hx hb dX6_wantSpace_15 (by decide) ?_
    obtain ⟨q4, hq4, hf⟩ := ob hf
    refine r_callv (va_runV (As := [.int x2, .int (3 : Int32)]) (rest := []) ⟨hx, hb, hml, hown, hts⟩ (c_X6_wrong hI hA hq4) (cwV 2 hts gX6_wantSpace_X6_wrong rfl rfl rfl (by decide +kernel) ⟨Nat.le_of_ble_eq_true rfl, Nat.le_of_ble_eq_true rfl⟩) (Pf_V XMb (XMo A) hX hK hP hS obX6 rfl) rfl rfl hl.1 rfl (lv_room (Nat.le_of_ble_eq_true rfl)) dX6_wantSpace_16 ⟨Nat.zero_le _, Nat.zero_le _⟩) hS (fun H locs hP hS => ?_)
    refine lv_aload_n hx hb dX6_wantSpace_19 rfl (lv_at hl 0 rfl) ?_
    refine lv_aload_n hx hb dX6_wantSpace_20 rfl (lv_at hl 0 rfl) ?_
    refine r_getik (j := 19) hx hb hts inX6 hown hK hP (obX6) rfl (by decide) (hts (.fieldLink RX6 183 "PageMonitorModel" "least" "I") (by decide +kernel)) (fun _ => rfl) dX6_wantSpace_21 hf (fun x5 hf => ?_)
    refine r_jn hf (fun K8 eK8 hf => ?_)
    have JK8 : ∀ (x7 : Int32) (H : Heap) (locs : List Loc) (ls : Array Slot), va_P D vwCl (gw 25 ad (spM ad cI cZ) q4) H → va_S A s.heap H locs → lv_has ls 3 [(0, .ref (ad 0)), (1, .int p0), (2, .int p1)] → K8 x7 = some res → W p l e (headSpec wsX6_wantSpace { frames := 2, cells := 0, slots := 0, locals := 42 }).room s m (([.ref (ad 0), .int p0, .int p1] : List Value).toArray) below meth c H locs 0 0 (MQ below (Qf D vwCl 25 ad (spM ad cI cZ) A none res) (([.ref (ad 0), .int p0, .int p1] : List Value).toArray) s 0 0 A) (F0 m 42 ls [.int x7, .ref (ad 0)]) := by
      intro x7 H locs ls hP hS hl hf
      rw [eK8] at hf
      refine lv_iconst (v := (4 : Int32)) hx hb dX6_wantSpace_42 (by decide) ?_
      obtain ⟨q9, hq9, hf⟩ := ob hf
      refine r_callv (va_runV (As := [.int x7, .int (4 : Int32)]) (rest := []) ⟨hx, hb, hml, hown, hts⟩ (c_X6_wrong hI hA hq9) (cwV 2 hts gX6_wantSpace_X6_wrong rfl rfl rfl (by decide +kernel) ⟨Nat.le_of_ble_eq_true rfl, Nat.le_of_ble_eq_true rfl⟩) (Pf_V XMb (XMo A) hX hK hP hS obX6 rfl) rfl rfl hl.1 rfl (lv_room (Nat.le_of_ble_eq_true rfl)) dX6_wantSpace_43 ⟨Nat.zero_le _, Nat.zero_le _⟩) hS (fun H locs hP hS => ?_)
      obtain rfl := Option.some.inj hf
      exact r_vret hx hb hr hlocks hP hS dX6_wantSpace_46
    refine r_if_ne (tgt := 41) hx hb dX6_wantSpace_24 (by decide) hf (fun hf => ?_) (fun hf => ?_)
    · refine lv_iconst (v := (0 : Int32)) hx hb dX6_wantSpace_41 (by decide) ?_
      exact JK8 (0 : Int32) _ _ _ hP hS (lv_sub hl [0, 1, 2] rfl) hf
    · refine lv_aload_n hx hb dX6_wantSpace_27 rfl (lv_at hl 0 rfl) ?_
      refine r_getc (k' := 5) (j := 5) hx hb hts inX6 hown hK hP (obX6) rfl (by decide) (hts (.fieldLink RX6 22 "PageMonitorModel" "states" "[I") (by decide +kernel)) (fun _ => rfl) dX6_wantSpace_28 ?_
      refine lv_iload_n hx hb dX6_wantSpace_31 rfl (lv_at hl 1 rfl) ?_
      refine r_ialdk hx hb hK hP 0 ma5 rfl dX6_wantSpace_32 hf (fun x10 hf => ?_)
      refine lv_iload_n hx hb dX6_wantSpace_33 rfl (lv_at hl 2 rfl) ?_
      refine r_icmp_eq (tgt := 41) hx hb dX6_wantSpace_34 (by decide) hf (fun hf => ?_) (fun hf => ?_)
      · refine lv_iconst (v := (0 : Int32)) hx hb dX6_wantSpace_41 (by decide) ?_
        exact JK8 (0 : Int32) _ _ _ hP hS (lv_sub hl [0, 1, 2] rfl) hf
      · refine lv_iconst (v := (1 : Int32)) hx hb dX6_wantSpace_37 (by decide) ?_
        refine lv_goto (tgt := 42) hx hb dX6_wantSpace_38 (by decide) ?_
        exact JK8 (1 : Int32) _ _ _ hP hS (lv_sub hl [0, 1, 2] rfl) hf
  refine r_if_ne (tgt := 14) hx hb dX6_wantSpace_7 (by decide) hf (fun hf => ?_) (fun hf => ?_)
  · refine lv_iconst (v := (0 : Int32)) hx hb dX6_wantSpace_14 (by decide) ?_
    exact JK3 (0 : Int32) _ _ _ hP hS (lv_sub hl [0, 1, 2] rfl) hf
  · refine lv_iconst (v := (1 : Int32)) hx hb dX6_wantSpace_10 (by decide) ?_
    refine lv_goto (tgt := 15) hx hb dX6_wantSpace_11 (by decide) ?_
    exact JK3 (1 : Int32) _ _ _ hP hS (lv_sub hl [0, 1, 2] rfl) hf
set_option maxHeartbeats 4000000 in
set_option maxRecDepth 100000 in
theorem c_X6_tableOf {l : Launch} {D : va_G} {ad : Nat → Nat} {cI cZ cP cR : ClassId} {A : Nat → Prop} {M : Mem} {p0 : Int32} {p1 : Int32} {res : (Int32 × Mem)} (hI : gInj 25 ad) (hA : ∀ k, k < 25 → A (ad k)) (hf : fX6_tableOf M p0 p1 = some res) : Met l yX6_tableOf wsX6_tableOf { frames := 0, cells := 0, slots := 0, locals := 0 } (va_Pc [.ref (ad 0), .int p0, .int p1] (Pf D vwCl (tysW cI cZ cP cR) 25 ad (spM ad cI cZ) XM M)) (Qf D vwCl 25 ad (spM ad cI cZ) A (some (.int res.1)) res.2) 0 0 A := by
  refine Met.ofW (cc := cX6_tableOf) (maxL := 3) (ret := (some .int)) (by decide) rfl ?_
  intro p e s m args below meth c s₁ B hml hv
  obtain ⟨rfl, hP, hK, hX⟩ := hv
  have hx := B.exec
  have hb := B.bytes
  have hr := B.returns
  have hts := atoms_spec (ws := wsX6_tableOf) B.pre
  have hown : s.vm.findClass RX6 = some m.cls := findClass_of_methodNamed B.named
  have hlocks := B.notSynchronized
  have inX6 : ∀ w ∈ wsX60, w ∈ wsX6_tableOf := by decide +kernel
  have hS : va_S A s.heap s.heap [] := va_S.rf
  have hl := lv_entry ([.ref (ad 0), .int p0, .int p1]) (n := 3) (Nat.le_of_ble_eq_true rfl)
  rw [lg_entry_eq]
  generalize (lg_sl ([.ref (ad 0), .int p0, .int p1]) ++ List.replicate (3 - (lg_sl ([.ref (ad 0), .int p0, .int p1])).length) Slot.unset).toArray = ls at hl ⊢
  have hl : lv_has ls 3 [(0, .ref (ad 0)), (1, .int p0), (2, .int p1)] := hl
  rw [fX6_tableOf] at hf
  refine lv_aload_n hx hb dX6_tableOf_0 rfl (lv_at hl 0 rfl) ?_
  refine r_getc (k' := 9) (j := 9) hx hb hts inX6 hown hK hP (obX6) rfl (by decide) (hts (.fieldLink RX6 34 "PageMonitorModel" "tables" "[I") (by decide +kernel)) (fun _ => rfl) dX6_tableOf_1 ?_
  refine lv_iconst (v := (4 : Int32)) hx hb dX6_tableOf_4 (by decide) ?_
  refine lv_iload_n hx hb dX6_tableOf_5 rfl (lv_at hl 1 rfl) ?_
  refine lv_imul hx hb dX6_tableOf_6 ?_
  refine lv_iload_n hx hb dX6_tableOf_7 rfl (lv_at hl 2 rfl) ?_
  refine lv_bipush (v := (8 : Int32)) hx hb dX6_tableOf_8 (by decide) ?_
  refine lv_idiv hx hb dX6_tableOf_10 (by decide) ?_
  refine lv_iadd hx hb dX6_tableOf_11 ?_
  refine r_ialdk hx hb hK hP 0 ma9 rfl dX6_tableOf_12 hf (fun x1 hf => ?_)
  obtain rfl := Option.some.inj hf
  exact r_iret hx hb hr hlocks hP hS dX6_tableOf_13
set_option maxHeartbeats 4000000 in
set_option maxRecDepth 100000 in
theorem c_X6_entryOf {l : Launch} {D : va_G} {ad : Nat → Nat} {cI cZ cP cR : ClassId} {A : Nat → Prop} {M : Mem} {p0 : Int32} {p1 : Int32} {res : (Int32 × Mem)} (hI : gInj 25 ad) (hA : ∀ k, k < 25 → A (ad k)) (hf : fX6_entryOf M p0 p1 = some res) : Met l yX6_entryOf wsX6_entryOf { frames := 1, cells := 0, slots := 0, locals := 22 } (va_Pc [.ref (ad 0), .int p0, .int p1] (Pf D vwCl (tysW cI cZ cP cR) 25 ad (spM ad cI cZ) XM M)) (Qf D vwCl 25 ad (spM ad cI cZ) A (some (.int res.1)) res.2) 0 0 A := by
  refine Met.ofW (cc := cX6_entryOf) (maxL := 3) (ret := (some .int)) (by decide) rfl ?_
  intro p e s m args below meth c s₁ B hml hv
  obtain ⟨rfl, hP, hK, hX⟩ := hv
  have hx := B.exec
  have hb := B.bytes
  have hr := B.returns
  have hts := atoms_spec (ws := wsX6_entryOf) B.pre
  have hown : s.vm.findClass RX6 = some m.cls := findClass_of_methodNamed B.named
  have hlocks := B.notSynchronized
  have hS : va_S A s.heap s.heap [] := va_S.rf
  have hl := lv_entry ([.ref (ad 0), .int p0, .int p1]) (n := 3) (Nat.le_of_ble_eq_true rfl)
  rw [lg_entry_eq]
  generalize (lg_sl ([.ref (ad 0), .int p0, .int p1]) ++ List.replicate (3 - (lg_sl ([.ref (ad 0), .int p0, .int p1])).length) Slot.unset).toArray = ls at hl ⊢
  have hl : lv_has ls 3 [(0, .ref (ad 0)), (1, .int p0), (2, .int p1)] := hl
  rw [fX6_entryOf] at hf
  refine lv_bipush (v := (8 : Int32)) hx hb dX6_entryOf_0 (by decide) ?_
  refine lv_aload_n hx hb dX6_entryOf_2 rfl (lv_at hl 0 rfl) ?_
  refine lv_iload_n hx hb dX6_entryOf_3 rfl (lv_at hl 1 rfl) ?_
  refine lv_iload_n hx hb dX6_entryOf_4 rfl (lv_at hl 2 rfl) ?_
  obtain ⟨q1, hq1, hf⟩ := ob hf
  refine r_call1 (va_runV (As := [.int p0, .int p1]) (rest := [.int (8 : Int32)]) ⟨hx, hb, hml, hown, hts⟩ (c_X6_tableOf hI hA hq1) (cwV 2 hts gX6_entryOf_X6_tableOf rfl rfl rfl (by decide +kernel) ⟨Nat.le_of_ble_eq_true rfl, Nat.le_of_ble_eq_true rfl⟩) (Pf_V XMb (XMo A) hX hK hP hS obX6 rfl) rfl rfl hl.1 rfl (lv_room (Nat.le_of_ble_eq_true rfl)) dX6_entryOf_5 ⟨Nat.zero_le _, Nat.zero_le _⟩) hS (fun H locs hP hS => ?_)
  refine lv_imul hx hb dX6_entryOf_8 ?_
  refine lv_iload_n hx hb dX6_entryOf_9 rfl (lv_at hl 2 rfl) ?_
  refine lv_bipush (v := (8 : Int32)) hx hb dX6_entryOf_10 (by decide) ?_
  refine lv_irem hx hb dX6_entryOf_12 (by decide) ?_
  refine lv_iadd hx hb dX6_entryOf_13 ?_
  obtain rfl := Option.some.inj hf
  exact r_iret hx hb hr hlocks hP hS dX6_entryOf_14
set_option maxHeartbeats 4000000 in
set_option maxRecDepth 100000 in
theorem c_X6_isTaken {l : Launch} {D : va_G} {ad : Nat → Nat} {cI cZ cP cR : ClassId} {A : Nat → Prop} {M : Mem} {p0 : Int32} {p1 : Int32} {res : (Int32 × Mem)} (hI : gInj 25 ad) (hA : ∀ k, k < 25 → A (ad k)) (hf : fX6_isTaken M p0 p1 = some res) : Met l yX6_isTaken wsX6_isTaken { frames := 2, cells := 0, slots := 0, locals := 44 } (va_Pc [.ref (ad 0), .int p0, .int p1] (Pf D vwCl (tysW cI cZ cP cR) 25 ad (spM ad cI cZ) XM M)) (Qf D vwCl 25 ad (spM ad cI cZ) A (some (.int res.1)) res.2) 0 0 A := by
  refine Met.ofW (cc := cX6_isTaken) (maxL := 3) (ret := (some .boolean)) (by decide) rfl ?_
  intro p e s m args below meth c s₁ B hml hv
  obtain ⟨rfl, hP, hK, hX⟩ := hv
  have hx := B.exec
  have hb := B.bytes
  have hr := B.returns
  have hts := atoms_spec (ws := wsX6_isTaken) B.pre
  have hown : s.vm.findClass RX6 = some m.cls := findClass_of_methodNamed B.named
  have hlocks := B.notSynchronized
  have inX6 : ∀ w ∈ wsX60, w ∈ wsX6_isTaken := by decide +kernel
  have hS : va_S A s.heap s.heap [] := va_S.rf
  have hl := lv_entry ([.ref (ad 0), .int p0, .int p1]) (n := 3) (Nat.le_of_ble_eq_true rfl)
  rw [lg_entry_eq]
  generalize (lg_sl ([.ref (ad 0), .int p0, .int p1]) ++ List.replicate (3 - (lg_sl ([.ref (ad 0), .int p0, .int p1])).length) Slot.unset).toArray = ls at hl ⊢
  have hl : lv_has ls 3 [(0, .ref (ad 0)), (1, .int p0), (2, .int p1)] := hl
  rw [fX6_isTaken] at hf
  refine lv_aload_n hx hb dX6_isTaken_0 rfl (lv_at hl 0 rfl) ?_
  refine lv_iload_n hx hb dX6_isTaken_1 rfl (lv_at hl 1 rfl) ?_
  refine lv_iload_n hx hb dX6_isTaken_2 rfl (lv_at hl 2 rfl) ?_
  obtain ⟨q1, hq1, hf⟩ := ob hf
  refine r_call1 (va_runV (As := [.int p0, .int p1]) (rest := []) ⟨hx, hb, hml, hown, hts⟩ (c_X6_tableOf hI hA hq1) (cwV 2 hts gX6_isTaken_X6_tableOf rfl rfl rfl (by decide +kernel) ⟨Nat.le_of_ble_eq_true rfl, Nat.le_of_ble_eq_true rfl⟩) (Pf_V XMb (XMo A) hX hK hP hS obX6 rfl) rfl rfl hl.1 rfl (lv_room (Nat.le_of_ble_eq_true rfl)) dX6_isTaken_3 ⟨Nat.zero_le _, Nat.zero_le _⟩) hS (fun H locs hP hS => ?_)
  refine r_jn hf (fun K6 eK6 hf => ?_)
  have JK6 : ∀ (x4 : Int32) (M5 : Mem) (H : Heap) (locs : List Loc) (ls : Array Slot), va_P D vwCl (gw 25 ad (spM ad cI cZ) M5) H → va_S A s.heap H locs → lv_has ls 3 [(0, .ref (ad 0)), (1, .int p0), (2, .int p1)] → K6 x4 M5 = some res → W p l e (headSpec wsX6_isTaken { frames := 2, cells := 0, slots := 0, locals := 44 }).room s m (([.ref (ad 0), .int p0, .int p1] : List Value).toArray) below meth c H locs 0 0 (MQ below (Qf D vwCl 25 ad (spM ad cI cZ) A (some (.int res.1)) res.2) (([.ref (ad 0), .int p0, .int p1] : List Value).toArray) s 0 0 A) (F0 m 28 ls [.int x4]) := by
    intro x4 M5 H locs ls hP hS hl hf
    rw [eK6] at hf
    obtain ⟨hz, hf⟩ := gd_s hf
    obtain rfl := Option.some.inj hf
    exact r_zret hx hb hr (isB_n hz) hlocks hP hS dX6_isTaken_28
  refine r_if_lt (tgt := 23) hx hb dX6_isTaken_6 (by decide) hf (fun hf => ?_) (fun hf => ?_)
  · refine lv_iconst (v := (1 : Int32)) hx hb dX6_isTaken_23 (by decide) ?_
    refine lv_goto (tgt := 28) hx hb dX6_isTaken_24 (by decide) ?_
    exact JK6 (1 : Int32) q1.2 _ _ _ hP hS (lv_sub hl [0, 1, 2] rfl) hf
  · refine lv_aload_n hx hb dX6_isTaken_9 rfl (lv_at hl 0 rfl) ?_
    refine r_getc (k' := 7) (j := 7) hx hb hts inX6 hown hK hP (obX6) rfl (by decide) (hts (.fieldLink RX6 28 "PageMonitorModel" "entries" "[I") (by decide +kernel)) (fun _ => rfl) dX6_isTaken_10 ?_
    refine lv_aload_n hx hb dX6_isTaken_13 rfl (lv_at hl 0 rfl) ?_
    refine lv_iload_n hx hb dX6_isTaken_14 rfl (lv_at hl 1 rfl) ?_
    refine lv_iload_n hx hb dX6_isTaken_15 rfl (lv_at hl 2 rfl) ?_
    obtain ⟨q7, hq7, hf⟩ := ob hf
    refine r_call1 (va_runV (As := [.int p0, .int p1]) (rest := [.ref (ad 7)]) ⟨hx, hb, hml, hown, hts⟩ (c_X6_entryOf hI hA hq7) (cwV 2 hts gX6_isTaken_X6_entryOf rfl rfl rfl (by decide +kernel) ⟨Nat.le_of_ble_eq_true rfl, Nat.le_of_ble_eq_true rfl⟩) (Pf_V XMb (XMo A) hX hK hP hS obX6 rfl) rfl rfl hl.1 rfl (lv_room (Nat.le_of_ble_eq_true rfl)) dX6_isTaken_16 ⟨Nat.zero_le _, Nat.zero_le _⟩) hS (fun H locs hP hS => ?_)
    refine r_ialdk hx hb hK hP 0 ma7 rfl dX6_isTaken_19 hf (fun x8 hf => ?_)
    refine r_if_eq (tgt := 27) hx hb dX6_isTaken_20 (by decide) hf (fun hf => ?_) (fun hf => ?_)
    · refine lv_iconst (v := (0 : Int32)) hx hb dX6_isTaken_27 (by decide) ?_
      exact JK6 (0 : Int32) q7.2 _ _ _ hP hS (lv_sub hl [0, 1, 2] rfl) hf
    · refine lv_iconst (v := (1 : Int32)) hx hb dX6_isTaken_23 (by decide) ?_
      refine lv_goto (tgt := 28) hx hb dX6_isTaken_24 (by decide) ?_
      exact JK6 (1 : Int32) q7.2 _ _ _ hP hS (lv_sub hl [0, 1, 2] rfl) hf
set_option maxHeartbeats 4000000 in
set_option maxRecDepth 100000 in
theorem c_X6_noBlock {l : Launch} {D : va_G} {ad : Nat → Nat} {cI cZ cP cR : ClassId} {A : Nat → Prop} {M : Mem} {p0 : Int32} {res : (Int32 × Mem)} (hI : gInj 25 ad) (hA : ∀ k, k < 25 → A (ad k)) (hf : fX6_noBlock M p0 = some res) : Met l yX6_noBlock wsX6_noBlock { frames := 0, cells := 0, slots := 0, locals := 0 } (va_Pc [.int p0] (Pf D vwCl (tysW cI cZ cP cR) 25 ad (spM ad cI cZ) XM M)) (Qf D vwCl 25 ad (spM ad cI cZ) A (some (.int res.1)) res.2) 0 0 A := by
  refine Met.ofW (cc := cX6_noBlock) (maxL := 1) (ret := (some .boolean)) (by decide) rfl ?_
  intro p e s m args below meth c s₁ B hml hv
  obtain ⟨rfl, hP, hK, hX⟩ := hv
  have hx := B.exec
  have hb := B.bytes
  have hr := B.returns
  have hts := atoms_spec (ws := wsX6_noBlock) B.pre
  have hown : s.vm.findClass RX6 = some m.cls := findClass_of_methodNamed B.named
  have hlocks := B.notSynchronized
  have hS : va_S A s.heap s.heap [] := va_S.rf
  have hl := lv_entry ([.int p0]) (n := 1) (Nat.le_of_ble_eq_true rfl)
  rw [lg_entry_eq]
  generalize (lg_sl ([.int p0]) ++ List.replicate (1 - (lg_sl ([.int p0])).length) Slot.unset).toArray = ls at hl ⊢
  have hl : lv_has ls 1 [(0, .int p0)] := hl
  rw [fX6_noBlock] at hf
  refine lv_iload_n hx hb dX6_noBlock_0 rfl (lv_at hl 0 rfl) ?_
  refine r_jn hf (fun K2 eK2 hf => ?_)
  have JK2 : ∀ (x1 : Int32) (H : Heap) (locs : List Loc) (ls : Array Slot), va_P D vwCl (gw 25 ad (spM ad cI cZ) M) H → va_S A s.heap H locs → lv_has ls 1 [(0, .int p0)] → K2 x1 = some res → W p l e (headSpec wsX6_noBlock { frames := 0, cells := 0, slots := 0, locals := 0 }).room s m (([.int p0] : List Value).toArray) below meth c H locs 0 0 (MQ below (Qf D vwCl 25 ad (spM ad cI cZ) A (some (.int res.1)) res.2) (([.int p0] : List Value).toArray) s 0 0 A) (F0 m 15 ls [.int x1]) := by
    intro x1 H locs ls hP hS hl hf
    rw [eK2] at hf
    obtain ⟨hz, hf⟩ := gd_s hf
    obtain rfl := Option.some.inj hf
    exact r_zret hx hb hr (isB_n hz) hlocks hP hS dX6_noBlock_15
  refine r_if_lt (tgt := 10) hx hb dX6_noBlock_1 (by decide) hf (fun hf => ?_) (fun hf => ?_)
  · refine lv_iconst (v := (1 : Int32)) hx hb dX6_noBlock_10 (by decide) ?_
    refine lv_goto (tgt := 15) hx hb dX6_noBlock_11 (by decide) ?_
    exact JK2 (1 : Int32) _ _ _ hP hS (lv_sub hl [0] rfl) hf
  · refine lv_iload_n hx hb dX6_noBlock_4 rfl (lv_at hl 0 rfl) ?_
    refine lv_bipush (v := (31 : Int32)) hx hb dX6_noBlock_5 (by decide) ?_
    refine r_icmp_le (tgt := 14) hx hb dX6_noBlock_7 (by decide) hf (fun hf => ?_) (fun hf => ?_)
    · refine lv_iconst (v := (0 : Int32)) hx hb dX6_noBlock_14 (by decide) ?_
      exact JK2 (0 : Int32) _ _ _ hP hS (lv_sub hl [0] rfl) hf
    · refine lv_iconst (v := (1 : Int32)) hx hb dX6_noBlock_10 (by decide) ?_
      refine lv_goto (tgt := 15) hx hb dX6_noBlock_11 (by decide) ?_
      exact JK2 (1 : Int32) _ _ _ hP hS (lv_sub hl [0] rfl) hf
set_option maxHeartbeats 4000000 in
set_option maxRecDepth 100000 in
theorem c_X6_become {l : Launch} {D : va_G} {ad : Nat → Nat} {cI cZ cP cR : ClassId} {A : Nat → Prop} {M : Mem} {p0 : Int32} {p1 : Int32} {p2 : Int32} {res : Mem} (hI : gInj 25 ad) (hA : ∀ k, k < 25 → A (ad k)) (hf : fX6_become M p0 p1 p2 = some res) : Met l yX6_become wsX6_become { frames := 0, cells := 0, slots := 0, locals := 0 } (va_Pc [.ref (ad 0), .int p0, .int p1, .int p2] (Pf D vwCl (tysW cI cZ cP cR) 25 ad (spM ad cI cZ) XM M)) (Qf D vwCl 25 ad (spM ad cI cZ) A none res) 0 0 A := by
  refine Met.ofW (cc := cX6_become) (maxL := 4) (ret := none) (by decide) rfl ?_
  intro p e s m args below meth c s₁ B hml hv
  obtain ⟨rfl, hP, hK, hX⟩ := hv
  have hx := B.exec
  have hb := B.bytes
  have hr := B.returns
  have hts := atoms_spec (ws := wsX6_become) B.pre
  have hown : s.vm.findClass RX6 = some m.cls := findClass_of_methodNamed B.named
  have hlocks := B.notSynchronized
  have inX6 : ∀ w ∈ wsX60, w ∈ wsX6_become := by decide +kernel
  have hS : va_S A s.heap s.heap [] := va_S.rf
  have hl := lv_entry ([.ref (ad 0), .int p0, .int p1, .int p2]) (n := 4) (Nat.le_of_ble_eq_true rfl)
  rw [lg_entry_eq]
  generalize (lg_sl ([.ref (ad 0), .int p0, .int p1, .int p2]) ++ List.replicate (4 - (lg_sl ([.ref (ad 0), .int p0, .int p1, .int p2])).length) Slot.unset).toArray = ls at hl ⊢
  have hl : lv_has ls 4 [(0, .ref (ad 0)), (1, .int p0), (2, .int p1), (3, .int p2)] := hl
  rw [fX6_become] at hf
  refine lv_aload_n hx hb dX6_become_0 rfl (lv_at hl 0 rfl) ?_
  refine r_getc (k' := 3) (j := 3) hx hb hts inX6 hown hK hP (obX6) rfl (by decide) (hts (.fieldLink RX6 16 "PageMonitorModel" "kinds" "[I") (by decide +kernel)) (fun _ => rfl) dX6_become_1 ?_
  refine lv_iload_n hx hb dX6_become_4 rfl (lv_at hl 1 rfl) ?_
  refine lv_iload_n hx hb dX6_become_5 rfl (lv_at hl 2 rfl) ?_
  refine r_iastk hx hb hI hA hK hP hS 0 ma3 rfl dX6_become_6 hf (fun M1 H locs hP hS hf => ?_)
  refine lv_aload_n hx hb dX6_become_7 rfl (lv_at hl 0 rfl) ?_
  refine r_getc (k' := 4) (j := 4) hx hb hts inX6 hown hK hP (obX6) rfl (by decide) (hts (.fieldLink RX6 19 "PageMonitorModel" "owners" "[I") (by decide +kernel)) (fun _ => rfl) dX6_become_8 ?_
  refine lv_iload_n hx hb dX6_become_11 rfl (lv_at hl 1 rfl) ?_
  refine lv_iload_n hx hb dX6_become_12 rfl (lv_at hl 3 rfl) ?_
  refine r_iastk hx hb hI hA hK hP hS 0 ma4 rfl dX6_become_13 hf (fun M2 H locs hP hS hf => ?_)
  obtain rfl := Option.some.inj hf
  exact r_vret hx hb hr hlocks hP hS dX6_become_14
set_option maxHeartbeats 4000000 in
set_option maxRecDepth 100000 in
theorem c_X6_tell {l : Launch} {D : va_G} {ad : Nat → Nat} {cI cZ cP cR : ClassId} {A : Nat → Prop} {M : Mem} {p0 : Int32} {p1 : Int32} {p2 : Int32} {p3 : Int32} {res : Mem} (hI : gInj 25 ad) (hA : ∀ k, k < 25 → A (ad k)) (hf : fX6_tell M p0 p1 p2 p3 = some res) : Met l yX6_tell wsX6_tell { frames := 0, cells := 0, slots := 0, locals := 0 } (va_Pc [.ref (ad 0), .int p0, .int p1, .int p2, .int p3] (Pf D vwCl (tysW cI cZ cP cR) 25 ad (spM ad cI cZ) XM M)) (Qf D vwCl 25 ad (spM ad cI cZ) A none res) 0 0 A := by
  refine Met.ofW (cc := cX6_tell) (maxL := 7) (ret := none) (by decide) rfl ?_
  intro p e s m args below meth c s₁ B hml hv
  obtain ⟨rfl, hP, hK, hX⟩ := hv
  have hx := B.exec
  have hb := B.bytes
  have hr := B.returns
  have hts := atoms_spec (ws := wsX6_tell) B.pre
  have hown : s.vm.findClass RX6 = some m.cls := findClass_of_methodNamed B.named
  have hlocks := B.notSynchronized
  have inX6 : ∀ w ∈ wsX60, w ∈ wsX6_tell := by decide +kernel
  have hS : va_S A s.heap s.heap [] := va_S.rf
  have hl := lv_entry ([.ref (ad 0), .int p0, .int p1, .int p2, .int p3]) (n := 7) (Nat.le_of_ble_eq_true rfl)
  rw [lg_entry_eq]
  generalize (lg_sl ([.ref (ad 0), .int p0, .int p1, .int p2, .int p3]) ++ List.replicate (7 - (lg_sl ([.ref (ad 0), .int p0, .int p1, .int p2, .int p3])).length) Slot.unset).toArray = ls at hl ⊢
  have hl : lv_has ls 7 [(0, .ref (ad 0)), (1, .int p0), (2, .int p1), (3, .int p2), (4, .int p3)] := hl
  rw [fX6_tell] at hf
  refine lv_sipush (v := (1600 : Int32)) hx hb dX6_tell_0 (by decide) ?_
  refine lv_iload_n hx hb dX6_tell_3 rfl (lv_at hl 1 rfl) ?_
  refine lv_imul hx hb dX6_tell_4 ?_
  refine lv_aload_n hx hb dX6_tell_5 rfl (lv_at hl 0 rfl) ?_
  refine r_getc (k' := 11) (j := 11) hx hb hts inX6 hown hK hP (obX6) rfl (by decide) (hts (.fieldLink RX6 40 "PageMonitorModel" "logged" "[I") (by decide +kernel)) (fun _ => rfl) dX6_tell_6 ?_
  refine lv_iload_n hx hb dX6_tell_9 rfl (lv_at hl 1 rfl) ?_
  refine r_ialdk hx hb hK hP 0 ma11 rfl dX6_tell_10 hf (fun x1 hf => ?_)
  refine lv_iadd hx hb dX6_tell_11 ?_
  refine r_top (g := .int) hf (fun x2 hf => ?_)
  refine lv_istore (lv' := [(5, .int x2), (0, .ref (ad 0)), (1, .int p0), (2, .int p1), (3, .int p2), (4, .int p3)]) hx hb dX6_tell_12 hl (by decide) rfl (fun ls hl => ?_)
  refine lv_iconst (v := (0 : Int32)) hx hb dX6_tell_14 (by decide) ?_
  refine lv_istore (lv' := [(6, .int (0 : Int32)), (5, .int x2), (0, .ref (ad 0)), (1, .int p0), (2, .int p1), (3, .int p2), (4, .int p3)]) hx hb dX6_tell_15 hl (by decide) rfl (fun ls hl => ?_)
  refine r_jn hf (fun F5 eF5 hf => ?_)
  have EF5 : ∀ (x6 : Int32) (M7 : Mem) (H : Heap) (locs : List Loc) (ls : Array Slot), va_P D vwCl (gw 25 ad (spM ad cI cZ) M7) H → va_S A s.heap H locs → lv_has ls 7 [(0, .ref (ad 0)), (1, .int p0), (2, .int p1), (3, .int p2), (4, .int p3), (5, .int x2), (6, .int x6)] → F5 x6 M7 = some res → W p l e (headSpec wsX6_tell { frames := 0, cells := 0, slots := 0, locals := 0 }).room s m (([.ref (ad 0), .int p0, .int p1, .int p2, .int p3] : List Value).toArray) below meth c H locs 0 0 (MQ below (Qf D vwCl 25 ad (spM ad cI cZ) A none res) (([.ref (ad 0), .int p0, .int p1, .int p2, .int p3] : List Value).toArray) s 0 0 A) (F0 m 71 ls []) := by
    intro x6 M7 H locs ls hP hS hl hf
    rw [eF5] at hf
    refine lv_aload_n hx hb dX6_tell_71 rfl (lv_at hl 0 rfl) ?_
    refine r_getc (k' := 11) (j := 11) hx hb hts inX6 hown hK hP (obX6) rfl (by decide) (hts (.fieldLink RX6 40 "PageMonitorModel" "logged" "[I") (by decide +kernel)) (fun _ => rfl) dX6_tell_72 ?_
    refine lv_iload_n hx hb dX6_tell_75 rfl (lv_at hl 1 rfl) ?_
    refine lv_aload_n hx hb dX6_tell_76 rfl (lv_at hl 0 rfl) ?_
    refine r_getc (k' := 11) (j := 11) hx hb hts inX6 hown hK hP (obX6) rfl (by decide) (hts (.fieldLink RX6 40 "PageMonitorModel" "logged" "[I") (by decide +kernel)) (fun _ => rfl) dX6_tell_77 ?_
    refine lv_iload_n hx hb dX6_tell_80 rfl (lv_at hl 1 rfl) ?_
    refine r_ialdk hx hb hK hP 0 ma11 rfl dX6_tell_81 hf (fun x8 hf => ?_)
    refine lv_bipush (v := (16 : Int32)) hx hb dX6_tell_82 (by decide) ?_
    refine lv_iadd hx hb dX6_tell_84 ?_
    refine r_iastk hx hb hI hA hK hP hS 0 ma11 rfl dX6_tell_85 hf (fun M9 H locs hP hS hf => ?_)
    obtain rfl := Option.some.inj hf
    exact r_vret hx hb hr hlocks hP hS dX6_tell_86
  have LF5 : ∀ (n : Nat) (x3 : Int32) (M4 : Mem) (H : Heap) (locs : List Loc) (ls : Array Slot), va_P D vwCl (gw 25 ad (spM ad cI cZ) M4) H → va_S A s.heap H locs → lv_has ls 7 [(0, .ref (ad 0)), (1, .int p0), (2, .int p1), (3, .int p2), (4, .int p3), (5, .int x2), (6, .int x3)] → lp_X6_tell_17 x2 p1 p2 p3 F5 n x3 M4 = some res → W p l e (headSpec wsX6_tell { frames := 0, cells := 0, slots := 0, locals := 0 }).room s m (([.ref (ad 0), .int p0, .int p1, .int p2, .int p3] : List Value).toArray) below meth c H locs 0 0 (MQ below (Qf D vwCl 25 ad (spM ad cI cZ) A none res) (([.ref (ad 0), .int p0, .int p1, .int p2, .int p3] : List Value).toArray) s 0 0 A) (F0 m 17 ls []) := by
    intro n
    induction n with
    | zero =>
      intro x3 M4 H locs ls hP hS hl hf
      exact absurd hf (fun h => nomatch h)
    | succ n ih =>
      intro x3 M4 H locs ls hP hS hl hf
      rw [lp_X6_tell_17_s] at hf
      refine lv_iload hx hb dX6_tell_17 (lv_at hl 6 rfl) ?_
      refine lv_bipush (v := (16 : Int32)) hx hb dX6_tell_19 (by decide) ?_
      refine r_icmp_ge (tgt := 71) hx hb dX6_tell_21 (by decide) hf (fun hf => ?_) (fun hf => ?_)
      · exact EF5 x3 M4 _ _ _ hP hS (lv_sub hl [0, 1, 2, 3, 4, 5, 6] rfl) hf
      · refine lv_aload_n hx hb dX6_tell_24 rfl (lv_at hl 0 rfl) ?_
        refine r_getc (k' := 10) (j := 10) hx hb hts inX6 hown hK hP (obX6) rfl (by decide) (hts (.fieldLink RX6 37 "PageMonitorModel" "logs" "[I") (by decide +kernel)) (fun _ => rfl) dX6_tell_25 ?_
        refine lv_iload hx hb dX6_tell_28 (lv_at hl 5 rfl) ?_
        refine lv_iload hx hb dX6_tell_30 (lv_at hl 6 rfl) ?_
        refine lv_iadd hx hb dX6_tell_32 ?_
        refine lv_iload hx hb dX6_tell_33 (lv_at hl 6 rfl) ?_
        refine r_jn hf (fun K11 eK11 hf => ?_)
        have JK11 : ∀ (x10 : Int32) (H : Heap) (locs : List Loc) (ls : Array Slot), va_P D vwCl (gw 25 ad (spM ad cI cZ) M4) H → va_S A s.heap H locs → lv_has ls 7 [(0, .ref (ad 0)), (1, .int p0), (2, .int p1), (3, .int p2), (4, .int p3), (5, .int x2), (6, .int x3)] → K11 x10 = some res → W p l e (headSpec wsX6_tell { frames := 0, cells := 0, slots := 0, locals := 0 }).room s m (([.ref (ad 0), .int p0, .int p1, .int p2, .int p3] : List Value).toArray) below meth c H locs 0 0 (MQ below (Qf D vwCl 25 ad (spM ad cI cZ) A none res) (([.ref (ad 0), .int p0, .int p1, .int p2, .int p3] : List Value).toArray) s 0 0 A) (F0 m 64 ls [.int x10, .int (x2 + x3), .ref (ad 10)]) := by
          intro x10 H locs ls hP hS hl hf
          rw [eK11] at hf
          refine r_iastk hx hb hI hA hK hP hS 0 ma10 rfl dX6_tell_64 hf (fun M12 H locs hP hS hf => ?_)
          refine lv_iinc (v := x3 + (1 : Int32)) (lv' := [(6, .int (x3 + (1 : Int32))), (0, .ref (ad 0)), (1, .int p0), (2, .int p1), (3, .int p2), (4, .int p3), (5, .int x2)]) hx hb dX6_tell_65 hl (k := 6) rfl rfl (by decide) rfl (fun ls hl => ?_)
          refine lv_goto (tgt := 17) hx hb dX6_tell_68 (by decide) ?_
          exact ih (x3 + (1 : Int32)) M12 _ _ _ hP hS (lv_sub hl [1, 2, 3, 4, 5, 6, 0] rfl) hf
        refine r_if_ne (tgt := 42) hx hb dX6_tell_35 (by decide) hf (fun hf => ?_) (fun hf => ?_)
        · refine lv_iload hx hb dX6_tell_42 (lv_at hl 6 rfl) ?_
          refine lv_iconst (v := (1 : Int32)) hx hb dX6_tell_44 (by decide) ?_
          refine r_icmp_ne (tgt := 52) hx hb dX6_tell_45 (by decide) hf (fun hf => ?_) (fun hf => ?_)
          · refine lv_iload hx hb dX6_tell_52 (lv_at hl 6 rfl) ?_
            refine lv_iconst (v := (2 : Int32)) hx hb dX6_tell_54 (by decide) ?_
            refine r_icmp_ne (tgt := 63) hx hb dX6_tell_55 (by decide) hf (fun hf => ?_) (fun hf => ?_)
            · refine lv_iconst (v := (0 : Int32)) hx hb dX6_tell_63 (by decide) ?_
              exact JK11 (0 : Int32) _ _ _ hP hS (lv_sub hl [0, 1, 2, 3, 4, 5, 6] rfl) hf
            · refine lv_iload hx hb dX6_tell_58 (lv_at hl 4 rfl) ?_
              refine lv_goto (tgt := 64) hx hb dX6_tell_60 (by decide) ?_
              exact JK11 p3 _ _ _ hP hS (lv_sub hl [0, 1, 2, 3, 4, 5, 6] rfl) hf
          · refine lv_iload_n hx hb dX6_tell_48 rfl (lv_at hl 3 rfl) ?_
            refine lv_goto (tgt := 64) hx hb dX6_tell_49 (by decide) ?_
            exact JK11 p2 _ _ _ hP hS (lv_sub hl [0, 1, 2, 3, 4, 5, 6] rfl) hf
        · refine lv_iload_n hx hb dX6_tell_38 rfl (lv_at hl 2 rfl) ?_
          refine lv_goto (tgt := 64) hx hb dX6_tell_39 (by decide) ?_
          exact JK11 p1 _ _ _ hP hS (lv_sub hl [0, 1, 2, 3, 4, 5, 6] rfl) hf
  exact LF5 FU (0 : Int32) M _ _ _ hP hS (lv_sub hl [2, 3, 4, 5, 6, 1, 0] rfl) hf
