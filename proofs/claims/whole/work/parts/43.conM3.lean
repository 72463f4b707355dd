set_option maxHeartbeats 4000000 in
set_option maxRecDepth 100000 in
theorem c_X6_lies {l : Launch} {D : va_G} {ad : Nat → Nat} {cI cZ cP cR : ClassId} {A : Nat → Prop} {M : Mem} {p0 : Int32} {p1 : Int32} {res : (Int32 × Mem)} (hI : gInj 25 ad) (hA : ∀ k, k < 25 → A (ad k)) (hf : fX6_lies M p0 p1 = some res) : Met l yX6_lies wsX6_lies { frames := 2, cells := 0, slots := 0, locals := 44 } (va_Pc [.ref (ad 0), .int p0, .int p1] (Pf D vwCl (tysW cI cZ cP cR) 25 ad (spM ad cI cZ) XM M)) (Qf D vwCl 25 ad (spM ad cI cZ) A (some (.int res.1)) res.2) 0 0 A := by
  refine Met.ofW (cc := cX6_lies) (maxL := 4) (ret := (some .int)) (by decide) rfl ?_
  intro p e s m args below meth c s₁ B hml hv
  obtain ⟨rfl, hP, hK, hX⟩ := hv
  have hx := B.exec
  have hb := B.bytes
  have hr := B.returns
  have hts := atoms_spec (ws := wsX6_lies) B.pre
  have hown : s.vm.findClass RX6 = some m.cls := findClass_of_methodNamed B.named
  have hlocks := B.notSynchronized
  have inX6 : ∀ w ∈ wsX60, w ∈ wsX6_lies := by decide +kernel
  have hS : va_S A s.heap s.heap [] := va_S.rf
  have hl := lv_entry ([.ref (ad 0), .int p0, .int p1]) (n := 4) (Nat.le_of_ble_eq_true rfl)
  rw [lg_entry_eq]
  generalize (lg_sl ([.ref (ad 0), .int p0, .int p1]) ++ List.replicate (4 - (lg_sl ([.ref (ad 0), .int p0, .int p1])).length) Slot.unset).toArray = ls at hl ⊢
  have hl : lv_has ls 4 [(0, .ref (ad 0)), (1, .int p0), (2, .int p1)] := hl
  rw [fX6_lies] at hf
  refine lv_iload_n hx hb dX6_lies_0 rfl (lv_at hl 1 rfl) ?_
  refine r_if_lt (tgt := 26) hx hb dX6_lies_1 (by decide) hf (fun hf => ?_) (fun hf => ?_)
  · refine lv_iconst (v := (-1 : Int32)) hx hb dX6_lies_26 (by decide) ?_
    obtain rfl := Option.some.inj hf
    exact r_iret hx hb hr hlocks hP hS dX6_lies_27
  · refine lv_iload_n hx hb dX6_lies_4 rfl (lv_at hl 1 rfl) ?_
    refine lv_sipush (v := (511 : Int32)) hx hb dX6_lies_5 (by decide) ?_
    refine r_icmp_gt (tgt := 26) hx hb dX6_lies_8 (by decide) hf (fun hf => ?_) (fun hf => ?_)
    · refine lv_iconst (v := (-1 : Int32)) hx hb dX6_lies_26 (by decide) ?_
      obtain rfl := Option.some.inj hf
      exact r_iret hx hb hr hlocks hP hS dX6_lies_27
    · refine lv_aload_n hx hb dX6_lies_11 rfl (lv_at hl 0 rfl) ?_
      refine lv_aload_n hx hb dX6_lies_12 rfl (lv_at hl 0 rfl) ?_
      refine r_getik (j := 21) hx hb hts inX6 hown hK hP (obX6) rfl (by decide) (hts (.fieldLink RX6 231 "PageMonitorModel" "own" "I") (by decide +kernel)) (fun _ => rfl) dX6_lies_13 hf (fun x1 hf => ?_)
      refine lv_iload_n hx hb dX6_lies_16 rfl (lv_at hl 1 rfl) ?_
      refine lv_bipush (v := (16 : Int32)) hx hb dX6_lies_17 (by decide) ?_
      refine lv_idiv hx hb dX6_lies_19 (by decide) ?_
      obtain ⟨q2, hq2, hf⟩ := ob hf
      refine r_call1 (va_runV (As := [.int x1, .int (p0 / (16 : Int32))]) (rest := []) ⟨hx, hb, hml, hown, hts⟩ (c_X6_tableOf hI hA hq2) (cwV 2 hts gX6_lies_X6_tableOf rfl rfl rfl (by decide +kernel) ⟨Nat.le_of_ble_eq_true rfl, Nat.le_of_ble_eq_true rfl⟩) (Pf_V XMb (XMo A) hX hK hP hS obX6 rfl) rfl rfl hl.1 rfl (lv_room (Nat.le_of_ble_eq_true rfl)) dX6_lies_20 ⟨Nat.zero_le _, Nat.zero_le _⟩) hS (fun H locs hP hS => ?_)
      refine r_if_ge (tgt := 28) hx hb dX6_lies_23 (by decide) hf (fun hf => ?_) (fun hf => ?_)
      · refine lv_aload_n hx hb dX6_lies_28 rfl (lv_at hl 0 rfl) ?_
        refine lv_aload_n hx hb dX6_lies_29 rfl (lv_at hl 0 rfl) ?_
        refine r_getik (j := 21) hx hb hts inX6 hown hK hP (obX6) rfl (by decide) (hts (.fieldLink RX6 231 "PageMonitorModel" "own" "I") (by decide +kernel)) (fun _ => rfl) dX6_lies_30 hf (fun x3 hf => ?_)
        refine lv_iload_n hx hb dX6_lies_33 rfl (lv_at hl 1 rfl) ?_
        refine lv_bipush (v := (16 : Int32)) hx hb dX6_lies_34 (by decide) ?_
        refine lv_idiv hx hb dX6_lies_36 (by decide) ?_
        obtain ⟨q4, hq4, hf⟩ := ob hf
        refine r_call1 (va_runV (As := [.int x3, .int (p0 / (16 : Int32))]) (rest := []) ⟨hx, hb, hml, hown, hts⟩ (c_X6_entryOf hI hA hq4) (cwV 2 hts gX6_lies_X6_entryOf rfl rfl rfl (by decide +kernel) ⟨Nat.le_of_ble_eq_true rfl, Nat.le_of_ble_eq_true rfl⟩) (Pf_V XMb (XMo A) hX hK hP hS obX6 rfl) rfl rfl hl.1 rfl (lv_room (Nat.le_of_ble_eq_true rfl)) dX6_lies_37 ⟨Nat.zero_le _, Nat.zero_le _⟩) hS (fun H locs hP hS => ?_)
        refine r_top (g := .int) hf (fun x5 hf => ?_)
        refine lv_istore_n (lv' := [(3, .int x5), (0, .ref (ad 0)), (1, .int p0), (2, .int p1)]) hx hb dX6_lies_40 rfl hl (by decide) rfl (fun ls hl => ?_)
        refine lv_aload_n hx hb dX6_lies_41 rfl (lv_at hl 1 rfl) ?_
        refine r_getc (k' := 7) (j := 7) hx hb hts inX6 hown hK hP (obX6) rfl (by decide) (hts (.fieldLink RX6 28 "PageMonitorModel" "entries" "[I") (by decide +kernel)) (fun _ => rfl) dX6_lies_42 ?_
        refine lv_iload_n hx hb dX6_lies_45 rfl (lv_at hl 0 rfl) ?_
        refine r_ialdk hx hb hK hP 0 ma7 rfl dX6_lies_46 hf (fun x6 hf => ?_)
        refine r_if_eq (tgt := 62) hx hb dX6_lies_47 (by decide) hf (fun hf => ?_) (fun hf => ?_)
        · refine lv_iconst (v := (-1 : Int32)) hx hb dX6_lies_62 (by decide) ?_
          obtain rfl := Option.some.inj hf
          exact r_iret hx hb hr hlocks hP hS dX6_lies_63
        · refine lv_aload_n hx hb dX6_lies_50 rfl (lv_at hl 1 rfl) ?_
          refine r_getc (k' := 8) (j := 8) hx hb hts inX6 hown hK hP (obX6) rfl (by decide) (hts (.fieldLink RX6 31 "PageMonitorModel" "rights" "[I") (by decide +kernel)) (fun _ => rfl) dX6_lies_51 ?_
          refine lv_iload_n hx hb dX6_lies_54 rfl (lv_at hl 0 rfl) ?_
          refine r_ialdk hx hb hK hP 0 ma8 rfl dX6_lies_55 hf (fun x7 hf => ?_)
          refine lv_iload_n hx hb dX6_lies_56 rfl (lv_at hl 3 rfl) ?_
          refine lv_iand hx hb dX6_lies_57 ?_
          refine lv_iload_n hx hb dX6_lies_58 rfl (lv_at hl 3 rfl) ?_
          refine r_icmp_eq (tgt := 64) hx hb dX6_lies_59 (by decide) hf (fun hf => ?_) (fun hf => ?_)
          · refine lv_aload_n hx hb dX6_lies_64 rfl (lv_at hl 1 rfl) ?_
            refine r_getc (k' := 7) (j := 7) hx hb hts inX6 hown hK hP (obX6) rfl (by decide) (hts (.fieldLink RX6 28 "PageMonitorModel" "entries" "[I") (by decide +kernel)) (fun _ => rfl) dX6_lies_65 ?_
            refine lv_iload_n hx hb dX6_lies_68 rfl (lv_at hl 0 rfl) ?_
            refine r_ialdk hx hb hK hP 0 ma7 rfl dX6_lies_69 hf (fun x8 hf => ?_)
            refine r_jn hf (fun K12 eK12 hf => ?_)
            have JK12 : ∀ (x11 : Int32) (H : Heap) (locs : List Loc) (ls : Array Slot), va_P D vwCl (gw 25 ad (spM ad cI cZ) q4.2) H → va_S A s.heap H locs → lv_has ls 4 [(0, .ref (ad 0)), (1, .int p0), (2, .int p1), (3, .int x5)] → K12 x11 = some res → W p l e (headSpec wsX6_lies { frames := 2, cells := 0, slots := 0, locals := 44 }).room s m (([.ref (ad 0), .int p0, .int p1] : List Value).toArray) below meth c H locs 0 0 (MQ below (Qf D vwCl 25 ad (spM ad cI cZ) A (some (.int res.1)) res.2) (([.ref (ad 0), .int p0, .int p1] : List Value).toArray) s 0 0 A) (F0 m 113 ls [.int x11]) := by
              intro x11 H locs ls hP hS hl hf
              rw [eK12] at hf
              obtain rfl := Option.some.inj hf
              exact r_iret hx hb hr hlocks hP hS dX6_lies_113
            refine r_if_le (tgt := 92) hx hb dX6_lies_70 (by decide) hf (fun hf => ?_) (fun hf => ?_)
            · refine lv_sipush (v := (320 : Int32)) hx hb dX6_lies_92 (by decide) ?_
              refine lv_bipush (v := (16 : Int32)) hx hb dX6_lies_95 (by decide) ?_
              refine lv_aload_n hx hb dX6_lies_97 rfl (lv_at hl 1 rfl) ?_
              refine r_getc (k' := 7) (j := 7) hx hb hts inX6 hown hK hP (obX6) rfl (by decide) (hts (.fieldLink RX6 28 "PageMonitorModel" "entries" "[I") (by decide +kernel)) (fun _ => rfl) dX6_lies_98 ?_
              refine lv_iload_n hx hb dX6_lies_101 rfl (lv_at hl 0 rfl) ?_
              refine r_ialdk hx hb hK hP 0 ma7 rfl dX6_lies_102 hf (fun x13 hf => ?_)
              refine lv_ineg hx hb dX6_lies_103 ?_
              refine lv_iconst (v := (1 : Int32)) hx hb dX6_lies_104 (by decide) ?_
              refine lv_isub hx hb dX6_lies_105 ?_
              refine lv_imul hx hb dX6_lies_106 ?_
              refine lv_iadd hx hb dX6_lies_107 ?_
              refine lv_iload_n hx hb dX6_lies_108 rfl (lv_at hl 2 rfl) ?_
              refine lv_bipush (v := (16 : Int32)) hx hb dX6_lies_109 (by decide) ?_
              refine lv_irem hx hb dX6_lies_111 (by decide) ?_
              refine lv_iadd hx hb dX6_lies_112 ?_
              exact JK12 (((320 : Int32) + ((16 : Int32) * ((-x13) - (1 : Int32)))) + (p0 - p0 / (16 : Int32) * (16 : Int32))) _ _ _ hP hS (lv_sub hl [1, 2, 3, 0] rfl) hf
            · refine lv_bipush (v := (16 : Int32)) hx hb dX6_lies_73 (by decide) ?_
              refine lv_aload_n hx hb dX6_lies_75 rfl (lv_at hl 1 rfl) ?_
              refine r_getc (k' := 7) (j := 7) hx hb hts inX6 hown hK hP (obX6) rfl (by decide) (hts (.fieldLink RX6 28 "PageMonitorModel" "entries" "[I") (by decide +kernel)) (fun _ => rfl) dX6_lies_76 ?_
              refine lv_iload_n hx hb dX6_lies_79 rfl (lv_at hl 0 rfl) ?_
              refine r_ialdk hx hb hK hP 0 ma7 rfl dX6_lies_80 hf (fun x14 hf => ?_)
              refine lv_iconst (v := (1 : Int32)) hx hb dX6_lies_81 (by decide) ?_
              refine lv_isub hx hb dX6_lies_82 ?_
              refine lv_imul hx hb dX6_lies_83 ?_
              refine lv_iload_n hx hb dX6_lies_84 rfl (lv_at hl 2 rfl) ?_
              refine lv_bipush (v := (16 : Int32)) hx hb dX6_lies_85 (by decide) ?_
              refine lv_irem hx hb dX6_lies_87 (by decide) ?_
              refine lv_iadd hx hb dX6_lies_88 ?_
              refine lv_goto (tgt := 113) hx hb dX6_lies_89 (by decide) ?_
              exact JK12 (((16 : Int32) * (x14 - (1 : Int32))) + (p0 - p0 / (16 : Int32) * (16 : Int32))) _ _ _ hP hS (lv_sub hl [1, 2, 3, 0] rfl) hf
          · refine lv_iconst (v := (-1 : Int32)) hx hb dX6_lies_62 (by decide) ?_
            obtain rfl := Option.some.inj hf
            exact r_iret hx hb hr hlocks hP hS dX6_lies_63
      · refine lv_iconst (v := (-1 : Int32)) hx hb dX6_lies_26 (by decide) ?_
        obtain rfl := Option.some.inj hf
        exact r_iret hx hb hr hlocks hP hS dX6_lies_27
set_option maxHeartbeats 4000000 in
set_option maxRecDepth 100000 in
theorem c_X6_load {l : Launch} {D : va_G} {ad : Nat → Nat} {cI cZ cP cR : ClassId} {A : Nat → Prop} {M : Mem} {p0 : Int32} {res : (Int32 × Mem)} (hI : gInj 25 ad) (hA : ∀ k, k < 25 → A (ad k)) (hf : fX6_load M p0 = some res) : Met l yX6_load wsX6_load { frames := 3, cells := 0, slots := 0, locals := 67 } (va_Pc [.ref (ad 0), .int p0] (Pf D vwCl (tysW cI cZ cP cR) 25 ad (spM ad cI cZ) XM M)) (Qf D vwCl 25 ad (spM ad cI cZ) A (some (.int res.1)) res.2) 0 0 A := by
  refine Met.ofW (cc := cX6_load) (maxL := 3) (ret := (some .int)) (by decide) rfl ?_
  intro p e s m args below meth c s₁ B hml hv
  obtain ⟨rfl, hP, hK, hX⟩ := hv
  have hx := B.exec
  have hb := B.bytes
  have hr := B.returns
  have hts := atoms_spec (ws := wsX6_load) B.pre
  have hown : s.vm.findClass RX6 = some m.cls := findClass_of_methodNamed B.named
  have hlocks := B.notSynchronized
  have inX6 : ∀ w ∈ wsX60, w ∈ wsX6_load := by decide +kernel
  have hS : va_S A s.heap s.heap [] := va_S.rf
  have hl := lv_entry ([.ref (ad 0), .int p0]) (n := 3) (Nat.le_of_ble_eq_true rfl)
  rw [lg_entry_eq]
  generalize (lg_sl ([.ref (ad 0), .int p0]) ++ List.replicate (3 - (lg_sl ([.ref (ad 0), .int p0])).length) Slot.unset).toArray = ls at hl ⊢
  have hl : lv_has ls 3 [(0, .ref (ad 0)), (1, .int p0)] := hl
  rw [fX6_load] at hf
  refine lv_aload_n hx hb dX6_load_0 rfl (lv_at hl 0 rfl) ?_
  refine lv_iload_n hx hb dX6_load_1 rfl (lv_at hl 1 rfl) ?_
  refine lv_iconst (v := (1 : Int32)) hx hb dX6_load_2 (by decide) ?_
  obtain ⟨q1, hq1, hf⟩ := ob hf
  refine r_call1 (va_runV (As := [.int p0, .int (1 : Int32)]) (rest := []) ⟨hx, hb, hml, hown, hts⟩ (c_X6_lies hI hA hq1) (cwV 2 hts gX6_load_X6_lies rfl rfl rfl (by decide +kernel) ⟨Nat.le_of_ble_eq_true rfl, Nat.le_of_ble_eq_true rfl⟩) (Pf_V XMb (XMo A) hX hK hP hS obX6 rfl) rfl rfl hl.1 rfl (lv_room (Nat.le_of_ble_eq_true rfl)) dX6_load_3 ⟨Nat.zero_le _, Nat.zero_le _⟩) hS (fun H locs hP hS => ?_)
  refine r_top (g := .int) hf (fun x2 hf => ?_)
  refine lv_istore_n (lv' := [(2, .int x2), (0, .ref (ad 0)), (1, .int p0)]) hx hb dX6_load_6 rfl hl (by decide) rfl (fun ls hl => ?_)
  refine lv_iload_n hx hb dX6_load_7 rfl (lv_at hl 0 rfl) ?_
  refine r_if_ge (tgt := 32) hx hb dX6_load_8 (by decide) hf (fun hf => ?_) (fun hf => ?_)
  · refine lv_iload_n hx hb dX6_load_32 rfl (lv_at hl 0 rfl) ?_
    refine lv_sipush (v := (320 : Int32)) hx hb dX6_load_33 (by decide) ?_
    refine r_jn hf (fun K6 eK6 hf => ?_)
    have JK6 : ∀ (x5 : Int32) (H : Heap) (locs : List Loc) (ls : Array Slot), va_P D vwCl (gw 25 ad (spM ad cI cZ) q1.2) H → va_S A s.heap H locs → lv_has ls 3 [(0, .ref (ad 0)), (1, .int p0), (2, .int x2)] → K6 x5 = some res → W p l e (headSpec wsX6_load { frames := 3, cells := 0, slots := 0, locals := 67 }).room s m (([.ref (ad 0), .int p0] : List Value).toArray) below meth c H locs 0 0 (MQ below (Qf D vwCl 25 ad (spM ad cI cZ) A (some (.int res.1)) res.2) (([.ref (ad 0), .int p0] : List Value).toArray) s 0 0 A) (F0 m 58 ls [.int x5]) := by
      intro x5 H locs ls hP hS hl hf
      rw [eK6] at hf
      obtain rfl := Option.some.inj hf
      exact r_iret hx hb hr hlocks hP hS dX6_load_58
    refine r_icmp_ge (tgt := 48) hx hb dX6_load_36 (by decide) hf (fun hf => ?_) (fun hf => ?_)
    · refine lv_aload_n hx hb dX6_load_48 rfl (lv_at hl 1 rfl) ?_
      refine r_getc (k' := 2) (j := 2) hx hb hts inX6 hown hK hP (obX6) rfl (by decide) (hts (.fieldLink RX6 13 "PageMonitorModel" "frames" "[I") (by decide +kernel)) (fun _ => rfl) dX6_load_49 ?_
      refine lv_iload_n hx hb dX6_load_52 rfl (lv_at hl 0 rfl) ?_
      refine lv_sipush (v := (320 : Int32)) hx hb dX6_load_53 (by decide) ?_
      refine lv_isub hx hb dX6_load_56 ?_
      refine r_ialdk hx hb hK hP 0 ma2 rfl dX6_load_57 hf (fun x7 hf => ?_)
      exact JK6 x7 _ _ _ hP hS (lv_sub hl [1, 2, 0] rfl) hf
    · refine lv_aload_n hx hb dX6_load_39 rfl (lv_at hl 1 rfl) ?_
      refine r_getc (k' := 6) (j := 6) hx hb hts inX6 hown hK hP (obX6) rfl (by decide) (hts (.fieldLink RX6 25 "PageMonitorModel" "contents" "[I") (by decide +kernel)) (fun _ => rfl) dX6_load_40 ?_
      refine lv_iload_n hx hb dX6_load_43 rfl (lv_at hl 0 rfl) ?_
      refine r_ialdk hx hb hK hP 0 ma6 rfl dX6_load_44 hf (fun x8 hf => ?_)
      refine lv_goto (tgt := 58) hx hb dX6_load_45 (by decide) ?_
      exact JK6 x8 _ _ _ hP hS (lv_sub hl [1, 2, 0] rfl) hf
  · refine lv_aload_n hx hb dX6_load_11 rfl (lv_at hl 1 rfl) ?_
    refine lv_aload_n hx hb dX6_load_12 rfl (lv_at hl 1 rfl) ?_
    refine r_getik (j := 24) hx hb hts inX6 hown hK hP (obX6) rfl (by decide) (hts (.fieldLink RX6 237 "PageMonitorModel" "fault" "I") (by decide +kernel)) (fun _ => rfl) dX6_load_13 hf (fun x9 hf => ?_)
    refine r_jn hf (fun K12 eK12 hf => ?_)
    have JK12 : ∀ (x11 : Int32) (H : Heap) (locs : List Loc) (ls : Array Slot), va_P D vwCl (gw 25 ad (spM ad cI cZ) q1.2) H → va_S A s.heap H locs → lv_has ls 3 [(0, .ref (ad 0)), (1, .int p0), (2, .int x2)] → K12 x11 = some res → W p l e (headSpec wsX6_load { frames := 3, cells := 0, slots := 0, locals := 67 }).room s m (([.ref (ad 0), .int p0] : List Value).toArray) below meth c H locs 0 0 (MQ below (Qf D vwCl 25 ad (spM ad cI cZ) A (some (.int res.1)) res.2) (([.ref (ad 0), .int p0] : List Value).toArray) s 0 0 A) (F0 m 27 ls [.int x11, .ref (ad 0)]) := by
      intro x11 H locs ls hP hS hl hf
      rw [eK12] at hf
      refine r_putik (j := 24) hx hb hts inX6 tyX6 tyX6_ok nmX6 hown hI hA hK hP hS (obX6) rfl (by decide) (hts (.fieldLink RX6 237 "PageMonitorModel" "fault" "I") (by decide +kernel)) rfl rfl rfl (fun _ => Nat.le_of_ble_eq_true rfl) (fun _ _ => rfl) dX6_load_27 hf (fun M13 H locs hP hS hf => ?_)
      refine lv_iconst (v := (0 : Int32)) hx hb dX6_load_30 (by decide) ?_
      obtain rfl := Option.some.inj hf
      exact r_iret hx hb hr hlocks hP hS dX6_load_31
    refine r_if_ne (tgt := 23) hx hb dX6_load_16 (by decide) hf (fun hf => ?_) (fun hf => ?_)
    · refine lv_aload_n hx hb dX6_load_23 rfl (lv_at hl 1 rfl) ?_
      refine r_getik (j := 24) hx hb hts inX6 hown hK hP (obX6) rfl (by decide) (hts (.fieldLink RX6 237 "PageMonitorModel" "fault" "I") (by decide +kernel)) (fun _ => rfl) dX6_load_24 hf (fun x14 hf => ?_)
      exact JK12 x14 _ _ _ hP hS (lv_sub hl [1, 2, 0] rfl) hf
    · refine lv_iconst (v := (2 : Int32)) hx hb dX6_load_19 (by decide) ?_
      refine lv_goto (tgt := 27) hx hb dX6_load_20 (by decide) ?_
      exact JK12 (2 : Int32) _ _ _ hP hS (lv_sub hl [1, 2, 0] rfl) hf
set_option maxHeartbeats 4000000 in
set_option maxRecDepth 100000 in
theorem c_X6_store {l : Launch} {D : va_G} {ad : Nat → Nat} {cI cZ cP cR : ClassId} {A : Nat → Prop} {M : Mem} {p0 : Int32} {p1 : Int32} {res : Mem} (hI : gInj 25 ad) (hA : ∀ k, k < 25 → A (ad k)) (hf : fX6_store M p0 p1 = some res) : Met l yX6_store wsX6_store { frames := 3, cells := 0, slots := 0, locals := 67 } (va_Pc [.ref (ad 0), .int p0, .int p1] (Pf D vwCl (tysW cI cZ cP cR) 25 ad (spM ad cI cZ) XM M)) (Qf D vwCl 25 ad (spM ad cI cZ) A none res) 0 0 A := by
  refine Met.ofW (cc := cX6_store) (maxL := 4) (ret := none) (by decide) rfl ?_
  intro p e s m args below meth c s₁ B hml hv
  obtain ⟨rfl, hP, hK, hX⟩ := hv
  have hx := B.exec
  have hb := B.bytes
  have hr := B.returns
  have hts := atoms_spec (ws := wsX6_store) B.pre
  have hown : s.vm.findClass RX6 = some m.cls := findClass_of_methodNamed B.named
  have hlocks := B.notSynchronized
  have inX6 : ∀ w ∈ wsX60, w ∈ wsX6_store := by decide +kernel
  have hS : va_S A s.heap s.heap [] := va_S.rf
  have hl := lv_entry ([.ref (ad 0), .int p0, .int p1]) (n := 4) (Nat.le_of_ble_eq_true rfl)
  rw [lg_entry_eq]
  generalize (lg_sl ([.ref (ad 0), .int p0, .int p1]) ++ List.replicate (4 - (lg_sl ([.ref (ad 0), .int p0, .int p1])).length) Slot.unset).toArray = ls at hl ⊢
  have hl : lv_has ls 4 [(0, .ref (ad 0)), (1, .int p0), (2, .int p1)] := hl
  rw [fX6_store] at hf
  refine lv_aload_n hx hb dX6_store_0 rfl (lv_at hl 0 rfl) ?_
  refine lv_iload_n hx hb dX6_store_1 rfl (lv_at hl 1 rfl) ?_
  refine lv_iconst (v := (2 : Int32)) hx hb dX6_store_2 (by decide) ?_
  obtain ⟨q1, hq1, hf⟩ := ob hf
  refine r_call1 (va_runV (As := [.int p0, .int (2 : Int32)]) (rest := []) ⟨hx, hb, hml, hown, hts⟩ (c_X6_lies hI hA hq1) (cwV 2 hts gX6_store_X6_lies rfl rfl rfl (by decide +kernel) ⟨Nat.le_of_ble_eq_true rfl, Nat.le_of_ble_eq_true rfl⟩) (Pf_V XMb (XMo A) hX hK hP hS obX6 rfl) rfl rfl hl.1 rfl (lv_room (Nat.le_of_ble_eq_true rfl)) dX6_store_3 ⟨Nat.zero_le _, Nat.zero_le _⟩) hS (fun H locs hP hS => ?_)
  refine r_top (g := .int) hf (fun x2 hf => ?_)
  refine lv_istore_n (lv' := [(3, .int x2), (0, .ref (ad 0)), (1, .int p0), (2, .int p1)]) hx hb dX6_store_6 rfl hl (by decide) rfl (fun ls hl => ?_)
  refine lv_iload_n hx hb dX6_store_7 rfl (lv_at hl 0 rfl) ?_
  refine r_jn hf (fun K12 eK12 hf => ?_)
  have JK12 : ∀ (M11 : Mem) (H : Heap) (locs : List Loc) (ls : Array Slot), va_P D vwCl (gw 25 ad (spM ad cI cZ) M11) H → va_S A s.heap H locs → lv_has ls 4 [(0, .ref (ad 0)), (1, .int p0), (2, .int p1), (3, .int x2)] → K12 M11 = some res → W p l e (headSpec wsX6_store { frames := 3, cells := 0, slots := 0, locals := 67 }).room s m (([.ref (ad 0), .int p0, .int p1] : List Value).toArray) below meth c H locs 0 0 (MQ below (Qf D vwCl 25 ad (spM ad cI cZ) A none res) (([.ref (ad 0), .int p0, .int p1] : List Value).toArray) s 0 0 A) (F0 m 61 ls []) := by
    intro M11 H locs ls hP hS hl hf
    rw [eK12] at hf
    obtain rfl := Option.some.inj hf
    exact r_vret hx hb hr hlocks hP hS dX6_store_61
  refine r_if_ge (tgt := 33) hx hb dX6_store_8 (by decide) hf (fun hf => ?_) (fun hf => ?_)
  · refine lv_iload_n hx hb dX6_store_33 rfl (lv_at hl 0 rfl) ?_
    refine lv_sipush (v := (320 : Int32)) hx hb dX6_store_34 (by decide) ?_
    refine r_icmp_ge (tgt := 50) hx hb dX6_store_37 (by decide) hf (fun hf => ?_) (fun hf => ?_)
    · refine lv_aload_n hx hb dX6_store_50 rfl (lv_at hl 1 rfl) ?_
      refine r_getc (k' := 2) (j := 2) hx hb hts inX6 hown hK hP (obX6) rfl (by decide) (hts (.fieldLink RX6 13 "PageMonitorModel" "frames" "[I") (by decide +kernel)) (fun _ => rfl) dX6_store_51 ?_
      refine lv_iload_n hx hb dX6_store_54 rfl (lv_at hl 0 rfl) ?_
      refine lv_sipush (v := (320 : Int32)) hx hb dX6_store_55 (by decide) ?_
      refine lv_isub hx hb dX6_store_58 ?_
      refine lv_iload_n hx hb dX6_store_59 rfl (lv_at hl 3 rfl) ?_
      refine r_iastk hx hb hI hA hK hP hS 0 ma2 rfl dX6_store_60 hf (fun M13 H locs hP hS hf => ?_)
      exact JK12 M13 _ _ _ hP hS (lv_sub hl [1, 2, 3, 0] rfl) hf
    · refine lv_aload_n hx hb dX6_store_40 rfl (lv_at hl 1 rfl) ?_
      refine r_getc (k' := 6) (j := 6) hx hb hts inX6 hown hK hP (obX6) rfl (by decide) (hts (.fieldLink RX6 25 "PageMonitorModel" "contents" "[I") (by decide +kernel)) (fun _ => rfl) dX6_store_41 ?_
      refine lv_iload_n hx hb dX6_store_44 rfl (lv_at hl 0 rfl) ?_
      refine lv_iload_n hx hb dX6_store_45 rfl (lv_at hl 3 rfl) ?_
      refine r_iastk hx hb hI hA hK hP hS 0 ma6 rfl dX6_store_46 hf (fun M14 H locs hP hS hf => ?_)
      refine lv_goto (tgt := 61) hx hb dX6_store_47 (by decide) ?_
      exact JK12 M14 _ _ _ hP hS (lv_sub hl [1, 2, 3, 0] rfl) hf
  · refine lv_aload_n hx hb dX6_store_11 rfl (lv_at hl 1 rfl) ?_
    refine lv_aload_n hx hb dX6_store_12 rfl (lv_at hl 1 rfl) ?_
    refine r_getik (j := 24) hx hb hts inX6 hown hK hP (obX6) rfl (by decide) (hts (.fieldLink RX6 237 "PageMonitorModel" "fault" "I") (by decide +kernel)) (fun _ => rfl) dX6_store_13 hf (fun x15 hf => ?_)
    refine r_jn hf (fun K18 eK18 hf => ?_)
    have JK18 : ∀ (x17 : Int32) (H : Heap) (locs : List Loc) (ls : Array Slot), va_P D vwCl (gw 25 ad (spM ad cI cZ) q1.2) H → va_S A s.heap H locs → lv_has ls 4 [(0, .ref (ad 0)), (1, .int p0), (2, .int p1), (3, .int x2)] → K18 x17 = some res → W p l e (headSpec wsX6_store { frames := 3, cells := 0, slots := 0, locals := 67 }).room s m (([.ref (ad 0), .int p0, .int p1] : List Value).toArray) below meth c H locs 0 0 (MQ below (Qf D vwCl 25 ad (spM ad cI cZ) A none res) (([.ref (ad 0), .int p0, .int p1] : List Value).toArray) s 0 0 A) (F0 m 27 ls [.int x17, .ref (ad 0)]) := by
      intro x17 H locs ls hP hS hl hf
      rw [eK18] at hf
      refine r_putik (j := 24) hx hb hts inX6 tyX6 tyX6_ok nmX6 hown hI hA hK hP hS (obX6) rfl (by decide) (hts (.fieldLink RX6 237 "PageMonitorModel" "fault" "I") (by decide +kernel)) rfl rfl rfl (fun _ => Nat.le_of_ble_eq_true rfl) (fun _ _ => rfl) dX6_store_27 hf (fun M19 H locs hP hS hf => ?_)
      refine lv_goto (tgt := 61) hx hb dX6_store_30 (by decide) ?_
      exact JK12 M19 _ _ _ hP hS (lv_sub hl [0, 1, 2, 3] rfl) hf
    refine r_if_ne (tgt := 23) hx hb dX6_store_16 (by decide) hf (fun hf => ?_) (fun hf => ?_)
    · refine lv_aload_n hx hb dX6_store_23 rfl (lv_at hl 1 rfl) ?_
      refine r_getik (j := 24) hx hb hts inX6 hown hK hP (obX6) rfl (by decide) (hts (.fieldLink RX6 237 "PageMonitorModel" "fault" "I") (by decide +kernel)) (fun _ => rfl) dX6_store_24 hf (fun x20 hf => ?_)
      exact JK18 x20 _ _ _ hP hS (lv_sub hl [1, 2, 3, 0] rfl) hf
    · refine lv_iconst (v := (3 : Int32)) hx hb dX6_store_19 (by decide) ?_
      refine lv_goto (tgt := 27) hx hb dX6_store_20 (by decide) ?_
      exact JK18 (3 : Int32) _ _ _ hP hS (lv_sub hl [1, 2, 3, 0] rfl) hf
set_option maxHeartbeats 4000000 in
set_option maxRecDepth 100000 in
theorem c_X6_vouch {l : Launch} {D : va_G} {ad : Nat → Nat} {cI cZ cP cR : ClassId} {A : Nat → Prop} {M : Mem} {p0 : Int32} {p1 : Int32} {res : Mem} (hI : gInj 25 ad) (hA : ∀ k, k < 25 → A (ad k)) (hf : fX6_vouch M p0 p1 = some res) : Met l yX6_vouch wsX6_vouch { frames := 4, cells := 0, slots := 0, locals := 93 } (va_Pc [.ref (ad 0), .int p0, .int p1] (Pf D vwCl (tysW cI cZ cP cR) 25 ad (spM ad cI cZ) XM M)) (Qf D vwCl 25 ad (spM ad cI cZ) A none res) 0 0 A := by
  refine Met.ofW (cc := cX6_vouch) (maxL := 4) (ret := none) (by decide) rfl ?_
  intro p e s m args below meth c s₁ B hml hv
  obtain ⟨rfl, hP, hK, hX⟩ := hv
  have hx := B.exec
  have hb := B.bytes
  have hr := B.returns
  have hts := atoms_spec (ws := wsX6_vouch) B.pre
  have hown : s.vm.findClass RX6 = some m.cls := findClass_of_methodNamed B.named
  have hlocks := B.notSynchronized
  have inX6 : ∀ w ∈ wsX60, w ∈ wsX6_vouch := by decide +kernel
  have hS : va_S A s.heap s.heap [] := va_S.rf
  have hl := lv_entry ([.ref (ad 0), .int p0, .int p1]) (n := 4) (Nat.le_of_ble_eq_true rfl)
  rw [lg_entry_eq]
  generalize (lg_sl ([.ref (ad 0), .int p0, .int p1]) ++ List.replicate (4 - (lg_sl ([.ref (ad 0), .int p0, .int p1])).length) Slot.unset).toArray = ls at hl ⊢
  have hl : lv_has ls 4 [(0, .ref (ad 0)), (1, .int p0), (2, .int p1)] := hl
  rw [fX6_vouch] at hf
  refine lv_iconst (v := (0 : Int32)) hx hb dX6_vouch_0 (by decide) ?_
  refine lv_istore_n (lv' := [(3, .int (0 : Int32)), (0, .ref (ad 0)), (1, .int p0), (2, .int p1)]) hx hb dX6_vouch_1 rfl hl (by decide) rfl (fun ls hl => ?_)
  refine r_jn hf (fun F3 eF3 hf => ?_)
  have EF3 : ∀ (x4 : Int32) (M5 : Mem) (H : Heap) (locs : List Loc) (ls : Array Slot), va_P D vwCl (gw 25 ad (spM ad cI cZ) M5) H → va_S A s.heap H locs → lv_has ls 4 [(0, .ref (ad 0)), (1, .int p0), (2, .int p1), (3, .int x4)] → F3 x4 M5 = some res → W p l e (headSpec wsX6_vouch { frames := 4, cells := 0, slots := 0, locals := 93 }).room s m (([.ref (ad 0), .int p0, .int p1] : List Value).toArray) below meth c H locs 0 0 (MQ below (Qf D vwCl 25 ad (spM ad cI cZ) A none res) (([.ref (ad 0), .int p0, .int p1] : List Value).toArray) s 0 0 A) (F0 m 30 ls []) := by
    intro x4 M5 H locs ls hP hS hl hf
    rw [eF3] at hf
    refine lv_iconst (v := (0 : Int32)) hx hb dX6_vouch_30 (by decide) ?_
    refine lv_istore_n (lv' := [(3, .int (0 : Int32)), (0, .ref (ad 0)), (1, .int p0), (2, .int p1)]) hx hb dX6_vouch_31 rfl hl (by decide) rfl (fun ls hl => ?_)
    refine r_jn hf (fun F8 eF8 hf => ?_)
    have EF8 : ∀ (x9 : Int32) (M10 : Mem) (H : Heap) (locs : List Loc) (ls : Array Slot), va_P D vwCl (gw 25 ad (spM ad cI cZ) M10) H → va_S A s.heap H locs → lv_has ls 4 [(0, .ref (ad 0)), (1, .int p0), (2, .int p1), (3, .int x9)] → F8 x9 M10 = some res → W p l e (headSpec wsX6_vouch { frames := 4, cells := 0, slots := 0, locals := 93 }).room s m (([.ref (ad 0), .int p0, .int p1] : List Value).toArray) below meth c H locs 0 0 (MQ below (Qf D vwCl 25 ad (spM ad cI cZ) A none res) (([.ref (ad 0), .int p0, .int p1] : List Value).toArray) s 0 0 A) (F0 m 67 ls []) := by
      intro x9 M10 H locs ls hP hS hl hf
      rw [eF8] at hf
      refine lv_aload_n hx hb dX6_vouch_67 rfl (lv_at hl 0 rfl) ?_
      refine lv_aload_n hx hb dX6_vouch_68 rfl (lv_at hl 0 rfl) ?_
      refine r_getc (k' := 12) (j := 12) hx hb hts inX6 hown hK hP (obX6) rfl (by decide) (hts (.fieldLink RX6 43 "PageMonitorModel" "measures" "[I") (by decide +kernel)) (fun _ => rfl) dX6_vouch_69 ?_
      refine lv_bipush (v := (8 : Int32)) hx hb dX6_vouch_72 (by decide) ?_
      refine lv_aload_n hx hb dX6_vouch_74 rfl (lv_at hl 0 rfl) ?_
      refine r_getik (j := 21) hx hb hts inX6 hown hK hP (obX6) rfl (by decide) (hts (.fieldLink RX6 231 "PageMonitorModel" "own" "I") (by decide +kernel)) (fun _ => rfl) dX6_vouch_75 hf (fun x11 hf => ?_)
      refine lv_imul hx hb dX6_vouch_78 ?_
      obtain ⟨q12, hq12, hf⟩ := ob hf
      refine r_callv (va_runV (As := [.ref (ad 12), .int ((8 : Int32) * x11)]) (rest := []) ⟨hx, hb, hml, hown, hts⟩ (c_X6_voucher hI hA hq12) (cwV 2 hts gX6_vouch_X6_voucher rfl rfl rfl (by decide +kernel) ⟨Nat.le_of_ble_eq_true rfl, Nat.le_of_ble_eq_true rfl⟩) (Pf_V XMb (XMo A) hX hK hP hS obX6 rfl) rfl rfl hl.1 rfl (lv_room (Nat.le_of_ble_eq_true rfl)) dX6_vouch_79 ⟨Nat.zero_le _, Nat.zero_le _⟩) hS (fun H locs hP hS => ?_)
      refine lv_iconst (v := (0 : Int32)) hx hb dX6_vouch_82 (by decide) ?_
      refine lv_istore_n (lv' := [(3, .int (0 : Int32)), (0, .ref (ad 0)), (1, .int p0), (2, .int p1)]) hx hb dX6_vouch_83 rfl hl (by decide) rfl (fun ls hl => ?_)
      refine r_jn hf (fun F15 eF15 hf => ?_)
      have EF15 : ∀ (x16 : Int32) (M17 : Mem) (H : Heap) (locs : List Loc) (ls : Array Slot), va_P D vwCl (gw 25 ad (spM ad cI cZ) M17) H → va_S A s.heap H locs → lv_has ls 4 [(0, .ref (ad 0)), (1, .int p0), (2, .int p1), (3, .int x16)] → F15 x16 M17 = some res → W p l e (headSpec wsX6_vouch { frames := 4, cells := 0, slots := 0, locals := 93 }).room s m (([.ref (ad 0), .int p0, .int p1] : List Value).toArray) below meth c H locs 0 0 (MQ below (Qf D vwCl 25 ad (spM ad cI cZ) A none res) (([.ref (ad 0), .int p0, .int p1] : List Value).toArray) s 0 0 A) (F0 m 116 ls []) := by
        intro x16 M17 H locs ls hP hS hl hf
        rw [eF15] at hf
        obtain rfl := Option.some.inj hf
        exact r_vret hx hb hr hlocks hP hS dX6_vouch_116
      have LF15 : ∀ (n : Nat) (x13 : Int32) (M14 : Mem) (H : Heap) (locs : List Loc) (ls : Array Slot), va_P D vwCl (gw 25 ad (spM ad cI cZ) M14) H → va_S A s.heap H locs → lv_has ls 4 [(0, .ref (ad 0)), (1, .int p0), (2, .int p1), (3, .int x13)] → lp_X6_vouch_84 p1 F15 n x13 M14 = some res → W p l e (headSpec wsX6_vouch { frames := 4, cells := 0, slots := 0, locals := 93 }).room s m (([.ref (ad 0), .int p0, .int p1] : List Value).toArray) below meth c H locs 0 0 (MQ below (Qf D vwCl 25 ad (spM ad cI cZ) A none res) (([.ref (ad 0), .int p0, .int p1] : List Value).toArray) s 0 0 A) (F0 m 84 ls []) := by
        intro n
        induction n with
        | zero =>
          intro x13 M14 H locs ls hP hS hl hf
          exact absurd hf (fun h => nomatch h)
        | succ n ih =>
          intro x13 M14 H locs ls hP hS hl hf
          rw [lp_X6_vouch_84_s] at hf
          refine lv_iload_n hx hb dX6_vouch_84 rfl (lv_at hl 3 rfl) ?_
          refine lv_bipush (v := (8 : Int32)) hx hb dX6_vouch_85 (by decide) ?_
          refine r_icmp_ge (tgt := 116) hx hb dX6_vouch_87 (by decide) hf (fun hf => ?_) (fun hf => ?_)
          · exact EF15 x13 M14 _ _ _ hP hS (lv_sub hl [0, 1, 2, 3] rfl) hf
          · refine lv_aload_n hx hb dX6_vouch_90 rfl (lv_at hl 0 rfl) ?_
            refine r_getik (j := 24) hx hb hts inX6 hown hK hP (obX6) rfl (by decide) (hts (.fieldLink RX6 237 "PageMonitorModel" "fault" "I") (by decide +kernel)) (fun _ => rfl) dX6_vouch_91 hf (fun x18 hf => ?_)
            refine r_if_ne (tgt := 116) hx hb dX6_vouch_94 (by decide) hf (fun hf => ?_) (fun hf => ?_)
            · exact EF15 x13 M14 _ _ _ hP hS (lv_sub hl [0, 1, 2, 3] rfl) hf
            · refine lv_aload_n hx hb dX6_vouch_97 rfl (lv_at hl 0 rfl) ?_
              refine lv_iload_n hx hb dX6_vouch_98 rfl (lv_at hl 2 rfl) ?_
              refine lv_iload_n hx hb dX6_vouch_99 rfl (lv_at hl 3 rfl) ?_
              refine lv_iadd hx hb dX6_vouch_100 ?_
              refine lv_aload_n hx hb dX6_vouch_101 rfl (lv_at hl 0 rfl) ?_
              refine r_getc (k' := 22) (j := 29) hx hb hts inX6 hown hK hP (obX6) rfl (by decide) (hts (.fieldLink RX6 146 "PageMonitorModel" "digest" "[I") (by decide +kernel)) (fun _ => rfl) dX6_vouch_102 ?_
              refine lv_iload_n hx hb dX6_vouch_105 rfl (lv_at hl 3 rfl) ?_
              refine r_ialdk hx hb hK hP 0 ma22 rfl dX6_vouch_106 hf (fun x19 hf => ?_)
              obtain ⟨q20, hq20, hf⟩ := ob hf
              refine r_callv (va_runV (As := [.int (p1 + x13), .int x19]) (rest := []) ⟨hx, hb, hml, hown, hts⟩ (c_X6_store hI hA hq20) (cwV 2 hts gX6_vouch_X6_store rfl rfl rfl (by decide +kernel) ⟨Nat.le_of_ble_eq_true rfl, Nat.le_of_ble_eq_true rfl⟩) (Pf_V XMb (XMo A) hX hK hP hS obX6 rfl) rfl rfl hl.1 rfl (lv_room (Nat.le_of_ble_eq_true rfl)) dX6_vouch_107 ⟨Nat.zero_le _, Nat.zero_le _⟩) hS (fun H locs hP hS => ?_)
              refine lv_iinc (v := x13 + (1 : Int32)) (lv' := [(3, .int (x13 + (1 : Int32))), (0, .ref (ad 0)), (1, .int p0), (2, .int p1)]) hx hb dX6_vouch_110 hl (k := 3) rfl rfl (by decide) rfl (fun ls hl => ?_)
              refine lv_goto (tgt := 84) hx hb dX6_vouch_113 (by decide) ?_
              exact ih (x13 + (1 : Int32)) q20 _ _ _ hP hS (lv_sub hl [1, 2, 3, 0] rfl) hf
      exact LF15 FU (0 : Int32) q12 _ _ _ hP hS (lv_sub hl [1, 2, 3, 0] rfl) hf
    have LF8 : ∀ (n : Nat) (x6 : Int32) (M7 : Mem) (H : Heap) (locs : List Loc) (ls : Array Slot), va_P D vwCl (gw 25 ad (spM ad cI cZ) M7) H → va_S A s.heap H locs → lv_has ls 4 [(0, .ref (ad 0)), (1, .int p0), (2, .int p1), (3, .int x6)] → lp_X6_vouch_32 p1 F8 n x6 M7 = some res → W p l e (headSpec wsX6_vouch { frames := 4, cells := 0, slots := 0, locals := 93 }).room s m (([.ref (ad 0), .int p0, .int p1] : List Value).toArray) below meth c H locs 0 0 (MQ below (Qf D vwCl 25 ad (spM ad cI cZ) A none res) (([.ref (ad 0), .int p0, .int p1] : List Value).toArray) s 0 0 A) (F0 m 32 ls []) := by
      intro n
      induction n with
      | zero =>
        intro x6 M7 H locs ls hP hS hl hf
        exact absurd hf (fun h => nomatch h)
      | succ n ih =>
        intro x6 M7 H locs ls hP hS hl hf
        rw [lp_X6_vouch_32_s] at hf
        refine lv_iload_n hx hb dX6_vouch_32 rfl (lv_at hl 3 rfl) ?_
        refine lv_bipush (v := (8 : Int32)) hx hb dX6_vouch_33 (by decide) ?_
        refine r_icmp_ge (tgt := 67) hx hb dX6_vouch_35 (by decide) hf (fun hf => ?_) (fun hf => ?_)
        · exact EF8 x6 M7 _ _ _ hP hS (lv_sub hl [0, 1, 2, 3] rfl) hf
        · refine lv_aload_n hx hb dX6_vouch_38 rfl (lv_at hl 0 rfl) ?_
          refine r_getik (j := 24) hx hb hts inX6 hown hK hP (obX6) rfl (by decide) (hts (.fieldLink RX6 237 "PageMonitorModel" "fault" "I") (by decide +kernel)) (fun _ => rfl) dX6_vouch_39 hf (fun x21 hf => ?_)
          refine r_jn hf (fun K25 eK25 hf => ?_)
          have JK25 : ∀ (M24 : Mem) (H : Heap) (locs : List Loc) (ls : Array Slot), va_P D vwCl (gw 25 ad (spM ad cI cZ) M24) H → va_S A s.heap H locs → lv_has ls 4 [(0, .ref (ad 0)), (1, .int p0), (2, .int p1), (3, .int x6)] → K25 M24 = some res → W p l e (headSpec wsX6_vouch { frames := 4, cells := 0, slots := 0, locals := 93 }).room s m (([.ref (ad 0), .int p0, .int p1] : List Value).toArray) below meth c H locs 0 0 (MQ below (Qf D vwCl 25 ad (spM ad cI cZ) A none res) (([.ref (ad 0), .int p0, .int p1] : List Value).toArray) s 0 0 A) (F0 m 61 ls []) := by
            intro M24 H locs ls hP hS hl hf
            rw [eK25] at hf
            refine lv_iinc (v := x6 + (1 : Int32)) (lv' := [(3, .int (x6 + (1 : Int32))), (0, .ref (ad 0)), (1, .int p0), (2, .int p1)]) hx hb dX6_vouch_61 hl (k := 3) rfl rfl (by decide) rfl (fun ls hl => ?_)
            refine lv_goto (tgt := 32) hx hb dX6_vouch_64 (by decide) ?_
            exact ih (x6 + (1 : Int32)) M24 _ _ _ hP hS (lv_sub hl [1, 2, 3, 0] rfl) hf
          refine r_if_ne (tgt := 61) hx hb dX6_vouch_42 (by decide) hf (fun hf => ?_) (fun hf => ?_)
          · exact JK25 M7 _ _ _ hP hS (lv_sub hl [0, 1, 2, 3] rfl) hf
          · refine lv_aload_n hx hb dX6_vouch_45 rfl (lv_at hl 0 rfl) ?_
            refine lv_iload_n hx hb dX6_vouch_46 rfl (lv_at hl 2 rfl) ?_
            refine lv_iload_n hx hb dX6_vouch_47 rfl (lv_at hl 3 rfl) ?_
            refine lv_iadd hx hb dX6_vouch_48 ?_
            refine lv_iconst (v := (2 : Int32)) hx hb dX6_vouch_49 (by decide) ?_
            obtain ⟨q26, hq26, hf⟩ := ob hf
            refine r_call1 (va_runV (As := [.int (p1 + x6), .int (2 : Int32)]) (rest := []) ⟨hx, hb, hml, hown, hts⟩ (c_X6_lies hI hA hq26) (cwV 2 hts gX6_vouch_X6_lies rfl rfl rfl (by decide +kernel) ⟨Nat.le_of_ble_eq_true rfl, Nat.le_of_ble_eq_true rfl⟩) (Pf_V XMb (XMo A) hX hK hP hS obX6 rfl) rfl rfl hl.1 rfl (lv_room (Nat.le_of_ble_eq_true rfl)) dX6_vouch_50 ⟨Nat.zero_le _, Nat.zero_le _⟩) hS (fun H locs hP hS => ?_)
            refine r_if_ge (tgt := 61) hx hb dX6_vouch_53 (by decide) hf (fun hf => ?_) (fun hf => ?_)
            · exact JK25 q26.2 _ _ _ hP hS (lv_sub hl [0, 1, 2, 3] rfl) hf
            · refine lv_aload_n hx hb dX6_vouch_56 rfl (lv_at hl 0 rfl) ?_
              refine lv_iconst (v := (3 : Int32)) hx hb dX6_vouch_57 (by decide) ?_
              refine r_putik (j := 24) hx hb hts inX6 tyX6 tyX6_ok nmX6 hown hI hA hK hP hS (obX6) rfl (by decide) (hts (.fieldLink RX6 237 "PageMonitorModel" "fault" "I") (by decide +kernel)) rfl rfl rfl (fun _ => Nat.le_of_ble_eq_true rfl) (fun _ _ => rfl) dX6_vouch_58 hf (fun M27 H locs hP hS hf => ?_)
              exact JK25 M27 _ _ _ hP hS (lv_sub hl [0, 1, 2, 3] rfl) hf
    exact LF8 FU (0 : Int32) M5 _ _ _ hP hS (lv_sub hl [1, 2, 3, 0] rfl) hf
  have LF3 : ∀ (n : Nat) (x1 : Int32) (M2 : Mem) (H : Heap) (locs : List Loc) (ls : Array Slot), va_P D vwCl (gw 25 ad (spM ad cI cZ) M2) H → va_S A s.heap H locs → lv_has ls 4 [(0, .ref (ad 0)), (1, .int p0), (2, .int p1), (3, .int x1)] → lp_X6_vouch_2 p0 F3 n x1 M2 = some res → W p l e (headSpec wsX6_vouch { frames := 4, cells := 0, slots := 0, locals := 93 }).room s m (([.ref (ad 0), .int p0, .int p1] : List Value).toArray) below meth c H locs 0 0 (MQ below (Qf D vwCl 25 ad (spM ad cI cZ) A none res) (([.ref (ad 0), .int p0, .int p1] : List Value).toArray) s 0 0 A) (F0 m 2 ls []) := by
    intro n
    induction n with
    | zero =>
      intro x1 M2 H locs ls hP hS hl hf
      exact absurd hf (fun h => nomatch h)
    | succ n ih =>
      intro x1 M2 H locs ls hP hS hl hf
      rw [lp_X6_vouch_2_s] at hf
      refine lv_iload_n hx hb dX6_vouch_2 rfl (lv_at hl 3 rfl) ?_
      refine lv_bipush (v := (8 : Int32)) hx hb dX6_vouch_3 (by decide) ?_
      refine r_icmp_ge (tgt := 30) hx hb dX6_vouch_5 (by decide) hf (fun hf => ?_) (fun hf => ?_)
      · exact EF3 x1 M2 _ _ _ hP hS (lv_sub hl [0, 1, 2, 3] rfl) hf
      · refine lv_aload_n hx hb dX6_vouch_8 rfl (lv_at hl 0 rfl) ?_
        refine r_getc (k' := 20) (j := 27) hx hb hts inX6 hown hK hP (obX6) rfl (by decide) (hts (.fieldLink RX6 140 "PageMonitorModel" "message" "[I") (by decide +kernel)) (fun _ => rfl) dX6_vouch_9 ?_
        refine lv_bipush (v := (16 : Int32)) hx hb dX6_vouch_12 (by decide) ?_
        refine lv_iload_n hx hb dX6_vouch_14 rfl (lv_at hl 3 rfl) ?_
        refine lv_iadd hx hb dX6_vouch_15 ?_
        refine lv_aload_n hx hb dX6_vouch_16 rfl (lv_at hl 0 rfl) ?_
        refine lv_iload_n hx hb dX6_vouch_17 rfl (lv_at hl 1 rfl) ?_
        refine lv_iload_n hx hb dX6_vouch_18 rfl (lv_at hl 3 rfl) ?_
        refine lv_iadd hx hb dX6_vouch_19 ?_
        obtain ⟨q28, hq28, hf⟩ := ob hf
        refine r_call1 (va_runV (As := [.int (p0 + x1)]) (rest := [.int ((16 : Int32) + x1), .ref (ad 20)]) ⟨hx, hb, hml, hown, hts⟩ (c_X6_load hI hA hq28) (cwV 1 hts gX6_vouch_X6_load rfl rfl rfl (by decide +kernel) ⟨Nat.le_of_ble_eq_true rfl, Nat.le_of_ble_eq_true rfl⟩) (Pf_V XMb (XMo A) hX hK hP hS obX6 rfl) rfl rfl hl.1 rfl (lv_room (Nat.le_of_ble_eq_true rfl)) dX6_vouch_20 ⟨Nat.zero_le _, Nat.zero_le _⟩) hS (fun H locs hP hS => ?_)
        refine r_iastk hx hb hI hA hK hP hS 0 ma20 rfl dX6_vouch_23 hf (fun M29 H locs hP hS hf => ?_)
        refine lv_iinc (v := x1 + (1 : Int32)) (lv' := [(3, .int (x1 + (1 : Int32))), (0, .ref (ad 0)), (1, .int p0), (2, .int p1)]) hx hb dX6_vouch_24 hl (k := 3) rfl rfl (by decide) rfl (fun ls hl => ?_)
        refine lv_goto (tgt := 2) hx hb dX6_vouch_27 (by decide) ?_
        exact ih (x1 + (1 : Int32)) M29 _ _ _ hP hS (lv_sub hl [1, 2, 3, 0] rfl) hf
  exact LF3 FU (0 : Int32) M _ _ _ hP hS (lv_sub hl [1, 2, 3, 0] rfl) hf
set_option maxHeartbeats 4000000 in
set_option maxRecDepth 100000 in
theorem c_X6_verified {l : Launch} {D : va_G} {ad : Nat → Nat} {cI cZ cP cR : ClassId} {A : Nat → Prop} {M : Mem} {p0 : Int32} {res : (Int32 × Mem)} (hI : gInj 25 ad) (hA : ∀ k, k < 25 → A (ad k)) (hf : fX6_verified M p0 = some res) : Met l yX6_verified wsX6_verified { frames := 4, cells := 0, slots := 0, locals := 93 } (va_Pc [.ref (ad 0), .int p0] (Pf D vwCl (tysW cI cZ cP cR) 25 ad (spM ad cI cZ) XM M)) (Qf D vwCl 25 ad (spM ad cI cZ) A (some (.int res.1)) res.2) 0 0 A := by
  refine Met.ofW (cc := cX6_verified) (maxL := 4) (ret := (some .int)) (by decide) rfl ?_
  intro p e s m args below meth c s₁ B hml hv
  obtain ⟨rfl, hP, hK, hX⟩ := hv
  have hx := B.exec
  have hb := B.bytes
  have hr := B.returns
  have hts := atoms_spec (ws := wsX6_verified) B.pre
  have hown : s.vm.findClass RX6 = some m.cls := findClass_of_methodNamed B.named
  have hlocks := B.notSynchronized
  have inX6 : ∀ w ∈ wsX60, w ∈ wsX6_verified := by decide +kernel
  have hS : va_S A s.heap s.heap [] := va_S.rf
  have hl := lv_entry ([.ref (ad 0), .int p0]) (n := 4) (Nat.le_of_ble_eq_true rfl)
  rw [lg_entry_eq]
  generalize (lg_sl ([.ref (ad 0), .int p0]) ++ List.replicate (4 - (lg_sl ([.ref (ad 0), .int p0])).length) Slot.unset).toArray = ls at hl ⊢
  have hl : lv_has ls 4 [(0, .ref (ad 0)), (1, .int p0)] := hl
  rw [fX6_verified] at hf
  refine lv_iconst (v := (0 : Int32)) hx hb dX6_verified_0 (by decide) ?_
  refine lv_istore_n (lv' := [(2, .int (0 : Int32)), (0, .ref (ad 0)), (1, .int p0)]) hx hb dX6_verified_1 rfl hl (by decide) rfl (fun ls hl => ?_)
  refine r_jn hf (fun F3 eF3 hf => ?_)
  have EF3 : ∀ (x4 : Int32) (M5 : Mem) (H : Heap) (locs : List Loc) (ls : Array Slot), va_P D vwCl (gw 25 ad (spM ad cI cZ) M5) H → va_S A s.heap H locs → lv_has ls 4 [(0, .ref (ad 0)), (1, .int p0), (2, .int x4)] → F3 x4 M5 = some res → W p l e (headSpec wsX6_verified { frames := 4, cells := 0, slots := 0, locals := 93 }).room s m (([.ref (ad 0), .int p0] : List Value).toArray) below meth c H locs 0 0 (MQ below (Qf D vwCl 25 ad (spM ad cI cZ) A (some (.int res.1)) res.2) (([.ref (ad 0), .int p0] : List Value).toArray) s 0 0 A) (F0 m 27 ls []) := by
    intro x4 M5 H locs ls hP hS hl hf
    rw [eF3] at hf
    refine lv_iconst (v := (0 : Int32)) hx hb dX6_verified_27 (by decide) ?_
    refine lv_istore_n (lv' := [(2, .int (0 : Int32)), (0, .ref (ad 0)), (1, .int p0)]) hx hb dX6_verified_28 rfl hl (by decide) rfl (fun ls hl => ?_)
    refine r_jn hf (fun F8 eF8 hf => ?_)
    have EF8 : ∀ (x9 : Int32) (M10 : Mem) (H : Heap) (locs : List Loc) (ls : Array Slot), va_P D vwCl (gw 25 ad (spM ad cI cZ) M10) H → va_S A s.heap H locs → lv_has ls 4 [(0, .ref (ad 0)), (1, .int p0), (2, .int x9)] → F8 x9 M10 = some res → W p l e (headSpec wsX6_verified { frames := 4, cells := 0, slots := 0, locals := 93 }).room s m (([.ref (ad 0), .int p0] : List Value).toArray) below meth c H locs 0 0 (MQ below (Qf D vwCl 25 ad (spM ad cI cZ) A (some (.int res.1)) res.2) (([.ref (ad 0), .int p0] : List Value).toArray) s 0 0 A) (F0 m 59 ls []) := by
      intro x9 M10 H locs ls hP hS hl hf
      rw [eF8] at hf
      refine lv_aload_n hx hb dX6_verified_59 rfl (lv_at hl 0 rfl) ?_
      refine lv_aload_n hx hb dX6_verified_60 rfl (lv_at hl 0 rfl) ?_
      refine r_getc (k' := 24) (j := 31) hx hb hts inX6 hown hK hP (obX6) rfl (by decide) (hts (.fieldLink RX6 152 "PageMonitorModel" "told" "[I") (by decide +kernel)) (fun _ => rfl) dX6_verified_61 ?_
      refine lv_iconst (v := (0 : Int32)) hx hb dX6_verified_64 (by decide) ?_
      obtain ⟨q11, hq11, hf⟩ := ob hf
      refine r_callv (va_runV (As := [.ref (ad 24), .int (0 : Int32)]) (rest := []) ⟨hx, hb, hml, hown, hts⟩ (c_X6_voucher hI hA hq11) (cwV 2 hts gX6_verified_X6_voucher rfl rfl rfl (by decide +kernel) ⟨Nat.le_of_ble_eq_true rfl, Nat.le_of_ble_eq_true rfl⟩) (Pf_V XMb (XMo A) hX hK hP hS obX6 rfl) rfl rfl hl.1 rfl (lv_room (Nat.le_of_ble_eq_true rfl)) dX6_verified_65 ⟨Nat.zero_le _, Nat.zero_le _⟩) hS (fun H locs hP hS => ?_)
      refine lv_iconst (v := (1 : Int32)) hx hb dX6_verified_68 (by decide) ?_
      refine lv_istore_n (lv' := [(2, .int (1 : Int32)), (0, .ref (ad 0)), (1, .int p0)]) hx hb dX6_verified_69 rfl hl (by decide) rfl (fun ls hl => ?_)
      refine lv_iconst (v := (0 : Int32)) hx hb dX6_verified_70 (by decide) ?_
      refine lv_istore_n (lv' := [(3, .int (0 : Int32)), (2, .int (1 : Int32)), (0, .ref (ad 0)), (1, .int p0)]) hx hb dX6_verified_71 rfl hl (by decide) rfl (fun ls hl => ?_)
      refine r_jn hf (fun F15 eF15 hf => ?_)
      have EF15 : ∀ (x16 : Int32) (x17 : Int32) (M18 : Mem) (H : Heap) (locs : List Loc) (ls : Array Slot), va_P D vwCl (gw 25 ad (spM ad cI cZ) M18) H → va_S A s.heap H locs → lv_has ls 4 [(0, .ref (ad 0)), (1, .int p0), (2, .int x16), (3, .int x17)] → F15 x16 x17 M18 = some res → W p l e (headSpec wsX6_verified { frames := 4, cells := 0, slots := 0, locals := 93 }).room s m (([.ref (ad 0), .int p0] : List Value).toArray) below meth c H locs 0 0 (MQ below (Qf D vwCl 25 ad (spM ad cI cZ) A (some (.int res.1)) res.2) (([.ref (ad 0), .int p0] : List Value).toArray) s 0 0 A) (F0 m 112 ls []) := by
        intro x16 x17 M18 H locs ls hP hS hl hf
        rw [eF15] at hf
        refine lv_iload_n hx hb dX6_verified_112 rfl (lv_at hl 2 rfl) ?_
        refine r_jn hf (fun K20 eK20 hf => ?_)
        have JK20 : ∀ (x19 : Int32) (H : Heap) (locs : List Loc) (ls : Array Slot), va_P D vwCl (gw 25 ad (spM ad cI cZ) M18) H → va_S A s.heap H locs → lv_has ls 4 [(0, .ref (ad 0)), (1, .int p0), (2, .int x16), (3, .int x17)] → K20 x19 = some res → W p l e (headSpec wsX6_verified { frames := 4, cells := 0, slots := 0, locals := 93 }).room s m (([.ref (ad 0), .int p0] : List Value).toArray) below meth c H locs 0 0 (MQ below (Qf D vwCl 25 ad (spM ad cI cZ) A (some (.int res.1)) res.2) (([.ref (ad 0), .int p0] : List Value).toArray) s 0 0 A) (F0 m 121 ls [.int x19]) := by
          intro x19 H locs ls hP hS hl hf
          rw [eK20] at hf
          obtain rfl := Option.some.inj hf
          exact r_iret hx hb hr hlocks hP hS dX6_verified_121
        refine r_if_eq (tgt := 120) hx hb dX6_verified_113 (by decide) hf (fun hf => ?_) (fun hf => ?_)
        · refine lv_iconst (v := (0 : Int32)) hx hb dX6_verified_120 (by decide) ?_
          exact JK20 (0 : Int32) _ _ _ hP hS (lv_sub hl [0, 1, 2, 3] rfl) hf
        · refine lv_iconst (v := (1 : Int32)) hx hb dX6_verified_116 (by decide) ?_
          refine lv_goto (tgt := 121) hx hb dX6_verified_117 (by decide) ?_
          exact JK20 (1 : Int32) _ _ _ hP hS (lv_sub hl [0, 1, 2, 3] rfl) hf
      have LF15 : ∀ (n : Nat) (x12 : Int32) (x13 : Int32) (M14 : Mem) (H : Heap) (locs : List Loc) (ls : Array Slot), va_P D vwCl (gw 25 ad (spM ad cI cZ) M14) H → va_S A s.heap H locs → lv_has ls 4 [(0, .ref (ad 0)), (1, .int p0), (2, .int x12), (3, .int x13)] → lp_X6_verified_72 F15 n x12 x13 M14 = some res → W p l e (headSpec wsX6_verified { frames := 4, cells := 0, slots := 0, locals := 93 }).room s m (([.ref (ad 0), .int p0] : List Value).toArray) below meth c H locs 0 0 (MQ below (Qf D vwCl 25 ad (spM ad cI cZ) A (some (.int res.1)) res.2) (([.ref (ad 0), .int p0] : List Value).toArray) s 0 0 A) (F0 m 72 ls []) := by
        intro n
        induction n with
        | zero =>
          intro x12 x13 M14 H locs ls hP hS hl hf
          exact absurd hf (fun h => nomatch h)
        | succ n ih =>
          intro x12 x13 M14 H locs ls hP hS hl hf
          rw [lp_X6_verified_72_s] at hf
          refine lv_iload_n hx hb dX6_verified_72 rfl (lv_at hl 3 rfl) ?_
          refine lv_bipush (v := (8 : Int32)) hx hb dX6_verified_73 (by decide) ?_
          refine r_icmp_ge (tgt := 112) hx hb dX6_verified_75 (by decide) hf (fun hf => ?_) (fun hf => ?_)
          · exact EF15 x12 x13 M14 _ _ _ hP hS (lv_sub hl [0, 1, 2, 3] rfl) hf
          · refine lv_iload_n hx hb dX6_verified_78 rfl (lv_at hl 2 rfl) ?_
            refine r_jn hf (fun K24 eK24 hf => ?_)
            have JK24 : ∀ (x23 : Int32) (H : Heap) (locs : List Loc) (ls : Array Slot), va_P D vwCl (gw 25 ad (spM ad cI cZ) M14) H → va_S A s.heap H locs → lv_has ls 4 [(0, .ref (ad 0)), (1, .int p0), (2, .int x12), (3, .int x13)] → K24 x23 = some res → W p l e (headSpec wsX6_verified { frames := 4, cells := 0, slots := 0, locals := 93 }).room s m (([.ref (ad 0), .int p0] : List Value).toArray) below meth c H locs 0 0 (MQ below (Qf D vwCl 25 ad (spM ad cI cZ) A (some (.int res.1)) res.2) (([.ref (ad 0), .int p0] : List Value).toArray) s 0 0 A) (F0 m 105 ls [.int x23]) := by
              intro x23 H locs ls hP hS hl hf
              rw [eK24] at hf
              refine lv_istore_n (lv' := [(2, .int x23), (0, .ref (ad 0)), (1, .int p0), (3, .int x13)]) hx hb dX6_verified_105 rfl hl (by decide) rfl (fun ls hl => ?_)
              refine lv_iinc (v := x13 + (1 : Int32)) (lv' := [(3, .int (x13 + (1 : Int32))), (2, .int x23), (0, .ref (ad 0)), (1, .int p0)]) hx hb dX6_verified_106 hl (k := 3) rfl rfl (by decide) rfl (fun ls hl => ?_)
              refine lv_goto (tgt := 72) hx hb dX6_verified_109 (by decide) ?_
              exact ih x23 (x13 + (1 : Int32)) M14 _ _ _ hP hS (lv_sub hl [2, 3, 1, 0] rfl) hf
            refine r_if_eq (tgt := 104) hx hb dX6_verified_79 (by decide) hf (fun hf => ?_) (fun hf => ?_)
            · refine lv_iconst (v := (0 : Int32)) hx hb dX6_verified_104 (by decide) ?_
              exact JK24 (0 : Int32) _ _ _ hP hS (lv_sub hl [0, 1, 2, 3] rfl) hf
            · refine lv_aload_n hx hb dX6_verified_82 rfl (lv_at hl 0 rfl) ?_
              refine r_getc (k' := 24) (j := 31) hx hb hts inX6 hown hK hP (obX6) rfl (by decide) (hts (.fieldLink RX6 152 "PageMonitorModel" "told" "[I") (by decide +kernel)) (fun _ => rfl) dX6_verified_83 ?_
              refine lv_bipush (v := (16 : Int32)) hx hb dX6_verified_86 (by decide) ?_
              refine lv_iload_n hx hb dX6_verified_88 rfl (lv_at hl 3 rfl) ?_
              refine lv_iadd hx hb dX6_verified_89 ?_
              refine r_ialdk hx hb hK hP 0 ma24 rfl dX6_verified_90 hf (fun x25 hf => ?_)
              refine lv_aload_n hx hb dX6_verified_91 rfl (lv_at hl 0 rfl) ?_
              refine r_getc (k' := 22) (j := 29) hx hb hts inX6 hown hK hP (obX6) rfl (by decide) (hts (.fieldLink RX6 146 "PageMonitorModel" "digest" "[I") (by decide +kernel)) (fun _ => rfl) dX6_verified_92 ?_
              refine lv_iload_n hx hb dX6_verified_95 rfl (lv_at hl 3 rfl) ?_
              refine r_ialdk hx hb hK hP 0 ma22 rfl dX6_verified_96 hf (fun x26 hf => ?_)
              refine r_icmp_ne (tgt := 104) hx hb dX6_verified_97 (by decide) hf (fun hf => ?_) (fun hf => ?_)
              · refine lv_iconst (v := (0 : Int32)) hx hb dX6_verified_104 (by decide) ?_
                exact JK24 (0 : Int32) _ _ _ hP hS (lv_sub hl [0, 1, 2, 3] rfl) hf
              · refine lv_iconst (v := (1 : Int32)) hx hb dX6_verified_100 (by decide) ?_
                refine lv_goto (tgt := 105) hx hb dX6_verified_101 (by decide) ?_
                exact JK24 (1 : Int32) _ _ _ hP hS (lv_sub hl [0, 1, 2, 3] rfl) hf
      exact LF15 FU (1 : Int32) (0 : Int32) q11 _ _ _ hP hS (lv_sub hl [2, 3, 1, 0] rfl) hf
    have LF8 : ∀ (n : Nat) (x6 : Int32) (M7 : Mem) (H : Heap) (locs : List Loc) (ls : Array Slot), va_P D vwCl (gw 25 ad (spM ad cI cZ) M7) H → va_S A s.heap H locs → lv_has ls 4 [(0, .ref (ad 0)), (1, .int p0), (2, .int x6)] → lp_X6_verified_29 F8 n x6 M7 = some res → W p l e (headSpec wsX6_verified { frames := 4, cells := 0, slots := 0, locals := 93 }).room s m (([.ref (ad 0), .int p0] : List Value).toArray) below meth c H locs 0 0 (MQ below (Qf D vwCl 25 ad (spM ad cI cZ) A (some (.int res.1)) res.2) (([.ref (ad 0), .int p0] : List Value).toArray) s 0 0 A) (F0 m 29 ls []) := by
      intro n
      induction n with
      | zero =>
        intro x6 M7 H locs ls hP hS hl hf
        exact absurd hf (fun h => nomatch h)
      | succ n ih =>
        intro x6 M7 H locs ls hP hS hl hf
        rw [lp_X6_verified_29_s] at hf
        refine lv_iload_n hx hb dX6_verified_29 rfl (lv_at hl 2 rfl) ?_
        refine lv_bipush (v := (8 : Int32)) hx hb dX6_verified_30 (by decide) ?_
        refine r_icmp_ge (tgt := 59) hx hb dX6_verified_32 (by decide) hf (fun hf => ?_) (fun hf => ?_)
        · exact EF8 x6 M7 _ _ _ hP hS (lv_sub hl [0, 1, 2] rfl) hf
        · refine lv_aload_n hx hb dX6_verified_35 rfl (lv_at hl 0 rfl) ?_
          refine r_getc (k' := 20) (j := 27) hx hb hts inX6 hown hK hP (obX6) rfl (by decide) (hts (.fieldLink RX6 140 "PageMonitorModel" "message" "[I") (by decide +kernel)) (fun _ => rfl) dX6_verified_36 ?_
          refine lv_bipush (v := (16 : Int32)) hx hb dX6_verified_39 (by decide) ?_
          refine lv_iload_n hx hb dX6_verified_41 rfl (lv_at hl 2 rfl) ?_
          refine lv_iadd hx hb dX6_verified_42 ?_
          refine lv_aload_n hx hb dX6_verified_43 rfl (lv_at hl 0 rfl) ?_
          refine r_getc (k' := 24) (j := 31) hx hb hts inX6 hown hK hP (obX6) rfl (by decide) (hts (.fieldLink RX6 152 "PageMonitorModel" "told" "[I") (by decide +kernel)) (fun _ => rfl) dX6_verified_44 ?_
          refine lv_bipush (v := (8 : Int32)) hx hb dX6_verified_47 (by decide) ?_
          refine lv_iload_n hx hb dX6_verified_49 rfl (lv_at hl 2 rfl) ?_
          refine lv_iadd hx hb dX6_verified_50 ?_
          refine r_ialdk hx hb hK hP 0 ma24 rfl dX6_verified_51 hf (fun x27 hf => ?_)
          refine r_iastk hx hb hI hA hK hP hS 0 ma20 rfl dX6_verified_52 hf (fun M28 H locs hP hS hf => ?_)
          refine lv_iinc (v := x6 + (1 : Int32)) (lv' := [(2, .int (x6 + (1 : Int32))), (0, .ref (ad 0)), (1, .int p0)]) hx hb dX6_verified_53 hl (k := 2) rfl rfl (by decide) rfl (fun ls hl => ?_)
          refine lv_goto (tgt := 29) hx hb dX6_verified_56 (by decide) ?_
          exact ih (x6 + (1 : Int32)) M28 _ _ _ hP hS (lv_sub hl [1, 2, 0] rfl) hf
    exact LF8 FU (0 : Int32) M5 _ _ _ hP hS (lv_sub hl [1, 2, 0] rfl) hf
  have LF3 : ∀ (n : Nat) (x1 : Int32) (M2 : Mem) (H : Heap) (locs : List Loc) (ls : Array Slot), va_P D vwCl (gw 25 ad (spM ad cI cZ) M2) H → va_S A s.heap H locs → lv_has ls 4 [(0, .ref (ad 0)), (1, .int p0), (2, .int x1)] → lp_X6_verified_2 p0 F3 n x1 M2 = some res → W p l e (headSpec wsX6_verified { frames := 4, cells := 0, slots := 0, locals := 93 }).room s m (([.ref (ad 0), .int p0] : List Value).toArray) below meth c H locs 0 0 (MQ below (Qf D vwCl 25 ad (spM ad cI cZ) A (some (.int res.1)) res.2) (([.ref (ad 0), .int p0] : List Value).toArray) s 0 0 A) (F0 m 2 ls []) := by
    intro n
    induction n with
    | zero =>
      intro x1 M2 H locs ls hP hS hl hf
      exact absurd hf (fun h => nomatch h)
    | succ n ih =>
      intro x1 M2 H locs ls hP hS hl hf
      rw [lp_X6_verified_2_s] at hf
      refine lv_iload_n hx hb dX6_verified_2 rfl (lv_at hl 2 rfl) ?_
      refine lv_bipush (v := (24 : Int32)) hx hb dX6_verified_3 (by decide) ?_
      refine r_icmp_ge (tgt := 27) hx hb dX6_verified_5 (by decide) hf (fun hf => ?_) (fun hf => ?_)
      · exact EF3 x1 M2 _ _ _ hP hS (lv_sub hl [0, 1, 2] rfl) hf
      · refine lv_aload_n hx hb dX6_verified_8 rfl (lv_at hl 0 rfl) ?_
        refine r_getc (k' := 24) (j := 31) hx hb hts inX6 hown hK hP (obX6) rfl (by decide) (hts (.fieldLink RX6 152 "PageMonitorModel" "told" "[I") (by decide +kernel)) (fun _ => rfl) dX6_verified_9 ?_
        refine lv_iload_n hx hb dX6_verified_12 rfl (lv_at hl 2 rfl) ?_
        refine lv_aload_n hx hb dX6_verified_13 rfl (lv_at hl 0 rfl) ?_
        refine lv_iload_n hx hb dX6_verified_14 rfl (lv_at hl 1 rfl) ?_
        refine lv_iload_n hx hb dX6_verified_15 rfl (lv_at hl 2 rfl) ?_
        refine lv_iadd hx hb dX6_verified_16 ?_
        obtain ⟨q29, hq29, hf⟩ := ob hf
        refine r_call1 (va_runV (As := [.int (p0 + x1)]) (rest := [.int x1, .ref (ad 24)]) ⟨hx, hb, hml, hown, hts⟩ (c_X6_load hI hA hq29) (cwV 1 hts gX6_verified_X6_load rfl rfl rfl (by decide +kernel) ⟨Nat.le_of_ble_eq_true rfl, Nat.le_of_ble_eq_true rfl⟩) (Pf_V XMb (XMo A) hX hK hP hS obX6 rfl) rfl rfl hl.1 rfl (lv_room (Nat.le_of_ble_eq_true rfl)) dX6_verified_17 ⟨Nat.zero_le _, Nat.zero_le _⟩) hS (fun H locs hP hS => ?_)
        refine r_iastk hx hb hI hA hK hP hS 0 ma24 rfl dX6_verified_20 hf (fun M30 H locs hP hS hf => ?_)
        refine lv_iinc (v := x1 + (1 : Int32)) (lv' := [(2, .int (x1 + (1 : Int32))), (0, .ref (ad 0)), (1, .int p0)]) hx hb dX6_verified_21 hl (k := 2) rfl rfl (by decide) rfl (fun ls hl => ?_)
        refine lv_goto (tgt := 2) hx hb dX6_verified_24 (by decide) ?_
        exact ih (x1 + (1 : Int32)) M30 _ _ _ hP hS (lv_sub hl [1, 2, 0] rfl) hf
  exact LF3 FU (0 : Int32) M _ _ _ hP hS (lv_sub hl [1, 2, 0] rfl) hf
set_option maxHeartbeats 4000000 in
set_option maxRecDepth 100000 in
theorem c_X6_takeIn {l : Launch} {D : va_G} {ad : Nat → Nat} {cI cZ cP cR : ClassId} {A : Nat → Prop} {M : Mem} {p0 : Int32} {p1 : Int32} {p2 : Int32} {res : (Int32 × Mem)} (hI : gInj 25 ad) (hA : ∀ k, k < 25 → A (ad k)) (hf : fX6_takeIn M p0 p1 p2 = some res) : Met l yX6_takeIn wsX6_takeIn { frames := 3, cells := 0, slots := 0, locals := 66 } (va_Pc [.ref (ad 0), .int p0, .int p1, .int p2] (Pf D vwCl (tysW cI cZ cP cR) 25 ad (spM ad cI cZ) XM M)) (Qf D vwCl 25 ad (spM ad cI cZ) A (some (.int res.1)) res.2) 0 0 A := by
  refine Met.ofW (cc := cX6_takeIn) (maxL := 5) (ret := (some .int)) (by decide) rfl ?_
  intro p e s m args below meth c s₁ B hml hv
  obtain ⟨rfl, hP, hK, hX⟩ := hv
  have hx := B.exec
  have hb := B.bytes
  have hr := B.returns
  have hts := atoms_spec (ws := wsX6_takeIn) B.pre
  have hown : s.vm.findClass RX6 = some m.cls := findClass_of_methodNamed B.named
  have hlocks := B.notSynchronized
  have inX6 : ∀ w ∈ wsX60, w ∈ wsX6_takeIn := by decide +kernel
  have hS : va_S A s.heap s.heap [] := va_S.rf
  have hl := lv_entry ([.ref (ad 0), .int p0, .int p1, .int p2]) (n := 5) (Nat.le_of_ble_eq_true rfl)
  rw [lg_entry_eq]
  generalize (lg_sl ([.ref (ad 0), .int p0, .int p1, .int p2]) ++ List.replicate (5 - (lg_sl ([.ref (ad 0), .int p0, .int p1, .int p2])).length) Slot.unset).toArray = ls at hl ⊢
  have hl : lv_has ls 5 [(0, .ref (ad 0)), (1, .int p0), (2, .int p1), (3, .int p2)] := hl
  rw [fX6_takeIn] at hf
  refine lv_aload_n hx hb dX6_takeIn_0 rfl (lv_at hl 0 rfl) ?_
  refine lv_iload_n hx hb dX6_takeIn_1 rfl (lv_at hl 1 rfl) ?_
  refine lv_iconst (v := (5 : Int32)) hx hb dX6_takeIn_2 (by decide) ?_
  obtain ⟨q1, hq1, hf⟩ := ob hf
  refine r_call1 (va_runV (As := [.int p0, .int (5 : Int32)]) (rest := []) ⟨hx, hb, hml, hown, hts⟩ (c_X6_isKind hI hA hq1) (cwV 2 hts gX6_takeIn_X6_isKind rfl rfl rfl (by decide +kernel) ⟨Nat.le_of_ble_eq_true rfl, Nat.le_of_ble_eq_true rfl⟩) (Pf_V XMb (XMo A) hX hK hP hS obX6 rfl) rfl rfl hl.1 rfl (lv_room (Nat.le_of_ble_eq_true rfl)) dX6_takeIn_3 ⟨Nat.zero_le _, Nat.zero_le _⟩) hS (fun H locs hP hS => ?_)
  refine r_if_eq (tgt := 45) hx hb dX6_takeIn_6 (by decide) hf (fun hf => ?_) (fun hf => ?_)
  · refine lv_iconst (v := (1 : Int32)) hx hb dX6_takeIn_45 (by decide) ?_
    obtain rfl := Option.some.inj hf
    exact r_iret hx hb hr hlocks hP hS dX6_takeIn_46
  · refine lv_aload_n hx hb dX6_takeIn_9 rfl (lv_at hl 0 rfl) ?_
    refine r_getc (k' := 4) (j := 4) hx hb hts inX6 hown hK hP (obX6) rfl (by decide) (hts (.fieldLink RX6 19 "PageMonitorModel" "owners" "[I") (by decide +kernel)) (fun _ => rfl) dX6_takeIn_10 ?_
    refine lv_iload_n hx hb dX6_takeIn_13 rfl (lv_at hl 1 rfl) ?_
    refine r_ialdk hx hb hK hP 0 ma4 rfl dX6_takeIn_14 hf (fun x2 hf => ?_)
    refine lv_aload_n hx hb dX6_takeIn_15 rfl (lv_at hl 0 rfl) ?_
    refine r_getik (j := 21) hx hb hts inX6 hown hK hP (obX6) rfl (by decide) (hts (.fieldLink RX6 231 "PageMonitorModel" "own" "I") (by decide +kernel)) (fun _ => rfl) dX6_takeIn_16 hf (fun x3 hf => ?_)
    refine r_icmp_ne (tgt := 45) hx hb dX6_takeIn_19 (by decide) hf (fun hf => ?_) (fun hf => ?_)
    · refine lv_iconst (v := (1 : Int32)) hx hb dX6_takeIn_45 (by decide) ?_
      obtain rfl := Option.some.inj hf
      exact r_iret hx hb hr hlocks hP hS dX6_takeIn_46
    · refine lv_iload_n hx hb dX6_takeIn_22 rfl (lv_at hl 2 rfl) ?_
      obtain ⟨q4, hq4, hf⟩ := ob hf
      refine r_call1 (va_runS (As := [.int p1]) (rest := []) ⟨hx, hb, hml, hown, hts⟩ (c_X6_noBlock hI hA hq4) (va_cwS 1 hts gX6_takeIn_X6_noBlock rfl rfl rfl (by decide +kernel) ⟨Nat.le_of_ble_eq_true rfl, Nat.le_of_ble_eq_true rfl⟩) (Pf_S XMb (XMo A) hX hK hP hS) rfl rfl hl.1 rfl (lv_room (Nat.le_of_ble_eq_true rfl)) dX6_takeIn_23 ⟨Nat.zero_le _, Nat.zero_le _⟩) hS (fun H locs hP hS => ?_)
      refine r_if_ne (tgt := 45) hx hb dX6_takeIn_26 (by decide) hf (fun hf => ?_) (fun hf => ?_)
      · refine lv_iconst (v := (1 : Int32)) hx hb dX6_takeIn_45 (by decide) ?_
        obtain rfl := Option.some.inj hf
        exact r_iret hx hb hr hlocks hP hS dX6_takeIn_46
      · refine lv_iload_n hx hb dX6_takeIn_29 rfl (lv_at hl 3 rfl) ?_
        refine r_if_eq (tgt := 45) hx hb dX6_takeIn_30 (by decide) hf (fun hf => ?_) (fun hf => ?_)
        · refine lv_iconst (v := (1 : Int32)) hx hb dX6_takeIn_45 (by decide) ?_
          obtain rfl := Option.some.inj hf
          exact r_iret hx hb hr hlocks hP hS dX6_takeIn_46
        · refine lv_aload_n hx hb dX6_takeIn_33 rfl (lv_at hl 0 rfl) ?_
          refine lv_aload_n hx hb dX6_takeIn_34 rfl (lv_at hl 0 rfl) ?_
          refine r_getik (j := 21) hx hb hts inX6 hown hK hP (obX6) rfl (by decide) (hts (.fieldLink RX6 231 "PageMonitorModel" "own" "I") (by decide +kernel)) (fun _ => rfl) dX6_takeIn_35 hf (fun x5 hf => ?_)
          refine lv_iload_n hx hb dX6_takeIn_38 rfl (lv_at hl 2 rfl) ?_
          obtain ⟨q6, hq6, hf⟩ := ob hf
          refine r_call1 (va_runV (As := [.int x5, .int p1]) (rest := []) ⟨hx, hb, hml, hown, hts⟩ (c_X6_isTaken hI hA hq6) (cwV 2 hts gX6_takeIn_X6_isTaken rfl rfl rfl (by decide +kernel) ⟨Nat.le_of_ble_eq_true rfl, Nat.le_of_ble_eq_true rfl⟩) (Pf_V XMb (XMo A) hX hK hP hS obX6 rfl) rfl rfl hl.1 rfl (lv_room (Nat.le_of_ble_eq_true rfl)) dX6_takeIn_39 ⟨Nat.zero_le _, Nat.zero_le _⟩) hS (fun H locs hP hS => ?_)
          refine r_if_eq (tgt := 47) hx hb dX6_takeIn_42 (by decide) hf (fun hf => ?_) (fun hf => ?_)
          · refine lv_aload_n hx hb dX6_takeIn_47 rfl (lv_at hl 0 rfl) ?_
            refine lv_iload_n hx hb dX6_takeIn_48 rfl (lv_at hl 1 rfl) ?_
            refine lv_iconst (v := (4 : Int32)) hx hb dX6_takeIn_49 (by decide) ?_
            refine lv_aload_n hx hb dX6_takeIn_50 rfl (lv_at hl 0 rfl) ?_
            refine r_getik (j := 21) hx hb hts inX6 hown hK hP (obX6) rfl (by decide) (hts (.fieldLink RX6 231 "PageMonitorModel" "own" "I") (by decide +kernel)) (fun _ => rfl) dX6_takeIn_51 hf (fun x7 hf => ?_)
            obtain ⟨q8, hq8, hf⟩ := ob hf
            refine r_callv (va_runV (As := [.int p0, .int (4 : Int32), .int x7]) (rest := []) ⟨hx, hb, hml, hown, hts⟩ (c_X6_become hI hA hq8) (cwV 3 hts gX6_takeIn_X6_become rfl rfl rfl (by decide +kernel) ⟨Nat.le_of_ble_eq_true rfl, Nat.le_of_ble_eq_true rfl⟩) (Pf_V XMb (XMo A) hX hK hP hS obX6 rfl) rfl rfl hl.1 rfl (lv_room (Nat.le_of_ble_eq_true rfl)) dX6_takeIn_54 ⟨Nat.zero_le _, Nat.zero_le _⟩) hS (fun H locs hP hS => ?_)
            refine lv_aload_n hx hb dX6_takeIn_57 rfl (lv_at hl 0 rfl) ?_
            refine r_getc (k' := 7) (j := 7) hx hb hts inX6 hown hK hP (obX6) rfl (by decide) (hts (.fieldLink RX6 28 "PageMonitorModel" "entries" "[I") (by decide +kernel)) (fun _ => rfl) dX6_takeIn_58 ?_
            refine lv_aload_n hx hb dX6_takeIn_61 rfl (lv_at hl 0 rfl) ?_
            refine lv_aload_n hx hb dX6_takeIn_62 rfl (lv_at hl 0 rfl) ?_
            refine r_getik (j := 21) hx hb hts inX6 hown hK hP (obX6) rfl (by decide) (hts (.fieldLink RX6 231 "PageMonitorModel" "own" "I") (by decide +kernel)) (fun _ => rfl) dX6_takeIn_63 hf (fun x9 hf => ?_)
            refine lv_iload_n hx hb dX6_takeIn_66 rfl (lv_at hl 2 rfl) ?_
            obtain ⟨q10, hq10, hf⟩ := ob hf
            refine r_call1 (va_runV (As := [.int x9, .int p1]) (rest := [.ref (ad 7)]) ⟨hx, hb, hml, hown, hts⟩ (c_X6_entryOf hI hA hq10) (cwV 2 hts gX6_takeIn_X6_entryOf rfl rfl rfl (by decide +kernel) ⟨Nat.le_of_ble_eq_true rfl, Nat.le_of_ble_eq_true rfl⟩) (Pf_V XMb (XMo A) hX hK hP hS obX6 rfl) rfl rfl hl.1 rfl (lv_room (Nat.le_of_ble_eq_true rfl)) dX6_takeIn_67 ⟨Nat.zero_le _, Nat.zero_le _⟩) hS (fun H locs hP hS => ?_)
            refine lv_iload_n hx hb dX6_takeIn_70 rfl (lv_at hl 1 rfl) ?_
            refine lv_iconst (v := (1 : Int32)) hx hb dX6_takeIn_71 (by decide) ?_
            refine lv_iadd hx hb dX6_takeIn_72 ?_
            refine r_iastk hx hb hI hA hK hP hS 0 ma7 rfl dX6_takeIn_73 hf (fun M11 H locs hP hS hf => ?_)
            refine lv_aload_n hx hb dX6_takeIn_74 rfl (lv_at hl 0 rfl) ?_
            refine r_getc (k' := 8) (j := 8) hx hb hts inX6 hown hK hP (obX6) rfl (by decide) (hts (.fieldLink RX6 31 "PageMonitorModel" "rights" "[I") (by decide +kernel)) (fun _ => rfl) dX6_takeIn_75 ?_
            refine lv_aload_n hx hb dX6_takeIn_78 rfl (lv_at hl 0 rfl) ?_
            refine lv_aload_n hx hb dX6_takeIn_79 rfl (lv_at hl 0 rfl) ?_
            refine r_getik (j := 21) hx hb hts inX6 hown hK hP (obX6) rfl (by decide) (hts (.fieldLink RX6 231 "PageMonitorModel" "own" "I") (by decide +kernel)) (fun _ => rfl) dX6_takeIn_80 hf (fun x12 hf => ?_)
            refine lv_iload_n hx hb dX6_takeIn_83 rfl (lv_at hl 2 rfl) ?_
            obtain ⟨q13, hq13, hf⟩ := ob hf
            refine r_call1 (va_runV (As := [.int x12, .int p1]) (rest := [.ref (ad 8)]) ⟨hx, hb, hml, hown, hts⟩ (c_X6_entryOf hI hA hq13) (cwV 2 hts gX6_takeIn_X6_entryOf rfl rfl rfl (by decide +kernel) ⟨Nat.le_of_ble_eq_true rfl, Nat.le_of_ble_eq_true rfl⟩) (Pf_V XMb (XMo A) hX hK hP hS obX6 rfl) rfl rfl hl.1 rfl (lv_room (Nat.le_of_ble_eq_true rfl)) dX6_takeIn_84 ⟨Nat.zero_le _, Nat.zero_le _⟩) hS (fun H locs hP hS => ?_)
            refine lv_iload_n hx hb dX6_takeIn_87 rfl (lv_at hl 3 rfl) ?_
            refine r_iastk hx hb hI hA hK hP hS 0 ma8 rfl dX6_takeIn_88 hf (fun M14 H locs hP hS hf => ?_)
            refine lv_iconst (v := (0 : Int32)) hx hb dX6_takeIn_89 (by decide) ?_
            refine lv_istore (lv' := [(4, .int (0 : Int32)), (0, .ref (ad 0)), (1, .int p0), (2, .int p1), (3, .int p2)]) hx hb dX6_takeIn_90 hl (by decide) rfl (fun ls hl => ?_)
            refine r_jn hf (fun F17 eF17 hf => ?_)
            have EF17 : ∀ (x18 : Int32) (M19 : Mem) (H : Heap) (locs : List Loc) (ls : Array Slot), va_P D vwCl (gw 25 ad (spM ad cI cZ) M19) H → va_S A s.heap H locs → lv_has ls 5 [(0, .ref (ad 0)), (1, .int p0), (2, .int p1), (3, .int p2), (4, .int x18)] → F17 x18 M19 = some res → W p l e (headSpec wsX6_takeIn { frames := 3, cells := 0, slots := 0, locals := 66 }).room s m (([.ref (ad 0), .int p0, .int p1, .int p2] : List Value).toArray) below meth c H locs 0 0 (MQ below (Qf D vwCl 25 ad (spM ad cI cZ) A (some (.int res.1)) res.2) (([.ref (ad 0), .int p0, .int p1, .int p2] : List Value).toArray) s 0 0 A) (F0 m 118 ls []) := by
              intro x18 M19 H locs ls hP hS hl hf
              rw [eF17] at hf
              refine lv_iconst (v := (0 : Int32)) hx hb dX6_takeIn_118 (by decide) ?_
              obtain rfl := Option.some.inj hf
              exact r_iret hx hb hr hlocks hP hS dX6_takeIn_119
            have LF17 : ∀ (n : Nat) (x15 : Int32) (M16 : Mem) (H : Heap) (locs : List Loc) (ls : Array Slot), va_P D vwCl (gw 25 ad (spM ad cI cZ) M16) H → va_S A s.heap H locs → lv_has ls 5 [(0, .ref (ad 0)), (1, .int p0), (2, .int p1), (3, .int p2), (4, .int x15)] → lp_X6_takeIn_92 p0 F17 n x15 M16 = some res → W p l e (headSpec wsX6_takeIn { frames := 3, cells := 0, slots := 0, locals := 66 }).room s m (([.ref (ad 0), .int p0, .int p1, .int p2] : List Value).toArray) below meth c H locs 0 0 (MQ below (Qf D vwCl 25 ad (spM ad cI cZ) A (some (.int res.1)) res.2) (([.ref (ad 0), .int p0, .int p1, .int p2] : List Value).toArray) s 0 0 A) (F0 m 92 ls []) := by
              intro n
              induction n with
              | zero =>
                intro x15 M16 H locs ls hP hS hl hf
                exact absurd hf (fun h => nomatch h)
              | succ n ih =>
                intro x15 M16 H locs ls hP hS hl hf
                rw [lp_X6_takeIn_92_s] at hf
                refine lv_iload hx hb dX6_takeIn_92 (lv_at hl 4 rfl) ?_
                refine lv_bipush (v := (16 : Int32)) hx hb dX6_takeIn_94 (by decide) ?_
                refine r_icmp_ge (tgt := 118) hx hb dX6_takeIn_96 (by decide) hf (fun hf => ?_) (fun hf => ?_)
                · exact EF17 x15 M16 _ _ _ hP hS (lv_sub hl [0, 1, 2, 3, 4] rfl) hf
                · refine lv_aload_n hx hb dX6_takeIn_99 rfl (lv_at hl 0 rfl) ?_
                  refine r_getc (k' := 6) (j := 6) hx hb hts inX6 hown hK hP (obX6) rfl (by decide) (hts (.fieldLink RX6 25 "PageMonitorModel" "contents" "[I") (by decide +kernel)) (fun _ => rfl) dX6_takeIn_100 ?_
                  refine lv_bipush (v := (16 : Int32)) hx hb dX6_takeIn_103 (by decide) ?_
                  refine lv_iload_n hx hb dX6_takeIn_105 rfl (lv_at hl 1 rfl) ?_
                  refine lv_imul hx hb dX6_takeIn_106 ?_
                  refine lv_iload hx hb dX6_takeIn_107 (lv_at hl 4 rfl) ?_
                  refine lv_iadd hx hb dX6_takeIn_109 ?_
                  refine lv_iconst (v := (0 : Int32)) hx hb dX6_takeIn_110 (by decide) ?_
                  refine r_iastk hx hb hI hA hK hP hS 0 ma6 rfl dX6_takeIn_111 hf (fun M20 H locs hP hS hf => ?_)
                  refine lv_iinc (v := x15 + (1 : Int32)) (lv' := [(4, .int (x15 + (1 : Int32))), (0, .ref (ad 0)), (1, .int p0), (2, .int p1), (3, .int p2)]) hx hb dX6_takeIn_112 hl (k := 4) rfl rfl (by decide) rfl (fun ls hl => ?_)
                  refine lv_goto (tgt := 92) hx hb dX6_takeIn_115 (by decide) ?_
                  exact ih (x15 + (1 : Int32)) M20 _ _ _ hP hS (lv_sub hl [1, 2, 3, 4, 0] rfl) hf
            exact LF17 FU (0 : Int32) M14 _ _ _ hP hS (lv_sub hl [1, 2, 3, 4, 0] rfl) hf
          · refine lv_iconst (v := (1 : Int32)) hx hb dX6_takeIn_45 (by decide) ?_
            obtain rfl := Option.some.inj hf
            exact r_iret hx hb hr hlocks hP hS dX6_takeIn_46
set_option maxHeartbeats 4000000 in
set_option maxRecDepth 100000 in
theorem c_X6_giveBack {l : Launch} {D : va_G} {ad : Nat → Nat} {cI cZ cP cR : ClassId} {A : Nat → Prop} {M : Mem} {p0 : Int32} {res : (Int32 × Mem)} (hI : gInj 25 ad) (hA : ∀ k, k < 25 → A (ad k)) (hf : fX6_giveBack M p0 = some res) : Met l yX6_giveBack wsX6_giveBack { frames := 2, cells := 0, slots := 0, locals := 44 } (va_Pc [.ref (ad 0), .int p0] (Pf D vwCl (tysW cI cZ cP cR) 25 ad (spM ad cI cZ) XM M)) (Qf D vwCl 25 ad (spM ad cI cZ) A (some (.int res.1)) res.2) 0 0 A := by
  refine Met.ofW (cc := cX6_giveBack) (maxL := 3) (ret := (some .int)) (by decide) rfl ?_
  intro p e s m args below meth c s₁ B hml hv
  obtain ⟨rfl, hP, hK, hX⟩ := hv
  have hx := B.exec
  have hb := B.bytes
  have hr := B.returns
  have hts := atoms_spec (ws := wsX6_giveBack) B.pre
  have hown : s.vm.findClass RX6 = some m.cls := findClass_of_methodNamed B.named
  have hlocks := B.notSynchronized
  have inX6 : ∀ w ∈ wsX60, w ∈ wsX6_giveBack := by decide +kernel
  have hS : va_S A s.heap s.heap [] := va_S.rf
  have hl := lv_entry ([.ref (ad 0), .int p0]) (n := 3) (Nat.le_of_ble_eq_true rfl)
  rw [lg_entry_eq]
  generalize (lg_sl ([.ref (ad 0), .int p0]) ++ List.replicate (3 - (lg_sl ([.ref (ad 0), .int p0])).length) Slot.unset).toArray = ls at hl ⊢
  have hl : lv_has ls 3 [(0, .ref (ad 0)), (1, .int p0)] := hl
  rw [fX6_giveBack] at hf
  refine lv_iload_n hx hb dX6_giveBack_0 rfl (lv_at hl 1 rfl) ?_
  obtain ⟨q1, hq1, hf⟩ := ob hf
  refine r_call1 (va_runS (As := [.int p0]) (rest := []) ⟨hx, hb, hml, hown, hts⟩ (c_X6_noBlock hI hA hq1) (va_cwS 1 hts gX6_giveBack_X6_noBlock rfl rfl rfl (by decide +kernel) ⟨Nat.le_of_ble_eq_true rfl, Nat.le_of_ble_eq_true rfl⟩) (Pf_S XMb (XMo A) hX hK hP hS) rfl rfl hl.1 rfl (lv_room (Nat.le_of_ble_eq_true rfl)) dX6_giveBack_1 ⟨Nat.zero_le _, Nat.zero_le _⟩) hS (fun H locs hP hS => ?_)
  refine r_if_ne (tgt := 36) hx hb dX6_giveBack_4 (by decide) hf (fun hf => ?_) (fun hf => ?_)
  · refine lv_iconst (v := (-1 : Int32)) hx hb dX6_giveBack_36 (by decide) ?_
    obtain rfl := Option.some.inj hf
    exact r_iret hx hb hr hlocks hP hS dX6_giveBack_37
  · refine lv_aload_n hx hb dX6_giveBack_7 rfl (lv_at hl 0 rfl) ?_
    refine lv_aload_n hx hb dX6_giveBack_8 rfl (lv_at hl 0 rfl) ?_
    refine r_getik (j := 21) hx hb hts inX6 hown hK hP (obX6) rfl (by decide) (hts (.fieldLink RX6 231 "PageMonitorModel" "own" "I") (by decide +kernel)) (fun _ => rfl) dX6_giveBack_9 hf (fun x2 hf => ?_)
    refine lv_iload_n hx hb dX6_giveBack_12 rfl (lv_at hl 1 rfl) ?_
    obtain ⟨q3, hq3, hf⟩ := ob hf
    refine r_call1 (va_runV (As := [.int x2, .int p0]) (rest := []) ⟨hx, hb, hml, hown, hts⟩ (c_X6_tableOf hI hA hq3) (cwV 2 hts gX6_giveBack_X6_tableOf rfl rfl rfl (by decide +kernel) ⟨Nat.le_of_ble_eq_true rfl, Nat.le_of_ble_eq_true rfl⟩) (Pf_V XMb (XMo A) hX hK hP hS obX6 rfl) rfl rfl hl.1 rfl (lv_room (Nat.le_of_ble_eq_true rfl)) dX6_giveBack_13 ⟨Nat.zero_le _, Nat.zero_le _⟩) hS (fun H locs hP hS => ?_)
    refine r_if_lt (tgt := 36) hx hb dX6_giveBack_16 (by decide) hf (fun hf => ?_) (fun hf => ?_)
    · refine lv_iconst (v := (-1 : Int32)) hx hb dX6_giveBack_36 (by decide) ?_
      obtain rfl := Option.some.inj hf
      exact r_iret hx hb hr hlocks hP hS dX6_giveBack_37
    · refine lv_aload_n hx hb dX6_giveBack_19 rfl (lv_at hl 0 rfl) ?_
      refine r_getc (k' := 7) (j := 7) hx hb hts inX6 hown hK hP (obX6) rfl (by decide) (hts (.fieldLink RX6 28 "PageMonitorModel" "entries" "[I") (by decide +kernel)) (fun _ => rfl) dX6_giveBack_20 ?_
      refine lv_aload_n hx hb dX6_giveBack_23 rfl (lv_at hl 0 rfl) ?_
      refine lv_aload_n hx hb dX6_giveBack_24 rfl (lv_at hl 0 rfl) ?_
      refine r_getik (j := 21) hx hb hts inX6 hown hK hP (obX6) rfl (by decide) (hts (.fieldLink RX6 231 "PageMonitorModel" "own" "I") (by decide +kernel)) (fun _ => rfl) dX6_giveBack_25 hf (fun x4 hf => ?_)
      refine lv_iload_n hx hb dX6_giveBack_28 rfl (lv_at hl 1 rfl) ?_
      obtain ⟨q5, hq5, hf⟩ := ob hf
      refine r_call1 (va_runV (As := [.int x4, .int p0]) (rest := [.ref (ad 7)]) ⟨hx, hb, hml, hown, hts⟩ (c_X6_entryOf hI hA hq5) (cwV 2 hts gX6_giveBack_X6_entryOf rfl rfl rfl (by decide +kernel) ⟨Nat.le_of_ble_eq_true rfl, Nat.le_of_ble_eq_true rfl⟩) (Pf_V XMb (XMo A) hX hK hP hS obX6 rfl) rfl rfl hl.1 rfl (lv_room (Nat.le_of_ble_eq_true rfl)) dX6_giveBack_29 ⟨Nat.zero_le _, Nat.zero_le _⟩) hS (fun H locs hP hS => ?_)
      refine r_ialdk hx hb hK hP 0 ma7 rfl dX6_giveBack_32 hf (fun x6 hf => ?_)
      refine r_if_gt (tgt := 38) hx hb dX6_giveBack_33 (by decide) hf (fun hf => ?_) (fun hf => ?_)
      · refine lv_aload_n hx hb dX6_giveBack_38 rfl (lv_at hl 0 rfl) ?_
        refine r_getc (k' := 7) (j := 7) hx hb hts inX6 hown hK hP (obX6) rfl (by decide) (hts (.fieldLink RX6 28 "PageMonitorModel" "entries" "[I") (by decide +kernel)) (fun _ => rfl) dX6_giveBack_39 ?_
        refine lv_aload_n hx hb dX6_giveBack_42 rfl (lv_at hl 0 rfl) ?_
        refine lv_aload_n hx hb dX6_giveBack_43 rfl (lv_at hl 0 rfl) ?_
        refine r_getik (j := 21) hx hb hts inX6 hown hK hP (obX6) rfl (by decide) (hts (.fieldLink RX6 231 "PageMonitorModel" "own" "I") (by decide +kernel)) (fun _ => rfl) dX6_giveBack_44 hf (fun x7 hf => ?_)
        refine lv_iload_n hx hb dX6_giveBack_47 rfl (lv_at hl 1 rfl) ?_
        obtain ⟨q8, hq8, hf⟩ := ob hf
        refine r_call1 (va_runV (As := [.int x7, .int p0]) (rest := [.ref (ad 7)]) ⟨hx, hb, hml, hown, hts⟩ (c_X6_entryOf hI hA hq8) (cwV 2 hts gX6_giveBack_X6_entryOf rfl rfl rfl (by decide +kernel) ⟨Nat.le_of_ble_eq_true rfl, Nat.le_of_ble_eq_true rfl⟩) (Pf_V XMb (XMo A) hX hK hP hS obX6 rfl) rfl rfl hl.1 rfl (lv_room (Nat.le_of_ble_eq_true rfl)) dX6_giveBack_48 ⟨Nat.zero_le _, Nat.zero_le _⟩) hS (fun H locs hP hS => ?_)
        refine r_ialdk hx hb hK hP 0 ma7 rfl dX6_giveBack_51 hf (fun x9 hf => ?_)
        refine lv_iconst (v := (1 : Int32)) hx hb dX6_giveBack_52 (by decide) ?_
        refine lv_isub hx hb dX6_giveBack_53 ?_
        refine r_top (g := .int) hf (fun x10 hf => ?_)
        refine lv_istore_n (lv' := [(2, .int x10), (0, .ref (ad 0)), (1, .int p0)]) hx hb dX6_giveBack_54 rfl hl (by decide) rfl (fun ls hl => ?_)
        refine lv_aload_n hx hb dX6_giveBack_55 rfl (lv_at hl 1 rfl) ?_
        refine r_getc (k' := 7) (j := 7) hx hb hts inX6 hown hK hP (obX6) rfl (by decide) (hts (.fieldLink RX6 28 "PageMonitorModel" "entries" "[I") (by decide +kernel)) (fun _ => rfl) dX6_giveBack_56 ?_
        refine lv_aload_n hx hb dX6_giveBack_59 rfl (lv_at hl 1 rfl) ?_
        refine lv_aload_n hx hb dX6_giveBack_60 rfl (lv_at hl 1 rfl) ?_
        refine r_getik (j := 21) hx hb hts inX6 hown hK hP (obX6) rfl (by decide) (hts (.fieldLink RX6 231 "PageMonitorModel" "own" "I") (by decide +kernel)) (fun _ => rfl) dX6_giveBack_61 hf (fun x11 hf => ?_)
        refine lv_iload_n hx hb dX6_giveBack_64 rfl (lv_at hl 2 rfl) ?_
        obtain ⟨q12, hq12, hf⟩ := ob hf
        refine r_call1 (va_runV (As := [.int x11, .int p0]) (rest := [.ref (ad 7)]) ⟨hx, hb, hml, hown, hts⟩ (c_X6_entryOf hI hA hq12) (cwV 2 hts gX6_giveBack_X6_entryOf rfl rfl rfl (by decide +kernel) ⟨Nat.le_of_ble_eq_true rfl, Nat.le_of_ble_eq_true rfl⟩) (Pf_V XMb (XMo A) hX hK hP hS obX6 rfl) rfl rfl hl.1 rfl (lv_room (Nat.le_of_ble_eq_true rfl)) dX6_giveBack_65 ⟨Nat.zero_le _, Nat.zero_le _⟩) hS (fun H locs hP hS => ?_)
        refine lv_iconst (v := (0 : Int32)) hx hb dX6_giveBack_68 (by decide) ?_
        refine r_iastk hx hb hI hA hK hP hS 0 ma7 rfl dX6_giveBack_69 hf (fun M13 H locs hP hS hf => ?_)
        refine lv_aload_n hx hb dX6_giveBack_70 rfl (lv_at hl 1 rfl) ?_
        refine r_getc (k' := 3) (j := 3) hx hb hts inX6 hown hK hP (obX6) rfl (by decide) (hts (.fieldLink RX6 16 "PageMonitorModel" "kinds" "[I") (by decide +kernel)) (fun _ => rfl) dX6_giveBack_71 ?_
        refine lv_iload_n hx hb dX6_giveBack_74 rfl (lv_at hl 0 rfl) ?_
        refine lv_iconst (v := (5 : Int32)) hx hb dX6_giveBack_75 (by decide) ?_
        refine r_iastk hx hb hI hA hK hP hS 0 ma3 rfl dX6_giveBack_76 hf (fun M14 H locs hP hS hf => ?_)
        refine lv_iload_n hx hb dX6_giveBack_77 rfl (lv_at hl 0 rfl) ?_
        obtain rfl := Option.some.inj hf
        exact r_iret hx hb hr hlocks hP hS dX6_giveBack_78
      · refine lv_iconst (v := (-1 : Int32)) hx hb dX6_giveBack_36 (by decide) ?_
        obtain rfl := Option.some.inj hf
        exact r_iret hx hb hr hlocks hP hS dX6_giveBack_37
set_option maxHeartbeats 4000000 in
set_option maxRecDepth 100000 in
theorem c_X6_put {l : Launch} {D : va_G} {ad : Nat → Nat} {cI cZ cP cR : ClassId} {A : Nat → Prop} {M : Mem} {p0 : Int32} {p1 : Int32} {res : Mem} (hI : gInj 25 ad) (hA : ∀ k, k < 25 → A (ad k)) (hf : fX6_put M p0 p1 = some res) : Met l yX6_put wsX6_put { frames := 0, cells := 0, slots := 0, locals := 0 } (va_Pc [.ref (ad 0), .int p0, .int p1] (Pf D vwCl (tysW cI cZ cP cR) 25 ad (spM ad cI cZ) XM M)) (Qf D vwCl 25 ad (spM ad cI cZ) A none res) 0 0 A := by
  refine Met.ofW (cc := cX6_put) (maxL := 3) (ret := none) (by decide) rfl ?_
  intro p e s m args below meth c s₁ B hml hv
  obtain ⟨rfl, hP, hK, hX⟩ := hv
  have hx := B.exec
  have hb := B.bytes
  have hr := B.returns
  have hts := atoms_spec (ws := wsX6_put) B.pre
  have hown : s.vm.findClass RX6 = some m.cls := findClass_of_methodNamed B.named
  have hlocks := B.notSynchronized
  have inX6 : ∀ w ∈ wsX60, w ∈ wsX6_put := by decide +kernel
  have hS : va_S A s.heap s.heap [] := va_S.rf
  have hl := lv_entry ([.ref (ad 0), .int p0, .int p1]) (n := 3) (Nat.le_of_ble_eq_true rfl)
  rw [lg_entry_eq]
  generalize (lg_sl ([.ref (ad 0), .int p0, .int p1]) ++ List.replicate (3 - (lg_sl ([.ref (ad 0), .int p0, .int p1])).length) Slot.unset).toArray = ls at hl ⊢
  have hl : lv_has ls 3 [(0, .ref (ad 0)), (1, .int p0), (2, .int p1)] := hl
  rw [fX6_put] at hf
  refine lv_aload_n hx hb dX6_put_0 rfl (lv_at hl 0 rfl) ?_
  refine r_getik (j := 24) hx hb hts inX6 hown hK hP (obX6) rfl (by decide) (hts (.fieldLink RX6 237 "PageMonitorModel" "fault" "I") (by decide +kernel)) (fun _ => rfl) dX6_put_1 hf (fun x1 hf => ?_)
  refine r_jn hf (fun K4 eK4 hf => ?_)
  have JK4 : ∀ (M3 : Mem) (H : Heap) (locs : List Loc) (ls : Array Slot), va_P D vwCl (gw 25 ad (spM ad cI cZ) M3) H → va_S A s.heap H locs → lv_has ls 3 [(0, .ref (ad 0)), (1, .int p0), (2, .int p1)] → K4 M3 = some res → W p l e (headSpec wsX6_put { frames := 0, cells := 0, slots := 0, locals := 0 }).room s m (([.ref (ad 0), .int p0, .int p1] : List Value).toArray) below meth c H locs 0 0 (MQ below (Qf D vwCl 25 ad (spM ad cI cZ) A none res) (([.ref (ad 0), .int p0, .int p1] : List Value).toArray) s 0 0 A) (F0 m 14 ls []) := by
    intro M3 H locs ls hP hS hl hf
    rw [eK4] at hf
    obtain rfl := Option.some.inj hf
    exact r_vret hx hb hr hlocks hP hS dX6_put_14
  refine r_if_ne (tgt := 14) hx hb dX6_put_4 (by decide) hf (fun hf => ?_) (fun hf => ?_)
  · exact JK4 M _ _ _ hP hS (lv_sub hl [0, 1, 2] rfl) hf
  · refine lv_aload_n hx hb dX6_put_7 rfl (lv_at hl 0 rfl) ?_
    refine r_getc (k' := 17) (j := 22) hx hb hts inX6 hown hK hP (obX6) rfl (by decide) (hts (.fieldLink RX6 59 "PageMonitorModel" "\x72" "[I") (by decide +kernel)) (fun _ => rfl) dX6_put_8 ?_
    refine lv_iload_n hx hb dX6_put_11 rfl (lv_at hl 1 rfl) ?_
    refine lv_iload_n hx hb dX6_put_12 rfl (lv_at hl 2 rfl) ?_
    refine r_iastk hx hb hI hA hK hP hS 0 ma17 rfl dX6_put_13 hf (fun M5 H locs hP hS hf => ?_)
    exact JK4 M5 _ _ _ hP hS (lv_sub hl [0, 1, 2] rfl) hf
set_option maxHeartbeats 4000000 in
set_option maxRecDepth 100000 in
theorem c_X6_one {l : Launch} {D : va_G} {ad : Nat → Nat} {cI cZ cP cR : ClassId} {A : Nat → Prop} {M : Mem} {res : (Int32 × Mem)} (hI : gInj 25 ad) (hA : ∀ k, k < 25 → A (ad k)) (hf : fX6_one M = some res) : Met l yX6_one wsX6_one { frames := 5, cells := 0, slots := 0, locals := 116 } (va_Pc [.ref (ad 0)] (Pf D vwCl (tysW cI cZ cP cR) 25 ad (spM ad cI cZ) XM M)) (Qf D vwCl 25 ad (spM ad cI cZ) A (some (.int res.1)) res.2) 0 0 A := by
  refine Met.ofW (cc := cX6_one) (maxL := 6) (ret := (some .boolean)) (by decide) rfl ?_
  intro p e s m args below meth c s₁ B hml hv
  obtain ⟨rfl, hP, hK, hX⟩ := hv
  have hx := B.exec
  have hb := B.bytes
  have hr := B.returns
  have hts := atoms_spec (ws := wsX6_one) B.pre
  have hown : s.vm.findClass RX6 = some m.cls := findClass_of_methodNamed B.named
  have hlocks := B.notSynchronized
  have inX6 : ∀ w ∈ wsX60, w ∈ wsX6_one := by decide +kernel
  have hS : va_S A s.heap s.heap [] := va_S.rf
  have hl := lv_entry ([.ref (ad 0)]) (n := 6) (Nat.le_of_ble_eq_true rfl)
  rw [lg_entry_eq]
  generalize (lg_sl ([.ref (ad 0)]) ++ List.replicate (6 - (lg_sl ([.ref (ad 0)])).length) Slot.unset).toArray = ls at hl ⊢
  have hl : lv_has ls 6 [(0, .ref (ad 0))] := hl
  rw [fX6_one] at hf
  refine lv_aload_n hx hb dX6_one_0 rfl (lv_at hl 0 rfl) ?_
  refine lv_aload_n hx hb dX6_one_1 rfl (lv_at hl 0 rfl) ?_
  refine r_getik (j := 23) hx hb hts inX6 hown hK hP (obX6) rfl (by decide) (hts (.fieldLink RX6 250 "PageMonitorModel" "at" "I") (by decide +kernel)) (fun _ => rfl) dX6_one_2 hf (fun x1 hf => ?_)
  refine lv_iconst (v := (4 : Int32)) hx hb dX6_one_5 (by decide) ?_
  obtain ⟨q2, hq2, hf⟩ := ob hf
  refine r_call1 (va_runV (As := [.int x1, .int (4 : Int32)]) (rest := []) ⟨hx, hb, hml, hown, hts⟩ (c_X6_lies hI hA hq2) (cwV 2 hts gX6_one_X6_lies rfl rfl rfl (by decide +kernel) ⟨Nat.le_of_ble_eq_true rfl, Nat.le_of_ble_eq_true rfl⟩) (Pf_V XMb (XMo A) hX hK hP hS obX6 rfl) rfl rfl hl.1 rfl (lv_room (Nat.le_of_ble_eq_true rfl)) dX6_one_6 ⟨Nat.zero_le _, Nat.zero_le _⟩) hS (fun H locs hP hS => ?_)
  refine r_top (g := .int) hf (fun x3 hf => ?_)
  refine lv_istore_n (lv' := [(1, .int x3), (0, .ref (ad 0))]) hx hb dX6_one_9 rfl hl (by decide) rfl (fun ls hl => ?_)
  refine lv_iload_n hx hb dX6_one_10 rfl (lv_at hl 0 rfl) ?_
  refine r_if_ge (tgt := 21) hx hb dX6_one_11 (by decide) hf (fun hf => ?_) (fun hf => ?_)
  · refine lv_iload_n hx hb dX6_one_21 rfl (lv_at hl 0 rfl) ?_
    refine lv_sipush (v := (320 : Int32)) hx hb dX6_one_22 (by decide) ?_
    refine r_jn hf (fun K7 eK7 hf => ?_)
    have JK7 : ∀ (x6 : Int32) (H : Heap) (locs : List Loc) (ls : Array Slot), va_P D vwCl (gw 25 ad (spM ad cI cZ) q2.2) H → va_S A s.heap H locs → lv_has ls 6 [(0, .ref (ad 0)), (1, .int x3)] → K7 x6 = some res → W p l e (headSpec wsX6_one { frames := 5, cells := 0, slots := 0, locals := 116 }).room s m (([.ref (ad 0)] : List Value).toArray) below meth c H locs 0 0 (MQ below (Qf D vwCl 25 ad (spM ad cI cZ) A (some (.int res.1)) res.2) (([.ref (ad 0)] : List Value).toArray) s 0 0 A) (F0 m 47 ls [.int x6]) := by
      intro x6 H locs ls hP hS hl hf
      rw [eK7] at hf
      refine lv_istore_n (lv' := [(2, .int x6), (0, .ref (ad 0)), (1, .int x3)]) hx hb dX6_one_47 rfl hl (by decide) rfl (fun ls hl => ?_)
      refine lv_iload_n hx hb dX6_one_48 rfl (lv_at hl 0 rfl) ?_
      refine lv_iconst (v := (4 : Int32)) hx hb dX6_one_49 (by decide) ?_
      refine lv_ishr hx hb dX6_one_50 ?_
      refine lv_iconst (v := (3 : Int32)) hx hb dX6_one_51 (by decide) ?_
      refine lv_iand hx hb dX6_one_52 ?_
      refine r_top (g := .int) hf (fun x8 hf => ?_)
      refine lv_istore_n (lv' := [(3, .int x8), (2, .int x6), (0, .ref (ad 0)), (1, .int x3)]) hx hb dX6_one_53 rfl hl (by decide) rfl (fun ls hl => ?_)
      refine lv_aload_n hx hb dX6_one_54 rfl (lv_at hl 2 rfl) ?_
      refine r_getc (k' := 17) (j := 22) hx hb hts inX6 hown hK hP (obX6) rfl (by decide) (hts (.fieldLink RX6 59 "PageMonitorModel" "\x72" "[I") (by decide +kernel)) (fun _ => rfl) dX6_one_55 ?_
      refine lv_iload_n hx hb dX6_one_58 rfl (lv_at hl 1 rfl) ?_
      refine lv_bipush (v := (6 : Int32)) hx hb dX6_one_59 (by decide) ?_
      refine lv_ishr hx hb dX6_one_61 ?_
      refine lv_iconst (v := (3 : Int32)) hx hb dX6_one_62 (by decide) ?_
      refine lv_iand hx hb dX6_one_63 ?_
      refine r_ialdk hx hb hK hP 0 ma17 rfl dX6_one_64 hf (fun x9 hf => ?_)
      refine lv_istore (lv' := [(4, .int x9), (3, .int x8), (2, .int x6), (0, .ref (ad 0)), (1, .int x3)]) hx hb dX6_one_65 hl (by decide) rfl (fun ls hl => ?_)
      refine lv_iload_n hx hb dX6_one_67 rfl (lv_at hl 2 rfl) ?_
      refine lv_bipush (v := (8 : Int32)) hx hb dX6_one_68 (by decide) ?_
      refine lv_ishr hx hb dX6_one_70 ?_
      refine r_top (g := .int) hf (fun x10 hf => ?_)
      refine lv_istore (lv' := [(5, .int x10), (4, .int x9), (3, .int x8), (2, .int x6), (0, .ref (ad 0)), (1, .int x3)]) hx hb dX6_one_71 hl (by decide) rfl (fun ls hl => ?_)
      refine lv_aload_n hx hb dX6_one_73 rfl (lv_at hl 4 rfl) ?_
      refine lv_dup hx hb dX6_one_74 rfl ?_
      refine r_getik (j := 23) hx hb hts inX6 hown hK hP (obX6) rfl (by decide) (hts (.fieldLink RX6 250 "PageMonitorModel" "at" "I") (by decide +kernel)) (fun _ => rfl) dX6_one_75 hf (fun x11 hf => ?_)
      refine lv_iconst (v := (1 : Int32)) hx hb dX6_one_78 (by decide) ?_
      refine lv_iadd hx hb dX6_one_79 ?_
      refine r_putik (j := 23) hx hb hts inX6 tyX6 tyX6_ok nmX6 hown hI hA hK hP hS (obX6) rfl (by decide) (hts (.fieldLink RX6 250 "PageMonitorModel" "at" "I") (by decide +kernel)) rfl rfl rfl (fun _ => Nat.le_of_ble_eq_true rfl) (fun _ _ => rfl) dX6_one_80 hf (fun M12 H locs hP hS hf => ?_)
      refine lv_iload_n hx hb dX6_one_83 rfl (lv_at hl 3 rfl) ?_
      refine lv_bipush (v := (15 : Int32)) hx hb dX6_one_84 (by decide) ?_
      refine lv_iand hx hb dX6_one_86 ?_
      refine r_top (g := .int) hf (fun x13 hf => ?_)
      rcases Decidable.em (x13 = (0 : Int32)) with e0 | e0
      · rw [if_pos e0] at hf
        subst e0
        refine lv_tableIn (off := 69) (tgt := 156) hx hb dX6_one_87 (by decide) (by decide) (by decide) (by decide) ?_
        refine lv_aload_n hx hb dX6_one_156 rfl (lv_at hl 4 rfl) ?_
        refine lv_aload_n hx hb dX6_one_157 rfl (lv_at hl 4 rfl) ?_
        refine r_getc (k' := 17) (j := 22) hx hb hts inX6 hown hK hP (obX6) rfl (by decide) (hts (.fieldLink RX6 59 "PageMonitorModel" "\x72" "[I") (by decide +kernel)) (fun _ => rfl) dX6_one_158 ?_
        refine lv_iload_n hx hb dX6_one_161 rfl (lv_at hl 2 rfl) ?_
        refine r_ialdk hx hb hK hP 0 ma17 rfl dX6_one_162 hf (fun x14 hf => ?_)
        refine r_putik (j := 17) hx hb hts inX6 tyX6 tyX6_ok nmX6 hown hI hA hK hP hS (obX6) rfl (by decide) (hts (.fieldLink RX6 162 "PageMonitorModel" "result" "I") (by decide +kernel)) rfl rfl rfl (fun _ => Nat.le_of_ble_eq_true rfl) (fun _ _ => rfl) dX6_one_163 hf (fun M15 H locs hP hS hf => ?_)
        refine lv_iconst (v := (1 : Int32)) hx hb dX6_one_166 (by decide) ?_
        obtain rfl := Option.some.inj hf
        exact r_zret hx hb hr (isB_n (x := (1 : Int32)) (by decide)) hlocks hP hS dX6_one_167
      rw [if_neg e0] at hf
      rcases Decidable.em (x13 = (1 : Int32)) with e1 | e1
      · rw [if_pos e1] at hf
        subst e1
        refine lv_tableIn (off := 81) (tgt := 168) hx hb dX6_one_87 (by decide) (by decide) (by decide) (by decide) ?_
        refine lv_aload_n hx hb dX6_one_168 rfl (lv_at hl 4 rfl) ?_
        refine r_getc (k' := 17) (j := 22) hx hb hts inX6 hown hK hP (obX6) rfl (by decide) (hts (.fieldLink RX6 59 "PageMonitorModel" "\x72" "[I") (by decide +kernel)) (fun _ => rfl) dX6_one_169 ?_
        refine lv_iload_n hx hb dX6_one_172 rfl (lv_at hl 2 rfl) ?_
        refine lv_iload hx hb dX6_one_173 (lv_at hl 0 rfl) ?_
        refine r_iastk hx hb hI hA hK hP hS 0 ma17 rfl dX6_one_175 hf (fun M16 H locs hP hS hf => ?_)
        refine lv_goto (tgt := 418) hx hb dX6_one_176 (by decide) ?_
        refine lv_iconst (v := (0 : Int32)) hx hb dX6_one_418 (by decide) ?_
        obtain rfl := Option.some.inj hf
        exact r_zret hx hb hr (isB_n (x := (0 : Int32)) (by decide)) hlocks hP hS dX6_one_419
      rw [if_neg e1] at hf
      rcases Decidable.em (x13 = (2 : Int32)) with e2 | e2
      · rw [if_pos e2] at hf
        subst e2
        refine lv_tableIn (off := 92) (tgt := 179) hx hb dX6_one_87 (by decide) (by decide) (by decide) (by decide) ?_
        refine lv_aload_n hx hb dX6_one_179 rfl (lv_at hl 4 rfl) ?_
        refine r_getc (k' := 17) (j := 22) hx hb hts inX6 hown hK hP (obX6) rfl (by decide) (hts (.fieldLink RX6 59 "PageMonitorModel" "\x72" "[I") (by decide +kernel)) (fun _ => rfl) dX6_one_180 ?_
        refine lv_iload_n hx hb dX6_one_183 rfl (lv_at hl 2 rfl) ?_
        refine lv_aload_n hx hb dX6_one_184 rfl (lv_at hl 4 rfl) ?_
        refine r_getc (k' := 17) (j := 22) hx hb hts inX6 hown hK hP (obX6) rfl (by decide) (hts (.fieldLink RX6 59 "PageMonitorModel" "\x72" "[I") (by decide +kernel)) (fun _ => rfl) dX6_one_185 ?_
        refine lv_iload_n hx hb dX6_one_188 rfl (lv_at hl 2 rfl) ?_
        refine r_ialdk hx hb hK hP 0 ma17 rfl dX6_one_189 hf (fun x17 hf => ?_)
        refine lv_iload hx hb dX6_one_190 (lv_at hl 1 rfl) ?_
        refine lv_iadd hx hb dX6_one_192 ?_
        refine r_iastk hx hb hI hA hK hP hS 0 ma17 rfl dX6_one_193 hf (fun M18 H locs hP hS hf => ?_)
        refine lv_goto (tgt := 418) hx hb dX6_one_194 (by decide) ?_
        refine lv_iconst (v := (0 : Int32)) hx hb dX6_one_418 (by decide) ?_
        obtain rfl := Option.some.inj hf
        exact r_zret hx hb hr (isB_n (x := (0 : Int32)) (by decide)) hlocks hP hS dX6_one_419
      rw [if_neg e2] at hf
      rcases Decidable.em (x13 = (3 : Int32)) with e3 | e3
      · rw [if_pos e3] at hf
        subst e3
        refine lv_tableIn (off := 110) (tgt := 197) hx hb dX6_one_87 (by decide) (by decide) (by decide) (by decide) ?_
        refine lv_aload_n hx hb dX6_one_197 rfl (lv_at hl 4 rfl) ?_
        refine r_getc (k' := 17) (j := 22) hx hb hts inX6 hown hK hP (obX6) rfl (by decide) (hts (.fieldLink RX6 59 "PageMonitorModel" "\x72" "[I") (by decide +kernel)) (fun _ => rfl) dX6_one_198 ?_
        refine lv_iload_n hx hb dX6_one_201 rfl (lv_at hl 2 rfl) ?_
        refine lv_aload_n hx hb dX6_one_202 rfl (lv_at hl 4 rfl) ?_
        refine r_getc (k' := 17) (j := 22) hx hb hts inX6 hown hK hP (obX6) rfl (by decide) (hts (.fieldLink RX6 59 "PageMonitorModel" "\x72" "[I") (by decide +kernel)) (fun _ => rfl) dX6_one_203 ?_
        refine lv_iload_n hx hb dX6_one_206 rfl (lv_at hl 2 rfl) ?_
        refine r_ialdk hx hb hK hP 0 ma17 rfl dX6_one_207 hf (fun x19 hf => ?_)
        refine lv_iload hx hb dX6_one_208 (lv_at hl 1 rfl) ?_
        refine lv_isub hx hb dX6_one_210 ?_
        refine r_iastk hx hb hI hA hK hP hS 0 ma17 rfl dX6_one_211 hf (fun M20 H locs hP hS hf => ?_)
        refine lv_goto (tgt := 418) hx hb dX6_one_212 (by decide) ?_
        refine lv_iconst (v := (0 : Int32)) hx hb dX6_one_418 (by decide) ?_
        obtain rfl := Option.some.inj hf
        exact r_zret hx hb hr (isB_n (x := (0 : Int32)) (by decide)) hlocks hP hS dX6_one_419
      rw [if_neg e3] at hf
      rcases Decidable.em (x13 = (4 : Int32)) with e4 | e4
      · rw [if_pos e4] at hf
        subst e4
        refine lv_tableIn (off := 128) (tgt := 215) hx hb dX6_one_87 (by decide) (by decide) (by decide) (by decide) ?_
        refine lv_aload_n hx hb dX6_one_215 rfl (lv_at hl 4 rfl) ?_
        refine r_getc (k' := 17) (j := 22) hx hb hts inX6 hown hK hP (obX6) rfl (by decide) (hts (.fieldLink RX6 59 "PageMonitorModel" "\x72" "[I") (by decide +kernel)) (fun _ => rfl) dX6_one_216 ?_
        refine lv_iload_n hx hb dX6_one_219 rfl (lv_at hl 2 rfl) ?_
        refine lv_aload_n hx hb dX6_one_220 rfl (lv_at hl 4 rfl) ?_
        refine r_getc (k' := 17) (j := 22) hx hb hts inX6 hown hK hP (obX6) rfl (by decide) (hts (.fieldLink RX6 59 "PageMonitorModel" "\x72" "[I") (by decide +kernel)) (fun _ => rfl) dX6_one_221 ?_
        refine lv_iload_n hx hb dX6_one_224 rfl (lv_at hl 2 rfl) ?_
        refine r_ialdk hx hb hK hP 0 ma17 rfl dX6_one_225 hf (fun x21 hf => ?_)
        refine lv_iload hx hb dX6_one_226 (lv_at hl 1 rfl) ?_
        refine lv_imul hx hb dX6_one_228 ?_
        refine r_iastk hx hb hI hA hK hP hS 0 ma17 rfl dX6_one_229 hf (fun M22 H locs hP hS hf => ?_)
        refine lv_goto (tgt := 418) hx hb dX6_one_230 (by decide) ?_
        refine lv_iconst (v := (0 : Int32)) hx hb dX6_one_418 (by decide) ?_
        obtain rfl := Option.some.inj hf
        exact r_zret hx hb hr (isB_n (x := (0 : Int32)) (by decide)) hlocks hP hS dX6_one_419
      rw [if_neg e4] at hf
      rcases Decidable.em (x13 = (5 : Int32)) with e5 | e5
      · rw [if_pos e5] at hf
        subst e5
        refine lv_tableIn (off := 146) (tgt := 233) hx hb dX6_one_87 (by decide) (by decide) (by decide) (by decide) ?_
        refine lv_aload_n hx hb dX6_one_233 rfl (lv_at hl 4 rfl) ?_
        refine r_getc (k' := 17) (j := 22) hx hb hts inX6 hown hK hP (obX6) rfl (by decide) (hts (.fieldLink RX6 59 "PageMonitorModel" "\x72" "[I") (by decide +kernel)) (fun _ => rfl) dX6_one_234 ?_
        refine lv_iload_n hx hb dX6_one_237 rfl (lv_at hl 2 rfl) ?_
        refine lv_aload_n hx hb dX6_one_238 rfl (lv_at hl 4 rfl) ?_
        refine r_getc (k' := 17) (j := 22) hx hb hts inX6 hown hK hP (obX6) rfl (by decide) (hts (.fieldLink RX6 59 "PageMonitorModel" "\x72" "[I") (by decide +kernel)) (fun _ => rfl) dX6_one_239 ?_
        refine lv_iload_n hx hb dX6_one_242 rfl (lv_at hl 2 rfl) ?_
        refine r_ialdk hx hb hK hP 0 ma17 rfl dX6_one_243 hf (fun x23 hf => ?_)
        refine lv_iload hx hb dX6_one_244 (lv_at hl 1 rfl) ?_
        refine lv_iand hx hb dX6_one_246 ?_
        refine r_iastk hx hb hI hA hK hP hS 0 ma17 rfl dX6_one_247 hf (fun M24 H locs hP hS hf => ?_)
        refine lv_goto (tgt := 418) hx hb dX6_one_248 (by decide) ?_
        refine lv_iconst (v := (0 : Int32)) hx hb dX6_one_418 (by decide) ?_
        obtain rfl := Option.some.inj hf
        exact r_zret hx hb hr (isB_n (x := (0 : Int32)) (by decide)) hlocks hP hS dX6_one_419
      rw [if_neg e5] at hf
      rcases Decidable.em (x13 = (6 : Int32)) with e6 | e6
      · rw [if_pos e6] at hf
        subst e6
        refine lv_tableIn (off := 164) (tgt := 251) hx hb dX6_one_87 (by decide) (by decide) (by decide) (by decide) ?_
        refine lv_aload_n hx hb dX6_one_251 rfl (lv_at hl 4 rfl) ?_
        refine lv_iload_n hx hb dX6_one_252 rfl (lv_at hl 2 rfl) ?_
        refine lv_aload_n hx hb dX6_one_253 rfl (lv_at hl 4 rfl) ?_
        refine lv_iload hx hb dX6_one_254 (lv_at hl 1 rfl) ?_
        refine lv_iload hx hb dX6_one_256 (lv_at hl 0 rfl) ?_
        refine lv_iadd hx hb dX6_one_258 ?_
        obtain ⟨q25, hq25, hf⟩ := ob hf
        refine r_call1 (va_runV (As := [.int (x9 + x10)]) (rest := [.int x8, .ref (ad 0)]) ⟨hx, hb, hml, hown, hts⟩ (c_X6_load hI hA hq25) (cwV 1 hts gX6_one_X6_load rfl rfl rfl (by decide +kernel) ⟨Nat.le_of_ble_eq_true rfl, Nat.le_of_ble_eq_true rfl⟩) (Pf_V XMb (XMo A) hX hK hP hS obX6 rfl) rfl rfl hl.1 rfl (lv_room (Nat.le_of_ble_eq_true rfl)) dX6_one_259 ⟨Nat.zero_le _, Nat.zero_le _⟩) hS (fun H locs hP hS => ?_)
        obtain ⟨q26, hq26, hf⟩ := ob hf
        refine r_callv (va_runV (As := [.int x8, .int q25.1]) (rest := []) ⟨hx, hb, hml, hown, hts⟩ (c_X6_put hI hA hq26) (cwV 2 hts gX6_one_X6_put rfl rfl rfl (by decide +kernel) ⟨Nat.le_of_ble_eq_true rfl, Nat.le_of_ble_eq_true rfl⟩) (Pf_V XMb (XMo A) hX hK hP hS obX6 rfl) rfl rfl hl.1 rfl (lv_room (Nat.le_of_ble_eq_true rfl)) dX6_one_262 ⟨Nat.zero_le _, Nat.zero_le _⟩) hS (fun H locs hP hS => ?_)
        refine lv_goto (tgt := 418) hx hb dX6_one_265 (by decide) ?_
        refine lv_iconst (v := (0 : Int32)) hx hb dX6_one_418 (by decide) ?_
        obtain rfl := Option.some.inj hf
        exact r_zret hx hb hr (isB_n (x := (0 : Int32)) (by decide)) hlocks hP hS dX6_one_419
      rw [if_neg e6] at hf
      rcases Decidable.em (x13 = (7 : Int32)) with e7 | e7
      · rw [if_pos e7] at hf
        subst e7
        refine lv_tableIn (off := 181) (tgt := 268) hx hb dX6_one_87 (by decide) (by decide) (by decide) (by decide) ?_
        refine lv_aload_n hx hb dX6_one_268 rfl (lv_at hl 4 rfl) ?_
        refine lv_iload hx hb dX6_one_269 (lv_at hl 1 rfl) ?_
        refine lv_iload hx hb dX6_one_271 (lv_at hl 0 rfl) ?_
        refine lv_iadd hx hb dX6_one_273 ?_
        refine lv_aload_n hx hb dX6_one_274 rfl (lv_at hl 4 rfl) ?_
        refine r_getc (k' := 17) (j := 22) hx hb hts inX6 hown hK hP (obX6) rfl (by decide) (hts (.fieldLink RX6 59 "PageMonitorModel" "\x72" "[I") (by decide +kernel)) (fun _ => rfl) dX6_one_275 ?_
        refine lv_iload_n hx hb dX6_one_278 rfl (lv_at hl 2 rfl) ?_
        refine r_ialdk hx hb hK hP 0 ma17 rfl dX6_one_279 hf (fun x27 hf => ?_)
        obtain ⟨q28, hq28, hf⟩ := ob hf
        refine r_callv (va_runV (As := [.int (x9 + x10), .int x27]) (rest := []) ⟨hx, hb, hml, hown, hts⟩ (c_X6_store hI hA hq28) (cwV 2 hts gX6_one_X6_store rfl rfl rfl (by decide +kernel) ⟨Nat.le_of_ble_eq_true rfl, Nat.le_of_ble_eq_true rfl⟩) (Pf_V XMb (XMo A) hX hK hP hS obX6 rfl) rfl rfl hl.1 rfl (lv_room (Nat.le_of_ble_eq_true rfl)) dX6_one_280 ⟨Nat.zero_le _, Nat.zero_le _⟩) hS (fun H locs hP hS => ?_)
        refine lv_goto (tgt := 418) hx hb dX6_one_283 (by decide) ?_
        refine lv_iconst (v := (0 : Int32)) hx hb dX6_one_418 (by decide) ?_
        obtain rfl := Option.some.inj hf
        exact r_zret hx hb hr (isB_n (x := (0 : Int32)) (by decide)) hlocks hP hS dX6_one_419
      rw [if_neg e7] at hf
      rcases Decidable.em (x13 = (8 : Int32)) with e8 | e8
      · rw [if_pos e8] at hf
        subst e8
        refine lv_tableIn (off := 199) (tgt := 286) hx hb dX6_one_87 (by decide) (by decide) (by decide) (by decide) ?_
        refine lv_aload_n hx hb dX6_one_286 rfl (lv_at hl 4 rfl) ?_
        refine lv_aload_n hx hb dX6_one_287 rfl (lv_at hl 4 rfl) ?_
        refine r_getc (k' := 17) (j := 22) hx hb hts inX6 hown hK hP (obX6) rfl (by decide) (hts (.fieldLink RX6 59 "PageMonitorModel" "\x72" "[I") (by decide +kernel)) (fun _ => rfl) dX6_one_288 ?_
        refine lv_iload_n hx hb dX6_one_291 rfl (lv_at hl 2 rfl) ?_
        refine r_ialdk hx hb hK hP 0 ma17 rfl dX6_one_292 hf (fun x29 hf => ?_)
        refine r_jn hf (fun K33 eK33 hf => ?_)
        have JK33 : ∀ (x32 : Int32) (H : Heap) (locs : List Loc) (ls : Array Slot), va_P D vwCl (gw 25 ad (spM ad cI cZ) M12) H → va_S A s.heap H locs → lv_has ls 6 [(0, .ref (ad 0)), (1, .int x3), (2, .int x6), (3, .int x8), (4, .int x9), (5, .int x10)] → K33 x32 = some res → W p l e (headSpec wsX6_one { frames := 5, cells := 0, slots := 0, locals := 116 }).room s m (([.ref (ad 0)] : List Value).toArray) below meth c H locs 0 0 (MQ below (Qf D vwCl 25 ad (spM ad cI cZ) A (some (.int res.1)) res.2) (([.ref (ad 0)] : List Value).toArray) s 0 0 A) (F0 m 310 ls [.int x32, .ref (ad 0)]) := by
          intro x32 H locs ls hP hS hl hf
          rw [eK33] at hf
          refine r_putik (j := 23) hx hb hts inX6 tyX6 tyX6_ok nmX6 hown hI hA hK hP hS (obX6) rfl (by decide) (hts (.fieldLink RX6 250 "PageMonitorModel" "at" "I") (by decide +kernel)) rfl rfl rfl (fun _ => Nat.le_of_ble_eq_true rfl) (fun _ _ => rfl) dX6_one_310 hf (fun M34 H locs hP hS hf => ?_)
          refine lv_goto (tgt := 418) hx hb dX6_one_313 (by decide) ?_
          refine lv_iconst (v := (0 : Int32)) hx hb dX6_one_418 (by decide) ?_
          obtain rfl := Option.some.inj hf
          exact r_zret hx hb hr (isB_n (x := (0 : Int32)) (by decide)) hlocks hP hS dX6_one_419
        refine r_if_eq (tgt := 306) hx hb dX6_one_293 (by decide) hf (fun hf => ?_) (fun hf => ?_)
        · refine lv_aload_n hx hb dX6_one_306 rfl (lv_at hl 4 rfl) ?_
          refine r_getik (j := 23) hx hb hts inX6 hown hK hP (obX6) rfl (by decide) (hts (.fieldLink RX6 250 "PageMonitorModel" "at" "I") (by decide +kernel)) (fun _ => rfl) dX6_one_307 hf (fun x35 hf => ?_)
          exact JK33 x35 _ _ _ hP hS (lv_sub hl [4, 5, 3, 2, 1, 0] rfl) hf
        · refine lv_aload_n hx hb dX6_one_296 rfl (lv_at hl 4 rfl) ?_
          refine r_getik (j := 23) hx hb hts inX6 hown hK hP (obX6) rfl (by decide) (hts (.fieldLink RX6 250 "PageMonitorModel" "at" "I") (by decide +kernel)) (fun _ => rfl) dX6_one_297 hf (fun x36 hf => ?_)
          refine lv_iload hx hb dX6_one_300 (lv_at hl 0 rfl) ?_
          refine lv_iadd hx hb dX6_one_302 ?_
          refine lv_goto (tgt := 310) hx hb dX6_one_303 (by decide) ?_
          exact JK33 (x36 + x10) _ _ _ hP hS (lv_sub hl [4, 5, 3, 2, 1, 0] rfl) hf
      rw [if_neg e8] at hf
      rcases Decidable.em (x13 = (9 : Int32)) with e9 | e9
      · rw [if_pos e9] at hf
        subst e9
        refine lv_tableIn (off := 229) (tgt := 316) hx hb dX6_one_87 (by decide) (by decide) (by decide) (by decide) ?_
        refine lv_aload_n hx hb dX6_one_316 rfl (lv_at hl 4 rfl) ?_
        refine lv_aload_n hx hb dX6_one_317 rfl (lv_at hl 4 rfl) ?_
        refine r_getc (k' := 17) (j := 22) hx hb hts inX6 hown hK hP (obX6) rfl (by decide) (hts (.fieldLink RX6 59 "PageMonitorModel" "\x72" "[I") (by decide +kernel)) (fun _ => rfl) dX6_one_318 ?_
        refine lv_iload_n hx hb dX6_one_321 rfl (lv_at hl 2 rfl) ?_
        refine r_ialdk hx hb hK hP 0 ma17 rfl dX6_one_322 hf (fun x37 hf => ?_)
        refine lv_iload hx hb dX6_one_323 (lv_at hl 1 rfl) ?_
        obtain ⟨q38, hq38, hf⟩ := ob hf
        refine r_callv (va_runV (As := [.int x37, .int x9]) (rest := []) ⟨hx, hb, hml, hown, hts⟩ (c_X6_vouch hI hA hq38) (cwV 2 hts gX6_one_X6_vouch rfl rfl rfl (by decide +kernel) ⟨Nat.le_of_ble_eq_true rfl, Nat.le_of_ble_eq_true rfl⟩) (Pf_V XMb (XMo A) hX hK hP hS obX6 rfl) rfl rfl hl.1 rfl (lv_room (Nat.le_of_ble_eq_true rfl)) dX6_one_325 ⟨Nat.zero_le _, Nat.zero_le _⟩) hS (fun H locs hP hS => ?_)
        refine lv_goto (tgt := 418) hx hb dX6_one_328 (by decide) ?_
        refine lv_iconst (v := (0 : Int32)) hx hb dX6_one_418 (by decide) ?_
        obtain rfl := Option.some.inj hf
        exact r_zret hx hb hr (isB_n (x := (0 : Int32)) (by decide)) hlocks hP hS dX6_one_419
      rw [if_neg e9] at hf
      rcases Decidable.em (x13 = (10 : Int32)) with e10 | e10
      · rw [if_pos e10] at hf
        subst e10
        refine lv_tableIn (off := 244) (tgt := 331) hx hb dX6_one_87 (by decide) (by decide) (by decide) (by decide) ?_
        refine lv_aload_n hx hb dX6_one_331 rfl (lv_at hl 4 rfl) ?_
        refine lv_iload_n hx hb dX6_one_332 rfl (lv_at hl 2 rfl) ?_
        refine lv_aload_n hx hb dX6_one_333 rfl (lv_at hl 4 rfl) ?_
        refine lv_iload hx hb dX6_one_334 (lv_at hl 1 rfl) ?_
        obtain ⟨q39, hq39, hf⟩ := ob hf
        refine r_call1 (va_runV (As := [.int x9]) (rest := [.int x8, .ref (ad 0)]) ⟨hx, hb, hml, hown, hts⟩ (c_X6_verified hI hA hq39) (cwV 1 hts gX6_one_X6_verified rfl rfl rfl (by decide +kernel) ⟨Nat.le_of_ble_eq_true rfl, Nat.le_of_ble_eq_true rfl⟩) (Pf_V XMb (XMo A) hX hK hP hS obX6 rfl) rfl rfl hl.1 rfl (lv_room (Nat.le_of_ble_eq_true rfl)) dX6_one_336 ⟨Nat.zero_le _, Nat.zero_le _⟩) hS (fun H locs hP hS => ?_)
        obtain ⟨q40, hq40, hf⟩ := ob hf
        refine r_callv (va_runV (As := [.int x8, .int q39.1]) (rest := []) ⟨hx, hb, hml, hown, hts⟩ (c_X6_put hI hA hq40) (cwV 2 hts gX6_one_X6_put rfl rfl rfl (by decide +kernel) ⟨Nat.le_of_ble_eq_true rfl, Nat.le_of_ble_eq_true rfl⟩) (Pf_V XMb (XMo A) hX hK hP hS obX6 rfl) rfl rfl hl.1 rfl (lv_room (Nat.le_of_ble_eq_true rfl)) dX6_one_339 ⟨Nat.zero_le _, Nat.zero_le _⟩) hS (fun H locs hP hS => ?_)
        refine lv_goto (tgt := 418) hx hb dX6_one_342 (by decide) ?_
        refine lv_iconst (v := (0 : Int32)) hx hb dX6_one_418 (by decide) ?_
        obtain rfl := Option.some.inj hf
        exact r_zret hx hb hr (isB_n (x := (0 : Int32)) (by decide)) hlocks hP hS dX6_one_419
      rw [if_neg e10] at hf
      rcases Decidable.em (x13 = (11 : Int32)) with e11 | e11
      · rw [if_pos e11] at hf
        subst e11
        refine lv_tableIn (off := 258) (tgt := 345) hx hb dX6_one_87 (by decide) (by decide) (by decide) (by decide) ?_
        refine lv_aload_n hx hb dX6_one_345 rfl (lv_at hl 4 rfl) ?_
        refine r_getc (k' := 17) (j := 22) hx hb hts inX6 hown hK hP (obX6) rfl (by decide) (hts (.fieldLink RX6 59 "PageMonitorModel" "\x72" "[I") (by decide +kernel)) (fun _ => rfl) dX6_one_346 ?_
        refine lv_iload_n hx hb dX6_one_349 rfl (lv_at hl 2 rfl) ?_
        refine lv_aload_n hx hb dX6_one_350 rfl (lv_at hl 4 rfl) ?_
        refine r_getc (k' := 12) (j := 12) hx hb hts inX6 hown hK hP (obX6) rfl (by decide) (hts (.fieldLink RX6 43 "PageMonitorModel" "measures" "[I") (by decide +kernel)) (fun _ => rfl) dX6_one_351 ?_
        refine lv_bipush (v := (8 : Int32)) hx hb dX6_one_354 (by decide) ?_
        refine lv_aload_n hx hb dX6_one_356 rfl (lv_at hl 4 rfl) ?_
        refine r_getik (j := 21) hx hb hts inX6 hown hK hP (obX6) rfl (by decide) (hts (.fieldLink RX6 231 "PageMonitorModel" "own" "I") (by decide +kernel)) (fun _ => rfl) dX6_one_357 hf (fun x41 hf => ?_)
        refine lv_imul hx hb dX6_one_360 ?_
        refine lv_iload hx hb dX6_one_361 (lv_at hl 0 rfl) ?_
        refine lv_bipush (v := (7 : Int32)) hx hb dX6_one_363 (by decide) ?_
        refine lv_iand hx hb dX6_one_365 ?_
        refine lv_iadd hx hb dX6_one_366 ?_
        refine r_ialdk hx hb hK hP 0 ma12 rfl dX6_one_367 hf (fun x42 hf => ?_)
        refine r_iastk hx hb hI hA hK hP hS 0 ma17 rfl dX6_one_368 hf (fun M43 H locs hP hS hf => ?_)
        refine lv_goto (tgt := 418) hx hb dX6_one_369 (by decide) ?_
        refine lv_iconst (v := (0 : Int32)) hx hb dX6_one_418 (by decide) ?_
        obtain rfl := Option.some.inj hf
        exact r_zret hx hb hr (isB_n (x := (0 : Int32)) (by decide)) hlocks hP hS dX6_one_419
      rw [if_neg e11] at hf
      rcases Decidable.em (x13 = (12 : Int32)) with e12 | e12
      · rw [if_pos e12] at hf
        subst e12
        refine lv_tableIn (off := 285) (tgt := 372) hx hb dX6_one_87 (by decide) (by decide) (by decide) (by decide) ?_
        refine lv_aload_n hx hb dX6_one_372 rfl (lv_at hl 4 rfl) ?_
        refine r_getc (k' := 17) (j := 22) hx hb hts inX6 hown hK hP (obX6) rfl (by decide) (hts (.fieldLink RX6 59 "PageMonitorModel" "\x72" "[I") (by decide +kernel)) (fun _ => rfl) dX6_one_373 ?_
        refine lv_iload_n hx hb dX6_one_376 rfl (lv_at hl 2 rfl) ?_
        refine lv_aload_n hx hb dX6_one_377 rfl (lv_at hl 4 rfl) ?_
        refine lv_aload_n hx hb dX6_one_378 rfl (lv_at hl 4 rfl) ?_
        refine r_getc (k' := 17) (j := 22) hx hb hts inX6 hown hK hP (obX6) rfl (by decide) (hts (.fieldLink RX6 59 "PageMonitorModel" "\x72" "[I") (by decide +kernel)) (fun _ => rfl) dX6_one_379 ?_
        refine lv_iload_n hx hb dX6_one_382 rfl (lv_at hl 2 rfl) ?_
        refine r_ialdk hx hb hK hP 0 ma17 rfl dX6_one_383 hf (fun x44 hf => ?_)
        refine lv_iload hx hb dX6_one_384 (lv_at hl 1 rfl) ?_
        refine lv_iload hx hb dX6_one_386 (lv_at hl 0 rfl) ?_
        refine lv_bipush (v := (7 : Int32)) hx hb dX6_one_388 (by decide) ?_
        refine lv_iand hx hb dX6_one_390 ?_
        obtain ⟨q45, hq45, hf⟩ := ob hf
        refine r_call1 (va_runV (As := [.int x44, .int x9, .int (x10 &&& (7 : Int32))]) (rest := [.int x8, .ref (ad 17)]) ⟨hx, hb, hml, hown, hts⟩ (c_X6_takeIn hI hA hq45) (cwV 3 hts gX6_one_X6_takeIn rfl rfl rfl (by decide +kernel) ⟨Nat.le_of_ble_eq_true rfl, Nat.le_of_ble_eq_true rfl⟩) (Pf_V XMb (XMo A) hX hK hP hS obX6 rfl) rfl rfl hl.1 rfl (lv_room (Nat.le_of_ble_eq_true rfl)) dX6_one_391 ⟨Nat.zero_le _, Nat.zero_le _⟩) hS (fun H locs hP hS => ?_)
        refine r_iastk hx hb hI hA hK hP hS 0 ma17 rfl dX6_one_394 hf (fun M46 H locs hP hS hf => ?_)
        refine lv_goto (tgt := 418) hx hb dX6_one_395 (by decide) ?_
        refine lv_iconst (v := (0 : Int32)) hx hb dX6_one_418 (by decide) ?_
        obtain rfl := Option.some.inj hf
        exact r_zret hx hb hr (isB_n (x := (0 : Int32)) (by decide)) hlocks hP hS dX6_one_419
      rw [if_neg e12] at hf
      rcases Decidable.em (x13 = (13 : Int32)) with e13 | e13
      · rw [if_pos e13] at hf
        subst e13
        refine lv_tableIn (off := 311) (tgt := 398) hx hb dX6_one_87 (by decide) (by decide) (by decide) (by decide) ?_
        refine lv_aload_n hx hb dX6_one_398 rfl (lv_at hl 4 rfl) ?_
        refine r_getc (k' := 17) (j := 22) hx hb hts inX6 hown hK hP (obX6) rfl (by decide) (hts (.fieldLink RX6 59 "PageMonitorModel" "\x72" "[I") (by decide +kernel)) (fun _ => rfl) dX6_one_399 ?_
        refine lv_iload_n hx hb dX6_one_402 rfl (lv_at hl 2 rfl) ?_
        refine lv_aload_n hx hb dX6_one_403 rfl (lv_at hl 4 rfl) ?_
        refine lv_iload hx hb dX6_one_404 (lv_at hl 1 rfl) ?_
        obtain ⟨q47, hq47, hf⟩ := ob hf
        refine r_call1 (va_runV (As := [.int x9]) (rest := [.int x8, .ref (ad 17)]) ⟨hx, hb, hml, hown, hts⟩ (c_X6_giveBack hI hA hq47) (cwV 1 hts gX6_one_X6_giveBack rfl rfl rfl (by decide +kernel) ⟨Nat.le_of_ble_eq_true rfl, Nat.le_of_ble_eq_true rfl⟩) (Pf_V XMb (XMo A) hX hK hP hS obX6 rfl) rfl rfl hl.1 rfl (lv_room (Nat.le_of_ble_eq_true rfl)) dX6_one_406 ⟨Nat.zero_le _, Nat.zero_le _⟩) hS (fun H locs hP hS => ?_)
        refine r_iastk hx hb hI hA hK hP hS 0 ma17 rfl dX6_one_409 hf (fun M48 H locs hP hS hf => ?_)
        refine lv_goto (tgt := 418) hx hb dX6_one_410 (by decide) ?_
        refine lv_iconst (v := (0 : Int32)) hx hb dX6_one_418 (by decide) ?_
        obtain rfl := Option.some.inj hf
        exact r_zret hx hb hr (isB_n (x := (0 : Int32)) (by decide)) hlocks hP hS dX6_one_419
      rw [if_neg e13] at hf
      refine lv_tableOut (tgt := 413) hx hb dX6_one_87 (tsw_out 13 (by intro j hj; match j, hj with | 0, _ => exact e0 | 1, _ => exact e1 | 2, _ => exact e2 | 3, _ => exact e3 | 4, _ => exact e4 | 5, _ => exact e5 | 6, _ => exact e6 | 7, _ => exact e7 | 8, _ => exact e8 | 9, _ => exact e9 | 10, _ => exact e10 | 11, _ => exact e11 | 12, _ => exact e12 | 13, _ => exact e13 | (_ + 14), h => exact absurd h (by omega))) (by decide) ?_
      refine lv_aload_n hx hb dX6_one_413 rfl (lv_at hl 4 rfl) ?_
      refine lv_iconst (v := (4 : Int32)) hx hb dX6_one_414 (by decide) ?_
      refine r_putik (j := 24) hx hb hts inX6 tyX6 tyX6_ok nmX6 hown hI hA hK hP hS (obX6) rfl (by decide) (hts (.fieldLink RX6 237 "PageMonitorModel" "fault" "I") (by decide +kernel)) rfl rfl rfl (fun _ => Nat.le_of_ble_eq_true rfl) (fun _ _ => rfl) dX6_one_415 hf (fun M49 H locs hP hS hf => ?_)
      refine lv_iconst (v := (0 : Int32)) hx hb dX6_one_418 (by decide) ?_
      obtain rfl := Option.some.inj hf
      exact r_zret hx hb hr (isB_n (x := (0 : Int32)) (by decide)) hlocks hP hS dX6_one_419
    refine r_icmp_ge (tgt := 37) hx hb dX6_one_25 (by decide) hf (fun hf => ?_) (fun hf => ?_)
    · refine lv_aload_n hx hb dX6_one_37 rfl (lv_at hl 1 rfl) ?_
      refine r_getc (k' := 2) (j := 2) hx hb hts inX6 hown hK hP (obX6) rfl (by decide) (hts (.fieldLink RX6 13 "PageMonitorModel" "frames" "[I") (by decide +kernel)) (fun _ => rfl) dX6_one_38 ?_
      refine lv_iload_n hx hb dX6_one_41 rfl (lv_at hl 0 rfl) ?_
      refine lv_sipush (v := (320 : Int32)) hx hb dX6_one_42 (by decide) ?_
      refine lv_isub hx hb dX6_one_45 ?_
      refine r_ialdk hx hb hK hP 0 ma2 rfl dX6_one_46 hf (fun x50 hf => ?_)
      exact JK7 x50 _ _ _ hP hS (lv_sub hl [1, 0] rfl) hf
    · refine lv_aload_n hx hb dX6_one_28 rfl (lv_at hl 1 rfl) ?_
      refine r_getc (k' := 6) (j := 6) hx hb hts inX6 hown hK hP (obX6) rfl (by decide) (hts (.fieldLink RX6 25 "PageMonitorModel" "contents" "[I") (by decide +kernel)) (fun _ => rfl) dX6_one_29 ?_
      refine lv_iload_n hx hb dX6_one_32 rfl (lv_at hl 0 rfl) ?_
      refine r_ialdk hx hb hK hP 0 ma6 rfl dX6_one_33 hf (fun x51 hf => ?_)
      refine lv_goto (tgt := 47) hx hb dX6_one_34 (by decide) ?_
      exact JK7 x51 _ _ _ hP hS (lv_sub hl [1, 0] rfl) hf
  · refine lv_aload_n hx hb dX6_one_14 rfl (lv_at hl 1 rfl) ?_
    refine lv_iconst (v := (1 : Int32)) hx hb dX6_one_15 (by decide) ?_
    refine r_putik (j := 24) hx hb hts inX6 tyX6 tyX6_ok nmX6 hown hI hA hK hP hS (obX6) rfl (by decide) (hts (.fieldLink RX6 237 "PageMonitorModel" "fault" "I") (by decide +kernel)) rfl rfl rfl (fun _ => Nat.le_of_ble_eq_true rfl) (fun _ _ => rfl) dX6_one_16 hf (fun M52 H locs hP hS hf => ?_)
    refine lv_iconst (v := (0 : Int32)) hx hb dX6_one_19 (by decide) ?_
    obtain rfl := Option.some.inj hf
    exact r_zret hx hb hr (isB_n (x := (0 : Int32)) (by decide)) hlocks hP hS dX6_one_20
set_option maxHeartbeats 4000000 in
set_option maxRecDepth 100000 in
theorem c_X6_run {l : Launch} {D : va_G} {ad : Nat → Nat} {cI cZ cP cR : ClassId} {A : Nat → Prop} {M : Mem} {p0 : Int32} {res : (Int32 × Mem)} (hI : gInj 25 ad) (hA : ∀ k, k < 25 → A (ad k)) (hf : fX6_run M p0 = some res) : Met l yX6_run wsX6_run { frames := 6, cells := 0, slots := 0, locals := 141 } (va_Pc [.ref (ad 0), .int p0] (Pf D vwCl (tysW cI cZ cP cR) 25 ad (spM ad cI cZ) XM M)) (Qf D vwCl 25 ad (spM ad cI cZ) A (some (.int res.1)) res.2) 0 0 A := by
  refine Met.ofW (cc := cX6_run) (maxL := 3) (ret := (some .int)) (by decide) rfl ?_
  intro p e s m args below meth c s₁ B hml hv
  obtain ⟨rfl, hP, hK, hX⟩ := hv
  have hx := B.exec
  have hb := B.bytes
  have hr := B.returns
  have hts := atoms_spec (ws := wsX6_run) B.pre
  have hown : s.vm.findClass RX6 = some m.cls := findClass_of_methodNamed B.named
  have hlocks := B.notSynchronized
  have inX6 : ∀ w ∈ wsX60, w ∈ wsX6_run := by decide +kernel
  have hS : va_S A s.heap s.heap [] := va_S.rf
  have hl := lv_entry ([.ref (ad 0), .int p0]) (n := 3) (Nat.le_of_ble_eq_true rfl)
  rw [lg_entry_eq]
  generalize (lg_sl ([.ref (ad 0), .int p0]) ++ List.replicate (3 - (lg_sl ([.ref (ad 0), .int p0])).length) Slot.unset).toArray = ls at hl ⊢
  have hl : lv_has ls 3 [(0, .ref (ad 0)), (1, .int p0)] := hl
  rw [fX6_run] at hf
  refine lv_aload_n hx hb dX6_run_0 rfl (lv_at hl 0 rfl) ?_
  refine lv_aload_n hx hb dX6_run_1 rfl (lv_at hl 0 rfl) ?_
  refine r_getc (k' := 4) (j := 4) hx hb hts inX6 hown hK hP (obX6) rfl (by decide) (hts (.fieldLink RX6 19 "PageMonitorModel" "owners" "[I") (by decide +kernel)) (fun _ => rfl) dX6_run_2 ?_
  refine lv_aload_n hx hb dX6_run_5 rfl (lv_at hl 0 rfl) ?_
  refine r_getik (j := 20) hx hb hts inX6 hown hK hP (obX6) rfl (by decide) (hts (.fieldLink RX6 269 "PageMonitorModel" "running" "I") (by decide +kernel)) (fun _ => rfl) dX6_run_6 hf (fun x1 hf => ?_)
  refine r_ialdk hx hb hK hP 0 ma4 rfl dX6_run_9 hf (fun x2 hf => ?_)
  refine r_putik (j := 21) hx hb hts inX6 tyX6 tyX6_ok nmX6 hown hI hA hK hP hS (obX6) rfl (by decide) (hts (.fieldLink RX6 231 "PageMonitorModel" "own" "I") (by decide +kernel)) rfl rfl rfl (fun _ => Nat.le_of_ble_eq_true rfl) (fun _ _ => rfl) dX6_run_10 hf (fun M3 H locs hP hS hf => ?_)
  refine lv_aload_n hx hb dX6_run_13 rfl (lv_at hl 0 rfl) ?_
  refine r_getc (k' := 15) (j := 15) hx hb hts inX6 hown hK hP (obX6) rfl (by decide) (hts (.fieldLink RX6 53 "PageMonitorModel" "entered" "[Z") (by decide +kernel)) (fun _ => rfl) dX6_run_14 ?_
  refine lv_aload_n hx hb dX6_run_17 rfl (lv_at hl 0 rfl) ?_
  refine r_getik (j := 20) hx hb hts inX6 hown hK hP (obX6) rfl (by decide) (hts (.fieldLink RX6 269 "PageMonitorModel" "running" "I") (by decide +kernel)) (fun _ => rfl) dX6_run_18 hf (fun x4 hf => ?_)
  refine lv_iconst (v := (0 : Int32)) hx hb dX6_run_21 (by decide) ?_
  refine r_zastk hx hb hI hA hK hP hS 1 ma15 rfl dX6_run_22 hf (fun M5 H locs hP hS hf => ?_)
  refine lv_aload_n hx hb dX6_run_23 rfl (lv_at hl 0 rfl) ?_
  refine lv_iconst (v := (0 : Int32)) hx hb dX6_run_24 (by decide) ?_
  refine r_putik (j := 24) hx hb hts inX6 tyX6 tyX6_ok nmX6 hown hI hA hK hP hS (obX6) rfl (by decide) (hts (.fieldLink RX6 237 "PageMonitorModel" "fault" "I") (by decide +kernel)) rfl rfl rfl (fun _ => Nat.le_of_ble_eq_true rfl) (fun _ _ => rfl) dX6_run_25 hf (fun M6 H locs hP hS hf => ?_)
  refine lv_aload_n hx hb dX6_run_28 rfl (lv_at hl 0 rfl) ?_
  refine lv_iconst (v := (0 : Int32)) hx hb dX6_run_29 (by decide) ?_
  refine r_putik (j := 17) hx hb hts inX6 tyX6 tyX6_ok nmX6 hown hI hA hK hP hS (obX6) rfl (by decide) (hts (.fieldLink RX6 162 "PageMonitorModel" "result" "I") (by decide +kernel)) rfl rfl rfl (fun _ => Nat.le_of_ble_eq_true rfl) (fun _ _ => rfl) dX6_run_30 hf (fun M7 H locs hP hS hf => ?_)
  refine lv_aload_n hx hb dX6_run_33 rfl (lv_at hl 0 rfl) ?_
  refine lv_iconst (v := (0 : Int32)) hx hb dX6_run_34 (by decide) ?_
  refine r_putik (j := 18) hx hb hts inX6 tyX6 tyX6_ok nmX6 hown hI hA hK hP hS (obX6) rfl (by decide) (hts (.fieldLink RX6 272 "PageMonitorModel" "steps" "I") (by decide +kernel)) rfl rfl rfl (fun _ => Nat.le_of_ble_eq_true rfl) (fun _ _ => rfl) dX6_run_35 hf (fun M8 H locs hP hS hf => ?_)
  refine r_jn hf (fun F10 eF10 hf => ?_)
  have EF10 : ∀ (M11 : Mem) (H : Heap) (locs : List Loc) (ls : Array Slot), va_P D vwCl (gw 25 ad (spM ad cI cZ) M11) H → va_S A s.heap H locs → lv_has ls 3 [(0, .ref (ad 0)), (1, .int p0)] → F10 M11 = some res → W p l e (headSpec wsX6_run { frames := 6, cells := 0, slots := 0, locals := 141 }).room s m (([.ref (ad 0), .int p0] : List Value).toArray) below meth c H locs 0 0 (MQ below (Qf D vwCl 25 ad (spM ad cI cZ) A (some (.int res.1)) res.2) (([.ref (ad 0), .int p0] : List Value).toArray) s 0 0 A) (F0 m 83 ls []) := by
    intro M11 H locs ls hP hS hl hf
    rw [eF10] at hf
    refine lv_aload_n hx hb dX6_run_83 rfl (lv_at hl 0 rfl) ?_
    refine r_getc (k' := 15) (j := 15) hx hb hts inX6 hown hK hP (obX6) rfl (by decide) (hts (.fieldLink RX6 53 "PageMonitorModel" "entered" "[Z") (by decide +kernel)) (fun _ => rfl) dX6_run_84 ?_
    refine lv_aload_n hx hb dX6_run_87 rfl (lv_at hl 0 rfl) ?_
    refine r_getik (j := 20) hx hb hts inX6 hown hK hP (obX6) rfl (by decide) (hts (.fieldLink RX6 269 "PageMonitorModel" "running" "I") (by decide +kernel)) (fun _ => rfl) dX6_run_88 hf (fun x12 hf => ?_)
    refine lv_iconst (v := (1 : Int32)) hx hb dX6_run_91 (by decide) ?_
    refine r_zastk hx hb hI hA hK hP hS 1 ma15 rfl dX6_run_92 hf (fun M13 H locs hP hS hf => ?_)
    refine lv_iconst (v := (0 : Int32)) hx hb dX6_run_93 (by decide) ?_
    refine lv_istore_n (lv' := [(2, .int (0 : Int32)), (0, .ref (ad 0)), (1, .int p0)]) hx hb dX6_run_94 rfl hl (by decide) rfl (fun ls hl => ?_)
    refine r_jn hf (fun F16 eF16 hf => ?_)
    have EF16 : ∀ (x17 : Int32) (M18 : Mem) (H : Heap) (locs : List Loc) (ls : Array Slot), va_P D vwCl (gw 25 ad (spM ad cI cZ) M18) H → va_S A s.heap H locs → lv_has ls 3 [(0, .ref (ad 0)), (1, .int p0), (2, .int x17)] → F16 x17 M18 = some res → W p l e (headSpec wsX6_run { frames := 6, cells := 0, slots := 0, locals := 141 }).room s m (([.ref (ad 0), .int p0] : List Value).toArray) below meth c H locs 0 0 (MQ below (Qf D vwCl 25 ad (spM ad cI cZ) A (some (.int res.1)) res.2) (([.ref (ad 0), .int p0] : List Value).toArray) s 0 0 A) (F0 m 125 ls []) := by
      intro x17 M18 H locs ls hP hS hl hf
      rw [eF16] at hf
      refine lv_aload_n hx hb dX6_run_125 rfl (lv_at hl 0 rfl) ?_
      refine r_getc (k' := 16) (j := 16) hx hb hts inX6 hown hK hP (obX6) rfl (by decide) (hts (.fieldLink RX6 56 "PageMonitorModel" "kept" "[I") (by decide +kernel)) (fun _ => rfl) dX6_run_126 ?_
      refine lv_iconst (v := (5 : Int32)) hx hb dX6_run_129 (by decide) ?_
      refine lv_aload_n hx hb dX6_run_130 rfl (lv_at hl 0 rfl) ?_
      refine r_getik (j := 20) hx hb hts inX6 hown hK hP (obX6) rfl (by decide) (hts (.fieldLink RX6 269 "PageMonitorModel" "running" "I") (by decide +kernel)) (fun _ => rfl) dX6_run_131 hf (fun x19 hf => ?_)
      refine lv_imul hx hb dX6_run_134 ?_
      refine lv_iconst (v := (4 : Int32)) hx hb dX6_run_135 (by decide) ?_
      refine lv_iadd hx hb dX6_run_136 ?_
      refine lv_aload_n hx hb dX6_run_137 rfl (lv_at hl 0 rfl) ?_
      refine r_getik (j := 23) hx hb hts inX6 hown hK hP (obX6) rfl (by decide) (hts (.fieldLink RX6 250 "PageMonitorModel" "at" "I") (by decide +kernel)) (fun _ => rfl) dX6_run_138 hf (fun x20 hf => ?_)
      refine r_iastk hx hb hI hA hK hP hS 0 ma16 rfl dX6_run_141 hf (fun M21 H locs hP hS hf => ?_)
      refine lv_bipush (v := (8 : Int32)) hx hb dX6_run_142 (by decide) ?_
      obtain rfl := Option.some.inj hf
      exact r_iret hx hb hr hlocks hP hS dX6_run_144
    have LF16 : ∀ (n : Nat) (x14 : Int32) (M15 : Mem) (H : Heap) (locs : List Loc) (ls : Array Slot), va_P D vwCl (gw 25 ad (spM ad cI cZ) M15) H → va_S A s.heap H locs → lv_has ls 3 [(0, .ref (ad 0)), (1, .int p0), (2, .int x14)] → lp_X6_run_95 F16 n x14 M15 = some res → W p l e (headSpec wsX6_run { frames := 6, cells := 0, slots := 0, locals := 141 }).room s m (([.ref (ad 0), .int p0] : List Value).toArray) below meth c H locs 0 0 (MQ below (Qf D vwCl 25 ad (spM ad cI cZ) A (some (.int res.1)) res.2) (([.ref (ad 0), .int p0] : List Value).toArray) s 0 0 A) (F0 m 95 ls []) := by
      intro n
      induction n with
      | zero =>
        intro x14 M15 H locs ls hP hS hl hf
        exact absurd hf (fun h => nomatch h)
      | succ n ih =>
        intro x14 M15 H locs ls hP hS hl hf
        rw [lp_X6_run_95_s] at hf
        refine lv_iload_n hx hb dX6_run_95 rfl (lv_at hl 2 rfl) ?_
        refine lv_iconst (v := (4 : Int32)) hx hb dX6_run_96 (by decide) ?_
        refine r_icmp_ge (tgt := 125) hx hb dX6_run_97 (by decide) hf (fun hf => ?_) (fun hf => ?_)
        · exact EF16 x14 M15 _ _ _ hP hS (lv_sub hl [0, 1, 2] rfl) hf
        · refine lv_aload_n hx hb dX6_run_100 rfl (lv_at hl 0 rfl) ?_
          refine r_getc (k' := 16) (j := 16) hx hb hts inX6 hown hK hP (obX6) rfl (by decide) (hts (.fieldLink RX6 56 "PageMonitorModel" "kept" "[I") (by decide +kernel)) (fun _ => rfl) dX6_run_101 ?_
          refine lv_iconst (v := (5 : Int32)) hx hb dX6_run_104 (by decide) ?_
          refine lv_aload_n hx hb dX6_run_105 rfl (lv_at hl 0 rfl) ?_
          refine r_getik (j := 20) hx hb hts inX6 hown hK hP (obX6) rfl (by decide) (hts (.fieldLink RX6 269 "PageMonitorModel" "running" "I") (by decide +kernel)) (fun _ => rfl) dX6_run_106 hf (fun x22 hf => ?_)
          refine lv_imul hx hb dX6_run_109 ?_
          refine lv_iload_n hx hb dX6_run_110 rfl (lv_at hl 2 rfl) ?_
          refine lv_iadd hx hb dX6_run_111 ?_
          refine lv_aload_n hx hb dX6_run_112 rfl (lv_at hl 0 rfl) ?_
          refine r_getc (k' := 17) (j := 22) hx hb hts inX6 hown hK hP (obX6) rfl (by decide) (hts (.fieldLink RX6 59 "PageMonitorModel" "\x72" "[I") (by decide +kernel)) (fun _ => rfl) dX6_run_113 ?_
          refine lv_iload_n hx hb dX6_run_116 rfl (lv_at hl 2 rfl) ?_
          refine r_ialdk hx hb hK hP 0 ma17 rfl dX6_run_117 hf (fun x23 hf => ?_)
          refine r_iastk hx hb hI hA hK hP hS 0 ma16 rfl dX6_run_118 hf (fun M24 H locs hP hS hf => ?_)
          refine lv_iinc (v := x14 + (1 : Int32)) (lv' := [(2, .int (x14 + (1 : Int32))), (0, .ref (ad 0)), (1, .int p0)]) hx hb dX6_run_119 hl (k := 2) rfl rfl (by decide) rfl (fun ls hl => ?_)
          refine lv_goto (tgt := 95) hx hb dX6_run_122 (by decide) ?_
          exact ih (x14 + (1 : Int32)) M24 _ _ _ hP hS (lv_sub hl [1, 2, 0] rfl) hf
    exact LF16 FU (0 : Int32) M13 _ _ _ hP hS (lv_sub hl [1, 2, 0] rfl) hf
  have LF10 : ∀ (n : Nat) (M9 : Mem) (H : Heap) (locs : List Loc) (ls : Array Slot), va_P D vwCl (gw 25 ad (spM ad cI cZ) M9) H → va_S A s.heap H locs → lv_has ls 3 [(0, .ref (ad 0)), (1, .int p0)] → lp_X6_run_38 p0 F10 n M9 = some res → W p l e (headSpec wsX6_run { frames := 6, cells := 0, slots := 0, locals := 141 }).room s m (([.ref (ad 0), .int p0] : List Value).toArray) below meth c H locs 0 0 (MQ below (Qf D vwCl 25 ad (spM ad cI cZ) A (some (.int res.1)) res.2) (([.ref (ad 0), .int p0] : List Value).toArray) s 0 0 A) (F0 m 38 ls []) := by
    intro n
    induction n with
    | zero =>
      intro M9 H locs ls hP hS hl hf
      exact absurd hf (fun h => nomatch h)
    | succ n ih =>
      intro M9 H locs ls hP hS hl hf
      rw [lp_X6_run_38_s] at hf
      refine lv_aload_n hx hb dX6_run_38 rfl (lv_at hl 0 rfl) ?_
      refine r_getik (j := 18) hx hb hts inX6 hown hK hP (obX6) rfl (by decide) (hts (.fieldLink RX6 272 "PageMonitorModel" "steps" "I") (by decide +kernel)) (fun _ => rfl) dX6_run_39 hf (fun x25 hf => ?_)
      refine lv_iload_n hx hb dX6_run_42 rfl (lv_at hl 1 rfl) ?_
      refine r_icmp_ge (tgt := 83) hx hb dX6_run_43 (by decide) hf (fun hf => ?_) (fun hf => ?_)
      · exact EF10 M9 _ _ _ hP hS (lv_sub hl [0, 1] rfl) hf
      · refine lv_aload_n hx hb dX6_run_46 rfl (lv_at hl 0 rfl) ?_
        refine lv_dup hx hb dX6_run_47 rfl ?_
        refine r_getik (j := 18) hx hb hts inX6 hown hK hP (obX6) rfl (by decide) (hts (.fieldLink RX6 272 "PageMonitorModel" "steps" "I") (by decide +kernel)) (fun _ => rfl) dX6_run_48 hf (fun x26 hf => ?_)
        refine lv_iconst (v := (1 : Int32)) hx hb dX6_run_51 (by decide) ?_
        refine lv_iadd hx hb dX6_run_52 ?_
        refine r_putik (j := 18) hx hb hts inX6 tyX6 tyX6_ok nmX6 hown hI hA hK hP hS (obX6) rfl (by decide) (hts (.fieldLink RX6 272 "PageMonitorModel" "steps" "I") (by decide +kernel)) rfl rfl rfl (fun _ => Nat.le_of_ble_eq_true rfl) (fun _ _ => rfl) dX6_run_53 hf (fun M27 H locs hP hS hf => ?_)
        refine lv_aload_n hx hb dX6_run_56 rfl (lv_at hl 0 rfl) ?_
        obtain ⟨q28, hq28, hf⟩ := ob hf
        refine r_call1 (va_runV (As := []) (rest := []) ⟨hx, hb, hml, hown, hts⟩ (c_X6_one hI hA hq28) (cwV 0 hts gX6_run_X6_one rfl rfl rfl (by decide +kernel) ⟨Nat.le_of_ble_eq_true rfl, Nat.le_of_ble_eq_true rfl⟩) (Pf_V XMb (XMo A) hX hK hP hS obX6 rfl) rfl rfl hl.1 rfl (lv_room (Nat.le_of_ble_eq_true rfl)) dX6_run_57 ⟨Nat.zero_le _, Nat.zero_le _⟩) hS (fun H locs hP hS => ?_)
        refine r_if_eq (tgt := 65) hx hb dX6_run_60 (by decide) hf (fun hf => ?_) (fun hf => ?_)
        · refine lv_aload_n hx hb dX6_run_65 rfl (lv_at hl 0 rfl) ?_
          refine r_getik (j := 24) hx hb hts inX6 hown hK hP (obX6) rfl (by decide) (hts (.fieldLink RX6 237 "PageMonitorModel" "fault" "I") (by decide +kernel)) (fun _ => rfl) dX6_run_66 hf (fun x29 hf => ?_)
          refine r_if_le (tgt := 38) hx hb dX6_run_69 (by decide) hf (fun hf => ?_) (fun hf => ?_)
          · exact ih q28.2 _ _ _ hP hS (lv_sub hl [0, 1] rfl) hf
          · refine lv_aload_n hx hb dX6_run_72 rfl (lv_at hl 0 rfl) ?_
            refine lv_aload_n hx hb dX6_run_73 rfl (lv_at hl 0 rfl) ?_
            refine r_getik (j := 24) hx hb hts inX6 hown hK hP (obX6) rfl (by decide) (hts (.fieldLink RX6 237 "PageMonitorModel" "fault" "I") (by decide +kernel)) (fun _ => rfl) dX6_run_74 hf (fun x30 hf => ?_)
            refine r_putik (j := 17) hx hb hts inX6 tyX6 tyX6_ok nmX6 hown hI hA hK hP hS (obX6) rfl (by decide) (hts (.fieldLink RX6 162 "PageMonitorModel" "result" "I") (by decide +kernel)) rfl rfl rfl (fun _ => Nat.le_of_ble_eq_true rfl) (fun _ _ => rfl) dX6_run_77 hf (fun M31 H locs hP hS hf => ?_)
            refine lv_bipush (v := (9 : Int32)) hx hb dX6_run_80 (by decide) ?_
            obtain rfl := Option.some.inj hf
            exact r_iret hx hb hr hlocks hP hS dX6_run_82
        · refine lv_iconst (v := (0 : Int32)) hx hb dX6_run_63 (by decide) ?_
          obtain rfl := Option.some.inj hf
          exact r_iret hx hb hr hlocks hP hS dX6_run_64
  exact LF10 FU M8 _ _ _ hP hS (lv_sub hl [0, 1] rfl) hf
set_option maxHeartbeats 4000000 in
set_option maxRecDepth 100000 in
theorem c_X6_wantThread {l : Launch} {D : va_G} {ad : Nat → Nat} {cI cZ cP cR : ClassId} {A : Nat → Prop} {M : Mem} {p0 : Int32} {p1 : Int32} {p2 : Int32} {res : Mem} (hI : gInj 25 ad) (hA : ∀ k, k < 25 → A (ad k)) (hf : fX6_wantThread M p0 p1 p2 = some res) : Met l yX6_wantThread wsX6_wantThread { frames := 2, cells := 0, slots := 0, locals := 42 } (va_Pc [.ref (ad 0), .int p0, .int p1, .int p2] (Pf D vwCl (tysW cI cZ cP cR) 25 ad (spM ad cI cZ) XM M)) (Qf D vwCl 25 ad (spM ad cI cZ) A none res) 0 0 A := by
  refine Met.ofW (cc := cX6_wantThread) (maxL := 4) (ret := none) (by decide) rfl ?_
  intro p e s m args below meth c s₁ B hml hv
  obtain ⟨rfl, hP, hK, hX⟩ := hv
  have hx := B.exec
  have hb := B.bytes
  have hr := B.returns
  have hts := atoms_spec (ws := wsX6_wantThread) B.pre
  have hown : s.vm.findClass RX6 = some m.cls := findClass_of_methodNamed B.named
  have hlocks := B.notSynchronized
  have inX6 : ∀ w ∈ wsX60, w ∈ wsX6_wantThread := by decide +kernel
  have hS : va_S A s.heap s.heap [] := va_S.rf
  have hl := lv_entry ([.ref (ad 0), .int p0, .int p1, .int p2]) (n := 4) (Nat.le_of_ble_eq_true rfl)
  rw [lg_entry_eq]
  generalize (lg_sl ([.ref (ad 0), .int p0, .int p1, .int p2]) ++ List.replicate (4 - (lg_sl ([.ref (ad 0), .int p0, .int p1, .int p2])).length) Slot.unset).toArray = ls at hl ⊢
  have hl : lv_has ls 4 [(0, .ref (ad 0)), (1, .int p0), (2, .int p1), (3, .int p2)] := hl
  rw [fX6_wantThread] at hf
  refine lv_aload_n hx hb dX6_wantThread_0 rfl (lv_at hl 0 rfl) ?_
  obtain ⟨q1, hq1, hf⟩ := ob hf
  refine r_callv (va_runV (As := []) (rest := []) ⟨hx, hb, hml, hown, hts⟩ (c_X6_begin hI hA hq1) (cwV 0 hts gX6_wantThread_X6_begin rfl rfl rfl (by decide +kernel) ⟨Nat.le_of_ble_eq_true rfl, Nat.le_of_ble_eq_true rfl⟩) (Pf_V XMb (XMo A) hX hK hP hS obX6 rfl) rfl rfl hl.1 rfl (lv_room (Nat.le_of_ble_eq_true rfl)) dX6_wantThread_1 ⟨Nat.zero_le _, Nat.zero_le _⟩) hS (fun H locs hP hS => ?_)
  refine lv_aload_n hx hb dX6_wantThread_4 rfl (lv_at hl 0 rfl) ?_
  refine lv_iload_n hx hb dX6_wantThread_5 rfl (lv_at hl 1 rfl) ?_
  obtain ⟨q2, hq2, hf⟩ := ob hf
  refine r_call1 (va_runS (As := [.int p0]) (rest := [.ref (ad 0)]) ⟨hx, hb, hml, hown, hts⟩ (c_X6_noPage hI hA hq2) (va_cwS 1 hts gX6_wantThread_X6_noPage rfl rfl rfl (by decide +kernel) ⟨Nat.le_of_ble_eq_true rfl, Nat.le_of_ble_eq_true rfl⟩) (Pf_S XMb (XMo A) hX hK hP hS) rfl rfl hl.1 rfl (lv_room (Nat.le_of_ble_eq_true rfl)) dX6_wantThread_6 ⟨Nat.zero_le _, Nat.zero_le _⟩) hS (fun H locs hP hS => ?_)
  refine r_jn hf (fun K4 eK4 hf => ?_)
  have JK4 : ∀ (x3 : Int32) (H : Heap) (locs : List Loc) (ls : Array Slot), va_P D vwCl (gw 25 ad (spM ad cI cZ) q2.2) H → va_S A s.heap H locs → lv_has ls 4 [(0, .ref (ad 0)), (1, .int p0), (2, .int p1), (3, .int p2)] → K4 x3 = some res → W p l e (headSpec wsX6_wantThread { frames := 2, cells := 0, slots := 0, locals := 42 }).room s m (([.ref (ad 0), .int p0, .int p1, .int p2] : List Value).toArray) below meth c H locs 0 0 (MQ below (Qf D vwCl 25 ad (spM ad cI cZ) A none res) (([.ref (ad 0), .int p0, .int p1, .int p2] : List Value).toArray) s 0 0 A) (F0 m 29 ls [.int x3, .ref (ad 0)]) := by
    intro x3 H locs ls hP hS hl hf
    rw [eK4] at hf
    refine lv_iconst (v := (1 : Int32)) hx hb dX6_wantThread_29 (by decide) ?_
    obtain ⟨q5, hq5, hf⟩ := ob hf
    refine r_callv (va_runV (As := [.int x3, .int (1 : Int32)]) (rest := []) ⟨hx, hb, hml, hown, hts⟩ (c_X6_wrong hI hA hq5) (cwV 2 hts gX6_wantThread_X6_wrong rfl rfl rfl (by decide +kernel) ⟨Nat.le_of_ble_eq_true rfl, Nat.le_of_ble_eq_true rfl⟩) (Pf_V XMb (XMo A) hX hK hP hS obX6 rfl) rfl rfl hl.1 rfl (lv_room (Nat.le_of_ble_eq_true rfl)) dX6_wantThread_30 ⟨Nat.zero_le _, Nat.zero_le _⟩) hS (fun H locs hP hS => ?_)
    refine lv_aload_n hx hb dX6_wantThread_33 rfl (lv_at hl 0 rfl) ?_
    refine lv_aload_n hx hb dX6_wantThread_34 rfl (lv_at hl 0 rfl) ?_
    refine lv_iload_n hx hb dX6_wantThread_35 rfl (lv_at hl 1 rfl) ?_
    refine lv_iconst (v := (2 : Int32)) hx hb dX6_wantThread_36 (by decide) ?_
    obtain ⟨q6, hq6, hf⟩ := ob hf
    refine r_call1 (va_runV (As := [.int p0, .int (2 : Int32)]) (rest := [.ref (ad 0)]) ⟨hx, hb, hml, hown, hts⟩ (c_X6_isKind hI hA hq6) (cwV 2 hts gX6_wantThread_X6_isKind rfl rfl rfl (by decide +kernel) ⟨Nat.le_of_ble_eq_true rfl, Nat.le_of_ble_eq_true rfl⟩) (Pf_V XMb (XMo A) hX hK hP hS obX6 rfl) rfl rfl hl.1 rfl (lv_room (Nat.le_of_ble_eq_true rfl)) dX6_wantThread_37 ⟨Nat.zero_le _, Nat.zero_le _⟩) hS (fun H locs hP hS => ?_)
    refine r_jn hf (fun K8 eK8 hf => ?_)
    have JK8 : ∀ (x7 : Int32) (H : Heap) (locs : List Loc) (ls : Array Slot), va_P D vwCl (gw 25 ad (spM ad cI cZ) q6.2) H → va_S A s.heap H locs → lv_has ls 4 [(0, .ref (ad 0)), (1, .int p0), (2, .int p1), (3, .int p2)] → K8 x7 = some res → W p l e (headSpec wsX6_wantThread { frames := 2, cells := 0, slots := 0, locals := 42 }).room s m (([.ref (ad 0), .int p0, .int p1, .int p2] : List Value).toArray) below meth c H locs 0 0 (MQ below (Qf D vwCl 25 ad (spM ad cI cZ) A none res) (([.ref (ad 0), .int p0, .int p1, .int p2] : List Value).toArray) s 0 0 A) (F0 m 48 ls [.int x7, .ref (ad 0)]) := by
      intro x7 H locs ls hP hS hl hf
      rw [eK8] at hf
      refine lv_iconst (v := (3 : Int32)) hx hb dX6_wantThread_48 (by decide) ?_
      obtain ⟨q9, hq9, hf⟩ := ob hf
      refine r_callv (va_runV (As := [.int x7, .int (3 : Int32)]) (rest := []) ⟨hx, hb, hml, hown, hts⟩ (c_X6_wrong hI hA hq9) (cwV 2 hts gX6_wantThread_X6_wrong rfl rfl rfl (by decide +kernel) ⟨Nat.le_of_ble_eq_true rfl, Nat.le_of_ble_eq_true rfl⟩) (Pf_V XMb (XMo A) hX hK hP hS obX6 rfl) rfl rfl hl.1 rfl (lv_room (Nat.le_of_ble_eq_true rfl)) dX6_wantThread_49 ⟨Nat.zero_le _, Nat.zero_le _⟩) hS (fun H locs hP hS => ?_)
      refine lv_aload_n hx hb dX6_wantThread_52 rfl (lv_at hl 0 rfl) ?_
      refine lv_aload_n hx hb dX6_wantThread_53 rfl (lv_at hl 0 rfl) ?_
      refine r_getik (j := 19) hx hb hts inX6 hown hK hP (obX6) rfl (by decide) (hts (.fieldLink RX6 183 "PageMonitorModel" "least" "I") (by decide +kernel)) (fun _ => rfl) dX6_wantThread_54 hf (fun x10 hf => ?_)
      refine r_jn hf (fun K14 eK14 hf => ?_)
      have JK14 : ∀ (x13 : Int32) (H : Heap) (locs : List Loc) (ls : Array Slot), va_P D vwCl (gw 25 ad (spM ad cI cZ) q9) H → va_S A s.heap H locs → lv_has ls 4 [(0, .ref (ad 0)), (1, .int p0), (2, .int p1), (3, .int p2)] → K14 x13 = some res → W p l e (headSpec wsX6_wantThread { frames := 2, cells := 0, slots := 0, locals := 42 }).room s m (([.ref (ad 0), .int p0, .int p1, .int p2] : List Value).toArray) below meth c H locs 0 0 (MQ below (Qf D vwCl 25 ad (spM ad cI cZ) A none res) (([.ref (ad 0), .int p0, .int p1, .int p2] : List Value).toArray) s 0 0 A) (F0 m 80 ls [.int x13, .ref (ad 0)]) := by
        intro x13 H locs ls hP hS hl hf
        rw [eK14] at hf
        refine lv_iconst (v := (4 : Int32)) hx hb dX6_wantThread_80 (by decide) ?_
        obtain ⟨q15, hq15, hf⟩ := ob hf
        refine r_callv (va_runV (As := [.int x13, .int (4 : Int32)]) (rest := []) ⟨hx, hb, hml, hown, hts⟩ (c_X6_wrong hI hA hq15) (cwV 2 hts gX6_wantThread_X6_wrong rfl rfl rfl (by decide +kernel) ⟨Nat.le_of_ble_eq_true rfl, Nat.le_of_ble_eq_true rfl⟩) (Pf_V XMb (XMo A) hX hK hP hS obX6 rfl) rfl rfl hl.1 rfl (lv_room (Nat.le_of_ble_eq_true rfl)) dX6_wantThread_81 ⟨Nat.zero_le _, Nat.zero_le _⟩) hS (fun H locs hP hS => ?_)
        refine lv_aload_n hx hb dX6_wantThread_84 rfl (lv_at hl 0 rfl) ?_
        refine lv_aload_n hx hb dX6_wantThread_85 rfl (lv_at hl 0 rfl) ?_
        refine r_getik (j := 19) hx hb hts inX6 hown hK hP (obX6) rfl (by decide) (hts (.fieldLink RX6 183 "PageMonitorModel" "least" "I") (by decide +kernel)) (fun _ => rfl) dX6_wantThread_86 hf (fun x16 hf => ?_)
        refine r_jn hf (fun K19 eK19 hf => ?_)
        have JK19 : ∀ (x18 : Int32) (H : Heap) (locs : List Loc) (ls : Array Slot), va_P D vwCl (gw 25 ad (spM ad cI cZ) q15) H → va_S A s.heap H locs → lv_has ls 4 [(0, .ref (ad 0)), (1, .int p0), (2, .int p1), (3, .int p2)] → K19 x18 = some res → W p l e (headSpec wsX6_wantThread { frames := 2, cells := 0, slots := 0, locals := 42 }).room s m (([.ref (ad 0), .int p0, .int p1, .int p2] : List Value).toArray) below meth c H locs 0 0 (MQ below (Qf D vwCl 25 ad (spM ad cI cZ) A none res) (([.ref (ad 0), .int p0, .int p1, .int p2] : List Value).toArray) s 0 0 A) (F0 m 107 ls [.int x18, .ref (ad 0)]) := by
          intro x18 H locs ls hP hS hl hf
          rw [eK19] at hf
          refine lv_bipush (v := (6 : Int32)) hx hb dX6_wantThread_107 (by decide) ?_
          obtain ⟨q20, hq20, hf⟩ := ob hf
          refine r_callv (va_runV (As := [.int x18, .int (6 : Int32)]) (rest := []) ⟨hx, hb, hml, hown, hts⟩ (c_X6_wrong hI hA hq20) (cwV 2 hts gX6_wantThread_X6_wrong rfl rfl rfl (by decide +kernel) ⟨Nat.le_of_ble_eq_true rfl, Nat.le_of_ble_eq_true rfl⟩) (Pf_V XMb (XMo A) hX hK hP hS obX6 rfl) rfl rfl hl.1 rfl (lv_room (Nat.le_of_ble_eq_true rfl)) dX6_wantThread_109 ⟨Nat.zero_le _, Nat.zero_le _⟩) hS (fun H locs hP hS => ?_)
          obtain rfl := Option.some.inj hf
          exact r_vret hx hb hr hlocks hP hS dX6_wantThread_112
        refine r_if_ne (tgt := 106) hx hb dX6_wantThread_89 (by decide) hf (fun hf => ?_) (fun hf => ?_)
        · refine lv_iconst (v := (0 : Int32)) hx hb dX6_wantThread_106 (by decide) ?_
          exact JK19 (0 : Int32) _ _ _ hP hS (lv_sub hl [0, 1, 2, 3] rfl) hf
        · refine lv_aload_n hx hb dX6_wantThread_92 rfl (lv_at hl 0 rfl) ?_
          refine r_getc (k' := 15) (j := 15) hx hb hts inX6 hown hK hP (obX6) rfl (by decide) (hts (.fieldLink RX6 53 "PageMonitorModel" "entered" "[Z") (by decide +kernel)) (fun _ => rfl) dX6_wantThread_93 ?_
          refine lv_iload_n hx hb dX6_wantThread_96 rfl (lv_at hl 1 rfl) ?_
          refine r_zaldk hx hb hK hP 1 ma15 rfl dX6_wantThread_97 hf (fun x21 hf => ?_)
          refine lv_iload_n hx hb dX6_wantThread_98 rfl (lv_at hl 3 rfl) ?_
          refine r_icmp_eq (tgt := 106) hx hb dX6_wantThread_99 (by decide) hf (fun hf => ?_) (fun hf => ?_)
          · refine lv_iconst (v := (0 : Int32)) hx hb dX6_wantThread_106 (by decide) ?_
            exact JK19 (0 : Int32) _ _ _ hP hS (lv_sub hl [0, 1, 2, 3] rfl) hf
          · refine lv_iconst (v := (1 : Int32)) hx hb dX6_wantThread_102 (by decide) ?_
            refine lv_goto (tgt := 107) hx hb dX6_wantThread_103 (by decide) ?_
            exact JK19 (1 : Int32) _ _ _ hP hS (lv_sub hl [0, 1, 2, 3] rfl) hf
      refine r_if_ne (tgt := 79) hx hb dX6_wantThread_57 (by decide) hf (fun hf => ?_) (fun hf => ?_)
      · refine lv_iconst (v := (0 : Int32)) hx hb dX6_wantThread_79 (by decide) ?_
        exact JK14 (0 : Int32) _ _ _ hP hS (lv_sub hl [0, 1, 2, 3] rfl) hf
      · refine lv_aload_n hx hb dX6_wantThread_60 rfl (lv_at hl 0 rfl) ?_
        refine r_getc (k' := 5) (j := 5) hx hb hts inX6 hown hK hP (obX6) rfl (by decide) (hts (.fieldLink RX6 22 "PageMonitorModel" "states" "[I") (by decide +kernel)) (fun _ => rfl) dX6_wantThread_61 ?_
        refine lv_aload_n hx hb dX6_wantThread_64 rfl (lv_at hl 0 rfl) ?_
        refine r_getc (k' := 4) (j := 4) hx hb hts inX6 hown hK hP (obX6) rfl (by decide) (hts (.fieldLink RX6 19 "PageMonitorModel" "owners" "[I") (by decide +kernel)) (fun _ => rfl) dX6_wantThread_65 ?_
        refine lv_iload_n hx hb dX6_wantThread_68 rfl (lv_at hl 1 rfl) ?_
        refine r_ialdk hx hb hK hP 0 ma4 rfl dX6_wantThread_69 hf (fun x22 hf => ?_)
        refine r_ialdk hx hb hK hP 0 ma5 rfl dX6_wantThread_70 hf (fun x23 hf => ?_)
        refine lv_iconst (v := (1 : Int32)) hx hb dX6_wantThread_71 (by decide) ?_
        refine r_icmp_eq (tgt := 79) hx hb dX6_wantThread_72 (by decide) hf (fun hf => ?_) (fun hf => ?_)
        · refine lv_iconst (v := (0 : Int32)) hx hb dX6_wantThread_79 (by decide) ?_
          exact JK14 (0 : Int32) _ _ _ hP hS (lv_sub hl [0, 1, 2, 3] rfl) hf
        · refine lv_iconst (v := (1 : Int32)) hx hb dX6_wantThread_75 (by decide) ?_
          refine lv_goto (tgt := 80) hx hb dX6_wantThread_76 (by decide) ?_
          exact JK14 (1 : Int32) _ _ _ hP hS (lv_sub hl [0, 1, 2, 3] rfl) hf
    refine r_if_ne (tgt := 47) hx hb dX6_wantThread_40 (by decide) hf (fun hf => ?_) (fun hf => ?_)
    · refine lv_iconst (v := (0 : Int32)) hx hb dX6_wantThread_47 (by decide) ?_
      exact JK8 (0 : Int32) _ _ _ hP hS (lv_sub hl [0, 1, 2, 3] rfl) hf
    · refine lv_iconst (v := (1 : Int32)) hx hb dX6_wantThread_43 (by decide) ?_
      refine lv_goto (tgt := 48) hx hb dX6_wantThread_44 (by decide) ?_
      exact JK8 (1 : Int32) _ _ _ hP hS (lv_sub hl [0, 1, 2, 3] rfl) hf
  refine r_if_ne (tgt := 24) hx hb dX6_wantThread_9 (by decide) hf (fun hf => ?_) (fun hf => ?_)
  · refine lv_iconst (v := (1 : Int32)) hx hb dX6_wantThread_24 (by decide) ?_
    refine lv_goto (tgt := 29) hx hb dX6_wantThread_25 (by decide) ?_
    exact JK4 (1 : Int32) _ _ _ hP hS (lv_sub hl [0, 1, 2, 3] rfl) hf
  · refine lv_iload_n hx hb dX6_wantThread_12 rfl (lv_at hl 2 rfl) ?_
    refine lv_iconst (v := (1 : Int32)) hx hb dX6_wantThread_13 (by decide) ?_
    refine r_icmp_lt (tgt := 24) hx hb dX6_wantThread_14 (by decide) hf (fun hf => ?_) (fun hf => ?_)
    · refine lv_iconst (v := (1 : Int32)) hx hb dX6_wantThread_24 (by decide) ?_
      refine lv_goto (tgt := 29) hx hb dX6_wantThread_25 (by decide) ?_
      exact JK4 (1 : Int32) _ _ _ hP hS (lv_sub hl [0, 1, 2, 3] rfl) hf
    · refine lv_iload_n hx hb dX6_wantThread_17 rfl (lv_at hl 2 rfl) ?_
      refine lv_sipush (v := (2000 : Int32)) hx hb dX6_wantThread_18 (by decide) ?_
      refine r_icmp_le (tgt := 28) hx hb dX6_wantThread_21 (by decide) hf (fun hf => ?_) (fun hf => ?_)
      · refine lv_iconst (v := (0 : Int32)) hx hb dX6_wantThread_28 (by decide) ?_
        exact JK4 (0 : Int32) _ _ _ hP hS (lv_sub hl [0, 1, 2, 3] rfl) hf
      · refine lv_iconst (v := (1 : Int32)) hx hb dX6_wantThread_24 (by decide) ?_
        refine lv_goto (tgt := 29) hx hb dX6_wantThread_25 (by decide) ?_
        exact JK4 (1 : Int32) _ _ _ hP hS (lv_sub hl [0, 1, 2, 3] rfl) hf
set_option maxHeartbeats 4000000 in
set_option maxRecDepth 100000 in
theorem c_X6_enter {l : Launch} {D : va_G} {ad : Nat → Nat} {cI cZ cP cR : ClassId} {A : Nat → Prop} {M : Mem} {p0 : Int32} {p1 : Int32} {p2 : Int32} {p3 : Int32} {res : (Int32 × Mem)} (hI : gInj 25 ad) (hA : ∀ k, k < 25 → A (ad k)) (hf : fX6_enter M p0 p1 p2 p3 = some res) : Met l yX6_enter wsX6_enter { frames := 7, cells := 0, slots := 0, locals := 163 } (va_Pc [.ref (ad 0), .int p0, .int p1, .int p2, .int p3] (Pf D vwCl (tysW cI cZ cP cR) 25 ad (spM ad cI cZ) XM M)) (Qf D vwCl 25 ad (spM ad cI cZ) A (some (.int res.1)) res.2) 0 0 A := by
  refine Met.ofW (cc := cX6_enter) (maxL := 5) (ret := (some .int)) (by decide) rfl ?_
  intro p e s m args below meth c s₁ B hml hv
  obtain ⟨rfl, hP, hK, hX⟩ := hv
  have hx := B.exec
  have hb := B.bytes
  have hr := B.returns
  have hts := atoms_spec (ws := wsX6_enter) B.pre
  have hown : s.vm.findClass RX6 = some m.cls := findClass_of_methodNamed B.named
  have hlocks := B.notSynchronized
  have inX6 : ∀ w ∈ wsX60, w ∈ wsX6_enter := by decide +kernel
  have hS : va_S A s.heap s.heap [] := va_S.rf
  have hl := lv_entry ([.ref (ad 0), .int p0, .int p1, .int p2, .int p3]) (n := 5) (Nat.le_of_ble_eq_true rfl)
  rw [lg_entry_eq]
  generalize (lg_sl ([.ref (ad 0), .int p0, .int p1, .int p2, .int p3]) ++ List.replicate (5 - (lg_sl ([.ref (ad 0), .int p0, .int p1, .int p2, .int p3])).length) Slot.unset).toArray = ls at hl ⊢
  have hl : lv_has ls 5 [(0, .ref (ad 0)), (1, .int p0), (2, .int p1), (3, .int p2), (4, .int p3)] := hl
  rw [fX6_enter] at hf
  refine lv_aload_n hx hb dX6_enter_0 rfl (lv_at hl 0 rfl) ?_
  refine lv_iload_n hx hb dX6_enter_1 rfl (lv_at hl 1 rfl) ?_
  refine lv_iload hx hb dX6_enter_2 (lv_at hl 4 rfl) ?_
  refine lv_iconst (v := (0 : Int32)) hx hb dX6_enter_4 (by decide) ?_
  obtain ⟨q1, hq1, hf⟩ := ob hf
  refine r_callv (va_runV (As := [.int p0, .int p3, .int (0 : Int32)]) (rest := []) ⟨hx, hb, hml, hown, hts⟩ (c_X6_wantThread hI hA hq1) (cwV 3 hts gX6_enter_X6_wantThread rfl rfl rfl (by decide +kernel) ⟨Nat.le_of_ble_eq_true rfl, Nat.le_of_ble_eq_true rfl⟩) (Pf_V XMb (XMo A) hX hK hP hS obX6 rfl) rfl rfl hl.1 rfl (lv_room (Nat.le_of_ble_eq_true rfl)) dX6_enter_5 ⟨Nat.zero_le _, Nat.zero_le _⟩) hS (fun H locs hP hS => ?_)
  refine lv_aload_n hx hb dX6_enter_8 rfl (lv_at hl 0 rfl) ?_
  refine r_getik (j := 19) hx hb hts inX6 hown hK hP (obX6) rfl (by decide) (hts (.fieldLink RX6 183 "PageMonitorModel" "least" "I") (by decide +kernel)) (fun _ => rfl) dX6_enter_9 hf (fun x2 hf => ?_)
  refine r_if_le (tgt := 20) hx hb dX6_enter_12 (by decide) hf (fun hf => ?_) (fun hf => ?_)
  · refine lv_aload_n hx hb dX6_enter_20 rfl (lv_at hl 0 rfl) ?_
    refine lv_iload_n hx hb dX6_enter_21 rfl (lv_at hl 1 rfl) ?_
    refine r_putik (j := 20) hx hb hts inX6 tyX6 tyX6_ok nmX6 hown hI hA hK hP hS (obX6) rfl (by decide) (hts (.fieldLink RX6 269 "PageMonitorModel" "running" "I") (by decide +kernel)) rfl rfl rfl (fun _ => Nat.le_of_ble_eq_true rfl) (fun _ _ => rfl) dX6_enter_22 hf (fun M3 H locs hP hS hf => ?_)
    refine lv_aload_n hx hb dX6_enter_25 rfl (lv_at hl 0 rfl) ?_
    refine r_getc (k' := 17) (j := 22) hx hb hts inX6 hown hK hP (obX6) rfl (by decide) (hts (.fieldLink RX6 59 "PageMonitorModel" "\x72" "[I") (by decide +kernel)) (fun _ => rfl) dX6_enter_26 ?_
    refine lv_iconst (v := (0 : Int32)) hx hb dX6_enter_29 (by decide) ?_
    refine lv_iload_n hx hb dX6_enter_30 rfl (lv_at hl 2 rfl) ?_
    refine r_iastk hx hb hI hA hK hP hS 0 ma17 rfl dX6_enter_31 hf (fun M4 H locs hP hS hf => ?_)
    refine lv_aload_n hx hb dX6_enter_32 rfl (lv_at hl 0 rfl) ?_
    refine r_getc (k' := 17) (j := 22) hx hb hts inX6 hown hK hP (obX6) rfl (by decide) (hts (.fieldLink RX6 59 "PageMonitorModel" "\x72" "[I") (by decide +kernel)) (fun _ => rfl) dX6_enter_33 ?_
    refine lv_iconst (v := (1 : Int32)) hx hb dX6_enter_36 (by decide) ?_
    refine lv_iload_n hx hb dX6_enter_37 rfl (lv_at hl 3 rfl) ?_
    refine r_iastk hx hb hI hA hK hP hS 0 ma17 rfl dX6_enter_38 hf (fun M5 H locs hP hS hf => ?_)
    refine lv_aload_n hx hb dX6_enter_39 rfl (lv_at hl 0 rfl) ?_
    refine r_getc (k' := 17) (j := 22) hx hb hts inX6 hown hK hP (obX6) rfl (by decide) (hts (.fieldLink RX6 59 "PageMonitorModel" "\x72" "[I") (by decide +kernel)) (fun _ => rfl) dX6_enter_40 ?_
    refine lv_iconst (v := (2 : Int32)) hx hb dX6_enter_43 (by decide) ?_
    refine lv_iconst (v := (0 : Int32)) hx hb dX6_enter_44 (by decide) ?_
    refine r_iastk hx hb hI hA hK hP hS 0 ma17 rfl dX6_enter_45 hf (fun M6 H locs hP hS hf => ?_)
    refine lv_aload_n hx hb dX6_enter_46 rfl (lv_at hl 0 rfl) ?_
    refine r_getc (k' := 17) (j := 22) hx hb hts inX6 hown hK hP (obX6) rfl (by decide) (hts (.fieldLink RX6 59 "PageMonitorModel" "\x72" "[I") (by decide +kernel)) (fun _ => rfl) dX6_enter_47 ?_
    refine lv_iconst (v := (3 : Int32)) hx hb dX6_enter_50 (by decide) ?_
    refine lv_iconst (v := (0 : Int32)) hx hb dX6_enter_51 (by decide) ?_
    refine r_iastk hx hb hI hA hK hP hS 0 ma17 rfl dX6_enter_52 hf (fun M7 H locs hP hS hf => ?_)
    refine lv_aload_n hx hb dX6_enter_53 rfl (lv_at hl 0 rfl) ?_
    refine lv_aload_n hx hb dX6_enter_54 rfl (lv_at hl 0 rfl) ?_
    refine r_getc (k' := 14) (j := 14) hx hb hts inX6 hown hK hP (obX6) rfl (by decide) (hts (.fieldLink RX6 50 "PageMonitorModel" "starts" "[I") (by decide +kernel)) (fun _ => rfl) dX6_enter_55 ?_
    refine lv_iload_n hx hb dX6_enter_58 rfl (lv_at hl 1 rfl) ?_
    refine r_ialdk hx hb hK hP 0 ma14 rfl dX6_enter_59 hf (fun x8 hf => ?_)
    refine r_putik (j := 23) hx hb hts inX6 tyX6 tyX6_ok nmX6 hown hI hA hK hP hS (obX6) rfl (by decide) (hts (.fieldLink RX6 250 "PageMonitorModel" "at" "I") (by decide +kernel)) rfl rfl rfl (fun _ => Nat.le_of_ble_eq_true rfl) (fun _ _ => rfl) dX6_enter_60 hf (fun M9 H locs hP hS hf => ?_)
    refine lv_aload_n hx hb dX6_enter_63 rfl (lv_at hl 0 rfl) ?_
    refine lv_iload hx hb dX6_enter_64 (lv_at hl 4 rfl) ?_
    obtain ⟨q10, hq10, hf⟩ := ob hf
    refine r_call1 (va_runV (As := [.int p3]) (rest := []) ⟨hx, hb, hml, hown, hts⟩ (c_X6_run hI hA hq10) (cwV 1 hts gX6_enter_X6_run rfl rfl rfl (by decide +kernel) ⟨Nat.le_of_ble_eq_true rfl, Nat.le_of_ble_eq_true rfl⟩) (Pf_V XMb (XMo A) hX hK hP hS obX6 rfl) rfl rfl hl.1 rfl (lv_room (Nat.le_of_ble_eq_true rfl)) dX6_enter_66 ⟨Nat.zero_le _, Nat.zero_le _⟩) hS (fun H locs hP hS => ?_)
    obtain rfl := Option.some.inj hf
    exact r_iret hx hb hr hlocks hP hS dX6_enter_69
  · refine lv_aload_n hx hb dX6_enter_15 rfl (lv_at hl 0 rfl) ?_
    refine r_getik (j := 19) hx hb hts inX6 hown hK hP (obX6) rfl (by decide) (hts (.fieldLink RX6 183 "PageMonitorModel" "least" "I") (by decide +kernel)) (fun _ => rfl) dX6_enter_16 hf (fun x11 hf => ?_)
    obtain rfl := Option.some.inj hf
    exact r_iret hx hb hr hlocks hP hS dX6_enter_19
set_option maxHeartbeats 4000000 in
set_option maxRecDepth 100000 in
theorem c_X6_resume {l : Launch} {D : va_G} {ad : Nat → Nat} {cI cZ cP cR : ClassId} {A : Nat → Prop} {M : Mem} {p0 : Int32} {p1 : Int32} {res : (Int32 × Mem)} (hI : gInj 25 ad) (hA : ∀ k, k < 25 → A (ad k)) (hf : fX6_resume M p0 p1 = some res) : Met l yX6_resume wsX6_resume { frames := 7, cells := 0, slots := 0, locals := 163 } (va_Pc [.ref (ad 0), .int p0, .int p1] (Pf D vwCl (tysW cI cZ cP cR) 25 ad (spM ad cI cZ) XM M)) (Qf D vwCl 25 ad (spM ad cI cZ) A (some (.int res.1)) res.2) 0 0 A := by
  refine Met.ofW (cc := cX6_resume) (maxL := 4) (ret := (some .int)) (by decide) rfl ?_
  intro p e s m args below meth c s₁ B hml hv
  obtain ⟨rfl, hP, hK, hX⟩ := hv
  have hx := B.exec
  have hb := B.bytes
  have hr := B.returns
  have hts := atoms_spec (ws := wsX6_resume) B.pre
  have hown : s.vm.findClass RX6 = some m.cls := findClass_of_methodNamed B.named
  have hlocks := B.notSynchronized
  have inX6 : ∀ w ∈ wsX60, w ∈ wsX6_resume := by decide +kernel
  have hS : va_S A s.heap s.heap [] := va_S.rf
  have hl := lv_entry ([.ref (ad 0), .int p0, .int p1]) (n := 4) (Nat.le_of_ble_eq_true rfl)
  rw [lg_entry_eq]
  generalize (lg_sl ([.ref (ad 0), .int p0, .int p1]) ++ List.replicate (4 - (lg_sl ([.ref (ad 0), .int p0, .int p1])).length) Slot.unset).toArray = ls at hl ⊢
  have hl : lv_has ls 4 [(0, .ref (ad 0)), (1, .int p0), (2, .int p1)] := hl
  rw [fX6_resume] at hf
  refine lv_aload_n hx hb dX6_resume_0 rfl (lv_at hl 0 rfl) ?_
  refine lv_iload_n hx hb dX6_resume_1 rfl (lv_at hl 1 rfl) ?_
  refine lv_iload_n hx hb dX6_resume_2 rfl (lv_at hl 2 rfl) ?_
  refine lv_iconst (v := (1 : Int32)) hx hb dX6_resume_3 (by decide) ?_
  obtain ⟨q1, hq1, hf⟩ := ob hf
  refine r_callv (va_runV (As := [.int p0, .int p1, .int (1 : Int32)]) (rest := []) ⟨hx, hb, hml, hown, hts⟩ (c_X6_wantThread hI hA hq1) (cwV 3 hts gX6_resume_X6_wantThread rfl rfl rfl (by decide +kernel) ⟨Nat.le_of_ble_eq_true rfl, Nat.le_of_ble_eq_true rfl⟩) (Pf_V XMb (XMo A) hX hK hP hS obX6 rfl) rfl rfl hl.1 rfl (lv_room (Nat.le_of_ble_eq_true rfl)) dX6_resume_4 ⟨Nat.zero_le _, Nat.zero_le _⟩) hS (fun H locs hP hS => ?_)
  refine lv_aload_n hx hb dX6_resume_7 rfl (lv_at hl 0 rfl) ?_
  refine r_getik (j := 19) hx hb hts inX6 hown hK hP (obX6) rfl (by decide) (hts (.fieldLink RX6 183 "PageMonitorModel" "least" "I") (by decide +kernel)) (fun _ => rfl) dX6_resume_8 hf (fun x2 hf => ?_)
  refine r_if_le (tgt := 19) hx hb dX6_resume_11 (by decide) hf (fun hf => ?_) (fun hf => ?_)
  · refine lv_aload_n hx hb dX6_resume_19 rfl (lv_at hl 0 rfl) ?_
    refine lv_iload_n hx hb dX6_resume_20 rfl (lv_at hl 1 rfl) ?_
    refine r_putik (j := 20) hx hb hts inX6 tyX6 tyX6_ok nmX6 hown hI hA hK hP hS (obX6) rfl (by decide) (hts (.fieldLink RX6 269 "PageMonitorModel" "running" "I") (by decide +kernel)) rfl rfl rfl (fun _ => Nat.le_of_ble_eq_true rfl) (fun _ _ => rfl) dX6_resume_21 hf (fun M3 H locs hP hS hf => ?_)
    refine lv_iconst (v := (0 : Int32)) hx hb dX6_resume_24 (by decide) ?_
    refine lv_istore_n (lv' := [(3, .int (0 : Int32)), (0, .ref (ad 0)), (1, .int p0), (2, .int p1)]) hx hb dX6_resume_25 rfl hl (by decide) rfl (fun ls hl => ?_)
    refine r_jn hf (fun F6 eF6 hf => ?_)
    have EF6 : ∀ (x7 : Int32) (M8 : Mem) (H : Heap) (locs : List Loc) (ls : Array Slot), va_P D vwCl (gw 25 ad (spM ad cI cZ) M8) H → va_S A s.heap H locs → lv_has ls 4 [(0, .ref (ad 0)), (1, .int p0), (2, .int p1), (3, .int x7)] → F6 x7 M8 = some res → W p l e (headSpec wsX6_resume { frames := 7, cells := 0, slots := 0, locals := 163 }).room s m (([.ref (ad 0), .int p0, .int p1] : List Value).toArray) below meth c H locs 0 0 (MQ below (Qf D vwCl 25 ad (spM ad cI cZ) A (some (.int res.1)) res.2) (([.ref (ad 0), .int p0, .int p1] : List Value).toArray) s 0 0 A) (F0 m 53 ls []) := by
      intro x7 M8 H locs ls hP hS hl hf
      rw [eF6] at hf
      refine lv_aload_n hx hb dX6_resume_53 rfl (lv_at hl 0 rfl) ?_
      refine lv_aload_n hx hb dX6_resume_54 rfl (lv_at hl 0 rfl) ?_
      refine r_getc (k' := 16) (j := 16) hx hb hts inX6 hown hK hP (obX6) rfl (by decide) (hts (.fieldLink RX6 56 "PageMonitorModel" "kept" "[I") (by decide +kernel)) (fun _ => rfl) dX6_resume_55 ?_
      refine lv_iconst (v := (5 : Int32)) hx hb dX6_resume_58 (by decide) ?_
      refine lv_iload_n hx hb dX6_resume_59 rfl (lv_at hl 1 rfl) ?_
      refine lv_imul hx hb dX6_resume_60 ?_
      refine lv_iconst (v := (4 : Int32)) hx hb dX6_resume_61 (by decide) ?_
      refine lv_iadd hx hb dX6_resume_62 ?_
      refine r_ialdk hx hb hK hP 0 ma16 rfl dX6_resume_63 hf (fun x9 hf => ?_)
      refine r_putik (j := 23) hx hb hts inX6 tyX6 tyX6_ok nmX6 hown hI hA hK hP hS (obX6) rfl (by decide) (hts (.fieldLink RX6 250 "PageMonitorModel" "at" "I") (by decide +kernel)) rfl rfl rfl (fun _ => Nat.le_of_ble_eq_true rfl) (fun _ _ => rfl) dX6_resume_64 hf (fun M10 H locs hP hS hf => ?_)
      refine lv_aload_n hx hb dX6_resume_67 rfl (lv_at hl 0 rfl) ?_
      refine lv_iload_n hx hb dX6_resume_68 rfl (lv_at hl 2 rfl) ?_
      obtain ⟨q11, hq11, hf⟩ := ob hf
      refine r_call1 (va_runV (As := [.int p1]) (rest := []) ⟨hx, hb, hml, hown, hts⟩ (c_X6_run hI hA hq11) (cwV 1 hts gX6_resume_X6_run rfl rfl rfl (by decide +kernel) ⟨Nat.le_of_ble_eq_true rfl, Nat.le_of_ble_eq_true rfl⟩) (Pf_V XMb (XMo A) hX hK hP hS obX6 rfl) rfl rfl hl.1 rfl (lv_room (Nat.le_of_ble_eq_true rfl)) dX6_resume_69 ⟨Nat.zero_le _, Nat.zero_le _⟩) hS (fun H locs hP hS => ?_)
      obtain rfl := Option.some.inj hf
      exact r_iret hx hb hr hlocks hP hS dX6_resume_72
    have LF6 : ∀ (n : Nat) (x4 : Int32) (M5 : Mem) (H : Heap) (locs : List Loc) (ls : Array Slot), va_P D vwCl (gw 25 ad (spM ad cI cZ) M5) H → va_S A s.heap H locs → lv_has ls 4 [(0, .ref (ad 0)), (1, .int p0), (2, .int p1), (3, .int x4)] → lp_X6_resume_26 p0 F6 n x4 M5 = some res → W p l e (headSpec wsX6_resume { frames := 7, cells := 0, slots := 0, locals := 163 }).room s m (([.ref (ad 0), .int p0, .int p1] : List Value).toArray) below meth c H locs 0 0 (MQ below (Qf D vwCl 25 ad (spM ad cI cZ) A (some (.int res.1)) res.2) (([.ref (ad 0), .int p0, .int p1] : List Value).toArray) s 0 0 A) (F0 m 26 ls []) := by
      intro n
      induction n with
      | zero =>
        intro x4 M5 H locs ls hP hS hl hf
        exact absurd hf (fun h => nomatch h)
      | succ n ih =>
        intro x4 M5 H locs ls hP hS hl hf
        rw [lp_X6_resume_26_s] at hf
        refine lv_iload_n hx hb dX6_resume_26 rfl (lv_at hl 3 rfl) ?_
        refine lv_iconst (v := (4 : Int32)) hx hb dX6_resume_27 (by decide) ?_
        refine r_icmp_ge (tgt := 53) hx hb dX6_resume_28 (by decide) hf (fun hf => ?_) (fun hf => ?_)
        · exact EF6 x4 M5 _ _ _ hP hS (lv_sub hl [0, 1, 2, 3] rfl) hf
        · refine lv_aload_n hx hb dX6_resume_31 rfl (lv_at hl 0 rfl) ?_
          refine r_getc (k' := 17) (j := 22) hx hb hts inX6 hown hK hP (obX6) rfl (by decide) (hts (.fieldLink RX6 59 "PageMonitorModel" "\x72" "[I") (by decide +kernel)) (fun _ => rfl) dX6_resume_32 ?_
          refine lv_iload_n hx hb dX6_resume_35 rfl (lv_at hl 3 rfl) ?_
          refine lv_aload_n hx hb dX6_resume_36 rfl (lv_at hl 0 rfl) ?_
          refine r_getc (k' := 16) (j := 16) hx hb hts inX6 hown hK hP (obX6) rfl (by decide) (hts (.fieldLink RX6 56 "PageMonitorModel" "kept" "[I") (by decide +kernel)) (fun _ => rfl) dX6_resume_37 ?_
          refine lv_iconst (v := (5 : Int32)) hx hb dX6_resume_40 (by decide) ?_
          refine lv_iload_n hx hb dX6_resume_41 rfl (lv_at hl 1 rfl) ?_
          refine lv_imul hx hb dX6_resume_42 ?_
          refine lv_iload_n hx hb dX6_resume_43 rfl (lv_at hl 3 rfl) ?_
          refine lv_iadd hx hb dX6_resume_44 ?_
          refine r_ialdk hx hb hK hP 0 ma16 rfl dX6_resume_45 hf (fun x12 hf => ?_)
          refine r_iastk hx hb hI hA hK hP hS 0 ma17 rfl dX6_resume_46 hf (fun M13 H locs hP hS hf => ?_)
          refine lv_iinc (v := x4 + (1 : Int32)) (lv' := [(3, .int (x4 + (1 : Int32))), (0, .ref (ad 0)), (1, .int p0), (2, .int p1)]) hx hb dX6_resume_47 hl (k := 3) rfl rfl (by decide) rfl (fun ls hl => ?_)
          refine lv_goto (tgt := 26) hx hb dX6_resume_50 (by decide) ?_
          exact ih (x4 + (1 : Int32)) M13 _ _ _ hP hS (lv_sub hl [1, 2, 3, 0] rfl) hf
    exact LF6 FU (0 : Int32) M3 _ _ _ hP hS (lv_sub hl [1, 2, 3, 0] rfl) hf
  · refine lv_aload_n hx hb dX6_resume_14 rfl (lv_at hl 0 rfl) ?_
    refine r_getik (j := 19) hx hb hts inX6 hown hK hP (obX6) rfl (by decide) (hts (.fieldLink RX6 183 "PageMonitorModel" "least" "I") (by decide +kernel)) (fun _ => rfl) dX6_resume_15 hf (fun x14 hf => ?_)
    obtain rfl := Option.some.inj hf
    exact r_iret hx hb hr hlocks hP hS dX6_resume_18
set_option maxHeartbeats 4000000 in
set_option maxRecDepth 100000 in
theorem c_X6_result {l : Launch} {D : va_G} {ad : Nat → Nat} {cI cZ cP cR : ClassId} {A : Nat → Prop} {M : Mem} {res : (Int32 × Mem)} (hI : gInj 25 ad) (hA : ∀ k, k < 25 → A (ad k)) (hf : fX6_result M = some res) : Met l yX6_result wsX6_result { frames := 0, cells := 0, slots := 0, locals := 0 } (va_Pc [.ref (ad 0)] (Pf D vwCl (tysW cI cZ cP cR) 25 ad (spM ad cI cZ) XM M)) (Qf D vwCl 25 ad (spM ad cI cZ) A (some (.int res.1)) res.2) 0 0 A := by
  refine Met.ofW (cc := cX6_result) (maxL := 1) (ret := (some .int)) (by decide) rfl ?_
  intro p e s m args below meth c s₁ B hml hv
  obtain ⟨rfl, hP, hK, hX⟩ := hv
  have hx := B.exec
  have hb := B.bytes
  have hr := B.returns
  have hts := atoms_spec (ws := wsX6_result) B.pre
  have hown : s.vm.findClass RX6 = some m.cls := findClass_of_methodNamed B.named
  have hlocks := B.notSynchronized
  have inX6 : ∀ w ∈ wsX60, w ∈ wsX6_result := by decide +kernel
  have hS : va_S A s.heap s.heap [] := va_S.rf
  have hl := lv_entry ([.ref (ad 0)]) (n := 1) (Nat.le_of_ble_eq_true rfl)
  rw [lg_entry_eq]
  generalize (lg_sl ([.ref (ad 0)]) ++ List.replicate (1 - (lg_sl ([.ref (ad 0)])).length) Slot.unset).toArray = ls at hl ⊢
  have hl : lv_has ls 1 [(0, .ref (ad 0))] := hl
  rw [fX6_result] at hf
  refine lv_aload_n hx hb dX6_result_0 rfl (lv_at hl 0 rfl) ?_
  refine lv_iconst (v := (0 : Int32)) hx hb dX6_result_1 (by decide) ?_
  refine r_putik (j := 0) hx hb hts inX6 tyX6 tyX6_ok nmX6 hown hI hA hK hP hS (obX6) rfl (by decide) (hts (.fieldLink RX6 158 "PageMonitorModel" "thrown" "I") (by decide +kernel)) rfl rfl rfl (fun _ => Nat.le_of_ble_eq_true rfl) (fun _ _ => rfl) dX6_result_2 hf (fun M1 H locs hP hS hf => ?_)
  refine lv_aload_n hx hb dX6_result_5 rfl (lv_at hl 0 rfl) ?_
  refine r_getik (j := 17) hx hb hts inX6 hown hK hP (obX6) rfl (by decide) (hts (.fieldLink RX6 162 "PageMonitorModel" "result" "I") (by decide +kernel)) (fun _ => rfl) dX6_result_6 hf (fun x2 hf => ?_)
  obtain rfl := Option.some.inj hf
  exact r_iret hx hb hr hlocks hP hS dX6_result_9
set_option maxHeartbeats 4000000 in
set_option maxRecDepth 100000 in
theorem c_X6_steps {l : Launch} {D : va_G} {ad : Nat → Nat} {cI cZ cP cR : ClassId} {A : Nat → Prop} {M : Mem} {res : (Int32 × Mem)} (hI : gInj 25 ad) (hA : ∀ k, k < 25 → A (ad k)) (hf : fX6_steps M = some res) : Met l yX6_steps wsX6_steps { frames := 0, cells := 0, slots := 0, locals := 0 } (va_Pc [.ref (ad 0)] (Pf D vwCl (tysW cI cZ cP cR) 25 ad (spM ad cI cZ) XM M)) (Qf D vwCl 25 ad (spM ad cI cZ) A (some (.int res.1)) res.2) 0 0 A := by
  refine Met.ofW (cc := cX6_steps) (maxL := 1) (ret := (some .int)) (by decide) rfl ?_
  intro p e s m args below meth c s₁ B hml hv
  obtain ⟨rfl, hP, hK, hX⟩ := hv
  have hx := B.exec
  have hb := B.bytes
  have hr := B.returns
  have hts := atoms_spec (ws := wsX6_steps) B.pre
  have hown : s.vm.findClass RX6 = some m.cls := findClass_of_methodNamed B.named
  have hlocks := B.notSynchronized
  have inX6 : ∀ w ∈ wsX60, w ∈ wsX6_steps := by decide +kernel
  have hS : va_S A s.heap s.heap [] := va_S.rf
  have hl := lv_entry ([.ref (ad 0)]) (n := 1) (Nat.le_of_ble_eq_true rfl)
  rw [lg_entry_eq]
  generalize (lg_sl ([.ref (ad 0)]) ++ List.replicate (1 - (lg_sl ([.ref (ad 0)])).length) Slot.unset).toArray = ls at hl ⊢
  have hl : lv_has ls 1 [(0, .ref (ad 0))] := hl
  rw [fX6_steps] at hf
  refine lv_aload_n hx hb dX6_steps_0 rfl (lv_at hl 0 rfl) ?_
  refine lv_iconst (v := (0 : Int32)) hx hb dX6_steps_1 (by decide) ?_
  refine r_putik (j := 0) hx hb hts inX6 tyX6 tyX6_ok nmX6 hown hI hA hK hP hS (obX6) rfl (by decide) (hts (.fieldLink RX6 158 "PageMonitorModel" "thrown" "I") (by decide +kernel)) rfl rfl rfl (fun _ => Nat.le_of_ble_eq_true rfl) (fun _ _ => rfl) dX6_steps_2 hf (fun M1 H locs hP hS hf => ?_)
  refine lv_aload_n hx hb dX6_steps_5 rfl (lv_at hl 0 rfl) ?_
  refine r_getik (j := 18) hx hb hts inX6 hown hK hP (obX6) rfl (by decide) (hts (.fieldLink RX6 272 "PageMonitorModel" "steps" "I") (by decide +kernel)) (fun _ => rfl) dX6_steps_6 hf (fun x2 hf => ?_)
  obtain rfl := Option.some.inj hf
  exact r_iret hx hb hr hlocks hP hS dX6_steps_9
set_option maxHeartbeats 4000000 in
set_option maxRecDepth 100000 in
theorem c_X6_told {l : Launch} {D : va_G} {ad : Nat → Nat} {cI cZ cP cR : ClassId} {A : Nat → Prop} {M : Mem} {p0 : Int32} {p1 : Int32} {res : (Int32 × Mem)} (hI : gInj 25 ad) (hA : ∀ k, k < 25 → A (ad k)) (hf : fX6_told M p0 p1 = some res) : Met l yX6_told wsX6_told { frames := 1, cells := 0, slots := 0, locals := 23 } (va_Pc [.ref (ad 0), .int p0, .int p1] (Pf D vwCl (tysW cI cZ cP cR) 25 ad (spM ad cI cZ) XM M)) (Qf D vwCl 25 ad (spM ad cI cZ) A (some (.int res.1)) res.2) 0 0 A := by
  refine Met.ofW (cc := cX6_told) (maxL := 3) (ret := (some .int)) (by decide) rfl ?_
  intro p e s m args below meth c s₁ B hml hv
  obtain ⟨rfl, hP, hK, hX⟩ := hv
  have hx := B.exec
  have hb := B.bytes
  have hr := B.returns
  have hts := atoms_spec (ws := wsX6_told) B.pre
  have hown : s.vm.findClass RX6 = some m.cls := findClass_of_methodNamed B.named
  have hlocks := B.notSynchronized
  have inX6 : ∀ w ∈ wsX60, w ∈ wsX6_told := by decide +kernel
  have hS : va_S A s.heap s.heap [] := va_S.rf
  have hl := lv_entry ([.ref (ad 0), .int p0, .int p1]) (n := 3) (Nat.le_of_ble_eq_true rfl)
  rw [lg_entry_eq]
  generalize (lg_sl ([.ref (ad 0), .int p0, .int p1]) ++ List.replicate (3 - (lg_sl ([.ref (ad 0), .int p0, .int p1])).length) Slot.unset).toArray = ls at hl ⊢
  have hl : lv_has ls 3 [(0, .ref (ad 0)), (1, .int p0), (2, .int p1)] := hl
  rw [fX6_told] at hf
  refine lv_aload_n hx hb dX6_told_0 rfl (lv_at hl 0 rfl) ?_
  refine lv_iload_n hx hb dX6_told_1 rfl (lv_at hl 1 rfl) ?_
  obtain ⟨q1, hq1, hf⟩ := ob hf
  refine r_call1 (va_runS (As := [.int p0]) (rest := [.ref (ad 0)]) ⟨hx, hb, hml, hown, hts⟩ (c_X6_noPage hI hA hq1) (va_cwS 1 hts gX6_told_X6_noPage rfl rfl rfl (by decide +kernel) ⟨Nat.le_of_ble_eq_true rfl, Nat.le_of_ble_eq_true rfl⟩) (Pf_S XMb (XMo A) hX hK hP hS) rfl rfl hl.1 rfl (lv_room (Nat.le_of_ble_eq_true rfl)) dX6_told_2 ⟨Nat.zero_le _, Nat.zero_le _⟩) hS (fun H locs hP hS => ?_)
  refine r_jn hf (fun K3 eK3 hf => ?_)
  have JK3 : ∀ (x2 : Int32) (H : Heap) (locs : List Loc) (ls : Array Slot), va_P D vwCl (gw 25 ad (spM ad cI cZ) q1.2) H → va_S A s.heap H locs → lv_has ls 3 [(0, .ref (ad 0)), (1, .int p0), (2, .int p1)] → K3 x2 = some res → W p l e (headSpec wsX6_told { frames := 1, cells := 0, slots := 0, locals := 23 }).room s m (([.ref (ad 0), .int p0, .int p1] : List Value).toArray) below meth c H locs 0 0 (MQ below (Qf D vwCl 25 ad (spM ad cI cZ) A (some (.int res.1)) res.2) (([.ref (ad 0), .int p0, .int p1] : List Value).toArray) s 0 0 A) (F0 m 26 ls [.int x2, .ref (ad 0)]) := by
    intro x2 H locs ls hP hS hl hf
    rw [eK3] at hf
    refine r_putik (j := 0) hx hb hts inX6 tyX6 tyX6_ok nmX6 hown hI hA hK hP hS (obX6) rfl (by decide) (hts (.fieldLink RX6 158 "PageMonitorModel" "thrown" "I") (by decide +kernel)) rfl rfl rfl (fun _ => Nat.le_of_ble_eq_true rfl) (fun _ _ => rfl) dX6_told_26 hf (fun M4 H locs hP hS hf => ?_)
    refine lv_aload_n hx hb dX6_told_29 rfl (lv_at hl 0 rfl) ?_
    refine r_getik (j := 0) hx hb hts inX6 hown hK hP (obX6) rfl (by decide) (hts (.fieldLink RX6 158 "PageMonitorModel" "thrown" "I") (by decide +kernel)) (fun _ => rfl) dX6_told_30 hf (fun x5 hf => ?_)
    refine r_if_le (tgt := 38) hx hb dX6_told_33 (by decide) hf (fun hf => ?_) (fun hf => ?_)
    · refine lv_iload_n hx hb dX6_told_38 rfl (lv_at hl 2 rfl) ?_
      refine r_if_ne (tgt := 49) hx hb dX6_told_39 (by decide) hf (fun hf => ?_) (fun hf => ?_)
      · refine lv_iload_n hx hb dX6_told_49 rfl (lv_at hl 2 rfl) ?_
        refine lv_iconst (v := (1 : Int32)) hx hb dX6_told_50 (by decide) ?_
        refine r_icmp_ne (tgt := 75) hx hb dX6_told_51 (by decide) hf (fun hf => ?_) (fun hf => ?_)
        · refine lv_iload_n hx hb dX6_told_75 rfl (lv_at hl 2 rfl) ?_
          refine lv_iconst (v := (2 : Int32)) hx hb dX6_told_76 (by decide) ?_
          refine r_icmp_ne (tgt := 124) hx hb dX6_told_77 (by decide) hf (fun hf => ?_) (fun hf => ?_)
          · refine lv_aload_n hx hb dX6_told_124 rfl (lv_at hl 0 rfl) ?_
            refine r_getc (k' := 3) (j := 3) hx hb hts inX6 hown hK hP (obX6) rfl (by decide) (hts (.fieldLink RX6 16 "PageMonitorModel" "kinds" "[I") (by decide +kernel)) (fun _ => rfl) dX6_told_125 ?_
            refine lv_iload_n hx hb dX6_told_128 rfl (lv_at hl 1 rfl) ?_
            refine r_ialdk hx hb hK hP 0 ma3 rfl dX6_told_129 hf (fun x6 hf => ?_)
            refine lv_iconst (v := (1 : Int32)) hx hb dX6_told_130 (by decide) ?_
            refine r_jn hf (fun K10 eK10 hf => ?_)
            have JK10 : ∀ (x8 : Int32) (M9 : Mem) (H : Heap) (locs : List Loc) (ls : Array Slot), va_P D vwCl (gw 25 ad (spM ad cI cZ) M9) H → va_S A s.heap H locs → lv_has ls 3 [(0, .ref (ad 0)), (1, .int p0), (2, .int p1)] → K10 x8 M9 = some res → W p l e (headSpec wsX6_told { frames := 1, cells := 0, slots := 0, locals := 23 }).room s m (([.ref (ad 0), .int p0, .int p1] : List Value).toArray) below meth c H locs 0 0 (MQ below (Qf D vwCl 25 ad (spM ad cI cZ) A (some (.int res.1)) res.2) (([.ref (ad 0), .int p0, .int p1] : List Value).toArray) s 0 0 A) (F0 m 143 ls [.int x8]) := by
              intro x8 M9 H locs ls hP hS hl hf
              rw [eK10] at hf
              obtain rfl := Option.some.inj hf
              exact r_iret hx hb hr hlocks hP hS dX6_told_143
            refine r_icmp_ne (tgt := 142) hx hb dX6_told_131 (by decide) hf (fun hf => ?_) (fun hf => ?_)
            · refine lv_iconst (v := (0 : Int32)) hx hb dX6_told_142 (by decide) ?_
              exact JK10 (0 : Int32) M4 _ _ _ hP hS (lv_sub hl [0, 1, 2] rfl) hf
            · refine lv_aload_n hx hb dX6_told_134 rfl (lv_at hl 0 rfl) ?_
              refine lv_iload_n hx hb dX6_told_135 rfl (lv_at hl 1 rfl) ?_
              obtain ⟨q11, hq11, hf⟩ := ob hf
              refine r_call1 (va_runV (As := [.int p0]) (rest := []) ⟨hx, hb, hml, hown, hts⟩ (c_X6_belonging hI hA hq11) (cwV 1 hts gX6_told_X6_belonging rfl rfl rfl (by decide +kernel) ⟨Nat.le_of_ble_eq_true rfl, Nat.le_of_ble_eq_true rfl⟩) (Pf_V XMb (XMo A) hX hK hP hS obX6 rfl) rfl rfl hl.1 rfl (lv_room (Nat.le_of_ble_eq_true rfl)) dX6_told_136 ⟨Nat.zero_le _, Nat.zero_le _⟩) hS (fun H locs hP hS => ?_)
              refine lv_goto (tgt := 143) hx hb dX6_told_139 (by decide) ?_
              exact JK10 q11.1 q11.2 _ _ _ hP hS (lv_sub hl [0, 1, 2] rfl) hf
          · refine lv_aload_n hx hb dX6_told_80 rfl (lv_at hl 0 rfl) ?_
            refine r_getc (k' := 3) (j := 3) hx hb hts inX6 hown hK hP (obX6) rfl (by decide) (hts (.fieldLink RX6 16 "PageMonitorModel" "kinds" "[I") (by decide +kernel)) (fun _ => rfl) dX6_told_81 ?_
            refine lv_iload_n hx hb dX6_told_84 rfl (lv_at hl 1 rfl) ?_
            refine r_ialdk hx hb hK hP 0 ma3 rfl dX6_told_85 hf (fun x12 hf => ?_)
            refine lv_iconst (v := (1 : Int32)) hx hb dX6_told_86 (by decide) ?_
            refine r_jn hf (fun K17 eK17 hf => ?_)
            have JK17 : ∀ (x16 : Int32) (H : Heap) (locs : List Loc) (ls : Array Slot), va_P D vwCl (gw 25 ad (spM ad cI cZ) M4) H → va_S A s.heap H locs → lv_has ls 3 [(0, .ref (ad 0)), (1, .int p0), (2, .int p1)] → K17 x16 = some res → W p l e (headSpec wsX6_told { frames := 1, cells := 0, slots := 0, locals := 23 }).room s m (([.ref (ad 0), .int p0, .int p1] : List Value).toArray) below meth c H locs 0 0 (MQ below (Qf D vwCl 25 ad (spM ad cI cZ) A (some (.int res.1)) res.2) (([.ref (ad 0), .int p0, .int p1] : List Value).toArray) s 0 0 A) (F0 m 123 ls [.int x16]) := by
              intro x16 H locs ls hP hS hl hf
              rw [eK17] at hf
              obtain rfl := Option.some.inj hf
              exact r_iret hx hb hr hlocks hP hS dX6_told_123
            refine r_icmp_ne (tgt := 99) hx hb dX6_told_87 (by decide) hf (fun hf => ?_) (fun hf => ?_)
            · refine lv_aload_n hx hb dX6_told_99 rfl (lv_at hl 0 rfl) ?_
              refine r_getc (k' := 3) (j := 3) hx hb hts inX6 hown hK hP (obX6) rfl (by decide) (hts (.fieldLink RX6 16 "PageMonitorModel" "kinds" "[I") (by decide +kernel)) (fun _ => rfl) dX6_told_100 ?_
              refine lv_iload_n hx hb dX6_told_103 rfl (lv_at hl 1 rfl) ?_
              refine r_ialdk hx hb hK hP 0 ma3 rfl dX6_told_104 hf (fun x18 hf => ?_)
              refine lv_iconst (v := (2 : Int32)) hx hb dX6_told_105 (by decide) ?_
              refine r_icmp_ne (tgt := 122) hx hb dX6_told_106 (by decide) hf (fun hf => ?_) (fun hf => ?_)
              · refine lv_iconst (v := (0 : Int32)) hx hb dX6_told_122 (by decide) ?_
                exact JK17 (0 : Int32) _ _ _ hP hS (lv_sub hl [0, 1, 2] rfl) hf
              · refine lv_aload_n hx hb dX6_told_109 rfl (lv_at hl 0 rfl) ?_
                refine r_getc (k' := 15) (j := 15) hx hb hts inX6 hown hK hP (obX6) rfl (by decide) (hts (.fieldLink RX6 53 "PageMonitorModel" "entered" "[Z") (by decide +kernel)) (fun _ => rfl) dX6_told_110 ?_
                refine lv_iload_n hx hb dX6_told_113 rfl (lv_at hl 1 rfl) ?_
                refine r_zaldk hx hb hK hP 1 ma15 rfl dX6_told_114 hf (fun x19 hf => ?_)
                refine r_if_eq (tgt := 122) hx hb dX6_told_115 (by decide) hf (fun hf => ?_) (fun hf => ?_)
                · refine lv_iconst (v := (0 : Int32)) hx hb dX6_told_122 (by decide) ?_
                  exact JK17 (0 : Int32) _ _ _ hP hS (lv_sub hl [0, 1, 2] rfl) hf
                · refine lv_iconst (v := (1 : Int32)) hx hb dX6_told_118 (by decide) ?_
                  refine lv_goto (tgt := 123) hx hb dX6_told_119 (by decide) ?_
                  exact JK17 (1 : Int32) _ _ _ hP hS (lv_sub hl [0, 1, 2] rfl) hf
            · refine lv_aload_n hx hb dX6_told_90 rfl (lv_at hl 0 rfl) ?_
              refine r_getc (k' := 5) (j := 5) hx hb hts inX6 hown hK hP (obX6) rfl (by decide) (hts (.fieldLink RX6 22 "PageMonitorModel" "states" "[I") (by decide +kernel)) (fun _ => rfl) dX6_told_91 ?_
              refine lv_iload_n hx hb dX6_told_94 rfl (lv_at hl 1 rfl) ?_
              refine r_ialdk hx hb hK hP 0 ma5 rfl dX6_told_95 hf (fun x20 hf => ?_)
              refine lv_goto (tgt := 123) hx hb dX6_told_96 (by decide) ?_
              exact JK17 x20 _ _ _ hP hS (lv_sub hl [0, 1, 2] rfl) hf
        · refine lv_aload_n hx hb dX6_told_54 rfl (lv_at hl 0 rfl) ?_
          refine r_getc (k' := 3) (j := 3) hx hb hts inX6 hown hK hP (obX6) rfl (by decide) (hts (.fieldLink RX6 16 "PageMonitorModel" "kinds" "[I") (by decide +kernel)) (fun _ => rfl) dX6_told_55 ?_
          refine lv_iload_n hx hb dX6_told_58 rfl (lv_at hl 1 rfl) ?_
          refine r_ialdk hx hb hK hP 0 ma3 rfl dX6_told_59 hf (fun x21 hf => ?_)
          refine lv_iconst (v := (1 : Int32)) hx hb dX6_told_60 (by decide) ?_
          refine r_jn hf (fun K24 eK24 hf => ?_)
          have JK24 : ∀ (x23 : Int32) (H : Heap) (locs : List Loc) (ls : Array Slot), va_P D vwCl (gw 25 ad (spM ad cI cZ) M4) H → va_S A s.heap H locs → lv_has ls 3 [(0, .ref (ad 0)), (1, .int p0), (2, .int p1)] → K24 x23 = some res → W p l e (headSpec wsX6_told { frames := 1, cells := 0, slots := 0, locals := 23 }).room s m (([.ref (ad 0), .int p0, .int p1] : List Value).toArray) below meth c H locs 0 0 (MQ below (Qf D vwCl 25 ad (spM ad cI cZ) A (some (.int res.1)) res.2) (([.ref (ad 0), .int p0, .int p1] : List Value).toArray) s 0 0 A) (F0 m 74 ls [.int x23]) := by
            intro x23 H locs ls hP hS hl hf
            rw [eK24] at hf
            obtain rfl := Option.some.inj hf
            exact r_iret hx hb hr hlocks hP hS dX6_told_74
          refine r_icmp_le (tgt := 73) hx hb dX6_told_61 (by decide) hf (fun hf => ?_) (fun hf => ?_)
          · refine lv_iconst (v := (-1 : Int32)) hx hb dX6_told_73 (by decide) ?_
            exact JK24 (-1 : Int32) _ _ _ hP hS (lv_sub hl [0, 1, 2] rfl) hf
          · refine lv_aload_n hx hb dX6_told_64 rfl (lv_at hl 0 rfl) ?_
            refine r_getc (k' := 4) (j := 4) hx hb hts inX6 hown hK hP (obX6) rfl (by decide) (hts (.fieldLink RX6 19 "PageMonitorModel" "owners" "[I") (by decide +kernel)) (fun _ => rfl) dX6_told_65 ?_
            refine lv_iload_n hx hb dX6_told_68 rfl (lv_at hl 1 rfl) ?_
            refine r_ialdk hx hb hK hP 0 ma4 rfl dX6_told_69 hf (fun x25 hf => ?_)
            refine lv_goto (tgt := 74) hx hb dX6_told_70 (by decide) ?_
            exact JK24 x25 _ _ _ hP hS (lv_sub hl [0, 1, 2] rfl) hf
      · refine lv_aload_n hx hb dX6_told_42 rfl (lv_at hl 0 rfl) ?_
        refine r_getc (k' := 3) (j := 3) hx hb hts inX6 hown hK hP (obX6) rfl (by decide) (hts (.fieldLink RX6 16 "PageMonitorModel" "kinds" "[I") (by decide +kernel)) (fun _ => rfl) dX6_told_43 ?_
        refine lv_iload_n hx hb dX6_told_46 rfl (lv_at hl 1 rfl) ?_
        refine r_ialdk hx hb hK hP 0 ma3 rfl dX6_told_47 hf (fun x26 hf => ?_)
        obtain rfl := Option.some.inj hf
        exact r_iret hx hb hr hlocks hP hS dX6_told_48
    · refine lv_iconst (v := (0 : Int32)) hx hb dX6_told_36 (by decide) ?_
      obtain rfl := Option.some.inj hf
      exact r_iret hx hb hr hlocks hP hS dX6_told_37
  refine r_if_eq (tgt := 12) hx hb dX6_told_5 (by decide) hf (fun hf => ?_) (fun hf => ?_)
  · refine lv_iload_n hx hb dX6_told_12 rfl (lv_at hl 2 rfl) ?_
    refine r_if_lt (tgt := 21) hx hb dX6_told_13 (by decide) hf (fun hf => ?_) (fun hf => ?_)
    · refine lv_iconst (v := (2 : Int32)) hx hb dX6_told_21 (by decide) ?_
      refine lv_goto (tgt := 26) hx hb dX6_told_22 (by decide) ?_
      exact JK3 (2 : Int32) _ _ _ hP hS (lv_sub hl [0, 1, 2] rfl) hf
    · refine lv_iload_n hx hb dX6_told_16 rfl (lv_at hl 2 rfl) ?_
      refine lv_iconst (v := (3 : Int32)) hx hb dX6_told_17 (by decide) ?_
      refine r_icmp_le (tgt := 25) hx hb dX6_told_18 (by decide) hf (fun hf => ?_) (fun hf => ?_)
      · refine lv_iconst (v := (0 : Int32)) hx hb dX6_told_25 (by decide) ?_
        exact JK3 (0 : Int32) _ _ _ hP hS (lv_sub hl [0, 1, 2] rfl) hf
      · refine lv_iconst (v := (2 : Int32)) hx hb dX6_told_21 (by decide) ?_
        refine lv_goto (tgt := 26) hx hb dX6_told_22 (by decide) ?_
        exact JK3 (2 : Int32) _ _ _ hP hS (lv_sub hl [0, 1, 2] rfl) hf
  · refine lv_iconst (v := (1 : Int32)) hx hb dX6_told_8 (by decide) ?_
    refine lv_goto (tgt := 26) hx hb dX6_told_9 (by decide) ?_
    exact JK3 (1 : Int32) _ _ _ hP hS (lv_sub hl [0, 1, 2] rfl) hf
set_option maxHeartbeats 4000000 in
set_option maxRecDepth 100000 in
theorem c_X6_measure {l : Launch} {D : va_G} {ad : Nat → Nat} {cI cZ cP cR : ClassId} {A : Nat → Prop} {M : Mem} {p0 : Int32} {p1 : Int32} {res : (Int32 × Mem)} (hI : gInj 25 ad) (hA : ∀ k, k < 25 → A (ad k)) (hf : fX6_measure M p0 p1 = some res) : Met l yX6_measure wsX6_measure { frames := 1, cells := 0, slots := 0, locals := 20 } (va_Pc [.ref (ad 0), .int p0, .int p1] (Pf D vwCl (tysW cI cZ cP cR) 25 ad (spM ad cI cZ) XM M)) (Qf D vwCl 25 ad (spM ad cI cZ) A (some (.int res.1)) res.2) 0 0 A := by
  refine Met.ofW (cc := cX6_measure) (maxL := 3) (ret := (some .int)) (by decide) rfl ?_
  intro p e s m args below meth c s₁ B hml hv
  obtain ⟨rfl, hP, hK, hX⟩ := hv
  have hx := B.exec
  have hb := B.bytes
  have hr := B.returns
  have hts := atoms_spec (ws := wsX6_measure) B.pre
  have hown : s.vm.findClass RX6 = some m.cls := findClass_of_methodNamed B.named
  have hlocks := B.notSynchronized
  have inX6 : ∀ w ∈ wsX60, w ∈ wsX6_measure := by decide +kernel
  have hS : va_S A s.heap s.heap [] := va_S.rf
  have hl := lv_entry ([.ref (ad 0), .int p0, .int p1]) (n := 3) (Nat.le_of_ble_eq_true rfl)
  rw [lg_entry_eq]
  generalize (lg_sl ([.ref (ad 0), .int p0, .int p1]) ++ List.replicate (3 - (lg_sl ([.ref (ad 0), .int p0, .int p1])).length) Slot.unset).toArray = ls at hl ⊢
  have hl : lv_has ls 3 [(0, .ref (ad 0)), (1, .int p0), (2, .int p1)] := hl
  rw [fX6_measure] at hf
  refine lv_aload_n hx hb dX6_measure_0 rfl (lv_at hl 0 rfl) ?_
  refine lv_iload_n hx hb dX6_measure_1 rfl (lv_at hl 1 rfl) ?_
  obtain ⟨q1, hq1, hf⟩ := ob hf
  refine r_call1 (va_runS (As := [.int p0]) (rest := [.ref (ad 0)]) ⟨hx, hb, hml, hown, hts⟩ (c_X6_noPage hI hA hq1) (va_cwS 1 hts gX6_measure_X6_noPage rfl rfl rfl (by decide +kernel) ⟨Nat.le_of_ble_eq_true rfl, Nat.le_of_ble_eq_true rfl⟩) (Pf_S XMb (XMo A) hX hK hP hS) rfl rfl hl.1 rfl (lv_room (Nat.le_of_ble_eq_true rfl)) dX6_measure_2 ⟨Nat.zero_le _, Nat.zero_le _⟩) hS (fun H locs hP hS => ?_)
  refine r_jn hf (fun K5 eK5 hf => ?_)
  have JK5 : ∀ (x4 : Int32) (H : Heap) (locs : List Loc) (ls : Array Slot), va_P D vwCl (gw 25 ad (spM ad cI cZ) q1.2) H → va_S A s.heap H locs → lv_has ls 3 [(0, .ref (ad 0)), (1, .int p0), (2, .int p1)] → K5 x4 = some res → W p l e (headSpec wsX6_measure { frames := 1, cells := 0, slots := 0, locals := 20 }).room s m (([.ref (ad 0), .int p0, .int p1] : List Value).toArray) below meth c H locs 0 0 (MQ below (Qf D vwCl 25 ad (spM ad cI cZ) A (some (.int res.1)) res.2) (([.ref (ad 0), .int p0, .int p1] : List Value).toArray) s 0 0 A) (F0 m 46 ls [.int x4, .ref (ad 0)]) := by
    intro x4 H locs ls hP hS hl hf
    rw [eK5] at hf
    refine r_putik (j := 0) hx hb hts inX6 tyX6 tyX6_ok nmX6 hown hI hA hK hP hS (obX6) rfl (by decide) (hts (.fieldLink RX6 158 "PageMonitorModel" "thrown" "I") (by decide +kernel)) rfl rfl rfl (fun _ => Nat.le_of_ble_eq_true rfl) (fun _ _ => rfl) dX6_measure_46 hf (fun M6 H locs hP hS hf => ?_)
    refine lv_aload_n hx hb dX6_measure_49 rfl (lv_at hl 0 rfl) ?_
    refine r_getik (j := 0) hx hb hts inX6 hown hK hP (obX6) rfl (by decide) (hts (.fieldLink RX6 158 "PageMonitorModel" "thrown" "I") (by decide +kernel)) (fun _ => rfl) dX6_measure_50 hf (fun x7 hf => ?_)
    refine r_jn hf (fun K10 eK10 hf => ?_)
    have JK10 : ∀ (x9 : Int32) (H : Heap) (locs : List Loc) (ls : Array Slot), va_P D vwCl (gw 25 ad (spM ad cI cZ) M6) H → va_S A s.heap H locs → lv_has ls 3 [(0, .ref (ad 0)), (1, .int p0), (2, .int p1)] → K10 x9 = some res → W p l e (headSpec wsX6_measure { frames := 1, cells := 0, slots := 0, locals := 20 }).room s m (([.ref (ad 0), .int p0, .int p1] : List Value).toArray) below meth c H locs 0 0 (MQ below (Qf D vwCl 25 ad (spM ad cI cZ) A (some (.int res.1)) res.2) (([.ref (ad 0), .int p0, .int p1] : List Value).toArray) s 0 0 A) (F0 m 71 ls [.int x9]) := by
      intro x9 H locs ls hP hS hl hf
      rw [eK10] at hf
      obtain rfl := Option.some.inj hf
      exact r_iret hx hb hr hlocks hP hS dX6_measure_71
    refine r_if_le (tgt := 60) hx hb dX6_measure_53 (by decide) hf (fun hf => ?_) (fun hf => ?_)
    · refine lv_aload_n hx hb dX6_measure_60 rfl (lv_at hl 0 rfl) ?_
      refine r_getc (k' := 12) (j := 12) hx hb hts inX6 hown hK hP (obX6) rfl (by decide) (hts (.fieldLink RX6 43 "PageMonitorModel" "measures" "[I") (by decide +kernel)) (fun _ => rfl) dX6_measure_61 ?_
      refine lv_bipush (v := (8 : Int32)) hx hb dX6_measure_64 (by decide) ?_
      refine lv_iload_n hx hb dX6_measure_66 rfl (lv_at hl 1 rfl) ?_
      refine lv_imul hx hb dX6_measure_67 ?_
      refine lv_iload_n hx hb dX6_measure_68 rfl (lv_at hl 2 rfl) ?_
      refine lv_iadd hx hb dX6_measure_69 ?_
      refine r_ialdk hx hb hK hP 0 ma12 rfl dX6_measure_70 hf (fun x11 hf => ?_)
      exact JK10 x11 _ _ _ hP hS (lv_sub hl [0, 1, 2] rfl) hf
    · refine lv_iconst (v := (0 : Int32)) hx hb dX6_measure_56 (by decide) ?_
      refine lv_goto (tgt := 71) hx hb dX6_measure_57 (by decide) ?_
      exact JK10 (0 : Int32) _ _ _ hP hS (lv_sub hl [0, 1, 2] rfl) hf
  refine r_if_ne (tgt := 18) hx hb dX6_measure_5 (by decide) hf (fun hf => ?_) (fun hf => ?_)
  · refine lv_iconst (v := (1 : Int32)) hx hb dX6_measure_18 (by decide) ?_
    refine lv_goto (tgt := 46) hx hb dX6_measure_19 (by decide) ?_
    exact JK5 (1 : Int32) _ _ _ hP hS (lv_sub hl [0, 1, 2] rfl) hf
  · refine lv_iload_n hx hb dX6_measure_8 rfl (lv_at hl 2 rfl) ?_
    refine r_if_lt (tgt := 18) hx hb dX6_measure_9 (by decide) hf (fun hf => ?_) (fun hf => ?_)
    · refine lv_iconst (v := (1 : Int32)) hx hb dX6_measure_18 (by decide) ?_
      refine lv_goto (tgt := 46) hx hb dX6_measure_19 (by decide) ?_
      exact JK5 (1 : Int32) _ _ _ hP hS (lv_sub hl [0, 1, 2] rfl) hf
    · refine lv_iload_n hx hb dX6_measure_12 rfl (lv_at hl 2 rfl) ?_
      refine lv_bipush (v := (7 : Int32)) hx hb dX6_measure_13 (by decide) ?_
      refine r_icmp_le (tgt := 22) hx hb dX6_measure_15 (by decide) hf (fun hf => ?_) (fun hf => ?_)
      · refine lv_aload_n hx hb dX6_measure_22 rfl (lv_at hl 0 rfl) ?_
        refine r_getc (k' := 3) (j := 3) hx hb hts inX6 hown hK hP (obX6) rfl (by decide) (hts (.fieldLink RX6 16 "PageMonitorModel" "kinds" "[I") (by decide +kernel)) (fun _ => rfl) dX6_measure_23 ?_
        refine lv_iload_n hx hb dX6_measure_26 rfl (lv_at hl 1 rfl) ?_
        refine r_ialdk hx hb hK hP 0 ma3 rfl dX6_measure_27 hf (fun x12 hf => ?_)
        refine lv_iconst (v := (1 : Int32)) hx hb dX6_measure_28 (by decide) ?_
        refine r_icmp_ne (tgt := 41) hx hb dX6_measure_29 (by decide) hf (fun hf => ?_) (fun hf => ?_)
        · refine lv_iconst (v := (2 : Int32)) hx hb dX6_measure_41 (by decide) ?_
          refine lv_goto (tgt := 46) hx hb dX6_measure_42 (by decide) ?_
          exact JK5 (2 : Int32) _ _ _ hP hS (lv_sub hl [0, 1, 2] rfl) hf
        · refine lv_aload_n hx hb dX6_measure_32 rfl (lv_at hl 0 rfl) ?_
          refine r_getc (k' := 13) (j := 13) hx hb hts inX6 hown hK hP (obX6) rfl (by decide) (hts (.fieldLink RX6 46 "PageMonitorModel" "measured" "[Z") (by decide +kernel)) (fun _ => rfl) dX6_measure_33 ?_
          refine lv_iload_n hx hb dX6_measure_36 rfl (lv_at hl 1 rfl) ?_
          refine r_zaldk hx hb hK hP 1 ma13 rfl dX6_measure_37 hf (fun x13 hf => ?_)
          refine r_if_ne (tgt := 45) hx hb dX6_measure_38 (by decide) hf (fun hf => ?_) (fun hf => ?_)
          · refine lv_iconst (v := (0 : Int32)) hx hb dX6_measure_45 (by decide) ?_
            exact JK5 (0 : Int32) _ _ _ hP hS (lv_sub hl [0, 1, 2] rfl) hf
          · refine lv_iconst (v := (2 : Int32)) hx hb dX6_measure_41 (by decide) ?_
            refine lv_goto (tgt := 46) hx hb dX6_measure_42 (by decide) ?_
            exact JK5 (2 : Int32) _ _ _ hP hS (lv_sub hl [0, 1, 2] rfl) hf
      · refine lv_iconst (v := (1 : Int32)) hx hb dX6_measure_18 (by decide) ?_
        refine lv_goto (tgt := 46) hx hb dX6_measure_19 (by decide) ?_
        exact JK5 (1 : Int32) _ _ _ hP hS (lv_sub hl [0, 1, 2] rfl) hf
