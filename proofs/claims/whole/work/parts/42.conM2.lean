set_option maxHeartbeats 4000000 in
set_option maxRecDepth 100000 in
theorem c_X6_space {l : Launch} {D : va_G} {ad : Nat → Nat} {cI cZ cP cR : ClassId} {A : Nat → Prop} {M : Mem} {p0 : Int32} {res : (Int32 × Mem)} (hI : gInj 25 ad) (hA : ∀ k, k < 25 → A (ad k)) (hf : fX6_space M p0 = some res) : Met l yX6_space wsX6_space { frames := 3, cells := 0, slots := 0, locals := 63 } (va_Pc [.ref (ad 0), .int p0] (Pf D vwCl (tysW cI cZ cP cR) 25 ad (spM ad cI cZ) XM M)) (Qf D vwCl 25 ad (spM ad cI cZ) A (some (.int res.1)) res.2) 0 0 A := by
  refine Met.ofW (cc := cX6_space) (maxL := 3) (ret := (some .int)) (by decide) rfl ?_
  intro p e s m args below meth c s₁ B hml hv
  obtain ⟨rfl, hP, hK, hX⟩ := hv
  have hx := B.exec
  have hb := B.bytes
  have hr := B.returns
  have hts := atoms_spec (ws := wsX6_space) B.pre
  have hown : s.vm.findClass RX6 = some m.cls := findClass_of_methodNamed B.named
  have hlocks := B.notSynchronized
  have inX6 : ∀ w ∈ wsX60, w ∈ wsX6_space := by decide +kernel
  have hS : va_S A s.heap s.heap [] := va_S.rf
  have hl := lv_entry ([.ref (ad 0), .int p0]) (n := 3) (Nat.le_of_ble_eq_true rfl)
  rw [lg_entry_eq]
  generalize (lg_sl ([.ref (ad 0), .int p0]) ++ List.replicate (3 - (lg_sl ([.ref (ad 0), .int p0])).length) Slot.unset).toArray = ls at hl ⊢
  have hl : lv_has ls 3 [(0, .ref (ad 0)), (1, .int p0)] := hl
  rw [fX6_space] at hf
  refine lv_aload_n hx hb dX6_space_0 rfl (lv_at hl 0 rfl) ?_
  obtain ⟨q1, hq1, hf⟩ := ob hf
  refine r_callv (va_runV (As := []) (rest := []) ⟨hx, hb, hml, hown, hts⟩ (c_X6_begin hI hA hq1) (cwV 0 hts gX6_space_X6_begin rfl rfl rfl (by decide +kernel) ⟨Nat.le_of_ble_eq_true rfl, Nat.le_of_ble_eq_true rfl⟩) (Pf_V XMb (XMo A) hX hK hP hS obX6 rfl) rfl rfl hl.1 rfl (lv_room (Nat.le_of_ble_eq_true rfl)) dX6_space_1 ⟨Nat.zero_le _, Nat.zero_le _⟩) hS (fun H locs hP hS => ?_)
  refine lv_aload_n hx hb dX6_space_4 rfl (lv_at hl 0 rfl) ?_
  refine lv_iload_n hx hb dX6_space_5 rfl (lv_at hl 1 rfl) ?_
  obtain ⟨q2, hq2, hf⟩ := ob hf
  refine r_call1 (va_runS (As := [.int p0]) (rest := [.ref (ad 0)]) ⟨hx, hb, hml, hown, hts⟩ (c_X6_noPage hI hA hq2) (va_cwS 1 hts gX6_space_X6_noPage rfl rfl rfl (by decide +kernel) ⟨Nat.le_of_ble_eq_true rfl, Nat.le_of_ble_eq_true rfl⟩) (Pf_S XMb (XMo A) hX hK hP hS) rfl rfl hl.1 rfl (lv_room (Nat.le_of_ble_eq_true rfl)) dX6_space_6 ⟨Nat.zero_le _, Nat.zero_le _⟩) hS (fun H locs hP hS => ?_)
  refine lv_iconst (v := (1 : Int32)) hx hb dX6_space_9 (by decide) ?_
  obtain ⟨q3, hq3, hf⟩ := ob hf
  refine r_callv (va_runV (As := [.int q2.1, .int (1 : Int32)]) (rest := []) ⟨hx, hb, hml, hown, hts⟩ (c_X6_wrong hI hA hq3) (cwV 2 hts gX6_space_X6_wrong rfl rfl rfl (by decide +kernel) ⟨Nat.le_of_ble_eq_true rfl, Nat.le_of_ble_eq_true rfl⟩) (Pf_V XMb (XMo A) hX hK hP hS obX6 rfl) rfl rfl hl.1 rfl (lv_room (Nat.le_of_ble_eq_true rfl)) dX6_space_10 ⟨Nat.zero_le _, Nat.zero_le _⟩) hS (fun H locs hP hS => ?_)
  refine lv_aload_n hx hb dX6_space_13 rfl (lv_at hl 0 rfl) ?_
  refine lv_iload_n hx hb dX6_space_14 rfl (lv_at hl 1 rfl) ?_
  obtain ⟨q4, hq4, hf⟩ := ob hf
  refine r_callv (va_runV (As := [.int p0]) (rest := []) ⟨hx, hb, hml, hown, hts⟩ (c_X6_wantFree hI hA hq4) (cwV 1 hts gX6_space_X6_wantFree rfl rfl rfl (by decide +kernel) ⟨Nat.le_of_ble_eq_true rfl, Nat.le_of_ble_eq_true rfl⟩) (Pf_V XMb (XMo A) hX hK hP hS obX6 rfl) rfl rfl hl.1 rfl (lv_room (Nat.le_of_ble_eq_true rfl)) dX6_space_15 ⟨Nat.zero_le _, Nat.zero_le _⟩) hS (fun H locs hP hS => ?_)
  refine lv_aload_n hx hb dX6_space_18 rfl (lv_at hl 0 rfl) ?_
  refine r_getik (j := 19) hx hb hts inX6 hown hK hP (obX6) rfl (by decide) (hts (.fieldLink RX6 183 "PageMonitorModel" "least" "I") (by decide +kernel)) (fun _ => rfl) dX6_space_19 hf (fun x5 hf => ?_)
  refine r_if_le (tgt := 30) hx hb dX6_space_22 (by decide) hf (fun hf => ?_) (fun hf => ?_)
  · refine lv_aload_n hx hb dX6_space_30 rfl (lv_at hl 0 rfl) ?_
    refine lv_iload_n hx hb dX6_space_31 rfl (lv_at hl 1 rfl) ?_
    refine lv_iconst (v := (1 : Int32)) hx hb dX6_space_32 (by decide) ?_
    refine lv_iconst (v := (-1 : Int32)) hx hb dX6_space_33 (by decide) ?_
    obtain ⟨q6, hq6, hf⟩ := ob hf
    refine r_callv (va_runV (As := [.int p0, .int (1 : Int32), .int (-1 : Int32)]) (rest := []) ⟨hx, hb, hml, hown, hts⟩ (c_X6_become hI hA hq6) (cwV 3 hts gX6_space_X6_become rfl rfl rfl (by decide +kernel) ⟨Nat.le_of_ble_eq_true rfl, Nat.le_of_ble_eq_true rfl⟩) (Pf_V XMb (XMo A) hX hK hP hS obX6 rfl) rfl rfl hl.1 rfl (lv_room (Nat.le_of_ble_eq_true rfl)) dX6_space_34 ⟨Nat.zero_le _, Nat.zero_le _⟩) hS (fun H locs hP hS => ?_)
    refine lv_aload_n hx hb dX6_space_37 rfl (lv_at hl 0 rfl) ?_
    refine r_getc (k' := 5) (j := 5) hx hb hts inX6 hown hK hP (obX6) rfl (by decide) (hts (.fieldLink RX6 22 "PageMonitorModel" "states" "[I") (by decide +kernel)) (fun _ => rfl) dX6_space_38 ?_
    refine lv_iload_n hx hb dX6_space_41 rfl (lv_at hl 1 rfl) ?_
    refine lv_iconst (v := (0 : Int32)) hx hb dX6_space_42 (by decide) ?_
    refine r_iastk hx hb hI hA hK hP hS 0 ma5 rfl dX6_space_43 hf (fun M7 H locs hP hS hf => ?_)
    refine lv_aload_n hx hb dX6_space_44 rfl (lv_at hl 0 rfl) ?_
    refine r_getc (k' := 13) (j := 13) hx hb hts inX6 hown hK hP (obX6) rfl (by decide) (hts (.fieldLink RX6 46 "PageMonitorModel" "measured" "[Z") (by decide +kernel)) (fun _ => rfl) dX6_space_45 ?_
    refine lv_iload_n hx hb dX6_space_48 rfl (lv_at hl 1 rfl) ?_
    refine lv_iconst (v := (0 : Int32)) hx hb dX6_space_49 (by decide) ?_
    refine r_zastk hx hb hI hA hK hP hS 1 ma13 rfl dX6_space_50 hf (fun M8 H locs hP hS hf => ?_)
    refine lv_aload_n hx hb dX6_space_51 rfl (lv_at hl 0 rfl) ?_
    refine r_getc (k' := 11) (j := 11) hx hb hts inX6 hown hK hP (obX6) rfl (by decide) (hts (.fieldLink RX6 40 "PageMonitorModel" "logged" "[I") (by decide +kernel)) (fun _ => rfl) dX6_space_52 ?_
    refine lv_iload_n hx hb dX6_space_55 rfl (lv_at hl 1 rfl) ?_
    refine lv_iconst (v := (0 : Int32)) hx hb dX6_space_56 (by decide) ?_
    refine r_iastk hx hb hI hA hK hP hS 0 ma11 rfl dX6_space_57 hf (fun M9 H locs hP hS hf => ?_)
    refine lv_iconst (v := (0 : Int32)) hx hb dX6_space_58 (by decide) ?_
    refine lv_istore_n (lv' := [(2, .int (0 : Int32)), (0, .ref (ad 0)), (1, .int p0)]) hx hb dX6_space_59 rfl hl (by decide) rfl (fun ls hl => ?_)
    refine r_jn hf (fun F12 eF12 hf => ?_)
    have EF12 : ∀ (x13 : Int32) (M14 : Mem) (H : Heap) (locs : List Loc) (ls : Array Slot), va_P D vwCl (gw 25 ad (spM ad cI cZ) M14) H → va_S A s.heap H locs → lv_has ls 3 [(0, .ref (ad 0)), (1, .int p0), (2, .int x13)] → F12 x13 M14 = some res → W p l e (headSpec wsX6_space { frames := 3, cells := 0, slots := 0, locals := 63 }).room s m (([.ref (ad 0), .int p0] : List Value).toArray) below meth c H locs 0 0 (MQ below (Qf D vwCl 25 ad (spM ad cI cZ) A (some (.int res.1)) res.2) (([.ref (ad 0), .int p0] : List Value).toArray) s 0 0 A) (F0 m 82 ls []) := by
      intro x13 M14 H locs ls hP hS hl hf
      rw [eF12] at hf
      refine lv_iconst (v := (0 : Int32)) hx hb dX6_space_82 (by decide) ?_
      obtain rfl := Option.some.inj hf
      exact r_iret hx hb hr hlocks hP hS dX6_space_83
    have LF12 : ∀ (n : Nat) (x10 : Int32) (M11 : Mem) (H : Heap) (locs : List Loc) (ls : Array Slot), va_P D vwCl (gw 25 ad (spM ad cI cZ) M11) H → va_S A s.heap H locs → lv_has ls 3 [(0, .ref (ad 0)), (1, .int p0), (2, .int x10)] → lp_X6_space_60 p0 F12 n x10 M11 = some res → W p l e (headSpec wsX6_space { frames := 3, cells := 0, slots := 0, locals := 63 }).room s m (([.ref (ad 0), .int p0] : List Value).toArray) below meth c H locs 0 0 (MQ below (Qf D vwCl 25 ad (spM ad cI cZ) A (some (.int res.1)) res.2) (([.ref (ad 0), .int p0] : List Value).toArray) s 0 0 A) (F0 m 60 ls []) := by
      intro n
      induction n with
      | zero =>
        intro x10 M11 H locs ls hP hS hl hf
        exact absurd hf (fun h => nomatch h)
      | succ n ih =>
        intro x10 M11 H locs ls hP hS hl hf
        rw [lp_X6_space_60_s] at hf
        refine lv_iload_n hx hb dX6_space_60 rfl (lv_at hl 2 rfl) ?_
        refine lv_iconst (v := (4 : Int32)) hx hb dX6_space_61 (by decide) ?_
        refine r_icmp_ge (tgt := 82) hx hb dX6_space_62 (by decide) hf (fun hf => ?_) (fun hf => ?_)
        · exact EF12 x10 M11 _ _ _ hP hS (lv_sub hl [0, 1, 2] rfl) hf
        · refine lv_aload_n hx hb dX6_space_65 rfl (lv_at hl 0 rfl) ?_
          refine r_getc (k' := 9) (j := 9) hx hb hts inX6 hown hK hP (obX6) rfl (by decide) (hts (.fieldLink RX6 34 "PageMonitorModel" "tables" "[I") (by decide +kernel)) (fun _ => rfl) dX6_space_66 ?_
          refine lv_iconst (v := (4 : Int32)) hx hb dX6_space_69 (by decide) ?_
          refine lv_iload_n hx hb dX6_space_70 rfl (lv_at hl 1 rfl) ?_
          refine lv_imul hx hb dX6_space_71 ?_
          refine lv_iload_n hx hb dX6_space_72 rfl (lv_at hl 2 rfl) ?_
          refine lv_iadd hx hb dX6_space_73 ?_
          refine lv_iconst (v := (-1 : Int32)) hx hb dX6_space_74 (by decide) ?_
          refine r_iastk hx hb hI hA hK hP hS 0 ma9 rfl dX6_space_75 hf (fun M15 H locs hP hS hf => ?_)
          refine lv_iinc (v := x10 + (1 : Int32)) (lv' := [(2, .int (x10 + (1 : Int32))), (0, .ref (ad 0)), (1, .int p0)]) hx hb dX6_space_76 hl (k := 2) rfl rfl (by decide) rfl (fun ls hl => ?_)
          refine lv_goto (tgt := 60) hx hb dX6_space_79 (by decide) ?_
          exact ih (x10 + (1 : Int32)) M15 _ _ _ hP hS (lv_sub hl [1, 2, 0] rfl) hf
    exact LF12 FU (0 : Int32) M9 _ _ _ hP hS (lv_sub hl [1, 2, 0] rfl) hf
  · refine lv_aload_n hx hb dX6_space_25 rfl (lv_at hl 0 rfl) ?_
    refine r_getik (j := 19) hx hb hts inX6 hown hK hP (obX6) rfl (by decide) (hts (.fieldLink RX6 183 "PageMonitorModel" "least" "I") (by decide +kernel)) (fun _ => rfl) dX6_space_26 hf (fun x16 hf => ?_)
    obtain rfl := Option.some.inj hf
    exact r_iret hx hb hr hlocks hP hS dX6_space_29
set_option maxHeartbeats 4000000 in
set_option maxRecDepth 100000 in
theorem c_X6_thread {l : Launch} {D : va_G} {ad : Nat → Nat} {cI cZ cP cR : ClassId} {A : Nat → Prop} {M : Mem} {p0 : Int32} {p1 : Int32} {p2 : Int32} {res : (Int32 × Mem)} (hI : gInj 25 ad) (hA : ∀ k, k < 25 → A (ad k)) (hf : fX6_thread M p0 p1 p2 = some res) : Met l yX6_thread wsX6_thread { frames := 3, cells := 0, slots := 0, locals := 64 } (va_Pc [.ref (ad 0), .int p0, .int p1, .int p2] (Pf D vwCl (tysW cI cZ cP cR) 25 ad (spM ad cI cZ) XM M)) (Qf D vwCl 25 ad (spM ad cI cZ) A (some (.int res.1)) res.2) 0 0 A := by
  refine Met.ofW (cc := cX6_thread) (maxL := 4) (ret := (some .int)) (by decide) rfl ?_
  intro p e s m args below meth c s₁ B hml hv
  obtain ⟨rfl, hP, hK, hX⟩ := hv
  have hx := B.exec
  have hb := B.bytes
  have hr := B.returns
  have hts := atoms_spec (ws := wsX6_thread) B.pre
  have hown : s.vm.findClass RX6 = some m.cls := findClass_of_methodNamed B.named
  have hlocks := B.notSynchronized
  have inX6 : ∀ w ∈ wsX60, w ∈ wsX6_thread := by decide +kernel
  have hS : va_S A s.heap s.heap [] := va_S.rf
  have hl := lv_entry ([.ref (ad 0), .int p0, .int p1, .int p2]) (n := 4) (Nat.le_of_ble_eq_true rfl)
  rw [lg_entry_eq]
  generalize (lg_sl ([.ref (ad 0), .int p0, .int p1, .int p2]) ++ List.replicate (4 - (lg_sl ([.ref (ad 0), .int p0, .int p1, .int p2])).length) Slot.unset).toArray = ls at hl ⊢
  have hl : lv_has ls 4 [(0, .ref (ad 0)), (1, .int p0), (2, .int p1), (3, .int p2)] := hl
  rw [fX6_thread] at hf
  refine lv_aload_n hx hb dX6_thread_0 rfl (lv_at hl 0 rfl) ?_
  obtain ⟨q1, hq1, hf⟩ := ob hf
  refine r_callv (va_runV (As := []) (rest := []) ⟨hx, hb, hml, hown, hts⟩ (c_X6_begin hI hA hq1) (cwV 0 hts gX6_thread_X6_begin rfl rfl rfl (by decide +kernel) ⟨Nat.le_of_ble_eq_true rfl, Nat.le_of_ble_eq_true rfl⟩) (Pf_V XMb (XMo A) hX hK hP hS obX6 rfl) rfl rfl hl.1 rfl (lv_room (Nat.le_of_ble_eq_true rfl)) dX6_thread_1 ⟨Nat.zero_le _, Nat.zero_le _⟩) hS (fun H locs hP hS => ?_)
  refine lv_aload_n hx hb dX6_thread_4 rfl (lv_at hl 0 rfl) ?_
  refine lv_iload_n hx hb dX6_thread_5 rfl (lv_at hl 1 rfl) ?_
  obtain ⟨q2, hq2, hf⟩ := ob hf
  refine r_call1 (va_runS (As := [.int p0]) (rest := [.ref (ad 0)]) ⟨hx, hb, hml, hown, hts⟩ (c_X6_noPage hI hA hq2) (va_cwS 1 hts gX6_thread_X6_noPage rfl rfl rfl (by decide +kernel) ⟨Nat.le_of_ble_eq_true rfl, Nat.le_of_ble_eq_true rfl⟩) (Pf_S XMb (XMo A) hX hK hP hS) rfl rfl hl.1 rfl (lv_room (Nat.le_of_ble_eq_true rfl)) dX6_thread_6 ⟨Nat.zero_le _, Nat.zero_le _⟩) hS (fun H locs hP hS => ?_)
  refine r_jn hf (fun K6 eK6 hf => ?_)
  have JK6 : ∀ (x4 : Int32) (M5 : Mem) (H : Heap) (locs : List Loc) (ls : Array Slot), va_P D vwCl (gw 25 ad (spM ad cI cZ) M5) H → va_S A s.heap H locs → lv_has ls 4 [(0, .ref (ad 0)), (1, .int p0), (2, .int p1), (3, .int p2)] → K6 x4 M5 = some res → W p l e (headSpec wsX6_thread { frames := 3, cells := 0, slots := 0, locals := 64 }).room s m (([.ref (ad 0), .int p0, .int p1, .int p2] : List Value).toArray) below meth c H locs 0 0 (MQ below (Qf D vwCl 25 ad (spM ad cI cZ) A (some (.int res.1)) res.2) (([.ref (ad 0), .int p0, .int p1, .int p2] : List Value).toArray) s 0 0 A) (F0 m 35 ls [.int x4, .ref (ad 0)]) := by
    intro x4 M5 H locs ls hP hS hl hf
    rw [eK6] at hf
    refine lv_iconst (v := (1 : Int32)) hx hb dX6_thread_35 (by decide) ?_
    obtain ⟨q7, hq7, hf⟩ := ob hf
    refine r_callv (va_runV (As := [.int x4, .int (1 : Int32)]) (rest := []) ⟨hx, hb, hml, hown, hts⟩ (c_X6_wrong hI hA hq7) (cwV 2 hts gX6_thread_X6_wrong rfl rfl rfl (by decide +kernel) ⟨Nat.le_of_ble_eq_true rfl, Nat.le_of_ble_eq_true rfl⟩) (Pf_V XMb (XMo A) hX hK hP hS obX6 rfl) rfl rfl hl.1 rfl (lv_room (Nat.le_of_ble_eq_true rfl)) dX6_thread_36 ⟨Nat.zero_le _, Nat.zero_le _⟩) hS (fun H locs hP hS => ?_)
    refine lv_aload_n hx hb dX6_thread_39 rfl (lv_at hl 0 rfl) ?_
    refine lv_iload_n hx hb dX6_thread_40 rfl (lv_at hl 1 rfl) ?_
    obtain ⟨q8, hq8, hf⟩ := ob hf
    refine r_callv (va_runV (As := [.int p0]) (rest := []) ⟨hx, hb, hml, hown, hts⟩ (c_X6_wantFree hI hA hq8) (cwV 1 hts gX6_thread_X6_wantFree rfl rfl rfl (by decide +kernel) ⟨Nat.le_of_ble_eq_true rfl, Nat.le_of_ble_eq_true rfl⟩) (Pf_V XMb (XMo A) hX hK hP hS obX6 rfl) rfl rfl hl.1 rfl (lv_room (Nat.le_of_ble_eq_true rfl)) dX6_thread_41 ⟨Nat.zero_le _, Nat.zero_le _⟩) hS (fun H locs hP hS => ?_)
    refine lv_aload_n hx hb dX6_thread_44 rfl (lv_at hl 0 rfl) ?_
    refine lv_iload_n hx hb dX6_thread_45 rfl (lv_at hl 2 rfl) ?_
    refine lv_iconst (v := (0 : Int32)) hx hb dX6_thread_46 (by decide) ?_
    obtain ⟨q9, hq9, hf⟩ := ob hf
    refine r_callv (va_runV (As := [.int p1, .int (0 : Int32)]) (rest := []) ⟨hx, hb, hml, hown, hts⟩ (c_X6_wantSpace hI hA hq9) (cwV 2 hts gX6_thread_X6_wantSpace rfl rfl rfl (by decide +kernel) ⟨Nat.le_of_ble_eq_true rfl, Nat.le_of_ble_eq_true rfl⟩) (Pf_V XMb (XMo A) hX hK hP hS obX6 rfl) rfl rfl hl.1 rfl (lv_room (Nat.le_of_ble_eq_true rfl)) dX6_thread_47 ⟨Nat.zero_le _, Nat.zero_le _⟩) hS (fun H locs hP hS => ?_)
    refine lv_aload_n hx hb dX6_thread_50 rfl (lv_at hl 0 rfl) ?_
    refine r_getik (j := 19) hx hb hts inX6 hown hK hP (obX6) rfl (by decide) (hts (.fieldLink RX6 183 "PageMonitorModel" "least" "I") (by decide +kernel)) (fun _ => rfl) dX6_thread_51 hf (fun x10 hf => ?_)
    refine r_if_le (tgt := 62) hx hb dX6_thread_54 (by decide) hf (fun hf => ?_) (fun hf => ?_)
    · refine lv_aload_n hx hb dX6_thread_62 rfl (lv_at hl 0 rfl) ?_
      refine lv_iload_n hx hb dX6_thread_63 rfl (lv_at hl 1 rfl) ?_
      refine lv_iconst (v := (2 : Int32)) hx hb dX6_thread_64 (by decide) ?_
      refine lv_iload_n hx hb dX6_thread_65 rfl (lv_at hl 2 rfl) ?_
      obtain ⟨q11, hq11, hf⟩ := ob hf
      refine r_callv (va_runV (As := [.int p0, .int (2 : Int32), .int p1]) (rest := []) ⟨hx, hb, hml, hown, hts⟩ (c_X6_become hI hA hq11) (cwV 3 hts gX6_thread_X6_become rfl rfl rfl (by decide +kernel) ⟨Nat.le_of_ble_eq_true rfl, Nat.le_of_ble_eq_true rfl⟩) (Pf_V XMb (XMo A) hX hK hP hS obX6 rfl) rfl rfl hl.1 rfl (lv_room (Nat.le_of_ble_eq_true rfl)) dX6_thread_66 ⟨Nat.zero_le _, Nat.zero_le _⟩) hS (fun H locs hP hS => ?_)
      refine lv_aload_n hx hb dX6_thread_69 rfl (lv_at hl 0 rfl) ?_
      refine r_getc (k' := 14) (j := 14) hx hb hts inX6 hown hK hP (obX6) rfl (by decide) (hts (.fieldLink RX6 50 "PageMonitorModel" "starts" "[I") (by decide +kernel)) (fun _ => rfl) dX6_thread_70 ?_
      refine lv_iload_n hx hb dX6_thread_73 rfl (lv_at hl 1 rfl) ?_
      refine lv_iload_n hx hb dX6_thread_74 rfl (lv_at hl 3 rfl) ?_
      refine r_iastk hx hb hI hA hK hP hS 0 ma14 rfl dX6_thread_75 hf (fun M12 H locs hP hS hf => ?_)
      refine lv_aload_n hx hb dX6_thread_76 rfl (lv_at hl 0 rfl) ?_
      refine r_getc (k' := 15) (j := 15) hx hb hts inX6 hown hK hP (obX6) rfl (by decide) (hts (.fieldLink RX6 53 "PageMonitorModel" "entered" "[Z") (by decide +kernel)) (fun _ => rfl) dX6_thread_77 ?_
      refine lv_iload_n hx hb dX6_thread_80 rfl (lv_at hl 1 rfl) ?_
      refine lv_iconst (v := (0 : Int32)) hx hb dX6_thread_81 (by decide) ?_
      refine r_zastk hx hb hI hA hK hP hS 1 ma15 rfl dX6_thread_82 hf (fun M13 H locs hP hS hf => ?_)
      refine lv_aload_n hx hb dX6_thread_83 rfl (lv_at hl 0 rfl) ?_
      refine lv_iload_n hx hb dX6_thread_84 rfl (lv_at hl 2 rfl) ?_
      refine lv_iconst (v := (1 : Int32)) hx hb dX6_thread_85 (by decide) ?_
      refine lv_iload_n hx hb dX6_thread_86 rfl (lv_at hl 3 rfl) ?_
      refine lv_iconst (v := (0 : Int32)) hx hb dX6_thread_87 (by decide) ?_
      obtain ⟨q14, hq14, hf⟩ := ob hf
      refine r_callv (va_runV (As := [.int p1, .int (1 : Int32), .int p2, .int (0 : Int32)]) (rest := []) ⟨hx, hb, hml, hown, hts⟩ (c_X6_tell hI hA hq14) (cwV 4 hts gX6_thread_X6_tell rfl rfl rfl (by decide +kernel) ⟨Nat.le_of_ble_eq_true rfl, Nat.le_of_ble_eq_true rfl⟩) (Pf_V XMb (XMo A) hX hK hP hS obX6 rfl) rfl rfl hl.1 rfl (lv_room (Nat.le_of_ble_eq_true rfl)) dX6_thread_88 ⟨Nat.zero_le _, Nat.zero_le _⟩) hS (fun H locs hP hS => ?_)
      refine lv_iconst (v := (0 : Int32)) hx hb dX6_thread_91 (by decide) ?_
      obtain rfl := Option.some.inj hf
      exact r_iret hx hb hr hlocks hP hS dX6_thread_92
    · refine lv_aload_n hx hb dX6_thread_57 rfl (lv_at hl 0 rfl) ?_
      refine r_getik (j := 19) hx hb hts inX6 hown hK hP (obX6) rfl (by decide) (hts (.fieldLink RX6 183 "PageMonitorModel" "least" "I") (by decide +kernel)) (fun _ => rfl) dX6_thread_58 hf (fun x15 hf => ?_)
      obtain rfl := Option.some.inj hf
      exact r_iret hx hb hr hlocks hP hS dX6_thread_61
  refine r_if_ne (tgt := 30) hx hb dX6_thread_9 (by decide) hf (fun hf => ?_) (fun hf => ?_)
  · refine lv_iconst (v := (1 : Int32)) hx hb dX6_thread_30 (by decide) ?_
    refine lv_goto (tgt := 35) hx hb dX6_thread_31 (by decide) ?_
    exact JK6 (1 : Int32) q2.2 _ _ _ hP hS (lv_sub hl [0, 1, 2, 3] rfl) hf
  · refine lv_iload_n hx hb dX6_thread_12 rfl (lv_at hl 2 rfl) ?_
    obtain ⟨q16, hq16, hf⟩ := ob hf
    refine r_call1 (va_runS (As := [.int p1]) (rest := [.ref (ad 0)]) ⟨hx, hb, hml, hown, hts⟩ (c_X6_noPage hI hA hq16) (va_cwS 1 hts gX6_thread_X6_noPage rfl rfl rfl (by decide +kernel) ⟨Nat.le_of_ble_eq_true rfl, Nat.le_of_ble_eq_true rfl⟩) (Pf_S XMb (XMo A) hX hK hP hS) rfl rfl hl.1 rfl (lv_room (Nat.le_of_ble_eq_true rfl)) dX6_thread_13 ⟨Nat.zero_le _, Nat.zero_le _⟩) hS (fun H locs hP hS => ?_)
    refine r_if_ne (tgt := 30) hx hb dX6_thread_16 (by decide) hf (fun hf => ?_) (fun hf => ?_)
    · refine lv_iconst (v := (1 : Int32)) hx hb dX6_thread_30 (by decide) ?_
      refine lv_goto (tgt := 35) hx hb dX6_thread_31 (by decide) ?_
      exact JK6 (1 : Int32) q16.2 _ _ _ hP hS (lv_sub hl [0, 1, 2, 3] rfl) hf
    · refine lv_iload_n hx hb dX6_thread_19 rfl (lv_at hl 3 rfl) ?_
      refine r_if_lt (tgt := 30) hx hb dX6_thread_20 (by decide) hf (fun hf => ?_) (fun hf => ?_)
      · refine lv_iconst (v := (1 : Int32)) hx hb dX6_thread_30 (by decide) ?_
        refine lv_goto (tgt := 35) hx hb dX6_thread_31 (by decide) ?_
        exact JK6 (1 : Int32) q16.2 _ _ _ hP hS (lv_sub hl [0, 1, 2, 3] rfl) hf
      · refine lv_iload_n hx hb dX6_thread_23 rfl (lv_at hl 3 rfl) ?_
        refine lv_sipush (v := (511 : Int32)) hx hb dX6_thread_24 (by decide) ?_
        refine r_icmp_le (tgt := 34) hx hb dX6_thread_27 (by decide) hf (fun hf => ?_) (fun hf => ?_)
        · refine lv_iconst (v := (0 : Int32)) hx hb dX6_thread_34 (by decide) ?_
          exact JK6 (0 : Int32) q16.2 _ _ _ hP hS (lv_sub hl [0, 1, 2, 3] rfl) hf
        · refine lv_iconst (v := (1 : Int32)) hx hb dX6_thread_30 (by decide) ?_
          refine lv_goto (tgt := 35) hx hb dX6_thread_31 (by decide) ?_
          exact JK6 (1 : Int32) q16.2 _ _ _ hP hS (lv_sub hl [0, 1, 2, 3] rfl) hf
set_option maxHeartbeats 4000000 in
set_option maxRecDepth 100000 in
theorem c_X6_table {l : Launch} {D : va_G} {ad : Nat → Nat} {cI cZ cP cR : ClassId} {A : Nat → Prop} {M : Mem} {p0 : Int32} {p1 : Int32} {p2 : Int32} {res : (Int32 × Mem)} (hI : gInj 25 ad) (hA : ∀ k, k < 25 → A (ad k)) (hf : fX6_table M p0 p1 p2 = some res) : Met l yX6_table wsX6_table { frames := 3, cells := 0, slots := 0, locals := 64 } (va_Pc [.ref (ad 0), .int p0, .int p1, .int p2] (Pf D vwCl (tysW cI cZ cP cR) 25 ad (spM ad cI cZ) XM M)) (Qf D vwCl 25 ad (spM ad cI cZ) A (some (.int res.1)) res.2) 0 0 A := by
  refine Met.ofW (cc := cX6_table) (maxL := 5) (ret := (some .int)) (by decide) rfl ?_
  intro p e s m args below meth c s₁ B hml hv
  obtain ⟨rfl, hP, hK, hX⟩ := hv
  have hx := B.exec
  have hb := B.bytes
  have hr := B.returns
  have hts := atoms_spec (ws := wsX6_table) B.pre
  have hown : s.vm.findClass RX6 = some m.cls := findClass_of_methodNamed B.named
  have hlocks := B.notSynchronized
  have inX6 : ∀ w ∈ wsX60, w ∈ wsX6_table := by decide +kernel
  have hS : va_S A s.heap s.heap [] := va_S.rf
  have hl := lv_entry ([.ref (ad 0), .int p0, .int p1, .int p2]) (n := 5) (Nat.le_of_ble_eq_true rfl)
  rw [lg_entry_eq]
  generalize (lg_sl ([.ref (ad 0), .int p0, .int p1, .int p2]) ++ List.replicate (5 - (lg_sl ([.ref (ad 0), .int p0, .int p1, .int p2])).length) Slot.unset).toArray = ls at hl ⊢
  have hl : lv_has ls 5 [(0, .ref (ad 0)), (1, .int p0), (2, .int p1), (3, .int p2)] := hl
  rw [fX6_table] at hf
  refine lv_aload_n hx hb dX6_table_0 rfl (lv_at hl 0 rfl) ?_
  obtain ⟨q1, hq1, hf⟩ := ob hf
  refine r_callv (va_runV (As := []) (rest := []) ⟨hx, hb, hml, hown, hts⟩ (c_X6_begin hI hA hq1) (cwV 0 hts gX6_table_X6_begin rfl rfl rfl (by decide +kernel) ⟨Nat.le_of_ble_eq_true rfl, Nat.le_of_ble_eq_true rfl⟩) (Pf_V XMb (XMo A) hX hK hP hS obX6 rfl) rfl rfl hl.1 rfl (lv_room (Nat.le_of_ble_eq_true rfl)) dX6_table_1 ⟨Nat.zero_le _, Nat.zero_le _⟩) hS (fun H locs hP hS => ?_)
  refine lv_aload_n hx hb dX6_table_4 rfl (lv_at hl 0 rfl) ?_
  refine lv_iload_n hx hb dX6_table_5 rfl (lv_at hl 1 rfl) ?_
  obtain ⟨q2, hq2, hf⟩ := ob hf
  refine r_call1 (va_runS (As := [.int p0]) (rest := [.ref (ad 0)]) ⟨hx, hb, hml, hown, hts⟩ (c_X6_noPage hI hA hq2) (va_cwS 1 hts gX6_table_X6_noPage rfl rfl rfl (by decide +kernel) ⟨Nat.le_of_ble_eq_true rfl, Nat.le_of_ble_eq_true rfl⟩) (Pf_S XMb (XMo A) hX hK hP hS) rfl rfl hl.1 rfl (lv_room (Nat.le_of_ble_eq_true rfl)) dX6_table_6 ⟨Nat.zero_le _, Nat.zero_le _⟩) hS (fun H locs hP hS => ?_)
  refine r_jn hf (fun K6 eK6 hf => ?_)
  have JK6 : ∀ (x4 : Int32) (M5 : Mem) (H : Heap) (locs : List Loc) (ls : Array Slot), va_P D vwCl (gw 25 ad (spM ad cI cZ) M5) H → va_S A s.heap H locs → lv_has ls 5 [(0, .ref (ad 0)), (1, .int p0), (2, .int p1), (3, .int p2)] → K6 x4 M5 = some res → W p l e (headSpec wsX6_table { frames := 3, cells := 0, slots := 0, locals := 64 }).room s m (([.ref (ad 0), .int p0, .int p1, .int p2] : List Value).toArray) below meth c H locs 0 0 (MQ below (Qf D vwCl 25 ad (spM ad cI cZ) A (some (.int res.1)) res.2) (([.ref (ad 0), .int p0, .int p1, .int p2] : List Value).toArray) s 0 0 A) (F0 m 33 ls [.int x4, .ref (ad 0)]) := by
    intro x4 M5 H locs ls hP hS hl hf
    rw [eK6] at hf
    refine lv_iconst (v := (1 : Int32)) hx hb dX6_table_33 (by decide) ?_
    obtain ⟨q7, hq7, hf⟩ := ob hf
    refine r_callv (va_runV (As := [.int x4, .int (1 : Int32)]) (rest := []) ⟨hx, hb, hml, hown, hts⟩ (c_X6_wrong hI hA hq7) (cwV 2 hts gX6_table_X6_wrong rfl rfl rfl (by decide +kernel) ⟨Nat.le_of_ble_eq_true rfl, Nat.le_of_ble_eq_true rfl⟩) (Pf_V XMb (XMo A) hX hK hP hS obX6 rfl) rfl rfl hl.1 rfl (lv_room (Nat.le_of_ble_eq_true rfl)) dX6_table_34 ⟨Nat.zero_le _, Nat.zero_le _⟩) hS (fun H locs hP hS => ?_)
    refine lv_aload_n hx hb dX6_table_37 rfl (lv_at hl 0 rfl) ?_
    refine lv_iload_n hx hb dX6_table_38 rfl (lv_at hl 1 rfl) ?_
    obtain ⟨q8, hq8, hf⟩ := ob hf
    refine r_callv (va_runV (As := [.int p0]) (rest := []) ⟨hx, hb, hml, hown, hts⟩ (c_X6_wantFree hI hA hq8) (cwV 1 hts gX6_table_X6_wantFree rfl rfl rfl (by decide +kernel) ⟨Nat.le_of_ble_eq_true rfl, Nat.le_of_ble_eq_true rfl⟩) (Pf_V XMb (XMo A) hX hK hP hS obX6 rfl) rfl rfl hl.1 rfl (lv_room (Nat.le_of_ble_eq_true rfl)) dX6_table_39 ⟨Nat.zero_le _, Nat.zero_le _⟩) hS (fun H locs hP hS => ?_)
    refine lv_aload_n hx hb dX6_table_42 rfl (lv_at hl 0 rfl) ?_
    refine lv_iload_n hx hb dX6_table_43 rfl (lv_at hl 2 rfl) ?_
    refine lv_iconst (v := (0 : Int32)) hx hb dX6_table_44 (by decide) ?_
    obtain ⟨q9, hq9, hf⟩ := ob hf
    refine r_callv (va_runV (As := [.int p1, .int (0 : Int32)]) (rest := []) ⟨hx, hb, hml, hown, hts⟩ (c_X6_wantSpace hI hA hq9) (cwV 2 hts gX6_table_X6_wantSpace rfl rfl rfl (by decide +kernel) ⟨Nat.le_of_ble_eq_true rfl, Nat.le_of_ble_eq_true rfl⟩) (Pf_V XMb (XMo A) hX hK hP hS obX6 rfl) rfl rfl hl.1 rfl (lv_room (Nat.le_of_ble_eq_true rfl)) dX6_table_45 ⟨Nat.zero_le _, Nat.zero_le _⟩) hS (fun H locs hP hS => ?_)
    refine lv_aload_n hx hb dX6_table_48 rfl (lv_at hl 0 rfl) ?_
    refine lv_aload_n hx hb dX6_table_49 rfl (lv_at hl 0 rfl) ?_
    refine r_getik (j := 19) hx hb hts inX6 hown hK hP (obX6) rfl (by decide) (hts (.fieldLink RX6 183 "PageMonitorModel" "least" "I") (by decide +kernel)) (fun _ => rfl) dX6_table_50 hf (fun x10 hf => ?_)
    refine r_jn hf (fun K13 eK13 hf => ?_)
    have JK13 : ∀ (x12 : Int32) (H : Heap) (locs : List Loc) (ls : Array Slot), va_P D vwCl (gw 25 ad (spM ad cI cZ) q9) H → va_S A s.heap H locs → lv_has ls 5 [(0, .ref (ad 0)), (1, .int p0), (2, .int p1), (3, .int p2)] → K13 x12 = some res → W p l e (headSpec wsX6_table { frames := 3, cells := 0, slots := 0, locals := 64 }).room s m (([.ref (ad 0), .int p0, .int p1, .int p2] : List Value).toArray) below meth c H locs 0 0 (MQ below (Qf D vwCl 25 ad (spM ad cI cZ) A (some (.int res.1)) res.2) (([.ref (ad 0), .int p0, .int p1, .int p2] : List Value).toArray) s 0 0 A) (F0 m 74 ls [.int x12, .ref (ad 0)]) := by
      intro x12 H locs ls hP hS hl hf
      rw [eK13] at hf
      refine lv_iconst (v := (5 : Int32)) hx hb dX6_table_74 (by decide) ?_
      obtain ⟨q14, hq14, hf⟩ := ob hf
      refine r_callv (va_runV (As := [.int x12, .int (5 : Int32)]) (rest := []) ⟨hx, hb, hml, hown, hts⟩ (c_X6_wrong hI hA hq14) (cwV 2 hts gX6_table_X6_wrong rfl rfl rfl (by decide +kernel) ⟨Nat.le_of_ble_eq_true rfl, Nat.le_of_ble_eq_true rfl⟩) (Pf_V XMb (XMo A) hX hK hP hS obX6 rfl) rfl rfl hl.1 rfl (lv_room (Nat.le_of_ble_eq_true rfl)) dX6_table_75 ⟨Nat.zero_le _, Nat.zero_le _⟩) hS (fun H locs hP hS => ?_)
      refine lv_aload_n hx hb dX6_table_78 rfl (lv_at hl 0 rfl) ?_
      refine r_getik (j := 19) hx hb hts inX6 hown hK hP (obX6) rfl (by decide) (hts (.fieldLink RX6 183 "PageMonitorModel" "least" "I") (by decide +kernel)) (fun _ => rfl) dX6_table_79 hf (fun x15 hf => ?_)
      refine r_if_le (tgt := 90) hx hb dX6_table_82 (by decide) hf (fun hf => ?_) (fun hf => ?_)
      · refine lv_aload_n hx hb dX6_table_90 rfl (lv_at hl 0 rfl) ?_
        refine lv_iload_n hx hb dX6_table_91 rfl (lv_at hl 1 rfl) ?_
        refine lv_iconst (v := (3 : Int32)) hx hb dX6_table_92 (by decide) ?_
        refine lv_iload_n hx hb dX6_table_93 rfl (lv_at hl 2 rfl) ?_
        obtain ⟨q16, hq16, hf⟩ := ob hf
        refine r_callv (va_runV (As := [.int p0, .int (3 : Int32), .int p1]) (rest := []) ⟨hx, hb, hml, hown, hts⟩ (c_X6_become hI hA hq16) (cwV 3 hts gX6_table_X6_become rfl rfl rfl (by decide +kernel) ⟨Nat.le_of_ble_eq_true rfl, Nat.le_of_ble_eq_true rfl⟩) (Pf_V XMb (XMo A) hX hK hP hS obX6 rfl) rfl rfl hl.1 rfl (lv_room (Nat.le_of_ble_eq_true rfl)) dX6_table_94 ⟨Nat.zero_le _, Nat.zero_le _⟩) hS (fun H locs hP hS => ?_)
        refine lv_aload_n hx hb dX6_table_97 rfl (lv_at hl 0 rfl) ?_
        refine r_getc (k' := 9) (j := 9) hx hb hts inX6 hown hK hP (obX6) rfl (by decide) (hts (.fieldLink RX6 34 "PageMonitorModel" "tables" "[I") (by decide +kernel)) (fun _ => rfl) dX6_table_98 ?_
        refine lv_iconst (v := (4 : Int32)) hx hb dX6_table_101 (by decide) ?_
        refine lv_iload_n hx hb dX6_table_102 rfl (lv_at hl 2 rfl) ?_
        refine lv_imul hx hb dX6_table_103 ?_
        refine lv_iload_n hx hb dX6_table_104 rfl (lv_at hl 3 rfl) ?_
        refine lv_iadd hx hb dX6_table_105 ?_
        refine lv_iload_n hx hb dX6_table_106 rfl (lv_at hl 1 rfl) ?_
        refine r_iastk hx hb hI hA hK hP hS 0 ma9 rfl dX6_table_107 hf (fun M17 H locs hP hS hf => ?_)
        refine lv_iconst (v := (0 : Int32)) hx hb dX6_table_108 (by decide) ?_
        refine lv_istore (lv' := [(4, .int (0 : Int32)), (0, .ref (ad 0)), (1, .int p0), (2, .int p1), (3, .int p2)]) hx hb dX6_table_109 hl (by decide) rfl (fun ls hl => ?_)
        refine r_jn hf (fun F20 eF20 hf => ?_)
        have EF20 : ∀ (x21 : Int32) (M22 : Mem) (H : Heap) (locs : List Loc) (ls : Array Slot), va_P D vwCl (gw 25 ad (spM ad cI cZ) M22) H → va_S A s.heap H locs → lv_has ls 5 [(0, .ref (ad 0)), (1, .int p0), (2, .int p1), (3, .int p2), (4, .int x21)] → F20 x21 M22 = some res → W p l e (headSpec wsX6_table { frames := 3, cells := 0, slots := 0, locals := 64 }).room s m (([.ref (ad 0), .int p0, .int p1, .int p2] : List Value).toArray) below meth c H locs 0 0 (MQ below (Qf D vwCl 25 ad (spM ad cI cZ) A (some (.int res.1)) res.2) (([.ref (ad 0), .int p0, .int p1, .int p2] : List Value).toArray) s 0 0 A) (F0 m 137 ls []) := by
          intro x21 M22 H locs ls hP hS hl hf
          rw [eF20] at hf
          refine lv_iconst (v := (0 : Int32)) hx hb dX6_table_137 (by decide) ?_
          obtain rfl := Option.some.inj hf
          exact r_iret hx hb hr hlocks hP hS dX6_table_138
        have LF20 : ∀ (n : Nat) (x18 : Int32) (M19 : Mem) (H : Heap) (locs : List Loc) (ls : Array Slot), va_P D vwCl (gw 25 ad (spM ad cI cZ) M19) H → va_S A s.heap H locs → lv_has ls 5 [(0, .ref (ad 0)), (1, .int p0), (2, .int p1), (3, .int p2), (4, .int x18)] → lp_X6_table_111 p0 F20 n x18 M19 = some res → W p l e (headSpec wsX6_table { frames := 3, cells := 0, slots := 0, locals := 64 }).room s m (([.ref (ad 0), .int p0, .int p1, .int p2] : List Value).toArray) below meth c H locs 0 0 (MQ below (Qf D vwCl 25 ad (spM ad cI cZ) A (some (.int res.1)) res.2) (([.ref (ad 0), .int p0, .int p1, .int p2] : List Value).toArray) s 0 0 A) (F0 m 111 ls []) := by
          intro n
          induction n with
          | zero =>
            intro x18 M19 H locs ls hP hS hl hf
            exact absurd hf (fun h => nomatch h)
          | succ n ih =>
            intro x18 M19 H locs ls hP hS hl hf
            rw [lp_X6_table_111_s] at hf
            refine lv_iload hx hb dX6_table_111 (lv_at hl 4 rfl) ?_
            refine lv_bipush (v := (8 : Int32)) hx hb dX6_table_113 (by decide) ?_
            refine r_icmp_ge (tgt := 137) hx hb dX6_table_115 (by decide) hf (fun hf => ?_) (fun hf => ?_)
            · exact EF20 x18 M19 _ _ _ hP hS (lv_sub hl [0, 1, 2, 3, 4] rfl) hf
            · refine lv_aload_n hx hb dX6_table_118 rfl (lv_at hl 0 rfl) ?_
              refine r_getc (k' := 7) (j := 7) hx hb hts inX6 hown hK hP (obX6) rfl (by decide) (hts (.fieldLink RX6 28 "PageMonitorModel" "entries" "[I") (by decide +kernel)) (fun _ => rfl) dX6_table_119 ?_
              refine lv_bipush (v := (8 : Int32)) hx hb dX6_table_122 (by decide) ?_
              refine lv_iload_n hx hb dX6_table_124 rfl (lv_at hl 1 rfl) ?_
              refine lv_imul hx hb dX6_table_125 ?_
              refine lv_iload hx hb dX6_table_126 (lv_at hl 4 rfl) ?_
              refine lv_iadd hx hb dX6_table_128 ?_
              refine lv_iconst (v := (0 : Int32)) hx hb dX6_table_129 (by decide) ?_
              refine r_iastk hx hb hI hA hK hP hS 0 ma7 rfl dX6_table_130 hf (fun M23 H locs hP hS hf => ?_)
              refine lv_iinc (v := x18 + (1 : Int32)) (lv' := [(4, .int (x18 + (1 : Int32))), (0, .ref (ad 0)), (1, .int p0), (2, .int p1), (3, .int p2)]) hx hb dX6_table_131 hl (k := 4) rfl rfl (by decide) rfl (fun ls hl => ?_)
              refine lv_goto (tgt := 111) hx hb dX6_table_134 (by decide) ?_
              exact ih (x18 + (1 : Int32)) M23 _ _ _ hP hS (lv_sub hl [1, 2, 3, 4, 0] rfl) hf
        exact LF20 FU (0 : Int32) M17 _ _ _ hP hS (lv_sub hl [1, 2, 3, 4, 0] rfl) hf
      · refine lv_aload_n hx hb dX6_table_85 rfl (lv_at hl 0 rfl) ?_
        refine r_getik (j := 19) hx hb hts inX6 hown hK hP (obX6) rfl (by decide) (hts (.fieldLink RX6 183 "PageMonitorModel" "least" "I") (by decide +kernel)) (fun _ => rfl) dX6_table_86 hf (fun x24 hf => ?_)
        obtain rfl := Option.some.inj hf
        exact r_iret hx hb hr hlocks hP hS dX6_table_89
    refine r_if_ne (tgt := 73) hx hb dX6_table_53 (by decide) hf (fun hf => ?_) (fun hf => ?_)
    · refine lv_iconst (v := (0 : Int32)) hx hb dX6_table_73 (by decide) ?_
      exact JK13 (0 : Int32) _ _ _ hP hS (lv_sub hl [0, 1, 2, 3] rfl) hf
    · refine lv_aload_n hx hb dX6_table_56 rfl (lv_at hl 0 rfl) ?_
      refine r_getc (k' := 9) (j := 9) hx hb hts inX6 hown hK hP (obX6) rfl (by decide) (hts (.fieldLink RX6 34 "PageMonitorModel" "tables" "[I") (by decide +kernel)) (fun _ => rfl) dX6_table_57 ?_
      refine lv_iconst (v := (4 : Int32)) hx hb dX6_table_60 (by decide) ?_
      refine lv_iload_n hx hb dX6_table_61 rfl (lv_at hl 2 rfl) ?_
      refine lv_imul hx hb dX6_table_62 ?_
      refine lv_iload_n hx hb dX6_table_63 rfl (lv_at hl 3 rfl) ?_
      refine lv_iadd hx hb dX6_table_64 ?_
      refine r_ialdk hx hb hK hP 0 ma9 rfl dX6_table_65 hf (fun x25 hf => ?_)
      refine r_if_lt (tgt := 73) hx hb dX6_table_66 (by decide) hf (fun hf => ?_) (fun hf => ?_)
      · refine lv_iconst (v := (0 : Int32)) hx hb dX6_table_73 (by decide) ?_
        exact JK13 (0 : Int32) _ _ _ hP hS (lv_sub hl [0, 1, 2, 3] rfl) hf
      · refine lv_iconst (v := (1 : Int32)) hx hb dX6_table_69 (by decide) ?_
        refine lv_goto (tgt := 74) hx hb dX6_table_70 (by decide) ?_
        exact JK13 (1 : Int32) _ _ _ hP hS (lv_sub hl [0, 1, 2, 3] rfl) hf
  refine r_if_ne (tgt := 28) hx hb dX6_table_9 (by decide) hf (fun hf => ?_) (fun hf => ?_)
  · refine lv_iconst (v := (1 : Int32)) hx hb dX6_table_28 (by decide) ?_
    refine lv_goto (tgt := 33) hx hb dX6_table_29 (by decide) ?_
    exact JK6 (1 : Int32) q2.2 _ _ _ hP hS (lv_sub hl [0, 1, 2, 3] rfl) hf
  · refine lv_iload_n hx hb dX6_table_12 rfl (lv_at hl 2 rfl) ?_
    obtain ⟨q26, hq26, hf⟩ := ob hf
    refine r_call1 (va_runS (As := [.int p1]) (rest := [.ref (ad 0)]) ⟨hx, hb, hml, hown, hts⟩ (c_X6_noPage hI hA hq26) (va_cwS 1 hts gX6_table_X6_noPage rfl rfl rfl (by decide +kernel) ⟨Nat.le_of_ble_eq_true rfl, Nat.le_of_ble_eq_true rfl⟩) (Pf_S XMb (XMo A) hX hK hP hS) rfl rfl hl.1 rfl (lv_room (Nat.le_of_ble_eq_true rfl)) dX6_table_13 ⟨Nat.zero_le _, Nat.zero_le _⟩) hS (fun H locs hP hS => ?_)
    refine r_if_ne (tgt := 28) hx hb dX6_table_16 (by decide) hf (fun hf => ?_) (fun hf => ?_)
    · refine lv_iconst (v := (1 : Int32)) hx hb dX6_table_28 (by decide) ?_
      refine lv_goto (tgt := 33) hx hb dX6_table_29 (by decide) ?_
      exact JK6 (1 : Int32) q26.2 _ _ _ hP hS (lv_sub hl [0, 1, 2, 3] rfl) hf
    · refine lv_iload_n hx hb dX6_table_19 rfl (lv_at hl 3 rfl) ?_
      refine r_if_lt (tgt := 28) hx hb dX6_table_20 (by decide) hf (fun hf => ?_) (fun hf => ?_)
      · refine lv_iconst (v := (1 : Int32)) hx hb dX6_table_28 (by decide) ?_
        refine lv_goto (tgt := 33) hx hb dX6_table_29 (by decide) ?_
        exact JK6 (1 : Int32) q26.2 _ _ _ hP hS (lv_sub hl [0, 1, 2, 3] rfl) hf
      · refine lv_iload_n hx hb dX6_table_23 rfl (lv_at hl 3 rfl) ?_
        refine lv_iconst (v := (3 : Int32)) hx hb dX6_table_24 (by decide) ?_
        refine r_icmp_le (tgt := 32) hx hb dX6_table_25 (by decide) hf (fun hf => ?_) (fun hf => ?_)
        · refine lv_iconst (v := (0 : Int32)) hx hb dX6_table_32 (by decide) ?_
          exact JK6 (0 : Int32) q26.2 _ _ _ hP hS (lv_sub hl [0, 1, 2, 3] rfl) hf
        · refine lv_iconst (v := (1 : Int32)) hx hb dX6_table_28 (by decide) ?_
          refine lv_goto (tgt := 33) hx hb dX6_table_29 (by decide) ?_
          exact JK6 (1 : Int32) q26.2 _ _ _ hP hS (lv_sub hl [0, 1, 2, 3] rfl) hf
set_option maxHeartbeats 4000000 in
set_option maxRecDepth 100000 in
theorem c_X6_data {l : Launch} {D : va_G} {ad : Nat → Nat} {cI cZ cP cR : ClassId} {A : Nat → Prop} {M : Mem} {p0 : Int32} {p1 : Int32} {p2 : Int32} {p3 : Int32} {p4 : Int32} {res : (Int32 × Mem)} (hI : gInj 25 ad) (hA : ∀ k, k < 25 → A (ad k)) (hf : fX6_data M p0 p1 p2 p3 p4 = some res) : Met l yX6_data wsX6_data { frames := 3, cells := 0, slots := 0, locals := 66 } (va_Pc [.ref (ad 0), .int p0, .int p1, .int p2, .int p3, .int p4] (Pf D vwCl (tysW cI cZ cP cR) 25 ad (spM ad cI cZ) XM M)) (Qf D vwCl 25 ad (spM ad cI cZ) A (some (.int res.1)) res.2) 0 0 A := by
  refine Met.ofW (cc := cX6_data) (maxL := 7) (ret := (some .int)) (by decide) rfl ?_
  intro p e s m args below meth c s₁ B hml hv
  obtain ⟨rfl, hP, hK, hX⟩ := hv
  have hx := B.exec
  have hb := B.bytes
  have hr := B.returns
  have hts := atoms_spec (ws := wsX6_data) B.pre
  have hown : s.vm.findClass RX6 = some m.cls := findClass_of_methodNamed B.named
  have hlocks := B.notSynchronized
  have inX6 : ∀ w ∈ wsX60, w ∈ wsX6_data := by decide +kernel
  have hS : va_S A s.heap s.heap [] := va_S.rf
  have hl := lv_entry ([.ref (ad 0), .int p0, .int p1, .int p2, .int p3, .int p4]) (n := 7) (Nat.le_of_ble_eq_true rfl)
  rw [lg_entry_eq]
  generalize (lg_sl ([.ref (ad 0), .int p0, .int p1, .int p2, .int p3, .int p4]) ++ List.replicate (7 - (lg_sl ([.ref (ad 0), .int p0, .int p1, .int p2, .int p3, .int p4])).length) Slot.unset).toArray = ls at hl ⊢
  have hl : lv_has ls 7 [(0, .ref (ad 0)), (1, .int p0), (2, .int p1), (3, .int p2), (4, .int p3), (5, .int p4)] := hl
  rw [fX6_data] at hf
  refine lv_aload_n hx hb dX6_data_0 rfl (lv_at hl 0 rfl) ?_
  obtain ⟨q1, hq1, hf⟩ := ob hf
  refine r_callv (va_runV (As := []) (rest := []) ⟨hx, hb, hml, hown, hts⟩ (c_X6_begin hI hA hq1) (cwV 0 hts gX6_data_X6_begin rfl rfl rfl (by decide +kernel) ⟨Nat.le_of_ble_eq_true rfl, Nat.le_of_ble_eq_true rfl⟩) (Pf_V XMb (XMo A) hX hK hP hS obX6 rfl) rfl rfl hl.1 rfl (lv_room (Nat.le_of_ble_eq_true rfl)) dX6_data_1 ⟨Nat.zero_le _, Nat.zero_le _⟩) hS (fun H locs hP hS => ?_)
  refine lv_aload_n hx hb dX6_data_4 rfl (lv_at hl 0 rfl) ?_
  refine lv_iload_n hx hb dX6_data_5 rfl (lv_at hl 1 rfl) ?_
  obtain ⟨q2, hq2, hf⟩ := ob hf
  refine r_call1 (va_runS (As := [.int p0]) (rest := [.ref (ad 0)]) ⟨hx, hb, hml, hown, hts⟩ (c_X6_noPage hI hA hq2) (va_cwS 1 hts gX6_data_X6_noPage rfl rfl rfl (by decide +kernel) ⟨Nat.le_of_ble_eq_true rfl, Nat.le_of_ble_eq_true rfl⟩) (Pf_S XMb (XMo A) hX hK hP hS) rfl rfl hl.1 rfl (lv_room (Nat.le_of_ble_eq_true rfl)) dX6_data_6 ⟨Nat.zero_le _, Nat.zero_le _⟩) hS (fun H locs hP hS => ?_)
  refine r_jn hf (fun K8 eK8 hf => ?_)
  have JK8 : ∀ (x6 : Int32) (M7 : Mem) (H : Heap) (locs : List Loc) (ls : Array Slot), va_P D vwCl (gw 25 ad (spM ad cI cZ) M7) H → va_S A s.heap H locs → lv_has ls 7 [(0, .ref (ad 0)), (1, .int p0), (2, .int p1), (3, .int p2), (4, .int p3), (5, .int p4)] → K8 x6 M7 = some res → W p l e (headSpec wsX6_data { frames := 3, cells := 0, slots := 0, locals := 66 }).room s m (([.ref (ad 0), .int p0, .int p1, .int p2, .int p3, .int p4] : List Value).toArray) below meth c H locs 0 0 (MQ below (Qf D vwCl 25 ad (spM ad cI cZ) A (some (.int res.1)) res.2) (([.ref (ad 0), .int p0, .int p1, .int p2, .int p3, .int p4] : List Value).toArray) s 0 0 A) (F0 m 52 ls [.int x6, .ref (ad 0)]) := by
    intro x6 M7 H locs ls hP hS hl hf
    rw [eK8] at hf
    refine lv_iconst (v := (1 : Int32)) hx hb dX6_data_52 (by decide) ?_
    obtain ⟨q9, hq9, hf⟩ := ob hf
    refine r_callv (va_runV (As := [.int x6, .int (1 : Int32)]) (rest := []) ⟨hx, hb, hml, hown, hts⟩ (c_X6_wrong hI hA hq9) (cwV 2 hts gX6_data_X6_wrong rfl rfl rfl (by decide +kernel) ⟨Nat.le_of_ble_eq_true rfl, Nat.le_of_ble_eq_true rfl⟩) (Pf_V XMb (XMo A) hX hK hP hS obX6 rfl) rfl rfl hl.1 rfl (lv_room (Nat.le_of_ble_eq_true rfl)) dX6_data_53 ⟨Nat.zero_le _, Nat.zero_le _⟩) hS (fun H locs hP hS => ?_)
    refine lv_aload_n hx hb dX6_data_56 rfl (lv_at hl 0 rfl) ?_
    refine lv_iload_n hx hb dX6_data_57 rfl (lv_at hl 1 rfl) ?_
    obtain ⟨q10, hq10, hf⟩ := ob hf
    refine r_callv (va_runV (As := [.int p0]) (rest := []) ⟨hx, hb, hml, hown, hts⟩ (c_X6_wantFree hI hA hq10) (cwV 1 hts gX6_data_X6_wantFree rfl rfl rfl (by decide +kernel) ⟨Nat.le_of_ble_eq_true rfl, Nat.le_of_ble_eq_true rfl⟩) (Pf_V XMb (XMo A) hX hK hP hS obX6 rfl) rfl rfl hl.1 rfl (lv_room (Nat.le_of_ble_eq_true rfl)) dX6_data_58 ⟨Nat.zero_le _, Nat.zero_le _⟩) hS (fun H locs hP hS => ?_)
    refine lv_aload_n hx hb dX6_data_61 rfl (lv_at hl 0 rfl) ?_
    refine lv_iload_n hx hb dX6_data_62 rfl (lv_at hl 2 rfl) ?_
    refine lv_iconst (v := (0 : Int32)) hx hb dX6_data_63 (by decide) ?_
    obtain ⟨q11, hq11, hf⟩ := ob hf
    refine r_callv (va_runV (As := [.int p1, .int (0 : Int32)]) (rest := []) ⟨hx, hb, hml, hown, hts⟩ (c_X6_wantSpace hI hA hq11) (cwV 2 hts gX6_data_X6_wantSpace rfl rfl rfl (by decide +kernel) ⟨Nat.le_of_ble_eq_true rfl, Nat.le_of_ble_eq_true rfl⟩) (Pf_V XMb (XMo A) hX hK hP hS obX6 rfl) rfl rfl hl.1 rfl (lv_room (Nat.le_of_ble_eq_true rfl)) dX6_data_64 ⟨Nat.zero_le _, Nat.zero_le _⟩) hS (fun H locs hP hS => ?_)
    refine lv_aload_n hx hb dX6_data_67 rfl (lv_at hl 0 rfl) ?_
    refine lv_aload_n hx hb dX6_data_68 rfl (lv_at hl 0 rfl) ?_
    refine r_getik (j := 19) hx hb hts inX6 hown hK hP (obX6) rfl (by decide) (hts (.fieldLink RX6 183 "PageMonitorModel" "least" "I") (by decide +kernel)) (fun _ => rfl) dX6_data_69 hf (fun x12 hf => ?_)
    refine r_jn hf (fun K16 eK16 hf => ?_)
    have JK16 : ∀ (x14 : Int32) (M15 : Mem) (H : Heap) (locs : List Loc) (ls : Array Slot), va_P D vwCl (gw 25 ad (spM ad cI cZ) M15) H → va_S A s.heap H locs → lv_has ls 7 [(0, .ref (ad 0)), (1, .int p0), (2, .int p1), (3, .int p2), (4, .int p3), (5, .int p4)] → K16 x14 M15 = some res → W p l e (headSpec wsX6_data { frames := 3, cells := 0, slots := 0, locals := 66 }).room s m (([.ref (ad 0), .int p0, .int p1, .int p2, .int p3, .int p4] : List Value).toArray) below meth c H locs 0 0 (MQ below (Qf D vwCl 25 ad (spM ad cI cZ) A (some (.int res.1)) res.2) (([.ref (ad 0), .int p0, .int p1, .int p2, .int p3, .int p4] : List Value).toArray) s 0 0 A) (F0 m 89 ls [.int x14, .ref (ad 0)]) := by
      intro x14 M15 H locs ls hP hS hl hf
      rw [eK16] at hf
      refine lv_iconst (v := (5 : Int32)) hx hb dX6_data_89 (by decide) ?_
      obtain ⟨q17, hq17, hf⟩ := ob hf
      refine r_callv (va_runV (As := [.int x14, .int (5 : Int32)]) (rest := []) ⟨hx, hb, hml, hown, hts⟩ (c_X6_wrong hI hA hq17) (cwV 2 hts gX6_data_X6_wrong rfl rfl rfl (by decide +kernel) ⟨Nat.le_of_ble_eq_true rfl, Nat.le_of_ble_eq_true rfl⟩) (Pf_V XMb (XMo A) hX hK hP hS obX6 rfl) rfl rfl hl.1 rfl (lv_room (Nat.le_of_ble_eq_true rfl)) dX6_data_90 ⟨Nat.zero_le _, Nat.zero_le _⟩) hS (fun H locs hP hS => ?_)
      refine lv_aload_n hx hb dX6_data_93 rfl (lv_at hl 0 rfl) ?_
      refine r_getik (j := 19) hx hb hts inX6 hown hK hP (obX6) rfl (by decide) (hts (.fieldLink RX6 183 "PageMonitorModel" "least" "I") (by decide +kernel)) (fun _ => rfl) dX6_data_94 hf (fun x18 hf => ?_)
      refine r_if_le (tgt := 105) hx hb dX6_data_97 (by decide) hf (fun hf => ?_) (fun hf => ?_)
      · refine lv_aload_n hx hb dX6_data_105 rfl (lv_at hl 0 rfl) ?_
        refine lv_iload_n hx hb dX6_data_106 rfl (lv_at hl 1 rfl) ?_
        refine lv_iconst (v := (4 : Int32)) hx hb dX6_data_107 (by decide) ?_
        refine lv_iload_n hx hb dX6_data_108 rfl (lv_at hl 2 rfl) ?_
        obtain ⟨q19, hq19, hf⟩ := ob hf
        refine r_callv (va_runV (As := [.int p0, .int (4 : Int32), .int p1]) (rest := []) ⟨hx, hb, hml, hown, hts⟩ (c_X6_become hI hA hq19) (cwV 3 hts gX6_data_X6_become rfl rfl rfl (by decide +kernel) ⟨Nat.le_of_ble_eq_true rfl, Nat.le_of_ble_eq_true rfl⟩) (Pf_V XMb (XMo A) hX hK hP hS obX6 rfl) rfl rfl hl.1 rfl (lv_room (Nat.le_of_ble_eq_true rfl)) dX6_data_109 ⟨Nat.zero_le _, Nat.zero_le _⟩) hS (fun H locs hP hS => ?_)
        refine lv_aload_n hx hb dX6_data_112 rfl (lv_at hl 0 rfl) ?_
        refine r_getc (k' := 7) (j := 7) hx hb hts inX6 hown hK hP (obX6) rfl (by decide) (hts (.fieldLink RX6 28 "PageMonitorModel" "entries" "[I") (by decide +kernel)) (fun _ => rfl) dX6_data_113 ?_
        refine lv_aload_n hx hb dX6_data_116 rfl (lv_at hl 0 rfl) ?_
        refine lv_iload_n hx hb dX6_data_117 rfl (lv_at hl 2 rfl) ?_
        refine lv_iload_n hx hb dX6_data_118 rfl (lv_at hl 3 rfl) ?_
        obtain ⟨q20, hq20, hf⟩ := ob hf
        refine r_call1 (va_runV (As := [.int p1, .int p2]) (rest := [.ref (ad 7)]) ⟨hx, hb, hml, hown, hts⟩ (c_X6_entryOf hI hA hq20) (cwV 2 hts gX6_data_X6_entryOf rfl rfl rfl (by decide +kernel) ⟨Nat.le_of_ble_eq_true rfl, Nat.le_of_ble_eq_true rfl⟩) (Pf_V XMb (XMo A) hX hK hP hS obX6 rfl) rfl rfl hl.1 rfl (lv_room (Nat.le_of_ble_eq_true rfl)) dX6_data_119 ⟨Nat.zero_le _, Nat.zero_le _⟩) hS (fun H locs hP hS => ?_)
        refine lv_iload_n hx hb dX6_data_122 rfl (lv_at hl 1 rfl) ?_
        refine lv_iconst (v := (1 : Int32)) hx hb dX6_data_123 (by decide) ?_
        refine lv_iadd hx hb dX6_data_124 ?_
        refine r_iastk hx hb hI hA hK hP hS 0 ma7 rfl dX6_data_125 hf (fun M21 H locs hP hS hf => ?_)
        refine lv_aload_n hx hb dX6_data_126 rfl (lv_at hl 0 rfl) ?_
        refine r_getc (k' := 8) (j := 8) hx hb hts inX6 hown hK hP (obX6) rfl (by decide) (hts (.fieldLink RX6 31 "PageMonitorModel" "rights" "[I") (by decide +kernel)) (fun _ => rfl) dX6_data_127 ?_
        refine lv_aload_n hx hb dX6_data_130 rfl (lv_at hl 0 rfl) ?_
        refine lv_iload_n hx hb dX6_data_131 rfl (lv_at hl 2 rfl) ?_
        refine lv_iload_n hx hb dX6_data_132 rfl (lv_at hl 3 rfl) ?_
        obtain ⟨q22, hq22, hf⟩ := ob hf
        refine r_call1 (va_runV (As := [.int p1, .int p2]) (rest := [.ref (ad 8)]) ⟨hx, hb, hml, hown, hts⟩ (c_X6_entryOf hI hA hq22) (cwV 2 hts gX6_data_X6_entryOf rfl rfl rfl (by decide +kernel) ⟨Nat.le_of_ble_eq_true rfl, Nat.le_of_ble_eq_true rfl⟩) (Pf_V XMb (XMo A) hX hK hP hS obX6 rfl) rfl rfl hl.1 rfl (lv_room (Nat.le_of_ble_eq_true rfl)) dX6_data_133 ⟨Nat.zero_le _, Nat.zero_le _⟩) hS (fun H locs hP hS => ?_)
        refine lv_iload hx hb dX6_data_136 (lv_at hl 4 rfl) ?_
        refine r_iastk hx hb hI hA hK hP hS 0 ma8 rfl dX6_data_138 hf (fun M23 H locs hP hS hf => ?_)
        refine lv_aload_n hx hb dX6_data_139 rfl (lv_at hl 0 rfl) ?_
        refine lv_iload_n hx hb dX6_data_140 rfl (lv_at hl 2 rfl) ?_
        refine lv_iconst (v := (2 : Int32)) hx hb dX6_data_141 (by decide) ?_
        refine lv_iload_n hx hb dX6_data_142 rfl (lv_at hl 3 rfl) ?_
        refine lv_iload hx hb dX6_data_143 (lv_at hl 4 rfl) ?_
        obtain ⟨q24, hq24, hf⟩ := ob hf
        refine r_callv (va_runV (As := [.int p1, .int (2 : Int32), .int p2, .int p3]) (rest := []) ⟨hx, hb, hml, hown, hts⟩ (c_X6_tell hI hA hq24) (cwV 4 hts gX6_data_X6_tell rfl rfl rfl (by decide +kernel) ⟨Nat.le_of_ble_eq_true rfl, Nat.le_of_ble_eq_true rfl⟩) (Pf_V XMb (XMo A) hX hK hP hS obX6 rfl) rfl rfl hl.1 rfl (lv_room (Nat.le_of_ble_eq_true rfl)) dX6_data_145 ⟨Nat.zero_le _, Nat.zero_le _⟩) hS (fun H locs hP hS => ?_)
        refine lv_iconst (v := (0 : Int32)) hx hb dX6_data_148 (by decide) ?_
        refine lv_istore (lv' := [(6, .int (0 : Int32)), (0, .ref (ad 0)), (1, .int p0), (2, .int p1), (3, .int p2), (4, .int p3), (5, .int p4)]) hx hb dX6_data_149 hl (by decide) rfl (fun ls hl => ?_)
        refine r_jn hf (fun F27 eF27 hf => ?_)
        have EF27 : ∀ (x28 : Int32) (M29 : Mem) (H : Heap) (locs : List Loc) (ls : Array Slot), va_P D vwCl (gw 25 ad (spM ad cI cZ) M29) H → va_S A s.heap H locs → lv_has ls 7 [(0, .ref (ad 0)), (1, .int p0), (2, .int p1), (3, .int p2), (4, .int p3), (5, .int p4), (6, .int x28)] → F27 x28 M29 = some res → W p l e (headSpec wsX6_data { frames := 3, cells := 0, slots := 0, locals := 66 }).room s m (([.ref (ad 0), .int p0, .int p1, .int p2, .int p3, .int p4] : List Value).toArray) below meth c H locs 0 0 (MQ below (Qf D vwCl 25 ad (spM ad cI cZ) A (some (.int res.1)) res.2) (([.ref (ad 0), .int p0, .int p1, .int p2, .int p3, .int p4] : List Value).toArray) s 0 0 A) (F0 m 222 ls []) := by
          intro x28 M29 H locs ls hP hS hl hf
          rw [eF27] at hf
          refine lv_aload_n hx hb dX6_data_222 rfl (lv_at hl 0 rfl) ?_
          refine r_getc (k' := 11) (j := 11) hx hb hts inX6 hown hK hP (obX6) rfl (by decide) (hts (.fieldLink RX6 40 "PageMonitorModel" "logged" "[I") (by decide +kernel)) (fun _ => rfl) dX6_data_223 ?_
          refine lv_iload_n hx hb dX6_data_226 rfl (lv_at hl 2 rfl) ?_
          refine lv_aload_n hx hb dX6_data_227 rfl (lv_at hl 0 rfl) ?_
          refine r_getc (k' := 11) (j := 11) hx hb hts inX6 hown hK hP (obX6) rfl (by decide) (hts (.fieldLink RX6 40 "PageMonitorModel" "logged" "[I") (by decide +kernel)) (fun _ => rfl) dX6_data_228 ?_
          refine lv_iload_n hx hb dX6_data_231 rfl (lv_at hl 2 rfl) ?_
          refine r_ialdk hx hb hK hP 0 ma11 rfl dX6_data_232 hf (fun x30 hf => ?_)
          refine lv_bipush (v := (16 : Int32)) hx hb dX6_data_233 (by decide) ?_
          refine lv_iadd hx hb dX6_data_235 ?_
          refine r_iastk hx hb hI hA hK hP hS 0 ma11 rfl dX6_data_236 hf (fun M31 H locs hP hS hf => ?_)
          refine lv_iconst (v := (0 : Int32)) hx hb dX6_data_237 (by decide) ?_
          obtain rfl := Option.some.inj hf
          exact r_iret hx hb hr hlocks hP hS dX6_data_238
        have LF27 : ∀ (n : Nat) (x25 : Int32) (M26 : Mem) (H : Heap) (locs : List Loc) (ls : Array Slot), va_P D vwCl (gw 25 ad (spM ad cI cZ) M26) H → va_S A s.heap H locs → lv_has ls 7 [(0, .ref (ad 0)), (1, .int p0), (2, .int p1), (3, .int p2), (4, .int p3), (5, .int p4), (6, .int x25)] → lp_X6_data_151 p4 p0 p1 F27 n x25 M26 = some res → W p l e (headSpec wsX6_data { frames := 3, cells := 0, slots := 0, locals := 66 }).room s m (([.ref (ad 0), .int p0, .int p1, .int p2, .int p3, .int p4] : List Value).toArray) below meth c H locs 0 0 (MQ below (Qf D vwCl 25 ad (spM ad cI cZ) A (some (.int res.1)) res.2) (([.ref (ad 0), .int p0, .int p1, .int p2, .int p3, .int p4] : List Value).toArray) s 0 0 A) (F0 m 151 ls []) := by
          intro n
          induction n with
          | zero =>
            intro x25 M26 H locs ls hP hS hl hf
            exact absurd hf (fun h => nomatch h)
          | succ n ih =>
            intro x25 M26 H locs ls hP hS hl hf
            rw [lp_X6_data_151_s] at hf
            refine lv_iload hx hb dX6_data_151 (lv_at hl 6 rfl) ?_
            refine lv_bipush (v := (16 : Int32)) hx hb dX6_data_153 (by decide) ?_
            refine r_icmp_ge (tgt := 222) hx hb dX6_data_155 (by decide) hf (fun hf => ?_) (fun hf => ?_)
            · exact EF27 x25 M26 _ _ _ hP hS (lv_sub hl [0, 1, 2, 3, 4, 5, 6] rfl) hf
            · refine lv_aload_n hx hb dX6_data_158 rfl (lv_at hl 0 rfl) ?_
              refine r_getc (k' := 6) (j := 6) hx hb hts inX6 hown hK hP (obX6) rfl (by decide) (hts (.fieldLink RX6 25 "PageMonitorModel" "contents" "[I") (by decide +kernel)) (fun _ => rfl) dX6_data_159 ?_
              refine lv_bipush (v := (16 : Int32)) hx hb dX6_data_162 (by decide) ?_
              refine lv_iload_n hx hb dX6_data_164 rfl (lv_at hl 1 rfl) ?_
              refine lv_imul hx hb dX6_data_165 ?_
              refine lv_iload hx hb dX6_data_166 (lv_at hl 6 rfl) ?_
              refine lv_iadd hx hb dX6_data_168 ?_
              refine lv_aload_n hx hb dX6_data_169 rfl (lv_at hl 0 rfl) ?_
              refine r_getc (k' := 2) (j := 2) hx hb hts inX6 hown hK hP (obX6) rfl (by decide) (hts (.fieldLink RX6 13 "PageMonitorModel" "frames" "[I") (by decide +kernel)) (fun _ => rfl) dX6_data_170 ?_
              refine lv_bipush (v := (16 : Int32)) hx hb dX6_data_173 (by decide) ?_
              refine lv_iload hx hb dX6_data_175 (lv_at hl 5 rfl) ?_
              refine lv_imul hx hb dX6_data_177 ?_
              refine lv_iload hx hb dX6_data_178 (lv_at hl 6 rfl) ?_
              refine lv_iadd hx hb dX6_data_180 ?_
              refine r_ialdk hx hb hK hP 0 ma2 rfl dX6_data_181 hf (fun x32 hf => ?_)
              refine r_iastk hx hb hI hA hK hP hS 0 ma6 rfl dX6_data_182 hf (fun M33 H locs hP hS hf => ?_)
              refine lv_aload_n hx hb dX6_data_183 rfl (lv_at hl 0 rfl) ?_
              refine r_getc (k' := 10) (j := 10) hx hb hts inX6 hown hK hP (obX6) rfl (by decide) (hts (.fieldLink RX6 37 "PageMonitorModel" "logs" "[I") (by decide +kernel)) (fun _ => rfl) dX6_data_184 ?_
              refine lv_sipush (v := (1600 : Int32)) hx hb dX6_data_187 (by decide) ?_
              refine lv_iload_n hx hb dX6_data_190 rfl (lv_at hl 2 rfl) ?_
              refine lv_imul hx hb dX6_data_191 ?_
              refine lv_aload_n hx hb dX6_data_192 rfl (lv_at hl 0 rfl) ?_
              refine r_getc (k' := 11) (j := 11) hx hb hts inX6 hown hK hP (obX6) rfl (by decide) (hts (.fieldLink RX6 40 "PageMonitorModel" "logged" "[I") (by decide +kernel)) (fun _ => rfl) dX6_data_193 ?_
              refine lv_iload_n hx hb dX6_data_196 rfl (lv_at hl 2 rfl) ?_
              refine r_ialdk hx hb hK hP 0 ma11 rfl dX6_data_197 hf (fun x34 hf => ?_)
              refine lv_iadd hx hb dX6_data_198 ?_
              refine lv_iload hx hb dX6_data_199 (lv_at hl 6 rfl) ?_
              refine lv_iadd hx hb dX6_data_201 ?_
              refine lv_aload_n hx hb dX6_data_202 rfl (lv_at hl 0 rfl) ?_
              refine r_getc (k' := 2) (j := 2) hx hb hts inX6 hown hK hP (obX6) rfl (by decide) (hts (.fieldLink RX6 13 "PageMonitorModel" "frames" "[I") (by decide +kernel)) (fun _ => rfl) dX6_data_203 ?_
              refine lv_bipush (v := (16 : Int32)) hx hb dX6_data_206 (by decide) ?_
              refine lv_iload hx hb dX6_data_208 (lv_at hl 5 rfl) ?_
              refine lv_imul hx hb dX6_data_210 ?_
              refine lv_iload hx hb dX6_data_211 (lv_at hl 6 rfl) ?_
              refine lv_iadd hx hb dX6_data_213 ?_
              refine r_ialdk hx hb hK hP 0 ma2 rfl dX6_data_214 hf (fun x35 hf => ?_)
              refine r_iastk hx hb hI hA hK hP hS 0 ma10 rfl dX6_data_215 hf (fun M36 H locs hP hS hf => ?_)
              refine lv_iinc (v := x25 + (1 : Int32)) (lv' := [(6, .int (x25 + (1 : Int32))), (0, .ref (ad 0)), (1, .int p0), (2, .int p1), (3, .int p2), (4, .int p3), (5, .int p4)]) hx hb dX6_data_216 hl (k := 6) rfl rfl (by decide) rfl (fun ls hl => ?_)
              refine lv_goto (tgt := 151) hx hb dX6_data_219 (by decide) ?_
              exact ih (x25 + (1 : Int32)) M36 _ _ _ hP hS (lv_sub hl [1, 2, 3, 4, 5, 6, 0] rfl) hf
        exact LF27 FU (0 : Int32) q24 _ _ _ hP hS (lv_sub hl [1, 2, 3, 4, 5, 6, 0] rfl) hf
      · refine lv_aload_n hx hb dX6_data_100 rfl (lv_at hl 0 rfl) ?_
        refine r_getik (j := 19) hx hb hts inX6 hown hK hP (obX6) rfl (by decide) (hts (.fieldLink RX6 183 "PageMonitorModel" "least" "I") (by decide +kernel)) (fun _ => rfl) dX6_data_101 hf (fun x37 hf => ?_)
        obtain rfl := Option.some.inj hf
        exact r_iret hx hb hr hlocks hP hS dX6_data_104
    refine r_if_ne (tgt := 88) hx hb dX6_data_72 (by decide) hf (fun hf => ?_) (fun hf => ?_)
    · refine lv_iconst (v := (0 : Int32)) hx hb dX6_data_88 (by decide) ?_
      exact JK16 (0 : Int32) q11 _ _ _ hP hS (lv_sub hl [0, 1, 2, 3, 4, 5] rfl) hf
    · refine lv_aload_n hx hb dX6_data_75 rfl (lv_at hl 0 rfl) ?_
      refine lv_iload_n hx hb dX6_data_76 rfl (lv_at hl 2 rfl) ?_
      refine lv_iload_n hx hb dX6_data_77 rfl (lv_at hl 3 rfl) ?_
      obtain ⟨q38, hq38, hf⟩ := ob hf
      refine r_call1 (va_runV (As := [.int p1, .int p2]) (rest := [.ref (ad 0)]) ⟨hx, hb, hml, hown, hts⟩ (c_X6_isTaken hI hA hq38) (cwV 2 hts gX6_data_X6_isTaken rfl rfl rfl (by decide +kernel) ⟨Nat.le_of_ble_eq_true rfl, Nat.le_of_ble_eq_true rfl⟩) (Pf_V XMb (XMo A) hX hK hP hS obX6 rfl) rfl rfl hl.1 rfl (lv_room (Nat.le_of_ble_eq_true rfl)) dX6_data_78 ⟨Nat.zero_le _, Nat.zero_le _⟩) hS (fun H locs hP hS => ?_)
      refine r_if_eq (tgt := 88) hx hb dX6_data_81 (by decide) hf (fun hf => ?_) (fun hf => ?_)
      · refine lv_iconst (v := (0 : Int32)) hx hb dX6_data_88 (by decide) ?_
        exact JK16 (0 : Int32) q38.2 _ _ _ hP hS (lv_sub hl [0, 1, 2, 3, 4, 5] rfl) hf
      · refine lv_iconst (v := (1 : Int32)) hx hb dX6_data_84 (by decide) ?_
        refine lv_goto (tgt := 89) hx hb dX6_data_85 (by decide) ?_
        exact JK16 (1 : Int32) q38.2 _ _ _ hP hS (lv_sub hl [0, 1, 2, 3, 4, 5] rfl) hf
  refine r_if_ne (tgt := 47) hx hb dX6_data_9 (by decide) hf (fun hf => ?_) (fun hf => ?_)
  · refine lv_iconst (v := (1 : Int32)) hx hb dX6_data_47 (by decide) ?_
    refine lv_goto (tgt := 52) hx hb dX6_data_48 (by decide) ?_
    exact JK8 (1 : Int32) q2.2 _ _ _ hP hS (lv_sub hl [0, 1, 2, 3, 4, 5] rfl) hf
  · refine lv_iload_n hx hb dX6_data_12 rfl (lv_at hl 2 rfl) ?_
    obtain ⟨q39, hq39, hf⟩ := ob hf
    refine r_call1 (va_runS (As := [.int p1]) (rest := [.ref (ad 0)]) ⟨hx, hb, hml, hown, hts⟩ (c_X6_noPage hI hA hq39) (va_cwS 1 hts gX6_data_X6_noPage rfl rfl rfl (by decide +kernel) ⟨Nat.le_of_ble_eq_true rfl, Nat.le_of_ble_eq_true rfl⟩) (Pf_S XMb (XMo A) hX hK hP hS) rfl rfl hl.1 rfl (lv_room (Nat.le_of_ble_eq_true rfl)) dX6_data_13 ⟨Nat.zero_le _, Nat.zero_le _⟩) hS (fun H locs hP hS => ?_)
    refine r_if_ne (tgt := 47) hx hb dX6_data_16 (by decide) hf (fun hf => ?_) (fun hf => ?_)
    · refine lv_iconst (v := (1 : Int32)) hx hb dX6_data_47 (by decide) ?_
      refine lv_goto (tgt := 52) hx hb dX6_data_48 (by decide) ?_
      exact JK8 (1 : Int32) q39.2 _ _ _ hP hS (lv_sub hl [0, 1, 2, 3, 4, 5] rfl) hf
    · refine lv_iload_n hx hb dX6_data_19 rfl (lv_at hl 3 rfl) ?_
      obtain ⟨q40, hq40, hf⟩ := ob hf
      refine r_call1 (va_runS (As := [.int p2]) (rest := [.ref (ad 0)]) ⟨hx, hb, hml, hown, hts⟩ (c_X6_noBlock hI hA hq40) (va_cwS 1 hts gX6_data_X6_noBlock rfl rfl rfl (by decide +kernel) ⟨Nat.le_of_ble_eq_true rfl, Nat.le_of_ble_eq_true rfl⟩) (Pf_S XMb (XMo A) hX hK hP hS) rfl rfl hl.1 rfl (lv_room (Nat.le_of_ble_eq_true rfl)) dX6_data_20 ⟨Nat.zero_le _, Nat.zero_le _⟩) hS (fun H locs hP hS => ?_)
      refine r_if_ne (tgt := 47) hx hb dX6_data_23 (by decide) hf (fun hf => ?_) (fun hf => ?_)
      · refine lv_iconst (v := (1 : Int32)) hx hb dX6_data_47 (by decide) ?_
        refine lv_goto (tgt := 52) hx hb dX6_data_48 (by decide) ?_
        exact JK8 (1 : Int32) q40.2 _ _ _ hP hS (lv_sub hl [0, 1, 2, 3, 4, 5] rfl) hf
      · refine lv_iload hx hb dX6_data_26 (lv_at hl 4 rfl) ?_
        refine lv_iconst (v := (1 : Int32)) hx hb dX6_data_28 (by decide) ?_
        refine r_icmp_lt (tgt := 47) hx hb dX6_data_29 (by decide) hf (fun hf => ?_) (fun hf => ?_)
        · refine lv_iconst (v := (1 : Int32)) hx hb dX6_data_47 (by decide) ?_
          refine lv_goto (tgt := 52) hx hb dX6_data_48 (by decide) ?_
          exact JK8 (1 : Int32) q40.2 _ _ _ hP hS (lv_sub hl [0, 1, 2, 3, 4, 5] rfl) hf
        · refine lv_iload hx hb dX6_data_32 (lv_at hl 4 rfl) ?_
          refine lv_bipush (v := (7 : Int32)) hx hb dX6_data_34 (by decide) ?_
          refine r_icmp_gt (tgt := 47) hx hb dX6_data_36 (by decide) hf (fun hf => ?_) (fun hf => ?_)
          · refine lv_iconst (v := (1 : Int32)) hx hb dX6_data_47 (by decide) ?_
            refine lv_goto (tgt := 52) hx hb dX6_data_48 (by decide) ?_
            exact JK8 (1 : Int32) q40.2 _ _ _ hP hS (lv_sub hl [0, 1, 2, 3, 4, 5] rfl) hf
          · refine lv_iload hx hb dX6_data_39 (lv_at hl 5 rfl) ?_
            obtain ⟨q41, hq41, hf⟩ := ob hf
            refine r_call1 (va_runS (As := [.int p4]) (rest := [.ref (ad 0)]) ⟨hx, hb, hml, hown, hts⟩ (c_X6_noFrame hI hA hq41) (va_cwS 1 hts gX6_data_X6_noFrame rfl rfl rfl (by decide +kernel) ⟨Nat.le_of_ble_eq_true rfl, Nat.le_of_ble_eq_true rfl⟩) (Pf_S XMb (XMo A) hX hK hP hS) rfl rfl hl.1 rfl (lv_room (Nat.le_of_ble_eq_true rfl)) dX6_data_41 ⟨Nat.zero_le _, Nat.zero_le _⟩) hS (fun H locs hP hS => ?_)
            refine r_if_eq (tgt := 51) hx hb dX6_data_44 (by decide) hf (fun hf => ?_) (fun hf => ?_)
            · refine lv_iconst (v := (0 : Int32)) hx hb dX6_data_51 (by decide) ?_
              exact JK8 (0 : Int32) q41.2 _ _ _ hP hS (lv_sub hl [0, 1, 2, 3, 4, 5] rfl) hf
            · refine lv_iconst (v := (1 : Int32)) hx hb dX6_data_47 (by decide) ?_
              refine lv_goto (tgt := 52) hx hb dX6_data_48 (by decide) ?_
              exact JK8 (1 : Int32) q41.2 _ _ _ hP hS (lv_sub hl [0, 1, 2, 3, 4, 5] rfl) hf
set_option maxHeartbeats 4000000 in
set_option maxRecDepth 100000 in
theorem c_X6_share {l : Launch} {D : va_G} {ad : Nat → Nat} {cI cZ cP cR : ClassId} {A : Nat → Prop} {M : Mem} {p0 : Int32} {p1 : Int32} {p2 : Int32} {p3 : Int32} {res : (Int32 × Mem)} (hI : gInj 25 ad) (hA : ∀ k, k < 25 → A (ad k)) (hf : fX6_share M p0 p1 p2 p3 = some res) : Met l yX6_share wsX6_share { frames := 3, cells := 0, slots := 0, locals := 66 } (va_Pc [.ref (ad 0), .int p0, .int p1, .int p2, .int p3] (Pf D vwCl (tysW cI cZ cP cR) 25 ad (spM ad cI cZ) XM M)) (Qf D vwCl 25 ad (spM ad cI cZ) A (some (.int res.1)) res.2) 0 0 A := by
  refine Met.ofW (cc := cX6_share) (maxL := 5) (ret := (some .int)) (by decide) rfl ?_
  intro p e s m args below meth c s₁ B hml hv
  obtain ⟨rfl, hP, hK, hX⟩ := hv
  have hx := B.exec
  have hb := B.bytes
  have hr := B.returns
  have hts := atoms_spec (ws := wsX6_share) B.pre
  have hown : s.vm.findClass RX6 = some m.cls := findClass_of_methodNamed B.named
  have hlocks := B.notSynchronized
  have inX6 : ∀ w ∈ wsX60, w ∈ wsX6_share := by decide +kernel
  have hS : va_S A s.heap s.heap [] := va_S.rf
  have hl := lv_entry ([.ref (ad 0), .int p0, .int p1, .int p2, .int p3]) (n := 5) (Nat.le_of_ble_eq_true rfl)
  rw [lg_entry_eq]
  generalize (lg_sl ([.ref (ad 0), .int p0, .int p1, .int p2, .int p3]) ++ List.replicate (5 - (lg_sl ([.ref (ad 0), .int p0, .int p1, .int p2, .int p3])).length) Slot.unset).toArray = ls at hl ⊢
  have hl : lv_has ls 5 [(0, .ref (ad 0)), (1, .int p0), (2, .int p1), (3, .int p2), (4, .int p3)] := hl
  rw [fX6_share] at hf
  refine lv_aload_n hx hb dX6_share_0 rfl (lv_at hl 0 rfl) ?_
  obtain ⟨q1, hq1, hf⟩ := ob hf
  refine r_callv (va_runV (As := []) (rest := []) ⟨hx, hb, hml, hown, hts⟩ (c_X6_begin hI hA hq1) (cwV 0 hts gX6_share_X6_begin rfl rfl rfl (by decide +kernel) ⟨Nat.le_of_ble_eq_true rfl, Nat.le_of_ble_eq_true rfl⟩) (Pf_V XMb (XMo A) hX hK hP hS obX6 rfl) rfl rfl hl.1 rfl (lv_room (Nat.le_of_ble_eq_true rfl)) dX6_share_1 ⟨Nat.zero_le _, Nat.zero_le _⟩) hS (fun H locs hP hS => ?_)
  refine lv_aload_n hx hb dX6_share_4 rfl (lv_at hl 0 rfl) ?_
  refine lv_iload_n hx hb dX6_share_5 rfl (lv_at hl 1 rfl) ?_
  obtain ⟨q2, hq2, hf⟩ := ob hf
  refine r_call1 (va_runS (As := [.int p0]) (rest := [.ref (ad 0)]) ⟨hx, hb, hml, hown, hts⟩ (c_X6_noPage hI hA hq2) (va_cwS 1 hts gX6_share_X6_noPage rfl rfl rfl (by decide +kernel) ⟨Nat.le_of_ble_eq_true rfl, Nat.le_of_ble_eq_true rfl⟩) (Pf_S XMb (XMo A) hX hK hP hS) rfl rfl hl.1 rfl (lv_room (Nat.le_of_ble_eq_true rfl)) dX6_share_6 ⟨Nat.zero_le _, Nat.zero_le _⟩) hS (fun H locs hP hS => ?_)
  refine r_jn hf (fun K8 eK8 hf => ?_)
  have JK8 : ∀ (x6 : Int32) (M7 : Mem) (H : Heap) (locs : List Loc) (ls : Array Slot), va_P D vwCl (gw 25 ad (spM ad cI cZ) M7) H → va_S A s.heap H locs → lv_has ls 5 [(0, .ref (ad 0)), (1, .int p0), (2, .int p1), (3, .int p2), (4, .int p3)] → K8 x6 M7 = some res → W p l e (headSpec wsX6_share { frames := 3, cells := 0, slots := 0, locals := 66 }).room s m (([.ref (ad 0), .int p0, .int p1, .int p2, .int p3] : List Value).toArray) below meth c H locs 0 0 (MQ below (Qf D vwCl 25 ad (spM ad cI cZ) A (some (.int res.1)) res.2) (([.ref (ad 0), .int p0, .int p1, .int p2, .int p3] : List Value).toArray) s 0 0 A) (F0 m 42 ls [.int x6, .ref (ad 0)]) := by
    intro x6 M7 H locs ls hP hS hl hf
    rw [eK8] at hf
    refine lv_iconst (v := (1 : Int32)) hx hb dX6_share_42 (by decide) ?_
    obtain ⟨q9, hq9, hf⟩ := ob hf
    refine r_callv (va_runV (As := [.int x6, .int (1 : Int32)]) (rest := []) ⟨hx, hb, hml, hown, hts⟩ (c_X6_wrong hI hA hq9) (cwV 2 hts gX6_share_X6_wrong rfl rfl rfl (by decide +kernel) ⟨Nat.le_of_ble_eq_true rfl, Nat.le_of_ble_eq_true rfl⟩) (Pf_V XMb (XMo A) hX hK hP hS obX6 rfl) rfl rfl hl.1 rfl (lv_room (Nat.le_of_ble_eq_true rfl)) dX6_share_43 ⟨Nat.zero_le _, Nat.zero_le _⟩) hS (fun H locs hP hS => ?_)
    refine lv_aload_n hx hb dX6_share_46 rfl (lv_at hl 0 rfl) ?_
    refine lv_iload_n hx hb dX6_share_47 rfl (lv_at hl 1 rfl) ?_
    refine lv_iconst (v := (0 : Int32)) hx hb dX6_share_48 (by decide) ?_
    obtain ⟨q10, hq10, hf⟩ := ob hf
    refine r_callv (va_runV (As := [.int p0, .int (0 : Int32)]) (rest := []) ⟨hx, hb, hml, hown, hts⟩ (c_X6_wantSpace hI hA hq10) (cwV 2 hts gX6_share_X6_wantSpace rfl rfl rfl (by decide +kernel) ⟨Nat.le_of_ble_eq_true rfl, Nat.le_of_ble_eq_true rfl⟩) (Pf_V XMb (XMo A) hX hK hP hS obX6 rfl) rfl rfl hl.1 rfl (lv_room (Nat.le_of_ble_eq_true rfl)) dX6_share_49 ⟨Nat.zero_le _, Nat.zero_le _⟩) hS (fun H locs hP hS => ?_)
    refine lv_aload_n hx hb dX6_share_52 rfl (lv_at hl 0 rfl) ?_
    refine lv_aload_n hx hb dX6_share_53 rfl (lv_at hl 0 rfl) ?_
    refine r_getik (j := 19) hx hb hts inX6 hown hK hP (obX6) rfl (by decide) (hts (.fieldLink RX6 183 "PageMonitorModel" "least" "I") (by decide +kernel)) (fun _ => rfl) dX6_share_54 hf (fun x11 hf => ?_)
    refine r_jn hf (fun K15 eK15 hf => ?_)
    have JK15 : ∀ (x13 : Int32) (M14 : Mem) (H : Heap) (locs : List Loc) (ls : Array Slot), va_P D vwCl (gw 25 ad (spM ad cI cZ) M14) H → va_S A s.heap H locs → lv_has ls 5 [(0, .ref (ad 0)), (1, .int p0), (2, .int p1), (3, .int p2), (4, .int p3)] → K15 x13 M14 = some res → W p l e (headSpec wsX6_share { frames := 3, cells := 0, slots := 0, locals := 66 }).room s m (([.ref (ad 0), .int p0, .int p1, .int p2, .int p3] : List Value).toArray) below meth c H locs 0 0 (MQ below (Qf D vwCl 25 ad (spM ad cI cZ) A (some (.int res.1)) res.2) (([.ref (ad 0), .int p0, .int p1, .int p2, .int p3] : List Value).toArray) s 0 0 A) (F0 m 74 ls [.int x13, .ref (ad 0)]) := by
      intro x13 M14 H locs ls hP hS hl hf
      rw [eK15] at hf
      refine lv_iconst (v := (5 : Int32)) hx hb dX6_share_74 (by decide) ?_
      obtain ⟨q16, hq16, hf⟩ := ob hf
      refine r_callv (va_runV (As := [.int x13, .int (5 : Int32)]) (rest := []) ⟨hx, hb, hml, hown, hts⟩ (c_X6_wrong hI hA hq16) (cwV 2 hts gX6_share_X6_wrong rfl rfl rfl (by decide +kernel) ⟨Nat.le_of_ble_eq_true rfl, Nat.le_of_ble_eq_true rfl⟩) (Pf_V XMb (XMo A) hX hK hP hS obX6 rfl) rfl rfl hl.1 rfl (lv_room (Nat.le_of_ble_eq_true rfl)) dX6_share_75 ⟨Nat.zero_le _, Nat.zero_le _⟩) hS (fun H locs hP hS => ?_)
      refine lv_aload_n hx hb dX6_share_78 rfl (lv_at hl 0 rfl) ?_
      refine r_getik (j := 19) hx hb hts inX6 hown hK hP (obX6) rfl (by decide) (hts (.fieldLink RX6 183 "PageMonitorModel" "least" "I") (by decide +kernel)) (fun _ => rfl) dX6_share_79 hf (fun x17 hf => ?_)
      refine r_if_le (tgt := 90) hx hb dX6_share_82 (by decide) hf (fun hf => ?_) (fun hf => ?_)
      · refine lv_aload_n hx hb dX6_share_90 rfl (lv_at hl 0 rfl) ?_
        refine r_getc (k' := 7) (j := 7) hx hb hts inX6 hown hK hP (obX6) rfl (by decide) (hts (.fieldLink RX6 28 "PageMonitorModel" "entries" "[I") (by decide +kernel)) (fun _ => rfl) dX6_share_91 ?_
        refine lv_aload_n hx hb dX6_share_94 rfl (lv_at hl 0 rfl) ?_
        refine lv_iload_n hx hb dX6_share_95 rfl (lv_at hl 1 rfl) ?_
        refine lv_iload_n hx hb dX6_share_96 rfl (lv_at hl 2 rfl) ?_
        obtain ⟨q18, hq18, hf⟩ := ob hf
        refine r_call1 (va_runV (As := [.int p0, .int p1]) (rest := [.ref (ad 7)]) ⟨hx, hb, hml, hown, hts⟩ (c_X6_entryOf hI hA hq18) (cwV 2 hts gX6_share_X6_entryOf rfl rfl rfl (by decide +kernel) ⟨Nat.le_of_ble_eq_true rfl, Nat.le_of_ble_eq_true rfl⟩) (Pf_V XMb (XMo A) hX hK hP hS obX6 rfl) rfl rfl hl.1 rfl (lv_room (Nat.le_of_ble_eq_true rfl)) dX6_share_97 ⟨Nat.zero_le _, Nat.zero_le _⟩) hS (fun H locs hP hS => ?_)
        refine lv_iload hx hb dX6_share_100 (lv_at hl 4 rfl) ?_
        refine lv_ineg hx hb dX6_share_102 ?_
        refine lv_iconst (v := (1 : Int32)) hx hb dX6_share_103 (by decide) ?_
        refine lv_isub hx hb dX6_share_104 ?_
        refine r_iastk hx hb hI hA hK hP hS 0 ma7 rfl dX6_share_105 hf (fun M19 H locs hP hS hf => ?_)
        refine lv_aload_n hx hb dX6_share_106 rfl (lv_at hl 0 rfl) ?_
        refine r_getc (k' := 8) (j := 8) hx hb hts inX6 hown hK hP (obX6) rfl (by decide) (hts (.fieldLink RX6 31 "PageMonitorModel" "rights" "[I") (by decide +kernel)) (fun _ => rfl) dX6_share_107 ?_
        refine lv_aload_n hx hb dX6_share_110 rfl (lv_at hl 0 rfl) ?_
        refine lv_iload_n hx hb dX6_share_111 rfl (lv_at hl 1 rfl) ?_
        refine lv_iload_n hx hb dX6_share_112 rfl (lv_at hl 2 rfl) ?_
        obtain ⟨q20, hq20, hf⟩ := ob hf
        refine r_call1 (va_runV (As := [.int p0, .int p1]) (rest := [.ref (ad 8)]) ⟨hx, hb, hml, hown, hts⟩ (c_X6_entryOf hI hA hq20) (cwV 2 hts gX6_share_X6_entryOf rfl rfl rfl (by decide +kernel) ⟨Nat.le_of_ble_eq_true rfl, Nat.le_of_ble_eq_true rfl⟩) (Pf_V XMb (XMo A) hX hK hP hS obX6 rfl) rfl rfl hl.1 rfl (lv_room (Nat.le_of_ble_eq_true rfl)) dX6_share_113 ⟨Nat.zero_le _, Nat.zero_le _⟩) hS (fun H locs hP hS => ?_)
        refine lv_iload_n hx hb dX6_share_116 rfl (lv_at hl 3 rfl) ?_
        refine r_iastk hx hb hI hA hK hP hS 0 ma8 rfl dX6_share_117 hf (fun M21 H locs hP hS hf => ?_)
        refine lv_aload_n hx hb dX6_share_118 rfl (lv_at hl 0 rfl) ?_
        refine lv_iload_n hx hb dX6_share_119 rfl (lv_at hl 1 rfl) ?_
        refine lv_iconst (v := (3 : Int32)) hx hb dX6_share_120 (by decide) ?_
        refine lv_iload_n hx hb dX6_share_121 rfl (lv_at hl 2 rfl) ?_
        refine lv_iload_n hx hb dX6_share_122 rfl (lv_at hl 3 rfl) ?_
        obtain ⟨q22, hq22, hf⟩ := ob hf
        refine r_callv (va_runV (As := [.int p0, .int (3 : Int32), .int p1, .int p2]) (rest := []) ⟨hx, hb, hml, hown, hts⟩ (c_X6_tell hI hA hq22) (cwV 4 hts gX6_share_X6_tell rfl rfl rfl (by decide +kernel) ⟨Nat.le_of_ble_eq_true rfl, Nat.le_of_ble_eq_true rfl⟩) (Pf_V XMb (XMo A) hX hK hP hS obX6 rfl) rfl rfl hl.1 rfl (lv_room (Nat.le_of_ble_eq_true rfl)) dX6_share_123 ⟨Nat.zero_le _, Nat.zero_le _⟩) hS (fun H locs hP hS => ?_)
        refine lv_iconst (v := (0 : Int32)) hx hb dX6_share_126 (by decide) ?_
        obtain rfl := Option.some.inj hf
        exact r_iret hx hb hr hlocks hP hS dX6_share_127
      · refine lv_aload_n hx hb dX6_share_85 rfl (lv_at hl 0 rfl) ?_
        refine r_getik (j := 19) hx hb hts inX6 hown hK hP (obX6) rfl (by decide) (hts (.fieldLink RX6 183 "PageMonitorModel" "least" "I") (by decide +kernel)) (fun _ => rfl) dX6_share_86 hf (fun x23 hf => ?_)
        obtain rfl := Option.some.inj hf
        exact r_iret hx hb hr hlocks hP hS dX6_share_89
    refine r_if_ne (tgt := 73) hx hb dX6_share_57 (by decide) hf (fun hf => ?_) (fun hf => ?_)
    · refine lv_iconst (v := (0 : Int32)) hx hb dX6_share_73 (by decide) ?_
      exact JK15 (0 : Int32) q10 _ _ _ hP hS (lv_sub hl [0, 1, 2, 3, 4] rfl) hf
    · refine lv_aload_n hx hb dX6_share_60 rfl (lv_at hl 0 rfl) ?_
      refine lv_iload_n hx hb dX6_share_61 rfl (lv_at hl 1 rfl) ?_
      refine lv_iload_n hx hb dX6_share_62 rfl (lv_at hl 2 rfl) ?_
      obtain ⟨q24, hq24, hf⟩ := ob hf
      refine r_call1 (va_runV (As := [.int p0, .int p1]) (rest := [.ref (ad 0)]) ⟨hx, hb, hml, hown, hts⟩ (c_X6_isTaken hI hA hq24) (cwV 2 hts gX6_share_X6_isTaken rfl rfl rfl (by decide +kernel) ⟨Nat.le_of_ble_eq_true rfl, Nat.le_of_ble_eq_true rfl⟩) (Pf_V XMb (XMo A) hX hK hP hS obX6 rfl) rfl rfl hl.1 rfl (lv_room (Nat.le_of_ble_eq_true rfl)) dX6_share_63 ⟨Nat.zero_le _, Nat.zero_le _⟩) hS (fun H locs hP hS => ?_)
      refine r_if_eq (tgt := 73) hx hb dX6_share_66 (by decide) hf (fun hf => ?_) (fun hf => ?_)
      · refine lv_iconst (v := (0 : Int32)) hx hb dX6_share_73 (by decide) ?_
        exact JK15 (0 : Int32) q24.2 _ _ _ hP hS (lv_sub hl [0, 1, 2, 3, 4] rfl) hf
      · refine lv_iconst (v := (1 : Int32)) hx hb dX6_share_69 (by decide) ?_
        refine lv_goto (tgt := 74) hx hb dX6_share_70 (by decide) ?_
        exact JK15 (1 : Int32) q24.2 _ _ _ hP hS (lv_sub hl [0, 1, 2, 3, 4] rfl) hf
  refine r_if_ne (tgt := 37) hx hb dX6_share_9 (by decide) hf (fun hf => ?_) (fun hf => ?_)
  · refine lv_iconst (v := (1 : Int32)) hx hb dX6_share_37 (by decide) ?_
    refine lv_goto (tgt := 42) hx hb dX6_share_38 (by decide) ?_
    exact JK8 (1 : Int32) q2.2 _ _ _ hP hS (lv_sub hl [0, 1, 2, 3, 4] rfl) hf
  · refine lv_iload_n hx hb dX6_share_12 rfl (lv_at hl 2 rfl) ?_
    obtain ⟨q25, hq25, hf⟩ := ob hf
    refine r_call1 (va_runS (As := [.int p1]) (rest := [.ref (ad 0)]) ⟨hx, hb, hml, hown, hts⟩ (c_X6_noBlock hI hA hq25) (va_cwS 1 hts gX6_share_X6_noBlock rfl rfl rfl (by decide +kernel) ⟨Nat.le_of_ble_eq_true rfl, Nat.le_of_ble_eq_true rfl⟩) (Pf_S XMb (XMo A) hX hK hP hS) rfl rfl hl.1 rfl (lv_room (Nat.le_of_ble_eq_true rfl)) dX6_share_13 ⟨Nat.zero_le _, Nat.zero_le _⟩) hS (fun H locs hP hS => ?_)
    refine r_if_ne (tgt := 37) hx hb dX6_share_16 (by decide) hf (fun hf => ?_) (fun hf => ?_)
    · refine lv_iconst (v := (1 : Int32)) hx hb dX6_share_37 (by decide) ?_
      refine lv_goto (tgt := 42) hx hb dX6_share_38 (by decide) ?_
      exact JK8 (1 : Int32) q25.2 _ _ _ hP hS (lv_sub hl [0, 1, 2, 3, 4] rfl) hf
    · refine lv_iload_n hx hb dX6_share_19 rfl (lv_at hl 3 rfl) ?_
      refine lv_iconst (v := (1 : Int32)) hx hb dX6_share_20 (by decide) ?_
      refine r_icmp_eq (tgt := 29) hx hb dX6_share_21 (by decide) hf (fun hf => ?_) (fun hf => ?_)
      · refine lv_iload hx hb dX6_share_29 (lv_at hl 4 rfl) ?_
        obtain ⟨q26, hq26, hf⟩ := ob hf
        refine r_call1 (va_runS (As := [.int p3]) (rest := [.ref (ad 0)]) ⟨hx, hb, hml, hown, hts⟩ (c_X6_noFrame hI hA hq26) (va_cwS 1 hts gX6_share_X6_noFrame rfl rfl rfl (by decide +kernel) ⟨Nat.le_of_ble_eq_true rfl, Nat.le_of_ble_eq_true rfl⟩) (Pf_S XMb (XMo A) hX hK hP hS) rfl rfl hl.1 rfl (lv_room (Nat.le_of_ble_eq_true rfl)) dX6_share_31 ⟨Nat.zero_le _, Nat.zero_le _⟩) hS (fun H locs hP hS => ?_)
        refine r_if_eq (tgt := 41) hx hb dX6_share_34 (by decide) hf (fun hf => ?_) (fun hf => ?_)
        · refine lv_iconst (v := (0 : Int32)) hx hb dX6_share_41 (by decide) ?_
          exact JK8 (0 : Int32) q26.2 _ _ _ hP hS (lv_sub hl [0, 1, 2, 3, 4] rfl) hf
        · refine lv_iconst (v := (1 : Int32)) hx hb dX6_share_37 (by decide) ?_
          refine lv_goto (tgt := 42) hx hb dX6_share_38 (by decide) ?_
          exact JK8 (1 : Int32) q26.2 _ _ _ hP hS (lv_sub hl [0, 1, 2, 3, 4] rfl) hf
      · refine lv_iload_n hx hb dX6_share_24 rfl (lv_at hl 3 rfl) ?_
        refine lv_iconst (v := (3 : Int32)) hx hb dX6_share_25 (by decide) ?_
        refine r_icmp_ne (tgt := 37) hx hb dX6_share_26 (by decide) hf (fun hf => ?_) (fun hf => ?_)
        · refine lv_iconst (v := (1 : Int32)) hx hb dX6_share_37 (by decide) ?_
          refine lv_goto (tgt := 42) hx hb dX6_share_38 (by decide) ?_
          exact JK8 (1 : Int32) q25.2 _ _ _ hP hS (lv_sub hl [0, 1, 2, 3, 4] rfl) hf
        · refine lv_iload hx hb dX6_share_29 (lv_at hl 4 rfl) ?_
          obtain ⟨q27, hq27, hf⟩ := ob hf
          refine r_call1 (va_runS (As := [.int p3]) (rest := [.ref (ad 0)]) ⟨hx, hb, hml, hown, hts⟩ (c_X6_noFrame hI hA hq27) (va_cwS 1 hts gX6_share_X6_noFrame rfl rfl rfl (by decide +kernel) ⟨Nat.le_of_ble_eq_true rfl, Nat.le_of_ble_eq_true rfl⟩) (Pf_S XMb (XMo A) hX hK hP hS) rfl rfl hl.1 rfl (lv_room (Nat.le_of_ble_eq_true rfl)) dX6_share_31 ⟨Nat.zero_le _, Nat.zero_le _⟩) hS (fun H locs hP hS => ?_)
          refine r_if_eq (tgt := 41) hx hb dX6_share_34 (by decide) hf (fun hf => ?_) (fun hf => ?_)
          · refine lv_iconst (v := (0 : Int32)) hx hb dX6_share_41 (by decide) ?_
            exact JK8 (0 : Int32) q27.2 _ _ _ hP hS (lv_sub hl [0, 1, 2, 3, 4] rfl) hf
          · refine lv_iconst (v := (1 : Int32)) hx hb dX6_share_37 (by decide) ?_
            refine lv_goto (tgt := 42) hx hb dX6_share_38 (by decide) ?_
            exact JK8 (1 : Int32) q27.2 _ _ _ hP hS (lv_sub hl [0, 1, 2, 3, 4] rfl) hf
set_option maxHeartbeats 4000000 in
set_option maxRecDepth 100000 in
theorem c_X6_spare {l : Launch} {D : va_G} {ad : Nat → Nat} {cI cZ cP cR : ClassId} {A : Nat → Prop} {M : Mem} {p0 : Int32} {p1 : Int32} {res : (Int32 × Mem)} (hI : gInj 25 ad) (hA : ∀ k, k < 25 → A (ad k)) (hf : fX6_spare M p0 p1 = some res) : Met l yX6_spare wsX6_spare { frames := 3, cells := 0, slots := 0, locals := 63 } (va_Pc [.ref (ad 0), .int p0, .int p1] (Pf D vwCl (tysW cI cZ cP cR) 25 ad (spM ad cI cZ) XM M)) (Qf D vwCl 25 ad (spM ad cI cZ) A (some (.int res.1)) res.2) 0 0 A := by
  refine Met.ofW (cc := cX6_spare) (maxL := 3) (ret := (some .int)) (by decide) rfl ?_
  intro p e s m args below meth c s₁ B hml hv
  obtain ⟨rfl, hP, hK, hX⟩ := hv
  have hx := B.exec
  have hb := B.bytes
  have hr := B.returns
  have hts := atoms_spec (ws := wsX6_spare) B.pre
  have hown : s.vm.findClass RX6 = some m.cls := findClass_of_methodNamed B.named
  have hlocks := B.notSynchronized
  have inX6 : ∀ w ∈ wsX60, w ∈ wsX6_spare := by decide +kernel
  have hS : va_S A s.heap s.heap [] := va_S.rf
  have hl := lv_entry ([.ref (ad 0), .int p0, .int p1]) (n := 3) (Nat.le_of_ble_eq_true rfl)
  rw [lg_entry_eq]
  generalize (lg_sl ([.ref (ad 0), .int p0, .int p1]) ++ List.replicate (3 - (lg_sl ([.ref (ad 0), .int p0, .int p1])).length) Slot.unset).toArray = ls at hl ⊢
  have hl : lv_has ls 3 [(0, .ref (ad 0)), (1, .int p0), (2, .int p1)] := hl
  rw [fX6_spare] at hf
  refine lv_aload_n hx hb dX6_spare_0 rfl (lv_at hl 0 rfl) ?_
  obtain ⟨q1, hq1, hf⟩ := ob hf
  refine r_callv (va_runV (As := []) (rest := []) ⟨hx, hb, hml, hown, hts⟩ (c_X6_begin hI hA hq1) (cwV 0 hts gX6_spare_X6_begin rfl rfl rfl (by decide +kernel) ⟨Nat.le_of_ble_eq_true rfl, Nat.le_of_ble_eq_true rfl⟩) (Pf_V XMb (XMo A) hX hK hP hS obX6 rfl) rfl rfl hl.1 rfl (lv_room (Nat.le_of_ble_eq_true rfl)) dX6_spare_1 ⟨Nat.zero_le _, Nat.zero_le _⟩) hS (fun H locs hP hS => ?_)
  refine lv_aload_n hx hb dX6_spare_4 rfl (lv_at hl 0 rfl) ?_
  refine lv_iload_n hx hb dX6_spare_5 rfl (lv_at hl 1 rfl) ?_
  obtain ⟨q2, hq2, hf⟩ := ob hf
  refine r_call1 (va_runS (As := [.int p0]) (rest := [.ref (ad 0)]) ⟨hx, hb, hml, hown, hts⟩ (c_X6_noPage hI hA hq2) (va_cwS 1 hts gX6_spare_X6_noPage rfl rfl rfl (by decide +kernel) ⟨Nat.le_of_ble_eq_true rfl, Nat.le_of_ble_eq_true rfl⟩) (Pf_S XMb (XMo A) hX hK hP hS) rfl rfl hl.1 rfl (lv_room (Nat.le_of_ble_eq_true rfl)) dX6_spare_6 ⟨Nat.zero_le _, Nat.zero_le _⟩) hS (fun H locs hP hS => ?_)
  refine r_jn hf (fun K6 eK6 hf => ?_)
  have JK6 : ∀ (x4 : Int32) (M5 : Mem) (H : Heap) (locs : List Loc) (ls : Array Slot), va_P D vwCl (gw 25 ad (spM ad cI cZ) M5) H → va_S A s.heap H locs → lv_has ls 3 [(0, .ref (ad 0)), (1, .int p0), (2, .int p1)] → K6 x4 M5 = some res → W p l e (headSpec wsX6_spare { frames := 3, cells := 0, slots := 0, locals := 63 }).room s m (([.ref (ad 0), .int p0, .int p1] : List Value).toArray) below meth c H locs 0 0 (MQ below (Qf D vwCl 25 ad (spM ad cI cZ) A (some (.int res.1)) res.2) (([.ref (ad 0), .int p0, .int p1] : List Value).toArray) s 0 0 A) (F0 m 24 ls [.int x4, .ref (ad 0)]) := by
    intro x4 M5 H locs ls hP hS hl hf
    rw [eK6] at hf
    refine lv_iconst (v := (1 : Int32)) hx hb dX6_spare_24 (by decide) ?_
    obtain ⟨q7, hq7, hf⟩ := ob hf
    refine r_callv (va_runV (As := [.int x4, .int (1 : Int32)]) (rest := []) ⟨hx, hb, hml, hown, hts⟩ (c_X6_wrong hI hA hq7) (cwV 2 hts gX6_spare_X6_wrong rfl rfl rfl (by decide +kernel) ⟨Nat.le_of_ble_eq_true rfl, Nat.le_of_ble_eq_true rfl⟩) (Pf_V XMb (XMo A) hX hK hP hS obX6 rfl) rfl rfl hl.1 rfl (lv_room (Nat.le_of_ble_eq_true rfl)) dX6_spare_25 ⟨Nat.zero_le _, Nat.zero_le _⟩) hS (fun H locs hP hS => ?_)
    refine lv_aload_n hx hb dX6_spare_28 rfl (lv_at hl 0 rfl) ?_
    refine lv_iload_n hx hb dX6_spare_29 rfl (lv_at hl 1 rfl) ?_
    obtain ⟨q8, hq8, hf⟩ := ob hf
    refine r_callv (va_runV (As := [.int p0]) (rest := []) ⟨hx, hb, hml, hown, hts⟩ (c_X6_wantFree hI hA hq8) (cwV 1 hts gX6_spare_X6_wantFree rfl rfl rfl (by decide +kernel) ⟨Nat.le_of_ble_eq_true rfl, Nat.le_of_ble_eq_true rfl⟩) (Pf_V XMb (XMo A) hX hK hP hS obX6 rfl) rfl rfl hl.1 rfl (lv_room (Nat.le_of_ble_eq_true rfl)) dX6_spare_30 ⟨Nat.zero_le _, Nat.zero_le _⟩) hS (fun H locs hP hS => ?_)
    refine lv_aload_n hx hb dX6_spare_33 rfl (lv_at hl 0 rfl) ?_
    refine lv_aload_n hx hb dX6_spare_34 rfl (lv_at hl 0 rfl) ?_
    refine lv_iload_n hx hb dX6_spare_35 rfl (lv_at hl 2 rfl) ?_
    refine lv_iconst (v := (1 : Int32)) hx hb dX6_spare_36 (by decide) ?_
    obtain ⟨q9, hq9, hf⟩ := ob hf
    refine r_call1 (va_runV (As := [.int p1, .int (1 : Int32)]) (rest := [.ref (ad 0)]) ⟨hx, hb, hml, hown, hts⟩ (c_X6_isKind hI hA hq9) (cwV 2 hts gX6_spare_X6_isKind rfl rfl rfl (by decide +kernel) ⟨Nat.le_of_ble_eq_true rfl, Nat.le_of_ble_eq_true rfl⟩) (Pf_V XMb (XMo A) hX hK hP hS obX6 rfl) rfl rfl hl.1 rfl (lv_room (Nat.le_of_ble_eq_true rfl)) dX6_spare_37 ⟨Nat.zero_le _, Nat.zero_le _⟩) hS (fun H locs hP hS => ?_)
    refine r_jn hf (fun K11 eK11 hf => ?_)
    have JK11 : ∀ (x10 : Int32) (H : Heap) (locs : List Loc) (ls : Array Slot), va_P D vwCl (gw 25 ad (spM ad cI cZ) q9.2) H → va_S A s.heap H locs → lv_has ls 3 [(0, .ref (ad 0)), (1, .int p0), (2, .int p1)] → K11 x10 = some res → W p l e (headSpec wsX6_spare { frames := 3, cells := 0, slots := 0, locals := 63 }).room s m (([.ref (ad 0), .int p0, .int p1] : List Value).toArray) below meth c H locs 0 0 (MQ below (Qf D vwCl 25 ad (spM ad cI cZ) A (some (.int res.1)) res.2) (([.ref (ad 0), .int p0, .int p1] : List Value).toArray) s 0 0 A) (F0 m 48 ls [.int x10, .ref (ad 0)]) := by
      intro x10 H locs ls hP hS hl hf
      rw [eK11] at hf
      refine lv_iconst (v := (3 : Int32)) hx hb dX6_spare_48 (by decide) ?_
      obtain ⟨q12, hq12, hf⟩ := ob hf
      refine r_callv (va_runV (As := [.int x10, .int (3 : Int32)]) (rest := []) ⟨hx, hb, hml, hown, hts⟩ (c_X6_wrong hI hA hq12) (cwV 2 hts gX6_spare_X6_wrong rfl rfl rfl (by decide +kernel) ⟨Nat.le_of_ble_eq_true rfl, Nat.le_of_ble_eq_true rfl⟩) (Pf_V XMb (XMo A) hX hK hP hS obX6 rfl) rfl rfl hl.1 rfl (lv_room (Nat.le_of_ble_eq_true rfl)) dX6_spare_49 ⟨Nat.zero_le _, Nat.zero_le _⟩) hS (fun H locs hP hS => ?_)
      refine lv_aload_n hx hb dX6_spare_52 rfl (lv_at hl 0 rfl) ?_
      refine lv_aload_n hx hb dX6_spare_53 rfl (lv_at hl 0 rfl) ?_
      refine r_getik (j := 19) hx hb hts inX6 hown hK hP (obX6) rfl (by decide) (hts (.fieldLink RX6 183 "PageMonitorModel" "least" "I") (by decide +kernel)) (fun _ => rfl) dX6_spare_54 hf (fun x13 hf => ?_)
      refine r_jn hf (fun K16 eK16 hf => ?_)
      have JK16 : ∀ (x15 : Int32) (H : Heap) (locs : List Loc) (ls : Array Slot), va_P D vwCl (gw 25 ad (spM ad cI cZ) q12) H → va_S A s.heap H locs → lv_has ls 3 [(0, .ref (ad 0)), (1, .int p0), (2, .int p1)] → K16 x15 = some res → W p l e (headSpec wsX6_spare { frames := 3, cells := 0, slots := 0, locals := 63 }).room s m (([.ref (ad 0), .int p0, .int p1] : List Value).toArray) below meth c H locs 0 0 (MQ below (Qf D vwCl 25 ad (spM ad cI cZ) A (some (.int res.1)) res.2) (([.ref (ad 0), .int p0, .int p1] : List Value).toArray) s 0 0 A) (F0 m 75 ls [.int x15, .ref (ad 0)]) := by
        intro x15 H locs ls hP hS hl hf
        rw [eK16] at hf
        refine lv_iconst (v := (4 : Int32)) hx hb dX6_spare_75 (by decide) ?_
        obtain ⟨q17, hq17, hf⟩ := ob hf
        refine r_callv (va_runV (As := [.int x15, .int (4 : Int32)]) (rest := []) ⟨hx, hb, hml, hown, hts⟩ (c_X6_wrong hI hA hq17) (cwV 2 hts gX6_spare_X6_wrong rfl rfl rfl (by decide +kernel) ⟨Nat.le_of_ble_eq_true rfl, Nat.le_of_ble_eq_true rfl⟩) (Pf_V XMb (XMo A) hX hK hP hS obX6 rfl) rfl rfl hl.1 rfl (lv_room (Nat.le_of_ble_eq_true rfl)) dX6_spare_76 ⟨Nat.zero_le _, Nat.zero_le _⟩) hS (fun H locs hP hS => ?_)
        refine lv_aload_n hx hb dX6_spare_79 rfl (lv_at hl 0 rfl) ?_
        refine r_getik (j := 19) hx hb hts inX6 hown hK hP (obX6) rfl (by decide) (hts (.fieldLink RX6 183 "PageMonitorModel" "least" "I") (by decide +kernel)) (fun _ => rfl) dX6_spare_80 hf (fun x18 hf => ?_)
        refine r_jn hf (fun K21 eK21 hf => ?_)
        have JK21 : ∀ (M20 : Mem) (H : Heap) (locs : List Loc) (ls : Array Slot), va_P D vwCl (gw 25 ad (spM ad cI cZ) M20) H → va_S A s.heap H locs → lv_has ls 3 [(0, .ref (ad 0)), (1, .int p0), (2, .int p1)] → K21 M20 = some res → W p l e (headSpec wsX6_spare { frames := 3, cells := 0, slots := 0, locals := 63 }).room s m (([.ref (ad 0), .int p0, .int p1] : List Value).toArray) below meth c H locs 0 0 (MQ below (Qf D vwCl 25 ad (spM ad cI cZ) A (some (.int res.1)) res.2) (([.ref (ad 0), .int p0, .int p1] : List Value).toArray) s 0 0 A) (F0 m 93 ls []) := by
          intro M20 H locs ls hP hS hl hf
          rw [eK21] at hf
          refine lv_aload_n hx hb dX6_spare_93 rfl (lv_at hl 0 rfl) ?_
          refine r_getik (j := 19) hx hb hts inX6 hown hK hP (obX6) rfl (by decide) (hts (.fieldLink RX6 183 "PageMonitorModel" "least" "I") (by decide +kernel)) (fun _ => rfl) dX6_spare_94 hf (fun x22 hf => ?_)
          obtain rfl := Option.some.inj hf
          exact r_iret hx hb hr hlocks hP hS dX6_spare_97
        refine r_if_ne (tgt := 93) hx hb dX6_spare_83 (by decide) hf (fun hf => ?_) (fun hf => ?_)
        · exact JK21 q17 _ _ _ hP hS (lv_sub hl [0, 1, 2] rfl) hf
        · refine lv_aload_n hx hb dX6_spare_86 rfl (lv_at hl 0 rfl) ?_
          refine lv_iload_n hx hb dX6_spare_87 rfl (lv_at hl 1 rfl) ?_
          refine lv_iconst (v := (5 : Int32)) hx hb dX6_spare_88 (by decide) ?_
          refine lv_iload_n hx hb dX6_spare_89 rfl (lv_at hl 2 rfl) ?_
          obtain ⟨q23, hq23, hf⟩ := ob hf
          refine r_callv (va_runV (As := [.int p0, .int (5 : Int32), .int p1]) (rest := []) ⟨hx, hb, hml, hown, hts⟩ (c_X6_become hI hA hq23) (cwV 3 hts gX6_spare_X6_become rfl rfl rfl (by decide +kernel) ⟨Nat.le_of_ble_eq_true rfl, Nat.le_of_ble_eq_true rfl⟩) (Pf_V XMb (XMo A) hX hK hP hS obX6 rfl) rfl rfl hl.1 rfl (lv_room (Nat.le_of_ble_eq_true rfl)) dX6_spare_90 ⟨Nat.zero_le _, Nat.zero_le _⟩) hS (fun H locs hP hS => ?_)
          exact JK21 q23 _ _ _ hP hS (lv_sub hl [0, 1, 2] rfl) hf
      refine r_if_ne (tgt := 74) hx hb dX6_spare_57 (by decide) hf (fun hf => ?_) (fun hf => ?_)
      · refine lv_iconst (v := (0 : Int32)) hx hb dX6_spare_74 (by decide) ?_
        exact JK16 (0 : Int32) _ _ _ hP hS (lv_sub hl [0, 1, 2] rfl) hf
      · refine lv_aload_n hx hb dX6_spare_60 rfl (lv_at hl 0 rfl) ?_
        refine r_getc (k' := 5) (j := 5) hx hb hts inX6 hown hK hP (obX6) rfl (by decide) (hts (.fieldLink RX6 22 "PageMonitorModel" "states" "[I") (by decide +kernel)) (fun _ => rfl) dX6_spare_61 ?_
        refine lv_iload_n hx hb dX6_spare_64 rfl (lv_at hl 2 rfl) ?_
        refine r_ialdk hx hb hK hP 0 ma5 rfl dX6_spare_65 hf (fun x24 hf => ?_)
        refine lv_iconst (v := (2 : Int32)) hx hb dX6_spare_66 (by decide) ?_
        refine r_icmp_ne (tgt := 74) hx hb dX6_spare_67 (by decide) hf (fun hf => ?_) (fun hf => ?_)
        · refine lv_iconst (v := (0 : Int32)) hx hb dX6_spare_74 (by decide) ?_
          exact JK16 (0 : Int32) _ _ _ hP hS (lv_sub hl [0, 1, 2] rfl) hf
        · refine lv_iconst (v := (1 : Int32)) hx hb dX6_spare_70 (by decide) ?_
          refine lv_goto (tgt := 75) hx hb dX6_spare_71 (by decide) ?_
          exact JK16 (1 : Int32) _ _ _ hP hS (lv_sub hl [0, 1, 2] rfl) hf
    refine r_if_ne (tgt := 47) hx hb dX6_spare_40 (by decide) hf (fun hf => ?_) (fun hf => ?_)
    · refine lv_iconst (v := (0 : Int32)) hx hb dX6_spare_47 (by decide) ?_
      exact JK11 (0 : Int32) _ _ _ hP hS (lv_sub hl [0, 1, 2] rfl) hf
    · refine lv_iconst (v := (1 : Int32)) hx hb dX6_spare_43 (by decide) ?_
      refine lv_goto (tgt := 48) hx hb dX6_spare_44 (by decide) ?_
      exact JK11 (1 : Int32) _ _ _ hP hS (lv_sub hl [0, 1, 2] rfl) hf
  refine r_if_ne (tgt := 19) hx hb dX6_spare_9 (by decide) hf (fun hf => ?_) (fun hf => ?_)
  · refine lv_iconst (v := (1 : Int32)) hx hb dX6_spare_19 (by decide) ?_
    refine lv_goto (tgt := 24) hx hb dX6_spare_20 (by decide) ?_
    exact JK6 (1 : Int32) q2.2 _ _ _ hP hS (lv_sub hl [0, 1, 2] rfl) hf
  · refine lv_iload_n hx hb dX6_spare_12 rfl (lv_at hl 2 rfl) ?_
    obtain ⟨q25, hq25, hf⟩ := ob hf
    refine r_call1 (va_runS (As := [.int p1]) (rest := [.ref (ad 0)]) ⟨hx, hb, hml, hown, hts⟩ (c_X6_noPage hI hA hq25) (va_cwS 1 hts gX6_spare_X6_noPage rfl rfl rfl (by decide +kernel) ⟨Nat.le_of_ble_eq_true rfl, Nat.le_of_ble_eq_true rfl⟩) (Pf_S XMb (XMo A) hX hK hP hS) rfl rfl hl.1 rfl (lv_room (Nat.le_of_ble_eq_true rfl)) dX6_spare_13 ⟨Nat.zero_le _, Nat.zero_le _⟩) hS (fun H locs hP hS => ?_)
    refine r_if_eq (tgt := 23) hx hb dX6_spare_16 (by decide) hf (fun hf => ?_) (fun hf => ?_)
    · refine lv_iconst (v := (0 : Int32)) hx hb dX6_spare_23 (by decide) ?_
      exact JK6 (0 : Int32) q25.2 _ _ _ hP hS (lv_sub hl [0, 1, 2] rfl) hf
    · refine lv_iconst (v := (1 : Int32)) hx hb dX6_spare_19 (by decide) ?_
      refine lv_goto (tgt := 24) hx hb dX6_spare_20 (by decide) ?_
      exact JK6 (1 : Int32) q25.2 _ _ _ hP hS (lv_sub hl [0, 1, 2] rfl) hf
set_option maxHeartbeats 4000000 in
set_option maxRecDepth 100000 in
theorem c_X6_finish {l : Launch} {D : va_G} {ad : Nat → Nat} {cI cZ cP cR : ClassId} {A : Nat → Prop} {M : Mem} {p0 : Int32} {res : (Int32 × Mem)} (hI : gInj 25 ad) (hA : ∀ k, k < 25 → A (ad k)) (hf : fX6_finish M p0 = some res) : Met l yX6_finish wsX6_finish { frames := 3, cells := 0, slots := 0, locals := 70 } (va_Pc [.ref (ad 0), .int p0] (Pf D vwCl (tysW cI cZ cP cR) 25 ad (spM ad cI cZ) XM M)) (Qf D vwCl 25 ad (spM ad cI cZ) A (some (.int res.1)) res.2) 0 0 A := by
  refine Met.ofW (cc := cX6_finish) (maxL := 3) (ret := (some .int)) (by decide) rfl ?_
  intro p e s m args below meth c s₁ B hml hv
  obtain ⟨rfl, hP, hK, hX⟩ := hv
  have hx := B.exec
  have hb := B.bytes
  have hr := B.returns
  have hts := atoms_spec (ws := wsX6_finish) B.pre
  have hown : s.vm.findClass RX6 = some m.cls := findClass_of_methodNamed B.named
  have hlocks := B.notSynchronized
  have inX6 : ∀ w ∈ wsX60, w ∈ wsX6_finish := by decide +kernel
  have hS : va_S A s.heap s.heap [] := va_S.rf
  have hl := lv_entry ([.ref (ad 0), .int p0]) (n := 3) (Nat.le_of_ble_eq_true rfl)
  rw [lg_entry_eq]
  generalize (lg_sl ([.ref (ad 0), .int p0]) ++ List.replicate (3 - (lg_sl ([.ref (ad 0), .int p0])).length) Slot.unset).toArray = ls at hl ⊢
  have hl : lv_has ls 3 [(0, .ref (ad 0)), (1, .int p0)] := hl
  rw [fX6_finish] at hf
  refine lv_aload_n hx hb dX6_finish_0 rfl (lv_at hl 0 rfl) ?_
  obtain ⟨q1, hq1, hf⟩ := ob hf
  refine r_callv (va_runV (As := []) (rest := []) ⟨hx, hb, hml, hown, hts⟩ (c_X6_begin hI hA hq1) (cwV 0 hts gX6_finish_X6_begin rfl rfl rfl (by decide +kernel) ⟨Nat.le_of_ble_eq_true rfl, Nat.le_of_ble_eq_true rfl⟩) (Pf_V XMb (XMo A) hX hK hP hS obX6 rfl) rfl rfl hl.1 rfl (lv_room (Nat.le_of_ble_eq_true rfl)) dX6_finish_1 ⟨Nat.zero_le _, Nat.zero_le _⟩) hS (fun H locs hP hS => ?_)
  refine lv_aload_n hx hb dX6_finish_4 rfl (lv_at hl 0 rfl) ?_
  refine lv_iload_n hx hb dX6_finish_5 rfl (lv_at hl 1 rfl) ?_
  obtain ⟨q2, hq2, hf⟩ := ob hf
  refine r_call1 (va_runS (As := [.int p0]) (rest := [.ref (ad 0)]) ⟨hx, hb, hml, hown, hts⟩ (c_X6_noPage hI hA hq2) (va_cwS 1 hts gX6_finish_X6_noPage rfl rfl rfl (by decide +kernel) ⟨Nat.le_of_ble_eq_true rfl, Nat.le_of_ble_eq_true rfl⟩) (Pf_S XMb (XMo A) hX hK hP hS) rfl rfl hl.1 rfl (lv_room (Nat.le_of_ble_eq_true rfl)) dX6_finish_6 ⟨Nat.zero_le _, Nat.zero_le _⟩) hS (fun H locs hP hS => ?_)
  refine lv_iconst (v := (1 : Int32)) hx hb dX6_finish_9 (by decide) ?_
  obtain ⟨q3, hq3, hf⟩ := ob hf
  refine r_callv (va_runV (As := [.int q2.1, .int (1 : Int32)]) (rest := []) ⟨hx, hb, hml, hown, hts⟩ (c_X6_wrong hI hA hq3) (cwV 2 hts gX6_finish_X6_wrong rfl rfl rfl (by decide +kernel) ⟨Nat.le_of_ble_eq_true rfl, Nat.le_of_ble_eq_true rfl⟩) (Pf_V XMb (XMo A) hX hK hP hS obX6 rfl) rfl rfl hl.1 rfl (lv_room (Nat.le_of_ble_eq_true rfl)) dX6_finish_10 ⟨Nat.zero_le _, Nat.zero_le _⟩) hS (fun H locs hP hS => ?_)
  refine lv_aload_n hx hb dX6_finish_13 rfl (lv_at hl 0 rfl) ?_
  refine lv_iload_n hx hb dX6_finish_14 rfl (lv_at hl 1 rfl) ?_
  refine lv_iconst (v := (0 : Int32)) hx hb dX6_finish_15 (by decide) ?_
  obtain ⟨q4, hq4, hf⟩ := ob hf
  refine r_callv (va_runV (As := [.int p0, .int (0 : Int32)]) (rest := []) ⟨hx, hb, hml, hown, hts⟩ (c_X6_wantSpace hI hA hq4) (cwV 2 hts gX6_finish_X6_wantSpace rfl rfl rfl (by decide +kernel) ⟨Nat.le_of_ble_eq_true rfl, Nat.le_of_ble_eq_true rfl⟩) (Pf_V XMb (XMo A) hX hK hP hS obX6 rfl) rfl rfl hl.1 rfl (lv_room (Nat.le_of_ble_eq_true rfl)) dX6_finish_16 ⟨Nat.zero_le _, Nat.zero_le _⟩) hS (fun H locs hP hS => ?_)
  refine lv_aload_n hx hb dX6_finish_19 rfl (lv_at hl 0 rfl) ?_
  refine r_getik (j := 19) hx hb hts inX6 hown hK hP (obX6) rfl (by decide) (hts (.fieldLink RX6 183 "PageMonitorModel" "least" "I") (by decide +kernel)) (fun _ => rfl) dX6_finish_20 hf (fun x5 hf => ?_)
  refine r_if_le (tgt := 31) hx hb dX6_finish_23 (by decide) hf (fun hf => ?_) (fun hf => ?_)
  · refine lv_aload_n hx hb dX6_finish_31 rfl (lv_at hl 0 rfl) ?_
    refine lv_iload_n hx hb dX6_finish_32 rfl (lv_at hl 1 rfl) ?_
    refine lv_iconst (v := (4 : Int32)) hx hb dX6_finish_33 (by decide) ?_
    refine lv_iconst (v := (0 : Int32)) hx hb dX6_finish_34 (by decide) ?_
    refine lv_iconst (v := (0 : Int32)) hx hb dX6_finish_35 (by decide) ?_
    obtain ⟨q6, hq6, hf⟩ := ob hf
    refine r_callv (va_runV (As := [.int p0, .int (4 : Int32), .int (0 : Int32), .int (0 : Int32)]) (rest := []) ⟨hx, hb, hml, hown, hts⟩ (c_X6_tell hI hA hq6) (cwV 4 hts gX6_finish_X6_tell rfl rfl rfl (by decide +kernel) ⟨Nat.le_of_ble_eq_true rfl, Nat.le_of_ble_eq_true rfl⟩) (Pf_V XMb (XMo A) hX hK hP hS obX6 rfl) rfl rfl hl.1 rfl (lv_room (Nat.le_of_ble_eq_true rfl)) dX6_finish_36 ⟨Nat.zero_le _, Nat.zero_le _⟩) hS (fun H locs hP hS => ?_)
    refine lv_iconst (v := (0 : Int32)) hx hb dX6_finish_39 (by decide) ?_
    refine lv_istore_n (lv' := [(2, .int (0 : Int32)), (0, .ref (ad 0)), (1, .int p0)]) hx hb dX6_finish_40 rfl hl (by decide) rfl (fun ls hl => ?_)
    refine r_jn hf (fun F9 eF9 hf => ?_)
    have EF9 : ∀ (x10 : Int32) (M11 : Mem) (H : Heap) (locs : List Loc) (ls : Array Slot), va_P D vwCl (gw 25 ad (spM ad cI cZ) M11) H → va_S A s.heap H locs → lv_has ls 3 [(0, .ref (ad 0)), (1, .int p0), (2, .int x10)] → F9 x10 M11 = some res → W p l e (headSpec wsX6_finish { frames := 3, cells := 0, slots := 0, locals := 70 }).room s m (([.ref (ad 0), .int p0] : List Value).toArray) below meth c H locs 0 0 (MQ below (Qf D vwCl 25 ad (spM ad cI cZ) A (some (.int res.1)) res.2) (([.ref (ad 0), .int p0] : List Value).toArray) s 0 0 A) (F0 m 75 ls []) := by
      intro x10 M11 H locs ls hP hS hl hf
      rw [eF9] at hf
      refine lv_aload_n hx hb dX6_finish_75 rfl (lv_at hl 0 rfl) ?_
      refine lv_aload_n hx hb dX6_finish_76 rfl (lv_at hl 0 rfl) ?_
      refine r_getc (k' := 11) (j := 11) hx hb hts inX6 hown hK hP (obX6) rfl (by decide) (hts (.fieldLink RX6 40 "PageMonitorModel" "logged" "[I") (by decide +kernel)) (fun _ => rfl) dX6_finish_77 ?_
      refine lv_iload_n hx hb dX6_finish_80 rfl (lv_at hl 1 rfl) ?_
      refine r_ialdk hx hb hK hP 0 ma11 rfl dX6_finish_81 hf (fun x12 hf => ?_)
      obtain ⟨q13, hq13, hf⟩ := ob hf
      refine r_callv (va_runV (As := [.int x12]) (rest := []) ⟨hx, hb, hml, hown, hts⟩ (c_X6_hash hI hA hq13) (cwV 1 hts gX6_finish_X6_hash rfl rfl rfl (by decide +kernel) ⟨Nat.le_of_ble_eq_true rfl, Nat.le_of_ble_eq_true rfl⟩) (Pf_V XMb (XMo A) hX hK hP hS obX6 rfl) rfl rfl hl.1 rfl (lv_room (Nat.le_of_ble_eq_true rfl)) dX6_finish_82 ⟨Nat.zero_le _, Nat.zero_le _⟩) hS (fun H locs hP hS => ?_)
      refine lv_iconst (v := (0 : Int32)) hx hb dX6_finish_85 (by decide) ?_
      refine lv_istore_n (lv' := [(2, .int (0 : Int32)), (0, .ref (ad 0)), (1, .int p0)]) hx hb dX6_finish_86 rfl hl (by decide) rfl (fun ls hl => ?_)
      refine r_jn hf (fun F16 eF16 hf => ?_)
      have EF16 : ∀ (x17 : Int32) (M18 : Mem) (H : Heap) (locs : List Loc) (ls : Array Slot), va_P D vwCl (gw 25 ad (spM ad cI cZ) M18) H → va_S A s.heap H locs → lv_has ls 3 [(0, .ref (ad 0)), (1, .int p0), (2, .int x17)] → F16 x17 M18 = some res → W p l e (headSpec wsX6_finish { frames := 3, cells := 0, slots := 0, locals := 70 }).room s m (([.ref (ad 0), .int p0] : List Value).toArray) below meth c H locs 0 0 (MQ below (Qf D vwCl 25 ad (spM ad cI cZ) A (some (.int res.1)) res.2) (([.ref (ad 0), .int p0] : List Value).toArray) s 0 0 A) (F0 m 116 ls []) := by
        intro x17 M18 H locs ls hP hS hl hf
        rw [eF16] at hf
        refine lv_aload_n hx hb dX6_finish_116 rfl (lv_at hl 0 rfl) ?_
        refine r_getc (k' := 13) (j := 13) hx hb hts inX6 hown hK hP (obX6) rfl (by decide) (hts (.fieldLink RX6 46 "PageMonitorModel" "measured" "[Z") (by decide +kernel)) (fun _ => rfl) dX6_finish_117 ?_
        refine lv_iload_n hx hb dX6_finish_120 rfl (lv_at hl 1 rfl) ?_
        refine lv_iconst (v := (1 : Int32)) hx hb dX6_finish_121 (by decide) ?_
        refine r_zastk hx hb hI hA hK hP hS 1 ma13 rfl dX6_finish_122 hf (fun M19 H locs hP hS hf => ?_)
        refine lv_aload_n hx hb dX6_finish_123 rfl (lv_at hl 0 rfl) ?_
        refine r_getc (k' := 5) (j := 5) hx hb hts inX6 hown hK hP (obX6) rfl (by decide) (hts (.fieldLink RX6 22 "PageMonitorModel" "states" "[I") (by decide +kernel)) (fun _ => rfl) dX6_finish_124 ?_
        refine lv_iload_n hx hb dX6_finish_127 rfl (lv_at hl 1 rfl) ?_
        refine lv_iconst (v := (1 : Int32)) hx hb dX6_finish_128 (by decide) ?_
        refine r_iastk hx hb hI hA hK hP hS 0 ma5 rfl dX6_finish_129 hf (fun M20 H locs hP hS hf => ?_)
        refine lv_iconst (v := (0 : Int32)) hx hb dX6_finish_130 (by decide) ?_
        obtain rfl := Option.some.inj hf
        exact r_iret hx hb hr hlocks hP hS dX6_finish_131
      have LF16 : ∀ (n : Nat) (x14 : Int32) (M15 : Mem) (H : Heap) (locs : List Loc) (ls : Array Slot), va_P D vwCl (gw 25 ad (spM ad cI cZ) M15) H → va_S A s.heap H locs → lv_has ls 3 [(0, .ref (ad 0)), (1, .int p0), (2, .int x14)] → lp_X6_finish_87 p0 F16 n x14 M15 = some res → W p l e (headSpec wsX6_finish { frames := 3, cells := 0, slots := 0, locals := 70 }).room s m (([.ref (ad 0), .int p0] : List Value).toArray) below meth c H locs 0 0 (MQ below (Qf D vwCl 25 ad (spM ad cI cZ) A (some (.int res.1)) res.2) (([.ref (ad 0), .int p0] : List Value).toArray) s 0 0 A) (F0 m 87 ls []) := by
        intro n
        induction n with
        | zero =>
          intro x14 M15 H locs ls hP hS hl hf
          exact absurd hf (fun h => nomatch h)
        | succ n ih =>
          intro x14 M15 H locs ls hP hS hl hf
          rw [lp_X6_finish_87_s] at hf
          refine lv_iload_n hx hb dX6_finish_87 rfl (lv_at hl 2 rfl) ?_
          refine lv_bipush (v := (8 : Int32)) hx hb dX6_finish_88 (by decide) ?_
          refine r_icmp_ge (tgt := 116) hx hb dX6_finish_90 (by decide) hf (fun hf => ?_) (fun hf => ?_)
          · exact EF16 x14 M15 _ _ _ hP hS (lv_sub hl [0, 1, 2] rfl) hf
          · refine lv_aload_n hx hb dX6_finish_93 rfl (lv_at hl 0 rfl) ?_
            refine r_getc (k' := 12) (j := 12) hx hb hts inX6 hown hK hP (obX6) rfl (by decide) (hts (.fieldLink RX6 43 "PageMonitorModel" "measures" "[I") (by decide +kernel)) (fun _ => rfl) dX6_finish_94 ?_
            refine lv_bipush (v := (8 : Int32)) hx hb dX6_finish_97 (by decide) ?_
            refine lv_iload_n hx hb dX6_finish_99 rfl (lv_at hl 1 rfl) ?_
            refine lv_imul hx hb dX6_finish_100 ?_
            refine lv_iload_n hx hb dX6_finish_101 rfl (lv_at hl 2 rfl) ?_
            refine lv_iadd hx hb dX6_finish_102 ?_
            refine lv_aload_n hx hb dX6_finish_103 rfl (lv_at hl 0 rfl) ?_
            refine r_getc (k' := 22) (j := 29) hx hb hts inX6 hown hK hP (obX6) rfl (by decide) (hts (.fieldLink RX6 146 "PageMonitorModel" "digest" "[I") (by decide +kernel)) (fun _ => rfl) dX6_finish_104 ?_
            refine lv_iload_n hx hb dX6_finish_107 rfl (lv_at hl 2 rfl) ?_
            refine r_ialdk hx hb hK hP 0 ma22 rfl dX6_finish_108 hf (fun x21 hf => ?_)
            refine r_iastk hx hb hI hA hK hP hS 0 ma12 rfl dX6_finish_109 hf (fun M22 H locs hP hS hf => ?_)
            refine lv_iinc (v := x14 + (1 : Int32)) (lv' := [(2, .int (x14 + (1 : Int32))), (0, .ref (ad 0)), (1, .int p0)]) hx hb dX6_finish_110 hl (k := 2) rfl rfl (by decide) rfl (fun ls hl => ?_)
            refine lv_goto (tgt := 87) hx hb dX6_finish_113 (by decide) ?_
            exact ih (x14 + (1 : Int32)) M22 _ _ _ hP hS (lv_sub hl [1, 2, 0] rfl) hf
      exact LF16 FU (0 : Int32) q13 _ _ _ hP hS (lv_sub hl [1, 2, 0] rfl) hf
    have LF9 : ∀ (n : Nat) (x7 : Int32) (M8 : Mem) (H : Heap) (locs : List Loc) (ls : Array Slot), va_P D vwCl (gw 25 ad (spM ad cI cZ) M8) H → va_S A s.heap H locs → lv_has ls 3 [(0, .ref (ad 0)), (1, .int p0), (2, .int x7)] → lp_X6_finish_41 p0 F9 n x7 M8 = some res → W p l e (headSpec wsX6_finish { frames := 3, cells := 0, slots := 0, locals := 70 }).room s m (([.ref (ad 0), .int p0] : List Value).toArray) below meth c H locs 0 0 (MQ below (Qf D vwCl 25 ad (spM ad cI cZ) A (some (.int res.1)) res.2) (([.ref (ad 0), .int p0] : List Value).toArray) s 0 0 A) (F0 m 41 ls []) := by
      intro n
      induction n with
      | zero =>
        intro x7 M8 H locs ls hP hS hl hf
        exact absurd hf (fun h => nomatch h)
      | succ n ih =>
        intro x7 M8 H locs ls hP hS hl hf
        rw [lp_X6_finish_41_s] at hf
        refine lv_iload_n hx hb dX6_finish_41 rfl (lv_at hl 2 rfl) ?_
        refine lv_aload_n hx hb dX6_finish_42 rfl (lv_at hl 0 rfl) ?_
        refine r_getc (k' := 11) (j := 11) hx hb hts inX6 hown hK hP (obX6) rfl (by decide) (hts (.fieldLink RX6 40 "PageMonitorModel" "logged" "[I") (by decide +kernel)) (fun _ => rfl) dX6_finish_43 ?_
        refine lv_iload_n hx hb dX6_finish_46 rfl (lv_at hl 1 rfl) ?_
        refine r_ialdk hx hb hK hP 0 ma11 rfl dX6_finish_47 hf (fun x23 hf => ?_)
        refine r_icmp_ge (tgt := 75) hx hb dX6_finish_48 (by decide) hf (fun hf => ?_) (fun hf => ?_)
        · exact EF9 x7 M8 _ _ _ hP hS (lv_sub hl [0, 1, 2] rfl) hf
        · refine lv_aload_n hx hb dX6_finish_51 rfl (lv_at hl 0 rfl) ?_
          refine r_getc (k' := 20) (j := 27) hx hb hts inX6 hown hK hP (obX6) rfl (by decide) (hts (.fieldLink RX6 140 "PageMonitorModel" "message" "[I") (by decide +kernel)) (fun _ => rfl) dX6_finish_52 ?_
          refine lv_iload_n hx hb dX6_finish_55 rfl (lv_at hl 2 rfl) ?_
          refine lv_aload_n hx hb dX6_finish_56 rfl (lv_at hl 0 rfl) ?_
          refine r_getc (k' := 10) (j := 10) hx hb hts inX6 hown hK hP (obX6) rfl (by decide) (hts (.fieldLink RX6 37 "PageMonitorModel" "logs" "[I") (by decide +kernel)) (fun _ => rfl) dX6_finish_57 ?_
          refine lv_sipush (v := (1600 : Int32)) hx hb dX6_finish_60 (by decide) ?_
          refine lv_iload_n hx hb dX6_finish_63 rfl (lv_at hl 1 rfl) ?_
          refine lv_imul hx hb dX6_finish_64 ?_
          refine lv_iload_n hx hb dX6_finish_65 rfl (lv_at hl 2 rfl) ?_
          refine lv_iadd hx hb dX6_finish_66 ?_
          refine r_ialdk hx hb hK hP 0 ma10 rfl dX6_finish_67 hf (fun x24 hf => ?_)
          refine r_iastk hx hb hI hA hK hP hS 0 ma20 rfl dX6_finish_68 hf (fun M25 H locs hP hS hf => ?_)
          refine lv_iinc (v := x7 + (1 : Int32)) (lv' := [(2, .int (x7 + (1 : Int32))), (0, .ref (ad 0)), (1, .int p0)]) hx hb dX6_finish_69 hl (k := 2) rfl rfl (by decide) rfl (fun ls hl => ?_)
          refine lv_goto (tgt := 41) hx hb dX6_finish_72 (by decide) ?_
          exact ih (x7 + (1 : Int32)) M25 _ _ _ hP hS (lv_sub hl [1, 2, 0] rfl) hf
    exact LF9 FU (0 : Int32) q6 _ _ _ hP hS (lv_sub hl [1, 2, 0] rfl) hf
  · refine lv_aload_n hx hb dX6_finish_26 rfl (lv_at hl 0 rfl) ?_
    refine r_getik (j := 19) hx hb hts inX6 hown hK hP (obX6) rfl (by decide) (hts (.fieldLink RX6 183 "PageMonitorModel" "least" "I") (by decide +kernel)) (fun _ => rfl) dX6_finish_27 hf (fun x26 hf => ?_)
    obtain rfl := Option.some.inj hf
    exact r_iret hx hb hr hlocks hP hS dX6_finish_30
set_option maxHeartbeats 4000000 in
set_option maxRecDepth 100000 in
theorem c_X6_stop {l : Launch} {D : va_G} {ad : Nat → Nat} {cI cZ cP cR : ClassId} {A : Nat → Prop} {M : Mem} {p0 : Int32} {res : (Int32 × Mem)} (hI : gInj 25 ad) (hA : ∀ k, k < 25 → A (ad k)) (hf : fX6_stop M p0 = some res) : Met l yX6_stop wsX6_stop { frames := 2, cells := 0, slots := 0, locals := 42 } (va_Pc [.ref (ad 0), .int p0] (Pf D vwCl (tysW cI cZ cP cR) 25 ad (spM ad cI cZ) XM M)) (Qf D vwCl 25 ad (spM ad cI cZ) A (some (.int res.1)) res.2) 0 0 A := by
  refine Met.ofW (cc := cX6_stop) (maxL := 3) (ret := (some .int)) (by decide) rfl ?_
  intro p e s m args below meth c s₁ B hml hv
  obtain ⟨rfl, hP, hK, hX⟩ := hv
  have hx := B.exec
  have hb := B.bytes
  have hr := B.returns
  have hts := atoms_spec (ws := wsX6_stop) B.pre
  have hown : s.vm.findClass RX6 = some m.cls := findClass_of_methodNamed B.named
  have hlocks := B.notSynchronized
  have inX6 : ∀ w ∈ wsX60, w ∈ wsX6_stop := by decide +kernel
  have hS : va_S A s.heap s.heap [] := va_S.rf
  have hl := lv_entry ([.ref (ad 0), .int p0]) (n := 3) (Nat.le_of_ble_eq_true rfl)
  rw [lg_entry_eq]
  generalize (lg_sl ([.ref (ad 0), .int p0]) ++ List.replicate (3 - (lg_sl ([.ref (ad 0), .int p0])).length) Slot.unset).toArray = ls at hl ⊢
  have hl : lv_has ls 3 [(0, .ref (ad 0)), (1, .int p0)] := hl
  rw [fX6_stop] at hf
  refine lv_aload_n hx hb dX6_stop_0 rfl (lv_at hl 0 rfl) ?_
  obtain ⟨q1, hq1, hf⟩ := ob hf
  refine r_callv (va_runV (As := []) (rest := []) ⟨hx, hb, hml, hown, hts⟩ (c_X6_begin hI hA hq1) (cwV 0 hts gX6_stop_X6_begin rfl rfl rfl (by decide +kernel) ⟨Nat.le_of_ble_eq_true rfl, Nat.le_of_ble_eq_true rfl⟩) (Pf_V XMb (XMo A) hX hK hP hS obX6 rfl) rfl rfl hl.1 rfl (lv_room (Nat.le_of_ble_eq_true rfl)) dX6_stop_1 ⟨Nat.zero_le _, Nat.zero_le _⟩) hS (fun H locs hP hS => ?_)
  refine lv_aload_n hx hb dX6_stop_4 rfl (lv_at hl 0 rfl) ?_
  refine lv_iload_n hx hb dX6_stop_5 rfl (lv_at hl 1 rfl) ?_
  obtain ⟨q2, hq2, hf⟩ := ob hf
  refine r_call1 (va_runS (As := [.int p0]) (rest := [.ref (ad 0)]) ⟨hx, hb, hml, hown, hts⟩ (c_X6_noPage hI hA hq2) (va_cwS 1 hts gX6_stop_X6_noPage rfl rfl rfl (by decide +kernel) ⟨Nat.le_of_ble_eq_true rfl, Nat.le_of_ble_eq_true rfl⟩) (Pf_S XMb (XMo A) hX hK hP hS) rfl rfl hl.1 rfl (lv_room (Nat.le_of_ble_eq_true rfl)) dX6_stop_6 ⟨Nat.zero_le _, Nat.zero_le _⟩) hS (fun H locs hP hS => ?_)
  refine lv_iconst (v := (1 : Int32)) hx hb dX6_stop_9 (by decide) ?_
  obtain ⟨q3, hq3, hf⟩ := ob hf
  refine r_callv (va_runV (As := [.int q2.1, .int (1 : Int32)]) (rest := []) ⟨hx, hb, hml, hown, hts⟩ (c_X6_wrong hI hA hq3) (cwV 2 hts gX6_stop_X6_wrong rfl rfl rfl (by decide +kernel) ⟨Nat.le_of_ble_eq_true rfl, Nat.le_of_ble_eq_true rfl⟩) (Pf_V XMb (XMo A) hX hK hP hS obX6 rfl) rfl rfl hl.1 rfl (lv_room (Nat.le_of_ble_eq_true rfl)) dX6_stop_10 ⟨Nat.zero_le _, Nat.zero_le _⟩) hS (fun H locs hP hS => ?_)
  refine lv_aload_n hx hb dX6_stop_13 rfl (lv_at hl 0 rfl) ?_
  refine lv_aload_n hx hb dX6_stop_14 rfl (lv_at hl 0 rfl) ?_
  refine lv_iload_n hx hb dX6_stop_15 rfl (lv_at hl 1 rfl) ?_
  refine lv_iconst (v := (1 : Int32)) hx hb dX6_stop_16 (by decide) ?_
  obtain ⟨q4, hq4, hf⟩ := ob hf
  refine r_call1 (va_runV (As := [.int p0, .int (1 : Int32)]) (rest := [.ref (ad 0)]) ⟨hx, hb, hml, hown, hts⟩ (c_X6_isKind hI hA hq4) (cwV 2 hts gX6_stop_X6_isKind rfl rfl rfl (by decide +kernel) ⟨Nat.le_of_ble_eq_true rfl, Nat.le_of_ble_eq_true rfl⟩) (Pf_V XMb (XMo A) hX hK hP hS obX6 rfl) rfl rfl hl.1 rfl (lv_room (Nat.le_of_ble_eq_true rfl)) dX6_stop_17 ⟨Nat.zero_le _, Nat.zero_le _⟩) hS (fun H locs hP hS => ?_)
  refine r_jn hf (fun K6 eK6 hf => ?_)
  have JK6 : ∀ (x5 : Int32) (H : Heap) (locs : List Loc) (ls : Array Slot), va_P D vwCl (gw 25 ad (spM ad cI cZ) q4.2) H → va_S A s.heap H locs → lv_has ls 3 [(0, .ref (ad 0)), (1, .int p0)] → K6 x5 = some res → W p l e (headSpec wsX6_stop { frames := 2, cells := 0, slots := 0, locals := 42 }).room s m (([.ref (ad 0), .int p0] : List Value).toArray) below meth c H locs 0 0 (MQ below (Qf D vwCl 25 ad (spM ad cI cZ) A (some (.int res.1)) res.2) (([.ref (ad 0), .int p0] : List Value).toArray) s 0 0 A) (F0 m 28 ls [.int x5, .ref (ad 0)]) := by
    intro x5 H locs ls hP hS hl hf
    rw [eK6] at hf
    refine lv_iconst (v := (3 : Int32)) hx hb dX6_stop_28 (by decide) ?_
    obtain ⟨q7, hq7, hf⟩ := ob hf
    refine r_callv (va_runV (As := [.int x5, .int (3 : Int32)]) (rest := []) ⟨hx, hb, hml, hown, hts⟩ (c_X6_wrong hI hA hq7) (cwV 2 hts gX6_stop_X6_wrong rfl rfl rfl (by decide +kernel) ⟨Nat.le_of_ble_eq_true rfl, Nat.le_of_ble_eq_true rfl⟩) (Pf_V XMb (XMo A) hX hK hP hS obX6 rfl) rfl rfl hl.1 rfl (lv_room (Nat.le_of_ble_eq_true rfl)) dX6_stop_29 ⟨Nat.zero_le _, Nat.zero_le _⟩) hS (fun H locs hP hS => ?_)
    refine lv_aload_n hx hb dX6_stop_32 rfl (lv_at hl 0 rfl) ?_
    refine lv_aload_n hx hb dX6_stop_33 rfl (lv_at hl 0 rfl) ?_
    refine r_getik (j := 19) hx hb hts inX6 hown hK hP (obX6) rfl (by decide) (hts (.fieldLink RX6 183 "PageMonitorModel" "least" "I") (by decide +kernel)) (fun _ => rfl) dX6_stop_34 hf (fun x8 hf => ?_)
    refine r_jn hf (fun K11 eK11 hf => ?_)
    have JK11 : ∀ (x10 : Int32) (H : Heap) (locs : List Loc) (ls : Array Slot), va_P D vwCl (gw 25 ad (spM ad cI cZ) q7) H → va_S A s.heap H locs → lv_has ls 3 [(0, .ref (ad 0)), (1, .int p0)] → K11 x10 = some res → W p l e (headSpec wsX6_stop { frames := 2, cells := 0, slots := 0, locals := 42 }).room s m (([.ref (ad 0), .int p0] : List Value).toArray) below meth c H locs 0 0 (MQ below (Qf D vwCl 25 ad (spM ad cI cZ) A (some (.int res.1)) res.2) (([.ref (ad 0), .int p0] : List Value).toArray) s 0 0 A) (F0 m 55 ls [.int x10, .ref (ad 0)]) := by
      intro x10 H locs ls hP hS hl hf
      rw [eK11] at hf
      refine lv_iconst (v := (4 : Int32)) hx hb dX6_stop_55 (by decide) ?_
      obtain ⟨q12, hq12, hf⟩ := ob hf
      refine r_callv (va_runV (As := [.int x10, .int (4 : Int32)]) (rest := []) ⟨hx, hb, hml, hown, hts⟩ (c_X6_wrong hI hA hq12) (cwV 2 hts gX6_stop_X6_wrong rfl rfl rfl (by decide +kernel) ⟨Nat.le_of_ble_eq_true rfl, Nat.le_of_ble_eq_true rfl⟩) (Pf_V XMb (XMo A) hX hK hP hS obX6 rfl) rfl rfl hl.1 rfl (lv_room (Nat.le_of_ble_eq_true rfl)) dX6_stop_56 ⟨Nat.zero_le _, Nat.zero_le _⟩) hS (fun H locs hP hS => ?_)
      refine lv_aload_n hx hb dX6_stop_59 rfl (lv_at hl 0 rfl) ?_
      refine r_getik (j := 19) hx hb hts inX6 hown hK hP (obX6) rfl (by decide) (hts (.fieldLink RX6 183 "PageMonitorModel" "least" "I") (by decide +kernel)) (fun _ => rfl) dX6_stop_60 hf (fun x13 hf => ?_)
      refine r_if_le (tgt := 71) hx hb dX6_stop_63 (by decide) hf (fun hf => ?_) (fun hf => ?_)
      · refine lv_aload_n hx hb dX6_stop_71 rfl (lv_at hl 0 rfl) ?_
        refine r_getc (k' := 5) (j := 5) hx hb hts inX6 hown hK hP (obX6) rfl (by decide) (hts (.fieldLink RX6 22 "PageMonitorModel" "states" "[I") (by decide +kernel)) (fun _ => rfl) dX6_stop_72 ?_
        refine lv_iload_n hx hb dX6_stop_75 rfl (lv_at hl 1 rfl) ?_
        refine lv_iconst (v := (2 : Int32)) hx hb dX6_stop_76 (by decide) ?_
        refine r_iastk hx hb hI hA hK hP hS 0 ma5 rfl dX6_stop_77 hf (fun M14 H locs hP hS hf => ?_)
        refine lv_iconst (v := (0 : Int32)) hx hb dX6_stop_78 (by decide) ?_
        refine lv_istore_n (lv' := [(2, .int (0 : Int32)), (0, .ref (ad 0)), (1, .int p0)]) hx hb dX6_stop_79 rfl hl (by decide) rfl (fun ls hl => ?_)
        refine r_jn hf (fun F17 eF17 hf => ?_)
        have EF17 : ∀ (x18 : Int32) (M19 : Mem) (H : Heap) (locs : List Loc) (ls : Array Slot), va_P D vwCl (gw 25 ad (spM ad cI cZ) M19) H → va_S A s.heap H locs → lv_has ls 3 [(0, .ref (ad 0)), (1, .int p0), (2, .int x18)] → F17 x18 M19 = some res → W p l e (headSpec wsX6_stop { frames := 2, cells := 0, slots := 0, locals := 42 }).room s m (([.ref (ad 0), .int p0] : List Value).toArray) below meth c H locs 0 0 (MQ below (Qf D vwCl 25 ad (spM ad cI cZ) A (some (.int res.1)) res.2) (([.ref (ad 0), .int p0] : List Value).toArray) s 0 0 A) (F0 m 122 ls []) := by
          intro x18 M19 H locs ls hP hS hl hf
          rw [eF17] at hf
          refine lv_iconst (v := (0 : Int32)) hx hb dX6_stop_122 (by decide) ?_
          obtain rfl := Option.some.inj hf
          exact r_iret hx hb hr hlocks hP hS dX6_stop_123
        have LF17 : ∀ (n : Nat) (x15 : Int32) (M16 : Mem) (H : Heap) (locs : List Loc) (ls : Array Slot), va_P D vwCl (gw 25 ad (spM ad cI cZ) M16) H → va_S A s.heap H locs → lv_has ls 3 [(0, .ref (ad 0)), (1, .int p0), (2, .int x15)] → lp_X6_stop_80 p0 F17 n x15 M16 = some res → W p l e (headSpec wsX6_stop { frames := 2, cells := 0, slots := 0, locals := 42 }).room s m (([.ref (ad 0), .int p0] : List Value).toArray) below meth c H locs 0 0 (MQ below (Qf D vwCl 25 ad (spM ad cI cZ) A (some (.int res.1)) res.2) (([.ref (ad 0), .int p0] : List Value).toArray) s 0 0 A) (F0 m 80 ls []) := by
          intro n
          induction n with
          | zero =>
            intro x15 M16 H locs ls hP hS hl hf
            exact absurd hf (fun h => nomatch h)
          | succ n ih =>
            intro x15 M16 H locs ls hP hS hl hf
            rw [lp_X6_stop_80_s] at hf
            refine lv_iload_n hx hb dX6_stop_80 rfl (lv_at hl 2 rfl) ?_
            refine lv_bipush (v := (20 : Int32)) hx hb dX6_stop_81 (by decide) ?_
            refine r_icmp_ge (tgt := 122) hx hb dX6_stop_83 (by decide) hf (fun hf => ?_) (fun hf => ?_)
            · exact EF17 x15 M16 _ _ _ hP hS (lv_sub hl [0, 1, 2] rfl) hf
            · refine lv_aload_n hx hb dX6_stop_86 rfl (lv_at hl 0 rfl) ?_
              refine r_getc (k' := 15) (j := 15) hx hb hts inX6 hown hK hP (obX6) rfl (by decide) (hts (.fieldLink RX6 53 "PageMonitorModel" "entered" "[Z") (by decide +kernel)) (fun _ => rfl) dX6_stop_87 ?_
              refine lv_iload_n hx hb dX6_stop_90 rfl (lv_at hl 2 rfl) ?_
              refine lv_aload_n hx hb dX6_stop_91 rfl (lv_at hl 0 rfl) ?_
              refine r_getc (k' := 15) (j := 15) hx hb hts inX6 hown hK hP (obX6) rfl (by decide) (hts (.fieldLink RX6 53 "PageMonitorModel" "entered" "[Z") (by decide +kernel)) (fun _ => rfl) dX6_stop_92 ?_
              refine lv_iload_n hx hb dX6_stop_95 rfl (lv_at hl 2 rfl) ?_
              refine r_zaldk hx hb hK hP 1 ma15 rfl dX6_stop_96 hf (fun x20 hf => ?_)
              refine r_jn hf (fun K23 eK23 hf => ?_)
              have JK23 : ∀ (x22 : Int32) (H : Heap) (locs : List Loc) (ls : Array Slot), va_P D vwCl (gw 25 ad (spM ad cI cZ) M16) H → va_S A s.heap H locs → lv_has ls 3 [(0, .ref (ad 0)), (1, .int p0), (2, .int x15)] → K23 x22 = some res → W p l e (headSpec wsX6_stop { frames := 2, cells := 0, slots := 0, locals := 42 }).room s m (([.ref (ad 0), .int p0] : List Value).toArray) below meth c H locs 0 0 (MQ below (Qf D vwCl 25 ad (spM ad cI cZ) A (some (.int res.1)) res.2) (([.ref (ad 0), .int p0] : List Value).toArray) s 0 0 A) (F0 m 115 ls [.int x22, .int x15, .ref (ad 15)]) := by
                intro x22 H locs ls hP hS hl hf
                rw [eK23] at hf
                refine r_zastk hx hb hI hA hK hP hS 1 ma15 rfl dX6_stop_115 hf (fun M24 H locs hP hS hf => ?_)
                refine lv_iinc (v := x15 + (1 : Int32)) (lv' := [(2, .int (x15 + (1 : Int32))), (0, .ref (ad 0)), (1, .int p0)]) hx hb dX6_stop_116 hl (k := 2) rfl rfl (by decide) rfl (fun ls hl => ?_)
                refine lv_goto (tgt := 80) hx hb dX6_stop_119 (by decide) ?_
                exact ih (x15 + (1 : Int32)) M24 _ _ _ hP hS (lv_sub hl [1, 2, 0] rfl) hf
              refine r_if_eq (tgt := 114) hx hb dX6_stop_97 (by decide) hf (fun hf => ?_) (fun hf => ?_)
              · refine lv_iconst (v := (0 : Int32)) hx hb dX6_stop_114 (by decide) ?_
                exact JK23 (0 : Int32) _ _ _ hP hS (lv_sub hl [0, 1, 2] rfl) hf
              · refine lv_aload_n hx hb dX6_stop_100 rfl (lv_at hl 0 rfl) ?_
                refine r_getc (k' := 4) (j := 4) hx hb hts inX6 hown hK hP (obX6) rfl (by decide) (hts (.fieldLink RX6 19 "PageMonitorModel" "owners" "[I") (by decide +kernel)) (fun _ => rfl) dX6_stop_101 ?_
                refine lv_iload_n hx hb dX6_stop_104 rfl (lv_at hl 2 rfl) ?_
                refine r_ialdk hx hb hK hP 0 ma4 rfl dX6_stop_105 hf (fun x25 hf => ?_)
                refine lv_iload_n hx hb dX6_stop_106 rfl (lv_at hl 1 rfl) ?_
                refine r_icmp_eq (tgt := 114) hx hb dX6_stop_107 (by decide) hf (fun hf => ?_) (fun hf => ?_)
                · refine lv_iconst (v := (0 : Int32)) hx hb dX6_stop_114 (by decide) ?_
                  exact JK23 (0 : Int32) _ _ _ hP hS (lv_sub hl [0, 1, 2] rfl) hf
                · refine lv_iconst (v := (1 : Int32)) hx hb dX6_stop_110 (by decide) ?_
                  refine lv_goto (tgt := 115) hx hb dX6_stop_111 (by decide) ?_
                  exact JK23 (1 : Int32) _ _ _ hP hS (lv_sub hl [0, 1, 2] rfl) hf
        exact LF17 FU (0 : Int32) M14 _ _ _ hP hS (lv_sub hl [1, 2, 0] rfl) hf
      · refine lv_aload_n hx hb dX6_stop_66 rfl (lv_at hl 0 rfl) ?_
        refine r_getik (j := 19) hx hb hts inX6 hown hK hP (obX6) rfl (by decide) (hts (.fieldLink RX6 183 "PageMonitorModel" "least" "I") (by decide +kernel)) (fun _ => rfl) dX6_stop_67 hf (fun x26 hf => ?_)
        obtain rfl := Option.some.inj hf
        exact r_iret hx hb hr hlocks hP hS dX6_stop_70
    refine r_if_ne (tgt := 54) hx hb dX6_stop_37 (by decide) hf (fun hf => ?_) (fun hf => ?_)
    · refine lv_iconst (v := (0 : Int32)) hx hb dX6_stop_54 (by decide) ?_
      exact JK11 (0 : Int32) _ _ _ hP hS (lv_sub hl [0, 1] rfl) hf
    · refine lv_aload_n hx hb dX6_stop_40 rfl (lv_at hl 0 rfl) ?_
      refine r_getc (k' := 5) (j := 5) hx hb hts inX6 hown hK hP (obX6) rfl (by decide) (hts (.fieldLink RX6 22 "PageMonitorModel" "states" "[I") (by decide +kernel)) (fun _ => rfl) dX6_stop_41 ?_
      refine lv_iload_n hx hb dX6_stop_44 rfl (lv_at hl 1 rfl) ?_
      refine r_ialdk hx hb hK hP 0 ma5 rfl dX6_stop_45 hf (fun x27 hf => ?_)
      refine lv_iconst (v := (2 : Int32)) hx hb dX6_stop_46 (by decide) ?_
      refine r_icmp_ne (tgt := 54) hx hb dX6_stop_47 (by decide) hf (fun hf => ?_) (fun hf => ?_)
      · refine lv_iconst (v := (0 : Int32)) hx hb dX6_stop_54 (by decide) ?_
        exact JK11 (0 : Int32) _ _ _ hP hS (lv_sub hl [0, 1] rfl) hf
      · refine lv_iconst (v := (1 : Int32)) hx hb dX6_stop_50 (by decide) ?_
        refine lv_goto (tgt := 55) hx hb dX6_stop_51 (by decide) ?_
        exact JK11 (1 : Int32) _ _ _ hP hS (lv_sub hl [0, 1] rfl) hf
  refine r_if_ne (tgt := 27) hx hb dX6_stop_20 (by decide) hf (fun hf => ?_) (fun hf => ?_)
  · refine lv_iconst (v := (0 : Int32)) hx hb dX6_stop_27 (by decide) ?_
    exact JK6 (0 : Int32) _ _ _ hP hS (lv_sub hl [0, 1] rfl) hf
  · refine lv_iconst (v := (1 : Int32)) hx hb dX6_stop_23 (by decide) ?_
    refine lv_goto (tgt := 28) hx hb dX6_stop_24 (by decide) ?_
    exact JK6 (1 : Int32) _ _ _ hP hS (lv_sub hl [0, 1] rfl) hf
set_option maxHeartbeats 4000000 in
set_option maxRecDepth 100000 in
theorem c_X6_belonging {l : Launch} {D : va_G} {ad : Nat → Nat} {cI cZ cP cR : ClassId} {A : Nat → Prop} {M : Mem} {p0 : Int32} {res : (Int32 × Mem)} (hI : gInj 25 ad) (hA : ∀ k, k < 25 → A (ad k)) (hf : fX6_belonging M p0 = some res) : Met l yX6_belonging wsX6_belonging { frames := 0, cells := 0, slots := 0, locals := 0 } (va_Pc [.ref (ad 0), .int p0] (Pf D vwCl (tysW cI cZ cP cR) 25 ad (spM ad cI cZ) XM M)) (Qf D vwCl 25 ad (spM ad cI cZ) A (some (.int res.1)) res.2) 0 0 A := by
  refine Met.ofW (cc := cX6_belonging) (maxL := 4) (ret := (some .int)) (by decide) rfl ?_
  intro p e s m args below meth c s₁ B hml hv
  obtain ⟨rfl, hP, hK, hX⟩ := hv
  have hx := B.exec
  have hb := B.bytes
  have hr := B.returns
  have hts := atoms_spec (ws := wsX6_belonging) B.pre
  have hown : s.vm.findClass RX6 = some m.cls := findClass_of_methodNamed B.named
  have hlocks := B.notSynchronized
  have inX6 : ∀ w ∈ wsX60, w ∈ wsX6_belonging := by decide +kernel
  have hS : va_S A s.heap s.heap [] := va_S.rf
  have hl := lv_entry ([.ref (ad 0), .int p0]) (n := 4) (Nat.le_of_ble_eq_true rfl)
  rw [lg_entry_eq]
  generalize (lg_sl ([.ref (ad 0), .int p0]) ++ List.replicate (4 - (lg_sl ([.ref (ad 0), .int p0])).length) Slot.unset).toArray = ls at hl ⊢
  have hl : lv_has ls 4 [(0, .ref (ad 0)), (1, .int p0)] := hl
  rw [fX6_belonging] at hf
  refine lv_iconst (v := (0 : Int32)) hx hb dX6_belonging_0 (by decide) ?_
  refine lv_istore_n (lv' := [(2, .int (0 : Int32)), (0, .ref (ad 0)), (1, .int p0)]) hx hb dX6_belonging_1 rfl hl (by decide) rfl (fun ls hl => ?_)
  refine lv_iconst (v := (0 : Int32)) hx hb dX6_belonging_2 (by decide) ?_
  refine lv_istore_n (lv' := [(3, .int (0 : Int32)), (2, .int (0 : Int32)), (0, .ref (ad 0)), (1, .int p0)]) hx hb dX6_belonging_3 rfl hl (by decide) rfl (fun ls hl => ?_)
  refine r_jn hf (fun F4 eF4 hf => ?_)
  have EF4 : ∀ (x5 : Int32) (x6 : Int32) (M7 : Mem) (H : Heap) (locs : List Loc) (ls : Array Slot), va_P D vwCl (gw 25 ad (spM ad cI cZ) M7) H → va_S A s.heap H locs → lv_has ls 4 [(0, .ref (ad 0)), (1, .int p0), (2, .int x5), (3, .int x6)] → F4 x5 x6 M7 = some res → W p l e (headSpec wsX6_belonging { frames := 0, cells := 0, slots := 0, locals := 0 }).room s m (([.ref (ad 0), .int p0] : List Value).toArray) below meth c H locs 0 0 (MQ below (Qf D vwCl 25 ad (spM ad cI cZ) A (some (.int res.1)) res.2) (([.ref (ad 0), .int p0] : List Value).toArray) s 0 0 A) (F0 m 44 ls []) := by
    intro x5 x6 M7 H locs ls hP hS hl hf
    rw [eF4] at hf
    refine lv_iload_n hx hb dX6_belonging_44 rfl (lv_at hl 2 rfl) ?_
    obtain rfl := Option.some.inj hf
    exact r_iret hx hb hr hlocks hP hS dX6_belonging_45
  have LF4 : ∀ (n : Nat) (x1 : Int32) (x2 : Int32) (M3 : Mem) (H : Heap) (locs : List Loc) (ls : Array Slot), va_P D vwCl (gw 25 ad (spM ad cI cZ) M3) H → va_S A s.heap H locs → lv_has ls 4 [(0, .ref (ad 0)), (1, .int p0), (2, .int x1), (3, .int x2)] → lp_X6_belonging_4 p0 F4 n x1 x2 M3 = some res → W p l e (headSpec wsX6_belonging { frames := 0, cells := 0, slots := 0, locals := 0 }).room s m (([.ref (ad 0), .int p0] : List Value).toArray) below meth c H locs 0 0 (MQ below (Qf D vwCl 25 ad (spM ad cI cZ) A (some (.int res.1)) res.2) (([.ref (ad 0), .int p0] : List Value).toArray) s 0 0 A) (F0 m 4 ls []) := by
    intro n
    induction n with
    | zero =>
      intro x1 x2 M3 H locs ls hP hS hl hf
      exact absurd hf (fun h => nomatch h)
    | succ n ih =>
      intro x1 x2 M3 H locs ls hP hS hl hf
      rw [lp_X6_belonging_4_s] at hf
      refine lv_iload_n hx hb dX6_belonging_4 rfl (lv_at hl 3 rfl) ?_
      refine lv_bipush (v := (20 : Int32)) hx hb dX6_belonging_5 (by decide) ?_
      refine r_icmp_ge (tgt := 44) hx hb dX6_belonging_7 (by decide) hf (fun hf => ?_) (fun hf => ?_)
      · exact EF4 x1 x2 M3 _ _ _ hP hS (lv_sub hl [0, 1, 2, 3] rfl) hf
      · refine lv_aload_n hx hb dX6_belonging_10 rfl (lv_at hl 0 rfl) ?_
        refine r_getc (k' := 3) (j := 3) hx hb hts inX6 hown hK hP (obX6) rfl (by decide) (hts (.fieldLink RX6 16 "PageMonitorModel" "kinds" "[I") (by decide +kernel)) (fun _ => rfl) dX6_belonging_11 ?_
        refine lv_iload_n hx hb dX6_belonging_14 rfl (lv_at hl 3 rfl) ?_
        refine r_ialdk hx hb hK hP 0 ma3 rfl dX6_belonging_15 hf (fun x8 hf => ?_)
        refine lv_iconst (v := (1 : Int32)) hx hb dX6_belonging_16 (by decide) ?_
        refine r_jn hf (fun K11 eK11 hf => ?_)
        have JK11 : ∀ (x10 : Int32) (H : Heap) (locs : List Loc) (ls : Array Slot), va_P D vwCl (gw 25 ad (spM ad cI cZ) M3) H → va_S A s.heap H locs → lv_has ls 4 [(0, .ref (ad 0)), (1, .int p0), (2, .int x1), (3, .int x2)] → K11 x10 = some res → W p l e (headSpec wsX6_belonging { frames := 0, cells := 0, slots := 0, locals := 0 }).room s m (([.ref (ad 0), .int p0] : List Value).toArray) below meth c H locs 0 0 (MQ below (Qf D vwCl 25 ad (spM ad cI cZ) A (some (.int res.1)) res.2) (([.ref (ad 0), .int p0] : List Value).toArray) s 0 0 A) (F0 m 37 ls [.int x10]) := by
          intro x10 H locs ls hP hS hl hf
          rw [eK11] at hf
          refine lv_istore_n (lv' := [(2, .int x10), (0, .ref (ad 0)), (1, .int p0), (3, .int x2)]) hx hb dX6_belonging_37 rfl hl (by decide) rfl (fun ls hl => ?_)
          refine lv_iinc (v := x2 + (1 : Int32)) (lv' := [(3, .int (x2 + (1 : Int32))), (2, .int x10), (0, .ref (ad 0)), (1, .int p0)]) hx hb dX6_belonging_38 hl (k := 3) rfl rfl (by decide) rfl (fun ls hl => ?_)
          refine lv_goto (tgt := 4) hx hb dX6_belonging_41 (by decide) ?_
          exact ih x10 (x2 + (1 : Int32)) M3 _ _ _ hP hS (lv_sub hl [2, 3, 1, 0] rfl) hf
        refine r_icmp_le (tgt := 36) hx hb dX6_belonging_17 (by decide) hf (fun hf => ?_) (fun hf => ?_)
        · refine lv_iload_n hx hb dX6_belonging_36 rfl (lv_at hl 2 rfl) ?_
          exact JK11 x1 _ _ _ hP hS (lv_sub hl [0, 1, 2, 3] rfl) hf
        · refine lv_aload_n hx hb dX6_belonging_20 rfl (lv_at hl 0 rfl) ?_
          refine r_getc (k' := 4) (j := 4) hx hb hts inX6 hown hK hP (obX6) rfl (by decide) (hts (.fieldLink RX6 19 "PageMonitorModel" "owners" "[I") (by decide +kernel)) (fun _ => rfl) dX6_belonging_21 ?_
          refine lv_iload_n hx hb dX6_belonging_24 rfl (lv_at hl 3 rfl) ?_
          refine r_ialdk hx hb hK hP 0 ma4 rfl dX6_belonging_25 hf (fun x12 hf => ?_)
          refine lv_iload_n hx hb dX6_belonging_26 rfl (lv_at hl 1 rfl) ?_
          refine r_icmp_ne (tgt := 36) hx hb dX6_belonging_27 (by decide) hf (fun hf => ?_) (fun hf => ?_)
          · refine lv_iload_n hx hb dX6_belonging_36 rfl (lv_at hl 2 rfl) ?_
            exact JK11 x1 _ _ _ hP hS (lv_sub hl [0, 1, 2, 3] rfl) hf
          · refine lv_iload_n hx hb dX6_belonging_30 rfl (lv_at hl 2 rfl) ?_
            refine lv_iconst (v := (1 : Int32)) hx hb dX6_belonging_31 (by decide) ?_
            refine lv_iadd hx hb dX6_belonging_32 ?_
            refine lv_goto (tgt := 37) hx hb dX6_belonging_33 (by decide) ?_
            exact JK11 (x1 + (1 : Int32)) _ _ _ hP hS (lv_sub hl [0, 1, 2, 3] rfl) hf
  exact LF4 FU (0 : Int32) (0 : Int32) M _ _ _ hP hS (lv_sub hl [2, 3, 1, 0] rfl) hf
set_option maxHeartbeats 4000000 in
set_option maxRecDepth 100000 in
theorem c_X6_remove {l : Launch} {D : va_G} {ad : Nat → Nat} {cI cZ cP cR : ClassId} {A : Nat → Prop} {M : Mem} {p0 : Int32} {res : (Int32 × Mem)} (hI : gInj 25 ad) (hA : ∀ k, k < 25 → A (ad k)) (hf : fX6_remove M p0 = some res) : Met l yX6_remove wsX6_remove { frames := 2, cells := 0, slots := 0, locals := 42 } (va_Pc [.ref (ad 0), .int p0] (Pf D vwCl (tysW cI cZ cP cR) 25 ad (spM ad cI cZ) XM M)) (Qf D vwCl 25 ad (spM ad cI cZ) A (some (.int res.1)) res.2) 0 0 A := by
  refine Met.ofW (cc := cX6_remove) (maxL := 3) (ret := (some .int)) (by decide) rfl ?_
  intro p e s m args below meth c s₁ B hml hv
  obtain ⟨rfl, hP, hK, hX⟩ := hv
  have hx := B.exec
  have hb := B.bytes
  have hr := B.returns
  have hts := atoms_spec (ws := wsX6_remove) B.pre
  have hown : s.vm.findClass RX6 = some m.cls := findClass_of_methodNamed B.named
  have hlocks := B.notSynchronized
  have inX6 : ∀ w ∈ wsX60, w ∈ wsX6_remove := by decide +kernel
  have hS : va_S A s.heap s.heap [] := va_S.rf
  have hl := lv_entry ([.ref (ad 0), .int p0]) (n := 3) (Nat.le_of_ble_eq_true rfl)
  rw [lg_entry_eq]
  generalize (lg_sl ([.ref (ad 0), .int p0]) ++ List.replicate (3 - (lg_sl ([.ref (ad 0), .int p0])).length) Slot.unset).toArray = ls at hl ⊢
  have hl : lv_has ls 3 [(0, .ref (ad 0)), (1, .int p0)] := hl
  rw [fX6_remove] at hf
  refine lv_aload_n hx hb dX6_remove_0 rfl (lv_at hl 0 rfl) ?_
  obtain ⟨q1, hq1, hf⟩ := ob hf
  refine r_callv (va_runV (As := []) (rest := []) ⟨hx, hb, hml, hown, hts⟩ (c_X6_begin hI hA hq1) (cwV 0 hts gX6_remove_X6_begin rfl rfl rfl (by decide +kernel) ⟨Nat.le_of_ble_eq_true rfl, Nat.le_of_ble_eq_true rfl⟩) (Pf_V XMb (XMo A) hX hK hP hS obX6 rfl) rfl rfl hl.1 rfl (lv_room (Nat.le_of_ble_eq_true rfl)) dX6_remove_1 ⟨Nat.zero_le _, Nat.zero_le _⟩) hS (fun H locs hP hS => ?_)
  refine lv_aload_n hx hb dX6_remove_4 rfl (lv_at hl 0 rfl) ?_
  refine lv_iload_n hx hb dX6_remove_5 rfl (lv_at hl 1 rfl) ?_
  obtain ⟨q2, hq2, hf⟩ := ob hf
  refine r_call1 (va_runS (As := [.int p0]) (rest := [.ref (ad 0)]) ⟨hx, hb, hml, hown, hts⟩ (c_X6_noPage hI hA hq2) (va_cwS 1 hts gX6_remove_X6_noPage rfl rfl rfl (by decide +kernel) ⟨Nat.le_of_ble_eq_true rfl, Nat.le_of_ble_eq_true rfl⟩) (Pf_S XMb (XMo A) hX hK hP hS) rfl rfl hl.1 rfl (lv_room (Nat.le_of_ble_eq_true rfl)) dX6_remove_6 ⟨Nat.zero_le _, Nat.zero_le _⟩) hS (fun H locs hP hS => ?_)
  refine lv_iconst (v := (1 : Int32)) hx hb dX6_remove_9 (by decide) ?_
  obtain ⟨q3, hq3, hf⟩ := ob hf
  refine r_callv (va_runV (As := [.int q2.1, .int (1 : Int32)]) (rest := []) ⟨hx, hb, hml, hown, hts⟩ (c_X6_wrong hI hA hq3) (cwV 2 hts gX6_remove_X6_wrong rfl rfl rfl (by decide +kernel) ⟨Nat.le_of_ble_eq_true rfl, Nat.le_of_ble_eq_true rfl⟩) (Pf_V XMb (XMo A) hX hK hP hS obX6 rfl) rfl rfl hl.1 rfl (lv_room (Nat.le_of_ble_eq_true rfl)) dX6_remove_10 ⟨Nat.zero_le _, Nat.zero_le _⟩) hS (fun H locs hP hS => ?_)
  refine lv_aload_n hx hb dX6_remove_13 rfl (lv_at hl 0 rfl) ?_
  refine lv_aload_n hx hb dX6_remove_14 rfl (lv_at hl 0 rfl) ?_
  refine lv_iload_n hx hb dX6_remove_15 rfl (lv_at hl 1 rfl) ?_
  refine lv_iconst (v := (0 : Int32)) hx hb dX6_remove_16 (by decide) ?_
  obtain ⟨q4, hq4, hf⟩ := ob hf
  refine r_call1 (va_runV (As := [.int p0, .int (0 : Int32)]) (rest := [.ref (ad 0)]) ⟨hx, hb, hml, hown, hts⟩ (c_X6_isKind hI hA hq4) (cwV 2 hts gX6_remove_X6_isKind rfl rfl rfl (by decide +kernel) ⟨Nat.le_of_ble_eq_true rfl, Nat.le_of_ble_eq_true rfl⟩) (Pf_V XMb (XMo A) hX hK hP hS obX6 rfl) rfl rfl hl.1 rfl (lv_room (Nat.le_of_ble_eq_true rfl)) dX6_remove_17 ⟨Nat.zero_le _, Nat.zero_le _⟩) hS (fun H locs hP hS => ?_)
  refine lv_iconst (v := (3 : Int32)) hx hb dX6_remove_20 (by decide) ?_
  obtain ⟨q5, hq5, hf⟩ := ob hf
  refine r_callv (va_runV (As := [.int q4.1, .int (3 : Int32)]) (rest := []) ⟨hx, hb, hml, hown, hts⟩ (c_X6_wrong hI hA hq5) (cwV 2 hts gX6_remove_X6_wrong rfl rfl rfl (by decide +kernel) ⟨Nat.le_of_ble_eq_true rfl, Nat.le_of_ble_eq_true rfl⟩) (Pf_V XMb (XMo A) hX hK hP hS obX6 rfl) rfl rfl hl.1 rfl (lv_room (Nat.le_of_ble_eq_true rfl)) dX6_remove_21 ⟨Nat.zero_le _, Nat.zero_le _⟩) hS (fun H locs hP hS => ?_)
  refine lv_aload_n hx hb dX6_remove_24 rfl (lv_at hl 0 rfl) ?_
  refine r_getik (j := 19) hx hb hts inX6 hown hK hP (obX6) rfl (by decide) (hts (.fieldLink RX6 183 "PageMonitorModel" "least" "I") (by decide +kernel)) (fun _ => rfl) dX6_remove_25 hf (fun x6 hf => ?_)
  refine r_if_le (tgt := 36) hx hb dX6_remove_28 (by decide) hf (fun hf => ?_) (fun hf => ?_)
  · refine lv_aload_n hx hb dX6_remove_36 rfl (lv_at hl 0 rfl) ?_
    refine r_getc (k' := 3) (j := 3) hx hb hts inX6 hown hK hP (obX6) rfl (by decide) (hts (.fieldLink RX6 16 "PageMonitorModel" "kinds" "[I") (by decide +kernel)) (fun _ => rfl) dX6_remove_37 ?_
    refine lv_iload_n hx hb dX6_remove_40 rfl (lv_at hl 1 rfl) ?_
    refine r_ialdk hx hb hK hP 0 ma3 rfl dX6_remove_41 hf (fun x7 hf => ?_)
    refine lv_iconst (v := (1 : Int32)) hx hb dX6_remove_42 (by decide) ?_
    refine r_jn hf (fun K10 eK10 hf => ?_)
    have JK10 : ∀ (x9 : Int32) (H : Heap) (locs : List Loc) (ls : Array Slot), va_P D vwCl (gw 25 ad (spM ad cI cZ) q5) H → va_S A s.heap H locs → lv_has ls 3 [(0, .ref (ad 0)), (1, .int p0)] → K10 x9 = some res → W p l e (headSpec wsX6_remove { frames := 2, cells := 0, slots := 0, locals := 42 }).room s m (([.ref (ad 0), .int p0] : List Value).toArray) below meth c H locs 0 0 (MQ below (Qf D vwCl 25 ad (spM ad cI cZ) A (some (.int res.1)) res.2) (([.ref (ad 0), .int p0] : List Value).toArray) s 0 0 A) (F0 m 56 ls [.int x9]) := by
      intro x9 H locs ls hP hS hl hf
      rw [eK10] at hf
      refine lv_istore_n (lv' := [(2, .int x9), (0, .ref (ad 0)), (1, .int p0)]) hx hb dX6_remove_56 rfl hl (by decide) rfl (fun ls hl => ?_)
      refine lv_aload_n hx hb dX6_remove_57 rfl (lv_at hl 1 rfl) ?_
      refine lv_aload_n hx hb dX6_remove_58 rfl (lv_at hl 1 rfl) ?_
      refine r_getc (k' := 3) (j := 3) hx hb hts inX6 hown hK hP (obX6) rfl (by decide) (hts (.fieldLink RX6 16 "PageMonitorModel" "kinds" "[I") (by decide +kernel)) (fun _ => rfl) dX6_remove_59 ?_
      refine lv_iload_n hx hb dX6_remove_62 rfl (lv_at hl 2 rfl) ?_
      refine r_ialdk hx hb hK hP 0 ma3 rfl dX6_remove_63 hf (fun x11 hf => ?_)
      refine lv_iconst (v := (5 : Int32)) hx hb dX6_remove_64 (by decide) ?_
      refine r_jn hf (fun K14 eK14 hf => ?_)
      have JK14 : ∀ (x13 : Int32) (H : Heap) (locs : List Loc) (ls : Array Slot), va_P D vwCl (gw 25 ad (spM ad cI cZ) q5) H → va_S A s.heap H locs → lv_has ls 3 [(0, .ref (ad 0)), (1, .int p0), (2, .int x9)] → K14 x13 = some res → W p l e (headSpec wsX6_remove { frames := 2, cells := 0, slots := 0, locals := 42 }).room s m (([.ref (ad 0), .int p0] : List Value).toArray) below meth c H locs 0 0 (MQ below (Qf D vwCl 25 ad (spM ad cI cZ) A (some (.int res.1)) res.2) (([.ref (ad 0), .int p0] : List Value).toArray) s 0 0 A) (F0 m 83 ls [.int x13, .ref (ad 0)]) := by
        intro x13 H locs ls hP hS hl hf
        rw [eK14] at hf
        refine lv_iconst (v := (4 : Int32)) hx hb dX6_remove_83 (by decide) ?_
        obtain ⟨q15, hq15, hf⟩ := ob hf
        refine r_callv (va_runV (As := [.int x13, .int (4 : Int32)]) (rest := []) ⟨hx, hb, hml, hown, hts⟩ (c_X6_wrong hI hA hq15) (cwV 2 hts gX6_remove_X6_wrong rfl rfl rfl (by decide +kernel) ⟨Nat.le_of_ble_eq_true rfl, Nat.le_of_ble_eq_true rfl⟩) (Pf_V XMb (XMo A) hX hK hP hS obX6 rfl) rfl rfl hl.1 rfl (lv_room (Nat.le_of_ble_eq_true rfl)) dX6_remove_84 ⟨Nat.zero_le _, Nat.zero_le _⟩) hS (fun H locs hP hS => ?_)
        refine lv_aload_n hx hb dX6_remove_87 rfl (lv_at hl 0 rfl) ?_
        refine lv_aload_n hx hb dX6_remove_88 rfl (lv_at hl 0 rfl) ?_
        refine r_getc (k' := 3) (j := 3) hx hb hts inX6 hown hK hP (obX6) rfl (by decide) (hts (.fieldLink RX6 16 "PageMonitorModel" "kinds" "[I") (by decide +kernel)) (fun _ => rfl) dX6_remove_89 ?_
        refine lv_iload_n hx hb dX6_remove_92 rfl (lv_at hl 1 rfl) ?_
        refine r_ialdk hx hb hK hP 0 ma3 rfl dX6_remove_93 hf (fun x16 hf => ?_)
        refine lv_iconst (v := (1 : Int32)) hx hb dX6_remove_94 (by decide) ?_
        refine r_jn hf (fun K20 eK20 hf => ?_)
        have JK20 : ∀ (x18 : Int32) (M19 : Mem) (H : Heap) (locs : List Loc) (ls : Array Slot), va_P D vwCl (gw 25 ad (spM ad cI cZ) M19) H → va_S A s.heap H locs → lv_has ls 3 [(0, .ref (ad 0)), (1, .int p0), (2, .int x9)] → K20 x18 M19 = some res → W p l e (headSpec wsX6_remove { frames := 2, cells := 0, slots := 0, locals := 42 }).room s m (([.ref (ad 0), .int p0] : List Value).toArray) below meth c H locs 0 0 (MQ below (Qf D vwCl 25 ad (spM ad cI cZ) A (some (.int res.1)) res.2) (([.ref (ad 0), .int p0] : List Value).toArray) s 0 0 A) (F0 m 111 ls [.int x18, .ref (ad 0)]) := by
          intro x18 M19 H locs ls hP hS hl hf
          rw [eK20] at hf
          refine lv_bipush (v := (7 : Int32)) hx hb dX6_remove_111 (by decide) ?_
          obtain ⟨q21, hq21, hf⟩ := ob hf
          refine r_callv (va_runV (As := [.int x18, .int (7 : Int32)]) (rest := []) ⟨hx, hb, hml, hown, hts⟩ (c_X6_wrong hI hA hq21) (cwV 2 hts gX6_remove_X6_wrong rfl rfl rfl (by decide +kernel) ⟨Nat.le_of_ble_eq_true rfl, Nat.le_of_ble_eq_true rfl⟩) (Pf_V XMb (XMo A) hX hK hP hS obX6 rfl) rfl rfl hl.1 rfl (lv_room (Nat.le_of_ble_eq_true rfl)) dX6_remove_113 ⟨Nat.zero_le _, Nat.zero_le _⟩) hS (fun H locs hP hS => ?_)
          refine lv_aload_n hx hb dX6_remove_116 rfl (lv_at hl 0 rfl) ?_
          refine r_getik (j := 19) hx hb hts inX6 hown hK hP (obX6) rfl (by decide) (hts (.fieldLink RX6 183 "PageMonitorModel" "least" "I") (by decide +kernel)) (fun _ => rfl) dX6_remove_117 hf (fun x22 hf => ?_)
          refine r_jn hf (fun K26 eK26 hf => ?_)
          have JK26 : ∀ (M25 : Mem) (H : Heap) (locs : List Loc) (ls : Array Slot), va_P D vwCl (gw 25 ad (spM ad cI cZ) M25) H → va_S A s.heap H locs → lv_has ls 3 [(0, .ref (ad 0)), (1, .int p0), (2, .int x9)] → K26 M25 = some res → W p l e (headSpec wsX6_remove { frames := 2, cells := 0, slots := 0, locals := 42 }).room s m (([.ref (ad 0), .int p0] : List Value).toArray) below meth c H locs 0 0 (MQ below (Qf D vwCl 25 ad (spM ad cI cZ) A (some (.int res.1)) res.2) (([.ref (ad 0), .int p0] : List Value).toArray) s 0 0 A) (F0 m 137 ls []) := by
            intro M25 H locs ls hP hS hl hf
            rw [eK26] at hf
            refine lv_aload_n hx hb dX6_remove_137 rfl (lv_at hl 0 rfl) ?_
            refine r_getik (j := 19) hx hb hts inX6 hown hK hP (obX6) rfl (by decide) (hts (.fieldLink RX6 183 "PageMonitorModel" "least" "I") (by decide +kernel)) (fun _ => rfl) dX6_remove_138 hf (fun x27 hf => ?_)
            obtain rfl := Option.some.inj hf
            exact r_iret hx hb hr hlocks hP hS dX6_remove_141
          refine r_if_ne (tgt := 137) hx hb dX6_remove_120 (by decide) hf (fun hf => ?_) (fun hf => ?_)
          · exact JK26 q21 _ _ _ hP hS (lv_sub hl [0, 1, 2] rfl) hf
          · refine lv_aload_n hx hb dX6_remove_123 rfl (lv_at hl 0 rfl) ?_
            refine lv_iload_n hx hb dX6_remove_124 rfl (lv_at hl 1 rfl) ?_
            refine lv_iconst (v := (0 : Int32)) hx hb dX6_remove_125 (by decide) ?_
            refine lv_iconst (v := (-1 : Int32)) hx hb dX6_remove_126 (by decide) ?_
            obtain ⟨q28, hq28, hf⟩ := ob hf
            refine r_callv (va_runV (As := [.int p0, .int (0 : Int32), .int (-1 : Int32)]) (rest := []) ⟨hx, hb, hml, hown, hts⟩ (c_X6_become hI hA hq28) (cwV 3 hts gX6_remove_X6_become rfl rfl rfl (by decide +kernel) ⟨Nat.le_of_ble_eq_true rfl, Nat.le_of_ble_eq_true rfl⟩) (Pf_V XMb (XMo A) hX hK hP hS obX6 rfl) rfl rfl hl.1 rfl (lv_room (Nat.le_of_ble_eq_true rfl)) dX6_remove_127 ⟨Nat.zero_le _, Nat.zero_le _⟩) hS (fun H locs hP hS => ?_)
            refine lv_aload_n hx hb dX6_remove_130 rfl (lv_at hl 0 rfl) ?_
            refine r_getc (k' := 15) (j := 15) hx hb hts inX6 hown hK hP (obX6) rfl (by decide) (hts (.fieldLink RX6 53 "PageMonitorModel" "entered" "[Z") (by decide +kernel)) (fun _ => rfl) dX6_remove_131 ?_
            refine lv_iload_n hx hb dX6_remove_134 rfl (lv_at hl 1 rfl) ?_
            refine lv_iconst (v := (0 : Int32)) hx hb dX6_remove_135 (by decide) ?_
            refine r_zastk hx hb hI hA hK hP hS 1 ma15 rfl dX6_remove_136 hf (fun M29 H locs hP hS hf => ?_)
            exact JK26 M29 _ _ _ hP hS (lv_sub hl [0, 1, 2] rfl) hf
        refine r_icmp_ne (tgt := 110) hx hb dX6_remove_95 (by decide) hf (fun hf => ?_) (fun hf => ?_)
        · refine lv_iconst (v := (0 : Int32)) hx hb dX6_remove_110 (by decide) ?_
          exact JK20 (0 : Int32) q15 _ _ _ hP hS (lv_sub hl [0, 1, 2] rfl) hf
        · refine lv_aload_n hx hb dX6_remove_98 rfl (lv_at hl 0 rfl) ?_
          refine lv_iload_n hx hb dX6_remove_99 rfl (lv_at hl 1 rfl) ?_
          obtain ⟨q30, hq30, hf⟩ := ob hf
          refine r_call1 (va_runV (As := [.int p0]) (rest := [.ref (ad 0)]) ⟨hx, hb, hml, hown, hts⟩ (c_X6_belonging hI hA hq30) (cwV 1 hts gX6_remove_X6_belonging rfl rfl rfl (by decide +kernel) ⟨Nat.le_of_ble_eq_true rfl, Nat.le_of_ble_eq_true rfl⟩) (Pf_V XMb (XMo A) hX hK hP hS obX6 rfl) rfl rfl hl.1 rfl (lv_room (Nat.le_of_ble_eq_true rfl)) dX6_remove_100 ⟨Nat.zero_le _, Nat.zero_le _⟩) hS (fun H locs hP hS => ?_)
          refine r_if_le (tgt := 110) hx hb dX6_remove_103 (by decide) hf (fun hf => ?_) (fun hf => ?_)
          · refine lv_iconst (v := (0 : Int32)) hx hb dX6_remove_110 (by decide) ?_
            exact JK20 (0 : Int32) q30.2 _ _ _ hP hS (lv_sub hl [0, 1, 2] rfl) hf
          · refine lv_iconst (v := (1 : Int32)) hx hb dX6_remove_106 (by decide) ?_
            refine lv_goto (tgt := 111) hx hb dX6_remove_107 (by decide) ?_
            exact JK20 (1 : Int32) q30.2 _ _ _ hP hS (lv_sub hl [0, 1, 2] rfl) hf
      refine r_icmp_eq (tgt := 82) hx hb dX6_remove_65 (by decide) hf (fun hf => ?_) (fun hf => ?_)
      · refine lv_iconst (v := (0 : Int32)) hx hb dX6_remove_82 (by decide) ?_
        exact JK14 (0 : Int32) _ _ _ hP hS (lv_sub hl [1, 2, 0] rfl) hf
      · refine lv_aload_n hx hb dX6_remove_68 rfl (lv_at hl 1 rfl) ?_
        refine r_getc (k' := 5) (j := 5) hx hb hts inX6 hown hK hP (obX6) rfl (by decide) (hts (.fieldLink RX6 22 "PageMonitorModel" "states" "[I") (by decide +kernel)) (fun _ => rfl) dX6_remove_69 ?_
        refine lv_iload_n hx hb dX6_remove_72 rfl (lv_at hl 0 rfl) ?_
        refine r_ialdk hx hb hK hP 0 ma5 rfl dX6_remove_73 hf (fun x31 hf => ?_)
        refine lv_iconst (v := (2 : Int32)) hx hb dX6_remove_74 (by decide) ?_
        refine r_icmp_eq (tgt := 82) hx hb dX6_remove_75 (by decide) hf (fun hf => ?_) (fun hf => ?_)
        · refine lv_iconst (v := (0 : Int32)) hx hb dX6_remove_82 (by decide) ?_
          exact JK14 (0 : Int32) _ _ _ hP hS (lv_sub hl [1, 2, 0] rfl) hf
        · refine lv_iconst (v := (1 : Int32)) hx hb dX6_remove_78 (by decide) ?_
          refine lv_goto (tgt := 83) hx hb dX6_remove_79 (by decide) ?_
          exact JK14 (1 : Int32) _ _ _ hP hS (lv_sub hl [1, 2, 0] rfl) hf
    refine r_icmp_ne (tgt := 50) hx hb dX6_remove_43 (by decide) hf (fun hf => ?_) (fun hf => ?_)
    · refine lv_aload_n hx hb dX6_remove_50 rfl (lv_at hl 0 rfl) ?_
      refine r_getc (k' := 4) (j := 4) hx hb hts inX6 hown hK hP (obX6) rfl (by decide) (hts (.fieldLink RX6 19 "PageMonitorModel" "owners" "[I") (by decide +kernel)) (fun _ => rfl) dX6_remove_51 ?_
      refine lv_iload_n hx hb dX6_remove_54 rfl (lv_at hl 1 rfl) ?_
      refine r_ialdk hx hb hK hP 0 ma4 rfl dX6_remove_55 hf (fun x32 hf => ?_)
      exact JK10 x32 _ _ _ hP hS (lv_sub hl [0, 1] rfl) hf
    · refine lv_iload_n hx hb dX6_remove_46 rfl (lv_at hl 1 rfl) ?_
      refine lv_goto (tgt := 56) hx hb dX6_remove_47 (by decide) ?_
      exact JK10 p0 _ _ _ hP hS (lv_sub hl [0, 1] rfl) hf
  · refine lv_aload_n hx hb dX6_remove_31 rfl (lv_at hl 0 rfl) ?_
    refine r_getik (j := 19) hx hb hts inX6 hown hK hP (obX6) rfl (by decide) (hts (.fieldLink RX6 183 "PageMonitorModel" "least" "I") (by decide +kernel)) (fun _ => rfl) dX6_remove_32 hf (fun x33 hf => ?_)
    obtain rfl := Option.some.inj hf
    exact r_iret hx hb hr hlocks hP hS dX6_remove_35
