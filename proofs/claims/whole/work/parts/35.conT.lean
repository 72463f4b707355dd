set_option maxHeartbeats 4000000 in
set_option maxRecDepth 100000 in
theorem c_X5_key {l : Launch} {D : va_G} {ad : Nat → Nat} {cI cZ cP cR : ClassId} {A : Nat → Prop} {M : Mem} {p0 : Int32} {p1 : Int32} {res : ((Nat × Int32) × Mem)} (hI : gInj 143 ad) (hA : ∀ k, k < 143 → A (ad k)) (hnt : l.stackTraces = false) (hf : fX5_key M p0 p1 = some res) : vx_Met l yX5_key wsX5_key { frames := 6, cells := 1, slots := 6, locals := 81 } (va_Pc [.ref (ad 0), .int p0, .int p1] (Pf D vwCl (tysW cI cZ cP cR) 143 ad (spC ad cI cP cR) (XT A) M)) (Qt D vwCl 143 ad (spC ad cI cP cR) A true res) (Xx D vwCl 143 ad (spC ad cI cP cR) A exA res) 1 6 A := by
  refine vx_ofW (cc := cX5_key) (maxL := 4) (ret := none) (by decide) rfl ?_
  intro p e s m args below meth c s₁ B hml hno hv
  obtain ⟨rfl, hP, hK, hX⟩ := hv
  have hx := B.exec
  have hb := B.bytes
  have hr := B.returns
  have hts := atoms_spec (ws := wsX5_key) B.pre
  have hown : s.vm.findClass RX5 = some m.cls := findClass_of_methodNamed B.named
  have hlocks := B.notSynchronized
  have inX1 : ∀ w ∈ wsX10, w ∈ wsX5_key := by decide +kernel
  have inX2 : ∀ w ∈ wsX20, w ∈ wsX5_key := by decide +kernel
  have inX5 : ∀ w ∈ wsX50, w ∈ wsX5_key := by decide +kernel
  have hS : va_S A s.heap s.heap [] := va_S.rf
  have hl := lv_entry ([.ref (ad 0), .int p0, .int p1]) (n := 4) (Nat.le_of_ble_eq_true rfl)
  rw [lg_entry_eq]
  generalize (lg_sl ([.ref (ad 0), .int p0, .int p1]) ++ List.replicate (4 - (lg_sl ([.ref (ad 0), .int p0, .int p1])).length) Slot.unset).toArray = ls at hl ⊢
  have hl : lv_has ls 4 [(0, .ref (ad 0)), (1, .int p0), (2, .int p1)] := hl
  rw [fX5_key] at hf
  refine lv_iload_n hx hb dX5_key_0 rfl (lv_at hl 1 rfl) ?_
  refine r_if_lt (tgt := 10) hx hb dX5_key_1 (by decide) hf (fun hf => ?_) (fun hf => ?_)
  · obtain rfl := Option.some.inj hf
    exact r_thr (E := exA) (own := RX5) (ik := 26) (ic := 28) hx hb hnt hts hown (by decide +kernel) (by decide +kernel) (by decide +kernel) (by decide +kernel) (by decide +kernel) (by decide +kernel) (by decide +kernel) (by decide +kernel) hX hP hS (hl.1.trans hml.symm) hno dX5_key_10 dX5_key_13 dX5_key_14 dX5_key_17 (Nat.le_of_ble_eq_true rfl) (Nat.le_of_ble_eq_true rfl) (Nat.le_of_ble_eq_true rfl) (Nat.le_of_ble_eq_true rfl) hlocks
  · refine lv_iload_n hx hb dX5_key_4 rfl (lv_at hl 1 rfl) ?_
    refine lv_bipush (v := (8 : Int32)) hx hb dX5_key_5 (by decide) ?_
    refine r_icmp_lt (tgt := 18) hx hb dX5_key_7 (by decide) hf (fun hf => ?_) (fun hf => ?_)
    · refine lv_aload_n hx hb dX5_key_18 rfl (lv_at hl 0 rfl) ?_
      refine r_getc (k' := 133) (j := 2) hx hb hts inX5 hown hK hP (obX5) rfl (by decide) (hts (.fieldLink RX5 25 "PageMonitor" "notary" "LPageMonitor$Notary;") (by decide +kernel)) (fun _ => rfl) dX5_key_19 ?_
      refine r_getc (k' := 134) (j := 0) hx hb hts inX2 hown hK hP (obX2) rfl (by decide) (hts (.fieldLink RX5 29 "PageMonitor$Notary" "secret" "[I") (by decide +kernel)) (fun _ => rfl) dX5_key_22 ?_
      refine lv_iload_n hx hb dX5_key_25 rfl (lv_at hl 1 rfl) ?_
      refine lv_iload_n hx hb dX5_key_26 rfl (lv_at hl 2 rfl) ?_
      refine r_iastk hx hb hI hA hK hP hS 0 ca134 rfl dX5_key_27 hf (fun M1 H locs hP hS hf => ?_)
      refine lv_iconst (v := (0 : Int32)) hx hb dX5_key_28 (by decide) ?_
      refine lv_istore_n (lv' := [(3, .int (0 : Int32)), (0, .ref (ad 0)), (1, .int p0), (2, .int p1)]) hx hb dX5_key_29 rfl hl (by decide) rfl (fun ls hl => ?_)
      refine r_jn hf (fun F4 eF4 hf => ?_)
      have EF4 : ∀ (x5 : Int32) (M6 : Mem) (H : Heap) (locs : List Loc) (ls : Array Slot), va_P D vwCl (gw 143 ad (spC ad cI cP cR) M6) H → va_S A s.heap H locs → lv_has ls 4 [(0, .ref (ad 0)), (1, .int p0), (2, .int p1), (3, .int x5)] → F4 x5 M6 = some res → W p l e (headSpec wsX5_key { frames := 6, cells := 1, slots := 6, locals := 81 }).room s m (([.ref (ad 0), .int p0, .int p1] : List Value).toArray) below meth c H locs 0 0 (vx_MQ below (Qt D vwCl 143 ad (spC ad cI cP cR) A true res) (Xx D vwCl 143 ad (spC ad cI cP cR) A exA res) (([.ref (ad 0), .int p0, .int p1] : List Value).toArray) s 1 6 A) (F0 m 53 ls []) := by
        intro x5 M6 H locs ls hP hS hl hf
        rw [eF4] at hf
        refine lv_aload_n hx hb dX5_key_53 rfl (lv_at hl 0 rfl) ?_
        refine r_getc (k' := 1) (j := 0) hx hb hts inX5 hown hK hP (obX5) rfl (by decide) (hts (.fieldLink RX5 10 "PageMonitor" "machine" "LPageMonitor$Machine;") (by decide +kernel)) (fun _ => rfl) dX5_key_54 ?_
        refine lv_iconst (v := (0 : Int32)) hx hb dX5_key_57 (by decide) ?_
        refine r_putik (j := 2) hx hb hts inX1 tyX1 tyX1_ok nmX1 hown hI hA hK hP hS (obX1) rfl (by decide) (hts (.fieldLink RX5 41 "PageMonitor$Machine" "lastResult" "I") (by decide +kernel)) rfl rfl rfl (fun _ => Nat.le_of_ble_eq_true rfl) (fun _ _ => rfl) dX5_key_58 hf (fun M7 H locs hP hS hf => ?_)
        obtain rfl := Option.some.inj hf
        exact r_vtret hx hb hr hlocks hP hS dX5_key_61
      have LF4 : ∀ (n : Nat) (x2 : Int32) (M3 : Mem) (H : Heap) (locs : List Loc) (ls : Array Slot), va_P D vwCl (gw 143 ad (spC ad cI cP cR) M3) H → va_S A s.heap H locs → lv_has ls 4 [(0, .ref (ad 0)), (1, .int p0), (2, .int p1), (3, .int x2)] → lp_X5_key_30 F4 n x2 M3 = some res → W p l e (headSpec wsX5_key { frames := 6, cells := 1, slots := 6, locals := 81 }).room s m (([.ref (ad 0), .int p0, .int p1] : List Value).toArray) below meth c H locs 0 0 (vx_MQ below (Qt D vwCl 143 ad (spC ad cI cP cR) A true res) (Xx D vwCl 143 ad (spC ad cI cP cR) A exA res) (([.ref (ad 0), .int p0, .int p1] : List Value).toArray) s 1 6 A) (F0 m 30 ls []) := by
        intro n
        induction n with
        | zero =>
          intro x2 M3 H locs ls hP hS hl hf
          exact absurd hf (fun h => nomatch h)
        | succ n ih =>
          intro x2 M3 H locs ls hP hS hl hf
          rw [lp_X5_key_30_s] at hf
          refine lv_iload_n hx hb dX5_key_30 rfl (lv_at hl 3 rfl) ?_
          refine lv_bipush (v := (20 : Int32)) hx hb dX5_key_31 (by decide) ?_
          refine r_icmp_ge (tgt := 53) hx hb dX5_key_33 (by decide) hf (fun hf => ?_) (fun hf => ?_)
          · exact EF4 x2 M3 _ _ _ hP hS (lv_sub hl [0, 1, 2, 3] rfl) hf
          · refine lv_aload_n hx hb dX5_key_36 rfl (lv_at hl 0 rfl) ?_
            refine r_getc (k' := 2) (j := 1) hx hb hts inX5 hown hK hP (obX5) rfl (by decide) (hts (.fieldLink RX5 20 "PageMonitor" "store" "LPageMonitor$Store;") (by decide +kernel)) (fun _ => rfl) dX5_key_37 ?_
            refine lv_iload_n hx hb dX5_key_40 rfl (lv_at hl 3 rfl) ?_
            refine lv_iconst (v := (0 : Int32)) hx hb dX5_key_41 (by decide) ?_
            refine lv_iconst (v := (-1 : Int32)) hx hb dX5_key_42 (by decide) ?_
            obtain ⟨q8, hq8, hf⟩ := ob hf
            refine r_call1 (va_runV (As := [.int x2, .int (0 : Int32), .int (-1 : Int32)]) (rest := []) ⟨hx, hb, hml, hown, hts⟩ (c_X4_claim hI hA hq8) (cwV 3 hts gX5_key_X4_claim rfl rfl rfl (by decide +kernel) ⟨Nat.le_of_ble_eq_true rfl, Nat.le_of_ble_eq_true rfl⟩) (Pf_V (XCb A) (XCo A) hX.1 hK hP hS obX4 rfl) rfl rfl hl.1 rfl (lv_room (Nat.le_of_ble_eq_true rfl)) dX5_key_43 ⟨Nat.zero_le _, Nat.zero_le _⟩) hS (fun H locs hP hS => ?_)
            refine lv_pop hx hb dX5_key_46 rfl ?_
            refine lv_iinc (v := x2 + (1 : Int32)) (lv' := [(3, .int (x2 + (1 : Int32))), (0, .ref (ad 0)), (1, .int p0), (2, .int p1)]) hx hb dX5_key_47 hl (k := 3) rfl rfl (by decide) rfl (fun ls hl => ?_)
            refine lv_goto (tgt := 30) hx hb dX5_key_50 (by decide) ?_
            exact ih (x2 + (1 : Int32)) q8.2 _ _ _ hP hS (lv_sub hl [1, 2, 3, 0] rfl) hf
      exact LF4 FU (0 : Int32) M1 _ _ _ hP hS (lv_sub hl [1, 2, 3, 0] rfl) hf
    · obtain rfl := Option.some.inj hf
      exact r_thr (E := exA) (own := RX5) (ik := 26) (ic := 28) hx hb hnt hts hown (by decide +kernel) (by decide +kernel) (by decide +kernel) (by decide +kernel) (by decide +kernel) (by decide +kernel) (by decide +kernel) (by decide +kernel) hX hP hS (hl.1.trans hml.symm) hno dX5_key_10 dX5_key_13 dX5_key_14 dX5_key_17 (Nat.le_of_ble_eq_true rfl) (Nat.le_of_ble_eq_true rfl) (Nat.le_of_ble_eq_true rfl) (Nat.le_of_ble_eq_true rfl) hlocks
set_option maxHeartbeats 4000000 in
set_option maxRecDepth 100000 in
theorem c_X5_poke {l : Launch} {D : va_G} {ad : Nat → Nat} {cI cZ cP cR : ClassId} {A : Nat → Prop} {M : Mem} {p0 : Int32} {p1 : Int32} {p2 : Int32} {res : ((Nat × Int32) × Mem)} (hI : gInj 143 ad) (hA : ∀ k, k < 143 → A (ad k)) (hnt : l.stackTraces = false) (hf : fX5_poke M p0 p1 p2 = some res) : vx_Met l yX5_poke wsX5_poke { frames := 6, cells := 1, slots := 6, locals := 81 } (va_Pc [.ref (ad 0), .int p0, .int p1, .int p2] (Pf D vwCl (tysW cI cZ cP cR) 143 ad (spC ad cI cP cR) (XT A) M)) (Qt D vwCl 143 ad (spC ad cI cP cR) A false res) (Xx D vwCl 143 ad (spC ad cI cP cR) A exA res) 1 6 A := by
  refine vx_ofW (cc := cX5_poke) (maxL := 6) (ret := (some .int)) (by decide) rfl ?_
  intro p e s m args below meth c s₁ B hml hno hv
  obtain ⟨rfl, hP, hK, hX⟩ := hv
  have hx := B.exec
  have hb := B.bytes
  have hr := B.returns
  have hts := atoms_spec (ws := wsX5_poke) B.pre
  have hown : s.vm.findClass RX5 = some m.cls := findClass_of_methodNamed B.named
  have hlocks := B.notSynchronized
  have inX5 : ∀ w ∈ wsX50, w ∈ wsX5_poke := by decide +kernel
  have hS : va_S A s.heap s.heap [] := va_S.rf
  have hl := lv_entry ([.ref (ad 0), .int p0, .int p1, .int p2]) (n := 6) (Nat.le_of_ble_eq_true rfl)
  rw [lg_entry_eq]
  generalize (lg_sl ([.ref (ad 0), .int p0, .int p1, .int p2]) ++ List.replicate (6 - (lg_sl ([.ref (ad 0), .int p0, .int p1, .int p2])).length) Slot.unset).toArray = ls at hl ⊢
  have hl : lv_has ls 6 [(0, .ref (ad 0)), (1, .int p0), (2, .int p1), (3, .int p2)] := hl
  rw [fX5_poke] at hf
  refine lv_iload_n hx hb dX5_poke_0 rfl (lv_at hl 1 rfl) ?_
  obtain ⟨q1, hq1, hf⟩ := ob hf
  refine r_call1 (va_runS (As := [.int p0]) (rest := []) ⟨hx, hb, hml, hown, hts⟩ (c_X5_isFrame hI hA hq1) (va_cwS 1 hts gX5_poke_X5_isFrame rfl rfl rfl (by decide +kernel) ⟨Nat.le_of_ble_eq_true rfl, Nat.le_of_ble_eq_true rfl⟩) (Pf_S (XCb A) (XCo A) hX.1 hK hP hS) rfl rfl hl.1 rfl (lv_room (Nat.le_of_ble_eq_true rfl)) dX5_poke_1 ⟨Nat.zero_le _, Nat.zero_le _⟩) hS (fun H locs hP hS => ?_)
  refine r_if_eq (tgt := 14) hx hb dX5_poke_4 (by decide) hf (fun hf => ?_) (fun hf => ?_)
  · obtain rfl := Option.some.inj hf
    exact r_thr (E := exA) (own := RX5) (ik := 26) (ic := 28) hx hb hnt hts hown (by decide +kernel) (by decide +kernel) (by decide +kernel) (by decide +kernel) (by decide +kernel) (by decide +kernel) (by decide +kernel) (by decide +kernel) hX hP hS (hl.1.trans hml.symm) hno dX5_poke_14 dX5_poke_17 dX5_poke_18 dX5_poke_21 (Nat.le_of_ble_eq_true rfl) (Nat.le_of_ble_eq_true rfl) (Nat.le_of_ble_eq_true rfl) (Nat.le_of_ble_eq_true rfl) hlocks
  · refine lv_iload_n hx hb dX5_poke_7 rfl (lv_at hl 2 rfl) ?_
    obtain ⟨q2, hq2, hf⟩ := ob hf
    refine r_call1 (va_runS (As := [.int p1]) (rest := []) ⟨hx, hb, hml, hown, hts⟩ (c_X5_isWord hI hA hq2) (va_cwS 1 hts gX5_poke_X5_isWord rfl rfl rfl (by decide +kernel) ⟨Nat.le_of_ble_eq_true rfl, Nat.le_of_ble_eq_true rfl⟩) (Pf_S (XCb A) (XCo A) hX.1 hK hP hS) rfl rfl hl.1 rfl (lv_room (Nat.le_of_ble_eq_true rfl)) dX5_poke_8 ⟨Nat.zero_le _, Nat.zero_le _⟩) hS (fun H locs hP hS => ?_)
    refine r_if_ne (tgt := 22) hx hb dX5_poke_11 (by decide) hf (fun hf => ?_) (fun hf => ?_)
    · refine lv_aload_n hx hb dX5_poke_22 rfl (lv_at hl 0 rfl) ?_
      refine r_getc (k' := 2) (j := 1) hx hb hts inX5 hown hK hP (obX5) rfl (by decide) (hts (.fieldLink RX5 20 "PageMonitor" "store" "LPageMonitor$Store;") (by decide +kernel)) (fun _ => rfl) dX5_poke_23 ?_
      refine lv_iload_n hx hb dX5_poke_26 rfl (lv_at hl 1 rfl) ?_
      obtain ⟨q3, hq3, hf⟩ := ob hf
      refine r_call1 (va_runV (As := [.int p0]) (rest := []) ⟨hx, hb, hml, hown, hts⟩ (c_X4_frameRow hI hA hq3) (cwV 1 hts gX5_poke_X4_frameRow rfl rfl rfl (by decide +kernel) ⟨Nat.le_of_ble_eq_true rfl, Nat.le_of_ble_eq_true rfl⟩) (Pf_V (XCb A) (XCo A) hX.1 hK hP hS obX4 rfl) rfl rfl hl.1 rfl (lv_room (Nat.le_of_ble_eq_true rfl)) dX5_poke_27 ⟨Nat.zero_le _, Nat.zero_le _⟩) hS (fun H locs hP hS => ?_)
      refine lv_astore (lv' := [(4, .ref (ad (q3.1))), (0, .ref (ad 0)), (1, .int p0), (2, .int p1), (3, .int p2)]) hx hb dX5_poke_30 hl (by decide) rfl (fun ls hl => ?_)
      refine lv_aload hx hb dX5_poke_32 (lv_at hl 0 rfl) ?_
      refine lv_iload_n hx hb dX5_poke_34 rfl (lv_at hl 3 rfl) ?_
      refine r_iald hx hb hK hP 0 isI_s rfl dX5_poke_35 hf (fun x4 hf => ?_)
      refine lv_istore (lv' := [(5, .int x4), (4, .ref (ad (q3.1))), (0, .ref (ad 0)), (1, .int p0), (2, .int p1), (3, .int p2)]) hx hb dX5_poke_36 hl (by decide) rfl (fun ls hl => ?_)
      refine lv_aload hx hb dX5_poke_38 (lv_at hl 1 rfl) ?_
      refine lv_iload_n hx hb dX5_poke_40 rfl (lv_at hl 4 rfl) ?_
      refine lv_iload_n hx hb dX5_poke_41 rfl (lv_at hl 5 rfl) ?_
      refine r_iast hx hb hI hA hK hP hS 0 isI_s rfl dX5_poke_42 hf (fun M5 H locs hP hS hf => ?_)
      refine lv_iload hx hb dX5_poke_43 (lv_at hl 0 rfl) ?_
      obtain rfl := Option.some.inj hf
      exact r_itret hx hb hr hlocks hP hS dX5_poke_45
    · obtain rfl := Option.some.inj hf
      exact r_thr (E := exA) (own := RX5) (ik := 26) (ic := 28) hx hb hnt hts hown (by decide +kernel) (by decide +kernel) (by decide +kernel) (by decide +kernel) (by decide +kernel) (by decide +kernel) (by decide +kernel) (by decide +kernel) hX hP hS (hl.1.trans hml.symm) hno dX5_poke_14 dX5_poke_17 dX5_poke_18 dX5_poke_21 (Nat.le_of_ble_eq_true rfl) (Nat.le_of_ble_eq_true rfl) (Nat.le_of_ble_eq_true rfl) (Nat.le_of_ble_eq_true rfl) hlocks
set_option maxHeartbeats 4000000 in
set_option maxRecDepth 100000 in
theorem c_X5_peek {l : Launch} {D : va_G} {ad : Nat → Nat} {cI cZ cP cR : ClassId} {A : Nat → Prop} {M : Mem} {p0 : Int32} {p1 : Int32} {res : ((Nat × Int32) × Mem)} (hI : gInj 143 ad) (hA : ∀ k, k < 143 → A (ad k)) (hnt : l.stackTraces = false) (hf : fX5_peek M p0 p1 = some res) : vx_Met l yX5_peek wsX5_peek { frames := 6, cells := 1, slots := 6, locals := 81 } (va_Pc [.ref (ad 0), .int p0, .int p1] (Pf D vwCl (tysW cI cZ cP cR) 143 ad (spC ad cI cP cR) (XT A) M)) (Qt D vwCl 143 ad (spC ad cI cP cR) A false res) (Xx D vwCl 143 ad (spC ad cI cP cR) A exA res) 1 6 A := by
  refine vx_ofW (cc := cX5_peek) (maxL := 3) (ret := (some .int)) (by decide) rfl ?_
  intro p e s m args below meth c s₁ B hml hno hv
  obtain ⟨rfl, hP, hK, hX⟩ := hv
  have hx := B.exec
  have hb := B.bytes
  have hr := B.returns
  have hts := atoms_spec (ws := wsX5_peek) B.pre
  have hown : s.vm.findClass RX5 = some m.cls := findClass_of_methodNamed B.named
  have hlocks := B.notSynchronized
  have inX5 : ∀ w ∈ wsX50, w ∈ wsX5_peek := by decide +kernel
  have hS : va_S A s.heap s.heap [] := va_S.rf
  have hl := lv_entry ([.ref (ad 0), .int p0, .int p1]) (n := 3) (Nat.le_of_ble_eq_true rfl)
  rw [lg_entry_eq]
  generalize (lg_sl ([.ref (ad 0), .int p0, .int p1]) ++ List.replicate (3 - (lg_sl ([.ref (ad 0), .int p0, .int p1])).length) Slot.unset).toArray = ls at hl ⊢
  have hl : lv_has ls 3 [(0, .ref (ad 0)), (1, .int p0), (2, .int p1)] := hl
  rw [fX5_peek] at hf
  refine lv_iload_n hx hb dX5_peek_0 rfl (lv_at hl 1 rfl) ?_
  obtain ⟨q1, hq1, hf⟩ := ob hf
  refine r_call1 (va_runS (As := [.int p0]) (rest := []) ⟨hx, hb, hml, hown, hts⟩ (c_X5_isFrame hI hA hq1) (va_cwS 1 hts gX5_peek_X5_isFrame rfl rfl rfl (by decide +kernel) ⟨Nat.le_of_ble_eq_true rfl, Nat.le_of_ble_eq_true rfl⟩) (Pf_S (XCb A) (XCo A) hX.1 hK hP hS) rfl rfl hl.1 rfl (lv_room (Nat.le_of_ble_eq_true rfl)) dX5_peek_1 ⟨Nat.zero_le _, Nat.zero_le _⟩) hS (fun H locs hP hS => ?_)
  refine r_if_eq (tgt := 14) hx hb dX5_peek_4 (by decide) hf (fun hf => ?_) (fun hf => ?_)
  · obtain rfl := Option.some.inj hf
    exact r_thr (E := exA) (own := RX5) (ik := 26) (ic := 28) hx hb hnt hts hown (by decide +kernel) (by decide +kernel) (by decide +kernel) (by decide +kernel) (by decide +kernel) (by decide +kernel) (by decide +kernel) (by decide +kernel) hX hP hS (hl.1.trans hml.symm) hno dX5_peek_14 dX5_peek_17 dX5_peek_18 dX5_peek_21 (Nat.le_of_ble_eq_true rfl) (Nat.le_of_ble_eq_true rfl) (Nat.le_of_ble_eq_true rfl) (Nat.le_of_ble_eq_true rfl) hlocks
  · refine lv_iload_n hx hb dX5_peek_7 rfl (lv_at hl 2 rfl) ?_
    obtain ⟨q2, hq2, hf⟩ := ob hf
    refine r_call1 (va_runS (As := [.int p1]) (rest := []) ⟨hx, hb, hml, hown, hts⟩ (c_X5_isWord hI hA hq2) (va_cwS 1 hts gX5_peek_X5_isWord rfl rfl rfl (by decide +kernel) ⟨Nat.le_of_ble_eq_true rfl, Nat.le_of_ble_eq_true rfl⟩) (Pf_S (XCb A) (XCo A) hX.1 hK hP hS) rfl rfl hl.1 rfl (lv_room (Nat.le_of_ble_eq_true rfl)) dX5_peek_8 ⟨Nat.zero_le _, Nat.zero_le _⟩) hS (fun H locs hP hS => ?_)
    refine r_if_ne (tgt := 22) hx hb dX5_peek_11 (by decide) hf (fun hf => ?_) (fun hf => ?_)
    · refine lv_aload_n hx hb dX5_peek_22 rfl (lv_at hl 0 rfl) ?_
      refine r_getc (k' := 2) (j := 1) hx hb hts inX5 hown hK hP (obX5) rfl (by decide) (hts (.fieldLink RX5 20 "PageMonitor" "store" "LPageMonitor$Store;") (by decide +kernel)) (fun _ => rfl) dX5_peek_23 ?_
      refine lv_iload_n hx hb dX5_peek_26 rfl (lv_at hl 1 rfl) ?_
      obtain ⟨q3, hq3, hf⟩ := ob hf
      refine r_call1 (va_runV (As := [.int p0]) (rest := []) ⟨hx, hb, hml, hown, hts⟩ (c_X4_frameRow hI hA hq3) (cwV 1 hts gX5_peek_X4_frameRow rfl rfl rfl (by decide +kernel) ⟨Nat.le_of_ble_eq_true rfl, Nat.le_of_ble_eq_true rfl⟩) (Pf_V (XCb A) (XCo A) hX.1 hK hP hS obX4 rfl) rfl rfl hl.1 rfl (lv_room (Nat.le_of_ble_eq_true rfl)) dX5_peek_27 ⟨Nat.zero_le _, Nat.zero_le _⟩) hS (fun H locs hP hS => ?_)
      refine lv_iload_n hx hb dX5_peek_30 rfl (lv_at hl 2 rfl) ?_
      refine r_iald hx hb hK hP 0 isI_s rfl dX5_peek_31 hf (fun x4 hf => ?_)
      obtain rfl := Option.some.inj hf
      exact r_itret hx hb hr hlocks hP hS dX5_peek_32
    · obtain rfl := Option.some.inj hf
      exact r_thr (E := exA) (own := RX5) (ik := 26) (ic := 28) hx hb hnt hts hown (by decide +kernel) (by decide +kernel) (by decide +kernel) (by decide +kernel) (by decide +kernel) (by decide +kernel) (by decide +kernel) (by decide +kernel) hX hP hS (hl.1.trans hml.symm) hno dX5_peek_14 dX5_peek_17 dX5_peek_18 dX5_peek_21 (Nat.le_of_ble_eq_true rfl) (Nat.le_of_ble_eq_true rfl) (Nat.le_of_ble_eq_true rfl) (Nat.le_of_ble_eq_true rfl) hlocks
set_option maxHeartbeats 4000000 in
set_option maxRecDepth 100000 in
theorem c_X5_told {l : Launch} {D : va_G} {ad : Nat → Nat} {cI cZ cP cR : ClassId} {A : Nat → Prop} {M : Mem} {p0 : Int32} {p1 : Int32} {res : ((Nat × Int32) × Mem)} (hI : gInj 143 ad) (hA : ∀ k, k < 143 → A (ad k)) (hnt : l.stackTraces = false) (hf : fX5_told M p0 p1 = some res) : vx_Met l yX5_told wsX5_told { frames := 6, cells := 1, slots := 6, locals := 81 } (va_Pc [.ref (ad 0), .int p0, .int p1] (Pf D vwCl (tysW cI cZ cP cR) 143 ad (spC ad cI cP cR) (XT A) M)) (Qt D vwCl 143 ad (spC ad cI cP cR) A false res) (Xx D vwCl 143 ad (spC ad cI cP cR) A exB res) 1 6 A := by
  refine vx_ofW (cc := cX5_told) (maxL := 4) (ret := (some .int)) (by decide) rfl ?_
  intro p e s m args below meth c s₁ B hml hno hv
  obtain ⟨rfl, hP, hK, hX⟩ := hv
  have hx := B.exec
  have hb := B.bytes
  have hr := B.returns
  have hts := atoms_spec (ws := wsX5_told) B.pre
  have hown : s.vm.findClass RX5 = some m.cls := findClass_of_methodNamed B.named
  have hlocks := B.notSynchronized
  have inX3 : ∀ w ∈ wsX30, w ∈ wsX5_told := by decide +kernel
  have inX4 : ∀ w ∈ wsX40, w ∈ wsX5_told := by decide +kernel
  have inX5 : ∀ w ∈ wsX50, w ∈ wsX5_told := by decide +kernel
  have hS : va_S A s.heap s.heap [] := va_S.rf
  have hl := lv_entry ([.ref (ad 0), .int p0, .int p1]) (n := 4) (Nat.le_of_ble_eq_true rfl)
  rw [lg_entry_eq]
  generalize (lg_sl ([.ref (ad 0), .int p0, .int p1]) ++ List.replicate (4 - (lg_sl ([.ref (ad 0), .int p0, .int p1])).length) Slot.unset).toArray = ls at hl ⊢
  have hl : lv_has ls 4 [(0, .ref (ad 0)), (1, .int p0), (2, .int p1)] := hl
  rw [fX5_told] at hf
  refine lv_iload_n hx hb dX5_told_0 rfl (lv_at hl 1 rfl) ?_
  obtain ⟨q1, hq1, hf⟩ := ob hf
  refine r_call1 (va_runS (As := [.int p0]) (rest := []) ⟨hx, hb, hml, hown, hts⟩ (c_X5_isPage hI hA hq1) (va_cwS 1 hts gX5_told_X5_isPage rfl rfl rfl (by decide +kernel) ⟨Nat.le_of_ble_eq_true rfl, Nat.le_of_ble_eq_true rfl⟩) (Pf_S (XCb A) (XCo A) hX.1 hK hP hS) rfl rfl hl.1 rfl (lv_room (Nat.le_of_ble_eq_true rfl)) dX5_told_1 ⟨Nat.zero_le _, Nat.zero_le _⟩) hS (fun H locs hP hS => ?_)
  refine r_if_ne (tgt := 15) hx hb dX5_told_4 (by decide) hf (fun hf => ?_) (fun hf => ?_)
  · refine lv_aload_n hx hb dX5_told_15 rfl (lv_at hl 0 rfl) ?_
    refine r_getc (k' := 2) (j := 1) hx hb hts inX5 hown hK hP (obX5) rfl (by decide) (hts (.fieldLink RX5 20 "PageMonitor" "store" "LPageMonitor$Store;") (by decide +kernel)) (fun _ => rfl) dX5_told_16 ?_
    refine r_getc (k' := 3) (j := 0) hx hb hts inX4 hown hK hP (obX4) rfl (by decide) (hts (.fieldLink RX5 59 "PageMonitor$Store" "pages" "[LPageMonitor$Page;") (by decide +kernel)) (fun _ => rfl) dX5_told_19 ?_
    refine lv_iload_n hx hb dX5_told_22 rfl (lv_at hl 1 rfl) ?_
    refine r_aald hx hb hK hP 2 ra3 rfl rfl dX5_told_23 hf (fun k2 hf => ?_)
    refine lv_astore_n (lv' := [(3, .ref (ad k2)), (0, .ref (ad 0)), (1, .int p0), (2, .int p1)]) hx hb dX5_told_24 rfl hl (by decide) rfl (fun ls hl => ?_)
    refine lv_iload_n hx hb dX5_told_25 rfl (lv_at hl 3 rfl) ?_
    refine r_top (g := .int) hf (fun x3 hf => ?_)
    rcases Decidable.em (x3 = (0 : Int32)) with e0 | e0
    · rw [if_pos e0] at hf
      subst e0
      refine lv_tableIn (off := 30) (tgt := 56) hx hb dX5_told_26 (by decide) (by decide) (by decide) (by decide) ?_
      refine lv_aload_n hx hb dX5_told_56 rfl (lv_at hl 0 rfl) ?_
      refine r_geti (j := 0) hx hb hts inX3 hown hK hP isPg_s rfl (by decide) (hts (.fieldLink RX5 63 "PageMonitor$Page" "kind" "I") (by decide +kernel)) (fun _ => rfl) dX5_told_57 hf (fun x4 hf => ?_)
      obtain rfl := Option.some.inj hf
      exact r_itret hx hb hr hlocks hP hS dX5_told_60
    rw [if_neg e0] at hf
    rcases Decidable.em (x3 = (1 : Int32)) with e1 | e1
    · rw [if_pos e1] at hf
      subst e1
      refine lv_tableIn (off := 35) (tgt := 61) hx hb dX5_told_26 (by decide) (by decide) (by decide) (by decide) ?_
      refine lv_aload_n hx hb dX5_told_61 rfl (lv_at hl 0 rfl) ?_
      refine r_geti (j := 1) hx hb hts inX3 hown hK hP isPg_s rfl (by decide) (hts (.fieldLink RX5 136 "PageMonitor$Page" "owner" "I") (by decide +kernel)) (fun _ => rfl) dX5_told_62 hf (fun x5 hf => ?_)
      obtain rfl := Option.some.inj hf
      exact r_itret hx hb hr hlocks hP hS dX5_told_65
    rw [if_neg e1] at hf
    rcases Decidable.em (x3 = (2 : Int32)) with e2 | e2
    · rw [if_pos e2] at hf
      subst e2
      refine lv_tableIn (off := 40) (tgt := 66) hx hb dX5_told_26 (by decide) (by decide) (by decide) (by decide) ?_
      refine lv_aload_n hx hb dX5_told_66 rfl (lv_at hl 0 rfl) ?_
      obtain ⟨q6, hq6, hf⟩ := ob hf
      refine r_call1 (va_runS (As := [.ref (ad k2)]) (rest := []) ⟨hx, hb, hml, hown, hts⟩ (c_X5_stateOf hI hA hq6) (va_cwS 1 hts gX5_told_X5_stateOf rfl rfl rfl (by decide +kernel) ⟨Nat.le_of_ble_eq_true rfl, Nat.le_of_ble_eq_true rfl⟩) (Pf_S (XCb A) (XCo A) hX.1 hK hP hS) rfl rfl hl.1 rfl (lv_room (Nat.le_of_ble_eq_true rfl)) dX5_told_67 ⟨Nat.zero_le _, Nat.zero_le _⟩) hS (fun H locs hP hS => ?_)
      obtain rfl := Option.some.inj hf
      exact r_itret hx hb hr hlocks hP hS dX5_told_70
    rw [if_neg e2] at hf
    rcases Decidable.em (x3 = (3 : Int32)) with e3 | e3
    · rw [if_pos e3] at hf
      subst e3
      refine lv_tableIn (off := 45) (tgt := 71) hx hb dX5_told_26 (by decide) (by decide) (by decide) (by decide) ?_
      refine lv_aload_n hx hb dX5_told_71 rfl (lv_at hl 0 rfl) ?_
      refine r_geti (j := 0) hx hb hts inX3 hown hK hP isPg_s rfl (by decide) (hts (.fieldLink RX5 63 "PageMonitor$Page" "kind" "I") (by decide +kernel)) (fun _ => rfl) dX5_told_72 hf (fun x7 hf => ?_)
      refine lv_iconst (v := (1 : Int32)) hx hb dX5_told_75 (by decide) ?_
      refine r_jn hf (fun K11 eK11 hf => ?_)
      have JK11 : ∀ (x9 : Int32) (M10 : Mem) (H : Heap) (locs : List Loc) (ls : Array Slot), va_P D vwCl (gw 143 ad (spC ad cI cP cR) M10) H → va_S A s.heap H locs → lv_has ls 4 [(0, .ref (ad 0)), (1, .int p0), (2, .int p1), (3, .ref (ad k2))] → K11 x9 M10 = some res → W p l e (headSpec wsX5_told { frames := 6, cells := 1, slots := 6, locals := 81 }).room s m (([.ref (ad 0), .int p0, .int p1] : List Value).toArray) below meth c H locs 0 0 (vx_MQ below (Qt D vwCl 143 ad (spC ad cI cP cR) A false res) (Xx D vwCl 143 ad (spC ad cI cP cR) A exB res) (([.ref (ad 0), .int p0, .int p1] : List Value).toArray) s 1 6 A) (F0 m 91 ls [.int x9]) := by
        intro x9 M10 H locs ls hP hS hl hf
        rw [eK11] at hf
        obtain rfl := Option.some.inj hf
        exact r_itret hx hb hr hlocks hP hS dX5_told_91
      refine r_icmp_ne (tgt := 90) hx hb dX5_told_76 (by decide) hf (fun hf => ?_) (fun hf => ?_)
      · refine lv_iconst (v := (0 : Int32)) hx hb dX5_told_90 (by decide) ?_
        exact JK11 (0 : Int32) q1.2 _ _ _ hP hS (lv_sub hl [1, 2, 3, 0] rfl) hf
      · refine lv_aload_n hx hb dX5_told_79 rfl (lv_at hl 1 rfl) ?_
        refine r_getc (k' := 2) (j := 1) hx hb hts inX5 hown hK hP (obX5) rfl (by decide) (hts (.fieldLink RX5 20 "PageMonitor" "store" "LPageMonitor$Store;") (by decide +kernel)) (fun _ => rfl) dX5_told_80 ?_
        refine lv_iload_n hx hb dX5_told_83 rfl (lv_at hl 2 rfl) ?_
        obtain ⟨q12, hq12, hf⟩ := ob hf
        refine r_call1 (va_runV (As := [.int p0]) (rest := []) ⟨hx, hb, hml, hown, hts⟩ (c_X4_countOwnedBy hI hA hq12) (cwV 1 hts gX5_told_X4_countOwnedBy rfl rfl rfl (by decide +kernel) ⟨Nat.le_of_ble_eq_true rfl, Nat.le_of_ble_eq_true rfl⟩) (Pf_V (XCb A) (XCo A) hX.1 hK hP hS obX4 rfl) rfl rfl hl.1 rfl (lv_room (Nat.le_of_ble_eq_true rfl)) dX5_told_84 ⟨Nat.zero_le _, Nat.zero_le _⟩) hS (fun H locs hP hS => ?_)
        refine lv_goto (tgt := 91) hx hb dX5_told_87 (by decide) ?_
        exact JK11 q12.1 q12.2 _ _ _ hP hS (lv_sub hl [1, 2, 3, 0] rfl) hf
    rw [if_neg e3] at hf
    refine lv_tableOut (tgt := 92) hx hb dX5_told_26 (tsw_out 3 (by intro j hj; match j, hj with | 0, _ => exact e0 | 1, _ => exact e1 | 2, _ => exact e2 | 3, _ => exact e3 | (_ + 4), h => exact absurd h (by omega))) (by decide) ?_
    obtain rfl := Option.some.inj hf
    exact r_thr (E := exB) (own := RX5) (ik := 168) (ic := 170) hx hb hnt hts hown (by decide +kernel) (by decide +kernel) (by decide +kernel) (by decide +kernel) (by decide +kernel) (by decide +kernel) (by decide +kernel) (by decide +kernel) hX hP hS (hl.1.trans hml.symm) hno dX5_told_92 dX5_told_95 dX5_told_96 dX5_told_99 (Nat.le_of_ble_eq_true rfl) (Nat.le_of_ble_eq_true rfl) (Nat.le_of_ble_eq_true rfl) (Nat.le_of_ble_eq_true rfl) hlocks
  · obtain rfl := Option.some.inj hf
    exact r_thr (E := exA) (own := RX5) (ik := 26) (ic := 28) hx hb hnt hts hown (by decide +kernel) (by decide +kernel) (by decide +kernel) (by decide +kernel) (by decide +kernel) (by decide +kernel) (by decide +kernel) (by decide +kernel) hX hP hS (hl.1.trans hml.symm) hno dX5_told_7 dX5_told_10 dX5_told_11 dX5_told_14 (Nat.le_of_ble_eq_true rfl) (Nat.le_of_ble_eq_true rfl) (Nat.le_of_ble_eq_true rfl) (Nat.le_of_ble_eq_true rfl) hlocks
set_option maxHeartbeats 4000000 in
set_option maxRecDepth 100000 in
theorem c_X5_measure {l : Launch} {D : va_G} {ad : Nat → Nat} {cI cZ cP cR : ClassId} {A : Nat → Prop} {M : Mem} {p0 : Int32} {p1 : Int32} {res : ((Nat × Int32) × Mem)} (hI : gInj 143 ad) (hA : ∀ k, k < 143 → A (ad k)) (hnt : l.stackTraces = false) (hf : fX5_measure M p0 p1 = some res) : vx_Met l yX5_measure wsX5_measure { frames := 6, cells := 1, slots := 6, locals := 81 } (va_Pc [.ref (ad 0), .int p0, .int p1] (Pf D vwCl (tysW cI cZ cP cR) 143 ad (spC ad cI cP cR) (XT A) M)) (Qt D vwCl 143 ad (spC ad cI cP cR) A false res) (Xx D vwCl 143 ad (spC ad cI cP cR) A exC res) 1 6 A := by
  refine vx_ofW (cc := cX5_measure) (maxL := 4) (ret := (some .int)) (by decide) rfl ?_
  intro p e s m args below meth c s₁ B hml hno hv
  obtain ⟨rfl, hP, hK, hX⟩ := hv
  have hx := B.exec
  have hb := B.bytes
  have hr := B.returns
  have hts := atoms_spec (ws := wsX5_measure) B.pre
  have hown : s.vm.findClass RX5 = some m.cls := findClass_of_methodNamed B.named
  have hlocks := B.notSynchronized
  have inX3 : ∀ w ∈ wsX30, w ∈ wsX5_measure := by decide +kernel
  have inX4 : ∀ w ∈ wsX40, w ∈ wsX5_measure := by decide +kernel
  have inX5 : ∀ w ∈ wsX50, w ∈ wsX5_measure := by decide +kernel
  have hS : va_S A s.heap s.heap [] := va_S.rf
  have hl := lv_entry ([.ref (ad 0), .int p0, .int p1]) (n := 4) (Nat.le_of_ble_eq_true rfl)
  rw [lg_entry_eq]
  generalize (lg_sl ([.ref (ad 0), .int p0, .int p1]) ++ List.replicate (4 - (lg_sl ([.ref (ad 0), .int p0, .int p1])).length) Slot.unset).toArray = ls at hl ⊢
  have hl : lv_has ls 4 [(0, .ref (ad 0)), (1, .int p0), (2, .int p1)] := hl
  rw [fX5_measure] at hf
  refine lv_iload_n hx hb dX5_measure_0 rfl (lv_at hl 1 rfl) ?_
  obtain ⟨q1, hq1, hf⟩ := ob hf
  refine r_call1 (va_runS (As := [.int p0]) (rest := []) ⟨hx, hb, hml, hown, hts⟩ (c_X5_isPage hI hA hq1) (va_cwS 1 hts gX5_measure_X5_isPage rfl rfl rfl (by decide +kernel) ⟨Nat.le_of_ble_eq_true rfl, Nat.le_of_ble_eq_true rfl⟩) (Pf_S (XCb A) (XCo A) hX.1 hK hP hS) rfl rfl hl.1 rfl (lv_room (Nat.le_of_ble_eq_true rfl)) dX5_measure_1 ⟨Nat.zero_le _, Nat.zero_le _⟩) hS (fun H locs hP hS => ?_)
  refine r_if_eq (tgt := 17) hx hb dX5_measure_4 (by decide) hf (fun hf => ?_) (fun hf => ?_)
  · obtain rfl := Option.some.inj hf
    exact r_thr (E := exA) (own := RX5) (ik := 26) (ic := 28) hx hb hnt hts hown (by decide +kernel) (by decide +kernel) (by decide +kernel) (by decide +kernel) (by decide +kernel) (by decide +kernel) (by decide +kernel) (by decide +kernel) hX hP hS (hl.1.trans hml.symm) hno dX5_measure_17 dX5_measure_20 dX5_measure_21 dX5_measure_24 (Nat.le_of_ble_eq_true rfl) (Nat.le_of_ble_eq_true rfl) (Nat.le_of_ble_eq_true rfl) (Nat.le_of_ble_eq_true rfl) hlocks
  · refine lv_iload_n hx hb dX5_measure_7 rfl (lv_at hl 2 rfl) ?_
    refine r_if_lt (tgt := 17) hx hb dX5_measure_8 (by decide) hf (fun hf => ?_) (fun hf => ?_)
    · obtain rfl := Option.some.inj hf
      exact r_thr (E := exA) (own := RX5) (ik := 26) (ic := 28) hx hb hnt hts hown (by decide +kernel) (by decide +kernel) (by decide +kernel) (by decide +kernel) (by decide +kernel) (by decide +kernel) (by decide +kernel) (by decide +kernel) hX hP hS (hl.1.trans hml.symm) hno dX5_measure_17 dX5_measure_20 dX5_measure_21 dX5_measure_24 (Nat.le_of_ble_eq_true rfl) (Nat.le_of_ble_eq_true rfl) (Nat.le_of_ble_eq_true rfl) (Nat.le_of_ble_eq_true rfl) hlocks
    · refine lv_iload_n hx hb dX5_measure_11 rfl (lv_at hl 2 rfl) ?_
      refine lv_bipush (v := (8 : Int32)) hx hb dX5_measure_12 (by decide) ?_
      refine r_icmp_lt (tgt := 25) hx hb dX5_measure_14 (by decide) hf (fun hf => ?_) (fun hf => ?_)
      · refine lv_aload_n hx hb dX5_measure_25 rfl (lv_at hl 0 rfl) ?_
        refine r_getc (k' := 2) (j := 1) hx hb hts inX5 hown hK hP (obX5) rfl (by decide) (hts (.fieldLink RX5 20 "PageMonitor" "store" "LPageMonitor$Store;") (by decide +kernel)) (fun _ => rfl) dX5_measure_26 ?_
        refine r_getc (k' := 3) (j := 0) hx hb hts inX4 hown hK hP (obX4) rfl (by decide) (hts (.fieldLink RX5 59 "PageMonitor$Store" "pages" "[LPageMonitor$Page;") (by decide +kernel)) (fun _ => rfl) dX5_measure_29 ?_
        refine lv_iload_n hx hb dX5_measure_32 rfl (lv_at hl 1 rfl) ?_
        refine r_aald hx hb hK hP 2 ra3 rfl rfl dX5_measure_33 hf (fun k2 hf => ?_)
        refine lv_astore_n (lv' := [(3, .ref (ad k2)), (0, .ref (ad 0)), (1, .int p0), (2, .int p1)]) hx hb dX5_measure_34 rfl hl (by decide) rfl (fun ls hl => ?_)
        refine lv_aload_n hx hb dX5_measure_35 rfl (lv_at hl 0 rfl) ?_
        refine r_geti (j := 0) hx hb hts inX3 hown hK hP isPg_s rfl (by decide) (hts (.fieldLink RX5 63 "PageMonitor$Page" "kind" "I") (by decide +kernel)) (fun _ => rfl) dX5_measure_36 hf (fun x3 hf => ?_)
        refine lv_iconst (v := (1 : Int32)) hx hb dX5_measure_39 (by decide) ?_
        refine r_icmp_ne (tgt := 50) hx hb dX5_measure_40 (by decide) hf (fun hf => ?_) (fun hf => ?_)
        · obtain rfl := Option.some.inj hf
          exact r_thr (E := exC) (own := RX5) (ik := 174) (ic := 176) hx hb hnt hts hown (by decide +kernel) (by decide +kernel) (by decide +kernel) (by decide +kernel) (by decide +kernel) (by decide +kernel) (by decide +kernel) (by decide +kernel) hX hP hS (hl.1.trans hml.symm) hno dX5_measure_50 dX5_measure_53 dX5_measure_54 dX5_measure_57 (Nat.le_of_ble_eq_true rfl) (Nat.le_of_ble_eq_true rfl) (Nat.le_of_ble_eq_true rfl) (Nat.le_of_ble_eq_true rfl) hlocks
        · refine lv_aload_n hx hb dX5_measure_43 rfl (lv_at hl 0 rfl) ?_
          refine r_geti (j := 3) hx hb hts inX3 hown hK hP isPg_s rfl (by decide) (hts (.fieldLink RX5 171 "PageMonitor$Page" "sealed" "Z") (by decide +kernel)) (fun _ => rfl) dX5_measure_44 hf (fun x4 hf => ?_)
          refine r_if_ne (tgt := 58) hx hb dX5_measure_47 (by decide) hf (fun hf => ?_) (fun hf => ?_)
          · refine lv_aload_n hx hb dX5_measure_58 rfl (lv_at hl 0 rfl) ?_
            refine r_getr (k' := k2 + 2) (j := 6) hx hb hts inX3 hown hK hP isPg_s rfl (by decide) (hts (.fieldLink RX5 177 "PageMonitor$Page" "digest" "[I") (by decide +kernel)) (fun _ => rfl) dX5_measure_59 hf (fun hf => ?_)
            refine lv_iload_n hx hb dX5_measure_62 rfl (lv_at hl 3 rfl) ?_
            refine r_iald hx hb hK hP 0 isI_s rfl dX5_measure_63 hf (fun x5 hf => ?_)
            obtain rfl := Option.some.inj hf
            exact r_itret hx hb hr hlocks hP hS dX5_measure_64
          · obtain rfl := Option.some.inj hf
            exact r_thr (E := exC) (own := RX5) (ik := 174) (ic := 176) hx hb hnt hts hown (by decide +kernel) (by decide +kernel) (by decide +kernel) (by decide +kernel) (by decide +kernel) (by decide +kernel) (by decide +kernel) (by decide +kernel) hX hP hS (hl.1.trans hml.symm) hno dX5_measure_50 dX5_measure_53 dX5_measure_54 dX5_measure_57 (Nat.le_of_ble_eq_true rfl) (Nat.le_of_ble_eq_true rfl) (Nat.le_of_ble_eq_true rfl) (Nat.le_of_ble_eq_true rfl) hlocks
      · obtain rfl := Option.some.inj hf
        exact r_thr (E := exA) (own := RX5) (ik := 26) (ic := 28) hx hb hnt hts hown (by decide +kernel) (by decide +kernel) (by decide +kernel) (by decide +kernel) (by decide +kernel) (by decide +kernel) (by decide +kernel) (by decide +kernel) hX hP hS (hl.1.trans hml.symm) hno dX5_measure_17 dX5_measure_20 dX5_measure_21 dX5_measure_24 (Nat.le_of_ble_eq_true rfl) (Nat.le_of_ble_eq_true rfl) (Nat.le_of_ble_eq_true rfl) (Nat.le_of_ble_eq_true rfl) hlocks
