set_option maxHeartbeats 4000000 in
set_option maxRecDepth 100000 in
theorem c_X1_load {l : Launch} {D : va_G} {ad : Nat → Nat} {cI cZ cP cR : ClassId} {A : Nat → Prop} {M : Mem} {p0 : Nat} {p1 : Int32} {p2 : Nat} {p3 : Int32} {res : (Int32 × Mem)} (hI : gInj 143 ad) (hA : ∀ k, k < 143 → A (ad k)) (hf : fX1_load M p0 p1 p2 p3 = some res) : Met l yX1_load wsX1_load { frames := 3, cells := 0, slots := 0, locals := 69 } (va_Pc [.ref (ad 1), .ref (ad p0), .int p1, .ref (ad p2), .int p3] (Pf D vwCl (tysW cI cZ cP cR) 143 ad (spC ad cI cP cR) (XC A) M)) (Qf D vwCl 143 ad (spC ad cI cP cR) A (some (.int res.1)) res.2) 0 0 A := by
  refine Met.ofW (cc := cX1_load) (maxL := 6) (ret := (some .int)) (by decide) rfl ?_
  intro p e s m args below meth c s₁ B hml hv
  obtain ⟨rfl, hP, hK, hX⟩ := hv
  have hx := B.exec
  have hb := B.bytes
  have hr := B.returns
  have hts := atoms_spec (ws := wsX1_load) B.pre
  have hown : s.vm.findClass RX1 = some m.cls := findClass_of_methodNamed B.named
  have hlocks := B.notSynchronized
  have inX1 : ∀ w ∈ wsX10, w ∈ wsX1_load := by decide +kernel
  have hS : va_S A s.heap s.heap [] := va_S.rf
  have hl := lv_entry ([.ref (ad 1), .ref (ad p0), .int p1, .ref (ad p2), .int p3]) (n := 6) (Nat.le_of_ble_eq_true rfl)
  rw [lg_entry_eq]
  generalize (lg_sl ([.ref (ad 1), .ref (ad p0), .int p1, .ref (ad p2), .int p3]) ++ List.replicate (6 - (lg_sl ([.ref (ad 1), .ref (ad p0), .int p1, .ref (ad p2), .int p3])).length) Slot.unset).toArray = ls at hl ⊢
  have hl : lv_has ls 6 [(0, .ref (ad 1)), (1, .ref (ad p0)), (2, .int p1), (3, .ref (ad p2)), (4, .int p3)] := hl
  rw [fX1_load] at hf
  refine lv_aload_n hx hb dX1_load_0 rfl (lv_at hl 0 rfl) ?_
  refine r_getc (k' := 2) (j := 0) hx hb hts inX1 hown hK hP (obX1) rfl (by decide) (hts (.fieldLink RX1 12 "PageMonitor$Machine" "store" "LPageMonitor$Store;") (by decide +kernel)) (fun _ => rfl) dX1_load_1 ?_
  refine lv_aload_n hx hb dX1_load_4 rfl (lv_at hl 1 rfl) ?_
  refine lv_iload_n hx hb dX1_load_5 rfl (lv_at hl 2 rfl) ?_
  refine lv_iconst (v := (1 : Int32)) hx hb dX1_load_6 (by decide) ?_
  obtain ⟨q1, hq1, hf⟩ := ob hf
  refine r_call1 (va_runV (As := [.ref (ad p0), .int p1, .int (1 : Int32)]) (rest := []) ⟨hx, hb, hml, hown, hts⟩ (c_X4_rowAt hI hA hq1) (cwV 3 hts gX1_load_X4_rowAt rfl rfl rfl (by decide +kernel) ⟨Nat.le_of_ble_eq_true rfl, Nat.le_of_ble_eq_true rfl⟩) (Pf_V (XCb A) (XCo A) hX hK hP hS obX4 rfl) rfl rfl hl.1 rfl (lv_room (Nat.le_of_ble_eq_true rfl)) dX1_load_7 ⟨Nat.zero_le _, Nat.zero_le _⟩) hS (fun H locs hP hS => ?_)
  refine r_oq hf (fun hf => ?_) (fun k2 hf => ?_)
  · refine lv_astoreN (lv' := [(5, .null), (0, .ref (ad 1)), (1, .ref (ad p0)), (2, .int p1), (3, .ref (ad p2)), (4, .int p3)]) hx hb dX1_load_10 hl (by decide) rfl (fun ls hl => ?_)
    refine lv_aloadN hx hb dX1_load_12 (lv_at hl 0 rfl) ?_
    refine lv_ifnonnullN hx hb dX1_load_14 ?_
    refine lv_iconst (v := (2 : Int32)) hx hb dX1_load_17 (by decide) ?_
    obtain rfl := Option.some.inj hf
    exact r_iret hx hb hr hlocks hP hS dX1_load_18
  · refine lv_astore (lv' := [(5, .ref (ad k2)), (0, .ref (ad 1)), (1, .ref (ad p0)), (2, .int p1), (3, .ref (ad p2)), (4, .int p3)]) hx hb dX1_load_10 hl (by decide) rfl (fun ls hl => ?_)
    refine lv_aload hx hb dX1_load_12 (lv_at hl 0 rfl) ?_
    refine lv_ifnonnull (tgt := 19) hx hb dX1_load_14 (by decide) ?_
    refine lv_aload_n hx hb dX1_load_19 rfl (lv_at hl 4 rfl) ?_
    refine lv_iload hx hb dX1_load_20 (lv_at hl 5 rfl) ?_
    refine lv_aload hx hb dX1_load_22 (lv_at hl 0 rfl) ?_
    refine lv_iload_n hx hb dX1_load_24 rfl (lv_at hl 3 rfl) ?_
    refine lv_bipush (v := (16 : Int32)) hx hb dX1_load_25 (by decide) ?_
    refine lv_irem hx hb dX1_load_27 (by decide) ?_
    refine r_iald hx hb hK hP 0 isI_s rfl dX1_load_28 hf (fun x3 hf => ?_)
    refine r_iast hx hb hI hA hK hP hS 0 isI_s rfl dX1_load_29 hf (fun M4 H locs hP hS hf => ?_)
    refine lv_iconst (v := (0 : Int32)) hx hb dX1_load_30 (by decide) ?_
    obtain rfl := Option.some.inj hf
    exact r_iret hx hb hr hlocks hP hS dX1_load_31
set_option maxHeartbeats 4000000 in
set_option maxRecDepth 100000 in
theorem c_X1_save {l : Launch} {D : va_G} {ad : Nat → Nat} {cI cZ cP cR : ClassId} {A : Nat → Prop} {M : Mem} {p0 : Nat} {p1 : Int32} {p2 : Int32} {res : (Int32 × Mem)} (hI : gInj 143 ad) (hA : ∀ k, k < 143 → A (ad k)) (hf : fX1_save M p0 p1 p2 = some res) : Met l yX1_save wsX1_save { frames := 3, cells := 0, slots := 0, locals := 69 } (va_Pc [.ref (ad 1), .ref (ad p0), .int p1, .int p2] (Pf D vwCl (tysW cI cZ cP cR) 143 ad (spC ad cI cP cR) (XC A) M)) (Qf D vwCl 143 ad (spC ad cI cP cR) A (some (.int res.1)) res.2) 0 0 A := by
  refine Met.ofW (cc := cX1_save) (maxL := 5) (ret := (some .int)) (by decide) rfl ?_
  intro p e s m args below meth c s₁ B hml hv
  obtain ⟨rfl, hP, hK, hX⟩ := hv
  have hx := B.exec
  have hb := B.bytes
  have hr := B.returns
  have hts := atoms_spec (ws := wsX1_save) B.pre
  have hown : s.vm.findClass RX1 = some m.cls := findClass_of_methodNamed B.named
  have hlocks := B.notSynchronized
  have inX1 : ∀ w ∈ wsX10, w ∈ wsX1_save := by decide +kernel
  have hS : va_S A s.heap s.heap [] := va_S.rf
  have hl := lv_entry ([.ref (ad 1), .ref (ad p0), .int p1, .int p2]) (n := 5) (Nat.le_of_ble_eq_true rfl)
  rw [lg_entry_eq]
  generalize (lg_sl ([.ref (ad 1), .ref (ad p0), .int p1, .int p2]) ++ List.replicate (5 - (lg_sl ([.ref (ad 1), .ref (ad p0), .int p1, .int p2])).length) Slot.unset).toArray = ls at hl ⊢
  have hl : lv_has ls 5 [(0, .ref (ad 1)), (1, .ref (ad p0)), (2, .int p1), (3, .int p2)] := hl
  rw [fX1_save] at hf
  refine lv_aload_n hx hb dX1_save_0 rfl (lv_at hl 0 rfl) ?_
  refine r_getc (k' := 2) (j := 0) hx hb hts inX1 hown hK hP (obX1) rfl (by decide) (hts (.fieldLink RX1 12 "PageMonitor$Machine" "store" "LPageMonitor$Store;") (by decide +kernel)) (fun _ => rfl) dX1_save_1 ?_
  refine lv_aload_n hx hb dX1_save_4 rfl (lv_at hl 1 rfl) ?_
  refine lv_iload_n hx hb dX1_save_5 rfl (lv_at hl 2 rfl) ?_
  refine lv_iconst (v := (2 : Int32)) hx hb dX1_save_6 (by decide) ?_
  obtain ⟨q1, hq1, hf⟩ := ob hf
  refine r_call1 (va_runV (As := [.ref (ad p0), .int p1, .int (2 : Int32)]) (rest := []) ⟨hx, hb, hml, hown, hts⟩ (c_X4_rowAt hI hA hq1) (cwV 3 hts gX1_save_X4_rowAt rfl rfl rfl (by decide +kernel) ⟨Nat.le_of_ble_eq_true rfl, Nat.le_of_ble_eq_true rfl⟩) (Pf_V (XCb A) (XCo A) hX hK hP hS obX4 rfl) rfl rfl hl.1 rfl (lv_room (Nat.le_of_ble_eq_true rfl)) dX1_save_7 ⟨Nat.zero_le _, Nat.zero_le _⟩) hS (fun H locs hP hS => ?_)
  refine r_oq hf (fun hf => ?_) (fun k2 hf => ?_)
  · refine lv_astoreN (lv' := [(4, .null), (0, .ref (ad 1)), (1, .ref (ad p0)), (2, .int p1), (3, .int p2)]) hx hb dX1_save_10 hl (by decide) rfl (fun ls hl => ?_)
    refine lv_aloadN hx hb dX1_save_12 (lv_at hl 0 rfl) ?_
    refine lv_ifnonnullN hx hb dX1_save_14 ?_
    refine lv_iconst (v := (3 : Int32)) hx hb dX1_save_17 (by decide) ?_
    obtain rfl := Option.some.inj hf
    exact r_iret hx hb hr hlocks hP hS dX1_save_18
  · refine lv_astore (lv' := [(4, .ref (ad k2)), (0, .ref (ad 1)), (1, .ref (ad p0)), (2, .int p1), (3, .int p2)]) hx hb dX1_save_10 hl (by decide) rfl (fun ls hl => ?_)
    refine lv_aload hx hb dX1_save_12 (lv_at hl 0 rfl) ?_
    refine lv_ifnonnull (tgt := 19) hx hb dX1_save_14 (by decide) ?_
    refine lv_aload hx hb dX1_save_19 (lv_at hl 0 rfl) ?_
    refine lv_iload_n hx hb dX1_save_21 rfl (lv_at hl 3 rfl) ?_
    refine lv_bipush (v := (16 : Int32)) hx hb dX1_save_22 (by decide) ?_
    refine lv_irem hx hb dX1_save_24 (by decide) ?_
    refine lv_iload_n hx hb dX1_save_25 rfl (lv_at hl 4 rfl) ?_
    refine r_iast hx hb hI hA hK hP hS 0 isI_s rfl dX1_save_26 hf (fun M3 H locs hP hS hf => ?_)
    refine lv_iconst (v := (0 : Int32)) hx hb dX1_save_27 (by decide) ?_
    obtain rfl := Option.some.inj hf
    exact r_iret hx hb hr hlocks hP hS dX1_save_28
set_option maxHeartbeats 4000000 in
set_option maxRecDepth 100000 in
theorem c_X1_readEight {l : Launch} {D : va_G} {ad : Nat → Nat} {cI cZ cP cR : ClassId} {A : Nat → Prop} {M : Mem} {p0 : Nat} {p1 : Int32} {p2 : Nat} {res : (Int32 × Mem)} (hI : gInj 143 ad) (hA : ∀ k, k < 143 → A (ad k)) (hf : fX1_readEight M p0 p1 p2 = some res) : Met l yX1_readEight wsX1_readEight { frames := 3, cells := 0, slots := 0, locals := 69 } (va_Pc [.ref (ad 1), .ref (ad p0), .int p1, .ref (ad p2)] (Pf D vwCl (tysW cI cZ cP cR) 143 ad (spC ad cI cP cR) (XC A) M)) (Qf D vwCl 143 ad (spC ad cI cP cR) A (some (.int res.1)) res.2) 0 0 A := by
  refine Met.ofW (cc := cX1_readEight) (maxL := 6) (ret := (some .boolean)) (by decide) rfl ?_
  intro p e s m args below meth c s₁ B hml hv
  obtain ⟨rfl, hP, hK, hX⟩ := hv
  have hx := B.exec
  have hb := B.bytes
  have hr := B.returns
  have hts := atoms_spec (ws := wsX1_readEight) B.pre
  have hown : s.vm.findClass RX1 = some m.cls := findClass_of_methodNamed B.named
  have hlocks := B.notSynchronized
  have inX1 : ∀ w ∈ wsX10, w ∈ wsX1_readEight := by decide +kernel
  have hS : va_S A s.heap s.heap [] := va_S.rf
  have hl := lv_entry ([.ref (ad 1), .ref (ad p0), .int p1, .ref (ad p2)]) (n := 6) (Nat.le_of_ble_eq_true rfl)
  rw [lg_entry_eq]
  generalize (lg_sl ([.ref (ad 1), .ref (ad p0), .int p1, .ref (ad p2)]) ++ List.replicate (6 - (lg_sl ([.ref (ad 1), .ref (ad p0), .int p1, .ref (ad p2)])).length) Slot.unset).toArray = ls at hl ⊢
  have hl : lv_has ls 6 [(0, .ref (ad 1)), (1, .ref (ad p0)), (2, .int p1), (3, .ref (ad p2))] := hl
  rw [fX1_readEight] at hf
  refine lv_iconst (v := (0 : Int32)) hx hb dX1_readEight_0 (by decide) ?_
  refine lv_istore (lv' := [(4, .int (0 : Int32)), (0, .ref (ad 1)), (1, .ref (ad p0)), (2, .int p1), (3, .ref (ad p2))]) hx hb dX1_readEight_1 hl (by decide) rfl (fun ls hl => ?_)
  refine r_jn hf (fun F3 eF3 hf => ?_)
  have EF3 : ∀ (x4 : Int32) (M5 : Mem) (H : Heap) (locs : List Loc) (ls : Array Slot), va_P D vwCl (gw 143 ad (spC ad cI cP cR) M5) H → va_S A s.heap H locs → lv_has ls 6 [(0, .ref (ad 1)), (1, .ref (ad p0)), (2, .int p1), (3, .ref (ad p2)), (4, .int x4)] → F3 x4 M5 = some res → W p l e (headSpec wsX1_readEight { frames := 3, cells := 0, slots := 0, locals := 69 }).room s m (([.ref (ad 1), .ref (ad p0), .int p1, .ref (ad p2)] : List Value).toArray) below meth c H locs 0 0 (MQ below (Qf D vwCl 143 ad (spC ad cI cP cR) A (some (.int res.1)) res.2) (([.ref (ad 1), .ref (ad p0), .int p1, .ref (ad p2)] : List Value).toArray) s 0 0 A) (F0 m 52 ls []) := by
    intro x4 M5 H locs ls hP hS hl hf
    rw [eF3] at hf
    refine lv_iconst (v := (1 : Int32)) hx hb dX1_readEight_52 (by decide) ?_
    obtain rfl := Option.some.inj hf
    exact r_zret hx hb hr (isB_n (x := (1 : Int32)) (by decide)) hlocks hP hS dX1_readEight_53
  have LF3 : ∀ (n : Nat) (x1 : Int32) (M2 : Mem) (H : Heap) (locs : List Loc) (ls : Array Slot), va_P D vwCl (gw 143 ad (spC ad cI cP cR) M2) H → va_S A s.heap H locs → lv_has ls 6 [(0, .ref (ad 1)), (1, .ref (ad p0)), (2, .int p1), (3, .ref (ad p2)), (4, .int x1)] → lp_X1_readEight_3 p0 p1 p2 F3 n x1 M2 = some res → W p l e (headSpec wsX1_readEight { frames := 3, cells := 0, slots := 0, locals := 69 }).room s m (([.ref (ad 1), .ref (ad p0), .int p1, .ref (ad p2)] : List Value).toArray) below meth c H locs 0 0 (MQ below (Qf D vwCl 143 ad (spC ad cI cP cR) A (some (.int res.1)) res.2) (([.ref (ad 1), .ref (ad p0), .int p1, .ref (ad p2)] : List Value).toArray) s 0 0 A) (F0 m 3 ls []) := by
    intro n
    induction n with
    | zero =>
      intro x1 M2 H locs ls hP hS hl hf
      exact absurd hf (fun h => nomatch h)
    | succ n ih =>
      intro x1 M2 H locs ls hP hS hl hf
      rw [lp_X1_readEight_3_s] at hf
      refine lv_iload hx hb dX1_readEight_3 (lv_at hl 4 rfl) ?_
      refine lv_bipush (v := (8 : Int32)) hx hb dX1_readEight_5 (by decide) ?_
      refine r_icmp_ge (tgt := 52) hx hb dX1_readEight_7 (by decide) hf (fun hf => ?_) (fun hf => ?_)
      · exact EF3 x1 M2 _ _ _ hP hS (lv_sub hl [0, 1, 2, 3, 4] rfl) hf
      · refine lv_aload_n hx hb dX1_readEight_10 rfl (lv_at hl 0 rfl) ?_
        refine r_getc (k' := 2) (j := 0) hx hb hts inX1 hown hK hP (obX1) rfl (by decide) (hts (.fieldLink RX1 12 "PageMonitor$Machine" "store" "LPageMonitor$Store;") (by decide +kernel)) (fun _ => rfl) dX1_readEight_11 ?_
        refine lv_aload_n hx hb dX1_readEight_14 rfl (lv_at hl 1 rfl) ?_
        refine lv_iload_n hx hb dX1_readEight_15 rfl (lv_at hl 2 rfl) ?_
        refine lv_iload hx hb dX1_readEight_16 (lv_at hl 4 rfl) ?_
        refine lv_iadd hx hb dX1_readEight_18 ?_
        refine lv_iconst (v := (1 : Int32)) hx hb dX1_readEight_19 (by decide) ?_
        obtain ⟨q6, hq6, hf⟩ := ob hf
        refine r_call1 (va_runV (As := [.ref (ad p0), .int (p1 + x1), .int (1 : Int32)]) (rest := []) ⟨hx, hb, hml, hown, hts⟩ (c_X4_rowAt hI hA hq6) (cwV 3 hts gX1_readEight_X4_rowAt rfl rfl rfl (by decide +kernel) ⟨Nat.le_of_ble_eq_true rfl, Nat.le_of_ble_eq_true rfl⟩) (Pf_V (XCb A) (XCo A) hX hK hP hS obX4 rfl) rfl rfl hl.1 rfl (lv_room (Nat.le_of_ble_eq_true rfl)) dX1_readEight_20 ⟨Nat.zero_le _, Nat.zero_le _⟩) hS (fun H locs hP hS => ?_)
        refine r_oq hf (fun hf => ?_) (fun k7 hf => ?_)
        · refine lv_astoreN (lv' := [(5, .null), (0, .ref (ad 1)), (1, .ref (ad p0)), (2, .int p1), (3, .ref (ad p2)), (4, .int x1)]) hx hb dX1_readEight_23 hl (by decide) rfl (fun ls hl => ?_)
          refine lv_aloadN hx hb dX1_readEight_25 (lv_at hl 0 rfl) ?_
          refine lv_ifnonnullN hx hb dX1_readEight_27 ?_
          refine lv_iconst (v := (0 : Int32)) hx hb dX1_readEight_30 (by decide) ?_
          obtain rfl := Option.some.inj hf
          exact r_zret hx hb hr (isB_n (x := (0 : Int32)) (by decide)) hlocks hP hS dX1_readEight_31
        · refine lv_astore (lv' := [(5, .ref (ad k7)), (0, .ref (ad 1)), (1, .ref (ad p0)), (2, .int p1), (3, .ref (ad p2)), (4, .int x1)]) hx hb dX1_readEight_23 hl (by decide) rfl (fun ls hl => ?_)
          refine lv_aload hx hb dX1_readEight_25 (lv_at hl 0 rfl) ?_
          refine lv_ifnonnull (tgt := 32) hx hb dX1_readEight_27 (by decide) ?_
          refine lv_aload_n hx hb dX1_readEight_32 rfl (lv_at hl 4 rfl) ?_
          refine lv_iload hx hb dX1_readEight_33 (lv_at hl 5 rfl) ?_
          refine lv_aload hx hb dX1_readEight_35 (lv_at hl 0 rfl) ?_
          refine lv_iload_n hx hb dX1_readEight_37 rfl (lv_at hl 3 rfl) ?_
          refine lv_iload hx hb dX1_readEight_38 (lv_at hl 5 rfl) ?_
          refine lv_iadd hx hb dX1_readEight_40 ?_
          refine lv_bipush (v := (16 : Int32)) hx hb dX1_readEight_41 (by decide) ?_
          refine lv_irem hx hb dX1_readEight_43 (by decide) ?_
          refine r_iald hx hb hK hP 0 isI_s rfl dX1_readEight_44 hf (fun x8 hf => ?_)
          refine r_iast hx hb hI hA hK hP hS 0 isI_s rfl dX1_readEight_45 hf (fun M9 H locs hP hS hf => ?_)
          refine lv_iinc (v := x1 + (1 : Int32)) (lv' := [(4, .int (x1 + (1 : Int32))), (5, .ref (ad k7)), (0, .ref (ad 1)), (1, .ref (ad p0)), (2, .int p1), (3, .ref (ad p2))]) hx hb dX1_readEight_46 hl (k := 5) rfl rfl (by decide) rfl (fun ls hl => ?_)
          refine lv_goto (tgt := 3) hx hb dX1_readEight_49 (by decide) ?_
          exact ih (x1 + (1 : Int32)) M9 _ _ _ hP hS (lv_sub hl [2, 3, 4, 5, 0] rfl) hf
  exact LF3 FU (0 : Int32) M _ _ _ hP hS (lv_sub hl [1, 2, 3, 4, 0] rfl) hf
set_option maxHeartbeats 4000000 in
set_option maxRecDepth 100000 in
theorem c_X1_mayWriteEight {l : Launch} {D : va_G} {ad : Nat → Nat} {cI cZ cP cR : ClassId} {A : Nat → Prop} {M : Mem} {p0 : Nat} {p1 : Int32} {res : (Int32 × Mem)} (hI : gInj 143 ad) (hA : ∀ k, k < 143 → A (ad k)) (hf : fX1_mayWriteEight M p0 p1 = some res) : Met l yX1_mayWriteEight wsX1_mayWriteEight { frames := 3, cells := 0, slots := 0, locals := 69 } (va_Pc [.ref (ad 1), .ref (ad p0), .int p1] (Pf D vwCl (tysW cI cZ cP cR) 143 ad (spC ad cI cP cR) (XC A) M)) (Qf D vwCl 143 ad (spC ad cI cP cR) A (some (.int res.1)) res.2) 0 0 A := by
  refine Met.ofW (cc := cX1_mayWriteEight) (maxL := 4) (ret := (some .boolean)) (by decide) rfl ?_
  intro p e s m args below meth c s₁ B hml hv
  obtain ⟨rfl, hP, hK, hX⟩ := hv
  have hx := B.exec
  have hb := B.bytes
  have hr := B.returns
  have hts := atoms_spec (ws := wsX1_mayWriteEight) B.pre
  have hown : s.vm.findClass RX1 = some m.cls := findClass_of_methodNamed B.named
  have hlocks := B.notSynchronized
  have inX1 : ∀ w ∈ wsX10, w ∈ wsX1_mayWriteEight := by decide +kernel
  have hS : va_S A s.heap s.heap [] := va_S.rf
  have hl := lv_entry ([.ref (ad 1), .ref (ad p0), .int p1]) (n := 4) (Nat.le_of_ble_eq_true rfl)
  rw [lg_entry_eq]
  generalize (lg_sl ([.ref (ad 1), .ref (ad p0), .int p1]) ++ List.replicate (4 - (lg_sl ([.ref (ad 1), .ref (ad p0), .int p1])).length) Slot.unset).toArray = ls at hl ⊢
  have hl : lv_has ls 4 [(0, .ref (ad 1)), (1, .ref (ad p0)), (2, .int p1)] := hl
  rw [fX1_mayWriteEight] at hf
  refine lv_iconst (v := (0 : Int32)) hx hb dX1_mayWriteEight_0 (by decide) ?_
  refine lv_istore_n (lv' := [(3, .int (0 : Int32)), (0, .ref (ad 1)), (1, .ref (ad p0)), (2, .int p1)]) hx hb dX1_mayWriteEight_1 rfl hl (by decide) rfl (fun ls hl => ?_)
  refine r_jn hf (fun F3 eF3 hf => ?_)
  have EF3 : ∀ (x4 : Int32) (M5 : Mem) (H : Heap) (locs : List Loc) (ls : Array Slot), va_P D vwCl (gw 143 ad (spC ad cI cP cR) M5) H → va_S A s.heap H locs → lv_has ls 4 [(0, .ref (ad 1)), (1, .ref (ad p0)), (2, .int p1), (3, .int x4)] → F3 x4 M5 = some res → W p l e (headSpec wsX1_mayWriteEight { frames := 3, cells := 0, slots := 0, locals := 69 }).room s m (([.ref (ad 1), .ref (ad p0), .int p1] : List Value).toArray) below meth c H locs 0 0 (MQ below (Qf D vwCl 143 ad (spC ad cI cP cR) A (some (.int res.1)) res.2) (([.ref (ad 1), .ref (ad p0), .int p1] : List Value).toArray) s 0 0 A) (F0 m 31 ls []) := by
    intro x4 M5 H locs ls hP hS hl hf
    rw [eF3] at hf
    refine lv_iconst (v := (1 : Int32)) hx hb dX1_mayWriteEight_31 (by decide) ?_
    obtain rfl := Option.some.inj hf
    exact r_zret hx hb hr (isB_n (x := (1 : Int32)) (by decide)) hlocks hP hS dX1_mayWriteEight_32
  have LF3 : ∀ (n : Nat) (x1 : Int32) (M2 : Mem) (H : Heap) (locs : List Loc) (ls : Array Slot), va_P D vwCl (gw 143 ad (spC ad cI cP cR) M2) H → va_S A s.heap H locs → lv_has ls 4 [(0, .ref (ad 1)), (1, .ref (ad p0)), (2, .int p1), (3, .int x1)] → lp_X1_mayWriteEight_2 p0 p1 F3 n x1 M2 = some res → W p l e (headSpec wsX1_mayWriteEight { frames := 3, cells := 0, slots := 0, locals := 69 }).room s m (([.ref (ad 1), .ref (ad p0), .int p1] : List Value).toArray) below meth c H locs 0 0 (MQ below (Qf D vwCl 143 ad (spC ad cI cP cR) A (some (.int res.1)) res.2) (([.ref (ad 1), .ref (ad p0), .int p1] : List Value).toArray) s 0 0 A) (F0 m 2 ls []) := by
    intro n
    induction n with
    | zero =>
      intro x1 M2 H locs ls hP hS hl hf
      exact absurd hf (fun h => nomatch h)
    | succ n ih =>
      intro x1 M2 H locs ls hP hS hl hf
      rw [lp_X1_mayWriteEight_2_s] at hf
      refine lv_iload_n hx hb dX1_mayWriteEight_2 rfl (lv_at hl 3 rfl) ?_
      refine lv_bipush (v := (8 : Int32)) hx hb dX1_mayWriteEight_3 (by decide) ?_
      refine r_icmp_ge (tgt := 31) hx hb dX1_mayWriteEight_5 (by decide) hf (fun hf => ?_) (fun hf => ?_)
      · exact EF3 x1 M2 _ _ _ hP hS (lv_sub hl [0, 1, 2, 3] rfl) hf
      · refine lv_aload_n hx hb dX1_mayWriteEight_8 rfl (lv_at hl 0 rfl) ?_
        refine r_getc (k' := 2) (j := 0) hx hb hts inX1 hown hK hP (obX1) rfl (by decide) (hts (.fieldLink RX1 12 "PageMonitor$Machine" "store" "LPageMonitor$Store;") (by decide +kernel)) (fun _ => rfl) dX1_mayWriteEight_9 ?_
        refine lv_aload_n hx hb dX1_mayWriteEight_12 rfl (lv_at hl 1 rfl) ?_
        refine lv_iload_n hx hb dX1_mayWriteEight_13 rfl (lv_at hl 2 rfl) ?_
        refine lv_iload_n hx hb dX1_mayWriteEight_14 rfl (lv_at hl 3 rfl) ?_
        refine lv_iadd hx hb dX1_mayWriteEight_15 ?_
        refine lv_iconst (v := (2 : Int32)) hx hb dX1_mayWriteEight_16 (by decide) ?_
        obtain ⟨q6, hq6, hf⟩ := ob hf
        refine r_call1 (va_runV (As := [.ref (ad p0), .int (p1 + x1), .int (2 : Int32)]) (rest := []) ⟨hx, hb, hml, hown, hts⟩ (c_X4_rowAt hI hA hq6) (cwV 3 hts gX1_mayWriteEight_X4_rowAt rfl rfl rfl (by decide +kernel) ⟨Nat.le_of_ble_eq_true rfl, Nat.le_of_ble_eq_true rfl⟩) (Pf_V (XCb A) (XCo A) hX hK hP hS obX4 rfl) rfl rfl hl.1 rfl (lv_room (Nat.le_of_ble_eq_true rfl)) dX1_mayWriteEight_17 ⟨Nat.zero_le _, Nat.zero_le _⟩) hS (fun H locs hP hS => ?_)
        refine r_oq hf (fun hf => ?_) (fun k7 hf => ?_)
        · refine lv_ifnonnullN hx hb dX1_mayWriteEight_20 ?_
          refine lv_iconst (v := (0 : Int32)) hx hb dX1_mayWriteEight_23 (by decide) ?_
          obtain rfl := Option.some.inj hf
          exact r_zret hx hb hr (isB_n (x := (0 : Int32)) (by decide)) hlocks hP hS dX1_mayWriteEight_24
        · refine lv_ifnonnull (tgt := 25) hx hb dX1_mayWriteEight_20 (by decide) ?_
          refine lv_iinc (v := x1 + (1 : Int32)) (lv' := [(3, .int (x1 + (1 : Int32))), (0, .ref (ad 1)), (1, .ref (ad p0)), (2, .int p1)]) hx hb dX1_mayWriteEight_25 hl (k := 3) rfl rfl (by decide) rfl (fun ls hl => ?_)
          refine lv_goto (tgt := 2) hx hb dX1_mayWriteEight_28 (by decide) ?_
          exact ih (x1 + (1 : Int32)) q6.2 _ _ _ hP hS (lv_sub hl [1, 2, 3, 0] rfl) hf
  exact LF3 FU (0 : Int32) M _ _ _ hP hS (lv_sub hl [1, 2, 3, 0] rfl) hf
set_option maxHeartbeats 4000000 in
set_option maxRecDepth 100000 in
theorem c_X1_vouch {l : Launch} {D : va_G} {ad : Nat → Nat} {cI cZ cP cR : ClassId} {A : Nat → Prop} {M : Mem} {p0 : Nat} {p1 : Int32} {p2 : Int32} {res : (Int32 × Mem)} (hI : gInj 143 ad) (hA : ∀ k, k < 143 → A (ad k)) (hf : fX1_vouch M p0 p1 p2 = some res) : Met l yX1_vouch wsX1_vouch { frames := 4, cells := 0, slots := 0, locals := 144 } (va_Pc [.ref (ad 1), .ref (ad p0), .int p1, .int p2] (Pf D vwCl (tysW cI cZ cP cR) 143 ad (spC ad cI cP cR) (XC A) M)) (Qf D vwCl 143 ad (spC ad cI cP cR) A (some (.int res.1)) res.2) 0 0 A := by
  refine Met.ofW (cc := cX1_vouch) (maxL := 5) (ret := (some .int)) (by decide) rfl ?_
  intro p e s m args below meth c s₁ B hml hv
  obtain ⟨rfl, hP, hK, hX⟩ := hv
  have hx := B.exec
  have hb := B.bytes
  have hr := B.returns
  have hts := atoms_spec (ws := wsX1_vouch) B.pre
  have hown : s.vm.findClass RX1 = some m.cls := findClass_of_methodNamed B.named
  have hlocks := B.notSynchronized
  have inX1 : ∀ w ∈ wsX10, w ∈ wsX1_vouch := by decide +kernel
  have inX3 : ∀ w ∈ wsX30, w ∈ wsX1_vouch := by decide +kernel
  have hS : va_S A s.heap s.heap [] := va_S.rf
  have hl := lv_entry ([.ref (ad 1), .ref (ad p0), .int p1, .int p2]) (n := 5) (Nat.le_of_ble_eq_true rfl)
  rw [lg_entry_eq]
  generalize (lg_sl ([.ref (ad 1), .ref (ad p0), .int p1, .int p2]) ++ List.replicate (5 - (lg_sl ([.ref (ad 1), .ref (ad p0), .int p1, .int p2])).length) Slot.unset).toArray = ls at hl ⊢
  have hl : lv_has ls 5 [(0, .ref (ad 1)), (1, .ref (ad p0)), (2, .int p1), (3, .int p2)] := hl
  rw [fX1_vouch] at hf
  refine lv_aload_n hx hb dX1_vouch_0 rfl (lv_at hl 0 rfl) ?_
  refine lv_aload_n hx hb dX1_vouch_1 rfl (lv_at hl 1 rfl) ?_
  refine lv_iload_n hx hb dX1_vouch_2 rfl (lv_at hl 2 rfl) ?_
  refine lv_aload_n hx hb dX1_vouch_3 rfl (lv_at hl 0 rfl) ?_
  refine r_getc (k' := 139) (j := 4) hx hb hts inX1 hown hK hP (obX1) rfl (by decide) (hts (.fieldLink RX1 32 "PageMonitor$Machine" "said" "[I") (by decide +kernel)) (fun _ => rfl) dX1_vouch_4 ?_
  obtain ⟨q1, hq1, hf⟩ := ob hf
  refine r_call1 (va_runV (As := [.ref (ad p0), .int p1, .ref (ad 139)]) (rest := []) ⟨hx, hb, hml, hown, hts⟩ (c_X1_readEight hI hA hq1) (cwV 3 hts gX1_vouch_X1_readEight rfl rfl rfl (by decide +kernel) ⟨Nat.le_of_ble_eq_true rfl, Nat.le_of_ble_eq_true rfl⟩) (Pf_V (XCb A) (XCo A) hX hK hP hS obX1 rfl) rfl rfl hl.1 rfl (lv_room (Nat.le_of_ble_eq_true rfl)) dX1_vouch_7 ⟨Nat.zero_le _, Nat.zero_le _⟩) hS (fun H locs hP hS => ?_)
  refine r_if_ne (tgt := 15) hx hb dX1_vouch_10 (by decide) hf (fun hf => ?_) (fun hf => ?_)
  · refine lv_aload_n hx hb dX1_vouch_15 rfl (lv_at hl 0 rfl) ?_
    refine lv_aload_n hx hb dX1_vouch_16 rfl (lv_at hl 1 rfl) ?_
    refine lv_iload_n hx hb dX1_vouch_17 rfl (lv_at hl 3 rfl) ?_
    obtain ⟨q2, hq2, hf⟩ := ob hf
    refine r_call1 (va_runV (As := [.ref (ad p0), .int p2]) (rest := []) ⟨hx, hb, hml, hown, hts⟩ (c_X1_mayWriteEight hI hA hq2) (cwV 2 hts gX1_vouch_X1_mayWriteEight rfl rfl rfl (by decide +kernel) ⟨Nat.le_of_ble_eq_true rfl, Nat.le_of_ble_eq_true rfl⟩) (Pf_V (XCb A) (XCo A) hX hK hP hS obX1 rfl) rfl rfl hl.1 rfl (lv_room (Nat.le_of_ble_eq_true rfl)) dX1_vouch_18 ⟨Nat.zero_le _, Nat.zero_le _⟩) hS (fun H locs hP hS => ?_)
    refine r_if_ne (tgt := 26) hx hb dX1_vouch_21 (by decide) hf (fun hf => ?_) (fun hf => ?_)
    · refine lv_aload_n hx hb dX1_vouch_26 rfl (lv_at hl 0 rfl) ?_
      refine r_getc (k' := 133) (j := 1) hx hb hts inX1 hown hK hP (obX1) rfl (by decide) (hts (.fieldLink RX1 21 "PageMonitor$Machine" "notary" "LPageMonitor$Notary;") (by decide +kernel)) (fun _ => rfl) dX1_vouch_27 ?_
      refine lv_aload_n hx hb dX1_vouch_30 rfl (lv_at hl 1 rfl) ?_
      refine r_getr (k' := p0 + 2) (j := 6) hx hb hts inX3 hown hK hP isPg_s rfl (by decide) (hts (.fieldLink RX1 86 "PageMonitor$Page" "digest" "[I") (by decide +kernel)) (fun _ => rfl) dX1_vouch_31 hf (fun hf => ?_)
      refine lv_aload_n hx hb dX1_vouch_34 rfl (lv_at hl 0 rfl) ?_
      refine r_getc (k' := 139) (j := 4) hx hb hts inX1 hown hK hP (obX1) rfl (by decide) (hts (.fieldLink RX1 32 "PageMonitor$Machine" "said" "[I") (by decide +kernel)) (fun _ => rfl) dX1_vouch_35 ?_
      refine lv_aload_n hx hb dX1_vouch_38 rfl (lv_at hl 0 rfl) ?_
      refine r_getc (k' := 142) (j := 7) hx hb hts inX1 hown hK hP (obX1) rfl (by decide) (hts (.fieldLink RX1 42 "PageMonitor$Machine" "voucher" "[I") (by decide +kernel)) (fun _ => rfl) dX1_vouch_39 ?_
      obtain ⟨q3, hq3, hf⟩ := ob hf
      refine r_callv (va_runV (As := [.ref (ad (p0 + 2)), .ref (ad 139), .ref (ad 142)]) (rest := []) ⟨hx, hb, hml, hown, hts⟩ (c_X2_writeVoucher hI hA hq3) (cwV 3 hts gX1_vouch_X2_writeVoucher rfl rfl rfl (by decide +kernel) ⟨Nat.le_of_ble_eq_true rfl, Nat.le_of_ble_eq_true rfl⟩) (Pf_V (XCb A) (XCo A) hX hK hP hS obX2 rfl) rfl rfl hl.1 rfl (lv_room (Nat.le_of_ble_eq_true rfl)) dX1_vouch_42 ⟨Nat.zero_le _, Nat.zero_le _⟩) hS (fun H locs hP hS => ?_)
      refine lv_iconst (v := (0 : Int32)) hx hb dX1_vouch_45 (by decide) ?_
      refine lv_istore (lv' := [(4, .int (0 : Int32)), (0, .ref (ad 1)), (1, .ref (ad p0)), (2, .int p1), (3, .int p2)]) hx hb dX1_vouch_46 hl (by decide) rfl (fun ls hl => ?_)
      refine r_jn hf (fun F6 eF6 hf => ?_)
      have EF6 : ∀ (x7 : Int32) (M8 : Mem) (H : Heap) (locs : List Loc) (ls : Array Slot), va_P D vwCl (gw 143 ad (spC ad cI cP cR) M8) H → va_S A s.heap H locs → lv_has ls 5 [(0, .ref (ad 1)), (1, .ref (ad p0)), (2, .int p1), (3, .int p2), (4, .int x7)] → F6 x7 M8 = some res → W p l e (headSpec wsX1_vouch { frames := 4, cells := 0, slots := 0, locals := 144 }).room s m (([.ref (ad 1), .ref (ad p0), .int p1, .int p2] : List Value).toArray) below meth c H locs 0 0 (MQ below (Qf D vwCl 143 ad (spC ad cI cP cR) A (some (.int res.1)) res.2) (([.ref (ad 1), .ref (ad p0), .int p1, .int p2] : List Value).toArray) s 0 0 A) (F0 m 78 ls []) := by
        intro x7 M8 H locs ls hP hS hl hf
        rw [eF6] at hf
        refine lv_iconst (v := (0 : Int32)) hx hb dX1_vouch_78 (by decide) ?_
        obtain rfl := Option.some.inj hf
        exact r_iret hx hb hr hlocks hP hS dX1_vouch_79
      have LF6 : ∀ (n : Nat) (x4 : Int32) (M5 : Mem) (H : Heap) (locs : List Loc) (ls : Array Slot), va_P D vwCl (gw 143 ad (spC ad cI cP cR) M5) H → va_S A s.heap H locs → lv_has ls 5 [(0, .ref (ad 1)), (1, .ref (ad p0)), (2, .int p1), (3, .int p2), (4, .int x4)] → lp_X1_vouch_48 p0 p2 F6 n x4 M5 = some res → W p l e (headSpec wsX1_vouch { frames := 4, cells := 0, slots := 0, locals := 144 }).room s m (([.ref (ad 1), .ref (ad p0), .int p1, .int p2] : List Value).toArray) below meth c H locs 0 0 (MQ below (Qf D vwCl 143 ad (spC ad cI cP cR) A (some (.int res.1)) res.2) (([.ref (ad 1), .ref (ad p0), .int p1, .int p2] : List Value).toArray) s 0 0 A) (F0 m 48 ls []) := by
        intro n
        induction n with
        | zero =>
          intro x4 M5 H locs ls hP hS hl hf
          exact absurd hf (fun h => nomatch h)
        | succ n ih =>
          intro x4 M5 H locs ls hP hS hl hf
          rw [lp_X1_vouch_48_s] at hf
          refine lv_iload hx hb dX1_vouch_48 (lv_at hl 4 rfl) ?_
          refine lv_bipush (v := (8 : Int32)) hx hb dX1_vouch_50 (by decide) ?_
          refine r_icmp_ge (tgt := 78) hx hb dX1_vouch_52 (by decide) hf (fun hf => ?_) (fun hf => ?_)
          · exact EF6 x4 M5 _ _ _ hP hS (lv_sub hl [0, 1, 2, 3, 4] rfl) hf
          · refine lv_aload_n hx hb dX1_vouch_55 rfl (lv_at hl 0 rfl) ?_
            refine lv_aload_n hx hb dX1_vouch_56 rfl (lv_at hl 1 rfl) ?_
            refine lv_iload_n hx hb dX1_vouch_57 rfl (lv_at hl 3 rfl) ?_
            refine lv_iload hx hb dX1_vouch_58 (lv_at hl 4 rfl) ?_
            refine lv_iadd hx hb dX1_vouch_60 ?_
            refine lv_aload_n hx hb dX1_vouch_61 rfl (lv_at hl 0 rfl) ?_
            refine r_getc (k' := 142) (j := 7) hx hb hts inX1 hown hK hP (obX1) rfl (by decide) (hts (.fieldLink RX1 42 "PageMonitor$Machine" "voucher" "[I") (by decide +kernel)) (fun _ => rfl) dX1_vouch_62 ?_
            refine lv_iload hx hb dX1_vouch_65 (lv_at hl 4 rfl) ?_
            refine r_ialdk hx hb hK hP 0 ca142 rfl dX1_vouch_67 hf (fun x9 hf => ?_)
            obtain ⟨q10, hq10, hf⟩ := ob hf
            refine r_call1 (va_runV (As := [.ref (ad p0), .int (p2 + x4), .int x9]) (rest := []) ⟨hx, hb, hml, hown, hts⟩ (c_X1_save hI hA hq10) (cwV 3 hts gX1_vouch_X1_save rfl rfl rfl (by decide +kernel) ⟨Nat.le_of_ble_eq_true rfl, Nat.le_of_ble_eq_true rfl⟩) (Pf_V (XCb A) (XCo A) hX hK hP hS obX1 rfl) rfl rfl hl.1 rfl (lv_room (Nat.le_of_ble_eq_true rfl)) dX1_vouch_68 ⟨Nat.zero_le _, Nat.zero_le _⟩) hS (fun H locs hP hS => ?_)
            refine lv_pop hx hb dX1_vouch_71 rfl ?_
            refine lv_iinc (v := x4 + (1 : Int32)) (lv' := [(4, .int (x4 + (1 : Int32))), (0, .ref (ad 1)), (1, .ref (ad p0)), (2, .int p1), (3, .int p2)]) hx hb dX1_vouch_72 hl (k := 4) rfl rfl (by decide) rfl (fun ls hl => ?_)
            refine lv_goto (tgt := 48) hx hb dX1_vouch_75 (by decide) ?_
            exact ih (x4 + (1 : Int32)) q10.2 _ _ _ hP hS (lv_sub hl [1, 2, 3, 4, 0] rfl) hf
      exact LF6 FU (0 : Int32) q3 _ _ _ hP hS (lv_sub hl [1, 2, 3, 4, 0] rfl) hf
    · refine lv_iconst (v := (3 : Int32)) hx hb dX1_vouch_24 (by decide) ?_
      obtain rfl := Option.some.inj hf
      exact r_iret hx hb hr hlocks hP hS dX1_vouch_25
  · refine lv_iconst (v := (2 : Int32)) hx hb dX1_vouch_13 (by decide) ?_
    obtain rfl := Option.some.inj hf
    exact r_iret hx hb hr hlocks hP hS dX1_vouch_14
set_option maxHeartbeats 4000000 in
set_option maxRecDepth 100000 in
theorem c_X1_compare {l : Launch} {D : va_G} {ad : Nat → Nat} {cI cZ cP cR : ClassId} {A : Nat → Prop} {M : Mem} {p0 : Nat} {p1 : Int32} {p2 : Nat} {p3 : Int32} {res : (Int32 × Mem)} (hI : gInj 143 ad) (hA : ∀ k, k < 143 → A (ad k)) (hf : fX1_compare M p0 p1 p2 p3 = some res) : Met l yX1_compare wsX1_compare { frames := 4, cells := 0, slots := 0, locals := 144 } (va_Pc [.ref (ad 1), .ref (ad p0), .int p1, .ref (ad p2), .int p3] (Pf D vwCl (tysW cI cZ cP cR) 143 ad (spC ad cI cP cR) (XC A) M)) (Qf D vwCl 143 ad (spC ad cI cP cR) A (some (.int res.1)) res.2) 0 0 A := by
  refine Met.ofW (cc := cX1_compare) (maxL := 6) (ret := (some .int)) (by decide) rfl ?_
  intro p e s m args below meth c s₁ B hml hv
  obtain ⟨rfl, hP, hK, hX⟩ := hv
  have hx := B.exec
  have hb := B.bytes
  have hr := B.returns
  have hts := atoms_spec (ws := wsX1_compare) B.pre
  have hown : s.vm.findClass RX1 = some m.cls := findClass_of_methodNamed B.named
  have hlocks := B.notSynchronized
  have inX1 : ∀ w ∈ wsX10, w ∈ wsX1_compare := by decide +kernel
  have hS : va_S A s.heap s.heap [] := va_S.rf
  have hl := lv_entry ([.ref (ad 1), .ref (ad p0), .int p1, .ref (ad p2), .int p3]) (n := 6) (Nat.le_of_ble_eq_true rfl)
  rw [lg_entry_eq]
  generalize (lg_sl ([.ref (ad 1), .ref (ad p0), .int p1, .ref (ad p2), .int p3]) ++ List.replicate (6 - (lg_sl ([.ref (ad 1), .ref (ad p0), .int p1, .ref (ad p2), .int p3])).length) Slot.unset).toArray = ls at hl ⊢
  have hl : lv_has ls 6 [(0, .ref (ad 1)), (1, .ref (ad p0)), (2, .int p1), (3, .ref (ad p2)), (4, .int p3)] := hl
  rw [fX1_compare] at hf
  refine lv_aload_n hx hb dX1_compare_0 rfl (lv_at hl 0 rfl) ?_
  refine lv_aload_n hx hb dX1_compare_1 rfl (lv_at hl 1 rfl) ?_
  refine lv_iload_n hx hb dX1_compare_2 rfl (lv_at hl 2 rfl) ?_
  refine lv_aload_n hx hb dX1_compare_3 rfl (lv_at hl 0 rfl) ?_
  refine r_getc (k' := 140) (j := 5) hx hb hts inX1 hown hK hP (obX1) rfl (by decide) (hts (.fieldLink RX1 36 "PageMonitor$Machine" "claimedMeasure" "[I") (by decide +kernel)) (fun _ => rfl) dX1_compare_4 ?_
  obtain ⟨q1, hq1, hf⟩ := ob hf
  refine r_call1 (va_runV (As := [.ref (ad p0), .int p1, .ref (ad 140)]) (rest := []) ⟨hx, hb, hml, hown, hts⟩ (c_X1_readEight hI hA hq1) (cwV 3 hts gX1_compare_X1_readEight rfl rfl rfl (by decide +kernel) ⟨Nat.le_of_ble_eq_true rfl, Nat.le_of_ble_eq_true rfl⟩) (Pf_V (XCb A) (XCo A) hX hK hP hS obX1 rfl) rfl rfl hl.1 rfl (lv_room (Nat.le_of_ble_eq_true rfl)) dX1_compare_7 ⟨Nat.zero_le _, Nat.zero_le _⟩) hS (fun H locs hP hS => ?_)
  refine r_if_eq (tgt := 45) hx hb dX1_compare_10 (by decide) hf (fun hf => ?_) (fun hf => ?_)
  · refine lv_iconst (v := (2 : Int32)) hx hb dX1_compare_45 (by decide) ?_
    obtain rfl := Option.some.inj hf
    exact r_iret hx hb hr hlocks hP hS dX1_compare_46
  · refine lv_aload_n hx hb dX1_compare_13 rfl (lv_at hl 0 rfl) ?_
    refine lv_aload_n hx hb dX1_compare_14 rfl (lv_at hl 1 rfl) ?_
    refine lv_iload_n hx hb dX1_compare_15 rfl (lv_at hl 2 rfl) ?_
    refine lv_bipush (v := (8 : Int32)) hx hb dX1_compare_16 (by decide) ?_
    refine lv_iadd hx hb dX1_compare_18 ?_
    refine lv_aload_n hx hb dX1_compare_19 rfl (lv_at hl 0 rfl) ?_
    refine r_getc (k' := 139) (j := 4) hx hb hts inX1 hown hK hP (obX1) rfl (by decide) (hts (.fieldLink RX1 32 "PageMonitor$Machine" "said" "[I") (by decide +kernel)) (fun _ => rfl) dX1_compare_20 ?_
    obtain ⟨q2, hq2, hf⟩ := ob hf
    refine r_call1 (va_runV (As := [.ref (ad p0), .int (p1 + (8 : Int32)), .ref (ad 139)]) (rest := []) ⟨hx, hb, hml, hown, hts⟩ (c_X1_readEight hI hA hq2) (cwV 3 hts gX1_compare_X1_readEight rfl rfl rfl (by decide +kernel) ⟨Nat.le_of_ble_eq_true rfl, Nat.le_of_ble_eq_true rfl⟩) (Pf_V (XCb A) (XCo A) hX hK hP hS obX1 rfl) rfl rfl hl.1 rfl (lv_room (Nat.le_of_ble_eq_true rfl)) dX1_compare_23 ⟨Nat.zero_le _, Nat.zero_le _⟩) hS (fun H locs hP hS => ?_)
    refine r_if_eq (tgt := 45) hx hb dX1_compare_26 (by decide) hf (fun hf => ?_) (fun hf => ?_)
    · refine lv_iconst (v := (2 : Int32)) hx hb dX1_compare_45 (by decide) ?_
      obtain rfl := Option.some.inj hf
      exact r_iret hx hb hr hlocks hP hS dX1_compare_46
    · refine lv_aload_n hx hb dX1_compare_29 rfl (lv_at hl 0 rfl) ?_
      refine lv_aload_n hx hb dX1_compare_30 rfl (lv_at hl 1 rfl) ?_
      refine lv_iload_n hx hb dX1_compare_31 rfl (lv_at hl 2 rfl) ?_
      refine lv_bipush (v := (16 : Int32)) hx hb dX1_compare_32 (by decide) ?_
      refine lv_iadd hx hb dX1_compare_34 ?_
      refine lv_aload_n hx hb dX1_compare_35 rfl (lv_at hl 0 rfl) ?_
      refine r_getc (k' := 141) (j := 6) hx hb hts inX1 hown hK hP (obX1) rfl (by decide) (hts (.fieldLink RX1 39 "PageMonitor$Machine" "claimedVoucher" "[I") (by decide +kernel)) (fun _ => rfl) dX1_compare_36 ?_
      obtain ⟨q3, hq3, hf⟩ := ob hf
      refine r_call1 (va_runV (As := [.ref (ad p0), .int (p1 + (16 : Int32)), .ref (ad 141)]) (rest := []) ⟨hx, hb, hml, hown, hts⟩ (c_X1_readEight hI hA hq3) (cwV 3 hts gX1_compare_X1_readEight rfl rfl rfl (by decide +kernel) ⟨Nat.le_of_ble_eq_true rfl, Nat.le_of_ble_eq_true rfl⟩) (Pf_V (XCb A) (XCo A) hX hK hP hS obX1 rfl) rfl rfl hl.1 rfl (lv_room (Nat.le_of_ble_eq_true rfl)) dX1_compare_39 ⟨Nat.zero_le _, Nat.zero_le _⟩) hS (fun H locs hP hS => ?_)
      refine r_if_ne (tgt := 47) hx hb dX1_compare_42 (by decide) hf (fun hf => ?_) (fun hf => ?_)
      · refine lv_aload_n hx hb dX1_compare_47 rfl (lv_at hl 0 rfl) ?_
        refine r_getc (k' := 133) (j := 1) hx hb hts inX1 hown hK hP (obX1) rfl (by decide) (hts (.fieldLink RX1 21 "PageMonitor$Machine" "notary" "LPageMonitor$Notary;") (by decide +kernel)) (fun _ => rfl) dX1_compare_48 ?_
        refine lv_aload_n hx hb dX1_compare_51 rfl (lv_at hl 0 rfl) ?_
        refine r_getc (k' := 140) (j := 5) hx hb hts inX1 hown hK hP (obX1) rfl (by decide) (hts (.fieldLink RX1 36 "PageMonitor$Machine" "claimedMeasure" "[I") (by decide +kernel)) (fun _ => rfl) dX1_compare_52 ?_
        refine lv_aload_n hx hb dX1_compare_55 rfl (lv_at hl 0 rfl) ?_
        refine r_getc (k' := 139) (j := 4) hx hb hts inX1 hown hK hP (obX1) rfl (by decide) (hts (.fieldLink RX1 32 "PageMonitor$Machine" "said" "[I") (by decide +kernel)) (fun _ => rfl) dX1_compare_56 ?_
        refine lv_aload_n hx hb dX1_compare_59 rfl (lv_at hl 0 rfl) ?_
        refine r_getc (k' := 142) (j := 7) hx hb hts inX1 hown hK hP (obX1) rfl (by decide) (hts (.fieldLink RX1 42 "PageMonitor$Machine" "voucher" "[I") (by decide +kernel)) (fun _ => rfl) dX1_compare_60 ?_
        obtain ⟨q4, hq4, hf⟩ := ob hf
        refine r_callv (va_runV (As := [.ref (ad 140), .ref (ad 139), .ref (ad 142)]) (rest := []) ⟨hx, hb, hml, hown, hts⟩ (c_X2_writeVoucher hI hA hq4) (cwV 3 hts gX1_compare_X2_writeVoucher rfl rfl rfl (by decide +kernel) ⟨Nat.le_of_ble_eq_true rfl, Nat.le_of_ble_eq_true rfl⟩) (Pf_V (XCb A) (XCo A) hX hK hP hS obX2 rfl) rfl rfl hl.1 rfl (lv_room (Nat.le_of_ble_eq_true rfl)) dX1_compare_63 ⟨Nat.zero_le _, Nat.zero_le _⟩) hS (fun H locs hP hS => ?_)
        refine lv_aload_n hx hb dX1_compare_66 rfl (lv_at hl 3 rfl) ?_
        refine lv_iload hx hb dX1_compare_67 (lv_at hl 4 rfl) ?_
        refine lv_iconst (v := (1 : Int32)) hx hb dX1_compare_69 (by decide) ?_
        refine r_iast hx hb hI hA hK hP hS 0 isI_s rfl dX1_compare_70 hf (fun M5 H locs hP hS hf => ?_)
        refine lv_iconst (v := (0 : Int32)) hx hb dX1_compare_71 (by decide) ?_
        refine lv_istore (lv' := [(5, .int (0 : Int32)), (0, .ref (ad 1)), (1, .ref (ad p0)), (2, .int p1), (3, .ref (ad p2)), (4, .int p3)]) hx hb dX1_compare_72 hl (by decide) rfl (fun ls hl => ?_)
        refine r_jn hf (fun F8 eF8 hf => ?_)
        have EF8 : ∀ (x9 : Int32) (M10 : Mem) (H : Heap) (locs : List Loc) (ls : Array Slot), va_P D vwCl (gw 143 ad (spC ad cI cP cR) M10) H → va_S A s.heap H locs → lv_has ls 6 [(0, .ref (ad 1)), (1, .ref (ad p0)), (2, .int p1), (3, .ref (ad p2)), (4, .int p3), (5, .int x9)] → F8 x9 M10 = some res → W p l e (headSpec wsX1_compare { frames := 4, cells := 0, slots := 0, locals := 144 }).room s m (([.ref (ad 1), .ref (ad p0), .int p1, .ref (ad p2), .int p3] : List Value).toArray) below meth c H locs 0 0 (MQ below (Qf D vwCl 143 ad (spC ad cI cP cR) A (some (.int res.1)) res.2) (([.ref (ad 1), .ref (ad p0), .int p1, .ref (ad p2), .int p3] : List Value).toArray) s 0 0 A) (F0 m 109 ls []) := by
          intro x9 M10 H locs ls hP hS hl hf
          rw [eF8] at hf
          refine lv_iconst (v := (0 : Int32)) hx hb dX1_compare_109 (by decide) ?_
          obtain rfl := Option.some.inj hf
          exact r_iret hx hb hr hlocks hP hS dX1_compare_110
        have LF8 : ∀ (n : Nat) (x6 : Int32) (M7 : Mem) (H : Heap) (locs : List Loc) (ls : Array Slot), va_P D vwCl (gw 143 ad (spC ad cI cP cR) M7) H → va_S A s.heap H locs → lv_has ls 6 [(0, .ref (ad 1)), (1, .ref (ad p0)), (2, .int p1), (3, .ref (ad p2)), (4, .int p3), (5, .int x6)] → lp_X1_compare_74 p2 p3 F8 n x6 M7 = some res → W p l e (headSpec wsX1_compare { frames := 4, cells := 0, slots := 0, locals := 144 }).room s m (([.ref (ad 1), .ref (ad p0), .int p1, .ref (ad p2), .int p3] : List Value).toArray) below meth c H locs 0 0 (MQ below (Qf D vwCl 143 ad (spC ad cI cP cR) A (some (.int res.1)) res.2) (([.ref (ad 1), .ref (ad p0), .int p1, .ref (ad p2), .int p3] : List Value).toArray) s 0 0 A) (F0 m 74 ls []) := by
          intro n
          induction n with
          | zero =>
            intro x6 M7 H locs ls hP hS hl hf
            exact absurd hf (fun h => nomatch h)
          | succ n ih =>
            intro x6 M7 H locs ls hP hS hl hf
            rw [lp_X1_compare_74_s] at hf
            refine lv_iload hx hb dX1_compare_74 (lv_at hl 5 rfl) ?_
            refine lv_bipush (v := (8 : Int32)) hx hb dX1_compare_76 (by decide) ?_
            refine r_icmp_ge (tgt := 109) hx hb dX1_compare_78 (by decide) hf (fun hf => ?_) (fun hf => ?_)
            · exact EF8 x6 M7 _ _ _ hP hS (lv_sub hl [0, 1, 2, 3, 4, 5] rfl) hf
            · refine lv_aload_n hx hb dX1_compare_81 rfl (lv_at hl 0 rfl) ?_
              refine r_getc (k' := 142) (j := 7) hx hb hts inX1 hown hK hP (obX1) rfl (by decide) (hts (.fieldLink RX1 42 "PageMonitor$Machine" "voucher" "[I") (by decide +kernel)) (fun _ => rfl) dX1_compare_82 ?_
              refine lv_iload hx hb dX1_compare_85 (lv_at hl 5 rfl) ?_
              refine r_ialdk hx hb hK hP 0 ca142 rfl dX1_compare_87 hf (fun x11 hf => ?_)
              refine lv_aload_n hx hb dX1_compare_88 rfl (lv_at hl 0 rfl) ?_
              refine r_getc (k' := 141) (j := 6) hx hb hts inX1 hown hK hP (obX1) rfl (by decide) (hts (.fieldLink RX1 39 "PageMonitor$Machine" "claimedVoucher" "[I") (by decide +kernel)) (fun _ => rfl) dX1_compare_89 ?_
              refine lv_iload hx hb dX1_compare_92 (lv_at hl 5 rfl) ?_
              refine r_ialdk hx hb hK hP 0 ca141 rfl dX1_compare_94 hf (fun x12 hf => ?_)
              refine r_jn hf (fun K15 eK15 hf => ?_)
              have JK15 : ∀ (M14 : Mem) (H : Heap) (locs : List Loc) (ls : Array Slot), va_P D vwCl (gw 143 ad (spC ad cI cP cR) M14) H → va_S A s.heap H locs → lv_has ls 6 [(0, .ref (ad 1)), (1, .ref (ad p0)), (2, .int p1), (3, .ref (ad p2)), (4, .int p3), (5, .int x6)] → K15 M14 = some res → W p l e (headSpec wsX1_compare { frames := 4, cells := 0, slots := 0, locals := 144 }).room s m (([.ref (ad 1), .ref (ad p0), .int p1, .ref (ad p2), .int p3] : List Value).toArray) below meth c H locs 0 0 (MQ below (Qf D vwCl 143 ad (spC ad cI cP cR) A (some (.int res.1)) res.2) (([.ref (ad 1), .ref (ad p0), .int p1, .ref (ad p2), .int p3] : List Value).toArray) s 0 0 A) (F0 m 103 ls []) := by
                intro M14 H locs ls hP hS hl hf
                rw [eK15] at hf
                refine lv_iinc (v := x6 + (1 : Int32)) (lv' := [(5, .int (x6 + (1 : Int32))), (0, .ref (ad 1)), (1, .ref (ad p0)), (2, .int p1), (3, .ref (ad p2)), (4, .int p3)]) hx hb dX1_compare_103 hl (k := 5) rfl rfl (by decide) rfl (fun ls hl => ?_)
                refine lv_goto (tgt := 74) hx hb dX1_compare_106 (by decide) ?_
                exact ih (x6 + (1 : Int32)) M14 _ _ _ hP hS (lv_sub hl [1, 2, 3, 4, 5, 0] rfl) hf
              refine r_icmp_eq (tgt := 103) hx hb dX1_compare_95 (by decide) hf (fun hf => ?_) (fun hf => ?_)
              · exact JK15 M7 _ _ _ hP hS (lv_sub hl [0, 1, 2, 3, 4, 5] rfl) hf
              · refine lv_aload_n hx hb dX1_compare_98 rfl (lv_at hl 3 rfl) ?_
                refine lv_iload hx hb dX1_compare_99 (lv_at hl 4 rfl) ?_
                refine lv_iconst (v := (0 : Int32)) hx hb dX1_compare_101 (by decide) ?_
                refine r_iast hx hb hI hA hK hP hS 0 isI_s rfl dX1_compare_102 hf (fun M16 H locs hP hS hf => ?_)
                exact JK15 M16 _ _ _ hP hS (lv_sub hl [0, 1, 2, 3, 4, 5] rfl) hf
        exact LF8 FU (0 : Int32) M5 _ _ _ hP hS (lv_sub hl [1, 2, 3, 4, 5, 0] rfl) hf
      · refine lv_iconst (v := (2 : Int32)) hx hb dX1_compare_45 (by decide) ?_
        obtain rfl := Option.some.inj hf
        exact r_iret hx hb hr hlocks hP hS dX1_compare_46
set_option maxHeartbeats 4000000 in
set_option maxRecDepth 100000 in
theorem c_X1_obey {l : Launch} {D : va_G} {ad : Nat → Nat} {cI cZ cP cR : ClassId} {A : Nat → Prop} {M : Mem} {p0 : Nat} {p1 : Nat} {p2 : Int32} {res : (Int32 × Mem)} (hI : gInj 143 ad) (hA : ∀ k, k < 143 → A (ad k)) (hf : fX1_obey M p0 p1 p2 = some res) : Met l yX1_obey wsX1_obey { frames := 5, cells := 0, slots := 0, locals := 169 } (va_Pc [.ref (ad 1), .ref (ad p0), .ref (ad p1), .int p2] (Pf D vwCl (tysW cI cZ cP cR) 143 ad (spC ad cI cP cR) (XC A) M)) (Qf D vwCl 143 ad (spC ad cI cP cR) A (some (.int res.1)) res.2) 0 0 A := by
  refine Met.ofW (cc := cX1_obey) (maxL := 9) (ret := (some .int)) (by decide) rfl ?_
  intro p e s m args below meth c s₁ B hml hv
  obtain ⟨rfl, hP, hK, hX⟩ := hv
  have hx := B.exec
  have hb := B.bytes
  have hr := B.returns
  have hts := atoms_spec (ws := wsX1_obey) B.pre
  have hown : s.vm.findClass RX1 = some m.cls := findClass_of_methodNamed B.named
  have hlocks := B.notSynchronized
  have inX1 : ∀ w ∈ wsX10, w ∈ wsX1_obey := by decide +kernel
  have inX3 : ∀ w ∈ wsX30, w ∈ wsX1_obey := by decide +kernel
  have hS : va_S A s.heap s.heap [] := va_S.rf
  have hl := lv_entry ([.ref (ad 1), .ref (ad p0), .ref (ad p1), .int p2]) (n := 9) (Nat.le_of_ble_eq_true rfl)
  rw [lg_entry_eq]
  generalize (lg_sl ([.ref (ad 1), .ref (ad p0), .ref (ad p1), .int p2]) ++ List.replicate (9 - (lg_sl ([.ref (ad 1), .ref (ad p0), .ref (ad p1), .int p2])).length) Slot.unset).toArray = ls at hl ⊢
  have hl : lv_has ls 9 [(0, .ref (ad 1)), (1, .ref (ad p0)), (2, .ref (ad p1)), (3, .int p2)] := hl
  rw [fX1_obey] at hf
  refine lv_aload_n hx hb dX1_obey_0 rfl (lv_at hl 1 rfl) ?_
  refine lv_dup hx hb dX1_obey_1 rfl ?_
  refine r_geti (j := 9) hx hb hts inX3 hown hK hP isPg_s rfl (by decide) (hts (.fieldLink RX1 54 "PageMonitor$Page" "place" "I") (by decide +kernel)) (fun _ => rfl) dX1_obey_2 hf (fun x1 hf => ?_)
  refine lv_iconst (v := (1 : Int32)) hx hb dX1_obey_5 (by decide) ?_
  refine lv_iadd hx hb dX1_obey_6 ?_
  refine r_puti (j := 9) hx hb hts inX3 tyX3 tyX3_ok nmX3 hown hI hA hK hP hS isPg_s rfl (by decide) (hts (.fieldLink RX1 54 "PageMonitor$Page" "place" "I") (by decide +kernel)) rfl rfl rfl (fun _ => Nat.le_of_ble_eq_true rfl) (fun _ _ => rfl) dX1_obey_7 hf (fun M2 H locs hP hS hf => ?_)
  refine lv_aload_n hx hb dX1_obey_10 rfl (lv_at hl 1 rfl) ?_
  refine r_getr (k' := p0 + 3) (j := 10) hx hb hts inX3 hown hK hP isPg_s rfl (by decide) (hts (.fieldLink RX1 69 "PageMonitor$Page" "registers" "[I") (by decide +kernel)) (fun _ => rfl) dX1_obey_11 hf (fun hf => ?_)
  refine lv_astore (lv' := [(4, .ref (ad (p0 + 3))), (0, .ref (ad 1)), (1, .ref (ad p0)), (2, .ref (ad p1)), (3, .int p2)]) hx hb dX1_obey_14 hl (by decide) rfl (fun ls hl => ?_)
  refine lv_iload_n hx hb dX1_obey_16 rfl (lv_at hl 4 rfl) ?_
  refine lv_iconst (v := (4 : Int32)) hx hb dX1_obey_17 (by decide) ?_
  refine lv_ishr hx hb dX1_obey_18 ?_
  refine lv_iconst (v := (3 : Int32)) hx hb dX1_obey_19 (by decide) ?_
  refine lv_iand hx hb dX1_obey_20 ?_
  refine r_top (g := .int) hf (fun x3 hf => ?_)
  refine lv_istore (lv' := [(5, .int x3), (4, .ref (ad (p0 + 3))), (0, .ref (ad 1)), (1, .ref (ad p0)), (2, .ref (ad p1)), (3, .int p2)]) hx hb dX1_obey_21 hl (by decide) rfl (fun ls hl => ?_)
  refine lv_iload_n hx hb dX1_obey_23 rfl (lv_at hl 5 rfl) ?_
  refine lv_bipush (v := (8 : Int32)) hx hb dX1_obey_24 (by decide) ?_
  refine lv_ishr hx hb dX1_obey_26 ?_
  refine r_top (g := .int) hf (fun x4 hf => ?_)
  refine lv_istore (lv' := [(6, .int x4), (5, .int x3), (4, .ref (ad (p0 + 3))), (0, .ref (ad 1)), (1, .ref (ad p0)), (2, .ref (ad p1)), (3, .int p2)]) hx hb dX1_obey_27 hl (by decide) rfl (fun ls hl => ?_)
  refine lv_aload hx hb dX1_obey_29 (lv_at hl 2 rfl) ?_
  refine lv_iload hx hb dX1_obey_31 (lv_at hl 1 rfl) ?_
  refine r_iald hx hb hK hP 0 isI_s rfl dX1_obey_33 hf (fun x5 hf => ?_)
  refine lv_istore (lv' := [(7, .int x5), (6, .int x4), (5, .int x3), (4, .ref (ad (p0 + 3))), (0, .ref (ad 1)), (1, .ref (ad p0)), (2, .ref (ad p1)), (3, .int p2)]) hx hb dX1_obey_34 hl (by decide) rfl (fun ls hl => ?_)
  refine lv_aload hx hb dX1_obey_36 (lv_at hl 3 rfl) ?_
  refine lv_iload_n hx hb dX1_obey_38 rfl (lv_at hl 7 rfl) ?_
  refine lv_bipush (v := (6 : Int32)) hx hb dX1_obey_39 (by decide) ?_
  refine lv_ishr hx hb dX1_obey_41 ?_
  refine lv_iconst (v := (3 : Int32)) hx hb dX1_obey_42 (by decide) ?_
  refine lv_iand hx hb dX1_obey_43 ?_
  refine r_iald hx hb hK hP 0 isI_s rfl dX1_obey_44 hf (fun x6 hf => ?_)
  refine lv_istore (lv' := [(8, .int x6), (7, .int x5), (6, .int x4), (5, .int x3), (4, .ref (ad (p0 + 3))), (0, .ref (ad 1)), (1, .ref (ad p0)), (2, .ref (ad p1)), (3, .int p2)]) hx hb dX1_obey_45 hl (by decide) rfl (fun ls hl => ?_)
  refine lv_iload_n hx hb dX1_obey_47 rfl (lv_at hl 8 rfl) ?_
  refine lv_bipush (v := (15 : Int32)) hx hb dX1_obey_48 (by decide) ?_
  refine lv_iand hx hb dX1_obey_50 ?_
  refine r_top (g := .int) hf (fun x7 hf => ?_)
  rcases Decidable.em (x7 = (0 : Int32)) with e0 | e0
  · rw [if_pos e0] at hf
    subst e0
    refine lv_tableIn (off := 69) (tgt := 120) hx hb dX1_obey_51 (by decide) (by decide) (by decide) (by decide) ?_
    refine lv_aload_n hx hb dX1_obey_120 rfl (lv_at hl 5 rfl) ?_
    refine lv_iload hx hb dX1_obey_121 (lv_at hl 1 rfl) ?_
    refine r_putik (j := 2) hx hb hts inX1 tyX1 tyX1_ok nmX1 hown hI hA hK hP hS (obX1) rfl (by decide) (hts (.fieldLink RX1 25 "PageMonitor$Machine" "lastResult" "I") (by decide +kernel)) rfl rfl rfl (fun _ => Nat.le_of_ble_eq_true rfl) (fun _ _ => rfl) dX1_obey_123 hf (fun M8 H locs hP hS hf => ?_)
    refine lv_iconst (v := (-1 : Int32)) hx hb dX1_obey_126 (by decide) ?_
    obtain rfl := Option.some.inj hf
    exact r_iret hx hb hr hlocks hP hS dX1_obey_127
  rw [if_neg e0] at hf
  rcases Decidable.em (x7 = (1 : Int32)) with e1 | e1
  · rw [if_pos e1] at hf
    subst e1
    refine lv_tableIn (off := 77) (tgt := 128) hx hb dX1_obey_51 (by decide) (by decide) (by decide) (by decide) ?_
    refine lv_aload hx hb dX1_obey_128 (lv_at hl 4 rfl) ?_
    refine lv_iload hx hb dX1_obey_130 (lv_at hl 3 rfl) ?_
    refine lv_iload hx hb dX1_obey_132 (lv_at hl 2 rfl) ?_
    refine r_iast hx hb hI hA hK hP hS 0 isI_s rfl dX1_obey_134 hf (fun M9 H locs hP hS hf => ?_)
    refine lv_iconst (v := (0 : Int32)) hx hb dX1_obey_135 (by decide) ?_
    obtain rfl := Option.some.inj hf
    exact r_iret hx hb hr hlocks hP hS dX1_obey_136
  rw [if_neg e1] at hf
  rcases Decidable.em (x7 = (2 : Int32)) with e2 | e2
  · rw [if_pos e2] at hf
    subst e2
    refine lv_tableIn (off := 86) (tgt := 137) hx hb dX1_obey_51 (by decide) (by decide) (by decide) (by decide) ?_
    refine lv_aload hx hb dX1_obey_137 (lv_at hl 4 rfl) ?_
    refine lv_iload hx hb dX1_obey_139 (lv_at hl 3 rfl) ?_
    refine lv_iload hx hb dX1_obey_141 (lv_at hl 1 rfl) ?_
    refine lv_iload hx hb dX1_obey_143 (lv_at hl 0 rfl) ?_
    refine lv_iadd hx hb dX1_obey_145 ?_
    refine r_iast hx hb hI hA hK hP hS 0 isI_s rfl dX1_obey_146 hf (fun M10 H locs hP hS hf => ?_)
    refine lv_iconst (v := (0 : Int32)) hx hb dX1_obey_147 (by decide) ?_
    obtain rfl := Option.some.inj hf
    exact r_iret hx hb hr hlocks hP hS dX1_obey_148
  rw [if_neg e2] at hf
  rcases Decidable.em (x7 = (3 : Int32)) with e3 | e3
  · rw [if_pos e3] at hf
    subst e3
    refine lv_tableIn (off := 98) (tgt := 149) hx hb dX1_obey_51 (by decide) (by decide) (by decide) (by decide) ?_
    refine lv_aload hx hb dX1_obey_149 (lv_at hl 4 rfl) ?_
    refine lv_iload hx hb dX1_obey_151 (lv_at hl 3 rfl) ?_
    refine lv_iload hx hb dX1_obey_153 (lv_at hl 1 rfl) ?_
    refine lv_iload hx hb dX1_obey_155 (lv_at hl 0 rfl) ?_
    refine lv_isub hx hb dX1_obey_157 ?_
    refine r_iast hx hb hI hA hK hP hS 0 isI_s rfl dX1_obey_158 hf (fun M11 H locs hP hS hf => ?_)
    refine lv_iconst (v := (0 : Int32)) hx hb dX1_obey_159 (by decide) ?_
    obtain rfl := Option.some.inj hf
    exact r_iret hx hb hr hlocks hP hS dX1_obey_160
  rw [if_neg e3] at hf
  rcases Decidable.em (x7 = (4 : Int32)) with e4 | e4
  · rw [if_pos e4] at hf
    subst e4
    refine lv_tableIn (off := 110) (tgt := 161) hx hb dX1_obey_51 (by decide) (by decide) (by decide) (by decide) ?_
    refine lv_aload hx hb dX1_obey_161 (lv_at hl 4 rfl) ?_
    refine lv_iload hx hb dX1_obey_163 (lv_at hl 3 rfl) ?_
    refine lv_iload hx hb dX1_obey_165 (lv_at hl 1 rfl) ?_
    refine lv_iload hx hb dX1_obey_167 (lv_at hl 0 rfl) ?_
    refine lv_imul hx hb dX1_obey_169 ?_
    refine r_iast hx hb hI hA hK hP hS 0 isI_s rfl dX1_obey_170 hf (fun M12 H locs hP hS hf => ?_)
    refine lv_iconst (v := (0 : Int32)) hx hb dX1_obey_171 (by decide) ?_
    obtain rfl := Option.some.inj hf
    exact r_iret hx hb hr hlocks hP hS dX1_obey_172
  rw [if_neg e4] at hf
  rcases Decidable.em (x7 = (5 : Int32)) with e5 | e5
  · rw [if_pos e5] at hf
    subst e5
    refine lv_tableIn (off := 122) (tgt := 173) hx hb dX1_obey_51 (by decide) (by decide) (by decide) (by decide) ?_
    refine lv_aload hx hb dX1_obey_173 (lv_at hl 4 rfl) ?_
    refine lv_iload hx hb dX1_obey_175 (lv_at hl 3 rfl) ?_
    refine lv_iload hx hb dX1_obey_177 (lv_at hl 1 rfl) ?_
    refine lv_iload hx hb dX1_obey_179 (lv_at hl 0 rfl) ?_
    refine lv_iand hx hb dX1_obey_181 ?_
    refine r_iast hx hb hI hA hK hP hS 0 isI_s rfl dX1_obey_182 hf (fun M13 H locs hP hS hf => ?_)
    refine lv_iconst (v := (0 : Int32)) hx hb dX1_obey_183 (by decide) ?_
    obtain rfl := Option.some.inj hf
    exact r_iret hx hb hr hlocks hP hS dX1_obey_184
  rw [if_neg e5] at hf
  rcases Decidable.em (x7 = (6 : Int32)) with e6 | e6
  · rw [if_pos e6] at hf
    subst e6
    refine lv_tableIn (off := 134) (tgt := 185) hx hb dX1_obey_51 (by decide) (by decide) (by decide) (by decide) ?_
    refine lv_aload_n hx hb dX1_obey_185 rfl (lv_at hl 5 rfl) ?_
    refine lv_aload_n hx hb dX1_obey_186 rfl (lv_at hl 7 rfl) ?_
    refine lv_iload hx hb dX1_obey_187 (lv_at hl 0 rfl) ?_
    refine lv_iload hx hb dX1_obey_189 (lv_at hl 2 rfl) ?_
    refine lv_iadd hx hb dX1_obey_191 ?_
    refine lv_aload hx hb dX1_obey_192 (lv_at hl 4 rfl) ?_
    refine lv_iload hx hb dX1_obey_194 (lv_at hl 3 rfl) ?_
    obtain ⟨q14, hq14, hf⟩ := ob hf
    refine r_call1 (va_runV (As := [.ref (ad p1), .int (x6 + x4), .ref (ad (p0 + 3)), .int x3]) (rest := []) ⟨hx, hb, hml, hown, hts⟩ (c_X1_load hI hA hq14) (cwV 4 hts gX1_obey_X1_load rfl rfl rfl (by decide +kernel) ⟨Nat.le_of_ble_eq_true rfl, Nat.le_of_ble_eq_true rfl⟩) (Pf_V (XCb A) (XCo A) hX hK hP hS obX1 rfl) rfl rfl hl.1 rfl (lv_room (Nat.le_of_ble_eq_true rfl)) dX1_obey_196 ⟨Nat.zero_le _, Nat.zero_le _⟩) hS (fun H locs hP hS => ?_)
    obtain rfl := Option.some.inj hf
    exact r_iret hx hb hr hlocks hP hS dX1_obey_199
  rw [if_neg e6] at hf
  rcases Decidable.em (x7 = (7 : Int32)) with e7 | e7
  · rw [if_pos e7] at hf
    subst e7
    refine lv_tableIn (off := 149) (tgt := 200) hx hb dX1_obey_51 (by decide) (by decide) (by decide) (by decide) ?_
    refine lv_aload_n hx hb dX1_obey_200 rfl (lv_at hl 5 rfl) ?_
    refine lv_aload_n hx hb dX1_obey_201 rfl (lv_at hl 7 rfl) ?_
    refine lv_iload hx hb dX1_obey_202 (lv_at hl 0 rfl) ?_
    refine lv_iload hx hb dX1_obey_204 (lv_at hl 2 rfl) ?_
    refine lv_iadd hx hb dX1_obey_206 ?_
    refine lv_iload hx hb dX1_obey_207 (lv_at hl 1 rfl) ?_
    obtain ⟨q15, hq15, hf⟩ := ob hf
    refine r_call1 (va_runV (As := [.ref (ad p1), .int (x6 + x4), .int x5]) (rest := []) ⟨hx, hb, hml, hown, hts⟩ (c_X1_save hI hA hq15) (cwV 3 hts gX1_obey_X1_save rfl rfl rfl (by decide +kernel) ⟨Nat.le_of_ble_eq_true rfl, Nat.le_of_ble_eq_true rfl⟩) (Pf_V (XCb A) (XCo A) hX hK hP hS obX1 rfl) rfl rfl hl.1 rfl (lv_room (Nat.le_of_ble_eq_true rfl)) dX1_obey_209 ⟨Nat.zero_le _, Nat.zero_le _⟩) hS (fun H locs hP hS => ?_)
    obtain rfl := Option.some.inj hf
    exact r_iret hx hb hr hlocks hP hS dX1_obey_212
  rw [if_neg e7] at hf
  rcases Decidable.em (x7 = (8 : Int32)) with e8 | e8
  · rw [if_pos e8] at hf
    subst e8
    refine lv_tableIn (off := 162) (tgt := 213) hx hb dX1_obey_51 (by decide) (by decide) (by decide) (by decide) ?_
    refine lv_aload_n hx hb dX1_obey_213 rfl (lv_at hl 6 rfl) ?_
    refine lv_dup hx hb dX1_obey_214 rfl ?_
    refine r_geti (j := 9) hx hb hts inX3 hown hK hP isPg_s rfl (by decide) (hts (.fieldLink RX1 54 "PageMonitor$Page" "place" "I") (by decide +kernel)) (fun _ => rfl) dX1_obey_215 hf (fun x16 hf => ?_)
    refine lv_iload hx hb dX1_obey_218 (lv_at hl 1 rfl) ?_
    refine r_jn hf (fun K18 eK18 hf => ?_)
    have JK18 : ∀ (x17 : Int32) (H : Heap) (locs : List Loc) (ls : Array Slot), va_P D vwCl (gw 143 ad (spC ad cI cP cR) M2) H → va_S A s.heap H locs → lv_has ls 9 [(0, .ref (ad 1)), (1, .ref (ad p0)), (2, .ref (ad p1)), (3, .int p2), (4, .ref (ad (p0 + 3))), (5, .int x3), (6, .int x4), (7, .int x5), (8, .int x6)] → K18 x17 = some res → W p l e (headSpec wsX1_obey { frames := 5, cells := 0, slots := 0, locals := 169 }).room s m (([.ref (ad 1), .ref (ad p0), .ref (ad p1), .int p2] : List Value).toArray) below meth c H locs 0 0 (MQ below (Qf D vwCl 143 ad (spC ad cI cP cR) A (some (.int res.1)) res.2) (([.ref (ad 1), .ref (ad p0), .ref (ad p1), .int p2] : List Value).toArray) s 0 0 A) (F0 m 229 ls [.int x17, .int x16, .ref (ad p0)]) := by
      intro x17 H locs ls hP hS hl hf
      rw [eK18] at hf
      refine lv_iadd hx hb dX1_obey_229 ?_
      refine r_puti (j := 9) hx hb hts inX3 tyX3 tyX3_ok nmX3 hown hI hA hK hP hS isPg_s rfl (by decide) (hts (.fieldLink RX1 54 "PageMonitor$Page" "place" "I") (by decide +kernel)) rfl rfl rfl (fun _ => Nat.le_of_ble_eq_true rfl) (fun _ _ => rfl) dX1_obey_230 hf (fun M19 H locs hP hS hf => ?_)
      refine lv_iconst (v := (0 : Int32)) hx hb dX1_obey_233 (by decide) ?_
      obtain rfl := Option.some.inj hf
      exact r_iret hx hb hr hlocks hP hS dX1_obey_234
    refine r_if_eq (tgt := 228) hx hb dX1_obey_220 (by decide) hf (fun hf => ?_) (fun hf => ?_)
    · refine lv_iconst (v := (0 : Int32)) hx hb dX1_obey_228 (by decide) ?_
      exact JK18 (0 : Int32) _ _ _ hP hS (lv_sub hl [5, 6, 7, 8, 4, 3, 2, 1, 0] rfl) hf
    · refine lv_iload hx hb dX1_obey_223 (lv_at hl 2 rfl) ?_
      refine lv_goto (tgt := 229) hx hb dX1_obey_225 (by decide) ?_
      exact JK18 x4 _ _ _ hP hS (lv_sub hl [5, 6, 7, 8, 4, 3, 2, 1, 0] rfl) hf
  rw [if_neg e8] at hf
  rcases Decidable.em (x7 = (9 : Int32)) with e9 | e9
  · rw [if_pos e9] at hf
    subst e9
    refine lv_tableIn (off := 184) (tgt := 235) hx hb dX1_obey_51 (by decide) (by decide) (by decide) (by decide) ?_
    refine lv_aload_n hx hb dX1_obey_235 rfl (lv_at hl 5 rfl) ?_
    refine lv_aload_n hx hb dX1_obey_236 rfl (lv_at hl 7 rfl) ?_
    refine lv_iload hx hb dX1_obey_237 (lv_at hl 1 rfl) ?_
    refine lv_iload hx hb dX1_obey_239 (lv_at hl 0 rfl) ?_
    obtain ⟨q20, hq20, hf⟩ := ob hf
    refine r_call1 (va_runV (As := [.ref (ad p1), .int x5, .int x6]) (rest := []) ⟨hx, hb, hml, hown, hts⟩ (c_X1_vouch hI hA hq20) (cwV 3 hts gX1_obey_X1_vouch rfl rfl rfl (by decide +kernel) ⟨Nat.le_of_ble_eq_true rfl, Nat.le_of_ble_eq_true rfl⟩) (Pf_V (XCb A) (XCo A) hX hK hP hS obX1 rfl) rfl rfl hl.1 rfl (lv_room (Nat.le_of_ble_eq_true rfl)) dX1_obey_241 ⟨Nat.zero_le _, Nat.zero_le _⟩) hS (fun H locs hP hS => ?_)
    obtain rfl := Option.some.inj hf
    exact r_iret hx hb hr hlocks hP hS dX1_obey_244
  rw [if_neg e9] at hf
  rcases Decidable.em (x7 = (10 : Int32)) with e10 | e10
  · rw [if_pos e10] at hf
    subst e10
    refine lv_tableIn (off := 194) (tgt := 245) hx hb dX1_obey_51 (by decide) (by decide) (by decide) (by decide) ?_
    refine lv_aload_n hx hb dX1_obey_245 rfl (lv_at hl 5 rfl) ?_
    refine lv_aload_n hx hb dX1_obey_246 rfl (lv_at hl 7 rfl) ?_
    refine lv_iload hx hb dX1_obey_247 (lv_at hl 0 rfl) ?_
    refine lv_aload hx hb dX1_obey_249 (lv_at hl 4 rfl) ?_
    refine lv_iload hx hb dX1_obey_251 (lv_at hl 3 rfl) ?_
    obtain ⟨q21, hq21, hf⟩ := ob hf
    refine r_call1 (va_runV (As := [.ref (ad p1), .int x6, .ref (ad (p0 + 3)), .int x3]) (rest := []) ⟨hx, hb, hml, hown, hts⟩ (c_X1_compare hI hA hq21) (cwV 4 hts gX1_obey_X1_compare rfl rfl rfl (by decide +kernel) ⟨Nat.le_of_ble_eq_true rfl, Nat.le_of_ble_eq_true rfl⟩) (Pf_V (XCb A) (XCo A) hX hK hP hS obX1 rfl) rfl rfl hl.1 rfl (lv_room (Nat.le_of_ble_eq_true rfl)) dX1_obey_253 ⟨Nat.zero_le _, Nat.zero_le _⟩) hS (fun H locs hP hS => ?_)
    obtain rfl := Option.some.inj hf
    exact r_iret hx hb hr hlocks hP hS dX1_obey_256
  rw [if_neg e10] at hf
  rcases Decidable.em (x7 = (11 : Int32)) with e11 | e11
  · rw [if_pos e11] at hf
    subst e11
    refine lv_tableIn (off := 206) (tgt := 257) hx hb dX1_obey_51 (by decide) (by decide) (by decide) (by decide) ?_
    refine lv_aload hx hb dX1_obey_257 (lv_at hl 4 rfl) ?_
    refine lv_iload hx hb dX1_obey_259 (lv_at hl 3 rfl) ?_
    refine lv_aload_n hx hb dX1_obey_261 rfl (lv_at hl 7 rfl) ?_
    refine r_getr (k' := p1 + 2) (j := 6) hx hb hts inX3 hown hK hP isPg_s rfl (by decide) (hts (.fieldLink RX1 86 "PageMonitor$Page" "digest" "[I") (by decide +kernel)) (fun _ => rfl) dX1_obey_262 hf (fun hf => ?_)
    refine lv_iload hx hb dX1_obey_265 (lv_at hl 2 rfl) ?_
    refine lv_bipush (v := (7 : Int32)) hx hb dX1_obey_267 (by decide) ?_
    refine lv_iand hx hb dX1_obey_269 ?_
    refine r_iald hx hb hK hP 0 isI_s rfl dX1_obey_270 hf (fun x22 hf => ?_)
    refine r_iast hx hb hI hA hK hP hS 0 isI_s rfl dX1_obey_271 hf (fun M23 H locs hP hS hf => ?_)
    refine lv_iconst (v := (0 : Int32)) hx hb dX1_obey_272 (by decide) ?_
    obtain rfl := Option.some.inj hf
    exact r_iret hx hb hr hlocks hP hS dX1_obey_273
  rw [if_neg e11] at hf
  rcases Decidable.em (x7 = (12 : Int32)) with e12 | e12
  · rw [if_pos e12] at hf
    subst e12
    refine lv_tableIn (off := 223) (tgt := 274) hx hb dX1_obey_51 (by decide) (by decide) (by decide) (by decide) ?_
    refine lv_aload hx hb dX1_obey_274 (lv_at hl 4 rfl) ?_
    refine lv_iload hx hb dX1_obey_276 (lv_at hl 3 rfl) ?_
    refine lv_aload_n hx hb dX1_obey_278 rfl (lv_at hl 5 rfl) ?_
    refine r_getc (k' := 2) (j := 0) hx hb hts inX1 hown hK hP (obX1) rfl (by decide) (hts (.fieldLink RX1 12 "PageMonitor$Machine" "store" "LPageMonitor$Store;") (by decide +kernel)) (fun _ => rfl) dX1_obey_279 ?_
    refine lv_aload_n hx hb dX1_obey_282 rfl (lv_at hl 6 rfl) ?_
    refine r_geti (j := 1) hx hb hts inX3 hown hK hP isPg_s rfl (by decide) (hts (.fieldLink RX1 49 "PageMonitor$Page" "owner" "I") (by decide +kernel)) (fun _ => rfl) dX1_obey_283 hf (fun x24 hf => ?_)
    refine lv_iload hx hb dX1_obey_286 (lv_at hl 1 rfl) ?_
    refine lv_iload hx hb dX1_obey_288 (lv_at hl 0 rfl) ?_
    refine lv_iload hx hb dX1_obey_290 (lv_at hl 2 rfl) ?_
    refine lv_bipush (v := (7 : Int32)) hx hb dX1_obey_292 (by decide) ?_
    refine lv_iand hx hb dX1_obey_294 ?_
    obtain ⟨q25, hq25, hf⟩ := ob hf
    refine r_call1 (va_runV (As := [.int x24, .int x5, .int x6, .int (x4 &&& (7 : Int32))]) (rest := [.int x3, .ref (ad (p0 + 3))]) ⟨hx, hb, hml, hown, hts⟩ (c_X4_useSpare hI hA hq25) (cwV 4 hts gX1_obey_X4_useSpare rfl rfl rfl (by decide +kernel) ⟨Nat.le_of_ble_eq_true rfl, Nat.le_of_ble_eq_true rfl⟩) (Pf_V (XCb A) (XCo A) hX hK hP hS obX4 rfl) rfl rfl hl.1 rfl (lv_room (Nat.le_of_ble_eq_true rfl)) dX1_obey_295 ⟨Nat.zero_le _, Nat.zero_le _⟩) hS (fun H locs hP hS => ?_)
    refine r_jn hf (fun K27 eK27 hf => ?_)
    have JK27 : ∀ (x26 : Int32) (H : Heap) (locs : List Loc) (ls : Array Slot), va_P D vwCl (gw 143 ad (spC ad cI cP cR) q25.2) H → va_S A s.heap H locs → lv_has ls 9 [(0, .ref (ad 1)), (1, .ref (ad p0)), (2, .ref (ad p1)), (3, .int p2), (4, .ref (ad (p0 + 3))), (5, .int x3), (6, .int x4), (7, .int x5), (8, .int x6)] → K27 x26 = some res → W p l e (headSpec wsX1_obey { frames := 5, cells := 0, slots := 0, locals := 169 }).room s m (([.ref (ad 1), .ref (ad p0), .ref (ad p1), .int p2] : List Value).toArray) below meth c H locs 0 0 (MQ below (Qf D vwCl 143 ad (spC ad cI cP cR) A (some (.int res.1)) res.2) (([.ref (ad 1), .ref (ad p0), .ref (ad p1), .int p2] : List Value).toArray) s 0 0 A) (F0 m 306 ls [.int x26, .int x3, .ref (ad (p0 + 3))]) := by
      intro x26 H locs ls hP hS hl hf
      rw [eK27] at hf
      refine r_iast hx hb hI hA hK hP hS 0 isI_s rfl dX1_obey_306 hf (fun M28 H locs hP hS hf => ?_)
      refine lv_iconst (v := (0 : Int32)) hx hb dX1_obey_307 (by decide) ?_
      obtain rfl := Option.some.inj hf
      exact r_iret hx hb hr hlocks hP hS dX1_obey_308
    refine r_if_eq (tgt := 305) hx hb dX1_obey_298 (by decide) hf (fun hf => ?_) (fun hf => ?_)
    · refine lv_iconst (v := (1 : Int32)) hx hb dX1_obey_305 (by decide) ?_
      exact JK27 (1 : Int32) _ _ _ hP hS (lv_sub hl [5, 6, 7, 8, 4, 3, 2, 1, 0] rfl) hf
    · refine lv_iconst (v := (0 : Int32)) hx hb dX1_obey_301 (by decide) ?_
      refine lv_goto (tgt := 306) hx hb dX1_obey_302 (by decide) ?_
      exact JK27 (0 : Int32) _ _ _ hP hS (lv_sub hl [5, 6, 7, 8, 4, 3, 2, 1, 0] rfl) hf
  rw [if_neg e12] at hf
  rcases Decidable.em (x7 = (13 : Int32)) with e13 | e13
  · rw [if_pos e13] at hf
    subst e13
    refine lv_tableIn (off := 258) (tgt := 309) hx hb dX1_obey_51 (by decide) (by decide) (by decide) (by decide) ?_
    refine lv_aload hx hb dX1_obey_309 (lv_at hl 4 rfl) ?_
    refine lv_iload hx hb dX1_obey_311 (lv_at hl 3 rfl) ?_
    refine lv_aload_n hx hb dX1_obey_313 rfl (lv_at hl 5 rfl) ?_
    refine r_getc (k' := 2) (j := 0) hx hb hts inX1 hown hK hP (obX1) rfl (by decide) (hts (.fieldLink RX1 12 "PageMonitor$Machine" "store" "LPageMonitor$Store;") (by decide +kernel)) (fun _ => rfl) dX1_obey_314 ?_
    refine lv_aload_n hx hb dX1_obey_317 rfl (lv_at hl 6 rfl) ?_
    refine r_geti (j := 1) hx hb hts inX3 hown hK hP isPg_s rfl (by decide) (hts (.fieldLink RX1 49 "PageMonitor$Page" "owner" "I") (by decide +kernel)) (fun _ => rfl) dX1_obey_318 hf (fun x29 hf => ?_)
    refine lv_iload hx hb dX1_obey_321 (lv_at hl 0 rfl) ?_
    obtain ⟨q30, hq30, hf⟩ := ob hf
    refine r_call1 (va_runV (As := [.int x29, .int x6]) (rest := [.int x3, .ref (ad (p0 + 3))]) ⟨hx, hb, hml, hown, hts⟩ (c_X4_giveBack hI hA hq30) (cwV 2 hts gX1_obey_X4_giveBack rfl rfl rfl (by decide +kernel) ⟨Nat.le_of_ble_eq_true rfl, Nat.le_of_ble_eq_true rfl⟩) (Pf_V (XCb A) (XCo A) hX hK hP hS obX4 rfl) rfl rfl hl.1 rfl (lv_room (Nat.le_of_ble_eq_true rfl)) dX1_obey_323 ⟨Nat.zero_le _, Nat.zero_le _⟩) hS (fun H locs hP hS => ?_)
    refine r_iast hx hb hI hA hK hP hS 0 isI_s rfl dX1_obey_326 hf (fun M31 H locs hP hS hf => ?_)
    refine lv_iconst (v := (0 : Int32)) hx hb dX1_obey_327 (by decide) ?_
    obtain rfl := Option.some.inj hf
    exact r_iret hx hb hr hlocks hP hS dX1_obey_328
  rw [if_neg e13] at hf
  refine lv_tableOut (tgt := 329) hx hb dX1_obey_51 (tsw_out 13 (by intro j hj; match j, hj with | 0, _ => exact e0 | 1, _ => exact e1 | 2, _ => exact e2 | 3, _ => exact e3 | 4, _ => exact e4 | 5, _ => exact e5 | 6, _ => exact e6 | 7, _ => exact e7 | 8, _ => exact e8 | 9, _ => exact e9 | 10, _ => exact e10 | 11, _ => exact e11 | 12, _ => exact e12 | 13, _ => exact e13 | (_ + 14), h => exact absurd h (by omega))) (by decide) ?_
  refine lv_iconst (v := (4 : Int32)) hx hb dX1_obey_329 (by decide) ?_
  obtain rfl := Option.some.inj hf
  exact r_iret hx hb hr hlocks hP hS dX1_obey_330
set_option maxHeartbeats 4000000 in
set_option maxRecDepth 100000 in
theorem c_X1_run {l : Launch} {D : va_G} {ad : Nat → Nat} {cI cZ cP cR : ClassId} {A : Nat → Prop} {M : Mem} {p0 : Nat} {p1 : Int32} {res : (Int32 × Mem)} (hI : gInj 143 ad) (hA : ∀ k, k < 143 → A (ad k)) (hf : fX1_run M p0 p1 = some res) : Met l yX1_run wsX1_run { frames := 6, cells := 0, slots := 0, locals := 197 } (va_Pc [.ref (ad 1), .ref (ad p0), .int p1] (Pf D vwCl (tysW cI cZ cP cR) 143 ad (spC ad cI cP cR) (XC A) M)) (Qf D vwCl 143 ad (spC ad cI cP cR) A (some (.int res.1)) res.2) 0 0 A := by
  refine Met.ofW (cc := cX1_run) (maxL := 7) (ret := (some .int)) (by decide) rfl ?_
  intro p e s m args below meth c s₁ B hml hv
  obtain ⟨rfl, hP, hK, hX⟩ := hv
  have hx := B.exec
  have hb := B.bytes
  have hr := B.returns
  have hts := atoms_spec (ws := wsX1_run) B.pre
  have hown : s.vm.findClass RX1 = some m.cls := findClass_of_methodNamed B.named
  have hlocks := B.notSynchronized
  have inX1 : ∀ w ∈ wsX10, w ∈ wsX1_run := by decide +kernel
  have inX3 : ∀ w ∈ wsX30, w ∈ wsX1_run := by decide +kernel
  have inX4 : ∀ w ∈ wsX40, w ∈ wsX1_run := by decide +kernel
  have hS : va_S A s.heap s.heap [] := va_S.rf
  have hl := lv_entry ([.ref (ad 1), .ref (ad p0), .int p1]) (n := 7) (Nat.le_of_ble_eq_true rfl)
  rw [lg_entry_eq]
  generalize (lg_sl ([.ref (ad 1), .ref (ad p0), .int p1]) ++ List.replicate (7 - (lg_sl ([.ref (ad 1), .ref (ad p0), .int p1])).length) Slot.unset).toArray = ls at hl ⊢
  have hl : lv_has ls 7 [(0, .ref (ad 1)), (1, .ref (ad p0)), (2, .int p1)] := hl
  rw [fX1_run] at hf
  refine lv_aload_n hx hb dX1_run_0 rfl (lv_at hl 0 rfl) ?_
  refine r_getc (k' := 2) (j := 0) hx hb hts inX1 hown hK hP (obX1) rfl (by decide) (hts (.fieldLink RX1 12 "PageMonitor$Machine" "store" "LPageMonitor$Store;") (by decide +kernel)) (fun _ => rfl) dX1_run_1 ?_
  refine r_getc (k' := 3) (j := 0) hx hb hts inX4 hown hK hP (obX4) rfl (by decide) (hts (.fieldLink RX1 45 "PageMonitor$Store" "pages" "[LPageMonitor$Page;") (by decide +kernel)) (fun _ => rfl) dX1_run_4 ?_
  refine lv_aload_n hx hb dX1_run_7 rfl (lv_at hl 1 rfl) ?_
  refine r_geti (j := 1) hx hb hts inX3 hown hK hP isPg_s rfl (by decide) (hts (.fieldLink RX1 49 "PageMonitor$Page" "owner" "I") (by decide +kernel)) (fun _ => rfl) dX1_run_8 hf (fun x1 hf => ?_)
  refine r_aald hx hb hK hP 2 ra3 rfl rfl dX1_run_11 hf (fun k2 hf => ?_)
  refine lv_astore_n (lv' := [(3, .ref (ad k2)), (0, .ref (ad 1)), (1, .ref (ad p0)), (2, .int p1)]) hx hb dX1_run_12 rfl hl (by decide) rfl (fun ls hl => ?_)
  refine lv_iconst (v := (0 : Int32)) hx hb dX1_run_13 (by decide) ?_
  refine lv_istore (lv' := [(4, .int (0 : Int32)), (3, .ref (ad k2)), (0, .ref (ad 1)), (1, .ref (ad p0)), (2, .int p1)]) hx hb dX1_run_14 hl (by decide) rfl (fun ls hl => ?_)
  refine lv_iconst (v := (0 : Int32)) hx hb dX1_run_16 (by decide) ?_
  refine lv_istore (lv' := [(5, .int (0 : Int32)), (4, .int (0 : Int32)), (3, .ref (ad k2)), (0, .ref (ad 1)), (1, .ref (ad p0)), (2, .int p1)]) hx hb dX1_run_17 hl (by decide) rfl (fun ls hl => ?_)
  refine r_jn hf (fun F6 eF6 hf => ?_)
  have EF6 : ∀ (x7 : Int32) (x8 : Int32) (M9 : Mem) (H : Heap) (locs : List Loc) (ls : Array Slot), va_P D vwCl (gw 143 ad (spC ad cI cP cR) M9) H → va_S A s.heap H locs → lv_has ls 7 [(0, .ref (ad 1)), (1, .ref (ad p0)), (2, .int p1), (3, .ref (ad k2)), (4, .int x7), (5, .int x8)] → F6 x7 x8 M9 = some res → W p l e (headSpec wsX1_run { frames := 6, cells := 0, slots := 0, locals := 197 }).room s m (([.ref (ad 1), .ref (ad p0), .int p1] : List Value).toArray) below meth c H locs 0 0 (MQ below (Qf D vwCl 143 ad (spC ad cI cP cR) A (some (.int res.1)) res.2) (([.ref (ad 1), .ref (ad p0), .int p1] : List Value).toArray) s 0 0 A) (F0 m 78 ls []) := by
    intro x7 x8 M9 H locs ls hP hS hl hf
    rw [eF6] at hf
    refine lv_aload_n hx hb dX1_run_78 rfl (lv_at hl 0 rfl) ?_
    refine lv_iload hx hb dX1_run_79 (lv_at hl 5 rfl) ?_
    refine r_putik (j := 3) hx hb hts inX1 tyX1 tyX1_ok nmX1 hown hI hA hK hP hS (obX1) rfl (by decide) (hts (.fieldLink RX1 29 "PageMonitor$Machine" "lastSteps" "I") (by decide +kernel)) rfl rfl rfl (fun _ => Nat.le_of_ble_eq_true rfl) (fun _ _ => rfl) dX1_run_81 hf (fun M10 H locs hP hS hf => ?_)
    refine lv_aload_n hx hb dX1_run_84 rfl (lv_at hl 1 rfl) ?_
    refine lv_iload hx hb dX1_run_85 (lv_at hl 4 rfl) ?_
    refine r_jn hf (fun K12 eK12 hf => ?_)
    have JK12 : ∀ (x11 : Int32) (H : Heap) (locs : List Loc) (ls : Array Slot), va_P D vwCl (gw 143 ad (spC ad cI cP cR) M10) H → va_S A s.heap H locs → lv_has ls 7 [(0, .ref (ad 1)), (1, .ref (ad p0)), (2, .int p1), (3, .ref (ad k2)), (4, .int x7), (5, .int x8)] → K12 x11 = some res → W p l e (headSpec wsX1_run { frames := 6, cells := 0, slots := 0, locals := 197 }).room s m (([.ref (ad 1), .ref (ad p0), .int p1] : List Value).toArray) below meth c H locs 0 0 (MQ below (Qf D vwCl 143 ad (spC ad cI cP cR) A (some (.int res.1)) res.2) (([.ref (ad 1), .ref (ad p0), .int p1] : List Value).toArray) s 0 0 A) (F0 m 95 ls [.int x11, .ref (ad p0)]) := by
      intro x11 H locs ls hP hS hl hf
      rw [eK12] at hf
      obtain ⟨hz, hf⟩ := gd_s hf
      refine r_puti (j := 8) hx hb hts inX3 tyX3 tyX3_ok nmX3 hown hI hA hK hP hS isPg_s rfl (by decide) (hts (.fieldLink RX1 65 "PageMonitor$Page" "entered" "Z") (by decide +kernel)) rfl (isB_n hz) (isB_f hz) (fun _ => Nat.le_of_ble_eq_true rfl) (fun _ _ => rfl) dX1_run_95 hf (fun M13 H locs hP hS hf => ?_)
      refine lv_iload hx hb dX1_run_98 (lv_at hl 4 rfl) ?_
      refine lv_iconst (v := (-1 : Int32)) hx hb dX1_run_100 (by decide) ?_
      refine r_icmp_ne (tgt := 106) hx hb dX1_run_101 (by decide) hf (fun hf => ?_) (fun hf => ?_)
      · refine lv_aload_n hx hb dX1_run_106 rfl (lv_at hl 0 rfl) ?_
        refine lv_iload hx hb dX1_run_107 (lv_at hl 4 rfl) ?_
        refine r_jn hf (fun K15 eK15 hf => ?_)
        have JK15 : ∀ (x14 : Int32) (H : Heap) (locs : List Loc) (ls : Array Slot), va_P D vwCl (gw 143 ad (spC ad cI cP cR) M13) H → va_S A s.heap H locs → lv_has ls 7 [(0, .ref (ad 1)), (1, .ref (ad p0)), (2, .int p1), (3, .ref (ad k2)), (4, .int x7), (5, .int x8)] → K15 x14 = some res → W p l e (headSpec wsX1_run { frames := 6, cells := 0, slots := 0, locals := 197 }).room s m (([.ref (ad 1), .ref (ad p0), .int p1] : List Value).toArray) below meth c H locs 0 0 (MQ below (Qf D vwCl 143 ad (spC ad cI cP cR) A (some (.int res.1)) res.2) (([.ref (ad 1), .ref (ad p0), .int p1] : List Value).toArray) s 0 0 A) (F0 m 118 ls [.int x14, .ref (ad 1)]) := by
          intro x14 H locs ls hP hS hl hf
          rw [eK15] at hf
          refine r_putik (j := 2) hx hb hts inX1 tyX1 tyX1_ok nmX1 hown hI hA hK hP hS (obX1) rfl (by decide) (hts (.fieldLink RX1 25 "PageMonitor$Machine" "lastResult" "I") (by decide +kernel)) rfl rfl rfl (fun _ => Nat.le_of_ble_eq_true rfl) (fun _ _ => rfl) dX1_run_118 hf (fun M16 H locs hP hS hf => ?_)
          refine lv_iload hx hb dX1_run_121 (lv_at hl 4 rfl) ?_
          refine r_jn hf (fun K18 eK18 hf => ?_)
          have JK18 : ∀ (x17 : Int32) (H : Heap) (locs : List Loc) (ls : Array Slot), va_P D vwCl (gw 143 ad (spC ad cI cP cR) M16) H → va_S A s.heap H locs → lv_has ls 7 [(0, .ref (ad 1)), (1, .ref (ad p0)), (2, .int p1), (3, .ref (ad k2)), (4, .int x7), (5, .int x8)] → K18 x17 = some res → W p l e (headSpec wsX1_run { frames := 6, cells := 0, slots := 0, locals := 197 }).room s m (([.ref (ad 1), .ref (ad p0), .int p1] : List Value).toArray) below meth c H locs 0 0 (MQ below (Qf D vwCl 143 ad (spC ad cI cP cR) A (some (.int res.1)) res.2) (([.ref (ad 1), .ref (ad p0), .int p1] : List Value).toArray) s 0 0 A) (F0 m 133 ls [.int x17]) := by
            intro x17 H locs ls hP hS hl hf
            rw [eK18] at hf
            obtain rfl := Option.some.inj hf
            exact r_iret hx hb hr hlocks hP hS dX1_run_133
          refine r_if_ne (tgt := 131) hx hb dX1_run_123 (by decide) hf (fun hf => ?_) (fun hf => ?_)
          · refine lv_bipush (v := (9 : Int32)) hx hb dX1_run_131 (by decide) ?_
            exact JK18 (9 : Int32) _ _ _ hP hS (lv_sub hl [0, 1, 2, 3, 4, 5] rfl) hf
          · refine lv_bipush (v := (8 : Int32)) hx hb dX1_run_126 (by decide) ?_
            refine lv_goto (tgt := 133) hx hb dX1_run_128 (by decide) ?_
            exact JK18 (8 : Int32) _ _ _ hP hS (lv_sub hl [0, 1, 2, 3, 4, 5] rfl) hf
        refine r_if_ne (tgt := 116) hx hb dX1_run_109 (by decide) hf (fun hf => ?_) (fun hf => ?_)
        · refine lv_iload hx hb dX1_run_116 (lv_at hl 4 rfl) ?_
          exact JK15 x7 _ _ _ hP hS (lv_sub hl [0, 1, 2, 3, 4, 5] rfl) hf
        · refine lv_iconst (v := (0 : Int32)) hx hb dX1_run_112 (by decide) ?_
          refine lv_goto (tgt := 118) hx hb dX1_run_113 (by decide) ?_
          exact JK15 (0 : Int32) _ _ _ hP hS (lv_sub hl [0, 1, 2, 3, 4, 5] rfl) hf
      · refine lv_iconst (v := (0 : Int32)) hx hb dX1_run_104 (by decide) ?_
        obtain rfl := Option.some.inj hf
        exact r_iret hx hb hr hlocks hP hS dX1_run_105
    refine r_if_ne (tgt := 94) hx hb dX1_run_87 (by decide) hf (fun hf => ?_) (fun hf => ?_)
    · refine lv_iconst (v := (0 : Int32)) hx hb dX1_run_94 (by decide) ?_
      exact JK12 (0 : Int32) _ _ _ hP hS (lv_sub hl [0, 1, 2, 3, 4, 5] rfl) hf
    · refine lv_iconst (v := (1 : Int32)) hx hb dX1_run_90 (by decide) ?_
      refine lv_goto (tgt := 95) hx hb dX1_run_91 (by decide) ?_
      exact JK12 (1 : Int32) _ _ _ hP hS (lv_sub hl [0, 1, 2, 3, 4, 5] rfl) hf
  have LF6 : ∀ (n : Nat) (x3 : Int32) (x4 : Int32) (M5 : Mem) (H : Heap) (locs : List Loc) (ls : Array Slot), va_P D vwCl (gw 143 ad (spC ad cI cP cR) M5) H → va_S A s.heap H locs → lv_has ls 7 [(0, .ref (ad 1)), (1, .ref (ad p0)), (2, .int p1), (3, .ref (ad k2)), (4, .int x3), (5, .int x4)] → lp_X1_run_19 p1 p0 k2 F6 n x3 x4 M5 = some res → W p l e (headSpec wsX1_run { frames := 6, cells := 0, slots := 0, locals := 197 }).room s m (([.ref (ad 1), .ref (ad p0), .int p1] : List Value).toArray) below meth c H locs 0 0 (MQ below (Qf D vwCl 143 ad (spC ad cI cP cR) A (some (.int res.1)) res.2) (([.ref (ad 1), .ref (ad p0), .int p1] : List Value).toArray) s 0 0 A) (F0 m 19 ls []) := by
    intro n
    induction n with
    | zero =>
      intro x3 x4 M5 H locs ls hP hS hl hf
      exact absurd hf (fun h => nomatch h)
    | succ n ih =>
      intro x3 x4 M5 H locs ls hP hS hl hf
      rw [lp_X1_run_19_s] at hf
      refine lv_iload hx hb dX1_run_19 (lv_at hl 5 rfl) ?_
      refine lv_iload_n hx hb dX1_run_21 rfl (lv_at hl 2 rfl) ?_
      refine r_icmp_ge (tgt := 78) hx hb dX1_run_22 (by decide) hf (fun hf => ?_) (fun hf => ?_)
      · exact EF6 x3 x4 M5 _ _ _ hP hS (lv_sub hl [0, 1, 2, 3, 4, 5] rfl) hf
      · refine lv_iload hx hb dX1_run_25 (lv_at hl 4 rfl) ?_
        refine r_if_ne (tgt := 78) hx hb dX1_run_27 (by decide) hf (fun hf => ?_) (fun hf => ?_)
        · exact EF6 x3 x4 M5 _ _ _ hP hS (lv_sub hl [0, 1, 2, 3, 4, 5] rfl) hf
        · refine lv_aload_n hx hb dX1_run_30 rfl (lv_at hl 0 rfl) ?_
          refine r_getc (k' := 2) (j := 0) hx hb hts inX1 hown hK hP (obX1) rfl (by decide) (hts (.fieldLink RX1 12 "PageMonitor$Machine" "store" "LPageMonitor$Store;") (by decide +kernel)) (fun _ => rfl) dX1_run_31 ?_
          refine lv_aload_n hx hb dX1_run_34 rfl (lv_at hl 3 rfl) ?_
          refine lv_aload_n hx hb dX1_run_35 rfl (lv_at hl 1 rfl) ?_
          refine r_geti (j := 9) hx hb hts inX3 hown hK hP isPg_s rfl (by decide) (hts (.fieldLink RX1 54 "PageMonitor$Page" "place" "I") (by decide +kernel)) (fun _ => rfl) dX1_run_36 hf (fun x19 hf => ?_)
          refine lv_iconst (v := (4 : Int32)) hx hb dX1_run_39 (by decide) ?_
          obtain ⟨q20, hq20, hf⟩ := ob hf
          refine r_call1 (va_runV (As := [.ref (ad k2), .int x19, .int (4 : Int32)]) (rest := []) ⟨hx, hb, hml, hown, hts⟩ (c_X4_rowAt hI hA hq20) (cwV 3 hts gX1_run_X4_rowAt rfl rfl rfl (by decide +kernel) ⟨Nat.le_of_ble_eq_true rfl, Nat.le_of_ble_eq_true rfl⟩) (Pf_V (XCb A) (XCo A) hX hK hP hS obX4 rfl) rfl rfl hl.1 rfl (lv_room (Nat.le_of_ble_eq_true rfl)) dX1_run_40 ⟨Nat.zero_le _, Nat.zero_le _⟩) hS (fun H locs hP hS => ?_)
          refine r_oq hf (fun hf => ?_) (fun k21 hf => ?_)
          · refine lv_astoreN (lv' := [(6, .null), (0, .ref (ad 1)), (1, .ref (ad p0)), (2, .int p1), (3, .ref (ad k2)), (4, .int x3), (5, .int x4)]) hx hb dX1_run_43 hl (by decide) rfl (fun ls hl => ?_)
            refine lv_aloadN hx hb dX1_run_45 (lv_at hl 0 rfl) ?_
            refine lv_ifnonnullN hx hb dX1_run_47 ?_
            refine lv_iconst (v := (1 : Int32)) hx hb dX1_run_50 (by decide) ?_
            refine lv_goto (tgt := 70) hx hb dX1_run_51 (by decide) ?_
            refine lv_istore (lv' := [(4, .int (1 : Int32)), (6, .null), (0, .ref (ad 1)), (1, .ref (ad p0)), (2, .int p1), (3, .ref (ad k2)), (5, .int x4)]) hx hb dX1_run_70 hl (by decide) rfl (fun ls hl => ?_)
            refine lv_iinc (v := x4 + (1 : Int32)) (lv' := [(5, .int (x4 + (1 : Int32))), (4, .int (1 : Int32)), (6, .null), (0, .ref (ad 1)), (1, .ref (ad p0)), (2, .int p1), (3, .ref (ad k2))]) hx hb dX1_run_72 hl (k := 6) rfl rfl (by decide) rfl (fun ls hl => ?_)
            refine lv_goto (tgt := 19) hx hb dX1_run_75 (by decide) ?_
            exact ih (1 : Int32) (x4 + (1 : Int32)) q20.2 _ _ _ hP hS (lv_sub hl [3, 4, 5, 6, 1, 0] rfl) hf
          · refine lv_astore (lv' := [(6, .ref (ad k21)), (0, .ref (ad 1)), (1, .ref (ad p0)), (2, .int p1), (3, .ref (ad k2)), (4, .int x3), (5, .int x4)]) hx hb dX1_run_43 hl (by decide) rfl (fun ls hl => ?_)
            refine lv_aload hx hb dX1_run_45 (lv_at hl 0 rfl) ?_
            refine lv_ifnonnull (tgt := 54) hx hb dX1_run_47 (by decide) ?_
            refine lv_aload_n hx hb dX1_run_54 rfl (lv_at hl 1 rfl) ?_
            refine lv_aload_n hx hb dX1_run_55 rfl (lv_at hl 2 rfl) ?_
            refine lv_aload_n hx hb dX1_run_56 rfl (lv_at hl 4 rfl) ?_
            refine lv_aload hx hb dX1_run_57 (lv_at hl 0 rfl) ?_
            refine lv_aload_n hx hb dX1_run_59 rfl (lv_at hl 2 rfl) ?_
            refine r_geti (j := 9) hx hb hts inX3 hown hK hP isPg_s rfl (by decide) (hts (.fieldLink RX1 54 "PageMonitor$Page" "place" "I") (by decide +kernel)) (fun _ => rfl) dX1_run_60 hf (fun x22 hf => ?_)
            refine lv_bipush (v := (16 : Int32)) hx hb dX1_run_63 (by decide) ?_
            refine lv_irem hx hb dX1_run_65 (by decide) ?_
            refine r_iald hx hb hK hP 0 isI_s rfl dX1_run_66 hf (fun x23 hf => ?_)
            obtain ⟨q24, hq24, hf⟩ := ob hf
            refine r_call1 (va_runV (As := [.ref (ad p0), .ref (ad k2), .int x23]) (rest := []) ⟨hx, hb, hml, hown, hts⟩ (c_X1_obey hI hA hq24) (cwV 3 hts gX1_run_X1_obey rfl rfl rfl (by decide +kernel) ⟨Nat.le_of_ble_eq_true rfl, Nat.le_of_ble_eq_true rfl⟩) (Pf_V (XCb A) (XCo A) hX hK hP hS obX1 rfl) rfl rfl hl.1 rfl (lv_room (Nat.le_of_ble_eq_true rfl)) dX1_run_67 ⟨Nat.zero_le _, Nat.zero_le _⟩) hS (fun H locs hP hS => ?_)
            refine r_top (g := .int) hf (fun x25 hf => ?_)
            refine lv_istore (lv' := [(4, .int x25), (6, .ref (ad k21)), (0, .ref (ad 1)), (1, .ref (ad p0)), (2, .int p1), (3, .ref (ad k2)), (5, .int x4)]) hx hb dX1_run_70 hl (by decide) rfl (fun ls hl => ?_)
            refine lv_iinc (v := x4 + (1 : Int32)) (lv' := [(5, .int (x4 + (1 : Int32))), (4, .int x25), (6, .ref (ad k21)), (0, .ref (ad 1)), (1, .ref (ad p0)), (2, .int p1), (3, .ref (ad k2))]) hx hb dX1_run_72 hl (k := 6) rfl rfl (by decide) rfl (fun ls hl => ?_)
            refine lv_goto (tgt := 19) hx hb dX1_run_75 (by decide) ?_
            exact ih x25 (x4 + (1 : Int32)) q24.2 _ _ _ hP hS (lv_sub hl [3, 4, 5, 6, 1, 0] rfl) hf
  exact LF6 FU (0 : Int32) (0 : Int32) M _ _ _ hP hS (lv_sub hl [3, 4, 5, 2, 1, 0] rfl) hf
