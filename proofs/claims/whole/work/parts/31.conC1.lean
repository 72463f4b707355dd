set_option maxHeartbeats 4000000 in
set_option maxRecDepth 100000 in
theorem c_X4_frameRow {l : Launch} {D : va_G} {ad : Nat → Nat} {cI cZ cP cR : ClassId} {A : Nat → Prop} {M : Mem} {p0 : Int32} {res : (Nat × Mem)} (hI : gInj 143 ad) (hA : ∀ k, k < 143 → A (ad k)) (hf : fX4_frameRow M p0 = some res) : Met l yX4_frameRow wsX4_frameRow { frames := 0, cells := 0, slots := 0, locals := 0 } (va_Pc [.ref (ad 2), .int p0] (Pf D vwCl (tysW cI cZ cP cR) 143 ad (spC ad cI cP cR) (XC A) M)) (Qf D vwCl 143 ad (spC ad cI cP cR) A (some (.ref (ad res.1))) res.2) 0 0 A := by
  refine Met.ofW (cc := cX4_frameRow) (maxL := 2) (ret := (some (.array .int))) (by decide) rfl ?_
  intro p e s m args below meth c s₁ B hml hv
  obtain ⟨rfl, hP, hK, hX⟩ := hv
  have hx := B.exec
  have hb := B.bytes
  have hr := B.returns
  have hts := atoms_spec (ws := wsX4_frameRow) B.pre
  have hown : s.vm.findClass RX4 = some m.cls := findClass_of_methodNamed B.named
  have hlocks := B.notSynchronized
  have inX4 : ∀ w ∈ wsX40, w ∈ wsX4_frameRow := by decide +kernel
  have hS : va_S A s.heap s.heap [] := va_S.rf
  have hl := lv_entry ([.ref (ad 2), .int p0]) (n := 2) (Nat.le_of_ble_eq_true rfl)
  rw [lg_entry_eq]
  generalize (lg_sl ([.ref (ad 2), .int p0]) ++ List.replicate (2 - (lg_sl ([.ref (ad 2), .int p0])).length) Slot.unset).toArray = ls at hl ⊢
  have hl : lv_has ls 2 [(0, .ref (ad 2)), (1, .int p0)] := hl
  rw [fX4_frameRow] at hf
  refine lv_aload_n hx hb dX4_frameRow_0 rfl (lv_at hl 0 rfl) ?_
  refine r_getc (k' := 4) (j := 1) hx hb hts inX4 hown hK hP (obX4) rfl (by decide) (hts (.fieldLink RX4 19 "PageMonitor$Store" "rows" "[[I") (by decide +kernel)) (fun _ => rfl) dX4_frameRow_1 ?_
  refine lv_bipush (v := (20 : Int32)) hx hb dX4_frameRow_4 (by decide) ?_
  refine lv_iload_n hx hb dX4_frameRow_6 rfl (lv_at hl 1 rfl) ?_
  refine lv_iadd hx hb dX4_frameRow_7 ?_
  refine r_aald hx hb hK hP 3 ra4 rfl rfl dX4_frameRow_8 hf (fun k1 hf => ?_)
  obtain rfl := Option.some.inj hf
  exact r_aret hx hb hr (Or.inr ⟨_, rfl⟩) (Or.inr ⟨_, rfl⟩) hlocks hP hS dX4_frameRow_9
set_option maxHeartbeats 4000000 in
set_option maxRecDepth 100000 in
theorem c_X4_claim {l : Launch} {D : va_G} {ad : Nat → Nat} {cI cZ cP cR : ClassId} {A : Nat → Prop} {M : Mem} {p0 : Int32} {p1 : Int32} {p2 : Int32} {res : (Nat × Mem)} (hI : gInj 143 ad) (hA : ∀ k, k < 143 → A (ad k)) (hf : fX4_claim M p0 p1 p2 = some res) : Met l yX4_claim wsX4_claim { frames := 0, cells := 0, slots := 0, locals := 0 } (va_Pc [.ref (ad 2), .int p0, .int p1, .int p2] (Pf D vwCl (tysW cI cZ cP cR) 143 ad (spC ad cI cP cR) (XC A) M)) (Qf D vwCl 143 ad (spC ad cI cP cR) A (some (.ref (ad res.1))) res.2) 0 0 A := by
  refine Met.ofW (cc := cX4_claim) (maxL := 5) (ret := (some (.object "PageMonitor$Page"))) (by decide) rfl ?_
  intro p e s m args below meth c s₁ B hml hv
  obtain ⟨rfl, hP, hK, hX⟩ := hv
  have hx := B.exec
  have hb := B.bytes
  have hr := B.returns
  have hts := atoms_spec (ws := wsX4_claim) B.pre
  have hown : s.vm.findClass RX4 = some m.cls := findClass_of_methodNamed B.named
  have hlocks := B.notSynchronized
  have inX3 : ∀ w ∈ wsX30, w ∈ wsX4_claim := by decide +kernel
  have inX4 : ∀ w ∈ wsX40, w ∈ wsX4_claim := by decide +kernel
  have hS : va_S A s.heap s.heap [] := va_S.rf
  have hl := lv_entry ([.ref (ad 2), .int p0, .int p1, .int p2]) (n := 5) (Nat.le_of_ble_eq_true rfl)
  rw [lg_entry_eq]
  generalize (lg_sl ([.ref (ad 2), .int p0, .int p1, .int p2]) ++ List.replicate (5 - (lg_sl ([.ref (ad 2), .int p0, .int p1, .int p2])).length) Slot.unset).toArray = ls at hl ⊢
  have hl : lv_has ls 5 [(0, .ref (ad 2)), (1, .int p0), (2, .int p1), (3, .int p2)] := hl
  rw [fX4_claim] at hf
  refine lv_aload_n hx hb dX4_claim_0 rfl (lv_at hl 0 rfl) ?_
  refine r_getc (k' := 3) (j := 0) hx hb hts inX4 hown hK hP (obX4) rfl (by decide) (hts (.fieldLink RX4 11 "PageMonitor$Store" "pages" "[LPageMonitor$Page;") (by decide +kernel)) (fun _ => rfl) dX4_claim_1 ?_
  refine lv_iload_n hx hb dX4_claim_4 rfl (lv_at hl 1 rfl) ?_
  refine r_aald hx hb hK hP 2 ra3 rfl rfl dX4_claim_5 hf (fun k1 hf => ?_)
  refine lv_astore (lv' := [(4, .ref (ad k1)), (0, .ref (ad 2)), (1, .int p0), (2, .int p1), (3, .int p2)]) hx hb dX4_claim_6 hl (by decide) rfl (fun ls hl => ?_)
  refine lv_aload hx hb dX4_claim_8 (lv_at hl 0 rfl) ?_
  refine lv_iload_n hx hb dX4_claim_10 rfl (lv_at hl 3 rfl) ?_
  refine r_puti (j := 0) hx hb hts inX3 tyX3 tyX3_ok nmX3 hown hI hA hK hP hS isPg_s rfl (by decide) (hts (.fieldLink RX4 23 "PageMonitor$Page" "kind" "I") (by decide +kernel)) rfl rfl rfl (fun _ => Nat.le_of_ble_eq_true rfl) (fun _ _ => rfl) dX4_claim_11 hf (fun M2 H locs hP hS hf => ?_)
  refine lv_aload hx hb dX4_claim_14 (lv_at hl 0 rfl) ?_
  refine lv_iload_n hx hb dX4_claim_16 rfl (lv_at hl 4 rfl) ?_
  refine r_puti (j := 1) hx hb hts inX3 tyX3 tyX3_ok nmX3 hown hI hA hK hP hS isPg_s rfl (by decide) (hts (.fieldLink RX4 27 "PageMonitor$Page" "owner" "I") (by decide +kernel)) rfl rfl rfl (fun _ => Nat.le_of_ble_eq_true rfl) (fun _ _ => rfl) dX4_claim_17 hf (fun M3 H locs hP hS hf => ?_)
  refine lv_aload hx hb dX4_claim_20 (lv_at hl 0 rfl) ?_
  obtain rfl := Option.some.inj hf
  exact r_aret hx hb hr (Or.inl ⟨_, rfl⟩) (Or.inr ⟨_, rfl⟩) hlocks hP hS dX4_claim_22
set_option maxHeartbeats 4000000 in
set_option maxRecDepth 100000 in
theorem c_X4_countOwnedBy {l : Launch} {D : va_G} {ad : Nat → Nat} {cI cZ cP cR : ClassId} {A : Nat → Prop} {M : Mem} {p0 : Int32} {res : (Int32 × Mem)} (hI : gInj 143 ad) (hA : ∀ k, k < 143 → A (ad k)) (hf : fX4_countOwnedBy M p0 = some res) : Met l yX4_countOwnedBy wsX4_countOwnedBy { frames := 0, cells := 0, slots := 0, locals := 0 } (va_Pc [.ref (ad 2), .int p0] (Pf D vwCl (tysW cI cZ cP cR) 143 ad (spC ad cI cP cR) (XC A) M)) (Qf D vwCl 143 ad (spC ad cI cP cR) A (some (.int res.1)) res.2) 0 0 A := by
  refine Met.ofW (cc := cX4_countOwnedBy) (maxL := 4) (ret := (some .int)) (by decide) rfl ?_
  intro p e s m args below meth c s₁ B hml hv
  obtain ⟨rfl, hP, hK, hX⟩ := hv
  have hx := B.exec
  have hb := B.bytes
  have hr := B.returns
  have hts := atoms_spec (ws := wsX4_countOwnedBy) B.pre
  have hown : s.vm.findClass RX4 = some m.cls := findClass_of_methodNamed B.named
  have hlocks := B.notSynchronized
  have inX3 : ∀ w ∈ wsX30, w ∈ wsX4_countOwnedBy := by decide +kernel
  have inX4 : ∀ w ∈ wsX40, w ∈ wsX4_countOwnedBy := by decide +kernel
  have hS : va_S A s.heap s.heap [] := va_S.rf
  have hl := lv_entry ([.ref (ad 2), .int p0]) (n := 4) (Nat.le_of_ble_eq_true rfl)
  rw [lg_entry_eq]
  generalize (lg_sl ([.ref (ad 2), .int p0]) ++ List.replicate (4 - (lg_sl ([.ref (ad 2), .int p0])).length) Slot.unset).toArray = ls at hl ⊢
  have hl : lv_has ls 4 [(0, .ref (ad 2)), (1, .int p0)] := hl
  rw [fX4_countOwnedBy] at hf
  refine lv_iconst (v := (0 : Int32)) hx hb dX4_countOwnedBy_0 (by decide) ?_
  refine lv_istore_n (lv' := [(2, .int (0 : Int32)), (0, .ref (ad 2)), (1, .int p0)]) hx hb dX4_countOwnedBy_1 rfl hl (by decide) rfl (fun ls hl => ?_)
  refine lv_iconst (v := (0 : Int32)) hx hb dX4_countOwnedBy_2 (by decide) ?_
  refine lv_istore_n (lv' := [(3, .int (0 : Int32)), (2, .int (0 : Int32)), (0, .ref (ad 2)), (1, .int p0)]) hx hb dX4_countOwnedBy_3 rfl hl (by decide) rfl (fun ls hl => ?_)
  refine r_jn hf (fun F4 eF4 hf => ?_)
  have EF4 : ∀ (x5 : Int32) (x6 : Int32) (M7 : Mem) (H : Heap) (locs : List Loc) (ls : Array Slot), va_P D vwCl (gw 143 ad (spC ad cI cP cR) M7) H → va_S A s.heap H locs → lv_has ls 4 [(0, .ref (ad 2)), (1, .int p0), (2, .int x5), (3, .int x6)] → F4 x5 x6 M7 = some res → W p l e (headSpec wsX4_countOwnedBy { frames := 0, cells := 0, slots := 0, locals := 0 }).room s m (([.ref (ad 2), .int p0] : List Value).toArray) below meth c H locs 0 0 (MQ below (Qf D vwCl 143 ad (spC ad cI cP cR) A (some (.int res.1)) res.2) (([.ref (ad 2), .int p0] : List Value).toArray) s 0 0 A) (F0 m 32 ls []) := by
    intro x5 x6 M7 H locs ls hP hS hl hf
    rw [eF4] at hf
    refine lv_iload_n hx hb dX4_countOwnedBy_32 rfl (lv_at hl 2 rfl) ?_
    obtain rfl := Option.some.inj hf
    exact r_iret hx hb hr hlocks hP hS dX4_countOwnedBy_33
  have LF4 : ∀ (n : Nat) (x1 : Int32) (x2 : Int32) (M3 : Mem) (H : Heap) (locs : List Loc) (ls : Array Slot), va_P D vwCl (gw 143 ad (spC ad cI cP cR) M3) H → va_S A s.heap H locs → lv_has ls 4 [(0, .ref (ad 2)), (1, .int p0), (2, .int x1), (3, .int x2)] → lp_X4_countOwnedBy_4 p0 F4 n x1 x2 M3 = some res → W p l e (headSpec wsX4_countOwnedBy { frames := 0, cells := 0, slots := 0, locals := 0 }).room s m (([.ref (ad 2), .int p0] : List Value).toArray) below meth c H locs 0 0 (MQ below (Qf D vwCl 143 ad (spC ad cI cP cR) A (some (.int res.1)) res.2) (([.ref (ad 2), .int p0] : List Value).toArray) s 0 0 A) (F0 m 4 ls []) := by
    intro n
    induction n with
    | zero =>
      intro x1 x2 M3 H locs ls hP hS hl hf
      exact absurd hf (fun h => nomatch h)
    | succ n ih =>
      intro x1 x2 M3 H locs ls hP hS hl hf
      rw [lp_X4_countOwnedBy_4_s] at hf
      refine lv_iload_n hx hb dX4_countOwnedBy_4 rfl (lv_at hl 3 rfl) ?_
      refine lv_bipush (v := (20 : Int32)) hx hb dX4_countOwnedBy_5 (by decide) ?_
      refine r_icmp_ge (tgt := 32) hx hb dX4_countOwnedBy_7 (by decide) hf (fun hf => ?_) (fun hf => ?_)
      · exact EF4 x1 x2 M3 _ _ _ hP hS (lv_sub hl [0, 1, 2, 3] rfl) hf
      · refine lv_aload_n hx hb dX4_countOwnedBy_10 rfl (lv_at hl 0 rfl) ?_
        refine r_getc (k' := 3) (j := 0) hx hb hts inX4 hown hK hP (obX4) rfl (by decide) (hts (.fieldLink RX4 11 "PageMonitor$Store" "pages" "[LPageMonitor$Page;") (by decide +kernel)) (fun _ => rfl) dX4_countOwnedBy_11 ?_
        refine lv_iload_n hx hb dX4_countOwnedBy_14 rfl (lv_at hl 3 rfl) ?_
        refine r_aald hx hb hK hP 2 ra3 rfl rfl dX4_countOwnedBy_15 hf (fun k8 hf => ?_)
        refine r_geti (j := 1) hx hb hts inX3 hown hK hP isPg_s rfl (by decide) (hts (.fieldLink RX4 27 "PageMonitor$Page" "owner" "I") (by decide +kernel)) (fun _ => rfl) dX4_countOwnedBy_16 hf (fun x9 hf => ?_)
        refine lv_iload_n hx hb dX4_countOwnedBy_19 rfl (lv_at hl 1 rfl) ?_
        refine r_jn hf (fun K11 eK11 hf => ?_)
        have JK11 : ∀ (x10 : Int32) (H : Heap) (locs : List Loc) (ls : Array Slot), va_P D vwCl (gw 143 ad (spC ad cI cP cR) M3) H → va_S A s.heap H locs → lv_has ls 4 [(0, .ref (ad 2)), (1, .int p0), (2, .int x10), (3, .int x2)] → K11 x10 = some res → W p l e (headSpec wsX4_countOwnedBy { frames := 0, cells := 0, slots := 0, locals := 0 }).room s m (([.ref (ad 2), .int p0] : List Value).toArray) below meth c H locs 0 0 (MQ below (Qf D vwCl 143 ad (spC ad cI cP cR) A (some (.int res.1)) res.2) (([.ref (ad 2), .int p0] : List Value).toArray) s 0 0 A) (F0 m 26 ls []) := by
          intro x10 H locs ls hP hS hl hf
          rw [eK11] at hf
          refine lv_iinc (v := x2 + (1 : Int32)) (lv' := [(3, .int (x2 + (1 : Int32))), (0, .ref (ad 2)), (1, .int p0), (2, .int x10)]) hx hb dX4_countOwnedBy_26 hl (k := 3) rfl rfl (by decide) rfl (fun ls hl => ?_)
          refine lv_goto (tgt := 4) hx hb dX4_countOwnedBy_29 (by decide) ?_
          exact ih x10 (x2 + (1 : Int32)) M3 _ _ _ hP hS (lv_sub hl [1, 2, 3, 0] rfl) hf
        refine r_icmp_ne (tgt := 26) hx hb dX4_countOwnedBy_20 (by decide) hf (fun hf => ?_) (fun hf => ?_)
        · exact JK11 x1 _ _ _ hP hS (lv_sub hl [0, 1, 2, 3] rfl) hf
        · refine lv_iinc (v := x1 + (1 : Int32)) (lv' := [(2, .int (x1 + (1 : Int32))), (0, .ref (ad 2)), (1, .int p0), (3, .int x2)]) hx hb dX4_countOwnedBy_23 hl (k := 2) rfl rfl (by decide) rfl (fun ls hl => ?_)
          exact JK11 (x1 + (1 : Int32)) _ _ _ hP hS (lv_sub hl [1, 2, 0, 3] rfl) hf
  exact LF4 FU (0 : Int32) (0 : Int32) M _ _ _ hP hS (lv_sub hl [2, 3, 1, 0] rfl) hf
set_option maxHeartbeats 4000000 in
set_option maxRecDepth 100000 in
theorem c_X4_entriesFor {l : Launch} {D : va_G} {ad : Nat → Nat} {cI cZ cP cR : ClassId} {A : Nat → Prop} {M : Mem} {p0 : Nat} {p1 : Int32} {res : (Option Nat × Mem)} (hI : gInj 143 ad) (hA : ∀ k, k < 143 → A (ad k)) (hf : fX4_entriesFor M p0 p1 = some res) : Met l yX4_entriesFor wsX4_entriesFor { frames := 1, cells := 0, slots := 0, locals := 20 } (va_Pc [.ref (ad 2), .ref (ad p0), .int p1] (Pf D vwCl (tysW cI cZ cP cR) 143 ad (spC ad cI cP cR) (XC A) M)) (Qf D vwCl 143 ad (spC ad cI cP cR) A (some (va_rf (res.1.map ad))) res.2) 0 0 A := by
  refine Met.ofW (cc := cX4_entriesFor) (maxL := 4) (ret := (some (.array .int))) (by decide) rfl ?_
  intro p e s m args below meth c s₁ B hml hv
  obtain ⟨rfl, hP, hK, hX⟩ := hv
  have hx := B.exec
  have hb := B.bytes
  have hr := B.returns
  have hts := atoms_spec (ws := wsX4_entriesFor) B.pre
  have hown : s.vm.findClass RX4 = some m.cls := findClass_of_methodNamed B.named
  have hlocks := B.notSynchronized
  have inX3 : ∀ w ∈ wsX30, w ∈ wsX4_entriesFor := by decide +kernel
  have inX4 : ∀ w ∈ wsX40, w ∈ wsX4_entriesFor := by decide +kernel
  have hS : va_S A s.heap s.heap [] := va_S.rf
  have hl := lv_entry ([.ref (ad 2), .ref (ad p0), .int p1]) (n := 4) (Nat.le_of_ble_eq_true rfl)
  rw [lg_entry_eq]
  generalize (lg_sl ([.ref (ad 2), .ref (ad p0), .int p1]) ++ List.replicate (4 - (lg_sl ([.ref (ad 2), .ref (ad p0), .int p1])).length) Slot.unset).toArray = ls at hl ⊢
  have hl : lv_has ls 4 [(0, .ref (ad 2)), (1, .ref (ad p0)), (2, .int p1)] := hl
  rw [fX4_entriesFor] at hf
  refine lv_iload_n hx hb dX4_entriesFor_0 rfl (lv_at hl 2 rfl) ?_
  obtain ⟨q1, hq1, hf⟩ := ob hf
  refine r_call1 (va_runSN (As := [.int p1]) (rest := []) ⟨hx, hb, hml, hown, hts⟩ (c_X5_isBlock hI hA hq1) ⟨va_cnB 1 hts gX4_entriesFor_X5_isBlock_n30 rfl rfl rfl (nw30 hX) (hts (.initialized RX5) (by decide +kernel)) (by decide +kernel) ⟨Nat.le_of_ble_eq_true rfl, Nat.le_of_ble_eq_true rfl⟩, hts (.static yX5_isBlock) (by decide +kernel), trivial⟩ (Pf_S (XCb A) (XCo A) hX hK hP hS) rfl rfl hl.1 rfl (lv_room (Nat.le_of_ble_eq_true rfl)) dX4_entriesFor_1 ⟨Nat.zero_le _, Nat.zero_le _⟩) hS (fun H locs hP hS => ?_)
  refine r_if_ne (tgt := 9) hx hb dX4_entriesFor_4 (by decide) hf (fun hf => ?_) (fun hf => ?_)
  · refine lv_aload_n hx hb dX4_entriesFor_9 rfl (lv_at hl 1 rfl) ?_
    refine r_getr (k' := p0 + 1) (j := 5) hx hb hts inX3 hown hK hP isPg_s rfl (by decide) (hts (.fieldLink RX4 34 "PageMonitor$Page" "tables" "[I") (by decide +kernel)) (fun _ => rfl) dX4_entriesFor_10 hf (fun hf => ?_)
    refine lv_iload_n hx hb dX4_entriesFor_13 rfl (lv_at hl 2 rfl) ?_
    refine lv_bipush (v := (8 : Int32)) hx hb dX4_entriesFor_14 (by decide) ?_
    refine lv_idiv hx hb dX4_entriesFor_16 (by decide) ?_
    refine r_iald hx hb hK hP 0 isI_s rfl dX4_entriesFor_17 hf (fun x2 hf => ?_)
    refine lv_istore_n (lv' := [(3, .int x2), (0, .ref (ad 2)), (1, .ref (ad p0)), (2, .int p1)]) hx hb dX4_entriesFor_18 rfl hl (by decide) rfl (fun ls hl => ?_)
    refine lv_iload_n hx hb dX4_entriesFor_19 rfl (lv_at hl 0 rfl) ?_
    refine lv_iconst (v := (-1 : Int32)) hx hb dX4_entriesFor_20 (by decide) ?_
    refine r_icmp_ne (tgt := 28) hx hb dX4_entriesFor_21 (by decide) hf (fun hf => ?_) (fun hf => ?_)
    · refine lv_aload_n hx hb dX4_entriesFor_28 rfl (lv_at hl 1 rfl) ?_
      refine r_getc (k' := 3) (j := 0) hx hb hts inX4 hown hK hP (obX4) rfl (by decide) (hts (.fieldLink RX4 11 "PageMonitor$Store" "pages" "[LPageMonitor$Page;") (by decide +kernel)) (fun _ => rfl) dX4_entriesFor_29 ?_
      refine lv_iload_n hx hb dX4_entriesFor_32 rfl (lv_at hl 0 rfl) ?_
      refine r_aald hx hb hK hP 2 ra3 rfl rfl dX4_entriesFor_33 hf (fun k4 hf => ?_)
      refine r_getr (k' := k4 + 4) (j := 11) hx hb hts inX3 hown hK hP isPg_s rfl (by decide) (hts (.fieldLink RX4 38 "PageMonitor$Page" "entries" "[I") (by decide +kernel)) (fun _ => rfl) dX4_entriesFor_34 hf (fun hf => ?_)
      obtain rfl := Option.some.inj hf
      exact r_aret hx hb hr (Or.inr ⟨_, rfl⟩) (Or.inr ⟨_, rfl⟩) hlocks hP hS dX4_entriesFor_37
    · refine lv_null hx hb dX4_entriesFor_24 ?_
      refine lv_goto (tgt := 37) hx hb dX4_entriesFor_25 (by decide) ?_
      obtain rfl := Option.some.inj hf
      exact r_aret hx hb hr (Or.inr ⟨_, rfl⟩) (Or.inl rfl) hlocks hP hS dX4_entriesFor_37
  · refine lv_null hx hb dX4_entriesFor_7 ?_
    obtain rfl := Option.some.inj hf
    exact r_aret hx hb hr (Or.inr ⟨_, rfl⟩) (Or.inl rfl) hlocks hP hS dX4_entriesFor_8
set_option maxHeartbeats 4000000 in
set_option maxRecDepth 100000 in
theorem c_X4_hasRoom {l : Launch} {D : va_G} {ad : Nat → Nat} {cI cZ cP cR : ClassId} {A : Nat → Prop} {M : Mem} {p0 : Nat} {p1 : Int32} {res : (Int32 × Mem)} (hI : gInj 143 ad) (hA : ∀ k, k < 143 → A (ad k)) (hf : fX4_hasRoom M p0 p1 = some res) : Met l yX4_hasRoom wsX4_hasRoom { frames := 2, cells := 0, slots := 0, locals := 43 } (va_Pc [.ref (ad 2), .ref (ad p0), .int p1] (Pf D vwCl (tysW cI cZ cP cR) 143 ad (spC ad cI cP cR) (XC A) M)) (Qf D vwCl 143 ad (spC ad cI cP cR) A (some (.int res.1)) res.2) 0 0 A := by
  refine Met.ofW (cc := cX4_hasRoom) (maxL := 4) (ret := (some .boolean)) (by decide) rfl ?_
  intro p e s m args below meth c s₁ B hml hv
  obtain ⟨rfl, hP, hK, hX⟩ := hv
  have hx := B.exec
  have hb := B.bytes
  have hr := B.returns
  have hts := atoms_spec (ws := wsX4_hasRoom) B.pre
  have hown : s.vm.findClass RX4 = some m.cls := findClass_of_methodNamed B.named
  have hlocks := B.notSynchronized
  have hS : va_S A s.heap s.heap [] := va_S.rf
  have hl := lv_entry ([.ref (ad 2), .ref (ad p0), .int p1]) (n := 4) (Nat.le_of_ble_eq_true rfl)
  rw [lg_entry_eq]
  generalize (lg_sl ([.ref (ad 2), .ref (ad p0), .int p1]) ++ List.replicate (4 - (lg_sl ([.ref (ad 2), .ref (ad p0), .int p1])).length) Slot.unset).toArray = ls at hl ⊢
  have hl : lv_has ls 4 [(0, .ref (ad 2)), (1, .ref (ad p0)), (2, .int p1)] := hl
  rw [fX4_hasRoom] at hf
  refine lv_aload_n hx hb dX4_hasRoom_0 rfl (lv_at hl 0 rfl) ?_
  refine lv_aload_n hx hb dX4_hasRoom_1 rfl (lv_at hl 1 rfl) ?_
  refine lv_iload_n hx hb dX4_hasRoom_2 rfl (lv_at hl 2 rfl) ?_
  obtain ⟨q1, hq1, hf⟩ := ob hf
  refine r_call1 (va_runV (As := [.ref (ad p0), .int p1]) (rest := []) ⟨hx, hb, hml, hown, hts⟩ (c_X4_entriesFor hI hA hq1) (cwV 2 hts gX4_hasRoom_X4_entriesFor rfl rfl rfl (by decide +kernel) ⟨Nat.le_of_ble_eq_true rfl, Nat.le_of_ble_eq_true rfl⟩) (Pf_V (XCb A) (XCo A) hX hK hP hS obX4 rfl) rfl rfl hl.1 rfl (lv_room (Nat.le_of_ble_eq_true rfl)) dX4_hasRoom_3 ⟨Nat.zero_le _, Nat.zero_le _⟩) hS (fun H locs hP hS => ?_)
  refine r_oq hf (fun hf => ?_) (fun k2 hf => ?_)
  · refine lv_astore_nN (lv' := [(3, .null), (0, .ref (ad 2)), (1, .ref (ad p0)), (2, .int p1)]) hx hb dX4_hasRoom_6 rfl hl (by decide) rfl (fun ls hl => ?_)
    refine lv_aload_nN hx hb dX4_hasRoom_7 rfl (lv_at hl 0 rfl) ?_
    refine lv_ifnullN (tgt := 24) hx hb dX4_hasRoom_8 (by decide) ?_
    refine lv_iconst (v := (0 : Int32)) hx hb dX4_hasRoom_24 (by decide) ?_
    obtain rfl := Option.some.inj hf
    exact r_zret hx hb hr (isB_n (x := (0 : Int32)) (by decide)) hlocks hP hS dX4_hasRoom_25
  · refine lv_astore_n (lv' := [(3, .ref (ad k2)), (0, .ref (ad 2)), (1, .ref (ad p0)), (2, .int p1)]) hx hb dX4_hasRoom_6 rfl hl (by decide) rfl (fun ls hl => ?_)
    refine lv_aload_n hx hb dX4_hasRoom_7 rfl (lv_at hl 0 rfl) ?_
    refine lv_ifnull hx hb dX4_hasRoom_8 ?_
    refine lv_aload_n hx hb dX4_hasRoom_11 rfl (lv_at hl 0 rfl) ?_
    refine lv_iload_n hx hb dX4_hasRoom_12 rfl (lv_at hl 3 rfl) ?_
    refine lv_bipush (v := (8 : Int32)) hx hb dX4_hasRoom_13 (by decide) ?_
    refine lv_irem hx hb dX4_hasRoom_15 (by decide) ?_
    refine r_iald hx hb hK hP 0 isI_s rfl dX4_hasRoom_16 hf (fun x3 hf => ?_)
    refine r_jn hf (fun K5 eK5 hf => ?_)
    have JK5 : ∀ (x4 : Int32) (H : Heap) (locs : List Loc) (ls : Array Slot), va_P D vwCl (gw 143 ad (spC ad cI cP cR) q1.2) H → va_S A s.heap H locs → lv_has ls 4 [(0, .ref (ad 2)), (1, .ref (ad p0)), (2, .int p1), (3, .ref (ad k2))] → K5 x4 = some res → W p l e (headSpec wsX4_hasRoom { frames := 2, cells := 0, slots := 0, locals := 43 }).room s m (([.ref (ad 2), .ref (ad p0), .int p1] : List Value).toArray) below meth c H locs 0 0 (MQ below (Qf D vwCl 143 ad (spC ad cI cP cR) A (some (.int res.1)) res.2) (([.ref (ad 2), .ref (ad p0), .int p1] : List Value).toArray) s 0 0 A) (F0 m 25 ls [.int x4]) := by
      intro x4 H locs ls hP hS hl hf
      rw [eK5] at hf
      obtain ⟨hz, hf⟩ := gd_s hf
      obtain rfl := Option.some.inj hf
      exact r_zret hx hb hr (isB_n hz) hlocks hP hS dX4_hasRoom_25
    refine r_if_ne (tgt := 24) hx hb dX4_hasRoom_17 (by decide) hf (fun hf => ?_) (fun hf => ?_)
    · refine lv_iconst (v := (0 : Int32)) hx hb dX4_hasRoom_24 (by decide) ?_
      exact JK5 (0 : Int32) _ _ _ hP hS (lv_sub hl [1, 2, 3, 0] rfl) hf
    · refine lv_iconst (v := (1 : Int32)) hx hb dX4_hasRoom_20 (by decide) ?_
      refine lv_goto (tgt := 25) hx hb dX4_hasRoom_21 (by decide) ?_
      exact JK5 (1 : Int32) _ _ _ hP hS (lv_sub hl [1, 2, 3, 0] rfl) hf
set_option maxHeartbeats 4000000 in
set_option maxRecDepth 100000 in
theorem c_X4_map {l : Launch} {D : va_G} {ad : Nat → Nat} {cI cZ cP cR : ClassId} {A : Nat → Prop} {M : Mem} {p0 : Nat} {p1 : Int32} {p2 : Int32} {p3 : Int32} {res : Mem} (hI : gInj 143 ad) (hA : ∀ k, k < 143 → A (ad k)) (hf : fX4_map M p0 p1 p2 p3 = some res) : Met l yX4_map wsX4_map { frames := 2, cells := 0, slots := 0, locals := 43 } (va_Pc [.ref (ad 2), .ref (ad p0), .int p1, .int p2, .int p3] (Pf D vwCl (tysW cI cZ cP cR) 143 ad (spC ad cI cP cR) (XC A) M)) (Qf D vwCl 143 ad (spC ad cI cP cR) A none res) 0 0 A := by
  refine Met.ofW (cc := cX4_map) (maxL := 6) (ret := none) (by decide) rfl ?_
  intro p e s m args below meth c s₁ B hml hv
  obtain ⟨rfl, hP, hK, hX⟩ := hv
  have hx := B.exec
  have hb := B.bytes
  have hr := B.returns
  have hts := atoms_spec (ws := wsX4_map) B.pre
  have hown : s.vm.findClass RX4 = some m.cls := findClass_of_methodNamed B.named
  have hlocks := B.notSynchronized
  have hS : va_S A s.heap s.heap [] := va_S.rf
  have hl := lv_entry ([.ref (ad 2), .ref (ad p0), .int p1, .int p2, .int p3]) (n := 6) (Nat.le_of_ble_eq_true rfl)
  rw [lg_entry_eq]
  generalize (lg_sl ([.ref (ad 2), .ref (ad p0), .int p1, .int p2, .int p3]) ++ List.replicate (6 - (lg_sl ([.ref (ad 2), .ref (ad p0), .int p1, .int p2, .int p3])).length) Slot.unset).toArray = ls at hl ⊢
  have hl : lv_has ls 6 [(0, .ref (ad 2)), (1, .ref (ad p0)), (2, .int p1), (3, .int p2), (4, .int p3)] := hl
  rw [fX4_map] at hf
  refine lv_aload_n hx hb dX4_map_0 rfl (lv_at hl 0 rfl) ?_
  refine lv_aload_n hx hb dX4_map_1 rfl (lv_at hl 1 rfl) ?_
  refine lv_iload_n hx hb dX4_map_2 rfl (lv_at hl 2 rfl) ?_
  obtain ⟨q1, hq1, hf⟩ := ob hf
  refine r_call1 (va_runV (As := [.ref (ad p0), .int p1]) (rest := []) ⟨hx, hb, hml, hown, hts⟩ (c_X4_entriesFor hI hA hq1) (cwV 2 hts gX4_map_X4_entriesFor rfl rfl rfl (by decide +kernel) ⟨Nat.le_of_ble_eq_true rfl, Nat.le_of_ble_eq_true rfl⟩) (Pf_V (XCb A) (XCo A) hX hK hP hS obX4 rfl) rfl rfl hl.1 rfl (lv_room (Nat.le_of_ble_eq_true rfl)) dX4_map_3 ⟨Nat.zero_le _, Nat.zero_le _⟩) hS (fun H locs hP hS => ?_)
  refine r_oq hf (fun hf => ?_) (fun k2 hf => ?_)
  · refine lv_astoreN (lv' := [(5, .null), (0, .ref (ad 2)), (1, .ref (ad p0)), (2, .int p1), (3, .int p2), (4, .int p3)]) hx hb dX4_map_6 hl (by decide) rfl (fun ls hl => ?_)
    refine lv_aloadN hx hb dX4_map_8 (lv_at hl 0 rfl) ?_
    refine lv_ifnullN (tgt := 26) hx hb dX4_map_10 (by decide) ?_
    obtain rfl := Option.some.inj hf
    exact r_vret hx hb hr hlocks hP hS dX4_map_26
  · refine lv_astore (lv' := [(5, .ref (ad k2)), (0, .ref (ad 2)), (1, .ref (ad p0)), (2, .int p1), (3, .int p2), (4, .int p3)]) hx hb dX4_map_6 hl (by decide) rfl (fun ls hl => ?_)
    refine lv_aload hx hb dX4_map_8 (lv_at hl 0 rfl) ?_
    refine lv_ifnull hx hb dX4_map_10 ?_
    refine lv_aload hx hb dX4_map_13 (lv_at hl 0 rfl) ?_
    refine lv_iload_n hx hb dX4_map_15 rfl (lv_at hl 3 rfl) ?_
    refine lv_bipush (v := (8 : Int32)) hx hb dX4_map_16 (by decide) ?_
    refine lv_irem hx hb dX4_map_18 (by decide) ?_
    refine lv_iload_n hx hb dX4_map_19 rfl (lv_at hl 4 rfl) ?_
    refine lv_iconst (v := (3 : Int32)) hx hb dX4_map_20 (by decide) ?_
    refine lv_ishl hx hb dX4_map_21 ?_
    refine lv_iload hx hb dX4_map_22 (lv_at hl 5 rfl) ?_
    refine lv_ior hx hb dX4_map_24 ?_
    refine r_iast hx hb hI hA hK hP hS 0 isI_s rfl dX4_map_25 hf (fun M3 H locs hP hS hf => ?_)
    obtain rfl := Option.some.inj hf
    exact r_vret hx hb hr hlocks hP hS dX4_map_26
set_option maxHeartbeats 4000000 in
set_option maxRecDepth 100000 in
theorem c_X4_rowAt {l : Launch} {D : va_G} {ad : Nat → Nat} {cI cZ cP cR : ClassId} {A : Nat → Prop} {M : Mem} {p0 : Nat} {p1 : Int32} {p2 : Int32} {res : (Option Nat × Mem)} (hI : gInj 143 ad) (hA : ∀ k, k < 143 → A (ad k)) (hf : fX4_rowAt M p0 p1 p2 = some res) : Met l yX4_rowAt wsX4_rowAt { frames := 2, cells := 0, slots := 0, locals := 43 } (va_Pc [.ref (ad 2), .ref (ad p0), .int p1, .int p2] (Pf D vwCl (tysW cI cZ cP cR) 143 ad (spC ad cI cP cR) (XC A) M)) (Qf D vwCl 143 ad (spC ad cI cP cR) A (some (va_rf (res.1.map ad))) res.2) 0 0 A := by
  refine Met.ofW (cc := cX4_rowAt) (maxL := 7) (ret := (some (.array .int))) (by decide) rfl ?_
  intro p e s m args below meth c s₁ B hml hv
  obtain ⟨rfl, hP, hK, hX⟩ := hv
  have hx := B.exec
  have hb := B.bytes
  have hr := B.returns
  have hts := atoms_spec (ws := wsX4_rowAt) B.pre
  have hown : s.vm.findClass RX4 = some m.cls := findClass_of_methodNamed B.named
  have hlocks := B.notSynchronized
  have inX4 : ∀ w ∈ wsX40, w ∈ wsX4_rowAt := by decide +kernel
  have hS : va_S A s.heap s.heap [] := va_S.rf
  have hl := lv_entry ([.ref (ad 2), .ref (ad p0), .int p1, .int p2]) (n := 7) (Nat.le_of_ble_eq_true rfl)
  rw [lg_entry_eq]
  generalize (lg_sl ([.ref (ad 2), .ref (ad p0), .int p1, .int p2]) ++ List.replicate (7 - (lg_sl ([.ref (ad 2), .ref (ad p0), .int p1, .int p2])).length) Slot.unset).toArray = ls at hl ⊢
  have hl : lv_has ls 7 [(0, .ref (ad 2)), (1, .ref (ad p0)), (2, .int p1), (3, .int p2)] := hl
  rw [fX4_rowAt] at hf
  refine lv_iload_n hx hb dX4_rowAt_0 rfl (lv_at hl 2 rfl) ?_
  refine r_if_lt (tgt := 11) hx hb dX4_rowAt_1 (by decide) hf (fun hf => ?_) (fun hf => ?_)
  · refine lv_null hx hb dX4_rowAt_11 ?_
    obtain rfl := Option.some.inj hf
    exact r_aret hx hb hr (Or.inr ⟨_, rfl⟩) (Or.inl rfl) hlocks hP hS dX4_rowAt_12
  · refine lv_iload_n hx hb dX4_rowAt_4 rfl (lv_at hl 2 rfl) ?_
    refine lv_sipush (v := (512 : Int32)) hx hb dX4_rowAt_5 (by decide) ?_
    refine r_icmp_lt (tgt := 13) hx hb dX4_rowAt_8 (by decide) hf (fun hf => ?_) (fun hf => ?_)
    · refine lv_iload_n hx hb dX4_rowAt_13 rfl (lv_at hl 2 rfl) ?_
      refine lv_bipush (v := (16 : Int32)) hx hb dX4_rowAt_14 (by decide) ?_
      refine lv_idiv hx hb dX4_rowAt_16 (by decide) ?_
      refine r_top (g := .int) hf (fun x1 hf => ?_)
      refine lv_istore (lv' := [(4, .int x1), (0, .ref (ad 2)), (1, .ref (ad p0)), (2, .int p1), (3, .int p2)]) hx hb dX4_rowAt_17 hl (by decide) rfl (fun ls hl => ?_)
      refine lv_aload_n hx hb dX4_rowAt_19 rfl (lv_at hl 1 rfl) ?_
      refine lv_aload_n hx hb dX4_rowAt_20 rfl (lv_at hl 2 rfl) ?_
      refine lv_iload hx hb dX4_rowAt_21 (lv_at hl 0 rfl) ?_
      obtain ⟨q2, hq2, hf⟩ := ob hf
      refine r_call1 (va_runV (As := [.ref (ad p0), .int x1]) (rest := []) ⟨hx, hb, hml, hown, hts⟩ (c_X4_entriesFor hI hA hq2) (cwV 2 hts gX4_rowAt_X4_entriesFor rfl rfl rfl (by decide +kernel) ⟨Nat.le_of_ble_eq_true rfl, Nat.le_of_ble_eq_true rfl⟩) (Pf_V (XCb A) (XCo A) hX hK hP hS obX4 rfl) rfl rfl hl.1 rfl (lv_room (Nat.le_of_ble_eq_true rfl)) dX4_rowAt_23 ⟨Nat.zero_le _, Nat.zero_le _⟩) hS (fun H locs hP hS => ?_)
      refine r_oq hf (fun hf => ?_) (fun k3 hf => ?_)
      · refine lv_astoreN (lv' := [(5, .null), (4, .int x1), (0, .ref (ad 2)), (1, .ref (ad p0)), (2, .int p1), (3, .int p2)]) hx hb dX4_rowAt_26 hl (by decide) rfl (fun ls hl => ?_)
        refine lv_aloadN hx hb dX4_rowAt_28 (lv_at hl 0 rfl) ?_
        refine lv_ifnonnullN hx hb dX4_rowAt_30 ?_
        refine lv_null hx hb dX4_rowAt_33 ?_
        obtain rfl := Option.some.inj hf
        exact r_aret hx hb hr (Or.inr ⟨_, rfl⟩) (Or.inl rfl) hlocks hP hS dX4_rowAt_34
      · refine lv_astore (lv' := [(5, .ref (ad k3)), (4, .int x1), (0, .ref (ad 2)), (1, .ref (ad p0)), (2, .int p1), (3, .int p2)]) hx hb dX4_rowAt_26 hl (by decide) rfl (fun ls hl => ?_)
        refine lv_aload hx hb dX4_rowAt_28 (lv_at hl 0 rfl) ?_
        refine lv_ifnonnull (tgt := 35) hx hb dX4_rowAt_30 (by decide) ?_
        refine lv_aload hx hb dX4_rowAt_35 (lv_at hl 0 rfl) ?_
        refine lv_iload hx hb dX4_rowAt_37 (lv_at hl 1 rfl) ?_
        refine lv_bipush (v := (8 : Int32)) hx hb dX4_rowAt_39 (by decide) ?_
        refine lv_irem hx hb dX4_rowAt_41 (by decide) ?_
        refine r_iald hx hb hK hP 0 isI_s rfl dX4_rowAt_42 hf (fun x4 hf => ?_)
        refine lv_istore (lv' := [(6, .int x4), (5, .ref (ad k3)), (4, .int x1), (0, .ref (ad 2)), (1, .ref (ad p0)), (2, .int p1), (3, .int p2)]) hx hb dX4_rowAt_43 hl (by decide) rfl (fun ls hl => ?_)
        refine lv_iload hx hb dX4_rowAt_45 (lv_at hl 0 rfl) ?_
        refine lv_iload_n hx hb dX4_rowAt_47 rfl (lv_at hl 6 rfl) ?_
        refine lv_iand hx hb dX4_rowAt_48 ?_
        refine r_if_ne (tgt := 56) hx hb dX4_rowAt_49 (by decide) hf (fun hf => ?_) (fun hf => ?_)
        · refine lv_aload_n hx hb dX4_rowAt_56 rfl (lv_at hl 3 rfl) ?_
          refine r_getc (k' := 4) (j := 1) hx hb hts inX4 hown hK hP (obX4) rfl (by decide) (hts (.fieldLink RX4 19 "PageMonitor$Store" "rows" "[[I") (by decide +kernel)) (fun _ => rfl) dX4_rowAt_57 ?_
          refine lv_iload hx hb dX4_rowAt_60 (lv_at hl 0 rfl) ?_
          refine lv_iconst (v := (3 : Int32)) hx hb dX4_rowAt_62 (by decide) ?_
          refine lv_ishr hx hb dX4_rowAt_63 ?_
          refine r_aald hx hb hK hP 3 ra4 rfl rfl dX4_rowAt_64 hf (fun k6 hf => ?_)
          obtain rfl := Option.some.inj hf
          exact r_aret hx hb hr (Or.inr ⟨_, rfl⟩) (Or.inr ⟨_, rfl⟩) hlocks hP hS dX4_rowAt_65
        · refine lv_null hx hb dX4_rowAt_52 ?_
          refine lv_goto (tgt := 65) hx hb dX4_rowAt_53 (by decide) ?_
          obtain rfl := Option.some.inj hf
          exact r_aret hx hb hr (Or.inr ⟨_, rfl⟩) (Or.inl rfl) hlocks hP hS dX4_rowAt_65
    · refine lv_null hx hb dX4_rowAt_11 ?_
      obtain rfl := Option.some.inj hf
      exact r_aret hx hb hr (Or.inr ⟨_, rfl⟩) (Or.inl rfl) hlocks hP hS dX4_rowAt_12
set_option maxHeartbeats 4000000 in
set_option maxRecDepth 100000 in
theorem c_X4_useSpare {l : Launch} {D : va_G} {ad : Nat → Nat} {cI cZ cP cR : ClassId} {A : Nat → Prop} {M : Mem} {p0 : Int32} {p1 : Int32} {p2 : Int32} {p3 : Int32} {res : (Int32 × Mem)} (hI : gInj 143 ad) (hA : ∀ k, k < 143 → A (ad k)) (hf : fX4_useSpare M p0 p1 p2 p3 = some res) : Met l yX4_useSpare wsX4_useSpare { frames := 3, cells := 0, slots := 0, locals := 68 } (va_Pc [.ref (ad 2), .int p0, .int p1, .int p2, .int p3] (Pf D vwCl (tysW cI cZ cP cR) 143 ad (spC ad cI cP cR) (XC A) M)) (Qf D vwCl 143 ad (spC ad cI cP cR) A (some (.int res.1)) res.2) 0 0 A := by
  refine Met.ofW (cc := cX4_useSpare) (maxL := 5) (ret := (some .boolean)) (by decide) rfl ?_
  intro p e s m args below meth c s₁ B hml hv
  obtain ⟨rfl, hP, hK, hX⟩ := hv
  have hx := B.exec
  have hb := B.bytes
  have hr := B.returns
  have hts := atoms_spec (ws := wsX4_useSpare) B.pre
  have hown : s.vm.findClass RX4 = some m.cls := findClass_of_methodNamed B.named
  have hlocks := B.notSynchronized
  have inX3 : ∀ w ∈ wsX30, w ∈ wsX4_useSpare := by decide +kernel
  have inX4 : ∀ w ∈ wsX40, w ∈ wsX4_useSpare := by decide +kernel
  have hS : va_S A s.heap s.heap [] := va_S.rf
  have hl := lv_entry ([.ref (ad 2), .int p0, .int p1, .int p2, .int p3]) (n := 5) (Nat.le_of_ble_eq_true rfl)
  rw [lg_entry_eq]
  generalize (lg_sl ([.ref (ad 2), .int p0, .int p1, .int p2, .int p3]) ++ List.replicate (5 - (lg_sl ([.ref (ad 2), .int p0, .int p1, .int p2, .int p3])).length) Slot.unset).toArray = ls at hl ⊢
  have hl : lv_has ls 5 [(0, .ref (ad 2)), (1, .int p0), (2, .int p1), (3, .int p2), (4, .int p3)] := hl
  rw [fX4_useSpare] at hf
  refine lv_iload_n hx hb dX4_useSpare_0 rfl (lv_at hl 2 rfl) ?_
  obtain ⟨q1, hq1, hf⟩ := ob hf
  refine r_call1 (va_runSN (As := [.int p1]) (rest := []) ⟨hx, hb, hml, hown, hts⟩ (c_X5_isPage hI hA hq1) ⟨va_cnB 1 hts gX4_useSpare_X5_isPage_n45 rfl rfl rfl (nw45 hX) (hts (.initialized RX5) (by decide +kernel)) (by decide +kernel) ⟨Nat.le_of_ble_eq_true rfl, Nat.le_of_ble_eq_true rfl⟩, hts (.static yX5_isPage) (by decide +kernel), trivial⟩ (Pf_S (XCb A) (XCo A) hX hK hP hS) rfl rfl hl.1 rfl (lv_room (Nat.le_of_ble_eq_true rfl)) dX4_useSpare_1 ⟨Nat.zero_le _, Nat.zero_le _⟩) hS (fun H locs hP hS => ?_)
  refine r_if_eq (tgt := 33) hx hb dX4_useSpare_4 (by decide) hf (fun hf => ?_) (fun hf => ?_)
  · refine lv_iconst (v := (0 : Int32)) hx hb dX4_useSpare_33 (by decide) ?_
    obtain rfl := Option.some.inj hf
    exact r_zret hx hb hr (isB_n (x := (0 : Int32)) (by decide)) hlocks hP hS dX4_useSpare_34
  · refine lv_aload_n hx hb dX4_useSpare_7 rfl (lv_at hl 0 rfl) ?_
    refine r_getc (k' := 3) (j := 0) hx hb hts inX4 hown hK hP (obX4) rfl (by decide) (hts (.fieldLink RX4 11 "PageMonitor$Store" "pages" "[LPageMonitor$Page;") (by decide +kernel)) (fun _ => rfl) dX4_useSpare_8 ?_
    refine lv_iload_n hx hb dX4_useSpare_11 rfl (lv_at hl 2 rfl) ?_
    refine r_aald hx hb hK hP 2 ra3 rfl rfl dX4_useSpare_12 hf (fun k2 hf => ?_)
    refine r_geti (j := 0) hx hb hts inX3 hown hK hP isPg_s rfl (by decide) (hts (.fieldLink RX4 23 "PageMonitor$Page" "kind" "I") (by decide +kernel)) (fun _ => rfl) dX4_useSpare_13 hf (fun x3 hf => ?_)
    refine lv_iconst (v := (5 : Int32)) hx hb dX4_useSpare_16 (by decide) ?_
    refine r_icmp_ne (tgt := 33) hx hb dX4_useSpare_17 (by decide) hf (fun hf => ?_) (fun hf => ?_)
    · refine lv_iconst (v := (0 : Int32)) hx hb dX4_useSpare_33 (by decide) ?_
      obtain rfl := Option.some.inj hf
      exact r_zret hx hb hr (isB_n (x := (0 : Int32)) (by decide)) hlocks hP hS dX4_useSpare_34
    · refine lv_aload_n hx hb dX4_useSpare_20 rfl (lv_at hl 0 rfl) ?_
      refine r_getc (k' := 3) (j := 0) hx hb hts inX4 hown hK hP (obX4) rfl (by decide) (hts (.fieldLink RX4 11 "PageMonitor$Store" "pages" "[LPageMonitor$Page;") (by decide +kernel)) (fun _ => rfl) dX4_useSpare_21 ?_
      refine lv_iload_n hx hb dX4_useSpare_24 rfl (lv_at hl 2 rfl) ?_
      refine r_aald hx hb hK hP 2 ra3 rfl rfl dX4_useSpare_25 hf (fun k4 hf => ?_)
      refine r_geti (j := 1) hx hb hts inX3 hown hK hP isPg_s rfl (by decide) (hts (.fieldLink RX4 27 "PageMonitor$Page" "owner" "I") (by decide +kernel)) (fun _ => rfl) dX4_useSpare_26 hf (fun x5 hf => ?_)
      refine lv_iload_n hx hb dX4_useSpare_29 rfl (lv_at hl 1 rfl) ?_
      refine r_icmp_eq (tgt := 35) hx hb dX4_useSpare_30 (by decide) hf (fun hf => ?_) (fun hf => ?_)
      · refine lv_iload hx hb dX4_useSpare_35 (lv_at hl 4 rfl) ?_
        obtain ⟨q6, hq6, hf⟩ := ob hf
        refine r_call1 (va_runSN (As := [.int p3]) (rest := []) ⟨hx, hb, hml, hown, hts⟩ (c_X5_areDataRights hI hA hq6) ⟨va_cnB 1 hts gX4_useSpare_X5_areDataRights_n48 rfl rfl rfl (nw48 hX) (hts (.initialized RX5) (by decide +kernel)) (by decide +kernel) ⟨Nat.le_of_ble_eq_true rfl, Nat.le_of_ble_eq_true rfl⟩, hts (.static yX5_areDataRights) (by decide +kernel), trivial⟩ (Pf_S (XCb A) (XCo A) hX hK hP hS) rfl rfl hl.1 rfl (lv_room (Nat.le_of_ble_eq_true rfl)) dX4_useSpare_37 ⟨Nat.zero_le _, Nat.zero_le _⟩) hS (fun H locs hP hS => ?_)
        refine r_if_eq (tgt := 57) hx hb dX4_useSpare_40 (by decide) hf (fun hf => ?_) (fun hf => ?_)
        · refine lv_iconst (v := (0 : Int32)) hx hb dX4_useSpare_57 (by decide) ?_
          obtain rfl := Option.some.inj hf
          exact r_zret hx hb hr (isB_n (x := (0 : Int32)) (by decide)) hlocks hP hS dX4_useSpare_58
        · refine lv_aload_n hx hb dX4_useSpare_43 rfl (lv_at hl 0 rfl) ?_
          refine lv_aload_n hx hb dX4_useSpare_44 rfl (lv_at hl 0 rfl) ?_
          refine r_getc (k' := 3) (j := 0) hx hb hts inX4 hown hK hP (obX4) rfl (by decide) (hts (.fieldLink RX4 11 "PageMonitor$Store" "pages" "[LPageMonitor$Page;") (by decide +kernel)) (fun _ => rfl) dX4_useSpare_45 ?_
          refine lv_iload_n hx hb dX4_useSpare_48 rfl (lv_at hl 1 rfl) ?_
          refine r_aald hx hb hK hP 2 ra3 rfl rfl dX4_useSpare_49 hf (fun k7 hf => ?_)
          refine lv_iload_n hx hb dX4_useSpare_50 rfl (lv_at hl 3 rfl) ?_
          obtain ⟨q8, hq8, hf⟩ := ob hf
          refine r_call1 (va_runV (As := [.ref (ad k7), .int p2]) (rest := []) ⟨hx, hb, hml, hown, hts⟩ (c_X4_hasRoom hI hA hq8) (cwV 2 hts gX4_useSpare_X4_hasRoom rfl rfl rfl (by decide +kernel) ⟨Nat.le_of_ble_eq_true rfl, Nat.le_of_ble_eq_true rfl⟩) (Pf_V (XCb A) (XCo A) hX hK hP hS obX4 rfl) rfl rfl hl.1 rfl (lv_room (Nat.le_of_ble_eq_true rfl)) dX4_useSpare_51 ⟨Nat.zero_le _, Nat.zero_le _⟩) hS (fun H locs hP hS => ?_)
          refine r_if_ne (tgt := 59) hx hb dX4_useSpare_54 (by decide) hf (fun hf => ?_) (fun hf => ?_)
          · refine lv_aload_n hx hb dX4_useSpare_59 rfl (lv_at hl 0 rfl) ?_
            refine r_getc (k' := 3) (j := 0) hx hb hts inX4 hown hK hP (obX4) rfl (by decide) (hts (.fieldLink RX4 11 "PageMonitor$Store" "pages" "[LPageMonitor$Page;") (by decide +kernel)) (fun _ => rfl) dX4_useSpare_60 ?_
            refine lv_iload_n hx hb dX4_useSpare_63 rfl (lv_at hl 2 rfl) ?_
            refine r_aald hx hb hK hP 2 ra3 rfl rfl dX4_useSpare_64 hf (fun k9 hf => ?_)
            refine lv_iconst (v := (4 : Int32)) hx hb dX4_useSpare_65 (by decide) ?_
            refine r_puti (j := 0) hx hb hts inX3 tyX3 tyX3_ok nmX3 hown hI hA hK hP hS isPg_s rfl (by decide) (hts (.fieldLink RX4 23 "PageMonitor$Page" "kind" "I") (by decide +kernel)) rfl rfl rfl (fun _ => Nat.le_of_ble_eq_true rfl) (fun _ _ => rfl) dX4_useSpare_66 hf (fun M10 H locs hP hS hf => ?_)
            refine lv_aload_n hx hb dX4_useSpare_69 rfl (lv_at hl 0 rfl) ?_
            refine r_getc (k' := 4) (j := 1) hx hb hts inX4 hown hK hP (obX4) rfl (by decide) (hts (.fieldLink RX4 19 "PageMonitor$Store" "rows" "[[I") (by decide +kernel)) (fun _ => rfl) dX4_useSpare_70 ?_
            refine lv_iload_n hx hb dX4_useSpare_73 rfl (lv_at hl 2 rfl) ?_
            refine r_aald hx hb hK hP 3 ra4 rfl rfl dX4_useSpare_74 hf (fun k11 hf => ?_)
            refine lv_iconst (v := (0 : Int32)) hx hb dX4_useSpare_75 (by decide) ?_
            obtain ⟨q12, hq12, hf⟩ := ob hf
            refine r_callv (va_runS (As := [.ref (ad k11), .int (0 : Int32)]) (rest := []) ⟨hx, hb, hml, hown, hts⟩ (c_J7_fill_53178 hI hA hq12) (va_cwS 2 hts gX4_useSpare_J7_fill_53178 rfl rfl rfl (by decide +kernel) ⟨Nat.le_of_ble_eq_true rfl, Nat.le_of_ble_eq_true rfl⟩) (Pf_S (XCb A) (XCo A) hX hK hP hS) rfl rfl hl.1 rfl (lv_room (Nat.le_of_ble_eq_true rfl)) dX4_useSpare_76 ⟨Nat.zero_le _, Nat.zero_le _⟩) hS (fun H locs hP hS => ?_)
            refine lv_aload_n hx hb dX4_useSpare_79 rfl (lv_at hl 0 rfl) ?_
            refine lv_aload_n hx hb dX4_useSpare_80 rfl (lv_at hl 0 rfl) ?_
            refine r_getc (k' := 3) (j := 0) hx hb hts inX4 hown hK hP (obX4) rfl (by decide) (hts (.fieldLink RX4 11 "PageMonitor$Store" "pages" "[LPageMonitor$Page;") (by decide +kernel)) (fun _ => rfl) dX4_useSpare_81 ?_
            refine lv_iload_n hx hb dX4_useSpare_84 rfl (lv_at hl 1 rfl) ?_
            refine r_aald hx hb hK hP 2 ra3 rfl rfl dX4_useSpare_85 hf (fun k13 hf => ?_)
            refine lv_iload_n hx hb dX4_useSpare_86 rfl (lv_at hl 3 rfl) ?_
            refine lv_iload_n hx hb dX4_useSpare_87 rfl (lv_at hl 2 rfl) ?_
            refine lv_iload hx hb dX4_useSpare_88 (lv_at hl 4 rfl) ?_
            obtain ⟨q14, hq14, hf⟩ := ob hf
            refine r_callv (va_runV (As := [.ref (ad k13), .int p2, .int p1, .int p3]) (rest := []) ⟨hx, hb, hml, hown, hts⟩ (c_X4_map hI hA hq14) (cwV 4 hts gX4_useSpare_X4_map rfl rfl rfl (by decide +kernel) ⟨Nat.le_of_ble_eq_true rfl, Nat.le_of_ble_eq_true rfl⟩) (Pf_V (XCb A) (XCo A) hX hK hP hS obX4 rfl) rfl rfl hl.1 rfl (lv_room (Nat.le_of_ble_eq_true rfl)) dX4_useSpare_90 ⟨Nat.zero_le _, Nat.zero_le _⟩) hS (fun H locs hP hS => ?_)
            refine lv_iconst (v := (1 : Int32)) hx hb dX4_useSpare_93 (by decide) ?_
            obtain rfl := Option.some.inj hf
            exact r_zret hx hb hr (isB_n (x := (1 : Int32)) (by decide)) hlocks hP hS dX4_useSpare_94
          · refine lv_iconst (v := (0 : Int32)) hx hb dX4_useSpare_57 (by decide) ?_
            obtain rfl := Option.some.inj hf
            exact r_zret hx hb hr (isB_n (x := (0 : Int32)) (by decide)) hlocks hP hS dX4_useSpare_58
      · refine lv_iconst (v := (0 : Int32)) hx hb dX4_useSpare_33 (by decide) ?_
        obtain rfl := Option.some.inj hf
        exact r_zret hx hb hr (isB_n (x := (0 : Int32)) (by decide)) hlocks hP hS dX4_useSpare_34
set_option maxHeartbeats 4000000 in
set_option maxRecDepth 100000 in
theorem c_X4_giveBack {l : Launch} {D : va_G} {ad : Nat → Nat} {cI cZ cP cR : ClassId} {A : Nat → Prop} {M : Mem} {p0 : Int32} {p1 : Int32} {res : (Int32 × Mem)} (hI : gInj 143 ad) (hA : ∀ k, k < 143 → A (ad k)) (hf : fX4_giveBack M p0 p1 = some res) : Met l yX4_giveBack wsX4_giveBack { frames := 2, cells := 0, slots := 0, locals := 43 } (va_Pc [.ref (ad 2), .int p0, .int p1] (Pf D vwCl (tysW cI cZ cP cR) 143 ad (spC ad cI cP cR) (XC A) M)) (Qf D vwCl 143 ad (spC ad cI cP cR) A (some (.int res.1)) res.2) 0 0 A := by
  refine Met.ofW (cc := cX4_giveBack) (maxL := 5) (ret := (some .int)) (by decide) rfl ?_
  intro p e s m args below meth c s₁ B hml hv
  obtain ⟨rfl, hP, hK, hX⟩ := hv
  have hx := B.exec
  have hb := B.bytes
  have hr := B.returns
  have hts := atoms_spec (ws := wsX4_giveBack) B.pre
  have hown : s.vm.findClass RX4 = some m.cls := findClass_of_methodNamed B.named
  have hlocks := B.notSynchronized
  have inX3 : ∀ w ∈ wsX30, w ∈ wsX4_giveBack := by decide +kernel
  have inX4 : ∀ w ∈ wsX40, w ∈ wsX4_giveBack := by decide +kernel
  have hS : va_S A s.heap s.heap [] := va_S.rf
  have hl := lv_entry ([.ref (ad 2), .int p0, .int p1]) (n := 5) (Nat.le_of_ble_eq_true rfl)
  rw [lg_entry_eq]
  generalize (lg_sl ([.ref (ad 2), .int p0, .int p1]) ++ List.replicate (5 - (lg_sl ([.ref (ad 2), .int p0, .int p1])).length) Slot.unset).toArray = ls at hl ⊢
  have hl : lv_has ls 5 [(0, .ref (ad 2)), (1, .int p0), (2, .int p1)] := hl
  rw [fX4_giveBack] at hf
  refine lv_aload_n hx hb dX4_giveBack_0 rfl (lv_at hl 0 rfl) ?_
  refine lv_aload_n hx hb dX4_giveBack_1 rfl (lv_at hl 0 rfl) ?_
  refine r_getc (k' := 3) (j := 0) hx hb hts inX4 hown hK hP (obX4) rfl (by decide) (hts (.fieldLink RX4 11 "PageMonitor$Store" "pages" "[LPageMonitor$Page;") (by decide +kernel)) (fun _ => rfl) dX4_giveBack_2 ?_
  refine lv_iload_n hx hb dX4_giveBack_5 rfl (lv_at hl 1 rfl) ?_
  refine r_aald hx hb hK hP 2 ra3 rfl rfl dX4_giveBack_6 hf (fun k1 hf => ?_)
  refine lv_iload_n hx hb dX4_giveBack_7 rfl (lv_at hl 2 rfl) ?_
  obtain ⟨q2, hq2, hf⟩ := ob hf
  refine r_call1 (va_runV (As := [.ref (ad k1), .int p1]) (rest := []) ⟨hx, hb, hml, hown, hts⟩ (c_X4_entriesFor hI hA hq2) (cwV 2 hts gX4_giveBack_X4_entriesFor rfl rfl rfl (by decide +kernel) ⟨Nat.le_of_ble_eq_true rfl, Nat.le_of_ble_eq_true rfl⟩) (Pf_V (XCb A) (XCo A) hX hK hP hS obX4 rfl) rfl rfl hl.1 rfl (lv_room (Nat.le_of_ble_eq_true rfl)) dX4_giveBack_8 ⟨Nat.zero_le _, Nat.zero_le _⟩) hS (fun H locs hP hS => ?_)
  refine r_oq hf (fun hf => ?_) (fun k3 hf => ?_)
  · refine lv_astore_nN (lv' := [(3, .null), (0, .ref (ad 2)), (1, .int p0), (2, .int p1)]) hx hb dX4_giveBack_11 rfl hl (by decide) rfl (fun ls hl => ?_)
    refine lv_aload_nN hx hb dX4_giveBack_12 rfl (lv_at hl 0 rfl) ?_
    refine lv_ifnullN (tgt := 25) hx hb dX4_giveBack_13 (by decide) ?_
    refine lv_iconst (v := (-1 : Int32)) hx hb dX4_giveBack_25 (by decide) ?_
    obtain rfl := Option.some.inj hf
    exact r_iret hx hb hr hlocks hP hS dX4_giveBack_26
  · refine lv_astore_n (lv' := [(3, .ref (ad k3)), (0, .ref (ad 2)), (1, .int p0), (2, .int p1)]) hx hb dX4_giveBack_11 rfl hl (by decide) rfl (fun ls hl => ?_)
    refine lv_aload_n hx hb dX4_giveBack_12 rfl (lv_at hl 0 rfl) ?_
    refine lv_ifnull hx hb dX4_giveBack_13 ?_
    refine lv_aload_n hx hb dX4_giveBack_16 rfl (lv_at hl 0 rfl) ?_
    refine lv_iload_n hx hb dX4_giveBack_17 rfl (lv_at hl 3 rfl) ?_
    refine lv_bipush (v := (8 : Int32)) hx hb dX4_giveBack_18 (by decide) ?_
    refine lv_irem hx hb dX4_giveBack_20 (by decide) ?_
    refine r_iald hx hb hK hP 0 isI_s rfl dX4_giveBack_21 hf (fun x4 hf => ?_)
    refine r_if_ne (tgt := 27) hx hb dX4_giveBack_22 (by decide) hf (fun hf => ?_) (fun hf => ?_)
    · refine lv_aload_n hx hb dX4_giveBack_27 rfl (lv_at hl 0 rfl) ?_
      refine lv_iload_n hx hb dX4_giveBack_28 rfl (lv_at hl 3 rfl) ?_
      refine lv_bipush (v := (8 : Int32)) hx hb dX4_giveBack_29 (by decide) ?_
      refine lv_irem hx hb dX4_giveBack_31 (by decide) ?_
      refine r_iald hx hb hK hP 0 isI_s rfl dX4_giveBack_32 hf (fun x5 hf => ?_)
      refine lv_iconst (v := (3 : Int32)) hx hb dX4_giveBack_33 (by decide) ?_
      refine lv_ishr hx hb dX4_giveBack_34 ?_
      refine r_top (g := .int) hf (fun x6 hf => ?_)
      refine lv_istore (lv' := [(4, .int x6), (3, .ref (ad k3)), (0, .ref (ad 2)), (1, .int p0), (2, .int p1)]) hx hb dX4_giveBack_35 hl (by decide) rfl (fun ls hl => ?_)
      refine lv_iload hx hb dX4_giveBack_37 (lv_at hl 0 rfl) ?_
      refine lv_bipush (v := (20 : Int32)) hx hb dX4_giveBack_39 (by decide) ?_
      refine r_icmp_lt (tgt := 46) hx hb dX4_giveBack_41 (by decide) hf (fun hf => ?_) (fun hf => ?_)
      · refine lv_aload_n hx hb dX4_giveBack_46 rfl (lv_at hl 2 rfl) ?_
        refine r_getc (k' := 3) (j := 0) hx hb hts inX4 hown hK hP (obX4) rfl (by decide) (hts (.fieldLink RX4 11 "PageMonitor$Store" "pages" "[LPageMonitor$Page;") (by decide +kernel)) (fun _ => rfl) dX4_giveBack_47 ?_
        refine lv_iload hx hb dX4_giveBack_50 (lv_at hl 0 rfl) ?_
        refine r_aald hx hb hK hP 2 ra3 rfl rfl dX4_giveBack_52 hf (fun k7 hf => ?_)
        refine lv_iconst (v := (5 : Int32)) hx hb dX4_giveBack_53 (by decide) ?_
        refine r_puti (j := 0) hx hb hts inX3 tyX3 tyX3_ok nmX3 hown hI hA hK hP hS isPg_s rfl (by decide) (hts (.fieldLink RX4 23 "PageMonitor$Page" "kind" "I") (by decide +kernel)) rfl rfl rfl (fun _ => Nat.le_of_ble_eq_true rfl) (fun _ _ => rfl) dX4_giveBack_54 hf (fun M8 H locs hP hS hf => ?_)
        refine lv_aload_n hx hb dX4_giveBack_57 rfl (lv_at hl 1 rfl) ?_
        refine lv_iload_n hx hb dX4_giveBack_58 rfl (lv_at hl 4 rfl) ?_
        refine lv_bipush (v := (8 : Int32)) hx hb dX4_giveBack_59 (by decide) ?_
        refine lv_irem hx hb dX4_giveBack_61 (by decide) ?_
        refine lv_iconst (v := (0 : Int32)) hx hb dX4_giveBack_62 (by decide) ?_
        refine r_iast hx hb hI hA hK hP hS 0 isI_s rfl dX4_giveBack_63 hf (fun M9 H locs hP hS hf => ?_)
        refine lv_iload hx hb dX4_giveBack_64 (lv_at hl 0 rfl) ?_
        obtain rfl := Option.some.inj hf
        exact r_iret hx hb hr hlocks hP hS dX4_giveBack_66
      · refine lv_iconst (v := (-1 : Int32)) hx hb dX4_giveBack_44 (by decide) ?_
        obtain rfl := Option.some.inj hf
        exact r_iret hx hb hr hlocks hP hS dX4_giveBack_45
    · refine lv_iconst (v := (-1 : Int32)) hx hb dX4_giveBack_25 (by decide) ?_
      obtain rfl := Option.some.inj hf
      exact r_iret hx hb hr hlocks hP hS dX4_giveBack_26
