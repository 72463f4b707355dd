set_option maxHeartbeats 4000000 in
set_option maxRecDepth 100000 in
theorem c_X5_homeOf {l : Launch} {D : va_G} {ad : Nat → Nat} {cI cZ cP cR : ClassId} {A : Nat → Prop} {M : Mem} {p0 : Nat} {res : (Nat × Mem)} (hI : gInj 143 ad) (hA : ∀ k, k < 143 → A (ad k)) (hf : fX5_homeOf M p0 = some res) : Met l yX5_homeOf wsX5_homeOf { frames := 0, cells := 0, slots := 0, locals := 0 } (va_Pc [.ref (ad 0), .ref (ad p0)] (Pf D vwCl (tysW cI cZ cP cR) 143 ad (spC ad cI cP cR) (XC A) M)) (Qf D vwCl 143 ad (spC ad cI cP cR) A (some (.ref (ad res.1))) res.2) 0 0 A := by
  refine Met.ofW (cc := cX5_homeOf) (maxL := 2) (ret := (some (.object "PageMonitor$Page"))) (by decide) rfl ?_
  intro p e s m args below meth c s₁ B hml hv
  obtain ⟨rfl, hP, hK, hX⟩ := hv
  have hx := B.exec
  have hb := B.bytes
  have hr := B.returns
  have hts := atoms_spec (ws := wsX5_homeOf) B.pre
  have hown : s.vm.findClass RX5 = some m.cls := findClass_of_methodNamed B.named
  have hlocks := B.notSynchronized
  have inX3 : ∀ w ∈ wsX30, w ∈ wsX5_homeOf := by decide +kernel
  have inX4 : ∀ w ∈ wsX40, w ∈ wsX5_homeOf := by decide +kernel
  have inX5 : ∀ w ∈ wsX50, w ∈ wsX5_homeOf := by decide +kernel
  have hS : va_S A s.heap s.heap [] := va_S.rf
  have hl := lv_entry ([.ref (ad 0), .ref (ad p0)]) (n := 2) (Nat.le_of_ble_eq_true rfl)
  rw [lg_entry_eq]
  generalize (lg_sl ([.ref (ad 0), .ref (ad p0)]) ++ List.replicate (2 - (lg_sl ([.ref (ad 0), .ref (ad p0)])).length) Slot.unset).toArray = ls at hl ⊢
  have hl : lv_has ls 2 [(0, .ref (ad 0)), (1, .ref (ad p0))] := hl
  rw [fX5_homeOf] at hf
  refine lv_aload_n hx hb dX5_homeOf_0 rfl (lv_at hl 1 rfl) ?_
  refine r_geti (j := 0) hx hb hts inX3 hown hK hP isPg_s rfl (by decide) (hts (.fieldLink RX5 63 "PageMonitor$Page" "kind" "I") (by decide +kernel)) (fun _ => rfl) dX5_homeOf_1 hf (fun x1 hf => ?_)
  refine lv_iconst (v := (1 : Int32)) hx hb dX5_homeOf_4 (by decide) ?_
  refine r_icmp_ne (tgt := 12) hx hb dX5_homeOf_5 (by decide) hf (fun hf => ?_) (fun hf => ?_)
  · refine lv_aload_n hx hb dX5_homeOf_12 rfl (lv_at hl 0 rfl) ?_
    refine r_getc (k' := 2) (j := 1) hx hb hts inX5 hown hK hP (obX5) rfl (by decide) (hts (.fieldLink RX5 20 "PageMonitor" "store" "LPageMonitor$Store;") (by decide +kernel)) (fun _ => rfl) dX5_homeOf_13 ?_
    refine r_getc (k' := 3) (j := 0) hx hb hts inX4 hown hK hP (obX4) rfl (by decide) (hts (.fieldLink RX5 59 "PageMonitor$Store" "pages" "[LPageMonitor$Page;") (by decide +kernel)) (fun _ => rfl) dX5_homeOf_16 ?_
    refine lv_aload_n hx hb dX5_homeOf_19 rfl (lv_at hl 1 rfl) ?_
    refine r_geti (j := 1) hx hb hts inX3 hown hK hP isPg_s rfl (by decide) (hts (.fieldLink RX5 136 "PageMonitor$Page" "owner" "I") (by decide +kernel)) (fun _ => rfl) dX5_homeOf_20 hf (fun x4 hf => ?_)
    refine r_aald hx hb hK hP 2 ra3 rfl rfl dX5_homeOf_23 hf (fun k5 hf => ?_)
    obtain rfl := Option.some.inj hf
    exact r_aret hx hb hr (Or.inl ⟨_, rfl⟩) (Or.inr ⟨_, rfl⟩) hlocks hP hS dX5_homeOf_24
  · refine lv_aload_n hx hb dX5_homeOf_8 rfl (lv_at hl 1 rfl) ?_
    refine lv_goto (tgt := 24) hx hb dX5_homeOf_9 (by decide) ?_
    obtain rfl := Option.some.inj hf
    exact r_aret hx hb hr (Or.inl ⟨_, rfl⟩) (Or.inr ⟨_, rfl⟩) hlocks hP hS dX5_homeOf_24
set_option maxHeartbeats 4000000 in
set_option maxRecDepth 100000 in
theorem c_X5_refusalOfSpace {l : Launch} {D : va_G} {ad : Nat → Nat} {cI cZ cP cR : ClassId} {A : Nat → Prop} {M : Mem} {p0 : Int32} {p1 : Int32} {res : (Int32 × Mem)} (hI : gInj 143 ad) (hA : ∀ k, k < 143 → A (ad k)) (hf : fX5_refusalOfSpace M p0 p1 = some res) : Met l yX5_refusalOfSpace wsX5_refusalOfSpace { frames := 0, cells := 0, slots := 0, locals := 0 } (va_Pc [.ref (ad 0), .int p0, .int p1] (Pf D vwCl (tysW cI cZ cP cR) 143 ad (spC ad cI cP cR) (XC A) M)) (Qf D vwCl 143 ad (spC ad cI cP cR) A (some (.int res.1)) res.2) 0 0 A := by
  refine Met.ofW (cc := cX5_refusalOfSpace) (maxL := 4) (ret := (some .int)) (by decide) rfl ?_
  intro p e s m args below meth c s₁ B hml hv
  obtain ⟨rfl, hP, hK, hX⟩ := hv
  have hx := B.exec
  have hb := B.bytes
  have hr := B.returns
  have hts := atoms_spec (ws := wsX5_refusalOfSpace) B.pre
  have hown : s.vm.findClass RX5 = some m.cls := findClass_of_methodNamed B.named
  have hlocks := B.notSynchronized
  have inX3 : ∀ w ∈ wsX30, w ∈ wsX5_refusalOfSpace := by decide +kernel
  have inX4 : ∀ w ∈ wsX40, w ∈ wsX5_refusalOfSpace := by decide +kernel
  have inX5 : ∀ w ∈ wsX50, w ∈ wsX5_refusalOfSpace := by decide +kernel
  have hS : va_S A s.heap s.heap [] := va_S.rf
  have hl := lv_entry ([.ref (ad 0), .int p0, .int p1]) (n := 4) (Nat.le_of_ble_eq_true rfl)
  rw [lg_entry_eq]
  generalize (lg_sl ([.ref (ad 0), .int p0, .int p1]) ++ List.replicate (4 - (lg_sl ([.ref (ad 0), .int p0, .int p1])).length) Slot.unset).toArray = ls at hl ⊢
  have hl : lv_has ls 4 [(0, .ref (ad 0)), (1, .int p0), (2, .int p1)] := hl
  rw [fX5_refusalOfSpace] at hf
  refine lv_aload_n hx hb dX5_refusalOfSpace_0 rfl (lv_at hl 0 rfl) ?_
  refine r_getc (k' := 2) (j := 1) hx hb hts inX5 hown hK hP (obX5) rfl (by decide) (hts (.fieldLink RX5 20 "PageMonitor" "store" "LPageMonitor$Store;") (by decide +kernel)) (fun _ => rfl) dX5_refusalOfSpace_1 ?_
  refine r_getc (k' := 3) (j := 0) hx hb hts inX4 hown hK hP (obX4) rfl (by decide) (hts (.fieldLink RX5 59 "PageMonitor$Store" "pages" "[LPageMonitor$Page;") (by decide +kernel)) (fun _ => rfl) dX5_refusalOfSpace_4 ?_
  refine lv_iload_n hx hb dX5_refusalOfSpace_7 rfl (lv_at hl 1 rfl) ?_
  refine r_aald hx hb hK hP 2 ra3 rfl rfl dX5_refusalOfSpace_8 hf (fun k1 hf => ?_)
  refine lv_astore_n (lv' := [(3, .ref (ad k1)), (0, .ref (ad 0)), (1, .int p0), (2, .int p1)]) hx hb dX5_refusalOfSpace_9 rfl hl (by decide) rfl (fun ls hl => ?_)
  refine lv_aload_n hx hb dX5_refusalOfSpace_10 rfl (lv_at hl 0 rfl) ?_
  refine r_geti (j := 0) hx hb hts inX3 hown hK hP isPg_s rfl (by decide) (hts (.fieldLink RX5 63 "PageMonitor$Page" "kind" "I") (by decide +kernel)) (fun _ => rfl) dX5_refusalOfSpace_11 hf (fun x2 hf => ?_)
  refine lv_iconst (v := (1 : Int32)) hx hb dX5_refusalOfSpace_14 (by decide) ?_
  refine r_icmp_eq (tgt := 20) hx hb dX5_refusalOfSpace_15 (by decide) hf (fun hf => ?_) (fun hf => ?_)
  · refine lv_aload_n hx hb dX5_refusalOfSpace_20 rfl (lv_at hl 0 rfl) ?_
    refine r_geti (j := 2) hx hb hts inX3 hown hK hP isPg_s rfl (by decide) (hts (.fieldLink RX5 68 "PageMonitor$Page" "state" "I") (by decide +kernel)) (fun _ => rfl) dX5_refusalOfSpace_21 hf (fun x3 hf => ?_)
    refine lv_iload_n hx hb dX5_refusalOfSpace_24 rfl (lv_at hl 3 rfl) ?_
    refine r_jn hf (fun K5 eK5 hf => ?_)
    have JK5 : ∀ (x4 : Int32) (H : Heap) (locs : List Loc) (ls : Array Slot), va_P D vwCl (gw 143 ad (spC ad cI cP cR) M) H → va_S A s.heap H locs → lv_has ls 4 [(0, .ref (ad 0)), (1, .int p0), (2, .int p1), (3, .ref (ad k1))] → K5 x4 = some res → W p l e (headSpec wsX5_refusalOfSpace { frames := 0, cells := 0, slots := 0, locals := 0 }).room s m (([.ref (ad 0), .int p0, .int p1] : List Value).toArray) below meth c H locs 0 0 (MQ below (Qf D vwCl 143 ad (spC ad cI cP cR) A (some (.int res.1)) res.2) (([.ref (ad 0), .int p0, .int p1] : List Value).toArray) s 0 0 A) (F0 m 33 ls [.int x4]) := by
      intro x4 H locs ls hP hS hl hf
      rw [eK5] at hf
      obtain rfl := Option.some.inj hf
      exact r_iret hx hb hr hlocks hP hS dX5_refusalOfSpace_33
    refine r_icmp_gt (tgt := 32) hx hb dX5_refusalOfSpace_25 (by decide) hf (fun hf => ?_) (fun hf => ?_)
    · refine lv_iconst (v := (4 : Int32)) hx hb dX5_refusalOfSpace_32 (by decide) ?_
      exact JK5 (4 : Int32) _ _ _ hP hS (lv_sub hl [1, 2, 3, 0] rfl) hf
    · refine lv_iconst (v := (0 : Int32)) hx hb dX5_refusalOfSpace_28 (by decide) ?_
      refine lv_goto (tgt := 33) hx hb dX5_refusalOfSpace_29 (by decide) ?_
      exact JK5 (0 : Int32) _ _ _ hP hS (lv_sub hl [1, 2, 3, 0] rfl) hf
  · refine lv_iconst (v := (3 : Int32)) hx hb dX5_refusalOfSpace_18 (by decide) ?_
    obtain rfl := Option.some.inj hf
    exact r_iret hx hb hr hlocks hP hS dX5_refusalOfSpace_19
set_option maxHeartbeats 4000000 in
set_option maxRecDepth 100000 in
theorem c_X5_refusalOfNew {l : Launch} {D : va_G} {ad : Nat → Nat} {cI cZ cP cR : ClassId} {A : Nat → Prop} {M : Mem} {p0 : Int32} {p1 : Int32} {p2 : Int32} {res : (Int32 × Mem)} (hI : gInj 143 ad) (hA : ∀ k, k < 143 → A (ad k)) (hf : fX5_refusalOfNew M p0 p1 p2 = some res) : Met l yX5_refusalOfNew wsX5_refusalOfNew { frames := 1, cells := 0, slots := 0, locals := 23 } (va_Pc [.ref (ad 0), .int p0, .int p1, .int p2] (Pf D vwCl (tysW cI cZ cP cR) 143 ad (spC ad cI cP cR) (XC A) M)) (Qf D vwCl 143 ad (spC ad cI cP cR) A (some (.int res.1)) res.2) 0 0 A := by
  refine Met.ofW (cc := cX5_refusalOfNew) (maxL := 4) (ret := (some .int)) (by decide) rfl ?_
  intro p e s m args below meth c s₁ B hml hv
  obtain ⟨rfl, hP, hK, hX⟩ := hv
  have hx := B.exec
  have hb := B.bytes
  have hr := B.returns
  have hts := atoms_spec (ws := wsX5_refusalOfNew) B.pre
  have hown : s.vm.findClass RX5 = some m.cls := findClass_of_methodNamed B.named
  have hlocks := B.notSynchronized
  have inX3 : ∀ w ∈ wsX30, w ∈ wsX5_refusalOfNew := by decide +kernel
  have inX4 : ∀ w ∈ wsX40, w ∈ wsX5_refusalOfNew := by decide +kernel
  have inX5 : ∀ w ∈ wsX50, w ∈ wsX5_refusalOfNew := by decide +kernel
  have hS : va_S A s.heap s.heap [] := va_S.rf
  have hl := lv_entry ([.ref (ad 0), .int p0, .int p1, .int p2]) (n := 4) (Nat.le_of_ble_eq_true rfl)
  rw [lg_entry_eq]
  generalize (lg_sl ([.ref (ad 0), .int p0, .int p1, .int p2]) ++ List.replicate (4 - (lg_sl ([.ref (ad 0), .int p0, .int p1, .int p2])).length) Slot.unset).toArray = ls at hl ⊢
  have hl : lv_has ls 4 [(0, .ref (ad 0)), (1, .int p0), (2, .int p1), (3, .int p2)] := hl
  rw [fX5_refusalOfNew] at hf
  refine lv_aload_n hx hb dX5_refusalOfNew_0 rfl (lv_at hl 0 rfl) ?_
  refine r_getc (k' := 2) (j := 1) hx hb hts inX5 hown hK hP (obX5) rfl (by decide) (hts (.fieldLink RX5 20 "PageMonitor" "store" "LPageMonitor$Store;") (by decide +kernel)) (fun _ => rfl) dX5_refusalOfNew_1 ?_
  refine r_getc (k' := 3) (j := 0) hx hb hts inX4 hown hK hP (obX4) rfl (by decide) (hts (.fieldLink RX5 59 "PageMonitor$Store" "pages" "[LPageMonitor$Page;") (by decide +kernel)) (fun _ => rfl) dX5_refusalOfNew_4 ?_
  refine lv_iload_n hx hb dX5_refusalOfNew_7 rfl (lv_at hl 1 rfl) ?_
  refine r_aald hx hb hK hP 2 ra3 rfl rfl dX5_refusalOfNew_8 hf (fun k1 hf => ?_)
  refine r_geti (j := 0) hx hb hts inX3 hown hK hP isPg_s rfl (by decide) (hts (.fieldLink RX5 63 "PageMonitor$Page" "kind" "I") (by decide +kernel)) (fun _ => rfl) dX5_refusalOfNew_9 hf (fun x2 hf => ?_)
  refine r_jn hf (fun K6 eK6 hf => ?_)
  have JK6 : ∀ (x4 : Int32) (M5 : Mem) (H : Heap) (locs : List Loc) (ls : Array Slot), va_P D vwCl (gw 143 ad (spC ad cI cP cR) M5) H → va_S A s.heap H locs → lv_has ls 4 [(0, .ref (ad 0)), (1, .int p0), (2, .int p1), (3, .int p2)] → K6 x4 M5 = some res → W p l e (headSpec wsX5_refusalOfNew { frames := 1, cells := 0, slots := 0, locals := 23 }).room s m (([.ref (ad 0), .int p0, .int p1, .int p2] : List Value).toArray) below meth c H locs 0 0 (MQ below (Qf D vwCl 143 ad (spC ad cI cP cR) A (some (.int res.1)) res.2) (([.ref (ad 0), .int p0, .int p1, .int p2] : List Value).toArray) s 0 0 A) (F0 m 25 ls [.int x4]) := by
    intro x4 M5 H locs ls hP hS hl hf
    rw [eK6] at hf
    obtain rfl := Option.some.inj hf
    exact r_iret hx hb hr hlocks hP hS dX5_refusalOfNew_25
  refine r_if_eq (tgt := 19) hx hb dX5_refusalOfNew_12 (by decide) hf (fun hf => ?_) (fun hf => ?_)
  · refine lv_aload_n hx hb dX5_refusalOfNew_19 rfl (lv_at hl 0 rfl) ?_
    refine lv_iload_n hx hb dX5_refusalOfNew_20 rfl (lv_at hl 2 rfl) ?_
    refine lv_iload_n hx hb dX5_refusalOfNew_21 rfl (lv_at hl 3 rfl) ?_
    obtain ⟨q7, hq7, hf⟩ := ob hf
    refine r_call1 (va_runV (As := [.int p1, .int p2]) (rest := []) ⟨hx, hb, hml, hown, hts⟩ (c_X5_refusalOfSpace hI hA hq7) (cwV 2 hts gX5_refusalOfNew_X5_refusalOfSpace rfl rfl rfl (by decide +kernel) ⟨Nat.le_of_ble_eq_true rfl, Nat.le_of_ble_eq_true rfl⟩) (Pf_V (XCb A) (XCo A) hX hK hP hS obX5 rfl) rfl rfl hl.1 rfl (lv_room (Nat.le_of_ble_eq_true rfl)) dX5_refusalOfNew_22 ⟨Nat.zero_le _, Nat.zero_le _⟩) hS (fun H locs hP hS => ?_)
    exact JK6 q7.1 q7.2 _ _ _ hP hS (lv_sub hl [0, 1, 2, 3] rfl) hf
  · refine lv_iconst (v := (2 : Int32)) hx hb dX5_refusalOfNew_15 (by decide) ?_
    refine lv_goto (tgt := 25) hx hb dX5_refusalOfNew_16 (by decide) ?_
    exact JK6 (2 : Int32) M _ _ _ hP hS (lv_sub hl [0, 1, 2, 3] rfl) hf
set_option maxHeartbeats 4000000 in
set_option maxRecDepth 100000 in
theorem c_X5_refusalOfRun {l : Launch} {D : va_G} {ad : Nat → Nat} {cI cZ cP cR : ClassId} {A : Nat → Prop} {M : Mem} {p0 : Int32} {p1 : Int32} {p2 : Int32} {res : (Int32 × Mem)} (hI : gInj 143 ad) (hA : ∀ k, k < 143 → A (ad k)) (hf : fX5_refusalOfRun M p0 p1 p2 = some res) : Met l yX5_refusalOfRun wsX5_refusalOfRun { frames := 1, cells := 0, slots := 0, locals := 21 } (va_Pc [.ref (ad 0), .int p0, .int p1, .int p2] (Pf D vwCl (tysW cI cZ cP cR) 143 ad (spC ad cI cP cR) (XC A) M)) (Qf D vwCl 143 ad (spC ad cI cP cR) A (some (.int res.1)) res.2) 0 0 A := by
  refine Met.ofW (cc := cX5_refusalOfRun) (maxL := 5) (ret := (some .int)) (by decide) rfl ?_
  intro p e s m args below meth c s₁ B hml hv
  obtain ⟨rfl, hP, hK, hX⟩ := hv
  have hx := B.exec
  have hb := B.bytes
  have hr := B.returns
  have hts := atoms_spec (ws := wsX5_refusalOfRun) B.pre
  have hown : s.vm.findClass RX5 = some m.cls := findClass_of_methodNamed B.named
  have hlocks := B.notSynchronized
  have inX3 : ∀ w ∈ wsX30, w ∈ wsX5_refusalOfRun := by decide +kernel
  have inX4 : ∀ w ∈ wsX40, w ∈ wsX5_refusalOfRun := by decide +kernel
  have inX5 : ∀ w ∈ wsX50, w ∈ wsX5_refusalOfRun := by decide +kernel
  have hS : va_S A s.heap s.heap [] := va_S.rf
  have hl := lv_entry ([.ref (ad 0), .int p0, .int p1, .int p2]) (n := 5) (Nat.le_of_ble_eq_true rfl)
  rw [lg_entry_eq]
  generalize (lg_sl ([.ref (ad 0), .int p0, .int p1, .int p2]) ++ List.replicate (5 - (lg_sl ([.ref (ad 0), .int p0, .int p1, .int p2])).length) Slot.unset).toArray = ls at hl ⊢
  have hl : lv_has ls 5 [(0, .ref (ad 0)), (1, .int p0), (2, .int p1), (3, .int p2)] := hl
  rw [fX5_refusalOfRun] at hf
  refine lv_iload_n hx hb dX5_refusalOfRun_0 rfl (lv_at hl 1 rfl) ?_
  obtain ⟨q1, hq1, hf⟩ := ob hf
  refine r_call1 (va_runS (As := [.int p0]) (rest := []) ⟨hx, hb, hml, hown, hts⟩ (c_X5_isPage hI hA hq1) (va_cwS 1 hts gX5_refusalOfRun_X5_isPage rfl rfl rfl (by decide +kernel) ⟨Nat.le_of_ble_eq_true rfl, Nat.le_of_ble_eq_true rfl⟩) (Pf_S (XCb A) (XCo A) hX hK hP hS) rfl rfl hl.1 rfl (lv_room (Nat.le_of_ble_eq_true rfl)) dX5_refusalOfRun_1 ⟨Nat.zero_le _, Nat.zero_le _⟩) hS (fun H locs hP hS => ?_)
  refine r_if_eq (tgt := 19) hx hb dX5_refusalOfRun_4 (by decide) hf (fun hf => ?_) (fun hf => ?_)
  · refine lv_iconst (v := (1 : Int32)) hx hb dX5_refusalOfRun_19 (by decide) ?_
    obtain rfl := Option.some.inj hf
    exact r_iret hx hb hr hlocks hP hS dX5_refusalOfRun_20
  · refine lv_iload_n hx hb dX5_refusalOfRun_7 rfl (lv_at hl 2 rfl) ?_
    refine lv_iconst (v := (1 : Int32)) hx hb dX5_refusalOfRun_8 (by decide) ?_
    refine r_icmp_lt (tgt := 19) hx hb dX5_refusalOfRun_9 (by decide) hf (fun hf => ?_) (fun hf => ?_)
    · refine lv_iconst (v := (1 : Int32)) hx hb dX5_refusalOfRun_19 (by decide) ?_
      obtain rfl := Option.some.inj hf
      exact r_iret hx hb hr hlocks hP hS dX5_refusalOfRun_20
    · refine lv_iload_n hx hb dX5_refusalOfRun_12 rfl (lv_at hl 2 rfl) ?_
      refine lv_sipush (v := (2000 : Int32)) hx hb dX5_refusalOfRun_13 (by decide) ?_
      refine r_icmp_le (tgt := 21) hx hb dX5_refusalOfRun_16 (by decide) hf (fun hf => ?_) (fun hf => ?_)
      · refine lv_aload_n hx hb dX5_refusalOfRun_21 rfl (lv_at hl 0 rfl) ?_
        refine r_getc (k' := 2) (j := 1) hx hb hts inX5 hown hK hP (obX5) rfl (by decide) (hts (.fieldLink RX5 20 "PageMonitor" "store" "LPageMonitor$Store;") (by decide +kernel)) (fun _ => rfl) dX5_refusalOfRun_22 ?_
        refine r_getc (k' := 3) (j := 0) hx hb hts inX4 hown hK hP (obX4) rfl (by decide) (hts (.fieldLink RX5 59 "PageMonitor$Store" "pages" "[LPageMonitor$Page;") (by decide +kernel)) (fun _ => rfl) dX5_refusalOfRun_25 ?_
        refine lv_iload_n hx hb dX5_refusalOfRun_28 rfl (lv_at hl 1 rfl) ?_
        refine r_aald hx hb hK hP 2 ra3 rfl rfl dX5_refusalOfRun_29 hf (fun k2 hf => ?_)
        refine lv_astore (lv' := [(4, .ref (ad k2)), (0, .ref (ad 0)), (1, .int p0), (2, .int p1), (3, .int p2)]) hx hb dX5_refusalOfRun_30 hl (by decide) rfl (fun ls hl => ?_)
        refine lv_aload hx hb dX5_refusalOfRun_32 (lv_at hl 0 rfl) ?_
        refine r_geti (j := 0) hx hb hts inX3 hown hK hP isPg_s rfl (by decide) (hts (.fieldLink RX5 63 "PageMonitor$Page" "kind" "I") (by decide +kernel)) (fun _ => rfl) dX5_refusalOfRun_34 hf (fun x3 hf => ?_)
        refine lv_iconst (v := (2 : Int32)) hx hb dX5_refusalOfRun_37 (by decide) ?_
        refine r_icmp_eq (tgt := 43) hx hb dX5_refusalOfRun_38 (by decide) hf (fun hf => ?_) (fun hf => ?_)
        · refine lv_aload_n hx hb dX5_refusalOfRun_43 rfl (lv_at hl 1 rfl) ?_
          refine lv_aload hx hb dX5_refusalOfRun_44 (lv_at hl 0 rfl) ?_
          obtain ⟨q4, hq4, hf⟩ := ob hf
          refine r_call1 (va_runV (As := [.ref (ad k2)]) (rest := []) ⟨hx, hb, hml, hown, hts⟩ (c_X5_homeOf hI hA hq4) (cwV 1 hts gX5_refusalOfRun_X5_homeOf rfl rfl rfl (by decide +kernel) ⟨Nat.le_of_ble_eq_true rfl, Nat.le_of_ble_eq_true rfl⟩) (Pf_V (XCb A) (XCo A) hX hK hP hS obX5 rfl) rfl rfl hl.1 rfl (lv_room (Nat.le_of_ble_eq_true rfl)) dX5_refusalOfRun_46 ⟨Nat.zero_le _, Nat.zero_le _⟩) hS (fun H locs hP hS => ?_)
          refine r_geti (j := 2) hx hb hts inX3 hown hK hP isPg_s rfl (by decide) (hts (.fieldLink RX5 68 "PageMonitor$Page" "state" "I") (by decide +kernel)) (fun _ => rfl) dX5_refusalOfRun_49 hf (fun x5 hf => ?_)
          refine lv_iconst (v := (1 : Int32)) hx hb dX5_refusalOfRun_52 (by decide) ?_
          refine r_icmp_eq (tgt := 58) hx hb dX5_refusalOfRun_53 (by decide) hf (fun hf => ?_) (fun hf => ?_)
          · refine lv_aload hx hb dX5_refusalOfRun_58 (lv_at hl 0 rfl) ?_
            refine r_geti (j := 8) hx hb hts inX3 hown hK hP isPg_s rfl (by decide) (hts (.fieldLink RX5 91 "PageMonitor$Page" "entered" "Z") (by decide +kernel)) (fun _ => rfl) dX5_refusalOfRun_60 hf (fun x6 hf => ?_)
            refine lv_iload_n hx hb dX5_refusalOfRun_63 rfl (lv_at hl 4 rfl) ?_
            refine r_jn hf (fun K8 eK8 hf => ?_)
            have JK8 : ∀ (x7 : Int32) (H : Heap) (locs : List Loc) (ls : Array Slot), va_P D vwCl (gw 143 ad (spC ad cI cP cR) q4.2) H → va_S A s.heap H locs → lv_has ls 5 [(0, .ref (ad 0)), (1, .int p0), (2, .int p1), (3, .int p2), (4, .ref (ad k2))] → K8 x7 = some res → W p l e (headSpec wsX5_refusalOfRun { frames := 1, cells := 0, slots := 0, locals := 21 }).room s m (([.ref (ad 0), .int p0, .int p1, .int p2] : List Value).toArray) below meth c H locs 0 0 (MQ below (Qf D vwCl 143 ad (spC ad cI cP cR) A (some (.int res.1)) res.2) (([.ref (ad 0), .int p0, .int p1, .int p2] : List Value).toArray) s 0 0 A) (F0 m 73 ls [.int x7]) := by
              intro x7 H locs ls hP hS hl hf
              rw [eK8] at hf
              obtain rfl := Option.some.inj hf
              exact r_iret hx hb hr hlocks hP hS dX5_refusalOfRun_73
            refine r_icmp_ne (tgt := 71) hx hb dX5_refusalOfRun_64 (by decide) hf (fun hf => ?_) (fun hf => ?_)
            · refine lv_bipush (v := (6 : Int32)) hx hb dX5_refusalOfRun_71 (by decide) ?_
              exact JK8 (6 : Int32) _ _ _ hP hS (lv_sub hl [1, 2, 3, 4, 0] rfl) hf
            · refine lv_iconst (v := (0 : Int32)) hx hb dX5_refusalOfRun_67 (by decide) ?_
              refine lv_goto (tgt := 73) hx hb dX5_refusalOfRun_68 (by decide) ?_
              exact JK8 (0 : Int32) _ _ _ hP hS (lv_sub hl [1, 2, 3, 4, 0] rfl) hf
          · refine lv_iconst (v := (4 : Int32)) hx hb dX5_refusalOfRun_56 (by decide) ?_
            obtain rfl := Option.some.inj hf
            exact r_iret hx hb hr hlocks hP hS dX5_refusalOfRun_57
        · refine lv_iconst (v := (3 : Int32)) hx hb dX5_refusalOfRun_41 (by decide) ?_
          obtain rfl := Option.some.inj hf
          exact r_iret hx hb hr hlocks hP hS dX5_refusalOfRun_42
      · refine lv_iconst (v := (1 : Int32)) hx hb dX5_refusalOfRun_19 (by decide) ?_
        obtain rfl := Option.some.inj hf
        exact r_iret hx hb hr hlocks hP hS dX5_refusalOfRun_20
set_option maxHeartbeats 4000000 in
set_option maxRecDepth 100000 in
theorem c_X5_space {l : Launch} {D : va_G} {ad : Nat → Nat} {cI cZ cP cR : ClassId} {A : Nat → Prop} {M : Mem} {p0 : Int32} {res : (Int32 × Mem)} (hI : gInj 143 ad) (hA : ∀ k, k < 143 → A (ad k)) (hf : fX5_space M p0 = some res) : Met l yX5_space wsX5_space { frames := 3, cells := 0, slots := 0, locals := 102 } (va_Pc [.ref (ad 0), .int p0] (Pf D vwCl (tysW cI cZ cP cR) 143 ad (spC ad cI cP cR) (XC A) M)) (Qf D vwCl 143 ad (spC ad cI cP cR) A (some (.int res.1)) res.2) 0 0 A := by
  refine Met.ofW (cc := cX5_space) (maxL := 3) (ret := (some .int)) (by decide) rfl ?_
  intro p e s m args below meth c s₁ B hml hv
  obtain ⟨rfl, hP, hK, hX⟩ := hv
  have hx := B.exec
  have hb := B.bytes
  have hr := B.returns
  have hts := atoms_spec (ws := wsX5_space) B.pre
  have hown : s.vm.findClass RX5 = some m.cls := findClass_of_methodNamed B.named
  have hlocks := B.notSynchronized
  have inX3 : ∀ w ∈ wsX30, w ∈ wsX5_space := by decide +kernel
  have inX4 : ∀ w ∈ wsX40, w ∈ wsX5_space := by decide +kernel
  have inX5 : ∀ w ∈ wsX50, w ∈ wsX5_space := by decide +kernel
  have hS : va_S A s.heap s.heap [] := va_S.rf
  have hl := lv_entry ([.ref (ad 0), .int p0]) (n := 3) (Nat.le_of_ble_eq_true rfl)
  rw [lg_entry_eq]
  generalize (lg_sl ([.ref (ad 0), .int p0]) ++ List.replicate (3 - (lg_sl ([.ref (ad 0), .int p0])).length) Slot.unset).toArray = ls at hl ⊢
  have hl : lv_has ls 3 [(0, .ref (ad 0)), (1, .int p0)] := hl
  rw [fX5_space] at hf
  refine lv_iload_n hx hb dX5_space_0 rfl (lv_at hl 1 rfl) ?_
  obtain ⟨q1, hq1, hf⟩ := ob hf
  refine r_call1 (va_runS (As := [.int p0]) (rest := []) ⟨hx, hb, hml, hown, hts⟩ (c_X5_isPage hI hA hq1) (va_cwS 1 hts gX5_space_X5_isPage rfl rfl rfl (by decide +kernel) ⟨Nat.le_of_ble_eq_true rfl, Nat.le_of_ble_eq_true rfl⟩) (Pf_S (XCb A) (XCo A) hX hK hP hS) rfl rfl hl.1 rfl (lv_room (Nat.le_of_ble_eq_true rfl)) dX5_space_1 ⟨Nat.zero_le _, Nat.zero_le _⟩) hS (fun H locs hP hS => ?_)
  refine r_if_ne (tgt := 9) hx hb dX5_space_4 (by decide) hf (fun hf => ?_) (fun hf => ?_)
  · refine lv_aload_n hx hb dX5_space_9 rfl (lv_at hl 0 rfl) ?_
    refine r_getc (k' := 2) (j := 1) hx hb hts inX5 hown hK hP (obX5) rfl (by decide) (hts (.fieldLink RX5 20 "PageMonitor" "store" "LPageMonitor$Store;") (by decide +kernel)) (fun _ => rfl) dX5_space_10 ?_
    refine r_getc (k' := 3) (j := 0) hx hb hts inX4 hown hK hP (obX4) rfl (by decide) (hts (.fieldLink RX5 59 "PageMonitor$Store" "pages" "[LPageMonitor$Page;") (by decide +kernel)) (fun _ => rfl) dX5_space_13 ?_
    refine lv_iload_n hx hb dX5_space_16 rfl (lv_at hl 1 rfl) ?_
    refine r_aald hx hb hK hP 2 ra3 rfl rfl dX5_space_17 hf (fun k2 hf => ?_)
    refine r_geti (j := 0) hx hb hts inX3 hown hK hP isPg_s rfl (by decide) (hts (.fieldLink RX5 63 "PageMonitor$Page" "kind" "I") (by decide +kernel)) (fun _ => rfl) dX5_space_18 hf (fun x3 hf => ?_)
    refine r_if_eq (tgt := 26) hx hb dX5_space_21 (by decide) hf (fun hf => ?_) (fun hf => ?_)
    · refine lv_aload_n hx hb dX5_space_26 rfl (lv_at hl 0 rfl) ?_
      refine r_getc (k' := 2) (j := 1) hx hb hts inX5 hown hK hP (obX5) rfl (by decide) (hts (.fieldLink RX5 20 "PageMonitor" "store" "LPageMonitor$Store;") (by decide +kernel)) (fun _ => rfl) dX5_space_27 ?_
      refine lv_iload_n hx hb dX5_space_30 rfl (lv_at hl 1 rfl) ?_
      refine lv_iconst (v := (1 : Int32)) hx hb dX5_space_31 (by decide) ?_
      refine lv_iconst (v := (-1 : Int32)) hx hb dX5_space_32 (by decide) ?_
      obtain ⟨q4, hq4, hf⟩ := ob hf
      refine r_call1 (va_runV (As := [.int p0, .int (1 : Int32), .int (-1 : Int32)]) (rest := []) ⟨hx, hb, hml, hown, hts⟩ (c_X4_claim hI hA hq4) (cwV 3 hts gX5_space_X4_claim rfl rfl rfl (by decide +kernel) ⟨Nat.le_of_ble_eq_true rfl, Nat.le_of_ble_eq_true rfl⟩) (Pf_V (XCb A) (XCo A) hX hK hP hS obX4 rfl) rfl rfl hl.1 rfl (lv_room (Nat.le_of_ble_eq_true rfl)) dX5_space_33 ⟨Nat.zero_le _, Nat.zero_le _⟩) hS (fun H locs hP hS => ?_)
      refine lv_astore_n (lv' := [(2, .ref (ad (q4.1))), (0, .ref (ad 0)), (1, .int p0)]) hx hb dX5_space_36 rfl hl (by decide) rfl (fun ls hl => ?_)
      refine lv_aload_n hx hb dX5_space_37 rfl (lv_at hl 0 rfl) ?_
      refine lv_iconst (v := (0 : Int32)) hx hb dX5_space_38 (by decide) ?_
      refine r_puti (j := 2) hx hb hts inX3 tyX3 tyX3_ok nmX3 hown hI hA hK hP hS isPg_s rfl (by decide) (hts (.fieldLink RX5 68 "PageMonitor$Page" "state" "I") (by decide +kernel)) rfl rfl rfl (fun _ => Nat.le_of_ble_eq_true rfl) (fun _ _ => rfl) dX5_space_39 hf (fun M5 H locs hP hS hf => ?_)
      refine lv_aload_n hx hb dX5_space_42 rfl (lv_at hl 0 rfl) ?_
      refine r_getr (k' := q4.1 + 1) (j := 5) hx hb hts inX3 hown hK hP isPg_s rfl (by decide) (hts (.fieldLink RX5 71 "PageMonitor$Page" "tables" "[I") (by decide +kernel)) (fun _ => rfl) dX5_space_43 hf (fun hf => ?_)
      refine lv_iconst (v := (-1 : Int32)) hx hb dX5_space_46 (by decide) ?_
      obtain ⟨q6, hq6, hf⟩ := ob hf
      refine r_callv (va_runS (As := [.ref (ad (q4.1 + 1)), .int (-1 : Int32)]) (rest := []) ⟨hx, hb, hml, hown, hts⟩ (c_J7_fill_53178 hI hA hq6) (va_cwS 2 hts gX5_space_J7_fill_53178 rfl rfl rfl (by decide +kernel) ⟨Nat.le_of_ble_eq_true rfl, Nat.le_of_ble_eq_true rfl⟩) (Pf_S (XCb A) (XCo A) hX hK hP hS) rfl rfl hl.1 rfl (lv_room (Nat.le_of_ble_eq_true rfl)) dX5_space_47 ⟨Nat.zero_le _, Nat.zero_le _⟩) hS (fun H locs hP hS => ?_)
      refine lv_aload_n hx hb dX5_space_50 rfl (lv_at hl 1 rfl) ?_
      refine r_getc (k' := 133) (j := 2) hx hb hts inX5 hown hK hP (obX5) rfl (by decide) (hts (.fieldLink RX5 25 "PageMonitor" "notary" "LPageMonitor$Notary;") (by decide +kernel)) (fun _ => rfl) dX5_space_51 ?_
      refine lv_aload_n hx hb dX5_space_54 rfl (lv_at hl 0 rfl) ?_
      obtain ⟨q7, hq7, hf⟩ := ob hf
      refine r_callv (va_runV (As := [.ref (ad (q4.1))]) (rest := []) ⟨hx, hb, hml, hown, hts⟩ (c_X2_open hI hA hq7) (cwV 1 hts gX5_space_X2_open rfl rfl rfl (by decide +kernel) ⟨Nat.le_of_ble_eq_true rfl, Nat.le_of_ble_eq_true rfl⟩) (Pf_V (XCb A) (XCo A) hX hK hP hS obX2 rfl) rfl rfl hl.1 rfl (lv_room (Nat.le_of_ble_eq_true rfl)) dX5_space_55 ⟨Nat.zero_le _, Nat.zero_le _⟩) hS (fun H locs hP hS => ?_)
      refine lv_iconst (v := (0 : Int32)) hx hb dX5_space_58 (by decide) ?_
      obtain rfl := Option.some.inj hf
      exact r_iret hx hb hr hlocks hP hS dX5_space_59
    · refine lv_iconst (v := (2 : Int32)) hx hb dX5_space_24 (by decide) ?_
      obtain rfl := Option.some.inj hf
      exact r_iret hx hb hr hlocks hP hS dX5_space_25
  · refine lv_iconst (v := (1 : Int32)) hx hb dX5_space_7 (by decide) ?_
    obtain rfl := Option.some.inj hf
    exact r_iret hx hb hr hlocks hP hS dX5_space_8
set_option maxHeartbeats 4000000 in
set_option maxRecDepth 100000 in
theorem c_X5_thread {l : Launch} {D : va_G} {ad : Nat → Nat} {cI cZ cP cR : ClassId} {A : Nat → Prop} {M : Mem} {p0 : Int32} {p1 : Int32} {p2 : Int32} {res : (Int32 × Mem)} (hI : gInj 143 ad) (hA : ∀ k, k < 143 → A (ad k)) (hf : fX5_thread M p0 p1 p2 = some res) : Met l yX5_thread wsX5_thread { frames := 5, cells := 0, slots := 0, locals := 167 } (va_Pc [.ref (ad 0), .int p0, .int p1, .int p2] (Pf D vwCl (tysW cI cZ cP cR) 143 ad (spC ad cI cP cR) (XC A) M)) (Qf D vwCl 143 ad (spC ad cI cP cR) A (some (.int res.1)) res.2) 0 0 A := by
  refine Met.ofW (cc := cX5_thread) (maxL := 6) (ret := (some .int)) (by decide) rfl ?_
  intro p e s m args below meth c s₁ B hml hv
  obtain ⟨rfl, hP, hK, hX⟩ := hv
  have hx := B.exec
  have hb := B.bytes
  have hr := B.returns
  have hts := atoms_spec (ws := wsX5_thread) B.pre
  have hown : s.vm.findClass RX5 = some m.cls := findClass_of_methodNamed B.named
  have hlocks := B.notSynchronized
  have inX3 : ∀ w ∈ wsX30, w ∈ wsX5_thread := by decide +kernel
  have inX4 : ∀ w ∈ wsX40, w ∈ wsX5_thread := by decide +kernel
  have inX5 : ∀ w ∈ wsX50, w ∈ wsX5_thread := by decide +kernel
  have hS : va_S A s.heap s.heap [] := va_S.rf
  have hl := lv_entry ([.ref (ad 0), .int p0, .int p1, .int p2]) (n := 6) (Nat.le_of_ble_eq_true rfl)
  rw [lg_entry_eq]
  generalize (lg_sl ([.ref (ad 0), .int p0, .int p1, .int p2]) ++ List.replicate (6 - (lg_sl ([.ref (ad 0), .int p0, .int p1, .int p2])).length) Slot.unset).toArray = ls at hl ⊢
  have hl : lv_has ls 6 [(0, .ref (ad 0)), (1, .int p0), (2, .int p1), (3, .int p2)] := hl
  rw [fX5_thread] at hf
  refine lv_iload_n hx hb dX5_thread_0 rfl (lv_at hl 1 rfl) ?_
  obtain ⟨q1, hq1, hf⟩ := ob hf
  refine r_call1 (va_runS (As := [.int p0]) (rest := []) ⟨hx, hb, hml, hown, hts⟩ (c_X5_isPage hI hA hq1) (va_cwS 1 hts gX5_thread_X5_isPage rfl rfl rfl (by decide +kernel) ⟨Nat.le_of_ble_eq_true rfl, Nat.le_of_ble_eq_true rfl⟩) (Pf_S (XCb A) (XCo A) hX hK hP hS) rfl rfl hl.1 rfl (lv_room (Nat.le_of_ble_eq_true rfl)) dX5_thread_1 ⟨Nat.zero_le _, Nat.zero_le _⟩) hS (fun H locs hP hS => ?_)
  refine r_if_eq (tgt := 25) hx hb dX5_thread_4 (by decide) hf (fun hf => ?_) (fun hf => ?_)
  · refine lv_iconst (v := (1 : Int32)) hx hb dX5_thread_25 (by decide) ?_
    obtain rfl := Option.some.inj hf
    exact r_iret hx hb hr hlocks hP hS dX5_thread_26
  · refine lv_iload_n hx hb dX5_thread_7 rfl (lv_at hl 2 rfl) ?_
    obtain ⟨q2, hq2, hf⟩ := ob hf
    refine r_call1 (va_runS (As := [.int p1]) (rest := []) ⟨hx, hb, hml, hown, hts⟩ (c_X5_isPage hI hA hq2) (va_cwS 1 hts gX5_thread_X5_isPage rfl rfl rfl (by decide +kernel) ⟨Nat.le_of_ble_eq_true rfl, Nat.le_of_ble_eq_true rfl⟩) (Pf_S (XCb A) (XCo A) hX hK hP hS) rfl rfl hl.1 rfl (lv_room (Nat.le_of_ble_eq_true rfl)) dX5_thread_8 ⟨Nat.zero_le _, Nat.zero_le _⟩) hS (fun H locs hP hS => ?_)
    refine r_if_eq (tgt := 25) hx hb dX5_thread_11 (by decide) hf (fun hf => ?_) (fun hf => ?_)
    · refine lv_iconst (v := (1 : Int32)) hx hb dX5_thread_25 (by decide) ?_
      obtain rfl := Option.some.inj hf
      exact r_iret hx hb hr hlocks hP hS dX5_thread_26
    · refine lv_iload_n hx hb dX5_thread_14 rfl (lv_at hl 3 rfl) ?_
      refine r_if_lt (tgt := 25) hx hb dX5_thread_15 (by decide) hf (fun hf => ?_) (fun hf => ?_)
      · refine lv_iconst (v := (1 : Int32)) hx hb dX5_thread_25 (by decide) ?_
        obtain rfl := Option.some.inj hf
        exact r_iret hx hb hr hlocks hP hS dX5_thread_26
      · refine lv_iload_n hx hb dX5_thread_18 rfl (lv_at hl 3 rfl) ?_
        refine lv_sipush (v := (512 : Int32)) hx hb dX5_thread_19 (by decide) ?_
        refine r_icmp_lt (tgt := 27) hx hb dX5_thread_22 (by decide) hf (fun hf => ?_) (fun hf => ?_)
        · refine lv_aload_n hx hb dX5_thread_27 rfl (lv_at hl 0 rfl) ?_
          refine lv_iload_n hx hb dX5_thread_28 rfl (lv_at hl 1 rfl) ?_
          refine lv_iload_n hx hb dX5_thread_29 rfl (lv_at hl 2 rfl) ?_
          refine lv_iconst (v := (0 : Int32)) hx hb dX5_thread_30 (by decide) ?_
          obtain ⟨q3, hq3, hf⟩ := ob hf
          refine r_call1 (va_runV (As := [.int p0, .int p1, .int (0 : Int32)]) (rest := []) ⟨hx, hb, hml, hown, hts⟩ (c_X5_refusalOfNew hI hA hq3) (cwV 3 hts gX5_thread_X5_refusalOfNew rfl rfl rfl (by decide +kernel) ⟨Nat.le_of_ble_eq_true rfl, Nat.le_of_ble_eq_true rfl⟩) (Pf_V (XCb A) (XCo A) hX hK hP hS obX5 rfl) rfl rfl hl.1 rfl (lv_room (Nat.le_of_ble_eq_true rfl)) dX5_thread_31 ⟨Nat.zero_le _, Nat.zero_le _⟩) hS (fun H locs hP hS => ?_)
          refine r_top (g := .int) hf (fun x4 hf => ?_)
          refine lv_istore (lv' := [(4, .int x4), (0, .ref (ad 0)), (1, .int p0), (2, .int p1), (3, .int p2)]) hx hb dX5_thread_34 hl (by decide) rfl (fun ls hl => ?_)
          refine lv_iload hx hb dX5_thread_36 (lv_at hl 0 rfl) ?_
          refine r_if_eq (tgt := 44) hx hb dX5_thread_38 (by decide) hf (fun hf => ?_) (fun hf => ?_)
          · refine lv_aload_n hx hb dX5_thread_44 rfl (lv_at hl 1 rfl) ?_
            refine r_getc (k' := 2) (j := 1) hx hb hts inX5 hown hK hP (obX5) rfl (by decide) (hts (.fieldLink RX5 20 "PageMonitor" "store" "LPageMonitor$Store;") (by decide +kernel)) (fun _ => rfl) dX5_thread_45 ?_
            refine lv_iload_n hx hb dX5_thread_48 rfl (lv_at hl 2 rfl) ?_
            refine lv_iconst (v := (2 : Int32)) hx hb dX5_thread_49 (by decide) ?_
            refine lv_iload_n hx hb dX5_thread_50 rfl (lv_at hl 3 rfl) ?_
            obtain ⟨q5, hq5, hf⟩ := ob hf
            refine r_call1 (va_runV (As := [.int p0, .int (2 : Int32), .int p1]) (rest := []) ⟨hx, hb, hml, hown, hts⟩ (c_X4_claim hI hA hq5) (cwV 3 hts gX5_thread_X4_claim rfl rfl rfl (by decide +kernel) ⟨Nat.le_of_ble_eq_true rfl, Nat.le_of_ble_eq_true rfl⟩) (Pf_V (XCb A) (XCo A) hX hK hP hS obX4 rfl) rfl rfl hl.1 rfl (lv_room (Nat.le_of_ble_eq_true rfl)) dX5_thread_51 ⟨Nat.zero_le _, Nat.zero_le _⟩) hS (fun H locs hP hS => ?_)
            refine lv_astore (lv' := [(5, .ref (ad (q5.1))), (4, .int x4), (0, .ref (ad 0)), (1, .int p0), (2, .int p1), (3, .int p2)]) hx hb dX5_thread_54 hl (by decide) rfl (fun ls hl => ?_)
            refine lv_aload hx hb dX5_thread_56 (lv_at hl 0 rfl) ?_
            refine lv_iload_n hx hb dX5_thread_58 rfl (lv_at hl 5 rfl) ?_
            refine r_puti (j := 7) hx hb hts inX3 tyX3 tyX3_ok nmX3 hown hI hA hK hP hS isPg_s rfl (by decide) (hts (.fieldLink RX5 88 "PageMonitor$Page" "entry" "I") (by decide +kernel)) rfl rfl rfl (fun _ => Nat.le_of_ble_eq_true rfl) (fun _ _ => rfl) dX5_thread_59 hf (fun M6 H locs hP hS hf => ?_)
            refine lv_aload hx hb dX5_thread_62 (lv_at hl 0 rfl) ?_
            refine lv_iconst (v := (0 : Int32)) hx hb dX5_thread_64 (by decide) ?_
            refine r_puti (j := 8) hx hb hts inX3 tyX3 tyX3_ok nmX3 hown hI hA hK hP hS isPg_s rfl (by decide) (hts (.fieldLink RX5 91 "PageMonitor$Page" "entered" "Z") (by decide +kernel)) rfl (by decide) (by decide) (fun _ => Nat.le_of_ble_eq_true rfl) (fun _ _ => rfl) dX5_thread_65 hf (fun M7 H locs hP hS hf => ?_)
            refine lv_aload_n hx hb dX5_thread_68 rfl (lv_at hl 2 rfl) ?_
            refine r_getc (k' := 133) (j := 2) hx hb hts inX5 hown hK hP (obX5) rfl (by decide) (hts (.fieldLink RX5 25 "PageMonitor" "notary" "LPageMonitor$Notary;") (by decide +kernel)) (fun _ => rfl) dX5_thread_69 ?_
            refine lv_aload_n hx hb dX5_thread_72 rfl (lv_at hl 2 rfl) ?_
            refine r_getc (k' := 2) (j := 1) hx hb hts inX5 hown hK hP (obX5) rfl (by decide) (hts (.fieldLink RX5 20 "PageMonitor" "store" "LPageMonitor$Store;") (by decide +kernel)) (fun _ => rfl) dX5_thread_73 ?_
            refine r_getc (k' := 3) (j := 0) hx hb hts inX4 hown hK hP (obX4) rfl (by decide) (hts (.fieldLink RX5 59 "PageMonitor$Store" "pages" "[LPageMonitor$Page;") (by decide +kernel)) (fun _ => rfl) dX5_thread_76 ?_
            refine lv_iload_n hx hb dX5_thread_79 rfl (lv_at hl 4 rfl) ?_
            refine r_aald hx hb hK hP 2 ra3 rfl rfl dX5_thread_80 hf (fun k8 hf => ?_)
            refine lv_iconst (v := (1 : Int32)) hx hb dX5_thread_81 (by decide) ?_
            refine lv_iload_n hx hb dX5_thread_82 rfl (lv_at hl 5 rfl) ?_
            refine lv_iconst (v := (0 : Int32)) hx hb dX5_thread_83 (by decide) ?_
            obtain ⟨q9, hq9, hf⟩ := ob hf
            refine r_callv (va_runV (As := [.ref (ad k8), .int (1 : Int32), .int p2, .int (0 : Int32)]) (rest := []) ⟨hx, hb, hml, hown, hts⟩ (c_X2_tell hI hA hq9) (cwV 4 hts gX5_thread_X2_tell rfl rfl rfl (by decide +kernel) ⟨Nat.le_of_ble_eq_true rfl, Nat.le_of_ble_eq_true rfl⟩) (Pf_V (XCb A) (XCo A) hX hK hP hS obX2 rfl) rfl rfl hl.1 rfl (lv_room (Nat.le_of_ble_eq_true rfl)) dX5_thread_84 ⟨Nat.zero_le _, Nat.zero_le _⟩) hS (fun H locs hP hS => ?_)
            refine lv_iconst (v := (0 : Int32)) hx hb dX5_thread_87 (by decide) ?_
            obtain rfl := Option.some.inj hf
            exact r_iret hx hb hr hlocks hP hS dX5_thread_88
          · refine lv_iload hx hb dX5_thread_41 (lv_at hl 0 rfl) ?_
            obtain rfl := Option.some.inj hf
            exact r_iret hx hb hr hlocks hP hS dX5_thread_43
        · refine lv_iconst (v := (1 : Int32)) hx hb dX5_thread_25 (by decide) ?_
          obtain rfl := Option.some.inj hf
          exact r_iret hx hb hr hlocks hP hS dX5_thread_26
set_option maxHeartbeats 4000000 in
set_option maxRecDepth 100000 in
theorem c_X5_table {l : Launch} {D : va_G} {ad : Nat → Nat} {cI cZ cP cR : ClassId} {A : Nat → Prop} {M : Mem} {p0 : Int32} {p1 : Int32} {p2 : Int32} {res : (Int32 × Mem)} (hI : gInj 143 ad) (hA : ∀ k, k < 143 → A (ad k)) (hf : fX5_table M p0 p1 p2 = some res) : Met l yX5_table wsX5_table { frames := 2, cells := 0, slots := 0, locals := 46 } (va_Pc [.ref (ad 0), .int p0, .int p1, .int p2] (Pf D vwCl (tysW cI cZ cP cR) 143 ad (spC ad cI cP cR) (XC A) M)) (Qf D vwCl 143 ad (spC ad cI cP cR) A (some (.int res.1)) res.2) 0 0 A := by
  refine Met.ofW (cc := cX5_table) (maxL := 6) (ret := (some .int)) (by decide) rfl ?_
  intro p e s m args below meth c s₁ B hml hv
  obtain ⟨rfl, hP, hK, hX⟩ := hv
  have hx := B.exec
  have hb := B.bytes
  have hr := B.returns
  have hts := atoms_spec (ws := wsX5_table) B.pre
  have hown : s.vm.findClass RX5 = some m.cls := findClass_of_methodNamed B.named
  have hlocks := B.notSynchronized
  have inX3 : ∀ w ∈ wsX30, w ∈ wsX5_table := by decide +kernel
  have inX4 : ∀ w ∈ wsX40, w ∈ wsX5_table := by decide +kernel
  have inX5 : ∀ w ∈ wsX50, w ∈ wsX5_table := by decide +kernel
  have hS : va_S A s.heap s.heap [] := va_S.rf
  have hl := lv_entry ([.ref (ad 0), .int p0, .int p1, .int p2]) (n := 6) (Nat.le_of_ble_eq_true rfl)
  rw [lg_entry_eq]
  generalize (lg_sl ([.ref (ad 0), .int p0, .int p1, .int p2]) ++ List.replicate (6 - (lg_sl ([.ref (ad 0), .int p0, .int p1, .int p2])).length) Slot.unset).toArray = ls at hl ⊢
  have hl : lv_has ls 6 [(0, .ref (ad 0)), (1, .int p0), (2, .int p1), (3, .int p2)] := hl
  rw [fX5_table] at hf
  refine lv_iload_n hx hb dX5_table_0 rfl (lv_at hl 1 rfl) ?_
  obtain ⟨q1, hq1, hf⟩ := ob hf
  refine r_call1 (va_runS (As := [.int p0]) (rest := []) ⟨hx, hb, hml, hown, hts⟩ (c_X5_isPage hI hA hq1) (va_cwS 1 hts gX5_table_X5_isPage rfl rfl rfl (by decide +kernel) ⟨Nat.le_of_ble_eq_true rfl, Nat.le_of_ble_eq_true rfl⟩) (Pf_S (XCb A) (XCo A) hX hK hP hS) rfl rfl hl.1 rfl (lv_room (Nat.le_of_ble_eq_true rfl)) dX5_table_1 ⟨Nat.zero_le _, Nat.zero_le _⟩) hS (fun H locs hP hS => ?_)
  refine r_if_eq (tgt := 23) hx hb dX5_table_4 (by decide) hf (fun hf => ?_) (fun hf => ?_)
  · refine lv_iconst (v := (1 : Int32)) hx hb dX5_table_23 (by decide) ?_
    obtain rfl := Option.some.inj hf
    exact r_iret hx hb hr hlocks hP hS dX5_table_24
  · refine lv_iload_n hx hb dX5_table_7 rfl (lv_at hl 2 rfl) ?_
    obtain ⟨q2, hq2, hf⟩ := ob hf
    refine r_call1 (va_runS (As := [.int p1]) (rest := []) ⟨hx, hb, hml, hown, hts⟩ (c_X5_isPage hI hA hq2) (va_cwS 1 hts gX5_table_X5_isPage rfl rfl rfl (by decide +kernel) ⟨Nat.le_of_ble_eq_true rfl, Nat.le_of_ble_eq_true rfl⟩) (Pf_S (XCb A) (XCo A) hX hK hP hS) rfl rfl hl.1 rfl (lv_room (Nat.le_of_ble_eq_true rfl)) dX5_table_8 ⟨Nat.zero_le _, Nat.zero_le _⟩) hS (fun H locs hP hS => ?_)
    refine r_if_eq (tgt := 23) hx hb dX5_table_11 (by decide) hf (fun hf => ?_) (fun hf => ?_)
    · refine lv_iconst (v := (1 : Int32)) hx hb dX5_table_23 (by decide) ?_
      obtain rfl := Option.some.inj hf
      exact r_iret hx hb hr hlocks hP hS dX5_table_24
    · refine lv_iload_n hx hb dX5_table_14 rfl (lv_at hl 3 rfl) ?_
      refine r_if_lt (tgt := 23) hx hb dX5_table_15 (by decide) hf (fun hf => ?_) (fun hf => ?_)
      · refine lv_iconst (v := (1 : Int32)) hx hb dX5_table_23 (by decide) ?_
        obtain rfl := Option.some.inj hf
        exact r_iret hx hb hr hlocks hP hS dX5_table_24
      · refine lv_iload_n hx hb dX5_table_18 rfl (lv_at hl 3 rfl) ?_
        refine lv_iconst (v := (4 : Int32)) hx hb dX5_table_19 (by decide) ?_
        refine r_icmp_lt (tgt := 25) hx hb dX5_table_20 (by decide) hf (fun hf => ?_) (fun hf => ?_)
        · refine lv_aload_n hx hb dX5_table_25 rfl (lv_at hl 0 rfl) ?_
          refine lv_iload_n hx hb dX5_table_26 rfl (lv_at hl 1 rfl) ?_
          refine lv_iload_n hx hb dX5_table_27 rfl (lv_at hl 2 rfl) ?_
          refine lv_iconst (v := (0 : Int32)) hx hb dX5_table_28 (by decide) ?_
          obtain ⟨q3, hq3, hf⟩ := ob hf
          refine r_call1 (va_runV (As := [.int p0, .int p1, .int (0 : Int32)]) (rest := []) ⟨hx, hb, hml, hown, hts⟩ (c_X5_refusalOfNew hI hA hq3) (cwV 3 hts gX5_table_X5_refusalOfNew rfl rfl rfl (by decide +kernel) ⟨Nat.le_of_ble_eq_true rfl, Nat.le_of_ble_eq_true rfl⟩) (Pf_V (XCb A) (XCo A) hX hK hP hS obX5 rfl) rfl rfl hl.1 rfl (lv_room (Nat.le_of_ble_eq_true rfl)) dX5_table_29 ⟨Nat.zero_le _, Nat.zero_le _⟩) hS (fun H locs hP hS => ?_)
          refine r_top (g := .int) hf (fun x4 hf => ?_)
          refine lv_istore (lv' := [(4, .int x4), (0, .ref (ad 0)), (1, .int p0), (2, .int p1), (3, .int p2)]) hx hb dX5_table_32 hl (by decide) rfl (fun ls hl => ?_)
          refine lv_iload hx hb dX5_table_34 (lv_at hl 0 rfl) ?_
          refine r_if_eq (tgt := 42) hx hb dX5_table_36 (by decide) hf (fun hf => ?_) (fun hf => ?_)
          · refine lv_aload_n hx hb dX5_table_42 rfl (lv_at hl 1 rfl) ?_
            refine r_getc (k' := 2) (j := 1) hx hb hts inX5 hown hK hP (obX5) rfl (by decide) (hts (.fieldLink RX5 20 "PageMonitor" "store" "LPageMonitor$Store;") (by decide +kernel)) (fun _ => rfl) dX5_table_43 ?_
            refine r_getc (k' := 3) (j := 0) hx hb hts inX4 hown hK hP (obX4) rfl (by decide) (hts (.fieldLink RX5 59 "PageMonitor$Store" "pages" "[LPageMonitor$Page;") (by decide +kernel)) (fun _ => rfl) dX5_table_46 ?_
            refine lv_iload_n hx hb dX5_table_49 rfl (lv_at hl 3 rfl) ?_
            refine r_aald hx hb hK hP 2 ra3 rfl rfl dX5_table_50 hf (fun k5 hf => ?_)
            refine r_getr (k' := k5 + 1) (j := 5) hx hb hts inX3 hown hK hP isPg_s rfl (by decide) (hts (.fieldLink RX5 71 "PageMonitor$Page" "tables" "[I") (by decide +kernel)) (fun _ => rfl) dX5_table_51 hf (fun hf => ?_)
            refine lv_astore (lv' := [(5, .ref (ad (k5 + 1))), (4, .int x4), (0, .ref (ad 0)), (1, .int p0), (2, .int p1), (3, .int p2)]) hx hb dX5_table_54 hl (by decide) rfl (fun ls hl => ?_)
            refine lv_aload hx hb dX5_table_56 (lv_at hl 0 rfl) ?_
            refine lv_iload_n hx hb dX5_table_58 rfl (lv_at hl 5 rfl) ?_
            refine r_iald hx hb hK hP 0 isI_s rfl dX5_table_59 hf (fun x6 hf => ?_)
            refine lv_iconst (v := (-1 : Int32)) hx hb dX5_table_60 (by decide) ?_
            refine r_icmp_eq (tgt := 66) hx hb dX5_table_61 (by decide) hf (fun hf => ?_) (fun hf => ?_)
            · refine lv_aload hx hb dX5_table_66 (lv_at hl 0 rfl) ?_
              refine lv_iload_n hx hb dX5_table_68 rfl (lv_at hl 5 rfl) ?_
              refine lv_iload_n hx hb dX5_table_69 rfl (lv_at hl 3 rfl) ?_
              refine r_iast hx hb hI hA hK hP hS 0 isI_s rfl dX5_table_70 hf (fun M7 H locs hP hS hf => ?_)
              refine lv_aload_n hx hb dX5_table_71 rfl (lv_at hl 2 rfl) ?_
              refine r_getc (k' := 2) (j := 1) hx hb hts inX5 hown hK hP (obX5) rfl (by decide) (hts (.fieldLink RX5 20 "PageMonitor" "store" "LPageMonitor$Store;") (by decide +kernel)) (fun _ => rfl) dX5_table_72 ?_
              refine lv_iload_n hx hb dX5_table_75 rfl (lv_at hl 3 rfl) ?_
              refine lv_iconst (v := (3 : Int32)) hx hb dX5_table_76 (by decide) ?_
              refine lv_iload_n hx hb dX5_table_77 rfl (lv_at hl 4 rfl) ?_
              obtain ⟨q8, hq8, hf⟩ := ob hf
              refine r_call1 (va_runV (As := [.int p0, .int (3 : Int32), .int p1]) (rest := []) ⟨hx, hb, hml, hown, hts⟩ (c_X4_claim hI hA hq8) (cwV 3 hts gX5_table_X4_claim rfl rfl rfl (by decide +kernel) ⟨Nat.le_of_ble_eq_true rfl, Nat.le_of_ble_eq_true rfl⟩) (Pf_V (XCb A) (XCo A) hX hK hP hS obX4 rfl) rfl rfl hl.1 rfl (lv_room (Nat.le_of_ble_eq_true rfl)) dX5_table_78 ⟨Nat.zero_le _, Nat.zero_le _⟩) hS (fun H locs hP hS => ?_)
              refine r_getr (k' := q8.1 + 4) (j := 11) hx hb hts inX3 hown hK hP isPg_s rfl (by decide) (hts (.fieldLink RX5 99 "PageMonitor$Page" "entries" "[I") (by decide +kernel)) (fun _ => rfl) dX5_table_81 hf (fun hf => ?_)
              refine lv_iconst (v := (0 : Int32)) hx hb dX5_table_84 (by decide) ?_
              obtain ⟨q9, hq9, hf⟩ := ob hf
              refine r_callv (va_runS (As := [.ref (ad (q8.1 + 4)), .int (0 : Int32)]) (rest := []) ⟨hx, hb, hml, hown, hts⟩ (c_J7_fill_53178 hI hA hq9) (va_cwS 2 hts gX5_table_J7_fill_53178 rfl rfl rfl (by decide +kernel) ⟨Nat.le_of_ble_eq_true rfl, Nat.le_of_ble_eq_true rfl⟩) (Pf_S (XCb A) (XCo A) hX hK hP hS) rfl rfl hl.1 rfl (lv_room (Nat.le_of_ble_eq_true rfl)) dX5_table_85 ⟨Nat.zero_le _, Nat.zero_le _⟩) hS (fun H locs hP hS => ?_)
              refine lv_iconst (v := (0 : Int32)) hx hb dX5_table_88 (by decide) ?_
              obtain rfl := Option.some.inj hf
              exact r_iret hx hb hr hlocks hP hS dX5_table_89
            · refine lv_iconst (v := (5 : Int32)) hx hb dX5_table_64 (by decide) ?_
              obtain rfl := Option.some.inj hf
              exact r_iret hx hb hr hlocks hP hS dX5_table_65
          · refine lv_iload hx hb dX5_table_39 (lv_at hl 0 rfl) ?_
            obtain rfl := Option.some.inj hf
            exact r_iret hx hb hr hlocks hP hS dX5_table_41
        · refine lv_iconst (v := (1 : Int32)) hx hb dX5_table_23 (by decide) ?_
          obtain rfl := Option.some.inj hf
          exact r_iret hx hb hr hlocks hP hS dX5_table_24
set_option maxHeartbeats 4000000 in
set_option maxRecDepth 100000 in
theorem c_X5_data {l : Launch} {D : va_G} {ad : Nat → Nat} {cI cZ cP cR : ClassId} {A : Nat → Prop} {M : Mem} {p0 : Int32} {p1 : Int32} {p2 : Int32} {p3 : Int32} {p4 : Int32} {res : (Int32 × Mem)} (hI : gInj 143 ad) (hA : ∀ k, k < 143 → A (ad k)) (hf : fX5_data M p0 p1 p2 p3 p4 = some res) : Met l yX5_data wsX5_data { frames := 5, cells := 0, slots := 0, locals := 167 } (va_Pc [.ref (ad 0), .int p0, .int p1, .int p2, .int p3, .int p4] (Pf D vwCl (tysW cI cZ cP cR) 143 ad (spC ad cI cP cR) (XC A) M)) (Qf D vwCl 143 ad (spC ad cI cP cR) A (some (.int res.1)) res.2) 0 0 A := by
  refine Met.ofW (cc := cX5_data) (maxL := 9) (ret := (some .int)) (by decide) rfl ?_
  intro p e s m args below meth c s₁ B hml hv
  obtain ⟨rfl, hP, hK, hX⟩ := hv
  have hx := B.exec
  have hb := B.bytes
  have hr := B.returns
  have hts := atoms_spec (ws := wsX5_data) B.pre
  have hown : s.vm.findClass RX5 = some m.cls := findClass_of_methodNamed B.named
  have hlocks := B.notSynchronized
  have inX4 : ∀ w ∈ wsX40, w ∈ wsX5_data := by decide +kernel
  have inX5 : ∀ w ∈ wsX50, w ∈ wsX5_data := by decide +kernel
  have hS : va_S A s.heap s.heap [] := va_S.rf
  have hl := lv_entry ([.ref (ad 0), .int p0, .int p1, .int p2, .int p3, .int p4]) (n := 9) (Nat.le_of_ble_eq_true rfl)
  rw [lg_entry_eq]
  generalize (lg_sl ([.ref (ad 0), .int p0, .int p1, .int p2, .int p3, .int p4]) ++ List.replicate (9 - (lg_sl ([.ref (ad 0), .int p0, .int p1, .int p2, .int p3, .int p4])).length) Slot.unset).toArray = ls at hl ⊢
  have hl : lv_has ls 9 [(0, .ref (ad 0)), (1, .int p0), (2, .int p1), (3, .int p2), (4, .int p3), (5, .int p4)] := hl
  rw [fX5_data] at hf
  refine lv_iload_n hx hb dX5_data_0 rfl (lv_at hl 1 rfl) ?_
  obtain ⟨q1, hq1, hf⟩ := ob hf
  refine r_call1 (va_runS (As := [.int p0]) (rest := []) ⟨hx, hb, hml, hown, hts⟩ (c_X5_isPage hI hA hq1) (va_cwS 1 hts gX5_data_X5_isPage rfl rfl rfl (by decide +kernel) ⟨Nat.le_of_ble_eq_true rfl, Nat.le_of_ble_eq_true rfl⟩) (Pf_S (XCb A) (XCo A) hX hK hP hS) rfl rfl hl.1 rfl (lv_room (Nat.le_of_ble_eq_true rfl)) dX5_data_1 ⟨Nat.zero_le _, Nat.zero_le _⟩) hS (fun H locs hP hS => ?_)
  refine r_if_eq (tgt := 37) hx hb dX5_data_4 (by decide) hf (fun hf => ?_) (fun hf => ?_)
  · refine lv_iconst (v := (1 : Int32)) hx hb dX5_data_37 (by decide) ?_
    obtain rfl := Option.some.inj hf
    exact r_iret hx hb hr hlocks hP hS dX5_data_38
  · refine lv_iload_n hx hb dX5_data_7 rfl (lv_at hl 2 rfl) ?_
    obtain ⟨q2, hq2, hf⟩ := ob hf
    refine r_call1 (va_runS (As := [.int p1]) (rest := []) ⟨hx, hb, hml, hown, hts⟩ (c_X5_isPage hI hA hq2) (va_cwS 1 hts gX5_data_X5_isPage rfl rfl rfl (by decide +kernel) ⟨Nat.le_of_ble_eq_true rfl, Nat.le_of_ble_eq_true rfl⟩) (Pf_S (XCb A) (XCo A) hX hK hP hS) rfl rfl hl.1 rfl (lv_room (Nat.le_of_ble_eq_true rfl)) dX5_data_8 ⟨Nat.zero_le _, Nat.zero_le _⟩) hS (fun H locs hP hS => ?_)
    refine r_if_eq (tgt := 37) hx hb dX5_data_11 (by decide) hf (fun hf => ?_) (fun hf => ?_)
    · refine lv_iconst (v := (1 : Int32)) hx hb dX5_data_37 (by decide) ?_
      obtain rfl := Option.some.inj hf
      exact r_iret hx hb hr hlocks hP hS dX5_data_38
    · refine lv_iload_n hx hb dX5_data_14 rfl (lv_at hl 3 rfl) ?_
      obtain ⟨q3, hq3, hf⟩ := ob hf
      refine r_call1 (va_runS (As := [.int p2]) (rest := []) ⟨hx, hb, hml, hown, hts⟩ (c_X5_isBlock hI hA hq3) (va_cwS 1 hts gX5_data_X5_isBlock rfl rfl rfl (by decide +kernel) ⟨Nat.le_of_ble_eq_true rfl, Nat.le_of_ble_eq_true rfl⟩) (Pf_S (XCb A) (XCo A) hX hK hP hS) rfl rfl hl.1 rfl (lv_room (Nat.le_of_ble_eq_true rfl)) dX5_data_15 ⟨Nat.zero_le _, Nat.zero_le _⟩) hS (fun H locs hP hS => ?_)
      refine r_if_eq (tgt := 37) hx hb dX5_data_18 (by decide) hf (fun hf => ?_) (fun hf => ?_)
      · refine lv_iconst (v := (1 : Int32)) hx hb dX5_data_37 (by decide) ?_
        obtain rfl := Option.some.inj hf
        exact r_iret hx hb hr hlocks hP hS dX5_data_38
      · refine lv_iload hx hb dX5_data_21 (lv_at hl 5 rfl) ?_
        obtain ⟨q4, hq4, hf⟩ := ob hf
        refine r_call1 (va_runS (As := [.int p4]) (rest := []) ⟨hx, hb, hml, hown, hts⟩ (c_X5_isFrame hI hA hq4) (va_cwS 1 hts gX5_data_X5_isFrame rfl rfl rfl (by decide +kernel) ⟨Nat.le_of_ble_eq_true rfl, Nat.le_of_ble_eq_true rfl⟩) (Pf_S (XCb A) (XCo A) hX hK hP hS) rfl rfl hl.1 rfl (lv_room (Nat.le_of_ble_eq_true rfl)) dX5_data_23 ⟨Nat.zero_le _, Nat.zero_le _⟩) hS (fun H locs hP hS => ?_)
        refine r_if_eq (tgt := 37) hx hb dX5_data_26 (by decide) hf (fun hf => ?_) (fun hf => ?_)
        · refine lv_iconst (v := (1 : Int32)) hx hb dX5_data_37 (by decide) ?_
          obtain rfl := Option.some.inj hf
          exact r_iret hx hb hr hlocks hP hS dX5_data_38
        · refine lv_iload hx hb dX5_data_29 (lv_at hl 4 rfl) ?_
          obtain ⟨q5, hq5, hf⟩ := ob hf
          refine r_call1 (va_runS (As := [.int p3]) (rest := []) ⟨hx, hb, hml, hown, hts⟩ (c_X5_areDataRights hI hA hq5) (va_cwS 1 hts gX5_data_X5_areDataRights rfl rfl rfl (by decide +kernel) ⟨Nat.le_of_ble_eq_true rfl, Nat.le_of_ble_eq_true rfl⟩) (Pf_S (XCb A) (XCo A) hX hK hP hS) rfl rfl hl.1 rfl (lv_room (Nat.le_of_ble_eq_true rfl)) dX5_data_31 ⟨Nat.zero_le _, Nat.zero_le _⟩) hS (fun H locs hP hS => ?_)
          refine r_if_ne (tgt := 39) hx hb dX5_data_34 (by decide) hf (fun hf => ?_) (fun hf => ?_)
          · refine lv_aload_n hx hb dX5_data_39 rfl (lv_at hl 0 rfl) ?_
            refine lv_iload_n hx hb dX5_data_40 rfl (lv_at hl 1 rfl) ?_
            refine lv_iload_n hx hb dX5_data_41 rfl (lv_at hl 2 rfl) ?_
            refine lv_iconst (v := (0 : Int32)) hx hb dX5_data_42 (by decide) ?_
            obtain ⟨q6, hq6, hf⟩ := ob hf
            refine r_call1 (va_runV (As := [.int p0, .int p1, .int (0 : Int32)]) (rest := []) ⟨hx, hb, hml, hown, hts⟩ (c_X5_refusalOfNew hI hA hq6) (cwV 3 hts gX5_data_X5_refusalOfNew rfl rfl rfl (by decide +kernel) ⟨Nat.le_of_ble_eq_true rfl, Nat.le_of_ble_eq_true rfl⟩) (Pf_V (XCb A) (XCo A) hX hK hP hS obX5 rfl) rfl rfl hl.1 rfl (lv_room (Nat.le_of_ble_eq_true rfl)) dX5_data_43 ⟨Nat.zero_le _, Nat.zero_le _⟩) hS (fun H locs hP hS => ?_)
            refine r_top (g := .int) hf (fun x7 hf => ?_)
            refine lv_istore (lv' := [(6, .int x7), (0, .ref (ad 0)), (1, .int p0), (2, .int p1), (3, .int p2), (4, .int p3), (5, .int p4)]) hx hb dX5_data_46 hl (by decide) rfl (fun ls hl => ?_)
            refine lv_iload hx hb dX5_data_48 (lv_at hl 0 rfl) ?_
            refine r_if_eq (tgt := 56) hx hb dX5_data_50 (by decide) hf (fun hf => ?_) (fun hf => ?_)
            · refine lv_aload_n hx hb dX5_data_56 rfl (lv_at hl 1 rfl) ?_
              refine r_getc (k' := 2) (j := 1) hx hb hts inX5 hown hK hP (obX5) rfl (by decide) (hts (.fieldLink RX5 20 "PageMonitor" "store" "LPageMonitor$Store;") (by decide +kernel)) (fun _ => rfl) dX5_data_57 ?_
              refine r_getc (k' := 3) (j := 0) hx hb hts inX4 hown hK hP (obX4) rfl (by decide) (hts (.fieldLink RX5 59 "PageMonitor$Store" "pages" "[LPageMonitor$Page;") (by decide +kernel)) (fun _ => rfl) dX5_data_60 ?_
              refine lv_iload_n hx hb dX5_data_63 rfl (lv_at hl 3 rfl) ?_
              refine r_aald hx hb hK hP 2 ra3 rfl rfl dX5_data_64 hf (fun k8 hf => ?_)
              refine lv_astore (lv' := [(7, .ref (ad k8)), (6, .int x7), (0, .ref (ad 0)), (1, .int p0), (2, .int p1), (3, .int p2), (4, .int p3), (5, .int p4)]) hx hb dX5_data_65 hl (by decide) rfl (fun ls hl => ?_)
              refine lv_aload_n hx hb dX5_data_67 rfl (lv_at hl 2 rfl) ?_
              refine r_getc (k' := 2) (j := 1) hx hb hts inX5 hown hK hP (obX5) rfl (by decide) (hts (.fieldLink RX5 20 "PageMonitor" "store" "LPageMonitor$Store;") (by decide +kernel)) (fun _ => rfl) dX5_data_68 ?_
              refine lv_aload hx hb dX5_data_71 (lv_at hl 0 rfl) ?_
              refine lv_iload_n hx hb dX5_data_73 rfl (lv_at hl 5 rfl) ?_
              obtain ⟨q9, hq9, hf⟩ := ob hf
              refine r_call1 (va_runV (As := [.ref (ad k8), .int p2]) (rest := []) ⟨hx, hb, hml, hown, hts⟩ (c_X4_hasRoom hI hA hq9) (cwV 2 hts gX5_data_X4_hasRoom rfl rfl rfl (by decide +kernel) ⟨Nat.le_of_ble_eq_true rfl, Nat.le_of_ble_eq_true rfl⟩) (Pf_V (XCb A) (XCo A) hX hK hP hS obX4 rfl) rfl rfl hl.1 rfl (lv_room (Nat.le_of_ble_eq_true rfl)) dX5_data_74 ⟨Nat.zero_le _, Nat.zero_le _⟩) hS (fun H locs hP hS => ?_)
              refine r_if_ne (tgt := 82) hx hb dX5_data_77 (by decide) hf (fun hf => ?_) (fun hf => ?_)
              · refine lv_aload_n hx hb dX5_data_82 rfl (lv_at hl 2 rfl) ?_
                refine r_getc (k' := 2) (j := 1) hx hb hts inX5 hown hK hP (obX5) rfl (by decide) (hts (.fieldLink RX5 20 "PageMonitor" "store" "LPageMonitor$Store;") (by decide +kernel)) (fun _ => rfl) dX5_data_83 ?_
                refine lv_iload_n hx hb dX5_data_86 rfl (lv_at hl 3 rfl) ?_
                refine lv_iconst (v := (4 : Int32)) hx hb dX5_data_87 (by decide) ?_
                refine lv_iload_n hx hb dX5_data_88 rfl (lv_at hl 4 rfl) ?_
                obtain ⟨q10, hq10, hf⟩ := ob hf
                refine r_call1 (va_runV (As := [.int p0, .int (4 : Int32), .int p1]) (rest := []) ⟨hx, hb, hml, hown, hts⟩ (c_X4_claim hI hA hq10) (cwV 3 hts gX5_data_X4_claim rfl rfl rfl (by decide +kernel) ⟨Nat.le_of_ble_eq_true rfl, Nat.le_of_ble_eq_true rfl⟩) (Pf_V (XCb A) (XCo A) hX hK hP hS obX4 rfl) rfl rfl hl.1 rfl (lv_room (Nat.le_of_ble_eq_true rfl)) dX5_data_89 ⟨Nat.zero_le _, Nat.zero_le _⟩) hS (fun H locs hP hS => ?_)
                refine lv_pop hx hb dX5_data_92 rfl ?_
                refine lv_aload_n hx hb dX5_data_93 rfl (lv_at hl 2 rfl) ?_
                refine r_getc (k' := 2) (j := 1) hx hb hts inX5 hown hK hP (obX5) rfl (by decide) (hts (.fieldLink RX5 20 "PageMonitor" "store" "LPageMonitor$Store;") (by decide +kernel)) (fun _ => rfl) dX5_data_94 ?_
                refine r_getc (k' := 4) (j := 1) hx hb hts inX4 hown hK hP (obX4) rfl (by decide) (hts (.fieldLink RX5 112 "PageMonitor$Store" "rows" "[[I") (by decide +kernel)) (fun _ => rfl) dX5_data_97 ?_
                refine lv_iload_n hx hb dX5_data_100 rfl (lv_at hl 3 rfl) ?_
                refine r_aald hx hb hK hP 3 ra4 rfl rfl dX5_data_101 hf (fun k11 hf => ?_)
                refine lv_astore (lv' := [(8, .ref (ad k11)), (7, .ref (ad k8)), (6, .int x7), (0, .ref (ad 0)), (1, .int p0), (2, .int p1), (3, .int p2), (4, .int p3), (5, .int p4)]) hx hb dX5_data_102 hl (by decide) rfl (fun ls hl => ?_)
                refine lv_aload_n hx hb dX5_data_104 rfl (lv_at hl 3 rfl) ?_
                refine r_getc (k' := 2) (j := 1) hx hb hts inX5 hown hK hP (obX5) rfl (by decide) (hts (.fieldLink RX5 20 "PageMonitor" "store" "LPageMonitor$Store;") (by decide +kernel)) (fun _ => rfl) dX5_data_105 ?_
                refine lv_iload hx hb dX5_data_108 (lv_at hl 8 rfl) ?_
                obtain ⟨q12, hq12, hf⟩ := ob hf
                refine r_call1 (va_runV (As := [.int p4]) (rest := []) ⟨hx, hb, hml, hown, hts⟩ (c_X4_frameRow hI hA hq12) (cwV 1 hts gX5_data_X4_frameRow rfl rfl rfl (by decide +kernel) ⟨Nat.le_of_ble_eq_true rfl, Nat.le_of_ble_eq_true rfl⟩) (Pf_V (XCb A) (XCo A) hX hK hP hS obX4 rfl) rfl rfl hl.1 rfl (lv_room (Nat.le_of_ble_eq_true rfl)) dX5_data_110 ⟨Nat.zero_le _, Nat.zero_le _⟩) hS (fun H locs hP hS => ?_)
                refine lv_iconst (v := (0 : Int32)) hx hb dX5_data_113 (by decide) ?_
                refine lv_aload hx hb dX5_data_114 (lv_at hl 0 rfl) ?_
                refine lv_iconst (v := (0 : Int32)) hx hb dX5_data_116 (by decide) ?_
                refine lv_bipush (v := (16 : Int32)) hx hb dX5_data_117 (by decide) ?_
                refine r_cpy hx hb (hml.trans hl.1.symm) hown (hts (.methodLink RX5 116 arraycopyName) (by decide +kernel)) (hts (.native arraycopyName) (by decide +kernel)) (hts (.static arraycopyName) (by decide +kernel)) (hts (.initialized "java/lang/System") (by decide +kernel)) hI hA hK hP hS isI_s isI_s rfl (by decide) (by decide) (by decide) (Nat.le_of_ble_eq_true rfl) (by decide +kernel) dX5_data_119 hf (fun M13 H locs hP hS hf => ?_)
                refine lv_aload_n hx hb dX5_data_122 rfl (lv_at hl 3 rfl) ?_
                refine r_getc (k' := 2) (j := 1) hx hb hts inX5 hown hK hP (obX5) rfl (by decide) (hts (.fieldLink RX5 20 "PageMonitor" "store" "LPageMonitor$Store;") (by decide +kernel)) (fun _ => rfl) dX5_data_123 ?_
                refine lv_aload hx hb dX5_data_126 (lv_at hl 1 rfl) ?_
                refine lv_iload_n hx hb dX5_data_128 rfl (lv_at hl 6 rfl) ?_
                refine lv_iload_n hx hb dX5_data_129 rfl (lv_at hl 4 rfl) ?_
                refine lv_iload hx hb dX5_data_130 (lv_at hl 7 rfl) ?_
                obtain ⟨q14, hq14, hf⟩ := ob hf
                refine r_callv (va_runV (As := [.ref (ad k8), .int p2, .int p0, .int p3]) (rest := []) ⟨hx, hb, hml, hown, hts⟩ (c_X4_map hI hA hq14) (cwV 4 hts gX5_data_X4_map rfl rfl rfl (by decide +kernel) ⟨Nat.le_of_ble_eq_true rfl, Nat.le_of_ble_eq_true rfl⟩) (Pf_V (XCb A) (XCo A) hX hK hP hS obX4 rfl) rfl rfl hl.1 rfl (lv_room (Nat.le_of_ble_eq_true rfl)) dX5_data_132 ⟨Nat.zero_le _, Nat.zero_le _⟩) hS (fun H locs hP hS => ?_)
                refine lv_aload_n hx hb dX5_data_135 rfl (lv_at hl 3 rfl) ?_
                refine r_getc (k' := 133) (j := 2) hx hb hts inX5 hown hK hP (obX5) rfl (by decide) (hts (.fieldLink RX5 25 "PageMonitor" "notary" "LPageMonitor$Notary;") (by decide +kernel)) (fun _ => rfl) dX5_data_136 ?_
                refine lv_aload hx hb dX5_data_139 (lv_at hl 1 rfl) ?_
                refine lv_iconst (v := (2 : Int32)) hx hb dX5_data_141 (by decide) ?_
                refine lv_iload_n hx hb dX5_data_142 rfl (lv_at hl 6 rfl) ?_
                refine lv_iload hx hb dX5_data_143 (lv_at hl 7 rfl) ?_
                obtain ⟨q15, hq15, hf⟩ := ob hf
                refine r_callv (va_runV (As := [.ref (ad k8), .int (2 : Int32), .int p2, .int p3]) (rest := []) ⟨hx, hb, hml, hown, hts⟩ (c_X2_tell hI hA hq15) (cwV 4 hts gX5_data_X2_tell rfl rfl rfl (by decide +kernel) ⟨Nat.le_of_ble_eq_true rfl, Nat.le_of_ble_eq_true rfl⟩) (Pf_V (XCb A) (XCo A) hX hK hP hS obX2 rfl) rfl rfl hl.1 rfl (lv_room (Nat.le_of_ble_eq_true rfl)) dX5_data_145 ⟨Nat.zero_le _, Nat.zero_le _⟩) hS (fun H locs hP hS => ?_)
                refine lv_aload_n hx hb dX5_data_148 rfl (lv_at hl 3 rfl) ?_
                refine r_getc (k' := 133) (j := 2) hx hb hts inX5 hown hK hP (obX5) rfl (by decide) (hts (.fieldLink RX5 25 "PageMonitor" "notary" "LPageMonitor$Notary;") (by decide +kernel)) (fun _ => rfl) dX5_data_149 ?_
                refine lv_aload hx hb dX5_data_152 (lv_at hl 1 rfl) ?_
                refine lv_aload hx hb dX5_data_154 (lv_at hl 0 rfl) ?_
                obtain ⟨q16, hq16, hf⟩ := ob hf
                refine r_callv (va_runV (As := [.ref (ad k8), .ref (ad k11)]) (rest := []) ⟨hx, hb, hml, hown, hts⟩ (c_X2_tellWords hI hA hq16) (cwV 2 hts gX5_data_X2_tellWords rfl rfl rfl (by decide +kernel) ⟨Nat.le_of_ble_eq_true rfl, Nat.le_of_ble_eq_true rfl⟩) (Pf_V (XCb A) (XCo A) hX hK hP hS obX2 rfl) rfl rfl hl.1 rfl (lv_room (Nat.le_of_ble_eq_true rfl)) dX5_data_156 ⟨Nat.zero_le _, Nat.zero_le _⟩) hS (fun H locs hP hS => ?_)
                refine lv_iconst (v := (0 : Int32)) hx hb dX5_data_159 (by decide) ?_
                obtain rfl := Option.some.inj hf
                exact r_iret hx hb hr hlocks hP hS dX5_data_160
              · refine lv_iconst (v := (5 : Int32)) hx hb dX5_data_80 (by decide) ?_
                obtain rfl := Option.some.inj hf
                exact r_iret hx hb hr hlocks hP hS dX5_data_81
            · refine lv_iload hx hb dX5_data_53 (lv_at hl 0 rfl) ?_
              obtain rfl := Option.some.inj hf
              exact r_iret hx hb hr hlocks hP hS dX5_data_55
          · refine lv_iconst (v := (1 : Int32)) hx hb dX5_data_37 (by decide) ?_
            obtain rfl := Option.some.inj hf
            exact r_iret hx hb hr hlocks hP hS dX5_data_38
set_option maxHeartbeats 4000000 in
set_option maxRecDepth 100000 in
theorem c_X5_share {l : Launch} {D : va_G} {ad : Nat → Nat} {cI cZ cP cR : ClassId} {A : Nat → Prop} {M : Mem} {p0 : Int32} {p1 : Int32} {p2 : Int32} {p3 : Int32} {res : (Int32 × Mem)} (hI : gInj 143 ad) (hA : ∀ k, k < 143 → A (ad k)) (hf : fX5_share M p0 p1 p2 p3 = some res) : Met l yX5_share wsX5_share { frames := 5, cells := 0, slots := 0, locals := 167 } (va_Pc [.ref (ad 0), .int p0, .int p1, .int p2, .int p3] (Pf D vwCl (tysW cI cZ cP cR) 143 ad (spC ad cI cP cR) (XC A) M)) (Qf D vwCl 143 ad (spC ad cI cP cR) A (some (.int res.1)) res.2) 0 0 A := by
  refine Met.ofW (cc := cX5_share) (maxL := 7) (ret := (some .int)) (by decide) rfl ?_
  intro p e s m args below meth c s₁ B hml hv
  obtain ⟨rfl, hP, hK, hX⟩ := hv
  have hx := B.exec
  have hb := B.bytes
  have hr := B.returns
  have hts := atoms_spec (ws := wsX5_share) B.pre
  have hown : s.vm.findClass RX5 = some m.cls := findClass_of_methodNamed B.named
  have hlocks := B.notSynchronized
  have inX4 : ∀ w ∈ wsX40, w ∈ wsX5_share := by decide +kernel
  have inX5 : ∀ w ∈ wsX50, w ∈ wsX5_share := by decide +kernel
  have hS : va_S A s.heap s.heap [] := va_S.rf
  have hl := lv_entry ([.ref (ad 0), .int p0, .int p1, .int p2, .int p3]) (n := 7) (Nat.le_of_ble_eq_true rfl)
  rw [lg_entry_eq]
  generalize (lg_sl ([.ref (ad 0), .int p0, .int p1, .int p2, .int p3]) ++ List.replicate (7 - (lg_sl ([.ref (ad 0), .int p0, .int p1, .int p2, .int p3])).length) Slot.unset).toArray = ls at hl ⊢
  have hl : lv_has ls 7 [(0, .ref (ad 0)), (1, .int p0), (2, .int p1), (3, .int p2), (4, .int p3)] := hl
  rw [fX5_share] at hf
  refine lv_iload_n hx hb dX5_share_0 rfl (lv_at hl 1 rfl) ?_
  obtain ⟨q1, hq1, hf⟩ := ob hf
  refine r_call1 (va_runS (As := [.int p0]) (rest := []) ⟨hx, hb, hml, hown, hts⟩ (c_X5_isPage hI hA hq1) (va_cwS 1 hts gX5_share_X5_isPage rfl rfl rfl (by decide +kernel) ⟨Nat.le_of_ble_eq_true rfl, Nat.le_of_ble_eq_true rfl⟩) (Pf_S (XCb A) (XCo A) hX hK hP hS) rfl rfl hl.1 rfl (lv_room (Nat.le_of_ble_eq_true rfl)) dX5_share_1 ⟨Nat.zero_le _, Nat.zero_le _⟩) hS (fun H locs hP hS => ?_)
  refine r_if_eq (tgt := 32) hx hb dX5_share_4 (by decide) hf (fun hf => ?_) (fun hf => ?_)
  · refine lv_iconst (v := (1 : Int32)) hx hb dX5_share_32 (by decide) ?_
    obtain rfl := Option.some.inj hf
    exact r_iret hx hb hr hlocks hP hS dX5_share_33
  · refine lv_iload_n hx hb dX5_share_7 rfl (lv_at hl 2 rfl) ?_
    obtain ⟨q2, hq2, hf⟩ := ob hf
    refine r_call1 (va_runS (As := [.int p1]) (rest := []) ⟨hx, hb, hml, hown, hts⟩ (c_X5_isBlock hI hA hq2) (va_cwS 1 hts gX5_share_X5_isBlock rfl rfl rfl (by decide +kernel) ⟨Nat.le_of_ble_eq_true rfl, Nat.le_of_ble_eq_true rfl⟩) (Pf_S (XCb A) (XCo A) hX hK hP hS) rfl rfl hl.1 rfl (lv_room (Nat.le_of_ble_eq_true rfl)) dX5_share_8 ⟨Nat.zero_le _, Nat.zero_le _⟩) hS (fun H locs hP hS => ?_)
    refine r_if_eq (tgt := 32) hx hb dX5_share_11 (by decide) hf (fun hf => ?_) (fun hf => ?_)
    · refine lv_iconst (v := (1 : Int32)) hx hb dX5_share_32 (by decide) ?_
      obtain rfl := Option.some.inj hf
      exact r_iret hx hb hr hlocks hP hS dX5_share_33
    · refine lv_iload hx hb dX5_share_14 (lv_at hl 4 rfl) ?_
      obtain ⟨q3, hq3, hf⟩ := ob hf
      refine r_call1 (va_runS (As := [.int p3]) (rest := []) ⟨hx, hb, hml, hown, hts⟩ (c_X5_isFrame hI hA hq3) (va_cwS 1 hts gX5_share_X5_isFrame rfl rfl rfl (by decide +kernel) ⟨Nat.le_of_ble_eq_true rfl, Nat.le_of_ble_eq_true rfl⟩) (Pf_S (XCb A) (XCo A) hX hK hP hS) rfl rfl hl.1 rfl (lv_room (Nat.le_of_ble_eq_true rfl)) dX5_share_16 ⟨Nat.zero_le _, Nat.zero_le _⟩) hS (fun H locs hP hS => ?_)
      refine r_if_eq (tgt := 32) hx hb dX5_share_19 (by decide) hf (fun hf => ?_) (fun hf => ?_)
      · refine lv_iconst (v := (1 : Int32)) hx hb dX5_share_32 (by decide) ?_
        obtain rfl := Option.some.inj hf
        exact r_iret hx hb hr hlocks hP hS dX5_share_33
      · refine lv_iload_n hx hb dX5_share_22 rfl (lv_at hl 3 rfl) ?_
        refine lv_iconst (v := (1 : Int32)) hx hb dX5_share_23 (by decide) ?_
        refine r_icmp_eq (tgt := 34) hx hb dX5_share_24 (by decide) hf (fun hf => ?_) (fun hf => ?_)
        · refine lv_aload_n hx hb dX5_share_34 rfl (lv_at hl 0 rfl) ?_
          refine lv_iload_n hx hb dX5_share_35 rfl (lv_at hl 1 rfl) ?_
          refine lv_iconst (v := (0 : Int32)) hx hb dX5_share_36 (by decide) ?_
          obtain ⟨q4, hq4, hf⟩ := ob hf
          refine r_call1 (va_runV (As := [.int p0, .int (0 : Int32)]) (rest := []) ⟨hx, hb, hml, hown, hts⟩ (c_X5_refusalOfSpace hI hA hq4) (cwV 2 hts gX5_share_X5_refusalOfSpace rfl rfl rfl (by decide +kernel) ⟨Nat.le_of_ble_eq_true rfl, Nat.le_of_ble_eq_true rfl⟩) (Pf_V (XCb A) (XCo A) hX hK hP hS obX5 rfl) rfl rfl hl.1 rfl (lv_room (Nat.le_of_ble_eq_true rfl)) dX5_share_37 ⟨Nat.zero_le _, Nat.zero_le _⟩) hS (fun H locs hP hS => ?_)
          refine r_top (g := .int) hf (fun x5 hf => ?_)
          refine lv_istore (lv' := [(5, .int x5), (0, .ref (ad 0)), (1, .int p0), (2, .int p1), (3, .int p2), (4, .int p3)]) hx hb dX5_share_40 hl (by decide) rfl (fun ls hl => ?_)
          refine lv_iload hx hb dX5_share_42 (lv_at hl 0 rfl) ?_
          refine r_if_eq (tgt := 50) hx hb dX5_share_44 (by decide) hf (fun hf => ?_) (fun hf => ?_)
          · refine lv_aload_n hx hb dX5_share_50 rfl (lv_at hl 1 rfl) ?_
            refine r_getc (k' := 2) (j := 1) hx hb hts inX5 hown hK hP (obX5) rfl (by decide) (hts (.fieldLink RX5 20 "PageMonitor" "store" "LPageMonitor$Store;") (by decide +kernel)) (fun _ => rfl) dX5_share_51 ?_
            refine r_getc (k' := 3) (j := 0) hx hb hts inX4 hown hK hP (obX4) rfl (by decide) (hts (.fieldLink RX5 59 "PageMonitor$Store" "pages" "[LPageMonitor$Page;") (by decide +kernel)) (fun _ => rfl) dX5_share_54 ?_
            refine lv_iload_n hx hb dX5_share_57 rfl (lv_at hl 2 rfl) ?_
            refine r_aald hx hb hK hP 2 ra3 rfl rfl dX5_share_58 hf (fun k6 hf => ?_)
            refine lv_astore (lv' := [(6, .ref (ad k6)), (5, .int x5), (0, .ref (ad 0)), (1, .int p0), (2, .int p1), (3, .int p2), (4, .int p3)]) hx hb dX5_share_59 hl (by decide) rfl (fun ls hl => ?_)
            refine lv_aload_n hx hb dX5_share_61 rfl (lv_at hl 2 rfl) ?_
            refine r_getc (k' := 2) (j := 1) hx hb hts inX5 hown hK hP (obX5) rfl (by decide) (hts (.fieldLink RX5 20 "PageMonitor" "store" "LPageMonitor$Store;") (by decide +kernel)) (fun _ => rfl) dX5_share_62 ?_
            refine lv_aload hx hb dX5_share_65 (lv_at hl 0 rfl) ?_
            refine lv_iload_n hx hb dX5_share_67 rfl (lv_at hl 4 rfl) ?_
            obtain ⟨q7, hq7, hf⟩ := ob hf
            refine r_call1 (va_runV (As := [.ref (ad k6), .int p1]) (rest := []) ⟨hx, hb, hml, hown, hts⟩ (c_X4_hasRoom hI hA hq7) (cwV 2 hts gX5_share_X4_hasRoom rfl rfl rfl (by decide +kernel) ⟨Nat.le_of_ble_eq_true rfl, Nat.le_of_ble_eq_true rfl⟩) (Pf_V (XCb A) (XCo A) hX hK hP hS obX4 rfl) rfl rfl hl.1 rfl (lv_room (Nat.le_of_ble_eq_true rfl)) dX5_share_68 ⟨Nat.zero_le _, Nat.zero_le _⟩) hS (fun H locs hP hS => ?_)
            refine r_if_ne (tgt := 76) hx hb dX5_share_71 (by decide) hf (fun hf => ?_) (fun hf => ?_)
            · refine lv_aload_n hx hb dX5_share_76 rfl (lv_at hl 2 rfl) ?_
              refine r_getc (k' := 2) (j := 1) hx hb hts inX5 hown hK hP (obX5) rfl (by decide) (hts (.fieldLink RX5 20 "PageMonitor" "store" "LPageMonitor$Store;") (by decide +kernel)) (fun _ => rfl) dX5_share_77 ?_
              refine lv_aload hx hb dX5_share_80 (lv_at hl 0 rfl) ?_
              refine lv_iload_n hx hb dX5_share_82 rfl (lv_at hl 4 rfl) ?_
              refine lv_bipush (v := (20 : Int32)) hx hb dX5_share_83 (by decide) ?_
              refine lv_iload hx hb dX5_share_85 (lv_at hl 6 rfl) ?_
              refine lv_iadd hx hb dX5_share_87 ?_
              refine lv_iload_n hx hb dX5_share_88 rfl (lv_at hl 5 rfl) ?_
              obtain ⟨q8, hq8, hf⟩ := ob hf
              refine r_callv (va_runV (As := [.ref (ad k6), .int p1, .int ((20 : Int32) + p3), .int p2]) (rest := []) ⟨hx, hb, hml, hown, hts⟩ (c_X4_map hI hA hq8) (cwV 4 hts gX5_share_X4_map rfl rfl rfl (by decide +kernel) ⟨Nat.le_of_ble_eq_true rfl, Nat.le_of_ble_eq_true rfl⟩) (Pf_V (XCb A) (XCo A) hX hK hP hS obX4 rfl) rfl rfl hl.1 rfl (lv_room (Nat.le_of_ble_eq_true rfl)) dX5_share_89 ⟨Nat.zero_le _, Nat.zero_le _⟩) hS (fun H locs hP hS => ?_)
              refine lv_aload_n hx hb dX5_share_92 rfl (lv_at hl 2 rfl) ?_
              refine r_getc (k' := 133) (j := 2) hx hb hts inX5 hown hK hP (obX5) rfl (by decide) (hts (.fieldLink RX5 25 "PageMonitor" "notary" "LPageMonitor$Notary;") (by decide +kernel)) (fun _ => rfl) dX5_share_93 ?_
              refine lv_aload hx hb dX5_share_96 (lv_at hl 0 rfl) ?_
              refine lv_iconst (v := (3 : Int32)) hx hb dX5_share_98 (by decide) ?_
              refine lv_iload_n hx hb dX5_share_99 rfl (lv_at hl 4 rfl) ?_
              refine lv_iload_n hx hb dX5_share_100 rfl (lv_at hl 5 rfl) ?_
              obtain ⟨q9, hq9, hf⟩ := ob hf
              refine r_callv (va_runV (As := [.ref (ad k6), .int (3 : Int32), .int p1, .int p2]) (rest := []) ⟨hx, hb, hml, hown, hts⟩ (c_X2_tell hI hA hq9) (cwV 4 hts gX5_share_X2_tell rfl rfl rfl (by decide +kernel) ⟨Nat.le_of_ble_eq_true rfl, Nat.le_of_ble_eq_true rfl⟩) (Pf_V (XCb A) (XCo A) hX hK hP hS obX2 rfl) rfl rfl hl.1 rfl (lv_room (Nat.le_of_ble_eq_true rfl)) dX5_share_101 ⟨Nat.zero_le _, Nat.zero_le _⟩) hS (fun H locs hP hS => ?_)
              refine lv_iconst (v := (0 : Int32)) hx hb dX5_share_104 (by decide) ?_
              obtain rfl := Option.some.inj hf
              exact r_iret hx hb hr hlocks hP hS dX5_share_105
            · refine lv_iconst (v := (5 : Int32)) hx hb dX5_share_74 (by decide) ?_
              obtain rfl := Option.some.inj hf
              exact r_iret hx hb hr hlocks hP hS dX5_share_75
          · refine lv_iload hx hb dX5_share_47 (lv_at hl 0 rfl) ?_
            obtain rfl := Option.some.inj hf
            exact r_iret hx hb hr hlocks hP hS dX5_share_49
        · refine lv_iload_n hx hb dX5_share_27 rfl (lv_at hl 3 rfl) ?_
          refine lv_iconst (v := (3 : Int32)) hx hb dX5_share_28 (by decide) ?_
          refine r_icmp_eq (tgt := 34) hx hb dX5_share_29 (by decide) hf (fun hf => ?_) (fun hf => ?_)
          · refine lv_aload_n hx hb dX5_share_34 rfl (lv_at hl 0 rfl) ?_
            refine lv_iload_n hx hb dX5_share_35 rfl (lv_at hl 1 rfl) ?_
            refine lv_iconst (v := (0 : Int32)) hx hb dX5_share_36 (by decide) ?_
            obtain ⟨q10, hq10, hf⟩ := ob hf
            refine r_call1 (va_runV (As := [.int p0, .int (0 : Int32)]) (rest := []) ⟨hx, hb, hml, hown, hts⟩ (c_X5_refusalOfSpace hI hA hq10) (cwV 2 hts gX5_share_X5_refusalOfSpace rfl rfl rfl (by decide +kernel) ⟨Nat.le_of_ble_eq_true rfl, Nat.le_of_ble_eq_true rfl⟩) (Pf_V (XCb A) (XCo A) hX hK hP hS obX5 rfl) rfl rfl hl.1 rfl (lv_room (Nat.le_of_ble_eq_true rfl)) dX5_share_37 ⟨Nat.zero_le _, Nat.zero_le _⟩) hS (fun H locs hP hS => ?_)
            refine r_top (g := .int) hf (fun x11 hf => ?_)
            refine lv_istore (lv' := [(5, .int x11), (0, .ref (ad 0)), (1, .int p0), (2, .int p1), (3, .int p2), (4, .int p3)]) hx hb dX5_share_40 hl (by decide) rfl (fun ls hl => ?_)
            refine lv_iload hx hb dX5_share_42 (lv_at hl 0 rfl) ?_
            refine r_if_eq (tgt := 50) hx hb dX5_share_44 (by decide) hf (fun hf => ?_) (fun hf => ?_)
            · refine lv_aload_n hx hb dX5_share_50 rfl (lv_at hl 1 rfl) ?_
              refine r_getc (k' := 2) (j := 1) hx hb hts inX5 hown hK hP (obX5) rfl (by decide) (hts (.fieldLink RX5 20 "PageMonitor" "store" "LPageMonitor$Store;") (by decide +kernel)) (fun _ => rfl) dX5_share_51 ?_
              refine r_getc (k' := 3) (j := 0) hx hb hts inX4 hown hK hP (obX4) rfl (by decide) (hts (.fieldLink RX5 59 "PageMonitor$Store" "pages" "[LPageMonitor$Page;") (by decide +kernel)) (fun _ => rfl) dX5_share_54 ?_
              refine lv_iload_n hx hb dX5_share_57 rfl (lv_at hl 2 rfl) ?_
              refine r_aald hx hb hK hP 2 ra3 rfl rfl dX5_share_58 hf (fun k12 hf => ?_)
              refine lv_astore (lv' := [(6, .ref (ad k12)), (5, .int x11), (0, .ref (ad 0)), (1, .int p0), (2, .int p1), (3, .int p2), (4, .int p3)]) hx hb dX5_share_59 hl (by decide) rfl (fun ls hl => ?_)
              refine lv_aload_n hx hb dX5_share_61 rfl (lv_at hl 2 rfl) ?_
              refine r_getc (k' := 2) (j := 1) hx hb hts inX5 hown hK hP (obX5) rfl (by decide) (hts (.fieldLink RX5 20 "PageMonitor" "store" "LPageMonitor$Store;") (by decide +kernel)) (fun _ => rfl) dX5_share_62 ?_
              refine lv_aload hx hb dX5_share_65 (lv_at hl 0 rfl) ?_
              refine lv_iload_n hx hb dX5_share_67 rfl (lv_at hl 4 rfl) ?_
              obtain ⟨q13, hq13, hf⟩ := ob hf
              refine r_call1 (va_runV (As := [.ref (ad k12), .int p1]) (rest := []) ⟨hx, hb, hml, hown, hts⟩ (c_X4_hasRoom hI hA hq13) (cwV 2 hts gX5_share_X4_hasRoom rfl rfl rfl (by decide +kernel) ⟨Nat.le_of_ble_eq_true rfl, Nat.le_of_ble_eq_true rfl⟩) (Pf_V (XCb A) (XCo A) hX hK hP hS obX4 rfl) rfl rfl hl.1 rfl (lv_room (Nat.le_of_ble_eq_true rfl)) dX5_share_68 ⟨Nat.zero_le _, Nat.zero_le _⟩) hS (fun H locs hP hS => ?_)
              refine r_if_ne (tgt := 76) hx hb dX5_share_71 (by decide) hf (fun hf => ?_) (fun hf => ?_)
              · refine lv_aload_n hx hb dX5_share_76 rfl (lv_at hl 2 rfl) ?_
                refine r_getc (k' := 2) (j := 1) hx hb hts inX5 hown hK hP (obX5) rfl (by decide) (hts (.fieldLink RX5 20 "PageMonitor" "store" "LPageMonitor$Store;") (by decide +kernel)) (fun _ => rfl) dX5_share_77 ?_
                refine lv_aload hx hb dX5_share_80 (lv_at hl 0 rfl) ?_
                refine lv_iload_n hx hb dX5_share_82 rfl (lv_at hl 4 rfl) ?_
                refine lv_bipush (v := (20 : Int32)) hx hb dX5_share_83 (by decide) ?_
                refine lv_iload hx hb dX5_share_85 (lv_at hl 6 rfl) ?_
                refine lv_iadd hx hb dX5_share_87 ?_
                refine lv_iload_n hx hb dX5_share_88 rfl (lv_at hl 5 rfl) ?_
                obtain ⟨q14, hq14, hf⟩ := ob hf
                refine r_callv (va_runV (As := [.ref (ad k12), .int p1, .int ((20 : Int32) + p3), .int p2]) (rest := []) ⟨hx, hb, hml, hown, hts⟩ (c_X4_map hI hA hq14) (cwV 4 hts gX5_share_X4_map rfl rfl rfl (by decide +kernel) ⟨Nat.le_of_ble_eq_true rfl, Nat.le_of_ble_eq_true rfl⟩) (Pf_V (XCb A) (XCo A) hX hK hP hS obX4 rfl) rfl rfl hl.1 rfl (lv_room (Nat.le_of_ble_eq_true rfl)) dX5_share_89 ⟨Nat.zero_le _, Nat.zero_le _⟩) hS (fun H locs hP hS => ?_)
                refine lv_aload_n hx hb dX5_share_92 rfl (lv_at hl 2 rfl) ?_
                refine r_getc (k' := 133) (j := 2) hx hb hts inX5 hown hK hP (obX5) rfl (by decide) (hts (.fieldLink RX5 25 "PageMonitor" "notary" "LPageMonitor$Notary;") (by decide +kernel)) (fun _ => rfl) dX5_share_93 ?_
                refine lv_aload hx hb dX5_share_96 (lv_at hl 0 rfl) ?_
                refine lv_iconst (v := (3 : Int32)) hx hb dX5_share_98 (by decide) ?_
                refine lv_iload_n hx hb dX5_share_99 rfl (lv_at hl 4 rfl) ?_
                refine lv_iload_n hx hb dX5_share_100 rfl (lv_at hl 5 rfl) ?_
                obtain ⟨q15, hq15, hf⟩ := ob hf
                refine r_callv (va_runV (As := [.ref (ad k12), .int (3 : Int32), .int p1, .int p2]) (rest := []) ⟨hx, hb, hml, hown, hts⟩ (c_X2_tell hI hA hq15) (cwV 4 hts gX5_share_X2_tell rfl rfl rfl (by decide +kernel) ⟨Nat.le_of_ble_eq_true rfl, Nat.le_of_ble_eq_true rfl⟩) (Pf_V (XCb A) (XCo A) hX hK hP hS obX2 rfl) rfl rfl hl.1 rfl (lv_room (Nat.le_of_ble_eq_true rfl)) dX5_share_101 ⟨Nat.zero_le _, Nat.zero_le _⟩) hS (fun H locs hP hS => ?_)
                refine lv_iconst (v := (0 : Int32)) hx hb dX5_share_104 (by decide) ?_
                obtain rfl := Option.some.inj hf
                exact r_iret hx hb hr hlocks hP hS dX5_share_105
              · refine lv_iconst (v := (5 : Int32)) hx hb dX5_share_74 (by decide) ?_
                obtain rfl := Option.some.inj hf
                exact r_iret hx hb hr hlocks hP hS dX5_share_75
            · refine lv_iload hx hb dX5_share_47 (lv_at hl 0 rfl) ?_
              obtain rfl := Option.some.inj hf
              exact r_iret hx hb hr hlocks hP hS dX5_share_49
          · refine lv_iconst (v := (1 : Int32)) hx hb dX5_share_32 (by decide) ?_
            obtain rfl := Option.some.inj hf
            exact r_iret hx hb hr hlocks hP hS dX5_share_33
set_option maxHeartbeats 4000000 in
set_option maxRecDepth 100000 in
theorem c_X5_spare {l : Launch} {D : va_G} {ad : Nat → Nat} {cI cZ cP cR : ClassId} {A : Nat → Prop} {M : Mem} {p0 : Int32} {p1 : Int32} {res : (Int32 × Mem)} (hI : gInj 143 ad) (hA : ∀ k, k < 143 → A (ad k)) (hf : fX5_spare M p0 p1 = some res) : Met l yX5_spare wsX5_spare { frames := 2, cells := 0, slots := 0, locals := 46 } (va_Pc [.ref (ad 0), .int p0, .int p1] (Pf D vwCl (tysW cI cZ cP cR) 143 ad (spC ad cI cP cR) (XC A) M)) (Qf D vwCl 143 ad (spC ad cI cP cR) A (some (.int res.1)) res.2) 0 0 A := by
  refine Met.ofW (cc := cX5_spare) (maxL := 4) (ret := (some .int)) (by decide) rfl ?_
  intro p e s m args below meth c s₁ B hml hv
  obtain ⟨rfl, hP, hK, hX⟩ := hv
  have hx := B.exec
  have hb := B.bytes
  have hr := B.returns
  have hts := atoms_spec (ws := wsX5_spare) B.pre
  have hown : s.vm.findClass RX5 = some m.cls := findClass_of_methodNamed B.named
  have hlocks := B.notSynchronized
  have inX5 : ∀ w ∈ wsX50, w ∈ wsX5_spare := by decide +kernel
  have hS : va_S A s.heap s.heap [] := va_S.rf
  have hl := lv_entry ([.ref (ad 0), .int p0, .int p1]) (n := 4) (Nat.le_of_ble_eq_true rfl)
  rw [lg_entry_eq]
  generalize (lg_sl ([.ref (ad 0), .int p0, .int p1]) ++ List.replicate (4 - (lg_sl ([.ref (ad 0), .int p0, .int p1])).length) Slot.unset).toArray = ls at hl ⊢
  have hl : lv_has ls 4 [(0, .ref (ad 0)), (1, .int p0), (2, .int p1)] := hl
  rw [fX5_spare] at hf
  refine lv_iload_n hx hb dX5_spare_0 rfl (lv_at hl 1 rfl) ?_
  obtain ⟨q1, hq1, hf⟩ := ob hf
  refine r_call1 (va_runS (As := [.int p0]) (rest := []) ⟨hx, hb, hml, hown, hts⟩ (c_X5_isPage hI hA hq1) (va_cwS 1 hts gX5_spare_X5_isPage rfl rfl rfl (by decide +kernel) ⟨Nat.le_of_ble_eq_true rfl, Nat.le_of_ble_eq_true rfl⟩) (Pf_S (XCb A) (XCo A) hX hK hP hS) rfl rfl hl.1 rfl (lv_room (Nat.le_of_ble_eq_true rfl)) dX5_spare_1 ⟨Nat.zero_le _, Nat.zero_le _⟩) hS (fun H locs hP hS => ?_)
  refine r_if_eq (tgt := 14) hx hb dX5_spare_4 (by decide) hf (fun hf => ?_) (fun hf => ?_)
  · refine lv_iconst (v := (1 : Int32)) hx hb dX5_spare_14 (by decide) ?_
    obtain rfl := Option.some.inj hf
    exact r_iret hx hb hr hlocks hP hS dX5_spare_15
  · refine lv_iload_n hx hb dX5_spare_7 rfl (lv_at hl 2 rfl) ?_
    obtain ⟨q2, hq2, hf⟩ := ob hf
    refine r_call1 (va_runS (As := [.int p1]) (rest := []) ⟨hx, hb, hml, hown, hts⟩ (c_X5_isPage hI hA hq2) (va_cwS 1 hts gX5_spare_X5_isPage rfl rfl rfl (by decide +kernel) ⟨Nat.le_of_ble_eq_true rfl, Nat.le_of_ble_eq_true rfl⟩) (Pf_S (XCb A) (XCo A) hX hK hP hS) rfl rfl hl.1 rfl (lv_room (Nat.le_of_ble_eq_true rfl)) dX5_spare_8 ⟨Nat.zero_le _, Nat.zero_le _⟩) hS (fun H locs hP hS => ?_)
    refine r_if_ne (tgt := 16) hx hb dX5_spare_11 (by decide) hf (fun hf => ?_) (fun hf => ?_)
    · refine lv_aload_n hx hb dX5_spare_16 rfl (lv_at hl 0 rfl) ?_
      refine lv_iload_n hx hb dX5_spare_17 rfl (lv_at hl 1 rfl) ?_
      refine lv_iload_n hx hb dX5_spare_18 rfl (lv_at hl 2 rfl) ?_
      refine lv_iconst (v := (1 : Int32)) hx hb dX5_spare_19 (by decide) ?_
      obtain ⟨q3, hq3, hf⟩ := ob hf
      refine r_call1 (va_runV (As := [.int p0, .int p1, .int (1 : Int32)]) (rest := []) ⟨hx, hb, hml, hown, hts⟩ (c_X5_refusalOfNew hI hA hq3) (cwV 3 hts gX5_spare_X5_refusalOfNew rfl rfl rfl (by decide +kernel) ⟨Nat.le_of_ble_eq_true rfl, Nat.le_of_ble_eq_true rfl⟩) (Pf_V (XCb A) (XCo A) hX hK hP hS obX5 rfl) rfl rfl hl.1 rfl (lv_room (Nat.le_of_ble_eq_true rfl)) dX5_spare_20 ⟨Nat.zero_le _, Nat.zero_le _⟩) hS (fun H locs hP hS => ?_)
      refine r_top (g := .int) hf (fun x4 hf => ?_)
      refine lv_istore_n (lv' := [(3, .int x4), (0, .ref (ad 0)), (1, .int p0), (2, .int p1)]) hx hb dX5_spare_23 rfl hl (by decide) rfl (fun ls hl => ?_)
      refine lv_iload_n hx hb dX5_spare_24 rfl (lv_at hl 0 rfl) ?_
      refine r_if_eq (tgt := 30) hx hb dX5_spare_25 (by decide) hf (fun hf => ?_) (fun hf => ?_)
      · refine lv_aload_n hx hb dX5_spare_30 rfl (lv_at hl 1 rfl) ?_
        refine r_getc (k' := 2) (j := 1) hx hb hts inX5 hown hK hP (obX5) rfl (by decide) (hts (.fieldLink RX5 20 "PageMonitor" "store" "LPageMonitor$Store;") (by decide +kernel)) (fun _ => rfl) dX5_spare_31 ?_
        refine lv_iload_n hx hb dX5_spare_34 rfl (lv_at hl 2 rfl) ?_
        refine lv_iconst (v := (5 : Int32)) hx hb dX5_spare_35 (by decide) ?_
        refine lv_iload_n hx hb dX5_spare_36 rfl (lv_at hl 3 rfl) ?_
        obtain ⟨q5, hq5, hf⟩ := ob hf
        refine r_call1 (va_runV (As := [.int p0, .int (5 : Int32), .int p1]) (rest := []) ⟨hx, hb, hml, hown, hts⟩ (c_X4_claim hI hA hq5) (cwV 3 hts gX5_spare_X4_claim rfl rfl rfl (by decide +kernel) ⟨Nat.le_of_ble_eq_true rfl, Nat.le_of_ble_eq_true rfl⟩) (Pf_V (XCb A) (XCo A) hX hK hP hS obX4 rfl) rfl rfl hl.1 rfl (lv_room (Nat.le_of_ble_eq_true rfl)) dX5_spare_37 ⟨Nat.zero_le _, Nat.zero_le _⟩) hS (fun H locs hP hS => ?_)
        refine lv_pop hx hb dX5_spare_40 rfl ?_
        refine lv_iconst (v := (0 : Int32)) hx hb dX5_spare_41 (by decide) ?_
        obtain rfl := Option.some.inj hf
        exact r_iret hx hb hr hlocks hP hS dX5_spare_42
      · refine lv_iload_n hx hb dX5_spare_28 rfl (lv_at hl 0 rfl) ?_
        obtain rfl := Option.some.inj hf
        exact r_iret hx hb hr hlocks hP hS dX5_spare_29
    · refine lv_iconst (v := (1 : Int32)) hx hb dX5_spare_14 (by decide) ?_
      obtain rfl := Option.some.inj hf
      exact r_iret hx hb hr hlocks hP hS dX5_spare_15
set_option maxHeartbeats 4000000 in
set_option maxRecDepth 100000 in
theorem c_X5_finish {l : Launch} {D : va_G} {ad : Nat → Nat} {cI cZ cP cR : ClassId} {A : Nat → Prop} {M : Mem} {p0 : Int32} {res : (Int32 × Mem)} (hI : gInj 143 ad) (hA : ∀ k, k < 143 → A (ad k)) (hf : fX5_finish M p0 = some res) : Met l yX5_finish wsX5_finish { frames := 6, cells := 0, slots := 0, locals := 188 } (va_Pc [.ref (ad 0), .int p0] (Pf D vwCl (tysW cI cZ cP cR) 143 ad (spC ad cI cP cR) (XC A) M)) (Qf D vwCl 143 ad (spC ad cI cP cR) A (some (.int res.1)) res.2) 0 0 A := by
  refine Met.ofW (cc := cX5_finish) (maxL := 3) (ret := (some .int)) (by decide) rfl ?_
  intro p e s m args below meth c s₁ B hml hv
  obtain ⟨rfl, hP, hK, hX⟩ := hv
  have hx := B.exec
  have hb := B.bytes
  have hr := B.returns
  have hts := atoms_spec (ws := wsX5_finish) B.pre
  have hown : s.vm.findClass RX5 = some m.cls := findClass_of_methodNamed B.named
  have hlocks := B.notSynchronized
  have inX3 : ∀ w ∈ wsX30, w ∈ wsX5_finish := by decide +kernel
  have inX4 : ∀ w ∈ wsX40, w ∈ wsX5_finish := by decide +kernel
  have inX5 : ∀ w ∈ wsX50, w ∈ wsX5_finish := by decide +kernel
  have hS : va_S A s.heap s.heap [] := va_S.rf
  have hl := lv_entry ([.ref (ad 0), .int p0]) (n := 3) (Nat.le_of_ble_eq_true rfl)
  rw [lg_entry_eq]
  generalize (lg_sl ([.ref (ad 0), .int p0]) ++ List.replicate (3 - (lg_sl ([.ref (ad 0), .int p0])).length) Slot.unset).toArray = ls at hl ⊢
  have hl : lv_has ls 3 [(0, .ref (ad 0)), (1, .int p0)] := hl
  rw [fX5_finish] at hf
  refine lv_iload_n hx hb dX5_finish_0 rfl (lv_at hl 1 rfl) ?_
  obtain ⟨q1, hq1, hf⟩ := ob hf
  refine r_call1 (va_runS (As := [.int p0]) (rest := []) ⟨hx, hb, hml, hown, hts⟩ (c_X5_isPage hI hA hq1) (va_cwS 1 hts gX5_finish_X5_isPage rfl rfl rfl (by decide +kernel) ⟨Nat.le_of_ble_eq_true rfl, Nat.le_of_ble_eq_true rfl⟩) (Pf_S (XCb A) (XCo A) hX hK hP hS) rfl rfl hl.1 rfl (lv_room (Nat.le_of_ble_eq_true rfl)) dX5_finish_1 ⟨Nat.zero_le _, Nat.zero_le _⟩) hS (fun H locs hP hS => ?_)
  refine r_if_ne (tgt := 9) hx hb dX5_finish_4 (by decide) hf (fun hf => ?_) (fun hf => ?_)
  · refine lv_aload_n hx hb dX5_finish_9 rfl (lv_at hl 0 rfl) ?_
    refine lv_iload_n hx hb dX5_finish_10 rfl (lv_at hl 1 rfl) ?_
    refine lv_iconst (v := (0 : Int32)) hx hb dX5_finish_11 (by decide) ?_
    obtain ⟨q2, hq2, hf⟩ := ob hf
    refine r_call1 (va_runV (As := [.int p0, .int (0 : Int32)]) (rest := []) ⟨hx, hb, hml, hown, hts⟩ (c_X5_refusalOfSpace hI hA hq2) (cwV 2 hts gX5_finish_X5_refusalOfSpace rfl rfl rfl (by decide +kernel) ⟨Nat.le_of_ble_eq_true rfl, Nat.le_of_ble_eq_true rfl⟩) (Pf_V (XCb A) (XCo A) hX hK hP hS obX5 rfl) rfl rfl hl.1 rfl (lv_room (Nat.le_of_ble_eq_true rfl)) dX5_finish_12 ⟨Nat.zero_le _, Nat.zero_le _⟩) hS (fun H locs hP hS => ?_)
    refine r_top (g := .int) hf (fun x3 hf => ?_)
    refine lv_istore_n (lv' := [(2, .int x3), (0, .ref (ad 0)), (1, .int p0)]) hx hb dX5_finish_15 rfl hl (by decide) rfl (fun ls hl => ?_)
    refine lv_iload_n hx hb dX5_finish_16 rfl (lv_at hl 0 rfl) ?_
    refine r_if_eq (tgt := 22) hx hb dX5_finish_17 (by decide) hf (fun hf => ?_) (fun hf => ?_)
    · refine lv_aload_n hx hb dX5_finish_22 rfl (lv_at hl 1 rfl) ?_
      refine r_getc (k' := 2) (j := 1) hx hb hts inX5 hown hK hP (obX5) rfl (by decide) (hts (.fieldLink RX5 20 "PageMonitor" "store" "LPageMonitor$Store;") (by decide +kernel)) (fun _ => rfl) dX5_finish_23 ?_
      refine r_getc (k' := 3) (j := 0) hx hb hts inX4 hown hK hP (obX4) rfl (by decide) (hts (.fieldLink RX5 59 "PageMonitor$Store" "pages" "[LPageMonitor$Page;") (by decide +kernel)) (fun _ => rfl) dX5_finish_26 ?_
      refine lv_iload_n hx hb dX5_finish_29 rfl (lv_at hl 2 rfl) ?_
      refine r_aald hx hb hK hP 2 ra3 rfl rfl dX5_finish_30 hf (fun k4 hf => ?_)
      refine lv_iconst (v := (1 : Int32)) hx hb dX5_finish_31 (by decide) ?_
      refine r_puti (j := 2) hx hb hts inX3 tyX3 tyX3_ok nmX3 hown hI hA hK hP hS isPg_s rfl (by decide) (hts (.fieldLink RX5 68 "PageMonitor$Page" "state" "I") (by decide +kernel)) rfl rfl rfl (fun _ => Nat.le_of_ble_eq_true rfl) (fun _ _ => rfl) dX5_finish_32 hf (fun M5 H locs hP hS hf => ?_)
      refine lv_aload_n hx hb dX5_finish_35 rfl (lv_at hl 1 rfl) ?_
      refine r_getc (k' := 133) (j := 2) hx hb hts inX5 hown hK hP (obX5) rfl (by decide) (hts (.fieldLink RX5 25 "PageMonitor" "notary" "LPageMonitor$Notary;") (by decide +kernel)) (fun _ => rfl) dX5_finish_36 ?_
      refine lv_aload_n hx hb dX5_finish_39 rfl (lv_at hl 1 rfl) ?_
      refine r_getc (k' := 2) (j := 1) hx hb hts inX5 hown hK hP (obX5) rfl (by decide) (hts (.fieldLink RX5 20 "PageMonitor" "store" "LPageMonitor$Store;") (by decide +kernel)) (fun _ => rfl) dX5_finish_40 ?_
      refine r_getc (k' := 3) (j := 0) hx hb hts inX4 hown hK hP (obX4) rfl (by decide) (hts (.fieldLink RX5 59 "PageMonitor$Store" "pages" "[LPageMonitor$Page;") (by decide +kernel)) (fun _ => rfl) dX5_finish_43 ?_
      refine lv_iload_n hx hb dX5_finish_46 rfl (lv_at hl 2 rfl) ?_
      refine r_aald hx hb hK hP 2 ra3 rfl rfl dX5_finish_47 hf (fun k6 hf => ?_)
      obtain ⟨q7, hq7, hf⟩ := ob hf
      refine r_callv (va_runV (As := [.ref (ad k6)]) (rest := []) ⟨hx, hb, hml, hown, hts⟩ (c_X2_seal hI hA hq7) (cwV 1 hts gX5_finish_X2_seal rfl rfl rfl (by decide +kernel) ⟨Nat.le_of_ble_eq_true rfl, Nat.le_of_ble_eq_true rfl⟩) (Pf_V (XCb A) (XCo A) hX hK hP hS obX2 rfl) rfl rfl hl.1 rfl (lv_room (Nat.le_of_ble_eq_true rfl)) dX5_finish_48 ⟨Nat.zero_le _, Nat.zero_le _⟩) hS (fun H locs hP hS => ?_)
      refine lv_iconst (v := (0 : Int32)) hx hb dX5_finish_51 (by decide) ?_
      obtain rfl := Option.some.inj hf
      exact r_iret hx hb hr hlocks hP hS dX5_finish_52
    · refine lv_iload_n hx hb dX5_finish_20 rfl (lv_at hl 0 rfl) ?_
      obtain rfl := Option.some.inj hf
      exact r_iret hx hb hr hlocks hP hS dX5_finish_21
  · refine lv_iconst (v := (1 : Int32)) hx hb dX5_finish_7 (by decide) ?_
    obtain rfl := Option.some.inj hf
    exact r_iret hx hb hr hlocks hP hS dX5_finish_8
set_option maxHeartbeats 4000000 in
set_option maxRecDepth 100000 in
theorem c_X5_stop {l : Launch} {D : va_G} {ad : Nat → Nat} {cI cZ cP cR : ClassId} {A : Nat → Prop} {M : Mem} {p0 : Int32} {res : (Int32 × Mem)} (hI : gInj 143 ad) (hA : ∀ k, k < 143 → A (ad k)) (hf : fX5_stop M p0 = some res) : Met l yX5_stop wsX5_stop { frames := 1, cells := 0, slots := 0, locals := 23 } (va_Pc [.ref (ad 0), .int p0] (Pf D vwCl (tysW cI cZ cP cR) 143 ad (spC ad cI cP cR) (XC A) M)) (Qf D vwCl 143 ad (spC ad cI cP cR) A (some (.int res.1)) res.2) 0 0 A := by
  refine Met.ofW (cc := cX5_stop) (maxL := 4) (ret := (some .int)) (by decide) rfl ?_
  intro p e s m args below meth c s₁ B hml hv
  obtain ⟨rfl, hP, hK, hX⟩ := hv
  have hx := B.exec
  have hb := B.bytes
  have hr := B.returns
  have hts := atoms_spec (ws := wsX5_stop) B.pre
  have hown : s.vm.findClass RX5 = some m.cls := findClass_of_methodNamed B.named
  have hlocks := B.notSynchronized
  have inX3 : ∀ w ∈ wsX30, w ∈ wsX5_stop := by decide +kernel
  have inX4 : ∀ w ∈ wsX40, w ∈ wsX5_stop := by decide +kernel
  have inX5 : ∀ w ∈ wsX50, w ∈ wsX5_stop := by decide +kernel
  have hS : va_S A s.heap s.heap [] := va_S.rf
  have hl := lv_entry ([.ref (ad 0), .int p0]) (n := 4) (Nat.le_of_ble_eq_true rfl)
  rw [lg_entry_eq]
  generalize (lg_sl ([.ref (ad 0), .int p0]) ++ List.replicate (4 - (lg_sl ([.ref (ad 0), .int p0])).length) Slot.unset).toArray = ls at hl ⊢
  have hl : lv_has ls 4 [(0, .ref (ad 0)), (1, .int p0)] := hl
  rw [fX5_stop] at hf
  refine lv_iload_n hx hb dX5_stop_0 rfl (lv_at hl 1 rfl) ?_
  obtain ⟨q1, hq1, hf⟩ := ob hf
  refine r_call1 (va_runS (As := [.int p0]) (rest := []) ⟨hx, hb, hml, hown, hts⟩ (c_X5_isPage hI hA hq1) (va_cwS 1 hts gX5_stop_X5_isPage rfl rfl rfl (by decide +kernel) ⟨Nat.le_of_ble_eq_true rfl, Nat.le_of_ble_eq_true rfl⟩) (Pf_S (XCb A) (XCo A) hX hK hP hS) rfl rfl hl.1 rfl (lv_room (Nat.le_of_ble_eq_true rfl)) dX5_stop_1 ⟨Nat.zero_le _, Nat.zero_le _⟩) hS (fun H locs hP hS => ?_)
  refine r_if_ne (tgt := 9) hx hb dX5_stop_4 (by decide) hf (fun hf => ?_) (fun hf => ?_)
  · refine lv_aload_n hx hb dX5_stop_9 rfl (lv_at hl 0 rfl) ?_
    refine lv_iload_n hx hb dX5_stop_10 rfl (lv_at hl 1 rfl) ?_
    refine lv_iconst (v := (1 : Int32)) hx hb dX5_stop_11 (by decide) ?_
    obtain ⟨q2, hq2, hf⟩ := ob hf
    refine r_call1 (va_runV (As := [.int p0, .int (1 : Int32)]) (rest := []) ⟨hx, hb, hml, hown, hts⟩ (c_X5_refusalOfSpace hI hA hq2) (cwV 2 hts gX5_stop_X5_refusalOfSpace rfl rfl rfl (by decide +kernel) ⟨Nat.le_of_ble_eq_true rfl, Nat.le_of_ble_eq_true rfl⟩) (Pf_V (XCb A) (XCo A) hX hK hP hS obX5 rfl) rfl rfl hl.1 rfl (lv_room (Nat.le_of_ble_eq_true rfl)) dX5_stop_12 ⟨Nat.zero_le _, Nat.zero_le _⟩) hS (fun H locs hP hS => ?_)
    refine r_top (g := .int) hf (fun x3 hf => ?_)
    refine lv_istore_n (lv' := [(2, .int x3), (0, .ref (ad 0)), (1, .int p0)]) hx hb dX5_stop_15 rfl hl (by decide) rfl (fun ls hl => ?_)
    refine lv_iload_n hx hb dX5_stop_16 rfl (lv_at hl 0 rfl) ?_
    refine r_if_eq (tgt := 22) hx hb dX5_stop_17 (by decide) hf (fun hf => ?_) (fun hf => ?_)
    · refine lv_aload_n hx hb dX5_stop_22 rfl (lv_at hl 1 rfl) ?_
      refine r_getc (k' := 2) (j := 1) hx hb hts inX5 hown hK hP (obX5) rfl (by decide) (hts (.fieldLink RX5 20 "PageMonitor" "store" "LPageMonitor$Store;") (by decide +kernel)) (fun _ => rfl) dX5_stop_23 ?_
      refine r_getc (k' := 3) (j := 0) hx hb hts inX4 hown hK hP (obX4) rfl (by decide) (hts (.fieldLink RX5 59 "PageMonitor$Store" "pages" "[LPageMonitor$Page;") (by decide +kernel)) (fun _ => rfl) dX5_stop_26 ?_
      refine lv_iload_n hx hb dX5_stop_29 rfl (lv_at hl 2 rfl) ?_
      refine r_aald hx hb hK hP 2 ra3 rfl rfl dX5_stop_30 hf (fun k4 hf => ?_)
      refine lv_iconst (v := (2 : Int32)) hx hb dX5_stop_31 (by decide) ?_
      refine r_puti (j := 2) hx hb hts inX3 tyX3 tyX3_ok nmX3 hown hI hA hK hP hS isPg_s rfl (by decide) (hts (.fieldLink RX5 68 "PageMonitor$Page" "state" "I") (by decide +kernel)) rfl rfl rfl (fun _ => Nat.le_of_ble_eq_true rfl) (fun _ _ => rfl) dX5_stop_32 hf (fun M5 H locs hP hS hf => ?_)
      refine lv_iconst (v := (0 : Int32)) hx hb dX5_stop_35 (by decide) ?_
      refine lv_istore_n (lv' := [(3, .int (0 : Int32)), (2, .int x3), (0, .ref (ad 0)), (1, .int p0)]) hx hb dX5_stop_36 rfl hl (by decide) rfl (fun ls hl => ?_)
      refine r_jn hf (fun F8 eF8 hf => ?_)
      have EF8 : ∀ (x9 : Int32) (M10 : Mem) (H : Heap) (locs : List Loc) (ls : Array Slot), va_P D vwCl (gw 143 ad (spC ad cI cP cR) M10) H → va_S A s.heap H locs → lv_has ls 4 [(0, .ref (ad 0)), (1, .int p0), (2, .int x3), (3, .int x9)] → F8 x9 M10 = some res → W p l e (headSpec wsX5_stop { frames := 1, cells := 0, slots := 0, locals := 23 }).room s m (([.ref (ad 0), .int p0] : List Value).toArray) below meth c H locs 0 0 (MQ below (Qf D vwCl 143 ad (spC ad cI cP cR) A (some (.int res.1)) res.2) (([.ref (ad 0), .int p0] : List Value).toArray) s 0 0 A) (F0 m 78 ls []) := by
        intro x9 M10 H locs ls hP hS hl hf
        rw [eF8] at hf
        refine lv_iconst (v := (0 : Int32)) hx hb dX5_stop_78 (by decide) ?_
        obtain rfl := Option.some.inj hf
        exact r_iret hx hb hr hlocks hP hS dX5_stop_79
      have LF8 : ∀ (n : Nat) (x6 : Int32) (M7 : Mem) (H : Heap) (locs : List Loc) (ls : Array Slot), va_P D vwCl (gw 143 ad (spC ad cI cP cR) M7) H → va_S A s.heap H locs → lv_has ls 4 [(0, .ref (ad 0)), (1, .int p0), (2, .int x3), (3, .int x6)] → lp_X5_stop_37 p0 F8 n x6 M7 = some res → W p l e (headSpec wsX5_stop { frames := 1, cells := 0, slots := 0, locals := 23 }).room s m (([.ref (ad 0), .int p0] : List Value).toArray) below meth c H locs 0 0 (MQ below (Qf D vwCl 143 ad (spC ad cI cP cR) A (some (.int res.1)) res.2) (([.ref (ad 0), .int p0] : List Value).toArray) s 0 0 A) (F0 m 37 ls []) := by
        intro n
        induction n with
        | zero =>
          intro x6 M7 H locs ls hP hS hl hf
          exact absurd hf (fun h => nomatch h)
        | succ n ih =>
          intro x6 M7 H locs ls hP hS hl hf
          rw [lp_X5_stop_37_s] at hf
          refine lv_iload_n hx hb dX5_stop_37 rfl (lv_at hl 3 rfl) ?_
          refine lv_bipush (v := (20 : Int32)) hx hb dX5_stop_38 (by decide) ?_
          refine r_icmp_ge (tgt := 78) hx hb dX5_stop_40 (by decide) hf (fun hf => ?_) (fun hf => ?_)
          · exact EF8 x6 M7 _ _ _ hP hS (lv_sub hl [0, 1, 2, 3] rfl) hf
          · refine lv_aload_n hx hb dX5_stop_43 rfl (lv_at hl 0 rfl) ?_
            refine r_getc (k' := 2) (j := 1) hx hb hts inX5 hown hK hP (obX5) rfl (by decide) (hts (.fieldLink RX5 20 "PageMonitor" "store" "LPageMonitor$Store;") (by decide +kernel)) (fun _ => rfl) dX5_stop_44 ?_
            refine r_getc (k' := 3) (j := 0) hx hb hts inX4 hown hK hP (obX4) rfl (by decide) (hts (.fieldLink RX5 59 "PageMonitor$Store" "pages" "[LPageMonitor$Page;") (by decide +kernel)) (fun _ => rfl) dX5_stop_47 ?_
            refine lv_iload_n hx hb dX5_stop_50 rfl (lv_at hl 3 rfl) ?_
            refine r_aald hx hb hK hP 2 ra3 rfl rfl dX5_stop_51 hf (fun k11 hf => ?_)
            refine r_geti (j := 1) hx hb hts inX3 hown hK hP isPg_s rfl (by decide) (hts (.fieldLink RX5 136 "PageMonitor$Page" "owner" "I") (by decide +kernel)) (fun _ => rfl) dX5_stop_52 hf (fun x12 hf => ?_)
            refine lv_iload_n hx hb dX5_stop_55 rfl (lv_at hl 1 rfl) ?_
            refine r_jn hf (fun K16 eK16 hf => ?_)
            have JK16 : ∀ (M15 : Mem) (H : Heap) (locs : List Loc) (ls : Array Slot), va_P D vwCl (gw 143 ad (spC ad cI cP cR) M15) H → va_S A s.heap H locs → lv_has ls 4 [(0, .ref (ad 0)), (1, .int p0), (2, .int x3), (3, .int x6)] → K16 M15 = some res → W p l e (headSpec wsX5_stop { frames := 1, cells := 0, slots := 0, locals := 23 }).room s m (([.ref (ad 0), .int p0] : List Value).toArray) below meth c H locs 0 0 (MQ below (Qf D vwCl 143 ad (spC ad cI cP cR) A (some (.int res.1)) res.2) (([.ref (ad 0), .int p0] : List Value).toArray) s 0 0 A) (F0 m 72 ls []) := by
              intro M15 H locs ls hP hS hl hf
              rw [eK16] at hf
              refine lv_iinc (v := x6 + (1 : Int32)) (lv' := [(3, .int (x6 + (1 : Int32))), (0, .ref (ad 0)), (1, .int p0), (2, .int x3)]) hx hb dX5_stop_72 hl (k := 3) rfl rfl (by decide) rfl (fun ls hl => ?_)
              refine lv_goto (tgt := 37) hx hb dX5_stop_75 (by decide) ?_
              exact ih (x6 + (1 : Int32)) M15 _ _ _ hP hS (lv_sub hl [1, 2, 3, 0] rfl) hf
            refine r_icmp_ne (tgt := 72) hx hb dX5_stop_56 (by decide) hf (fun hf => ?_) (fun hf => ?_)
            · exact JK16 M7 _ _ _ hP hS (lv_sub hl [0, 1, 2, 3] rfl) hf
            · refine lv_aload_n hx hb dX5_stop_59 rfl (lv_at hl 0 rfl) ?_
              refine r_getc (k' := 2) (j := 1) hx hb hts inX5 hown hK hP (obX5) rfl (by decide) (hts (.fieldLink RX5 20 "PageMonitor" "store" "LPageMonitor$Store;") (by decide +kernel)) (fun _ => rfl) dX5_stop_60 ?_
              refine r_getc (k' := 3) (j := 0) hx hb hts inX4 hown hK hP (obX4) rfl (by decide) (hts (.fieldLink RX5 59 "PageMonitor$Store" "pages" "[LPageMonitor$Page;") (by decide +kernel)) (fun _ => rfl) dX5_stop_63 ?_
              refine lv_iload_n hx hb dX5_stop_66 rfl (lv_at hl 3 rfl) ?_
              refine r_aald hx hb hK hP 2 ra3 rfl rfl dX5_stop_67 hf (fun k17 hf => ?_)
              refine lv_iconst (v := (0 : Int32)) hx hb dX5_stop_68 (by decide) ?_
              refine r_puti (j := 8) hx hb hts inX3 tyX3 tyX3_ok nmX3 hown hI hA hK hP hS isPg_s rfl (by decide) (hts (.fieldLink RX5 91 "PageMonitor$Page" "entered" "Z") (by decide +kernel)) rfl (by decide) (by decide) (fun _ => Nat.le_of_ble_eq_true rfl) (fun _ _ => rfl) dX5_stop_69 hf (fun M18 H locs hP hS hf => ?_)
              exact JK16 M18 _ _ _ hP hS (lv_sub hl [0, 1, 2, 3] rfl) hf
      exact LF8 FU (0 : Int32) M5 _ _ _ hP hS (lv_sub hl [2, 3, 1, 0] rfl) hf
    · refine lv_iload_n hx hb dX5_stop_20 rfl (lv_at hl 0 rfl) ?_
      obtain rfl := Option.some.inj hf
      exact r_iret hx hb hr hlocks hP hS dX5_stop_21
  · refine lv_iconst (v := (1 : Int32)) hx hb dX5_stop_7 (by decide) ?_
    obtain rfl := Option.some.inj hf
    exact r_iret hx hb hr hlocks hP hS dX5_stop_8
set_option maxHeartbeats 4000000 in
set_option maxRecDepth 100000 in
theorem c_X5_remove {l : Launch} {D : va_G} {ad : Nat → Nat} {cI cZ cP cR : ClassId} {A : Nat → Prop} {M : Mem} {p0 : Int32} {res : (Int32 × Mem)} (hI : gInj 143 ad) (hA : ∀ k, k < 143 → A (ad k)) (hf : fX5_remove M p0 = some res) : Met l yX5_remove wsX5_remove { frames := 1, cells := 0, slots := 0, locals := 24 } (va_Pc [.ref (ad 0), .int p0] (Pf D vwCl (tysW cI cZ cP cR) 143 ad (spC ad cI cP cR) (XC A) M)) (Qf D vwCl 143 ad (spC ad cI cP cR) A (some (.int res.1)) res.2) 0 0 A := by
  refine Met.ofW (cc := cX5_remove) (maxL := 3) (ret := (some .int)) (by decide) rfl ?_
  intro p e s m args below meth c s₁ B hml hv
  obtain ⟨rfl, hP, hK, hX⟩ := hv
  have hx := B.exec
  have hb := B.bytes
  have hr := B.returns
  have hts := atoms_spec (ws := wsX5_remove) B.pre
  have hown : s.vm.findClass RX5 = some m.cls := findClass_of_methodNamed B.named
  have hlocks := B.notSynchronized
  have inX3 : ∀ w ∈ wsX30, w ∈ wsX5_remove := by decide +kernel
  have inX4 : ∀ w ∈ wsX40, w ∈ wsX5_remove := by decide +kernel
  have inX5 : ∀ w ∈ wsX50, w ∈ wsX5_remove := by decide +kernel
  have hS : va_S A s.heap s.heap [] := va_S.rf
  have hl := lv_entry ([.ref (ad 0), .int p0]) (n := 3) (Nat.le_of_ble_eq_true rfl)
  rw [lg_entry_eq]
  generalize (lg_sl ([.ref (ad 0), .int p0]) ++ List.replicate (3 - (lg_sl ([.ref (ad 0), .int p0])).length) Slot.unset).toArray = ls at hl ⊢
  have hl : lv_has ls 3 [(0, .ref (ad 0)), (1, .int p0)] := hl
  rw [fX5_remove] at hf
  refine lv_iload_n hx hb dX5_remove_0 rfl (lv_at hl 1 rfl) ?_
  obtain ⟨q1, hq1, hf⟩ := ob hf
  refine r_call1 (va_runS (As := [.int p0]) (rest := []) ⟨hx, hb, hml, hown, hts⟩ (c_X5_isPage hI hA hq1) (va_cwS 1 hts gX5_remove_X5_isPage rfl rfl rfl (by decide +kernel) ⟨Nat.le_of_ble_eq_true rfl, Nat.le_of_ble_eq_true rfl⟩) (Pf_S (XCb A) (XCo A) hX hK hP hS) rfl rfl hl.1 rfl (lv_room (Nat.le_of_ble_eq_true rfl)) dX5_remove_1 ⟨Nat.zero_le _, Nat.zero_le _⟩) hS (fun H locs hP hS => ?_)
  refine r_if_ne (tgt := 9) hx hb dX5_remove_4 (by decide) hf (fun hf => ?_) (fun hf => ?_)
  · refine lv_aload_n hx hb dX5_remove_9 rfl (lv_at hl 0 rfl) ?_
    refine r_getc (k' := 2) (j := 1) hx hb hts inX5 hown hK hP (obX5) rfl (by decide) (hts (.fieldLink RX5 20 "PageMonitor" "store" "LPageMonitor$Store;") (by decide +kernel)) (fun _ => rfl) dX5_remove_10 ?_
    refine r_getc (k' := 3) (j := 0) hx hb hts inX4 hown hK hP (obX4) rfl (by decide) (hts (.fieldLink RX5 59 "PageMonitor$Store" "pages" "[LPageMonitor$Page;") (by decide +kernel)) (fun _ => rfl) dX5_remove_13 ?_
    refine lv_iload_n hx hb dX5_remove_16 rfl (lv_at hl 1 rfl) ?_
    refine r_aald hx hb hK hP 2 ra3 rfl rfl dX5_remove_17 hf (fun k2 hf => ?_)
    refine lv_astore_n (lv' := [(2, .ref (ad k2)), (0, .ref (ad 0)), (1, .int p0)]) hx hb dX5_remove_18 rfl hl (by decide) rfl (fun ls hl => ?_)
    refine lv_aload_n hx hb dX5_remove_19 rfl (lv_at hl 0 rfl) ?_
    refine r_geti (j := 0) hx hb hts inX3 hown hK hP isPg_s rfl (by decide) (hts (.fieldLink RX5 63 "PageMonitor$Page" "kind" "I") (by decide +kernel)) (fun _ => rfl) dX5_remove_20 hf (fun x3 hf => ?_)
    refine r_if_ne (tgt := 28) hx hb dX5_remove_23 (by decide) hf (fun hf => ?_) (fun hf => ?_)
    · refine lv_aload_n hx hb dX5_remove_28 rfl (lv_at hl 0 rfl) ?_
      refine r_geti (j := 0) hx hb hts inX3 hown hK hP isPg_s rfl (by decide) (hts (.fieldLink RX5 63 "PageMonitor$Page" "kind" "I") (by decide +kernel)) (fun _ => rfl) dX5_remove_29 hf (fun x4 hf => ?_)
      refine lv_iconst (v := (5 : Int32)) hx hb dX5_remove_32 (by decide) ?_
      refine r_icmp_eq (tgt := 50) hx hb dX5_remove_33 (by decide) hf (fun hf => ?_) (fun hf => ?_)
      · refine lv_aload_n hx hb dX5_remove_50 rfl (lv_at hl 0 rfl) ?_
        refine r_geti (j := 0) hx hb hts inX3 hown hK hP isPg_s rfl (by decide) (hts (.fieldLink RX5 63 "PageMonitor$Page" "kind" "I") (by decide +kernel)) (fun _ => rfl) dX5_remove_51 hf (fun x5 hf => ?_)
        refine lv_iconst (v := (1 : Int32)) hx hb dX5_remove_54 (by decide) ?_
        refine r_icmp_ne (tgt := 72) hx hb dX5_remove_55 (by decide) hf (fun hf => ?_) (fun hf => ?_)
        · refine lv_aload_n hx hb dX5_remove_72 rfl (lv_at hl 1 rfl) ?_
          refine r_getc (k' := 2) (j := 1) hx hb hts inX5 hown hK hP (obX5) rfl (by decide) (hts (.fieldLink RX5 20 "PageMonitor" "store" "LPageMonitor$Store;") (by decide +kernel)) (fun _ => rfl) dX5_remove_73 ?_
          refine lv_iload_n hx hb dX5_remove_76 rfl (lv_at hl 2 rfl) ?_
          refine lv_iconst (v := (0 : Int32)) hx hb dX5_remove_77 (by decide) ?_
          refine lv_iconst (v := (-1 : Int32)) hx hb dX5_remove_78 (by decide) ?_
          obtain ⟨q6, hq6, hf⟩ := ob hf
          refine r_call1 (va_runV (As := [.int p0, .int (0 : Int32), .int (-1 : Int32)]) (rest := []) ⟨hx, hb, hml, hown, hts⟩ (c_X4_claim hI hA hq6) (cwV 3 hts gX5_remove_X4_claim rfl rfl rfl (by decide +kernel) ⟨Nat.le_of_ble_eq_true rfl, Nat.le_of_ble_eq_true rfl⟩) (Pf_V (XCb A) (XCo A) hX hK hP hS obX4 rfl) rfl rfl hl.1 rfl (lv_room (Nat.le_of_ble_eq_true rfl)) dX5_remove_79 ⟨Nat.zero_le _, Nat.zero_le _⟩) hS (fun H locs hP hS => ?_)
          refine lv_pop hx hb dX5_remove_82 rfl ?_
          refine lv_iconst (v := (0 : Int32)) hx hb dX5_remove_83 (by decide) ?_
          obtain rfl := Option.some.inj hf
          exact r_iret hx hb hr hlocks hP hS dX5_remove_84
        · refine lv_aload_n hx hb dX5_remove_58 rfl (lv_at hl 1 rfl) ?_
          refine r_getc (k' := 2) (j := 1) hx hb hts inX5 hown hK hP (obX5) rfl (by decide) (hts (.fieldLink RX5 20 "PageMonitor" "store" "LPageMonitor$Store;") (by decide +kernel)) (fun _ => rfl) dX5_remove_59 ?_
          refine lv_iload_n hx hb dX5_remove_62 rfl (lv_at hl 2 rfl) ?_
          obtain ⟨q7, hq7, hf⟩ := ob hf
          refine r_call1 (va_runV (As := [.int p0]) (rest := []) ⟨hx, hb, hml, hown, hts⟩ (c_X4_countOwnedBy hI hA hq7) (cwV 1 hts gX5_remove_X4_countOwnedBy rfl rfl rfl (by decide +kernel) ⟨Nat.le_of_ble_eq_true rfl, Nat.le_of_ble_eq_true rfl⟩) (Pf_V (XCb A) (XCo A) hX hK hP hS obX4 rfl) rfl rfl hl.1 rfl (lv_room (Nat.le_of_ble_eq_true rfl)) dX5_remove_63 ⟨Nat.zero_le _, Nat.zero_le _⟩) hS (fun H locs hP hS => ?_)
          refine r_if_le (tgt := 72) hx hb dX5_remove_66 (by decide) hf (fun hf => ?_) (fun hf => ?_)
          · refine lv_aload_n hx hb dX5_remove_72 rfl (lv_at hl 1 rfl) ?_
            refine r_getc (k' := 2) (j := 1) hx hb hts inX5 hown hK hP (obX5) rfl (by decide) (hts (.fieldLink RX5 20 "PageMonitor" "store" "LPageMonitor$Store;") (by decide +kernel)) (fun _ => rfl) dX5_remove_73 ?_
            refine lv_iload_n hx hb dX5_remove_76 rfl (lv_at hl 2 rfl) ?_
            refine lv_iconst (v := (0 : Int32)) hx hb dX5_remove_77 (by decide) ?_
            refine lv_iconst (v := (-1 : Int32)) hx hb dX5_remove_78 (by decide) ?_
            obtain ⟨q8, hq8, hf⟩ := ob hf
            refine r_call1 (va_runV (As := [.int p0, .int (0 : Int32), .int (-1 : Int32)]) (rest := []) ⟨hx, hb, hml, hown, hts⟩ (c_X4_claim hI hA hq8) (cwV 3 hts gX5_remove_X4_claim rfl rfl rfl (by decide +kernel) ⟨Nat.le_of_ble_eq_true rfl, Nat.le_of_ble_eq_true rfl⟩) (Pf_V (XCb A) (XCo A) hX hK hP hS obX4 rfl) rfl rfl hl.1 rfl (lv_room (Nat.le_of_ble_eq_true rfl)) dX5_remove_79 ⟨Nat.zero_le _, Nat.zero_le _⟩) hS (fun H locs hP hS => ?_)
            refine lv_pop hx hb dX5_remove_82 rfl ?_
            refine lv_iconst (v := (0 : Int32)) hx hb dX5_remove_83 (by decide) ?_
            obtain rfl := Option.some.inj hf
            exact r_iret hx hb hr hlocks hP hS dX5_remove_84
          · refine lv_bipush (v := (7 : Int32)) hx hb dX5_remove_69 (by decide) ?_
            obtain rfl := Option.some.inj hf
            exact r_iret hx hb hr hlocks hP hS dX5_remove_71
      · refine lv_aload_n hx hb dX5_remove_36 rfl (lv_at hl 1 rfl) ?_
        refine lv_aload_n hx hb dX5_remove_37 rfl (lv_at hl 0 rfl) ?_
        obtain ⟨q9, hq9, hf⟩ := ob hf
        refine r_call1 (va_runV (As := [.ref (ad k2)]) (rest := []) ⟨hx, hb, hml, hown, hts⟩ (c_X5_homeOf hI hA hq9) (cwV 1 hts gX5_remove_X5_homeOf rfl rfl rfl (by decide +kernel) ⟨Nat.le_of_ble_eq_true rfl, Nat.le_of_ble_eq_true rfl⟩) (Pf_V (XCb A) (XCo A) hX hK hP hS obX5 rfl) rfl rfl hl.1 rfl (lv_room (Nat.le_of_ble_eq_true rfl)) dX5_remove_38 ⟨Nat.zero_le _, Nat.zero_le _⟩) hS (fun H locs hP hS => ?_)
        refine r_geti (j := 2) hx hb hts inX3 hown hK hP isPg_s rfl (by decide) (hts (.fieldLink RX5 68 "PageMonitor$Page" "state" "I") (by decide +kernel)) (fun _ => rfl) dX5_remove_41 hf (fun x10 hf => ?_)
        refine lv_iconst (v := (2 : Int32)) hx hb dX5_remove_44 (by decide) ?_
        refine r_icmp_eq (tgt := 50) hx hb dX5_remove_45 (by decide) hf (fun hf => ?_) (fun hf => ?_)
        · refine lv_aload_n hx hb dX5_remove_50 rfl (lv_at hl 0 rfl) ?_
          refine r_geti (j := 0) hx hb hts inX3 hown hK hP isPg_s rfl (by decide) (hts (.fieldLink RX5 63 "PageMonitor$Page" "kind" "I") (by decide +kernel)) (fun _ => rfl) dX5_remove_51 hf (fun x11 hf => ?_)
          refine lv_iconst (v := (1 : Int32)) hx hb dX5_remove_54 (by decide) ?_
          refine r_icmp_ne (tgt := 72) hx hb dX5_remove_55 (by decide) hf (fun hf => ?_) (fun hf => ?_)
          · refine lv_aload_n hx hb dX5_remove_72 rfl (lv_at hl 1 rfl) ?_
            refine r_getc (k' := 2) (j := 1) hx hb hts inX5 hown hK hP (obX5) rfl (by decide) (hts (.fieldLink RX5 20 "PageMonitor" "store" "LPageMonitor$Store;") (by decide +kernel)) (fun _ => rfl) dX5_remove_73 ?_
            refine lv_iload_n hx hb dX5_remove_76 rfl (lv_at hl 2 rfl) ?_
            refine lv_iconst (v := (0 : Int32)) hx hb dX5_remove_77 (by decide) ?_
            refine lv_iconst (v := (-1 : Int32)) hx hb dX5_remove_78 (by decide) ?_
            obtain ⟨q12, hq12, hf⟩ := ob hf
            refine r_call1 (va_runV (As := [.int p0, .int (0 : Int32), .int (-1 : Int32)]) (rest := []) ⟨hx, hb, hml, hown, hts⟩ (c_X4_claim hI hA hq12) (cwV 3 hts gX5_remove_X4_claim rfl rfl rfl (by decide +kernel) ⟨Nat.le_of_ble_eq_true rfl, Nat.le_of_ble_eq_true rfl⟩) (Pf_V (XCb A) (XCo A) hX hK hP hS obX4 rfl) rfl rfl hl.1 rfl (lv_room (Nat.le_of_ble_eq_true rfl)) dX5_remove_79 ⟨Nat.zero_le _, Nat.zero_le _⟩) hS (fun H locs hP hS => ?_)
            refine lv_pop hx hb dX5_remove_82 rfl ?_
            refine lv_iconst (v := (0 : Int32)) hx hb dX5_remove_83 (by decide) ?_
            obtain rfl := Option.some.inj hf
            exact r_iret hx hb hr hlocks hP hS dX5_remove_84
          · refine lv_aload_n hx hb dX5_remove_58 rfl (lv_at hl 1 rfl) ?_
            refine r_getc (k' := 2) (j := 1) hx hb hts inX5 hown hK hP (obX5) rfl (by decide) (hts (.fieldLink RX5 20 "PageMonitor" "store" "LPageMonitor$Store;") (by decide +kernel)) (fun _ => rfl) dX5_remove_59 ?_
            refine lv_iload_n hx hb dX5_remove_62 rfl (lv_at hl 2 rfl) ?_
            obtain ⟨q13, hq13, hf⟩ := ob hf
            refine r_call1 (va_runV (As := [.int p0]) (rest := []) ⟨hx, hb, hml, hown, hts⟩ (c_X4_countOwnedBy hI hA hq13) (cwV 1 hts gX5_remove_X4_countOwnedBy rfl rfl rfl (by decide +kernel) ⟨Nat.le_of_ble_eq_true rfl, Nat.le_of_ble_eq_true rfl⟩) (Pf_V (XCb A) (XCo A) hX hK hP hS obX4 rfl) rfl rfl hl.1 rfl (lv_room (Nat.le_of_ble_eq_true rfl)) dX5_remove_63 ⟨Nat.zero_le _, Nat.zero_le _⟩) hS (fun H locs hP hS => ?_)
            refine r_if_le (tgt := 72) hx hb dX5_remove_66 (by decide) hf (fun hf => ?_) (fun hf => ?_)
            · refine lv_aload_n hx hb dX5_remove_72 rfl (lv_at hl 1 rfl) ?_
              refine r_getc (k' := 2) (j := 1) hx hb hts inX5 hown hK hP (obX5) rfl (by decide) (hts (.fieldLink RX5 20 "PageMonitor" "store" "LPageMonitor$Store;") (by decide +kernel)) (fun _ => rfl) dX5_remove_73 ?_
              refine lv_iload_n hx hb dX5_remove_76 rfl (lv_at hl 2 rfl) ?_
              refine lv_iconst (v := (0 : Int32)) hx hb dX5_remove_77 (by decide) ?_
              refine lv_iconst (v := (-1 : Int32)) hx hb dX5_remove_78 (by decide) ?_
              obtain ⟨q14, hq14, hf⟩ := ob hf
              refine r_call1 (va_runV (As := [.int p0, .int (0 : Int32), .int (-1 : Int32)]) (rest := []) ⟨hx, hb, hml, hown, hts⟩ (c_X4_claim hI hA hq14) (cwV 3 hts gX5_remove_X4_claim rfl rfl rfl (by decide +kernel) ⟨Nat.le_of_ble_eq_true rfl, Nat.le_of_ble_eq_true rfl⟩) (Pf_V (XCb A) (XCo A) hX hK hP hS obX4 rfl) rfl rfl hl.1 rfl (lv_room (Nat.le_of_ble_eq_true rfl)) dX5_remove_79 ⟨Nat.zero_le _, Nat.zero_le _⟩) hS (fun H locs hP hS => ?_)
              refine lv_pop hx hb dX5_remove_82 rfl ?_
              refine lv_iconst (v := (0 : Int32)) hx hb dX5_remove_83 (by decide) ?_
              obtain rfl := Option.some.inj hf
              exact r_iret hx hb hr hlocks hP hS dX5_remove_84
            · refine lv_bipush (v := (7 : Int32)) hx hb dX5_remove_69 (by decide) ?_
              obtain rfl := Option.some.inj hf
              exact r_iret hx hb hr hlocks hP hS dX5_remove_71
        · refine lv_iconst (v := (4 : Int32)) hx hb dX5_remove_48 (by decide) ?_
          obtain rfl := Option.some.inj hf
          exact r_iret hx hb hr hlocks hP hS dX5_remove_49
    · refine lv_iconst (v := (3 : Int32)) hx hb dX5_remove_26 (by decide) ?_
      obtain rfl := Option.some.inj hf
      exact r_iret hx hb hr hlocks hP hS dX5_remove_27
  · refine lv_iconst (v := (1 : Int32)) hx hb dX5_remove_7 (by decide) ?_
    obtain rfl := Option.some.inj hf
    exact r_iret hx hb hr hlocks hP hS dX5_remove_8
set_option maxHeartbeats 4000000 in
set_option maxRecDepth 100000 in
theorem c_X5_enter {l : Launch} {D : va_G} {ad : Nat → Nat} {cI cZ cP cR : ClassId} {A : Nat → Prop} {M : Mem} {p0 : Int32} {p1 : Int32} {p2 : Int32} {p3 : Int32} {res : (Int32 × Mem)} (hI : gInj 143 ad) (hA : ∀ k, k < 143 → A (ad k)) (hf : fX5_enter M p0 p1 p2 p3 = some res) : Met l yX5_enter wsX5_enter { frames := 7, cells := 0, slots := 0, locals := 223 } (va_Pc [.ref (ad 0), .int p0, .int p1, .int p2, .int p3] (Pf D vwCl (tysW cI cZ cP cR) 143 ad (spC ad cI cP cR) (XC A) M)) (Qf D vwCl 143 ad (spC ad cI cP cR) A (some (.int res.1)) res.2) 0 0 A := by
  refine Met.ofW (cc := cX5_enter) (maxL := 7) (ret := (some .int)) (by decide) rfl ?_
  intro p e s m args below meth c s₁ B hml hv
  obtain ⟨rfl, hP, hK, hX⟩ := hv
  have hx := B.exec
  have hb := B.bytes
  have hr := B.returns
  have hts := atoms_spec (ws := wsX5_enter) B.pre
  have hown : s.vm.findClass RX5 = some m.cls := findClass_of_methodNamed B.named
  have hlocks := B.notSynchronized
  have inX3 : ∀ w ∈ wsX30, w ∈ wsX5_enter := by decide +kernel
  have inX4 : ∀ w ∈ wsX40, w ∈ wsX5_enter := by decide +kernel
  have inX5 : ∀ w ∈ wsX50, w ∈ wsX5_enter := by decide +kernel
  have hS : va_S A s.heap s.heap [] := va_S.rf
  have hl := lv_entry ([.ref (ad 0), .int p0, .int p1, .int p2, .int p3]) (n := 7) (Nat.le_of_ble_eq_true rfl)
  rw [lg_entry_eq]
  generalize (lg_sl ([.ref (ad 0), .int p0, .int p1, .int p2, .int p3]) ++ List.replicate (7 - (lg_sl ([.ref (ad 0), .int p0, .int p1, .int p2, .int p3])).length) Slot.unset).toArray = ls at hl ⊢
  have hl : lv_has ls 7 [(0, .ref (ad 0)), (1, .int p0), (2, .int p1), (3, .int p2), (4, .int p3)] := hl
  rw [fX5_enter] at hf
  refine lv_aload_n hx hb dX5_enter_0 rfl (lv_at hl 0 rfl) ?_
  refine lv_iload_n hx hb dX5_enter_1 rfl (lv_at hl 1 rfl) ?_
  refine lv_iload hx hb dX5_enter_2 (lv_at hl 4 rfl) ?_
  refine lv_iconst (v := (0 : Int32)) hx hb dX5_enter_4 (by decide) ?_
  obtain ⟨q1, hq1, hf⟩ := ob hf
  refine r_call1 (va_runV (As := [.int p0, .int p3, .int (0 : Int32)]) (rest := []) ⟨hx, hb, hml, hown, hts⟩ (c_X5_refusalOfRun hI hA hq1) (cwV 3 hts gX5_enter_X5_refusalOfRun rfl rfl rfl (by decide +kernel) ⟨Nat.le_of_ble_eq_true rfl, Nat.le_of_ble_eq_true rfl⟩) (Pf_V (XCb A) (XCo A) hX hK hP hS obX5 rfl) rfl rfl hl.1 rfl (lv_room (Nat.le_of_ble_eq_true rfl)) dX5_enter_5 ⟨Nat.zero_le _, Nat.zero_le _⟩) hS (fun H locs hP hS => ?_)
  refine r_top (g := .int) hf (fun x2 hf => ?_)
  refine lv_istore (lv' := [(5, .int x2), (0, .ref (ad 0)), (1, .int p0), (2, .int p1), (3, .int p2), (4, .int p3)]) hx hb dX5_enter_8 hl (by decide) rfl (fun ls hl => ?_)
  refine lv_iload hx hb dX5_enter_10 (lv_at hl 0 rfl) ?_
  refine r_if_eq (tgt := 18) hx hb dX5_enter_12 (by decide) hf (fun hf => ?_) (fun hf => ?_)
  · refine lv_aload_n hx hb dX5_enter_18 rfl (lv_at hl 1 rfl) ?_
    refine r_getc (k' := 2) (j := 1) hx hb hts inX5 hown hK hP (obX5) rfl (by decide) (hts (.fieldLink RX5 20 "PageMonitor" "store" "LPageMonitor$Store;") (by decide +kernel)) (fun _ => rfl) dX5_enter_19 ?_
    refine r_getc (k' := 3) (j := 0) hx hb hts inX4 hown hK hP (obX4) rfl (by decide) (hts (.fieldLink RX5 59 "PageMonitor$Store" "pages" "[LPageMonitor$Page;") (by decide +kernel)) (fun _ => rfl) dX5_enter_22 ?_
    refine lv_iload_n hx hb dX5_enter_25 rfl (lv_at hl 2 rfl) ?_
    refine r_aald hx hb hK hP 2 ra3 rfl rfl dX5_enter_26 hf (fun k3 hf => ?_)
    refine lv_astore (lv' := [(6, .ref (ad k3)), (5, .int x2), (0, .ref (ad 0)), (1, .int p0), (2, .int p1), (3, .int p2), (4, .int p3)]) hx hb dX5_enter_27 hl (by decide) rfl (fun ls hl => ?_)
    refine lv_aload hx hb dX5_enter_29 (lv_at hl 0 rfl) ?_
    refine r_getr (k' := k3 + 3) (j := 10) hx hb hts inX3 hown hK hP isPg_s rfl (by decide) (hts (.fieldLink RX5 151 "PageMonitor$Page" "registers" "[I") (by decide +kernel)) (fun _ => rfl) dX5_enter_31 hf (fun hf => ?_)
    refine lv_iconst (v := (0 : Int32)) hx hb dX5_enter_34 (by decide) ?_
    obtain ⟨q4, hq4, hf⟩ := ob hf
    refine r_callv (va_runS (As := [.ref (ad (k3 + 3)), .int (0 : Int32)]) (rest := []) ⟨hx, hb, hml, hown, hts⟩ (c_J7_fill_53178 hI hA hq4) (va_cwS 2 hts gX5_enter_J7_fill_53178 rfl rfl rfl (by decide +kernel) ⟨Nat.le_of_ble_eq_true rfl, Nat.le_of_ble_eq_true rfl⟩) (Pf_S (XCb A) (XCo A) hX hK hP hS) rfl rfl hl.1 rfl (lv_room (Nat.le_of_ble_eq_true rfl)) dX5_enter_35 ⟨Nat.zero_le _, Nat.zero_le _⟩) hS (fun H locs hP hS => ?_)
    refine lv_aload hx hb dX5_enter_38 (lv_at hl 0 rfl) ?_
    refine r_getr (k' := k3 + 3) (j := 10) hx hb hts inX3 hown hK hP isPg_s rfl (by decide) (hts (.fieldLink RX5 151 "PageMonitor$Page" "registers" "[I") (by decide +kernel)) (fun _ => rfl) dX5_enter_40 hf (fun hf => ?_)
    refine lv_iconst (v := (0 : Int32)) hx hb dX5_enter_43 (by decide) ?_
    refine lv_iload_n hx hb dX5_enter_44 rfl (lv_at hl 4 rfl) ?_
    refine r_iast hx hb hI hA hK hP hS 0 isI_s rfl dX5_enter_45 hf (fun M5 H locs hP hS hf => ?_)
    refine lv_aload hx hb dX5_enter_46 (lv_at hl 0 rfl) ?_
    refine r_getr (k' := k3 + 3) (j := 10) hx hb hts inX3 hown hK hP isPg_s rfl (by decide) (hts (.fieldLink RX5 151 "PageMonitor$Page" "registers" "[I") (by decide +kernel)) (fun _ => rfl) dX5_enter_48 hf (fun hf => ?_)
    refine lv_iconst (v := (1 : Int32)) hx hb dX5_enter_51 (by decide) ?_
    refine lv_iload_n hx hb dX5_enter_52 rfl (lv_at hl 5 rfl) ?_
    refine r_iast hx hb hI hA hK hP hS 0 isI_s rfl dX5_enter_53 hf (fun M6 H locs hP hS hf => ?_)
    refine lv_aload hx hb dX5_enter_54 (lv_at hl 0 rfl) ?_
    refine lv_aload hx hb dX5_enter_56 (lv_at hl 0 rfl) ?_
    refine r_geti (j := 7) hx hb hts inX3 hown hK hP isPg_s rfl (by decide) (hts (.fieldLink RX5 88 "PageMonitor$Page" "entry" "I") (by decide +kernel)) (fun _ => rfl) dX5_enter_58 hf (fun x7 hf => ?_)
    refine r_puti (j := 9) hx hb hts inX3 tyX3 tyX3_ok nmX3 hown hI hA hK hP hS isPg_s rfl (by decide) (hts (.fieldLink RX5 154 "PageMonitor$Page" "place" "I") (by decide +kernel)) rfl rfl rfl (fun _ => Nat.le_of_ble_eq_true rfl) (fun _ _ => rfl) dX5_enter_61 hf (fun M8 H locs hP hS hf => ?_)
    refine lv_aload_n hx hb dX5_enter_64 rfl (lv_at hl 2 rfl) ?_
    refine r_getc (k' := 1) (j := 0) hx hb hts inX5 hown hK hP (obX5) rfl (by decide) (hts (.fieldLink RX5 10 "PageMonitor" "machine" "LPageMonitor$Machine;") (by decide +kernel)) (fun _ => rfl) dX5_enter_65 ?_
    refine lv_aload hx hb dX5_enter_68 (lv_at hl 0 rfl) ?_
    refine lv_iload hx hb dX5_enter_70 (lv_at hl 6 rfl) ?_
    obtain ⟨q9, hq9, hf⟩ := ob hf
    refine r_call1 (va_runV (As := [.ref (ad k3), .int p3]) (rest := []) ⟨hx, hb, hml, hown, hts⟩ (c_X1_run hI hA hq9) (cwV 2 hts gX5_enter_X1_run rfl rfl rfl (by decide +kernel) ⟨Nat.le_of_ble_eq_true rfl, Nat.le_of_ble_eq_true rfl⟩) (Pf_V (XCb A) (XCo A) hX hK hP hS obX1 rfl) rfl rfl hl.1 rfl (lv_room (Nat.le_of_ble_eq_true rfl)) dX5_enter_72 ⟨Nat.zero_le _, Nat.zero_le _⟩) hS (fun H locs hP hS => ?_)
    obtain rfl := Option.some.inj hf
    exact r_iret hx hb hr hlocks hP hS dX5_enter_75
  · refine lv_iload hx hb dX5_enter_15 (lv_at hl 0 rfl) ?_
    obtain rfl := Option.some.inj hf
    exact r_iret hx hb hr hlocks hP hS dX5_enter_17
set_option maxHeartbeats 4000000 in
set_option maxRecDepth 100000 in
theorem c_X5_resume {l : Launch} {D : va_G} {ad : Nat → Nat} {cI cZ cP cR : ClassId} {A : Nat → Prop} {M : Mem} {p0 : Int32} {p1 : Int32} {res : (Int32 × Mem)} (hI : gInj 143 ad) (hA : ∀ k, k < 143 → A (ad k)) (hf : fX5_resume M p0 p1 = some res) : Met l yX5_resume wsX5_resume { frames := 7, cells := 0, slots := 0, locals := 223 } (va_Pc [.ref (ad 0), .int p0, .int p1] (Pf D vwCl (tysW cI cZ cP cR) 143 ad (spC ad cI cP cR) (XC A) M)) (Qf D vwCl 143 ad (spC ad cI cP cR) A (some (.int res.1)) res.2) 0 0 A := by
  refine Met.ofW (cc := cX5_resume) (maxL := 4) (ret := (some .int)) (by decide) rfl ?_
  intro p e s m args below meth c s₁ B hml hv
  obtain ⟨rfl, hP, hK, hX⟩ := hv
  have hx := B.exec
  have hb := B.bytes
  have hr := B.returns
  have hts := atoms_spec (ws := wsX5_resume) B.pre
  have hown : s.vm.findClass RX5 = some m.cls := findClass_of_methodNamed B.named
  have hlocks := B.notSynchronized
  have inX4 : ∀ w ∈ wsX40, w ∈ wsX5_resume := by decide +kernel
  have inX5 : ∀ w ∈ wsX50, w ∈ wsX5_resume := by decide +kernel
  have hS : va_S A s.heap s.heap [] := va_S.rf
  have hl := lv_entry ([.ref (ad 0), .int p0, .int p1]) (n := 4) (Nat.le_of_ble_eq_true rfl)
  rw [lg_entry_eq]
  generalize (lg_sl ([.ref (ad 0), .int p0, .int p1]) ++ List.replicate (4 - (lg_sl ([.ref (ad 0), .int p0, .int p1])).length) Slot.unset).toArray = ls at hl ⊢
  have hl : lv_has ls 4 [(0, .ref (ad 0)), (1, .int p0), (2, .int p1)] := hl
  rw [fX5_resume] at hf
  refine lv_aload_n hx hb dX5_resume_0 rfl (lv_at hl 0 rfl) ?_
  refine lv_iload_n hx hb dX5_resume_1 rfl (lv_at hl 1 rfl) ?_
  refine lv_iload_n hx hb dX5_resume_2 rfl (lv_at hl 2 rfl) ?_
  refine lv_iconst (v := (1 : Int32)) hx hb dX5_resume_3 (by decide) ?_
  obtain ⟨q1, hq1, hf⟩ := ob hf
  refine r_call1 (va_runV (As := [.int p0, .int p1, .int (1 : Int32)]) (rest := []) ⟨hx, hb, hml, hown, hts⟩ (c_X5_refusalOfRun hI hA hq1) (cwV 3 hts gX5_resume_X5_refusalOfRun rfl rfl rfl (by decide +kernel) ⟨Nat.le_of_ble_eq_true rfl, Nat.le_of_ble_eq_true rfl⟩) (Pf_V (XCb A) (XCo A) hX hK hP hS obX5 rfl) rfl rfl hl.1 rfl (lv_room (Nat.le_of_ble_eq_true rfl)) dX5_resume_4 ⟨Nat.zero_le _, Nat.zero_le _⟩) hS (fun H locs hP hS => ?_)
  refine r_top (g := .int) hf (fun x2 hf => ?_)
  refine lv_istore_n (lv' := [(3, .int x2), (0, .ref (ad 0)), (1, .int p0), (2, .int p1)]) hx hb dX5_resume_7 rfl hl (by decide) rfl (fun ls hl => ?_)
  refine lv_iload_n hx hb dX5_resume_8 rfl (lv_at hl 0 rfl) ?_
  refine r_if_eq (tgt := 14) hx hb dX5_resume_9 (by decide) hf (fun hf => ?_) (fun hf => ?_)
  · refine lv_aload_n hx hb dX5_resume_14 rfl (lv_at hl 1 rfl) ?_
    refine r_getc (k' := 1) (j := 0) hx hb hts inX5 hown hK hP (obX5) rfl (by decide) (hts (.fieldLink RX5 10 "PageMonitor" "machine" "LPageMonitor$Machine;") (by decide +kernel)) (fun _ => rfl) dX5_resume_15 ?_
    refine lv_aload_n hx hb dX5_resume_18 rfl (lv_at hl 1 rfl) ?_
    refine r_getc (k' := 2) (j := 1) hx hb hts inX5 hown hK hP (obX5) rfl (by decide) (hts (.fieldLink RX5 20 "PageMonitor" "store" "LPageMonitor$Store;") (by decide +kernel)) (fun _ => rfl) dX5_resume_19 ?_
    refine r_getc (k' := 3) (j := 0) hx hb hts inX4 hown hK hP (obX4) rfl (by decide) (hts (.fieldLink RX5 59 "PageMonitor$Store" "pages" "[LPageMonitor$Page;") (by decide +kernel)) (fun _ => rfl) dX5_resume_22 ?_
    refine lv_iload_n hx hb dX5_resume_25 rfl (lv_at hl 2 rfl) ?_
    refine r_aald hx hb hK hP 2 ra3 rfl rfl dX5_resume_26 hf (fun k3 hf => ?_)
    refine lv_iload_n hx hb dX5_resume_27 rfl (lv_at hl 3 rfl) ?_
    obtain ⟨q4, hq4, hf⟩ := ob hf
    refine r_call1 (va_runV (As := [.ref (ad k3), .int p1]) (rest := []) ⟨hx, hb, hml, hown, hts⟩ (c_X1_run hI hA hq4) (cwV 2 hts gX5_resume_X1_run rfl rfl rfl (by decide +kernel) ⟨Nat.le_of_ble_eq_true rfl, Nat.le_of_ble_eq_true rfl⟩) (Pf_V (XCb A) (XCo A) hX hK hP hS obX1 rfl) rfl rfl hl.1 rfl (lv_room (Nat.le_of_ble_eq_true rfl)) dX5_resume_28 ⟨Nat.zero_le _, Nat.zero_le _⟩) hS (fun H locs hP hS => ?_)
    obtain rfl := Option.some.inj hf
    exact r_iret hx hb hr hlocks hP hS dX5_resume_31
  · refine lv_iload_n hx hb dX5_resume_12 rfl (lv_at hl 0 rfl) ?_
    obtain rfl := Option.some.inj hf
    exact r_iret hx hb hr hlocks hP hS dX5_resume_13
set_option maxHeartbeats 4000000 in
set_option maxRecDepth 100000 in
theorem c_X5_result {l : Launch} {D : va_G} {ad : Nat → Nat} {cI cZ cP cR : ClassId} {A : Nat → Prop} {M : Mem} {res : (Int32 × Mem)} (hI : gInj 143 ad) (hA : ∀ k, k < 143 → A (ad k)) (hf : fX5_result M = some res) : Met l yX5_result wsX5_result { frames := 0, cells := 0, slots := 0, locals := 0 } (va_Pc [.ref (ad 0)] (Pf D vwCl (tysW cI cZ cP cR) 143 ad (spC ad cI cP cR) (XC A) M)) (Qf D vwCl 143 ad (spC ad cI cP cR) A (some (.int res.1)) res.2) 0 0 A := by
  refine Met.ofW (cc := cX5_result) (maxL := 1) (ret := (some .int)) (by decide) rfl ?_
  intro p e s m args below meth c s₁ B hml hv
  obtain ⟨rfl, hP, hK, hX⟩ := hv
  have hx := B.exec
  have hb := B.bytes
  have hr := B.returns
  have hts := atoms_spec (ws := wsX5_result) B.pre
  have hown : s.vm.findClass RX5 = some m.cls := findClass_of_methodNamed B.named
  have hlocks := B.notSynchronized
  have inX1 : ∀ w ∈ wsX10, w ∈ wsX5_result := by decide +kernel
  have inX5 : ∀ w ∈ wsX50, w ∈ wsX5_result := by decide +kernel
  have hS : va_S A s.heap s.heap [] := va_S.rf
  have hl := lv_entry ([.ref (ad 0)]) (n := 1) (Nat.le_of_ble_eq_true rfl)
  rw [lg_entry_eq]
  generalize (lg_sl ([.ref (ad 0)]) ++ List.replicate (1 - (lg_sl ([.ref (ad 0)])).length) Slot.unset).toArray = ls at hl ⊢
  have hl : lv_has ls 1 [(0, .ref (ad 0))] := hl
  rw [fX5_result] at hf
  refine lv_aload_n hx hb dX5_result_0 rfl (lv_at hl 0 rfl) ?_
  refine r_getc (k' := 1) (j := 0) hx hb hts inX5 hown hK hP (obX5) rfl (by decide) (hts (.fieldLink RX5 10 "PageMonitor" "machine" "LPageMonitor$Machine;") (by decide +kernel)) (fun _ => rfl) dX5_result_1 ?_
  refine r_getik (j := 2) hx hb hts inX1 hown hK hP (obX1) rfl (by decide) (hts (.fieldLink RX5 41 "PageMonitor$Machine" "lastResult" "I") (by decide +kernel)) (fun _ => rfl) dX5_result_4 hf (fun x1 hf => ?_)
  obtain rfl := Option.some.inj hf
  exact r_iret hx hb hr hlocks hP hS dX5_result_7
set_option maxHeartbeats 4000000 in
set_option maxRecDepth 100000 in
theorem c_X5_steps {l : Launch} {D : va_G} {ad : Nat → Nat} {cI cZ cP cR : ClassId} {A : Nat → Prop} {M : Mem} {res : (Int32 × Mem)} (hI : gInj 143 ad) (hA : ∀ k, k < 143 → A (ad k)) (hf : fX5_steps M = some res) : Met l yX5_steps wsX5_steps { frames := 0, cells := 0, slots := 0, locals := 0 } (va_Pc [.ref (ad 0)] (Pf D vwCl (tysW cI cZ cP cR) 143 ad (spC ad cI cP cR) (XC A) M)) (Qf D vwCl 143 ad (spC ad cI cP cR) A (some (.int res.1)) res.2) 0 0 A := by
  refine Met.ofW (cc := cX5_steps) (maxL := 1) (ret := (some .int)) (by decide) rfl ?_
  intro p e s m args below meth c s₁ B hml hv
  obtain ⟨rfl, hP, hK, hX⟩ := hv
  have hx := B.exec
  have hb := B.bytes
  have hr := B.returns
  have hts := atoms_spec (ws := wsX5_steps) B.pre
  have hown : s.vm.findClass RX5 = some m.cls := findClass_of_methodNamed B.named
  have hlocks := B.notSynchronized
  have inX1 : ∀ w ∈ wsX10, w ∈ wsX5_steps := by decide +kernel
  have inX5 : ∀ w ∈ wsX50, w ∈ wsX5_steps := by decide +kernel
  have hS : va_S A s.heap s.heap [] := va_S.rf
  have hl := lv_entry ([.ref (ad 0)]) (n := 1) (Nat.le_of_ble_eq_true rfl)
  rw [lg_entry_eq]
  generalize (lg_sl ([.ref (ad 0)]) ++ List.replicate (1 - (lg_sl ([.ref (ad 0)])).length) Slot.unset).toArray = ls at hl ⊢
  have hl : lv_has ls 1 [(0, .ref (ad 0))] := hl
  rw [fX5_steps] at hf
  refine lv_aload_n hx hb dX5_steps_0 rfl (lv_at hl 0 rfl) ?_
  refine r_getc (k' := 1) (j := 0) hx hb hts inX5 hown hK hP (obX5) rfl (by decide) (hts (.fieldLink RX5 10 "PageMonitor" "machine" "LPageMonitor$Machine;") (by decide +kernel)) (fun _ => rfl) dX5_steps_1 ?_
  refine r_getik (j := 3) hx hb hts inX1 hown hK hP (obX1) rfl (by decide) (hts (.fieldLink RX5 161 "PageMonitor$Machine" "lastSteps" "I") (by decide +kernel)) (fun _ => rfl) dX5_steps_4 hf (fun x1 hf => ?_)
  obtain rfl := Option.some.inj hf
  exact r_iret hx hb hr hlocks hP hS dX5_steps_7
