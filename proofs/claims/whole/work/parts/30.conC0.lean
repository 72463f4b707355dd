set_option maxHeartbeats 4000000 in
set_option maxRecDepth 100000 in
theorem c_J7_fill_53178 {l : Launch} {D : va_G} {ad : Nat → Nat} {cI cZ cP cR : ClassId} {A : Nat → Prop} {M : Mem} {p0 : Nat} {p1 : Int32} {res : Mem} (hI : gInj 143 ad) (hA : ∀ k, k < 143 → A (ad k)) (hf : fJ7_fill_53178 M p0 p1 = some res) : Met l yJ7_fill_53178 wsJ7_fill_53178 { frames := 0, cells := 0, slots := 0, locals := 0 } (va_Pc [.ref (ad p0), .int p1] (Pf D vwCl (tysW cI cZ cP cR) 143 ad (spC ad cI cP cR) (XC A) M)) (Qf D vwCl 143 ad (spC ad cI cP cR) A none res) 0 0 A := by
  refine Met.ofW (cc := cJ7_fill_53178) (maxL := 4) (ret := none) (by decide) rfl ?_
  intro p e s m args below meth c s₁ B hml hv
  obtain ⟨rfl, hP, hK, hX⟩ := hv
  have hx := B.exec
  have hb := B.bytes
  have hr := B.returns
  have hts := atoms_spec (ws := wsJ7_fill_53178) B.pre
  have hown : s.vm.findClass RJ7 = some m.cls := findClass_of_methodNamed B.named
  have hlocks := B.notSynchronized
  have hS : va_S A s.heap s.heap [] := va_S.rf
  have hl := lv_entry ([.ref (ad p0), .int p1]) (n := 4) (Nat.le_of_ble_eq_true rfl)
  rw [lg_entry_eq]
  generalize (lg_sl ([.ref (ad p0), .int p1]) ++ List.replicate (4 - (lg_sl ([.ref (ad p0), .int p1])).length) Slot.unset).toArray = ls at hl ⊢
  have hl : lv_has ls 4 [(0, .ref (ad p0)), (1, .int p1)] := hl
  rw [fJ7_fill_53178] at hf
  refine lv_iconst (v := (0 : Int32)) hx hb dJ7_fill_53178_0 (by decide) ?_
  refine lv_istore_n (lv' := [(2, .int (0 : Int32)), (0, .ref (ad p0)), (1, .int p1)]) hx hb dJ7_fill_53178_1 rfl hl (by decide) rfl (fun ls hl => ?_)
  refine lv_aload_n hx hb dJ7_fill_53178_2 rfl (lv_at hl 1 rfl) ?_
  refine r_alen hx hb hK hP 0 isI_s rfl dJ7_fill_53178_3 hf (fun x1 hf => ?_)
  refine lv_istore_n (lv' := [(3, .int x1), (2, .int (0 : Int32)), (0, .ref (ad p0)), (1, .int p1)]) hx hb dJ7_fill_53178_4 rfl hl (by decide) rfl (fun ls hl => ?_)
  refine r_jn hf (fun F4 eF4 hf => ?_)
  have EF4 : ∀ (x5 : Int32) (M6 : Mem) (H : Heap) (locs : List Loc) (ls : Array Slot), va_P D vwCl (gw 143 ad (spC ad cI cP cR) M6) H → va_S A s.heap H locs → lv_has ls 4 [(0, .ref (ad p0)), (1, .int p1), (2, .int x5), (3, .int x1)] → F4 x5 M6 = some res → W p l e (headSpec wsJ7_fill_53178 { frames := 0, cells := 0, slots := 0, locals := 0 }).room s m (([.ref (ad p0), .int p1] : List Value).toArray) below meth c H locs 0 0 (MQ below (Qf D vwCl 143 ad (spC ad cI cP cR) A none res) (([.ref (ad p0), .int p1] : List Value).toArray) s 0 0 A) (F0 m 20 ls []) := by
    intro x5 M6 H locs ls hP hS hl hf
    rw [eF4] at hf
    obtain rfl := Option.some.inj hf
    exact r_vret hx hb hr hlocks hP hS dJ7_fill_53178_20
  have LF4 : ∀ (n : Nat) (x2 : Int32) (M3 : Mem) (H : Heap) (locs : List Loc) (ls : Array Slot), va_P D vwCl (gw 143 ad (spC ad cI cP cR) M3) H → va_S A s.heap H locs → lv_has ls 4 [(0, .ref (ad p0)), (1, .int p1), (2, .int x2), (3, .int x1)] → lp_J7_fill_53178_5 x1 p0 p1 F4 n x2 M3 = some res → W p l e (headSpec wsJ7_fill_53178 { frames := 0, cells := 0, slots := 0, locals := 0 }).room s m (([.ref (ad p0), .int p1] : List Value).toArray) below meth c H locs 0 0 (MQ below (Qf D vwCl 143 ad (spC ad cI cP cR) A none res) (([.ref (ad p0), .int p1] : List Value).toArray) s 0 0 A) (F0 m 5 ls []) := by
    intro n
    induction n with
    | zero =>
      intro x2 M3 H locs ls hP hS hl hf
      exact absurd hf (fun h => nomatch h)
    | succ n ih =>
      intro x2 M3 H locs ls hP hS hl hf
      rw [lp_J7_fill_53178_5_s] at hf
      refine lv_iload_n hx hb dJ7_fill_53178_5 rfl (lv_at hl 2 rfl) ?_
      refine lv_iload_n hx hb dJ7_fill_53178_6 rfl (lv_at hl 3 rfl) ?_
      refine r_icmp_ge (tgt := 20) hx hb dJ7_fill_53178_7 (by decide) hf (fun hf => ?_) (fun hf => ?_)
      · exact EF4 x2 M3 _ _ _ hP hS (lv_sub hl [0, 1, 2, 3] rfl) hf
      · refine lv_aload_n hx hb dJ7_fill_53178_10 rfl (lv_at hl 0 rfl) ?_
        refine lv_iload_n hx hb dJ7_fill_53178_11 rfl (lv_at hl 2 rfl) ?_
        refine lv_iload_n hx hb dJ7_fill_53178_12 rfl (lv_at hl 1 rfl) ?_
        refine r_iast hx hb hI hA hK hP hS 0 isI_s rfl dJ7_fill_53178_13 hf (fun M7 H locs hP hS hf => ?_)
        refine lv_iinc (v := x2 + (1 : Int32)) (lv' := [(2, .int (x2 + (1 : Int32))), (0, .ref (ad p0)), (1, .int p1), (3, .int x1)]) hx hb dJ7_fill_53178_14 hl (k := 2) rfl rfl (by decide) rfl (fun ls hl => ?_)
        refine lv_goto (tgt := 5) hx hb dJ7_fill_53178_17 (by decide) ?_
        exact ih (x2 + (1 : Int32)) M7 _ _ _ hP hS (lv_sub hl [1, 2, 0, 3] rfl) hf
  exact LF4 FU (0 : Int32) M _ _ _ hP hS (lv_sub hl [2, 3, 1, 0] rfl) hf
set_option maxHeartbeats 4000000 in
set_option maxRecDepth 100000 in
theorem c_X5_isPage {l : Launch} {D : va_G} {ad : Nat → Nat} {cI cZ cP cR : ClassId} {A : Nat → Prop} {M : Mem} {p0 : Int32} {res : (Int32 × Mem)} (hI : gInj 143 ad) (hA : ∀ k, k < 143 → A (ad k)) (hf : fX5_isPage M p0 = some res) : Met l yX5_isPage wsX5_isPage { frames := 0, cells := 0, slots := 0, locals := 0 } (va_Pc [.int p0] (Pf D vwCl (tysW cI cZ cP cR) 143 ad (spC ad cI cP cR) (XC A) M)) (Qf D vwCl 143 ad (spC ad cI cP cR) A (some (.int res.1)) res.2) 0 0 A := by
  refine Met.ofW (cc := cX5_isPage) (maxL := 1) (ret := (some .boolean)) (by decide) rfl ?_
  intro p e s m args below meth c s₁ B hml hv
  obtain ⟨rfl, hP, hK, hX⟩ := hv
  have hx := B.exec
  have hb := B.bytes
  have hr := B.returns
  have hts := atoms_spec (ws := wsX5_isPage) B.pre
  have hown : s.vm.findClass RX5 = some m.cls := findClass_of_methodNamed B.named
  have hlocks := B.notSynchronized
  have hS : va_S A s.heap s.heap [] := va_S.rf
  have hl := lv_entry ([.int p0]) (n := 1) (Nat.le_of_ble_eq_true rfl)
  rw [lg_entry_eq]
  generalize (lg_sl ([.int p0]) ++ List.replicate (1 - (lg_sl ([.int p0])).length) Slot.unset).toArray = ls at hl ⊢
  have hl : lv_has ls 1 [(0, .int p0)] := hl
  rw [fX5_isPage] at hf
  refine lv_iload_n hx hb dX5_isPage_0 rfl (lv_at hl 0 rfl) ?_
  refine r_jn hf (fun K2 eK2 hf => ?_)
  have JK2 : ∀ (x1 : Int32) (H : Heap) (locs : List Loc) (ls : Array Slot), va_P D vwCl (gw 143 ad (spC ad cI cP cR) M) H → va_S A s.heap H locs → lv_has ls 1 [(0, .int p0)] → K2 x1 = some res → W p l e (headSpec wsX5_isPage { frames := 0, cells := 0, slots := 0, locals := 0 }).room s m (([.int p0] : List Value).toArray) below meth c H locs 0 0 (MQ below (Qf D vwCl 143 ad (spC ad cI cP cR) A (some (.int res.1)) res.2) (([.int p0] : List Value).toArray) s 0 0 A) (F0 m 15 ls [.int x1]) := by
    intro x1 H locs ls hP hS hl hf
    rw [eK2] at hf
    obtain ⟨hz, hf⟩ := gd_s hf
    obtain rfl := Option.some.inj hf
    exact r_zret hx hb hr (isB_n hz) hlocks hP hS dX5_isPage_15
  refine r_if_lt (tgt := 14) hx hb dX5_isPage_1 (by decide) hf (fun hf => ?_) (fun hf => ?_)
  · refine lv_iconst (v := (0 : Int32)) hx hb dX5_isPage_14 (by decide) ?_
    exact JK2 (0 : Int32) _ _ _ hP hS (lv_sub hl [0] rfl) hf
  · refine lv_iload_n hx hb dX5_isPage_4 rfl (lv_at hl 0 rfl) ?_
    refine lv_bipush (v := (20 : Int32)) hx hb dX5_isPage_5 (by decide) ?_
    refine r_icmp_ge (tgt := 14) hx hb dX5_isPage_7 (by decide) hf (fun hf => ?_) (fun hf => ?_)
    · refine lv_iconst (v := (0 : Int32)) hx hb dX5_isPage_14 (by decide) ?_
      exact JK2 (0 : Int32) _ _ _ hP hS (lv_sub hl [0] rfl) hf
    · refine lv_iconst (v := (1 : Int32)) hx hb dX5_isPage_10 (by decide) ?_
      refine lv_goto (tgt := 15) hx hb dX5_isPage_11 (by decide) ?_
      exact JK2 (1 : Int32) _ _ _ hP hS (lv_sub hl [0] rfl) hf
set_option maxHeartbeats 4000000 in
set_option maxRecDepth 100000 in
theorem c_X5_isFrame {l : Launch} {D : va_G} {ad : Nat → Nat} {cI cZ cP cR : ClassId} {A : Nat → Prop} {M : Mem} {p0 : Int32} {res : (Int32 × Mem)} (hI : gInj 143 ad) (hA : ∀ k, k < 143 → A (ad k)) (hf : fX5_isFrame M p0 = some res) : Met l yX5_isFrame wsX5_isFrame { frames := 0, cells := 0, slots := 0, locals := 0 } (va_Pc [.int p0] (Pf D vwCl (tysW cI cZ cP cR) 143 ad (spC ad cI cP cR) (XC A) M)) (Qf D vwCl 143 ad (spC ad cI cP cR) A (some (.int res.1)) res.2) 0 0 A := by
  refine Met.ofW (cc := cX5_isFrame) (maxL := 1) (ret := (some .boolean)) (by decide) rfl ?_
  intro p e s m args below meth c s₁ B hml hv
  obtain ⟨rfl, hP, hK, hX⟩ := hv
  have hx := B.exec
  have hb := B.bytes
  have hr := B.returns
  have hts := atoms_spec (ws := wsX5_isFrame) B.pre
  have hown : s.vm.findClass RX5 = some m.cls := findClass_of_methodNamed B.named
  have hlocks := B.notSynchronized
  have hS : va_S A s.heap s.heap [] := va_S.rf
  have hl := lv_entry ([.int p0]) (n := 1) (Nat.le_of_ble_eq_true rfl)
  rw [lg_entry_eq]
  generalize (lg_sl ([.int p0]) ++ List.replicate (1 - (lg_sl ([.int p0])).length) Slot.unset).toArray = ls at hl ⊢
  have hl : lv_has ls 1 [(0, .int p0)] := hl
  rw [fX5_isFrame] at hf
  refine lv_iload_n hx hb dX5_isFrame_0 rfl (lv_at hl 0 rfl) ?_
  refine r_jn hf (fun K2 eK2 hf => ?_)
  have JK2 : ∀ (x1 : Int32) (H : Heap) (locs : List Loc) (ls : Array Slot), va_P D vwCl (gw 143 ad (spC ad cI cP cR) M) H → va_S A s.heap H locs → lv_has ls 1 [(0, .int p0)] → K2 x1 = some res → W p l e (headSpec wsX5_isFrame { frames := 0, cells := 0, slots := 0, locals := 0 }).room s m (([.int p0] : List Value).toArray) below meth c H locs 0 0 (MQ below (Qf D vwCl 143 ad (spC ad cI cP cR) A (some (.int res.1)) res.2) (([.int p0] : List Value).toArray) s 0 0 A) (F0 m 15 ls [.int x1]) := by
    intro x1 H locs ls hP hS hl hf
    rw [eK2] at hf
    obtain ⟨hz, hf⟩ := gd_s hf
    obtain rfl := Option.some.inj hf
    exact r_zret hx hb hr (isB_n hz) hlocks hP hS dX5_isFrame_15
  refine r_if_lt (tgt := 14) hx hb dX5_isFrame_1 (by decide) hf (fun hf => ?_) (fun hf => ?_)
  · refine lv_iconst (v := (0 : Int32)) hx hb dX5_isFrame_14 (by decide) ?_
    exact JK2 (0 : Int32) _ _ _ hP hS (lv_sub hl [0] rfl) hf
  · refine lv_iload_n hx hb dX5_isFrame_4 rfl (lv_at hl 0 rfl) ?_
    refine lv_bipush (v := (8 : Int32)) hx hb dX5_isFrame_5 (by decide) ?_
    refine r_icmp_ge (tgt := 14) hx hb dX5_isFrame_7 (by decide) hf (fun hf => ?_) (fun hf => ?_)
    · refine lv_iconst (v := (0 : Int32)) hx hb dX5_isFrame_14 (by decide) ?_
      exact JK2 (0 : Int32) _ _ _ hP hS (lv_sub hl [0] rfl) hf
    · refine lv_iconst (v := (1 : Int32)) hx hb dX5_isFrame_10 (by decide) ?_
      refine lv_goto (tgt := 15) hx hb dX5_isFrame_11 (by decide) ?_
      exact JK2 (1 : Int32) _ _ _ hP hS (lv_sub hl [0] rfl) hf
set_option maxHeartbeats 4000000 in
set_option maxRecDepth 100000 in
theorem c_X5_isWord {l : Launch} {D : va_G} {ad : Nat → Nat} {cI cZ cP cR : ClassId} {A : Nat → Prop} {M : Mem} {p0 : Int32} {res : (Int32 × Mem)} (hI : gInj 143 ad) (hA : ∀ k, k < 143 → A (ad k)) (hf : fX5_isWord M p0 = some res) : Met l yX5_isWord wsX5_isWord { frames := 0, cells := 0, slots := 0, locals := 0 } (va_Pc [.int p0] (Pf D vwCl (tysW cI cZ cP cR) 143 ad (spC ad cI cP cR) (XC A) M)) (Qf D vwCl 143 ad (spC ad cI cP cR) A (some (.int res.1)) res.2) 0 0 A := by
  refine Met.ofW (cc := cX5_isWord) (maxL := 1) (ret := (some .boolean)) (by decide) rfl ?_
  intro p e s m args below meth c s₁ B hml hv
  obtain ⟨rfl, hP, hK, hX⟩ := hv
  have hx := B.exec
  have hb := B.bytes
  have hr := B.returns
  have hts := atoms_spec (ws := wsX5_isWord) B.pre
  have hown : s.vm.findClass RX5 = some m.cls := findClass_of_methodNamed B.named
  have hlocks := B.notSynchronized
  have hS : va_S A s.heap s.heap [] := va_S.rf
  have hl := lv_entry ([.int p0]) (n := 1) (Nat.le_of_ble_eq_true rfl)
  rw [lg_entry_eq]
  generalize (lg_sl ([.int p0]) ++ List.replicate (1 - (lg_sl ([.int p0])).length) Slot.unset).toArray = ls at hl ⊢
  have hl : lv_has ls 1 [(0, .int p0)] := hl
  rw [fX5_isWord] at hf
  refine lv_iload_n hx hb dX5_isWord_0 rfl (lv_at hl 0 rfl) ?_
  refine r_jn hf (fun K2 eK2 hf => ?_)
  have JK2 : ∀ (x1 : Int32) (H : Heap) (locs : List Loc) (ls : Array Slot), va_P D vwCl (gw 143 ad (spC ad cI cP cR) M) H → va_S A s.heap H locs → lv_has ls 1 [(0, .int p0)] → K2 x1 = some res → W p l e (headSpec wsX5_isWord { frames := 0, cells := 0, slots := 0, locals := 0 }).room s m (([.int p0] : List Value).toArray) below meth c H locs 0 0 (MQ below (Qf D vwCl 143 ad (spC ad cI cP cR) A (some (.int res.1)) res.2) (([.int p0] : List Value).toArray) s 0 0 A) (F0 m 15 ls [.int x1]) := by
    intro x1 H locs ls hP hS hl hf
    rw [eK2] at hf
    obtain ⟨hz, hf⟩ := gd_s hf
    obtain rfl := Option.some.inj hf
    exact r_zret hx hb hr (isB_n hz) hlocks hP hS dX5_isWord_15
  refine r_if_lt (tgt := 14) hx hb dX5_isWord_1 (by decide) hf (fun hf => ?_) (fun hf => ?_)
  · refine lv_iconst (v := (0 : Int32)) hx hb dX5_isWord_14 (by decide) ?_
    exact JK2 (0 : Int32) _ _ _ hP hS (lv_sub hl [0] rfl) hf
  · refine lv_iload_n hx hb dX5_isWord_4 rfl (lv_at hl 0 rfl) ?_
    refine lv_bipush (v := (16 : Int32)) hx hb dX5_isWord_5 (by decide) ?_
    refine r_icmp_ge (tgt := 14) hx hb dX5_isWord_7 (by decide) hf (fun hf => ?_) (fun hf => ?_)
    · refine lv_iconst (v := (0 : Int32)) hx hb dX5_isWord_14 (by decide) ?_
      exact JK2 (0 : Int32) _ _ _ hP hS (lv_sub hl [0] rfl) hf
    · refine lv_iconst (v := (1 : Int32)) hx hb dX5_isWord_10 (by decide) ?_
      refine lv_goto (tgt := 15) hx hb dX5_isWord_11 (by decide) ?_
      exact JK2 (1 : Int32) _ _ _ hP hS (lv_sub hl [0] rfl) hf
set_option maxHeartbeats 4000000 in
set_option maxRecDepth 100000 in
theorem c_X5_isBlock {l : Launch} {D : va_G} {ad : Nat → Nat} {cI cZ cP cR : ClassId} {A : Nat → Prop} {M : Mem} {p0 : Int32} {res : (Int32 × Mem)} (hI : gInj 143 ad) (hA : ∀ k, k < 143 → A (ad k)) (hf : fX5_isBlock M p0 = some res) : Met l yX5_isBlock wsX5_isBlock { frames := 0, cells := 0, slots := 0, locals := 0 } (va_Pc [.int p0] (Pf D vwCl (tysW cI cZ cP cR) 143 ad (spC ad cI cP cR) (XC A) M)) (Qf D vwCl 143 ad (spC ad cI cP cR) A (some (.int res.1)) res.2) 0 0 A := by
  refine Met.ofW (cc := cX5_isBlock) (maxL := 1) (ret := (some .boolean)) (by decide) rfl ?_
  intro p e s m args below meth c s₁ B hml hv
  obtain ⟨rfl, hP, hK, hX⟩ := hv
  have hx := B.exec
  have hb := B.bytes
  have hr := B.returns
  have hts := atoms_spec (ws := wsX5_isBlock) B.pre
  have hown : s.vm.findClass RX5 = some m.cls := findClass_of_methodNamed B.named
  have hlocks := B.notSynchronized
  have hS : va_S A s.heap s.heap [] := va_S.rf
  have hl := lv_entry ([.int p0]) (n := 1) (Nat.le_of_ble_eq_true rfl)
  rw [lg_entry_eq]
  generalize (lg_sl ([.int p0]) ++ List.replicate (1 - (lg_sl ([.int p0])).length) Slot.unset).toArray = ls at hl ⊢
  have hl : lv_has ls 1 [(0, .int p0)] := hl
  rw [fX5_isBlock] at hf
  refine lv_iload_n hx hb dX5_isBlock_0 rfl (lv_at hl 0 rfl) ?_
  refine r_jn hf (fun K2 eK2 hf => ?_)
  have JK2 : ∀ (x1 : Int32) (H : Heap) (locs : List Loc) (ls : Array Slot), va_P D vwCl (gw 143 ad (spC ad cI cP cR) M) H → va_S A s.heap H locs → lv_has ls 1 [(0, .int p0)] → K2 x1 = some res → W p l e (headSpec wsX5_isBlock { frames := 0, cells := 0, slots := 0, locals := 0 }).room s m (([.int p0] : List Value).toArray) below meth c H locs 0 0 (MQ below (Qf D vwCl 143 ad (spC ad cI cP cR) A (some (.int res.1)) res.2) (([.int p0] : List Value).toArray) s 0 0 A) (F0 m 15 ls [.int x1]) := by
    intro x1 H locs ls hP hS hl hf
    rw [eK2] at hf
    obtain ⟨hz, hf⟩ := gd_s hf
    obtain rfl := Option.some.inj hf
    exact r_zret hx hb hr (isB_n hz) hlocks hP hS dX5_isBlock_15
  refine r_if_lt (tgt := 14) hx hb dX5_isBlock_1 (by decide) hf (fun hf => ?_) (fun hf => ?_)
  · refine lv_iconst (v := (0 : Int32)) hx hb dX5_isBlock_14 (by decide) ?_
    exact JK2 (0 : Int32) _ _ _ hP hS (lv_sub hl [0] rfl) hf
  · refine lv_iload_n hx hb dX5_isBlock_4 rfl (lv_at hl 0 rfl) ?_
    refine lv_bipush (v := (32 : Int32)) hx hb dX5_isBlock_5 (by decide) ?_
    refine r_icmp_ge (tgt := 14) hx hb dX5_isBlock_7 (by decide) hf (fun hf => ?_) (fun hf => ?_)
    · refine lv_iconst (v := (0 : Int32)) hx hb dX5_isBlock_14 (by decide) ?_
      exact JK2 (0 : Int32) _ _ _ hP hS (lv_sub hl [0] rfl) hf
    · refine lv_iconst (v := (1 : Int32)) hx hb dX5_isBlock_10 (by decide) ?_
      refine lv_goto (tgt := 15) hx hb dX5_isBlock_11 (by decide) ?_
      exact JK2 (1 : Int32) _ _ _ hP hS (lv_sub hl [0] rfl) hf
set_option maxHeartbeats 4000000 in
set_option maxRecDepth 100000 in
theorem c_X5_areDataRights {l : Launch} {D : va_G} {ad : Nat → Nat} {cI cZ cP cR : ClassId} {A : Nat → Prop} {M : Mem} {p0 : Int32} {res : (Int32 × Mem)} (hI : gInj 143 ad) (hA : ∀ k, k < 143 → A (ad k)) (hf : fX5_areDataRights M p0 = some res) : Met l yX5_areDataRights wsX5_areDataRights { frames := 0, cells := 0, slots := 0, locals := 0 } (va_Pc [.int p0] (Pf D vwCl (tysW cI cZ cP cR) 143 ad (spC ad cI cP cR) (XC A) M)) (Qf D vwCl 143 ad (spC ad cI cP cR) A (some (.int res.1)) res.2) 0 0 A := by
  refine Met.ofW (cc := cX5_areDataRights) (maxL := 1) (ret := (some .boolean)) (by decide) rfl ?_
  intro p e s m args below meth c s₁ B hml hv
  obtain ⟨rfl, hP, hK, hX⟩ := hv
  have hx := B.exec
  have hb := B.bytes
  have hr := B.returns
  have hts := atoms_spec (ws := wsX5_areDataRights) B.pre
  have hown : s.vm.findClass RX5 = some m.cls := findClass_of_methodNamed B.named
  have hlocks := B.notSynchronized
  have hS : va_S A s.heap s.heap [] := va_S.rf
  have hl := lv_entry ([.int p0]) (n := 1) (Nat.le_of_ble_eq_true rfl)
  rw [lg_entry_eq]
  generalize (lg_sl ([.int p0]) ++ List.replicate (1 - (lg_sl ([.int p0])).length) Slot.unset).toArray = ls at hl ⊢
  have hl : lv_has ls 1 [(0, .int p0)] := hl
  rw [fX5_areDataRights] at hf
  refine lv_iload_n hx hb dX5_areDataRights_0 rfl (lv_at hl 0 rfl) ?_
  refine lv_iconst (v := (1 : Int32)) hx hb dX5_areDataRights_1 (by decide) ?_
  refine r_jn hf (fun K2 eK2 hf => ?_)
  have JK2 : ∀ (x1 : Int32) (H : Heap) (locs : List Loc) (ls : Array Slot), va_P D vwCl (gw 143 ad (spC ad cI cP cR) M) H → va_S A s.heap H locs → lv_has ls 1 [(0, .int p0)] → K2 x1 = some res → W p l e (headSpec wsX5_areDataRights { frames := 0, cells := 0, slots := 0, locals := 0 }).room s m (([.int p0] : List Value).toArray) below meth c H locs 0 0 (MQ below (Qf D vwCl 143 ad (spC ad cI cP cR) A (some (.int res.1)) res.2) (([.int p0] : List Value).toArray) s 0 0 A) (F0 m 16 ls [.int x1]) := by
    intro x1 H locs ls hP hS hl hf
    rw [eK2] at hf
    obtain ⟨hz, hf⟩ := gd_s hf
    obtain rfl := Option.some.inj hf
    exact r_zret hx hb hr (isB_n hz) hlocks hP hS dX5_areDataRights_16
  refine r_icmp_lt (tgt := 15) hx hb dX5_areDataRights_2 (by decide) hf (fun hf => ?_) (fun hf => ?_)
  · refine lv_iconst (v := (0 : Int32)) hx hb dX5_areDataRights_15 (by decide) ?_
    exact JK2 (0 : Int32) _ _ _ hP hS (lv_sub hl [0] rfl) hf
  · refine lv_iload_n hx hb dX5_areDataRights_5 rfl (lv_at hl 0 rfl) ?_
    refine lv_bipush (v := (7 : Int32)) hx hb dX5_areDataRights_6 (by decide) ?_
    refine r_icmp_gt (tgt := 15) hx hb dX5_areDataRights_8 (by decide) hf (fun hf => ?_) (fun hf => ?_)
    · refine lv_iconst (v := (0 : Int32)) hx hb dX5_areDataRights_15 (by decide) ?_
      exact JK2 (0 : Int32) _ _ _ hP hS (lv_sub hl [0] rfl) hf
    · refine lv_iconst (v := (1 : Int32)) hx hb dX5_areDataRights_11 (by decide) ?_
      refine lv_goto (tgt := 16) hx hb dX5_areDataRights_12 (by decide) ?_
      exact JK2 (1 : Int32) _ _ _ hP hS (lv_sub hl [0] rfl) hf
set_option maxHeartbeats 4000000 in
set_option maxRecDepth 100000 in
theorem c_X5_stateOf {l : Launch} {D : va_G} {ad : Nat → Nat} {cI cZ cP cR : ClassId} {A : Nat → Prop} {M : Mem} {p0 : Nat} {res : (Int32 × Mem)} (hI : gInj 143 ad) (hA : ∀ k, k < 143 → A (ad k)) (hf : fX5_stateOf M p0 = some res) : Met l yX5_stateOf wsX5_stateOf { frames := 0, cells := 0, slots := 0, locals := 0 } (va_Pc [.ref (ad p0)] (Pf D vwCl (tysW cI cZ cP cR) 143 ad (spC ad cI cP cR) (XC A) M)) (Qf D vwCl 143 ad (spC ad cI cP cR) A (some (.int res.1)) res.2) 0 0 A := by
  refine Met.ofW (cc := cX5_stateOf) (maxL := 1) (ret := (some .int)) (by decide) rfl ?_
  intro p e s m args below meth c s₁ B hml hv
  obtain ⟨rfl, hP, hK, hX⟩ := hv
  have hx := B.exec
  have hb := B.bytes
  have hr := B.returns
  have hts := atoms_spec (ws := wsX5_stateOf) B.pre
  have hown : s.vm.findClass RX5 = some m.cls := findClass_of_methodNamed B.named
  have hlocks := B.notSynchronized
  have inX3 : ∀ w ∈ wsX30, w ∈ wsX5_stateOf := by decide +kernel
  have hS : va_S A s.heap s.heap [] := va_S.rf
  have hl := lv_entry ([.ref (ad p0)]) (n := 1) (Nat.le_of_ble_eq_true rfl)
  rw [lg_entry_eq]
  generalize (lg_sl ([.ref (ad p0)]) ++ List.replicate (1 - (lg_sl ([.ref (ad p0)])).length) Slot.unset).toArray = ls at hl ⊢
  have hl : lv_has ls 1 [(0, .ref (ad p0))] := hl
  rw [fX5_stateOf] at hf
  refine lv_aload_n hx hb dX5_stateOf_0 rfl (lv_at hl 0 rfl) ?_
  refine r_geti (j := 0) hx hb hts inX3 hown hK hP isPg_s rfl (by decide) (hts (.fieldLink RX5 63 "PageMonitor$Page" "kind" "I") (by decide +kernel)) (fun _ => rfl) dX5_stateOf_1 hf (fun x1 hf => ?_)
  refine lv_iconst (v := (1 : Int32)) hx hb dX5_stateOf_4 (by decide) ?_
  refine r_icmp_ne (tgt := 13) hx hb dX5_stateOf_5 (by decide) hf (fun hf => ?_) (fun hf => ?_)
  · refine lv_aload_n hx hb dX5_stateOf_13 rfl (lv_at hl 0 rfl) ?_
    refine r_geti (j := 0) hx hb hts inX3 hown hK hP isPg_s rfl (by decide) (hts (.fieldLink RX5 63 "PageMonitor$Page" "kind" "I") (by decide +kernel)) (fun _ => rfl) dX5_stateOf_14 hf (fun x2 hf => ?_)
    refine lv_iconst (v := (2 : Int32)) hx hb dX5_stateOf_17 (by decide) ?_
    refine r_jn hf (fun K5 eK5 hf => ?_)
    have JK5 : ∀ (x4 : Int32) (H : Heap) (locs : List Loc) (ls : Array Slot), va_P D vwCl (gw 143 ad (spC ad cI cP cR) M) H → va_S A s.heap H locs → lv_has ls 1 [(0, .ref (ad p0))] → K5 x4 = some res → W p l e (headSpec wsX5_stateOf { frames := 0, cells := 0, slots := 0, locals := 0 }).room s m (([.ref (ad p0)] : List Value).toArray) below meth c H locs 0 0 (MQ below (Qf D vwCl 143 ad (spC ad cI cP cR) A (some (.int res.1)) res.2) (([.ref (ad p0)] : List Value).toArray) s 0 0 A) (F0 m 33 ls [.int x4]) := by
      intro x4 H locs ls hP hS hl hf
      rw [eK5] at hf
      obtain rfl := Option.some.inj hf
      exact r_iret hx hb hr hlocks hP hS dX5_stateOf_33
    refine r_icmp_ne (tgt := 32) hx hb dX5_stateOf_18 (by decide) hf (fun hf => ?_) (fun hf => ?_)
    · refine lv_iconst (v := (0 : Int32)) hx hb dX5_stateOf_32 (by decide) ?_
      exact JK5 (0 : Int32) _ _ _ hP hS (lv_sub hl [0] rfl) hf
    · refine lv_aload_n hx hb dX5_stateOf_21 rfl (lv_at hl 0 rfl) ?_
      refine r_geti (j := 8) hx hb hts inX3 hown hK hP isPg_s rfl (by decide) (hts (.fieldLink RX5 91 "PageMonitor$Page" "entered" "Z") (by decide +kernel)) (fun _ => rfl) dX5_stateOf_22 hf (fun x6 hf => ?_)
      refine r_if_eq (tgt := 32) hx hb dX5_stateOf_25 (by decide) hf (fun hf => ?_) (fun hf => ?_)
      · refine lv_iconst (v := (0 : Int32)) hx hb dX5_stateOf_32 (by decide) ?_
        exact JK5 (0 : Int32) _ _ _ hP hS (lv_sub hl [0] rfl) hf
      · refine lv_iconst (v := (1 : Int32)) hx hb dX5_stateOf_28 (by decide) ?_
        refine lv_goto (tgt := 33) hx hb dX5_stateOf_29 (by decide) ?_
        exact JK5 (1 : Int32) _ _ _ hP hS (lv_sub hl [0] rfl) hf
  · refine lv_aload_n hx hb dX5_stateOf_8 rfl (lv_at hl 0 rfl) ?_
    refine r_geti (j := 2) hx hb hts inX3 hown hK hP isPg_s rfl (by decide) (hts (.fieldLink RX5 68 "PageMonitor$Page" "state" "I") (by decide +kernel)) (fun _ => rfl) dX5_stateOf_9 hf (fun x7 hf => ?_)
    obtain rfl := Option.some.inj hf
    exact r_iret hx hb hr hlocks hP hS dX5_stateOf_12
set_option maxHeartbeats 4000000 in
set_option maxRecDepth 100000 in
theorem c_X0_begin {l : Launch} {D : va_G} {ad : Nat → Nat} {cI cZ cP cR : ClassId} {A : Nat → Prop} {M : Mem} {p0 : Nat} {res : Mem} (hI : gInj 143 ad) (hA : ∀ k, k < 143 → A (ad k)) (hf : fX0_begin M p0 = some res) : Met l yX0_begin wsX0_begin { frames := 1, cells := 0, slots := 0, locals := 60 } (va_Pc [.ref (ad 135), .ref (ad p0)] (Pf D vwCl (tysW cI cZ cP cR) 143 ad (spC ad cI cP cR) (XC A) M)) (Qf D vwCl 143 ad (spC ad cI cP cR) A none res) 0 0 A := by
  refine Met.ofW (cc := cX0_begin) (maxL := 2) (ret := none) (by decide) rfl ?_
  intro p e s m args below meth c s₁ B hml hv
  obtain ⟨rfl, hP, hK, hX⟩ := hv
  have hx := B.exec
  have hb := B.bytes
  have hr := B.returns
  have hts := atoms_spec (ws := wsX0_begin) B.pre
  have hown : s.vm.findClass RX0 = some m.cls := findClass_of_methodNamed B.named
  have hlocks := B.notSynchronized
  have hS : va_S A s.heap s.heap [] := va_S.rf
  have hl := lv_entry ([.ref (ad 135), .ref (ad p0)]) (n := 2) (Nat.le_of_ble_eq_true rfl)
  rw [lg_entry_eq]
  generalize (lg_sl ([.ref (ad 135), .ref (ad p0)]) ++ List.replicate (2 - (lg_sl ([.ref (ad 135), .ref (ad p0)])).length) Slot.unset).toArray = ls at hl ⊢
  have hl : lv_has ls 2 [(0, .ref (ad 135)), (1, .ref (ad p0))] := hl
  rw [fX0_begin] at hf
  obtain ⟨tSTART, hZSTART, hTSTART⟩ := xs_START hX
  refine va_gets hx hb hZSTART hS hown (hts (.fieldLink RX0 18 "PageMonitor$Hasher" "START" "[I") (by decide +kernel)) (fun _ h => h) dX0_begin_0 ?_
  refine lv_iconst (v := (0 : Int32)) hx hb dX0_begin_3 (by decide) ?_
  refine lv_aload_n hx hb dX0_begin_4 rfl (lv_at hl 1 rfl) ?_
  refine lv_iconst (v := (0 : Int32)) hx hb dX0_begin_5 (by decide) ?_
  refine lv_bipush (v := (8 : Int32)) hx hb dX0_begin_6 (by decide) ?_
  refine r_cpyt hx hb (hml.trans hl.1.symm) hown (hts (.methodLink RX0 21 arraycopyName) (by decide +kernel)) (hts (.native arraycopyName) (by decide +kernel)) (hts (.static arraycopyName) (by decide +kernel)) (hts (.initialized "java/lang/System") (by decide +kernel)) hI hA hK hP hTSTART hS isI_s rfl (by decide) (by decide) (by decide) (by decide) (Nat.le_of_ble_eq_true rfl) (by decide +kernel) dX0_begin_8 hf (fun M1 H locs hP hS hf => ?_)
  obtain rfl := Option.some.inj hf
  exact r_vret hx hb hr hlocks hP hS dX0_begin_11
set_option maxHeartbeats 4000000 in
set_option maxRecDepth 100000 in
theorem c_X0_spread {l : Launch} {D : va_G} {ad : Nat → Nat} {cI cZ cP cR : ClassId} {A : Nat → Prop} {M : Mem} {p0 : Nat} {res : Mem} (hI : gInj 143 ad) (hA : ∀ k, k < 143 → A (ad k)) (hf : fX0_spread M p0 = some res) : Met l yX0_spread wsX0_spread { frames := 1, cells := 0, slots := 0, locals := 60 } (va_Pc [.ref (ad 135), .ref (ad p0)] (Pf D vwCl (tysW cI cZ cP cR) 143 ad (spC ad cI cP cR) (XC A) M)) (Qf D vwCl 143 ad (spC ad cI cP cR) A none res) 0 0 A := by
  refine Met.ofW (cc := cX0_spread) (maxL := 7) (ret := none) (by decide) rfl ?_
  intro p e s m args below meth c s₁ B hml hv
  obtain ⟨rfl, hP, hK, hX⟩ := hv
  have hx := B.exec
  have hb := B.bytes
  have hr := B.returns
  have hts := atoms_spec (ws := wsX0_spread) B.pre
  have hown : s.vm.findClass RX0 = some m.cls := findClass_of_methodNamed B.named
  have hlocks := B.notSynchronized
  have inX0 : ∀ w ∈ wsX00, w ∈ wsX0_spread := by decide +kernel
  have hS : va_S A s.heap s.heap [] := va_S.rf
  have hl := lv_entry ([.ref (ad 135), .ref (ad p0)]) (n := 7) (Nat.le_of_ble_eq_true rfl)
  rw [lg_entry_eq]
  generalize (lg_sl ([.ref (ad 135), .ref (ad p0)]) ++ List.replicate (7 - (lg_sl ([.ref (ad 135), .ref (ad p0)])).length) Slot.unset).toArray = ls at hl ⊢
  have hl : lv_has ls 7 [(0, .ref (ad 135)), (1, .ref (ad p0))] := hl
  rw [fX0_spread] at hf
  refine lv_aload_n hx hb dX0_spread_0 rfl (lv_at hl 1 rfl) ?_
  refine lv_iconst (v := (0 : Int32)) hx hb dX0_spread_1 (by decide) ?_
  refine lv_aload_n hx hb dX0_spread_2 rfl (lv_at hl 0 rfl) ?_
  refine r_getc (k' := 136) (j := 0) hx hb hts inX0 hown hK hP (obX0) rfl (by decide) (hts (.fieldLink RX0 11 "PageMonitor$Hasher" "schedule" "[I") (by decide +kernel)) (fun _ => rfl) dX0_spread_3 ?_
  refine lv_iconst (v := (0 : Int32)) hx hb dX0_spread_6 (by decide) ?_
  refine lv_bipush (v := (16 : Int32)) hx hb dX0_spread_7 (by decide) ?_
  refine r_cpy hx hb (hml.trans hl.1.symm) hown (hts (.methodLink RX0 21 arraycopyName) (by decide +kernel)) (hts (.native arraycopyName) (by decide +kernel)) (hts (.static arraycopyName) (by decide +kernel)) (hts (.initialized "java/lang/System") (by decide +kernel)) hI hA hK hP hS isI_s isI_s rfl (by decide) (by decide) (by decide) (Nat.le_of_ble_eq_true rfl) (by decide +kernel) dX0_spread_9 hf (fun M1 H locs hP hS hf => ?_)
  refine lv_bipush (v := (16 : Int32)) hx hb dX0_spread_12 (by decide) ?_
  refine lv_istore_n (lv' := [(2, .int (16 : Int32)), (0, .ref (ad 135)), (1, .ref (ad p0))]) hx hb dX0_spread_14 rfl hl (by decide) rfl (fun ls hl => ?_)
  refine r_jn hf (fun F4 eF4 hf => ?_)
  have EF4 : ∀ (x5 : Int32) (M6 : Mem) (H : Heap) (locs : List Loc) (ls : Array Slot), va_P D vwCl (gw 143 ad (spC ad cI cP cR) M6) H → va_S A s.heap H locs → lv_has ls 7 [(0, .ref (ad 135)), (1, .ref (ad p0)), (2, .int x5)] → F4 x5 M6 = some res → W p l e (headSpec wsX0_spread { frames := 1, cells := 0, slots := 0, locals := 60 }).room s m (([.ref (ad 135), .ref (ad p0)] : List Value).toArray) below meth c H locs 0 0 (MQ below (Qf D vwCl 143 ad (spC ad cI cP cR) A none res) (([.ref (ad 135), .ref (ad p0)] : List Value).toArray) s 0 0 A) (F0 m 134 ls []) := by
    intro x5 M6 H locs ls hP hS hl hf
    rw [eF4] at hf
    obtain rfl := Option.some.inj hf
    exact r_vret hx hb hr hlocks hP hS dX0_spread_134
  have LF4 : ∀ (n : Nat) (x2 : Int32) (M3 : Mem) (H : Heap) (locs : List Loc) (ls : Array Slot), va_P D vwCl (gw 143 ad (spC ad cI cP cR) M3) H → va_S A s.heap H locs → lv_has ls 7 [(0, .ref (ad 135)), (1, .ref (ad p0)), (2, .int x2)] → lp_X0_spread_15 F4 n x2 M3 = some res → W p l e (headSpec wsX0_spread { frames := 1, cells := 0, slots := 0, locals := 60 }).room s m (([.ref (ad 135), .ref (ad p0)] : List Value).toArray) below meth c H locs 0 0 (MQ below (Qf D vwCl 143 ad (spC ad cI cP cR) A none res) (([.ref (ad 135), .ref (ad p0)] : List Value).toArray) s 0 0 A) (F0 m 15 ls []) := by
    intro n
    induction n with
    | zero =>
      intro x2 M3 H locs ls hP hS hl hf
      exact absurd hf (fun h => nomatch h)
    | succ n ih =>
      intro x2 M3 H locs ls hP hS hl hf
      rw [lp_X0_spread_15_s] at hf
      refine lv_iload_n hx hb dX0_spread_15 rfl (lv_at hl 2 rfl) ?_
      refine lv_bipush (v := (64 : Int32)) hx hb dX0_spread_16 (by decide) ?_
      refine r_icmp_ge (tgt := 134) hx hb dX0_spread_18 (by decide) hf (fun hf => ?_) (fun hf => ?_)
      · exact EF4 x2 M3 _ _ _ hP hS (lv_sub hl [0, 1, 2] rfl) hf
      · refine lv_aload_n hx hb dX0_spread_21 rfl (lv_at hl 0 rfl) ?_
        refine r_getc (k' := 136) (j := 0) hx hb hts inX0 hown hK hP (obX0) rfl (by decide) (hts (.fieldLink RX0 11 "PageMonitor$Hasher" "schedule" "[I") (by decide +kernel)) (fun _ => rfl) dX0_spread_22 ?_
        refine lv_iload_n hx hb dX0_spread_25 rfl (lv_at hl 2 rfl) ?_
        refine lv_bipush (v := (15 : Int32)) hx hb dX0_spread_26 (by decide) ?_
        refine lv_isub hx hb dX0_spread_28 ?_
        refine r_ialdk hx hb hK hP 0 ca136 rfl dX0_spread_29 hf (fun x7 hf => ?_)
        refine lv_istore_n (lv' := [(3, .int x7), (0, .ref (ad 135)), (1, .ref (ad p0)), (2, .int x2)]) hx hb dX0_spread_30 rfl hl (by decide) rfl (fun ls hl => ?_)
        refine lv_aload_n hx hb dX0_spread_31 rfl (lv_at hl 1 rfl) ?_
        refine r_getc (k' := 136) (j := 0) hx hb hts inX0 hown hK hP (obX0) rfl (by decide) (hts (.fieldLink RX0 11 "PageMonitor$Hasher" "schedule" "[I") (by decide +kernel)) (fun _ => rfl) dX0_spread_32 ?_
        refine lv_iload_n hx hb dX0_spread_35 rfl (lv_at hl 3 rfl) ?_
        refine lv_iconst (v := (2 : Int32)) hx hb dX0_spread_36 (by decide) ?_
        refine lv_isub hx hb dX0_spread_37 ?_
        refine r_ialdk hx hb hK hP 0 ca136 rfl dX0_spread_38 hf (fun x8 hf => ?_)
        refine lv_istore (lv' := [(4, .int x8), (3, .int x7), (0, .ref (ad 135)), (1, .ref (ad p0)), (2, .int x2)]) hx hb dX0_spread_39 hl (by decide) rfl (fun ls hl => ?_)
        refine lv_iload_n hx hb dX0_spread_41 rfl (lv_at hl 1 rfl) ?_
        refine lv_bipush (v := (7 : Int32)) hx hb dX0_spread_42 (by decide) ?_
        refine lv_iushr (v := usr x7 (7 : Int32)) hx hb dX0_spread_44 rfl ?_
        refine lv_iload_n hx hb dX0_spread_45 rfl (lv_at hl 1 rfl) ?_
        refine lv_bipush (v := (25 : Int32)) hx hb dX0_spread_46 (by decide) ?_
        refine lv_ishl hx hb dX0_spread_48 ?_
        refine lv_ior hx hb dX0_spread_49 ?_
        refine lv_iload_n hx hb dX0_spread_50 rfl (lv_at hl 1 rfl) ?_
        refine lv_bipush (v := (18 : Int32)) hx hb dX0_spread_51 (by decide) ?_
        refine lv_iushr (v := usr x7 (18 : Int32)) hx hb dX0_spread_53 rfl ?_
        refine lv_iload_n hx hb dX0_spread_54 rfl (lv_at hl 1 rfl) ?_
        refine lv_bipush (v := (14 : Int32)) hx hb dX0_spread_55 (by decide) ?_
        refine lv_ishl hx hb dX0_spread_57 ?_
        refine lv_ior hx hb dX0_spread_58 ?_
        refine lv_ixor hx hb dX0_spread_59 ?_
        refine lv_iload_n hx hb dX0_spread_60 rfl (lv_at hl 1 rfl) ?_
        refine lv_iconst (v := (3 : Int32)) hx hb dX0_spread_61 (by decide) ?_
        refine lv_iushr (v := usr x7 (3 : Int32)) hx hb dX0_spread_62 rfl ?_
        refine lv_ixor hx hb dX0_spread_63 ?_
        refine r_top (g := .int) hf (fun x9 hf => ?_)
        refine lv_istore (lv' := [(5, .int x9), (4, .int x8), (3, .int x7), (0, .ref (ad 135)), (1, .ref (ad p0)), (2, .int x2)]) hx hb dX0_spread_64 hl (by decide) rfl (fun ls hl => ?_)
        refine lv_iload hx hb dX0_spread_66 (lv_at hl 1 rfl) ?_
        refine lv_bipush (v := (17 : Int32)) hx hb dX0_spread_68 (by decide) ?_
        refine lv_iushr (v := usr x8 (17 : Int32)) hx hb dX0_spread_70 rfl ?_
        refine lv_iload hx hb dX0_spread_71 (lv_at hl 1 rfl) ?_
        refine lv_bipush (v := (15 : Int32)) hx hb dX0_spread_73 (by decide) ?_
        refine lv_ishl hx hb dX0_spread_75 ?_
        refine lv_ior hx hb dX0_spread_76 ?_
        refine lv_iload hx hb dX0_spread_77 (lv_at hl 1 rfl) ?_
        refine lv_bipush (v := (19 : Int32)) hx hb dX0_spread_79 (by decide) ?_
        refine lv_iushr (v := usr x8 (19 : Int32)) hx hb dX0_spread_81 rfl ?_
        refine lv_iload hx hb dX0_spread_82 (lv_at hl 1 rfl) ?_
        refine lv_bipush (v := (13 : Int32)) hx hb dX0_spread_84 (by decide) ?_
        refine lv_ishl hx hb dX0_spread_86 ?_
        refine lv_ior hx hb dX0_spread_87 ?_
        refine lv_ixor hx hb dX0_spread_88 ?_
        refine lv_iload hx hb dX0_spread_89 (lv_at hl 1 rfl) ?_
        refine lv_bipush (v := (10 : Int32)) hx hb dX0_spread_91 (by decide) ?_
        refine lv_iushr (v := usr x8 (10 : Int32)) hx hb dX0_spread_93 rfl ?_
        refine lv_ixor hx hb dX0_spread_94 ?_
        refine r_top (g := .int) hf (fun x10 hf => ?_)
        refine lv_istore (lv' := [(6, .int x10), (5, .int x9), (4, .int x8), (3, .int x7), (0, .ref (ad 135)), (1, .ref (ad p0)), (2, .int x2)]) hx hb dX0_spread_95 hl (by decide) rfl (fun ls hl => ?_)
        refine lv_aload_n hx hb dX0_spread_97 rfl (lv_at hl 4 rfl) ?_
        refine r_getc (k' := 136) (j := 0) hx hb hts inX0 hown hK hP (obX0) rfl (by decide) (hts (.fieldLink RX0 11 "PageMonitor$Hasher" "schedule" "[I") (by decide +kernel)) (fun _ => rfl) dX0_spread_98 ?_
        refine lv_iload_n hx hb dX0_spread_101 rfl (lv_at hl 6 rfl) ?_
        refine lv_aload_n hx hb dX0_spread_102 rfl (lv_at hl 4 rfl) ?_
        refine r_getc (k' := 136) (j := 0) hx hb hts inX0 hown hK hP (obX0) rfl (by decide) (hts (.fieldLink RX0 11 "PageMonitor$Hasher" "schedule" "[I") (by decide +kernel)) (fun _ => rfl) dX0_spread_103 ?_
        refine lv_iload_n hx hb dX0_spread_106 rfl (lv_at hl 6 rfl) ?_
        refine lv_bipush (v := (16 : Int32)) hx hb dX0_spread_107 (by decide) ?_
        refine lv_isub hx hb dX0_spread_109 ?_
        refine r_ialdk hx hb hK hP 0 ca136 rfl dX0_spread_110 hf (fun x11 hf => ?_)
        refine lv_iload hx hb dX0_spread_111 (lv_at hl 1 rfl) ?_
        refine lv_iadd hx hb dX0_spread_113 ?_
        refine lv_aload_n hx hb dX0_spread_114 rfl (lv_at hl 4 rfl) ?_
        refine r_getc (k' := 136) (j := 0) hx hb hts inX0 hown hK hP (obX0) rfl (by decide) (hts (.fieldLink RX0 11 "PageMonitor$Hasher" "schedule" "[I") (by decide +kernel)) (fun _ => rfl) dX0_spread_115 ?_
        refine lv_iload_n hx hb dX0_spread_118 rfl (lv_at hl 6 rfl) ?_
        refine lv_bipush (v := (7 : Int32)) hx hb dX0_spread_119 (by decide) ?_
        refine lv_isub hx hb dX0_spread_121 ?_
        refine r_ialdk hx hb hK hP 0 ca136 rfl dX0_spread_122 hf (fun x12 hf => ?_)
        refine lv_iadd hx hb dX0_spread_123 ?_
        refine lv_iload hx hb dX0_spread_124 (lv_at hl 0 rfl) ?_
        refine lv_iadd hx hb dX0_spread_126 ?_
        refine r_iastk hx hb hI hA hK hP hS 0 ca136 rfl dX0_spread_127 hf (fun M13 H locs hP hS hf => ?_)
        refine lv_iinc (v := x2 + (1 : Int32)) (lv' := [(2, .int (x2 + (1 : Int32))), (6, .int x10), (5, .int x9), (4, .int x8), (3, .int x7), (0, .ref (ad 135)), (1, .ref (ad p0))]) hx hb dX0_spread_128 hl (k := 6) rfl rfl (by decide) rfl (fun ls hl => ?_)
        refine lv_goto (tgt := 15) hx hb dX0_spread_131 (by decide) ?_
        exact ih (x2 + (1 : Int32)) M13 _ _ _ hP hS (lv_sub hl [5, 6, 0] rfl) hf
  exact LF4 FU (16 : Int32) M1 _ _ _ hP hS (lv_sub hl [1, 2, 0] rfl) hf
set_option maxHeartbeats 4000000 in
set_option maxRecDepth 100000 in
theorem c_X0_take {l : Launch} {D : va_G} {ad : Nat → Nat} {cI cZ cP cR : ClassId} {A : Nat → Prop} {M : Mem} {p0 : Nat} {p1 : Nat} {res : Mem} (hI : gInj 143 ad) (hA : ∀ k, k < 143 → A (ad k)) (hf : fX0_take M p0 p1 = some res) : Met l yX0_take wsX0_take { frames := 2, cells := 0, slots := 0, locals := 86 } (va_Pc [.ref (ad 135), .ref (ad p0), .ref (ad p1)] (Pf D vwCl (tysW cI cZ cP cR) 143 ad (spC ad cI cP cR) (XC A) M)) (Qf D vwCl 143 ad (spC ad cI cP cR) A none res) 0 0 A := by
  refine Met.ofW (cc := cX0_take) (maxL := 16) (ret := none) (by decide) rfl ?_
  intro p e s m args below meth c s₁ B hml hv
  obtain ⟨rfl, hP, hK, hX⟩ := hv
  have hx := B.exec
  have hb := B.bytes
  have hr := B.returns
  have hts := atoms_spec (ws := wsX0_take) B.pre
  have hown : s.vm.findClass RX0 = some m.cls := findClass_of_methodNamed B.named
  have hlocks := B.notSynchronized
  have inX0 : ∀ w ∈ wsX00, w ∈ wsX0_take := by decide +kernel
  have hS : va_S A s.heap s.heap [] := va_S.rf
  have hl := lv_entry ([.ref (ad 135), .ref (ad p0), .ref (ad p1)]) (n := 16) (Nat.le_of_ble_eq_true rfl)
  rw [lg_entry_eq]
  generalize (lg_sl ([.ref (ad 135), .ref (ad p0), .ref (ad p1)]) ++ List.replicate (16 - (lg_sl ([.ref (ad 135), .ref (ad p0), .ref (ad p1)])).length) Slot.unset).toArray = ls at hl ⊢
  have hl : lv_has ls 16 [(0, .ref (ad 135)), (1, .ref (ad p0)), (2, .ref (ad p1))] := hl
  rw [fX0_take] at hf
  obtain ⟨tADDED, hZADDED, hTADDED⟩ := xs_ADDED hX
  refine lv_aload_n hx hb dX0_take_0 rfl (lv_at hl 0 rfl) ?_
  refine lv_aload_n hx hb dX0_take_1 rfl (lv_at hl 2 rfl) ?_
  obtain ⟨q1, hq1, hf⟩ := ob hf
  refine r_callv (va_runV (As := [.ref (ad p1)]) (rest := []) ⟨hx, hb, hml, hown, hts⟩ (c_X0_spread hI hA hq1) (cwV 1 hts gX0_take_X0_spread rfl rfl rfl (by decide +kernel) ⟨Nat.le_of_ble_eq_true rfl, Nat.le_of_ble_eq_true rfl⟩) (Pf_V (XCb A) (XCo A) hX hK hP hS obX0 rfl) rfl rfl hl.1 rfl (lv_room (Nat.le_of_ble_eq_true rfl)) dX0_take_2 ⟨Nat.zero_le _, Nat.zero_le _⟩) hS (fun H locs hP hS => ?_)
  refine lv_aload_n hx hb dX0_take_5 rfl (lv_at hl 1 rfl) ?_
  refine lv_iconst (v := (0 : Int32)) hx hb dX0_take_6 (by decide) ?_
  refine r_iald hx hb hK hP 0 isI_s rfl dX0_take_7 hf (fun x2 hf => ?_)
  refine lv_istore_n (lv' := [(3, .int x2), (0, .ref (ad 135)), (1, .ref (ad p0)), (2, .ref (ad p1))]) hx hb dX0_take_8 rfl hl (by decide) rfl (fun ls hl => ?_)
  refine lv_aload_n hx hb dX0_take_9 rfl (lv_at hl 2 rfl) ?_
  refine lv_iconst (v := (1 : Int32)) hx hb dX0_take_10 (by decide) ?_
  refine r_iald hx hb hK hP 0 isI_s rfl dX0_take_11 hf (fun x3 hf => ?_)
  refine lv_istore (lv' := [(4, .int x3), (3, .int x2), (0, .ref (ad 135)), (1, .ref (ad p0)), (2, .ref (ad p1))]) hx hb dX0_take_12 hl (by decide) rfl (fun ls hl => ?_)
  refine lv_aload_n hx hb dX0_take_14 rfl (lv_at hl 3 rfl) ?_
  refine lv_iconst (v := (2 : Int32)) hx hb dX0_take_15 (by decide) ?_
  refine r_iald hx hb hK hP 0 isI_s rfl dX0_take_16 hf (fun x4 hf => ?_)
  refine lv_istore (lv' := [(5, .int x4), (4, .int x3), (3, .int x2), (0, .ref (ad 135)), (1, .ref (ad p0)), (2, .ref (ad p1))]) hx hb dX0_take_17 hl (by decide) rfl (fun ls hl => ?_)
  refine lv_aload_n hx hb dX0_take_19 rfl (lv_at hl 4 rfl) ?_
  refine lv_iconst (v := (3 : Int32)) hx hb dX0_take_20 (by decide) ?_
  refine r_iald hx hb hK hP 0 isI_s rfl dX0_take_21 hf (fun x5 hf => ?_)
  refine lv_istore (lv' := [(6, .int x5), (5, .int x4), (4, .int x3), (3, .int x2), (0, .ref (ad 135)), (1, .ref (ad p0)), (2, .ref (ad p1))]) hx hb dX0_take_22 hl (by decide) rfl (fun ls hl => ?_)
  refine lv_aload_n hx hb dX0_take_24 rfl (lv_at hl 5 rfl) ?_
  refine lv_iconst (v := (4 : Int32)) hx hb dX0_take_25 (by decide) ?_
  refine r_iald hx hb hK hP 0 isI_s rfl dX0_take_26 hf (fun x6 hf => ?_)
  refine lv_istore (lv' := [(7, .int x6), (6, .int x5), (5, .int x4), (4, .int x3), (3, .int x2), (0, .ref (ad 135)), (1, .ref (ad p0)), (2, .ref (ad p1))]) hx hb dX0_take_27 hl (by decide) rfl (fun ls hl => ?_)
  refine lv_aload_n hx hb dX0_take_29 rfl (lv_at hl 6 rfl) ?_
  refine lv_iconst (v := (5 : Int32)) hx hb dX0_take_30 (by decide) ?_
  refine r_iald hx hb hK hP 0 isI_s rfl dX0_take_31 hf (fun x7 hf => ?_)
  refine lv_istore (lv' := [(8, .int x7), (7, .int x6), (6, .int x5), (5, .int x4), (4, .int x3), (3, .int x2), (0, .ref (ad 135)), (1, .ref (ad p0)), (2, .ref (ad p1))]) hx hb dX0_take_32 hl (by decide) rfl (fun ls hl => ?_)
  refine lv_aload_n hx hb dX0_take_34 rfl (lv_at hl 7 rfl) ?_
  refine lv_bipush (v := (6 : Int32)) hx hb dX0_take_35 (by decide) ?_
  refine r_iald hx hb hK hP 0 isI_s rfl dX0_take_37 hf (fun x8 hf => ?_)
  refine lv_istore (lv' := [(9, .int x8), (8, .int x7), (7, .int x6), (6, .int x5), (5, .int x4), (4, .int x3), (3, .int x2), (0, .ref (ad 135)), (1, .ref (ad p0)), (2, .ref (ad p1))]) hx hb dX0_take_38 hl (by decide) rfl (fun ls hl => ?_)
  refine lv_aload_n hx hb dX0_take_40 rfl (lv_at hl 8 rfl) ?_
  refine lv_bipush (v := (7 : Int32)) hx hb dX0_take_41 (by decide) ?_
  refine r_iald hx hb hK hP 0 isI_s rfl dX0_take_43 hf (fun x9 hf => ?_)
  refine lv_istore (lv' := [(10, .int x9), (9, .int x8), (8, .int x7), (7, .int x6), (6, .int x5), (5, .int x4), (4, .int x3), (3, .int x2), (0, .ref (ad 135)), (1, .ref (ad p0)), (2, .ref (ad p1))]) hx hb dX0_take_44 hl (by decide) rfl (fun ls hl => ?_)
  refine lv_iconst (v := (0 : Int32)) hx hb dX0_take_46 (by decide) ?_
  refine lv_istore (lv' := [(11, .int (0 : Int32)), (10, .int x9), (9, .int x8), (8, .int x7), (7, .int x6), (6, .int x5), (5, .int x4), (4, .int x3), (3, .int x2), (0, .ref (ad 135)), (1, .ref (ad p0)), (2, .ref (ad p1))]) hx hb dX0_take_47 hl (by decide) rfl (fun ls hl => ?_)
  refine r_jn hf (fun F20 eF20 hf => ?_)
  have EF20 : ∀ (x21 : Int32) (x22 : Int32) (x23 : Int32) (x24 : Int32) (x25 : Int32) (x26 : Int32) (x27 : Int32) (x28 : Int32) (x29 : Int32) (M30 : Mem) (H : Heap) (locs : List Loc) (ls : Array Slot), va_P D vwCl (gw 143 ad (spC ad cI cP cR) M30) H → va_S A s.heap H locs → lv_has ls 16 [(0, .ref (ad 135)), (1, .ref (ad p0)), (2, .ref (ad p1)), (3, .int x21), (4, .int x22), (5, .int x23), (6, .int x24), (7, .int x25), (8, .int x26), (9, .int x27), (10, .int x28), (11, .int x29)] → F20 x21 x22 x23 x24 x25 x26 x27 x28 x29 M30 = some res → W p l e (headSpec wsX0_take { frames := 2, cells := 0, slots := 0, locals := 86 }).room s m (([.ref (ad 135), .ref (ad p0), .ref (ad p1)] : List Value).toArray) below meth c H locs 0 0 (MQ below (Qf D vwCl 143 ad (spC ad cI cP cR) A none res) (([.ref (ad 135), .ref (ad p0), .ref (ad p1)] : List Value).toArray) s 0 0 A) (F0 m 221 ls []) := by
    intro x21 x22 x23 x24 x25 x26 x27 x28 x29 M30 H locs ls hP hS hl hf
    rw [eF20] at hf
    refine lv_aload_n hx hb dX0_take_221 rfl (lv_at hl 1 rfl) ?_
    refine lv_iconst (v := (0 : Int32)) hx hb dX0_take_222 (by decide) ?_
    refine lv_dup2_11 hx hb dX0_take_223 rfl rfl ?_
    refine r_iald hx hb hK hP 0 isI_s rfl dX0_take_224 hf (fun x31 hf => ?_)
    refine lv_iload_n hx hb dX0_take_225 rfl (lv_at hl 3 rfl) ?_
    refine lv_iadd hx hb dX0_take_226 ?_
    refine r_iast hx hb hI hA hK hP hS 0 isI_s rfl dX0_take_227 hf (fun M32 H locs hP hS hf => ?_)
    refine lv_aload_n hx hb dX0_take_228 rfl (lv_at hl 1 rfl) ?_
    refine lv_iconst (v := (1 : Int32)) hx hb dX0_take_229 (by decide) ?_
    refine lv_dup2_11 hx hb dX0_take_230 rfl rfl ?_
    refine r_iald hx hb hK hP 0 isI_s rfl dX0_take_231 hf (fun x33 hf => ?_)
    refine lv_iload hx hb dX0_take_232 (lv_at hl 4 rfl) ?_
    refine lv_iadd hx hb dX0_take_234 ?_
    refine r_iast hx hb hI hA hK hP hS 0 isI_s rfl dX0_take_235 hf (fun M34 H locs hP hS hf => ?_)
    refine lv_aload_n hx hb dX0_take_236 rfl (lv_at hl 1 rfl) ?_
    refine lv_iconst (v := (2 : Int32)) hx hb dX0_take_237 (by decide) ?_
    refine lv_dup2_11 hx hb dX0_take_238 rfl rfl ?_
    refine r_iald hx hb hK hP 0 isI_s rfl dX0_take_239 hf (fun x35 hf => ?_)
    refine lv_iload hx hb dX0_take_240 (lv_at hl 5 rfl) ?_
    refine lv_iadd hx hb dX0_take_242 ?_
    refine r_iast hx hb hI hA hK hP hS 0 isI_s rfl dX0_take_243 hf (fun M36 H locs hP hS hf => ?_)
    refine lv_aload_n hx hb dX0_take_244 rfl (lv_at hl 1 rfl) ?_
    refine lv_iconst (v := (3 : Int32)) hx hb dX0_take_245 (by decide) ?_
    refine lv_dup2_11 hx hb dX0_take_246 rfl rfl ?_
    refine r_iald hx hb hK hP 0 isI_s rfl dX0_take_247 hf (fun x37 hf => ?_)
    refine lv_iload hx hb dX0_take_248 (lv_at hl 6 rfl) ?_
    refine lv_iadd hx hb dX0_take_250 ?_
    refine r_iast hx hb hI hA hK hP hS 0 isI_s rfl dX0_take_251 hf (fun M38 H locs hP hS hf => ?_)
    refine lv_aload_n hx hb dX0_take_252 rfl (lv_at hl 1 rfl) ?_
    refine lv_iconst (v := (4 : Int32)) hx hb dX0_take_253 (by decide) ?_
    refine lv_dup2_11 hx hb dX0_take_254 rfl rfl ?_
    refine r_iald hx hb hK hP 0 isI_s rfl dX0_take_255 hf (fun x39 hf => ?_)
    refine lv_iload hx hb dX0_take_256 (lv_at hl 7 rfl) ?_
    refine lv_iadd hx hb dX0_take_258 ?_
    refine r_iast hx hb hI hA hK hP hS 0 isI_s rfl dX0_take_259 hf (fun M40 H locs hP hS hf => ?_)
    refine lv_aload_n hx hb dX0_take_260 rfl (lv_at hl 1 rfl) ?_
    refine lv_iconst (v := (5 : Int32)) hx hb dX0_take_261 (by decide) ?_
    refine lv_dup2_11 hx hb dX0_take_262 rfl rfl ?_
    refine r_iald hx hb hK hP 0 isI_s rfl dX0_take_263 hf (fun x41 hf => ?_)
    refine lv_iload hx hb dX0_take_264 (lv_at hl 8 rfl) ?_
    refine lv_iadd hx hb dX0_take_266 ?_
    refine r_iast hx hb hI hA hK hP hS 0 isI_s rfl dX0_take_267 hf (fun M42 H locs hP hS hf => ?_)
    refine lv_aload_n hx hb dX0_take_268 rfl (lv_at hl 1 rfl) ?_
    refine lv_bipush (v := (6 : Int32)) hx hb dX0_take_269 (by decide) ?_
    refine lv_dup2_11 hx hb dX0_take_271 rfl rfl ?_
    refine r_iald hx hb hK hP 0 isI_s rfl dX0_take_272 hf (fun x43 hf => ?_)
    refine lv_iload hx hb dX0_take_273 (lv_at hl 9 rfl) ?_
    refine lv_iadd hx hb dX0_take_275 ?_
    refine r_iast hx hb hI hA hK hP hS 0 isI_s rfl dX0_take_276 hf (fun M44 H locs hP hS hf => ?_)
    refine lv_aload_n hx hb dX0_take_277 rfl (lv_at hl 1 rfl) ?_
    refine lv_bipush (v := (7 : Int32)) hx hb dX0_take_278 (by decide) ?_
    refine lv_dup2_11 hx hb dX0_take_280 rfl rfl ?_
    refine r_iald hx hb hK hP 0 isI_s rfl dX0_take_281 hf (fun x45 hf => ?_)
    refine lv_iload hx hb dX0_take_282 (lv_at hl 10 rfl) ?_
    refine lv_iadd hx hb dX0_take_284 ?_
    refine r_iast hx hb hI hA hK hP hS 0 isI_s rfl dX0_take_285 hf (fun M46 H locs hP hS hf => ?_)
    obtain rfl := Option.some.inj hf
    exact r_vret hx hb hr hlocks hP hS dX0_take_286
  have LF20 : ∀ (n : Nat) (x10 : Int32) (x11 : Int32) (x12 : Int32) (x13 : Int32) (x14 : Int32) (x15 : Int32) (x16 : Int32) (x17 : Int32) (x18 : Int32) (M19 : Mem) (H : Heap) (locs : List Loc) (ls : Array Slot), va_P D vwCl (gw 143 ad (spC ad cI cP cR) M19) H → va_S A s.heap H locs → lv_has ls 16 [(0, .ref (ad 135)), (1, .ref (ad p0)), (2, .ref (ad p1)), (3, .int x10), (4, .int x11), (5, .int x12), (6, .int x13), (7, .int x14), (8, .int x15), (9, .int x16), (10, .int x17), (11, .int x18)] → lp_X0_take_49 F20 n x10 x11 x12 x13 x14 x15 x16 x17 x18 M19 = some res → W p l e (headSpec wsX0_take { frames := 2, cells := 0, slots := 0, locals := 86 }).room s m (([.ref (ad 135), .ref (ad p0), .ref (ad p1)] : List Value).toArray) below meth c H locs 0 0 (MQ below (Qf D vwCl 143 ad (spC ad cI cP cR) A none res) (([.ref (ad 135), .ref (ad p0), .ref (ad p1)] : List Value).toArray) s 0 0 A) (F0 m 49 ls []) := by
    intro n
    induction n with
    | zero =>
      intro x10 x11 x12 x13 x14 x15 x16 x17 x18 M19 H locs ls hP hS hl hf
      exact absurd hf (fun h => nomatch h)
    | succ n ih =>
      intro x10 x11 x12 x13 x14 x15 x16 x17 x18 M19 H locs ls hP hS hl hf
      rw [lp_X0_take_49_s] at hf
      refine lv_iload hx hb dX0_take_49 (lv_at hl 11 rfl) ?_
      refine lv_bipush (v := (64 : Int32)) hx hb dX0_take_51 (by decide) ?_
      refine r_icmp_ge (tgt := 221) hx hb dX0_take_53 (by decide) hf (fun hf => ?_) (fun hf => ?_)
      · exact EF20 x10 x11 x12 x13 x14 x15 x16 x17 x18 M19 _ _ _ hP hS (lv_sub hl [0, 1, 2, 3, 4, 5, 6, 7, 8, 9, 10, 11] rfl) hf
      · refine lv_iload hx hb dX0_take_56 (lv_at hl 7 rfl) ?_
        refine lv_bipush (v := (6 : Int32)) hx hb dX0_take_58 (by decide) ?_
        refine lv_iushr (v := usr x14 (6 : Int32)) hx hb dX0_take_60 rfl ?_
        refine lv_iload hx hb dX0_take_61 (lv_at hl 7 rfl) ?_
        refine lv_bipush (v := (26 : Int32)) hx hb dX0_take_63 (by decide) ?_
        refine lv_ishl hx hb dX0_take_65 ?_
        refine lv_ior hx hb dX0_take_66 ?_
        refine lv_iload hx hb dX0_take_67 (lv_at hl 7 rfl) ?_
        refine lv_bipush (v := (11 : Int32)) hx hb dX0_take_69 (by decide) ?_
        refine lv_iushr (v := usr x14 (11 : Int32)) hx hb dX0_take_71 rfl ?_
        refine lv_iload hx hb dX0_take_72 (lv_at hl 7 rfl) ?_
        refine lv_bipush (v := (21 : Int32)) hx hb dX0_take_74 (by decide) ?_
        refine lv_ishl hx hb dX0_take_76 ?_
        refine lv_ior hx hb dX0_take_77 ?_
        refine lv_ixor hx hb dX0_take_78 ?_
        refine lv_iload hx hb dX0_take_79 (lv_at hl 7 rfl) ?_
        refine lv_bipush (v := (25 : Int32)) hx hb dX0_take_81 (by decide) ?_
        refine lv_iushr (v := usr x14 (25 : Int32)) hx hb dX0_take_83 rfl ?_
        refine lv_iload hx hb dX0_take_84 (lv_at hl 7 rfl) ?_
        refine lv_bipush (v := (7 : Int32)) hx hb dX0_take_86 (by decide) ?_
        refine lv_ishl hx hb dX0_take_88 ?_
        refine lv_ior hx hb dX0_take_89 ?_
        refine lv_ixor hx hb dX0_take_90 ?_
        refine r_top (g := .int) hf (fun x47 hf => ?_)
        refine lv_istore (lv' := [(12, .int x47), (0, .ref (ad 135)), (1, .ref (ad p0)), (2, .ref (ad p1)), (3, .int x10), (4, .int x11), (5, .int x12), (6, .int x13), (7, .int x14), (8, .int x15), (9, .int x16), (10, .int x17), (11, .int x18)]) hx hb dX0_take_91 hl (by decide) rfl (fun ls hl => ?_)
        refine lv_iload_n hx hb dX0_take_93 rfl (lv_at hl 4 rfl) ?_
        refine lv_iconst (v := (2 : Int32)) hx hb dX0_take_94 (by decide) ?_
        refine lv_iushr (v := usr x10 (2 : Int32)) hx hb dX0_take_95 rfl ?_
        refine lv_iload_n hx hb dX0_take_96 rfl (lv_at hl 4 rfl) ?_
        refine lv_bipush (v := (30 : Int32)) hx hb dX0_take_97 (by decide) ?_
        refine lv_ishl hx hb dX0_take_99 ?_
        refine lv_ior hx hb dX0_take_100 ?_
        refine lv_iload_n hx hb dX0_take_101 rfl (lv_at hl 4 rfl) ?_
        refine lv_bipush (v := (13 : Int32)) hx hb dX0_take_102 (by decide) ?_
        refine lv_iushr (v := usr x10 (13 : Int32)) hx hb dX0_take_104 rfl ?_
        refine lv_iload_n hx hb dX0_take_105 rfl (lv_at hl 4 rfl) ?_
        refine lv_bipush (v := (19 : Int32)) hx hb dX0_take_106 (by decide) ?_
        refine lv_ishl hx hb dX0_take_108 ?_
        refine lv_ior hx hb dX0_take_109 ?_
        refine lv_ixor hx hb dX0_take_110 ?_
        refine lv_iload_n hx hb dX0_take_111 rfl (lv_at hl 4 rfl) ?_
        refine lv_bipush (v := (22 : Int32)) hx hb dX0_take_112 (by decide) ?_
        refine lv_iushr (v := usr x10 (22 : Int32)) hx hb dX0_take_114 rfl ?_
        refine lv_iload_n hx hb dX0_take_115 rfl (lv_at hl 4 rfl) ?_
        refine lv_bipush (v := (10 : Int32)) hx hb dX0_take_116 (by decide) ?_
        refine lv_ishl hx hb dX0_take_118 ?_
        refine lv_ior hx hb dX0_take_119 ?_
        refine lv_ixor hx hb dX0_take_120 ?_
        refine r_top (g := .int) hf (fun x48 hf => ?_)
        refine lv_istore (lv' := [(13, .int x48), (12, .int x47), (0, .ref (ad 135)), (1, .ref (ad p0)), (2, .ref (ad p1)), (3, .int x10), (4, .int x11), (5, .int x12), (6, .int x13), (7, .int x14), (8, .int x15), (9, .int x16), (10, .int x17), (11, .int x18)]) hx hb dX0_take_121 hl (by decide) rfl (fun ls hl => ?_)
        refine lv_iload hx hb dX0_take_123 (lv_at hl 12 rfl) ?_
        refine lv_iload hx hb dX0_take_125 (lv_at hl 1 rfl) ?_
        refine lv_iadd hx hb dX0_take_127 ?_
        refine lv_iload hx hb dX0_take_128 (lv_at hl 9 rfl) ?_
        refine lv_iload hx hb dX0_take_130 (lv_at hl 10 rfl) ?_
        refine lv_iand hx hb dX0_take_132 ?_
        refine lv_iload hx hb dX0_take_133 (lv_at hl 9 rfl) ?_
        refine lv_iconst (v := (-1 : Int32)) hx hb dX0_take_135 (by decide) ?_
        refine lv_ixor hx hb dX0_take_136 ?_
        refine lv_iload hx hb dX0_take_137 (lv_at hl 11 rfl) ?_
        refine lv_iand hx hb dX0_take_139 ?_
        refine lv_ixor hx hb dX0_take_140 ?_
        refine lv_iadd hx hb dX0_take_141 ?_
        refine va_gets hx hb hZADDED hS hown (hts (.fieldLink RX0 31 "PageMonitor$Hasher" "ADDED" "[I") (by decide +kernel)) (fun _ h => h) dX0_take_142 ?_
        refine lv_iload hx hb dX0_take_145 (lv_at hl 13 rfl) ?_
        refine r_tald hx hb hTADDED hS dX0_take_147 hf (fun x49 hf => ?_)
        refine lv_iadd hx hb dX0_take_148 ?_
        refine lv_aload_n hx hb dX0_take_149 rfl (lv_at hl 2 rfl) ?_
        refine r_getc (k' := 136) (j := 0) hx hb hts inX0 hown hK hP (obX0) rfl (by decide) (hts (.fieldLink RX0 11 "PageMonitor$Hasher" "schedule" "[I") (by decide +kernel)) (fun _ => rfl) dX0_take_150 ?_
        refine lv_iload hx hb dX0_take_153 (lv_at hl 13 rfl) ?_
        refine r_ialdk hx hb hK hP 0 ca136 rfl dX0_take_155 hf (fun x50 hf => ?_)
        refine lv_iadd hx hb dX0_take_156 ?_
        refine r_top (g := .int) hf (fun x51 hf => ?_)
        refine lv_istore (lv' := [(14, .int x51), (13, .int x48), (12, .int x47), (0, .ref (ad 135)), (1, .ref (ad p0)), (2, .ref (ad p1)), (3, .int x10), (4, .int x11), (5, .int x12), (6, .int x13), (7, .int x14), (8, .int x15), (9, .int x16), (10, .int x17), (11, .int x18)]) hx hb dX0_take_157 hl (by decide) rfl (fun ls hl => ?_)
        refine lv_iload hx hb dX0_take_159 (lv_at hl 1 rfl) ?_
        refine lv_iload_n hx hb dX0_take_161 rfl (lv_at hl 6 rfl) ?_
        refine lv_iload hx hb dX0_take_162 (lv_at hl 7 rfl) ?_
        refine lv_iand hx hb dX0_take_164 ?_
        refine lv_iload_n hx hb dX0_take_165 rfl (lv_at hl 6 rfl) ?_
        refine lv_iload hx hb dX0_take_166 (lv_at hl 8 rfl) ?_
        refine lv_iand hx hb dX0_take_168 ?_
        refine lv_ixor hx hb dX0_take_169 ?_
        refine lv_iload hx hb dX0_take_170 (lv_at hl 7 rfl) ?_
        refine lv_iload hx hb dX0_take_172 (lv_at hl 8 rfl) ?_
        refine lv_iand hx hb dX0_take_174 ?_
        refine lv_ixor hx hb dX0_take_175 ?_
        refine lv_iadd hx hb dX0_take_176 ?_
        refine r_top (g := .int) hf (fun x52 hf => ?_)
        refine lv_istore (lv' := [(15, .int x52), (14, .int x51), (13, .int x48), (12, .int x47), (0, .ref (ad 135)), (1, .ref (ad p0)), (2, .ref (ad p1)), (3, .int x10), (4, .int x11), (5, .int x12), (6, .int x13), (7, .int x14), (8, .int x15), (9, .int x16), (10, .int x17), (11, .int x18)]) hx hb dX0_take_177 hl (by decide) rfl (fun ls hl => ?_)
        refine lv_iload hx hb dX0_take_179 (lv_at hl 13 rfl) ?_
        refine lv_istore (lv' := [(10, .int x16), (15, .int x52), (14, .int x51), (13, .int x48), (12, .int x47), (0, .ref (ad 135)), (1, .ref (ad p0)), (2, .ref (ad p1)), (3, .int x10), (4, .int x11), (5, .int x12), (6, .int x13), (7, .int x14), (8, .int x15), (9, .int x16), (11, .int x18)]) hx hb dX0_take_181 hl (by decide) rfl (fun ls hl => ?_)
        refine lv_iload hx hb dX0_take_183 (lv_at hl 13 rfl) ?_
        refine lv_istore (lv' := [(9, .int x15), (10, .int x16), (15, .int x52), (14, .int x51), (13, .int x48), (12, .int x47), (0, .ref (ad 135)), (1, .ref (ad p0)), (2, .ref (ad p1)), (3, .int x10), (4, .int x11), (5, .int x12), (6, .int x13), (7, .int x14), (8, .int x15), (11, .int x18)]) hx hb dX0_take_185 hl (by decide) rfl (fun ls hl => ?_)
        refine lv_iload hx hb dX0_take_187 (lv_at hl 13 rfl) ?_
        refine lv_istore (lv' := [(8, .int x14), (9, .int x15), (10, .int x16), (15, .int x52), (14, .int x51), (13, .int x48), (12, .int x47), (0, .ref (ad 135)), (1, .ref (ad p0)), (2, .ref (ad p1)), (3, .int x10), (4, .int x11), (5, .int x12), (6, .int x13), (7, .int x14), (11, .int x18)]) hx hb dX0_take_189 hl (by decide) rfl (fun ls hl => ?_)
        refine lv_iload hx hb dX0_take_191 (lv_at hl 13 rfl) ?_
        refine lv_iload hx hb dX0_take_193 (lv_at hl 4 rfl) ?_
        refine lv_iadd hx hb dX0_take_195 ?_
        refine r_top (g := .int) hf (fun x53 hf => ?_)
        refine lv_istore (lv' := [(7, .int x53), (8, .int x14), (9, .int x15), (10, .int x16), (15, .int x52), (14, .int x51), (13, .int x48), (12, .int x47), (0, .ref (ad 135)), (1, .ref (ad p0)), (2, .ref (ad p1)), (3, .int x10), (4, .int x11), (5, .int x12), (6, .int x13), (11, .int x18)]) hx hb dX0_take_196 hl (by decide) rfl (fun ls hl => ?_)
        refine lv_iload hx hb dX0_take_198 (lv_at hl 13 rfl) ?_
        refine lv_istore (lv' := [(6, .int x12), (7, .int x53), (8, .int x14), (9, .int x15), (10, .int x16), (15, .int x52), (14, .int x51), (13, .int x48), (12, .int x47), (0, .ref (ad 135)), (1, .ref (ad p0)), (2, .ref (ad p1)), (3, .int x10), (4, .int x11), (5, .int x12), (11, .int x18)]) hx hb dX0_take_200 hl (by decide) rfl (fun ls hl => ?_)
        refine lv_iload hx hb dX0_take_202 (lv_at hl 13 rfl) ?_
        refine lv_istore (lv' := [(5, .int x11), (6, .int x12), (7, .int x53), (8, .int x14), (9, .int x15), (10, .int x16), (15, .int x52), (14, .int x51), (13, .int x48), (12, .int x47), (0, .ref (ad 135)), (1, .ref (ad p0)), (2, .ref (ad p1)), (3, .int x10), (4, .int x11), (11, .int x18)]) hx hb dX0_take_204 hl (by decide) rfl (fun ls hl => ?_)
        refine lv_iload_n hx hb dX0_take_206 rfl (lv_at hl 13 rfl) ?_
        refine lv_istore (lv' := [(4, .int x10), (5, .int x11), (6, .int x12), (7, .int x53), (8, .int x14), (9, .int x15), (10, .int x16), (15, .int x52), (14, .int x51), (13, .int x48), (12, .int x47), (0, .ref (ad 135)), (1, .ref (ad p0)), (2, .ref (ad p1)), (3, .int x10), (11, .int x18)]) hx hb dX0_take_207 hl (by decide) rfl (fun ls hl => ?_)
        refine lv_iload hx hb dX0_take_209 (lv_at hl 8 rfl) ?_
        refine lv_iload hx hb dX0_take_211 (lv_at hl 7 rfl) ?_
        refine lv_iadd hx hb dX0_take_213 ?_
        refine r_top (g := .int) hf (fun x54 hf => ?_)
        refine lv_istore_n (lv' := [(3, .int x54), (4, .int x10), (5, .int x11), (6, .int x12), (7, .int x53), (8, .int x14), (9, .int x15), (10, .int x16), (15, .int x52), (14, .int x51), (13, .int x48), (12, .int x47), (0, .ref (ad 135)), (1, .ref (ad p0)), (2, .ref (ad p1)), (11, .int x18)]) hx hb dX0_take_214 rfl hl (by decide) rfl (fun ls hl => ?_)
        refine lv_iinc (v := x18 + (1 : Int32)) (lv' := [(11, .int (x18 + (1 : Int32))), (3, .int x54), (4, .int x10), (5, .int x11), (6, .int x12), (7, .int x53), (8, .int x14), (9, .int x15), (10, .int x16), (15, .int x52), (14, .int x51), (13, .int x48), (12, .int x47), (0, .ref (ad 135)), (1, .ref (ad p0)), (2, .ref (ad p1))]) hx hb dX0_take_215 hl (k := 15) rfl rfl (by decide) rfl (fun ls hl => ?_)
        refine lv_goto (tgt := 49) hx hb dX0_take_218 (by decide) ?_
        exact ih x54 x10 x11 x12 x53 x14 x15 x16 (x18 + (1 : Int32)) M19 _ _ _ hP hS (lv_sub hl [13, 14, 15, 1, 2, 3, 4, 5, 6, 7, 8, 0] rfl) hf
  exact LF20 FU x2 x3 x4 x5 x6 x7 x8 x9 (0 : Int32) q1 _ _ _ hP hS (lv_sub hl [9, 10, 11, 8, 7, 6, 5, 4, 3, 2, 1, 0] rfl) hf
set_option maxHeartbeats 4000000 in
set_option maxRecDepth 100000 in
theorem c_X0_endAfter {l : Launch} {D : va_G} {ad : Nat → Nat} {cI cZ cP cR : ClassId} {A : Nat → Prop} {M : Mem} {p0 : Int32} {res : (Nat × Mem)} (hI : gInj 143 ad) (hA : ∀ k, k < 143 → A (ad k)) (hf : fX0_endAfter M p0 = some res) : Met l yX0_endAfter wsX0_endAfter { frames := 0, cells := 0, slots := 0, locals := 0 } (va_Pc [.ref (ad 135), .int p0] (Pf D vwCl (tysW cI cZ cP cR) 143 ad (spC ad cI cP cR) (XC A) M)) (Qf D vwCl 143 ad (spC ad cI cP cR) A (some (.ref (ad res.1))) res.2) 0 0 A := by
  refine Met.ofW (cc := cX0_endAfter) (maxL := 2) (ret := (some (.array .int))) (by decide) rfl ?_
  intro p e s m args below meth c s₁ B hml hv
  obtain ⟨rfl, hP, hK, hX⟩ := hv
  have hx := B.exec
  have hb := B.bytes
  have hr := B.returns
  have hts := atoms_spec (ws := wsX0_endAfter) B.pre
  have hown : s.vm.findClass RX0 = some m.cls := findClass_of_methodNamed B.named
  have hlocks := B.notSynchronized
  have inX0 : ∀ w ∈ wsX00, w ∈ wsX0_endAfter := by decide +kernel
  have hS : va_S A s.heap s.heap [] := va_S.rf
  have hl := lv_entry ([.ref (ad 135), .int p0]) (n := 2) (Nat.le_of_ble_eq_true rfl)
  rw [lg_entry_eq]
  generalize (lg_sl ([.ref (ad 135), .int p0]) ++ List.replicate (2 - (lg_sl ([.ref (ad 135), .int p0])).length) Slot.unset).toArray = ls at hl ⊢
  have hl : lv_has ls 2 [(0, .ref (ad 135)), (1, .int p0)] := hl
  rw [fX0_endAfter] at hf
  refine lv_aload_n hx hb dX0_endAfter_0 rfl (lv_at hl 0 rfl) ?_
  refine r_getc (k' := 137) (j := 1) hx hb hts inX0 hown hK hP (obX0) rfl (by decide) (hts (.fieldLink RX0 15 "PageMonitor$Hasher" "padding" "[I") (by decide +kernel)) (fun _ => rfl) dX0_endAfter_1 ?_
  refine lv_iconst (v := (0 : Int32)) hx hb dX0_endAfter_4 (by decide) ?_
  refine lv_ldc hx hb hown (hts (.constant RX0 34 (-2147483648 : Int32)) (by decide +kernel)) dX0_endAfter_5 ?_
  refine r_iastk hx hb hI hA hK hP hS 0 ca137 rfl dX0_endAfter_7 hf (fun M1 H locs hP hS hf => ?_)
  refine lv_aload_n hx hb dX0_endAfter_8 rfl (lv_at hl 0 rfl) ?_
  refine r_getc (k' := 137) (j := 1) hx hb hts inX0 hown hK hP (obX0) rfl (by decide) (hts (.fieldLink RX0 15 "PageMonitor$Hasher" "padding" "[I") (by decide +kernel)) (fun _ => rfl) dX0_endAfter_9 ?_
  refine lv_bipush (v := (15 : Int32)) hx hb dX0_endAfter_12 (by decide) ?_
  refine lv_iload_n hx hb dX0_endAfter_14 rfl (lv_at hl 1 rfl) ?_
  refine lv_sipush (v := (512 : Int32)) hx hb dX0_endAfter_15 (by decide) ?_
  refine lv_imul hx hb dX0_endAfter_18 ?_
  refine r_iastk hx hb hI hA hK hP hS 0 ca137 rfl dX0_endAfter_19 hf (fun M2 H locs hP hS hf => ?_)
  refine lv_aload_n hx hb dX0_endAfter_20 rfl (lv_at hl 0 rfl) ?_
  refine r_getc (k' := 137) (j := 1) hx hb hts inX0 hown hK hP (obX0) rfl (by decide) (hts (.fieldLink RX0 15 "PageMonitor$Hasher" "padding" "[I") (by decide +kernel)) (fun _ => rfl) dX0_endAfter_21 ?_
  obtain rfl := Option.some.inj hf
  exact r_aret hx hb hr (Or.inr ⟨_, rfl⟩) (Or.inr ⟨_, rfl⟩) hlocks hP hS dX0_endAfter_24
set_option maxHeartbeats 4000000 in
set_option maxRecDepth 100000 in
theorem c_X2_open {l : Launch} {D : va_G} {ad : Nat → Nat} {cI cZ cP cR : ClassId} {A : Nat → Prop} {M : Mem} {p0 : Nat} {res : Mem} (hI : gInj 143 ad) (hA : ∀ k, k < 143 → A (ad k)) (hf : fX2_open M p0 = some res) : Met l yX2_open wsX2_open { frames := 2, cells := 0, slots := 0, locals := 81 } (va_Pc [.ref (ad 133), .ref (ad p0)] (Pf D vwCl (tysW cI cZ cP cR) 143 ad (spC ad cI cP cR) (XC A) M)) (Qf D vwCl 143 ad (spC ad cI cP cR) A none res) 0 0 A := by
  refine Met.ofW (cc := cX2_open) (maxL := 2) (ret := none) (by decide) rfl ?_
  intro p e s m args below meth c s₁ B hml hv
  obtain ⟨rfl, hP, hK, hX⟩ := hv
  have hx := B.exec
  have hb := B.bytes
  have hr := B.returns
  have hts := atoms_spec (ws := wsX2_open) B.pre
  have hown : s.vm.findClass RX2 = some m.cls := findClass_of_methodNamed B.named
  have hlocks := B.notSynchronized
  have inX2 : ∀ w ∈ wsX20, w ∈ wsX2_open := by decide +kernel
  have inX3 : ∀ w ∈ wsX30, w ∈ wsX2_open := by decide +kernel
  have hS : va_S A s.heap s.heap [] := va_S.rf
  have hl := lv_entry ([.ref (ad 133), .ref (ad p0)]) (n := 2) (Nat.le_of_ble_eq_true rfl)
  rw [lg_entry_eq]
  generalize (lg_sl ([.ref (ad 133), .ref (ad p0)]) ++ List.replicate (2 - (lg_sl ([.ref (ad 133), .ref (ad p0)])).length) Slot.unset).toArray = ls at hl ⊢
  have hl : lv_has ls 2 [(0, .ref (ad 133)), (1, .ref (ad p0))] := hl
  rw [fX2_open] at hf
  refine lv_aload_n hx hb dX2_open_0 rfl (lv_at hl 1 rfl) ?_
  refine lv_iconst (v := (0 : Int32)) hx hb dX2_open_1 (by decide) ?_
  refine r_puti (j := 3) hx hb hts inX3 tyX3 tyX3_ok nmX3 hown hI hA hK hP hS isPg_s rfl (by decide) (hts (.fieldLink RX2 25 "PageMonitor$Page" "sealed" "Z") (by decide +kernel)) rfl (by decide) (by decide) (fun _ => Nat.le_of_ble_eq_true rfl) (fun _ _ => rfl) dX2_open_2 hf (fun M1 H locs hP hS hf => ?_)
  refine lv_aload_n hx hb dX2_open_5 rfl (lv_at hl 1 rfl) ?_
  refine lv_iconst (v := (0 : Int32)) hx hb dX2_open_6 (by decide) ?_
  refine r_puti (j := 4) hx hb hts inX3 tyX3 tyX3_ok nmX3 hown hI hA hK hP hS isPg_s rfl (by decide) (hts (.fieldLink RX2 31 "PageMonitor$Page" "blocksTold" "I") (by decide +kernel)) rfl rfl rfl (fun _ => Nat.le_of_ble_eq_true rfl) (fun _ _ => rfl) dX2_open_7 hf (fun M2 H locs hP hS hf => ?_)
  refine lv_aload_n hx hb dX2_open_10 rfl (lv_at hl 0 rfl) ?_
  refine r_getc (k' := 135) (j := 1) hx hb hts inX2 hown hK hP (obX2) rfl (by decide) (hts (.fieldLink RX2 18 "PageMonitor$Notary" "hasher" "LPageMonitor$Hasher;") (by decide +kernel)) (fun _ => rfl) dX2_open_11 ?_
  refine lv_aload_n hx hb dX2_open_14 rfl (lv_at hl 1 rfl) ?_
  refine r_getr (k' := p0 + 2) (j := 6) hx hb hts inX3 hown hK hP isPg_s rfl (by decide) (hts (.fieldLink RX2 35 "PageMonitor$Page" "digest" "[I") (by decide +kernel)) (fun _ => rfl) dX2_open_15 hf (fun hf => ?_)
  obtain ⟨q3, hq3, hf⟩ := ob hf
  refine r_callv (va_runV (As := [.ref (ad (p0 + 2))]) (rest := []) ⟨hx, hb, hml, hown, hts⟩ (c_X0_begin hI hA hq3) (cwV 1 hts gX2_open_X0_begin rfl rfl rfl (by decide +kernel) ⟨Nat.le_of_ble_eq_true rfl, Nat.le_of_ble_eq_true rfl⟩) (Pf_V (XCb A) (XCo A) hX hK hP hS obX0 rfl) rfl rfl hl.1 rfl (lv_room (Nat.le_of_ble_eq_true rfl)) dX2_open_18 ⟨Nat.zero_le _, Nat.zero_le _⟩) hS (fun H locs hP hS => ?_)
  obtain rfl := Option.some.inj hf
  exact r_vret hx hb hr hlocks hP hS dX2_open_21
set_option maxHeartbeats 4000000 in
set_option maxRecDepth 100000 in
theorem c_X2_tellWords {l : Launch} {D : va_G} {ad : Nat → Nat} {cI cZ cP cR : ClassId} {A : Nat → Prop} {M : Mem} {p0 : Nat} {p1 : Nat} {res : Mem} (hI : gInj 143 ad) (hA : ∀ k, k < 143 → A (ad k)) (hf : fX2_tellWords M p0 p1 = some res) : Met l yX2_tellWords wsX2_tellWords { frames := 3, cells := 0, slots := 0, locals := 121 } (va_Pc [.ref (ad 133), .ref (ad p0), .ref (ad p1)] (Pf D vwCl (tysW cI cZ cP cR) 143 ad (spC ad cI cP cR) (XC A) M)) (Qf D vwCl 143 ad (spC ad cI cP cR) A none res) 0 0 A := by
  refine Met.ofW (cc := cX2_tellWords) (maxL := 3) (ret := none) (by decide) rfl ?_
  intro p e s m args below meth c s₁ B hml hv
  obtain ⟨rfl, hP, hK, hX⟩ := hv
  have hx := B.exec
  have hb := B.bytes
  have hr := B.returns
  have hts := atoms_spec (ws := wsX2_tellWords) B.pre
  have hown : s.vm.findClass RX2 = some m.cls := findClass_of_methodNamed B.named
  have hlocks := B.notSynchronized
  have inX2 : ∀ w ∈ wsX20, w ∈ wsX2_tellWords := by decide +kernel
  have inX3 : ∀ w ∈ wsX30, w ∈ wsX2_tellWords := by decide +kernel
  have hS : va_S A s.heap s.heap [] := va_S.rf
  have hl := lv_entry ([.ref (ad 133), .ref (ad p0), .ref (ad p1)]) (n := 3) (Nat.le_of_ble_eq_true rfl)
  rw [lg_entry_eq]
  generalize (lg_sl ([.ref (ad 133), .ref (ad p0), .ref (ad p1)]) ++ List.replicate (3 - (lg_sl ([.ref (ad 133), .ref (ad p0), .ref (ad p1)])).length) Slot.unset).toArray = ls at hl ⊢
  have hl : lv_has ls 3 [(0, .ref (ad 133)), (1, .ref (ad p0)), (2, .ref (ad p1))] := hl
  rw [fX2_tellWords] at hf
  refine lv_aload_n hx hb dX2_tellWords_0 rfl (lv_at hl 0 rfl) ?_
  refine r_getc (k' := 135) (j := 1) hx hb hts inX2 hown hK hP (obX2) rfl (by decide) (hts (.fieldLink RX2 18 "PageMonitor$Notary" "hasher" "LPageMonitor$Hasher;") (by decide +kernel)) (fun _ => rfl) dX2_tellWords_1 ?_
  refine lv_aload_n hx hb dX2_tellWords_4 rfl (lv_at hl 1 rfl) ?_
  refine r_getr (k' := p0 + 2) (j := 6) hx hb hts inX3 hown hK hP isPg_s rfl (by decide) (hts (.fieldLink RX2 35 "PageMonitor$Page" "digest" "[I") (by decide +kernel)) (fun _ => rfl) dX2_tellWords_5 hf (fun hf => ?_)
  refine lv_aload_n hx hb dX2_tellWords_8 rfl (lv_at hl 2 rfl) ?_
  obtain ⟨q1, hq1, hf⟩ := ob hf
  refine r_callv (va_runV (As := [.ref (ad (p0 + 2)), .ref (ad p1)]) (rest := []) ⟨hx, hb, hml, hown, hts⟩ (c_X0_take hI hA hq1) (cwV 2 hts gX2_tellWords_X0_take rfl rfl rfl (by decide +kernel) ⟨Nat.le_of_ble_eq_true rfl, Nat.le_of_ble_eq_true rfl⟩) (Pf_V (XCb A) (XCo A) hX hK hP hS obX0 rfl) rfl rfl hl.1 rfl (lv_room (Nat.le_of_ble_eq_true rfl)) dX2_tellWords_9 ⟨Nat.zero_le _, Nat.zero_le _⟩) hS (fun H locs hP hS => ?_)
  refine lv_aload_n hx hb dX2_tellWords_12 rfl (lv_at hl 1 rfl) ?_
  refine lv_dup hx hb dX2_tellWords_13 rfl ?_
  refine r_geti (j := 4) hx hb hts inX3 hown hK hP isPg_s rfl (by decide) (hts (.fieldLink RX2 31 "PageMonitor$Page" "blocksTold" "I") (by decide +kernel)) (fun _ => rfl) dX2_tellWords_14 hf (fun x2 hf => ?_)
  refine lv_iconst (v := (1 : Int32)) hx hb dX2_tellWords_17 (by decide) ?_
  refine lv_iadd hx hb dX2_tellWords_18 ?_
  refine r_puti (j := 4) hx hb hts inX3 tyX3 tyX3_ok nmX3 hown hI hA hK hP hS isPg_s rfl (by decide) (hts (.fieldLink RX2 31 "PageMonitor$Page" "blocksTold" "I") (by decide +kernel)) rfl rfl rfl (fun _ => Nat.le_of_ble_eq_true rfl) (fun _ _ => rfl) dX2_tellWords_19 hf (fun M3 H locs hP hS hf => ?_)
  obtain rfl := Option.some.inj hf
  exact r_vret hx hb hr hlocks hP hS dX2_tellWords_22
set_option maxHeartbeats 4000000 in
set_option maxRecDepth 100000 in
theorem c_X2_tell {l : Launch} {D : va_G} {ad : Nat → Nat} {cI cZ cP cR : ClassId} {A : Nat → Prop} {M : Mem} {p0 : Nat} {p1 : Int32} {p2 : Int32} {p3 : Int32} {res : Mem} (hI : gInj 143 ad) (hA : ∀ k, k < 143 → A (ad k)) (hf : fX2_tell M p0 p1 p2 p3 = some res) : Met l yX2_tell wsX2_tell { frames := 4, cells := 0, slots := 0, locals := 143 } (va_Pc [.ref (ad 133), .ref (ad p0), .int p1, .int p2, .int p3] (Pf D vwCl (tysW cI cZ cP cR) 143 ad (spC ad cI cP cR) (XC A) M)) (Qf D vwCl 143 ad (spC ad cI cP cR) A none res) 0 0 A := by
  refine Met.ofW (cc := cX2_tell) (maxL := 5) (ret := none) (by decide) rfl ?_
  intro p e s m args below meth c s₁ B hml hv
  obtain ⟨rfl, hP, hK, hX⟩ := hv
  have hx := B.exec
  have hb := B.bytes
  have hr := B.returns
  have hts := atoms_spec (ws := wsX2_tell) B.pre
  have hown : s.vm.findClass RX2 = some m.cls := findClass_of_methodNamed B.named
  have hlocks := B.notSynchronized
  have inX2 : ∀ w ∈ wsX20, w ∈ wsX2_tell := by decide +kernel
  have hS : va_S A s.heap s.heap [] := va_S.rf
  have hl := lv_entry ([.ref (ad 133), .ref (ad p0), .int p1, .int p2, .int p3]) (n := 5) (Nat.le_of_ble_eq_true rfl)
  rw [lg_entry_eq]
  generalize (lg_sl ([.ref (ad 133), .ref (ad p0), .int p1, .int p2, .int p3]) ++ List.replicate (5 - (lg_sl ([.ref (ad 133), .ref (ad p0), .int p1, .int p2, .int p3])).length) Slot.unset).toArray = ls at hl ⊢
  have hl : lv_has ls 5 [(0, .ref (ad 133)), (1, .ref (ad p0)), (2, .int p1), (3, .int p2), (4, .int p3)] := hl
  rw [fX2_tell] at hf
  refine lv_aload_n hx hb dX2_tell_0 rfl (lv_at hl 0 rfl) ?_
  refine r_getc (k' := 138) (j := 2) hx hb hts inX2 hown hK hP (obX2) rfl (by decide) (hts (.fieldLink RX2 22 "PageMonitor$Notary" "block" "[I") (by decide +kernel)) (fun _ => rfl) dX2_tell_1 ?_
  refine lv_iconst (v := (0 : Int32)) hx hb dX2_tell_4 (by decide) ?_
  obtain ⟨q1, hq1, hf⟩ := ob hf
  refine r_callv (va_runS (As := [.ref (ad 138), .int (0 : Int32)]) (rest := []) ⟨hx, hb, hml, hown, hts⟩ (c_J7_fill_53178 hI hA hq1) (va_cwS 2 hts gX2_tell_J7_fill_53178 rfl rfl rfl (by decide +kernel) ⟨Nat.le_of_ble_eq_true rfl, Nat.le_of_ble_eq_true rfl⟩) (Pf_S (XCb A) (XCo A) hX hK hP hS) rfl rfl hl.1 rfl (lv_room (Nat.le_of_ble_eq_true rfl)) dX2_tell_5 ⟨Nat.zero_le _, Nat.zero_le _⟩) hS (fun H locs hP hS => ?_)
  refine lv_aload_n hx hb dX2_tell_8 rfl (lv_at hl 0 rfl) ?_
  refine r_getc (k' := 138) (j := 2) hx hb hts inX2 hown hK hP (obX2) rfl (by decide) (hts (.fieldLink RX2 22 "PageMonitor$Notary" "block" "[I") (by decide +kernel)) (fun _ => rfl) dX2_tell_9 ?_
  refine lv_iconst (v := (0 : Int32)) hx hb dX2_tell_12 (by decide) ?_
  refine lv_iload_n hx hb dX2_tell_13 rfl (lv_at hl 2 rfl) ?_
  refine r_iastk hx hb hI hA hK hP hS 0 ca138 rfl dX2_tell_14 hf (fun M2 H locs hP hS hf => ?_)
  refine lv_aload_n hx hb dX2_tell_15 rfl (lv_at hl 0 rfl) ?_
  refine r_getc (k' := 138) (j := 2) hx hb hts inX2 hown hK hP (obX2) rfl (by decide) (hts (.fieldLink RX2 22 "PageMonitor$Notary" "block" "[I") (by decide +kernel)) (fun _ => rfl) dX2_tell_16 ?_
  refine lv_iconst (v := (1 : Int32)) hx hb dX2_tell_19 (by decide) ?_
  refine lv_iload_n hx hb dX2_tell_20 rfl (lv_at hl 3 rfl) ?_
  refine r_iastk hx hb hI hA hK hP hS 0 ca138 rfl dX2_tell_21 hf (fun M3 H locs hP hS hf => ?_)
  refine lv_aload_n hx hb dX2_tell_22 rfl (lv_at hl 0 rfl) ?_
  refine r_getc (k' := 138) (j := 2) hx hb hts inX2 hown hK hP (obX2) rfl (by decide) (hts (.fieldLink RX2 22 "PageMonitor$Notary" "block" "[I") (by decide +kernel)) (fun _ => rfl) dX2_tell_23 ?_
  refine lv_iconst (v := (2 : Int32)) hx hb dX2_tell_26 (by decide) ?_
  refine lv_iload hx hb dX2_tell_27 (lv_at hl 4 rfl) ?_
  refine r_iastk hx hb hI hA hK hP hS 0 ca138 rfl dX2_tell_29 hf (fun M4 H locs hP hS hf => ?_)
  refine lv_aload_n hx hb dX2_tell_30 rfl (lv_at hl 0 rfl) ?_
  refine lv_aload_n hx hb dX2_tell_31 rfl (lv_at hl 1 rfl) ?_
  refine lv_aload_n hx hb dX2_tell_32 rfl (lv_at hl 0 rfl) ?_
  refine r_getc (k' := 138) (j := 2) hx hb hts inX2 hown hK hP (obX2) rfl (by decide) (hts (.fieldLink RX2 22 "PageMonitor$Notary" "block" "[I") (by decide +kernel)) (fun _ => rfl) dX2_tell_33 ?_
  obtain ⟨q5, hq5, hf⟩ := ob hf
  refine r_callv (va_runV (As := [.ref (ad p0), .ref (ad 138)]) (rest := []) ⟨hx, hb, hml, hown, hts⟩ (c_X2_tellWords hI hA hq5) (cwV 2 hts gX2_tell_X2_tellWords rfl rfl rfl (by decide +kernel) ⟨Nat.le_of_ble_eq_true rfl, Nat.le_of_ble_eq_true rfl⟩) (Pf_V (XCb A) (XCo A) hX hK hP hS obX2 rfl) rfl rfl hl.1 rfl (lv_room (Nat.le_of_ble_eq_true rfl)) dX2_tell_36 ⟨Nat.zero_le _, Nat.zero_le _⟩) hS (fun H locs hP hS => ?_)
  obtain rfl := Option.some.inj hf
  exact r_vret hx hb hr hlocks hP hS dX2_tell_39
set_option maxHeartbeats 4000000 in
set_option maxRecDepth 100000 in
theorem c_X2_seal {l : Launch} {D : va_G} {ad : Nat → Nat} {cI cZ cP cR : ClassId} {A : Nat → Prop} {M : Mem} {p0 : Nat} {res : Mem} (hI : gInj 143 ad) (hA : ∀ k, k < 143 → A (ad k)) (hf : fX2_seal M p0 = some res) : Met l yX2_seal wsX2_seal { frames := 5, cells := 0, slots := 0, locals := 167 } (va_Pc [.ref (ad 133), .ref (ad p0)] (Pf D vwCl (tysW cI cZ cP cR) 143 ad (spC ad cI cP cR) (XC A) M)) (Qf D vwCl 143 ad (spC ad cI cP cR) A none res) 0 0 A := by
  refine Met.ofW (cc := cX2_seal) (maxL := 2) (ret := none) (by decide) rfl ?_
  intro p e s m args below meth c s₁ B hml hv
  obtain ⟨rfl, hP, hK, hX⟩ := hv
  have hx := B.exec
  have hb := B.bytes
  have hr := B.returns
  have hts := atoms_spec (ws := wsX2_seal) B.pre
  have hown : s.vm.findClass RX2 = some m.cls := findClass_of_methodNamed B.named
  have hlocks := B.notSynchronized
  have inX2 : ∀ w ∈ wsX20, w ∈ wsX2_seal := by decide +kernel
  have inX3 : ∀ w ∈ wsX30, w ∈ wsX2_seal := by decide +kernel
  have hS : va_S A s.heap s.heap [] := va_S.rf
  have hl := lv_entry ([.ref (ad 133), .ref (ad p0)]) (n := 2) (Nat.le_of_ble_eq_true rfl)
  rw [lg_entry_eq]
  generalize (lg_sl ([.ref (ad 133), .ref (ad p0)]) ++ List.replicate (2 - (lg_sl ([.ref (ad 133), .ref (ad p0)])).length) Slot.unset).toArray = ls at hl ⊢
  have hl : lv_has ls 2 [(0, .ref (ad 133)), (1, .ref (ad p0))] := hl
  rw [fX2_seal] at hf
  refine lv_aload_n hx hb dX2_seal_0 rfl (lv_at hl 0 rfl) ?_
  refine lv_aload_n hx hb dX2_seal_1 rfl (lv_at hl 1 rfl) ?_
  refine lv_iconst (v := (4 : Int32)) hx hb dX2_seal_2 (by decide) ?_
  refine lv_iconst (v := (0 : Int32)) hx hb dX2_seal_3 (by decide) ?_
  refine lv_iconst (v := (0 : Int32)) hx hb dX2_seal_4 (by decide) ?_
  obtain ⟨q1, hq1, hf⟩ := ob hf
  refine r_callv (va_runV (As := [.ref (ad p0), .int (4 : Int32), .int (0 : Int32), .int (0 : Int32)]) (rest := []) ⟨hx, hb, hml, hown, hts⟩ (c_X2_tell hI hA hq1) (cwV 4 hts gX2_seal_X2_tell rfl rfl rfl (by decide +kernel) ⟨Nat.le_of_ble_eq_true rfl, Nat.le_of_ble_eq_true rfl⟩) (Pf_V (XCb A) (XCo A) hX hK hP hS obX2 rfl) rfl rfl hl.1 rfl (lv_room (Nat.le_of_ble_eq_true rfl)) dX2_seal_5 ⟨Nat.zero_le _, Nat.zero_le _⟩) hS (fun H locs hP hS => ?_)
  refine lv_aload_n hx hb dX2_seal_8 rfl (lv_at hl 0 rfl) ?_
  refine r_getc (k' := 135) (j := 1) hx hb hts inX2 hown hK hP (obX2) rfl (by decide) (hts (.fieldLink RX2 18 "PageMonitor$Notary" "hasher" "LPageMonitor$Hasher;") (by decide +kernel)) (fun _ => rfl) dX2_seal_9 ?_
  refine lv_aload_n hx hb dX2_seal_12 rfl (lv_at hl 1 rfl) ?_
  refine r_getr (k' := p0 + 2) (j := 6) hx hb hts inX3 hown hK hP isPg_s rfl (by decide) (hts (.fieldLink RX2 35 "PageMonitor$Page" "digest" "[I") (by decide +kernel)) (fun _ => rfl) dX2_seal_13 hf (fun hf => ?_)
  refine lv_aload_n hx hb dX2_seal_16 rfl (lv_at hl 0 rfl) ?_
  refine r_getc (k' := 135) (j := 1) hx hb hts inX2 hown hK hP (obX2) rfl (by decide) (hts (.fieldLink RX2 18 "PageMonitor$Notary" "hasher" "LPageMonitor$Hasher;") (by decide +kernel)) (fun _ => rfl) dX2_seal_17 ?_
  refine lv_aload_n hx hb dX2_seal_20 rfl (lv_at hl 1 rfl) ?_
  refine r_geti (j := 4) hx hb hts inX3 hown hK hP isPg_s rfl (by decide) (hts (.fieldLink RX2 31 "PageMonitor$Page" "blocksTold" "I") (by decide +kernel)) (fun _ => rfl) dX2_seal_21 hf (fun x2 hf => ?_)
  obtain ⟨q3, hq3, hf⟩ := ob hf
  refine r_call1 (va_runV (As := [.int x2]) (rest := [.ref (ad (p0 + 2)), .ref (ad 135)]) ⟨hx, hb, hml, hown, hts⟩ (c_X0_endAfter hI hA hq3) (cwV 1 hts gX2_seal_X0_endAfter rfl rfl rfl (by decide +kernel) ⟨Nat.le_of_ble_eq_true rfl, Nat.le_of_ble_eq_true rfl⟩) (Pf_V (XCb A) (XCo A) hX hK hP hS obX0 rfl) rfl rfl hl.1 rfl (lv_room (Nat.le_of_ble_eq_true rfl)) dX2_seal_24 ⟨Nat.zero_le _, Nat.zero_le _⟩) hS (fun H locs hP hS => ?_)
  obtain ⟨q4, hq4, hf⟩ := ob hf
  refine r_callv (va_runV (As := [.ref (ad (p0 + 2)), .ref (ad (q3.1))]) (rest := []) ⟨hx, hb, hml, hown, hts⟩ (c_X0_take hI hA hq4) (cwV 2 hts gX2_seal_X0_take rfl rfl rfl (by decide +kernel) ⟨Nat.le_of_ble_eq_true rfl, Nat.le_of_ble_eq_true rfl⟩) (Pf_V (XCb A) (XCo A) hX hK hP hS obX0 rfl) rfl rfl hl.1 rfl (lv_room (Nat.le_of_ble_eq_true rfl)) dX2_seal_27 ⟨Nat.zero_le _, Nat.zero_le _⟩) hS (fun H locs hP hS => ?_)
  refine lv_aload_n hx hb dX2_seal_30 rfl (lv_at hl 1 rfl) ?_
  refine lv_iconst (v := (1 : Int32)) hx hb dX2_seal_31 (by decide) ?_
  refine r_puti (j := 3) hx hb hts inX3 tyX3 tyX3_ok nmX3 hown hI hA hK hP hS isPg_s rfl (by decide) (hts (.fieldLink RX2 25 "PageMonitor$Page" "sealed" "Z") (by decide +kernel)) rfl (by decide) (by decide) (fun _ => Nat.le_of_ble_eq_true rfl) (fun _ _ => rfl) dX2_seal_32 hf (fun M5 H locs hP hS hf => ?_)
  obtain rfl := Option.some.inj hf
  exact r_vret hx hb hr hlocks hP hS dX2_seal_35
set_option maxHeartbeats 4000000 in
set_option maxRecDepth 100000 in
theorem c_X2_writeVoucher {l : Launch} {D : va_G} {ad : Nat → Nat} {cI cZ cP cR : ClassId} {A : Nat → Prop} {M : Mem} {p0 : Nat} {p1 : Nat} {p2 : Nat} {res : Mem} (hI : gInj 143 ad) (hA : ∀ k, k < 143 → A (ad k)) (hf : fX2_writeVoucher M p0 p1 p2 = some res) : Met l yX2_writeVoucher wsX2_writeVoucher { frames := 3, cells := 0, slots := 0, locals := 121 } (va_Pc [.ref (ad 133), .ref (ad p0), .ref (ad p1), .ref (ad p2)] (Pf D vwCl (tysW cI cZ cP cR) 143 ad (spC ad cI cP cR) (XC A) M)) (Qf D vwCl 143 ad (spC ad cI cP cR) A none res) 0 0 A := by
  refine Met.ofW (cc := cX2_writeVoucher) (maxL := 4) (ret := none) (by decide) rfl ?_
  intro p e s m args below meth c s₁ B hml hv
  obtain ⟨rfl, hP, hK, hX⟩ := hv
  have hx := B.exec
  have hb := B.bytes
  have hr := B.returns
  have hts := atoms_spec (ws := wsX2_writeVoucher) B.pre
  have hown : s.vm.findClass RX2 = some m.cls := findClass_of_methodNamed B.named
  have hlocks := B.notSynchronized
  have inX2 : ∀ w ∈ wsX20, w ∈ wsX2_writeVoucher := by decide +kernel
  have hS : va_S A s.heap s.heap [] := va_S.rf
  have hl := lv_entry ([.ref (ad 133), .ref (ad p0), .ref (ad p1), .ref (ad p2)]) (n := 4) (Nat.le_of_ble_eq_true rfl)
  rw [lg_entry_eq]
  generalize (lg_sl ([.ref (ad 133), .ref (ad p0), .ref (ad p1), .ref (ad p2)]) ++ List.replicate (4 - (lg_sl ([.ref (ad 133), .ref (ad p0), .ref (ad p1), .ref (ad p2)])).length) Slot.unset).toArray = ls at hl ⊢
  have hl : lv_has ls 4 [(0, .ref (ad 133)), (1, .ref (ad p0)), (2, .ref (ad p1)), (3, .ref (ad p2))] := hl
  rw [fX2_writeVoucher] at hf
  refine lv_aload_n hx hb dX2_writeVoucher_0 rfl (lv_at hl 0 rfl) ?_
  refine r_getc (k' := 135) (j := 1) hx hb hts inX2 hown hK hP (obX2) rfl (by decide) (hts (.fieldLink RX2 18 "PageMonitor$Notary" "hasher" "LPageMonitor$Hasher;") (by decide +kernel)) (fun _ => rfl) dX2_writeVoucher_1 ?_
  refine lv_aload_n hx hb dX2_writeVoucher_4 rfl (lv_at hl 3 rfl) ?_
  obtain ⟨q1, hq1, hf⟩ := ob hf
  refine r_callv (va_runV (As := [.ref (ad p2)]) (rest := []) ⟨hx, hb, hml, hown, hts⟩ (c_X0_begin hI hA hq1) (cwV 1 hts gX2_writeVoucher_X0_begin rfl rfl rfl (by decide +kernel) ⟨Nat.le_of_ble_eq_true rfl, Nat.le_of_ble_eq_true rfl⟩) (Pf_V (XCb A) (XCo A) hX hK hP hS obX0 rfl) rfl rfl hl.1 rfl (lv_room (Nat.le_of_ble_eq_true rfl)) dX2_writeVoucher_5 ⟨Nat.zero_le _, Nat.zero_le _⟩) hS (fun H locs hP hS => ?_)
  refine lv_aload_n hx hb dX2_writeVoucher_8 rfl (lv_at hl 0 rfl) ?_
  refine r_getc (k' := 134) (j := 0) hx hb hts inX2 hown hK hP (obX2) rfl (by decide) (hts (.fieldLink RX2 9 "PageMonitor$Notary" "secret" "[I") (by decide +kernel)) (fun _ => rfl) dX2_writeVoucher_9 ?_
  refine lv_iconst (v := (0 : Int32)) hx hb dX2_writeVoucher_12 (by decide) ?_
  refine lv_aload_n hx hb dX2_writeVoucher_13 rfl (lv_at hl 0 rfl) ?_
  refine r_getc (k' := 138) (j := 2) hx hb hts inX2 hown hK hP (obX2) rfl (by decide) (hts (.fieldLink RX2 22 "PageMonitor$Notary" "block" "[I") (by decide +kernel)) (fun _ => rfl) dX2_writeVoucher_14 ?_
  refine lv_iconst (v := (0 : Int32)) hx hb dX2_writeVoucher_17 (by decide) ?_
  refine lv_bipush (v := (8 : Int32)) hx hb dX2_writeVoucher_18 (by decide) ?_
  refine r_cpy hx hb (hml.trans hl.1.symm) hown (hts (.methodLink RX2 64 arraycopyName) (by decide +kernel)) (hts (.native arraycopyName) (by decide +kernel)) (hts (.static arraycopyName) (by decide +kernel)) (hts (.initialized "java/lang/System") (by decide +kernel)) hI hA hK hP hS isI_s isI_s rfl (by decide) (by decide) (by decide) (Nat.le_of_ble_eq_true rfl) (by decide +kernel) dX2_writeVoucher_20 hf (fun M2 H locs hP hS hf => ?_)
  refine lv_aload_n hx hb dX2_writeVoucher_23 rfl (lv_at hl 1 rfl) ?_
  refine lv_iconst (v := (0 : Int32)) hx hb dX2_writeVoucher_24 (by decide) ?_
  refine lv_aload_n hx hb dX2_writeVoucher_25 rfl (lv_at hl 0 rfl) ?_
  refine r_getc (k' := 138) (j := 2) hx hb hts inX2 hown hK hP (obX2) rfl (by decide) (hts (.fieldLink RX2 22 "PageMonitor$Notary" "block" "[I") (by decide +kernel)) (fun _ => rfl) dX2_writeVoucher_26 ?_
  refine lv_bipush (v := (8 : Int32)) hx hb dX2_writeVoucher_29 (by decide) ?_
  refine lv_bipush (v := (8 : Int32)) hx hb dX2_writeVoucher_31 (by decide) ?_
  refine r_cpy hx hb (hml.trans hl.1.symm) hown (hts (.methodLink RX2 64 arraycopyName) (by decide +kernel)) (hts (.native arraycopyName) (by decide +kernel)) (hts (.static arraycopyName) (by decide +kernel)) (hts (.initialized "java/lang/System") (by decide +kernel)) hI hA hK hP hS isI_s isI_s rfl (by decide) (by decide) (by decide) (Nat.le_of_ble_eq_true rfl) (by decide +kernel) dX2_writeVoucher_33 hf (fun M3 H locs hP hS hf => ?_)
  refine lv_aload_n hx hb dX2_writeVoucher_36 rfl (lv_at hl 0 rfl) ?_
  refine r_getc (k' := 135) (j := 1) hx hb hts inX2 hown hK hP (obX2) rfl (by decide) (hts (.fieldLink RX2 18 "PageMonitor$Notary" "hasher" "LPageMonitor$Hasher;") (by decide +kernel)) (fun _ => rfl) dX2_writeVoucher_37 ?_
  refine lv_aload_n hx hb dX2_writeVoucher_40 rfl (lv_at hl 3 rfl) ?_
  refine lv_aload_n hx hb dX2_writeVoucher_41 rfl (lv_at hl 0 rfl) ?_
  refine r_getc (k' := 138) (j := 2) hx hb hts inX2 hown hK hP (obX2) rfl (by decide) (hts (.fieldLink RX2 22 "PageMonitor$Notary" "block" "[I") (by decide +kernel)) (fun _ => rfl) dX2_writeVoucher_42 ?_
  obtain ⟨q4, hq4, hf⟩ := ob hf
  refine r_callv (va_runV (As := [.ref (ad p2), .ref (ad 138)]) (rest := []) ⟨hx, hb, hml, hown, hts⟩ (c_X0_take hI hA hq4) (cwV 2 hts gX2_writeVoucher_X0_take rfl rfl rfl (by decide +kernel) ⟨Nat.le_of_ble_eq_true rfl, Nat.le_of_ble_eq_true rfl⟩) (Pf_V (XCb A) (XCo A) hX hK hP hS obX0 rfl) rfl rfl hl.1 rfl (lv_room (Nat.le_of_ble_eq_true rfl)) dX2_writeVoucher_45 ⟨Nat.zero_le _, Nat.zero_le _⟩) hS (fun H locs hP hS => ?_)
  refine lv_aload_n hx hb dX2_writeVoucher_48 rfl (lv_at hl 0 rfl) ?_
  refine r_getc (k' := 138) (j := 2) hx hb hts inX2 hown hK hP (obX2) rfl (by decide) (hts (.fieldLink RX2 22 "PageMonitor$Notary" "block" "[I") (by decide +kernel)) (fun _ => rfl) dX2_writeVoucher_49 ?_
  refine lv_iconst (v := (0 : Int32)) hx hb dX2_writeVoucher_52 (by decide) ?_
  obtain ⟨q5, hq5, hf⟩ := ob hf
  refine r_callv (va_runS (As := [.ref (ad 138), .int (0 : Int32)]) (rest := []) ⟨hx, hb, hml, hown, hts⟩ (c_J7_fill_53178 hI hA hq5) (va_cwS 2 hts gX2_writeVoucher_J7_fill_53178 rfl rfl rfl (by decide +kernel) ⟨Nat.le_of_ble_eq_true rfl, Nat.le_of_ble_eq_true rfl⟩) (Pf_S (XCb A) (XCo A) hX hK hP hS) rfl rfl hl.1 rfl (lv_room (Nat.le_of_ble_eq_true rfl)) dX2_writeVoucher_53 ⟨Nat.zero_le _, Nat.zero_le _⟩) hS (fun H locs hP hS => ?_)
  refine lv_aload_n hx hb dX2_writeVoucher_56 rfl (lv_at hl 2 rfl) ?_
  refine lv_iconst (v := (0 : Int32)) hx hb dX2_writeVoucher_57 (by decide) ?_
  refine lv_aload_n hx hb dX2_writeVoucher_58 rfl (lv_at hl 0 rfl) ?_
  refine r_getc (k' := 138) (j := 2) hx hb hts inX2 hown hK hP (obX2) rfl (by decide) (hts (.fieldLink RX2 22 "PageMonitor$Notary" "block" "[I") (by decide +kernel)) (fun _ => rfl) dX2_writeVoucher_59 ?_
  refine lv_iconst (v := (0 : Int32)) hx hb dX2_writeVoucher_62 (by decide) ?_
  refine lv_bipush (v := (8 : Int32)) hx hb dX2_writeVoucher_63 (by decide) ?_
  refine r_cpy hx hb (hml.trans hl.1.symm) hown (hts (.methodLink RX2 64 arraycopyName) (by decide +kernel)) (hts (.native arraycopyName) (by decide +kernel)) (hts (.static arraycopyName) (by decide +kernel)) (hts (.initialized "java/lang/System") (by decide +kernel)) hI hA hK hP hS isI_s isI_s rfl (by decide) (by decide) (by decide) (Nat.le_of_ble_eq_true rfl) (by decide +kernel) dX2_writeVoucher_65 hf (fun M6 H locs hP hS hf => ?_)
  refine lv_aload_n hx hb dX2_writeVoucher_68 rfl (lv_at hl 0 rfl) ?_
  refine r_getc (k' := 135) (j := 1) hx hb hts inX2 hown hK hP (obX2) rfl (by decide) (hts (.fieldLink RX2 18 "PageMonitor$Notary" "hasher" "LPageMonitor$Hasher;") (by decide +kernel)) (fun _ => rfl) dX2_writeVoucher_69 ?_
  refine lv_aload_n hx hb dX2_writeVoucher_72 rfl (lv_at hl 3 rfl) ?_
  refine lv_aload_n hx hb dX2_writeVoucher_73 rfl (lv_at hl 0 rfl) ?_
  refine r_getc (k' := 138) (j := 2) hx hb hts inX2 hown hK hP (obX2) rfl (by decide) (hts (.fieldLink RX2 22 "PageMonitor$Notary" "block" "[I") (by decide +kernel)) (fun _ => rfl) dX2_writeVoucher_74 ?_
  obtain ⟨q7, hq7, hf⟩ := ob hf
  refine r_callv (va_runV (As := [.ref (ad p2), .ref (ad 138)]) (rest := []) ⟨hx, hb, hml, hown, hts⟩ (c_X0_take hI hA hq7) (cwV 2 hts gX2_writeVoucher_X0_take rfl rfl rfl (by decide +kernel) ⟨Nat.le_of_ble_eq_true rfl, Nat.le_of_ble_eq_true rfl⟩) (Pf_V (XCb A) (XCo A) hX hK hP hS obX0 rfl) rfl rfl hl.1 rfl (lv_room (Nat.le_of_ble_eq_true rfl)) dX2_writeVoucher_77 ⟨Nat.zero_le _, Nat.zero_le _⟩) hS (fun H locs hP hS => ?_)
  refine lv_aload_n hx hb dX2_writeVoucher_80 rfl (lv_at hl 0 rfl) ?_
  refine r_getc (k' := 135) (j := 1) hx hb hts inX2 hown hK hP (obX2) rfl (by decide) (hts (.fieldLink RX2 18 "PageMonitor$Notary" "hasher" "LPageMonitor$Hasher;") (by decide +kernel)) (fun _ => rfl) dX2_writeVoucher_81 ?_
  refine lv_aload_n hx hb dX2_writeVoucher_84 rfl (lv_at hl 3 rfl) ?_
  refine lv_aload_n hx hb dX2_writeVoucher_85 rfl (lv_at hl 0 rfl) ?_
  refine r_getc (k' := 135) (j := 1) hx hb hts inX2 hown hK hP (obX2) rfl (by decide) (hts (.fieldLink RX2 18 "PageMonitor$Notary" "hasher" "LPageMonitor$Hasher;") (by decide +kernel)) (fun _ => rfl) dX2_writeVoucher_86 ?_
  refine lv_iconst (v := (2 : Int32)) hx hb dX2_writeVoucher_89 (by decide) ?_
  obtain ⟨q8, hq8, hf⟩ := ob hf
  refine r_call1 (va_runV (As := [.int (2 : Int32)]) (rest := [.ref (ad p2), .ref (ad 135)]) ⟨hx, hb, hml, hown, hts⟩ (c_X0_endAfter hI hA hq8) (cwV 1 hts gX2_writeVoucher_X0_endAfter rfl rfl rfl (by decide +kernel) ⟨Nat.le_of_ble_eq_true rfl, Nat.le_of_ble_eq_true rfl⟩) (Pf_V (XCb A) (XCo A) hX hK hP hS obX0 rfl) rfl rfl hl.1 rfl (lv_room (Nat.le_of_ble_eq_true rfl)) dX2_writeVoucher_90 ⟨Nat.zero_le _, Nat.zero_le _⟩) hS (fun H locs hP hS => ?_)
  obtain ⟨q9, hq9, hf⟩ := ob hf
  refine r_callv (va_runV (As := [.ref (ad p2), .ref (ad (q8.1))]) (rest := []) ⟨hx, hb, hml, hown, hts⟩ (c_X0_take hI hA hq9) (cwV 2 hts gX2_writeVoucher_X0_take rfl rfl rfl (by decide +kernel) ⟨Nat.le_of_ble_eq_true rfl, Nat.le_of_ble_eq_true rfl⟩) (Pf_V (XCb A) (XCo A) hX hK hP hS obX0 rfl) rfl rfl hl.1 rfl (lv_room (Nat.le_of_ble_eq_true rfl)) dX2_writeVoucher_93 ⟨Nat.zero_le _, Nat.zero_le _⟩) hS (fun H locs hP hS => ?_)
  obtain rfl := Option.some.inj hf
  exact r_vret hx hb hr hlocks hP hS dX2_writeVoucher_96
