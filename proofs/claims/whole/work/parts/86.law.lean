/-! The law: its cases, its loop. -/
def AC (adC : Nat → Nat) : Nat → Prop := fun q => ∃ k, k < 143 ∧ adC k = q
def AM (adM : Nat → Nat) : Nat → Prop := fun q => ∃ k, k < 25 ∧ adM k = q
abbrev AL (s : State) : Nat → Prop := fun q => s.heap.size ≤ q
/-- what never changes along the law -/
def LWx (p : Program) (s : State) (m : MethodId) (meth : Method) (c : Code) (l : Launch) (b L : Nat) (xs : Nat → Int32) (D : va_G) (adC adM : Nat → Nat) (cI cZ cP cR cL : ClassId) (qo : Nat) : Prop :=
  l.stackTraces = false ∧ lw_At p s m meth c b L xs ∧ va_K D vwCl (tysW cI cZ cP cR) s ∧ va_K D vwCl [(cL, .long)] s ∧ gInj 143 adC ∧ gInj 25 adM ∧ (∀ k, k < 143 → s.heap.size ≤ adC k) ∧ (∀ k, k < 25 → s.heap.size ≤ adM k) ∧ s.heap.size ≤ qo ∧ (∀ i j, i < 143 → j < 25 → adC i ≠ adM j) ∧ (∀ i, i < 143 → adC i ≠ qo) ∧ (∀ j, j < 25 → adM j ≠ qo) ∧ XW (AL s) s s.heap ∧ L ≤ 3072
/-- what holds of the three worlds -/
def LWs (s : State) (D : va_G) (adC adM : Nat → Nat) (cI cZ cP cR cL : ClassId) (qo : Nat) (C R : Mem) (f : Nat → Int64) (H : Heap) (locs : List Loc) : Prop :=
  va_P D vwCl (gw 143 adC (spC adC cI cP cR) C) H ∧ va_P D vwCl (gw 25 adM (spM adM cI cZ) R) H ∧ va_P D vwCl [(qo, .inl (cL, 1, .inr (.inl f)))] H ∧ va_S (AL s) s.heap H locs ∧ Rel C R
theorem va_Zq_nar {C n d : String} {A B : Nat → Prop} {U : State} {H : Heap} (h : vx_Zq C n d A U H) (hAB : ∀ q, B q → A q) : vx_Zq C n d B U H := vx_Zq.narrow h hAB
theorem XC_nar {A B : Nat → Prop} {U : State} {H : Heap} (hAB : ∀ q, B q → A q) (h : XC A U H) : XC B U H := by
  obtain ⟨⟨t, h1, h2⟩, ⟨t', h3, h4⟩, h5⟩ := h
  exact ⟨⟨t, h1.narrow hAB, h2.narrow hAB⟩, ⟨t', h3.narrow hAB, h4.narrow hAB⟩, h5⟩
theorem XW_nar {A B : Nat → Prop} {U : State} {H : Heap} (hAB : ∀ q, B q → A q) (h : XW A U H) : XW B U H := ⟨⟨XC_nar hAB h.1.1, va_Zq_nar h.1.2.1 hAB, va_Zq_nar h.1.2.2.1 hAB, h.1.2.2.2⟩, h.2⟩
theorem cmp_self (x : Int64) : lg_cmp x x = 0 := by
  unfold lg_cmp
  rw [if_neg (fun h => by rw [gt_iff_lt, Int64.lt_iff_toInt_lt] at h; omega), if_pos rfl]
theorem thrown_e (R : Mem) : fX6_thrown R = some (R 0 0, R) := rfl
theorem P_keep {D : va_G} {cl : List vw_C} {N : Nat} {ad : Nat → Nat} {sp : Shp} {M : Mem} {A : Nat → Prop} {H H1 : Heap} (h : va_P D cl (gw N ad sp M) H) (hk : ∀ q : Nat, q < H.size → ¬ A q → H1[q]? = H[q]?) (hn : ∀ k, k < N → ¬ A (ad k)) : va_P D cl (gw N ad sp M) H1 := h.kept (fun k q hq => by
  have h1 := (h k q hq).lt
  have h2 := gw_lt hq
  rw [gw_at h2] at hq
  cases hq
  exact hk _ h1 (hn k h2))
section LR
variable {p : Program} {l : Launch} {e : Env} {R : Room} {s : State} {m : MethodId} {args : Array Value} {below : List Frame} {meth : Method} {c : Code} {H : Heap} {locs : List Loc} {cells slots : Nat} {Q : State → Prop}
variable {cc : ByteArray} {pc : Nat} {ls : Array Slot} {rest : List Value} {D : va_G} {cl : List vw_C} {A : Nat → Prop} {tys : List (ClassId × FieldType)} {H0 : Heap} {N : Nat} {ad : Nat → Nat} {sp : Shp} {M : Mem}
theorem l_call {A0 : Nat → Prop} {M' : Mem} {st0 : List Value} {a : Array Value} {v : Option Value} {mc ms : Nat} (hr : va_Run p l e R s m args below meth c H locs cells slots mc ms (F0 m pc ls st0) rest (Qf D cl N ad sp A v M' a) A) (hS : va_S A0 H0 H locs) (hA : ∀ q, A q → A0 q)
    (kk : ∀ (H1 : Heap) (locs1 : List Loc), va_P D cl (gw N ad sp M') H1 → (∀ q : Nat, q < H.size → ¬ A q → H1[q]? = H[q]?) → va_S A0 H0 H1 locs1 → W p l e R s m args below meth c H1 locs1 (cells + mc) (slots + ms) Q (F0 m (pc + 3) ls (v.toList ++ rest))) : W p l e R s m args below meth c H locs cells slots Q (F0 m pc ls st0) := by
  intro T hT X
  obtain ⟨v, st₀, t, T', L, h0, X', hL, e1, e2, ⟨hv, hP1, hF⟩, st⟩ := hr T hT X
  cases hv
  obtain ⟨k1, k2, k3⟩ := vx_keep h0 e1 hS (fun q _ h => hA q h) hA hL hF
  obtain ⟨t2, a1, b1⟩ := kk T'.heap (locs ++ L) (by rw [e1]; exact hP1) k2 k3 T' rfl X'
  exact ⟨t2, st t2 a1, b1⟩
theorem l_callw {A0 : Nat → Prop} {cI cP cR cL : ClassId} {qo : Nat} {res : (Nat × Int32) × Mem} {st0 : List Value} {a : Array Value} {mc ms : Nat} (hr : va_Run p l e R s m args below meth c H locs cells slots mc ms (F0 m pc ls st0) rest (QW D ad cI cP cR cL A qo res a) (fun q => A q ∨ q = qo)) (hS : va_S A0 H0 H locs) (hA : ∀ q, A q → A0 q) (hq : A0 qo)
    (kk : ∀ (f : Nat → Int64) (H1 : Heap) (locs1 : List Loc), va_P D vwCl (gw 143 ad (spC ad cI cP cR) res.2) H1 → (res.1.1 = 0 → f 0 = res.1.2.toInt64) → va_P D vwCl [(qo, .inl (cL, 1, .inr (.inl f)))] H1 → (∀ q : Nat, q < H.size → ¬ (A q ∨ q = qo) → H1[q]? = H[q]?) → va_S A0 H0 H1 locs1 → W p l e R s m args below meth c H1 locs1 (cells + mc) (slots + ms) Q (F0 m (pc + 3) ls (.int (nI res.1.1) :: rest))) : W p l e R s m args below meth c H locs cells slots Q (F0 m pc ls st0) := by
  intro T hT X
  obtain ⟨v, st₀, t, T', L, h0, X', hL, e1, e2, ⟨hv, hP1, ⟨f, hf, hPo⟩, hF⟩, st⟩ := hr T hT X
  cases hv
  have hA' : ∀ q, (A q ∨ q = qo) → A0 q := fun q h => by
    rcases h with h | h
    · exact hA q h
    · rw [h]; exact hq
  obtain ⟨k1, k2, k3⟩ := vx_keep h0 e1 hS (fun q _ h => hA' q h) hA' hL hF
  obtain ⟨t2, a1, b1⟩ := kk f T'.heap (locs ++ L) (by rw [e1]; exact hP1) hf (by rw [e1]; exact hPo) k2 k3 T' rfl X'
  exact ⟨t2, st t2 a1, b1⟩
theorem l_PV {X : Xt} {As : List Value} {C : String} {T : u_T} {Nf k ci : Nat} {fs : (Nat → Int32) → List Value} (hXb : XtBl X) (hXU : ∀ U : State, U.heap = H → s.WarmedH U.vm → X U H) (hK : va_K D cl tys s) (hP : va_P D cl (gw N ad sp M) H) (hk : k < N ∧ ∀ f, sp k f = .inr (ci, fs f)) (hc : cl[ci]? = some (C, T, Nf)) : PreV s H C (ad k) (va_Pc (.ref (ad k) :: As) (Pf D cl tys N ad sp X M)) As :=
  ⟨Pf_blind hXb, va_recv hK hP hc (by rw [gw_at hk.1, hk.2]), fun U hU hW => ⟨rfl, by rw [hU]; exact hP, va_K.moved hW.alike hK, by rw [hU]; exact hXU U hU hW⟩⟩
theorem l_PS {X : Xt} {av : List Value} (hXb : XtBl X) (hXU : ∀ U : State, U.heap = H → s.WarmedH U.vm → X U H) (hK : va_K D cl tys s) (hP : va_P D cl (gw N ad sp M) H) : PreS s H (va_Pc av (Pf D cl tys N ad sp X M)) av :=
  ⟨Pf_blind hXb, fun U hU hW => ⟨rfl, by rw [hU]; exact hP, va_K.moved hW.alike hK, by rw [hU]; exact hXU U hU hW⟩⟩
theorem l_PW {av : List Value} {cI cZ cP cR cL : ClassId} {qo : Nat} {f : Nat → Int64} (hXU : ∀ U : State, U.heap = H → s.WarmedH U.vm → XW A U H) (hK : va_K D vwCl (tysW cI cZ cP cR) s) (hKL : va_K D vwCl [(cL, .long)] s) (hP : va_P D vwCl (gw 143 ad (spC ad cI cP cR) M) H) (hPo : va_P D vwCl [(qo, .inl (cL, 1, .inr (.inl f)))] H) : PreS s H (va_Pc av (PW D ad cI cZ cP cR cL A qo f M)) av :=
  ⟨fun a U g mk z => by
    obtain ⟨z0, ⟨z1, z2, z3⟩, z4, z5⟩ := z
    exact ⟨z0, ⟨z1, va_K.moved (u := U) (U := U.calling g mk a) (Vm.Alike.refl U.vm) z2, XWb A U g mk a z3⟩, z4, va_K.moved (u := U) (U := U.calling g mk a) (Vm.Alike.refl U.vm) z5⟩,
   fun U hU hW => ⟨rfl, ⟨by rw [hU]; exact hP, va_K.moved hW.alike hK, by rw [hU]; exact hXU U hU hW⟩, by rw [hU]; exact hPo, va_K.moved hW.alike hKL⟩⟩
end LR
set_option maxHeartbeats 4000000 in
set_option maxRecDepth 100000 in
theorem lc_key {p : Program} {e : Env} {s : State} {m : MethodId} {below : List Frame} {meth : Method} {c : Code} {l : Launch} {b L : Nat} {xs : Nat → Int32} {D : va_G} {adC adM : Nat → Nat} {cI cZ cP cR cL : ClassId} {qo : Nat} {Q : State → Prop} (X : LWx p s m meth c l b L xs D adC adM cI cZ cP cR cL qo) {j : Nat} {x4 : Int32} (hj : 6 * j + 6 ≤ L) (ex : x4 = nI (6 * j)) {C R : Mem} {f : Nat → Int64} {H : Heap} {locs : List Loc} {ls : Array Slot} (hs : LWs s D adC adM cI cZ cP cR cL qo C R f H locs) (hl : lv_has ls 7 [(4, .int x4), (3, .ref qo), (2, .ref (adM 0)), (1, .ref (adC 0)), (0, .ref b)])
    (kk : ∀ (C R : Mem) (f : Nat → Int64) (H : Heap) (locs : List Loc) (ls : Array Slot), LWs s D adC adM cI cZ cP cR cL qo C R f H locs → lv_has ls 7 [(4, .int x4), (3, .ref qo), (2, .ref (adM 0)), (1, .ref (adC 0)), (0, .ref b)] → W p l e room_1 s m #[Value.ref b] below meth c H locs (169 + (j + 1)) (36539 + 6 * (j + 1)) Q (F0 m 953 ls [])) :
    W p l e room_1 s m #[Value.ref b] below meth c H locs (169 + j) (36539 + 6 * j) Q (F0 m 128 ls []) := by
  obtain ⟨hnt, ⟨hx, hb, hr, hml, hown, hts0, hXs, hbl, hlocks, hgv⟩, hK, hKL, hIC, hIM, hAC, hAM, hqo, hCM, hCO, hMO, hXW, hL⟩ := X
  have hts := fun w h => hts0 w (wsL_law_in w h)
  obtain ⟨hPC, hPM, hPO, hS, hRel⟩ := hs
  have hbA : ¬ (AL s) b := Nat.not_le.mpr hbl
  have hAC' : ∀ k, k < 143 → AC adC (adC k) := fun k hk => ⟨k, hk, rfl⟩
  have hAM' : ∀ k, k < 25 → AM adM (adM k) := fun k hk => ⟨k, hk, rfl⟩
  have sC : ∀ q, AC adC q → AL s q := fun q h => by obtain ⟨k, hk, rfl⟩ := h; exact hAC k hk
  have sM : ∀ q, AM adM q → AL s q := fun q h => by obtain ⟨k, hk, rfl⟩ := h; exact hAM k hk
  have nCM : ∀ k, k < 25 → ¬ AC adC (adM k) := fun k hk h => by obtain ⟨i, hi, e⟩ := h; exact hCM i k hi hk e
  have nMC : ∀ k, k < 143 → ¬ AM adM (adC k) := fun k hk h => by obtain ⟨i, hi, e⟩ := h; exact hCM k i hk hi e.symm
  have nCO : ¬ AC adC qo := fun h => by obtain ⟨i, hi, e⟩ := h; exact hCO i hi e
  have nMO : ¬ AM adM qo := fun h => by obtain ⟨i, hi, e⟩ := h; exact hMO i hi e
  have ix : ∀ k : Nat, k < 6 → vp_in (x4 + nI k) L := fun k hk => by rw [ex, nI_add]; exact vp_in_nI (by omega) (by omega)
  obtain ⟨cd, r, C1, R1, e1, e2, hth, hc2, hR1⟩ := sim_key hRel (xs (x4 + nI 1).toNatClampNeg) (xs (x4 + nI 2).toNatClampNeg)
  refine lv_aload_n hx hb dL_law_128 rfl (lv_at hl 3 rfl) ?_
  refine lv_aload_n hx hb dL_law_129 rfl (lv_at hl 4 rfl) ?_
  refine lv_iload hx hb dL_law_130 (lv_at hl 0 rfl) ?_
  refine lv_iconst (v := (1 : Int32)) hx hb dL_law_132 (by decide) ?_
  refine lv_iadd hx hb dL_law_133 ?_
  refine va_sld hx hb hXs hbl hbA hS (ix 1 (by omega)) dL_law_134 ?_
  refine lv_aload_n hx hb dL_law_135 rfl (lv_at hl 4 rfl) ?_
  refine lv_iload hx hb dL_law_136 (lv_at hl 0 rfl) ?_
  refine lv_iconst (v := (2 : Int32)) hx hb dL_law_138 (by decide) ?_
  refine lv_iadd hx hb dL_law_139 ?_
  refine va_sld hx hb hXs hbl hbA hS (ix 2 (by omega)) dL_law_140 ?_
  refine l_call (vx_runSW (As := [.ref (adC 0), .int (xs (x4 + nI 1).toNatClampNeg), .int (xs (x4 + nI 2).toNatClampNeg)]) (rest := []) ⟨hx, hb, hml, hown, hts⟩ (c_L_key hIC hAC' hnt e1) (vx_cwSW 3 hts gL_law_L_key rfl rfl rfl (by decide +kernel) ⟨Nat.le_of_ble_eq_true rfl, Nat.le_of_ble_eq_true rfl⟩) (l_PS (XWb _) (fun U hU hW => XW_nar sC (XWo (AL s) s U H hW hS.2.1 hXW)) hK hPC) rfl rfl hl.1 rfl (lv_room (Nat.le_of_ble_eq_true rfl)) dL_law_141 ⟨by show _ ≤ 601024; omega, by show _ ≤ 7293034; omega⟩) hS sC (fun H1 locs1 hPC hk1 hS => ?_)
  have hPM := P_keep hPM hk1 nCM
  have hPO := P_keep1 hPO (hk1 qo (hPO 0 _ rfl).lt nCO)
  generalize H1 = H at hPC hPM hPO hS ⊢
  clear hk1
  refine lv_istore (lv' := [(5, .int (nI cd)), (4, .int x4), (3, .ref qo), (2, .ref (adM 0)), (1, .ref (adC 0)), (0, .ref b)]) hx hb dL_law_144 hl (by decide) rfl (fun ls hl => ?_)
  refine lv_aload_n hx hb dL_law_146 rfl (lv_at hl 3 rfl) ?_
  refine lv_aload_n hx hb dL_law_147 rfl (lv_at hl 5 rfl) ?_
  refine lv_iload hx hb dL_law_148 (lv_at hl 1 rfl) ?_
  refine lv_iconst (v := (1 : Int32)) hx hb dL_law_150 (by decide) ?_
  refine lv_iadd hx hb dL_law_151 ?_
  refine va_sld hx hb hXs hbl hbA hS (ix 1 (by omega)) dL_law_152 ?_
  refine lv_aload_n hx hb dL_law_153 rfl (lv_at hl 5 rfl) ?_
  refine lv_iload hx hb dL_law_154 (lv_at hl 1 rfl) ?_
  refine lv_iconst (v := (2 : Int32)) hx hb dL_law_156 (by decide) ?_
  refine lv_iadd hx hb dL_law_157 ?_
  refine va_sld hx hb hXs hbl hbA hS (ix 2 (by omega)) dL_law_158 ?_
  refine l_call (va_runV (As := [.int (xs (x4 + nI 1).toNatClampNeg), .int (xs (x4 + nI 2).toNatClampNeg)]) (rest := []) ⟨hx, hb, hml, hown, hts⟩ (c_X6_key (cP := cP) (cR := cR) hIM hAM' e2) (cwV 2 hts gL_law_X6_key rfl rfl rfl (by decide +kernel) ⟨Nat.le_of_ble_eq_true rfl, Nat.le_of_ble_eq_true rfl⟩) (l_PV XMb (fun _ _ _ => trivial) hK hPM obX6 rfl) rfl rfl hl.1 rfl (lv_room (Nat.le_of_ble_eq_true rfl)) dL_law_159 ⟨by show _ ≤ 601024; omega, by show _ ≤ 7293034; omega⟩) hS sM (fun H1 locs1 hPM hk1 hS => ?_)
  have hPC := P_keep hPC hk1 nMC
  have hPO := P_keep1 hPO (hk1 qo (hPO 0 _ rfl).lt nMO)
  generalize H1 = H at hPC hPM hPO hS ⊢
  clear hk1
  refine lv_aload_n hx hb dL_law_162 rfl (lv_at hl 3 rfl) ?_
  refine l_call (va_runV (As := []) (rest := []) ⟨hx, hb, hml, hown, hts⟩ (c_X6_thrown (cP := cP) (cR := cR) hIM hAM' (thrown_e R1)) (cwV 0 hts gL_law_X6_thrown rfl rfl rfl (by decide +kernel) ⟨Nat.le_of_ble_eq_true rfl, Nat.le_of_ble_eq_true rfl⟩) (l_PV XMb (fun _ _ _ => trivial) hK hPM obX6 rfl) rfl rfl hl.1 rfl (lv_room (Nat.le_of_ble_eq_true rfl)) dL_law_163 ⟨by show _ ≤ 601024; omega, by show _ ≤ 7293034; omega⟩) hS sM (fun H1 locs1 hPM hk1 hS => ?_)
  have hPC := P_keep hPC hk1 nMC
  have hPO := P_keep1 hPO (hk1 qo (hPO 0 _ rfl).lt nMO)
  generalize H1 = H at hPC hPM hPO hS ⊢
  clear hk1
  refine lv_iload hx hb dL_law_166 (lv_at hl 0 rfl) ?_
  refine lv_icmp_eq (tgt := 173) hx hb dL_law_168 (by decide) (fun _ => ?_) (fun hc => absurd hth hc)
  refine lv_goto (tgt := 953) hx hb dL_law_173 (by decide) ?_
  refine W.widen (k := 169 + (j + 1)) (n := 36539 + 6 * (j + 1)) (by omega) (by omega) ?_
  exact kk C1 R1 f H locs1 ls ⟨hPC, hPM, hPO, hS, hR1⟩ (lv_sub hl [1, 2, 3, 4, 5] rfl)
set_option maxHeartbeats 4000000 in
set_option maxRecDepth 100000 in
theorem lc_poke {p : Program} {e : Env} {s : State} {m : MethodId} {below : List Frame} {meth : Method} {c : Code} {l : Launch} {b L : Nat} {xs : Nat → Int32} {D : va_G} {adC adM : Nat → Nat} {cI cZ cP cR cL : ClassId} {qo : Nat} {Q : State → Prop} (X : LWx p s m meth c l b L xs D adC adM cI cZ cP cR cL qo) {j : Nat} {x4 : Int32} (hj : 6 * j + 6 ≤ L) (ex : x4 = nI (6 * j)) {C R : Mem} {f : Nat → Int64} {H : Heap} {locs : List Loc} {ls : Array Slot} (hs : LWs s D adC adM cI cZ cP cR cL qo C R f H locs) (hl : lv_has ls 7 [(4, .int x4), (3, .ref qo), (2, .ref (adM 0)), (1, .ref (adC 0)), (0, .ref b)])
    (kk : ∀ (C R : Mem) (f : Nat → Int64) (H : Heap) (locs : List Loc) (ls : Array Slot), LWs s D adC adM cI cZ cP cR cL qo C R f H locs → lv_has ls 7 [(4, .int x4), (3, .ref qo), (2, .ref (adM 0)), (1, .ref (adC 0)), (0, .ref b)] → W p l e room_1 s m #[Value.ref b] below meth c H locs (169 + (j + 1)) (36539 + 6 * (j + 1)) Q (F0 m 953 ls [])) :
    W p l e room_1 s m #[Value.ref b] below meth c H locs (169 + j) (36539 + 6 * j) Q (F0 m 176 ls []) := by
  obtain ⟨hnt, ⟨hx, hb, hr, hml, hown, hts0, hXs, hbl, hlocks, hgv⟩, hK, hKL, hIC, hIM, hAC, hAM, hqo, hCM, hCO, hMO, hXW, hL⟩ := X
  have hts := fun w h => hts0 w (wsL_law_in w h)
  obtain ⟨hPC, hPM, hPO, hS, hRel⟩ := hs
  have hbA : ¬ (AL s) b := Nat.not_le.mpr hbl
  have hAC' : ∀ k, k < 143 → AC adC (adC k) := fun k hk => ⟨k, hk, rfl⟩
  have hAM' : ∀ k, k < 25 → AM adM (adM k) := fun k hk => ⟨k, hk, rfl⟩
  have sC : ∀ q, AC adC q → AL s q := fun q h => by obtain ⟨k, hk, rfl⟩ := h; exact hAC k hk
  have sM : ∀ q, AM adM q → AL s q := fun q h => by obtain ⟨k, hk, rfl⟩ := h; exact hAM k hk
  have nCM : ∀ k, k < 25 → ¬ AC adC (adM k) := fun k hk h => by obtain ⟨i, hi, e⟩ := h; exact hCM i k hi hk e
  have nMC : ∀ k, k < 143 → ¬ AM adM (adC k) := fun k hk h => by obtain ⟨i, hi, e⟩ := h; exact hCM k i hk hi e.symm
  have nCO : ¬ AC adC qo := fun h => by obtain ⟨i, hi, e⟩ := h; exact hCO i hi e
  have nMO : ¬ AM adM qo := fun h => by obtain ⟨i, hi, e⟩ := h; exact hMO i hi e
  have ix : ∀ k : Nat, k < 6 → vp_in (x4 + nI k) L := fun k hk => by rw [ex, nI_add]; exact vp_in_nI (by omega) (by omega)
  obtain ⟨cd, r, r1, C1, R1, e1, e2, hth, hrr, hc2, hR1⟩ := sim_poke hRel (xs (x4 + nI 1).toNatClampNeg) (xs (x4 + nI 2).toNatClampNeg) (xs (x4 + nI 3).toNatClampNeg)
  refine lv_aload_n hx hb dL_law_176 rfl (lv_at hl 3 rfl) ?_
  refine lv_aload_n hx hb dL_law_177 rfl (lv_at hl 4 rfl) ?_
  refine lv_iload hx hb dL_law_178 (lv_at hl 0 rfl) ?_
  refine lv_iconst (v := (1 : Int32)) hx hb dL_law_180 (by decide) ?_
  refine lv_iadd hx hb dL_law_181 ?_
  refine va_sld hx hb hXs hbl hbA hS (ix 1 (by omega)) dL_law_182 ?_
  refine lv_aload_n hx hb dL_law_183 rfl (lv_at hl 4 rfl) ?_
  refine lv_iload hx hb dL_law_184 (lv_at hl 0 rfl) ?_
  refine lv_iconst (v := (2 : Int32)) hx hb dL_law_186 (by decide) ?_
  refine lv_iadd hx hb dL_law_187 ?_
  refine va_sld hx hb hXs hbl hbA hS (ix 2 (by omega)) dL_law_188 ?_
  refine lv_aload_n hx hb dL_law_189 rfl (lv_at hl 4 rfl) ?_
  refine lv_iload hx hb dL_law_190 (lv_at hl 0 rfl) ?_
  refine lv_iconst (v := (3 : Int32)) hx hb dL_law_192 (by decide) ?_
  refine lv_iadd hx hb dL_law_193 ?_
  refine va_sld hx hb hXs hbl hbA hS (ix 3 (by omega)) dL_law_194 ?_
  refine lv_aload_n hx hb dL_law_195 rfl (lv_at hl 1 rfl) ?_
  refine l_callw (vx_runSW (As := [.ref (adC 0), .int (xs (x4 + nI 1).toNatClampNeg), .int (xs (x4 + nI 2).toNatClampNeg), .int (xs (x4 + nI 3).toNatClampNeg), .ref qo]) (rest := []) ⟨hx, hb, hml, hown, hts⟩ (c_L_poke hIC hAC' nCO hnt e1) (vx_cwSW 5 hts gL_law_L_poke rfl rfl rfl (by decide +kernel) ⟨Nat.le_of_ble_eq_true rfl, Nat.le_of_ble_eq_true rfl⟩) (l_PW (fun U hU hW => XW_nar sC (XWo (AL s) s U H hW hS.2.1 hXW)) hK hKL hPC hPO) rfl rfl hl.1 rfl (lv_room (Nat.le_of_ble_eq_true rfl)) dL_law_196 ⟨by show _ ≤ 601024; omega, by show _ ≤ 7293034; omega⟩) hS sC hqo (fun f1 H1 locs1 hPC hf1 hPO hk1 hS => ?_)
  have hPM := P_keep hPM hk1 (fun k hk h => h.elim (nCM k hk) (fun h => hMO k hk h))
  generalize H1 = H at hPC hPM hPO hS ⊢
  clear hk1
  refine lv_istore (lv' := [(5, .int (nI cd)), (4, .int x4), (3, .ref qo), (2, .ref (adM 0)), (1, .ref (adC 0)), (0, .ref b)]) hx hb dL_law_199 hl (by decide) rfl (fun ls hl => ?_)
  refine lv_aload_n hx hb dL_law_201 rfl (lv_at hl 3 rfl) ?_
  refine lv_aload_n hx hb dL_law_202 rfl (lv_at hl 5 rfl) ?_
  refine lv_iload hx hb dL_law_203 (lv_at hl 1 rfl) ?_
  refine lv_iconst (v := (1 : Int32)) hx hb dL_law_205 (by decide) ?_
  refine lv_iadd hx hb dL_law_206 ?_
  refine va_sld hx hb hXs hbl hbA hS (ix 1 (by omega)) dL_law_207 ?_
  refine lv_aload_n hx hb dL_law_208 rfl (lv_at hl 5 rfl) ?_
  refine lv_iload hx hb dL_law_209 (lv_at hl 1 rfl) ?_
  refine lv_iconst (v := (2 : Int32)) hx hb dL_law_211 (by decide) ?_
  refine lv_iadd hx hb dL_law_212 ?_
  refine va_sld hx hb hXs hbl hbA hS (ix 2 (by omega)) dL_law_213 ?_
  refine lv_aload_n hx hb dL_law_214 rfl (lv_at hl 5 rfl) ?_
  refine lv_iload hx hb dL_law_215 (lv_at hl 1 rfl) ?_
  refine lv_iconst (v := (3 : Int32)) hx hb dL_law_217 (by decide) ?_
  refine lv_iadd hx hb dL_law_218 ?_
  refine va_sld hx hb hXs hbl hbA hS (ix 3 (by omega)) dL_law_219 ?_
  refine l_call (va_runV (As := [.int (xs (x4 + nI 1).toNatClampNeg), .int (xs (x4 + nI 2).toNatClampNeg), .int (xs (x4 + nI 3).toNatClampNeg)]) (rest := []) ⟨hx, hb, hml, hown, hts⟩ (c_X6_poke (cP := cP) (cR := cR) hIM hAM' e2) (cwV 3 hts gL_law_X6_poke rfl rfl rfl (by decide +kernel) ⟨Nat.le_of_ble_eq_true rfl, Nat.le_of_ble_eq_true rfl⟩) (l_PV XMb (fun _ _ _ => trivial) hK hPM obX6 rfl) rfl rfl hl.1 rfl (lv_room (Nat.le_of_ble_eq_true rfl)) dL_law_220 ⟨by show _ ≤ 601024; omega, by show _ ≤ 7293034; omega⟩) hS sM (fun H1 locs1 hPM hk1 hS => ?_)
  have hPC := P_keep hPC hk1 nMC
  have hPO := P_keep1 hPO (hk1 qo (hPO 0 _ rfl).lt nMO)
  generalize H1 = H at hPC hPM hPO hS ⊢
  clear hk1
  refine lv_istore (lv' := [(6, .int r1), (5, .int (nI cd)), (4, .int x4), (3, .ref qo), (2, .ref (adM 0)), (1, .ref (adC 0)), (0, .ref b)]) hx hb dL_law_223 hl (by decide) rfl (fun ls hl => ?_)
  refine lv_aload_n hx hb dL_law_225 rfl (lv_at hl 4 rfl) ?_
  refine l_call (va_runV (As := []) (rest := []) ⟨hx, hb, hml, hown, hts⟩ (c_X6_thrown (cP := cP) (cR := cR) hIM hAM' (thrown_e R1)) (cwV 0 hts gL_law_X6_thrown rfl rfl rfl (by decide +kernel) ⟨Nat.le_of_ble_eq_true rfl, Nat.le_of_ble_eq_true rfl⟩) (l_PV XMb (fun _ _ _ => trivial) hK hPM obX6 rfl) rfl rfl hl.1 rfl (lv_room (Nat.le_of_ble_eq_true rfl)) dL_law_226 ⟨by show _ ≤ 601024; omega, by show _ ≤ 7293034; omega⟩) hS sM (fun H1 locs1 hPM hk1 hS => ?_)
  have hPC := P_keep hPC hk1 nMC
  have hPO := P_keep1 hPO (hk1 qo (hPO 0 _ rfl).lt nMO)
  generalize H1 = H at hPC hPM hPO hS ⊢
  clear hk1
  refine lv_iload hx hb dL_law_229 (lv_at hl 1 rfl) ?_
  refine lv_icmp_eq (tgt := 236) hx hb dL_law_231 (by decide) (fun _ => ?_) (fun hc => absurd hth hc)
  refine lv_iload hx hb dL_law_236 (lv_at hl 1 rfl) ?_
  refine lv_if_ne (tgt := 253) hx hb dL_law_238 (by decide) (fun hc => ?_) (fun hc => ?_)
  · refine lv_goto (tgt := 953) hx hb dL_law_253 (by decide) ?_
    refine W.widen (k := 169 + (j + 1)) (n := 36539 + 6 * (j + 1)) (by omega) (by omega) ?_
    exact kk C1 R1 f1 H locs1 ls ⟨hPC, hPM, hPO, hS, hR1⟩ (lv_sub hl [2, 3, 4, 5, 6] rfl)
  · have hc0 : cd = 0 := (nI_eq (by omega) (by omega)).mp (show nI cd = nI 0 from hc)
    refine lv_aload_n hx hb dL_law_241 rfl (lv_at hl 3 rfl) ?_
    refine lv_iconst (v := (0 : Int32)) hx hb dL_law_242 (by decide) ?_
    refine va_lald hx hb hKL hPO 0 0 rfl rfl (by unfold vp_in; decide) dL_law_243 ?_
    refine lv_iload hx hb dL_law_244 (lv_at hl 0 rfl) ?_
    refine lv_i2l hx hb dL_law_246 rfl ?_
    refine W.lcmp hx hb dL_law_247 ?_
    have hz : lg_cmp (f1 (0 : Int32).toNatClampNeg) r1.toInt64 = 0 := by
      have h1 : f1 0 = r.toInt64 := hf1 hc0
      show lg_cmp (f1 0) r1.toInt64 = 0
      rw [h1, hrr hc0]
      exact cmp_self _
    refine lv_if_eq (tgt := 253) hx hb dL_law_248 (by decide) (fun _ => ?_) (fun hc => absurd hz hc)
    refine lv_goto (tgt := 953) hx hb dL_law_253 (by decide) ?_
    refine W.widen (k := 169 + (j + 1)) (n := 36539 + 6 * (j + 1)) (by omega) (by omega) ?_
    exact kk C1 R1 f1 H locs1 ls ⟨hPC, hPM, hPO, hS, hR1⟩ (lv_sub hl [2, 3, 4, 5, 6] rfl)
set_option maxHeartbeats 4000000 in
set_option maxRecDepth 100000 in
theorem lc_peek {p : Program} {e : Env} {s : State} {m : MethodId} {below : List Frame} {meth : Method} {c : Code} {l : Launch} {b L : Nat} {xs : Nat → Int32} {D : va_G} {adC adM : Nat → Nat} {cI cZ cP cR cL : ClassId} {qo : Nat} {Q : State → Prop} (X : LWx p s m meth c l b L xs D adC adM cI cZ cP cR cL qo) {j : Nat} {x4 : Int32} (hj : 6 * j + 6 ≤ L) (ex : x4 = nI (6 * j)) {C R : Mem} {f : Nat → Int64} {H : Heap} {locs : List Loc} {ls : Array Slot} (hs : LWs s D adC adM cI cZ cP cR cL qo C R f H locs) (hl : lv_has ls 7 [(4, .int x4), (3, .ref qo), (2, .ref (adM 0)), (1, .ref (adC 0)), (0, .ref b)])
    (kk : ∀ (C R : Mem) (f : Nat → Int64) (H : Heap) (locs : List Loc) (ls : Array Slot), LWs s D adC adM cI cZ cP cR cL qo C R f H locs → lv_has ls 7 [(4, .int x4), (3, .ref qo), (2, .ref (adM 0)), (1, .ref (adC 0)), (0, .ref b)] → W p l e room_1 s m #[Value.ref b] below meth c H locs (169 + (j + 1)) (36539 + 6 * (j + 1)) Q (F0 m 953 ls [])) :
    W p l e room_1 s m #[Value.ref b] below meth c H locs (169 + j) (36539 + 6 * j) Q (F0 m 256 ls []) := by
  obtain ⟨hnt, ⟨hx, hb, hr, hml, hown, hts0, hXs, hbl, hlocks, hgv⟩, hK, hKL, hIC, hIM, hAC, hAM, hqo, hCM, hCO, hMO, hXW, hL⟩ := X
  have hts := fun w h => hts0 w (wsL_law_in w h)
  obtain ⟨hPC, hPM, hPO, hS, hRel⟩ := hs
  have hbA : ¬ (AL s) b := Nat.not_le.mpr hbl
  have hAC' : ∀ k, k < 143 → AC adC (adC k) := fun k hk => ⟨k, hk, rfl⟩
  have hAM' : ∀ k, k < 25 → AM adM (adM k) := fun k hk => ⟨k, hk, rfl⟩
  have sC : ∀ q, AC adC q → AL s q := fun q h => by obtain ⟨k, hk, rfl⟩ := h; exact hAC k hk
  have sM : ∀ q, AM adM q → AL s q := fun q h => by obtain ⟨k, hk, rfl⟩ := h; exact hAM k hk
  have nCM : ∀ k, k < 25 → ¬ AC adC (adM k) := fun k hk h => by obtain ⟨i, hi, e⟩ := h; exact hCM i k hi hk e
  have nMC : ∀ k, k < 143 → ¬ AM adM (adC k) := fun k hk h => by obtain ⟨i, hi, e⟩ := h; exact hCM k i hk hi e.symm
  have nCO : ¬ AC adC qo := fun h => by obtain ⟨i, hi, e⟩ := h; exact hCO i hi e
  have nMO : ¬ AM adM qo := fun h => by obtain ⟨i, hi, e⟩ := h; exact hMO i hi e
  have ix : ∀ k : Nat, k < 6 → vp_in (x4 + nI k) L := fun k hk => by rw [ex, nI_add]; exact vp_in_nI (by omega) (by omega)
  obtain ⟨cd, r, r1, C1, R1, e1, e2, hth, hrr, hc2, hR1⟩ := sim_peek hRel (xs (x4 + nI 1).toNatClampNeg) (xs (x4 + nI 2).toNatClampNeg)
  refine lv_aload_n hx hb dL_law_256 rfl (lv_at hl 3 rfl) ?_
  refine lv_aload_n hx hb dL_law_257 rfl (lv_at hl 4 rfl) ?_
  refine lv_iload hx hb dL_law_258 (lv_at hl 0 rfl) ?_
  refine lv_iconst (v := (1 : Int32)) hx hb dL_law_260 (by decide) ?_
  refine lv_iadd hx hb dL_law_261 ?_
  refine va_sld hx hb hXs hbl hbA hS (ix 1 (by omega)) dL_law_262 ?_
  refine lv_aload_n hx hb dL_law_263 rfl (lv_at hl 4 rfl) ?_
  refine lv_iload hx hb dL_law_264 (lv_at hl 0 rfl) ?_
  refine lv_iconst (v := (2 : Int32)) hx hb dL_law_266 (by decide) ?_
  refine lv_iadd hx hb dL_law_267 ?_
  refine va_sld hx hb hXs hbl hbA hS (ix 2 (by omega)) dL_law_268 ?_
  refine lv_aload_n hx hb dL_law_269 rfl (lv_at hl 1 rfl) ?_
  refine l_callw (vx_runSW (As := [.ref (adC 0), .int (xs (x4 + nI 1).toNatClampNeg), .int (xs (x4 + nI 2).toNatClampNeg), .ref qo]) (rest := []) ⟨hx, hb, hml, hown, hts⟩ (c_L_peek hIC hAC' nCO hnt e1) (vx_cwSW 4 hts gL_law_L_peek rfl rfl rfl (by decide +kernel) ⟨Nat.le_of_ble_eq_true rfl, Nat.le_of_ble_eq_true rfl⟩) (l_PW (fun U hU hW => XW_nar sC (XWo (AL s) s U H hW hS.2.1 hXW)) hK hKL hPC hPO) rfl rfl hl.1 rfl (lv_room (Nat.le_of_ble_eq_true rfl)) dL_law_270 ⟨by show _ ≤ 601024; omega, by show _ ≤ 7293034; omega⟩) hS sC hqo (fun f1 H1 locs1 hPC hf1 hPO hk1 hS => ?_)
  have hPM := P_keep hPM hk1 (fun k hk h => h.elim (nCM k hk) (fun h => hMO k hk h))
  generalize H1 = H at hPC hPM hPO hS ⊢
  clear hk1
  refine lv_istore (lv' := [(5, .int (nI cd)), (4, .int x4), (3, .ref qo), (2, .ref (adM 0)), (1, .ref (adC 0)), (0, .ref b)]) hx hb dL_law_273 hl (by decide) rfl (fun ls hl => ?_)
  refine lv_aload_n hx hb dL_law_275 rfl (lv_at hl 3 rfl) ?_
  refine lv_aload_n hx hb dL_law_276 rfl (lv_at hl 5 rfl) ?_
  refine lv_iload hx hb dL_law_277 (lv_at hl 1 rfl) ?_
  refine lv_iconst (v := (1 : Int32)) hx hb dL_law_279 (by decide) ?_
  refine lv_iadd hx hb dL_law_280 ?_
  refine va_sld hx hb hXs hbl hbA hS (ix 1 (by omega)) dL_law_281 ?_
  refine lv_aload_n hx hb dL_law_282 rfl (lv_at hl 5 rfl) ?_
  refine lv_iload hx hb dL_law_283 (lv_at hl 1 rfl) ?_
  refine lv_iconst (v := (2 : Int32)) hx hb dL_law_285 (by decide) ?_
  refine lv_iadd hx hb dL_law_286 ?_
  refine va_sld hx hb hXs hbl hbA hS (ix 2 (by omega)) dL_law_287 ?_
  refine l_call (va_runV (As := [.int (xs (x4 + nI 1).toNatClampNeg), .int (xs (x4 + nI 2).toNatClampNeg)]) (rest := []) ⟨hx, hb, hml, hown, hts⟩ (c_X6_peek (cP := cP) (cR := cR) hIM hAM' e2) (cwV 2 hts gL_law_X6_peek rfl rfl rfl (by decide +kernel) ⟨Nat.le_of_ble_eq_true rfl, Nat.le_of_ble_eq_true rfl⟩) (l_PV XMb (fun _ _ _ => trivial) hK hPM obX6 rfl) rfl rfl hl.1 rfl (lv_room (Nat.le_of_ble_eq_true rfl)) dL_law_288 ⟨by show _ ≤ 601024; omega, by show _ ≤ 7293034; omega⟩) hS sM (fun H1 locs1 hPM hk1 hS => ?_)
  have hPC := P_keep hPC hk1 nMC
  have hPO := P_keep1 hPO (hk1 qo (hPO 0 _ rfl).lt nMO)
  generalize H1 = H at hPC hPM hPO hS ⊢
  clear hk1
  refine lv_istore (lv' := [(6, .int r1), (5, .int (nI cd)), (4, .int x4), (3, .ref qo), (2, .ref (adM 0)), (1, .ref (adC 0)), (0, .ref b)]) hx hb dL_law_291 hl (by decide) rfl (fun ls hl => ?_)
  refine lv_aload_n hx hb dL_law_293 rfl (lv_at hl 4 rfl) ?_
  refine l_call (va_runV (As := []) (rest := []) ⟨hx, hb, hml, hown, hts⟩ (c_X6_thrown (cP := cP) (cR := cR) hIM hAM' (thrown_e R1)) (cwV 0 hts gL_law_X6_thrown rfl rfl rfl (by decide +kernel) ⟨Nat.le_of_ble_eq_true rfl, Nat.le_of_ble_eq_true rfl⟩) (l_PV XMb (fun _ _ _ => trivial) hK hPM obX6 rfl) rfl rfl hl.1 rfl (lv_room (Nat.le_of_ble_eq_true rfl)) dL_law_294 ⟨by show _ ≤ 601024; omega, by show _ ≤ 7293034; omega⟩) hS sM (fun H1 locs1 hPM hk1 hS => ?_)
  have hPC := P_keep hPC hk1 nMC
  have hPO := P_keep1 hPO (hk1 qo (hPO 0 _ rfl).lt nMO)
  generalize H1 = H at hPC hPM hPO hS ⊢
  clear hk1
  refine lv_iload hx hb dL_law_297 (lv_at hl 1 rfl) ?_
  refine lv_icmp_eq (tgt := 304) hx hb dL_law_299 (by decide) (fun _ => ?_) (fun hc => absurd hth hc)
  refine lv_iload hx hb dL_law_304 (lv_at hl 1 rfl) ?_
  refine lv_if_ne (tgt := 321) hx hb dL_law_306 (by decide) (fun hc => ?_) (fun hc => ?_)
  · refine lv_goto (tgt := 953) hx hb dL_law_321 (by decide) ?_
    refine W.widen (k := 169 + (j + 1)) (n := 36539 + 6 * (j + 1)) (by omega) (by omega) ?_
    exact kk C1 R1 f1 H locs1 ls ⟨hPC, hPM, hPO, hS, hR1⟩ (lv_sub hl [2, 3, 4, 5, 6] rfl)
  · have hc0 : cd = 0 := (nI_eq (by omega) (by omega)).mp (show nI cd = nI 0 from hc)
    refine lv_aload_n hx hb dL_law_309 rfl (lv_at hl 3 rfl) ?_
    refine lv_iconst (v := (0 : Int32)) hx hb dL_law_310 (by decide) ?_
    refine va_lald hx hb hKL hPO 0 0 rfl rfl (by unfold vp_in; decide) dL_law_311 ?_
    refine lv_iload hx hb dL_law_312 (lv_at hl 0 rfl) ?_
    refine lv_i2l hx hb dL_law_314 rfl ?_
    refine W.lcmp hx hb dL_law_315 ?_
    have hz : lg_cmp (f1 (0 : Int32).toNatClampNeg) r1.toInt64 = 0 := by
      have h1 : f1 0 = r.toInt64 := hf1 hc0
      show lg_cmp (f1 0) r1.toInt64 = 0
      rw [h1, hrr hc0]
      exact cmp_self _
    refine lv_if_eq (tgt := 321) hx hb dL_law_316 (by decide) (fun _ => ?_) (fun hc => absurd hz hc)
    refine lv_goto (tgt := 953) hx hb dL_law_321 (by decide) ?_
    refine W.widen (k := 169 + (j + 1)) (n := 36539 + 6 * (j + 1)) (by omega) (by omega) ?_
    exact kk C1 R1 f1 H locs1 ls ⟨hPC, hPM, hPO, hS, hR1⟩ (lv_sub hl [2, 3, 4, 5, 6] rfl)
set_option maxHeartbeats 4000000 in
set_option maxRecDepth 100000 in
theorem lc_space {p : Program} {e : Env} {s : State} {m : MethodId} {below : List Frame} {meth : Method} {c : Code} {l : Launch} {b L : Nat} {xs : Nat → Int32} {D : va_G} {adC adM : Nat → Nat} {cI cZ cP cR cL : ClassId} {qo : Nat} {Q : State → Prop} (X : LWx p s m meth c l b L xs D adC adM cI cZ cP cR cL qo) {j : Nat} {x4 : Int32} (hj : 6 * j + 6 ≤ L) (ex : x4 = nI (6 * j)) {C R : Mem} {f : Nat → Int64} {H : Heap} {locs : List Loc} {ls : Array Slot} (hs : LWs s D adC adM cI cZ cP cR cL qo C R f H locs) (hl : lv_has ls 7 [(4, .int x4), (3, .ref qo), (2, .ref (adM 0)), (1, .ref (adC 0)), (0, .ref b)])
    (kk : ∀ (C R : Mem) (f : Nat → Int64) (H : Heap) (locs : List Loc) (ls : Array Slot), LWs s D adC adM cI cZ cP cR cL qo C R f H locs → lv_has ls 7 [(4, .int x4), (3, .ref qo), (2, .ref (adM 0)), (1, .ref (adC 0)), (0, .ref b)] → W p l e room_1 s m #[Value.ref b] below meth c H locs (169 + (j + 1)) (36539 + 6 * (j + 1)) Q (F0 m 953 ls [])) :
    W p l e room_1 s m #[Value.ref b] below meth c H locs (169 + j) (36539 + 6 * j) Q (F0 m 324 ls []) := by
  obtain ⟨hnt, ⟨hx, hb, hr, hml, hown, hts0, hXs, hbl, hlocks, hgv⟩, hK, hKL, hIC, hIM, hAC, hAM, hqo, hCM, hCO, hMO, hXW, hL⟩ := X
  have hts := fun w h => hts0 w (wsL_law_in w h)
  obtain ⟨hPC, hPM, hPO, hS, hRel⟩ := hs
  have hbA : ¬ (AL s) b := Nat.not_le.mpr hbl
  have hAC' : ∀ k, k < 143 → AC adC (adC k) := fun k hk => ⟨k, hk, rfl⟩
  have hAM' : ∀ k, k < 25 → AM adM (adM k) := fun k hk => ⟨k, hk, rfl⟩
  have sC : ∀ q, AC adC q → AL s q := fun q h => by obtain ⟨k, hk, rfl⟩ := h; exact hAC k hk
  have sM : ∀ q, AM adM q → AL s q := fun q h => by obtain ⟨k, hk, rfl⟩ := h; exact hAM k hk
  have nCM : ∀ k, k < 25 → ¬ AC adC (adM k) := fun k hk h => by obtain ⟨i, hi, e⟩ := h; exact hCM i k hi hk e
  have nMC : ∀ k, k < 143 → ¬ AM adM (adC k) := fun k hk h => by obtain ⟨i, hi, e⟩ := h; exact hCM k i hk hi e.symm
  have nCO : ¬ AC adC qo := fun h => by obtain ⟨i, hi, e⟩ := h; exact hCO i hi e
  have nMO : ¬ AM adM qo := fun h => by obtain ⟨i, hi, e⟩ := h; exact hMO i hi e
  have ix : ∀ k : Nat, k < 6 → vp_in (x4 + nI k) L := fun k hk => by rw [ex, nI_add]; exact vp_in_nI (by omega) (by omega)
  obtain ⟨r, C1, R1, e1, e2, hR1⟩ := sim_space hRel (xs (x4 + nI 1).toNatClampNeg)
  refine lv_aload_n hx hb dL_law_324 rfl (lv_at hl 3 rfl) ?_
  refine lv_aload_n hx hb dL_law_325 rfl (lv_at hl 4 rfl) ?_
  refine lv_iload hx hb dL_law_326 (lv_at hl 0 rfl) ?_
  refine lv_iconst (v := (1 : Int32)) hx hb dL_law_328 (by decide) ?_
  refine lv_iadd hx hb dL_law_329 ?_
  refine va_sld hx hb hXs hbl hbA hS (ix 1 (by omega)) dL_law_330 ?_
  refine l_call (va_runV (As := [.int (xs (x4 + nI 1).toNatClampNeg)]) (rest := []) ⟨hx, hb, hml, hown, hts⟩ (c_X5_space hIC hAC' e1) (cwV 1 hts gL_law_X5_space rfl rfl rfl (by decide +kernel) ⟨Nat.le_of_ble_eq_true rfl, Nat.le_of_ble_eq_true rfl⟩) (l_PV (XCb _) (fun U hU hW => XC_nar sC (XCo (AL s) s U H hW hS.2.1 hXW.1.1)) hK hPC obX5 rfl) rfl rfl hl.1 rfl (lv_room (Nat.le_of_ble_eq_true rfl)) dL_law_331 ⟨by show _ ≤ 601024; omega, by show _ ≤ 7293034; omega⟩) hS sC (fun H1 locs1 hPC hk1 hS => ?_)
  have hPM := P_keep hPM hk1 nCM
  have hPO := P_keep1 hPO (hk1 qo (hPO 0 _ rfl).lt nCO)
  generalize H1 = H at hPC hPM hPO hS ⊢
  clear hk1
  refine lv_aload_n hx hb dL_law_334 rfl (lv_at hl 2 rfl) ?_
  refine lv_aload_n hx hb dL_law_335 rfl (lv_at hl 4 rfl) ?_
  refine lv_iload hx hb dL_law_336 (lv_at hl 0 rfl) ?_
  refine lv_iconst (v := (1 : Int32)) hx hb dL_law_338 (by decide) ?_
  refine lv_iadd hx hb dL_law_339 ?_
  refine va_sld hx hb hXs hbl hbA hS (ix 1 (by omega)) dL_law_340 ?_
  refine l_call (va_runV (As := [.int (xs (x4 + nI 1).toNatClampNeg)]) (rest := [.int r]) ⟨hx, hb, hml, hown, hts⟩ (c_X6_space (cP := cP) (cR := cR) hIM hAM' e2) (cwV 1 hts gL_law_X6_space rfl rfl rfl (by decide +kernel) ⟨Nat.le_of_ble_eq_true rfl, Nat.le_of_ble_eq_true rfl⟩) (l_PV XMb (fun _ _ _ => trivial) hK hPM obX6 rfl) rfl rfl hl.1 rfl (lv_room (Nat.le_of_ble_eq_true rfl)) dL_law_341 ⟨by show _ ≤ 601024; omega, by show _ ≤ 7293034; omega⟩) hS sM (fun H1 locs1 hPM hk1 hS => ?_)
  have hPC := P_keep hPC hk1 nMC
  have hPO := P_keep1 hPO (hk1 qo (hPO 0 _ rfl).lt nMO)
  refine lv_icmp_eq (tgt := 953) hx hb dL_law_344 (by decide) (fun _ => ?_) (fun hc => absurd rfl hc)
  refine W.widen (k := 169 + (j + 1)) (n := 36539 + 6 * (j + 1)) (by omega) (by omega) ?_
  exact kk C1 R1 f H1 locs1 ls ⟨hPC, hPM, hPO, hS, hR1⟩ hl
set_option maxHeartbeats 4000000 in
set_option maxRecDepth 100000 in
theorem lc_thread {p : Program} {e : Env} {s : State} {m : MethodId} {below : List Frame} {meth : Method} {c : Code} {l : Launch} {b L : Nat} {xs : Nat → Int32} {D : va_G} {adC adM : Nat → Nat} {cI cZ cP cR cL : ClassId} {qo : Nat} {Q : State → Prop} (X : LWx p s m meth c l b L xs D adC adM cI cZ cP cR cL qo) {j : Nat} {x4 : Int32} (hj : 6 * j + 6 ≤ L) (ex : x4 = nI (6 * j)) {C R : Mem} {f : Nat → Int64} {H : Heap} {locs : List Loc} {ls : Array Slot} (hs : LWs s D adC adM cI cZ cP cR cL qo C R f H locs) (hl : lv_has ls 7 [(4, .int x4), (3, .ref qo), (2, .ref (adM 0)), (1, .ref (adC 0)), (0, .ref b)])
    (kk : ∀ (C R : Mem) (f : Nat → Int64) (H : Heap) (locs : List Loc) (ls : Array Slot), LWs s D adC adM cI cZ cP cR cL qo C R f H locs → lv_has ls 7 [(4, .int x4), (3, .ref qo), (2, .ref (adM 0)), (1, .ref (adC 0)), (0, .ref b)] → W p l e room_1 s m #[Value.ref b] below meth c H locs (169 + (j + 1)) (36539 + 6 * (j + 1)) Q (F0 m 953 ls [])) :
    W p l e room_1 s m #[Value.ref b] below meth c H locs (169 + j) (36539 + 6 * j) Q (F0 m 349 ls []) := by
  obtain ⟨hnt, ⟨hx, hb, hr, hml, hown, hts0, hXs, hbl, hlocks, hgv⟩, hK, hKL, hIC, hIM, hAC, hAM, hqo, hCM, hCO, hMO, hXW, hL⟩ := X
  have hts := fun w h => hts0 w (wsL_law_in w h)
  obtain ⟨hPC, hPM, hPO, hS, hRel⟩ := hs
  have hbA : ¬ (AL s) b := Nat.not_le.mpr hbl
  have hAC' : ∀ k, k < 143 → AC adC (adC k) := fun k hk => ⟨k, hk, rfl⟩
  have hAM' : ∀ k, k < 25 → AM adM (adM k) := fun k hk => ⟨k, hk, rfl⟩
  have sC : ∀ q, AC adC q → AL s q := fun q h => by obtain ⟨k, hk, rfl⟩ := h; exact hAC k hk
  have sM : ∀ q, AM adM q → AL s q := fun q h => by obtain ⟨k, hk, rfl⟩ := h; exact hAM k hk
  have nCM : ∀ k, k < 25 → ¬ AC adC (adM k) := fun k hk h => by obtain ⟨i, hi, e⟩ := h; exact hCM i k hi hk e
  have nMC : ∀ k, k < 143 → ¬ AM adM (adC k) := fun k hk h => by obtain ⟨i, hi, e⟩ := h; exact hCM k i hk hi e.symm
  have nCO : ¬ AC adC qo := fun h => by obtain ⟨i, hi, e⟩ := h; exact hCO i hi e
  have nMO : ¬ AM adM qo := fun h => by obtain ⟨i, hi, e⟩ := h; exact hMO i hi e
  have ix : ∀ k : Nat, k < 6 → vp_in (x4 + nI k) L := fun k hk => by rw [ex, nI_add]; exact vp_in_nI (by omega) (by omega)
  obtain ⟨r, C1, R1, e1, e2, hR1⟩ := sim_thread hRel (xs (x4 + nI 1).toNatClampNeg) (xs (x4 + nI 2).toNatClampNeg) (xs (x4 + nI 3).toNatClampNeg)
  refine lv_aload_n hx hb dL_law_349 rfl (lv_at hl 3 rfl) ?_
  refine lv_aload_n hx hb dL_law_350 rfl (lv_at hl 4 rfl) ?_
  refine lv_iload hx hb dL_law_351 (lv_at hl 0 rfl) ?_
  refine lv_iconst (v := (1 : Int32)) hx hb dL_law_353 (by decide) ?_
  refine lv_iadd hx hb dL_law_354 ?_
  refine va_sld hx hb hXs hbl hbA hS (ix 1 (by omega)) dL_law_355 ?_
  refine lv_aload_n hx hb dL_law_356 rfl (lv_at hl 4 rfl) ?_
  refine lv_iload hx hb dL_law_357 (lv_at hl 0 rfl) ?_
  refine lv_iconst (v := (2 : Int32)) hx hb dL_law_359 (by decide) ?_
  refine lv_iadd hx hb dL_law_360 ?_
  refine va_sld hx hb hXs hbl hbA hS (ix 2 (by omega)) dL_law_361 ?_
  refine lv_aload_n hx hb dL_law_362 rfl (lv_at hl 4 rfl) ?_
  refine lv_iload hx hb dL_law_363 (lv_at hl 0 rfl) ?_
  refine lv_iconst (v := (3 : Int32)) hx hb dL_law_365 (by decide) ?_
  refine lv_iadd hx hb dL_law_366 ?_
  refine va_sld hx hb hXs hbl hbA hS (ix 3 (by omega)) dL_law_367 ?_
  refine l_call (va_runV (As := [.int (xs (x4 + nI 1).toNatClampNeg), .int (xs (x4 + nI 2).toNatClampNeg), .int (xs (x4 + nI 3).toNatClampNeg)]) (rest := []) ⟨hx, hb, hml, hown, hts⟩ (c_X5_thread hIC hAC' e1) (cwV 3 hts gL_law_X5_thread rfl rfl rfl (by decide +kernel) ⟨Nat.le_of_ble_eq_true rfl, Nat.le_of_ble_eq_true rfl⟩) (l_PV (XCb _) (fun U hU hW => XC_nar sC (XCo (AL s) s U H hW hS.2.1 hXW.1.1)) hK hPC obX5 rfl) rfl rfl hl.1 rfl (lv_room (Nat.le_of_ble_eq_true rfl)) dL_law_368 ⟨by show _ ≤ 601024; omega, by show _ ≤ 7293034; omega⟩) hS sC (fun H1 locs1 hPC hk1 hS => ?_)
  have hPM := P_keep hPM hk1 nCM
  have hPO := P_keep1 hPO (hk1 qo (hPO 0 _ rfl).lt nCO)
  generalize H1 = H at hPC hPM hPO hS ⊢
  clear hk1
  refine lv_aload_n hx hb dL_law_371 rfl (lv_at hl 2 rfl) ?_
  refine lv_aload_n hx hb dL_law_372 rfl (lv_at hl 4 rfl) ?_
  refine lv_iload hx hb dL_law_373 (lv_at hl 0 rfl) ?_
  refine lv_iconst (v := (1 : Int32)) hx hb dL_law_375 (by decide) ?_
  refine lv_iadd hx hb dL_law_376 ?_
  refine va_sld hx hb hXs hbl hbA hS (ix 1 (by omega)) dL_law_377 ?_
  refine lv_aload_n hx hb dL_law_378 rfl (lv_at hl 4 rfl) ?_
  refine lv_iload hx hb dL_law_379 (lv_at hl 0 rfl) ?_
  refine lv_iconst (v := (2 : Int32)) hx hb dL_law_381 (by decide) ?_
  refine lv_iadd hx hb dL_law_382 ?_
  refine va_sld hx hb hXs hbl hbA hS (ix 2 (by omega)) dL_law_383 ?_
  refine lv_aload_n hx hb dL_law_384 rfl (lv_at hl 4 rfl) ?_
  refine lv_iload hx hb dL_law_385 (lv_at hl 0 rfl) ?_
  refine lv_iconst (v := (3 : Int32)) hx hb dL_law_387 (by decide) ?_
  refine lv_iadd hx hb dL_law_388 ?_
  refine va_sld hx hb hXs hbl hbA hS (ix 3 (by omega)) dL_law_389 ?_
  refine l_call (va_runV (As := [.int (xs (x4 + nI 1).toNatClampNeg), .int (xs (x4 + nI 2).toNatClampNeg), .int (xs (x4 + nI 3).toNatClampNeg)]) (rest := [.int r]) ⟨hx, hb, hml, hown, hts⟩ (c_X6_thread (cP := cP) (cR := cR) hIM hAM' e2) (cwV 3 hts gL_law_X6_thread rfl rfl rfl (by decide +kernel) ⟨Nat.le_of_ble_eq_true rfl, Nat.le_of_ble_eq_true rfl⟩) (l_PV XMb (fun _ _ _ => trivial) hK hPM obX6 rfl) rfl rfl hl.1 rfl (lv_room (Nat.le_of_ble_eq_true rfl)) dL_law_390 ⟨by show _ ≤ 601024; omega, by show _ ≤ 7293034; omega⟩) hS sM (fun H1 locs1 hPM hk1 hS => ?_)
  have hPC := P_keep hPC hk1 nMC
  have hPO := P_keep1 hPO (hk1 qo (hPO 0 _ rfl).lt nMO)
  refine lv_icmp_eq (tgt := 953) hx hb dL_law_393 (by decide) (fun _ => ?_) (fun hc => absurd rfl hc)
  refine W.widen (k := 169 + (j + 1)) (n := 36539 + 6 * (j + 1)) (by omega) (by omega) ?_
  exact kk C1 R1 f H1 locs1 ls ⟨hPC, hPM, hPO, hS, hR1⟩ hl
set_option maxHeartbeats 4000000 in
set_option maxRecDepth 100000 in
theorem lc_table {p : Program} {e : Env} {s : State} {m : MethodId} {below : List Frame} {meth : Method} {c : Code} {l : Launch} {b L : Nat} {xs : Nat → Int32} {D : va_G} {adC adM : Nat → Nat} {cI cZ cP cR cL : ClassId} {qo : Nat} {Q : State → Prop} (X : LWx p s m meth c l b L xs D adC adM cI cZ cP cR cL qo) {j : Nat} {x4 : Int32} (hj : 6 * j + 6 ≤ L) (ex : x4 = nI (6 * j)) {C R : Mem} {f : Nat → Int64} {H : Heap} {locs : List Loc} {ls : Array Slot} (hs : LWs s D adC adM cI cZ cP cR cL qo C R f H locs) (hl : lv_has ls 7 [(4, .int x4), (3, .ref qo), (2, .ref (adM 0)), (1, .ref (adC 0)), (0, .ref b)])
    (kk : ∀ (C R : Mem) (f : Nat → Int64) (H : Heap) (locs : List Loc) (ls : Array Slot), LWs s D adC adM cI cZ cP cR cL qo C R f H locs → lv_has ls 7 [(4, .int x4), (3, .ref qo), (2, .ref (adM 0)), (1, .ref (adC 0)), (0, .ref b)] → W p l e room_1 s m #[Value.ref b] below meth c H locs (169 + (j + 1)) (36539 + 6 * (j + 1)) Q (F0 m 953 ls [])) :
    W p l e room_1 s m #[Value.ref b] below meth c H locs (169 + j) (36539 + 6 * j) Q (F0 m 398 ls []) := by
  obtain ⟨hnt, ⟨hx, hb, hr, hml, hown, hts0, hXs, hbl, hlocks, hgv⟩, hK, hKL, hIC, hIM, hAC, hAM, hqo, hCM, hCO, hMO, hXW, hL⟩ := X
  have hts := fun w h => hts0 w (wsL_law_in w h)
  obtain ⟨hPC, hPM, hPO, hS, hRel⟩ := hs
  have hbA : ¬ (AL s) b := Nat.not_le.mpr hbl
  have hAC' : ∀ k, k < 143 → AC adC (adC k) := fun k hk => ⟨k, hk, rfl⟩
  have hAM' : ∀ k, k < 25 → AM adM (adM k) := fun k hk => ⟨k, hk, rfl⟩
  have sC : ∀ q, AC adC q → AL s q := fun q h => by obtain ⟨k, hk, rfl⟩ := h; exact hAC k hk
  have sM : ∀ q, AM adM q → AL s q := fun q h => by obtain ⟨k, hk, rfl⟩ := h; exact hAM k hk
  have nCM : ∀ k, k < 25 → ¬ AC adC (adM k) := fun k hk h => by obtain ⟨i, hi, e⟩ := h; exact hCM i k hi hk e
  have nMC : ∀ k, k < 143 → ¬ AM adM (adC k) := fun k hk h => by obtain ⟨i, hi, e⟩ := h; exact hCM k i hk hi e.symm
  have nCO : ¬ AC adC qo := fun h => by obtain ⟨i, hi, e⟩ := h; exact hCO i hi e
  have nMO : ¬ AM adM qo := fun h => by obtain ⟨i, hi, e⟩ := h; exact hMO i hi e
  have ix : ∀ k : Nat, k < 6 → vp_in (x4 + nI k) L := fun k hk => by rw [ex, nI_add]; exact vp_in_nI (by omega) (by omega)
  obtain ⟨r, C1, R1, e1, e2, hR1⟩ := sim_table hRel (xs (x4 + nI 1).toNatClampNeg) (xs (x4 + nI 2).toNatClampNeg) (xs (x4 + nI 3).toNatClampNeg)
  refine lv_aload_n hx hb dL_law_398 rfl (lv_at hl 3 rfl) ?_
  refine lv_aload_n hx hb dL_law_399 rfl (lv_at hl 4 rfl) ?_
  refine lv_iload hx hb dL_law_400 (lv_at hl 0 rfl) ?_
  refine lv_iconst (v := (1 : Int32)) hx hb dL_law_402 (by decide) ?_
  refine lv_iadd hx hb dL_law_403 ?_
  refine va_sld hx hb hXs hbl hbA hS (ix 1 (by omega)) dL_law_404 ?_
  refine lv_aload_n hx hb dL_law_405 rfl (lv_at hl 4 rfl) ?_
  refine lv_iload hx hb dL_law_406 (lv_at hl 0 rfl) ?_
  refine lv_iconst (v := (2 : Int32)) hx hb dL_law_408 (by decide) ?_
  refine lv_iadd hx hb dL_law_409 ?_
  refine va_sld hx hb hXs hbl hbA hS (ix 2 (by omega)) dL_law_410 ?_
  refine lv_aload_n hx hb dL_law_411 rfl (lv_at hl 4 rfl) ?_
  refine lv_iload hx hb dL_law_412 (lv_at hl 0 rfl) ?_
  refine lv_iconst (v := (3 : Int32)) hx hb dL_law_414 (by decide) ?_
  refine lv_iadd hx hb dL_law_415 ?_
  refine va_sld hx hb hXs hbl hbA hS (ix 3 (by omega)) dL_law_416 ?_
  refine l_call (va_runV (As := [.int (xs (x4 + nI 1).toNatClampNeg), .int (xs (x4 + nI 2).toNatClampNeg), .int (xs (x4 + nI 3).toNatClampNeg)]) (rest := []) ⟨hx, hb, hml, hown, hts⟩ (c_X5_table hIC hAC' e1) (cwV 3 hts gL_law_X5_table rfl rfl rfl (by decide +kernel) ⟨Nat.le_of_ble_eq_true rfl, Nat.le_of_ble_eq_true rfl⟩) (l_PV (XCb _) (fun U hU hW => XC_nar sC (XCo (AL s) s U H hW hS.2.1 hXW.1.1)) hK hPC obX5 rfl) rfl rfl hl.1 rfl (lv_room (Nat.le_of_ble_eq_true rfl)) dL_law_417 ⟨by show _ ≤ 601024; omega, by show _ ≤ 7293034; omega⟩) hS sC (fun H1 locs1 hPC hk1 hS => ?_)
  have hPM := P_keep hPM hk1 nCM
  have hPO := P_keep1 hPO (hk1 qo (hPO 0 _ rfl).lt nCO)
  generalize H1 = H at hPC hPM hPO hS ⊢
  clear hk1
  refine lv_aload_n hx hb dL_law_420 rfl (lv_at hl 2 rfl) ?_
  refine lv_aload_n hx hb dL_law_421 rfl (lv_at hl 4 rfl) ?_
  refine lv_iload hx hb dL_law_422 (lv_at hl 0 rfl) ?_
  refine lv_iconst (v := (1 : Int32)) hx hb dL_law_424 (by decide) ?_
  refine lv_iadd hx hb dL_law_425 ?_
  refine va_sld hx hb hXs hbl hbA hS (ix 1 (by omega)) dL_law_426 ?_
  refine lv_aload_n hx hb dL_law_427 rfl (lv_at hl 4 rfl) ?_
  refine lv_iload hx hb dL_law_428 (lv_at hl 0 rfl) ?_
  refine lv_iconst (v := (2 : Int32)) hx hb dL_law_430 (by decide) ?_
  refine lv_iadd hx hb dL_law_431 ?_
  refine va_sld hx hb hXs hbl hbA hS (ix 2 (by omega)) dL_law_432 ?_
  refine lv_aload_n hx hb dL_law_433 rfl (lv_at hl 4 rfl) ?_
  refine lv_iload hx hb dL_law_434 (lv_at hl 0 rfl) ?_
  refine lv_iconst (v := (3 : Int32)) hx hb dL_law_436 (by decide) ?_
  refine lv_iadd hx hb dL_law_437 ?_
  refine va_sld hx hb hXs hbl hbA hS (ix 3 (by omega)) dL_law_438 ?_
  refine l_call (va_runV (As := [.int (xs (x4 + nI 1).toNatClampNeg), .int (xs (x4 + nI 2).toNatClampNeg), .int (xs (x4 + nI 3).toNatClampNeg)]) (rest := [.int r]) ⟨hx, hb, hml, hown, hts⟩ (c_X6_table (cP := cP) (cR := cR) hIM hAM' e2) (cwV 3 hts gL_law_X6_table rfl rfl rfl (by decide +kernel) ⟨Nat.le_of_ble_eq_true rfl, Nat.le_of_ble_eq_true rfl⟩) (l_PV XMb (fun _ _ _ => trivial) hK hPM obX6 rfl) rfl rfl hl.1 rfl (lv_room (Nat.le_of_ble_eq_true rfl)) dL_law_439 ⟨by show _ ≤ 601024; omega, by show _ ≤ 7293034; omega⟩) hS sM (fun H1 locs1 hPM hk1 hS => ?_)
  have hPC := P_keep hPC hk1 nMC
  have hPO := P_keep1 hPO (hk1 qo (hPO 0 _ rfl).lt nMO)
  refine lv_icmp_eq (tgt := 953) hx hb dL_law_442 (by decide) (fun _ => ?_) (fun hc => absurd rfl hc)
  refine W.widen (k := 169 + (j + 1)) (n := 36539 + 6 * (j + 1)) (by omega) (by omega) ?_
  exact kk C1 R1 f H1 locs1 ls ⟨hPC, hPM, hPO, hS, hR1⟩ hl
set_option maxHeartbeats 4000000 in
set_option maxRecDepth 100000 in
theorem lc_data {p : Program} {e : Env} {s : State} {m : MethodId} {below : List Frame} {meth : Method} {c : Code} {l : Launch} {b L : Nat} {xs : Nat → Int32} {D : va_G} {adC adM : Nat → Nat} {cI cZ cP cR cL : ClassId} {qo : Nat} {Q : State → Prop} (X : LWx p s m meth c l b L xs D adC adM cI cZ cP cR cL qo) {j : Nat} {x4 : Int32} (hj : 6 * j + 6 ≤ L) (ex : x4 = nI (6 * j)) {C R : Mem} {f : Nat → Int64} {H : Heap} {locs : List Loc} {ls : Array Slot} (hs : LWs s D adC adM cI cZ cP cR cL qo C R f H locs) (hl : lv_has ls 7 [(4, .int x4), (3, .ref qo), (2, .ref (adM 0)), (1, .ref (adC 0)), (0, .ref b)])
    (kk : ∀ (C R : Mem) (f : Nat → Int64) (H : Heap) (locs : List Loc) (ls : Array Slot), LWs s D adC adM cI cZ cP cR cL qo C R f H locs → lv_has ls 7 [(4, .int x4), (3, .ref qo), (2, .ref (adM 0)), (1, .ref (adC 0)), (0, .ref b)] → W p l e room_1 s m #[Value.ref b] below meth c H locs (169 + (j + 1)) (36539 + 6 * (j + 1)) Q (F0 m 953 ls [])) :
    W p l e room_1 s m #[Value.ref b] below meth c H locs (169 + j) (36539 + 6 * j) Q (F0 m 447 ls []) := by
  obtain ⟨hnt, ⟨hx, hb, hr, hml, hown, hts0, hXs, hbl, hlocks, hgv⟩, hK, hKL, hIC, hIM, hAC, hAM, hqo, hCM, hCO, hMO, hXW, hL⟩ := X
  have hts := fun w h => hts0 w (wsL_law_in w h)
  obtain ⟨hPC, hPM, hPO, hS, hRel⟩ := hs
  have hbA : ¬ (AL s) b := Nat.not_le.mpr hbl
  have hAC' : ∀ k, k < 143 → AC adC (adC k) := fun k hk => ⟨k, hk, rfl⟩
  have hAM' : ∀ k, k < 25 → AM adM (adM k) := fun k hk => ⟨k, hk, rfl⟩
  have sC : ∀ q, AC adC q → AL s q := fun q h => by obtain ⟨k, hk, rfl⟩ := h; exact hAC k hk
  have sM : ∀ q, AM adM q → AL s q := fun q h => by obtain ⟨k, hk, rfl⟩ := h; exact hAM k hk
  have nCM : ∀ k, k < 25 → ¬ AC adC (adM k) := fun k hk h => by obtain ⟨i, hi, e⟩ := h; exact hCM i k hi hk e
  have nMC : ∀ k, k < 143 → ¬ AM adM (adC k) := fun k hk h => by obtain ⟨i, hi, e⟩ := h; exact hCM k i hk hi e.symm
  have nCO : ¬ AC adC qo := fun h => by obtain ⟨i, hi, e⟩ := h; exact hCO i hi e
  have nMO : ¬ AM adM qo := fun h => by obtain ⟨i, hi, e⟩ := h; exact hMO i hi e
  have ix : ∀ k : Nat, k < 6 → vp_in (x4 + nI k) L := fun k hk => by rw [ex, nI_add]; exact vp_in_nI (by omega) (by omega)
  obtain ⟨r, C1, R1, e1, e2, hR1⟩ := sim_data hRel (xs (x4 + nI 1).toNatClampNeg) (xs (x4 + nI 2).toNatClampNeg) (xs (x4 + nI 3).toNatClampNeg) (xs (x4 + nI 4).toNatClampNeg) (xs (x4 + nI 5).toNatClampNeg)
  refine lv_aload_n hx hb dL_law_447 rfl (lv_at hl 3 rfl) ?_
  refine lv_aload_n hx hb dL_law_448 rfl (lv_at hl 4 rfl) ?_
  refine lv_iload hx hb dL_law_449 (lv_at hl 0 rfl) ?_
  refine lv_iconst (v := (1 : Int32)) hx hb dL_law_451 (by decide) ?_
  refine lv_iadd hx hb dL_law_452 ?_
  refine va_sld hx hb hXs hbl hbA hS (ix 1 (by omega)) dL_law_453 ?_
  refine lv_aload_n hx hb dL_law_454 rfl (lv_at hl 4 rfl) ?_
  refine lv_iload hx hb dL_law_455 (lv_at hl 0 rfl) ?_
  refine lv_iconst (v := (2 : Int32)) hx hb dL_law_457 (by decide) ?_
  refine lv_iadd hx hb dL_law_458 ?_
  refine va_sld hx hb hXs hbl hbA hS (ix 2 (by omega)) dL_law_459 ?_
  refine lv_aload_n hx hb dL_law_460 rfl (lv_at hl 4 rfl) ?_
  refine lv_iload hx hb dL_law_461 (lv_at hl 0 rfl) ?_
  refine lv_iconst (v := (3 : Int32)) hx hb dL_law_463 (by decide) ?_
  refine lv_iadd hx hb dL_law_464 ?_
  refine va_sld hx hb hXs hbl hbA hS (ix 3 (by omega)) dL_law_465 ?_
  refine lv_aload_n hx hb dL_law_466 rfl (lv_at hl 4 rfl) ?_
  refine lv_iload hx hb dL_law_467 (lv_at hl 0 rfl) ?_
  refine lv_iconst (v := (4 : Int32)) hx hb dL_law_469 (by decide) ?_
  refine lv_iadd hx hb dL_law_470 ?_
  refine va_sld hx hb hXs hbl hbA hS (ix 4 (by omega)) dL_law_471 ?_
  refine lv_aload_n hx hb dL_law_472 rfl (lv_at hl 4 rfl) ?_
  refine lv_iload hx hb dL_law_473 (lv_at hl 0 rfl) ?_
  refine lv_iconst (v := (5 : Int32)) hx hb dL_law_475 (by decide) ?_
  refine lv_iadd hx hb dL_law_476 ?_
  refine va_sld hx hb hXs hbl hbA hS (ix 5 (by omega)) dL_law_477 ?_
  refine l_call (va_runV (As := [.int (xs (x4 + nI 1).toNatClampNeg), .int (xs (x4 + nI 2).toNatClampNeg), .int (xs (x4 + nI 3).toNatClampNeg), .int (xs (x4 + nI 4).toNatClampNeg), .int (xs (x4 + nI 5).toNatClampNeg)]) (rest := []) ⟨hx, hb, hml, hown, hts⟩ (c_X5_data hIC hAC' e1) (cwV 5 hts gL_law_X5_data rfl rfl rfl (by decide +kernel) ⟨Nat.le_of_ble_eq_true rfl, Nat.le_of_ble_eq_true rfl⟩) (l_PV (XCb _) (fun U hU hW => XC_nar sC (XCo (AL s) s U H hW hS.2.1 hXW.1.1)) hK hPC obX5 rfl) rfl rfl hl.1 rfl (lv_room (Nat.le_of_ble_eq_true rfl)) dL_law_478 ⟨by show _ ≤ 601024; omega, by show _ ≤ 7293034; omega⟩) hS sC (fun H1 locs1 hPC hk1 hS => ?_)
  have hPM := P_keep hPM hk1 nCM
  have hPO := P_keep1 hPO (hk1 qo (hPO 0 _ rfl).lt nCO)
  generalize H1 = H at hPC hPM hPO hS ⊢
  clear hk1
  refine lv_aload_n hx hb dL_law_481 rfl (lv_at hl 2 rfl) ?_
  refine lv_aload_n hx hb dL_law_482 rfl (lv_at hl 4 rfl) ?_
  refine lv_iload hx hb dL_law_483 (lv_at hl 0 rfl) ?_
  refine lv_iconst (v := (1 : Int32)) hx hb dL_law_485 (by decide) ?_
  refine lv_iadd hx hb dL_law_486 ?_
  refine va_sld hx hb hXs hbl hbA hS (ix 1 (by omega)) dL_law_487 ?_
  refine lv_aload_n hx hb dL_law_488 rfl (lv_at hl 4 rfl) ?_
  refine lv_iload hx hb dL_law_489 (lv_at hl 0 rfl) ?_
  refine lv_iconst (v := (2 : Int32)) hx hb dL_law_491 (by decide) ?_
  refine lv_iadd hx hb dL_law_492 ?_
  refine va_sld hx hb hXs hbl hbA hS (ix 2 (by omega)) dL_law_493 ?_
  refine lv_aload_n hx hb dL_law_494 rfl (lv_at hl 4 rfl) ?_
  refine lv_iload hx hb dL_law_495 (lv_at hl 0 rfl) ?_
  refine lv_iconst (v := (3 : Int32)) hx hb dL_law_497 (by decide) ?_
  refine lv_iadd hx hb dL_law_498 ?_
  refine va_sld hx hb hXs hbl hbA hS (ix 3 (by omega)) dL_law_499 ?_
  refine lv_aload_n hx hb dL_law_500 rfl (lv_at hl 4 rfl) ?_
  refine lv_iload hx hb dL_law_501 (lv_at hl 0 rfl) ?_
  refine lv_iconst (v := (4 : Int32)) hx hb dL_law_503 (by decide) ?_
  refine lv_iadd hx hb dL_law_504 ?_
  refine va_sld hx hb hXs hbl hbA hS (ix 4 (by omega)) dL_law_505 ?_
  refine lv_aload_n hx hb dL_law_506 rfl (lv_at hl 4 rfl) ?_
  refine lv_iload hx hb dL_law_507 (lv_at hl 0 rfl) ?_
  refine lv_iconst (v := (5 : Int32)) hx hb dL_law_509 (by decide) ?_
  refine lv_iadd hx hb dL_law_510 ?_
  refine va_sld hx hb hXs hbl hbA hS (ix 5 (by omega)) dL_law_511 ?_
  refine l_call (va_runV (As := [.int (xs (x4 + nI 1).toNatClampNeg), .int (xs (x4 + nI 2).toNatClampNeg), .int (xs (x4 + nI 3).toNatClampNeg), .int (xs (x4 + nI 4).toNatClampNeg), .int (xs (x4 + nI 5).toNatClampNeg)]) (rest := [.int r]) ⟨hx, hb, hml, hown, hts⟩ (c_X6_data (cP := cP) (cR := cR) hIM hAM' e2) (cwV 5 hts gL_law_X6_data rfl rfl rfl (by decide +kernel) ⟨Nat.le_of_ble_eq_true rfl, Nat.le_of_ble_eq_true rfl⟩) (l_PV XMb (fun _ _ _ => trivial) hK hPM obX6 rfl) rfl rfl hl.1 rfl (lv_room (Nat.le_of_ble_eq_true rfl)) dL_law_512 ⟨by show _ ≤ 601024; omega, by show _ ≤ 7293034; omega⟩) hS sM (fun H1 locs1 hPM hk1 hS => ?_)
  have hPC := P_keep hPC hk1 nMC
  have hPO := P_keep1 hPO (hk1 qo (hPO 0 _ rfl).lt nMO)
  refine lv_icmp_eq (tgt := 953) hx hb dL_law_515 (by decide) (fun _ => ?_) (fun hc => absurd rfl hc)
  refine W.widen (k := 169 + (j + 1)) (n := 36539 + 6 * (j + 1)) (by omega) (by omega) ?_
  exact kk C1 R1 f H1 locs1 ls ⟨hPC, hPM, hPO, hS, hR1⟩ hl
set_option maxHeartbeats 4000000 in
set_option maxRecDepth 100000 in
theorem lc_share {p : Program} {e : Env} {s : State} {m : MethodId} {below : List Frame} {meth : Method} {c : Code} {l : Launch} {b L : Nat} {xs : Nat → Int32} {D : va_G} {adC adM : Nat → Nat} {cI cZ cP cR cL : ClassId} {qo : Nat} {Q : State → Prop} (X : LWx p s m meth c l b L xs D adC adM cI cZ cP cR cL qo) {j : Nat} {x4 : Int32} (hj : 6 * j + 6 ≤ L) (ex : x4 = nI (6 * j)) {C R : Mem} {f : Nat → Int64} {H : Heap} {locs : List Loc} {ls : Array Slot} (hs : LWs s D adC adM cI cZ cP cR cL qo C R f H locs) (hl : lv_has ls 7 [(4, .int x4), (3, .ref qo), (2, .ref (adM 0)), (1, .ref (adC 0)), (0, .ref b)])
    (kk : ∀ (C R : Mem) (f : Nat → Int64) (H : Heap) (locs : List Loc) (ls : Array Slot), LWs s D adC adM cI cZ cP cR cL qo C R f H locs → lv_has ls 7 [(4, .int x4), (3, .ref qo), (2, .ref (adM 0)), (1, .ref (adC 0)), (0, .ref b)] → W p l e room_1 s m #[Value.ref b] below meth c H locs (169 + (j + 1)) (36539 + 6 * (j + 1)) Q (F0 m 953 ls [])) :
    W p l e room_1 s m #[Value.ref b] below meth c H locs (169 + j) (36539 + 6 * j) Q (F0 m 520 ls []) := by
  obtain ⟨hnt, ⟨hx, hb, hr, hml, hown, hts0, hXs, hbl, hlocks, hgv⟩, hK, hKL, hIC, hIM, hAC, hAM, hqo, hCM, hCO, hMO, hXW, hL⟩ := X
  have hts := fun w h => hts0 w (wsL_law_in w h)
  obtain ⟨hPC, hPM, hPO, hS, hRel⟩ := hs
  have hbA : ¬ (AL s) b := Nat.not_le.mpr hbl
  have hAC' : ∀ k, k < 143 → AC adC (adC k) := fun k hk => ⟨k, hk, rfl⟩
  have hAM' : ∀ k, k < 25 → AM adM (adM k) := fun k hk => ⟨k, hk, rfl⟩
  have sC : ∀ q, AC adC q → AL s q := fun q h => by obtain ⟨k, hk, rfl⟩ := h; exact hAC k hk
  have sM : ∀ q, AM adM q → AL s q := fun q h => by obtain ⟨k, hk, rfl⟩ := h; exact hAM k hk
  have nCM : ∀ k, k < 25 → ¬ AC adC (adM k) := fun k hk h => by obtain ⟨i, hi, e⟩ := h; exact hCM i k hi hk e
  have nMC : ∀ k, k < 143 → ¬ AM adM (adC k) := fun k hk h => by obtain ⟨i, hi, e⟩ := h; exact hCM k i hk hi e.symm
  have nCO : ¬ AC adC qo := fun h => by obtain ⟨i, hi, e⟩ := h; exact hCO i hi e
  have nMO : ¬ AM adM qo := fun h => by obtain ⟨i, hi, e⟩ := h; exact hMO i hi e
  have ix : ∀ k : Nat, k < 6 → vp_in (x4 + nI k) L := fun k hk => by rw [ex, nI_add]; exact vp_in_nI (by omega) (by omega)
  obtain ⟨r, C1, R1, e1, e2, hR1⟩ := sim_share hRel (xs (x4 + nI 1).toNatClampNeg) (xs (x4 + nI 2).toNatClampNeg) (xs (x4 + nI 3).toNatClampNeg) (xs (x4 + nI 4).toNatClampNeg)
  refine lv_aload_n hx hb dL_law_520 rfl (lv_at hl 3 rfl) ?_
  refine lv_aload_n hx hb dL_law_521 rfl (lv_at hl 4 rfl) ?_
  refine lv_iload hx hb dL_law_522 (lv_at hl 0 rfl) ?_
  refine lv_iconst (v := (1 : Int32)) hx hb dL_law_524 (by decide) ?_
  refine lv_iadd hx hb dL_law_525 ?_
  refine va_sld hx hb hXs hbl hbA hS (ix 1 (by omega)) dL_law_526 ?_
  refine lv_aload_n hx hb dL_law_527 rfl (lv_at hl 4 rfl) ?_
  refine lv_iload hx hb dL_law_528 (lv_at hl 0 rfl) ?_
  refine lv_iconst (v := (2 : Int32)) hx hb dL_law_530 (by decide) ?_
  refine lv_iadd hx hb dL_law_531 ?_
  refine va_sld hx hb hXs hbl hbA hS (ix 2 (by omega)) dL_law_532 ?_
  refine lv_aload_n hx hb dL_law_533 rfl (lv_at hl 4 rfl) ?_
  refine lv_iload hx hb dL_law_534 (lv_at hl 0 rfl) ?_
  refine lv_iconst (v := (3 : Int32)) hx hb dL_law_536 (by decide) ?_
  refine lv_iadd hx hb dL_law_537 ?_
  refine va_sld hx hb hXs hbl hbA hS (ix 3 (by omega)) dL_law_538 ?_
  refine lv_aload_n hx hb dL_law_539 rfl (lv_at hl 4 rfl) ?_
  refine lv_iload hx hb dL_law_540 (lv_at hl 0 rfl) ?_
  refine lv_iconst (v := (4 : Int32)) hx hb dL_law_542 (by decide) ?_
  refine lv_iadd hx hb dL_law_543 ?_
  refine va_sld hx hb hXs hbl hbA hS (ix 4 (by omega)) dL_law_544 ?_
  refine l_call (va_runV (As := [.int (xs (x4 + nI 1).toNatClampNeg), .int (xs (x4 + nI 2).toNatClampNeg), .int (xs (x4 + nI 3).toNatClampNeg), .int (xs (x4 + nI 4).toNatClampNeg)]) (rest := []) ⟨hx, hb, hml, hown, hts⟩ (c_X5_share hIC hAC' e1) (cwV 4 hts gL_law_X5_share rfl rfl rfl (by decide +kernel) ⟨Nat.le_of_ble_eq_true rfl, Nat.le_of_ble_eq_true rfl⟩) (l_PV (XCb _) (fun U hU hW => XC_nar sC (XCo (AL s) s U H hW hS.2.1 hXW.1.1)) hK hPC obX5 rfl) rfl rfl hl.1 rfl (lv_room (Nat.le_of_ble_eq_true rfl)) dL_law_545 ⟨by show _ ≤ 601024; omega, by show _ ≤ 7293034; omega⟩) hS sC (fun H1 locs1 hPC hk1 hS => ?_)
  have hPM := P_keep hPM hk1 nCM
  have hPO := P_keep1 hPO (hk1 qo (hPO 0 _ rfl).lt nCO)
  generalize H1 = H at hPC hPM hPO hS ⊢
  clear hk1
  refine lv_aload_n hx hb dL_law_548 rfl (lv_at hl 2 rfl) ?_
  refine lv_aload_n hx hb dL_law_549 rfl (lv_at hl 4 rfl) ?_
  refine lv_iload hx hb dL_law_550 (lv_at hl 0 rfl) ?_
  refine lv_iconst (v := (1 : Int32)) hx hb dL_law_552 (by decide) ?_
  refine lv_iadd hx hb dL_law_553 ?_
  refine va_sld hx hb hXs hbl hbA hS (ix 1 (by omega)) dL_law_554 ?_
  refine lv_aload_n hx hb dL_law_555 rfl (lv_at hl 4 rfl) ?_
  refine lv_iload hx hb dL_law_556 (lv_at hl 0 rfl) ?_
  refine lv_iconst (v := (2 : Int32)) hx hb dL_law_558 (by decide) ?_
  refine lv_iadd hx hb dL_law_559 ?_
  refine va_sld hx hb hXs hbl hbA hS (ix 2 (by omega)) dL_law_560 ?_
  refine lv_aload_n hx hb dL_law_561 rfl (lv_at hl 4 rfl) ?_
  refine lv_iload hx hb dL_law_562 (lv_at hl 0 rfl) ?_
  refine lv_iconst (v := (3 : Int32)) hx hb dL_law_564 (by decide) ?_
  refine lv_iadd hx hb dL_law_565 ?_
  refine va_sld hx hb hXs hbl hbA hS (ix 3 (by omega)) dL_law_566 ?_
  refine lv_aload_n hx hb dL_law_567 rfl (lv_at hl 4 rfl) ?_
  refine lv_iload hx hb dL_law_568 (lv_at hl 0 rfl) ?_
  refine lv_iconst (v := (4 : Int32)) hx hb dL_law_570 (by decide) ?_
  refine lv_iadd hx hb dL_law_571 ?_
  refine va_sld hx hb hXs hbl hbA hS (ix 4 (by omega)) dL_law_572 ?_
  refine l_call (va_runV (As := [.int (xs (x4 + nI 1).toNatClampNeg), .int (xs (x4 + nI 2).toNatClampNeg), .int (xs (x4 + nI 3).toNatClampNeg), .int (xs (x4 + nI 4).toNatClampNeg)]) (rest := [.int r]) ⟨hx, hb, hml, hown, hts⟩ (c_X6_share (cP := cP) (cR := cR) hIM hAM' e2) (cwV 4 hts gL_law_X6_share rfl rfl rfl (by decide +kernel) ⟨Nat.le_of_ble_eq_true rfl, Nat.le_of_ble_eq_true rfl⟩) (l_PV XMb (fun _ _ _ => trivial) hK hPM obX6 rfl) rfl rfl hl.1 rfl (lv_room (Nat.le_of_ble_eq_true rfl)) dL_law_573 ⟨by show _ ≤ 601024; omega, by show _ ≤ 7293034; omega⟩) hS sM (fun H1 locs1 hPM hk1 hS => ?_)
  have hPC := P_keep hPC hk1 nMC
  have hPO := P_keep1 hPO (hk1 qo (hPO 0 _ rfl).lt nMO)
  refine lv_icmp_eq (tgt := 953) hx hb dL_law_576 (by decide) (fun _ => ?_) (fun hc => absurd rfl hc)
  refine W.widen (k := 169 + (j + 1)) (n := 36539 + 6 * (j + 1)) (by omega) (by omega) ?_
  exact kk C1 R1 f H1 locs1 ls ⟨hPC, hPM, hPO, hS, hR1⟩ hl
set_option maxHeartbeats 4000000 in
set_option maxRecDepth 100000 in
theorem lc_spare {p : Program} {e : Env} {s : State} {m : MethodId} {below : List Frame} {meth : Method} {c : Code} {l : Launch} {b L : Nat} {xs : Nat → Int32} {D : va_G} {adC adM : Nat → Nat} {cI cZ cP cR cL : ClassId} {qo : Nat} {Q : State → Prop} (X : LWx p s m meth c l b L xs D adC adM cI cZ cP cR cL qo) {j : Nat} {x4 : Int32} (hj : 6 * j + 6 ≤ L) (ex : x4 = nI (6 * j)) {C R : Mem} {f : Nat → Int64} {H : Heap} {locs : List Loc} {ls : Array Slot} (hs : LWs s D adC adM cI cZ cP cR cL qo C R f H locs) (hl : lv_has ls 7 [(4, .int x4), (3, .ref qo), (2, .ref (adM 0)), (1, .ref (adC 0)), (0, .ref b)])
    (kk : ∀ (C R : Mem) (f : Nat → Int64) (H : Heap) (locs : List Loc) (ls : Array Slot), LWs s D adC adM cI cZ cP cR cL qo C R f H locs → lv_has ls 7 [(4, .int x4), (3, .ref qo), (2, .ref (adM 0)), (1, .ref (adC 0)), (0, .ref b)] → W p l e room_1 s m #[Value.ref b] below meth c H locs (169 + (j + 1)) (36539 + 6 * (j + 1)) Q (F0 m 953 ls [])) :
    W p l e room_1 s m #[Value.ref b] below meth c H locs (169 + j) (36539 + 6 * j) Q (F0 m 581 ls []) := by
  obtain ⟨hnt, ⟨hx, hb, hr, hml, hown, hts0, hXs, hbl, hlocks, hgv⟩, hK, hKL, hIC, hIM, hAC, hAM, hqo, hCM, hCO, hMO, hXW, hL⟩ := X
  have hts := fun w h => hts0 w (wsL_law_in w h)
  obtain ⟨hPC, hPM, hPO, hS, hRel⟩ := hs
  have hbA : ¬ (AL s) b := Nat.not_le.mpr hbl
  have hAC' : ∀ k, k < 143 → AC adC (adC k) := fun k hk => ⟨k, hk, rfl⟩
  have hAM' : ∀ k, k < 25 → AM adM (adM k) := fun k hk => ⟨k, hk, rfl⟩
  have sC : ∀ q, AC adC q → AL s q := fun q h => by obtain ⟨k, hk, rfl⟩ := h; exact hAC k hk
  have sM : ∀ q, AM adM q → AL s q := fun q h => by obtain ⟨k, hk, rfl⟩ := h; exact hAM k hk
  have nCM : ∀ k, k < 25 → ¬ AC adC (adM k) := fun k hk h => by obtain ⟨i, hi, e⟩ := h; exact hCM i k hi hk e
  have nMC : ∀ k, k < 143 → ¬ AM adM (adC k) := fun k hk h => by obtain ⟨i, hi, e⟩ := h; exact hCM k i hk hi e.symm
  have nCO : ¬ AC adC qo := fun h => by obtain ⟨i, hi, e⟩ := h; exact hCO i hi e
  have nMO : ¬ AM adM qo := fun h => by obtain ⟨i, hi, e⟩ := h; exact hMO i hi e
  have ix : ∀ k : Nat, k < 6 → vp_in (x4 + nI k) L := fun k hk => by rw [ex, nI_add]; exact vp_in_nI (by omega) (by omega)
  obtain ⟨r, C1, R1, e1, e2, hR1⟩ := sim_spare hRel (xs (x4 + nI 1).toNatClampNeg) (xs (x4 + nI 2).toNatClampNeg)
  refine lv_aload_n hx hb dL_law_581 rfl (lv_at hl 3 rfl) ?_
  refine lv_aload_n hx hb dL_law_582 rfl (lv_at hl 4 rfl) ?_
  refine lv_iload hx hb dL_law_583 (lv_at hl 0 rfl) ?_
  refine lv_iconst (v := (1 : Int32)) hx hb dL_law_585 (by decide) ?_
  refine lv_iadd hx hb dL_law_586 ?_
  refine va_sld hx hb hXs hbl hbA hS (ix 1 (by omega)) dL_law_587 ?_
  refine lv_aload_n hx hb dL_law_588 rfl (lv_at hl 4 rfl) ?_
  refine lv_iload hx hb dL_law_589 (lv_at hl 0 rfl) ?_
  refine lv_iconst (v := (2 : Int32)) hx hb dL_law_591 (by decide) ?_
  refine lv_iadd hx hb dL_law_592 ?_
  refine va_sld hx hb hXs hbl hbA hS (ix 2 (by omega)) dL_law_593 ?_
  refine l_call (va_runV (As := [.int (xs (x4 + nI 1).toNatClampNeg), .int (xs (x4 + nI 2).toNatClampNeg)]) (rest := []) ⟨hx, hb, hml, hown, hts⟩ (c_X5_spare hIC hAC' e1) (cwV 2 hts gL_law_X5_spare rfl rfl rfl (by decide +kernel) ⟨Nat.le_of_ble_eq_true rfl, Nat.le_of_ble_eq_true rfl⟩) (l_PV (XCb _) (fun U hU hW => XC_nar sC (XCo (AL s) s U H hW hS.2.1 hXW.1.1)) hK hPC obX5 rfl) rfl rfl hl.1 rfl (lv_room (Nat.le_of_ble_eq_true rfl)) dL_law_594 ⟨by show _ ≤ 601024; omega, by show _ ≤ 7293034; omega⟩) hS sC (fun H1 locs1 hPC hk1 hS => ?_)
  have hPM := P_keep hPM hk1 nCM
  have hPO := P_keep1 hPO (hk1 qo (hPO 0 _ rfl).lt nCO)
  generalize H1 = H at hPC hPM hPO hS ⊢
  clear hk1
  refine lv_aload_n hx hb dL_law_597 rfl (lv_at hl 2 rfl) ?_
  refine lv_aload_n hx hb dL_law_598 rfl (lv_at hl 4 rfl) ?_
  refine lv_iload hx hb dL_law_599 (lv_at hl 0 rfl) ?_
  refine lv_iconst (v := (1 : Int32)) hx hb dL_law_601 (by decide) ?_
  refine lv_iadd hx hb dL_law_602 ?_
  refine va_sld hx hb hXs hbl hbA hS (ix 1 (by omega)) dL_law_603 ?_
  refine lv_aload_n hx hb dL_law_604 rfl (lv_at hl 4 rfl) ?_
  refine lv_iload hx hb dL_law_605 (lv_at hl 0 rfl) ?_
  refine lv_iconst (v := (2 : Int32)) hx hb dL_law_607 (by decide) ?_
  refine lv_iadd hx hb dL_law_608 ?_
  refine va_sld hx hb hXs hbl hbA hS (ix 2 (by omega)) dL_law_609 ?_
  refine l_call (va_runV (As := [.int (xs (x4 + nI 1).toNatClampNeg), .int (xs (x4 + nI 2).toNatClampNeg)]) (rest := [.int r]) ⟨hx, hb, hml, hown, hts⟩ (c_X6_spare (cP := cP) (cR := cR) hIM hAM' e2) (cwV 2 hts gL_law_X6_spare rfl rfl rfl (by decide +kernel) ⟨Nat.le_of_ble_eq_true rfl, Nat.le_of_ble_eq_true rfl⟩) (l_PV XMb (fun _ _ _ => trivial) hK hPM obX6 rfl) rfl rfl hl.1 rfl (lv_room (Nat.le_of_ble_eq_true rfl)) dL_law_610 ⟨by show _ ≤ 601024; omega, by show _ ≤ 7293034; omega⟩) hS sM (fun H1 locs1 hPM hk1 hS => ?_)
  have hPC := P_keep hPC hk1 nMC
  have hPO := P_keep1 hPO (hk1 qo (hPO 0 _ rfl).lt nMO)
  refine lv_icmp_eq (tgt := 953) hx hb dL_law_613 (by decide) (fun _ => ?_) (fun hc => absurd rfl hc)
  refine W.widen (k := 169 + (j + 1)) (n := 36539 + 6 * (j + 1)) (by omega) (by omega) ?_
  exact kk C1 R1 f H1 locs1 ls ⟨hPC, hPM, hPO, hS, hR1⟩ hl
set_option maxHeartbeats 4000000 in
set_option maxRecDepth 100000 in
theorem lc_finish {p : Program} {e : Env} {s : State} {m : MethodId} {below : List Frame} {meth : Method} {c : Code} {l : Launch} {b L : Nat} {xs : Nat → Int32} {D : va_G} {adC adM : Nat → Nat} {cI cZ cP cR cL : ClassId} {qo : Nat} {Q : State → Prop} (X : LWx p s m meth c l b L xs D adC adM cI cZ cP cR cL qo) {j : Nat} {x4 : Int32} (hj : 6 * j + 6 ≤ L) (ex : x4 = nI (6 * j)) {C R : Mem} {f : Nat → Int64} {H : Heap} {locs : List Loc} {ls : Array Slot} (hs : LWs s D adC adM cI cZ cP cR cL qo C R f H locs) (hl : lv_has ls 7 [(4, .int x4), (3, .ref qo), (2, .ref (adM 0)), (1, .ref (adC 0)), (0, .ref b)])
    (kk : ∀ (C R : Mem) (f : Nat → Int64) (H : Heap) (locs : List Loc) (ls : Array Slot), LWs s D adC adM cI cZ cP cR cL qo C R f H locs → lv_has ls 7 [(4, .int x4), (3, .ref qo), (2, .ref (adM 0)), (1, .ref (adC 0)), (0, .ref b)] → W p l e room_1 s m #[Value.ref b] below meth c H locs (169 + (j + 1)) (36539 + 6 * (j + 1)) Q (F0 m 953 ls [])) :
    W p l e room_1 s m #[Value.ref b] below meth c H locs (169 + j) (36539 + 6 * j) Q (F0 m 618 ls []) := by
  obtain ⟨hnt, ⟨hx, hb, hr, hml, hown, hts0, hXs, hbl, hlocks, hgv⟩, hK, hKL, hIC, hIM, hAC, hAM, hqo, hCM, hCO, hMO, hXW, hL⟩ := X
  have hts := fun w h => hts0 w (wsL_law_in w h)
  obtain ⟨hPC, hPM, hPO, hS, hRel⟩ := hs
  have hbA : ¬ (AL s) b := Nat.not_le.mpr hbl
  have hAC' : ∀ k, k < 143 → AC adC (adC k) := fun k hk => ⟨k, hk, rfl⟩
  have hAM' : ∀ k, k < 25 → AM adM (adM k) := fun k hk => ⟨k, hk, rfl⟩
  have sC : ∀ q, AC adC q → AL s q := fun q h => by obtain ⟨k, hk, rfl⟩ := h; exact hAC k hk
  have sM : ∀ q, AM adM q → AL s q := fun q h => by obtain ⟨k, hk, rfl⟩ := h; exact hAM k hk
  have nCM : ∀ k, k < 25 → ¬ AC adC (adM k) := fun k hk h => by obtain ⟨i, hi, e⟩ := h; exact hCM i k hi hk e
  have nMC : ∀ k, k < 143 → ¬ AM adM (adC k) := fun k hk h => by obtain ⟨i, hi, e⟩ := h; exact hCM k i hk hi e.symm
  have nCO : ¬ AC adC qo := fun h => by obtain ⟨i, hi, e⟩ := h; exact hCO i hi e
  have nMO : ¬ AM adM qo := fun h => by obtain ⟨i, hi, e⟩ := h; exact hMO i hi e
  have ix : ∀ k : Nat, k < 6 → vp_in (x4 + nI k) L := fun k hk => by rw [ex, nI_add]; exact vp_in_nI (by omega) (by omega)
  obtain ⟨r, C1, R1, e1, e2, hR1⟩ := sim_finish hRel (xs (x4 + nI 1).toNatClampNeg)
  refine lv_aload_n hx hb dL_law_618 rfl (lv_at hl 3 rfl) ?_
  refine lv_aload_n hx hb dL_law_619 rfl (lv_at hl 4 rfl) ?_
  refine lv_iload hx hb dL_law_620 (lv_at hl 0 rfl) ?_
  refine lv_iconst (v := (1 : Int32)) hx hb dL_law_622 (by decide) ?_
  refine lv_iadd hx hb dL_law_623 ?_
  refine va_sld hx hb hXs hbl hbA hS (ix 1 (by omega)) dL_law_624 ?_
  refine l_call (va_runV (As := [.int (xs (x4 + nI 1).toNatClampNeg)]) (rest := []) ⟨hx, hb, hml, hown, hts⟩ (c_X5_finish hIC hAC' e1) (cwV 1 hts gL_law_X5_finish rfl rfl rfl (by decide +kernel) ⟨Nat.le_of_ble_eq_true rfl, Nat.le_of_ble_eq_true rfl⟩) (l_PV (XCb _) (fun U hU hW => XC_nar sC (XCo (AL s) s U H hW hS.2.1 hXW.1.1)) hK hPC obX5 rfl) rfl rfl hl.1 rfl (lv_room (Nat.le_of_ble_eq_true rfl)) dL_law_625 ⟨by show _ ≤ 601024; omega, by show _ ≤ 7293034; omega⟩) hS sC (fun H1 locs1 hPC hk1 hS => ?_)
  have hPM := P_keep hPM hk1 nCM
  have hPO := P_keep1 hPO (hk1 qo (hPO 0 _ rfl).lt nCO)
  generalize H1 = H at hPC hPM hPO hS ⊢
  clear hk1
  refine lv_aload_n hx hb dL_law_628 rfl (lv_at hl 2 rfl) ?_
  refine lv_aload_n hx hb dL_law_629 rfl (lv_at hl 4 rfl) ?_
  refine lv_iload hx hb dL_law_630 (lv_at hl 0 rfl) ?_
  refine lv_iconst (v := (1 : Int32)) hx hb dL_law_632 (by decide) ?_
  refine lv_iadd hx hb dL_law_633 ?_
  refine va_sld hx hb hXs hbl hbA hS (ix 1 (by omega)) dL_law_634 ?_
  refine l_call (va_runV (As := [.int (xs (x4 + nI 1).toNatClampNeg)]) (rest := [.int r]) ⟨hx, hb, hml, hown, hts⟩ (c_X6_finish (cP := cP) (cR := cR) hIM hAM' e2) (cwV 1 hts gL_law_X6_finish rfl rfl rfl (by decide +kernel) ⟨Nat.le_of_ble_eq_true rfl, Nat.le_of_ble_eq_true rfl⟩) (l_PV XMb (fun _ _ _ => trivial) hK hPM obX6 rfl) rfl rfl hl.1 rfl (lv_room (Nat.le_of_ble_eq_true rfl)) dL_law_635 ⟨by show _ ≤ 601024; omega, by show _ ≤ 7293034; omega⟩) hS sM (fun H1 locs1 hPM hk1 hS => ?_)
  have hPC := P_keep hPC hk1 nMC
  have hPO := P_keep1 hPO (hk1 qo (hPO 0 _ rfl).lt nMO)
  refine lv_icmp_eq (tgt := 953) hx hb dL_law_638 (by decide) (fun _ => ?_) (fun hc => absurd rfl hc)
  refine W.widen (k := 169 + (j + 1)) (n := 36539 + 6 * (j + 1)) (by omega) (by omega) ?_
  exact kk C1 R1 f H1 locs1 ls ⟨hPC, hPM, hPO, hS, hR1⟩ hl
set_option maxHeartbeats 4000000 in
set_option maxRecDepth 100000 in
theorem lc_stop {p : Program} {e : Env} {s : State} {m : MethodId} {below : List Frame} {meth : Method} {c : Code} {l : Launch} {b L : Nat} {xs : Nat → Int32} {D : va_G} {adC adM : Nat → Nat} {cI cZ cP cR cL : ClassId} {qo : Nat} {Q : State → Prop} (X : LWx p s m meth c l b L xs D adC adM cI cZ cP cR cL qo) {j : Nat} {x4 : Int32} (hj : 6 * j + 6 ≤ L) (ex : x4 = nI (6 * j)) {C R : Mem} {f : Nat → Int64} {H : Heap} {locs : List Loc} {ls : Array Slot} (hs : LWs s D adC adM cI cZ cP cR cL qo C R f H locs) (hl : lv_has ls 7 [(4, .int x4), (3, .ref qo), (2, .ref (adM 0)), (1, .ref (adC 0)), (0, .ref b)])
    (kk : ∀ (C R : Mem) (f : Nat → Int64) (H : Heap) (locs : List Loc) (ls : Array Slot), LWs s D adC adM cI cZ cP cR cL qo C R f H locs → lv_has ls 7 [(4, .int x4), (3, .ref qo), (2, .ref (adM 0)), (1, .ref (adC 0)), (0, .ref b)] → W p l e room_1 s m #[Value.ref b] below meth c H locs (169 + (j + 1)) (36539 + 6 * (j + 1)) Q (F0 m 953 ls [])) :
    W p l e room_1 s m #[Value.ref b] below meth c H locs (169 + j) (36539 + 6 * j) Q (F0 m 643 ls []) := by
  obtain ⟨hnt, ⟨hx, hb, hr, hml, hown, hts0, hXs, hbl, hlocks, hgv⟩, hK, hKL, hIC, hIM, hAC, hAM, hqo, hCM, hCO, hMO, hXW, hL⟩ := X
  have hts := fun w h => hts0 w (wsL_law_in w h)
  obtain ⟨hPC, hPM, hPO, hS, hRel⟩ := hs
  have hbA : ¬ (AL s) b := Nat.not_le.mpr hbl
  have hAC' : ∀ k, k < 143 → AC adC (adC k) := fun k hk => ⟨k, hk, rfl⟩
  have hAM' : ∀ k, k < 25 → AM adM (adM k) := fun k hk => ⟨k, hk, rfl⟩
  have sC : ∀ q, AC adC q → AL s q := fun q h => by obtain ⟨k, hk, rfl⟩ := h; exact hAC k hk
  have sM : ∀ q, AM adM q → AL s q := fun q h => by obtain ⟨k, hk, rfl⟩ := h; exact hAM k hk
  have nCM : ∀ k, k < 25 → ¬ AC adC (adM k) := fun k hk h => by obtain ⟨i, hi, e⟩ := h; exact hCM i k hi hk e
  have nMC : ∀ k, k < 143 → ¬ AM adM (adC k) := fun k hk h => by obtain ⟨i, hi, e⟩ := h; exact hCM k i hk hi e.symm
  have nCO : ¬ AC adC qo := fun h => by obtain ⟨i, hi, e⟩ := h; exact hCO i hi e
  have nMO : ¬ AM adM qo := fun h => by obtain ⟨i, hi, e⟩ := h; exact hMO i hi e
  have ix : ∀ k : Nat, k < 6 → vp_in (x4 + nI k) L := fun k hk => by rw [ex, nI_add]; exact vp_in_nI (by omega) (by omega)
  obtain ⟨r, C1, R1, e1, e2, hR1⟩ := sim_stop hRel (xs (x4 + nI 1).toNatClampNeg)
  refine lv_aload_n hx hb dL_law_643 rfl (lv_at hl 3 rfl) ?_
  refine lv_aload_n hx hb dL_law_644 rfl (lv_at hl 4 rfl) ?_
  refine lv_iload hx hb dL_law_645 (lv_at hl 0 rfl) ?_
  refine lv_iconst (v := (1 : Int32)) hx hb dL_law_647 (by decide) ?_
  refine lv_iadd hx hb dL_law_648 ?_
  refine va_sld hx hb hXs hbl hbA hS (ix 1 (by omega)) dL_law_649 ?_
  refine l_call (va_runV (As := [.int (xs (x4 + nI 1).toNatClampNeg)]) (rest := []) ⟨hx, hb, hml, hown, hts⟩ (c_X5_stop hIC hAC' e1) (cwV 1 hts gL_law_X5_stop rfl rfl rfl (by decide +kernel) ⟨Nat.le_of_ble_eq_true rfl, Nat.le_of_ble_eq_true rfl⟩) (l_PV (XCb _) (fun U hU hW => XC_nar sC (XCo (AL s) s U H hW hS.2.1 hXW.1.1)) hK hPC obX5 rfl) rfl rfl hl.1 rfl (lv_room (Nat.le_of_ble_eq_true rfl)) dL_law_650 ⟨by show _ ≤ 601024; omega, by show _ ≤ 7293034; omega⟩) hS sC (fun H1 locs1 hPC hk1 hS => ?_)
  have hPM := P_keep hPM hk1 nCM
  have hPO := P_keep1 hPO (hk1 qo (hPO 0 _ rfl).lt nCO)
  generalize H1 = H at hPC hPM hPO hS ⊢
  clear hk1
  refine lv_aload_n hx hb dL_law_653 rfl (lv_at hl 2 rfl) ?_
  refine lv_aload_n hx hb dL_law_654 rfl (lv_at hl 4 rfl) ?_
  refine lv_iload hx hb dL_law_655 (lv_at hl 0 rfl) ?_
  refine lv_iconst (v := (1 : Int32)) hx hb dL_law_657 (by decide) ?_
  refine lv_iadd hx hb dL_law_658 ?_
  refine va_sld hx hb hXs hbl hbA hS (ix 1 (by omega)) dL_law_659 ?_
  refine l_call (va_runV (As := [.int (xs (x4 + nI 1).toNatClampNeg)]) (rest := [.int r]) ⟨hx, hb, hml, hown, hts⟩ (c_X6_stop (cP := cP) (cR := cR) hIM hAM' e2) (cwV 1 hts gL_law_X6_stop rfl rfl rfl (by decide +kernel) ⟨Nat.le_of_ble_eq_true rfl, Nat.le_of_ble_eq_true rfl⟩) (l_PV XMb (fun _ _ _ => trivial) hK hPM obX6 rfl) rfl rfl hl.1 rfl (lv_room (Nat.le_of_ble_eq_true rfl)) dL_law_660 ⟨by show _ ≤ 601024; omega, by show _ ≤ 7293034; omega⟩) hS sM (fun H1 locs1 hPM hk1 hS => ?_)
  have hPC := P_keep hPC hk1 nMC
  have hPO := P_keep1 hPO (hk1 qo (hPO 0 _ rfl).lt nMO)
  refine lv_icmp_eq (tgt := 953) hx hb dL_law_663 (by decide) (fun _ => ?_) (fun hc => absurd rfl hc)
  refine W.widen (k := 169 + (j + 1)) (n := 36539 + 6 * (j + 1)) (by omega) (by omega) ?_
  exact kk C1 R1 f H1 locs1 ls ⟨hPC, hPM, hPO, hS, hR1⟩ hl
set_option maxHeartbeats 4000000 in
set_option maxRecDepth 100000 in
theorem lc_remove {p : Program} {e : Env} {s : State} {m : MethodId} {below : List Frame} {meth : Method} {c : Code} {l : Launch} {b L : Nat} {xs : Nat → Int32} {D : va_G} {adC adM : Nat → Nat} {cI cZ cP cR cL : ClassId} {qo : Nat} {Q : State → Prop} (X : LWx p s m meth c l b L xs D adC adM cI cZ cP cR cL qo) {j : Nat} {x4 : Int32} (hj : 6 * j + 6 ≤ L) (ex : x4 = nI (6 * j)) {C R : Mem} {f : Nat → Int64} {H : Heap} {locs : List Loc} {ls : Array Slot} (hs : LWs s D adC adM cI cZ cP cR cL qo C R f H locs) (hl : lv_has ls 7 [(4, .int x4), (3, .ref qo), (2, .ref (adM 0)), (1, .ref (adC 0)), (0, .ref b)])
    (kk : ∀ (C R : Mem) (f : Nat → Int64) (H : Heap) (locs : List Loc) (ls : Array Slot), LWs s D adC adM cI cZ cP cR cL qo C R f H locs → lv_has ls 7 [(4, .int x4), (3, .ref qo), (2, .ref (adM 0)), (1, .ref (adC 0)), (0, .ref b)] → W p l e room_1 s m #[Value.ref b] below meth c H locs (169 + (j + 1)) (36539 + 6 * (j + 1)) Q (F0 m 953 ls [])) :
    W p l e room_1 s m #[Value.ref b] below meth c H locs (169 + j) (36539 + 6 * j) Q (F0 m 668 ls []) := by
  obtain ⟨hnt, ⟨hx, hb, hr, hml, hown, hts0, hXs, hbl, hlocks, hgv⟩, hK, hKL, hIC, hIM, hAC, hAM, hqo, hCM, hCO, hMO, hXW, hL⟩ := X
  have hts := fun w h => hts0 w (wsL_law_in w h)
  obtain ⟨hPC, hPM, hPO, hS, hRel⟩ := hs
  have hbA : ¬ (AL s) b := Nat.not_le.mpr hbl
  have hAC' : ∀ k, k < 143 → AC adC (adC k) := fun k hk => ⟨k, hk, rfl⟩
  have hAM' : ∀ k, k < 25 → AM adM (adM k) := fun k hk => ⟨k, hk, rfl⟩
  have sC : ∀ q, AC adC q → AL s q := fun q h => by obtain ⟨k, hk, rfl⟩ := h; exact hAC k hk
  have sM : ∀ q, AM adM q → AL s q := fun q h => by obtain ⟨k, hk, rfl⟩ := h; exact hAM k hk
  have nCM : ∀ k, k < 25 → ¬ AC adC (adM k) := fun k hk h => by obtain ⟨i, hi, e⟩ := h; exact hCM i k hi hk e
  have nMC : ∀ k, k < 143 → ¬ AM adM (adC k) := fun k hk h => by obtain ⟨i, hi, e⟩ := h; exact hCM k i hk hi e.symm
  have nCO : ¬ AC adC qo := fun h => by obtain ⟨i, hi, e⟩ := h; exact hCO i hi e
  have nMO : ¬ AM adM qo := fun h => by obtain ⟨i, hi, e⟩ := h; exact hMO i hi e
  have ix : ∀ k : Nat, k < 6 → vp_in (x4 + nI k) L := fun k hk => by rw [ex, nI_add]; exact vp_in_nI (by omega) (by omega)
  obtain ⟨r, C1, R1, e1, e2, hR1⟩ := sim_remove hRel (xs (x4 + nI 1).toNatClampNeg)
  refine lv_aload_n hx hb dL_law_668 rfl (lv_at hl 3 rfl) ?_
  refine lv_aload_n hx hb dL_law_669 rfl (lv_at hl 4 rfl) ?_
  refine lv_iload hx hb dL_law_670 (lv_at hl 0 rfl) ?_
  refine lv_iconst (v := (1 : Int32)) hx hb dL_law_672 (by decide) ?_
  refine lv_iadd hx hb dL_law_673 ?_
  refine va_sld hx hb hXs hbl hbA hS (ix 1 (by omega)) dL_law_674 ?_
  refine l_call (va_runV (As := [.int (xs (x4 + nI 1).toNatClampNeg)]) (rest := []) ⟨hx, hb, hml, hown, hts⟩ (c_X5_remove hIC hAC' e1) (cwV 1 hts gL_law_X5_remove rfl rfl rfl (by decide +kernel) ⟨Nat.le_of_ble_eq_true rfl, Nat.le_of_ble_eq_true rfl⟩) (l_PV (XCb _) (fun U hU hW => XC_nar sC (XCo (AL s) s U H hW hS.2.1 hXW.1.1)) hK hPC obX5 rfl) rfl rfl hl.1 rfl (lv_room (Nat.le_of_ble_eq_true rfl)) dL_law_675 ⟨by show _ ≤ 601024; omega, by show _ ≤ 7293034; omega⟩) hS sC (fun H1 locs1 hPC hk1 hS => ?_)
  have hPM := P_keep hPM hk1 nCM
  have hPO := P_keep1 hPO (hk1 qo (hPO 0 _ rfl).lt nCO)
  generalize H1 = H at hPC hPM hPO hS ⊢
  clear hk1
  refine lv_aload_n hx hb dL_law_678 rfl (lv_at hl 2 rfl) ?_
  refine lv_aload_n hx hb dL_law_679 rfl (lv_at hl 4 rfl) ?_
  refine lv_iload hx hb dL_law_680 (lv_at hl 0 rfl) ?_
  refine lv_iconst (v := (1 : Int32)) hx hb dL_law_682 (by decide) ?_
  refine lv_iadd hx hb dL_law_683 ?_
  refine va_sld hx hb hXs hbl hbA hS (ix 1 (by omega)) dL_law_684 ?_
  refine l_call (va_runV (As := [.int (xs (x4 + nI 1).toNatClampNeg)]) (rest := [.int r]) ⟨hx, hb, hml, hown, hts⟩ (c_X6_remove (cP := cP) (cR := cR) hIM hAM' e2) (cwV 1 hts gL_law_X6_remove rfl rfl rfl (by decide +kernel) ⟨Nat.le_of_ble_eq_true rfl, Nat.le_of_ble_eq_true rfl⟩) (l_PV XMb (fun _ _ _ => trivial) hK hPM obX6 rfl) rfl rfl hl.1 rfl (lv_room (Nat.le_of_ble_eq_true rfl)) dL_law_685 ⟨by show _ ≤ 601024; omega, by show _ ≤ 7293034; omega⟩) hS sM (fun H1 locs1 hPM hk1 hS => ?_)
  have hPC := P_keep hPC hk1 nMC
  have hPO := P_keep1 hPO (hk1 qo (hPO 0 _ rfl).lt nMO)
  refine lv_icmp_eq (tgt := 953) hx hb dL_law_688 (by decide) (fun _ => ?_) (fun hc => absurd rfl hc)
  refine W.widen (k := 169 + (j + 1)) (n := 36539 + 6 * (j + 1)) (by omega) (by omega) ?_
  exact kk C1 R1 f H1 locs1 ls ⟨hPC, hPM, hPO, hS, hR1⟩ hl
set_option maxHeartbeats 4000000 in
set_option maxRecDepth 100000 in
theorem lc_enter {p : Program} {e : Env} {s : State} {m : MethodId} {below : List Frame} {meth : Method} {c : Code} {l : Launch} {b L : Nat} {xs : Nat → Int32} {D : va_G} {adC adM : Nat → Nat} {cI cZ cP cR cL : ClassId} {qo : Nat} {Q : State → Prop} (X : LWx p s m meth c l b L xs D adC adM cI cZ cP cR cL qo) {j : Nat} {x4 : Int32} (hj : 6 * j + 6 ≤ L) (ex : x4 = nI (6 * j)) {C R : Mem} {f : Nat → Int64} {H : Heap} {locs : List Loc} {ls : Array Slot} (hs : LWs s D adC adM cI cZ cP cR cL qo C R f H locs) (hl : lv_has ls 7 [(4, .int x4), (3, .ref qo), (2, .ref (adM 0)), (1, .ref (adC 0)), (0, .ref b)])
    (kk : ∀ (C R : Mem) (f : Nat → Int64) (H : Heap) (locs : List Loc) (ls : Array Slot), LWs s D adC adM cI cZ cP cR cL qo C R f H locs → lv_has ls 7 [(4, .int x4), (3, .ref qo), (2, .ref (adM 0)), (1, .ref (adC 0)), (0, .ref b)] → W p l e room_1 s m #[Value.ref b] below meth c H locs (169 + (j + 1)) (36539 + 6 * (j + 1)) Q (F0 m 953 ls [])) :
    W p l e room_1 s m #[Value.ref b] below meth c H locs (169 + j) (36539 + 6 * j) Q (F0 m 693 ls []) := by
  obtain ⟨hnt, ⟨hx, hb, hr, hml, hown, hts0, hXs, hbl, hlocks, hgv⟩, hK, hKL, hIC, hIM, hAC, hAM, hqo, hCM, hCO, hMO, hXW, hL⟩ := X
  have hts := fun w h => hts0 w (wsL_law_in w h)
  obtain ⟨hPC, hPM, hPO, hS, hRel⟩ := hs
  have hbA : ¬ (AL s) b := Nat.not_le.mpr hbl
  have hAC' : ∀ k, k < 143 → AC adC (adC k) := fun k hk => ⟨k, hk, rfl⟩
  have hAM' : ∀ k, k < 25 → AM adM (adM k) := fun k hk => ⟨k, hk, rfl⟩
  have sC : ∀ q, AC adC q → AL s q := fun q h => by obtain ⟨k, hk, rfl⟩ := h; exact hAC k hk
  have sM : ∀ q, AM adM q → AL s q := fun q h => by obtain ⟨k, hk, rfl⟩ := h; exact hAM k hk
  have nCM : ∀ k, k < 25 → ¬ AC adC (adM k) := fun k hk h => by obtain ⟨i, hi, e⟩ := h; exact hCM i k hi hk e
  have nMC : ∀ k, k < 143 → ¬ AM adM (adC k) := fun k hk h => by obtain ⟨i, hi, e⟩ := h; exact hCM k i hk hi e.symm
  have nCO : ¬ AC adC qo := fun h => by obtain ⟨i, hi, e⟩ := h; exact hCO i hi e
  have nMO : ¬ AM adM qo := fun h => by obtain ⟨i, hi, e⟩ := h; exact hMO i hi e
  have ix : ∀ k : Nat, k < 6 → vp_in (x4 + nI k) L := fun k hk => by rw [ex, nI_add]; exact vp_in_nI (by omega) (by omega)
  obtain ⟨r, C1, R1, e1, e2, hR1⟩ := sim_enter hRel (xs (x4 + nI 1).toNatClampNeg) (xs (x4 + nI 2).toNatClampNeg) (xs (x4 + nI 3).toNatClampNeg) (xs (x4 + nI 4).toNatClampNeg)
  refine lv_aload_n hx hb dL_law_693 rfl (lv_at hl 3 rfl) ?_
  refine lv_aload_n hx hb dL_law_694 rfl (lv_at hl 4 rfl) ?_
  refine lv_iload hx hb dL_law_695 (lv_at hl 0 rfl) ?_
  refine lv_iconst (v := (1 : Int32)) hx hb dL_law_697 (by decide) ?_
  refine lv_iadd hx hb dL_law_698 ?_
  refine va_sld hx hb hXs hbl hbA hS (ix 1 (by omega)) dL_law_699 ?_
  refine lv_aload_n hx hb dL_law_700 rfl (lv_at hl 4 rfl) ?_
  refine lv_iload hx hb dL_law_701 (lv_at hl 0 rfl) ?_
  refine lv_iconst (v := (2 : Int32)) hx hb dL_law_703 (by decide) ?_
  refine lv_iadd hx hb dL_law_704 ?_
  refine va_sld hx hb hXs hbl hbA hS (ix 2 (by omega)) dL_law_705 ?_
  refine lv_aload_n hx hb dL_law_706 rfl (lv_at hl 4 rfl) ?_
  refine lv_iload hx hb dL_law_707 (lv_at hl 0 rfl) ?_
  refine lv_iconst (v := (3 : Int32)) hx hb dL_law_709 (by decide) ?_
  refine lv_iadd hx hb dL_law_710 ?_
  refine va_sld hx hb hXs hbl hbA hS (ix 3 (by omega)) dL_law_711 ?_
  refine lv_aload_n hx hb dL_law_712 rfl (lv_at hl 4 rfl) ?_
  refine lv_iload hx hb dL_law_713 (lv_at hl 0 rfl) ?_
  refine lv_iconst (v := (4 : Int32)) hx hb dL_law_715 (by decide) ?_
  refine lv_iadd hx hb dL_law_716 ?_
  refine va_sld hx hb hXs hbl hbA hS (ix 4 (by omega)) dL_law_717 ?_
  refine l_call (va_runV (As := [.int (xs (x4 + nI 1).toNatClampNeg), .int (xs (x4 + nI 2).toNatClampNeg), .int (xs (x4 + nI 3).toNatClampNeg), .int (xs (x4 + nI 4).toNatClampNeg)]) (rest := []) ⟨hx, hb, hml, hown, hts⟩ (c_X5_enter hIC hAC' e1) (cwV 4 hts gL_law_X5_enter rfl rfl rfl (by decide +kernel) ⟨Nat.le_of_ble_eq_true rfl, Nat.le_of_ble_eq_true rfl⟩) (l_PV (XCb _) (fun U hU hW => XC_nar sC (XCo (AL s) s U H hW hS.2.1 hXW.1.1)) hK hPC obX5 rfl) rfl rfl hl.1 rfl (lv_room (Nat.le_of_ble_eq_true rfl)) dL_law_718 ⟨by show _ ≤ 601024; omega, by show _ ≤ 7293034; omega⟩) hS sC (fun H1 locs1 hPC hk1 hS => ?_)
  have hPM := P_keep hPM hk1 nCM
  have hPO := P_keep1 hPO (hk1 qo (hPO 0 _ rfl).lt nCO)
  generalize H1 = H at hPC hPM hPO hS ⊢
  clear hk1
  refine lv_aload_n hx hb dL_law_721 rfl (lv_at hl 2 rfl) ?_
  refine lv_aload_n hx hb dL_law_722 rfl (lv_at hl 4 rfl) ?_
  refine lv_iload hx hb dL_law_723 (lv_at hl 0 rfl) ?_
  refine lv_iconst (v := (1 : Int32)) hx hb dL_law_725 (by decide) ?_
  refine lv_iadd hx hb dL_law_726 ?_
  refine va_sld hx hb hXs hbl hbA hS (ix 1 (by omega)) dL_law_727 ?_
  refine lv_aload_n hx hb dL_law_728 rfl (lv_at hl 4 rfl) ?_
  refine lv_iload hx hb dL_law_729 (lv_at hl 0 rfl) ?_
  refine lv_iconst (v := (2 : Int32)) hx hb dL_law_731 (by decide) ?_
  refine lv_iadd hx hb dL_law_732 ?_
  refine va_sld hx hb hXs hbl hbA hS (ix 2 (by omega)) dL_law_733 ?_
  refine lv_aload_n hx hb dL_law_734 rfl (lv_at hl 4 rfl) ?_
  refine lv_iload hx hb dL_law_735 (lv_at hl 0 rfl) ?_
  refine lv_iconst (v := (3 : Int32)) hx hb dL_law_737 (by decide) ?_
  refine lv_iadd hx hb dL_law_738 ?_
  refine va_sld hx hb hXs hbl hbA hS (ix 3 (by omega)) dL_law_739 ?_
  refine lv_aload_n hx hb dL_law_740 rfl (lv_at hl 4 rfl) ?_
  refine lv_iload hx hb dL_law_741 (lv_at hl 0 rfl) ?_
  refine lv_iconst (v := (4 : Int32)) hx hb dL_law_743 (by decide) ?_
  refine lv_iadd hx hb dL_law_744 ?_
  refine va_sld hx hb hXs hbl hbA hS (ix 4 (by omega)) dL_law_745 ?_
  refine l_call (va_runV (As := [.int (xs (x4 + nI 1).toNatClampNeg), .int (xs (x4 + nI 2).toNatClampNeg), .int (xs (x4 + nI 3).toNatClampNeg), .int (xs (x4 + nI 4).toNatClampNeg)]) (rest := [.int r]) ⟨hx, hb, hml, hown, hts⟩ (c_X6_enter (cP := cP) (cR := cR) hIM hAM' e2) (cwV 4 hts gL_law_X6_enter rfl rfl rfl (by decide +kernel) ⟨Nat.le_of_ble_eq_true rfl, Nat.le_of_ble_eq_true rfl⟩) (l_PV XMb (fun _ _ _ => trivial) hK hPM obX6 rfl) rfl rfl hl.1 rfl (lv_room (Nat.le_of_ble_eq_true rfl)) dL_law_746 ⟨by show _ ≤ 601024; omega, by show _ ≤ 7293034; omega⟩) hS sM (fun H1 locs1 hPM hk1 hS => ?_)
  have hPC := P_keep hPC hk1 nMC
  have hPO := P_keep1 hPO (hk1 qo (hPO 0 _ rfl).lt nMO)
  refine lv_icmp_eq (tgt := 953) hx hb dL_law_749 (by decide) (fun _ => ?_) (fun hc => absurd rfl hc)
  refine W.widen (k := 169 + (j + 1)) (n := 36539 + 6 * (j + 1)) (by omega) (by omega) ?_
  exact kk C1 R1 f H1 locs1 ls ⟨hPC, hPM, hPO, hS, hR1⟩ hl
set_option maxHeartbeats 4000000 in
set_option maxRecDepth 100000 in
theorem lc_resume {p : Program} {e : Env} {s : State} {m : MethodId} {below : List Frame} {meth : Method} {c : Code} {l : Launch} {b L : Nat} {xs : Nat → Int32} {D : va_G} {adC adM : Nat → Nat} {cI cZ cP cR cL : ClassId} {qo : Nat} {Q : State → Prop} (X : LWx p s m meth c l b L xs D adC adM cI cZ cP cR cL qo) {j : Nat} {x4 : Int32} (hj : 6 * j + 6 ≤ L) (ex : x4 = nI (6 * j)) {C R : Mem} {f : Nat → Int64} {H : Heap} {locs : List Loc} {ls : Array Slot} (hs : LWs s D adC adM cI cZ cP cR cL qo C R f H locs) (hl : lv_has ls 7 [(4, .int x4), (3, .ref qo), (2, .ref (adM 0)), (1, .ref (adC 0)), (0, .ref b)])
    (kk : ∀ (C R : Mem) (f : Nat → Int64) (H : Heap) (locs : List Loc) (ls : Array Slot), LWs s D adC adM cI cZ cP cR cL qo C R f H locs → lv_has ls 7 [(4, .int x4), (3, .ref qo), (2, .ref (adM 0)), (1, .ref (adC 0)), (0, .ref b)] → W p l e room_1 s m #[Value.ref b] below meth c H locs (169 + (j + 1)) (36539 + 6 * (j + 1)) Q (F0 m 953 ls [])) :
    W p l e room_1 s m #[Value.ref b] below meth c H locs (169 + j) (36539 + 6 * j) Q (F0 m 754 ls []) := by
  obtain ⟨hnt, ⟨hx, hb, hr, hml, hown, hts0, hXs, hbl, hlocks, hgv⟩, hK, hKL, hIC, hIM, hAC, hAM, hqo, hCM, hCO, hMO, hXW, hL⟩ := X
  have hts := fun w h => hts0 w (wsL_law_in w h)
  obtain ⟨hPC, hPM, hPO, hS, hRel⟩ := hs
  have hbA : ¬ (AL s) b := Nat.not_le.mpr hbl
  have hAC' : ∀ k, k < 143 → AC adC (adC k) := fun k hk => ⟨k, hk, rfl⟩
  have hAM' : ∀ k, k < 25 → AM adM (adM k) := fun k hk => ⟨k, hk, rfl⟩
  have sC : ∀ q, AC adC q → AL s q := fun q h => by obtain ⟨k, hk, rfl⟩ := h; exact hAC k hk
  have sM : ∀ q, AM adM q → AL s q := fun q h => by obtain ⟨k, hk, rfl⟩ := h; exact hAM k hk
  have nCM : ∀ k, k < 25 → ¬ AC adC (adM k) := fun k hk h => by obtain ⟨i, hi, e⟩ := h; exact hCM i k hi hk e
  have nMC : ∀ k, k < 143 → ¬ AM adM (adC k) := fun k hk h => by obtain ⟨i, hi, e⟩ := h; exact hCM k i hk hi e.symm
  have nCO : ¬ AC adC qo := fun h => by obtain ⟨i, hi, e⟩ := h; exact hCO i hi e
  have nMO : ¬ AM adM qo := fun h => by obtain ⟨i, hi, e⟩ := h; exact hMO i hi e
  have ix : ∀ k : Nat, k < 6 → vp_in (x4 + nI k) L := fun k hk => by rw [ex, nI_add]; exact vp_in_nI (by omega) (by omega)
  obtain ⟨r, C1, R1, e1, e2, hR1⟩ := sim_resume hRel (xs (x4 + nI 1).toNatClampNeg) (xs (x4 + nI 2).toNatClampNeg)
  refine lv_aload_n hx hb dL_law_754 rfl (lv_at hl 3 rfl) ?_
  refine lv_aload_n hx hb dL_law_755 rfl (lv_at hl 4 rfl) ?_
  refine lv_iload hx hb dL_law_756 (lv_at hl 0 rfl) ?_
  refine lv_iconst (v := (1 : Int32)) hx hb dL_law_758 (by decide) ?_
  refine lv_iadd hx hb dL_law_759 ?_
  refine va_sld hx hb hXs hbl hbA hS (ix 1 (by omega)) dL_law_760 ?_
  refine lv_aload_n hx hb dL_law_761 rfl (lv_at hl 4 rfl) ?_
  refine lv_iload hx hb dL_law_762 (lv_at hl 0 rfl) ?_
  refine lv_iconst (v := (2 : Int32)) hx hb dL_law_764 (by decide) ?_
  refine lv_iadd hx hb dL_law_765 ?_
  refine va_sld hx hb hXs hbl hbA hS (ix 2 (by omega)) dL_law_766 ?_
  refine l_call (va_runV (As := [.int (xs (x4 + nI 1).toNatClampNeg), .int (xs (x4 + nI 2).toNatClampNeg)]) (rest := []) ⟨hx, hb, hml, hown, hts⟩ (c_X5_resume hIC hAC' e1) (cwV 2 hts gL_law_X5_resume rfl rfl rfl (by decide +kernel) ⟨Nat.le_of_ble_eq_true rfl, Nat.le_of_ble_eq_true rfl⟩) (l_PV (XCb _) (fun U hU hW => XC_nar sC (XCo (AL s) s U H hW hS.2.1 hXW.1.1)) hK hPC obX5 rfl) rfl rfl hl.1 rfl (lv_room (Nat.le_of_ble_eq_true rfl)) dL_law_767 ⟨by show _ ≤ 601024; omega, by show _ ≤ 7293034; omega⟩) hS sC (fun H1 locs1 hPC hk1 hS => ?_)
  have hPM := P_keep hPM hk1 nCM
  have hPO := P_keep1 hPO (hk1 qo (hPO 0 _ rfl).lt nCO)
  generalize H1 = H at hPC hPM hPO hS ⊢
  clear hk1
  refine lv_aload_n hx hb dL_law_770 rfl (lv_at hl 2 rfl) ?_
  refine lv_aload_n hx hb dL_law_771 rfl (lv_at hl 4 rfl) ?_
  refine lv_iload hx hb dL_law_772 (lv_at hl 0 rfl) ?_
  refine lv_iconst (v := (1 : Int32)) hx hb dL_law_774 (by decide) ?_
  refine lv_iadd hx hb dL_law_775 ?_
  refine va_sld hx hb hXs hbl hbA hS (ix 1 (by omega)) dL_law_776 ?_
  refine lv_aload_n hx hb dL_law_777 rfl (lv_at hl 4 rfl) ?_
  refine lv_iload hx hb dL_law_778 (lv_at hl 0 rfl) ?_
  refine lv_iconst (v := (2 : Int32)) hx hb dL_law_780 (by decide) ?_
  refine lv_iadd hx hb dL_law_781 ?_
  refine va_sld hx hb hXs hbl hbA hS (ix 2 (by omega)) dL_law_782 ?_
  refine l_call (va_runV (As := [.int (xs (x4 + nI 1).toNatClampNeg), .int (xs (x4 + nI 2).toNatClampNeg)]) (rest := [.int r]) ⟨hx, hb, hml, hown, hts⟩ (c_X6_resume (cP := cP) (cR := cR) hIM hAM' e2) (cwV 2 hts gL_law_X6_resume rfl rfl rfl (by decide +kernel) ⟨Nat.le_of_ble_eq_true rfl, Nat.le_of_ble_eq_true rfl⟩) (l_PV XMb (fun _ _ _ => trivial) hK hPM obX6 rfl) rfl rfl hl.1 rfl (lv_room (Nat.le_of_ble_eq_true rfl)) dL_law_783 ⟨by show _ ≤ 601024; omega, by show _ ≤ 7293034; omega⟩) hS sM (fun H1 locs1 hPM hk1 hS => ?_)
  have hPC := P_keep hPC hk1 nMC
  have hPO := P_keep1 hPO (hk1 qo (hPO 0 _ rfl).lt nMO)
  refine lv_icmp_eq (tgt := 953) hx hb dL_law_786 (by decide) (fun _ => ?_) (fun hc => absurd rfl hc)
  refine W.widen (k := 169 + (j + 1)) (n := 36539 + 6 * (j + 1)) (by omega) (by omega) ?_
  exact kk C1 R1 f H1 locs1 ls ⟨hPC, hPM, hPO, hS, hR1⟩ hl
set_option maxHeartbeats 4000000 in
set_option maxRecDepth 100000 in
theorem lc_result {p : Program} {e : Env} {s : State} {m : MethodId} {below : List Frame} {meth : Method} {c : Code} {l : Launch} {b L : Nat} {xs : Nat → Int32} {D : va_G} {adC adM : Nat → Nat} {cI cZ cP cR cL : ClassId} {qo : Nat} {Q : State → Prop} (X : LWx p s m meth c l b L xs D adC adM cI cZ cP cR cL qo) {j : Nat} {x4 : Int32} (hj : 6 * j + 6 ≤ L) (ex : x4 = nI (6 * j)) {C R : Mem} {f : Nat → Int64} {H : Heap} {locs : List Loc} {ls : Array Slot} (hs : LWs s D adC adM cI cZ cP cR cL qo C R f H locs) (hl : lv_has ls 7 [(4, .int x4), (3, .ref qo), (2, .ref (adM 0)), (1, .ref (adC 0)), (0, .ref b)])
    (kk : ∀ (C R : Mem) (f : Nat → Int64) (H : Heap) (locs : List Loc) (ls : Array Slot), LWs s D adC adM cI cZ cP cR cL qo C R f H locs → lv_has ls 7 [(4, .int x4), (3, .ref qo), (2, .ref (adM 0)), (1, .ref (adC 0)), (0, .ref b)] → W p l e room_1 s m #[Value.ref b] below meth c H locs (169 + (j + 1)) (36539 + 6 * (j + 1)) Q (F0 m 953 ls [])) :
    W p l e room_1 s m #[Value.ref b] below meth c H locs (169 + j) (36539 + 6 * j) Q (F0 m 791 ls []) := by
  obtain ⟨hnt, ⟨hx, hb, hr, hml, hown, hts0, hXs, hbl, hlocks, hgv⟩, hK, hKL, hIC, hIM, hAC, hAM, hqo, hCM, hCO, hMO, hXW, hL⟩ := X
  have hts := fun w h => hts0 w (wsL_law_in w h)
  obtain ⟨hPC, hPM, hPO, hS, hRel⟩ := hs
  have hbA : ¬ (AL s) b := Nat.not_le.mpr hbl
  have hAC' : ∀ k, k < 143 → AC adC (adC k) := fun k hk => ⟨k, hk, rfl⟩
  have hAM' : ∀ k, k < 25 → AM adM (adM k) := fun k hk => ⟨k, hk, rfl⟩
  have sC : ∀ q, AC adC q → AL s q := fun q h => by obtain ⟨k, hk, rfl⟩ := h; exact hAC k hk
  have sM : ∀ q, AM adM q → AL s q := fun q h => by obtain ⟨k, hk, rfl⟩ := h; exact hAM k hk
  have nCM : ∀ k, k < 25 → ¬ AC adC (adM k) := fun k hk h => by obtain ⟨i, hi, e⟩ := h; exact hCM i k hi hk e
  have nMC : ∀ k, k < 143 → ¬ AM adM (adC k) := fun k hk h => by obtain ⟨i, hi, e⟩ := h; exact hCM k i hk hi e.symm
  have nCO : ¬ AC adC qo := fun h => by obtain ⟨i, hi, e⟩ := h; exact hCO i hi e
  have nMO : ¬ AM adM qo := fun h => by obtain ⟨i, hi, e⟩ := h; exact hMO i hi e
  have ix : ∀ k : Nat, k < 6 → vp_in (x4 + nI k) L := fun k hk => by rw [ex, nI_add]; exact vp_in_nI (by omega) (by omega)
  obtain ⟨r, R1, e1, e2, hR1⟩ := sim_result hRel
  refine lv_aload_n hx hb dL_law_791 rfl (lv_at hl 3 rfl) ?_
  refine l_call (va_runV (As := []) (rest := []) ⟨hx, hb, hml, hown, hts⟩ (c_X5_result hIC hAC' e1) (cwV 0 hts gL_law_X5_result rfl rfl rfl (by decide +kernel) ⟨Nat.le_of_ble_eq_true rfl, Nat.le_of_ble_eq_true rfl⟩) (l_PV (XCb _) (fun U hU hW => XC_nar sC (XCo (AL s) s U H hW hS.2.1 hXW.1.1)) hK hPC obX5 rfl) rfl rfl hl.1 rfl (lv_room (Nat.le_of_ble_eq_true rfl)) dL_law_792 ⟨by show _ ≤ 601024; omega, by show _ ≤ 7293034; omega⟩) hS sC (fun H1 locs1 hPC hk1 hS => ?_)
  have hPM := P_keep hPM hk1 nCM
  have hPO := P_keep1 hPO (hk1 qo (hPO 0 _ rfl).lt nCO)
  generalize H1 = H at hPC hPM hPO hS ⊢
  clear hk1
  refine lv_aload_n hx hb dL_law_795 rfl (lv_at hl 2 rfl) ?_
  refine l_call (va_runV (As := []) (rest := [.int r]) ⟨hx, hb, hml, hown, hts⟩ (c_X6_result (cP := cP) (cR := cR) hIM hAM' e2) (cwV 0 hts gL_law_X6_result rfl rfl rfl (by decide +kernel) ⟨Nat.le_of_ble_eq_true rfl, Nat.le_of_ble_eq_true rfl⟩) (l_PV XMb (fun _ _ _ => trivial) hK hPM obX6 rfl) rfl rfl hl.1 rfl (lv_room (Nat.le_of_ble_eq_true rfl)) dL_law_796 ⟨by show _ ≤ 601024; omega, by show _ ≤ 7293034; omega⟩) hS sM (fun H1 locs1 hPM hk1 hS => ?_)
  have hPC := P_keep hPC hk1 nMC
  have hPO := P_keep1 hPO (hk1 qo (hPO 0 _ rfl).lt nMO)
  refine lv_icmp_eq (tgt := 953) hx hb dL_law_799 (by decide) (fun _ => ?_) (fun hc => absurd rfl hc)
  refine W.widen (k := 169 + (j + 1)) (n := 36539 + 6 * (j + 1)) (by omega) (by omega) ?_
  exact kk C R1 f H1 locs1 ls ⟨hPC, hPM, hPO, hS, hR1⟩ hl
set_option maxHeartbeats 4000000 in
set_option maxRecDepth 100000 in
theorem lc_steps {p : Program} {e : Env} {s : State} {m : MethodId} {below : List Frame} {meth : Method} {c : Code} {l : Launch} {b L : Nat} {xs : Nat → Int32} {D : va_G} {adC adM : Nat → Nat} {cI cZ cP cR cL : ClassId} {qo : Nat} {Q : State → Prop} (X : LWx p s m meth c l b L xs D adC adM cI cZ cP cR cL qo) {j : Nat} {x4 : Int32} (hj : 6 * j + 6 ≤ L) (ex : x4 = nI (6 * j)) {C R : Mem} {f : Nat → Int64} {H : Heap} {locs : List Loc} {ls : Array Slot} (hs : LWs s D adC adM cI cZ cP cR cL qo C R f H locs) (hl : lv_has ls 7 [(4, .int x4), (3, .ref qo), (2, .ref (adM 0)), (1, .ref (adC 0)), (0, .ref b)])
    (kk : ∀ (C R : Mem) (f : Nat → Int64) (H : Heap) (locs : List Loc) (ls : Array Slot), LWs s D adC adM cI cZ cP cR cL qo C R f H locs → lv_has ls 7 [(4, .int x4), (3, .ref qo), (2, .ref (adM 0)), (1, .ref (adC 0)), (0, .ref b)] → W p l e room_1 s m #[Value.ref b] below meth c H locs (169 + (j + 1)) (36539 + 6 * (j + 1)) Q (F0 m 953 ls [])) :
    W p l e room_1 s m #[Value.ref b] below meth c H locs (169 + j) (36539 + 6 * j) Q (F0 m 804 ls []) := by
  obtain ⟨hnt, ⟨hx, hb, hr, hml, hown, hts0, hXs, hbl, hlocks, hgv⟩, hK, hKL, hIC, hIM, hAC, hAM, hqo, hCM, hCO, hMO, hXW, hL⟩ := X
  have hts := fun w h => hts0 w (wsL_law_in w h)
  obtain ⟨hPC, hPM, hPO, hS, hRel⟩ := hs
  have hbA : ¬ (AL s) b := Nat.not_le.mpr hbl
  have hAC' : ∀ k, k < 143 → AC adC (adC k) := fun k hk => ⟨k, hk, rfl⟩
  have hAM' : ∀ k, k < 25 → AM adM (adM k) := fun k hk => ⟨k, hk, rfl⟩
  have sC : ∀ q, AC adC q → AL s q := fun q h => by obtain ⟨k, hk, rfl⟩ := h; exact hAC k hk
  have sM : ∀ q, AM adM q → AL s q := fun q h => by obtain ⟨k, hk, rfl⟩ := h; exact hAM k hk
  have nCM : ∀ k, k < 25 → ¬ AC adC (adM k) := fun k hk h => by obtain ⟨i, hi, e⟩ := h; exact hCM i k hi hk e
  have nMC : ∀ k, k < 143 → ¬ AM adM (adC k) := fun k hk h => by obtain ⟨i, hi, e⟩ := h; exact hCM k i hk hi e.symm
  have nCO : ¬ AC adC qo := fun h => by obtain ⟨i, hi, e⟩ := h; exact hCO i hi e
  have nMO : ¬ AM adM qo := fun h => by obtain ⟨i, hi, e⟩ := h; exact hMO i hi e
  have ix : ∀ k : Nat, k < 6 → vp_in (x4 + nI k) L := fun k hk => by rw [ex, nI_add]; exact vp_in_nI (by omega) (by omega)
  obtain ⟨r, R1, e1, e2, hR1⟩ := sim_steps hRel
  refine lv_aload_n hx hb dL_law_804 rfl (lv_at hl 3 rfl) ?_
  refine l_call (va_runV (As := []) (rest := []) ⟨hx, hb, hml, hown, hts⟩ (c_X5_steps hIC hAC' e1) (cwV 0 hts gL_law_X5_steps rfl rfl rfl (by decide +kernel) ⟨Nat.le_of_ble_eq_true rfl, Nat.le_of_ble_eq_true rfl⟩) (l_PV (XCb _) (fun U hU hW => XC_nar sC (XCo (AL s) s U H hW hS.2.1 hXW.1.1)) hK hPC obX5 rfl) rfl rfl hl.1 rfl (lv_room (Nat.le_of_ble_eq_true rfl)) dL_law_805 ⟨by show _ ≤ 601024; omega, by show _ ≤ 7293034; omega⟩) hS sC (fun H1 locs1 hPC hk1 hS => ?_)
  have hPM := P_keep hPM hk1 nCM
  have hPO := P_keep1 hPO (hk1 qo (hPO 0 _ rfl).lt nCO)
  generalize H1 = H at hPC hPM hPO hS ⊢
  clear hk1
  refine lv_aload_n hx hb dL_law_808 rfl (lv_at hl 2 rfl) ?_
  refine l_call (va_runV (As := []) (rest := [.int r]) ⟨hx, hb, hml, hown, hts⟩ (c_X6_steps (cP := cP) (cR := cR) hIM hAM' e2) (cwV 0 hts gL_law_X6_steps rfl rfl rfl (by decide +kernel) ⟨Nat.le_of_ble_eq_true rfl, Nat.le_of_ble_eq_true rfl⟩) (l_PV XMb (fun _ _ _ => trivial) hK hPM obX6 rfl) rfl rfl hl.1 rfl (lv_room (Nat.le_of_ble_eq_true rfl)) dL_law_809 ⟨by show _ ≤ 601024; omega, by show _ ≤ 7293034; omega⟩) hS sM (fun H1 locs1 hPM hk1 hS => ?_)
  have hPC := P_keep hPC hk1 nMC
  have hPO := P_keep1 hPO (hk1 qo (hPO 0 _ rfl).lt nMO)
  refine lv_icmp_eq (tgt := 953) hx hb dL_law_812 (by decide) (fun _ => ?_) (fun hc => absurd rfl hc)
  refine W.widen (k := 169 + (j + 1)) (n := 36539 + 6 * (j + 1)) (by omega) (by omega) ?_
  exact kk C R1 f H1 locs1 ls ⟨hPC, hPM, hPO, hS, hR1⟩ hl
set_option maxHeartbeats 4000000 in
set_option maxRecDepth 100000 in
theorem lc_told {p : Program} {e : Env} {s : State} {m : MethodId} {below : List Frame} {meth : Method} {c : Code} {l : Launch} {b L : Nat} {xs : Nat → Int32} {D : va_G} {adC adM : Nat → Nat} {cI cZ cP cR cL : ClassId} {qo : Nat} {Q : State → Prop} (X : LWx p s m meth c l b L xs D adC adM cI cZ cP cR cL qo) {j : Nat} {x4 : Int32} (hj : 6 * j + 6 ≤ L) (ex : x4 = nI (6 * j)) {C R : Mem} {f : Nat → Int64} {H : Heap} {locs : List Loc} {ls : Array Slot} (hs : LWs s D adC adM cI cZ cP cR cL qo C R f H locs) (hl : lv_has ls 7 [(4, .int x4), (3, .ref qo), (2, .ref (adM 0)), (1, .ref (adC 0)), (0, .ref b)])
    (kk : ∀ (C R : Mem) (f : Nat → Int64) (H : Heap) (locs : List Loc) (ls : Array Slot), LWs s D adC adM cI cZ cP cR cL qo C R f H locs → lv_has ls 7 [(4, .int x4), (3, .ref qo), (2, .ref (adM 0)), (1, .ref (adC 0)), (0, .ref b)] → W p l e room_1 s m #[Value.ref b] below meth c H locs (169 + (j + 1)) (36539 + 6 * (j + 1)) Q (F0 m 953 ls [])) :
    W p l e room_1 s m #[Value.ref b] below meth c H locs (169 + j) (36539 + 6 * j) Q (F0 m 817 ls []) := by
  obtain ⟨hnt, ⟨hx, hb, hr, hml, hown, hts0, hXs, hbl, hlocks, hgv⟩, hK, hKL, hIC, hIM, hAC, hAM, hqo, hCM, hCO, hMO, hXW, hL⟩ := X
  have hts := fun w h => hts0 w (wsL_law_in w h)
  obtain ⟨hPC, hPM, hPO, hS, hRel⟩ := hs
  have hbA : ¬ (AL s) b := Nat.not_le.mpr hbl
  have hAC' : ∀ k, k < 143 → AC adC (adC k) := fun k hk => ⟨k, hk, rfl⟩
  have hAM' : ∀ k, k < 25 → AM adM (adM k) := fun k hk => ⟨k, hk, rfl⟩
  have sC : ∀ q, AC adC q → AL s q := fun q h => by obtain ⟨k, hk, rfl⟩ := h; exact hAC k hk
  have sM : ∀ q, AM adM q → AL s q := fun q h => by obtain ⟨k, hk, rfl⟩ := h; exact hAM k hk
  have nCM : ∀ k, k < 25 → ¬ AC adC (adM k) := fun k hk h => by obtain ⟨i, hi, e⟩ := h; exact hCM i k hi hk e
  have nMC : ∀ k, k < 143 → ¬ AM adM (adC k) := fun k hk h => by obtain ⟨i, hi, e⟩ := h; exact hCM k i hk hi e.symm
  have nCO : ¬ AC adC qo := fun h => by obtain ⟨i, hi, e⟩ := h; exact hCO i hi e
  have nMO : ¬ AM adM qo := fun h => by obtain ⟨i, hi, e⟩ := h; exact hMO i hi e
  have ix : ∀ k : Nat, k < 6 → vp_in (x4 + nI k) L := fun k hk => by rw [ex, nI_add]; exact vp_in_nI (by omega) (by omega)
  obtain ⟨cd, r, r1, C1, R1, e1, e2, hth, hrr, hc2, hR1⟩ := sim_told hRel (xs (x4 + nI 1).toNatClampNeg) (xs (x4 + nI 2).toNatClampNeg)
  refine lv_aload_n hx hb dL_law_817 rfl (lv_at hl 3 rfl) ?_
  refine lv_aload_n hx hb dL_law_818 rfl (lv_at hl 4 rfl) ?_
  refine lv_iload hx hb dL_law_819 (lv_at hl 0 rfl) ?_
  refine lv_iconst (v := (1 : Int32)) hx hb dL_law_821 (by decide) ?_
  refine lv_iadd hx hb dL_law_822 ?_
  refine va_sld hx hb hXs hbl hbA hS (ix 1 (by omega)) dL_law_823 ?_
  refine lv_aload_n hx hb dL_law_824 rfl (lv_at hl 4 rfl) ?_
  refine lv_iload hx hb dL_law_825 (lv_at hl 0 rfl) ?_
  refine lv_iconst (v := (2 : Int32)) hx hb dL_law_827 (by decide) ?_
  refine lv_iadd hx hb dL_law_828 ?_
  refine va_sld hx hb hXs hbl hbA hS (ix 2 (by omega)) dL_law_829 ?_
  refine lv_aload_n hx hb dL_law_830 rfl (lv_at hl 1 rfl) ?_
  refine l_callw (vx_runSW (As := [.ref (adC 0), .int (xs (x4 + nI 1).toNatClampNeg), .int (xs (x4 + nI 2).toNatClampNeg), .ref qo]) (rest := []) ⟨hx, hb, hml, hown, hts⟩ (c_L_told hIC hAC' nCO hnt e1) (vx_cwSW 4 hts gL_law_L_told rfl rfl rfl (by decide +kernel) ⟨Nat.le_of_ble_eq_true rfl, Nat.le_of_ble_eq_true rfl⟩) (l_PW (fun U hU hW => XW_nar sC (XWo (AL s) s U H hW hS.2.1 hXW)) hK hKL hPC hPO) rfl rfl hl.1 rfl (lv_room (Nat.le_of_ble_eq_true rfl)) dL_law_831 ⟨by show _ ≤ 601024; omega, by show _ ≤ 7293034; omega⟩) hS sC hqo (fun f1 H1 locs1 hPC hf1 hPO hk1 hS => ?_)
  have hPM := P_keep hPM hk1 (fun k hk h => h.elim (nCM k hk) (fun h => hMO k hk h))
  generalize H1 = H at hPC hPM hPO hS ⊢
  clear hk1
  refine lv_istore (lv' := [(5, .int (nI cd)), (4, .int x4), (3, .ref qo), (2, .ref (adM 0)), (1, .ref (adC 0)), (0, .ref b)]) hx hb dL_law_834 hl (by decide) rfl (fun ls hl => ?_)
  refine lv_aload_n hx hb dL_law_836 rfl (lv_at hl 3 rfl) ?_
  refine lv_aload_n hx hb dL_law_837 rfl (lv_at hl 5 rfl) ?_
  refine lv_iload hx hb dL_law_838 (lv_at hl 1 rfl) ?_
  refine lv_iconst (v := (1 : Int32)) hx hb dL_law_840 (by decide) ?_
  refine lv_iadd hx hb dL_law_841 ?_
  refine va_sld hx hb hXs hbl hbA hS (ix 1 (by omega)) dL_law_842 ?_
  refine lv_aload_n hx hb dL_law_843 rfl (lv_at hl 5 rfl) ?_
  refine lv_iload hx hb dL_law_844 (lv_at hl 1 rfl) ?_
  refine lv_iconst (v := (2 : Int32)) hx hb dL_law_846 (by decide) ?_
  refine lv_iadd hx hb dL_law_847 ?_
  refine va_sld hx hb hXs hbl hbA hS (ix 2 (by omega)) dL_law_848 ?_
  refine l_call (va_runV (As := [.int (xs (x4 + nI 1).toNatClampNeg), .int (xs (x4 + nI 2).toNatClampNeg)]) (rest := []) ⟨hx, hb, hml, hown, hts⟩ (c_X6_told (cP := cP) (cR := cR) hIM hAM' e2) (cwV 2 hts gL_law_X6_told rfl rfl rfl (by decide +kernel) ⟨Nat.le_of_ble_eq_true rfl, Nat.le_of_ble_eq_true rfl⟩) (l_PV XMb (fun _ _ _ => trivial) hK hPM obX6 rfl) rfl rfl hl.1 rfl (lv_room (Nat.le_of_ble_eq_true rfl)) dL_law_849 ⟨by show _ ≤ 601024; omega, by show _ ≤ 7293034; omega⟩) hS sM (fun H1 locs1 hPM hk1 hS => ?_)
  have hPC := P_keep hPC hk1 nMC
  have hPO := P_keep1 hPO (hk1 qo (hPO 0 _ rfl).lt nMO)
  generalize H1 = H at hPC hPM hPO hS ⊢
  clear hk1
  refine lv_istore (lv' := [(6, .int r1), (5, .int (nI cd)), (4, .int x4), (3, .ref qo), (2, .ref (adM 0)), (1, .ref (adC 0)), (0, .ref b)]) hx hb dL_law_852 hl (by decide) rfl (fun ls hl => ?_)
  refine lv_aload_n hx hb dL_law_854 rfl (lv_at hl 4 rfl) ?_
  refine l_call (va_runV (As := []) (rest := []) ⟨hx, hb, hml, hown, hts⟩ (c_X6_thrown (cP := cP) (cR := cR) hIM hAM' (thrown_e R1)) (cwV 0 hts gL_law_X6_thrown rfl rfl rfl (by decide +kernel) ⟨Nat.le_of_ble_eq_true rfl, Nat.le_of_ble_eq_true rfl⟩) (l_PV XMb (fun _ _ _ => trivial) hK hPM obX6 rfl) rfl rfl hl.1 rfl (lv_room (Nat.le_of_ble_eq_true rfl)) dL_law_855 ⟨by show _ ≤ 601024; omega, by show _ ≤ 7293034; omega⟩) hS sM (fun H1 locs1 hPM hk1 hS => ?_)
  have hPC := P_keep hPC hk1 nMC
  have hPO := P_keep1 hPO (hk1 qo (hPO 0 _ rfl).lt nMO)
  generalize H1 = H at hPC hPM hPO hS ⊢
  clear hk1
  refine lv_iload hx hb dL_law_858 (lv_at hl 1 rfl) ?_
  refine lv_icmp_eq (tgt := 865) hx hb dL_law_860 (by decide) (fun _ => ?_) (fun hc => absurd hth hc)
  refine lv_iload hx hb dL_law_865 (lv_at hl 1 rfl) ?_
  refine lv_if_ne (tgt := 882) hx hb dL_law_867 (by decide) (fun hc => ?_) (fun hc => ?_)
  · refine lv_goto (tgt := 953) hx hb dL_law_882 (by decide) ?_
    refine W.widen (k := 169 + (j + 1)) (n := 36539 + 6 * (j + 1)) (by omega) (by omega) ?_
    exact kk C1 R1 f1 H locs1 ls ⟨hPC, hPM, hPO, hS, hR1⟩ (lv_sub hl [2, 3, 4, 5, 6] rfl)
  · have hc0 : cd = 0 := (nI_eq (by omega) (by omega)).mp (show nI cd = nI 0 from hc)
    refine lv_aload_n hx hb dL_law_870 rfl (lv_at hl 3 rfl) ?_
    refine lv_iconst (v := (0 : Int32)) hx hb dL_law_871 (by decide) ?_
    refine va_lald hx hb hKL hPO 0 0 rfl rfl (by unfold vp_in; decide) dL_law_872 ?_
    refine lv_iload hx hb dL_law_873 (lv_at hl 0 rfl) ?_
    refine lv_i2l hx hb dL_law_875 rfl ?_
    refine W.lcmp hx hb dL_law_876 ?_
    have hz : lg_cmp (f1 (0 : Int32).toNatClampNeg) r1.toInt64 = 0 := by
      have h1 : f1 0 = r.toInt64 := hf1 hc0
      show lg_cmp (f1 0) r1.toInt64 = 0
      rw [h1, hrr hc0]
      exact cmp_self _
    refine lv_if_eq (tgt := 882) hx hb dL_law_877 (by decide) (fun _ => ?_) (fun hc => absurd hz hc)
    refine lv_goto (tgt := 953) hx hb dL_law_882 (by decide) ?_
    refine W.widen (k := 169 + (j + 1)) (n := 36539 + 6 * (j + 1)) (by omega) (by omega) ?_
    exact kk C1 R1 f1 H locs1 ls ⟨hPC, hPM, hPO, hS, hR1⟩ (lv_sub hl [2, 3, 4, 5, 6] rfl)
set_option maxHeartbeats 4000000 in
set_option maxRecDepth 100000 in
theorem lc_measure {p : Program} {e : Env} {s : State} {m : MethodId} {below : List Frame} {meth : Method} {c : Code} {l : Launch} {b L : Nat} {xs : Nat → Int32} {D : va_G} {adC adM : Nat → Nat} {cI cZ cP cR cL : ClassId} {qo : Nat} {Q : State → Prop} (X : LWx p s m meth c l b L xs D adC adM cI cZ cP cR cL qo) {j : Nat} {x4 : Int32} (hj : 6 * j + 6 ≤ L) (ex : x4 = nI (6 * j)) {C R : Mem} {f : Nat → Int64} {H : Heap} {locs : List Loc} {ls : Array Slot} (hs : LWs s D adC adM cI cZ cP cR cL qo C R f H locs) (hl : lv_has ls 7 [(4, .int x4), (3, .ref qo), (2, .ref (adM 0)), (1, .ref (adC 0)), (0, .ref b)])
    (kk : ∀ (C R : Mem) (f : Nat → Int64) (H : Heap) (locs : List Loc) (ls : Array Slot), LWs s D adC adM cI cZ cP cR cL qo C R f H locs → lv_has ls 7 [(4, .int x4), (3, .ref qo), (2, .ref (adM 0)), (1, .ref (adC 0)), (0, .ref b)] → W p l e room_1 s m #[Value.ref b] below meth c H locs (169 + (j + 1)) (36539 + 6 * (j + 1)) Q (F0 m 953 ls [])) :
    W p l e room_1 s m #[Value.ref b] below meth c H locs (169 + j) (36539 + 6 * j) Q (F0 m 885 ls []) := by
  obtain ⟨hnt, ⟨hx, hb, hr, hml, hown, hts0, hXs, hbl, hlocks, hgv⟩, hK, hKL, hIC, hIM, hAC, hAM, hqo, hCM, hCO, hMO, hXW, hL⟩ := X
  have hts := fun w h => hts0 w (wsL_law_in w h)
  obtain ⟨hPC, hPM, hPO, hS, hRel⟩ := hs
  have hbA : ¬ (AL s) b := Nat.not_le.mpr hbl
  have hAC' : ∀ k, k < 143 → AC adC (adC k) := fun k hk => ⟨k, hk, rfl⟩
  have hAM' : ∀ k, k < 25 → AM adM (adM k) := fun k hk => ⟨k, hk, rfl⟩
  have sC : ∀ q, AC adC q → AL s q := fun q h => by obtain ⟨k, hk, rfl⟩ := h; exact hAC k hk
  have sM : ∀ q, AM adM q → AL s q := fun q h => by obtain ⟨k, hk, rfl⟩ := h; exact hAM k hk
  have nCM : ∀ k, k < 25 → ¬ AC adC (adM k) := fun k hk h => by obtain ⟨i, hi, e⟩ := h; exact hCM i k hi hk e
  have nMC : ∀ k, k < 143 → ¬ AM adM (adC k) := fun k hk h => by obtain ⟨i, hi, e⟩ := h; exact hCM k i hk hi e.symm
  have nCO : ¬ AC adC qo := fun h => by obtain ⟨i, hi, e⟩ := h; exact hCO i hi e
  have nMO : ¬ AM adM qo := fun h => by obtain ⟨i, hi, e⟩ := h; exact hMO i hi e
  have ix : ∀ k : Nat, k < 6 → vp_in (x4 + nI k) L := fun k hk => by rw [ex, nI_add]; exact vp_in_nI (by omega) (by omega)
  obtain ⟨cd, r, r1, C1, R1, e1, e2, hth, hrr, hc2, hR1⟩ := sim_measure hRel (xs (x4 + nI 1).toNatClampNeg) (xs (x4 + nI 2).toNatClampNeg)
  refine lv_aload_n hx hb dL_law_885 rfl (lv_at hl 3 rfl) ?_
  refine lv_aload_n hx hb dL_law_886 rfl (lv_at hl 4 rfl) ?_
  refine lv_iload hx hb dL_law_887 (lv_at hl 0 rfl) ?_
  refine lv_iconst (v := (1 : Int32)) hx hb dL_law_889 (by decide) ?_
  refine lv_iadd hx hb dL_law_890 ?_
  refine va_sld hx hb hXs hbl hbA hS (ix 1 (by omega)) dL_law_891 ?_
  refine lv_aload_n hx hb dL_law_892 rfl (lv_at hl 4 rfl) ?_
  refine lv_iload hx hb dL_law_893 (lv_at hl 0 rfl) ?_
  refine lv_iconst (v := (2 : Int32)) hx hb dL_law_895 (by decide) ?_
  refine lv_iadd hx hb dL_law_896 ?_
  refine va_sld hx hb hXs hbl hbA hS (ix 2 (by omega)) dL_law_897 ?_
  refine lv_aload_n hx hb dL_law_898 rfl (lv_at hl 1 rfl) ?_
  refine l_callw (vx_runSW (As := [.ref (adC 0), .int (xs (x4 + nI 1).toNatClampNeg), .int (xs (x4 + nI 2).toNatClampNeg), .ref qo]) (rest := []) ⟨hx, hb, hml, hown, hts⟩ (c_L_measure hIC hAC' nCO hnt e1) (vx_cwSW 4 hts gL_law_L_measure rfl rfl rfl (by decide +kernel) ⟨Nat.le_of_ble_eq_true rfl, Nat.le_of_ble_eq_true rfl⟩) (l_PW (fun U hU hW => XW_nar sC (XWo (AL s) s U H hW hS.2.1 hXW)) hK hKL hPC hPO) rfl rfl hl.1 rfl (lv_room (Nat.le_of_ble_eq_true rfl)) dL_law_899 ⟨by show _ ≤ 601024; omega, by show _ ≤ 7293034; omega⟩) hS sC hqo (fun f1 H1 locs1 hPC hf1 hPO hk1 hS => ?_)
  have hPM := P_keep hPM hk1 (fun k hk h => h.elim (nCM k hk) (fun h => hMO k hk h))
  generalize H1 = H at hPC hPM hPO hS ⊢
  clear hk1
  refine lv_istore (lv' := [(5, .int (nI cd)), (4, .int x4), (3, .ref qo), (2, .ref (adM 0)), (1, .ref (adC 0)), (0, .ref b)]) hx hb dL_law_902 hl (by decide) rfl (fun ls hl => ?_)
  refine lv_aload_n hx hb dL_law_904 rfl (lv_at hl 3 rfl) ?_
  refine lv_aload_n hx hb dL_law_905 rfl (lv_at hl 5 rfl) ?_
  refine lv_iload hx hb dL_law_906 (lv_at hl 1 rfl) ?_
  refine lv_iconst (v := (1 : Int32)) hx hb dL_law_908 (by decide) ?_
  refine lv_iadd hx hb dL_law_909 ?_
  refine va_sld hx hb hXs hbl hbA hS (ix 1 (by omega)) dL_law_910 ?_
  refine lv_aload_n hx hb dL_law_911 rfl (lv_at hl 5 rfl) ?_
  refine lv_iload hx hb dL_law_912 (lv_at hl 1 rfl) ?_
  refine lv_iconst (v := (2 : Int32)) hx hb dL_law_914 (by decide) ?_
  refine lv_iadd hx hb dL_law_915 ?_
  refine va_sld hx hb hXs hbl hbA hS (ix 2 (by omega)) dL_law_916 ?_
  refine l_call (va_runV (As := [.int (xs (x4 + nI 1).toNatClampNeg), .int (xs (x4 + nI 2).toNatClampNeg)]) (rest := []) ⟨hx, hb, hml, hown, hts⟩ (c_X6_measure (cP := cP) (cR := cR) hIM hAM' e2) (cwV 2 hts gL_law_X6_measure rfl rfl rfl (by decide +kernel) ⟨Nat.le_of_ble_eq_true rfl, Nat.le_of_ble_eq_true rfl⟩) (l_PV XMb (fun _ _ _ => trivial) hK hPM obX6 rfl) rfl rfl hl.1 rfl (lv_room (Nat.le_of_ble_eq_true rfl)) dL_law_917 ⟨by show _ ≤ 601024; omega, by show _ ≤ 7293034; omega⟩) hS sM (fun H1 locs1 hPM hk1 hS => ?_)
  have hPC := P_keep hPC hk1 nMC
  have hPO := P_keep1 hPO (hk1 qo (hPO 0 _ rfl).lt nMO)
  generalize H1 = H at hPC hPM hPO hS ⊢
  clear hk1
  refine lv_istore (lv' := [(6, .int r1), (5, .int (nI cd)), (4, .int x4), (3, .ref qo), (2, .ref (adM 0)), (1, .ref (adC 0)), (0, .ref b)]) hx hb dL_law_920 hl (by decide) rfl (fun ls hl => ?_)
  refine lv_aload_n hx hb dL_law_922 rfl (lv_at hl 4 rfl) ?_
  refine l_call (va_runV (As := []) (rest := []) ⟨hx, hb, hml, hown, hts⟩ (c_X6_thrown (cP := cP) (cR := cR) hIM hAM' (thrown_e R1)) (cwV 0 hts gL_law_X6_thrown rfl rfl rfl (by decide +kernel) ⟨Nat.le_of_ble_eq_true rfl, Nat.le_of_ble_eq_true rfl⟩) (l_PV XMb (fun _ _ _ => trivial) hK hPM obX6 rfl) rfl rfl hl.1 rfl (lv_room (Nat.le_of_ble_eq_true rfl)) dL_law_923 ⟨by show _ ≤ 601024; omega, by show _ ≤ 7293034; omega⟩) hS sM (fun H1 locs1 hPM hk1 hS => ?_)
  have hPC := P_keep hPC hk1 nMC
  have hPO := P_keep1 hPO (hk1 qo (hPO 0 _ rfl).lt nMO)
  generalize H1 = H at hPC hPM hPO hS ⊢
  clear hk1
  refine lv_iload hx hb dL_law_926 (lv_at hl 1 rfl) ?_
  refine lv_icmp_eq (tgt := 933) hx hb dL_law_928 (by decide) (fun _ => ?_) (fun hc => absurd hth hc)
  refine lv_iload hx hb dL_law_933 (lv_at hl 1 rfl) ?_
  refine lv_if_ne (tgt := 950) hx hb dL_law_935 (by decide) (fun hc => ?_) (fun hc => ?_)
  · refine lv_goto (tgt := 953) hx hb dL_law_950 (by decide) ?_
    refine W.widen (k := 169 + (j + 1)) (n := 36539 + 6 * (j + 1)) (by omega) (by omega) ?_
    exact kk C1 R1 f1 H locs1 ls ⟨hPC, hPM, hPO, hS, hR1⟩ (lv_sub hl [2, 3, 4, 5, 6] rfl)
  · have hc0 : cd = 0 := (nI_eq (by omega) (by omega)).mp (show nI cd = nI 0 from hc)
    refine lv_aload_n hx hb dL_law_938 rfl (lv_at hl 3 rfl) ?_
    refine lv_iconst (v := (0 : Int32)) hx hb dL_law_939 (by decide) ?_
    refine va_lald hx hb hKL hPO 0 0 rfl rfl (by unfold vp_in; decide) dL_law_940 ?_
    refine lv_iload hx hb dL_law_941 (lv_at hl 0 rfl) ?_
    refine lv_i2l hx hb dL_law_943 rfl ?_
    refine W.lcmp hx hb dL_law_944 ?_
    have hz : lg_cmp (f1 (0 : Int32).toNatClampNeg) r1.toInt64 = 0 := by
      have h1 : f1 0 = r.toInt64 := hf1 hc0
      show lg_cmp (f1 0) r1.toInt64 = 0
      rw [h1, hrr hc0]
      exact cmp_self _
    refine lv_if_eq (tgt := 950) hx hb dL_law_945 (by decide) (fun _ => ?_) (fun hc => absurd hz hc)
    refine lv_goto (tgt := 953) hx hb dL_law_950 (by decide) ?_
    refine W.widen (k := 169 + (j + 1)) (n := 36539 + 6 * (j + 1)) (by omega) (by omega) ?_
    exact kk C1 R1 f1 H locs1 ls ⟨hPC, hPM, hPO, hS, hR1⟩ (lv_sub hl [2, 3, 4, 5, 6] rfl)
theorem lt6 {L j : Nat} (hL : L ≤ 3072) (hj : j ≤ 600) : (nI L - (6 : Int32) < nI (6 * j)) ↔ L < 6 * j + 6 := by
  rcases Nat.lt_or_ge L 6 with c | c
  · refine ⟨fun _ => by omega, fun _ => ?_⟩
    have hneg : nI L - (6 : Int32) < nI 0 := by
      rcases (show L = 0 ∨ L = 1 ∨ L = 2 ∨ L = 3 ∨ L = 4 ∨ L = 5 by omega) with rfl | rfl | rfl | rfl | rfl | rfl <;> decide
    rw [Int32.lt_iff_toInt_lt] at hneg ⊢
    rw [nI_toInt (by omega)] at hneg ⊢
    omega
  · rw [li_6, nI_subl c, Int32.lt_iff_toInt_lt, nI_toInt (by omega), nI_toInt (by omega)]
    omega
theorem and31 (x : Int32) : ∃ k, k < 32 ∧ x &&& (31 : Int32) = nI k := pk_andE _ 5 (by decide)
set_option maxHeartbeats 4000000 in
set_option maxRecDepth 100000 in
theorem law_loop {p : Program} {e : Env} {s : State} {m : MethodId} {below : List Frame} {meth : Method} {c : Code} {l : Launch} {b L : Nat} {xs : Nat → Int32} {D : va_G} {adC adM : Nat → Nat} {cI cZ cP cR cL : ClassId} {qo : Nat} (X : LWx p s m meth c l b L xs D adC adM cI cZ cP cR cL qo) :
    ∀ (n j : Nat) (x4 : Int32) (C R : Mem) (f : Nat → Int64) (H : Heap) (locs : List Loc) (ls : Array Slot), L < 6 * (j + n) → j ≤ 512 → x4 = nI (6 * j) → LWs s D adC adM cI cZ cP cR cL qo C R f H locs → lv_has ls 7 [(4, .int x4), (3, .ref qo), (2, .ref (adM 0)), (1, .ref (adC 0)), (0, .ref b)] → W p l e room_1 s m #[Value.ref b] below meth c H locs (169 + j) (36539 + 6 * j) (lw_Z below #[Value.ref b] s) (F0 m 23 ls []) := by
  have X' := X
  obtain ⟨hnt, ⟨hx, hb, hr, hml, hown, hts0, hXs, hbl, hlocks, hgv⟩, hK, hKL, hIC, hIM, hAC, hAM, hqo, hCM, hCO, hMO, hXW, hL⟩ := X
  have hbA : ¬ (AL s) b := Nat.not_le.mpr hbl
  have fin : ∀ (j : Nat) (H : Heap) (locs : List Loc) (ls : Array Slot), j ≤ 512 → va_S (AL s) s.heap H locs → W p l e room_1 s m #[Value.ref b] below meth c H locs (169 + j) (36539 + 6 * j) (lw_Z below #[Value.ref b] s) (F0 m 959 ls []) := by
    intro j H locs ls hj hS
    refine lv_iconst (v := 1) hx hb dL_law_959 (by decide) ?_
    refine va_forget (fun q hq => hS.2.2 q hq) ?_
    refine W.widen (k := 601024) (n := 7293034) (by omega) (by omega) ?_
    exact lw_ret hx hb hr hlocks dL_law_960
  intro n
  induction n with
  | zero =>
    intro j x4 C R f H locs ls hn hj ex hs hl
    have hS := hs.2.2.2.1
    refine lv_iload hx hb dL_law_23 (lv_at hl 0 rfl) ?_
    refine lv_aload_n hx hb dL_law_25 rfl (lv_at hl 4 rfl) ?_
    refine va_slen hx hb hXs hbl hbA hS dL_law_26 ?_
    refine lv_bipush (v := (6 : Int32)) hx hb dL_law_27 (by decide) ?_
    refine lv_isub hx hb dL_law_29 ?_
    refine lv_icmp_gt (tgt := 959) hx hb dL_law_30 (by decide) (fun _ => fin j H locs ls hj hS) (fun hc => absurd (by rw [ex]; exact (lt6 hL (by omega)).mpr (by omega)) hc)
  | succ n ih =>
    intro j x4 C R f H locs ls hn hj ex hs hl
    have hS := hs.2.2.2.1
    refine lv_iload hx hb dL_law_23 (lv_at hl 0 rfl) ?_
    refine lv_aload_n hx hb dL_law_25 rfl (lv_at hl 4 rfl) ?_
    refine va_slen hx hb hXs hbl hbA hS dL_law_26 ?_
    refine lv_bipush (v := (6 : Int32)) hx hb dL_law_27 (by decide) ?_
    refine lv_isub hx hb dL_law_29 ?_
    refine lv_icmp_gt (tgt := 959) hx hb dL_law_30 (by decide) (fun _ => fin j H locs ls hj hS) (fun hc => ?_)
    have hj6 : 6 * j + 6 ≤ L := by
      rcases Nat.lt_or_ge L (6 * j + 6) with q | q
      · exact absurd (by rw [ex]; exact (lt6 hL (by omega)).mpr q) hc
      · exact q
    have kk : ∀ (C R : Mem) (f : Nat → Int64) (H : Heap) (locs : List Loc) (ls : Array Slot), LWs s D adC adM cI cZ cP cR cL qo C R f H locs → lv_has ls 7 [(4, .int x4), (3, .ref qo), (2, .ref (adM 0)), (1, .ref (adC 0)), (0, .ref b)] → W p l e room_1 s m #[Value.ref b] below meth c H locs (169 + (j + 1)) (36539 + 6 * (j + 1)) (lw_Z below #[Value.ref b] s) (F0 m 953 ls []) := by
      intro C R f H locs ls hs hl
      obtain ⟨y4, ey⟩ : ∃ y : Int32, y = x4 + 6 := ⟨_, rfl⟩
      refine lv_iinc (v := y4) (lv' := [(4, .int y4), (3, .ref qo), (2, .ref (adM 0)), (1, .ref (adC 0)), (0, .ref b)]) hx hb dL_law_953 hl (k := 0) rfl (by rw [ey]; rfl) (by decide) rfl (fun ls hl => ?_)
      refine lv_goto (tgt := 23) hx hb dL_law_956 (by decide) ?_
      exact ih (j + 1) y4 C R f H locs ls (by omega) (by omega) (by rw [ey, ex, li_6, nI_add, Nat.mul_add]) hs hl
    refine lv_aload_n hx hb dL_law_33 rfl (lv_at hl 4 rfl) ?_
    refine lv_iload hx hb dL_law_34 (lv_at hl 0 rfl) ?_
    refine va_sld hx hb hXs hbl hbA hS (by rw [ex]; exact vp_in_nI (by omega) (by omega)) dL_law_36 ?_
    refine lv_bipush (v := (31 : Int32)) hx hb dL_law_37 (by decide) ?_
    refine lv_iand hx hb dL_law_39 ?_
    obtain ⟨k, hk, ek⟩ := and31 (xs x4.toNatClampNeg)
    rw [ek]
    have tk : (nI k).toInt = (k : Int) := nI_toInt (by omega)
    by_cases hd : 17 < k
    · refine lv_tableOut (tgt := 953) hx hb dL_law_40 (Or.inr (by rw [tk]; omega)) (by decide) ?_
      refine W.widen (k := 169 + (j + 1)) (n := 36539 + 6 * (j + 1)) (by omega) (by omega) ?_
      exact kk C R f H locs ls hs hl
    · rcases (show k = 0 ∨ k = 1 ∨ k = 2 ∨ k = 3 ∨ k = 4 ∨ k = 5 ∨ k = 6 ∨ k = 7 ∨ k = 8 ∨ k = 9 ∨ k = 10 ∨ k = 11 ∨ k = 12 ∨ k = 13 ∨ k = 14 ∨ k = 15 ∨ k = 16 ∨ k = 17 by omega) with rfl | rfl | rfl | rfl | rfl | rfl | rfl | rfl | rfl | rfl | rfl | rfl | rfl | rfl | rfl | rfl | rfl | rfl
      · refine lv_tableIn (off := 88) (tgt := 128) hx hb dL_law_40 (by decide) (by decide) (by decide) (by decide) ?_
        exact lc_key X' hj6 ex hs hl kk
      · refine lv_tableIn (off := 136) (tgt := 176) hx hb dL_law_40 (by decide) (by decide) (by decide) (by decide) ?_
        exact lc_poke X' hj6 ex hs hl kk
      · refine lv_tableIn (off := 216) (tgt := 256) hx hb dL_law_40 (by decide) (by decide) (by decide) (by decide) ?_
        exact lc_peek X' hj6 ex hs hl kk
      · refine lv_tableIn (off := 284) (tgt := 324) hx hb dL_law_40 (by decide) (by decide) (by decide) (by decide) ?_
        exact lc_space X' hj6 ex hs hl kk
      · refine lv_tableIn (off := 309) (tgt := 349) hx hb dL_law_40 (by decide) (by decide) (by decide) (by decide) ?_
        exact lc_thread X' hj6 ex hs hl kk
      · refine lv_tableIn (off := 358) (tgt := 398) hx hb dL_law_40 (by decide) (by decide) (by decide) (by decide) ?_
        exact lc_table X' hj6 ex hs hl kk
      · refine lv_tableIn (off := 407) (tgt := 447) hx hb dL_law_40 (by decide) (by decide) (by decide) (by decide) ?_
        exact lc_data X' hj6 ex hs hl kk
      · refine lv_tableIn (off := 480) (tgt := 520) hx hb dL_law_40 (by decide) (by decide) (by decide) (by decide) ?_
        exact lc_share X' hj6 ex hs hl kk
      · refine lv_tableIn (off := 541) (tgt := 581) hx hb dL_law_40 (by decide) (by decide) (by decide) (by decide) ?_
        exact lc_spare X' hj6 ex hs hl kk
      · refine lv_tableIn (off := 578) (tgt := 618) hx hb dL_law_40 (by decide) (by decide) (by decide) (by decide) ?_
        exact lc_finish X' hj6 ex hs hl kk
      · refine lv_tableIn (off := 603) (tgt := 643) hx hb dL_law_40 (by decide) (by decide) (by decide) (by decide) ?_
        exact lc_stop X' hj6 ex hs hl kk
      · refine lv_tableIn (off := 628) (tgt := 668) hx hb dL_law_40 (by decide) (by decide) (by decide) (by decide) ?_
        exact lc_remove X' hj6 ex hs hl kk
      · refine lv_tableIn (off := 653) (tgt := 693) hx hb dL_law_40 (by decide) (by decide) (by decide) (by decide) ?_
        exact lc_enter X' hj6 ex hs hl kk
      · refine lv_tableIn (off := 714) (tgt := 754) hx hb dL_law_40 (by decide) (by decide) (by decide) (by decide) ?_
        exact lc_resume X' hj6 ex hs hl kk
      · refine lv_tableIn (off := 751) (tgt := 791) hx hb dL_law_40 (by decide) (by decide) (by decide) (by decide) ?_
        exact lc_result X' hj6 ex hs hl kk
      · refine lv_tableIn (off := 764) (tgt := 804) hx hb dL_law_40 (by decide) (by decide) (by decide) (by decide) ?_
        exact lc_steps X' hj6 ex hs hl kk
      · refine lv_tableIn (off := 777) (tgt := 817) hx hb dL_law_40 (by decide) (by decide) (by decide) (by decide) ?_
        exact lc_told X' hj6 ex hs hl kk
      · refine lv_tableIn (off := 845) (tgt := 885) hx hb dL_law_40 (by decide) (by decide) (by decide) (by decide) ?_
        exact lc_measure X' hj6 ex hs hl kk
