section
-- ===== PART A: goes FIRST, ahead of the names: the tables' words, and 'selects' of the private methods out of them =====
/-- a private method of a class that the tables say can be made, by its rows of tables_1 -/
def lw_okq (q : MethodName × Nat) : Prop := (q.1.cls ≠ "java/lang/invoke/MethodHandle" ∧ q.1.cls ≠ "java/lang/invoke/VarHandle") ∧ Cond.instantiable q.1.cls q.2 ∈ tables_1 ∧ Cond.privateMethod q.1 ∈ tables_1 ∧ Cond.instanceMethod q.1 ∈ tables_1
theorem lw_p0 : lw_okq (⟨"PageMonitor", "refusalOfNew", "(III)I"⟩, 3) := ⟨⟨by decide +kernel, by decide +kernel⟩, List.mem_of_getElem? (i := 17) (by decide +kernel), List.mem_of_getElem? (i := 217) (by decide +kernel), List.mem_of_getElem? (i := 218) (by decide +kernel)⟩
theorem lw_p1 : lw_okq (⟨"PageMonitor", "refusalOfSpace", "(II)I"⟩, 3) := ⟨⟨by decide +kernel, by decide +kernel⟩, List.mem_of_getElem? (i := 17) (by decide +kernel), List.mem_of_getElem? (i := 221) (by decide +kernel), List.mem_of_getElem? (i := 222) (by decide +kernel)⟩
theorem lw_p2 : lw_okq (⟨"PageMonitor$Hasher", "spread", "([I)V"⟩, 2) := ⟨⟨by decide +kernel, by decide +kernel⟩, List.mem_of_getElem? (i := 123) (by decide +kernel), List.mem_of_getElem? (i := 238) (by decide +kernel), List.mem_of_getElem? (i := 239) (by decide +kernel)⟩
theorem lw_p3 : lw_okq (⟨"PageMonitor$Store", "entriesFor", "(LPageMonitor$Page;I)[I"⟩, 2) := ⟨⟨by decide +kernel, by decide +kernel⟩, List.mem_of_getElem? (i := 31) (by decide +kernel), List.mem_of_getElem? (i := 265) (by decide +kernel), List.mem_of_getElem? (i := 266) (by decide +kernel)⟩
theorem lw_p4 : lw_okq (⟨"PageMonitor", "homeOf", "(LPageMonitor$Page;)LPageMonitor$Page;"⟩, 3) := ⟨⟨by decide +kernel, by decide +kernel⟩, List.mem_of_getElem? (i := 17) (by decide +kernel), List.mem_of_getElem? (i := 310) (by decide +kernel), List.mem_of_getElem? (i := 311) (by decide +kernel)⟩
theorem lw_p5 : lw_okq (⟨"PageMonitor", "refusalOfRun", "(IIZ)I"⟩, 3) := ⟨⟨by decide +kernel, by decide +kernel⟩, List.mem_of_getElem? (i := 17) (by decide +kernel), List.mem_of_getElem? (i := 322) (by decide +kernel), List.mem_of_getElem? (i := 323) (by decide +kernel)⟩
theorem lw_p6 : lw_okq (⟨"PageMonitor$Machine", "obey", "(LPageMonitor$Page;LPageMonitor$Page;I)I"⟩, 8) := ⟨⟨by decide +kernel, by decide +kernel⟩, List.mem_of_getElem? (i := 25) (by decide +kernel), List.mem_of_getElem? (i := 334) (by decide +kernel), List.mem_of_getElem? (i := 335) (by decide +kernel)⟩
theorem lw_p7 : lw_okq (⟨"PageMonitor$Machine", "load", "(LPageMonitor$Page;I[II)I"⟩, 8) := ⟨⟨by decide +kernel, by decide +kernel⟩, List.mem_of_getElem? (i := 25) (by decide +kernel), List.mem_of_getElem? (i := 338) (by decide +kernel), List.mem_of_getElem? (i := 339) (by decide +kernel)⟩
theorem lw_p8 : lw_okq (⟨"PageMonitor$Machine", "save", "(LPageMonitor$Page;II)I"⟩, 8) := ⟨⟨by decide +kernel, by decide +kernel⟩, List.mem_of_getElem? (i := 25) (by decide +kernel), List.mem_of_getElem? (i := 342) (by decide +kernel), List.mem_of_getElem? (i := 343) (by decide +kernel)⟩
theorem lw_p9 : lw_okq (⟨"PageMonitor$Machine", "vouch", "(LPageMonitor$Page;II)I"⟩, 8) := ⟨⟨by decide +kernel, by decide +kernel⟩, List.mem_of_getElem? (i := 25) (by decide +kernel), List.mem_of_getElem? (i := 346) (by decide +kernel), List.mem_of_getElem? (i := 347) (by decide +kernel)⟩
theorem lw_p10 : lw_okq (⟨"PageMonitor$Machine", "readEight", "(LPageMonitor$Page;I[I)Z"⟩, 8) := ⟨⟨by decide +kernel, by decide +kernel⟩, List.mem_of_getElem? (i := 25) (by decide +kernel), List.mem_of_getElem? (i := 350) (by decide +kernel), List.mem_of_getElem? (i := 351) (by decide +kernel)⟩
theorem lw_p11 : lw_okq (⟨"PageMonitor$Machine", "mayWriteEight", "(LPageMonitor$Page;I)Z"⟩, 8) := ⟨⟨by decide +kernel, by decide +kernel⟩, List.mem_of_getElem? (i := 25) (by decide +kernel), List.mem_of_getElem? (i := 354) (by decide +kernel), List.mem_of_getElem? (i := 355) (by decide +kernel)⟩
theorem lw_p12 : lw_okq (⟨"PageMonitor$Machine", "compare", "(LPageMonitor$Page;I[II)I"⟩, 8) := ⟨⟨by decide +kernel, by decide +kernel⟩, List.mem_of_getElem? (i := 25) (by decide +kernel), List.mem_of_getElem? (i := 363) (by decide +kernel), List.mem_of_getElem? (i := 364) (by decide +kernel)⟩
theorem lw_p13 : lw_okq (⟨"java/lang/Throwable", "fillInStackTrace", "(I)Ljava/lang/Throwable;"⟩, 6) := ⟨⟨by decide +kernel, by decide +kernel⟩, List.mem_of_getElem? (i := 438) (by decide +kernel), List.mem_of_getElem? (i := 436) (by decide +kernel), List.mem_of_getElem? (i := 437) (by decide +kernel)⟩
theorem lw_p14 : lw_okq (⟨"PageMonitorModel", "free", "()V"⟩, 32) := ⟨⟨by decide +kernel, by decide +kernel⟩, List.mem_of_getElem? (i := 529) (by decide +kernel), List.mem_of_getElem? (i := 607) (by decide +kernel), List.mem_of_getElem? (i := 608) (by decide +kernel)⟩
theorem lw_p15 : lw_okq (⟨"PageMonitorModel", "begin", "()V"⟩, 32) := ⟨⟨by decide +kernel, by decide +kernel⟩, List.mem_of_getElem? (i := 529) (by decide +kernel), List.mem_of_getElem? (i := 732) (by decide +kernel), List.mem_of_getElem? (i := 733) (by decide +kernel)⟩
def lw_privs_1 : List (MethodName × Nat) := [(⟨"PageMonitor", "refusalOfNew", "(III)I"⟩, 3), (⟨"PageMonitor", "refusalOfSpace", "(II)I"⟩, 3), (⟨"PageMonitor$Hasher", "spread", "([I)V"⟩, 2), (⟨"PageMonitor$Store", "entriesFor", "(LPageMonitor$Page;I)[I"⟩, 2), (⟨"PageMonitor", "homeOf", "(LPageMonitor$Page;)LPageMonitor$Page;"⟩, 3), (⟨"PageMonitor", "refusalOfRun", "(IIZ)I"⟩, 3), (⟨"PageMonitor$Machine", "obey", "(LPageMonitor$Page;LPageMonitor$Page;I)I"⟩, 8), (⟨"PageMonitor$Machine", "load", "(LPageMonitor$Page;I[II)I"⟩, 8), (⟨"PageMonitor$Machine", "save", "(LPageMonitor$Page;II)I"⟩, 8), (⟨"PageMonitor$Machine", "vouch", "(LPageMonitor$Page;II)I"⟩, 8), (⟨"PageMonitor$Machine", "readEight", "(LPageMonitor$Page;I[I)Z"⟩, 8), (⟨"PageMonitor$Machine", "mayWriteEight", "(LPageMonitor$Page;I)Z"⟩, 8), (⟨"PageMonitor$Machine", "compare", "(LPageMonitor$Page;I[II)I"⟩, 8), (⟨"java/lang/Throwable", "fillInStackTrace", "(I)Ljava/lang/Throwable;"⟩, 6), (⟨"PageMonitorModel", "free", "()V"⟩, 32), (⟨"PageMonitorModel", "begin", "()V"⟩, 32)]
theorem lw_r1 : ∀ q ∈ lw_privs_1, lw_okq q := List.forall_mem_cons.mpr ⟨lw_p0, List.forall_mem_cons.mpr ⟨lw_p1, List.forall_mem_cons.mpr ⟨lw_p2, List.forall_mem_cons.mpr ⟨lw_p3, List.forall_mem_cons.mpr ⟨lw_p4, List.forall_mem_cons.mpr ⟨lw_p5, List.forall_mem_cons.mpr ⟨lw_p6, List.forall_mem_cons.mpr ⟨lw_p7, List.forall_mem_cons.mpr ⟨lw_p8, List.forall_mem_cons.mpr ⟨lw_p9, List.forall_mem_cons.mpr ⟨lw_p10, List.forall_mem_cons.mpr ⟨lw_p11, List.forall_mem_cons.mpr ⟨lw_p12, List.forall_mem_cons.mpr ⟨lw_p13, List.forall_mem_cons.mpr ⟨lw_p14, List.forall_mem_cons.mpr ⟨lw_p15, fun _ h => absurd h List.not_mem_nil⟩⟩⟩⟩⟩⟩⟩⟩⟩⟩⟩⟩⟩⟩⟩⟩
theorem lw_p16 : lw_okq (⟨"PageMonitorModel", "wrong", "(ZI)V"⟩, 32) := ⟨⟨by decide +kernel, by decide +kernel⟩, List.mem_of_getElem? (i := 529) (by decide +kernel), List.mem_of_getElem? (i := 739) (by decide +kernel), List.mem_of_getElem? (i := 740) (by decide +kernel)⟩
theorem lw_p17 : lw_okq (⟨"PageMonitorModel", "wantFree", "(I)V"⟩, 32) := ⟨⟨by decide +kernel, by decide +kernel⟩, List.mem_of_getElem? (i := 529) (by decide +kernel), List.mem_of_getElem? (i := 743) (by decide +kernel), List.mem_of_getElem? (i := 744) (by decide +kernel)⟩
theorem lw_p18 : lw_okq (⟨"PageMonitorModel", "isKind", "(II)Z"⟩, 32) := ⟨⟨by decide +kernel, by decide +kernel⟩, List.mem_of_getElem? (i := 529) (by decide +kernel), List.mem_of_getElem? (i := 747) (by decide +kernel), List.mem_of_getElem? (i := 748) (by decide +kernel)⟩
theorem lw_p19 : lw_okq (⟨"PageMonitorModel", "become", "(III)V"⟩, 32) := ⟨⟨by decide +kernel, by decide +kernel⟩, List.mem_of_getElem? (i := 529) (by decide +kernel), List.mem_of_getElem? (i := 751) (by decide +kernel), List.mem_of_getElem? (i := 752) (by decide +kernel)⟩
theorem lw_p20 : lw_okq (⟨"PageMonitorModel", "wantSpace", "(II)V"⟩, 32) := ⟨⟨by decide +kernel, by decide +kernel⟩, List.mem_of_getElem? (i := 529) (by decide +kernel), List.mem_of_getElem? (i := 759) (by decide +kernel), List.mem_of_getElem? (i := 760) (by decide +kernel)⟩
theorem lw_p21 : lw_okq (⟨"PageMonitorModel", "tell", "(IIII)V"⟩, 32) := ⟨⟨by decide +kernel, by decide +kernel⟩, List.mem_of_getElem? (i := 529) (by decide +kernel), List.mem_of_getElem? (i := 763) (by decide +kernel), List.mem_of_getElem? (i := 764) (by decide +kernel)⟩
theorem lw_p22 : lw_okq (⟨"PageMonitorModel", "isTaken", "(II)Z"⟩, 32) := ⟨⟨by decide +kernel, by decide +kernel⟩, List.mem_of_getElem? (i := 529) (by decide +kernel), List.mem_of_getElem? (i := 778) (by decide +kernel), List.mem_of_getElem? (i := 779) (by decide +kernel)⟩
theorem lw_p23 : lw_okq (⟨"PageMonitorModel", "tableOf", "(II)I"⟩, 32) := ⟨⟨by decide +kernel, by decide +kernel⟩, List.mem_of_getElem? (i := 529) (by decide +kernel), List.mem_of_getElem? (i := 782) (by decide +kernel), List.mem_of_getElem? (i := 783) (by decide +kernel)⟩
theorem lw_p24 : lw_okq (⟨"PageMonitorModel", "entryOf", "(II)I"⟩, 32) := ⟨⟨by decide +kernel, by decide +kernel⟩, List.mem_of_getElem? (i := 529) (by decide +kernel), List.mem_of_getElem? (i := 786) (by decide +kernel), List.mem_of_getElem? (i := 787) (by decide +kernel)⟩
theorem lw_p25 : lw_okq (⟨"PageMonitorModel", "hash", "(I)V"⟩, 32) := ⟨⟨by decide +kernel, by decide +kernel⟩, List.mem_of_getElem? (i := 529) (by decide +kernel), List.mem_of_getElem? (i := 802) (by decide +kernel), List.mem_of_getElem? (i := 803) (by decide +kernel)⟩
theorem lw_p26 : lw_okq (⟨"PageMonitorModel", "block", "(I)V"⟩, 32) := ⟨⟨by decide +kernel, by decide +kernel⟩, List.mem_of_getElem? (i := 529) (by decide +kernel), List.mem_of_getElem? (i := 807) (by decide +kernel), List.mem_of_getElem? (i := 808) (by decide +kernel)⟩
theorem lw_p27 : lw_okq (⟨"PageMonitorModel", "belonging", "(I)I"⟩, 32) := ⟨⟨by decide +kernel, by decide +kernel⟩, List.mem_of_getElem? (i := 529) (by decide +kernel), List.mem_of_getElem? (i := 822) (by decide +kernel), List.mem_of_getElem? (i := 823) (by decide +kernel)⟩
theorem lw_p28 : lw_okq (⟨"PageMonitorModel", "wantThread", "(IIZ)V"⟩, 32) := ⟨⟨by decide +kernel, by decide +kernel⟩, List.mem_of_getElem? (i := 529) (by decide +kernel), List.mem_of_getElem? (i := 830) (by decide +kernel), List.mem_of_getElem? (i := 831) (by decide +kernel)⟩
theorem lw_p29 : lw_okq (⟨"PageMonitorModel", "run", "(I)I"⟩, 32) := ⟨⟨by decide +kernel, by decide +kernel⟩, List.mem_of_getElem? (i := 529) (by decide +kernel), List.mem_of_getElem? (i := 834) (by decide +kernel), List.mem_of_getElem? (i := 835) (by decide +kernel)⟩
theorem lw_p30 : lw_okq (⟨"PageMonitorModel", "one", "()Z"⟩, 32) := ⟨⟨by decide +kernel, by decide +kernel⟩, List.mem_of_getElem? (i := 529) (by decide +kernel), List.mem_of_getElem? (i := 838) (by decide +kernel), List.mem_of_getElem? (i := 839) (by decide +kernel)⟩
theorem lw_p31 : lw_okq (⟨"PageMonitorModel", "lies", "(II)I"⟩, 32) := ⟨⟨by decide +kernel, by decide +kernel⟩, List.mem_of_getElem? (i := 529) (by decide +kernel), List.mem_of_getElem? (i := 842) (by decide +kernel), List.mem_of_getElem? (i := 843) (by decide +kernel)⟩
def lw_privs_2 : List (MethodName × Nat) := [(⟨"PageMonitorModel", "wrong", "(ZI)V"⟩, 32), (⟨"PageMonitorModel", "wantFree", "(I)V"⟩, 32), (⟨"PageMonitorModel", "isKind", "(II)Z"⟩, 32), (⟨"PageMonitorModel", "become", "(III)V"⟩, 32), (⟨"PageMonitorModel", "wantSpace", "(II)V"⟩, 32), (⟨"PageMonitorModel", "tell", "(IIII)V"⟩, 32), (⟨"PageMonitorModel", "isTaken", "(II)Z"⟩, 32), (⟨"PageMonitorModel", "tableOf", "(II)I"⟩, 32), (⟨"PageMonitorModel", "entryOf", "(II)I"⟩, 32), (⟨"PageMonitorModel", "hash", "(I)V"⟩, 32), (⟨"PageMonitorModel", "block", "(I)V"⟩, 32), (⟨"PageMonitorModel", "belonging", "(I)I"⟩, 32), (⟨"PageMonitorModel", "wantThread", "(IIZ)V"⟩, 32), (⟨"PageMonitorModel", "run", "(I)I"⟩, 32), (⟨"PageMonitorModel", "one", "()Z"⟩, 32), (⟨"PageMonitorModel", "lies", "(II)I"⟩, 32)]
theorem lw_r2 : ∀ q ∈ lw_privs_2, lw_okq q := List.forall_mem_cons.mpr ⟨lw_p16, List.forall_mem_cons.mpr ⟨lw_p17, List.forall_mem_cons.mpr ⟨lw_p18, List.forall_mem_cons.mpr ⟨lw_p19, List.forall_mem_cons.mpr ⟨lw_p20, List.forall_mem_cons.mpr ⟨lw_p21, List.forall_mem_cons.mpr ⟨lw_p22, List.forall_mem_cons.mpr ⟨lw_p23, List.forall_mem_cons.mpr ⟨lw_p24, List.forall_mem_cons.mpr ⟨lw_p25, List.forall_mem_cons.mpr ⟨lw_p26, List.forall_mem_cons.mpr ⟨lw_p27, List.forall_mem_cons.mpr ⟨lw_p28, List.forall_mem_cons.mpr ⟨lw_p29, List.forall_mem_cons.mpr ⟨lw_p30, List.forall_mem_cons.mpr ⟨lw_p31, fun _ h => absurd h List.not_mem_nil⟩⟩⟩⟩⟩⟩⟩⟩⟩⟩⟩⟩⟩⟩⟩⟩
theorem lw_p32 : lw_okq (⟨"PageMonitorModel", "load", "(I)I"⟩, 32) := ⟨⟨by decide +kernel, by decide +kernel⟩, List.mem_of_getElem? (i := 529) (by decide +kernel), List.mem_of_getElem? (i := 846) (by decide +kernel), List.mem_of_getElem? (i := 847) (by decide +kernel)⟩
theorem lw_p33 : lw_okq (⟨"PageMonitorModel", "put", "(II)V"⟩, 32) := ⟨⟨by decide +kernel, by decide +kernel⟩, List.mem_of_getElem? (i := 529) (by decide +kernel), List.mem_of_getElem? (i := 850) (by decide +kernel), List.mem_of_getElem? (i := 851) (by decide +kernel)⟩
theorem lw_p34 : lw_okq (⟨"PageMonitorModel", "store", "(II)V"⟩, 32) := ⟨⟨by decide +kernel, by decide +kernel⟩, List.mem_of_getElem? (i := 529) (by decide +kernel), List.mem_of_getElem? (i := 854) (by decide +kernel), List.mem_of_getElem? (i := 855) (by decide +kernel)⟩
theorem lw_p35 : lw_okq (⟨"PageMonitorModel", "vouch", "(II)V"⟩, 32) := ⟨⟨by decide +kernel, by decide +kernel⟩, List.mem_of_getElem? (i := 529) (by decide +kernel), List.mem_of_getElem? (i := 858) (by decide +kernel), List.mem_of_getElem? (i := 859) (by decide +kernel)⟩
theorem lw_p36 : lw_okq (⟨"PageMonitorModel", "voucher", "([II)V"⟩, 32) := ⟨⟨by decide +kernel, by decide +kernel⟩, List.mem_of_getElem? (i := 529) (by decide +kernel), List.mem_of_getElem? (i := 862) (by decide +kernel), List.mem_of_getElem? (i := 863) (by decide +kernel)⟩
theorem lw_p37 : lw_okq (⟨"PageMonitorModel", "verified", "(I)I"⟩, 32) := ⟨⟨by decide +kernel, by decide +kernel⟩, List.mem_of_getElem? (i := 529) (by decide +kernel), List.mem_of_getElem? (i := 866) (by decide +kernel), List.mem_of_getElem? (i := 867) (by decide +kernel)⟩
theorem lw_p38 : lw_okq (⟨"PageMonitorModel", "takeIn", "(III)I"⟩, 32) := ⟨⟨by decide +kernel, by decide +kernel⟩, List.mem_of_getElem? (i := 529) (by decide +kernel), List.mem_of_getElem? (i := 870) (by decide +kernel), List.mem_of_getElem? (i := 871) (by decide +kernel)⟩
theorem lw_p39 : lw_okq (⟨"PageMonitorModel", "giveBack", "(I)I"⟩, 32) := ⟨⟨by decide +kernel, by decide +kernel⟩, List.mem_of_getElem? (i := 529) (by decide +kernel), List.mem_of_getElem? (i := 874) (by decide +kernel), List.mem_of_getElem? (i := 875) (by decide +kernel)⟩
def lw_privs_3 : List (MethodName × Nat) := [(⟨"PageMonitorModel", "load", "(I)I"⟩, 32), (⟨"PageMonitorModel", "put", "(II)V"⟩, 32), (⟨"PageMonitorModel", "store", "(II)V"⟩, 32), (⟨"PageMonitorModel", "vouch", "(II)V"⟩, 32), (⟨"PageMonitorModel", "voucher", "([II)V"⟩, 32), (⟨"PageMonitorModel", "verified", "(I)I"⟩, 32), (⟨"PageMonitorModel", "takeIn", "(III)I"⟩, 32), (⟨"PageMonitorModel", "giveBack", "(I)I"⟩, 32)]
theorem lw_r3 : ∀ q ∈ lw_privs_3, lw_okq q := List.forall_mem_cons.mpr ⟨lw_p32, List.forall_mem_cons.mpr ⟨lw_p33, List.forall_mem_cons.mpr ⟨lw_p34, List.forall_mem_cons.mpr ⟨lw_p35, List.forall_mem_cons.mpr ⟨lw_p36, List.forall_mem_cons.mpr ⟨lw_p37, List.forall_mem_cons.mpr ⟨lw_p38, List.forall_mem_cons.mpr ⟨lw_p39, fun _ h => absurd h List.not_mem_nil⟩⟩⟩⟩⟩⟩⟩⟩
def lw_privs : List (MethodName × Nat) := lw_privs_1 ++ (lw_privs_2 ++ (lw_privs_3))
def lw_tbl : List Cond := k2_sels lw_privs ++ tables_1
theorem lw_privs_ok : ∀ q ∈ lw_privs, lw_okq q := by
  show ∀ q ∈ lw_privs_1 ++ (lw_privs_2 ++ (lw_privs_3)), lw_okq q
  exact List.forall_mem_append.mpr ⟨lw_r1, List.forall_mem_append.mpr ⟨lw_r2, lw_r3⟩⟩
end
section
/-! ===== BEGIN words of one list among another's, by their places ===== -/
theorem goodIn_r {big : List Cond} (ws : List Cond) (ps : List Nat) (hp : ws = ps.filterMap (fun i => big[i]?)) (h : ws.all goodWord = true) : GoodIn big ws := by
  intro w hw
  have h1 := List.all_eq_true.mp h w hw
  rw [hp] at hw
  obtain ⟨i, -, hi⟩ := List.mem_filterMap.mp hw
  have hm : w ∈ big := by first | exact List.mem_of_getElem? hi | exact List.getElem?_mem hi
  exact ⟨hm, good_of_word h1⟩
theorem goodIn_app {big a b : List Cond} (ha : GoodIn big a) (hb : GoodIn big b) : GoodIn big (a ++ b) := fun w h => (List.mem_append.mp h).elim (ha w) (hb w)
theorem goodIn_ca {big a b : List Cond} {c : Cond} (ha : GoodIn big (c :: a)) (hb : GoodIn big b) : GoodIn big (c :: (a ++ b)) := fun w h => (List.mem_cons.mp h).elim (fun e => ha w (List.mem_cons.mpr (Or.inl e))) (fun h => (List.mem_append.mp h).elim (fun h => ha w (List.mem_cons.mpr (Or.inr h))) (hb w))
theorem goodIn_sub {big ws : List Cond} (hm : ∀ w ∈ ws, w ∈ big) (h : ws.all goodWord = true) : GoodIn big ws := fun w hw => ⟨hm w hw, good_of_word (List.all_eq_true.mp h w hw)⟩
/-! ===== END ===== -/

/-! ===== BEGIN exceptions that leave a method, and their catching by the caller (launches without stack traces) ===== -/
section VXA
/-! The laws vx_back, vx_callV, vx_callS, vx_callSW, vx_throw0, vx_throwS follow proofs of the library, with one case more: JvmDerived/Free/Laws.lean (Back.of_free), Shelf42/LK1.lean (callV, callS), Shelf/KitTraced.lean (throwNew0V, throwNewS). -/
/-- where a method has thrown q: the class by its name, the cell, what was written, the world -/
def vx_T (XC : String → State → State → Prop) (st : State) (q : Addr) (t : State) (mc ms : Nat) (free : Addr → Prop) : Prop :=
  ∃ (E : String) (ce : Cell) (L : List Loc), XC E st t ∧ t.heap[q]? = some ce ∧ ce.vm = .none ∧ st.vm.findClass E = some ce.cls ∧ st.WarmedH t.vm ∧ st.sameButNew ({ t with vm := st.vm } : State) L mc ms ∧ ∀ z ∈ L, free z.base
def vx_Q (Qc : Array Value → State → Outcome → State → Prop) (XC : String → State → State → Prop) (mc ms : Nat) (free : Addr → Prop) : Array Value → State → Outcome → State → Prop := fun a st o t =>
  (Qc a st o t ∧ ∃ L, FrameEnd st o t L mc ms ∧ ∀ q ∈ L, free q.base) ∨ ∃ q, o = .threw q ∧ vx_T XC st q t mc ms free
/-- a callee that returns or throws -/
def vx_Met (l : Launch) (y : MethodName) (ws : List Cond) (rm : Room) (Pc : Array Value → State → Prop) (Qc : Array Value → State → Outcome → State → Prop) (XC : String → State → State → Prop) (mc ms : Nat) (free : Addr → Prop) : Prop :=
  MetFree l y (headSpec ws rm) Pc (fun _ _ _ _ _ => True) (vx_Q Qc XC mc ms free)
def vx_Post (XC : String → State → State → Prop) (mc ms : Nat) (free : Addr → Prop) : Pt → Array Value → Addr → Pt → Prop := fun A a q B =>
  ∃ (g : JFrame) (mk : MethodId) (t : State) (L : List Loc) (E : String) (ce : Cell), B.U.heap = t.heap ∧ B.U.vm = t.vm ∧ XC E (A.U.calling g mk a) t ∧ t.heap[q]? = some ce ∧ ce.vm = .none ∧ A.U.vm.findClass E = some ce.cls ∧ B.locs = A.locs ++ L ∧ (∀ z ∈ L, free z.base) ∧ B.cells = A.cells + mc ∧ B.slots = A.slots + ms
def vx_Back (l : Launch) (R : Room) (p : Program) (e : Env) (below : List Frame) (s : State) (sargs : Array Value) (y : MethodName) (len W9 : Nat)
    (Pre : Pt → Array Value → Prop) (Post : Pt → Array Value → Option Value → Pt → Prop) (PostX : Pt → Array Value → Addr → Pt → Prop) : Prop :=
  ∀ (m : MethodId) (meth : Method) (c : Code) (A : Pt) (g : JFrame) (ig : Instr) (mk : MethodId) (a : Array Value),
    Stand p l e R s m sargs below meth c A.U A.locs A.cells A.slots → g.method = m → g.locals.size = c.maxLocals → decode c.code g.pc = .ok (ig, len) →
    2 * g.monitorRoom + (g.stack.map fun v => v.category).sum ≤ W9 → A.U.methodNamed? y = some mk → Pre A a →
    (∃ (v : Option Value) (B : Pt), Stand p l e R s m sargs below meth c B.U B.locs B.cells B.slots ∧ Post A a v B ∧
      Steps p.tables e below (doInvoke e (A.U.setTop g) [] mk a).1 (B.U.setTop { g with pc := g.pc + len, stack := v.toList ++ g.stack })) ∨
    (∃ (q : Addr) (B : Pt), Stand p l e R s m sargs below meth c B.U B.locs B.cells B.slots ∧ PostX A a q B ∧
      Steps p.tables e below (doInvoke e (A.U.setTop g) [] mk a).1 ((B.U.setTop g).pushFrame (.throwing q)))
section Payer
variable {l : Launch} {R : Room} {p : Program} {e : Env} {below : List Frame} {s : State} {sargs : Array Value} {y : MethodName} {len W9 : Nat}
theorem vx_back {ws : List Cond} {rm : Room} {Pc : Array Value → State → Prop} {Qc : Array Value → State → Outcome → State → Prop} {XC : String → State → State → Prop} {mc ms : Nat} {free : Addr → Prop} {bytes : ByteArray} {maxL : Nat} {ret : Option FieldType}
    (hM : vx_Met l y ws rm Pc Qc XC mc ms free) (hblind : FrameBlind Pc) (hrc : rm.cells = mc) (hrs : rm.slots = ms)
    (hframes : rm.frames + 1 ≤ R.frames) (hlocals : W9 + (maxL + 11) + rm.locals ≤ R.locals)
    (hws : ∀ w ∈ ws, ∀ a' U, s.WarmedH U.vm → w.before a' U = true) (hcode : Cond.code y bytes maxL ret ∈ ws) (hinit : ∀ a' U, s.WarmedH U.vm → (Cond.initialized y.cls).before a' U = true) :
    vx_Back l R p e below s sargs y len W9 (PreOf R mc ms Pc) (PostOf Qc mc ms free) (vx_Post XC mc ms free) := by
  intro m meth c A g ig mk a X hg hsize hdg hW hn hp
  have h1 : (headSpec ws rm).pre.before a A.U = true := atoms_intro fun w hw => hws w hw _ _ X.warmed
  have h2 : (Cond.code y bytes maxL ret).before a A.U = true := hws _ hcode _ _ X.warmed
  have h3 : (Cond.initialized y.cls).before a A.U = true := hinit _ _ X.warmed
  have h4 : A.cells + (headSpec ws rm).room.cells ≤ R.cells := by rw [show (headSpec ws rm).room.cells = mc from hrc]; exact hp.1
  have h5 : A.slots + (headSpec ws rm).room.slots ≤ R.slots := by rw [show (headSpec ws rm).room.slots = ms from hrs]; exact hp.2.1
  have hPc : Pc a (A.U.calling g mk a) := hblind _ _ _ _ hp.2.2
  obtain ⟨U, Ls, c0, s0⟩ := A
  dsimp only [Pt.U, Pt.locs, Pt.cells, Pt.slots] at h1 h2 h3 h4 h5 X hn hPc ⊢
  obtain ⟨methY, cY, hmY, hcY, -, hlY, -, -, -, -⟩ := Cond.code_spec hn h2
  obtain ⟨kY, hkY, -⟩ := className_of_methodNamed hn
  have hinitY : kY.init = .initialized := Cond.initialized_spec (findClass_of_methodNamed hn) hkY h3
  have h : At U g.method c below := by rw [hg]; exact X.here
  have hlocals9 : W9 + (maxL + 11) + (headSpec ws rm).room.locals ≤ R.locals := hlocals
  have happ : (headSpec ws rm).appliesLoose y e.platform (U.calling g mk a) = true :=
    Spec.appliesLoose_calling (g := g) h hdg hn hkY hinitY
      (X.room_calling (g := g) (R' := (headSpec ws rm).room) hsize hmY hcY hframes (by rw [hlY]; omega) h4 h5) h1
  obtain ⟨mid, hmid⟩ := h.above
  have hfr : (U.setTop g).frames = (.java g :: mid) ++ below := by rw [State.frames_setTop' g h.top, hmid]; rfl
  obtain ⟨o, s₂, hsteps, -, hend, hq⟩ := Steps.callFree hM p X.admits X.cas X.clock (acts := []) hfr happ hPc trivial
  have hq' : vx_Q Qc XC mc ms free a (U.calling g mk a) o s₂ := hq
  rw [State.frames_setTop' g h.top] at hend
  obtain ⟨g₀, hg0⟩ := Option.isSome_iff_exists.mp h.top
  obtain ⟨r, hr⟩ := State.topJava?_eq_some.mp hg0
  have hr' : (({ U with heap := s₂.heap, slotsUsed := s₂.slotsUsed } : State).setVm s₂.vm).frames = .java g₀ :: r := hr
  rcases hq' with ⟨hqc, L, hfe, hL⟩ | ⟨q, rfl, E, ce, L, hx, hce, hcv, hcl, hW₂, hsm, hL⟩
  · obtain ⟨⟨v, rfl⟩, hW₂, e2, q2, q3, q4, q5, q6⟩ := id hfe
    have e3 : s₂ = ({ (U.calling g mk a).setFrames s₂.frames with heap := s₂.heap, slotsUsed := s₂.slotsUsed } : State).setVm s₂.vm := by
      have : s₂ = ({ s₂ with vm := (U.calling g mk a).vm } : State).setVm s₂.vm := rfl
      rw [e2] at this
      exact this
    obtain ⟨c₂, i₂, len₂, hc₂, hd₂, hf₂⟩ := hend
    have hW' : U.WarmedH s₂.vm := hW₂
    have hcc : c₂ = c := by
      have h1 : s₂.code? g.method = U.code? g.method := by
        rw [State.code?_eq, State.code?_eq, hW'.alike.method?]
      exact Option.some.inj (hc₂.symm.trans (h1.trans h.code))
    subst hcc
    have hlen : len₂ = len := by rw [hdg] at hd₂; cases hd₂; rfl
    subst hlen
    have hs₂ : s₂ = (({ U with heap := s₂.heap, slotsUsed := s₂.slotsUsed } : State).setVm s₂.vm).setTop { g with pc := g.pc + len₂, stack := v.toList ++ g.stack } := by
      refine e3.trans ?_
      rw [hf₂, State.calling_eq h.top, State.setFrames_setFrames, State.setTop_of_frames _ hr', hr]
      rfl
    have hsame : U.sameButNew ({ U with heap := s₂.heap, slotsUsed := s₂.slotsUsed } : State) L mc ms := by
      refine ⟨?_, q2, q3, q4, q5, q6⟩
      obtain ⟨t, ht, -⟩ := State.frames_cons hr
      show ({ U with heap := s₂.heap, slotsUsed := s₂.slotsUsed } : State) = { U.setFrames U.frames with heap := s₂.heap, slotsUsed := s₂.slotsUsed }
      rw [State.setFrames_self ht]
    subst hg
    refine Or.inl ⟨v, ⟨(({ U with heap := s₂.heap, slotsUsed := s₂.slotsUsed } : State).setVm s₂.vm), Ls ++ L, c0 + mc, s0 + ms⟩,
      ⟨X.admits, X.cas, X.clock, X.frames, X.room, X.hears, X.method, X.code, (X.here.setHeapUsed s₂.heap s₂.slotsUsed).setVm hW'.alike, X.tail, State.WarmedH.trans X.warmed hW', X.limits, X.bytes, X.same.trans (hsame.setVm s.vm)⟩,
      ⟨g, mk, s₂, L, rfl, rfl, hqc, rfl, hL, rfl, rfl⟩, ?_⟩
    show Steps p.tables e below _ ((({ U with heap := s₂.heap, slotsUsed := s₂.slotsUsed } : State).setVm s₂.vm).setTop { g with pc := g.pc + len₂, stack := v.toList ++ g.stack })
    rw [← hs₂]
    exact hsteps
  · obtain ⟨e2, q2, q3, q4, q5, q6⟩ := id hsm
    have e3 : s₂ = ({ (U.calling g mk a).setFrames s₂.frames with heap := s₂.heap, slotsUsed := s₂.slotsUsed } : State).setVm s₂.vm := by
      have : s₂ = ({ s₂ with vm := (U.calling g mk a).vm } : State).setVm s₂.vm := rfl
      rw [e2] at this
      exact this
    have hf₂ : s₂.frames = .throwing q :: .java g :: U.frames.tail := hend
    have hW' : U.WarmedH s₂.vm := hW₂
    have hs₂ : s₂ = ((({ U with heap := s₂.heap, slotsUsed := s₂.slotsUsed } : State).setVm s₂.vm).setTop g).pushFrame (.throwing q) := by
      refine e3.trans ?_
      rw [hf₂, State.calling_eq h.top, State.setFrames_setFrames, State.pushFrame, State.frames_setTop _ hr', State.setTop_of_frames _ hr', State.setFrames_setFrames, hr]
      rfl
    have hsame : U.sameButNew ({ U with heap := s₂.heap, slotsUsed := s₂.slotsUsed } : State) L mc ms := by
      refine ⟨?_, q2, q3, q4, q5, q6⟩
      obtain ⟨t, ht, -⟩ := State.frames_cons hr
      show ({ U with heap := s₂.heap, slotsUsed := s₂.slotsUsed } : State) = { U.setFrames U.frames with heap := s₂.heap, slotsUsed := s₂.slotsUsed }
      rw [State.setFrames_self ht]
    subst hg
    refine Or.inr ⟨q, ⟨(({ U with heap := s₂.heap, slotsUsed := s₂.slotsUsed } : State).setVm s₂.vm), Ls ++ L, c0 + mc, s0 + ms⟩,
      ⟨X.admits, X.cas, X.clock, X.frames, X.room, X.hears, X.method, X.code, (X.here.setHeapUsed s₂.heap s₂.slotsUsed).setVm hW'.alike, X.tail, State.WarmedH.trans X.warmed hW', X.limits, X.bytes, X.same.trans (hsame.setVm s.vm)⟩,
      ⟨g, mk, s₂, L, E, ce, rfl, rfl, hx, hce, hcv, hcl, rfl, hL, rfl, rfl⟩, ?_⟩
    show Steps p.tables e below _ (((({ U with heap := s₂.heap, slotsUsed := s₂.slotsUsed } : State).setVm s₂.vm).setTop g).pushFrame (.throwing q))
    rw [← hs₂]
    exact hsteps
end Payer
section Calls
variable {p : Program} {l : Launch} {e : Env} {R : Room} {s : State} {m : MethodId} {args : Array Value} {below : List Frame} {meth : Method} {c : Code} {T : State} {locs : List Loc} {cells slots : Nat}
theorem vx_callV (X : Stand p l e R s m args below meth c T locs cells slots) (hexec : p.tables.exec = Jvm.exec) {own C : String} {index : Nat} {y : MethodName} {bytes : ByteArray} {maxL : Nat} {ret : Option FieldType}
    (hown : s.vm.findClass own = some m.cls) (hlink : (Cond.methodLink own index y).before args s = true) (hinst : (Cond.instanceMethod y).before args s = true) (hsel : (Cond.selects C y y).before args s = true)
    (hcode : (Cond.code y bytes maxL ret).before args s = true) (hy : y.cls ≠ "java/lang/invoke/MethodHandle" ∧ y.cls ≠ "java/lang/invoke/VarHandle")
    {W9 : Nat} {Pre : Pt → Array Value → Prop} {Post : Pt → Array Value → Option Value → Pt → Prop} {PostX : Pt → Array Value → Addr → Pt → Prop} (hK : vx_Back l R p e below s args y 3 W9 Pre Post PostX)
    {b : Addr} {cellB : Cell} (hcell : T.heap[b]? = some cellB) (hobj : cellB.vm.isStatics = false) (hcls : s.vm.findClass C = some cellB.cls)
    {g : JFrame} (hg : g.method = m) (hsize : g.locals.size = c.maxLocals) {argsL rest : List Value} (hlen : ∀ sig, parseMethodDescriptor y.desc = some sig → argsL.length = sig.parameters.length)
    (hstack : g.stack = argsL.reverse ++ .ref b :: rest) (hW : 2 * g.monitorRoom + (rest.map fun v => v.category).sum ≤ W9) (hdg : decode c.code g.pc = .ok (.invokevirtual index, 3))
    (hpre : ∀ vm₁, s.WarmedH vm₁ → Pre ⟨T.setVm vm₁, locs, cells, slots⟩ (Value.ref b :: argsL).toArray) :
    (∃ (v : Option Value) (vm₁ : Vm) (B : Pt), s.WarmedH vm₁ ∧ Stand p l e R s m args below meth c B.U B.locs B.cells B.slots ∧ Post ⟨T.setVm vm₁, locs, cells, slots⟩ (Value.ref b :: argsL).toArray v B ∧
      ∀ target, Steps p.tables e below (B.U.setTop { g with pc := g.pc + 3, stack := v.toList ++ rest }) target → Steps p.tables e below (T.setTop g) target) ∨
    (∃ (q : Addr) (vm₁ : Vm) (B : Pt), s.WarmedH vm₁ ∧ Stand p l e R s m args below meth c B.U B.locs B.cells B.slots ∧ PostX ⟨T.setVm vm₁, locs, cells, slots⟩ (Value.ref b :: argsL).toArray q B ∧
      Steps p.tables e below (T.setTop g) ((B.U.setTop { g with stack := rest }).pushFrame (.throwing q))) := by
  obtain ⟨mk, methM, hnamed, hmethM, hstM, habM⟩ := Cond.instanceMethod_spec hinst
  obtain ⟨methM', cM, hmethM', -, -, -, -, -, -, hsigM⟩ := Cond.code_spec hnamed hcode
  cases hmethM.symm.trans hmethM'
  obtain ⟨c2, r2, m2, q1, q2, q3, q4, kP, hkP, hkPi⟩ := Cond.selects_spec hsel
  cases hcls.symm.trans q1
  cases (State.methodFound?_of_named hnamed hy).symm.trans q2
  cases hnamed.symm.trans q3
  have hselP : selectMethod e.platform s.vm cellB.cls mk = .method mk := by rw [Launch.admits_selectMethod X.admits]; exact q4
  obtain ⟨vm₁, X₁, hstep₁⟩ := X.invokevirtual hexec hown hlink hnamed hmethM hstM hkP hkPi hy (a := b) (cell := cellB) hcell
    (fun z h => by rw [h] at hobj; cases hobj) hselP hmethM habM hkP hkPi (g := g) hg (argsL := argsL) (rest := rest) (hlen _ hsigM) hstack hdg
  rcases hK m meth c ⟨T.setVm vm₁, locs, cells, slots⟩ { g with stack := rest } (.invokevirtual index) mk (Value.ref b :: argsL).toArray X₁ hg hsize hdg hW (X₁.named hnamed) (hpre vm₁ X₁.warmed) with ⟨v, B, X', hpost, hsteps⟩ | ⟨q, B, X', hpost, hsteps⟩
  · exact Or.inl ⟨v, vm₁, B, X₁.warmed, X', hpost, fun target h => hstep₁ _ fun acts => by rw [doInvoke_state]; exact hsteps.trans h⟩
  · exact Or.inr ⟨q, vm₁, B, X₁.warmed, X', hpost, hstep₁ _ fun acts => by rw [doInvoke_state]; exact hsteps⟩
theorem vx_callS (X : Stand p l e R s m args below meth c T locs cells slots) (hexec : p.tables.exec = Jvm.exec) {own : String} {index : Nat} {y : MethodName} {bytes : ByteArray} {maxL : Nat} {ret : Option FieldType}
    (hown : s.vm.findClass own = some m.cls) (hlink : (Cond.methodLink own index y).before args s = true) (hstat : (Cond.static y).before args s = true) (hinit : (Cond.initialized y.cls).before args s = true)
    (hcode : (Cond.code y bytes maxL ret).before args s = true) (hy : y.cls ≠ "java/lang/invoke/MethodHandle" ∧ y.cls ≠ "java/lang/invoke/VarHandle")
    {W9 : Nat} {Pre : Pt → Array Value → Prop} {Post : Pt → Array Value → Option Value → Pt → Prop} {PostX : Pt → Array Value → Addr → Pt → Prop} (hK : vx_Back l R p e below s args y 3 W9 Pre Post PostX)
    {g : JFrame} (hg : g.method = m) (hsize : g.locals.size = c.maxLocals) {argsL rest : List Value} (hlen : ∀ sig, parseMethodDescriptor y.desc = some sig → argsL.length = sig.parameters.length)
    (hstack : g.stack = argsL.reverse ++ rest) (hW : 2 * g.monitorRoom + (rest.map fun v => v.category).sum ≤ W9) (hdg : decode c.code g.pc = .ok (.invokestatic index, 3))
    (hpre : ∀ vm₁, s.WarmedH vm₁ → Pre ⟨T.setVm vm₁, locs, cells, slots⟩ argsL.toArray) :
    (∃ (v : Option Value) (vm₁ : Vm) (B : Pt), s.WarmedH vm₁ ∧ Stand p l e R s m args below meth c B.U B.locs B.cells B.slots ∧ Post ⟨T.setVm vm₁, locs, cells, slots⟩ argsL.toArray v B ∧
      ∀ target, Steps p.tables e below (B.U.setTop { g with pc := g.pc + 3, stack := v.toList ++ rest }) target → Steps p.tables e below (T.setTop g) target) ∨
    (∃ (q : Addr) (vm₁ : Vm) (B : Pt), s.WarmedH vm₁ ∧ Stand p l e R s m args below meth c B.U B.locs B.cells B.slots ∧ PostX ⟨T.setVm vm₁, locs, cells, slots⟩ argsL.toArray q B ∧
      Steps p.tables e below (T.setTop g) ((B.U.setTop { g with stack := rest }).pushFrame (.throwing q))) := by
  obtain ⟨mk, hnamed⟩ := Cond.code_named hcode
  obtain ⟨methM, cM, hmethM, -, -, -, -, -, -, hsigM⟩ := Cond.code_spec hnamed hcode
  have hstatic : methM.isStatic = true := Cond.static_spec hnamed hmethM hstat
  obtain ⟨kP, hkP, -⟩ := className_of_methodNamed hnamed
  have hinitP : kP.init = .initialized := Cond.initialized_spec (findClass_of_methodNamed hnamed) hkP hinit
  obtain ⟨vm₁, X₁, hstep₁⟩ := X.invokestatic hexec hown hlink hnamed hmethM hstatic hkP hinitP hy (g := g) hg (argsL := argsL) (rest := rest) (hlen _ hsigM) hstack hdg
  rcases hK m meth c ⟨T.setVm vm₁, locs, cells, slots⟩ { g with stack := rest } (.invokestatic index) mk argsL.toArray X₁ hg hsize hdg hW (X₁.named hnamed) (hpre vm₁ X₁.warmed) with ⟨v, B, X', hpost, hsteps⟩ | ⟨q, B, X', hpost, hsteps⟩
  · exact Or.inl ⟨v, vm₁, B, X₁.warmed, X', hpost, fun target h => hstep₁ _ fun acts => by rw [doInvoke_state]; exact hsteps.trans h⟩
  · exact Or.inr ⟨q, vm₁, B, X₁.warmed, X', hpost, hstep₁ _ fun acts => by rw [doInvoke_state]; exact hsteps⟩
end Calls
theorem vx_cls {s : State} {T : State} {vm₁ : Vm} {E : String} {k : ClassId} (hW : s.WarmedH vm₁) (h : (T.setVm vm₁).vm.findClass E = some k) : s.vm.findClass E = some k := by
  have h1 : vm₁.findClass E = some k := h
  rw [hW.alike.findClass] at h1
  exact h1
/-- the method's frame g, with q thrown over it -/
def vx_W (p : Program) (l : Launch) (e : Env) (R : Room) (s : State) (m : MethodId) (args : Array Value) (below : List Frame) (meth : Method) (c : Code) (H : Heap) (locs : List Loc) (cells slots : Nat) (Q : State → Prop) (g : JFrame) (q : Addr) : Prop :=
  ∀ T : State, T.heap = H → Stand p l e R s m args below meth c T locs cells slots → ∃ t, Steps p.tables e below ((T.setTop g).pushFrame (.throwing q)) t ∧ Q t
def vx_Run (p : Program) (l : Launch) (e : Env) (R : Room) (s : State) (m : MethodId) (args : Array Value) (below : List Frame) (meth : Method) (c : Code) (H : Heap) (locs : List Loc) (cells slots mc ms : Nat) (g : JFrame) (rest : List Value) (Qa : State → Outcome → State → Prop) (XC : String → State → State → Prop) (free : Addr → Prop) : Prop :=
  ∀ T : State, T.heap = H → Stand p l e R s m args below meth c T locs cells slots →
    (∃ (v : Option Value) (st₀ t T' : State) (L : List Loc), st₀.heap = H ∧ Stand p l e R s m args below meth c T' (locs ++ L) (cells + mc) (slots + ms) ∧ (∀ q ∈ L, free q.base) ∧ T'.heap = t.heap ∧ T'.vm = t.vm ∧ Qa st₀ (.returned v) t ∧
      Goes p e below T g T' { g with pc := g.pc + 3, stack := v.toList ++ rest }) ∨
    (∃ (q : Addr) (st₀ t T' : State) (L : List Loc) (E : String) (ce : Cell), st₀.heap = H ∧ Stand p l e R s m args below meth c T' (locs ++ L) (cells + mc) (slots + ms) ∧ (∀ z ∈ L, free z.base) ∧ T'.heap = t.heap ∧ T'.vm = t.vm ∧ XC E st₀ t ∧ t.heap[q]? = some ce ∧ ce.vm = .none ∧ s.vm.findClass E = some ce.cls ∧
      Steps p.tables e below (T.setTop g) ((T'.setTop { g with stack := rest }).pushFrame (.throwing q)))
def vx_X {S : Type} (px : S → Prop) (B : String → S → State → Prop) (A : Nat → Prop) : String → State → State → Prop := fun E st t => ∃ u : S, px u ∧ B E u t ∧ va_F A st t
section Runs
variable {p : Program} {l : Launch} {e : Env} {R : Room} {s : State} {m : MethodId} {args : Array Value} {below : List Frame} {meth : Method} {c : Code} {H : Heap} {locs : List Loc} {cells slots : Nat}
variable {y : MethodName} {bytes cc : ByteArray} {maxL nL mc ms n index : Nat} {ret : Option FieldType} {ws : List Cond} {rm : Room} {Pc : Array Value → State → Prop} {Qc : Array Value → State → Outcome → State → Prop} {XC : String → State → State → Prop} {free : Addr → Prop} {Ts : List Cond} {own C : String} {b : Addr} {As rest : List Value} {g : JFrame}
theorem vx_callBack (cb : CallB R s args own index y bytes maxL ret ws rm mc ms n) (hM : vx_Met l y ws rm Pc Qc XC mc ms free) (hbl : FrameBlind Pc) : vx_Back l R p e below s args y 3 8 (PreOf R mc ms Pc) (PostOf Qc mc ms free) (vx_Post XC mc ms free) := by
  obtain ⟨hrc, hrs, hfr, hlo, hws, hcw, -, hini, -⟩ := cb
  exact vx_back (bytes := bytes) (maxL := maxL) (ret := ret) hM hbl hrc hrs hfr hlo hws hcw (fun a' U hW => word_at hW (Or.inl (by first | rfl | simp [Cond.onTables, Cond.keeps, Cond.steady])) hini)
theorem vx_runV (S : CallFix p m c cc nL s args Ts own) (hM : vx_Met l y ws rm Pc Qc XC mc ms free) (cw : CallW R s args own C index y bytes maxL ret ws rm mc ms n) (hp : PreV s H C b Pc As)
    (hg : g.method = m) (hn : As.length = n) (hsize : g.locals.size = nL) (hstack : g.stack = As.reverse ++ .ref b :: rest) (hW : 2 * g.monitorRoom + (rest.map fun v => v.category).sum ≤ 8) (hdg : decode cc g.pc = .ok (.invokevirtual index, 3)) (hf : cells + mc ≤ R.cells ∧ slots + ms ≤ R.slots) :
    vx_Run p l e R s m args below meth c H locs cells slots mc ms g rest (Qc (Value.ref b :: As).toArray) XC free := by
  have hK : vx_Back l R p e below s args y 3 8 (PreOf R mc ms Pc) (PostOf Qc mc ms free) (vx_Post XC mc ms free) := vx_callBack cw.1 hM hp.1
  obtain ⟨⟨-, -, -, -, -, -, hcode, -, hy, hlen, hl⟩, hin, hse⟩ := cw
  obtain ⟨hx, hb, hml, ho, -⟩ := S
  obtain ⟨-, ⟨cellB, hcB, hoB, hclB⟩, hPc⟩ := hp
  intro T hT X
  rcases vx_callV X hx (C := C) (bytes := bytes) (maxL := maxL) (ret := ret) ho hl hin hse hcode hy hK (by rw [hT]; exact hcB) hoB hclB hg (hsize.trans hml.symm) (argsL := As) (rest := rest) (fun sig h => hn.trans (hlen sig h)) hstack hW (by rw [hb]; exact hdg)
    (fun vm₁ hW₁ => ⟨hf.1, hf.2, hPc (T.setVm vm₁) hT hW₁⟩) with ⟨v, vm₁, ⟨U', l2, c2, s2⟩, hW₁, X', ⟨g', mk, t, L, e1, e2, hq, h1, hL, h2, h3⟩, st⟩ | ⟨q, vm₁, ⟨U', l2, c2, s2⟩, hW₁, X', ⟨g', mk, t, L, E, ce, e1, e2, hq, hce, hcv, hcl, h1, hL, h2, h3⟩, st⟩
  · dsimp only [Pt.U, Pt.locs, Pt.cells, Pt.slots] at X' e1 e2 h1 h2 h3 st
    subst h1; subst h2; subst h3
    exact Or.inl ⟨v, (T.setVm vm₁).calling g' mk (Value.ref b :: As).toArray, t, U', L, hT, X', hL, e1, e2, hq, st⟩
  · dsimp only [Pt.U, Pt.locs, Pt.cells, Pt.slots] at X' e1 e2 h1 h2 h3 st hcl
    subst h1; subst h2; subst h3
    exact Or.inr ⟨q, (T.setVm vm₁).calling g' mk (Value.ref b :: As).toArray, t, U', L, E, ce, hT, X', hL, e1, e2, hq, hce, hcv, vx_cls hW₁ hcl, st⟩
theorem vx_runS (S : CallFix p m c cc nL s args Ts own) (hM : vx_Met l y ws rm Pc Qc XC mc ms free) (cw : CallB R s args own index y bytes maxL ret ws rm mc ms n ∧ (Cond.static y).before args s = true) (hp : PreS s H Pc As)
    (hg : g.method = m) (hn : As.length = n) (hsize : g.locals.size = nL) (hstack : g.stack = As.reverse ++ rest) (hW : 2 * g.monitorRoom + (rest.map fun v => v.category).sum ≤ 8) (hdg : decode cc g.pc = .ok (.invokestatic index, 3)) (hf : cells + mc ≤ R.cells ∧ slots + ms ≤ R.slots) :
    vx_Run p l e R s m args below meth c H locs cells slots mc ms g rest (Qc As.toArray) XC free := by
  have hK : vx_Back l R p e below s args y 3 8 (PreOf R mc ms Pc) (PostOf Qc mc ms free) (vx_Post XC mc ms free) := vx_callBack cw.1 hM hp.1
  obtain ⟨⟨-, -, -, -, -, -, hcode, hini, hy, hlen, hl⟩, hstt⟩ := cw
  obtain ⟨hx, hb, hml, ho, -⟩ := S
  intro T hT X
  rcases vx_callS X hx (bytes := bytes) (maxL := maxL) (ret := ret) ho hl hstt hini hcode hy hK hg (hsize.trans hml.symm) (argsL := As) (rest := rest) (fun sig h => hn.trans (hlen sig h)) hstack hW (by rw [hb]; exact hdg)
    (fun vm₁ hW₁ => ⟨hf.1, hf.2, hp.2 (T.setVm vm₁) hT hW₁⟩) with ⟨v, vm₁, ⟨U', l2, c2, s2⟩, hW₁, X', ⟨g', mk, t, L, e1, e2, hq, h1, hL, h2, h3⟩, st⟩ | ⟨q, vm₁, ⟨U', l2, c2, s2⟩, hW₁, X', ⟨g', mk, t, L, E, ce, e1, e2, hq, hce, hcv, hcl, h1, hL, h2, h3⟩, st⟩
  · dsimp only [Pt.U, Pt.locs, Pt.cells, Pt.slots] at X' e1 e2 h1 h2 h3 st
    subst h1; subst h2; subst h3
    exact Or.inl ⟨v, (T.setVm vm₁).calling g' mk As.toArray, t, U', L, hT, X', hL, e1, e2, hq, st⟩
  · dsimp only [Pt.U, Pt.locs, Pt.cells, Pt.slots] at X' e1 e2 h1 h2 h3 st hcl
    subst h1; subst h2; subst h3
    exact Or.inr ⟨q, (T.setVm vm₁).calling g' mk As.toArray, t, U', L, E, ce, hT, X', hL, e1, e2, hq, hce, hcv, vx_cls hW₁ hcl, st⟩
end Runs
section Rows
variable {p : Program} {l : Launch} {e : Env} {R : Room} {s : State} {m : MethodId} {args : Array Value} {below : List Frame} {meth : Method} {c : Code} {H : Heap} {locs : List Loc} {cells slots : Nat} {Q : State → Prop}
variable {mc ms : Nat} {free : Addr → Prop} {A0 A1 : Nat → Prop} {H0 : Heap} {a : Array Value} {pc : Nat} {ls : Array Slot} {st0 rest : List Value}
theorem vx_keep {st₀ t T' : State} {L : List Loc} (h0 : st₀.heap = H) (e1 : T'.heap = t.heap) (hS : va_S A0 H0 H locs) (hA : ∀ q, q < H.size → A1 q → A0 q) (hf : ∀ q, free q → A0 q) (hL : ∀ q ∈ L, free q.base) (hF : va_F A1 st₀ t) :
    H.size ≤ T'.heap.size ∧ (∀ q : Nat, q < H.size → ¬ A1 q → T'.heap[q]? = H[q]?) ∧ va_S A0 H0 T'.heap (locs ++ L) := by
  obtain ⟨hz, hk⟩ := hF
  rw [h0] at hz hk
  exact ⟨by rw [e1]; exact hz, fun q h1 h2 => by rw [e1]; exact hk q h1 h2,
    ⟨Nat.le_trans hS.1 (by rw [e1]; exact hz), fun q h1 h2 => by rw [e1, hk q (Nat.lt_of_lt_of_le h1 hS.1) (fun z => h2 (hA q (Nat.lt_of_lt_of_le h1 hS.1) z))]; exact hS.2.1 q h1 h2, fun q hq => by
      rcases List.mem_append.mp hq with h | h
      · exact hS.2.2 q h
      · exact hf _ (hL q h)⟩⟩
theorem vx_calli {S SX : Type} {post : Int32 → S → Prop} {px : SX → Prop} {B : S → State → Prop} {BX : String → SX → State → Prop} {AX : Nat → Prop} (hr : vx_Run p l e R s m args below meth c H locs cells slots mc ms (F0 m pc ls st0) rest (va_Qi post B A1 a) (vx_X px BX AX) free) (hS : va_S A0 H0 H locs) (hA : ∀ q, q < H.size → A1 q → A0 q) (hf : ∀ q, free q → A0 q) (hAX : ∀ q, q < H.size → AX q → A0 q)
    (kx : ∀ (E : String) (ce : Cell) (q9 : Addr) (u : SX) (t : State) (H1 : Heap) (locs1 : List Loc), t.heap = H1 → s.vm.Alike t.vm → px u → BX E u t → H.size ≤ H1.size → (∀ q : Nat, q < H.size → ¬ AX q → H1[q]? = H[q]?) → va_S A0 H0 H1 locs1 → H1[q9]? = some ce → ce.vm = .none → s.vm.findClass E = some ce.cls → vx_W p l e R s m args below meth c H1 locs1 (cells + mc) (slots + ms) Q (F0 m pc ls rest) q9)
    (kk : ∀ (r : Int32) (u : S) (t : State) (H1 : Heap) (locs1 : List Loc), t.heap = H1 → s.vm.Alike t.vm → post r u → B u t → H.size ≤ H1.size → (∀ q : Nat, q < H.size → ¬ A1 q → H1[q]? = H[q]?) → va_S A0 H0 H1 locs1 → W p l e R s m args below meth c H1 locs1 (cells + mc) (slots + ms) Q (F0 m (pc + 3) ls (.int r :: rest))) : W p l e R s m args below meth c H locs cells slots Q (F0 m pc ls st0) := by
  intro T hT X
  rcases hr T hT X with ⟨v, st₀, t, T', L, h0, X', hL, e1, e2, ⟨⟨r, u, hv, hp, hb⟩, hF⟩, st⟩ | ⟨q, st₀, t, T', L, E, ce, h0, X', hL, e1, e2, ⟨u, hp, hb, hF⟩, hce, hcv, hcl, st⟩
  · cases hv
    obtain ⟨k1, k2, k3⟩ := vx_keep h0 e1 hS hA hf hL hF
    obtain ⟨t2, a1, b1⟩ := kk r u t T'.heap (locs ++ L) e1.symm (by rw [← e2]; exact X'.warmed.alike) hp hb k1 k2 k3 T' rfl X'
    exact ⟨t2, st t2 a1, b1⟩
  · obtain ⟨k1, k2, k3⟩ := vx_keep h0 e1 hS hAX hf hL hF
    obtain ⟨t2, a1, b1⟩ := kx E ce q u t T'.heap (locs ++ L) e1.symm (by rw [← e2]; exact X'.warmed.alike) hp hb k1 k2 k3 (by rw [e1]; exact hce) hcv hcl T' rfl X'
    exact ⟨t2, st.trans a1, b1⟩
theorem vx_calll {S SX : Type} {post : Int64 → S → Prop} {px : SX → Prop} {B : S → State → Prop} {BX : String → SX → State → Prop} {AX : Nat → Prop} (hr : vx_Run p l e R s m args below meth c H locs cells slots mc ms (F0 m pc ls st0) rest (va_Ql post B A1 a) (vx_X px BX AX) free) (hS : va_S A0 H0 H locs) (hA : ∀ q, q < H.size → A1 q → A0 q) (hf : ∀ q, free q → A0 q) (hAX : ∀ q, q < H.size → AX q → A0 q)
    (kx : ∀ (E : String) (ce : Cell) (q9 : Addr) (u : SX) (t : State) (H1 : Heap) (locs1 : List Loc), t.heap = H1 → s.vm.Alike t.vm → px u → BX E u t → H.size ≤ H1.size → (∀ q : Nat, q < H.size → ¬ AX q → H1[q]? = H[q]?) → va_S A0 H0 H1 locs1 → H1[q9]? = some ce → ce.vm = .none → s.vm.findClass E = some ce.cls → vx_W p l e R s m args below meth c H1 locs1 (cells + mc) (slots + ms) Q (F0 m pc ls rest) q9)
    (kk : ∀ (r : Int64) (u : S) (t : State) (H1 : Heap) (locs1 : List Loc), t.heap = H1 → s.vm.Alike t.vm → post r u → B u t → H.size ≤ H1.size → (∀ q : Nat, q < H.size → ¬ A1 q → H1[q]? = H[q]?) → va_S A0 H0 H1 locs1 → W p l e R s m args below meth c H1 locs1 (cells + mc) (slots + ms) Q (F0 m (pc + 3) ls (.long r :: rest))) : W p l e R s m args below meth c H locs cells slots Q (F0 m pc ls st0) := by
  intro T hT X
  rcases hr T hT X with ⟨v, st₀, t, T', L, h0, X', hL, e1, e2, ⟨⟨r, u, hv, hp, hb⟩, hF⟩, st⟩ | ⟨q, st₀, t, T', L, E, ce, h0, X', hL, e1, e2, ⟨u, hp, hb, hF⟩, hce, hcv, hcl, st⟩
  · cases hv
    obtain ⟨k1, k2, k3⟩ := vx_keep h0 e1 hS hA hf hL hF
    obtain ⟨t2, a1, b1⟩ := kk r u t T'.heap (locs ++ L) e1.symm (by rw [← e2]; exact X'.warmed.alike) hp hb k1 k2 k3 T' rfl X'
    exact ⟨t2, st t2 a1, b1⟩
  · obtain ⟨k1, k2, k3⟩ := vx_keep h0 e1 hS hAX hf hL hF
    obtain ⟨t2, a1, b1⟩ := kx E ce q u t T'.heap (locs ++ L) e1.symm (by rw [← e2]; exact X'.warmed.alike) hp hb k1 k2 k3 (by rw [e1]; exact hce) hcv hcl T' rfl X'
    exact ⟨t2, st.trans a1, b1⟩
theorem vx_callf {S SX : Type} {post : UInt32 → S → Prop} {px : SX → Prop} {B : S → State → Prop} {BX : String → SX → State → Prop} {AX : Nat → Prop} (hr : vx_Run p l e R s m args below meth c H locs cells slots mc ms (F0 m pc ls st0) rest (va_Qf post B A1 a) (vx_X px BX AX) free) (hS : va_S A0 H0 H locs) (hA : ∀ q, q < H.size → A1 q → A0 q) (hf : ∀ q, free q → A0 q) (hAX : ∀ q, q < H.size → AX q → A0 q)
    (kx : ∀ (E : String) (ce : Cell) (q9 : Addr) (u : SX) (t : State) (H1 : Heap) (locs1 : List Loc), t.heap = H1 → s.vm.Alike t.vm → px u → BX E u t → H.size ≤ H1.size → (∀ q : Nat, q < H.size → ¬ AX q → H1[q]? = H[q]?) → va_S A0 H0 H1 locs1 → H1[q9]? = some ce → ce.vm = .none → s.vm.findClass E = some ce.cls → vx_W p l e R s m args below meth c H1 locs1 (cells + mc) (slots + ms) Q (F0 m pc ls rest) q9)
    (kk : ∀ (r : UInt32) (u : S) (t : State) (H1 : Heap) (locs1 : List Loc), t.heap = H1 → s.vm.Alike t.vm → post r u → B u t → H.size ≤ H1.size → (∀ q : Nat, q < H.size → ¬ A1 q → H1[q]? = H[q]?) → va_S A0 H0 H1 locs1 → W p l e R s m args below meth c H1 locs1 (cells + mc) (slots + ms) Q (F0 m (pc + 3) ls (.float r :: rest))) : W p l e R s m args below meth c H locs cells slots Q (F0 m pc ls st0) := by
  intro T hT X
  rcases hr T hT X with ⟨v, st₀, t, T', L, h0, X', hL, e1, e2, ⟨⟨r, u, hv, hp, hb⟩, hF⟩, st⟩ | ⟨q, st₀, t, T', L, E, ce, h0, X', hL, e1, e2, ⟨u, hp, hb, hF⟩, hce, hcv, hcl, st⟩
  · cases hv
    obtain ⟨k1, k2, k3⟩ := vx_keep h0 e1 hS hA hf hL hF
    obtain ⟨t2, a1, b1⟩ := kk r u t T'.heap (locs ++ L) e1.symm (by rw [← e2]; exact X'.warmed.alike) hp hb k1 k2 k3 T' rfl X'
    exact ⟨t2, st t2 a1, b1⟩
  · obtain ⟨k1, k2, k3⟩ := vx_keep h0 e1 hS hAX hf hL hF
    obtain ⟨t2, a1, b1⟩ := kx E ce q u t T'.heap (locs ++ L) e1.symm (by rw [← e2]; exact X'.warmed.alike) hp hb k1 k2 k3 (by rw [e1]; exact hce) hcv hcl T' rfl X'
    exact ⟨t2, st.trans a1, b1⟩
theorem vx_calld {S SX : Type} {post : UInt64 → S → Prop} {px : SX → Prop} {B : S → State → Prop} {BX : String → SX → State → Prop} {AX : Nat → Prop} (hr : vx_Run p l e R s m args below meth c H locs cells slots mc ms (F0 m pc ls st0) rest (va_Qd post B A1 a) (vx_X px BX AX) free) (hS : va_S A0 H0 H locs) (hA : ∀ q, q < H.size → A1 q → A0 q) (hf : ∀ q, free q → A0 q) (hAX : ∀ q, q < H.size → AX q → A0 q)
    (kx : ∀ (E : String) (ce : Cell) (q9 : Addr) (u : SX) (t : State) (H1 : Heap) (locs1 : List Loc), t.heap = H1 → s.vm.Alike t.vm → px u → BX E u t → H.size ≤ H1.size → (∀ q : Nat, q < H.size → ¬ AX q → H1[q]? = H[q]?) → va_S A0 H0 H1 locs1 → H1[q9]? = some ce → ce.vm = .none → s.vm.findClass E = some ce.cls → vx_W p l e R s m args below meth c H1 locs1 (cells + mc) (slots + ms) Q (F0 m pc ls rest) q9)
    (kk : ∀ (r : UInt64) (u : S) (t : State) (H1 : Heap) (locs1 : List Loc), t.heap = H1 → s.vm.Alike t.vm → post r u → B u t → H.size ≤ H1.size → (∀ q : Nat, q < H.size → ¬ A1 q → H1[q]? = H[q]?) → va_S A0 H0 H1 locs1 → W p l e R s m args below meth c H1 locs1 (cells + mc) (slots + ms) Q (F0 m (pc + 3) ls (.double r :: rest))) : W p l e R s m args below meth c H locs cells slots Q (F0 m pc ls st0) := by
  intro T hT X
  rcases hr T hT X with ⟨v, st₀, t, T', L, h0, X', hL, e1, e2, ⟨⟨r, u, hv, hp, hb⟩, hF⟩, st⟩ | ⟨q, st₀, t, T', L, E, ce, h0, X', hL, e1, e2, ⟨u, hp, hb, hF⟩, hce, hcv, hcl, st⟩
  · cases hv
    obtain ⟨k1, k2, k3⟩ := vx_keep h0 e1 hS hA hf hL hF
    obtain ⟨t2, a1, b1⟩ := kk r u t T'.heap (locs ++ L) e1.symm (by rw [← e2]; exact X'.warmed.alike) hp hb k1 k2 k3 T' rfl X'
    exact ⟨t2, st t2 a1, b1⟩
  · obtain ⟨k1, k2, k3⟩ := vx_keep h0 e1 hS hAX hf hL hF
    obtain ⟨t2, a1, b1⟩ := kx E ce q u t T'.heap (locs ++ L) e1.symm (by rw [← e2]; exact X'.warmed.alike) hp hb k1 k2 k3 (by rw [e1]; exact hce) hcv hcl T' rfl X'
    exact ⟨t2, st.trans a1, b1⟩
theorem vx_callv {S SX : Type} {post : S → Prop} {px : SX → Prop} {B : S → State → Prop} {BX : String → SX → State → Prop} {AX : Nat → Prop} (hr : vx_Run p l e R s m args below meth c H locs cells slots mc ms (F0 m pc ls st0) rest (va_Qv post B A1 a) (vx_X px BX AX) free) (hS : va_S A0 H0 H locs) (hA : ∀ q, q < H.size → A1 q → A0 q) (hf : ∀ q, free q → A0 q) (hAX : ∀ q, q < H.size → AX q → A0 q)
    (kx : ∀ (E : String) (ce : Cell) (q9 : Addr) (u : SX) (t : State) (H1 : Heap) (locs1 : List Loc), t.heap = H1 → s.vm.Alike t.vm → px u → BX E u t → H.size ≤ H1.size → (∀ q : Nat, q < H.size → ¬ AX q → H1[q]? = H[q]?) → va_S A0 H0 H1 locs1 → H1[q9]? = some ce → ce.vm = .none → s.vm.findClass E = some ce.cls → vx_W p l e R s m args below meth c H1 locs1 (cells + mc) (slots + ms) Q (F0 m pc ls rest) q9)
    (kk : ∀ (u : S) (t : State) (H1 : Heap) (locs1 : List Loc), t.heap = H1 → s.vm.Alike t.vm → post u → B u t → H.size ≤ H1.size → (∀ q : Nat, q < H.size → ¬ A1 q → H1[q]? = H[q]?) → va_S A0 H0 H1 locs1 → W p l e R s m args below meth c H1 locs1 (cells + mc) (slots + ms) Q (F0 m (pc + 3) ls (rest))) : W p l e R s m args below meth c H locs cells slots Q (F0 m pc ls st0) := by
  intro T hT X
  rcases hr T hT X with ⟨v, st₀, t, T', L, h0, X', hL, e1, e2, ⟨⟨u, hv, hp, hb⟩, hF⟩, st⟩ | ⟨q, st₀, t, T', L, E, ce, h0, X', hL, e1, e2, ⟨u, hp, hb, hF⟩, hce, hcv, hcl, st⟩
  · cases hv
    obtain ⟨k1, k2, k3⟩ := vx_keep h0 e1 hS hA hf hL hF
    obtain ⟨t2, a1, b1⟩ := kk u t T'.heap (locs ++ L) e1.symm (by rw [← e2]; exact X'.warmed.alike) hp hb k1 k2 k3 T' rfl X'
    exact ⟨t2, st t2 a1, b1⟩
  · obtain ⟨k1, k2, k3⟩ := vx_keep h0 e1 hS hAX hf hL hF
    obtain ⟨t2, a1, b1⟩ := kx E ce q u t T'.heap (locs ++ L) e1.symm (by rw [← e2]; exact X'.warmed.alike) hp hb k1 k2 k3 (by rw [e1]; exact hce) hcv hcl T' rfl X'
    exact ⟨t2, st.trans a1, b1⟩
end Rows
section Ends
variable {p : Program} {l : Launch} {e : Env} {R : Room} {s : State} {m : MethodId} {args : Array Value} {below : List Frame} {meth : Method} {c : Code} {H : Heap} {locs : List Loc} {cells slots : Nat} {Q : State → Prop}
variable {mc ms : Nat} {free : Addr → Prop} {A0 A1 : Nat → Prop} {H0 : Heap} {a : Array Value} {ls : Array Slot} {st0 rest : List Value}
variable {Qc : Array Value → State → Outcome → State → Prop} {XC : String → State → State → Prop}
/-- what a body that may throw owes at its end -/
def vx_MQ (below : List Frame) (Qc : Array Value → State → Outcome → State → Prop) (XC : String → State → State → Prop) (a : Array Value) (s : State) (mc ms : Nat) (free : Addr → Prop) : State → Prop := fun t =>
  ∃ o, t.status = .running ∧ Ended t below o ∧ vx_Q Qc XC mc ms free a s o t
theorem vx_ret {g : JFrame} {mc ms : Nat} (k : W p l e R s m args below meth c H locs cells slots (MQ below Qc args s mc ms free) g) : W p l e R s m args below meth c H locs cells slots (vx_MQ below Qc XC args s mc ms free) g := by
  intro T hT X
  obtain ⟨t, a1, o, b1, b2, b3, b4⟩ := k T hT X
  exact ⟨t, a1, o, b1, b2, Or.inl ⟨b3, b4⟩⟩
/-- not caught here: it goes on to the caller -/
theorem vx_widen {g : JFrame} {q : Addr} {k n : Nat} (h1 : cells ≤ k) (h2 : slots ≤ n) (kk : vx_W p l e R s m args below meth c H locs k n Q g q) : vx_W p l e R s m args below meth c H locs cells slots Q g q := fun T hT X => kk T hT (stand_widen X h1 h2)
theorem vx_out {pc : Nat} {E : String} {ce : Cell} {q : Addr} {mc ms : Nat} (hout : ∀ x ∈ c.exceptionTable.toList, covers x pc = false) (hlocks : meth.locks = false) (hcell : H[q]? = some ce) (hv : ce.vm = .none) (hcl : s.vm.findClass E = some ce.cls)
    (hx : ∀ t : State, t.heap = H → s.vm.Alike t.vm → XC E s t) (hf : ∀ z ∈ locs, free z.base) (hc : cells ≤ mc) (hs : slots ≤ ms) :
    vx_W p l e R s m args below meth c H locs cells slots (vx_MQ below Qc XC args s mc ms free) (F0 m pc ls rest) q := by
  intro T hT X
  obtain ⟨st1, hrun, hend, hW, hsm⟩ := X.leaveThrown q (g := F0 m pc ls rest) rfl rfl rfl hout hlocks
  have hcell9 : (T.setFrames (.throwing q :: below)).heap[q]? = some ce := by
    show T.heap[q]? = some ce
    rw [hT]; exact hcell
  exact ⟨_, st1, .threw q, hrun, hend, Or.inr ⟨q, rfl, E, ce, locs, hx _ hT hW.alike, hcell9, hv, hcl, hW, hsm.mono hc hs, hf⟩⟩
theorem vx_frame {U : State} {k n : Nat} (h : s.sameButNew ({ U with vm := s.vm } : State) locs k n) : s.heap.size ≤ U.heap.size ∧ ∀ q : Nat, q < s.heap.size → (∀ z ∈ locs, z.base ≠ q) → U.heap[q]? = s.heap[q]? := by
  obtain ⟨-, h2, -, -, -, h6⟩ := h
  refine ⟨h2, fun q hq hz => ?_⟩
  obtain ⟨c9, e1, e2, e3, e4⟩ := h6 q _ (Array.getElem?_eq_getElem hq)
  have hs : c9.slots = (s.heap[q]).slots := Array.ext_getElem? fun i => e4 i fun hm => hz _ hm rfl
  have h9 : c9 = s.heap[q] := by
    rw [hs] at e2
    exact e2
  have e5 : U.heap[q]? = some c9 := e1
  rw [e5, h9, Array.getElem?_eq_getElem hq]
/-- the words of a throw but the four that speak of the heap -/
def vx_no (w : Cond) : Bool := decide (w ≠ .isRef (.static Bundle.tN "UNASSIGNED_STACK" Bundle.steD)) && decide (w ≠ .isRef (.static Bundle.tN "SUPPRESSED_SENTINEL" Bundle.listD)) && decide (w ≠ .laysStatic Bundle.tN "UNASSIGNED_STACK" Bundle.steD) && decide (w ≠ .laysStatic Bundle.tN "SUPPRESSED_SENTINEL" Bundle.listD)
def vx_at0 (own : String) (ic : Nat) (X : String) (names : List String) : List Cond := (Bundle.ownAtoms0 own ic X names).filter vx_no
def vx_atS (own : String) (ic : Nat) (X : String) (names : List String) : List Cond := (Bundle.ownAtoms own ic X names).filter vx_no
/-- a word that the tables alone decide, or a good one -/
def vx_ot (w : Cond) : Bool := w.onTables || goodWord w
theorem vx_ot_at {args a' : Array Value} {s U : State} {w : Cond} (hW : s.WarmedH U.vm) (hvm : s.vm = U.vm) (hg : vx_ot w = true) (h : w.before args s = true) : w.before a' U = true := by
  simp only [vx_ot, Bool.or_eq_true] at hg
  rcases hg with hg | hg
  · exact va_tabs hg hvm h
  · exact word_at hW (good_of_word hg) h
/-- a list's words: the good ones out of the method's own list, the others by premises of their own -/
theorem vx_hat {args : Array Value} {s : State} {L B : List Cond} (h1 : ∀ w ∈ L.filter goodWord, w.before args s = true) (h2 : ∀ w ∈ L.filter (fun w => !goodWord w), w ∈ B) (h3 : ∀ w ∈ B, w.before args s = true) : ∀ w ∈ L, w.before args s = true := by
  intro w hw
  by_cases g : goodWord w = true
  · exact h1 w (List.mem_filter.mpr ⟨hw, g⟩)
  · refine h3 w (h2 w (List.mem_filter.mpr ⟨hw, ?_⟩))
    show (!goodWord w) = true
    cases hgw : goodWord w
    · rfl
    · exact absurd hgw g
theorem vx_c {args : Array Value} {s : State} {w : Cond} {B : List Cond} (h : w.before args s = true) (t : ∀ w ∈ B, w.before args s = true) : ∀ w' ∈ w :: B, w'.before args s = true := fun w' h' => (List.mem_cons.mp h').elim (fun e => by rw [e]; exact h) (t w')
theorem vx_n {args : Array Value} {s : State} : ∀ w ∈ ([] : List Cond), w.before args s = true := fun _ h => nomatch h
theorem vx_own {args : Array Value} {s : State} {L : List Cond} (h1 : ∀ w ∈ L.filter vx_no, w.before args s = true)
    (hU : (Cond.isRef (.static Bundle.tN "UNASSIGNED_STACK" Bundle.steD)).before args s = true) (hN : (Cond.isRef (.static Bundle.tN "SUPPRESSED_SENTINEL" Bundle.listD)).before args s = true)
    (lU : (Cond.laysStatic Bundle.tN "UNASSIGNED_STACK" Bundle.steD).before args s = true) (lN : (Cond.laysStatic Bundle.tN "SUPPRESSED_SENTINEL" Bundle.listD).before args s = true) : ∀ w ∈ L, w.before args s = true := by
  intro w hw
  by_cases e1 : w = .isRef (.static Bundle.tN "UNASSIGNED_STACK" Bundle.steD)
  · rw [e1]; exact hU
  · by_cases e2 : w = .isRef (.static Bundle.tN "SUPPRESSED_SENTINEL" Bundle.listD)
    · rw [e2]; exact hN
    · by_cases e3 : w = .laysStatic Bundle.tN "UNASSIGNED_STACK" Bundle.steD
      · rw [e3]; exact lU
      · by_cases e4 : w = .laysStatic Bundle.tN "SUPPRESSED_SENTINEL" Bundle.listD
        · rw [e4]; exact lN
        · exact h1 w (List.mem_filter.mpr ⟨hw, by unfold vx_no; rw [decide_eq_true e1, decide_eq_true e2, decide_eq_true e3, decide_eq_true e4]; rfl⟩)
/-- where a static field lies, its class's statics cell in H -/
def vx_L (C n d : String) (A : Nat → Prop) (U : State) (H : Heap) : Prop := ∃ (c : ClassId) (k : Class) (i : Nat) (f : Field) (a : Nat) (cell : Cell), U.vm.findClass C = some c ∧ U.fieldFound? C n d = some (c, k, i, f) ∧ f.isStatic = true ∧ k.statics = some a ∧ H[a]? = some cell ∧ cell.vm.isStatics = true ∧ cell.cls = c ∧ f.slot < cell.slots.size ∧ k.staticTypes[f.slot]? = some f.type ∧ ¬ A a
theorem vx_L.moved {C n d : String} {A : Nat → Prop} {u U : State} {H : Heap} (hvm : u.vm.Alike U.vm) (h : vx_L C n d A u H) : vx_L C n d A U H := by
  obtain ⟨c, k, i, f, a, cell, h1, h2, h3, h4, h5, h6, h7, h8, h9, h10⟩ := h
  obtain ⟨k', hi', he⟩ := State.fieldFound?_setVm hvm h2
  exact ⟨c, k', i, f, a, cell, by rw [hvm.findClass]; exact h1, hi', h3, by rw [he]; exact h4, h5, h6, h7, h8, by rw [he]; exact h9, h10⟩
theorem vx_L.kept {C n d : String} {A : Nat → Prop} {U : State} {H H1 : Heap} (h : vx_L C n d A U H) (hq : ∀ a : Nat, a < H.size → ¬ A a → H1[a]? = H[a]?) : vx_L C n d A U H1 := by
  obtain ⟨c, k, i, f, a, cell, h1, h2, h3, h4, h5, h6, h7, h8, h9, h10⟩ := h
  exact ⟨c, k, i, f, a, cell, h1, h2, h3, h4, by rw [hq a (Array.getElem?_eq_some_iff.mp h5).1 h10]; exact h5, h6, h7, h8, h9, h10⟩
theorem vx_L.narrow {C n d : String} {A B : Nat → Prop} {U : State} {H : Heap} (h : vx_L C n d A U H) (hAB : ∀ q, B q → A q) : vx_L C n d B U H := by
  obtain ⟨c, k, i, f, a, cell, h1, h2, h3, h4, h5, h6, h7, h8, h9, h10⟩ := h
  exact ⟨c, k, i, f, a, cell, h1, h2, h3, h4, h5, h6, h7, h8, h9, fun z => h10 (hAB _ z)⟩
theorem vx_L.word {C n d : String} {A : Nat → Prop} {s : State} {args : Array Value} (h : vx_L C n d A s s.heap) : (Cond.laysStatic C n d).before args s = true := by
  obtain ⟨c, k, i, f, a, cell, h1, h2, h3, h4, h5, h6, h7, h8, h9, -⟩ := h
  show (Cond.laysStatic C n d).holds args s none s [] = true
  exact Cond.laysStatic_of h1 h2 h3 h4 h5 h6 h7 h8 h9
/-- .. and what it holds: null or some reference -/
def vx_Zq (C n d : String) (A : Nat → Prop) (U : State) (H : Heap) : Prop := va_Zq C n d A U H ∧ vx_L C n d A U H
theorem vx_Zq.moved {C n d : String} {A : Nat → Prop} {u U : State} {H : Heap} (hvm : u.vm.Alike U.vm) (h : vx_Zq C n d A u H) : vx_Zq C n d A U H := ⟨va_Zq.moved hvm h.1, vx_L.moved hvm h.2⟩
theorem vx_Zq.kept {C n d : String} {A : Nat → Prop} {U : State} {H H1 : Heap} (h : vx_Zq C n d A U H) (hq : ∀ a : Nat, a < H.size → ¬ A a → H1[a]? = H[a]?) : vx_Zq C n d A U H1 := ⟨va_Zq.kept h.1 hq, vx_L.kept h.2 hq⟩
theorem vx_Zq.narrow {C n d : String} {A B : Nat → Prop} {U : State} {H : Heap} (h : vx_Zq C n d A U H) (hAB : ∀ q, B q → A q) : vx_Zq C n d B U H := ⟨va_Zq.narrow h.1 hAB, vx_L.narrow h.2 hAB⟩
theorem vx_Zqof {args : Array Value} {s : State} {C n d : String} {A : Nat → Prop} (hl : (Cond.laysStatic C n d).before args s = true) (hini : (Cond.initialized C).before args s = true) (h : (Cond.isRef (.static C n d)).before args s = true) (hA : ∀ a : Nat, a < s.heap.size → ¬ A a) : vx_Zq C n d A s s.heap := by
  refine ⟨va_Zqof hl hini h hA, ?_⟩
  obtain ⟨c, k, i, f, a, cell, h1, h2, h3, h4, h5, h6, h7, h8, h9⟩ := Cond.laysStatic_spec hl
  exact ⟨c, k, i, f, a, cell, h1, h2, h3, h4, h5, h6, h7, h8, h9, hA a (Array.getElem?_eq_some_iff.mp h5).1⟩
theorem vx_isRef {C n d : String} {v : Value} {A : Nat → Prop} {s : State} {args : Array Value} (h : va_Z C n d v A s s.heap) (hv : v.isRef = true) : (Cond.isRef (.static C n d)).before args s = true := by
  obtain ⟨cf, kf, fi, f, a, cell, h1, h2, h3, h4, h5, h6, h7, -⟩ := h
  have he : (Term.static C n d).eval args s none [] s = some v := by
    simp [Term.eval, State.fieldNamed?, h1, h2, h4, h5, h6, h7]
  simp only [Cond.before, Cond.holds, Cond.value, he]
  cases v <;> simp_all [Value.isRef]
theorem vx_isRefq {C n d : String} {A : Nat → Prop} {s : State} {args : Array Value} (h : va_Zq C n d A s s.heap) : (Cond.isRef (.static C n d)).before args s = true := by
  rcases h with h | ⟨t, h⟩
  · exact vx_isRef h rfl
  · exact vx_isRef h rfl
/-- the same frame, seen from here: as if the method were called anew in this heap -/
theorem vx_rebase {T : State} (X : Stand p l e R s m args below meth c T locs cells slots) {R' : Room} (hf : R'.frames ≤ R.frames) (hl : R'.locals ≤ R.locals) (hc : cells + R'.cells ≤ R.cells) (hs : slots + R'.slots ≤ R.slots) :
    Stand p l e R' ((T.setVm s.vm).setFrames (.invoking m args :: below)) m args below meth c T [] 0 0 := by
  have htop : (T.setVm s.vm).topJava?.isSome := X.here.top
  have hF : ((T.setVm s.vm).setFrames (.invoking m args :: below)).frames = .invoking m args :: below := State.frames_setFrames _ (State.cur_lt_of_top htop)
  obtain ⟨g₀, hg0⟩ := Option.isSome_iff_exists.mp htop
  obtain ⟨r, hr⟩ := State.topJava?_eq_some.mp hg0
  have hl9 : e.platform.stackLimits (T.setVm s.vm).me = e.platform.stackLimits s.me := X.limits
  have hb9 : (T.setVm s.vm).me.stackBytes = s.me.stackBytes := X.bytes
  refine ⟨X.admits, X.cas, X.clock, hF, ?_, X.hears, X.method, X.code, X.here, X.tail, X.warmed, ?_, ?_, ?_⟩
  · have h := X.room
    have hU : ((T.setVm s.vm).setFrames (.invoking m args :: below)).localsInUse = s.localsInUse := by
      rw [State.localsInUse_invoking hF (meth := meth) (c := c) X.method X.code, State.localsInUse_invoking X.frames X.method X.code]
    simp only [State.hasRoom, Bool.and_eq_true, decide_eq_true_eq] at h ⊢
    obtain ⟨⟨⟨⟨h1, h2, h3, h4, h5, h6⟩, h7⟩, h8⟩, h9⟩ := h
    rw [X.frames, List.length_cons] at h2 h3
    have q1 := X.heapSize
    have q2 := X.used
    simp only [hF, hU, List.length_cons, State.stackLimits_setFrames, State.stackBytes_setFrames, hl9, hb9]
    refine ⟨⟨⟨⟨by omega, by omega, by omega, by omega, by omega, h6⟩, ?_⟩, ?_⟩, X.book⟩
    · show T.heap.size + R'.cells ≤ e.platform.maxCells
      omega
    · show T.slotsUsed + R'.slots ≤ e.platform.maxSlots
      omega
  · rw [State.stackLimits_setFrames]; rfl
  · rw [State.stackBytes_setFrames]; rfl
  · refine ⟨?_, Nat.le_refl _, Nat.le_refl _, ?_, ?_, fun a c9 h9 => ⟨c9, h9, rfl, rfl, fun _ _ => rfl⟩⟩
    · obtain ⟨t, ht, -⟩ := State.frames_cons hr
      show T.setVm s.vm = { ((T.setVm s.vm).setFrames (.invoking m args :: below)).setFrames (T.setVm s.vm).frames with heap := T.heap, slotsUsed := T.slotsUsed }
      rw [State.setFrames_setFrames, State.setFrames_self ht]
      rfl
    · show T.slotsUsed = T.slotsUsed + ((T.heap.toList.drop T.heap.size).map (·.slots.size)).sum
      rw [List.drop_eq_nil_of_le (Nat.le_of_eq Array.length_toList)]
      rfl
    · show ((T.heap.toList.drop T.heap.size).map (·.slots.size)).sum ≤ 0
      rw [List.drop_eq_nil_of_le (Nat.le_of_eq Array.length_toList)]
      exact Nat.le_refl _
/-- 'throw new E()': new; dup; invokespecial; athrow -/
theorem vx_throw0 {cc : ByteArray} {pc : Nat} (hexec : p.tables.exec = Jvm.exec) (hb : c.code = cc) (hl : l.stackTraces = false) {own cls : String} {names : List String} {ik ic mc ms : Nat} {A : Nat → Prop}
    (hown : s.vm.findClass own = some m.cls) (hcls : Bundle.fit cls = true) (hnames : ∀ n ∈ names, Bundle.fit n = true)
    (hk : (Cond.classLink own ik cls).before args s = true) (hini : (Cond.initialized cls).before args s = true) (hat : ∀ w ∈ vx_at0 own ic cls names, w.before args s = true)
    (hgood : ∀ w ∈ Cond.classLink own ik cls :: Cond.initialized cls :: vx_at0 own ic cls names, vx_ot w = true)
    (hU : vx_Zq Bundle.tN "UNASSIGNED_STACK" Bundle.steD A s s.heap) (hN : vx_Zq Bundle.tN "SUPPRESSED_SENTINEL" Bundle.listD A s s.heap) (hS : va_S A s.heap H locs) (hsize : ls.size = c.maxLocals)
    (d0 : decode cc pc = .ok (.new ik, 3)) (d3 : decode cc (pc + 3) = .ok (.dup, 1)) (d4 : decode cc (pc + 4) = .ok (.invokespecial ic, 3)) (d7 : decode cc (pc + 7) = .ok (.athrow, 1))
    (hout : ∀ x ∈ c.exceptionTable.toList, covers x (pc + 7) = false)
    (hRframes : names.length + 3 < R.frames) (hRlocals : (rest.map fun v => v.category).sum + (13 * (names.length + 1) + 42) ≤ R.locals) (hRcells : cells + 1 ≤ R.cells) (hRslots : slots + 6 ≤ R.slots) (hlocks : meth.locks = false)
    (hx : ∀ t : State, s.vm.Alike t.vm → H.size ≤ t.heap.size → (∀ q : Nat, q < H.size → t.heap[q]? = H[q]?) → XC cls s t)
    (hf : ∀ z ∈ locs, free z.base) (hc : cells + 1 ≤ mc) (hs : slots + 6 ≤ ms) :
    W p l e R s m args below meth c H locs cells slots (vx_MQ below Qc XC args s mc ms free) (F0 m pc ls rest) := by
  intro T hT X
  have htr : e.platform.stackTraces = false := (show e.platform.stackTraces = l.stackTraces by rw [X.admits.platform]).trans hl
  have Y := vx_rebase X (R' := { frames := R.frames, locals := R.locals, cells := 1, slots := 6 }) (Nat.le_refl _) (Nat.le_refl _) hRcells hRslots
  obtain ⟨s', hA⟩ : ∃ z, z = (T.setVm s.vm).setFrames (.invoking m args :: below) := ⟨_, rfl⟩
  rw [← hA] at Y
  have hvm : s'.vm = s.vm := by rw [hA]; rfl
  have hhp : s'.heap = H := by rw [hA]; exact hT
  have hW0 : s.WarmedH s'.vm := by rw [hvm]; exact State.WarmedH.refl s
  have hat' : ∀ w ∈ vx_at0 own ic cls names, w.before args s' = true := fun w hw => vx_ot_at hW0 hvm.symm (hgood w (List.mem_cons_of_mem _ (List.mem_cons_of_mem _ hw))) (hat w hw)
  have hk' : (Cond.classLink own ik cls).before args s' = true := vx_ot_at hW0 hvm.symm (hgood _ List.mem_cons_self) hk
  have hini' : (Cond.initialized cls).before args s' = true := vx_ot_at hW0 hvm.symm (hgood _ (List.mem_cons_of_mem _ List.mem_cons_self)) hini
  have hU' : vx_Zq Bundle.tN "UNASSIGNED_STACK" Bundle.steD A s' s'.heap := by rw [hhp]; exact vx_Zq.moved hW0.alike (hU.kept hS.2.1)
  have hN' : vx_Zq Bundle.tN "SUPPRESSED_SENTINEL" Bundle.listD A s' s'.heap := by rw [hhp]; exact vx_Zq.moved hW0.alike (hN.kept hS.2.1)
  have h : ∀ w ∈ Bundle.ownAtoms0 own ic cls names, w.before args s' = true := vx_own hat' (vx_isRefq hU'.1) (vx_isRefq hN'.1) hU'.2.word hN'.2.word
  have hown' : s'.vm.findClass own = some m.cls := by rw [hvm]; exact hown
  have hins : (Cond.instantiable cls 6).before args s' = true := h _ (by simp [Bundle.ownAtoms0])
  obtain ⟨vm₁, cX, kX, hfX, hkX, -, -, X₁, st1⟩ := Y.newCold hexec (own := own) (C := cls) (index := ik) (n := 6) hown' hk' hins hini'
    (g := F0 m pc ls rest) rfl (by rw [hb]; exact d0) (Nat.le_refl _) (Nat.le_refl _)
  generalize hT1 : (T.setVm vm₁).pushCell { cls := cX, slots := kX.instanceTypes.map defaultValue, vm := .none } = T1 at X₁ st1
  have hcat : (Value.ref T.heap.size).category = 1 := rfl
  have hcellA : T1.heap[T.heap.size]? = some (freshCell cX kX) := by rw [← hT1]; exact State.heap_pushCell_size _ _
  have d3' : decode c.code (pc + 3) = .ok (.dup, 1) := by rw [hb]; exact d3
  obtain ⟨U, hsteps, hrun, hend, hW, hsame, ce, hce, hO⟩ := X₁.ctorThrow0 hexec htr (own := own) (cls := cls) (names := names) (ic := ic) hown' hcls hnames h (fun x hx => nomatch hx) hfX hkX hcellA (by rw [hhp, hT]; exact Nat.le_refl _)
    (g := { method := m, pc := pc + 4, locals := ls, stack := .ref T.heap.size :: .ref T.heap.size :: rest, locked := none }) rfl hsize rfl rfl (rest := rest) rfl
    (by rw [hb]; exact d4) (by rw [hb]; exact d7) hout hRframes (by simp only [List.map_cons, List.sum_cons, hcat]; omega) hlocks
  obtain ⟨f1, f2⟩ := vx_frame hsame
  rw [hhp] at f1 f2
  have hWs : s.WarmedH U.vm := State.WarmedH.trans hW0 hW
  have hcl : s.vm.findClass cls = some ce.cls := by
    have h9 := hO.cls
    rw [hvm] at h9
    exact h9
  have hall : s.sameButNew ({ U with vm := s.vm } : State) locs mc ms := by
    subst hA
    obtain ⟨e1, e2⟩ := hsame
    rw [State.setFrames_setFrames] at e1
    have h2 : (T.setVm s.vm).sameButNew ({ U with vm := s.vm } : State) [] (0 + 1) (0 + 6) := ⟨e1, e2⟩
    have h3 := X.same.trans h2
    rw [List.append_nil] at h3
    exact h3.mono hc hs
  refine ⟨U, ?_, .threw T.heap.size, hrun, hend, Or.inr ⟨T.heap.size, rfl, cls, ce, locs, hx U hWs.alike f1 (fun q hq => f2 q hq (fun z hz => nomatch hz)), hce, hO.vm, hcl, hWs, hall, hf⟩⟩
  refine st1 _ ?_
  show Steps p.tables e below (T1.setTop { method := m, pc := pc + 3, locals := ls, stack := .ref T.heap.size :: rest, locked := none }) _
  jvm_step X₁.here [X₁.here.top, hexec, d3', Value.category]
  exact hsteps
/-- 'throw new E("text")': new; dup; ldc; invokespecial; athrow -/
theorem vx_throwS {cc : ByteArray} {pc : Nat} (hexec : p.tables.exec = Jvm.exec) (hb : c.code = cc) (hl : l.stackTraces = false) {own cls text : String} {names : List String} {ik is ic mc ms sa : Nat} {A : Nat → Prop}
    (hown : s.vm.findClass own = some m.cls) (hcls : Bundle.fit cls = true) (hnames : ∀ n ∈ names, Bundle.fit n = true)
    (hk : (Cond.classLink own ik cls).before args s = true) (hini : (Cond.initialized cls).before args s = true) (hstr : vk_R own is text sa s) (hat : ∀ w ∈ vx_atS own ic cls names, w.before args s = true)
    (hgood : ∀ w ∈ Cond.classLink own ik cls :: Cond.initialized cls :: vx_atS own ic cls names, vx_ot w = true)
    (hU : vx_Zq Bundle.tN "UNASSIGNED_STACK" Bundle.steD A s s.heap) (hN : vx_Zq Bundle.tN "SUPPRESSED_SENTINEL" Bundle.listD A s s.heap) (hS : va_S A s.heap H locs) (hsize : ls.size = c.maxLocals)
    (d0 : decode cc pc = .ok (.new ik, 3)) (d3 : decode cc (pc + 3) = .ok (.dup, 1)) (d4 : decode cc (pc + 4) = .ok (.ldc is, 2)) (d6 : decode cc (pc + 6) = .ok (.invokespecial ic, 3)) (d9 : decode cc (pc + 9) = .ok (.athrow, 1))
    (hout : ∀ x ∈ c.exceptionTable.toList, covers x (pc + 9) = false)
    (hRframes : names.length + 3 < R.frames) (hRlocals : (rest.map fun v => v.category).sum + (13 * (names.length + 1) + 43) ≤ R.locals) (hRcells : cells + 1 ≤ R.cells) (hRslots : slots + 6 ≤ R.slots) (hlocks : meth.locks = false)
    (hx : ∀ t : State, s.vm.Alike t.vm → H.size ≤ t.heap.size → (∀ q : Nat, q < H.size → t.heap[q]? = H[q]?) → XC cls s t)
    (hf : ∀ z ∈ locs, free z.base) (hc : cells + 1 ≤ mc) (hs : slots + 6 ≤ ms) :
    W p l e R s m args below meth c H locs cells slots (vx_MQ below Qc XC args s mc ms free) (F0 m pc ls rest) := by
  intro T hT X
  have htr : e.platform.stackTraces = false := (show e.platform.stackTraces = l.stackTraces by rw [X.admits.platform]).trans hl
  have Y := vx_rebase X (R' := { frames := R.frames, locals := R.locals, cells := 1, slots := 6 }) (Nat.le_refl _) (Nat.le_refl _) hRcells hRslots
  obtain ⟨s', hA⟩ : ∃ z, z = (T.setVm s.vm).setFrames (.invoking m args :: below) := ⟨_, rfl⟩
  rw [← hA] at Y
  have hvm : s'.vm = s.vm := by rw [hA]; rfl
  have hhp : s'.heap = H := by rw [hA]; exact hT
  have hW0 : s.WarmedH s'.vm := by rw [hvm]; exact State.WarmedH.refl s
  have hat' : ∀ w ∈ vx_atS own ic cls names, w.before args s' = true := fun w hw => vx_ot_at hW0 hvm.symm (hgood w (List.mem_cons_of_mem _ (List.mem_cons_of_mem _ hw))) (hat w hw)
  have hk' : (Cond.classLink own ik cls).before args s' = true := vx_ot_at hW0 hvm.symm (hgood _ List.mem_cons_self) hk
  have hini' : (Cond.initialized cls).before args s' = true := vx_ot_at hW0 hvm.symm (hgood _ (List.mem_cons_of_mem _ List.mem_cons_self)) hini
  have hU' : vx_Zq Bundle.tN "UNASSIGNED_STACK" Bundle.steD A s' s'.heap := by rw [hhp]; exact vx_Zq.moved hW0.alike (hU.kept hS.2.1)
  have hN' : vx_Zq Bundle.tN "SUPPRESSED_SENTINEL" Bundle.listD A s' s'.heap := by rw [hhp]; exact vx_Zq.moved hW0.alike (hN.kept hS.2.1)
  have h : ∀ w ∈ Bundle.ownAtoms own ic cls names, w.before args s' = true := vx_own hat' (vx_isRefq hU'.1) (vx_isRefq hN'.1) hU'.2.word hN'.2.word
  have hown' : s'.vm.findClass own = some m.cls := by rw [hvm]; exact hown
  have hins : (Cond.instantiable cls 6).before args s' = true := h _ (by simp [Bundle.ownAtoms])
  obtain ⟨vm₁, cX, kX, hfX, hkX, -, -, X₁, st1⟩ := Y.newCold hexec (own := own) (C := cls) (index := ik) (n := 6) hown' hk' hins hini'
    (g := F0 m pc ls rest) rfl (by rw [hb]; exact d0) (Nat.le_refl _) (Nat.le_refl _)
  generalize hT1 : (T.setVm vm₁).pushCell { cls := cX, slots := kX.instanceTypes.map defaultValue, vm := .none } = T1 at X₁ st1
  have hcat : (Value.ref T.heap.size).category = 1 := rfl
  have hcellA : T1.heap[T.heap.size]? = some (freshCell cX kX) := by rw [← hT1]; exact State.heap_pushCell_size _ _
  have d3' : decode c.code (pc + 3) = .ok (.dup, 1) := by rw [hb]; exact d3
  have d4' : decode c.code (pc + 4) = .ok (.ldc is, 2) := by rw [hb]; exact d4
  have hstr' : vk_R own is text sa s' := vk_R.warm hW0 hstr
  obtain ⟨U, hsteps, hrun, hend, hW, hsame, ce, hce, hO⟩ := X₁.ctorThrowS hexec htr (own := own) (cls := cls) (names := names) (ic := ic) hown' hcls hnames h (fun x hx => nomatch hx) hfX hkX hcellA (by rw [hhp, hT]; exact Nat.le_refl _) (msg := .ref sa) rfl
    (g := { method := m, pc := pc + 6, locals := ls, stack := .ref sa :: .ref T.heap.size :: .ref T.heap.size :: rest, locked := none }) rfl hsize rfl rfl (rest := rest) rfl
    (by rw [hb]; exact d6) (by rw [hb]; exact d9) hout hRframes (by simp only [List.map_cons, List.sum_cons, hcat]; omega) hlocks
  obtain ⟨f1, f2⟩ := vx_frame hsame
  rw [hhp] at f1 f2
  have hWs : s.WarmedH U.vm := State.WarmedH.trans hW0 hW
  have hcl : s.vm.findClass cls = some ce.cls := by
    have h9 := hO.cls
    rw [hvm] at h9
    exact h9
  have hall : s.sameButNew ({ U with vm := s.vm } : State) locs mc ms := by
    subst hA
    obtain ⟨e1, e2⟩ := hsame
    rw [State.setFrames_setFrames] at e1
    have h2 : (T.setVm s.vm).sameButNew ({ U with vm := s.vm } : State) [] (0 + 1) (0 + 6) := ⟨e1, e2⟩
    have h3 := X.same.trans h2
    rw [List.append_nil] at h3
    exact h3.mono hc hs
  refine ⟨U, ?_, .threw T.heap.size, hrun, hend, Or.inr ⟨T.heap.size, rfl, cls, ce, locs, hx U hWs.alike f1 (fun q hq => f2 q hq (fun z hz => nomatch hz)), hce, hO.vm, hcl, hWs, hall, hf⟩⟩
  refine st1 _ ?_
  show Steps p.tables e below (T1.setTop { method := m, pc := pc + 3, locals := ls, stack := .ref T.heap.size :: rest, locked := none }) _
  jvm_step X₁.here [X₁.here.top, hexec, d3', Value.category]
  exact X₁.ldcString hexec (own := own) (text := text) (index := is) (a := sa) hown' hstr'.1 hstr'.2
    (g := { method := m, pc := pc + 4, locals := ls, stack := .ref T.heap.size :: .ref T.heap.size :: rest, locked := none }) rfl d4' _ hsteps
/-- 'throw new E("text")', the text by a wide index -/
theorem vx_throwSW {cc : ByteArray} {pc : Nat} (hexec : p.tables.exec = Jvm.exec) (hb : c.code = cc) (hl : l.stackTraces = false) {own cls text : String} {names : List String} {ik is ic mc ms sa : Nat} {A : Nat → Prop}
    (hown : s.vm.findClass own = some m.cls) (hcls : Bundle.fit cls = true) (hnames : ∀ n ∈ names, Bundle.fit n = true)
    (hk : (Cond.classLink own ik cls).before args s = true) (hini : (Cond.initialized cls).before args s = true) (hstr : vk_R own is text sa s) (hat : ∀ w ∈ vx_atS own ic cls names, w.before args s = true)
    (hgood : ∀ w ∈ Cond.classLink own ik cls :: Cond.initialized cls :: vx_atS own ic cls names, vx_ot w = true)
    (hU : vx_Zq Bundle.tN "UNASSIGNED_STACK" Bundle.steD A s s.heap) (hN : vx_Zq Bundle.tN "SUPPRESSED_SENTINEL" Bundle.listD A s s.heap) (hS : va_S A s.heap H locs) (hsize : ls.size = c.maxLocals)
    (d0 : decode cc pc = .ok (.new ik, 3)) (d3 : decode cc (pc + 3) = .ok (.dup, 1)) (d4 : decode cc (pc + 4) = .ok (.ldc_w is, 3)) (d7 : decode cc (pc + 7) = .ok (.invokespecial ic, 3)) (d10 : decode cc (pc + 10) = .ok (.athrow, 1))
    (hout : ∀ x ∈ c.exceptionTable.toList, covers x (pc + 10) = false)
    (hRframes : names.length + 3 < R.frames) (hRlocals : (rest.map fun v => v.category).sum + (13 * (names.length + 1) + 43) ≤ R.locals) (hRcells : cells + 1 ≤ R.cells) (hRslots : slots + 6 ≤ R.slots) (hlocks : meth.locks = false)
    (hx : ∀ t : State, s.vm.Alike t.vm → H.size ≤ t.heap.size → (∀ q : Nat, q < H.size → t.heap[q]? = H[q]?) → XC cls s t)
    (hf : ∀ z ∈ locs, free z.base) (hc : cells + 1 ≤ mc) (hs : slots + 6 ≤ ms) :
    W p l e R s m args below meth c H locs cells slots (vx_MQ below Qc XC args s mc ms free) (F0 m pc ls rest) := by
  intro T hT X
  have htr : e.platform.stackTraces = false := (show e.platform.stackTraces = l.stackTraces by rw [X.admits.platform]).trans hl
  have Y := vx_rebase X (R' := { frames := R.frames, locals := R.locals, cells := 1, slots := 6 }) (Nat.le_refl _) (Nat.le_refl _) hRcells hRslots
  obtain ⟨s', hA⟩ : ∃ z, z = (T.setVm s.vm).setFrames (.invoking m args :: below) := ⟨_, rfl⟩
  rw [← hA] at Y
  have hvm : s'.vm = s.vm := by rw [hA]; rfl
  have hhp : s'.heap = H := by rw [hA]; exact hT
  have hW0 : s.WarmedH s'.vm := by rw [hvm]; exact State.WarmedH.refl s
  have hat' : ∀ w ∈ vx_atS own ic cls names, w.before args s' = true := fun w hw => vx_ot_at hW0 hvm.symm (hgood w (List.mem_cons_of_mem _ (List.mem_cons_of_mem _ hw))) (hat w hw)
  have hk' : (Cond.classLink own ik cls).before args s' = true := vx_ot_at hW0 hvm.symm (hgood _ List.mem_cons_self) hk
  have hini' : (Cond.initialized cls).before args s' = true := vx_ot_at hW0 hvm.symm (hgood _ (List.mem_cons_of_mem _ List.mem_cons_self)) hini
  have hU' : vx_Zq Bundle.tN "UNASSIGNED_STACK" Bundle.steD A s' s'.heap := by rw [hhp]; exact vx_Zq.moved hW0.alike (hU.kept hS.2.1)
  have hN' : vx_Zq Bundle.tN "SUPPRESSED_SENTINEL" Bundle.listD A s' s'.heap := by rw [hhp]; exact vx_Zq.moved hW0.alike (hN.kept hS.2.1)
  have h : ∀ w ∈ Bundle.ownAtoms own ic cls names, w.before args s' = true := vx_own hat' (vx_isRefq hU'.1) (vx_isRefq hN'.1) hU'.2.word hN'.2.word
  have hown' : s'.vm.findClass own = some m.cls := by rw [hvm]; exact hown
  have hins : (Cond.instantiable cls 6).before args s' = true := h _ (by simp [Bundle.ownAtoms])
  obtain ⟨vm₁, cX, kX, hfX, hkX, -, -, X₁, st1⟩ := Y.newCold hexec (own := own) (C := cls) (index := ik) (n := 6) hown' hk' hins hini'
    (g := F0 m pc ls rest) rfl (by rw [hb]; exact d0) (Nat.le_refl _) (Nat.le_refl _)
  generalize hT1 : (T.setVm vm₁).pushCell { cls := cX, slots := kX.instanceTypes.map defaultValue, vm := .none } = T1 at X₁ st1
  have hcat : (Value.ref T.heap.size).category = 1 := rfl
  have hcellA : T1.heap[T.heap.size]? = some (freshCell cX kX) := by rw [← hT1]; exact State.heap_pushCell_size _ _
  have d3' : decode c.code (pc + 3) = .ok (.dup, 1) := by rw [hb]; exact d3
  have d4' : decode c.code (pc + 4) = .ok (.ldc_w is, 3) := by rw [hb]; exact d4
  have hstr' : vk_R own is text sa s' := vk_R.warm hW0 hstr
  obtain ⟨U, hsteps, hrun, hend, hW, hsame, ce, hce, hO⟩ := X₁.ctorThrowS hexec htr (own := own) (cls := cls) (names := names) (ic := ic) hown' hcls hnames h (fun x hx => nomatch hx) hfX hkX hcellA (by rw [hhp, hT]; exact Nat.le_refl _) (msg := .ref sa) rfl
    (g := { method := m, pc := pc + 7, locals := ls, stack := .ref sa :: .ref T.heap.size :: .ref T.heap.size :: rest, locked := none }) rfl hsize rfl rfl (rest := rest) rfl
    (by rw [hb]; exact d7) (by rw [hb]; exact d10) hout hRframes (by simp only [List.map_cons, List.sum_cons, hcat]; omega) hlocks
  obtain ⟨f1, f2⟩ := vx_frame hsame
  rw [hhp] at f1 f2
  have hWs : s.WarmedH U.vm := State.WarmedH.trans hW0 hW
  have hcl : s.vm.findClass cls = some ce.cls := by
    have h9 := hO.cls
    rw [hvm] at h9
    exact h9
  have hall : s.sameButNew ({ U with vm := s.vm } : State) locs mc ms := by
    subst hA
    obtain ⟨e1, e2⟩ := hsame
    rw [State.setFrames_setFrames] at e1
    have h2 : (T.setVm s.vm).sameButNew ({ U with vm := s.vm } : State) [] (0 + 1) (0 + 6) := ⟨e1, e2⟩
    have h3 := X.same.trans h2
    rw [List.append_nil] at h3
    exact h3.mono hc hs
  refine ⟨U, ?_, .threw T.heap.size, hrun, hend, Or.inr ⟨T.heap.size, rfl, cls, ce, locs, hx U hWs.alike f1 (fun q hq => f2 q hq (fun z hz => nomatch hz)), hce, hO.vm, hcl, hWs, hall, hf⟩⟩
  refine st1 _ ?_
  show Steps p.tables e below (T1.setTop { method := m, pc := pc + 3, locals := ls, stack := .ref T.heap.size :: rest, locked := none }) _
  jvm_step X₁.here [X₁.here.top, hexec, d3', Value.category]
  exact X₁.ldcStringW hexec (own := own) (text := text) (index := is) (a := sa) hown' hstr'.1 hstr'.2
    (g := { method := m, pc := pc + 4, locals := ls, stack := .ref T.heap.size :: .ref T.heap.size :: rest, locked := none }) rfl d4' _ hsteps
end Ends
section Bodies
variable {l : Launch}
theorem vx_ofW {y : MethodName} {ws ws' : List Cond} {rm : Room} {Pc : Array Value → State → Prop} {Qc : Array Value → State → Outcome → State → Prop} {XC : String → State → State → Prop} {mc ms : Nat} {free : Addr → Prop} {cc : ByteArray} {maxL : Nat} {ret : Option FieldType}
    (hy : plainName y.cls = true) (hw : ws = Cond.code y cc maxL ret :: ws')
    (body : ∀ p e s m args below meth c s₁, BodyLoose p l y (headSpec ws rm) cc maxL ret e s m args below meth c s₁ → c.maxLocals = maxL → (∀ x ∈ c.exceptionTable.toList, False) → Pc args s →
      W p l e (headSpec ws rm).room s m args below meth c s.heap [] 0 0 (vx_MQ below Qc XC args s mc ms free) (entryFrame m args maxL)) : vx_Met l y ws rm Pc Qc XC mc ms free := by
  refine MetFree.of_bodyS (code := cc) (maxLocals := maxL) (ret := ret) hy ?_ ?_
  · intro args s m h hn
    obtain ⟨meth, c, h1, h2, h3, h4, h5, h6, -, -⟩ := Cond.code_spec hn (atoms_spec (ws := ws) h _ (by rw [hw]; exact List.mem_cons_self))
    exact ⟨meth, c, h1, h2, h3, h4, h5, h6⟩
  · intro p e s m args below meth c s₁ B hml hP _
    have hh0 : s₁.heap = s.heap := by rw [B.state]; rfl
    have ht : ∀ x ∈ c.exceptionTable.toList, False := by
      obtain ⟨meth9, c9, h1, h2, -, -, -, -, h7, -⟩ := Cond.code_spec B.named (atoms_spec (ws := ws) B.pre _ (by rw [hw]; exact List.mem_cons_self))
      cases Option.some.inj (h1.symm.trans B.method)
      cases Option.some.inj (h2.symm.trans (Stand.of_body B).code)
      intro x hx
      rw [Array.isEmpty_iff.mp h7] at hx
      cases hx
    obtain ⟨t, a1, o, b1, b2, b3⟩ := body p e s m args below meth c s₁ B hml ht hP s₁ hh0 (Stand.of_body B)
    exact ⟨t, o, a1, b1, b2, b3⟩
/-- the table of a body with handlers -/
theorem vx_table {p : Program} {x y : MethodName} {S : Spec} {cc bytes : ByteArray} {maxL maxL' : Nat} {ret ret' : Option FieldType} {e : Env} {s s₁ : State} {m : MethodId} {args : Array Value} {below : List Frame} {meth : Method} {c : Code} {hh : List (Nat × Nat × Nat × Nat)}
    (B : BodyLoose p l y S cc maxL ret e s m args below meth c s₁) (h : (Cond.codeWith y bytes maxL' ret' hh).before args s = true) : c.exceptionTable.toList = tableOf hh := by
  obtain ⟨m9, meth9, c9, hn9, h1, h2, -, -, h6, -⟩ := Cond.codeWith_spec h
  cases Option.some.inj (hn9.symm.trans B.named)
  cases Option.some.inj (h1.symm.trans B.method)
  cases Option.some.inj (h2.symm.trans (Stand.of_body B).code)
  rw [← h6, table_eq]
end Bodies
end VXA
/-! ===== END ===== -/
/-! ===== BEGIN a static call of a method with an exception table ===== -/
section VXS
variable {p : Program} {l : Launch} {e : Env} {R : Room} {s : State} {m : MethodId} {args : Array Value} {below : List Frame} {meth : Method} {c : Code} {T : State} {H : Heap} {locs : List Loc} {cells slots : Nat}
abbrev vx_CSW (R : Room) (s : State) (args : Array Value) (own : String) (index : Nat) (y : MethodName) (bytes : ByteArray) (maxL : Nat) (ret : Option FieldType) (hh : List (Nat × Nat × Nat × Nat)) (ws : List Cond) (rm : Room) (mc ms n : Nat) : Prop :=
  (rm.cells = mc ∧ rm.slots = ms ∧ rm.frames + 1 ≤ R.frames ∧ 8 + (maxL + 11) + rm.locals ≤ R.locals ∧ (∀ w ∈ ws, ∀ (a' : Array Value) (U : State), s.WarmedH U.vm → w.before a' U = true) ∧ Cond.codeWith y bytes maxL ret hh ∈ ws) ∧
  (Cond.codeWith y bytes maxL ret hh).before args s = true ∧ (Cond.initialized y.cls).before args s = true ∧ (y.cls ≠ "java/lang/invoke/MethodHandle" ∧ y.cls ≠ "java/lang/invoke/VarHandle") ∧
  (∀ sig, parseMethodDescriptor y.desc = some sig → n = sig.parameters.length) ∧ (Cond.methodLink own index y).before args s = true ∧ (Cond.static y).before args s = true
theorem vx_cwSW {own : String} {index maxL mc ms : Nat} {y : MethodName} {bytes : ByteArray} {ret : Option FieldType} {hh : List (Nat × Nat × Nat × Nat)} {Ts ws ws' : List Cond} {rm : Room} (n : Nat) (ht : ∀ w ∈ Ts, w.before args s = true) (hT : GoodIn Ts (va_wsS own index y ws)) (hw : ws = Cond.codeWith y bytes maxL ret hh :: ws') (hrc : rm.cells = mc) (hrs : rm.slots = ms)
    (hd : y.cls ≠ "java/lang/invoke/MethodHandle" ∧ y.cls ≠ "java/lang/invoke/VarHandle" ∧ (parseMethodDescriptor y.desc).map (fun d => d.parameters.length) = some n) (hR : rm.frames + 1 ≤ R.frames ∧ 8 + (maxL + 11) + rm.locals ≤ R.locals) :
    vx_CSW R s args own index y bytes maxL ret hh ws rm mc ms n := by
  have ok : ∀ w ∈ va_wsS own index y ws, w.before args s = true := fun w h => ht w (hT w h).1
  have hG : GoodIn Ts ws := fun w h => hT w (by unfold va_wsS; exact List.mem_append_right _ h)
  have hc : Cond.codeWith y bytes maxL ret hh ∈ ws := by rw [hw]; exact List.mem_cons_self
  refine ⟨⟨hrc, hrs, hR.1, hR.2, pay_in ht hG, hc⟩, ht _ (hG _ hc).1, ok _ (by simp [va_wsS]), ⟨hd.1, hd.2.1⟩, fun sig h => ?_, ok _ (by simp [va_wsS]), ok _ (by simp [va_wsS])⟩
  have h2 := hd.2.2
  rw [h] at h2
  exact (Option.some.inj h2).symm
theorem vx_callSW (X : Stand p l e R s m args below meth c T locs cells slots) (hexec : p.tables.exec = Jvm.exec) {own : String} {index : Nat} {y : MethodName} {bytes : ByteArray} {maxL : Nat} {ret : Option FieldType} {hh : List (Nat × Nat × Nat × Nat)}
    (hown : s.vm.findClass own = some m.cls) (hlink : (Cond.methodLink own index y).before args s = true) (hstat : (Cond.static y).before args s = true) (hinit : (Cond.initialized y.cls).before args s = true)
    (hcode : (Cond.codeWith y bytes maxL ret hh).before args s = true) (hy : y.cls ≠ "java/lang/invoke/MethodHandle" ∧ y.cls ≠ "java/lang/invoke/VarHandle")
    {W9 : Nat} {Pre : Pt → Array Value → Prop} {Post : Pt → Array Value → Option Value → Pt → Prop} (hK : Back l R p e below s args y 3 W9 Pre Post)
    {g : JFrame} (hg : g.method = m) (hsize : g.locals.size = c.maxLocals) {argsL rest : List Value} (hlen : ∀ sig, parseMethodDescriptor y.desc = some sig → argsL.length = sig.parameters.length)
    (hstack : g.stack = argsL.reverse ++ rest) (hW : 2 * g.monitorRoom + (rest.map fun v => v.category).sum ≤ W9) (hdg : decode c.code g.pc = .ok (.invokestatic index, 3))
    (hpre : ∀ vm₁, s.WarmedH vm₁ → Pre ⟨T.setVm vm₁, locs, cells, slots⟩ argsL.toArray) :
    ∃ (v : Option Value) (vm₁ : Vm) (B : Pt), s.WarmedH vm₁ ∧ Stand p l e R s m args below meth c B.U B.locs B.cells B.slots ∧ Post ⟨T.setVm vm₁, locs, cells, slots⟩ argsL.toArray v B ∧
      ∀ target, Steps p.tables e below (B.U.setTop { g with pc := g.pc + 3, stack := v.toList ++ rest }) target → Steps p.tables e below (T.setTop g) target := by
  obtain ⟨mk, methM, cM, hnamed, hmethM, -, -, -, -, -, -, hsigM⟩ := Cond.codeWith_spec hcode
  have hstatic : methM.isStatic = true := Cond.static_spec hnamed hmethM hstat
  obtain ⟨kP, hkP, -⟩ := className_of_methodNamed hnamed
  have hinitP : kP.init = .initialized := Cond.initialized_spec (findClass_of_methodNamed hnamed) hkP hinit
  obtain ⟨vm₁, X₁, hstep₁⟩ := X.invokestatic hexec hown hlink hnamed hmethM hstatic hkP hinitP hy (g := g) hg (argsL := argsL) (rest := rest) (hlen _ hsigM) hstack hdg
  obtain ⟨v, B, X', hpost, hsteps⟩ := hK m meth c ⟨T.setVm vm₁, locs, cells, slots⟩ { g with stack := rest } (.invokestatic index) mk argsL.toArray X₁ hg hsize hdg hW (X₁.named hnamed) (hpre vm₁ X₁.warmed)
  exact ⟨v, vm₁, B, X₁.warmed, X', hpost, fun target h => hstep₁ _ fun acts => by rw [doInvoke_state]; exact hsteps.trans h⟩
theorem vx_runSW {y : MethodName} {bytes cc : ByteArray} {maxL nL mc ms n index : Nat} {ret : Option FieldType} {hh : List (Nat × Nat × Nat × Nat)} {ws : List Cond} {rm : Room} {Pc : Array Value → State → Prop} {Qc : Array Value → State → Outcome → State → Prop} {free : Addr → Prop} {Ts : List Cond} {own : String} {As rest : List Value} {g : JFrame}
    (S : CallFix p m c cc nL s args Ts own) (hM : Met l y ws rm Pc Qc mc ms free) (cw : vx_CSW R s args own index y bytes maxL ret hh ws rm mc ms n) (hp : PreS s H Pc As)
    (hg : g.method = m) (hn : As.length = n) (hsize : g.locals.size = nL) (hstack : g.stack = As.reverse ++ rest) (hW : 2 * g.monitorRoom + (rest.map fun v => v.category).sum ≤ 8) (hdg : decode cc g.pc = .ok (.invokestatic index, 3)) (hf : cells + mc ≤ R.cells ∧ slots + ms ≤ R.slots) :
    va_Run p l e R s m args below meth c H locs cells slots mc ms g rest (Qc As.toArray) (free) := by
  obtain ⟨⟨hrc, hrs, hfr, hlo, hws, hcw⟩, hcode, hini, hy, hlen, hl, hstt⟩ := cw
  have hK : Back l R p e below s args y 3 8 (PreOf R mc ms Pc) (PostOf Qc mc ms free) := va_backW (hh := hh) (bytes := bytes) (maxL := maxL) (ret := ret) hM hp.1 hrc hrs hfr hlo hws hcw (fun a' U hW => word_at hW (Or.inl (by first | rfl | simp [Cond.onTables, Cond.keeps, Cond.steady])) hini)
  obtain ⟨hx, hb, hml, ho, -⟩ := S
  intro T hT X
  obtain ⟨v, vm₁, ⟨U', l2, c2, s2⟩, hW₁, X', ⟨g', mk, t, L, e1, e2, hq, h1, hL, h2, h3⟩, st⟩ := vx_callSW X hx (hh := hh) (bytes := bytes) (maxL := maxL) (ret := ret) ho hl hstt hini hcode hy hK hg (hsize.trans hml.symm) (argsL := As) (rest := rest) (fun sig h => hn.trans (hlen sig h)) hstack hW (by rw [hb]; exact hdg)
    (fun vm₁ hW₁ => ⟨hf.1, hf.2, hp.2 (T.setVm vm₁) hT hW₁⟩)
  dsimp only [Pt.U, Pt.locs, Pt.cells, Pt.slots] at X' e1 e2 h1 h2 h3 st
  subst h1; subst h2; subst h3
  exact ⟨v, (T.setVm vm₁).calling g' mk As.toArray, t, U', L, hT, X', hL, e1, e2, hq, st⟩
/-- a thing of a world lies in the heap -/
theorem vx_lt {D : va_G} {cl : List vw_C} {ws : va_W} {H1 : Heap} (h : va_P D cl ws H1) {k : Nat} {q : Nat × va_E} (hk : ws[k]? = some q) : q.1 < H1.size := (h k q hk).lt
end VXS
/-! ===== END ===== -/
/-! ===== BEGIN methods with a table of their own: called by a name, returning or throwing ===== -/
section VXH
/-! vx_backW, vx_callVX, vx_callSX, vx_callVW, vx_runVW, vx_runVX, vx_runSX, vx_ofWH follow the same proofs as their sisters above (Free/Laws.lean, Shelf42/LK1.lean); vx_outP calls Shelf42/NT130.lean (outThrough). -/
section
variable {l : Launch} {R : Room} {p : Program} {e : Env} {below : List Frame} {s : State} {sargs : Array Value} {y : MethodName} {len W9 : Nat}
theorem vx_backW {ws : List Cond} {rm : Room} {Pc : Array Value → State → Prop} {Qc : Array Value → State → Outcome → State → Prop} {XC : String → State → State → Prop} {mc ms : Nat} {free : Addr → Prop} {bytes : ByteArray} {maxL : Nat} {ret : Option FieldType} {hh : List (Nat × Nat × Nat × Nat)}
    (hM : vx_Met l y ws rm Pc Qc XC mc ms free) (hblind : FrameBlind Pc) (hrc : rm.cells = mc) (hrs : rm.slots = ms)
    (hframes : rm.frames + 1 ≤ R.frames) (hlocals : W9 + (maxL + 11) + rm.locals ≤ R.locals)
    (hws : ∀ w ∈ ws, ∀ a' U, s.WarmedH U.vm → w.before a' U = true) (hcode : Cond.codeWith y bytes maxL ret hh ∈ ws) (hinit : ∀ a' U, s.WarmedH U.vm → (Cond.initialized y.cls).before a' U = true) :
    vx_Back l R p e below s sargs y len W9 (PreOf R mc ms Pc) (PostOf Qc mc ms free) (vx_Post XC mc ms free) := by
  intro m meth c A g ig mk a X hg hsize hdg hW hn hp
  have h1 : (headSpec ws rm).pre.before a A.U = true := atoms_intro fun w hw => hws w hw _ _ X.warmed
  have h2 : (Cond.codeWith y bytes maxL ret hh).before a A.U = true := hws _ hcode _ _ X.warmed
  have h3 : (Cond.initialized y.cls).before a A.U = true := hinit _ _ X.warmed
  have h4 : A.cells + (headSpec ws rm).room.cells ≤ R.cells := by rw [show (headSpec ws rm).room.cells = mc from hrc]; exact hp.1
  have h5 : A.slots + (headSpec ws rm).room.slots ≤ R.slots := by rw [show (headSpec ws rm).room.slots = ms from hrs]; exact hp.2.1
  have hPc : Pc a (A.U.calling g mk a) := hblind _ _ _ _ hp.2.2
  obtain ⟨U, Ls, c0, s0⟩ := A
  dsimp only [Pt.U, Pt.locs, Pt.cells, Pt.slots] at h1 h2 h3 h4 h5 X hn hPc ⊢
  obtain ⟨m9, methY, cY, hn9, hmY, hcY, -, hlY, -⟩ := Cond.codeWith_spec h2
  cases Option.some.inj (hn9.symm.trans hn)
  obtain ⟨kY, hkY, -⟩ := className_of_methodNamed hn
  have hinitY : kY.init = .initialized := Cond.initialized_spec (findClass_of_methodNamed hn) hkY h3
  have h : At U g.method c below := by rw [hg]; exact X.here
  have hlocals9 : W9 + (maxL + 11) + (headSpec ws rm).room.locals ≤ R.locals := hlocals
  have happ : (headSpec ws rm).appliesLoose y e.platform (U.calling g mk a) = true :=
    Spec.appliesLoose_calling (g := g) h hdg hn hkY hinitY
      (X.room_calling (g := g) (R' := (headSpec ws rm).room) hsize hmY hcY hframes (by rw [hlY]; omega) h4 h5) h1
  obtain ⟨mid, hmid⟩ := h.above
  have hfr : (U.setTop g).frames = (.java g :: mid) ++ below := by rw [State.frames_setTop' g h.top, hmid]; rfl
  obtain ⟨o, s₂, hsteps, -, hend, hq⟩ := Steps.callFree hM p X.admits X.cas X.clock (acts := []) hfr happ hPc trivial
  have hq' : vx_Q Qc XC mc ms free a (U.calling g mk a) o s₂ := hq
  rw [State.frames_setTop' g h.top] at hend
  obtain ⟨g₀, hg0⟩ := Option.isSome_iff_exists.mp h.top
  obtain ⟨r, hr⟩ := State.topJava?_eq_some.mp hg0
  have hr' : (({ U with heap := s₂.heap, slotsUsed := s₂.slotsUsed } : State).setVm s₂.vm).frames = .java g₀ :: r := hr
  rcases hq' with ⟨hqc, L, hfe, hL⟩ | ⟨q, rfl, E, ce, L, hx, hce, hcv, hcl, hW₂, hsm, hL⟩
  · obtain ⟨⟨v, rfl⟩, hW₂, e2, q2, q3, q4, q5, q6⟩ := id hfe
    have e3 : s₂ = ({ (U.calling g mk a).setFrames s₂.frames with heap := s₂.heap, slotsUsed := s₂.slotsUsed } : State).setVm s₂.vm := by
      have : s₂ = ({ s₂ with vm := (U.calling g mk a).vm } : State).setVm s₂.vm := rfl
      rw [e2] at this
      exact this
    obtain ⟨c₂, i₂, len₂, hc₂, hd₂, hf₂⟩ := hend
    have hW' : U.WarmedH s₂.vm := hW₂
    have hcc : c₂ = c := by
      have h1 : s₂.code? g.method = U.code? g.method := by
        rw [State.code?_eq, State.code?_eq, hW'.alike.method?]
      exact Option.some.inj (hc₂.symm.trans (h1.trans h.code))
    subst hcc
    have hlen : len₂ = len := by rw [hdg] at hd₂; cases hd₂; rfl
    subst hlen
    have hs₂ : s₂ = (({ U with heap := s₂.heap, slotsUsed := s₂.slotsUsed } : State).setVm s₂.vm).setTop { g with pc := g.pc + len₂, stack := v.toList ++ g.stack } := by
      refine e3.trans ?_
      rw [hf₂, State.calling_eq h.top, State.setFrames_setFrames, State.setTop_of_frames _ hr', hr]
      rfl
    have hsame : U.sameButNew ({ U with heap := s₂.heap, slotsUsed := s₂.slotsUsed } : State) L mc ms := by
      refine ⟨?_, q2, q3, q4, q5, q6⟩
      obtain ⟨t, ht, -⟩ := State.frames_cons hr
      show ({ U with heap := s₂.heap, slotsUsed := s₂.slotsUsed } : State) = { U.setFrames U.frames with heap := s₂.heap, slotsUsed := s₂.slotsUsed }
      rw [State.setFrames_self ht]
    subst hg
    refine Or.inl ⟨v, ⟨(({ U with heap := s₂.heap, slotsUsed := s₂.slotsUsed } : State).setVm s₂.vm), Ls ++ L, c0 + mc, s0 + ms⟩,
      ⟨X.admits, X.cas, X.clock, X.frames, X.room, X.hears, X.method, X.code, (X.here.setHeapUsed s₂.heap s₂.slotsUsed).setVm hW'.alike, X.tail, State.WarmedH.trans X.warmed hW', X.limits, X.bytes, X.same.trans (hsame.setVm s.vm)⟩,
      ⟨g, mk, s₂, L, rfl, rfl, hqc, rfl, hL, rfl, rfl⟩, ?_⟩
    show Steps p.tables e below _ ((({ U with heap := s₂.heap, slotsUsed := s₂.slotsUsed } : State).setVm s₂.vm).setTop { g with pc := g.pc + len₂, stack := v.toList ++ g.stack })
    rw [← hs₂]
    exact hsteps
  · obtain ⟨e2, q2, q3, q4, q5, q6⟩ := id hsm
    have e3 : s₂ = ({ (U.calling g mk a).setFrames s₂.frames with heap := s₂.heap, slotsUsed := s₂.slotsUsed } : State).setVm s₂.vm := by
      have : s₂ = ({ s₂ with vm := (U.calling g mk a).vm } : State).setVm s₂.vm := rfl
      rw [e2] at this
      exact this
    have hf₂ : s₂.frames = .throwing q :: .java g :: U.frames.tail := hend
    have hW' : U.WarmedH s₂.vm := hW₂
    have hs₂ : s₂ = ((({ U with heap := s₂.heap, slotsUsed := s₂.slotsUsed } : State).setVm s₂.vm).setTop g).pushFrame (.throwing q) := by
      refine e3.trans ?_
      rw [hf₂, State.calling_eq h.top, State.setFrames_setFrames, State.pushFrame, State.frames_setTop _ hr', State.setTop_of_frames _ hr', State.setFrames_setFrames, hr]
      rfl
    have hsame : U.sameButNew ({ U with heap := s₂.heap, slotsUsed := s₂.slotsUsed } : State) L mc ms := by
      refine ⟨?_, q2, q3, q4, q5, q6⟩
      obtain ⟨t, ht, -⟩ := State.frames_cons hr
      show ({ U with heap := s₂.heap, slotsUsed := s₂.slotsUsed } : State) = { U.setFrames U.frames with heap := s₂.heap, slotsUsed := s₂.slotsUsed }
      rw [State.setFrames_self ht]
    subst hg
    refine Or.inr ⟨q, ⟨(({ U with heap := s₂.heap, slotsUsed := s₂.slotsUsed } : State).setVm s₂.vm), Ls ++ L, c0 + mc, s0 + ms⟩,
      ⟨X.admits, X.cas, X.clock, X.frames, X.room, X.hears, X.method, X.code, (X.here.setHeapUsed s₂.heap s₂.slotsUsed).setVm hW'.alike, X.tail, State.WarmedH.trans X.warmed hW', X.limits, X.bytes, X.same.trans (hsame.setVm s.vm)⟩,
      ⟨g, mk, s₂, L, E, ce, rfl, rfl, hx, hce, hcv, hcl, rfl, hL, rfl, rfl⟩, ?_⟩
    show Steps p.tables e below _ (((({ U with heap := s₂.heap, slotsUsed := s₂.slotsUsed } : State).setVm s₂.vm).setTop g).pushFrame (.throwing q))
    rw [← hs₂]
    exact hsteps
end
variable {p : Program} {l : Launch} {e : Env} {R : Room} {s : State} {m : MethodId} {args : Array Value} {below : List Frame} {meth : Method} {c : Code} {T : State} {H : Heap} {locs : List Loc} {cells slots : Nat}
theorem vx_callVX (X : Stand p l e R s m args below meth c T locs cells slots) (hexec : p.tables.exec = Jvm.exec) {own C : String} {index : Nat} {y : MethodName} {bytes : ByteArray} {maxL : Nat} {ret : Option FieldType} {hh : List (Nat × Nat × Nat × Nat)}
    (hown : s.vm.findClass own = some m.cls) (hlink : (Cond.methodLink own index y).before args s = true) (hinst : (Cond.instanceMethod y).before args s = true) (hsel : (Cond.selects C y y).before args s = true)
    (hcode : (Cond.codeWith y bytes maxL ret hh).before args s = true) (hy : y.cls ≠ "java/lang/invoke/MethodHandle" ∧ y.cls ≠ "java/lang/invoke/VarHandle")
    {W9 : Nat} {Pre : Pt → Array Value → Prop} {Post : Pt → Array Value → Option Value → Pt → Prop} {PostX : Pt → Array Value → Addr → Pt → Prop} (hK : vx_Back l R p e below s args y 3 W9 Pre Post PostX)
    {b : Addr} {cellB : Cell} (hcell : T.heap[b]? = some cellB) (hobj : cellB.vm.isStatics = false) (hcls : s.vm.findClass C = some cellB.cls)
    {g : JFrame} (hg : g.method = m) (hsize : g.locals.size = c.maxLocals) {argsL rest : List Value} (hlen : ∀ sig, parseMethodDescriptor y.desc = some sig → argsL.length = sig.parameters.length)
    (hstack : g.stack = argsL.reverse ++ .ref b :: rest) (hW : 2 * g.monitorRoom + (rest.map fun v => v.category).sum ≤ W9) (hdg : decode c.code g.pc = .ok (.invokevirtual index, 3))
    (hpre : ∀ vm₁, s.WarmedH vm₁ → Pre ⟨T.setVm vm₁, locs, cells, slots⟩ (Value.ref b :: argsL).toArray) :
    (∃ (v : Option Value) (vm₁ : Vm) (B : Pt), s.WarmedH vm₁ ∧ Stand p l e R s m args below meth c B.U B.locs B.cells B.slots ∧ Post ⟨T.setVm vm₁, locs, cells, slots⟩ (Value.ref b :: argsL).toArray v B ∧
      ∀ target, Steps p.tables e below (B.U.setTop { g with pc := g.pc + 3, stack := v.toList ++ rest }) target → Steps p.tables e below (T.setTop g) target) ∨
    (∃ (q : Addr) (vm₁ : Vm) (B : Pt), s.WarmedH vm₁ ∧ Stand p l e R s m args below meth c B.U B.locs B.cells B.slots ∧ PostX ⟨T.setVm vm₁, locs, cells, slots⟩ (Value.ref b :: argsL).toArray q B ∧
      Steps p.tables e below (T.setTop g) ((B.U.setTop { g with stack := rest }).pushFrame (.throwing q))) := by
  obtain ⟨mk, methM, hnamed, hmethM, hstM, habM⟩ := Cond.instanceMethod_spec hinst
  obtain ⟨m8, methM', cM, hn8, hmethM', -, -, -, -, -, -, hsigM⟩ := Cond.codeWith_spec hcode
  cases Option.some.inj (hn8.symm.trans hnamed)
  cases hmethM.symm.trans hmethM'
  obtain ⟨c2, r2, m2, q1, q2, q3, q4, kP, hkP, hkPi⟩ := Cond.selects_spec hsel
  cases hcls.symm.trans q1
  cases (State.methodFound?_of_named hnamed hy).symm.trans q2
  cases hnamed.symm.trans q3
  have hselP : selectMethod e.platform s.vm cellB.cls mk = .method mk := by rw [Launch.admits_selectMethod X.admits]; exact q4
  obtain ⟨vm₁, X₁, hstep₁⟩ := X.invokevirtual hexec hown hlink hnamed hmethM hstM hkP hkPi hy (a := b) (cell := cellB) hcell
    (fun z h => by rw [h] at hobj; cases hobj) hselP hmethM habM hkP hkPi (g := g) hg (argsL := argsL) (rest := rest) (hlen _ hsigM) hstack hdg
  rcases hK m meth c ⟨T.setVm vm₁, locs, cells, slots⟩ { g with stack := rest } (.invokevirtual index) mk (Value.ref b :: argsL).toArray X₁ hg hsize hdg hW (X₁.named hnamed) (hpre vm₁ X₁.warmed) with ⟨v, B, X', hpost, hsteps⟩ | ⟨q, B, X', hpost, hsteps⟩
  · exact Or.inl ⟨v, vm₁, B, X₁.warmed, X', hpost, fun target h => hstep₁ _ fun acts => by rw [doInvoke_state]; exact hsteps.trans h⟩
  · exact Or.inr ⟨q, vm₁, B, X₁.warmed, X', hpost, hstep₁ _ fun acts => by rw [doInvoke_state]; exact hsteps⟩
theorem vx_callSX (X : Stand p l e R s m args below meth c T locs cells slots) (hexec : p.tables.exec = Jvm.exec) {own : String} {index : Nat} {y : MethodName} {bytes : ByteArray} {maxL : Nat} {ret : Option FieldType} {hh : List (Nat × Nat × Nat × Nat)}
    (hown : s.vm.findClass own = some m.cls) (hlink : (Cond.methodLink own index y).before args s = true) (hstat : (Cond.static y).before args s = true) (hinit : (Cond.initialized y.cls).before args s = true)
    (hcode : (Cond.codeWith y bytes maxL ret hh).before args s = true) (hy : y.cls ≠ "java/lang/invoke/MethodHandle" ∧ y.cls ≠ "java/lang/invoke/VarHandle")
    {W9 : Nat} {Pre : Pt → Array Value → Prop} {Post : Pt → Array Value → Option Value → Pt → Prop} {PostX : Pt → Array Value → Addr → Pt → Prop} (hK : vx_Back l R p e below s args y 3 W9 Pre Post PostX)
    {g : JFrame} (hg : g.method = m) (hsize : g.locals.size = c.maxLocals) {argsL rest : List Value} (hlen : ∀ sig, parseMethodDescriptor y.desc = some sig → argsL.length = sig.parameters.length)
    (hstack : g.stack = argsL.reverse ++ rest) (hW : 2 * g.monitorRoom + (rest.map fun v => v.category).sum ≤ W9) (hdg : decode c.code g.pc = .ok (.invokestatic index, 3))
    (hpre : ∀ vm₁, s.WarmedH vm₁ → Pre ⟨T.setVm vm₁, locs, cells, slots⟩ argsL.toArray) :
    (∃ (v : Option Value) (vm₁ : Vm) (B : Pt), s.WarmedH vm₁ ∧ Stand p l e R s m args below meth c B.U B.locs B.cells B.slots ∧ Post ⟨T.setVm vm₁, locs, cells, slots⟩ argsL.toArray v B ∧
      ∀ target, Steps p.tables e below (B.U.setTop { g with pc := g.pc + 3, stack := v.toList ++ rest }) target → Steps p.tables e below (T.setTop g) target) ∨
    (∃ (q : Addr) (vm₁ : Vm) (B : Pt), s.WarmedH vm₁ ∧ Stand p l e R s m args below meth c B.U B.locs B.cells B.slots ∧ PostX ⟨T.setVm vm₁, locs, cells, slots⟩ argsL.toArray q B ∧
      Steps p.tables e below (T.setTop g) ((B.U.setTop { g with stack := rest }).pushFrame (.throwing q))) := by
  obtain ⟨mk, methM, cM, hnamed, hmethM, -, -, -, -, -, -, hsigM⟩ := Cond.codeWith_spec hcode
  have hstatic : methM.isStatic = true := Cond.static_spec hnamed hmethM hstat
  obtain ⟨kP, hkP, -⟩ := className_of_methodNamed hnamed
  have hinitP : kP.init = .initialized := Cond.initialized_spec (findClass_of_methodNamed hnamed) hkP hinit
  obtain ⟨vm₁, X₁, hstep₁⟩ := X.invokestatic hexec hown hlink hnamed hmethM hstatic hkP hinitP hy (g := g) hg (argsL := argsL) (rest := rest) (hlen _ hsigM) hstack hdg
  rcases hK m meth c ⟨T.setVm vm₁, locs, cells, slots⟩ { g with stack := rest } (.invokestatic index) mk argsL.toArray X₁ hg hsize hdg hW (X₁.named hnamed) (hpre vm₁ X₁.warmed) with ⟨v, B, X', hpost, hsteps⟩ | ⟨q, B, X', hpost, hsteps⟩
  · exact Or.inl ⟨v, vm₁, B, X₁.warmed, X', hpost, fun target h => hstep₁ _ fun acts => by rw [doInvoke_state]; exact hsteps.trans h⟩
  · exact Or.inr ⟨q, vm₁, B, X₁.warmed, X', hpost, hstep₁ _ fun acts => by rw [doInvoke_state]; exact hsteps⟩
theorem vx_callVW (X : Stand p l e R s m args below meth c T locs cells slots) (hexec : p.tables.exec = Jvm.exec) {own C : String} {index : Nat} {y : MethodName} {bytes : ByteArray} {maxL : Nat} {ret : Option FieldType} {hh : List (Nat × Nat × Nat × Nat)}
    (hown : s.vm.findClass own = some m.cls) (hlink : (Cond.methodLink own index y).before args s = true) (hinst : (Cond.instanceMethod y).before args s = true) (hsel : (Cond.selects C y y).before args s = true)
    (hcode : (Cond.codeWith y bytes maxL ret hh).before args s = true) (hy : y.cls ≠ "java/lang/invoke/MethodHandle" ∧ y.cls ≠ "java/lang/invoke/VarHandle")
    {W9 : Nat} {Pre : Pt → Array Value → Prop} {Post : Pt → Array Value → Option Value → Pt → Prop} (hK : Back l R p e below s args y 3 W9 Pre Post)
    {b : Addr} {cellB : Cell} (hcell : T.heap[b]? = some cellB) (hobj : cellB.vm.isStatics = false) (hcls : s.vm.findClass C = some cellB.cls)
    {g : JFrame} (hg : g.method = m) (hsize : g.locals.size = c.maxLocals) {argsL rest : List Value} (hlen : ∀ sig, parseMethodDescriptor y.desc = some sig → argsL.length = sig.parameters.length)
    (hstack : g.stack = argsL.reverse ++ .ref b :: rest) (hW : 2 * g.monitorRoom + (rest.map fun v => v.category).sum ≤ W9) (hdg : decode c.code g.pc = .ok (.invokevirtual index, 3))
    (hpre : ∀ vm₁, s.WarmedH vm₁ → Pre ⟨T.setVm vm₁, locs, cells, slots⟩ (Value.ref b :: argsL).toArray) :
    ∃ (v : Option Value) (vm₁ : Vm) (B : Pt), s.WarmedH vm₁ ∧ Stand p l e R s m args below meth c B.U B.locs B.cells B.slots ∧ Post ⟨T.setVm vm₁, locs, cells, slots⟩ (Value.ref b :: argsL).toArray v B ∧
      ∀ target, Steps p.tables e below (B.U.setTop { g with pc := g.pc + 3, stack := v.toList ++ rest }) target → Steps p.tables e below (T.setTop g) target := by
  obtain ⟨mk, methM, hnamed, hmethM, hstM, habM⟩ := Cond.instanceMethod_spec hinst
  obtain ⟨m8, methM', cM, hn8, hmethM', -, -, -, -, -, -, hsigM⟩ := Cond.codeWith_spec hcode
  cases Option.some.inj (hn8.symm.trans hnamed)
  cases hmethM.symm.trans hmethM'
  obtain ⟨c2, r2, m2, q1, q2, q3, q4, kP, hkP, hkPi⟩ := Cond.selects_spec hsel
  cases hcls.symm.trans q1
  cases (State.methodFound?_of_named hnamed hy).symm.trans q2
  cases hnamed.symm.trans q3
  have hselP : selectMethod e.platform s.vm cellB.cls mk = .method mk := by rw [Launch.admits_selectMethod X.admits]; exact q4
  obtain ⟨vm₁, X₁, hstep₁⟩ := X.invokevirtual hexec hown hlink hnamed hmethM hstM hkP hkPi hy (a := b) (cell := cellB) hcell
    (fun z h => by rw [h] at hobj; cases hobj) hselP hmethM habM hkP hkPi (g := g) hg (argsL := argsL) (rest := rest) (hlen _ hsigM) hstack hdg
  obtain ⟨v, B, X', hpost, hsteps⟩ := hK m meth c ⟨T.setVm vm₁, locs, cells, slots⟩ { g with stack := rest } (.invokevirtual index) mk (Value.ref b :: argsL).toArray X₁ hg hsize hdg hW (X₁.named hnamed) (hpre vm₁ X₁.warmed)
  exact ⟨v, vm₁, B, X₁.warmed, X', hpost, fun target h => hstep₁ _ fun acts => by rw [doInvoke_state]; exact hsteps.trans h⟩
abbrev vx_CVW (R : Room) (s : State) (args : Array Value) (own C : String) (index : Nat) (y : MethodName) (bytes : ByteArray) (maxL : Nat) (ret : Option FieldType) (hh : List (Nat × Nat × Nat × Nat)) (ws : List Cond) (rm : Room) (mc ms n : Nat) : Prop :=
  (rm.cells = mc ∧ rm.slots = ms ∧ rm.frames + 1 ≤ R.frames ∧ 8 + (maxL + 11) + rm.locals ≤ R.locals ∧ (∀ w ∈ ws, ∀ (a' : Array Value) (U : State), s.WarmedH U.vm → w.before a' U = true) ∧ Cond.codeWith y bytes maxL ret hh ∈ ws) ∧
  (Cond.codeWith y bytes maxL ret hh).before args s = true ∧ (Cond.initialized y.cls).before args s = true ∧ (y.cls ≠ "java/lang/invoke/MethodHandle" ∧ y.cls ≠ "java/lang/invoke/VarHandle") ∧
  (∀ sig, parseMethodDescriptor y.desc = some sig → n = sig.parameters.length) ∧ (Cond.methodLink own index y).before args s = true ∧ (Cond.instanceMethod y).before args s = true ∧ (Cond.selects C y y).before args s = true
theorem vx_cwVW {own C : String} {index maxL mc ms : Nat} {y : MethodName} {bytes : ByteArray} {ret : Option FieldType} {hh : List (Nat × Nat × Nat × Nat)} {Ts ws ws' : List Cond} {rm : Room} (n : Nat) (ht : ∀ w ∈ Ts, w.before args s = true) (hT : GoodIn Ts (wsV own index C y ws)) (hw : ws = Cond.codeWith y bytes maxL ret hh :: ws') (hrc : rm.cells = mc) (hrs : rm.slots = ms)
    (hd : y.cls = C ∧ y.cls ≠ "java/lang/invoke/MethodHandle" ∧ y.cls ≠ "java/lang/invoke/VarHandle" ∧ (parseMethodDescriptor y.desc).map (fun d => d.parameters.length) = some n) (hR : rm.frames + 1 ≤ R.frames ∧ 8 + (maxL + 11) + rm.locals ≤ R.locals) :
    vx_CVW R s args own C index y bytes maxL ret hh ws rm mc ms n := by
  obtain ⟨hC, hd⟩ := hd
  subst hC
  have ok : ∀ w ∈ wsV own index y.cls y ws, w.before args s = true := fun w h => ht w (hT w h).1
  have hG : GoodIn Ts ws := fun w h => hT w (by unfold wsV; exact List.mem_append_right _ h)
  have hc : Cond.codeWith y bytes maxL ret hh ∈ ws := by rw [hw]; exact List.mem_cons_self
  refine ⟨⟨hrc, hrs, hR.1, hR.2, pay_in ht hG, hc⟩, ht _ (hG _ hc).1, ok _ (by simp [wsV]), ⟨hd.1, hd.2.1⟩, fun sig h => ?_, ok _ (by simp [wsV]), ok _ (by simp [wsV]), ok _ (by simp [wsV])⟩
  have h2 := hd.2.2
  rw [h] at h2
  exact (Option.some.inj h2).symm
theorem vx_runVW {y : MethodName} {bytes cc : ByteArray} {maxL nL mc ms n index : Nat} {ret : Option FieldType} {hh : List (Nat × Nat × Nat × Nat)} {ws : List Cond} {rm : Room} {Pc : Array Value → State → Prop} {Qc : Array Value → State → Outcome → State → Prop} {free : Addr → Prop} {Ts : List Cond} {own C : String} {b : Addr} {As rest : List Value} {g : JFrame}
    (S : CallFix p m c cc nL s args Ts own) (hM : Met l y ws rm Pc Qc mc ms free) (cw : vx_CVW R s args own C index y bytes maxL ret hh ws rm mc ms n) (hp : PreV s H C b Pc As)
    (hg : g.method = m) (hn : As.length = n) (hsize : g.locals.size = nL) (hstack : g.stack = As.reverse ++ .ref b :: rest) (hW : 2 * g.monitorRoom + (rest.map fun v => v.category).sum ≤ 8) (hdg : decode cc g.pc = .ok (.invokevirtual index, 3)) (hf : cells + mc ≤ R.cells ∧ slots + ms ≤ R.slots) :
    va_Run p l e R s m args below meth c H locs cells slots mc ms g rest (Qc (Value.ref b :: As).toArray) free := by
  obtain ⟨⟨hrc, hrs, hfr, hlo, hws, hcw⟩, hcode, hini, hy, hlen, hl, hin, hse⟩ := cw
  have hK : Back l R p e below s args y 3 8 (PreOf R mc ms Pc) (PostOf Qc mc ms free) := va_backW (hh := hh) (bytes := bytes) (maxL := maxL) (ret := ret) hM hp.1 hrc hrs hfr hlo hws hcw (fun a' U hW => word_at hW (Or.inl (by first | rfl | simp [Cond.onTables, Cond.keeps, Cond.steady])) hini)
  obtain ⟨hx, hb, hml, ho, -⟩ := S
  obtain ⟨-, ⟨cellB, hcB, hoB, hclB⟩, hPc⟩ := hp
  intro T hT X
  obtain ⟨v, vm₁, ⟨U', l2, c2, s2⟩, hW₁, X', ⟨g', mk, t, L, e1, e2, hq, h1, hL, h2, h3⟩, st⟩ := vx_callVW X hx (C := C) (hh := hh) (bytes := bytes) (maxL := maxL) (ret := ret) ho hl hin hse hcode hy hK (by rw [hT]; exact hcB) hoB hclB hg (hsize.trans hml.symm) (argsL := As) (rest := rest) (fun sig h => hn.trans (hlen sig h)) hstack hW (by rw [hb]; exact hdg)
    (fun vm₁ hW₁ => ⟨hf.1, hf.2, hPc (T.setVm vm₁) hT hW₁⟩)
  dsimp only [Pt.U, Pt.locs, Pt.cells, Pt.slots] at X' e1 e2 h1 h2 h3 st
  subst h1; subst h2; subst h3
  exact ⟨v, (T.setVm vm₁).calling g' mk (Value.ref b :: As).toArray, t, U', L, hT, X', hL, e1, e2, hq, st⟩
section
variable {y : MethodName} {bytes cc : ByteArray} {maxL nL mc ms n index : Nat} {ret : Option FieldType} {ws : List Cond} {rm : Room} {Pc : Array Value → State → Prop} {Qc : Array Value → State → Outcome → State → Prop} {XC : String → State → State → Prop} {free : Addr → Prop} {Ts : List Cond} {own C : String} {b : Addr} {As rest : List Value} {g : JFrame}
theorem vx_runVX {hh : List (Nat × Nat × Nat × Nat)} (S : CallFix p m c cc nL s args Ts own) (hM : vx_Met l y ws rm Pc Qc XC mc ms free) (cw : vx_CVW R s args own C index y bytes maxL ret hh ws rm mc ms n) (hp : PreV s H C b Pc As)
    (hg : g.method = m) (hn : As.length = n) (hsize : g.locals.size = nL) (hstack : g.stack = As.reverse ++ .ref b :: rest) (hW : 2 * g.monitorRoom + (rest.map fun v => v.category).sum ≤ 8) (hdg : decode cc g.pc = .ok (.invokevirtual index, 3)) (hf : cells + mc ≤ R.cells ∧ slots + ms ≤ R.slots) :
    vx_Run p l e R s m args below meth c H locs cells slots mc ms g rest (Qc (Value.ref b :: As).toArray) XC free := by
  obtain ⟨⟨hrc, hrs, hfr, hlo, hws, hcw⟩, hcode, hini, hy, hlen, hl, hin, hse⟩ := cw
  have hK : vx_Back l R p e below s args y 3 8 (PreOf R mc ms Pc) (PostOf Qc mc ms free) (vx_Post XC mc ms free) := vx_backW (hh := hh) (bytes := bytes) (maxL := maxL) (ret := ret) hM hp.1 hrc hrs hfr hlo hws hcw (fun a' U hW => word_at hW (Or.inl (by first | rfl | simp [Cond.onTables, Cond.keeps, Cond.steady])) hini)
  obtain ⟨hx, hb, hml, ho, -⟩ := S
  obtain ⟨-, ⟨cellB, hcB, hoB, hclB⟩, hPc⟩ := hp
  intro T hT X
  rcases vx_callVX X hx (C := C) (hh := hh) (bytes := bytes) (maxL := maxL) (ret := ret) ho hl hin hse hcode hy hK (by rw [hT]; exact hcB) hoB hclB hg (hsize.trans hml.symm) (argsL := As) (rest := rest) (fun sig h => hn.trans (hlen sig h)) hstack hW (by rw [hb]; exact hdg)
    (fun vm₁ hW₁ => ⟨hf.1, hf.2, hPc (T.setVm vm₁) hT hW₁⟩) with ⟨v, vm₁, ⟨U', l2, c2, s2⟩, hW₁, X', ⟨g', mk, t, L, e1, e2, hq, h1, hL, h2, h3⟩, st⟩ | ⟨q, vm₁, ⟨U', l2, c2, s2⟩, hW₁, X', ⟨g', mk, t, L, E, ce, e1, e2, hq, hce, hcv, hcl, h1, hL, h2, h3⟩, st⟩
  · dsimp only [Pt.U, Pt.locs, Pt.cells, Pt.slots] at X' e1 e2 h1 h2 h3 st
    subst h1; subst h2; subst h3
    exact Or.inl ⟨v, (T.setVm vm₁).calling g' mk (Value.ref b :: As).toArray, t, U', L, hT, X', hL, e1, e2, hq, st⟩
  · dsimp only [Pt.U, Pt.locs, Pt.cells, Pt.slots] at X' e1 e2 h1 h2 h3 st hcl
    subst h1; subst h2; subst h3
    exact Or.inr ⟨q, (T.setVm vm₁).calling g' mk (Value.ref b :: As).toArray, t, U', L, E, ce, hT, X', hL, e1, e2, hq, hce, hcv, vx_cls hW₁ hcl, st⟩
theorem vx_runSX {hh : List (Nat × Nat × Nat × Nat)} (S : CallFix p m c cc nL s args Ts own) (hM : vx_Met l y ws rm Pc Qc XC mc ms free) (cw : vx_CSW R s args own index y bytes maxL ret hh ws rm mc ms n) (hp : PreS s H Pc As)
    (hg : g.method = m) (hn : As.length = n) (hsize : g.locals.size = nL) (hstack : g.stack = As.reverse ++ rest) (hW : 2 * g.monitorRoom + (rest.map fun v => v.category).sum ≤ 8) (hdg : decode cc g.pc = .ok (.invokestatic index, 3)) (hf : cells + mc ≤ R.cells ∧ slots + ms ≤ R.slots) :
    vx_Run p l e R s m args below meth c H locs cells slots mc ms g rest (Qc As.toArray) XC free := by
  obtain ⟨⟨hrc, hrs, hfr, hlo, hws, hcw⟩, hcode, hini, hy, hlen, hl, hstt⟩ := cw
  have hK : vx_Back l R p e below s args y 3 8 (PreOf R mc ms Pc) (PostOf Qc mc ms free) (vx_Post XC mc ms free) := vx_backW (hh := hh) (bytes := bytes) (maxL := maxL) (ret := ret) hM hp.1 hrc hrs hfr hlo hws hcw (fun a' U hW => word_at hW (Or.inl (by first | rfl | simp [Cond.onTables, Cond.keeps, Cond.steady])) hini)
  obtain ⟨hx, hb, hml, ho, -⟩ := S
  intro T hT X
  rcases vx_callSX X hx (hh := hh) (bytes := bytes) (maxL := maxL) (ret := ret) ho hl hstt hini hcode hy hK hg (hsize.trans hml.symm) (argsL := As) (rest := rest) (fun sig h => hn.trans (hlen sig h)) hstack hW (by rw [hb]; exact hdg)
    (fun vm₁ hW₁ => ⟨hf.1, hf.2, hp.2 (T.setVm vm₁) hT hW₁⟩) with ⟨v, vm₁, ⟨U', l2, c2, s2⟩, hW₁, X', ⟨g', mk, t, L, e1, e2, hq, h1, hL, h2, h3⟩, st⟩ | ⟨q, vm₁, ⟨U', l2, c2, s2⟩, hW₁, X', ⟨g', mk, t, L, E, ce, e1, e2, hq, hce, hcv, hcl, h1, hL, h2, h3⟩, st⟩
  · dsimp only [Pt.U, Pt.locs, Pt.cells, Pt.slots] at X' e1 e2 h1 h2 h3 st
    subst h1; subst h2; subst h3
    exact Or.inl ⟨v, (T.setVm vm₁).calling g' mk As.toArray, t, U', L, hT, X', hL, e1, e2, hq, st⟩
  · dsimp only [Pt.U, Pt.locs, Pt.cells, Pt.slots] at X' e1 e2 h1 h2 h3 st hcl
    subst h1; subst h2; subst h3
    exact Or.inr ⟨q, (T.setVm vm₁).calling g' mk As.toArray, t, U', L, E, ce, hT, X', hL, e1, e2, hq, hce, hcv, vx_cls hW₁ hcl, st⟩
end
end VXH
theorem vx_ofWH {l : Launch} {y : MethodName} {ws ws' : List Cond} {rm : Room} {Pc : Array Value → State → Prop} {Qc : Array Value → State → Outcome → State → Prop} {XC : String → State → State → Prop} {mc ms : Nat} {free : Addr → Prop} {cc : ByteArray} {maxL : Nat} {ret : Option FieldType} {hh : List (Nat × Nat × Nat × Nat)}
    (hy : plainName y.cls = true) (hw : ws = Cond.codeWith y cc maxL ret hh :: ws')
    (body : ∀ p e s m args below meth c s₁, BodyLoose p l y (headSpec ws rm) cc maxL ret e s m args below meth c s₁ → c.maxLocals = maxL → Pc args s →
      W p l e (headSpec ws rm).room s m args below meth c s.heap [] 0 0 (vx_MQ below Qc XC args s mc ms free) (entryFrame m args maxL)) : vx_Met l y ws rm Pc Qc XC mc ms free := by
  refine MetFree.of_bodyS (code := cc) (maxLocals := maxL) (ret := ret) hy ?_ ?_
  · intro args s m h hn
    obtain ⟨m9, meth, c, hn9, h1, h2, h3, h4, -, h5, h6, -⟩ := Cond.codeWith_spec (atoms_spec (ws := ws) h _ (by rw [hw]; exact List.mem_cons_self))
    cases hn.symm.trans hn9
    exact ⟨meth, c, h1, h2, h3, h4, h5, h6⟩
  · intro p e s m args below meth c s₁ B hml hP _
    have hh0 : s₁.heap = s.heap := by rw [B.state]; rfl
    obtain ⟨t, a1, o, b1, b2, b3⟩ := body p e s m args below meth c s₁ B hml hP s₁ hh0 (Stand.of_body B)
    exact ⟨t, o, a1, b1, b2, b3⟩
/-! ===== END ===== -/
end
section
/-! ===== BEGIN printed: names, fields, word lists, decode rows ===== -/
def RX0 : String := "PageMonitor$Hasher"
def TX0 : u_T := fun k => match k with
  | 0 => ("PageMonitor$Hasher", "schedule", "[I", true)
  | _ => ("PageMonitor$Hasher", "padding", "[I", true)
def tyX0 : Nat → FieldType := fun k => match k with
  | 0 => .array .int
  | _ => .array .int
abbrev wsX00 : List Cond := u_ws RX0 TX0 2
theorem nmX0 : ∀ a, a < 2 → ∀ b, b < 2 → a ≠ b → (TX0 a).2.1 ≠ (TX0 b).2.1 := by decide +kernel
theorem tyX0_ok : ∀ k, k < 2 → parseFieldDescriptor (TX0 k).2.2.1 = some (tyX0 k) := by decide +kernel
abbrev cX0_init : ByteArray := prog_2_method_1_code
def yX0_init : MethodName := ⟨RX0, "<init>", "()V"⟩
abbrev cX0_begin : ByteArray := prog_2_method_2_code
def yX0_begin : MethodName := ⟨RX0, "begin", "([I)V"⟩
abbrev cX0_take : ByteArray := prog_2_method_3_code
def yX0_take : MethodName := ⟨RX0, "take", "([I[I)V"⟩
abbrev cX0_endAfter : ByteArray := prog_2_method_4_code
def yX0_endAfter : MethodName := ⟨RX0, "endAfter", "(I)[I"⟩
abbrev cX0_spread : ByteArray := prog_2_method_5_code
def yX0_spread : MethodName := ⟨RX0, "spread", "([I)V"⟩
def RX1 : String := "PageMonitor$Machine"
def TX1 : u_T := fun k => match k with
  | 0 => ("PageMonitor$Machine", "store", "LPageMonitor$Store;", true)
  | 1 => ("PageMonitor$Machine", "notary", "LPageMonitor$Notary;", true)
  | 2 => ("PageMonitor$Machine", "lastResult", "I", false)
  | 3 => ("PageMonitor$Machine", "lastSteps", "I", false)
  | 4 => ("PageMonitor$Machine", "said", "[I", true)
  | 5 => ("PageMonitor$Machine", "claimedMeasure", "[I", true)
  | 6 => ("PageMonitor$Machine", "claimedVoucher", "[I", true)
  | _ => ("PageMonitor$Machine", "voucher", "[I", true)
def tyX1 : Nat → FieldType := fun k => match k with
  | 0 => .object "PageMonitor$Store"
  | 1 => .object "PageMonitor$Notary"
  | 2 => .int
  | 3 => .int
  | 4 => .array .int
  | 5 => .array .int
  | 6 => .array .int
  | _ => .array .int
abbrev wsX10 : List Cond := u_ws RX1 TX1 8
theorem nmX1 : ∀ a, a < 8 → ∀ b, b < 8 → a ≠ b → (TX1 a).2.1 ≠ (TX1 b).2.1 := by decide +kernel
theorem tyX1_ok : ∀ k, k < 8 → parseFieldDescriptor (TX1 k).2.2.1 = some (tyX1 k) := by decide +kernel
abbrev cX1_init : ByteArray := prog_3_method_1_code
def yX1_init : MethodName := ⟨RX1, "<init>", "()V"⟩
abbrev cX1_run : ByteArray := prog_3_method_2_code
def yX1_run : MethodName := ⟨RX1, "run", "(LPageMonitor$Page;I)I"⟩
abbrev cX1_obey : ByteArray := prog_3_method_3_code
def yX1_obey : MethodName := ⟨RX1, "obey", "(LPageMonitor$Page;LPageMonitor$Page;I)I"⟩
abbrev cX1_load : ByteArray := prog_3_method_4_code
def yX1_load : MethodName := ⟨RX1, "load", "(LPageMonitor$Page;I[II)I"⟩
abbrev cX1_save : ByteArray := prog_3_method_5_code
def yX1_save : MethodName := ⟨RX1, "save", "(LPageMonitor$Page;II)I"⟩
abbrev cX1_vouch : ByteArray := prog_3_method_6_code
def yX1_vouch : MethodName := ⟨RX1, "vouch", "(LPageMonitor$Page;II)I"⟩
abbrev cX1_compare : ByteArray := prog_3_method_7_code
def yX1_compare : MethodName := ⟨RX1, "compare", "(LPageMonitor$Page;I[II)I"⟩
abbrev cX1_readEight : ByteArray := prog_3_method_8_code
def yX1_readEight : MethodName := ⟨RX1, "readEight", "(LPageMonitor$Page;I[I)Z"⟩
abbrev cX1_mayWriteEight : ByteArray := prog_3_method_9_code
def yX1_mayWriteEight : MethodName := ⟨RX1, "mayWriteEight", "(LPageMonitor$Page;I)Z"⟩
def RX2 : String := "PageMonitor$Notary"
def TX2 : u_T := fun k => match k with
  | 0 => ("PageMonitor$Notary", "secret", "[I", true)
  | 1 => ("PageMonitor$Notary", "hasher", "LPageMonitor$Hasher;", true)
  | _ => ("PageMonitor$Notary", "block", "[I", true)
def tyX2 : Nat → FieldType := fun k => match k with
  | 0 => .array .int
  | 1 => .object "PageMonitor$Hasher"
  | _ => .array .int
abbrev wsX20 : List Cond := u_ws RX2 TX2 3
theorem nmX2 : ∀ a, a < 3 → ∀ b, b < 3 → a ≠ b → (TX2 a).2.1 ≠ (TX2 b).2.1 := by decide +kernel
theorem tyX2_ok : ∀ k, k < 3 → parseFieldDescriptor (TX2 k).2.2.1 = some (tyX2 k) := by decide +kernel
abbrev cX2_init : ByteArray := prog_4_method_1_code
def yX2_init : MethodName := ⟨RX2, "<init>", "()V"⟩
abbrev cX2_open : ByteArray := prog_4_method_2_code
def yX2_open : MethodName := ⟨RX2, "open", "(LPageMonitor$Page;)V"⟩
abbrev cX2_tell : ByteArray := prog_4_method_3_code
def yX2_tell : MethodName := ⟨RX2, "tell", "(LPageMonitor$Page;III)V"⟩
abbrev cX2_tellWords : ByteArray := prog_4_method_4_code
def yX2_tellWords : MethodName := ⟨RX2, "tellWords", "(LPageMonitor$Page;[I)V"⟩
abbrev cX2_seal : ByteArray := prog_4_method_5_code
def yX2_seal : MethodName := ⟨RX2, "seal", "(LPageMonitor$Page;)V"⟩
abbrev cX2_writeVoucher : ByteArray := prog_4_method_6_code
def yX2_writeVoucher : MethodName := ⟨RX2, "writeVoucher", "([I[I[I)V"⟩
def RX3 : String := "PageMonitor$Page"
def TX3 : u_T := fun k => match k with
  | 0 => ("PageMonitor$Page", "kind", "I", false)
  | 1 => ("PageMonitor$Page", "owner", "I", false)
  | 2 => ("PageMonitor$Page", "state", "I", false)
  | 3 => ("PageMonitor$Page", "sealed", "Z", false)
  | 4 => ("PageMonitor$Page", "blocksTold", "I", false)
  | 5 => ("PageMonitor$Page", "tables", "[I", true)
  | 6 => ("PageMonitor$Page", "digest", "[I", true)
  | 7 => ("PageMonitor$Page", "entry", "I", false)
  | 8 => ("PageMonitor$Page", "entered", "Z", false)
  | 9 => ("PageMonitor$Page", "place", "I", false)
  | 10 => ("PageMonitor$Page", "registers", "[I", true)
  | _ => ("PageMonitor$Page", "entries", "[I", true)
def tyX3 : Nat → FieldType := fun k => match k with
  | 0 => .int
  | 1 => .int
  | 2 => .int
  | 3 => .boolean
  | 4 => .int
  | 5 => .array .int
  | 6 => .array .int
  | 7 => .int
  | 8 => .boolean
  | 9 => .int
  | 10 => .array .int
  | _ => .array .int
abbrev wsX30 : List Cond := u_ws RX3 TX3 12
theorem nmX3 : ∀ a, a < 12 → ∀ b, b < 12 → a ≠ b → (TX3 a).2.1 ≠ (TX3 b).2.1 := by decide +kernel
theorem tyX3_ok : ∀ k, k < 12 → parseFieldDescriptor (TX3 k).2.2.1 = some (tyX3 k) := by decide +kernel
abbrev cX3_init : ByteArray := prog_5_method_1_code
def yX3_init : MethodName := ⟨RX3, "<init>", "()V"⟩
def RX4 : String := "PageMonitor$Store"
def TX4 : u_T := fun k => match k with
  | 0 => ("PageMonitor$Store", "pages", "[LPageMonitor$Page;", true)
  | _ => ("PageMonitor$Store", "rows", "[[I", true)
def tyX4 : Nat → FieldType := fun k => match k with
  | 0 => .array (.object "PageMonitor$Page")
  | _ => .array (.array .int)
abbrev wsX40 : List Cond := u_ws RX4 TX4 2
theorem nmX4 : ∀ a, a < 2 → ∀ b, b < 2 → a ≠ b → (TX4 a).2.1 ≠ (TX4 b).2.1 := by decide +kernel
theorem tyX4_ok : ∀ k, k < 2 → parseFieldDescriptor (TX4 k).2.2.1 = some (tyX4 k) := by decide +kernel
abbrev cX4_init : ByteArray := prog_6_method_1_code
def yX4_init : MethodName := ⟨RX4, "<init>", "()V"⟩
abbrev cX4_frameRow : ByteArray := prog_6_method_2_code
def yX4_frameRow : MethodName := ⟨RX4, "frameRow", "(I)[I"⟩
abbrev cX4_claim : ByteArray := prog_6_method_3_code
def yX4_claim : MethodName := ⟨RX4, "claim", "(III)LPageMonitor$Page;"⟩
abbrev cX4_countOwnedBy : ByteArray := prog_6_method_4_code
def yX4_countOwnedBy : MethodName := ⟨RX4, "countOwnedBy", "(I)I"⟩
abbrev cX4_entriesFor : ByteArray := prog_6_method_5_code
def yX4_entriesFor : MethodName := ⟨RX4, "entriesFor", "(LPageMonitor$Page;I)[I"⟩
abbrev cX4_hasRoom : ByteArray := prog_6_method_6_code
def yX4_hasRoom : MethodName := ⟨RX4, "hasRoom", "(LPageMonitor$Page;I)Z"⟩
abbrev cX4_map : ByteArray := prog_6_method_7_code
def yX4_map : MethodName := ⟨RX4, "map", "(LPageMonitor$Page;III)V"⟩
abbrev cX4_rowAt : ByteArray := prog_6_method_8_code
def yX4_rowAt : MethodName := ⟨RX4, "rowAt", "(LPageMonitor$Page;II)[I"⟩
abbrev cX4_useSpare : ByteArray := prog_6_method_9_code
def yX4_useSpare : MethodName := ⟨RX4, "useSpare", "(IIII)Z"⟩
abbrev cX4_giveBack : ByteArray := prog_6_method_10_code
def yX4_giveBack : MethodName := ⟨RX4, "giveBack", "(II)I"⟩
def RX5 : String := "PageMonitor"
def TX5 : u_T := fun k => match k with
  | 0 => ("PageMonitor", "machine", "LPageMonitor$Machine;", true)
  | 1 => ("PageMonitor", "store", "LPageMonitor$Store;", true)
  | _ => ("PageMonitor", "notary", "LPageMonitor$Notary;", true)
def tyX5 : Nat → FieldType := fun k => match k with
  | 0 => .object "PageMonitor$Machine"
  | 1 => .object "PageMonitor$Store"
  | _ => .object "PageMonitor$Notary"
abbrev wsX50 : List Cond := u_ws RX5 TX5 3
theorem nmX5 : ∀ a, a < 3 → ∀ b, b < 3 → a ≠ b → (TX5 a).2.1 ≠ (TX5 b).2.1 := by decide +kernel
theorem tyX5_ok : ∀ k, k < 3 → parseFieldDescriptor (TX5 k).2.2.1 = some (tyX5 k) := by decide +kernel
abbrev cX5_init : ByteArray := prog_1_method_1_code
def yX5_init : MethodName := ⟨RX5, "<init>", "()V"⟩
abbrev cX5_key : ByteArray := prog_1_method_2_code
def yX5_key : MethodName := ⟨RX5, "key", "(II)V"⟩
abbrev cX5_poke : ByteArray := prog_1_method_3_code
def yX5_poke : MethodName := ⟨RX5, "poke", "(III)I"⟩
abbrev cX5_peek : ByteArray := prog_1_method_4_code
def yX5_peek : MethodName := ⟨RX5, "peek", "(II)I"⟩
abbrev cX5_space : ByteArray := prog_1_method_5_code
def yX5_space : MethodName := ⟨RX5, "space", "(I)I"⟩
abbrev cX5_thread : ByteArray := prog_1_method_6_code
def yX5_thread : MethodName := ⟨RX5, "thread", "(III)I"⟩
abbrev cX5_table : ByteArray := prog_1_method_7_code
def yX5_table : MethodName := ⟨RX5, "table", "(III)I"⟩
abbrev cX5_data : ByteArray := prog_1_method_8_code
def yX5_data : MethodName := ⟨RX5, "data", "(IIIII)I"⟩
abbrev cX5_share : ByteArray := prog_1_method_9_code
def yX5_share : MethodName := ⟨RX5, "share", "(IIII)I"⟩
abbrev cX5_spare : ByteArray := prog_1_method_10_code
def yX5_spare : MethodName := ⟨RX5, "spare", "(II)I"⟩
abbrev cX5_finish : ByteArray := prog_1_method_11_code
def yX5_finish : MethodName := ⟨RX5, "finish", "(I)I"⟩
abbrev cX5_stop : ByteArray := prog_1_method_12_code
def yX5_stop : MethodName := ⟨RX5, "stop", "(I)I"⟩
abbrev cX5_remove : ByteArray := prog_1_method_13_code
def yX5_remove : MethodName := ⟨RX5, "remove", "(I)I"⟩
abbrev cX5_enter : ByteArray := prog_1_method_14_code
def yX5_enter : MethodName := ⟨RX5, "enter", "(IIII)I"⟩
abbrev cX5_resume : ByteArray := prog_1_method_15_code
def yX5_resume : MethodName := ⟨RX5, "resume", "(II)I"⟩
abbrev cX5_result : ByteArray := prog_1_method_16_code
def yX5_result : MethodName := ⟨RX5, "result", "()I"⟩
abbrev cX5_steps : ByteArray := prog_1_method_17_code
def yX5_steps : MethodName := ⟨RX5, "steps", "()I"⟩
abbrev cX5_told : ByteArray := prog_1_method_18_code
def yX5_told : MethodName := ⟨RX5, "told", "(II)I"⟩
abbrev cX5_measure : ByteArray := prog_1_method_19_code
def yX5_measure : MethodName := ⟨RX5, "measure", "(II)I"⟩
abbrev cX5_isPage : ByteArray := prog_1_method_20_code
def yX5_isPage : MethodName := ⟨RX5, "isPage", "(I)Z"⟩
abbrev cX5_isFrame : ByteArray := prog_1_method_21_code
def yX5_isFrame : MethodName := ⟨RX5, "isFrame", "(I)Z"⟩
abbrev cX5_isWord : ByteArray := prog_1_method_22_code
def yX5_isWord : MethodName := ⟨RX5, "isWord", "(I)Z"⟩
abbrev cX5_isBlock : ByteArray := prog_1_method_23_code
def yX5_isBlock : MethodName := ⟨RX5, "isBlock", "(I)Z"⟩
abbrev cX5_areDataRights : ByteArray := prog_1_method_24_code
def yX5_areDataRights : MethodName := ⟨RX5, "areDataRights", "(I)Z"⟩
abbrev cX5_stateOf : ByteArray := prog_1_method_25_code
def yX5_stateOf : MethodName := ⟨RX5, "stateOf", "(LPageMonitor$Page;)I"⟩
abbrev cX5_homeOf : ByteArray := prog_1_method_26_code
def yX5_homeOf : MethodName := ⟨RX5, "homeOf", "(LPageMonitor$Page;)LPageMonitor$Page;"⟩
abbrev cX5_refusalOfSpace : ByteArray := prog_1_method_27_code
def yX5_refusalOfSpace : MethodName := ⟨RX5, "refusalOfSpace", "(II)I"⟩
abbrev cX5_refusalOfNew : ByteArray := prog_1_method_28_code
def yX5_refusalOfNew : MethodName := ⟨RX5, "refusalOfNew", "(III)I"⟩
abbrev cX5_refusalOfRun : ByteArray := prog_1_method_29_code
def yX5_refusalOfRun : MethodName := ⟨RX5, "refusalOfRun", "(IIZ)I"⟩
def RX6 : String := "PageMonitorModel"
def TX6 : u_T := fun k => match k with
  | 0 => ("PageMonitorModel", "thrown", "I", false)
  | 1 => ("PageMonitorModel", "key", "[I", true)
  | 2 => ("PageMonitorModel", "frames", "[I", true)
  | 3 => ("PageMonitorModel", "kinds", "[I", true)
  | 4 => ("PageMonitorModel", "owners", "[I", true)
  | 5 => ("PageMonitorModel", "states", "[I", true)
  | 6 => ("PageMonitorModel", "contents", "[I", true)
  | 7 => ("PageMonitorModel", "entries", "[I", true)
  | 8 => ("PageMonitorModel", "rights", "[I", true)
  | 9 => ("PageMonitorModel", "tables", "[I", true)
  | 10 => ("PageMonitorModel", "logs", "[I", true)
  | 11 => ("PageMonitorModel", "logged", "[I", true)
  | 12 => ("PageMonitorModel", "measures", "[I", true)
  | 13 => ("PageMonitorModel", "measured", "[Z", true)
  | 14 => ("PageMonitorModel", "starts", "[I", true)
  | 15 => ("PageMonitorModel", "entered", "[Z", true)
  | 16 => ("PageMonitorModel", "kept", "[I", true)
  | 17 => ("PageMonitorModel", "result", "I", false)
  | 18 => ("PageMonitorModel", "steps", "I", false)
  | 19 => ("PageMonitorModel", "least", "I", false)
  | 20 => ("PageMonitorModel", "running", "I", false)
  | 21 => ("PageMonitorModel", "own", "I", false)
  | 22 => ("PageMonitorModel", "\x72", "[I", true)
  | 23 => ("PageMonitorModel", "at", "I", false)
  | 24 => ("PageMonitorModel", "fault", "I", false)
  | 25 => ("PageMonitorModel", "constants", "[I", true)
  | 26 => ("PageMonitorModel", "begins", "[I", true)
  | 27 => ("PageMonitorModel", "message", "[I", true)
  | 28 => ("PageMonitorModel", "w", "[I", true)
  | 29 => ("PageMonitorModel", "digest", "[I", true)
  | 30 => ("PageMonitorModel", "v", "[I", true)
  | _ => ("PageMonitorModel", "told", "[I", true)
def tyX6 : Nat → FieldType := fun k => match k with
  | 0 => .int
  | 1 => .array .int
  | 2 => .array .int
  | 3 => .array .int
  | 4 => .array .int
  | 5 => .array .int
  | 6 => .array .int
  | 7 => .array .int
  | 8 => .array .int
  | 9 => .array .int
  | 10 => .array .int
  | 11 => .array .int
  | 12 => .array .int
  | 13 => .array .boolean
  | 14 => .array .int
  | 15 => .array .boolean
  | 16 => .array .int
  | 17 => .int
  | 18 => .int
  | 19 => .int
  | 20 => .int
  | 21 => .int
  | 22 => .array .int
  | 23 => .int
  | 24 => .int
  | 25 => .array .int
  | 26 => .array .int
  | 27 => .array .int
  | 28 => .array .int
  | 29 => .array .int
  | 30 => .array .int
  | _ => .array .int
abbrev wsX60 : List Cond := u_ws RX6 TX6 32
theorem nmX6 : ∀ a, a < 32 → ∀ b, b < 32 → a ≠ b → (TX6 a).2.1 ≠ (TX6 b).2.1 := by decide +kernel
theorem tyX6_ok : ∀ k, k < 32 → parseFieldDescriptor (TX6 k).2.2.1 = some (tyX6 k) := by decide +kernel
abbrev cX6_init : ByteArray := prog_8_method_1_code
def yX6_init : MethodName := ⟨RX6, "<init>", "()V"⟩
abbrev cX6_thrown : ByteArray := prog_8_method_2_code
def yX6_thrown : MethodName := ⟨RX6, "thrown", "()I"⟩
abbrev cX6_free : ByteArray := prog_8_method_3_code
def yX6_free : MethodName := ⟨RX6, "free", "()V"⟩
abbrev cX6_turned : ByteArray := prog_8_method_4_code
def yX6_turned : MethodName := ⟨RX6, "turned", "(II)I"⟩
abbrev cX6_block : ByteArray := prog_8_method_5_code
def yX6_block : MethodName := ⟨RX6, "block", "(I)V"⟩
abbrev cX6_hash : ByteArray := prog_8_method_6_code
def yX6_hash : MethodName := ⟨RX6, "hash", "(I)V"⟩
abbrev cX6_voucher : ByteArray := prog_8_method_7_code
def yX6_voucher : MethodName := ⟨RX6, "voucher", "([II)V"⟩
abbrev cX6_key : ByteArray := prog_8_method_8_code
def yX6_key : MethodName := ⟨RX6, "key", "(II)V"⟩
abbrev cX6_noFrame : ByteArray := prog_8_method_9_code
def yX6_noFrame : MethodName := ⟨RX6, "noFrame", "(I)Z"⟩
abbrev cX6_poke : ByteArray := prog_8_method_10_code
def yX6_poke : MethodName := ⟨RX6, "poke", "(III)I"⟩
abbrev cX6_peek : ByteArray := prog_8_method_11_code
def yX6_peek : MethodName := ⟨RX6, "peek", "(II)I"⟩
abbrev cX6_noPage : ByteArray := prog_8_method_12_code
def yX6_noPage : MethodName := ⟨RX6, "noPage", "(I)Z"⟩
abbrev cX6_begin : ByteArray := prog_8_method_13_code
def yX6_begin : MethodName := ⟨RX6, "begin", "()V"⟩
abbrev cX6_wrong : ByteArray := prog_8_method_14_code
def yX6_wrong : MethodName := ⟨RX6, "wrong", "(ZI)V"⟩
abbrev cX6_isKind : ByteArray := prog_8_method_15_code
def yX6_isKind : MethodName := ⟨RX6, "isKind", "(II)Z"⟩
abbrev cX6_wantFree : ByteArray := prog_8_method_16_code
def yX6_wantFree : MethodName := ⟨RX6, "wantFree", "(I)V"⟩
abbrev cX6_wantSpace : ByteArray := prog_8_method_17_code
def yX6_wantSpace : MethodName := ⟨RX6, "wantSpace", "(II)V"⟩
abbrev cX6_tableOf : ByteArray := prog_8_method_18_code
def yX6_tableOf : MethodName := ⟨RX6, "tableOf", "(II)I"⟩
abbrev cX6_entryOf : ByteArray := prog_8_method_19_code
def yX6_entryOf : MethodName := ⟨RX6, "entryOf", "(II)I"⟩
abbrev cX6_isTaken : ByteArray := prog_8_method_20_code
def yX6_isTaken : MethodName := ⟨RX6, "isTaken", "(II)Z"⟩
abbrev cX6_noBlock : ByteArray := prog_8_method_21_code
def yX6_noBlock : MethodName := ⟨RX6, "noBlock", "(I)Z"⟩
abbrev cX6_become : ByteArray := prog_8_method_22_code
def yX6_become : MethodName := ⟨RX6, "become", "(III)V"⟩
abbrev cX6_tell : ByteArray := prog_8_method_23_code
def yX6_tell : MethodName := ⟨RX6, "tell", "(IIII)V"⟩
abbrev cX6_space : ByteArray := prog_8_method_24_code
def yX6_space : MethodName := ⟨RX6, "space", "(I)I"⟩
abbrev cX6_thread : ByteArray := prog_8_method_25_code
def yX6_thread : MethodName := ⟨RX6, "thread", "(III)I"⟩
abbrev cX6_table : ByteArray := prog_8_method_26_code
def yX6_table : MethodName := ⟨RX6, "table", "(III)I"⟩
abbrev cX6_data : ByteArray := prog_8_method_27_code
def yX6_data : MethodName := ⟨RX6, "data", "(IIIII)I"⟩
abbrev cX6_share : ByteArray := prog_8_method_28_code
def yX6_share : MethodName := ⟨RX6, "share", "(IIII)I"⟩
abbrev cX6_spare : ByteArray := prog_8_method_29_code
def yX6_spare : MethodName := ⟨RX6, "spare", "(II)I"⟩
abbrev cX6_finish : ByteArray := prog_8_method_30_code
def yX6_finish : MethodName := ⟨RX6, "finish", "(I)I"⟩
abbrev cX6_stop : ByteArray := prog_8_method_31_code
def yX6_stop : MethodName := ⟨RX6, "stop", "(I)I"⟩
abbrev cX6_belonging : ByteArray := prog_8_method_32_code
def yX6_belonging : MethodName := ⟨RX6, "belonging", "(I)I"⟩
abbrev cX6_remove : ByteArray := prog_8_method_33_code
def yX6_remove : MethodName := ⟨RX6, "remove", "(I)I"⟩
abbrev cX6_lies : ByteArray := prog_8_method_34_code
def yX6_lies : MethodName := ⟨RX6, "lies", "(II)I"⟩
abbrev cX6_load : ByteArray := prog_8_method_35_code
def yX6_load : MethodName := ⟨RX6, "load", "(I)I"⟩
abbrev cX6_store : ByteArray := prog_8_method_36_code
def yX6_store : MethodName := ⟨RX6, "store", "(II)V"⟩
abbrev cX6_vouch : ByteArray := prog_8_method_37_code
def yX6_vouch : MethodName := ⟨RX6, "vouch", "(II)V"⟩
abbrev cX6_verified : ByteArray := prog_8_method_38_code
def yX6_verified : MethodName := ⟨RX6, "verified", "(I)I"⟩
abbrev cX6_takeIn : ByteArray := prog_8_method_39_code
def yX6_takeIn : MethodName := ⟨RX6, "takeIn", "(III)I"⟩
abbrev cX6_giveBack : ByteArray := prog_8_method_40_code
def yX6_giveBack : MethodName := ⟨RX6, "giveBack", "(I)I"⟩
abbrev cX6_put : ByteArray := prog_8_method_41_code
def yX6_put : MethodName := ⟨RX6, "put", "(II)V"⟩
abbrev cX6_one : ByteArray := prog_8_method_42_code
def yX6_one : MethodName := ⟨RX6, "one", "()Z"⟩
abbrev cX6_run : ByteArray := prog_8_method_43_code
def yX6_run : MethodName := ⟨RX6, "run", "(I)I"⟩
abbrev cX6_wantThread : ByteArray := prog_8_method_44_code
def yX6_wantThread : MethodName := ⟨RX6, "wantThread", "(IIZ)V"⟩
abbrev cX6_enter : ByteArray := prog_8_method_45_code
def yX6_enter : MethodName := ⟨RX6, "enter", "(IIII)I"⟩
abbrev cX6_resume : ByteArray := prog_8_method_46_code
def yX6_resume : MethodName := ⟨RX6, "resume", "(II)I"⟩
abbrev cX6_result : ByteArray := prog_8_method_47_code
def yX6_result : MethodName := ⟨RX6, "result", "()I"⟩
abbrev cX6_steps : ByteArray := prog_8_method_48_code
def yX6_steps : MethodName := ⟨RX6, "steps", "()I"⟩
abbrev cX6_told : ByteArray := prog_8_method_49_code
def yX6_told : MethodName := ⟨RX6, "told", "(II)I"⟩
abbrev cX6_measure : ByteArray := prog_8_method_50_code
def yX6_measure : MethodName := ⟨RX6, "measure", "(II)I"⟩
def RJ10 : String := "java/lang/System"
def TJ10 : u_T := fun k => match k with
  | _ => ("", "", "", false)
def tyJ10 : Nat → FieldType := fun k => match k with
  | _ => .int
abbrev wsJ100 : List Cond := u_ws RJ10 TJ10 0
theorem nmJ10 : ∀ a, a < 0 → ∀ b, b < 0 → a ≠ b → (TJ10 a).2.1 ≠ (TJ10 b).2.1 := by decide +kernel
theorem tyJ10_ok : ∀ k, k < 0 → parseFieldDescriptor (TJ10 k).2.2.1 = some (tyJ10 k) := by decide +kernel
def RJ7 : String := "java/util/Arrays"
def TJ7 : u_T := fun k => match k with
  | _ => ("", "", "", false)
def tyJ7 : Nat → FieldType := fun k => match k with
  | _ => .int
abbrev wsJ70 : List Cond := u_ws RJ7 TJ7 0
theorem nmJ7 : ∀ a, a < 0 → ∀ b, b < 0 → a ≠ b → (TJ7 a).2.1 ≠ (TJ7 b).2.1 := by decide +kernel
theorem tyJ7_ok : ∀ k, k < 0 → parseFieldDescriptor (TJ7 k).2.2.1 = some (tyJ7 k) := by decide +kernel
abbrev cJ7_fill_53178 : ByteArray := prog_16_method_103_code
def yJ7_fill_53178 : MethodName := ⟨RJ7, "fill", "([II)V"⟩
def RL : String := "PageMonitorLaw"
abbrev cL_key : ByteArray := method_3_code
def yL_key : MethodName := ⟨RL, "key", "(LPageMonitor;II)I"⟩
abbrev cL_poke : ByteArray := method_4_code
def yL_poke : MethodName := ⟨RL, "poke", "(LPageMonitor;III[J)I"⟩
abbrev cL_peek : ByteArray := method_5_code
def yL_peek : MethodName := ⟨RL, "peek", "(LPageMonitor;II[J)I"⟩
abbrev cL_told : ByteArray := method_6_code
def yL_told : MethodName := ⟨RL, "told", "(LPageMonitor;II[J)I"⟩
abbrev cL_measure : ByteArray := method_7_code
def yL_measure : MethodName := ⟨RL, "measure", "(LPageMonitor;II[J)I"⟩
abbrev cL_law : ByteArray := code
def yL_law : MethodName := ⟨RL, "law", "([I)Z"⟩
def wsX0_init : List Cond := .code yX0_init cX0_init 1 none :: ([.methodLink RX0 3 objectInit, .instanceMethod objectInit, .code objectInit ⟨#[0xb1]⟩ 1 none, .arrayClass .int, .fieldLink RX0 11 "PageMonitor$Hasher" "schedule" "[I", .fieldLink RX0 15 "PageMonitor$Hasher" "padding" "[I"] ++ wsX00)
def wsX0_begin : List Cond := .code yX0_begin cX0_begin 2 none :: ([.fieldLink RX0 18 "PageMonitor$Hasher" "START" "[I", .methodLink RX0 21 arraycopyName, .native arraycopyName, .static arraycopyName, .initialized "java/lang/System"])
def wsX0_spread : List Cond := .code yX0_spread cX0_spread 7 none :: ([.fieldLink RX0 11 "PageMonitor$Hasher" "schedule" "[I", .methodLink RX0 21 arraycopyName, .native arraycopyName, .static arraycopyName, .initialized "java/lang/System"] ++ wsX00)
def wsX0_take : List Cond := .code yX0_take cX0_take 16 none :: ([.fieldLink RX0 31 "PageMonitor$Hasher" "ADDED" "[I", .fieldLink RX0 11 "PageMonitor$Hasher" "schedule" "[I", .methodLink RX0 27 yX0_spread, .instanceMethod yX0_spread, .selects RX0 yX0_spread yX0_spread, .initialized RX0, .code yX0_spread cX0_spread 7 none, .methodLink RX0 21 arraycopyName, .native arraycopyName, .static arraycopyName, .initialized "java/lang/System"] ++ wsX00)
def wsX0_endAfter : List Cond := .code yX0_endAfter cX0_endAfter 2 (some (.array .int)) :: ([.fieldLink RX0 15 "PageMonitor$Hasher" "padding" "[I", .constant RX0 34 (-2147483648)] ++ wsX00)
def wsX3_init : List Cond := .code yX3_init cX3_init 1 none :: ([.methodLink RX3 3 objectInit, .instanceMethod objectInit, .code objectInit ⟨#[0xb1]⟩ 1 none, .fieldLink RX3 9 "PageMonitor$Page" "kind" "I", .fieldLink RX3 15 "PageMonitor$Page" "owner" "I", .fieldLink RX3 18 "PageMonitor$Page" "state" "I", .fieldLink RX3 21 "PageMonitor$Page" "sealed" "Z", .fieldLink RX3 25 "PageMonitor$Page" "blocksTold" "I", .arrayClass .int, .fieldLink RX3 28 "PageMonitor$Page" "tables" "[I", .fieldLink RX3 32 "PageMonitor$Page" "digest" "[I", .fieldLink RX3 35 "PageMonitor$Page" "entry" "I", .fieldLink RX3 38 "PageMonitor$Page" "entered" "Z", .fieldLink RX3 41 "PageMonitor$Page" "place" "I", .fieldLink RX3 44 "PageMonitor$Page" "registers" "[I", .fieldLink RX3 47 "PageMonitor$Page" "entries" "[I"] ++ wsX30)
def wsX4_init_r1 : List Cond := [Cond.methodLink RX4 3 objectInit, Cond.instanceMethod objectInit, Cond.code objectInit ⟨#[0xb1]⟩ 1 none, Cond.classLink RX4 9 RX3, Cond.fieldLink RX4 11 "PageMonitor$Store" "pages" "[LPageMonitor$Page;", Cond.classLink RX4 17 "[[I", Cond.arrayClass .int, Cond.fieldLink RX4 19 "PageMonitor$Store" "rows" "[[I", Cond.instantiable RX3 12, Cond.initialized RX3, Cond.instanceMethod yX3_init, Cond.code yX3_init cX3_init 1 none, Cond.methodLink RX3 3 objectInit, Cond.fieldLink RX3 9 "PageMonitor$Page" "kind" "I", Cond.fieldLink RX3 15 "PageMonitor$Page" "owner" "I", Cond.fieldLink RX3 18 "PageMonitor$Page" "state" "I", Cond.fieldLink RX3 21 "PageMonitor$Page" "sealed" "Z", Cond.fieldLink RX3 25 "PageMonitor$Page" "blocksTold" "I", Cond.fieldLink RX3 28 "PageMonitor$Page" "tables" "[I", Cond.fieldLink RX3 32 "PageMonitor$Page" "digest" "[I", Cond.fieldLink RX3 35 "PageMonitor$Page" "entry" "I", Cond.fieldLink RX3 38 "PageMonitor$Page" "entered" "Z", Cond.fieldLink RX3 41 "PageMonitor$Page" "place" "I", Cond.fieldLink RX3 44 "PageMonitor$Page" "registers" "[I"]
def wsX4_init_r2 : List Cond := [Cond.fieldLink RX3 47 "PageMonitor$Page" "entries" "[I"]
def wsX4_init : List Cond := .code yX4_init cX4_init 2 none :: ((wsX4_init_r1 ++ wsX4_init_r2) ++ wsX40 ++ wsX30)
def wsX2_init : List Cond := .code yX2_init cX2_init 1 none :: ([.methodLink RX2 3 objectInit, .instanceMethod objectInit, .code objectInit ⟨#[0xb1]⟩ 1 none, .arrayClass .int, .fieldLink RX2 9 "PageMonitor$Notary" "secret" "[I", .classLink RX2 15 RX0, .instantiable RX0 2, .initialized RX0, .fieldLink RX2 18 "PageMonitor$Notary" "hasher" "LPageMonitor$Hasher;", .fieldLink RX2 22 "PageMonitor$Notary" "block" "[I", .instanceMethod yX0_init, .code yX0_init cX0_init 1 none, .methodLink RX0 3 objectInit, .fieldLink RX0 11 "PageMonitor$Hasher" "schedule" "[I", .fieldLink RX0 15 "PageMonitor$Hasher" "padding" "[I"] ++ wsX20 ++ wsX00)
def wsX1_init_r1 : List Cond := [Cond.methodLink RX1 3 objectInit, Cond.instanceMethod objectInit, Cond.code objectInit ⟨#[0xb1]⟩ 1 none, Cond.classLink RX1 9 RX4, Cond.instantiable RX4 2, Cond.initialized RX4, Cond.fieldLink RX1 12 "PageMonitor$Machine" "store" "LPageMonitor$Store;", Cond.classLink RX1 18 RX2, Cond.instantiable RX2 3, Cond.initialized RX2, Cond.fieldLink RX1 21 "PageMonitor$Machine" "notary" "LPageMonitor$Notary;", Cond.fieldLink RX1 25 "PageMonitor$Machine" "lastResult" "I", Cond.fieldLink RX1 29 "PageMonitor$Machine" "lastSteps" "I", Cond.arrayClass .int, Cond.fieldLink RX1 32 "PageMonitor$Machine" "said" "[I", Cond.fieldLink RX1 36 "PageMonitor$Machine" "claimedMeasure" "[I", Cond.fieldLink RX1 39 "PageMonitor$Machine" "claimedVoucher" "[I", Cond.fieldLink RX1 42 "PageMonitor$Machine" "voucher" "[I", Cond.methodLink RX1 11 yX4_init, Cond.instanceMethod yX4_init, Cond.code yX4_init cX4_init 2 none, Cond.methodLink RX4 3 objectInit, Cond.classLink RX4 9 RX3, Cond.fieldLink RX4 11 "PageMonitor$Store" "pages" "[LPageMonitor$Page;"]
def wsX1_init_r2 : List Cond := [Cond.classLink RX4 17 "[[I", Cond.fieldLink RX4 19 "PageMonitor$Store" "rows" "[[I", Cond.instantiable RX3 12, Cond.initialized RX3, Cond.instanceMethod yX3_init, Cond.code yX3_init cX3_init 1 none, Cond.methodLink RX3 3 objectInit, Cond.fieldLink RX3 9 "PageMonitor$Page" "kind" "I", Cond.fieldLink RX3 15 "PageMonitor$Page" "owner" "I", Cond.fieldLink RX3 18 "PageMonitor$Page" "state" "I", Cond.fieldLink RX3 21 "PageMonitor$Page" "sealed" "Z", Cond.fieldLink RX3 25 "PageMonitor$Page" "blocksTold" "I", Cond.fieldLink RX3 28 "PageMonitor$Page" "tables" "[I", Cond.fieldLink RX3 32 "PageMonitor$Page" "digest" "[I", Cond.fieldLink RX3 35 "PageMonitor$Page" "entry" "I", Cond.fieldLink RX3 38 "PageMonitor$Page" "entered" "Z", Cond.fieldLink RX3 41 "PageMonitor$Page" "place" "I", Cond.fieldLink RX3 44 "PageMonitor$Page" "registers" "[I", Cond.fieldLink RX3 47 "PageMonitor$Page" "entries" "[I", Cond.instanceMethod yX2_init, Cond.code yX2_init cX2_init 1 none, Cond.methodLink RX2 3 objectInit, Cond.fieldLink RX2 9 "PageMonitor$Notary" "secret" "[I", Cond.classLink RX2 15 RX0]
def wsX1_init_r3 : List Cond := [Cond.instantiable RX0 2, Cond.initialized RX0, Cond.fieldLink RX2 18 "PageMonitor$Notary" "hasher" "LPageMonitor$Hasher;", Cond.fieldLink RX2 22 "PageMonitor$Notary" "block" "[I", Cond.instanceMethod yX0_init, Cond.code yX0_init cX0_init 1 none, Cond.methodLink RX0 3 objectInit, Cond.fieldLink RX0 11 "PageMonitor$Hasher" "schedule" "[I", Cond.fieldLink RX0 15 "PageMonitor$Hasher" "padding" "[I"]
def wsX1_init : List Cond := .code yX1_init cX1_init 1 none :: ((wsX1_init_r1 ++ (wsX1_init_r2 ++ wsX1_init_r3)) ++ wsX40 ++ wsX10 ++ wsX20 ++ wsX30 ++ wsX00)
def wsX5_isBlock : List Cond := .code yX5_isBlock cX5_isBlock 1 (some .boolean) :: ([])
def wsX4_entriesFor : List Cond := .code yX4_entriesFor cX4_entriesFor 4 (some (.array .int)) :: ([.fieldLink RX4 34 "PageMonitor$Page" "tables" "[I", .fieldLink RX4 11 "PageMonitor$Store" "pages" "[LPageMonitor$Page;", .fieldLink RX4 38 "PageMonitor$Page" "entries" "[I", .static yX5_isBlock, .initialized RX5, .code yX5_isBlock cX5_isBlock 1 (some .boolean)] ++ wsX30 ++ wsX40)
def wsX4_rowAt : List Cond := .code yX4_rowAt cX4_rowAt 7 (some (.array .int)) :: ([.fieldLink RX4 19 "PageMonitor$Store" "rows" "[[I", .methodLink RX4 41 yX4_entriesFor, .instanceMethod yX4_entriesFor, .selects RX4 yX4_entriesFor yX4_entriesFor, .initialized RX4, .code yX4_entriesFor cX4_entriesFor 4 (some (.array .int)), .fieldLink RX4 34 "PageMonitor$Page" "tables" "[I", .fieldLink RX4 11 "PageMonitor$Store" "pages" "[LPageMonitor$Page;", .fieldLink RX4 38 "PageMonitor$Page" "entries" "[I", .static yX5_isBlock, .initialized RX5, .code yX5_isBlock cX5_isBlock 1 (some .boolean)] ++ wsX40 ++ wsX30)
def wsX1_load : List Cond := .code yX1_load cX1_load 6 (some .int) :: ([.fieldLink RX1 12 "PageMonitor$Machine" "store" "LPageMonitor$Store;", .methodLink RX1 57 yX4_rowAt, .instanceMethod yX4_rowAt, .selects RX4 yX4_rowAt yX4_rowAt, .initialized RX4, .code yX4_rowAt cX4_rowAt 7 (some (.array .int)), .fieldLink RX4 19 "PageMonitor$Store" "rows" "[[I", .methodLink RX4 41 yX4_entriesFor, .instanceMethod yX4_entriesFor, .selects RX4 yX4_entriesFor yX4_entriesFor, .code yX4_entriesFor cX4_entriesFor 4 (some (.array .int)), .fieldLink RX4 34 "PageMonitor$Page" "tables" "[I", .fieldLink RX4 11 "PageMonitor$Store" "pages" "[LPageMonitor$Page;", .fieldLink RX4 38 "PageMonitor$Page" "entries" "[I", .static yX5_isBlock, .initialized RX5, .code yX5_isBlock cX5_isBlock 1 (some .boolean)] ++ wsX10 ++ wsX40 ++ wsX30)
def wsX1_save : List Cond := .code yX1_save cX1_save 5 (some .int) :: ([.fieldLink RX1 12 "PageMonitor$Machine" "store" "LPageMonitor$Store;", .methodLink RX1 57 yX4_rowAt, .instanceMethod yX4_rowAt, .selects RX4 yX4_rowAt yX4_rowAt, .initialized RX4, .code yX4_rowAt cX4_rowAt 7 (some (.array .int)), .fieldLink RX4 19 "PageMonitor$Store" "rows" "[[I", .methodLink RX4 41 yX4_entriesFor, .instanceMethod yX4_entriesFor, .selects RX4 yX4_entriesFor yX4_entriesFor, .code yX4_entriesFor cX4_entriesFor 4 (some (.array .int)), .fieldLink RX4 34 "PageMonitor$Page" "tables" "[I", .fieldLink RX4 11 "PageMonitor$Store" "pages" "[LPageMonitor$Page;", .fieldLink RX4 38 "PageMonitor$Page" "entries" "[I", .static yX5_isBlock, .initialized RX5, .code yX5_isBlock cX5_isBlock 1 (some .boolean)] ++ wsX10 ++ wsX40 ++ wsX30)
def wsX1_readEight : List Cond := .code yX1_readEight cX1_readEight 6 (some .boolean) :: ([.fieldLink RX1 12 "PageMonitor$Machine" "store" "LPageMonitor$Store;", .methodLink RX1 57 yX4_rowAt, .instanceMethod yX4_rowAt, .selects RX4 yX4_rowAt yX4_rowAt, .initialized RX4, .code yX4_rowAt cX4_rowAt 7 (some (.array .int)), .fieldLink RX4 19 "PageMonitor$Store" "rows" "[[I", .methodLink RX4 41 yX4_entriesFor, .instanceMethod yX4_entriesFor, .selects RX4 yX4_entriesFor yX4_entriesFor, .code yX4_entriesFor cX4_entriesFor 4 (some (.array .int)), .fieldLink RX4 34 "PageMonitor$Page" "tables" "[I", .fieldLink RX4 11 "PageMonitor$Store" "pages" "[LPageMonitor$Page;", .fieldLink RX4 38 "PageMonitor$Page" "entries" "[I", .static yX5_isBlock, .initialized RX5, .code yX5_isBlock cX5_isBlock 1 (some .boolean)] ++ wsX10 ++ wsX40 ++ wsX30)
def wsX1_mayWriteEight : List Cond := .code yX1_mayWriteEight cX1_mayWriteEight 4 (some .boolean) :: ([.fieldLink RX1 12 "PageMonitor$Machine" "store" "LPageMonitor$Store;", .methodLink RX1 57 yX4_rowAt, .instanceMethod yX4_rowAt, .selects RX4 yX4_rowAt yX4_rowAt, .initialized RX4, .code yX4_rowAt cX4_rowAt 7 (some (.array .int)), .fieldLink RX4 19 "PageMonitor$Store" "rows" "[[I", .methodLink RX4 41 yX4_entriesFor, .instanceMethod yX4_entriesFor, .selects RX4 yX4_entriesFor yX4_entriesFor, .code yX4_entriesFor cX4_entriesFor 4 (some (.array .int)), .fieldLink RX4 34 "PageMonitor$Page" "tables" "[I", .fieldLink RX4 11 "PageMonitor$Store" "pages" "[LPageMonitor$Page;", .fieldLink RX4 38 "PageMonitor$Page" "entries" "[I", .static yX5_isBlock, .initialized RX5, .code yX5_isBlock cX5_isBlock 1 (some .boolean)] ++ wsX10 ++ wsX40 ++ wsX30)
def wsJ7_fill_53178 : List Cond := .code yJ7_fill_53178 cJ7_fill_53178 4 none :: ([])
def wsX2_writeVoucher_r1 : List Cond := [Cond.fieldLink RX2 18 "PageMonitor$Notary" "hasher" "LPageMonitor$Hasher;", Cond.fieldLink RX2 9 "PageMonitor$Notary" "secret" "[I", Cond.fieldLink RX2 22 "PageMonitor$Notary" "block" "[I", Cond.methodLink RX2 64 arraycopyName, Cond.native arraycopyName, Cond.static arraycopyName, Cond.initialized "java/lang/System", Cond.methodLink RX2 38 yX0_begin, Cond.instanceMethod yX0_begin, Cond.selects RX0 yX0_begin yX0_begin, Cond.initialized RX0, Cond.code yX0_begin cX0_begin 2 none, Cond.fieldLink RX0 18 "PageMonitor$Hasher" "START" "[I", Cond.methodLink RX0 21 arraycopyName, Cond.methodLink RX2 52 yX0_take, Cond.instanceMethod yX0_take, Cond.selects RX0 yX0_take yX0_take, Cond.code yX0_take cX0_take 16 none, Cond.fieldLink RX0 31 "PageMonitor$Hasher" "ADDED" "[I", Cond.fieldLink RX0 11 "PageMonitor$Hasher" "schedule" "[I", Cond.methodLink RX0 27 yX0_spread, Cond.instanceMethod yX0_spread, Cond.selects RX0 yX0_spread yX0_spread, Cond.code yX0_spread cX0_spread 7 none]
def wsX2_writeVoucher_r2 : List Cond := [Cond.methodLink RX2 42 yJ7_fill_53178, Cond.static yJ7_fill_53178, Cond.initialized RJ7, Cond.code yJ7_fill_53178 cJ7_fill_53178 4 none, Cond.methodLink RX2 60 yX0_endAfter, Cond.instanceMethod yX0_endAfter, Cond.selects RX0 yX0_endAfter yX0_endAfter, Cond.code yX0_endAfter cX0_endAfter 2 (some (.array .int)), Cond.fieldLink RX0 15 "PageMonitor$Hasher" "padding" "[I", Cond.constant RX0 34 (-2147483648)]
def wsX2_writeVoucher : List Cond := .code yX2_writeVoucher cX2_writeVoucher 4 none :: ((wsX2_writeVoucher_r1 ++ wsX2_writeVoucher_r2) ++ wsX20 ++ wsX00)
def wsX1_vouch_r1 : List Cond := [Cond.fieldLink RX1 32 "PageMonitor$Machine" "said" "[I", Cond.fieldLink RX1 21 "PageMonitor$Machine" "notary" "LPageMonitor$Notary;", Cond.fieldLink RX1 86 "PageMonitor$Page" "digest" "[I", Cond.fieldLink RX1 42 "PageMonitor$Machine" "voucher" "[I", Cond.methodLink RX1 97 yX1_readEight, Cond.instanceMethod yX1_readEight, Cond.selects RX1 yX1_readEight yX1_readEight, Cond.initialized RX1, Cond.code yX1_readEight cX1_readEight 6 (some .boolean), Cond.fieldLink RX1 12 "PageMonitor$Machine" "store" "LPageMonitor$Store;", Cond.methodLink RX1 57 yX4_rowAt, Cond.instanceMethod yX4_rowAt, Cond.selects RX4 yX4_rowAt yX4_rowAt, Cond.initialized RX4, Cond.code yX4_rowAt cX4_rowAt 7 (some (.array .int)), Cond.fieldLink RX4 19 "PageMonitor$Store" "rows" "[[I", Cond.methodLink RX4 41 yX4_entriesFor, Cond.instanceMethod yX4_entriesFor, Cond.selects RX4 yX4_entriesFor yX4_entriesFor, Cond.code yX4_entriesFor cX4_entriesFor 4 (some (.array .int)), Cond.fieldLink RX4 34 "PageMonitor$Page" "tables" "[I", Cond.fieldLink RX4 11 "PageMonitor$Store" "pages" "[LPageMonitor$Page;", Cond.fieldLink RX4 38 "PageMonitor$Page" "entries" "[I", Cond.static yX5_isBlock]
def wsX1_vouch_r2 : List Cond := [Cond.initialized RX5, Cond.code yX5_isBlock cX5_isBlock 1 (some .boolean), Cond.methodLink RX1 101 yX1_mayWriteEight, Cond.instanceMethod yX1_mayWriteEight, Cond.selects RX1 yX1_mayWriteEight yX1_mayWriteEight, Cond.code yX1_mayWriteEight cX1_mayWriteEight 4 (some .boolean), Cond.methodLink RX1 105 yX2_writeVoucher, Cond.instanceMethod yX2_writeVoucher, Cond.selects RX2 yX2_writeVoucher yX2_writeVoucher, Cond.initialized RX2, Cond.code yX2_writeVoucher cX2_writeVoucher 4 none, Cond.fieldLink RX2 18 "PageMonitor$Notary" "hasher" "LPageMonitor$Hasher;", Cond.fieldLink RX2 9 "PageMonitor$Notary" "secret" "[I", Cond.fieldLink RX2 22 "PageMonitor$Notary" "block" "[I", Cond.methodLink RX2 64 arraycopyName, Cond.native arraycopyName, Cond.static arraycopyName, Cond.initialized "java/lang/System", Cond.methodLink RX2 38 yX0_begin, Cond.instanceMethod yX0_begin, Cond.selects RX0 yX0_begin yX0_begin, Cond.initialized RX0, Cond.code yX0_begin cX0_begin 2 none, Cond.fieldLink RX0 18 "PageMonitor$Hasher" "START" "[I"]
def wsX1_vouch_r3 : List Cond := [Cond.methodLink RX0 21 arraycopyName, Cond.methodLink RX2 52 yX0_take, Cond.instanceMethod yX0_take, Cond.selects RX0 yX0_take yX0_take, Cond.code yX0_take cX0_take 16 none, Cond.fieldLink RX0 31 "PageMonitor$Hasher" "ADDED" "[I", Cond.fieldLink RX0 11 "PageMonitor$Hasher" "schedule" "[I", Cond.methodLink RX0 27 yX0_spread, Cond.instanceMethod yX0_spread, Cond.selects RX0 yX0_spread yX0_spread, Cond.code yX0_spread cX0_spread 7 none, Cond.methodLink RX2 42 yJ7_fill_53178, Cond.static yJ7_fill_53178, Cond.initialized RJ7, Cond.code yJ7_fill_53178 cJ7_fill_53178 4 none, Cond.methodLink RX2 60 yX0_endAfter, Cond.instanceMethod yX0_endAfter, Cond.selects RX0 yX0_endAfter yX0_endAfter, Cond.code yX0_endAfter cX0_endAfter 2 (some (.array .int)), Cond.fieldLink RX0 15 "PageMonitor$Hasher" "padding" "[I", Cond.constant RX0 34 (-2147483648), Cond.methodLink RX1 76 yX1_save, Cond.instanceMethod yX1_save, Cond.selects RX1 yX1_save yX1_save]
def wsX1_vouch_r4 : List Cond := [Cond.code yX1_save cX1_save 5 (some .int)]
def wsX1_vouch : List Cond := .code yX1_vouch cX1_vouch 5 (some .int) :: ((wsX1_vouch_r1 ++ (wsX1_vouch_r2 ++ (wsX1_vouch_r3 ++ wsX1_vouch_r4))) ++ wsX10 ++ wsX30 ++ wsX40 ++ wsX20 ++ wsX00)
def wsX1_compare_r1 : List Cond := [Cond.fieldLink RX1 36 "PageMonitor$Machine" "claimedMeasure" "[I", Cond.fieldLink RX1 32 "PageMonitor$Machine" "said" "[I", Cond.fieldLink RX1 39 "PageMonitor$Machine" "claimedVoucher" "[I", Cond.fieldLink RX1 21 "PageMonitor$Machine" "notary" "LPageMonitor$Notary;", Cond.fieldLink RX1 42 "PageMonitor$Machine" "voucher" "[I", Cond.methodLink RX1 97 yX1_readEight, Cond.instanceMethod yX1_readEight, Cond.selects RX1 yX1_readEight yX1_readEight, Cond.initialized RX1, Cond.code yX1_readEight cX1_readEight 6 (some .boolean), Cond.fieldLink RX1 12 "PageMonitor$Machine" "store" "LPageMonitor$Store;", Cond.methodLink RX1 57 yX4_rowAt, Cond.instanceMethod yX4_rowAt, Cond.selects RX4 yX4_rowAt yX4_rowAt, Cond.initialized RX4, Cond.code yX4_rowAt cX4_rowAt 7 (some (.array .int)), Cond.fieldLink RX4 19 "PageMonitor$Store" "rows" "[[I", Cond.methodLink RX4 41 yX4_entriesFor, Cond.instanceMethod yX4_entriesFor, Cond.selects RX4 yX4_entriesFor yX4_entriesFor, Cond.code yX4_entriesFor cX4_entriesFor 4 (some (.array .int)), Cond.fieldLink RX4 34 "PageMonitor$Page" "tables" "[I", Cond.fieldLink RX4 11 "PageMonitor$Store" "pages" "[LPageMonitor$Page;", Cond.fieldLink RX4 38 "PageMonitor$Page" "entries" "[I"]
def wsX1_compare_r2 : List Cond := [Cond.static yX5_isBlock, Cond.initialized RX5, Cond.code yX5_isBlock cX5_isBlock 1 (some .boolean), Cond.methodLink RX1 105 yX2_writeVoucher, Cond.instanceMethod yX2_writeVoucher, Cond.selects RX2 yX2_writeVoucher yX2_writeVoucher, Cond.initialized RX2, Cond.code yX2_writeVoucher cX2_writeVoucher 4 none, Cond.fieldLink RX2 18 "PageMonitor$Notary" "hasher" "LPageMonitor$Hasher;", Cond.fieldLink RX2 9 "PageMonitor$Notary" "secret" "[I", Cond.fieldLink RX2 22 "PageMonitor$Notary" "block" "[I", Cond.methodLink RX2 64 arraycopyName, Cond.native arraycopyName, Cond.static arraycopyName, Cond.initialized "java/lang/System", Cond.methodLink RX2 38 yX0_begin, Cond.instanceMethod yX0_begin, Cond.selects RX0 yX0_begin yX0_begin, Cond.initialized RX0, Cond.code yX0_begin cX0_begin 2 none, Cond.fieldLink RX0 18 "PageMonitor$Hasher" "START" "[I", Cond.methodLink RX0 21 arraycopyName, Cond.methodLink RX2 52 yX0_take, Cond.instanceMethod yX0_take]
def wsX1_compare_r3 : List Cond := [Cond.selects RX0 yX0_take yX0_take, Cond.code yX0_take cX0_take 16 none, Cond.fieldLink RX0 31 "PageMonitor$Hasher" "ADDED" "[I", Cond.fieldLink RX0 11 "PageMonitor$Hasher" "schedule" "[I", Cond.methodLink RX0 27 yX0_spread, Cond.instanceMethod yX0_spread, Cond.selects RX0 yX0_spread yX0_spread, Cond.code yX0_spread cX0_spread 7 none, Cond.methodLink RX2 42 yJ7_fill_53178, Cond.static yJ7_fill_53178, Cond.initialized RJ7, Cond.code yJ7_fill_53178 cJ7_fill_53178 4 none, Cond.methodLink RX2 60 yX0_endAfter, Cond.instanceMethod yX0_endAfter, Cond.selects RX0 yX0_endAfter yX0_endAfter, Cond.code yX0_endAfter cX0_endAfter 2 (some (.array .int)), Cond.fieldLink RX0 15 "PageMonitor$Hasher" "padding" "[I", Cond.constant RX0 34 (-2147483648)]
def wsX1_compare : List Cond := .code yX1_compare cX1_compare 6 (some .int) :: ((wsX1_compare_r1 ++ (wsX1_compare_r2 ++ wsX1_compare_r3)) ++ wsX10 ++ wsX40 ++ wsX30 ++ wsX20 ++ wsX00)
def wsX5_isPage : List Cond := .code yX5_isPage cX5_isPage 1 (some .boolean) :: ([])
def wsX5_areDataRights : List Cond := .code yX5_areDataRights cX5_areDataRights 1 (some .boolean) :: ([])
def wsX4_hasRoom : List Cond := .code yX4_hasRoom cX4_hasRoom 4 (some .boolean) :: ([.methodLink RX4 41 yX4_entriesFor, .instanceMethod yX4_entriesFor, .selects RX4 yX4_entriesFor yX4_entriesFor, .initialized RX4, .code yX4_entriesFor cX4_entriesFor 4 (some (.array .int)), .fieldLink RX4 34 "PageMonitor$Page" "tables" "[I", .fieldLink RX4 11 "PageMonitor$Store" "pages" "[LPageMonitor$Page;", .fieldLink RX4 38 "PageMonitor$Page" "entries" "[I", .static yX5_isBlock, .initialized RX5, .code yX5_isBlock cX5_isBlock 1 (some .boolean)] ++ wsX30 ++ wsX40)
def wsX4_map : List Cond := .code yX4_map cX4_map 6 none :: ([.methodLink RX4 41 yX4_entriesFor, .instanceMethod yX4_entriesFor, .selects RX4 yX4_entriesFor yX4_entriesFor, .initialized RX4, .code yX4_entriesFor cX4_entriesFor 4 (some (.array .int)), .fieldLink RX4 34 "PageMonitor$Page" "tables" "[I", .fieldLink RX4 11 "PageMonitor$Store" "pages" "[LPageMonitor$Page;", .fieldLink RX4 38 "PageMonitor$Page" "entries" "[I", .static yX5_isBlock, .initialized RX5, .code yX5_isBlock cX5_isBlock 1 (some .boolean)] ++ wsX30 ++ wsX40)
def wsX4_useSpare_r1 : List Cond := [Cond.fieldLink RX4 11 "PageMonitor$Store" "pages" "[LPageMonitor$Page;", Cond.fieldLink RX4 23 "PageMonitor$Page" "kind" "I", Cond.fieldLink RX4 27 "PageMonitor$Page" "owner" "I", Cond.fieldLink RX4 19 "PageMonitor$Store" "rows" "[[I", Cond.static yX5_isPage, Cond.initialized RX5, Cond.code yX5_isPage cX5_isPage 1 (some .boolean), Cond.static yX5_areDataRights, Cond.code yX5_areDataRights cX5_areDataRights 1 (some .boolean), Cond.methodLink RX4 51 yX4_hasRoom, Cond.instanceMethod yX4_hasRoom, Cond.selects RX4 yX4_hasRoom yX4_hasRoom, Cond.initialized RX4, Cond.code yX4_hasRoom cX4_hasRoom 4 (some .boolean), Cond.methodLink RX4 41 yX4_entriesFor, Cond.instanceMethod yX4_entriesFor, Cond.selects RX4 yX4_entriesFor yX4_entriesFor, Cond.code yX4_entriesFor cX4_entriesFor 4 (some (.array .int)), Cond.fieldLink RX4 34 "PageMonitor$Page" "tables" "[I", Cond.fieldLink RX4 38 "PageMonitor$Page" "entries" "[I", Cond.static yX5_isBlock, Cond.code yX5_isBlock cX5_isBlock 1 (some .boolean), Cond.methodLink RX4 55 yJ7_fill_53178, Cond.static yJ7_fill_53178]
def wsX4_useSpare_r2 : List Cond := [Cond.initialized RJ7, Cond.code yJ7_fill_53178 cJ7_fill_53178 4 none, Cond.methodLink RX4 61 yX4_map, Cond.instanceMethod yX4_map, Cond.selects RX4 yX4_map yX4_map, Cond.code yX4_map cX4_map 6 none]
def wsX4_useSpare : List Cond := .code yX4_useSpare cX4_useSpare 5 (some .boolean) :: ((wsX4_useSpare_r1 ++ wsX4_useSpare_r2) ++ wsX40 ++ wsX30)
def wsX4_giveBack : List Cond := .code yX4_giveBack cX4_giveBack 5 (some .int) :: ([.fieldLink RX4 11 "PageMonitor$Store" "pages" "[LPageMonitor$Page;", .fieldLink RX4 23 "PageMonitor$Page" "kind" "I", .methodLink RX4 41 yX4_entriesFor, .instanceMethod yX4_entriesFor, .selects RX4 yX4_entriesFor yX4_entriesFor, .initialized RX4, .code yX4_entriesFor cX4_entriesFor 4 (some (.array .int)), .fieldLink RX4 34 "PageMonitor$Page" "tables" "[I", .fieldLink RX4 38 "PageMonitor$Page" "entries" "[I", .static yX5_isBlock, .initialized RX5, .code yX5_isBlock cX5_isBlock 1 (some .boolean)] ++ wsX40 ++ wsX30)
def wsX1_obey_r1 : List Cond := [Cond.fieldLink RX1 54 "PageMonitor$Page" "place" "I", Cond.fieldLink RX1 69 "PageMonitor$Page" "registers" "[I", Cond.fieldLink RX1 25 "PageMonitor$Machine" "lastResult" "I", Cond.fieldLink RX1 86 "PageMonitor$Page" "digest" "[I", Cond.fieldLink RX1 12 "PageMonitor$Machine" "store" "LPageMonitor$Store;", Cond.fieldLink RX1 49 "PageMonitor$Page" "owner" "I", Cond.methodLink RX1 72 yX1_load, Cond.instanceMethod yX1_load, Cond.selects RX1 yX1_load yX1_load, Cond.initialized RX1, Cond.code yX1_load cX1_load 6 (some .int), Cond.methodLink RX1 57 yX4_rowAt, Cond.instanceMethod yX4_rowAt, Cond.selects RX4 yX4_rowAt yX4_rowAt, Cond.initialized RX4, Cond.code yX4_rowAt cX4_rowAt 7 (some (.array .int)), Cond.fieldLink RX4 19 "PageMonitor$Store" "rows" "[[I", Cond.methodLink RX4 41 yX4_entriesFor, Cond.instanceMethod yX4_entriesFor, Cond.selects RX4 yX4_entriesFor yX4_entriesFor, Cond.code yX4_entriesFor cX4_entriesFor 4 (some (.array .int)), Cond.fieldLink RX4 34 "PageMonitor$Page" "tables" "[I", Cond.fieldLink RX4 11 "PageMonitor$Store" "pages" "[LPageMonitor$Page;", Cond.fieldLink RX4 38 "PageMonitor$Page" "entries" "[I"]
def wsX1_obey_r2 : List Cond := [Cond.static yX5_isBlock, Cond.initialized RX5, Cond.code yX5_isBlock cX5_isBlock 1 (some .boolean), Cond.methodLink RX1 76 yX1_save, Cond.instanceMethod yX1_save, Cond.selects RX1 yX1_save yX1_save, Cond.code yX1_save cX1_save 5 (some .int), Cond.methodLink RX1 80 yX1_vouch, Cond.instanceMethod yX1_vouch, Cond.selects RX1 yX1_vouch yX1_vouch, Cond.code yX1_vouch cX1_vouch 5 (some .int), Cond.fieldLink RX1 32 "PageMonitor$Machine" "said" "[I", Cond.fieldLink RX1 21 "PageMonitor$Machine" "notary" "LPageMonitor$Notary;", Cond.fieldLink RX1 42 "PageMonitor$Machine" "voucher" "[I", Cond.methodLink RX1 97 yX1_readEight, Cond.instanceMethod yX1_readEight, Cond.selects RX1 yX1_readEight yX1_readEight, Cond.code yX1_readEight cX1_readEight 6 (some .boolean), Cond.methodLink RX1 101 yX1_mayWriteEight, Cond.instanceMethod yX1_mayWriteEight, Cond.selects RX1 yX1_mayWriteEight yX1_mayWriteEight, Cond.code yX1_mayWriteEight cX1_mayWriteEight 4 (some .boolean), Cond.methodLink RX1 105 yX2_writeVoucher, Cond.instanceMethod yX2_writeVoucher]
def wsX1_obey_r3 : List Cond := [Cond.selects RX2 yX2_writeVoucher yX2_writeVoucher, Cond.initialized RX2, Cond.code yX2_writeVoucher cX2_writeVoucher 4 none, Cond.fieldLink RX2 18 "PageMonitor$Notary" "hasher" "LPageMonitor$Hasher;", Cond.fieldLink RX2 9 "PageMonitor$Notary" "secret" "[I", Cond.fieldLink RX2 22 "PageMonitor$Notary" "block" "[I", Cond.methodLink RX2 64 arraycopyName, Cond.native arraycopyName, Cond.static arraycopyName, Cond.initialized "java/lang/System", Cond.methodLink RX2 38 yX0_begin, Cond.instanceMethod yX0_begin, Cond.selects RX0 yX0_begin yX0_begin, Cond.initialized RX0, Cond.code yX0_begin cX0_begin 2 none, Cond.fieldLink RX0 18 "PageMonitor$Hasher" "START" "[I", Cond.methodLink RX0 21 arraycopyName, Cond.methodLink RX2 52 yX0_take, Cond.instanceMethod yX0_take, Cond.selects RX0 yX0_take yX0_take, Cond.code yX0_take cX0_take 16 none, Cond.fieldLink RX0 31 "PageMonitor$Hasher" "ADDED" "[I", Cond.fieldLink RX0 11 "PageMonitor$Hasher" "schedule" "[I", Cond.methodLink RX0 27 yX0_spread]
def wsX1_obey_r4 : List Cond := [Cond.instanceMethod yX0_spread, Cond.selects RX0 yX0_spread yX0_spread, Cond.code yX0_spread cX0_spread 7 none, Cond.methodLink RX2 42 yJ7_fill_53178, Cond.static yJ7_fill_53178, Cond.initialized RJ7, Cond.code yJ7_fill_53178 cJ7_fill_53178 4 none, Cond.methodLink RX2 60 yX0_endAfter, Cond.instanceMethod yX0_endAfter, Cond.selects RX0 yX0_endAfter yX0_endAfter, Cond.code yX0_endAfter cX0_endAfter 2 (some (.array .int)), Cond.fieldLink RX0 15 "PageMonitor$Hasher" "padding" "[I", Cond.constant RX0 34 (-2147483648), Cond.methodLink RX1 83 yX1_compare, Cond.instanceMethod yX1_compare, Cond.selects RX1 yX1_compare yX1_compare, Cond.code yX1_compare cX1_compare 6 (some .int), Cond.fieldLink RX1 36 "PageMonitor$Machine" "claimedMeasure" "[I", Cond.fieldLink RX1 39 "PageMonitor$Machine" "claimedVoucher" "[I", Cond.methodLink RX1 89 yX4_useSpare, Cond.instanceMethod yX4_useSpare, Cond.selects RX4 yX4_useSpare yX4_useSpare, Cond.code yX4_useSpare cX4_useSpare 5 (some .boolean), Cond.fieldLink RX4 23 "PageMonitor$Page" "kind" "I"]
def wsX1_obey_r5 : List Cond := [Cond.fieldLink RX4 27 "PageMonitor$Page" "owner" "I", Cond.static yX5_isPage, Cond.code yX5_isPage cX5_isPage 1 (some .boolean), Cond.static yX5_areDataRights, Cond.code yX5_areDataRights cX5_areDataRights 1 (some .boolean), Cond.methodLink RX4 51 yX4_hasRoom, Cond.instanceMethod yX4_hasRoom, Cond.selects RX4 yX4_hasRoom yX4_hasRoom, Cond.code yX4_hasRoom cX4_hasRoom 4 (some .boolean), Cond.methodLink RX4 55 yJ7_fill_53178, Cond.methodLink RX4 61 yX4_map, Cond.instanceMethod yX4_map, Cond.selects RX4 yX4_map yX4_map, Cond.code yX4_map cX4_map 6 none, Cond.methodLink RX1 93 yX4_giveBack, Cond.instanceMethod yX4_giveBack, Cond.selects RX4 yX4_giveBack yX4_giveBack, Cond.code yX4_giveBack cX4_giveBack 5 (some .int)]
def wsX1_obey : List Cond := .code yX1_obey cX1_obey 9 (some .int) :: ((wsX1_obey_r1 ++ (wsX1_obey_r2 ++ (wsX1_obey_r3 ++ (wsX1_obey_r4 ++ wsX1_obey_r5)))) ++ wsX30 ++ wsX10 ++ wsX40 ++ wsX20 ++ wsX00)
def wsX1_run_r1 : List Cond := [Cond.fieldLink RX1 12 "PageMonitor$Machine" "store" "LPageMonitor$Store;", Cond.fieldLink RX1 45 "PageMonitor$Store" "pages" "[LPageMonitor$Page;", Cond.fieldLink RX1 49 "PageMonitor$Page" "owner" "I", Cond.fieldLink RX1 54 "PageMonitor$Page" "place" "I", Cond.fieldLink RX1 29 "PageMonitor$Machine" "lastSteps" "I", Cond.fieldLink RX1 65 "PageMonitor$Page" "entered" "Z", Cond.fieldLink RX1 25 "PageMonitor$Machine" "lastResult" "I", Cond.methodLink RX1 57 yX4_rowAt, Cond.instanceMethod yX4_rowAt, Cond.selects RX4 yX4_rowAt yX4_rowAt, Cond.initialized RX4, Cond.code yX4_rowAt cX4_rowAt 7 (some (.array .int)), Cond.fieldLink RX4 19 "PageMonitor$Store" "rows" "[[I", Cond.methodLink RX4 41 yX4_entriesFor, Cond.instanceMethod yX4_entriesFor, Cond.selects RX4 yX4_entriesFor yX4_entriesFor, Cond.code yX4_entriesFor cX4_entriesFor 4 (some (.array .int)), Cond.fieldLink RX4 34 "PageMonitor$Page" "tables" "[I", Cond.fieldLink RX4 11 "PageMonitor$Store" "pages" "[LPageMonitor$Page;", Cond.fieldLink RX4 38 "PageMonitor$Page" "entries" "[I", Cond.static yX5_isBlock, Cond.initialized RX5, Cond.code yX5_isBlock cX5_isBlock 1 (some .boolean), Cond.methodLink RX1 61 yX1_obey]
def wsX1_run_r2 : List Cond := [Cond.instanceMethod yX1_obey, Cond.selects RX1 yX1_obey yX1_obey, Cond.initialized RX1, Cond.code yX1_obey cX1_obey 9 (some .int), Cond.fieldLink RX1 69 "PageMonitor$Page" "registers" "[I", Cond.fieldLink RX1 86 "PageMonitor$Page" "digest" "[I", Cond.methodLink RX1 72 yX1_load, Cond.instanceMethod yX1_load, Cond.selects RX1 yX1_load yX1_load, Cond.code yX1_load cX1_load 6 (some .int), Cond.methodLink RX1 76 yX1_save, Cond.instanceMethod yX1_save, Cond.selects RX1 yX1_save yX1_save, Cond.code yX1_save cX1_save 5 (some .int), Cond.methodLink RX1 80 yX1_vouch, Cond.instanceMethod yX1_vouch, Cond.selects RX1 yX1_vouch yX1_vouch, Cond.code yX1_vouch cX1_vouch 5 (some .int), Cond.fieldLink RX1 32 "PageMonitor$Machine" "said" "[I", Cond.fieldLink RX1 21 "PageMonitor$Machine" "notary" "LPageMonitor$Notary;", Cond.fieldLink RX1 42 "PageMonitor$Machine" "voucher" "[I", Cond.methodLink RX1 97 yX1_readEight, Cond.instanceMethod yX1_readEight, Cond.selects RX1 yX1_readEight yX1_readEight]
def wsX1_run_r3 : List Cond := [Cond.code yX1_readEight cX1_readEight 6 (some .boolean), Cond.methodLink RX1 101 yX1_mayWriteEight, Cond.instanceMethod yX1_mayWriteEight, Cond.selects RX1 yX1_mayWriteEight yX1_mayWriteEight, Cond.code yX1_mayWriteEight cX1_mayWriteEight 4 (some .boolean), Cond.methodLink RX1 105 yX2_writeVoucher, Cond.instanceMethod yX2_writeVoucher, Cond.selects RX2 yX2_writeVoucher yX2_writeVoucher, Cond.initialized RX2, Cond.code yX2_writeVoucher cX2_writeVoucher 4 none, Cond.fieldLink RX2 18 "PageMonitor$Notary" "hasher" "LPageMonitor$Hasher;", Cond.fieldLink RX2 9 "PageMonitor$Notary" "secret" "[I", Cond.fieldLink RX2 22 "PageMonitor$Notary" "block" "[I", Cond.methodLink RX2 64 arraycopyName, Cond.native arraycopyName, Cond.static arraycopyName, Cond.initialized "java/lang/System", Cond.methodLink RX2 38 yX0_begin, Cond.instanceMethod yX0_begin, Cond.selects RX0 yX0_begin yX0_begin, Cond.initialized RX0, Cond.code yX0_begin cX0_begin 2 none, Cond.fieldLink RX0 18 "PageMonitor$Hasher" "START" "[I", Cond.methodLink RX0 21 arraycopyName]
def wsX1_run_r4 : List Cond := [Cond.methodLink RX2 52 yX0_take, Cond.instanceMethod yX0_take, Cond.selects RX0 yX0_take yX0_take, Cond.code yX0_take cX0_take 16 none, Cond.fieldLink RX0 31 "PageMonitor$Hasher" "ADDED" "[I", Cond.fieldLink RX0 11 "PageMonitor$Hasher" "schedule" "[I", Cond.methodLink RX0 27 yX0_spread, Cond.instanceMethod yX0_spread, Cond.selects RX0 yX0_spread yX0_spread, Cond.code yX0_spread cX0_spread 7 none, Cond.methodLink RX2 42 yJ7_fill_53178, Cond.static yJ7_fill_53178, Cond.initialized RJ7, Cond.code yJ7_fill_53178 cJ7_fill_53178 4 none, Cond.methodLink RX2 60 yX0_endAfter, Cond.instanceMethod yX0_endAfter, Cond.selects RX0 yX0_endAfter yX0_endAfter, Cond.code yX0_endAfter cX0_endAfter 2 (some (.array .int)), Cond.fieldLink RX0 15 "PageMonitor$Hasher" "padding" "[I", Cond.constant RX0 34 (-2147483648), Cond.methodLink RX1 83 yX1_compare, Cond.instanceMethod yX1_compare, Cond.selects RX1 yX1_compare yX1_compare, Cond.code yX1_compare cX1_compare 6 (some .int)]
def wsX1_run_r5 : List Cond := [Cond.fieldLink RX1 36 "PageMonitor$Machine" "claimedMeasure" "[I", Cond.fieldLink RX1 39 "PageMonitor$Machine" "claimedVoucher" "[I", Cond.methodLink RX1 89 yX4_useSpare, Cond.instanceMethod yX4_useSpare, Cond.selects RX4 yX4_useSpare yX4_useSpare, Cond.code yX4_useSpare cX4_useSpare 5 (some .boolean), Cond.fieldLink RX4 23 "PageMonitor$Page" "kind" "I", Cond.fieldLink RX4 27 "PageMonitor$Page" "owner" "I", Cond.static yX5_isPage, Cond.code yX5_isPage cX5_isPage 1 (some .boolean), Cond.static yX5_areDataRights, Cond.code yX5_areDataRights cX5_areDataRights 1 (some .boolean), Cond.methodLink RX4 51 yX4_hasRoom, Cond.instanceMethod yX4_hasRoom, Cond.selects RX4 yX4_hasRoom yX4_hasRoom, Cond.code yX4_hasRoom cX4_hasRoom 4 (some .boolean), Cond.methodLink RX4 55 yJ7_fill_53178, Cond.methodLink RX4 61 yX4_map, Cond.instanceMethod yX4_map, Cond.selects RX4 yX4_map yX4_map, Cond.code yX4_map cX4_map 6 none, Cond.methodLink RX1 93 yX4_giveBack, Cond.instanceMethod yX4_giveBack, Cond.selects RX4 yX4_giveBack yX4_giveBack]
def wsX1_run_r6 : List Cond := [Cond.code yX4_giveBack cX4_giveBack 5 (some .int)]
def wsX1_run : List Cond := .code yX1_run cX1_run 7 (some .int) :: ((wsX1_run_r1 ++ (wsX1_run_r2 ++ (wsX1_run_r3 ++ (wsX1_run_r4 ++ (wsX1_run_r5 ++ wsX1_run_r6))))) ++ wsX10 ++ wsX40 ++ wsX30 ++ wsX20 ++ wsX00)
def wsX2_open : List Cond := .code yX2_open cX2_open 2 none :: ([.fieldLink RX2 25 "PageMonitor$Page" "sealed" "Z", .fieldLink RX2 31 "PageMonitor$Page" "blocksTold" "I", .fieldLink RX2 18 "PageMonitor$Notary" "hasher" "LPageMonitor$Hasher;", .fieldLink RX2 35 "PageMonitor$Page" "digest" "[I", .methodLink RX2 38 yX0_begin, .instanceMethod yX0_begin, .selects RX0 yX0_begin yX0_begin, .initialized RX0, .code yX0_begin cX0_begin 2 none, .fieldLink RX0 18 "PageMonitor$Hasher" "START" "[I", .methodLink RX0 21 arraycopyName, .native arraycopyName, .static arraycopyName, .initialized "java/lang/System"] ++ wsX30 ++ wsX20)
def wsX2_tellWords : List Cond := .code yX2_tellWords cX2_tellWords 3 none :: ([.fieldLink RX2 18 "PageMonitor$Notary" "hasher" "LPageMonitor$Hasher;", .fieldLink RX2 35 "PageMonitor$Page" "digest" "[I", .fieldLink RX2 31 "PageMonitor$Page" "blocksTold" "I", .methodLink RX2 52 yX0_take, .instanceMethod yX0_take, .selects RX0 yX0_take yX0_take, .initialized RX0, .code yX0_take cX0_take 16 none, .fieldLink RX0 31 "PageMonitor$Hasher" "ADDED" "[I", .fieldLink RX0 11 "PageMonitor$Hasher" "schedule" "[I", .methodLink RX0 27 yX0_spread, .instanceMethod yX0_spread, .selects RX0 yX0_spread yX0_spread, .code yX0_spread cX0_spread 7 none, .methodLink RX0 21 arraycopyName, .native arraycopyName, .static arraycopyName, .initialized "java/lang/System"] ++ wsX20 ++ wsX30 ++ wsX00)
def wsX2_tell_r1 : List Cond := [Cond.fieldLink RX2 22 "PageMonitor$Notary" "block" "[I", Cond.methodLink RX2 42 yJ7_fill_53178, Cond.static yJ7_fill_53178, Cond.initialized RJ7, Cond.code yJ7_fill_53178 cJ7_fill_53178 4 none, Cond.methodLink RX2 48 yX2_tellWords, Cond.instanceMethod yX2_tellWords, Cond.selects RX2 yX2_tellWords yX2_tellWords, Cond.initialized RX2, Cond.code yX2_tellWords cX2_tellWords 3 none, Cond.fieldLink RX2 18 "PageMonitor$Notary" "hasher" "LPageMonitor$Hasher;", Cond.fieldLink RX2 35 "PageMonitor$Page" "digest" "[I", Cond.fieldLink RX2 31 "PageMonitor$Page" "blocksTold" "I", Cond.methodLink RX2 52 yX0_take, Cond.instanceMethod yX0_take, Cond.selects RX0 yX0_take yX0_take, Cond.initialized RX0, Cond.code yX0_take cX0_take 16 none, Cond.fieldLink RX0 31 "PageMonitor$Hasher" "ADDED" "[I", Cond.fieldLink RX0 11 "PageMonitor$Hasher" "schedule" "[I", Cond.methodLink RX0 27 yX0_spread, Cond.instanceMethod yX0_spread, Cond.selects RX0 yX0_spread yX0_spread, Cond.code yX0_spread cX0_spread 7 none]
def wsX2_tell_r2 : List Cond := [Cond.methodLink RX0 21 arraycopyName, Cond.native arraycopyName, Cond.static arraycopyName, Cond.initialized "java/lang/System"]
def wsX2_tell : List Cond := .code yX2_tell cX2_tell 5 none :: ((wsX2_tell_r1 ++ wsX2_tell_r2) ++ wsX20 ++ wsX30 ++ wsX00)
def wsX2_seal_r1 : List Cond := [Cond.fieldLink RX2 18 "PageMonitor$Notary" "hasher" "LPageMonitor$Hasher;", Cond.fieldLink RX2 35 "PageMonitor$Page" "digest" "[I", Cond.fieldLink RX2 31 "PageMonitor$Page" "blocksTold" "I", Cond.fieldLink RX2 25 "PageMonitor$Page" "sealed" "Z", Cond.methodLink RX2 56 yX2_tell, Cond.instanceMethod yX2_tell, Cond.selects RX2 yX2_tell yX2_tell, Cond.initialized RX2, Cond.code yX2_tell cX2_tell 5 none, Cond.fieldLink RX2 22 "PageMonitor$Notary" "block" "[I", Cond.methodLink RX2 42 yJ7_fill_53178, Cond.static yJ7_fill_53178, Cond.initialized RJ7, Cond.code yJ7_fill_53178 cJ7_fill_53178 4 none, Cond.methodLink RX2 48 yX2_tellWords, Cond.instanceMethod yX2_tellWords, Cond.selects RX2 yX2_tellWords yX2_tellWords, Cond.code yX2_tellWords cX2_tellWords 3 none, Cond.methodLink RX2 52 yX0_take, Cond.instanceMethod yX0_take, Cond.selects RX0 yX0_take yX0_take, Cond.initialized RX0, Cond.code yX0_take cX0_take 16 none, Cond.fieldLink RX0 31 "PageMonitor$Hasher" "ADDED" "[I"]
def wsX2_seal_r2 : List Cond := [Cond.fieldLink RX0 11 "PageMonitor$Hasher" "schedule" "[I", Cond.methodLink RX0 27 yX0_spread, Cond.instanceMethod yX0_spread, Cond.selects RX0 yX0_spread yX0_spread, Cond.code yX0_spread cX0_spread 7 none, Cond.methodLink RX0 21 arraycopyName, Cond.native arraycopyName, Cond.static arraycopyName, Cond.initialized "java/lang/System", Cond.methodLink RX2 60 yX0_endAfter, Cond.instanceMethod yX0_endAfter, Cond.selects RX0 yX0_endAfter yX0_endAfter, Cond.code yX0_endAfter cX0_endAfter 2 (some (.array .int)), Cond.fieldLink RX0 15 "PageMonitor$Hasher" "padding" "[I", Cond.constant RX0 34 (-2147483648)]
def wsX2_seal : List Cond := .code yX2_seal cX2_seal 2 none :: ((wsX2_seal_r1 ++ wsX2_seal_r2) ++ wsX20 ++ wsX30 ++ wsX00)
def wsX4_frameRow : List Cond := .code yX4_frameRow cX4_frameRow 2 (some (.array .int)) :: ([.fieldLink RX4 19 "PageMonitor$Store" "rows" "[[I"] ++ wsX40)
def wsX4_claim : List Cond := .code yX4_claim cX4_claim 5 (some (.object "PageMonitor$Page")) :: ([.fieldLink RX4 11 "PageMonitor$Store" "pages" "[LPageMonitor$Page;", .fieldLink RX4 23 "PageMonitor$Page" "kind" "I", .fieldLink RX4 27 "PageMonitor$Page" "owner" "I"] ++ wsX40 ++ wsX30)
def wsX4_countOwnedBy : List Cond := .code yX4_countOwnedBy cX4_countOwnedBy 4 (some .int) :: ([.fieldLink RX4 11 "PageMonitor$Store" "pages" "[LPageMonitor$Page;", .fieldLink RX4 27 "PageMonitor$Page" "owner" "I"] ++ wsX40 ++ wsX30)
def wsX5_init_r1 : List Cond := [Cond.methodLink RX5 1 objectInit, Cond.instanceMethod objectInit, Cond.code objectInit ⟨#[0xb1]⟩ 1 none, Cond.classLink RX5 7 RX1, Cond.instantiable RX1 8, Cond.initialized RX1, Cond.fieldLink RX5 10 "PageMonitor" "machine" "LPageMonitor$Machine;", Cond.fieldLink RX5 16 "PageMonitor$Machine" "store" "LPageMonitor$Store;", Cond.fieldLink RX5 20 "PageMonitor" "store" "LPageMonitor$Store;", Cond.fieldLink RX5 21 "PageMonitor$Machine" "notary" "LPageMonitor$Notary;", Cond.fieldLink RX5 25 "PageMonitor" "notary" "LPageMonitor$Notary;", Cond.instanceMethod yX1_init, Cond.code yX1_init cX1_init 1 none, Cond.methodLink RX1 3 objectInit, Cond.classLink RX1 9 RX4, Cond.instantiable RX4 2, Cond.initialized RX4, Cond.fieldLink RX1 12 "PageMonitor$Machine" "store" "LPageMonitor$Store;", Cond.classLink RX1 18 RX2, Cond.instantiable RX2 3, Cond.initialized RX2, Cond.fieldLink RX1 21 "PageMonitor$Machine" "notary" "LPageMonitor$Notary;", Cond.fieldLink RX1 25 "PageMonitor$Machine" "lastResult" "I", Cond.fieldLink RX1 29 "PageMonitor$Machine" "lastSteps" "I"]
def wsX5_init_r2 : List Cond := [Cond.arrayClass .int, Cond.fieldLink RX1 32 "PageMonitor$Machine" "said" "[I", Cond.fieldLink RX1 36 "PageMonitor$Machine" "claimedMeasure" "[I", Cond.fieldLink RX1 39 "PageMonitor$Machine" "claimedVoucher" "[I", Cond.fieldLink RX1 42 "PageMonitor$Machine" "voucher" "[I", Cond.methodLink RX1 11 yX4_init, Cond.instanceMethod yX4_init, Cond.code yX4_init cX4_init 2 none, Cond.methodLink RX4 3 objectInit, Cond.classLink RX4 9 RX3, Cond.fieldLink RX4 11 "PageMonitor$Store" "pages" "[LPageMonitor$Page;", Cond.classLink RX4 17 "[[I", Cond.fieldLink RX4 19 "PageMonitor$Store" "rows" "[[I", Cond.instantiable RX3 12, Cond.initialized RX3, Cond.instanceMethod yX3_init, Cond.code yX3_init cX3_init 1 none, Cond.methodLink RX3 3 objectInit, Cond.fieldLink RX3 9 "PageMonitor$Page" "kind" "I", Cond.fieldLink RX3 15 "PageMonitor$Page" "owner" "I", Cond.fieldLink RX3 18 "PageMonitor$Page" "state" "I", Cond.fieldLink RX3 21 "PageMonitor$Page" "sealed" "Z", Cond.fieldLink RX3 25 "PageMonitor$Page" "blocksTold" "I", Cond.fieldLink RX3 28 "PageMonitor$Page" "tables" "[I"]
def wsX5_init_r3 : List Cond := [Cond.fieldLink RX3 32 "PageMonitor$Page" "digest" "[I", Cond.fieldLink RX3 35 "PageMonitor$Page" "entry" "I", Cond.fieldLink RX3 38 "PageMonitor$Page" "entered" "Z", Cond.fieldLink RX3 41 "PageMonitor$Page" "place" "I", Cond.fieldLink RX3 44 "PageMonitor$Page" "registers" "[I", Cond.fieldLink RX3 47 "PageMonitor$Page" "entries" "[I", Cond.instanceMethod yX2_init, Cond.code yX2_init cX2_init 1 none, Cond.methodLink RX2 3 objectInit, Cond.fieldLink RX2 9 "PageMonitor$Notary" "secret" "[I", Cond.classLink RX2 15 RX0, Cond.instantiable RX0 2, Cond.initialized RX0, Cond.fieldLink RX2 18 "PageMonitor$Notary" "hasher" "LPageMonitor$Hasher;", Cond.fieldLink RX2 22 "PageMonitor$Notary" "block" "[I", Cond.instanceMethod yX0_init, Cond.code yX0_init cX0_init 1 none, Cond.methodLink RX0 3 objectInit, Cond.fieldLink RX0 11 "PageMonitor$Hasher" "schedule" "[I", Cond.fieldLink RX0 15 "PageMonitor$Hasher" "padding" "[I"]
def wsX5_init : List Cond := .code yX5_init cX5_init 1 none :: ((wsX5_init_r1 ++ (wsX5_init_r2 ++ wsX5_init_r3)) ++ wsX10 ++ wsX50 ++ wsX40 ++ wsX20 ++ wsX30 ++ wsX00)
def wsX5_key : List Cond := .code yX5_key cX5_key 4 none :: ([.classLink RX5 26 "java/lang/IndexOutOfBoundsException", .initialized "java/lang/IndexOutOfBoundsException", .fieldLink RX5 25 "PageMonitor" "notary" "LPageMonitor$Notary;", .fieldLink RX5 29 "PageMonitor$Notary" "secret" "[I", .fieldLink RX5 20 "PageMonitor" "store" "LPageMonitor$Store;", .fieldLink RX5 10 "PageMonitor" "machine" "LPageMonitor$Machine;", .fieldLink RX5 41 "PageMonitor$Machine" "lastResult" "I", .methodLink RX5 35 yX4_claim, .instanceMethod yX4_claim, .selects RX4 yX4_claim yX4_claim, .initialized RX4, .code yX4_claim cX4_claim 5 (some (.object "PageMonitor$Page")), .fieldLink RX4 11 "PageMonitor$Store" "pages" "[LPageMonitor$Page;", .fieldLink RX4 23 "PageMonitor$Page" "kind" "I", .fieldLink RX4 27 "PageMonitor$Page" "owner" "I"] ++ wsX50 ++ wsX20 ++ wsX10 ++ wsX40 ++ wsX30 ++ (vx_at0 RX5 28 "java/lang/IndexOutOfBoundsException" ["java/lang/RuntimeException", "java/lang/Exception"]).filter goodWord)
def wsX5_isFrame : List Cond := .code yX5_isFrame cX5_isFrame 1 (some .boolean) :: ([])
def wsX5_isWord : List Cond := .code yX5_isWord cX5_isWord 1 (some .boolean) :: ([])
def wsX5_poke : List Cond := .code yX5_poke cX5_poke 6 (some .int) :: ([.classLink RX5 26 "java/lang/IndexOutOfBoundsException", .initialized "java/lang/IndexOutOfBoundsException", .fieldLink RX5 20 "PageMonitor" "store" "LPageMonitor$Store;", .methodLink RX5 45 yX5_isFrame, .static yX5_isFrame, .initialized RX5, .code yX5_isFrame cX5_isFrame 1 (some .boolean), .methodLink RX5 49 yX5_isWord, .static yX5_isWord, .code yX5_isWord cX5_isWord 1 (some .boolean), .methodLink RX5 52 yX4_frameRow, .instanceMethod yX4_frameRow, .selects RX4 yX4_frameRow yX4_frameRow, .initialized RX4, .code yX4_frameRow cX4_frameRow 2 (some (.array .int)), .fieldLink RX4 19 "PageMonitor$Store" "rows" "[[I"] ++ wsX50 ++ wsX40 ++ (vx_at0 RX5 28 "java/lang/IndexOutOfBoundsException" ["java/lang/RuntimeException", "java/lang/Exception"]).filter goodWord)
def wsX5_peek : List Cond := .code yX5_peek cX5_peek 3 (some .int) :: ([.classLink RX5 26 "java/lang/IndexOutOfBoundsException", .initialized "java/lang/IndexOutOfBoundsException", .fieldLink RX5 20 "PageMonitor" "store" "LPageMonitor$Store;", .methodLink RX5 45 yX5_isFrame, .static yX5_isFrame, .initialized RX5, .code yX5_isFrame cX5_isFrame 1 (some .boolean), .methodLink RX5 49 yX5_isWord, .static yX5_isWord, .code yX5_isWord cX5_isWord 1 (some .boolean), .methodLink RX5 52 yX4_frameRow, .instanceMethod yX4_frameRow, .selects RX4 yX4_frameRow yX4_frameRow, .initialized RX4, .code yX4_frameRow cX4_frameRow 2 (some (.array .int)), .fieldLink RX4 19 "PageMonitor$Store" "rows" "[[I"] ++ wsX50 ++ wsX40 ++ (vx_at0 RX5 28 "java/lang/IndexOutOfBoundsException" ["java/lang/RuntimeException", "java/lang/Exception"]).filter goodWord)
def wsX5_space_r1 : List Cond := [Cond.fieldLink RX5 20 "PageMonitor" "store" "LPageMonitor$Store;", Cond.fieldLink RX5 59 "PageMonitor$Store" "pages" "[LPageMonitor$Page;", Cond.fieldLink RX5 63 "PageMonitor$Page" "kind" "I", Cond.fieldLink RX5 68 "PageMonitor$Page" "state" "I", Cond.fieldLink RX5 71 "PageMonitor$Page" "tables" "[I", Cond.fieldLink RX5 25 "PageMonitor" "notary" "LPageMonitor$Notary;", Cond.methodLink RX5 56 yX5_isPage, Cond.static yX5_isPage, Cond.initialized RX5, Cond.code yX5_isPage cX5_isPage 1 (some .boolean), Cond.methodLink RX5 35 yX4_claim, Cond.instanceMethod yX4_claim, Cond.selects RX4 yX4_claim yX4_claim, Cond.initialized RX4, Cond.code yX4_claim cX4_claim 5 (some (.object "PageMonitor$Page")), Cond.fieldLink RX4 11 "PageMonitor$Store" "pages" "[LPageMonitor$Page;", Cond.fieldLink RX4 23 "PageMonitor$Page" "kind" "I", Cond.fieldLink RX4 27 "PageMonitor$Page" "owner" "I", Cond.methodLink RX5 74 yJ7_fill_53178, Cond.static yJ7_fill_53178, Cond.initialized RJ7, Cond.code yJ7_fill_53178 cJ7_fill_53178 4 none, Cond.methodLink RX5 80 yX2_open, Cond.instanceMethod yX2_open]
def wsX5_space_r2 : List Cond := [Cond.selects RX2 yX2_open yX2_open, Cond.initialized RX2, Cond.code yX2_open cX2_open 2 none, Cond.fieldLink RX2 25 "PageMonitor$Page" "sealed" "Z", Cond.fieldLink RX2 31 "PageMonitor$Page" "blocksTold" "I", Cond.fieldLink RX2 18 "PageMonitor$Notary" "hasher" "LPageMonitor$Hasher;", Cond.fieldLink RX2 35 "PageMonitor$Page" "digest" "[I", Cond.methodLink RX2 38 yX0_begin, Cond.instanceMethod yX0_begin, Cond.selects RX0 yX0_begin yX0_begin, Cond.initialized RX0, Cond.code yX0_begin cX0_begin 2 none, Cond.fieldLink RX0 18 "PageMonitor$Hasher" "START" "[I", Cond.methodLink RX0 21 arraycopyName, Cond.native arraycopyName, Cond.static arraycopyName, Cond.initialized "java/lang/System"]
def wsX5_space : List Cond := .code yX5_space cX5_space 3 (some .int) :: ((wsX5_space_r1 ++ wsX5_space_r2) ++ wsX50 ++ wsX40 ++ wsX30 ++ wsX20)
def wsX5_refusalOfSpace : List Cond := .code yX5_refusalOfSpace cX5_refusalOfSpace 4 (some .int) :: ([.fieldLink RX5 20 "PageMonitor" "store" "LPageMonitor$Store;", .fieldLink RX5 59 "PageMonitor$Store" "pages" "[LPageMonitor$Page;", .fieldLink RX5 63 "PageMonitor$Page" "kind" "I", .fieldLink RX5 68 "PageMonitor$Page" "state" "I"] ++ wsX50 ++ wsX40 ++ wsX30)
def wsX5_refusalOfNew : List Cond := .code yX5_refusalOfNew cX5_refusalOfNew 4 (some .int) :: ([.fieldLink RX5 20 "PageMonitor" "store" "LPageMonitor$Store;", .fieldLink RX5 59 "PageMonitor$Store" "pages" "[LPageMonitor$Page;", .fieldLink RX5 63 "PageMonitor$Page" "kind" "I", .methodLink RX5 129 yX5_refusalOfSpace, .instanceMethod yX5_refusalOfSpace, .selects RX5 yX5_refusalOfSpace yX5_refusalOfSpace, .initialized RX5, .code yX5_refusalOfSpace cX5_refusalOfSpace 4 (some .int), .fieldLink RX5 68 "PageMonitor$Page" "state" "I"] ++ wsX50 ++ wsX40 ++ wsX30)
def wsX5_thread_r1 : List Cond := [Cond.fieldLink RX5 20 "PageMonitor" "store" "LPageMonitor$Store;", Cond.fieldLink RX5 88 "PageMonitor$Page" "entry" "I", Cond.fieldLink RX5 91 "PageMonitor$Page" "entered" "Z", Cond.fieldLink RX5 25 "PageMonitor" "notary" "LPageMonitor$Notary;", Cond.fieldLink RX5 59 "PageMonitor$Store" "pages" "[LPageMonitor$Page;", Cond.methodLink RX5 56 yX5_isPage, Cond.static yX5_isPage, Cond.initialized RX5, Cond.code yX5_isPage cX5_isPage 1 (some .boolean), Cond.methodLink RX5 84 yX5_refusalOfNew, Cond.instanceMethod yX5_refusalOfNew, Cond.selects RX5 yX5_refusalOfNew yX5_refusalOfNew, Cond.code yX5_refusalOfNew cX5_refusalOfNew 4 (some .int), Cond.fieldLink RX5 63 "PageMonitor$Page" "kind" "I", Cond.methodLink RX5 129 yX5_refusalOfSpace, Cond.instanceMethod yX5_refusalOfSpace, Cond.selects RX5 yX5_refusalOfSpace yX5_refusalOfSpace, Cond.code yX5_refusalOfSpace cX5_refusalOfSpace 4 (some .int), Cond.fieldLink RX5 68 "PageMonitor$Page" "state" "I", Cond.methodLink RX5 35 yX4_claim, Cond.instanceMethod yX4_claim, Cond.selects RX4 yX4_claim yX4_claim, Cond.initialized RX4, Cond.code yX4_claim cX4_claim 5 (some (.object "PageMonitor$Page"))]
def wsX5_thread_r2 : List Cond := [Cond.fieldLink RX4 11 "PageMonitor$Store" "pages" "[LPageMonitor$Page;", Cond.fieldLink RX4 23 "PageMonitor$Page" "kind" "I", Cond.fieldLink RX4 27 "PageMonitor$Page" "owner" "I", Cond.methodLink RX5 95 yX2_tell, Cond.instanceMethod yX2_tell, Cond.selects RX2 yX2_tell yX2_tell, Cond.initialized RX2, Cond.code yX2_tell cX2_tell 5 none, Cond.fieldLink RX2 22 "PageMonitor$Notary" "block" "[I", Cond.methodLink RX2 42 yJ7_fill_53178, Cond.static yJ7_fill_53178, Cond.initialized RJ7, Cond.code yJ7_fill_53178 cJ7_fill_53178 4 none, Cond.methodLink RX2 48 yX2_tellWords, Cond.instanceMethod yX2_tellWords, Cond.selects RX2 yX2_tellWords yX2_tellWords, Cond.code yX2_tellWords cX2_tellWords 3 none, Cond.fieldLink RX2 18 "PageMonitor$Notary" "hasher" "LPageMonitor$Hasher;", Cond.fieldLink RX2 35 "PageMonitor$Page" "digest" "[I", Cond.fieldLink RX2 31 "PageMonitor$Page" "blocksTold" "I", Cond.methodLink RX2 52 yX0_take, Cond.instanceMethod yX0_take, Cond.selects RX0 yX0_take yX0_take, Cond.initialized RX0]
def wsX5_thread_r3 : List Cond := [Cond.code yX0_take cX0_take 16 none, Cond.fieldLink RX0 31 "PageMonitor$Hasher" "ADDED" "[I", Cond.fieldLink RX0 11 "PageMonitor$Hasher" "schedule" "[I", Cond.methodLink RX0 27 yX0_spread, Cond.instanceMethod yX0_spread, Cond.selects RX0 yX0_spread yX0_spread, Cond.code yX0_spread cX0_spread 7 none, Cond.methodLink RX0 21 arraycopyName, Cond.native arraycopyName, Cond.static arraycopyName, Cond.initialized "java/lang/System"]
def wsX5_thread : List Cond := .code yX5_thread cX5_thread 6 (some .int) :: ((wsX5_thread_r1 ++ (wsX5_thread_r2 ++ wsX5_thread_r3)) ++ wsX50 ++ wsX30 ++ wsX40 ++ wsX20 ++ wsX00)
def wsX5_table_r1 : List Cond := [Cond.fieldLink RX5 20 "PageMonitor" "store" "LPageMonitor$Store;", Cond.fieldLink RX5 59 "PageMonitor$Store" "pages" "[LPageMonitor$Page;", Cond.fieldLink RX5 71 "PageMonitor$Page" "tables" "[I", Cond.fieldLink RX5 99 "PageMonitor$Page" "entries" "[I", Cond.methodLink RX5 56 yX5_isPage, Cond.static yX5_isPage, Cond.initialized RX5, Cond.code yX5_isPage cX5_isPage 1 (some .boolean), Cond.methodLink RX5 84 yX5_refusalOfNew, Cond.instanceMethod yX5_refusalOfNew, Cond.selects RX5 yX5_refusalOfNew yX5_refusalOfNew, Cond.code yX5_refusalOfNew cX5_refusalOfNew 4 (some .int), Cond.fieldLink RX5 63 "PageMonitor$Page" "kind" "I", Cond.methodLink RX5 129 yX5_refusalOfSpace, Cond.instanceMethod yX5_refusalOfSpace, Cond.selects RX5 yX5_refusalOfSpace yX5_refusalOfSpace, Cond.code yX5_refusalOfSpace cX5_refusalOfSpace 4 (some .int), Cond.fieldLink RX5 68 "PageMonitor$Page" "state" "I", Cond.methodLink RX5 35 yX4_claim, Cond.instanceMethod yX4_claim, Cond.selects RX4 yX4_claim yX4_claim, Cond.initialized RX4, Cond.code yX4_claim cX4_claim 5 (some (.object "PageMonitor$Page")), Cond.fieldLink RX4 11 "PageMonitor$Store" "pages" "[LPageMonitor$Page;"]
def wsX5_table_r2 : List Cond := [Cond.fieldLink RX4 23 "PageMonitor$Page" "kind" "I", Cond.fieldLink RX4 27 "PageMonitor$Page" "owner" "I", Cond.methodLink RX5 74 yJ7_fill_53178, Cond.static yJ7_fill_53178, Cond.initialized RJ7, Cond.code yJ7_fill_53178 cJ7_fill_53178 4 none]
def wsX5_table : List Cond := .code yX5_table cX5_table 6 (some .int) :: ((wsX5_table_r1 ++ wsX5_table_r2) ++ wsX50 ++ wsX40 ++ wsX30)
def wsX5_data_r1 : List Cond := [Cond.fieldLink RX5 20 "PageMonitor" "store" "LPageMonitor$Store;", Cond.fieldLink RX5 59 "PageMonitor$Store" "pages" "[LPageMonitor$Page;", Cond.fieldLink RX5 112 "PageMonitor$Store" "rows" "[[I", Cond.methodLink RX5 116 arraycopyName, Cond.native arraycopyName, Cond.static arraycopyName, Cond.initialized "java/lang/System", Cond.fieldLink RX5 25 "PageMonitor" "notary" "LPageMonitor$Notary;", Cond.methodLink RX5 56 yX5_isPage, Cond.static yX5_isPage, Cond.initialized RX5, Cond.code yX5_isPage cX5_isPage 1 (some .boolean), Cond.methodLink RX5 102 yX5_isBlock, Cond.static yX5_isBlock, Cond.code yX5_isBlock cX5_isBlock 1 (some .boolean), Cond.methodLink RX5 45 yX5_isFrame, Cond.static yX5_isFrame, Cond.code yX5_isFrame cX5_isFrame 1 (some .boolean), Cond.methodLink RX5 105 yX5_areDataRights, Cond.static yX5_areDataRights, Cond.code yX5_areDataRights cX5_areDataRights 1 (some .boolean), Cond.methodLink RX5 84 yX5_refusalOfNew, Cond.instanceMethod yX5_refusalOfNew, Cond.selects RX5 yX5_refusalOfNew yX5_refusalOfNew]
def wsX5_data_r2 : List Cond := [Cond.code yX5_refusalOfNew cX5_refusalOfNew 4 (some .int), Cond.fieldLink RX5 63 "PageMonitor$Page" "kind" "I", Cond.methodLink RX5 129 yX5_refusalOfSpace, Cond.instanceMethod yX5_refusalOfSpace, Cond.selects RX5 yX5_refusalOfSpace yX5_refusalOfSpace, Cond.code yX5_refusalOfSpace cX5_refusalOfSpace 4 (some .int), Cond.fieldLink RX5 68 "PageMonitor$Page" "state" "I", Cond.methodLink RX5 108 yX4_hasRoom, Cond.instanceMethod yX4_hasRoom, Cond.selects RX4 yX4_hasRoom yX4_hasRoom, Cond.initialized RX4, Cond.code yX4_hasRoom cX4_hasRoom 4 (some .boolean), Cond.methodLink RX4 41 yX4_entriesFor, Cond.instanceMethod yX4_entriesFor, Cond.selects RX4 yX4_entriesFor yX4_entriesFor, Cond.code yX4_entriesFor cX4_entriesFor 4 (some (.array .int)), Cond.fieldLink RX4 34 "PageMonitor$Page" "tables" "[I", Cond.fieldLink RX4 11 "PageMonitor$Store" "pages" "[LPageMonitor$Page;", Cond.fieldLink RX4 38 "PageMonitor$Page" "entries" "[I", Cond.methodLink RX5 35 yX4_claim, Cond.instanceMethod yX4_claim, Cond.selects RX4 yX4_claim yX4_claim, Cond.code yX4_claim cX4_claim 5 (some (.object "PageMonitor$Page")), Cond.fieldLink RX4 23 "PageMonitor$Page" "kind" "I"]
def wsX5_data_r3 : List Cond := [Cond.fieldLink RX4 27 "PageMonitor$Page" "owner" "I", Cond.methodLink RX5 52 yX4_frameRow, Cond.instanceMethod yX4_frameRow, Cond.selects RX4 yX4_frameRow yX4_frameRow, Cond.code yX4_frameRow cX4_frameRow 2 (some (.array .int)), Cond.fieldLink RX4 19 "PageMonitor$Store" "rows" "[[I", Cond.methodLink RX5 122 yX4_map, Cond.instanceMethod yX4_map, Cond.selects RX4 yX4_map yX4_map, Cond.code yX4_map cX4_map 6 none, Cond.methodLink RX5 95 yX2_tell, Cond.instanceMethod yX2_tell, Cond.selects RX2 yX2_tell yX2_tell, Cond.initialized RX2, Cond.code yX2_tell cX2_tell 5 none, Cond.fieldLink RX2 22 "PageMonitor$Notary" "block" "[I", Cond.methodLink RX2 42 yJ7_fill_53178, Cond.static yJ7_fill_53178, Cond.initialized RJ7, Cond.code yJ7_fill_53178 cJ7_fill_53178 4 none, Cond.methodLink RX2 48 yX2_tellWords, Cond.instanceMethod yX2_tellWords, Cond.selects RX2 yX2_tellWords yX2_tellWords, Cond.code yX2_tellWords cX2_tellWords 3 none]
def wsX5_data_r4 : List Cond := [Cond.fieldLink RX2 18 "PageMonitor$Notary" "hasher" "LPageMonitor$Hasher;", Cond.fieldLink RX2 35 "PageMonitor$Page" "digest" "[I", Cond.fieldLink RX2 31 "PageMonitor$Page" "blocksTold" "I", Cond.methodLink RX2 52 yX0_take, Cond.instanceMethod yX0_take, Cond.selects RX0 yX0_take yX0_take, Cond.initialized RX0, Cond.code yX0_take cX0_take 16 none, Cond.fieldLink RX0 31 "PageMonitor$Hasher" "ADDED" "[I", Cond.fieldLink RX0 11 "PageMonitor$Hasher" "schedule" "[I", Cond.methodLink RX0 27 yX0_spread, Cond.instanceMethod yX0_spread, Cond.selects RX0 yX0_spread yX0_spread, Cond.code yX0_spread cX0_spread 7 none, Cond.methodLink RX0 21 arraycopyName, Cond.methodLink RX5 125 yX2_tellWords]
def wsX5_data : List Cond := .code yX5_data cX5_data 9 (some .int) :: ((wsX5_data_r1 ++ (wsX5_data_r2 ++ (wsX5_data_r3 ++ wsX5_data_r4))) ++ wsX50 ++ wsX40 ++ wsX30 ++ wsX20 ++ wsX00)
def wsX5_share_r1 : List Cond := [Cond.fieldLink RX5 20 "PageMonitor" "store" "LPageMonitor$Store;", Cond.fieldLink RX5 59 "PageMonitor$Store" "pages" "[LPageMonitor$Page;", Cond.fieldLink RX5 25 "PageMonitor" "notary" "LPageMonitor$Notary;", Cond.methodLink RX5 56 yX5_isPage, Cond.static yX5_isPage, Cond.initialized RX5, Cond.code yX5_isPage cX5_isPage 1 (some .boolean), Cond.methodLink RX5 102 yX5_isBlock, Cond.static yX5_isBlock, Cond.code yX5_isBlock cX5_isBlock 1 (some .boolean), Cond.methodLink RX5 45 yX5_isFrame, Cond.static yX5_isFrame, Cond.code yX5_isFrame cX5_isFrame 1 (some .boolean), Cond.methodLink RX5 129 yX5_refusalOfSpace, Cond.instanceMethod yX5_refusalOfSpace, Cond.selects RX5 yX5_refusalOfSpace yX5_refusalOfSpace, Cond.code yX5_refusalOfSpace cX5_refusalOfSpace 4 (some .int), Cond.fieldLink RX5 63 "PageMonitor$Page" "kind" "I", Cond.fieldLink RX5 68 "PageMonitor$Page" "state" "I", Cond.methodLink RX5 108 yX4_hasRoom, Cond.instanceMethod yX4_hasRoom, Cond.selects RX4 yX4_hasRoom yX4_hasRoom, Cond.initialized RX4, Cond.code yX4_hasRoom cX4_hasRoom 4 (some .boolean)]
def wsX5_share_r2 : List Cond := [Cond.methodLink RX4 41 yX4_entriesFor, Cond.instanceMethod yX4_entriesFor, Cond.selects RX4 yX4_entriesFor yX4_entriesFor, Cond.code yX4_entriesFor cX4_entriesFor 4 (some (.array .int)), Cond.fieldLink RX4 34 "PageMonitor$Page" "tables" "[I", Cond.fieldLink RX4 11 "PageMonitor$Store" "pages" "[LPageMonitor$Page;", Cond.fieldLink RX4 38 "PageMonitor$Page" "entries" "[I", Cond.methodLink RX5 122 yX4_map, Cond.instanceMethod yX4_map, Cond.selects RX4 yX4_map yX4_map, Cond.code yX4_map cX4_map 6 none, Cond.methodLink RX5 95 yX2_tell, Cond.instanceMethod yX2_tell, Cond.selects RX2 yX2_tell yX2_tell, Cond.initialized RX2, Cond.code yX2_tell cX2_tell 5 none, Cond.fieldLink RX2 22 "PageMonitor$Notary" "block" "[I", Cond.methodLink RX2 42 yJ7_fill_53178, Cond.static yJ7_fill_53178, Cond.initialized RJ7, Cond.code yJ7_fill_53178 cJ7_fill_53178 4 none, Cond.methodLink RX2 48 yX2_tellWords, Cond.instanceMethod yX2_tellWords, Cond.selects RX2 yX2_tellWords yX2_tellWords]
def wsX5_share_r3 : List Cond := [Cond.code yX2_tellWords cX2_tellWords 3 none, Cond.fieldLink RX2 18 "PageMonitor$Notary" "hasher" "LPageMonitor$Hasher;", Cond.fieldLink RX2 35 "PageMonitor$Page" "digest" "[I", Cond.fieldLink RX2 31 "PageMonitor$Page" "blocksTold" "I", Cond.methodLink RX2 52 yX0_take, Cond.instanceMethod yX0_take, Cond.selects RX0 yX0_take yX0_take, Cond.initialized RX0, Cond.code yX0_take cX0_take 16 none, Cond.fieldLink RX0 31 "PageMonitor$Hasher" "ADDED" "[I", Cond.fieldLink RX0 11 "PageMonitor$Hasher" "schedule" "[I", Cond.methodLink RX0 27 yX0_spread, Cond.instanceMethod yX0_spread, Cond.selects RX0 yX0_spread yX0_spread, Cond.code yX0_spread cX0_spread 7 none, Cond.methodLink RX0 21 arraycopyName, Cond.native arraycopyName, Cond.static arraycopyName, Cond.initialized "java/lang/System"]
def wsX5_share : List Cond := .code yX5_share cX5_share 7 (some .int) :: ((wsX5_share_r1 ++ (wsX5_share_r2 ++ wsX5_share_r3)) ++ wsX50 ++ wsX40 ++ wsX30 ++ wsX20 ++ wsX00)
def wsX5_spare : List Cond := .code yX5_spare cX5_spare 4 (some .int) :: ([.fieldLink RX5 20 "PageMonitor" "store" "LPageMonitor$Store;", .methodLink RX5 56 yX5_isPage, .static yX5_isPage, .initialized RX5, .code yX5_isPage cX5_isPage 1 (some .boolean), .methodLink RX5 84 yX5_refusalOfNew, .instanceMethod yX5_refusalOfNew, .selects RX5 yX5_refusalOfNew yX5_refusalOfNew, .code yX5_refusalOfNew cX5_refusalOfNew 4 (some .int), .fieldLink RX5 59 "PageMonitor$Store" "pages" "[LPageMonitor$Page;", .fieldLink RX5 63 "PageMonitor$Page" "kind" "I", .methodLink RX5 129 yX5_refusalOfSpace, .instanceMethod yX5_refusalOfSpace, .selects RX5 yX5_refusalOfSpace yX5_refusalOfSpace, .code yX5_refusalOfSpace cX5_refusalOfSpace 4 (some .int), .fieldLink RX5 68 "PageMonitor$Page" "state" "I", .methodLink RX5 35 yX4_claim, .instanceMethod yX4_claim, .selects RX4 yX4_claim yX4_claim, .initialized RX4, .code yX4_claim cX4_claim 5 (some (.object "PageMonitor$Page")), .fieldLink RX4 11 "PageMonitor$Store" "pages" "[LPageMonitor$Page;", .fieldLink RX4 23 "PageMonitor$Page" "kind" "I", .fieldLink RX4 27 "PageMonitor$Page" "owner" "I"] ++ wsX50 ++ wsX40 ++ wsX30)
def wsX5_finish_r1 : List Cond := [Cond.fieldLink RX5 20 "PageMonitor" "store" "LPageMonitor$Store;", Cond.fieldLink RX5 59 "PageMonitor$Store" "pages" "[LPageMonitor$Page;", Cond.fieldLink RX5 68 "PageMonitor$Page" "state" "I", Cond.fieldLink RX5 25 "PageMonitor" "notary" "LPageMonitor$Notary;", Cond.methodLink RX5 56 yX5_isPage, Cond.static yX5_isPage, Cond.initialized RX5, Cond.code yX5_isPage cX5_isPage 1 (some .boolean), Cond.methodLink RX5 129 yX5_refusalOfSpace, Cond.instanceMethod yX5_refusalOfSpace, Cond.selects RX5 yX5_refusalOfSpace yX5_refusalOfSpace, Cond.code yX5_refusalOfSpace cX5_refusalOfSpace 4 (some .int), Cond.fieldLink RX5 63 "PageMonitor$Page" "kind" "I", Cond.methodLink RX5 133 yX2_seal, Cond.instanceMethod yX2_seal, Cond.selects RX2 yX2_seal yX2_seal, Cond.initialized RX2, Cond.code yX2_seal cX2_seal 2 none, Cond.fieldLink RX2 18 "PageMonitor$Notary" "hasher" "LPageMonitor$Hasher;", Cond.fieldLink RX2 35 "PageMonitor$Page" "digest" "[I", Cond.fieldLink RX2 31 "PageMonitor$Page" "blocksTold" "I", Cond.fieldLink RX2 25 "PageMonitor$Page" "sealed" "Z", Cond.methodLink RX2 56 yX2_tell, Cond.instanceMethod yX2_tell]
def wsX5_finish_r2 : List Cond := [Cond.selects RX2 yX2_tell yX2_tell, Cond.code yX2_tell cX2_tell 5 none, Cond.fieldLink RX2 22 "PageMonitor$Notary" "block" "[I", Cond.methodLink RX2 42 yJ7_fill_53178, Cond.static yJ7_fill_53178, Cond.initialized RJ7, Cond.code yJ7_fill_53178 cJ7_fill_53178 4 none, Cond.methodLink RX2 48 yX2_tellWords, Cond.instanceMethod yX2_tellWords, Cond.selects RX2 yX2_tellWords yX2_tellWords, Cond.code yX2_tellWords cX2_tellWords 3 none, Cond.methodLink RX2 52 yX0_take, Cond.instanceMethod yX0_take, Cond.selects RX0 yX0_take yX0_take, Cond.initialized RX0, Cond.code yX0_take cX0_take 16 none, Cond.fieldLink RX0 31 "PageMonitor$Hasher" "ADDED" "[I", Cond.fieldLink RX0 11 "PageMonitor$Hasher" "schedule" "[I", Cond.methodLink RX0 27 yX0_spread, Cond.instanceMethod yX0_spread, Cond.selects RX0 yX0_spread yX0_spread, Cond.code yX0_spread cX0_spread 7 none, Cond.methodLink RX0 21 arraycopyName, Cond.native arraycopyName]
def wsX5_finish_r3 : List Cond := [Cond.static arraycopyName, Cond.initialized "java/lang/System", Cond.methodLink RX2 60 yX0_endAfter, Cond.instanceMethod yX0_endAfter, Cond.selects RX0 yX0_endAfter yX0_endAfter, Cond.code yX0_endAfter cX0_endAfter 2 (some (.array .int)), Cond.fieldLink RX0 15 "PageMonitor$Hasher" "padding" "[I", Cond.constant RX0 34 (-2147483648)]
def wsX5_finish : List Cond := .code yX5_finish cX5_finish 3 (some .int) :: ((wsX5_finish_r1 ++ (wsX5_finish_r2 ++ wsX5_finish_r3)) ++ wsX50 ++ wsX40 ++ wsX30 ++ wsX20 ++ wsX00)
def wsX5_stop : List Cond := .code yX5_stop cX5_stop 4 (some .int) :: ([.fieldLink RX5 20 "PageMonitor" "store" "LPageMonitor$Store;", .fieldLink RX5 59 "PageMonitor$Store" "pages" "[LPageMonitor$Page;", .fieldLink RX5 68 "PageMonitor$Page" "state" "I", .fieldLink RX5 136 "PageMonitor$Page" "owner" "I", .fieldLink RX5 91 "PageMonitor$Page" "entered" "Z", .methodLink RX5 56 yX5_isPage, .static yX5_isPage, .initialized RX5, .code yX5_isPage cX5_isPage 1 (some .boolean), .methodLink RX5 129 yX5_refusalOfSpace, .instanceMethod yX5_refusalOfSpace, .selects RX5 yX5_refusalOfSpace yX5_refusalOfSpace, .code yX5_refusalOfSpace cX5_refusalOfSpace 4 (some .int), .fieldLink RX5 63 "PageMonitor$Page" "kind" "I"] ++ wsX50 ++ wsX40 ++ wsX30)
def wsX5_homeOf : List Cond := .code yX5_homeOf cX5_homeOf 2 (some (.object "PageMonitor$Page")) :: ([.fieldLink RX5 63 "PageMonitor$Page" "kind" "I", .fieldLink RX5 20 "PageMonitor" "store" "LPageMonitor$Store;", .fieldLink RX5 59 "PageMonitor$Store" "pages" "[LPageMonitor$Page;", .fieldLink RX5 136 "PageMonitor$Page" "owner" "I"] ++ wsX30 ++ wsX50 ++ wsX40)
def wsX5_remove_r1 : List Cond := [Cond.fieldLink RX5 20 "PageMonitor" "store" "LPageMonitor$Store;", Cond.fieldLink RX5 59 "PageMonitor$Store" "pages" "[LPageMonitor$Page;", Cond.fieldLink RX5 63 "PageMonitor$Page" "kind" "I", Cond.fieldLink RX5 68 "PageMonitor$Page" "state" "I", Cond.methodLink RX5 56 yX5_isPage, Cond.static yX5_isPage, Cond.initialized RX5, Cond.code yX5_isPage cX5_isPage 1 (some .boolean), Cond.methodLink RX5 139 yX5_homeOf, Cond.instanceMethod yX5_homeOf, Cond.selects RX5 yX5_homeOf yX5_homeOf, Cond.code yX5_homeOf cX5_homeOf 2 (some (.object "PageMonitor$Page")), Cond.fieldLink RX5 136 "PageMonitor$Page" "owner" "I", Cond.methodLink RX5 143 yX4_countOwnedBy, Cond.instanceMethod yX4_countOwnedBy, Cond.selects RX4 yX4_countOwnedBy yX4_countOwnedBy, Cond.initialized RX4, Cond.code yX4_countOwnedBy cX4_countOwnedBy 4 (some .int), Cond.fieldLink RX4 11 "PageMonitor$Store" "pages" "[LPageMonitor$Page;", Cond.fieldLink RX4 27 "PageMonitor$Page" "owner" "I", Cond.methodLink RX5 35 yX4_claim, Cond.instanceMethod yX4_claim, Cond.selects RX4 yX4_claim yX4_claim, Cond.code yX4_claim cX4_claim 5 (some (.object "PageMonitor$Page"))]
def wsX5_remove_r2 : List Cond := [Cond.fieldLink RX4 23 "PageMonitor$Page" "kind" "I"]
def wsX5_remove : List Cond := .code yX5_remove cX5_remove 3 (some .int) :: ((wsX5_remove_r1 ++ wsX5_remove_r2) ++ wsX50 ++ wsX40 ++ wsX30)
def wsX5_refusalOfRun : List Cond := .code yX5_refusalOfRun cX5_refusalOfRun 5 (some .int) :: ([.fieldLink RX5 20 "PageMonitor" "store" "LPageMonitor$Store;", .fieldLink RX5 59 "PageMonitor$Store" "pages" "[LPageMonitor$Page;", .fieldLink RX5 63 "PageMonitor$Page" "kind" "I", .fieldLink RX5 68 "PageMonitor$Page" "state" "I", .fieldLink RX5 91 "PageMonitor$Page" "entered" "Z", .methodLink RX5 56 yX5_isPage, .static yX5_isPage, .initialized RX5, .code yX5_isPage cX5_isPage 1 (some .boolean), .methodLink RX5 139 yX5_homeOf, .instanceMethod yX5_homeOf, .selects RX5 yX5_homeOf yX5_homeOf, .code yX5_homeOf cX5_homeOf 2 (some (.object "PageMonitor$Page")), .fieldLink RX5 136 "PageMonitor$Page" "owner" "I"] ++ wsX50 ++ wsX40 ++ wsX30)
def wsX5_enter_r1 : List Cond := [Cond.fieldLink RX5 20 "PageMonitor" "store" "LPageMonitor$Store;", Cond.fieldLink RX5 59 "PageMonitor$Store" "pages" "[LPageMonitor$Page;", Cond.fieldLink RX5 151 "PageMonitor$Page" "registers" "[I", Cond.fieldLink RX5 88 "PageMonitor$Page" "entry" "I", Cond.fieldLink RX5 154 "PageMonitor$Page" "place" "I", Cond.fieldLink RX5 10 "PageMonitor" "machine" "LPageMonitor$Machine;", Cond.methodLink RX5 147 yX5_refusalOfRun, Cond.instanceMethod yX5_refusalOfRun, Cond.selects RX5 yX5_refusalOfRun yX5_refusalOfRun, Cond.initialized RX5, Cond.code yX5_refusalOfRun cX5_refusalOfRun 5 (some .int), Cond.fieldLink RX5 63 "PageMonitor$Page" "kind" "I", Cond.fieldLink RX5 68 "PageMonitor$Page" "state" "I", Cond.fieldLink RX5 91 "PageMonitor$Page" "entered" "Z", Cond.methodLink RX5 56 yX5_isPage, Cond.static yX5_isPage, Cond.code yX5_isPage cX5_isPage 1 (some .boolean), Cond.methodLink RX5 139 yX5_homeOf, Cond.instanceMethod yX5_homeOf, Cond.selects RX5 yX5_homeOf yX5_homeOf, Cond.code yX5_homeOf cX5_homeOf 2 (some (.object "PageMonitor$Page")), Cond.fieldLink RX5 136 "PageMonitor$Page" "owner" "I", Cond.methodLink RX5 74 yJ7_fill_53178, Cond.static yJ7_fill_53178]
def wsX5_enter_r2 : List Cond := [Cond.initialized RJ7, Cond.code yJ7_fill_53178 cJ7_fill_53178 4 none, Cond.methodLink RX5 157 yX1_run, Cond.instanceMethod yX1_run, Cond.selects RX1 yX1_run yX1_run, Cond.initialized RX1, Cond.code yX1_run cX1_run 7 (some .int), Cond.fieldLink RX1 12 "PageMonitor$Machine" "store" "LPageMonitor$Store;", Cond.fieldLink RX1 45 "PageMonitor$Store" "pages" "[LPageMonitor$Page;", Cond.fieldLink RX1 49 "PageMonitor$Page" "owner" "I", Cond.fieldLink RX1 54 "PageMonitor$Page" "place" "I", Cond.fieldLink RX1 29 "PageMonitor$Machine" "lastSteps" "I", Cond.fieldLink RX1 65 "PageMonitor$Page" "entered" "Z", Cond.fieldLink RX1 25 "PageMonitor$Machine" "lastResult" "I", Cond.methodLink RX1 57 yX4_rowAt, Cond.instanceMethod yX4_rowAt, Cond.selects RX4 yX4_rowAt yX4_rowAt, Cond.initialized RX4, Cond.code yX4_rowAt cX4_rowAt 7 (some (.array .int)), Cond.fieldLink RX4 19 "PageMonitor$Store" "rows" "[[I", Cond.methodLink RX4 41 yX4_entriesFor, Cond.instanceMethod yX4_entriesFor, Cond.selects RX4 yX4_entriesFor yX4_entriesFor, Cond.code yX4_entriesFor cX4_entriesFor 4 (some (.array .int))]
def wsX5_enter_r3 : List Cond := [Cond.fieldLink RX4 34 "PageMonitor$Page" "tables" "[I", Cond.fieldLink RX4 11 "PageMonitor$Store" "pages" "[LPageMonitor$Page;", Cond.fieldLink RX4 38 "PageMonitor$Page" "entries" "[I", Cond.static yX5_isBlock, Cond.code yX5_isBlock cX5_isBlock 1 (some .boolean), Cond.methodLink RX1 61 yX1_obey, Cond.instanceMethod yX1_obey, Cond.selects RX1 yX1_obey yX1_obey, Cond.code yX1_obey cX1_obey 9 (some .int), Cond.fieldLink RX1 69 "PageMonitor$Page" "registers" "[I", Cond.fieldLink RX1 86 "PageMonitor$Page" "digest" "[I", Cond.methodLink RX1 72 yX1_load, Cond.instanceMethod yX1_load, Cond.selects RX1 yX1_load yX1_load, Cond.code yX1_load cX1_load 6 (some .int), Cond.methodLink RX1 76 yX1_save, Cond.instanceMethod yX1_save, Cond.selects RX1 yX1_save yX1_save, Cond.code yX1_save cX1_save 5 (some .int), Cond.methodLink RX1 80 yX1_vouch, Cond.instanceMethod yX1_vouch, Cond.selects RX1 yX1_vouch yX1_vouch, Cond.code yX1_vouch cX1_vouch 5 (some .int), Cond.fieldLink RX1 32 "PageMonitor$Machine" "said" "[I"]
def wsX5_enter_r4 : List Cond := [Cond.fieldLink RX1 21 "PageMonitor$Machine" "notary" "LPageMonitor$Notary;", Cond.fieldLink RX1 42 "PageMonitor$Machine" "voucher" "[I", Cond.methodLink RX1 97 yX1_readEight, Cond.instanceMethod yX1_readEight, Cond.selects RX1 yX1_readEight yX1_readEight, Cond.code yX1_readEight cX1_readEight 6 (some .boolean), Cond.methodLink RX1 101 yX1_mayWriteEight, Cond.instanceMethod yX1_mayWriteEight, Cond.selects RX1 yX1_mayWriteEight yX1_mayWriteEight, Cond.code yX1_mayWriteEight cX1_mayWriteEight 4 (some .boolean), Cond.methodLink RX1 105 yX2_writeVoucher, Cond.instanceMethod yX2_writeVoucher, Cond.selects RX2 yX2_writeVoucher yX2_writeVoucher, Cond.initialized RX2, Cond.code yX2_writeVoucher cX2_writeVoucher 4 none, Cond.fieldLink RX2 18 "PageMonitor$Notary" "hasher" "LPageMonitor$Hasher;", Cond.fieldLink RX2 9 "PageMonitor$Notary" "secret" "[I", Cond.fieldLink RX2 22 "PageMonitor$Notary" "block" "[I", Cond.methodLink RX2 64 arraycopyName, Cond.native arraycopyName, Cond.static arraycopyName, Cond.initialized "java/lang/System", Cond.methodLink RX2 38 yX0_begin, Cond.instanceMethod yX0_begin]
def wsX5_enter_r5 : List Cond := [Cond.selects RX0 yX0_begin yX0_begin, Cond.initialized RX0, Cond.code yX0_begin cX0_begin 2 none, Cond.fieldLink RX0 18 "PageMonitor$Hasher" "START" "[I", Cond.methodLink RX0 21 arraycopyName, Cond.methodLink RX2 52 yX0_take, Cond.instanceMethod yX0_take, Cond.selects RX0 yX0_take yX0_take, Cond.code yX0_take cX0_take 16 none, Cond.fieldLink RX0 31 "PageMonitor$Hasher" "ADDED" "[I", Cond.fieldLink RX0 11 "PageMonitor$Hasher" "schedule" "[I", Cond.methodLink RX0 27 yX0_spread, Cond.instanceMethod yX0_spread, Cond.selects RX0 yX0_spread yX0_spread, Cond.code yX0_spread cX0_spread 7 none, Cond.methodLink RX2 42 yJ7_fill_53178, Cond.methodLink RX2 60 yX0_endAfter, Cond.instanceMethod yX0_endAfter, Cond.selects RX0 yX0_endAfter yX0_endAfter, Cond.code yX0_endAfter cX0_endAfter 2 (some (.array .int)), Cond.fieldLink RX0 15 "PageMonitor$Hasher" "padding" "[I", Cond.constant RX0 34 (-2147483648), Cond.methodLink RX1 83 yX1_compare, Cond.instanceMethod yX1_compare]
def wsX5_enter_r6 : List Cond := [Cond.selects RX1 yX1_compare yX1_compare, Cond.code yX1_compare cX1_compare 6 (some .int), Cond.fieldLink RX1 36 "PageMonitor$Machine" "claimedMeasure" "[I", Cond.fieldLink RX1 39 "PageMonitor$Machine" "claimedVoucher" "[I", Cond.methodLink RX1 89 yX4_useSpare, Cond.instanceMethod yX4_useSpare, Cond.selects RX4 yX4_useSpare yX4_useSpare, Cond.code yX4_useSpare cX4_useSpare 5 (some .boolean), Cond.fieldLink RX4 23 "PageMonitor$Page" "kind" "I", Cond.fieldLink RX4 27 "PageMonitor$Page" "owner" "I", Cond.static yX5_areDataRights, Cond.code yX5_areDataRights cX5_areDataRights 1 (some .boolean), Cond.methodLink RX4 51 yX4_hasRoom, Cond.instanceMethod yX4_hasRoom, Cond.selects RX4 yX4_hasRoom yX4_hasRoom, Cond.code yX4_hasRoom cX4_hasRoom 4 (some .boolean), Cond.methodLink RX4 55 yJ7_fill_53178, Cond.methodLink RX4 61 yX4_map, Cond.instanceMethod yX4_map, Cond.selects RX4 yX4_map yX4_map, Cond.code yX4_map cX4_map 6 none, Cond.methodLink RX1 93 yX4_giveBack, Cond.instanceMethod yX4_giveBack, Cond.selects RX4 yX4_giveBack yX4_giveBack]
def wsX5_enter_r7 : List Cond := [Cond.code yX4_giveBack cX4_giveBack 5 (some .int)]
def wsX5_enter : List Cond := .code yX5_enter cX5_enter 7 (some .int) :: ((wsX5_enter_r1 ++ (wsX5_enter_r2 ++ (wsX5_enter_r3 ++ (wsX5_enter_r4 ++ (wsX5_enter_r5 ++ (wsX5_enter_r6 ++ wsX5_enter_r7)))))) ++ wsX50 ++ wsX40 ++ wsX30 ++ wsX10 ++ wsX20 ++ wsX00)
def wsX5_resume_r1 : List Cond := [Cond.fieldLink RX5 10 "PageMonitor" "machine" "LPageMonitor$Machine;", Cond.fieldLink RX5 20 "PageMonitor" "store" "LPageMonitor$Store;", Cond.fieldLink RX5 59 "PageMonitor$Store" "pages" "[LPageMonitor$Page;", Cond.methodLink RX5 147 yX5_refusalOfRun, Cond.instanceMethod yX5_refusalOfRun, Cond.selects RX5 yX5_refusalOfRun yX5_refusalOfRun, Cond.initialized RX5, Cond.code yX5_refusalOfRun cX5_refusalOfRun 5 (some .int), Cond.fieldLink RX5 63 "PageMonitor$Page" "kind" "I", Cond.fieldLink RX5 68 "PageMonitor$Page" "state" "I", Cond.fieldLink RX5 91 "PageMonitor$Page" "entered" "Z", Cond.methodLink RX5 56 yX5_isPage, Cond.static yX5_isPage, Cond.code yX5_isPage cX5_isPage 1 (some .boolean), Cond.methodLink RX5 139 yX5_homeOf, Cond.instanceMethod yX5_homeOf, Cond.selects RX5 yX5_homeOf yX5_homeOf, Cond.code yX5_homeOf cX5_homeOf 2 (some (.object "PageMonitor$Page")), Cond.fieldLink RX5 136 "PageMonitor$Page" "owner" "I", Cond.methodLink RX5 157 yX1_run, Cond.instanceMethod yX1_run, Cond.selects RX1 yX1_run yX1_run, Cond.initialized RX1, Cond.code yX1_run cX1_run 7 (some .int)]
def wsX5_resume_r2 : List Cond := [Cond.fieldLink RX1 12 "PageMonitor$Machine" "store" "LPageMonitor$Store;", Cond.fieldLink RX1 45 "PageMonitor$Store" "pages" "[LPageMonitor$Page;", Cond.fieldLink RX1 49 "PageMonitor$Page" "owner" "I", Cond.fieldLink RX1 54 "PageMonitor$Page" "place" "I", Cond.fieldLink RX1 29 "PageMonitor$Machine" "lastSteps" "I", Cond.fieldLink RX1 65 "PageMonitor$Page" "entered" "Z", Cond.fieldLink RX1 25 "PageMonitor$Machine" "lastResult" "I", Cond.methodLink RX1 57 yX4_rowAt, Cond.instanceMethod yX4_rowAt, Cond.selects RX4 yX4_rowAt yX4_rowAt, Cond.initialized RX4, Cond.code yX4_rowAt cX4_rowAt 7 (some (.array .int)), Cond.fieldLink RX4 19 "PageMonitor$Store" "rows" "[[I", Cond.methodLink RX4 41 yX4_entriesFor, Cond.instanceMethod yX4_entriesFor, Cond.selects RX4 yX4_entriesFor yX4_entriesFor, Cond.code yX4_entriesFor cX4_entriesFor 4 (some (.array .int)), Cond.fieldLink RX4 34 "PageMonitor$Page" "tables" "[I", Cond.fieldLink RX4 11 "PageMonitor$Store" "pages" "[LPageMonitor$Page;", Cond.fieldLink RX4 38 "PageMonitor$Page" "entries" "[I", Cond.static yX5_isBlock, Cond.code yX5_isBlock cX5_isBlock 1 (some .boolean), Cond.methodLink RX1 61 yX1_obey, Cond.instanceMethod yX1_obey]
def wsX5_resume_r3 : List Cond := [Cond.selects RX1 yX1_obey yX1_obey, Cond.code yX1_obey cX1_obey 9 (some .int), Cond.fieldLink RX1 69 "PageMonitor$Page" "registers" "[I", Cond.fieldLink RX1 86 "PageMonitor$Page" "digest" "[I", Cond.methodLink RX1 72 yX1_load, Cond.instanceMethod yX1_load, Cond.selects RX1 yX1_load yX1_load, Cond.code yX1_load cX1_load 6 (some .int), Cond.methodLink RX1 76 yX1_save, Cond.instanceMethod yX1_save, Cond.selects RX1 yX1_save yX1_save, Cond.code yX1_save cX1_save 5 (some .int), Cond.methodLink RX1 80 yX1_vouch, Cond.instanceMethod yX1_vouch, Cond.selects RX1 yX1_vouch yX1_vouch, Cond.code yX1_vouch cX1_vouch 5 (some .int), Cond.fieldLink RX1 32 "PageMonitor$Machine" "said" "[I", Cond.fieldLink RX1 21 "PageMonitor$Machine" "notary" "LPageMonitor$Notary;", Cond.fieldLink RX1 42 "PageMonitor$Machine" "voucher" "[I", Cond.methodLink RX1 97 yX1_readEight, Cond.instanceMethod yX1_readEight, Cond.selects RX1 yX1_readEight yX1_readEight, Cond.code yX1_readEight cX1_readEight 6 (some .boolean), Cond.methodLink RX1 101 yX1_mayWriteEight]
def wsX5_resume_r4 : List Cond := [Cond.instanceMethod yX1_mayWriteEight, Cond.selects RX1 yX1_mayWriteEight yX1_mayWriteEight, Cond.code yX1_mayWriteEight cX1_mayWriteEight 4 (some .boolean), Cond.methodLink RX1 105 yX2_writeVoucher, Cond.instanceMethod yX2_writeVoucher, Cond.selects RX2 yX2_writeVoucher yX2_writeVoucher, Cond.initialized RX2, Cond.code yX2_writeVoucher cX2_writeVoucher 4 none, Cond.fieldLink RX2 18 "PageMonitor$Notary" "hasher" "LPageMonitor$Hasher;", Cond.fieldLink RX2 9 "PageMonitor$Notary" "secret" "[I", Cond.fieldLink RX2 22 "PageMonitor$Notary" "block" "[I", Cond.methodLink RX2 64 arraycopyName, Cond.native arraycopyName, Cond.static arraycopyName, Cond.initialized "java/lang/System", Cond.methodLink RX2 38 yX0_begin, Cond.instanceMethod yX0_begin, Cond.selects RX0 yX0_begin yX0_begin, Cond.initialized RX0, Cond.code yX0_begin cX0_begin 2 none, Cond.fieldLink RX0 18 "PageMonitor$Hasher" "START" "[I", Cond.methodLink RX0 21 arraycopyName, Cond.methodLink RX2 52 yX0_take, Cond.instanceMethod yX0_take]
def wsX5_resume_r5 : List Cond := [Cond.selects RX0 yX0_take yX0_take, Cond.code yX0_take cX0_take 16 none, Cond.fieldLink RX0 31 "PageMonitor$Hasher" "ADDED" "[I", Cond.fieldLink RX0 11 "PageMonitor$Hasher" "schedule" "[I", Cond.methodLink RX0 27 yX0_spread, Cond.instanceMethod yX0_spread, Cond.selects RX0 yX0_spread yX0_spread, Cond.code yX0_spread cX0_spread 7 none, Cond.methodLink RX2 42 yJ7_fill_53178, Cond.static yJ7_fill_53178, Cond.initialized RJ7, Cond.code yJ7_fill_53178 cJ7_fill_53178 4 none, Cond.methodLink RX2 60 yX0_endAfter, Cond.instanceMethod yX0_endAfter, Cond.selects RX0 yX0_endAfter yX0_endAfter, Cond.code yX0_endAfter cX0_endAfter 2 (some (.array .int)), Cond.fieldLink RX0 15 "PageMonitor$Hasher" "padding" "[I", Cond.constant RX0 34 (-2147483648), Cond.methodLink RX1 83 yX1_compare, Cond.instanceMethod yX1_compare, Cond.selects RX1 yX1_compare yX1_compare, Cond.code yX1_compare cX1_compare 6 (some .int), Cond.fieldLink RX1 36 "PageMonitor$Machine" "claimedMeasure" "[I", Cond.fieldLink RX1 39 "PageMonitor$Machine" "claimedVoucher" "[I"]
def wsX5_resume_r6 : List Cond := [Cond.methodLink RX1 89 yX4_useSpare, Cond.instanceMethod yX4_useSpare, Cond.selects RX4 yX4_useSpare yX4_useSpare, Cond.code yX4_useSpare cX4_useSpare 5 (some .boolean), Cond.fieldLink RX4 23 "PageMonitor$Page" "kind" "I", Cond.fieldLink RX4 27 "PageMonitor$Page" "owner" "I", Cond.static yX5_areDataRights, Cond.code yX5_areDataRights cX5_areDataRights 1 (some .boolean), Cond.methodLink RX4 51 yX4_hasRoom, Cond.instanceMethod yX4_hasRoom, Cond.selects RX4 yX4_hasRoom yX4_hasRoom, Cond.code yX4_hasRoom cX4_hasRoom 4 (some .boolean), Cond.methodLink RX4 55 yJ7_fill_53178, Cond.methodLink RX4 61 yX4_map, Cond.instanceMethod yX4_map, Cond.selects RX4 yX4_map yX4_map, Cond.code yX4_map cX4_map 6 none, Cond.methodLink RX1 93 yX4_giveBack, Cond.instanceMethod yX4_giveBack, Cond.selects RX4 yX4_giveBack yX4_giveBack, Cond.code yX4_giveBack cX4_giveBack 5 (some .int)]
def wsX5_resume : List Cond := .code yX5_resume cX5_resume 4 (some .int) :: ((wsX5_resume_r1 ++ (wsX5_resume_r2 ++ (wsX5_resume_r3 ++ (wsX5_resume_r4 ++ (wsX5_resume_r5 ++ wsX5_resume_r6))))) ++ wsX50 ++ wsX40 ++ wsX30 ++ wsX10 ++ wsX20 ++ wsX00)
def wsX5_result : List Cond := .code yX5_result cX5_result 1 (some .int) :: ([.fieldLink RX5 10 "PageMonitor" "machine" "LPageMonitor$Machine;", .fieldLink RX5 41 "PageMonitor$Machine" "lastResult" "I"] ++ wsX50 ++ wsX10)
def wsX5_steps : List Cond := .code yX5_steps cX5_steps 1 (some .int) :: ([.fieldLink RX5 10 "PageMonitor" "machine" "LPageMonitor$Machine;", .fieldLink RX5 161 "PageMonitor$Machine" "lastSteps" "I"] ++ wsX50 ++ wsX10)
def wsX5_stateOf : List Cond := .code yX5_stateOf cX5_stateOf 1 (some .int) :: ([.fieldLink RX5 63 "PageMonitor$Page" "kind" "I", .fieldLink RX5 68 "PageMonitor$Page" "state" "I", .fieldLink RX5 91 "PageMonitor$Page" "entered" "Z"] ++ wsX30)
def wsX5_told : List Cond := .code yX5_told cX5_told 4 (some .int) :: ([.classLink RX5 26 "java/lang/IndexOutOfBoundsException", .initialized "java/lang/IndexOutOfBoundsException", .classLink RX5 168 "java/lang/IllegalArgumentException", .initialized "java/lang/IllegalArgumentException", .fieldLink RX5 20 "PageMonitor" "store" "LPageMonitor$Store;", .fieldLink RX5 59 "PageMonitor$Store" "pages" "[LPageMonitor$Page;", .fieldLink RX5 63 "PageMonitor$Page" "kind" "I", .fieldLink RX5 136 "PageMonitor$Page" "owner" "I", .methodLink RX5 56 yX5_isPage, .static yX5_isPage, .initialized RX5, .code yX5_isPage cX5_isPage 1 (some .boolean), .methodLink RX5 164 yX5_stateOf, .static yX5_stateOf, .code yX5_stateOf cX5_stateOf 1 (some .int), .fieldLink RX5 68 "PageMonitor$Page" "state" "I", .fieldLink RX5 91 "PageMonitor$Page" "entered" "Z", .methodLink RX5 143 yX4_countOwnedBy, .instanceMethod yX4_countOwnedBy, .selects RX4 yX4_countOwnedBy yX4_countOwnedBy, .initialized RX4, .code yX4_countOwnedBy cX4_countOwnedBy 4 (some .int), .fieldLink RX4 11 "PageMonitor$Store" "pages" "[LPageMonitor$Page;", .fieldLink RX4 27 "PageMonitor$Page" "owner" "I"] ++ wsX50 ++ wsX40 ++ wsX30 ++ (vx_at0 RX5 28 "java/lang/IndexOutOfBoundsException" ["java/lang/RuntimeException", "java/lang/Exception"]).filter goodWord ++ (vx_at0 RX5 170 "java/lang/IllegalArgumentException" ["java/lang/RuntimeException", "java/lang/Exception"]).filter goodWord)
def wsX5_measure : List Cond := .code yX5_measure cX5_measure 4 (some .int) :: ([.classLink RX5 26 "java/lang/IndexOutOfBoundsException", .initialized "java/lang/IndexOutOfBoundsException", .classLink RX5 174 "java/lang/IllegalStateException", .initialized "java/lang/IllegalStateException", .fieldLink RX5 20 "PageMonitor" "store" "LPageMonitor$Store;", .fieldLink RX5 59 "PageMonitor$Store" "pages" "[LPageMonitor$Page;", .fieldLink RX5 63 "PageMonitor$Page" "kind" "I", .fieldLink RX5 171 "PageMonitor$Page" "sealed" "Z", .fieldLink RX5 177 "PageMonitor$Page" "digest" "[I", .methodLink RX5 56 yX5_isPage, .static yX5_isPage, .initialized RX5, .code yX5_isPage cX5_isPage 1 (some .boolean)] ++ wsX50 ++ wsX40 ++ wsX30 ++ (vx_at0 RX5 28 "java/lang/IndexOutOfBoundsException" ["java/lang/RuntimeException", "java/lang/Exception"]).filter goodWord ++ (vx_at0 RX5 176 "java/lang/IllegalStateException" ["java/lang/RuntimeException", "java/lang/Exception"]).filter goodWord)
def wsX6_free : List Cond := .code yX6_free cX6_free 2 none :: ([.fieldLink RX6 16 "PageMonitorModel" "kinds" "[I", .fieldLink RX6 19 "PageMonitorModel" "owners" "[I", .fieldLink RX6 162 "PageMonitorModel" "result" "I"] ++ wsX60)
def wsX6_init_r1 : List Cond := [Cond.methodLink RX6 1 objectInit, Cond.instanceMethod objectInit, Cond.code objectInit ⟨#[0xb1]⟩ 1 none, Cond.arrayClass .int, Cond.fieldLink RX6 7 "PageMonitorModel" "key" "[I", Cond.fieldLink RX6 13 "PageMonitorModel" "frames" "[I", Cond.fieldLink RX6 16 "PageMonitorModel" "kinds" "[I", Cond.fieldLink RX6 19 "PageMonitorModel" "owners" "[I", Cond.fieldLink RX6 22 "PageMonitorModel" "states" "[I", Cond.fieldLink RX6 25 "PageMonitorModel" "contents" "[I", Cond.fieldLink RX6 28 "PageMonitorModel" "entries" "[I", Cond.fieldLink RX6 31 "PageMonitorModel" "rights" "[I", Cond.fieldLink RX6 34 "PageMonitorModel" "tables" "[I", Cond.fieldLink RX6 37 "PageMonitorModel" "logs" "[I", Cond.fieldLink RX6 40 "PageMonitorModel" "logged" "[I", Cond.fieldLink RX6 43 "PageMonitorModel" "measures" "[I", Cond.arrayClass .boolean, Cond.fieldLink RX6 46 "PageMonitorModel" "measured" "[Z", Cond.fieldLink RX6 50 "PageMonitorModel" "starts" "[I", Cond.fieldLink RX6 53 "PageMonitorModel" "entered" "[Z", Cond.fieldLink RX6 56 "PageMonitorModel" "kept" "[I", Cond.fieldLink RX6 59 "PageMonitorModel" "\x72" "[I", Cond.constant RX6 62 (1116352408), Cond.constant RX6 63 (1899447441)]
def wsX6_init_r2 : List Cond := [Cond.constant RX6 64 (-1245643825), Cond.constant RX6 65 (-373957723), Cond.constant RX6 66 (961987163), Cond.constant RX6 67 (1508970993), Cond.constant RX6 68 (-1841331548), Cond.constant RX6 69 (-1424204075), Cond.constant RX6 70 (-670586216), Cond.constant RX6 71 (310598401), Cond.constant RX6 72 (607225278), Cond.constant RX6 73 (1426881987), Cond.constant RX6 74 (1925078388), Cond.constant RX6 75 (-2132889090), Cond.constant RX6 76 (-1680079193), Cond.constant RX6 77 (-1046744716), Cond.constant RX6 78 (-459576895), Cond.constant RX6 79 (-272742522), Cond.constant RX6 80 (264347078), Cond.constant RX6 81 (604807628), Cond.constant RX6 82 (770255983), Cond.constant RX6 83 (1249150122), Cond.constant RX6 84 (1555081692), Cond.constant RX6 85 (1996064986), Cond.constant RX6 86 (-1740746414), Cond.constant RX6 87 (-1473132947)]
def wsX6_init_r3 : List Cond := [Cond.constant RX6 88 (-1341970488), Cond.constant RX6 89 (-1084653625), Cond.constant RX6 90 (-958395405), Cond.constant RX6 91 (-710438585), Cond.constant RX6 92 (113926993), Cond.constant RX6 93 (338241895), Cond.constant RX6 94 (666307205), Cond.constant RX6 95 (773529912), Cond.constant RX6 96 (1294757372), Cond.constant RX6 97 (1396182291), Cond.constant RX6 98 (1695183700), Cond.constant RX6 99 (1986661051), Cond.constant RX6 100 (-2117940946), Cond.constant RX6 101 (-1838011259), Cond.constant RX6 102 (-1564481375), Cond.constant RX6 103 (-1474664885), Cond.constant RX6 104 (-1035236496), Cond.constant RX6 105 (-949202525), Cond.constant RX6 106 (-778901479), Cond.constant RX6 107 (-694614492), Cond.constant RX6 108 (-200395387), Cond.constant RX6 109 (275423344), Cond.constant RX6 110 (430227734), Cond.constant RX6 111 (506948616)]
def wsX6_init_r4 : List Cond := [Cond.constant RX6 112 (659060556), Cond.constant RX6 113 (883997877), Cond.constant RX6 114 (958139571), Cond.constant RX6 115 (1322822218), Cond.constant RX6 116 (1537002063), Cond.constant RX6 117 (1747873779), Cond.constant RX6 118 (1955562222), Cond.constant RX6 119 (2024104815), Cond.constant RX6 120 (-2067236844), Cond.constant RX6 121 (-1933114872), Cond.constant RX6 122 (-1866530822), Cond.constant RX6 123 (-1538233109), Cond.constant RX6 124 (-1090935817), Cond.constant RX6 125 (-965641998), Cond.fieldLink RX6 126 "PageMonitorModel" "constants" "[I", Cond.constant RX6 129 (1779033703), Cond.constant RX6 130 (-1150833019), Cond.constant RX6 131 (1013904242), Cond.constant RX6 132 (-1521486534), Cond.constant RX6 133 (1359893119), Cond.constant RX6 134 (-1694144372), Cond.constant RX6 135 (528734635), Cond.constant RX6 136 (1541459225), Cond.fieldLink RX6 137 "PageMonitorModel" "begins" "[I"]
def wsX6_init_r5 : List Cond := [Cond.fieldLink RX6 140 "PageMonitorModel" "message" "[I", Cond.fieldLink RX6 143 "PageMonitorModel" "w" "[I", Cond.fieldLink RX6 146 "PageMonitorModel" "digest" "[I", Cond.fieldLink RX6 149 "PageMonitorModel" "v" "[I", Cond.fieldLink RX6 152 "PageMonitorModel" "told" "[I", Cond.methodLink RX6 155 yX6_free, Cond.instanceMethod yX6_free, Cond.selects RX6 yX6_free yX6_free, Cond.initialized RX6, Cond.code yX6_free cX6_free 2 none, Cond.fieldLink RX6 162 "PageMonitorModel" "result" "I"]
def wsX6_init : List Cond := .code yX6_init cX6_init 1 none :: ((wsX6_init_r1 ++ (wsX6_init_r2 ++ (wsX6_init_r3 ++ (wsX6_init_r4 ++ wsX6_init_r5)))) ++ wsX60)
def wsX6_thrown : List Cond := .code yX6_thrown cX6_thrown 1 (some .int) :: ([.fieldLink RX6 158 "PageMonitorModel" "thrown" "I"] ++ wsX60)
def wsX6_turned : List Cond := .code yX6_turned cX6_turned 2 (some .int) :: ([])
def wsX6_block : List Cond := .code yX6_block cX6_block 8 none :: ([.fieldLink RX6 143 "PageMonitorModel" "w" "[I", .fieldLink RX6 140 "PageMonitorModel" "message" "[I", .fieldLink RX6 149 "PageMonitorModel" "v" "[I", .fieldLink RX6 146 "PageMonitorModel" "digest" "[I", .fieldLink RX6 126 "PageMonitorModel" "constants" "[I", .methodLink RX6 165 yX6_turned, .static yX6_turned, .initialized RX6, .code yX6_turned cX6_turned 2 (some .int)] ++ wsX60)
def wsX6_hash : List Cond := .code yX6_hash cX6_hash 3 none :: ([.fieldLink RX6 146 "PageMonitorModel" "digest" "[I", .fieldLink RX6 137 "PageMonitorModel" "begins" "[I", .fieldLink RX6 140 "PageMonitorModel" "message" "[I", .constant RX6 171 (-2147483648), .methodLink RX6 172 yX6_block, .instanceMethod yX6_block, .selects RX6 yX6_block yX6_block, .initialized RX6, .code yX6_block cX6_block 8 none, .fieldLink RX6 143 "PageMonitorModel" "w" "[I", .fieldLink RX6 149 "PageMonitorModel" "v" "[I", .fieldLink RX6 126 "PageMonitorModel" "constants" "[I", .methodLink RX6 165 yX6_turned, .static yX6_turned, .code yX6_turned cX6_turned 2 (some .int)] ++ wsX60)
def wsX6_voucher : List Cond := .code yX6_voucher cX6_voucher 4 none :: ([.fieldLink RX6 140 "PageMonitorModel" "message" "[I", .fieldLink RX6 7 "PageMonitorModel" "key" "[I", .methodLink RX6 176 yX6_hash, .instanceMethod yX6_hash, .selects RX6 yX6_hash yX6_hash, .initialized RX6, .code yX6_hash cX6_hash 3 none, .fieldLink RX6 146 "PageMonitorModel" "digest" "[I", .fieldLink RX6 137 "PageMonitorModel" "begins" "[I", .constant RX6 171 (-2147483648), .methodLink RX6 172 yX6_block, .instanceMethod yX6_block, .selects RX6 yX6_block yX6_block, .code yX6_block cX6_block 8 none, .fieldLink RX6 143 "PageMonitorModel" "w" "[I", .fieldLink RX6 149 "PageMonitorModel" "v" "[I", .fieldLink RX6 126 "PageMonitorModel" "constants" "[I", .methodLink RX6 165 yX6_turned, .static yX6_turned, .code yX6_turned cX6_turned 2 (some .int)] ++ wsX60)
def wsX6_key : List Cond := .code yX6_key cX6_key 3 none :: ([.fieldLink RX6 158 "PageMonitorModel" "thrown" "I", .fieldLink RX6 7 "PageMonitorModel" "key" "[I", .methodLink RX6 155 yX6_free, .instanceMethod yX6_free, .selects RX6 yX6_free yX6_free, .initialized RX6, .code yX6_free cX6_free 2 none, .fieldLink RX6 16 "PageMonitorModel" "kinds" "[I", .fieldLink RX6 19 "PageMonitorModel" "owners" "[I", .fieldLink RX6 162 "PageMonitorModel" "result" "I"] ++ wsX60)
def wsX6_noFrame : List Cond := .code yX6_noFrame cX6_noFrame 1 (some .boolean) :: ([])
def wsX6_poke : List Cond := .code yX6_poke cX6_poke 5 (some .int) :: ([.fieldLink RX6 158 "PageMonitorModel" "thrown" "I", .fieldLink RX6 13 "PageMonitorModel" "frames" "[I", .methodLink RX6 179 yX6_noFrame, .static yX6_noFrame, .initialized RX6, .code yX6_noFrame cX6_noFrame 1 (some .boolean)] ++ wsX60)
def wsX6_peek : List Cond := .code yX6_peek cX6_peek 3 (some .int) :: ([.fieldLink RX6 158 "PageMonitorModel" "thrown" "I", .fieldLink RX6 13 "PageMonitorModel" "frames" "[I", .methodLink RX6 179 yX6_noFrame, .static yX6_noFrame, .initialized RX6, .code yX6_noFrame cX6_noFrame 1 (some .boolean)] ++ wsX60)
def wsX6_noPage : List Cond := .code yX6_noPage cX6_noPage 1 (some .boolean) :: ([])
def wsX6_begin : List Cond := .code yX6_begin cX6_begin 1 none :: ([.fieldLink RX6 158 "PageMonitorModel" "thrown" "I", .fieldLink RX6 183 "PageMonitorModel" "least" "I"] ++ wsX60)
def wsX6_wrong : List Cond := .code yX6_wrong cX6_wrong 3 none :: ([.fieldLink RX6 183 "PageMonitorModel" "least" "I"] ++ wsX60)
def wsX6_isKind : List Cond := .code yX6_isKind cX6_isKind 3 (some .boolean) :: ([.fieldLink RX6 16 "PageMonitorModel" "kinds" "[I", .methodLink RX6 186 yX6_noPage, .static yX6_noPage, .initialized RX6, .code yX6_noPage cX6_noPage 1 (some .boolean)] ++ wsX60)
def wsX6_wantFree : List Cond := .code yX6_wantFree cX6_wantFree 2 none :: ([.methodLink RX6 189 yX6_isKind, .instanceMethod yX6_isKind, .selects RX6 yX6_isKind yX6_isKind, .initialized RX6, .code yX6_isKind cX6_isKind 3 (some .boolean), .fieldLink RX6 16 "PageMonitorModel" "kinds" "[I", .methodLink RX6 186 yX6_noPage, .static yX6_noPage, .code yX6_noPage cX6_noPage 1 (some .boolean), .methodLink RX6 193 yX6_wrong, .instanceMethod yX6_wrong, .selects RX6 yX6_wrong yX6_wrong, .code yX6_wrong cX6_wrong 3 none, .fieldLink RX6 183 "PageMonitorModel" "least" "I"] ++ wsX60)
def wsX6_wantSpace : List Cond := .code yX6_wantSpace cX6_wantSpace 3 none :: ([.fieldLink RX6 183 "PageMonitorModel" "least" "I", .fieldLink RX6 22 "PageMonitorModel" "states" "[I", .methodLink RX6 189 yX6_isKind, .instanceMethod yX6_isKind, .selects RX6 yX6_isKind yX6_isKind, .initialized RX6, .code yX6_isKind cX6_isKind 3 (some .boolean), .fieldLink RX6 16 "PageMonitorModel" "kinds" "[I", .methodLink RX6 186 yX6_noPage, .static yX6_noPage, .code yX6_noPage cX6_noPage 1 (some .boolean), .methodLink RX6 193 yX6_wrong, .instanceMethod yX6_wrong, .selects RX6 yX6_wrong yX6_wrong, .code yX6_wrong cX6_wrong 3 none] ++ wsX60)
def wsX6_tableOf : List Cond := .code yX6_tableOf cX6_tableOf 3 (some .int) :: ([.fieldLink RX6 34 "PageMonitorModel" "tables" "[I"] ++ wsX60)
def wsX6_entryOf : List Cond := .code yX6_entryOf cX6_entryOf 3 (some .int) :: ([.methodLink RX6 197 yX6_tableOf, .instanceMethod yX6_tableOf, .selects RX6 yX6_tableOf yX6_tableOf, .initialized RX6, .code yX6_tableOf cX6_tableOf 3 (some .int), .fieldLink RX6 34 "PageMonitorModel" "tables" "[I"] ++ wsX60)
def wsX6_isTaken : List Cond := .code yX6_isTaken cX6_isTaken 3 (some .boolean) :: ([.fieldLink RX6 28 "PageMonitorModel" "entries" "[I", .methodLink RX6 197 yX6_tableOf, .instanceMethod yX6_tableOf, .selects RX6 yX6_tableOf yX6_tableOf, .initialized RX6, .code yX6_tableOf cX6_tableOf 3 (some .int), .fieldLink RX6 34 "PageMonitorModel" "tables" "[I", .methodLink RX6 200 yX6_entryOf, .instanceMethod yX6_entryOf, .selects RX6 yX6_entryOf yX6_entryOf, .code yX6_entryOf cX6_entryOf 3 (some .int)] ++ wsX60)
def wsX6_noBlock : List Cond := .code yX6_noBlock cX6_noBlock 1 (some .boolean) :: ([])
def wsX6_become : List Cond := .code yX6_become cX6_become 4 none :: ([.fieldLink RX6 16 "PageMonitorModel" "kinds" "[I", .fieldLink RX6 19 "PageMonitorModel" "owners" "[I"] ++ wsX60)
def wsX6_tell : List Cond := .code yX6_tell cX6_tell 7 none :: ([.fieldLink RX6 40 "PageMonitorModel" "logged" "[I", .fieldLink RX6 37 "PageMonitorModel" "logs" "[I"] ++ wsX60)
def wsX6_space_r1 : List Cond := [Cond.fieldLink RX6 183 "PageMonitorModel" "least" "I", Cond.fieldLink RX6 22 "PageMonitorModel" "states" "[I", Cond.fieldLink RX6 46 "PageMonitorModel" "measured" "[Z", Cond.fieldLink RX6 40 "PageMonitorModel" "logged" "[I", Cond.fieldLink RX6 34 "PageMonitorModel" "tables" "[I", Cond.methodLink RX6 203 yX6_begin, Cond.instanceMethod yX6_begin, Cond.selects RX6 yX6_begin yX6_begin, Cond.initialized RX6, Cond.code yX6_begin cX6_begin 1 none, Cond.fieldLink RX6 158 "PageMonitorModel" "thrown" "I", Cond.methodLink RX6 186 yX6_noPage, Cond.static yX6_noPage, Cond.code yX6_noPage cX6_noPage 1 (some .boolean), Cond.methodLink RX6 193 yX6_wrong, Cond.instanceMethod yX6_wrong, Cond.selects RX6 yX6_wrong yX6_wrong, Cond.code yX6_wrong cX6_wrong 3 none, Cond.methodLink RX6 206 yX6_wantFree, Cond.instanceMethod yX6_wantFree, Cond.selects RX6 yX6_wantFree yX6_wantFree, Cond.code yX6_wantFree cX6_wantFree 2 none, Cond.methodLink RX6 189 yX6_isKind, Cond.instanceMethod yX6_isKind]
def wsX6_space_r2 : List Cond := [Cond.selects RX6 yX6_isKind yX6_isKind, Cond.code yX6_isKind cX6_isKind 3 (some .boolean), Cond.fieldLink RX6 16 "PageMonitorModel" "kinds" "[I", Cond.methodLink RX6 209 yX6_become, Cond.instanceMethod yX6_become, Cond.selects RX6 yX6_become yX6_become, Cond.code yX6_become cX6_become 4 none, Cond.fieldLink RX6 19 "PageMonitorModel" "owners" "[I"]
def wsX6_space : List Cond := .code yX6_space cX6_space 3 (some .int) :: ((wsX6_space_r1 ++ wsX6_space_r2) ++ wsX60)
def wsX6_thread_r1 : List Cond := [Cond.fieldLink RX6 183 "PageMonitorModel" "least" "I", Cond.fieldLink RX6 50 "PageMonitorModel" "starts" "[I", Cond.fieldLink RX6 53 "PageMonitorModel" "entered" "[Z", Cond.methodLink RX6 203 yX6_begin, Cond.instanceMethod yX6_begin, Cond.selects RX6 yX6_begin yX6_begin, Cond.initialized RX6, Cond.code yX6_begin cX6_begin 1 none, Cond.fieldLink RX6 158 "PageMonitorModel" "thrown" "I", Cond.methodLink RX6 186 yX6_noPage, Cond.static yX6_noPage, Cond.code yX6_noPage cX6_noPage 1 (some .boolean), Cond.methodLink RX6 193 yX6_wrong, Cond.instanceMethod yX6_wrong, Cond.selects RX6 yX6_wrong yX6_wrong, Cond.code yX6_wrong cX6_wrong 3 none, Cond.methodLink RX6 206 yX6_wantFree, Cond.instanceMethod yX6_wantFree, Cond.selects RX6 yX6_wantFree yX6_wantFree, Cond.code yX6_wantFree cX6_wantFree 2 none, Cond.methodLink RX6 189 yX6_isKind, Cond.instanceMethod yX6_isKind, Cond.selects RX6 yX6_isKind yX6_isKind, Cond.code yX6_isKind cX6_isKind 3 (some .boolean)]
def wsX6_thread_r2 : List Cond := [Cond.fieldLink RX6 16 "PageMonitorModel" "kinds" "[I", Cond.methodLink RX6 213 yX6_wantSpace, Cond.instanceMethod yX6_wantSpace, Cond.selects RX6 yX6_wantSpace yX6_wantSpace, Cond.code yX6_wantSpace cX6_wantSpace 3 none, Cond.fieldLink RX6 22 "PageMonitorModel" "states" "[I", Cond.methodLink RX6 209 yX6_become, Cond.instanceMethod yX6_become, Cond.selects RX6 yX6_become yX6_become, Cond.code yX6_become cX6_become 4 none, Cond.fieldLink RX6 19 "PageMonitorModel" "owners" "[I", Cond.methodLink RX6 217 yX6_tell, Cond.instanceMethod yX6_tell, Cond.selects RX6 yX6_tell yX6_tell, Cond.code yX6_tell cX6_tell 7 none, Cond.fieldLink RX6 40 "PageMonitorModel" "logged" "[I", Cond.fieldLink RX6 37 "PageMonitorModel" "logs" "[I"]
def wsX6_thread : List Cond := .code yX6_thread cX6_thread 4 (some .int) :: ((wsX6_thread_r1 ++ wsX6_thread_r2) ++ wsX60)
def wsX6_table_r1 : List Cond := [Cond.fieldLink RX6 183 "PageMonitorModel" "least" "I", Cond.fieldLink RX6 34 "PageMonitorModel" "tables" "[I", Cond.fieldLink RX6 28 "PageMonitorModel" "entries" "[I", Cond.methodLink RX6 203 yX6_begin, Cond.instanceMethod yX6_begin, Cond.selects RX6 yX6_begin yX6_begin, Cond.initialized RX6, Cond.code yX6_begin cX6_begin 1 none, Cond.fieldLink RX6 158 "PageMonitorModel" "thrown" "I", Cond.methodLink RX6 186 yX6_noPage, Cond.static yX6_noPage, Cond.code yX6_noPage cX6_noPage 1 (some .boolean), Cond.methodLink RX6 193 yX6_wrong, Cond.instanceMethod yX6_wrong, Cond.selects RX6 yX6_wrong yX6_wrong, Cond.code yX6_wrong cX6_wrong 3 none, Cond.methodLink RX6 206 yX6_wantFree, Cond.instanceMethod yX6_wantFree, Cond.selects RX6 yX6_wantFree yX6_wantFree, Cond.code yX6_wantFree cX6_wantFree 2 none, Cond.methodLink RX6 189 yX6_isKind, Cond.instanceMethod yX6_isKind, Cond.selects RX6 yX6_isKind yX6_isKind, Cond.code yX6_isKind cX6_isKind 3 (some .boolean)]
def wsX6_table_r2 : List Cond := [Cond.fieldLink RX6 16 "PageMonitorModel" "kinds" "[I", Cond.methodLink RX6 213 yX6_wantSpace, Cond.instanceMethod yX6_wantSpace, Cond.selects RX6 yX6_wantSpace yX6_wantSpace, Cond.code yX6_wantSpace cX6_wantSpace 3 none, Cond.fieldLink RX6 22 "PageMonitorModel" "states" "[I", Cond.methodLink RX6 209 yX6_become, Cond.instanceMethod yX6_become, Cond.selects RX6 yX6_become yX6_become, Cond.code yX6_become cX6_become 4 none, Cond.fieldLink RX6 19 "PageMonitorModel" "owners" "[I"]
def wsX6_table : List Cond := .code yX6_table cX6_table 5 (some .int) :: ((wsX6_table_r1 ++ wsX6_table_r2) ++ wsX60)
def wsX6_data_r1 : List Cond := [Cond.fieldLink RX6 183 "PageMonitorModel" "least" "I", Cond.fieldLink RX6 28 "PageMonitorModel" "entries" "[I", Cond.fieldLink RX6 31 "PageMonitorModel" "rights" "[I", Cond.fieldLink RX6 25 "PageMonitorModel" "contents" "[I", Cond.fieldLink RX6 13 "PageMonitorModel" "frames" "[I", Cond.fieldLink RX6 37 "PageMonitorModel" "logs" "[I", Cond.fieldLink RX6 40 "PageMonitorModel" "logged" "[I", Cond.methodLink RX6 203 yX6_begin, Cond.instanceMethod yX6_begin, Cond.selects RX6 yX6_begin yX6_begin, Cond.initialized RX6, Cond.code yX6_begin cX6_begin 1 none, Cond.fieldLink RX6 158 "PageMonitorModel" "thrown" "I", Cond.methodLink RX6 186 yX6_noPage, Cond.static yX6_noPage, Cond.code yX6_noPage cX6_noPage 1 (some .boolean), Cond.methodLink RX6 221 yX6_noBlock, Cond.static yX6_noBlock, Cond.code yX6_noBlock cX6_noBlock 1 (some .boolean), Cond.methodLink RX6 179 yX6_noFrame, Cond.static yX6_noFrame, Cond.code yX6_noFrame cX6_noFrame 1 (some .boolean), Cond.methodLink RX6 193 yX6_wrong, Cond.instanceMethod yX6_wrong]
def wsX6_data_r2 : List Cond := [Cond.selects RX6 yX6_wrong yX6_wrong, Cond.code yX6_wrong cX6_wrong 3 none, Cond.methodLink RX6 206 yX6_wantFree, Cond.instanceMethod yX6_wantFree, Cond.selects RX6 yX6_wantFree yX6_wantFree, Cond.code yX6_wantFree cX6_wantFree 2 none, Cond.methodLink RX6 189 yX6_isKind, Cond.instanceMethod yX6_isKind, Cond.selects RX6 yX6_isKind yX6_isKind, Cond.code yX6_isKind cX6_isKind 3 (some .boolean), Cond.fieldLink RX6 16 "PageMonitorModel" "kinds" "[I", Cond.methodLink RX6 213 yX6_wantSpace, Cond.instanceMethod yX6_wantSpace, Cond.selects RX6 yX6_wantSpace yX6_wantSpace, Cond.code yX6_wantSpace cX6_wantSpace 3 none, Cond.fieldLink RX6 22 "PageMonitorModel" "states" "[I", Cond.methodLink RX6 224 yX6_isTaken, Cond.instanceMethod yX6_isTaken, Cond.selects RX6 yX6_isTaken yX6_isTaken, Cond.code yX6_isTaken cX6_isTaken 3 (some .boolean), Cond.methodLink RX6 197 yX6_tableOf, Cond.instanceMethod yX6_tableOf, Cond.selects RX6 yX6_tableOf yX6_tableOf, Cond.code yX6_tableOf cX6_tableOf 3 (some .int)]
def wsX6_data_r3 : List Cond := [Cond.fieldLink RX6 34 "PageMonitorModel" "tables" "[I", Cond.methodLink RX6 200 yX6_entryOf, Cond.instanceMethod yX6_entryOf, Cond.selects RX6 yX6_entryOf yX6_entryOf, Cond.code yX6_entryOf cX6_entryOf 3 (some .int), Cond.methodLink RX6 209 yX6_become, Cond.instanceMethod yX6_become, Cond.selects RX6 yX6_become yX6_become, Cond.code yX6_become cX6_become 4 none, Cond.fieldLink RX6 19 "PageMonitorModel" "owners" "[I", Cond.methodLink RX6 217 yX6_tell, Cond.instanceMethod yX6_tell, Cond.selects RX6 yX6_tell yX6_tell, Cond.code yX6_tell cX6_tell 7 none]
def wsX6_data : List Cond := .code yX6_data cX6_data 7 (some .int) :: ((wsX6_data_r1 ++ (wsX6_data_r2 ++ wsX6_data_r3)) ++ wsX60)
def wsX6_share_r1 : List Cond := [Cond.fieldLink RX6 183 "PageMonitorModel" "least" "I", Cond.fieldLink RX6 28 "PageMonitorModel" "entries" "[I", Cond.fieldLink RX6 31 "PageMonitorModel" "rights" "[I", Cond.methodLink RX6 203 yX6_begin, Cond.instanceMethod yX6_begin, Cond.selects RX6 yX6_begin yX6_begin, Cond.initialized RX6, Cond.code yX6_begin cX6_begin 1 none, Cond.fieldLink RX6 158 "PageMonitorModel" "thrown" "I", Cond.methodLink RX6 186 yX6_noPage, Cond.static yX6_noPage, Cond.code yX6_noPage cX6_noPage 1 (some .boolean), Cond.methodLink RX6 221 yX6_noBlock, Cond.static yX6_noBlock, Cond.code yX6_noBlock cX6_noBlock 1 (some .boolean), Cond.methodLink RX6 179 yX6_noFrame, Cond.static yX6_noFrame, Cond.code yX6_noFrame cX6_noFrame 1 (some .boolean), Cond.methodLink RX6 193 yX6_wrong, Cond.instanceMethod yX6_wrong, Cond.selects RX6 yX6_wrong yX6_wrong, Cond.code yX6_wrong cX6_wrong 3 none, Cond.methodLink RX6 213 yX6_wantSpace, Cond.instanceMethod yX6_wantSpace]
def wsX6_share_r2 : List Cond := [Cond.selects RX6 yX6_wantSpace yX6_wantSpace, Cond.code yX6_wantSpace cX6_wantSpace 3 none, Cond.fieldLink RX6 22 "PageMonitorModel" "states" "[I", Cond.methodLink RX6 189 yX6_isKind, Cond.instanceMethod yX6_isKind, Cond.selects RX6 yX6_isKind yX6_isKind, Cond.code yX6_isKind cX6_isKind 3 (some .boolean), Cond.fieldLink RX6 16 "PageMonitorModel" "kinds" "[I", Cond.methodLink RX6 224 yX6_isTaken, Cond.instanceMethod yX6_isTaken, Cond.selects RX6 yX6_isTaken yX6_isTaken, Cond.code yX6_isTaken cX6_isTaken 3 (some .boolean), Cond.methodLink RX6 197 yX6_tableOf, Cond.instanceMethod yX6_tableOf, Cond.selects RX6 yX6_tableOf yX6_tableOf, Cond.code yX6_tableOf cX6_tableOf 3 (some .int), Cond.fieldLink RX6 34 "PageMonitorModel" "tables" "[I", Cond.methodLink RX6 200 yX6_entryOf, Cond.instanceMethod yX6_entryOf, Cond.selects RX6 yX6_entryOf yX6_entryOf, Cond.code yX6_entryOf cX6_entryOf 3 (some .int), Cond.methodLink RX6 217 yX6_tell, Cond.instanceMethod yX6_tell, Cond.selects RX6 yX6_tell yX6_tell]
def wsX6_share_r3 : List Cond := [Cond.code yX6_tell cX6_tell 7 none, Cond.fieldLink RX6 40 "PageMonitorModel" "logged" "[I", Cond.fieldLink RX6 37 "PageMonitorModel" "logs" "[I"]
def wsX6_share : List Cond := .code yX6_share cX6_share 5 (some .int) :: ((wsX6_share_r1 ++ (wsX6_share_r2 ++ wsX6_share_r3)) ++ wsX60)
def wsX6_spare_r1 : List Cond := [Cond.fieldLink RX6 183 "PageMonitorModel" "least" "I", Cond.fieldLink RX6 22 "PageMonitorModel" "states" "[I", Cond.methodLink RX6 203 yX6_begin, Cond.instanceMethod yX6_begin, Cond.selects RX6 yX6_begin yX6_begin, Cond.initialized RX6, Cond.code yX6_begin cX6_begin 1 none, Cond.fieldLink RX6 158 "PageMonitorModel" "thrown" "I", Cond.methodLink RX6 186 yX6_noPage, Cond.static yX6_noPage, Cond.code yX6_noPage cX6_noPage 1 (some .boolean), Cond.methodLink RX6 193 yX6_wrong, Cond.instanceMethod yX6_wrong, Cond.selects RX6 yX6_wrong yX6_wrong, Cond.code yX6_wrong cX6_wrong 3 none, Cond.methodLink RX6 206 yX6_wantFree, Cond.instanceMethod yX6_wantFree, Cond.selects RX6 yX6_wantFree yX6_wantFree, Cond.code yX6_wantFree cX6_wantFree 2 none, Cond.methodLink RX6 189 yX6_isKind, Cond.instanceMethod yX6_isKind, Cond.selects RX6 yX6_isKind yX6_isKind, Cond.code yX6_isKind cX6_isKind 3 (some .boolean), Cond.fieldLink RX6 16 "PageMonitorModel" "kinds" "[I"]
def wsX6_spare_r2 : List Cond := [Cond.methodLink RX6 209 yX6_become, Cond.instanceMethod yX6_become, Cond.selects RX6 yX6_become yX6_become, Cond.code yX6_become cX6_become 4 none, Cond.fieldLink RX6 19 "PageMonitorModel" "owners" "[I"]
def wsX6_spare : List Cond := .code yX6_spare cX6_spare 3 (some .int) :: ((wsX6_spare_r1 ++ wsX6_spare_r2) ++ wsX60)
def wsX6_finish_r1 : List Cond := [Cond.fieldLink RX6 183 "PageMonitorModel" "least" "I", Cond.fieldLink RX6 40 "PageMonitorModel" "logged" "[I", Cond.fieldLink RX6 140 "PageMonitorModel" "message" "[I", Cond.fieldLink RX6 37 "PageMonitorModel" "logs" "[I", Cond.fieldLink RX6 43 "PageMonitorModel" "measures" "[I", Cond.fieldLink RX6 146 "PageMonitorModel" "digest" "[I", Cond.fieldLink RX6 46 "PageMonitorModel" "measured" "[Z", Cond.fieldLink RX6 22 "PageMonitorModel" "states" "[I", Cond.methodLink RX6 203 yX6_begin, Cond.instanceMethod yX6_begin, Cond.selects RX6 yX6_begin yX6_begin, Cond.initialized RX6, Cond.code yX6_begin cX6_begin 1 none, Cond.fieldLink RX6 158 "PageMonitorModel" "thrown" "I", Cond.methodLink RX6 186 yX6_noPage, Cond.static yX6_noPage, Cond.code yX6_noPage cX6_noPage 1 (some .boolean), Cond.methodLink RX6 193 yX6_wrong, Cond.instanceMethod yX6_wrong, Cond.selects RX6 yX6_wrong yX6_wrong, Cond.code yX6_wrong cX6_wrong 3 none, Cond.methodLink RX6 213 yX6_wantSpace, Cond.instanceMethod yX6_wantSpace, Cond.selects RX6 yX6_wantSpace yX6_wantSpace]
def wsX6_finish_r2 : List Cond := [Cond.code yX6_wantSpace cX6_wantSpace 3 none, Cond.methodLink RX6 189 yX6_isKind, Cond.instanceMethod yX6_isKind, Cond.selects RX6 yX6_isKind yX6_isKind, Cond.code yX6_isKind cX6_isKind 3 (some .boolean), Cond.fieldLink RX6 16 "PageMonitorModel" "kinds" "[I", Cond.methodLink RX6 217 yX6_tell, Cond.instanceMethod yX6_tell, Cond.selects RX6 yX6_tell yX6_tell, Cond.code yX6_tell cX6_tell 7 none, Cond.methodLink RX6 176 yX6_hash, Cond.instanceMethod yX6_hash, Cond.selects RX6 yX6_hash yX6_hash, Cond.code yX6_hash cX6_hash 3 none, Cond.fieldLink RX6 137 "PageMonitorModel" "begins" "[I", Cond.constant RX6 171 (-2147483648), Cond.methodLink RX6 172 yX6_block, Cond.instanceMethod yX6_block, Cond.selects RX6 yX6_block yX6_block, Cond.code yX6_block cX6_block 8 none, Cond.fieldLink RX6 143 "PageMonitorModel" "w" "[I", Cond.fieldLink RX6 149 "PageMonitorModel" "v" "[I", Cond.fieldLink RX6 126 "PageMonitorModel" "constants" "[I", Cond.methodLink RX6 165 yX6_turned]
def wsX6_finish_r3 : List Cond := [Cond.static yX6_turned, Cond.code yX6_turned cX6_turned 2 (some .int)]
def wsX6_finish : List Cond := .code yX6_finish cX6_finish 3 (some .int) :: ((wsX6_finish_r1 ++ (wsX6_finish_r2 ++ wsX6_finish_r3)) ++ wsX60)
def wsX6_stop : List Cond := .code yX6_stop cX6_stop 3 (some .int) :: ([.fieldLink RX6 183 "PageMonitorModel" "least" "I", .fieldLink RX6 22 "PageMonitorModel" "states" "[I", .fieldLink RX6 53 "PageMonitorModel" "entered" "[Z", .fieldLink RX6 19 "PageMonitorModel" "owners" "[I", .methodLink RX6 203 yX6_begin, .instanceMethod yX6_begin, .selects RX6 yX6_begin yX6_begin, .initialized RX6, .code yX6_begin cX6_begin 1 none, .fieldLink RX6 158 "PageMonitorModel" "thrown" "I", .methodLink RX6 186 yX6_noPage, .static yX6_noPage, .code yX6_noPage cX6_noPage 1 (some .boolean), .methodLink RX6 193 yX6_wrong, .instanceMethod yX6_wrong, .selects RX6 yX6_wrong yX6_wrong, .code yX6_wrong cX6_wrong 3 none, .methodLink RX6 189 yX6_isKind, .instanceMethod yX6_isKind, .selects RX6 yX6_isKind yX6_isKind, .code yX6_isKind cX6_isKind 3 (some .boolean), .fieldLink RX6 16 "PageMonitorModel" "kinds" "[I"] ++ wsX60)
def wsX6_belonging : List Cond := .code yX6_belonging cX6_belonging 4 (some .int) :: ([.fieldLink RX6 16 "PageMonitorModel" "kinds" "[I", .fieldLink RX6 19 "PageMonitorModel" "owners" "[I"] ++ wsX60)
def wsX6_remove_r1 : List Cond := [Cond.fieldLink RX6 183 "PageMonitorModel" "least" "I", Cond.fieldLink RX6 16 "PageMonitorModel" "kinds" "[I", Cond.fieldLink RX6 19 "PageMonitorModel" "owners" "[I", Cond.fieldLink RX6 22 "PageMonitorModel" "states" "[I", Cond.fieldLink RX6 53 "PageMonitorModel" "entered" "[Z", Cond.methodLink RX6 203 yX6_begin, Cond.instanceMethod yX6_begin, Cond.selects RX6 yX6_begin yX6_begin, Cond.initialized RX6, Cond.code yX6_begin cX6_begin 1 none, Cond.fieldLink RX6 158 "PageMonitorModel" "thrown" "I", Cond.methodLink RX6 186 yX6_noPage, Cond.static yX6_noPage, Cond.code yX6_noPage cX6_noPage 1 (some .boolean), Cond.methodLink RX6 193 yX6_wrong, Cond.instanceMethod yX6_wrong, Cond.selects RX6 yX6_wrong yX6_wrong, Cond.code yX6_wrong cX6_wrong 3 none, Cond.methodLink RX6 189 yX6_isKind, Cond.instanceMethod yX6_isKind, Cond.selects RX6 yX6_isKind yX6_isKind, Cond.code yX6_isKind cX6_isKind 3 (some .boolean), Cond.methodLink RX6 227 yX6_belonging, Cond.instanceMethod yX6_belonging]
def wsX6_remove_r2 : List Cond := [Cond.selects RX6 yX6_belonging yX6_belonging, Cond.code yX6_belonging cX6_belonging 4 (some .int), Cond.methodLink RX6 209 yX6_become, Cond.instanceMethod yX6_become, Cond.selects RX6 yX6_become yX6_become, Cond.code yX6_become cX6_become 4 none]
def wsX6_remove : List Cond := .code yX6_remove cX6_remove 3 (some .int) :: ((wsX6_remove_r1 ++ wsX6_remove_r2) ++ wsX60)
def wsX6_lies : List Cond := .code yX6_lies cX6_lies 4 (some .int) :: ([.fieldLink RX6 231 "PageMonitorModel" "own" "I", .fieldLink RX6 28 "PageMonitorModel" "entries" "[I", .fieldLink RX6 31 "PageMonitorModel" "rights" "[I", .methodLink RX6 197 yX6_tableOf, .instanceMethod yX6_tableOf, .selects RX6 yX6_tableOf yX6_tableOf, .initialized RX6, .code yX6_tableOf cX6_tableOf 3 (some .int), .fieldLink RX6 34 "PageMonitorModel" "tables" "[I", .methodLink RX6 200 yX6_entryOf, .instanceMethod yX6_entryOf, .selects RX6 yX6_entryOf yX6_entryOf, .code yX6_entryOf cX6_entryOf 3 (some .int)] ++ wsX60)
def wsX6_load : List Cond := .code yX6_load cX6_load 3 (some .int) :: ([.fieldLink RX6 237 "PageMonitorModel" "fault" "I", .fieldLink RX6 25 "PageMonitorModel" "contents" "[I", .fieldLink RX6 13 "PageMonitorModel" "frames" "[I", .methodLink RX6 234 yX6_lies, .instanceMethod yX6_lies, .selects RX6 yX6_lies yX6_lies, .initialized RX6, .code yX6_lies cX6_lies 4 (some .int), .fieldLink RX6 231 "PageMonitorModel" "own" "I", .fieldLink RX6 28 "PageMonitorModel" "entries" "[I", .fieldLink RX6 31 "PageMonitorModel" "rights" "[I", .methodLink RX6 197 yX6_tableOf, .instanceMethod yX6_tableOf, .selects RX6 yX6_tableOf yX6_tableOf, .code yX6_tableOf cX6_tableOf 3 (some .int), .fieldLink RX6 34 "PageMonitorModel" "tables" "[I", .methodLink RX6 200 yX6_entryOf, .instanceMethod yX6_entryOf, .selects RX6 yX6_entryOf yX6_entryOf, .code yX6_entryOf cX6_entryOf 3 (some .int)] ++ wsX60)
def wsX6_store : List Cond := .code yX6_store cX6_store 4 none :: ([.fieldLink RX6 237 "PageMonitorModel" "fault" "I", .fieldLink RX6 25 "PageMonitorModel" "contents" "[I", .fieldLink RX6 13 "PageMonitorModel" "frames" "[I", .methodLink RX6 234 yX6_lies, .instanceMethod yX6_lies, .selects RX6 yX6_lies yX6_lies, .initialized RX6, .code yX6_lies cX6_lies 4 (some .int), .fieldLink RX6 231 "PageMonitorModel" "own" "I", .fieldLink RX6 28 "PageMonitorModel" "entries" "[I", .fieldLink RX6 31 "PageMonitorModel" "rights" "[I", .methodLink RX6 197 yX6_tableOf, .instanceMethod yX6_tableOf, .selects RX6 yX6_tableOf yX6_tableOf, .code yX6_tableOf cX6_tableOf 3 (some .int), .fieldLink RX6 34 "PageMonitorModel" "tables" "[I", .methodLink RX6 200 yX6_entryOf, .instanceMethod yX6_entryOf, .selects RX6 yX6_entryOf yX6_entryOf, .code yX6_entryOf cX6_entryOf 3 (some .int)] ++ wsX60)
def wsX6_vouch_r1 : List Cond := [Cond.fieldLink RX6 140 "PageMonitorModel" "message" "[I", Cond.fieldLink RX6 237 "PageMonitorModel" "fault" "I", Cond.fieldLink RX6 43 "PageMonitorModel" "measures" "[I", Cond.fieldLink RX6 231 "PageMonitorModel" "own" "I", Cond.fieldLink RX6 146 "PageMonitorModel" "digest" "[I", Cond.methodLink RX6 240 yX6_load, Cond.instanceMethod yX6_load, Cond.selects RX6 yX6_load yX6_load, Cond.initialized RX6, Cond.code yX6_load cX6_load 3 (some .int), Cond.fieldLink RX6 25 "PageMonitorModel" "contents" "[I", Cond.fieldLink RX6 13 "PageMonitorModel" "frames" "[I", Cond.methodLink RX6 234 yX6_lies, Cond.instanceMethod yX6_lies, Cond.selects RX6 yX6_lies yX6_lies, Cond.code yX6_lies cX6_lies 4 (some .int), Cond.fieldLink RX6 28 "PageMonitorModel" "entries" "[I", Cond.fieldLink RX6 31 "PageMonitorModel" "rights" "[I", Cond.methodLink RX6 197 yX6_tableOf, Cond.instanceMethod yX6_tableOf, Cond.selects RX6 yX6_tableOf yX6_tableOf, Cond.code yX6_tableOf cX6_tableOf 3 (some .int), Cond.fieldLink RX6 34 "PageMonitorModel" "tables" "[I", Cond.methodLink RX6 200 yX6_entryOf]
def wsX6_vouch_r2 : List Cond := [Cond.instanceMethod yX6_entryOf, Cond.selects RX6 yX6_entryOf yX6_entryOf, Cond.code yX6_entryOf cX6_entryOf 3 (some .int), Cond.methodLink RX6 243 yX6_voucher, Cond.instanceMethod yX6_voucher, Cond.selects RX6 yX6_voucher yX6_voucher, Cond.code yX6_voucher cX6_voucher 4 none, Cond.fieldLink RX6 7 "PageMonitorModel" "key" "[I", Cond.methodLink RX6 176 yX6_hash, Cond.instanceMethod yX6_hash, Cond.selects RX6 yX6_hash yX6_hash, Cond.code yX6_hash cX6_hash 3 none, Cond.fieldLink RX6 137 "PageMonitorModel" "begins" "[I", Cond.constant RX6 171 (-2147483648), Cond.methodLink RX6 172 yX6_block, Cond.instanceMethod yX6_block, Cond.selects RX6 yX6_block yX6_block, Cond.code yX6_block cX6_block 8 none, Cond.fieldLink RX6 143 "PageMonitorModel" "w" "[I", Cond.fieldLink RX6 149 "PageMonitorModel" "v" "[I", Cond.fieldLink RX6 126 "PageMonitorModel" "constants" "[I", Cond.methodLink RX6 165 yX6_turned, Cond.static yX6_turned, Cond.code yX6_turned cX6_turned 2 (some .int)]
def wsX6_vouch_r3 : List Cond := [Cond.methodLink RX6 247 yX6_store, Cond.instanceMethod yX6_store, Cond.selects RX6 yX6_store yX6_store, Cond.code yX6_store cX6_store 4 none]
def wsX6_vouch : List Cond := .code yX6_vouch cX6_vouch 4 none :: ((wsX6_vouch_r1 ++ (wsX6_vouch_r2 ++ wsX6_vouch_r3)) ++ wsX60)
def wsX6_verified_r1 : List Cond := [Cond.fieldLink RX6 152 "PageMonitorModel" "told" "[I", Cond.fieldLink RX6 140 "PageMonitorModel" "message" "[I", Cond.fieldLink RX6 146 "PageMonitorModel" "digest" "[I", Cond.methodLink RX6 240 yX6_load, Cond.instanceMethod yX6_load, Cond.selects RX6 yX6_load yX6_load, Cond.initialized RX6, Cond.code yX6_load cX6_load 3 (some .int), Cond.fieldLink RX6 237 "PageMonitorModel" "fault" "I", Cond.fieldLink RX6 25 "PageMonitorModel" "contents" "[I", Cond.fieldLink RX6 13 "PageMonitorModel" "frames" "[I", Cond.methodLink RX6 234 yX6_lies, Cond.instanceMethod yX6_lies, Cond.selects RX6 yX6_lies yX6_lies, Cond.code yX6_lies cX6_lies 4 (some .int), Cond.fieldLink RX6 231 "PageMonitorModel" "own" "I", Cond.fieldLink RX6 28 "PageMonitorModel" "entries" "[I", Cond.fieldLink RX6 31 "PageMonitorModel" "rights" "[I", Cond.methodLink RX6 197 yX6_tableOf, Cond.instanceMethod yX6_tableOf, Cond.selects RX6 yX6_tableOf yX6_tableOf, Cond.code yX6_tableOf cX6_tableOf 3 (some .int), Cond.fieldLink RX6 34 "PageMonitorModel" "tables" "[I", Cond.methodLink RX6 200 yX6_entryOf]
def wsX6_verified_r2 : List Cond := [Cond.instanceMethod yX6_entryOf, Cond.selects RX6 yX6_entryOf yX6_entryOf, Cond.code yX6_entryOf cX6_entryOf 3 (some .int), Cond.methodLink RX6 243 yX6_voucher, Cond.instanceMethod yX6_voucher, Cond.selects RX6 yX6_voucher yX6_voucher, Cond.code yX6_voucher cX6_voucher 4 none, Cond.fieldLink RX6 7 "PageMonitorModel" "key" "[I", Cond.methodLink RX6 176 yX6_hash, Cond.instanceMethod yX6_hash, Cond.selects RX6 yX6_hash yX6_hash, Cond.code yX6_hash cX6_hash 3 none, Cond.fieldLink RX6 137 "PageMonitorModel" "begins" "[I", Cond.constant RX6 171 (-2147483648), Cond.methodLink RX6 172 yX6_block, Cond.instanceMethod yX6_block, Cond.selects RX6 yX6_block yX6_block, Cond.code yX6_block cX6_block 8 none, Cond.fieldLink RX6 143 "PageMonitorModel" "w" "[I", Cond.fieldLink RX6 149 "PageMonitorModel" "v" "[I", Cond.fieldLink RX6 126 "PageMonitorModel" "constants" "[I", Cond.methodLink RX6 165 yX6_turned, Cond.static yX6_turned, Cond.code yX6_turned cX6_turned 2 (some .int)]
def wsX6_verified : List Cond := .code yX6_verified cX6_verified 4 (some .int) :: ((wsX6_verified_r1 ++ wsX6_verified_r2) ++ wsX60)
def wsX6_takeIn_r1 : List Cond := [Cond.fieldLink RX6 19 "PageMonitorModel" "owners" "[I", Cond.fieldLink RX6 231 "PageMonitorModel" "own" "I", Cond.fieldLink RX6 28 "PageMonitorModel" "entries" "[I", Cond.fieldLink RX6 31 "PageMonitorModel" "rights" "[I", Cond.fieldLink RX6 25 "PageMonitorModel" "contents" "[I", Cond.methodLink RX6 189 yX6_isKind, Cond.instanceMethod yX6_isKind, Cond.selects RX6 yX6_isKind yX6_isKind, Cond.initialized RX6, Cond.code yX6_isKind cX6_isKind 3 (some .boolean), Cond.fieldLink RX6 16 "PageMonitorModel" "kinds" "[I", Cond.methodLink RX6 186 yX6_noPage, Cond.static yX6_noPage, Cond.code yX6_noPage cX6_noPage 1 (some .boolean), Cond.methodLink RX6 221 yX6_noBlock, Cond.static yX6_noBlock, Cond.code yX6_noBlock cX6_noBlock 1 (some .boolean), Cond.methodLink RX6 224 yX6_isTaken, Cond.instanceMethod yX6_isTaken, Cond.selects RX6 yX6_isTaken yX6_isTaken, Cond.code yX6_isTaken cX6_isTaken 3 (some .boolean), Cond.methodLink RX6 197 yX6_tableOf, Cond.instanceMethod yX6_tableOf, Cond.selects RX6 yX6_tableOf yX6_tableOf]
def wsX6_takeIn_r2 : List Cond := [Cond.code yX6_tableOf cX6_tableOf 3 (some .int), Cond.fieldLink RX6 34 "PageMonitorModel" "tables" "[I", Cond.methodLink RX6 200 yX6_entryOf, Cond.instanceMethod yX6_entryOf, Cond.selects RX6 yX6_entryOf yX6_entryOf, Cond.code yX6_entryOf cX6_entryOf 3 (some .int), Cond.methodLink RX6 209 yX6_become, Cond.instanceMethod yX6_become, Cond.selects RX6 yX6_become yX6_become, Cond.code yX6_become cX6_become 4 none]
def wsX6_takeIn : List Cond := .code yX6_takeIn cX6_takeIn 5 (some .int) :: ((wsX6_takeIn_r1 ++ wsX6_takeIn_r2) ++ wsX60)
def wsX6_giveBack : List Cond := .code yX6_giveBack cX6_giveBack 3 (some .int) :: ([.fieldLink RX6 231 "PageMonitorModel" "own" "I", .fieldLink RX6 28 "PageMonitorModel" "entries" "[I", .fieldLink RX6 16 "PageMonitorModel" "kinds" "[I", .methodLink RX6 221 yX6_noBlock, .static yX6_noBlock, .initialized RX6, .code yX6_noBlock cX6_noBlock 1 (some .boolean), .methodLink RX6 197 yX6_tableOf, .instanceMethod yX6_tableOf, .selects RX6 yX6_tableOf yX6_tableOf, .code yX6_tableOf cX6_tableOf 3 (some .int), .fieldLink RX6 34 "PageMonitorModel" "tables" "[I", .methodLink RX6 200 yX6_entryOf, .instanceMethod yX6_entryOf, .selects RX6 yX6_entryOf yX6_entryOf, .code yX6_entryOf cX6_entryOf 3 (some .int)] ++ wsX60)
def wsX6_put : List Cond := .code yX6_put cX6_put 3 none :: ([.fieldLink RX6 237 "PageMonitorModel" "fault" "I", .fieldLink RX6 59 "PageMonitorModel" "\x72" "[I"] ++ wsX60)
def wsX6_one_r1 : List Cond := [Cond.fieldLink RX6 250 "PageMonitorModel" "at" "I", Cond.fieldLink RX6 237 "PageMonitorModel" "fault" "I", Cond.fieldLink RX6 25 "PageMonitorModel" "contents" "[I", Cond.fieldLink RX6 13 "PageMonitorModel" "frames" "[I", Cond.fieldLink RX6 59 "PageMonitorModel" "\x72" "[I", Cond.fieldLink RX6 162 "PageMonitorModel" "result" "I", Cond.fieldLink RX6 43 "PageMonitorModel" "measures" "[I", Cond.fieldLink RX6 231 "PageMonitorModel" "own" "I", Cond.methodLink RX6 234 yX6_lies, Cond.instanceMethod yX6_lies, Cond.selects RX6 yX6_lies yX6_lies, Cond.initialized RX6, Cond.code yX6_lies cX6_lies 4 (some .int), Cond.fieldLink RX6 28 "PageMonitorModel" "entries" "[I", Cond.fieldLink RX6 31 "PageMonitorModel" "rights" "[I", Cond.methodLink RX6 197 yX6_tableOf, Cond.instanceMethod yX6_tableOf, Cond.selects RX6 yX6_tableOf yX6_tableOf, Cond.code yX6_tableOf cX6_tableOf 3 (some .int), Cond.fieldLink RX6 34 "PageMonitorModel" "tables" "[I", Cond.methodLink RX6 200 yX6_entryOf, Cond.instanceMethod yX6_entryOf, Cond.selects RX6 yX6_entryOf yX6_entryOf, Cond.code yX6_entryOf cX6_entryOf 3 (some .int)]
def wsX6_one_r2 : List Cond := [Cond.methodLink RX6 240 yX6_load, Cond.instanceMethod yX6_load, Cond.selects RX6 yX6_load yX6_load, Cond.code yX6_load cX6_load 3 (some .int), Cond.methodLink RX6 253 yX6_put, Cond.instanceMethod yX6_put, Cond.selects RX6 yX6_put yX6_put, Cond.code yX6_put cX6_put 3 none, Cond.methodLink RX6 247 yX6_store, Cond.instanceMethod yX6_store, Cond.selects RX6 yX6_store yX6_store, Cond.code yX6_store cX6_store 4 none, Cond.methodLink RX6 256 yX6_vouch, Cond.instanceMethod yX6_vouch, Cond.selects RX6 yX6_vouch yX6_vouch, Cond.code yX6_vouch cX6_vouch 4 none, Cond.fieldLink RX6 140 "PageMonitorModel" "message" "[I", Cond.fieldLink RX6 146 "PageMonitorModel" "digest" "[I", Cond.methodLink RX6 243 yX6_voucher, Cond.instanceMethod yX6_voucher, Cond.selects RX6 yX6_voucher yX6_voucher, Cond.code yX6_voucher cX6_voucher 4 none, Cond.fieldLink RX6 7 "PageMonitorModel" "key" "[I", Cond.methodLink RX6 176 yX6_hash]
def wsX6_one_r3 : List Cond := [Cond.instanceMethod yX6_hash, Cond.selects RX6 yX6_hash yX6_hash, Cond.code yX6_hash cX6_hash 3 none, Cond.fieldLink RX6 137 "PageMonitorModel" "begins" "[I", Cond.constant RX6 171 (-2147483648), Cond.methodLink RX6 172 yX6_block, Cond.instanceMethod yX6_block, Cond.selects RX6 yX6_block yX6_block, Cond.code yX6_block cX6_block 8 none, Cond.fieldLink RX6 143 "PageMonitorModel" "w" "[I", Cond.fieldLink RX6 149 "PageMonitorModel" "v" "[I", Cond.fieldLink RX6 126 "PageMonitorModel" "constants" "[I", Cond.methodLink RX6 165 yX6_turned, Cond.static yX6_turned, Cond.code yX6_turned cX6_turned 2 (some .int), Cond.methodLink RX6 259 yX6_verified, Cond.instanceMethod yX6_verified, Cond.selects RX6 yX6_verified yX6_verified, Cond.code yX6_verified cX6_verified 4 (some .int), Cond.fieldLink RX6 152 "PageMonitorModel" "told" "[I", Cond.methodLink RX6 262 yX6_takeIn, Cond.instanceMethod yX6_takeIn, Cond.selects RX6 yX6_takeIn yX6_takeIn, Cond.code yX6_takeIn cX6_takeIn 5 (some .int)]
def wsX6_one_r4 : List Cond := [Cond.fieldLink RX6 19 "PageMonitorModel" "owners" "[I", Cond.methodLink RX6 189 yX6_isKind, Cond.instanceMethod yX6_isKind, Cond.selects RX6 yX6_isKind yX6_isKind, Cond.code yX6_isKind cX6_isKind 3 (some .boolean), Cond.fieldLink RX6 16 "PageMonitorModel" "kinds" "[I", Cond.methodLink RX6 186 yX6_noPage, Cond.static yX6_noPage, Cond.code yX6_noPage cX6_noPage 1 (some .boolean), Cond.methodLink RX6 221 yX6_noBlock, Cond.static yX6_noBlock, Cond.code yX6_noBlock cX6_noBlock 1 (some .boolean), Cond.methodLink RX6 224 yX6_isTaken, Cond.instanceMethod yX6_isTaken, Cond.selects RX6 yX6_isTaken yX6_isTaken, Cond.code yX6_isTaken cX6_isTaken 3 (some .boolean), Cond.methodLink RX6 209 yX6_become, Cond.instanceMethod yX6_become, Cond.selects RX6 yX6_become yX6_become, Cond.code yX6_become cX6_become 4 none, Cond.methodLink RX6 266 yX6_giveBack, Cond.instanceMethod yX6_giveBack, Cond.selects RX6 yX6_giveBack yX6_giveBack, Cond.code yX6_giveBack cX6_giveBack 3 (some .int)]
def wsX6_one : List Cond := .code yX6_one cX6_one 6 (some .boolean) :: ((wsX6_one_r1 ++ (wsX6_one_r2 ++ (wsX6_one_r3 ++ wsX6_one_r4))) ++ wsX60)
def wsX6_run_r1 : List Cond := [Cond.fieldLink RX6 19 "PageMonitorModel" "owners" "[I", Cond.fieldLink RX6 269 "PageMonitorModel" "running" "I", Cond.fieldLink RX6 231 "PageMonitorModel" "own" "I", Cond.fieldLink RX6 53 "PageMonitorModel" "entered" "[Z", Cond.fieldLink RX6 237 "PageMonitorModel" "fault" "I", Cond.fieldLink RX6 162 "PageMonitorModel" "result" "I", Cond.fieldLink RX6 272 "PageMonitorModel" "steps" "I", Cond.fieldLink RX6 56 "PageMonitorModel" "kept" "[I", Cond.fieldLink RX6 59 "PageMonitorModel" "\x72" "[I", Cond.fieldLink RX6 250 "PageMonitorModel" "at" "I", Cond.methodLink RX6 275 yX6_one, Cond.instanceMethod yX6_one, Cond.selects RX6 yX6_one yX6_one, Cond.initialized RX6, Cond.code yX6_one cX6_one 6 (some .boolean), Cond.fieldLink RX6 25 "PageMonitorModel" "contents" "[I", Cond.fieldLink RX6 13 "PageMonitorModel" "frames" "[I", Cond.fieldLink RX6 43 "PageMonitorModel" "measures" "[I", Cond.methodLink RX6 234 yX6_lies, Cond.instanceMethod yX6_lies, Cond.selects RX6 yX6_lies yX6_lies, Cond.code yX6_lies cX6_lies 4 (some .int), Cond.fieldLink RX6 28 "PageMonitorModel" "entries" "[I", Cond.fieldLink RX6 31 "PageMonitorModel" "rights" "[I"]
def wsX6_run_r2 : List Cond := [Cond.methodLink RX6 197 yX6_tableOf, Cond.instanceMethod yX6_tableOf, Cond.selects RX6 yX6_tableOf yX6_tableOf, Cond.code yX6_tableOf cX6_tableOf 3 (some .int), Cond.fieldLink RX6 34 "PageMonitorModel" "tables" "[I", Cond.methodLink RX6 200 yX6_entryOf, Cond.instanceMethod yX6_entryOf, Cond.selects RX6 yX6_entryOf yX6_entryOf, Cond.code yX6_entryOf cX6_entryOf 3 (some .int), Cond.methodLink RX6 240 yX6_load, Cond.instanceMethod yX6_load, Cond.selects RX6 yX6_load yX6_load, Cond.code yX6_load cX6_load 3 (some .int), Cond.methodLink RX6 253 yX6_put, Cond.instanceMethod yX6_put, Cond.selects RX6 yX6_put yX6_put, Cond.code yX6_put cX6_put 3 none, Cond.methodLink RX6 247 yX6_store, Cond.instanceMethod yX6_store, Cond.selects RX6 yX6_store yX6_store, Cond.code yX6_store cX6_store 4 none, Cond.methodLink RX6 256 yX6_vouch, Cond.instanceMethod yX6_vouch, Cond.selects RX6 yX6_vouch yX6_vouch]
def wsX6_run_r3 : List Cond := [Cond.code yX6_vouch cX6_vouch 4 none, Cond.fieldLink RX6 140 "PageMonitorModel" "message" "[I", Cond.fieldLink RX6 146 "PageMonitorModel" "digest" "[I", Cond.methodLink RX6 243 yX6_voucher, Cond.instanceMethod yX6_voucher, Cond.selects RX6 yX6_voucher yX6_voucher, Cond.code yX6_voucher cX6_voucher 4 none, Cond.fieldLink RX6 7 "PageMonitorModel" "key" "[I", Cond.methodLink RX6 176 yX6_hash, Cond.instanceMethod yX6_hash, Cond.selects RX6 yX6_hash yX6_hash, Cond.code yX6_hash cX6_hash 3 none, Cond.fieldLink RX6 137 "PageMonitorModel" "begins" "[I", Cond.constant RX6 171 (-2147483648), Cond.methodLink RX6 172 yX6_block, Cond.instanceMethod yX6_block, Cond.selects RX6 yX6_block yX6_block, Cond.code yX6_block cX6_block 8 none, Cond.fieldLink RX6 143 "PageMonitorModel" "w" "[I", Cond.fieldLink RX6 149 "PageMonitorModel" "v" "[I", Cond.fieldLink RX6 126 "PageMonitorModel" "constants" "[I", Cond.methodLink RX6 165 yX6_turned, Cond.static yX6_turned, Cond.code yX6_turned cX6_turned 2 (some .int)]
def wsX6_run_r4 : List Cond := [Cond.methodLink RX6 259 yX6_verified, Cond.instanceMethod yX6_verified, Cond.selects RX6 yX6_verified yX6_verified, Cond.code yX6_verified cX6_verified 4 (some .int), Cond.fieldLink RX6 152 "PageMonitorModel" "told" "[I", Cond.methodLink RX6 262 yX6_takeIn, Cond.instanceMethod yX6_takeIn, Cond.selects RX6 yX6_takeIn yX6_takeIn, Cond.code yX6_takeIn cX6_takeIn 5 (some .int), Cond.methodLink RX6 189 yX6_isKind, Cond.instanceMethod yX6_isKind, Cond.selects RX6 yX6_isKind yX6_isKind, Cond.code yX6_isKind cX6_isKind 3 (some .boolean), Cond.fieldLink RX6 16 "PageMonitorModel" "kinds" "[I", Cond.methodLink RX6 186 yX6_noPage, Cond.static yX6_noPage, Cond.code yX6_noPage cX6_noPage 1 (some .boolean), Cond.methodLink RX6 221 yX6_noBlock, Cond.static yX6_noBlock, Cond.code yX6_noBlock cX6_noBlock 1 (some .boolean), Cond.methodLink RX6 224 yX6_isTaken, Cond.instanceMethod yX6_isTaken, Cond.selects RX6 yX6_isTaken yX6_isTaken, Cond.code yX6_isTaken cX6_isTaken 3 (some .boolean)]
def wsX6_run_r5 : List Cond := [Cond.methodLink RX6 209 yX6_become, Cond.instanceMethod yX6_become, Cond.selects RX6 yX6_become yX6_become, Cond.code yX6_become cX6_become 4 none, Cond.methodLink RX6 266 yX6_giveBack, Cond.instanceMethod yX6_giveBack, Cond.selects RX6 yX6_giveBack yX6_giveBack, Cond.code yX6_giveBack cX6_giveBack 3 (some .int)]
def wsX6_run : List Cond := .code yX6_run cX6_run 3 (some .int) :: ((wsX6_run_r1 ++ (wsX6_run_r2 ++ (wsX6_run_r3 ++ (wsX6_run_r4 ++ wsX6_run_r5)))) ++ wsX60)
def wsX6_wantThread : List Cond := .code yX6_wantThread cX6_wantThread 4 none :: ([.fieldLink RX6 183 "PageMonitorModel" "least" "I", .fieldLink RX6 22 "PageMonitorModel" "states" "[I", .fieldLink RX6 19 "PageMonitorModel" "owners" "[I", .fieldLink RX6 53 "PageMonitorModel" "entered" "[Z", .methodLink RX6 203 yX6_begin, .instanceMethod yX6_begin, .selects RX6 yX6_begin yX6_begin, .initialized RX6, .code yX6_begin cX6_begin 1 none, .fieldLink RX6 158 "PageMonitorModel" "thrown" "I", .methodLink RX6 186 yX6_noPage, .static yX6_noPage, .code yX6_noPage cX6_noPage 1 (some .boolean), .methodLink RX6 193 yX6_wrong, .instanceMethod yX6_wrong, .selects RX6 yX6_wrong yX6_wrong, .code yX6_wrong cX6_wrong 3 none, .methodLink RX6 189 yX6_isKind, .instanceMethod yX6_isKind, .selects RX6 yX6_isKind yX6_isKind, .code yX6_isKind cX6_isKind 3 (some .boolean), .fieldLink RX6 16 "PageMonitorModel" "kinds" "[I"] ++ wsX60)
def wsX6_enter_r1 : List Cond := [Cond.fieldLink RX6 183 "PageMonitorModel" "least" "I", Cond.fieldLink RX6 269 "PageMonitorModel" "running" "I", Cond.fieldLink RX6 59 "PageMonitorModel" "\x72" "[I", Cond.fieldLink RX6 50 "PageMonitorModel" "starts" "[I", Cond.fieldLink RX6 250 "PageMonitorModel" "at" "I", Cond.methodLink RX6 279 yX6_wantThread, Cond.instanceMethod yX6_wantThread, Cond.selects RX6 yX6_wantThread yX6_wantThread, Cond.initialized RX6, Cond.code yX6_wantThread cX6_wantThread 4 none, Cond.fieldLink RX6 22 "PageMonitorModel" "states" "[I", Cond.fieldLink RX6 19 "PageMonitorModel" "owners" "[I", Cond.fieldLink RX6 53 "PageMonitorModel" "entered" "[Z", Cond.methodLink RX6 203 yX6_begin, Cond.instanceMethod yX6_begin, Cond.selects RX6 yX6_begin yX6_begin, Cond.code yX6_begin cX6_begin 1 none, Cond.fieldLink RX6 158 "PageMonitorModel" "thrown" "I", Cond.methodLink RX6 186 yX6_noPage, Cond.static yX6_noPage, Cond.code yX6_noPage cX6_noPage 1 (some .boolean), Cond.methodLink RX6 193 yX6_wrong, Cond.instanceMethod yX6_wrong, Cond.selects RX6 yX6_wrong yX6_wrong]
def wsX6_enter_r2 : List Cond := [Cond.code yX6_wrong cX6_wrong 3 none, Cond.methodLink RX6 189 yX6_isKind, Cond.instanceMethod yX6_isKind, Cond.selects RX6 yX6_isKind yX6_isKind, Cond.code yX6_isKind cX6_isKind 3 (some .boolean), Cond.fieldLink RX6 16 "PageMonitorModel" "kinds" "[I", Cond.methodLink RX6 283 yX6_run, Cond.instanceMethod yX6_run, Cond.selects RX6 yX6_run yX6_run, Cond.code yX6_run cX6_run 3 (some .int), Cond.fieldLink RX6 231 "PageMonitorModel" "own" "I", Cond.fieldLink RX6 237 "PageMonitorModel" "fault" "I", Cond.fieldLink RX6 162 "PageMonitorModel" "result" "I", Cond.fieldLink RX6 272 "PageMonitorModel" "steps" "I", Cond.fieldLink RX6 56 "PageMonitorModel" "kept" "[I", Cond.methodLink RX6 275 yX6_one, Cond.instanceMethod yX6_one, Cond.selects RX6 yX6_one yX6_one, Cond.code yX6_one cX6_one 6 (some .boolean), Cond.fieldLink RX6 25 "PageMonitorModel" "contents" "[I", Cond.fieldLink RX6 13 "PageMonitorModel" "frames" "[I", Cond.fieldLink RX6 43 "PageMonitorModel" "measures" "[I", Cond.methodLink RX6 234 yX6_lies, Cond.instanceMethod yX6_lies]
def wsX6_enter_r3 : List Cond := [Cond.selects RX6 yX6_lies yX6_lies, Cond.code yX6_lies cX6_lies 4 (some .int), Cond.fieldLink RX6 28 "PageMonitorModel" "entries" "[I", Cond.fieldLink RX6 31 "PageMonitorModel" "rights" "[I", Cond.methodLink RX6 197 yX6_tableOf, Cond.instanceMethod yX6_tableOf, Cond.selects RX6 yX6_tableOf yX6_tableOf, Cond.code yX6_tableOf cX6_tableOf 3 (some .int), Cond.fieldLink RX6 34 "PageMonitorModel" "tables" "[I", Cond.methodLink RX6 200 yX6_entryOf, Cond.instanceMethod yX6_entryOf, Cond.selects RX6 yX6_entryOf yX6_entryOf, Cond.code yX6_entryOf cX6_entryOf 3 (some .int), Cond.methodLink RX6 240 yX6_load, Cond.instanceMethod yX6_load, Cond.selects RX6 yX6_load yX6_load, Cond.code yX6_load cX6_load 3 (some .int), Cond.methodLink RX6 253 yX6_put, Cond.instanceMethod yX6_put, Cond.selects RX6 yX6_put yX6_put, Cond.code yX6_put cX6_put 3 none, Cond.methodLink RX6 247 yX6_store, Cond.instanceMethod yX6_store, Cond.selects RX6 yX6_store yX6_store]
def wsX6_enter_r4 : List Cond := [Cond.code yX6_store cX6_store 4 none, Cond.methodLink RX6 256 yX6_vouch, Cond.instanceMethod yX6_vouch, Cond.selects RX6 yX6_vouch yX6_vouch, Cond.code yX6_vouch cX6_vouch 4 none, Cond.fieldLink RX6 140 "PageMonitorModel" "message" "[I", Cond.fieldLink RX6 146 "PageMonitorModel" "digest" "[I", Cond.methodLink RX6 243 yX6_voucher, Cond.instanceMethod yX6_voucher, Cond.selects RX6 yX6_voucher yX6_voucher, Cond.code yX6_voucher cX6_voucher 4 none, Cond.fieldLink RX6 7 "PageMonitorModel" "key" "[I", Cond.methodLink RX6 176 yX6_hash, Cond.instanceMethod yX6_hash, Cond.selects RX6 yX6_hash yX6_hash, Cond.code yX6_hash cX6_hash 3 none, Cond.fieldLink RX6 137 "PageMonitorModel" "begins" "[I", Cond.constant RX6 171 (-2147483648), Cond.methodLink RX6 172 yX6_block, Cond.instanceMethod yX6_block, Cond.selects RX6 yX6_block yX6_block, Cond.code yX6_block cX6_block 8 none, Cond.fieldLink RX6 143 "PageMonitorModel" "w" "[I", Cond.fieldLink RX6 149 "PageMonitorModel" "v" "[I"]
def wsX6_enter_r5 : List Cond := [Cond.fieldLink RX6 126 "PageMonitorModel" "constants" "[I", Cond.methodLink RX6 165 yX6_turned, Cond.static yX6_turned, Cond.code yX6_turned cX6_turned 2 (some .int), Cond.methodLink RX6 259 yX6_verified, Cond.instanceMethod yX6_verified, Cond.selects RX6 yX6_verified yX6_verified, Cond.code yX6_verified cX6_verified 4 (some .int), Cond.fieldLink RX6 152 "PageMonitorModel" "told" "[I", Cond.methodLink RX6 262 yX6_takeIn, Cond.instanceMethod yX6_takeIn, Cond.selects RX6 yX6_takeIn yX6_takeIn, Cond.code yX6_takeIn cX6_takeIn 5 (some .int), Cond.methodLink RX6 221 yX6_noBlock, Cond.static yX6_noBlock, Cond.code yX6_noBlock cX6_noBlock 1 (some .boolean), Cond.methodLink RX6 224 yX6_isTaken, Cond.instanceMethod yX6_isTaken, Cond.selects RX6 yX6_isTaken yX6_isTaken, Cond.code yX6_isTaken cX6_isTaken 3 (some .boolean), Cond.methodLink RX6 209 yX6_become, Cond.instanceMethod yX6_become, Cond.selects RX6 yX6_become yX6_become, Cond.code yX6_become cX6_become 4 none]
def wsX6_enter_r6 : List Cond := [Cond.methodLink RX6 266 yX6_giveBack, Cond.instanceMethod yX6_giveBack, Cond.selects RX6 yX6_giveBack yX6_giveBack, Cond.code yX6_giveBack cX6_giveBack 3 (some .int)]
def wsX6_enter : List Cond := .code yX6_enter cX6_enter 5 (some .int) :: ((wsX6_enter_r1 ++ (wsX6_enter_r2 ++ (wsX6_enter_r3 ++ (wsX6_enter_r4 ++ (wsX6_enter_r5 ++ wsX6_enter_r6))))) ++ wsX60)
def wsX6_resume_r1 : List Cond := [Cond.fieldLink RX6 183 "PageMonitorModel" "least" "I", Cond.fieldLink RX6 269 "PageMonitorModel" "running" "I", Cond.fieldLink RX6 59 "PageMonitorModel" "\x72" "[I", Cond.fieldLink RX6 56 "PageMonitorModel" "kept" "[I", Cond.fieldLink RX6 250 "PageMonitorModel" "at" "I", Cond.methodLink RX6 279 yX6_wantThread, Cond.instanceMethod yX6_wantThread, Cond.selects RX6 yX6_wantThread yX6_wantThread, Cond.initialized RX6, Cond.code yX6_wantThread cX6_wantThread 4 none, Cond.fieldLink RX6 22 "PageMonitorModel" "states" "[I", Cond.fieldLink RX6 19 "PageMonitorModel" "owners" "[I", Cond.fieldLink RX6 53 "PageMonitorModel" "entered" "[Z", Cond.methodLink RX6 203 yX6_begin, Cond.instanceMethod yX6_begin, Cond.selects RX6 yX6_begin yX6_begin, Cond.code yX6_begin cX6_begin 1 none, Cond.fieldLink RX6 158 "PageMonitorModel" "thrown" "I", Cond.methodLink RX6 186 yX6_noPage, Cond.static yX6_noPage, Cond.code yX6_noPage cX6_noPage 1 (some .boolean), Cond.methodLink RX6 193 yX6_wrong, Cond.instanceMethod yX6_wrong, Cond.selects RX6 yX6_wrong yX6_wrong]
def wsX6_resume_r2 : List Cond := [Cond.code yX6_wrong cX6_wrong 3 none, Cond.methodLink RX6 189 yX6_isKind, Cond.instanceMethod yX6_isKind, Cond.selects RX6 yX6_isKind yX6_isKind, Cond.code yX6_isKind cX6_isKind 3 (some .boolean), Cond.fieldLink RX6 16 "PageMonitorModel" "kinds" "[I", Cond.methodLink RX6 283 yX6_run, Cond.instanceMethod yX6_run, Cond.selects RX6 yX6_run yX6_run, Cond.code yX6_run cX6_run 3 (some .int), Cond.fieldLink RX6 231 "PageMonitorModel" "own" "I", Cond.fieldLink RX6 237 "PageMonitorModel" "fault" "I", Cond.fieldLink RX6 162 "PageMonitorModel" "result" "I", Cond.fieldLink RX6 272 "PageMonitorModel" "steps" "I", Cond.methodLink RX6 275 yX6_one, Cond.instanceMethod yX6_one, Cond.selects RX6 yX6_one yX6_one, Cond.code yX6_one cX6_one 6 (some .boolean), Cond.fieldLink RX6 25 "PageMonitorModel" "contents" "[I", Cond.fieldLink RX6 13 "PageMonitorModel" "frames" "[I", Cond.fieldLink RX6 43 "PageMonitorModel" "measures" "[I", Cond.methodLink RX6 234 yX6_lies, Cond.instanceMethod yX6_lies, Cond.selects RX6 yX6_lies yX6_lies]
def wsX6_resume_r3 : List Cond := [Cond.code yX6_lies cX6_lies 4 (some .int), Cond.fieldLink RX6 28 "PageMonitorModel" "entries" "[I", Cond.fieldLink RX6 31 "PageMonitorModel" "rights" "[I", Cond.methodLink RX6 197 yX6_tableOf, Cond.instanceMethod yX6_tableOf, Cond.selects RX6 yX6_tableOf yX6_tableOf, Cond.code yX6_tableOf cX6_tableOf 3 (some .int), Cond.fieldLink RX6 34 "PageMonitorModel" "tables" "[I", Cond.methodLink RX6 200 yX6_entryOf, Cond.instanceMethod yX6_entryOf, Cond.selects RX6 yX6_entryOf yX6_entryOf, Cond.code yX6_entryOf cX6_entryOf 3 (some .int), Cond.methodLink RX6 240 yX6_load, Cond.instanceMethod yX6_load, Cond.selects RX6 yX6_load yX6_load, Cond.code yX6_load cX6_load 3 (some .int), Cond.methodLink RX6 253 yX6_put, Cond.instanceMethod yX6_put, Cond.selects RX6 yX6_put yX6_put, Cond.code yX6_put cX6_put 3 none, Cond.methodLink RX6 247 yX6_store, Cond.instanceMethod yX6_store, Cond.selects RX6 yX6_store yX6_store, Cond.code yX6_store cX6_store 4 none]
def wsX6_resume_r4 : List Cond := [Cond.methodLink RX6 256 yX6_vouch, Cond.instanceMethod yX6_vouch, Cond.selects RX6 yX6_vouch yX6_vouch, Cond.code yX6_vouch cX6_vouch 4 none, Cond.fieldLink RX6 140 "PageMonitorModel" "message" "[I", Cond.fieldLink RX6 146 "PageMonitorModel" "digest" "[I", Cond.methodLink RX6 243 yX6_voucher, Cond.instanceMethod yX6_voucher, Cond.selects RX6 yX6_voucher yX6_voucher, Cond.code yX6_voucher cX6_voucher 4 none, Cond.fieldLink RX6 7 "PageMonitorModel" "key" "[I", Cond.methodLink RX6 176 yX6_hash, Cond.instanceMethod yX6_hash, Cond.selects RX6 yX6_hash yX6_hash, Cond.code yX6_hash cX6_hash 3 none, Cond.fieldLink RX6 137 "PageMonitorModel" "begins" "[I", Cond.constant RX6 171 (-2147483648), Cond.methodLink RX6 172 yX6_block, Cond.instanceMethod yX6_block, Cond.selects RX6 yX6_block yX6_block, Cond.code yX6_block cX6_block 8 none, Cond.fieldLink RX6 143 "PageMonitorModel" "w" "[I", Cond.fieldLink RX6 149 "PageMonitorModel" "v" "[I", Cond.fieldLink RX6 126 "PageMonitorModel" "constants" "[I"]
def wsX6_resume_r5 : List Cond := [Cond.methodLink RX6 165 yX6_turned, Cond.static yX6_turned, Cond.code yX6_turned cX6_turned 2 (some .int), Cond.methodLink RX6 259 yX6_verified, Cond.instanceMethod yX6_verified, Cond.selects RX6 yX6_verified yX6_verified, Cond.code yX6_verified cX6_verified 4 (some .int), Cond.fieldLink RX6 152 "PageMonitorModel" "told" "[I", Cond.methodLink RX6 262 yX6_takeIn, Cond.instanceMethod yX6_takeIn, Cond.selects RX6 yX6_takeIn yX6_takeIn, Cond.code yX6_takeIn cX6_takeIn 5 (some .int), Cond.methodLink RX6 221 yX6_noBlock, Cond.static yX6_noBlock, Cond.code yX6_noBlock cX6_noBlock 1 (some .boolean), Cond.methodLink RX6 224 yX6_isTaken, Cond.instanceMethod yX6_isTaken, Cond.selects RX6 yX6_isTaken yX6_isTaken, Cond.code yX6_isTaken cX6_isTaken 3 (some .boolean), Cond.methodLink RX6 209 yX6_become, Cond.instanceMethod yX6_become, Cond.selects RX6 yX6_become yX6_become, Cond.code yX6_become cX6_become 4 none, Cond.methodLink RX6 266 yX6_giveBack]
def wsX6_resume_r6 : List Cond := [Cond.instanceMethod yX6_giveBack, Cond.selects RX6 yX6_giveBack yX6_giveBack, Cond.code yX6_giveBack cX6_giveBack 3 (some .int)]
def wsX6_resume : List Cond := .code yX6_resume cX6_resume 4 (some .int) :: ((wsX6_resume_r1 ++ (wsX6_resume_r2 ++ (wsX6_resume_r3 ++ (wsX6_resume_r4 ++ (wsX6_resume_r5 ++ wsX6_resume_r6))))) ++ wsX60)
def wsX6_result : List Cond := .code yX6_result cX6_result 1 (some .int) :: ([.fieldLink RX6 158 "PageMonitorModel" "thrown" "I", .fieldLink RX6 162 "PageMonitorModel" "result" "I"] ++ wsX60)
def wsX6_steps : List Cond := .code yX6_steps cX6_steps 1 (some .int) :: ([.fieldLink RX6 158 "PageMonitorModel" "thrown" "I", .fieldLink RX6 272 "PageMonitorModel" "steps" "I"] ++ wsX60)
def wsX6_told : List Cond := .code yX6_told cX6_told 3 (some .int) :: ([.fieldLink RX6 158 "PageMonitorModel" "thrown" "I", .fieldLink RX6 16 "PageMonitorModel" "kinds" "[I", .fieldLink RX6 19 "PageMonitorModel" "owners" "[I", .fieldLink RX6 22 "PageMonitorModel" "states" "[I", .fieldLink RX6 53 "PageMonitorModel" "entered" "[Z", .methodLink RX6 186 yX6_noPage, .static yX6_noPage, .initialized RX6, .code yX6_noPage cX6_noPage 1 (some .boolean), .methodLink RX6 227 yX6_belonging, .instanceMethod yX6_belonging, .selects RX6 yX6_belonging yX6_belonging, .code yX6_belonging cX6_belonging 4 (some .int)] ++ wsX60)
def wsX6_measure : List Cond := .code yX6_measure cX6_measure 3 (some .int) :: ([.fieldLink RX6 16 "PageMonitorModel" "kinds" "[I", .fieldLink RX6 46 "PageMonitorModel" "measured" "[Z", .fieldLink RX6 158 "PageMonitorModel" "thrown" "I", .fieldLink RX6 43 "PageMonitorModel" "measures" "[I", .methodLink RX6 186 yX6_noPage, .static yX6_noPage, .initialized RX6, .code yX6_noPage cX6_noPage 1 (some .boolean)] ++ wsX60)
def wsL_key : List Cond := .codeWith yL_key cL_key 4 (some .int) [(0, 6, 9, 13)] :: ([.classLink RL 13 "java/lang/IndexOutOfBoundsException", .methodLink RL 7 yX5_key, .instanceMethod yX5_key, .selects RX5 yX5_key yX5_key, .initialized RX5, .code yX5_key cX5_key 4 none, .classLink RX5 26 "java/lang/IndexOutOfBoundsException", .initialized "java/lang/IndexOutOfBoundsException", .fieldLink RX5 25 "PageMonitor" "notary" "LPageMonitor$Notary;", .fieldLink RX5 29 "PageMonitor$Notary" "secret" "[I", .fieldLink RX5 20 "PageMonitor" "store" "LPageMonitor$Store;", .fieldLink RX5 10 "PageMonitor" "machine" "LPageMonitor$Machine;", .fieldLink RX5 41 "PageMonitor$Machine" "lastResult" "I", .methodLink RX5 35 yX4_claim, .instanceMethod yX4_claim, .selects RX4 yX4_claim yX4_claim, .initialized RX4, .code yX4_claim cX4_claim 5 (some (.object "PageMonitor$Page")), .fieldLink RX4 11 "PageMonitor$Store" "pages" "[LPageMonitor$Page;", .fieldLink RX4 23 "PageMonitor$Page" "kind" "I", .fieldLink RX4 27 "PageMonitor$Page" "owner" "I"] ++ wsX50 ++ wsX20 ++ wsX10 ++ wsX40 ++ wsX30 ++ (vx_at0 RX5 28 "java/lang/IndexOutOfBoundsException" ["java/lang/RuntimeException", "java/lang/Exception"]).filter goodWord)
def wsL_poke : List Cond := .codeWith yL_poke cL_poke 6 (some .int) [(0, 12, 15, 13)] :: ([.classLink RL 13 "java/lang/IndexOutOfBoundsException", .methodLink RL 15 yX5_poke, .instanceMethod yX5_poke, .selects RX5 yX5_poke yX5_poke, .initialized RX5, .code yX5_poke cX5_poke 6 (some .int), .classLink RX5 26 "java/lang/IndexOutOfBoundsException", .initialized "java/lang/IndexOutOfBoundsException", .fieldLink RX5 20 "PageMonitor" "store" "LPageMonitor$Store;", .methodLink RX5 45 yX5_isFrame, .static yX5_isFrame, .code yX5_isFrame cX5_isFrame 1 (some .boolean), .methodLink RX5 49 yX5_isWord, .static yX5_isWord, .code yX5_isWord cX5_isWord 1 (some .boolean), .methodLink RX5 52 yX4_frameRow, .instanceMethod yX4_frameRow, .selects RX4 yX4_frameRow yX4_frameRow, .initialized RX4, .code yX4_frameRow cX4_frameRow 2 (some (.array .int)), .fieldLink RX4 19 "PageMonitor$Store" "rows" "[[I"] ++ wsX50 ++ wsX40 ++ (vx_at0 RX5 28 "java/lang/IndexOutOfBoundsException" ["java/lang/RuntimeException", "java/lang/Exception"]).filter goodWord)
def wsL_peek : List Cond := .codeWith yL_peek cL_peek 5 (some .int) [(0, 10, 13, 13)] :: ([.classLink RL 13 "java/lang/IndexOutOfBoundsException", .methodLink RL 19 yX5_peek, .instanceMethod yX5_peek, .selects RX5 yX5_peek yX5_peek, .initialized RX5, .code yX5_peek cX5_peek 3 (some .int), .classLink RX5 26 "java/lang/IndexOutOfBoundsException", .initialized "java/lang/IndexOutOfBoundsException", .fieldLink RX5 20 "PageMonitor" "store" "LPageMonitor$Store;", .methodLink RX5 45 yX5_isFrame, .static yX5_isFrame, .code yX5_isFrame cX5_isFrame 1 (some .boolean), .methodLink RX5 49 yX5_isWord, .static yX5_isWord, .code yX5_isWord cX5_isWord 1 (some .boolean), .methodLink RX5 52 yX4_frameRow, .instanceMethod yX4_frameRow, .selects RX4 yX4_frameRow yX4_frameRow, .initialized RX4, .code yX4_frameRow cX4_frameRow 2 (some (.array .int)), .fieldLink RX4 19 "PageMonitor$Store" "rows" "[[I"] ++ wsX50 ++ wsX40 ++ (vx_at0 RX5 28 "java/lang/IndexOutOfBoundsException" ["java/lang/RuntimeException", "java/lang/Exception"]).filter goodWord)
def wsL_told_r1 : List Cond := [Cond.classLink RL 13 "java/lang/IndexOutOfBoundsException", Cond.classLink RL 26 "java/lang/IllegalArgumentException", Cond.methodLink RL 23 yX5_told, Cond.instanceMethod yX5_told, Cond.selects RX5 yX5_told yX5_told, Cond.initialized RX5, Cond.code yX5_told cX5_told 4 (some .int), Cond.classLink RX5 26 "java/lang/IndexOutOfBoundsException", Cond.initialized "java/lang/IndexOutOfBoundsException", Cond.classLink RX5 168 "java/lang/IllegalArgumentException", Cond.initialized "java/lang/IllegalArgumentException", Cond.fieldLink RX5 20 "PageMonitor" "store" "LPageMonitor$Store;", Cond.fieldLink RX5 59 "PageMonitor$Store" "pages" "[LPageMonitor$Page;", Cond.fieldLink RX5 63 "PageMonitor$Page" "kind" "I", Cond.fieldLink RX5 136 "PageMonitor$Page" "owner" "I", Cond.methodLink RX5 56 yX5_isPage, Cond.static yX5_isPage, Cond.code yX5_isPage cX5_isPage 1 (some .boolean), Cond.methodLink RX5 164 yX5_stateOf, Cond.static yX5_stateOf, Cond.code yX5_stateOf cX5_stateOf 1 (some .int), Cond.fieldLink RX5 68 "PageMonitor$Page" "state" "I", Cond.fieldLink RX5 91 "PageMonitor$Page" "entered" "Z", Cond.methodLink RX5 143 yX4_countOwnedBy]
def wsL_told_r2 : List Cond := [Cond.instanceMethod yX4_countOwnedBy, Cond.selects RX4 yX4_countOwnedBy yX4_countOwnedBy, Cond.initialized RX4, Cond.code yX4_countOwnedBy cX4_countOwnedBy 4 (some .int), Cond.fieldLink RX4 11 "PageMonitor$Store" "pages" "[LPageMonitor$Page;", Cond.fieldLink RX4 27 "PageMonitor$Page" "owner" "I"]
def wsL_told : List Cond := .codeWith yL_told cL_told 5 (some .int) [(0, 10, 13, 13), (0, 10, 17, 26)] :: ((wsL_told_r1 ++ wsL_told_r2) ++ wsX50 ++ wsX40 ++ wsX30 ++ (vx_at0 RX5 28 "java/lang/IndexOutOfBoundsException" ["java/lang/RuntimeException", "java/lang/Exception"]).filter goodWord ++ (vx_at0 RX5 170 "java/lang/IllegalArgumentException" ["java/lang/RuntimeException", "java/lang/Exception"]).filter goodWord)
def wsL_measure : List Cond := .codeWith yL_measure cL_measure 5 (some .int) [(0, 10, 13, 13), (0, 10, 17, 31)] :: ([.classLink RL 13 "java/lang/IndexOutOfBoundsException", .classLink RL 31 "java/lang/IllegalStateException", .methodLink RL 28 yX5_measure, .instanceMethod yX5_measure, .selects RX5 yX5_measure yX5_measure, .initialized RX5, .code yX5_measure cX5_measure 4 (some .int), .classLink RX5 26 "java/lang/IndexOutOfBoundsException", .initialized "java/lang/IndexOutOfBoundsException", .classLink RX5 174 "java/lang/IllegalStateException", .initialized "java/lang/IllegalStateException", .fieldLink RX5 20 "PageMonitor" "store" "LPageMonitor$Store;", .fieldLink RX5 59 "PageMonitor$Store" "pages" "[LPageMonitor$Page;", .fieldLink RX5 63 "PageMonitor$Page" "kind" "I", .fieldLink RX5 171 "PageMonitor$Page" "sealed" "Z", .fieldLink RX5 177 "PageMonitor$Page" "digest" "[I", .methodLink RX5 56 yX5_isPage, .static yX5_isPage, .code yX5_isPage cX5_isPage 1 (some .boolean)] ++ wsX50 ++ wsX40 ++ wsX30 ++ (vx_at0 RX5 28 "java/lang/IndexOutOfBoundsException" ["java/lang/RuntimeException", "java/lang/Exception"]).filter goodWord ++ (vx_at0 RX5 176 "java/lang/IllegalStateException" ["java/lang/RuntimeException", "java/lang/Exception"]).filter goodWord)
def wsL_law0_r1 : List Cond := [Cond.classLink RL 8 RX5, Cond.instantiable RX5 3, Cond.initialized RX5, Cond.classLink RL 34 RX6, Cond.instantiable RX6 32, Cond.initialized RX6, Cond.arrayClass .long, Cond.methodLink RL 33 yX5_init, Cond.instanceMethod yX5_init, Cond.code yX5_init cX5_init 1 none, Cond.methodLink RX5 1 objectInit, Cond.instanceMethod objectInit, Cond.code objectInit ⟨#[0xb1]⟩ 1 none, Cond.classLink RX5 7 RX1, Cond.instantiable RX1 8, Cond.initialized RX1, Cond.fieldLink RX5 10 "PageMonitor" "machine" "LPageMonitor$Machine;", Cond.fieldLink RX5 16 "PageMonitor$Machine" "store" "LPageMonitor$Store;", Cond.fieldLink RX5 20 "PageMonitor" "store" "LPageMonitor$Store;", Cond.fieldLink RX5 21 "PageMonitor$Machine" "notary" "LPageMonitor$Notary;", Cond.fieldLink RX5 25 "PageMonitor" "notary" "LPageMonitor$Notary;", Cond.instanceMethod yX1_init, Cond.code yX1_init cX1_init 1 none, Cond.methodLink RX1 3 objectInit]
def wsL_law0_r2 : List Cond := [Cond.classLink RX1 9 RX4, Cond.instantiable RX4 2, Cond.initialized RX4, Cond.fieldLink RX1 12 "PageMonitor$Machine" "store" "LPageMonitor$Store;", Cond.classLink RX1 18 RX2, Cond.instantiable RX2 3, Cond.initialized RX2, Cond.fieldLink RX1 21 "PageMonitor$Machine" "notary" "LPageMonitor$Notary;", Cond.fieldLink RX1 25 "PageMonitor$Machine" "lastResult" "I", Cond.fieldLink RX1 29 "PageMonitor$Machine" "lastSteps" "I", Cond.arrayClass .int, Cond.fieldLink RX1 32 "PageMonitor$Machine" "said" "[I", Cond.fieldLink RX1 36 "PageMonitor$Machine" "claimedMeasure" "[I", Cond.fieldLink RX1 39 "PageMonitor$Machine" "claimedVoucher" "[I", Cond.fieldLink RX1 42 "PageMonitor$Machine" "voucher" "[I", Cond.methodLink RX1 11 yX4_init, Cond.instanceMethod yX4_init, Cond.code yX4_init cX4_init 2 none, Cond.methodLink RX4 3 objectInit, Cond.classLink RX4 9 RX3, Cond.fieldLink RX4 11 "PageMonitor$Store" "pages" "[LPageMonitor$Page;", Cond.classLink RX4 17 "[[I", Cond.fieldLink RX4 19 "PageMonitor$Store" "rows" "[[I", Cond.instantiable RX3 12]
def wsL_law0_r3 : List Cond := [Cond.initialized RX3, Cond.instanceMethod yX3_init, Cond.code yX3_init cX3_init 1 none, Cond.methodLink RX3 3 objectInit, Cond.fieldLink RX3 9 "PageMonitor$Page" "kind" "I", Cond.fieldLink RX3 15 "PageMonitor$Page" "owner" "I", Cond.fieldLink RX3 18 "PageMonitor$Page" "state" "I", Cond.fieldLink RX3 21 "PageMonitor$Page" "sealed" "Z", Cond.fieldLink RX3 25 "PageMonitor$Page" "blocksTold" "I", Cond.fieldLink RX3 28 "PageMonitor$Page" "tables" "[I", Cond.fieldLink RX3 32 "PageMonitor$Page" "digest" "[I", Cond.fieldLink RX3 35 "PageMonitor$Page" "entry" "I", Cond.fieldLink RX3 38 "PageMonitor$Page" "entered" "Z", Cond.fieldLink RX3 41 "PageMonitor$Page" "place" "I", Cond.fieldLink RX3 44 "PageMonitor$Page" "registers" "[I", Cond.fieldLink RX3 47 "PageMonitor$Page" "entries" "[I", Cond.instanceMethod yX2_init, Cond.code yX2_init cX2_init 1 none, Cond.methodLink RX2 3 objectInit, Cond.fieldLink RX2 9 "PageMonitor$Notary" "secret" "[I", Cond.classLink RX2 15 RX0, Cond.instantiable RX0 2, Cond.initialized RX0, Cond.fieldLink RX2 18 "PageMonitor$Notary" "hasher" "LPageMonitor$Hasher;"]
def wsL_law0_r4 : List Cond := [Cond.fieldLink RX2 22 "PageMonitor$Notary" "block" "[I", Cond.instanceMethod yX0_init, Cond.code yX0_init cX0_init 1 none, Cond.methodLink RX0 3 objectInit, Cond.fieldLink RX0 11 "PageMonitor$Hasher" "schedule" "[I", Cond.fieldLink RX0 15 "PageMonitor$Hasher" "padding" "[I", Cond.methodLink RL 36 yX6_init, Cond.instanceMethod yX6_init, Cond.code yX6_init cX6_init 1 none, Cond.methodLink RX6 1 objectInit, Cond.fieldLink RX6 7 "PageMonitorModel" "key" "[I", Cond.fieldLink RX6 13 "PageMonitorModel" "frames" "[I", Cond.fieldLink RX6 16 "PageMonitorModel" "kinds" "[I", Cond.fieldLink RX6 19 "PageMonitorModel" "owners" "[I", Cond.fieldLink RX6 22 "PageMonitorModel" "states" "[I", Cond.fieldLink RX6 25 "PageMonitorModel" "contents" "[I", Cond.fieldLink RX6 28 "PageMonitorModel" "entries" "[I", Cond.fieldLink RX6 31 "PageMonitorModel" "rights" "[I", Cond.fieldLink RX6 34 "PageMonitorModel" "tables" "[I", Cond.fieldLink RX6 37 "PageMonitorModel" "logs" "[I", Cond.fieldLink RX6 40 "PageMonitorModel" "logged" "[I", Cond.fieldLink RX6 43 "PageMonitorModel" "measures" "[I", Cond.arrayClass .boolean, Cond.fieldLink RX6 46 "PageMonitorModel" "measured" "[Z"]
def wsL_law0_r5 : List Cond := [Cond.fieldLink RX6 50 "PageMonitorModel" "starts" "[I", Cond.fieldLink RX6 53 "PageMonitorModel" "entered" "[Z", Cond.fieldLink RX6 56 "PageMonitorModel" "kept" "[I", Cond.fieldLink RX6 59 "PageMonitorModel" "\x72" "[I", Cond.constant RX6 62 (1116352408), Cond.constant RX6 63 (1899447441), Cond.constant RX6 64 (-1245643825), Cond.constant RX6 65 (-373957723), Cond.constant RX6 66 (961987163), Cond.constant RX6 67 (1508970993), Cond.constant RX6 68 (-1841331548), Cond.constant RX6 69 (-1424204075), Cond.constant RX6 70 (-670586216), Cond.constant RX6 71 (310598401), Cond.constant RX6 72 (607225278), Cond.constant RX6 73 (1426881987), Cond.constant RX6 74 (1925078388), Cond.constant RX6 75 (-2132889090), Cond.constant RX6 76 (-1680079193), Cond.constant RX6 77 (-1046744716), Cond.constant RX6 78 (-459576895), Cond.constant RX6 79 (-272742522), Cond.constant RX6 80 (264347078), Cond.constant RX6 81 (604807628)]
def wsL_law0_r6 : List Cond := [Cond.constant RX6 82 (770255983), Cond.constant RX6 83 (1249150122), Cond.constant RX6 84 (1555081692), Cond.constant RX6 85 (1996064986), Cond.constant RX6 86 (-1740746414), Cond.constant RX6 87 (-1473132947), Cond.constant RX6 88 (-1341970488), Cond.constant RX6 89 (-1084653625), Cond.constant RX6 90 (-958395405), Cond.constant RX6 91 (-710438585), Cond.constant RX6 92 (113926993), Cond.constant RX6 93 (338241895), Cond.constant RX6 94 (666307205), Cond.constant RX6 95 (773529912), Cond.constant RX6 96 (1294757372), Cond.constant RX6 97 (1396182291), Cond.constant RX6 98 (1695183700), Cond.constant RX6 99 (1986661051), Cond.constant RX6 100 (-2117940946), Cond.constant RX6 101 (-1838011259), Cond.constant RX6 102 (-1564481375), Cond.constant RX6 103 (-1474664885), Cond.constant RX6 104 (-1035236496), Cond.constant RX6 105 (-949202525)]
def wsL_law0_r7 : List Cond := [Cond.constant RX6 106 (-778901479), Cond.constant RX6 107 (-694614492), Cond.constant RX6 108 (-200395387), Cond.constant RX6 109 (275423344), Cond.constant RX6 110 (430227734), Cond.constant RX6 111 (506948616), Cond.constant RX6 112 (659060556), Cond.constant RX6 113 (883997877), Cond.constant RX6 114 (958139571), Cond.constant RX6 115 (1322822218), Cond.constant RX6 116 (1537002063), Cond.constant RX6 117 (1747873779), Cond.constant RX6 118 (1955562222), Cond.constant RX6 119 (2024104815), Cond.constant RX6 120 (-2067236844), Cond.constant RX6 121 (-1933114872), Cond.constant RX6 122 (-1866530822), Cond.constant RX6 123 (-1538233109), Cond.constant RX6 124 (-1090935817), Cond.constant RX6 125 (-965641998), Cond.fieldLink RX6 126 "PageMonitorModel" "constants" "[I", Cond.constant RX6 129 (1779033703), Cond.constant RX6 130 (-1150833019), Cond.constant RX6 131 (1013904242)]
def wsL_law0_r8 : List Cond := [Cond.constant RX6 132 (-1521486534), Cond.constant RX6 133 (1359893119), Cond.constant RX6 134 (-1694144372), Cond.constant RX6 135 (528734635), Cond.constant RX6 136 (1541459225), Cond.fieldLink RX6 137 "PageMonitorModel" "begins" "[I", Cond.fieldLink RX6 140 "PageMonitorModel" "message" "[I", Cond.fieldLink RX6 143 "PageMonitorModel" "w" "[I", Cond.fieldLink RX6 146 "PageMonitorModel" "digest" "[I", Cond.fieldLink RX6 149 "PageMonitorModel" "v" "[I", Cond.fieldLink RX6 152 "PageMonitorModel" "told" "[I", Cond.methodLink RX6 155 yX6_free, Cond.instanceMethod yX6_free, Cond.selects RX6 yX6_free yX6_free, Cond.code yX6_free cX6_free 2 none, Cond.fieldLink RX6 162 "PageMonitorModel" "result" "I", Cond.methodLink RL 37 yL_key, Cond.static yL_key, Cond.initialized RL, Cond.codeWith yL_key cL_key 4 (some .int) [(0, 6, 9, 13)], Cond.classLink RL 13 "java/lang/IndexOutOfBoundsException", Cond.methodLink RL 7 yX5_key, Cond.instanceMethod yX5_key, Cond.selects RX5 yX5_key yX5_key]
def wsL_law0_r9 : List Cond := [Cond.code yX5_key cX5_key 4 none, Cond.classLink RX5 26 "java/lang/IndexOutOfBoundsException", Cond.initialized "java/lang/IndexOutOfBoundsException", Cond.fieldLink RX5 29 "PageMonitor$Notary" "secret" "[I", Cond.fieldLink RX5 41 "PageMonitor$Machine" "lastResult" "I", Cond.methodLink RX5 35 yX4_claim, Cond.instanceMethod yX4_claim, Cond.selects RX4 yX4_claim yX4_claim, Cond.code yX4_claim cX4_claim 5 (some (.object "PageMonitor$Page")), Cond.fieldLink RX4 23 "PageMonitor$Page" "kind" "I", Cond.fieldLink RX4 27 "PageMonitor$Page" "owner" "I", Cond.methodLink RL 42 yX6_key, Cond.instanceMethod yX6_key, Cond.selects RX6 yX6_key yX6_key, Cond.code yX6_key cX6_key 3 none, Cond.fieldLink RX6 158 "PageMonitorModel" "thrown" "I", Cond.methodLink RL 43 yX6_thrown, Cond.instanceMethod yX6_thrown, Cond.selects RX6 yX6_thrown yX6_thrown, Cond.code yX6_thrown cX6_thrown 1 (some .int), Cond.methodLink RL 47 yL_poke, Cond.static yL_poke, Cond.codeWith yL_poke cL_poke 6 (some .int) [(0, 12, 15, 13)], Cond.methodLink RL 15 yX5_poke]
def wsL_law0_r10 : List Cond := [Cond.instanceMethod yX5_poke, Cond.selects RX5 yX5_poke yX5_poke, Cond.code yX5_poke cX5_poke 6 (some .int), Cond.methodLink RX5 45 yX5_isFrame, Cond.static yX5_isFrame, Cond.code yX5_isFrame cX5_isFrame 1 (some .boolean), Cond.methodLink RX5 49 yX5_isWord, Cond.static yX5_isWord, Cond.code yX5_isWord cX5_isWord 1 (some .boolean), Cond.methodLink RX5 52 yX4_frameRow, Cond.instanceMethod yX4_frameRow, Cond.selects RX4 yX4_frameRow yX4_frameRow, Cond.code yX4_frameRow cX4_frameRow 2 (some (.array .int)), Cond.methodLink RL 50 yX6_poke, Cond.instanceMethod yX6_poke, Cond.selects RX6 yX6_poke yX6_poke, Cond.code yX6_poke cX6_poke 5 (some .int), Cond.methodLink RX6 179 yX6_noFrame, Cond.static yX6_noFrame, Cond.code yX6_noFrame cX6_noFrame 1 (some .boolean), Cond.methodLink RL 51 yL_peek, Cond.static yL_peek, Cond.codeWith yL_peek cL_peek 5 (some .int) [(0, 10, 13, 13)], Cond.methodLink RL 19 yX5_peek]
def wsL_law0_r11 : List Cond := [Cond.instanceMethod yX5_peek, Cond.selects RX5 yX5_peek yX5_peek, Cond.code yX5_peek cX5_peek 3 (some .int), Cond.methodLink RL 54 yX6_peek, Cond.instanceMethod yX6_peek, Cond.selects RX6 yX6_peek yX6_peek, Cond.code yX6_peek cX6_peek 3 (some .int), Cond.methodLink RL 55 yX5_space, Cond.instanceMethod yX5_space, Cond.selects RX5 yX5_space yX5_space, Cond.code yX5_space cX5_space 3 (some .int), Cond.fieldLink RX5 59 "PageMonitor$Store" "pages" "[LPageMonitor$Page;", Cond.fieldLink RX5 63 "PageMonitor$Page" "kind" "I", Cond.fieldLink RX5 68 "PageMonitor$Page" "state" "I", Cond.fieldLink RX5 71 "PageMonitor$Page" "tables" "[I", Cond.methodLink RX5 56 yX5_isPage, Cond.static yX5_isPage, Cond.code yX5_isPage cX5_isPage 1 (some .boolean), Cond.methodLink RX5 74 yJ7_fill_53178, Cond.static yJ7_fill_53178, Cond.initialized RJ7, Cond.code yJ7_fill_53178 cJ7_fill_53178 4 none, Cond.methodLink RX5 80 yX2_open, Cond.instanceMethod yX2_open]
def wsL_law0_r12 : List Cond := [Cond.selects RX2 yX2_open yX2_open, Cond.code yX2_open cX2_open 2 none, Cond.fieldLink RX2 25 "PageMonitor$Page" "sealed" "Z", Cond.fieldLink RX2 31 "PageMonitor$Page" "blocksTold" "I", Cond.fieldLink RX2 35 "PageMonitor$Page" "digest" "[I", Cond.methodLink RX2 38 yX0_begin, Cond.instanceMethod yX0_begin, Cond.selects RX0 yX0_begin yX0_begin, Cond.code yX0_begin cX0_begin 2 none, Cond.fieldLink RX0 18 "PageMonitor$Hasher" "START" "[I", Cond.methodLink RX0 21 arraycopyName, Cond.native arraycopyName, Cond.static arraycopyName, Cond.initialized "java/lang/System", Cond.methodLink RL 59 yX6_space, Cond.instanceMethod yX6_space, Cond.selects RX6 yX6_space yX6_space, Cond.code yX6_space cX6_space 3 (some .int), Cond.fieldLink RX6 183 "PageMonitorModel" "least" "I", Cond.methodLink RX6 203 yX6_begin, Cond.instanceMethod yX6_begin, Cond.selects RX6 yX6_begin yX6_begin, Cond.code yX6_begin cX6_begin 1 none, Cond.methodLink RX6 186 yX6_noPage]
def wsL_law0_r13 : List Cond := [Cond.static yX6_noPage, Cond.code yX6_noPage cX6_noPage 1 (some .boolean), Cond.methodLink RX6 193 yX6_wrong, Cond.instanceMethod yX6_wrong, Cond.selects RX6 yX6_wrong yX6_wrong, Cond.code yX6_wrong cX6_wrong 3 none, Cond.methodLink RX6 206 yX6_wantFree, Cond.instanceMethod yX6_wantFree, Cond.selects RX6 yX6_wantFree yX6_wantFree, Cond.code yX6_wantFree cX6_wantFree 2 none, Cond.methodLink RX6 189 yX6_isKind, Cond.instanceMethod yX6_isKind, Cond.selects RX6 yX6_isKind yX6_isKind, Cond.code yX6_isKind cX6_isKind 3 (some .boolean), Cond.methodLink RX6 209 yX6_become, Cond.instanceMethod yX6_become, Cond.selects RX6 yX6_become yX6_become, Cond.code yX6_become cX6_become 4 none, Cond.methodLink RL 60 yX5_thread, Cond.instanceMethod yX5_thread, Cond.selects RX5 yX5_thread yX5_thread, Cond.code yX5_thread cX5_thread 6 (some .int), Cond.fieldLink RX5 88 "PageMonitor$Page" "entry" "I", Cond.fieldLink RX5 91 "PageMonitor$Page" "entered" "Z"]
def wsL_law0_r14 : List Cond := [Cond.methodLink RX5 84 yX5_refusalOfNew, Cond.instanceMethod yX5_refusalOfNew, Cond.selects RX5 yX5_refusalOfNew yX5_refusalOfNew, Cond.code yX5_refusalOfNew cX5_refusalOfNew 4 (some .int), Cond.methodLink RX5 129 yX5_refusalOfSpace, Cond.instanceMethod yX5_refusalOfSpace, Cond.selects RX5 yX5_refusalOfSpace yX5_refusalOfSpace, Cond.code yX5_refusalOfSpace cX5_refusalOfSpace 4 (some .int), Cond.methodLink RX5 95 yX2_tell, Cond.instanceMethod yX2_tell, Cond.selects RX2 yX2_tell yX2_tell, Cond.code yX2_tell cX2_tell 5 none, Cond.methodLink RX2 42 yJ7_fill_53178, Cond.methodLink RX2 48 yX2_tellWords, Cond.instanceMethod yX2_tellWords, Cond.selects RX2 yX2_tellWords yX2_tellWords, Cond.code yX2_tellWords cX2_tellWords 3 none, Cond.methodLink RX2 52 yX0_take, Cond.instanceMethod yX0_take, Cond.selects RX0 yX0_take yX0_take, Cond.code yX0_take cX0_take 16 none, Cond.fieldLink RX0 31 "PageMonitor$Hasher" "ADDED" "[I", Cond.methodLink RX0 27 yX0_spread, Cond.instanceMethod yX0_spread]
def wsL_law0_r15 : List Cond := [Cond.selects RX0 yX0_spread yX0_spread, Cond.code yX0_spread cX0_spread 7 none, Cond.methodLink RL 63 yX6_thread, Cond.instanceMethod yX6_thread, Cond.selects RX6 yX6_thread yX6_thread, Cond.code yX6_thread cX6_thread 4 (some .int), Cond.methodLink RX6 213 yX6_wantSpace, Cond.instanceMethod yX6_wantSpace, Cond.selects RX6 yX6_wantSpace yX6_wantSpace, Cond.code yX6_wantSpace cX6_wantSpace 3 none, Cond.methodLink RX6 217 yX6_tell, Cond.instanceMethod yX6_tell, Cond.selects RX6 yX6_tell yX6_tell, Cond.code yX6_tell cX6_tell 7 none, Cond.methodLink RL 64 yX5_table, Cond.instanceMethod yX5_table, Cond.selects RX5 yX5_table yX5_table, Cond.code yX5_table cX5_table 6 (some .int), Cond.fieldLink RX5 99 "PageMonitor$Page" "entries" "[I", Cond.methodLink RL 67 yX6_table, Cond.instanceMethod yX6_table, Cond.selects RX6 yX6_table yX6_table, Cond.code yX6_table cX6_table 5 (some .int), Cond.methodLink RL 68 yX5_data]
def wsL_law0_r16 : List Cond := [Cond.instanceMethod yX5_data, Cond.selects RX5 yX5_data yX5_data, Cond.code yX5_data cX5_data 9 (some .int), Cond.fieldLink RX5 112 "PageMonitor$Store" "rows" "[[I", Cond.methodLink RX5 116 arraycopyName, Cond.methodLink RX5 102 yX5_isBlock, Cond.static yX5_isBlock, Cond.code yX5_isBlock cX5_isBlock 1 (some .boolean), Cond.methodLink RX5 105 yX5_areDataRights, Cond.static yX5_areDataRights, Cond.code yX5_areDataRights cX5_areDataRights 1 (some .boolean), Cond.methodLink RX5 108 yX4_hasRoom, Cond.instanceMethod yX4_hasRoom, Cond.selects RX4 yX4_hasRoom yX4_hasRoom, Cond.code yX4_hasRoom cX4_hasRoom 4 (some .boolean), Cond.methodLink RX4 41 yX4_entriesFor, Cond.instanceMethod yX4_entriesFor, Cond.selects RX4 yX4_entriesFor yX4_entriesFor, Cond.code yX4_entriesFor cX4_entriesFor 4 (some (.array .int)), Cond.fieldLink RX4 34 "PageMonitor$Page" "tables" "[I", Cond.fieldLink RX4 38 "PageMonitor$Page" "entries" "[I", Cond.methodLink RX5 122 yX4_map, Cond.instanceMethod yX4_map, Cond.selects RX4 yX4_map yX4_map]
def wsL_law0_r17 : List Cond := [Cond.code yX4_map cX4_map 6 none, Cond.methodLink RX5 125 yX2_tellWords, Cond.methodLink RL 72 yX6_data, Cond.instanceMethod yX6_data, Cond.selects RX6 yX6_data yX6_data, Cond.code yX6_data cX6_data 7 (some .int), Cond.methodLink RX6 221 yX6_noBlock, Cond.static yX6_noBlock, Cond.code yX6_noBlock cX6_noBlock 1 (some .boolean), Cond.methodLink RX6 224 yX6_isTaken, Cond.instanceMethod yX6_isTaken, Cond.selects RX6 yX6_isTaken yX6_isTaken, Cond.code yX6_isTaken cX6_isTaken 3 (some .boolean), Cond.methodLink RX6 197 yX6_tableOf, Cond.instanceMethod yX6_tableOf, Cond.selects RX6 yX6_tableOf yX6_tableOf, Cond.code yX6_tableOf cX6_tableOf 3 (some .int), Cond.methodLink RX6 200 yX6_entryOf, Cond.instanceMethod yX6_entryOf, Cond.selects RX6 yX6_entryOf yX6_entryOf, Cond.code yX6_entryOf cX6_entryOf 3 (some .int), Cond.methodLink RL 73 yX5_share, Cond.instanceMethod yX5_share, Cond.selects RX5 yX5_share yX5_share]
def wsL_law0_r18 : List Cond := [Cond.code yX5_share cX5_share 7 (some .int), Cond.methodLink RL 77 yX6_share, Cond.instanceMethod yX6_share, Cond.selects RX6 yX6_share yX6_share, Cond.code yX6_share cX6_share 5 (some .int), Cond.methodLink RL 78 yX5_spare, Cond.instanceMethod yX5_spare, Cond.selects RX5 yX5_spare yX5_spare, Cond.code yX5_spare cX5_spare 4 (some .int), Cond.methodLink RL 81 yX6_spare, Cond.instanceMethod yX6_spare, Cond.selects RX6 yX6_spare yX6_spare, Cond.code yX6_spare cX6_spare 3 (some .int), Cond.methodLink RL 82 yX5_finish, Cond.instanceMethod yX5_finish, Cond.selects RX5 yX5_finish yX5_finish, Cond.code yX5_finish cX5_finish 3 (some .int), Cond.methodLink RX5 133 yX2_seal, Cond.instanceMethod yX2_seal, Cond.selects RX2 yX2_seal yX2_seal, Cond.code yX2_seal cX2_seal 2 none, Cond.methodLink RX2 56 yX2_tell, Cond.methodLink RX2 60 yX0_endAfter, Cond.instanceMethod yX0_endAfter]
def wsL_law0_r19 : List Cond := [Cond.selects RX0 yX0_endAfter yX0_endAfter, Cond.code yX0_endAfter cX0_endAfter 2 (some (.array .int)), Cond.constant RX0 34 (-2147483648), Cond.methodLink RL 85 yX6_finish, Cond.instanceMethod yX6_finish, Cond.selects RX6 yX6_finish yX6_finish, Cond.code yX6_finish cX6_finish 3 (some .int), Cond.methodLink RX6 176 yX6_hash, Cond.instanceMethod yX6_hash, Cond.selects RX6 yX6_hash yX6_hash, Cond.code yX6_hash cX6_hash 3 none, Cond.constant RX6 171 (-2147483648), Cond.methodLink RX6 172 yX6_block, Cond.instanceMethod yX6_block, Cond.selects RX6 yX6_block yX6_block, Cond.code yX6_block cX6_block 8 none, Cond.methodLink RX6 165 yX6_turned, Cond.static yX6_turned, Cond.code yX6_turned cX6_turned 2 (some .int), Cond.methodLink RL 86 yX5_stop, Cond.instanceMethod yX5_stop, Cond.selects RX5 yX5_stop yX5_stop, Cond.code yX5_stop cX5_stop 4 (some .int), Cond.fieldLink RX5 136 "PageMonitor$Page" "owner" "I"]
def wsL_law0_r20 : List Cond := [Cond.methodLink RL 89 yX6_stop, Cond.instanceMethod yX6_stop, Cond.selects RX6 yX6_stop yX6_stop, Cond.code yX6_stop cX6_stop 3 (some .int), Cond.methodLink RL 90 yX5_remove, Cond.instanceMethod yX5_remove, Cond.selects RX5 yX5_remove yX5_remove, Cond.code yX5_remove cX5_remove 3 (some .int), Cond.methodLink RX5 139 yX5_homeOf, Cond.instanceMethod yX5_homeOf, Cond.selects RX5 yX5_homeOf yX5_homeOf, Cond.code yX5_homeOf cX5_homeOf 2 (some (.object "PageMonitor$Page")), Cond.methodLink RX5 143 yX4_countOwnedBy, Cond.instanceMethod yX4_countOwnedBy, Cond.selects RX4 yX4_countOwnedBy yX4_countOwnedBy, Cond.code yX4_countOwnedBy cX4_countOwnedBy 4 (some .int), Cond.methodLink RL 93 yX6_remove, Cond.instanceMethod yX6_remove, Cond.selects RX6 yX6_remove yX6_remove, Cond.code yX6_remove cX6_remove 3 (some .int), Cond.methodLink RX6 227 yX6_belonging, Cond.instanceMethod yX6_belonging, Cond.selects RX6 yX6_belonging yX6_belonging, Cond.code yX6_belonging cX6_belonging 4 (some .int)]
def wsL_law0_r21 : List Cond := [Cond.methodLink RL 94 yX5_enter, Cond.instanceMethod yX5_enter, Cond.selects RX5 yX5_enter yX5_enter, Cond.code yX5_enter cX5_enter 7 (some .int), Cond.fieldLink RX5 151 "PageMonitor$Page" "registers" "[I", Cond.fieldLink RX5 154 "PageMonitor$Page" "place" "I", Cond.methodLink RX5 147 yX5_refusalOfRun, Cond.instanceMethod yX5_refusalOfRun, Cond.selects RX5 yX5_refusalOfRun yX5_refusalOfRun, Cond.code yX5_refusalOfRun cX5_refusalOfRun 5 (some .int), Cond.methodLink RX5 157 yX1_run, Cond.instanceMethod yX1_run, Cond.selects RX1 yX1_run yX1_run, Cond.code yX1_run cX1_run 7 (some .int), Cond.fieldLink RX1 45 "PageMonitor$Store" "pages" "[LPageMonitor$Page;", Cond.fieldLink RX1 49 "PageMonitor$Page" "owner" "I", Cond.fieldLink RX1 54 "PageMonitor$Page" "place" "I", Cond.fieldLink RX1 65 "PageMonitor$Page" "entered" "Z", Cond.methodLink RX1 57 yX4_rowAt, Cond.instanceMethod yX4_rowAt, Cond.selects RX4 yX4_rowAt yX4_rowAt, Cond.code yX4_rowAt cX4_rowAt 7 (some (.array .int)), Cond.methodLink RX1 61 yX1_obey, Cond.instanceMethod yX1_obey]
def wsL_law0_r22 : List Cond := [Cond.selects RX1 yX1_obey yX1_obey, Cond.code yX1_obey cX1_obey 9 (some .int), Cond.fieldLink RX1 69 "PageMonitor$Page" "registers" "[I", Cond.fieldLink RX1 86 "PageMonitor$Page" "digest" "[I", Cond.methodLink RX1 72 yX1_load, Cond.instanceMethod yX1_load, Cond.selects RX1 yX1_load yX1_load, Cond.code yX1_load cX1_load 6 (some .int), Cond.methodLink RX1 76 yX1_save, Cond.instanceMethod yX1_save, Cond.selects RX1 yX1_save yX1_save, Cond.code yX1_save cX1_save 5 (some .int), Cond.methodLink RX1 80 yX1_vouch, Cond.instanceMethod yX1_vouch, Cond.selects RX1 yX1_vouch yX1_vouch, Cond.code yX1_vouch cX1_vouch 5 (some .int), Cond.methodLink RX1 97 yX1_readEight, Cond.instanceMethod yX1_readEight, Cond.selects RX1 yX1_readEight yX1_readEight, Cond.code yX1_readEight cX1_readEight 6 (some .boolean), Cond.methodLink RX1 101 yX1_mayWriteEight, Cond.instanceMethod yX1_mayWriteEight, Cond.selects RX1 yX1_mayWriteEight yX1_mayWriteEight, Cond.code yX1_mayWriteEight cX1_mayWriteEight 4 (some .boolean)]
def wsL_law0_r23 : List Cond := [Cond.methodLink RX1 105 yX2_writeVoucher, Cond.instanceMethod yX2_writeVoucher, Cond.selects RX2 yX2_writeVoucher yX2_writeVoucher, Cond.code yX2_writeVoucher cX2_writeVoucher 4 none, Cond.methodLink RX2 64 arraycopyName, Cond.methodLink RX1 83 yX1_compare, Cond.instanceMethod yX1_compare, Cond.selects RX1 yX1_compare yX1_compare, Cond.code yX1_compare cX1_compare 6 (some .int), Cond.methodLink RX1 89 yX4_useSpare, Cond.instanceMethod yX4_useSpare, Cond.selects RX4 yX4_useSpare yX4_useSpare, Cond.code yX4_useSpare cX4_useSpare 5 (some .boolean), Cond.methodLink RX4 51 yX4_hasRoom, Cond.methodLink RX4 55 yJ7_fill_53178, Cond.methodLink RX4 61 yX4_map, Cond.methodLink RX1 93 yX4_giveBack, Cond.instanceMethod yX4_giveBack, Cond.selects RX4 yX4_giveBack yX4_giveBack, Cond.code yX4_giveBack cX4_giveBack 5 (some .int), Cond.methodLink RL 97 yX6_enter, Cond.instanceMethod yX6_enter, Cond.selects RX6 yX6_enter yX6_enter, Cond.code yX6_enter cX6_enter 5 (some .int)]
def wsL_law0_r24 : List Cond := [Cond.fieldLink RX6 269 "PageMonitorModel" "running" "I", Cond.fieldLink RX6 250 "PageMonitorModel" "at" "I", Cond.methodLink RX6 279 yX6_wantThread, Cond.instanceMethod yX6_wantThread, Cond.selects RX6 yX6_wantThread yX6_wantThread, Cond.code yX6_wantThread cX6_wantThread 4 none, Cond.methodLink RX6 283 yX6_run, Cond.instanceMethod yX6_run, Cond.selects RX6 yX6_run yX6_run, Cond.code yX6_run cX6_run 3 (some .int), Cond.fieldLink RX6 231 "PageMonitorModel" "own" "I", Cond.fieldLink RX6 237 "PageMonitorModel" "fault" "I", Cond.fieldLink RX6 272 "PageMonitorModel" "steps" "I", Cond.methodLink RX6 275 yX6_one, Cond.instanceMethod yX6_one, Cond.selects RX6 yX6_one yX6_one, Cond.code yX6_one cX6_one 6 (some .boolean), Cond.methodLink RX6 234 yX6_lies, Cond.instanceMethod yX6_lies, Cond.selects RX6 yX6_lies yX6_lies, Cond.code yX6_lies cX6_lies 4 (some .int), Cond.methodLink RX6 240 yX6_load, Cond.instanceMethod yX6_load, Cond.selects RX6 yX6_load yX6_load]
def wsL_law0_r25 : List Cond := [Cond.code yX6_load cX6_load 3 (some .int), Cond.methodLink RX6 253 yX6_put, Cond.instanceMethod yX6_put, Cond.selects RX6 yX6_put yX6_put, Cond.code yX6_put cX6_put 3 none, Cond.methodLink RX6 247 yX6_store, Cond.instanceMethod yX6_store, Cond.selects RX6 yX6_store yX6_store, Cond.code yX6_store cX6_store 4 none, Cond.methodLink RX6 256 yX6_vouch, Cond.instanceMethod yX6_vouch, Cond.selects RX6 yX6_vouch yX6_vouch, Cond.code yX6_vouch cX6_vouch 4 none, Cond.methodLink RX6 243 yX6_voucher, Cond.instanceMethod yX6_voucher, Cond.selects RX6 yX6_voucher yX6_voucher, Cond.code yX6_voucher cX6_voucher 4 none, Cond.methodLink RX6 259 yX6_verified, Cond.instanceMethod yX6_verified, Cond.selects RX6 yX6_verified yX6_verified, Cond.code yX6_verified cX6_verified 4 (some .int), Cond.methodLink RX6 262 yX6_takeIn, Cond.instanceMethod yX6_takeIn, Cond.selects RX6 yX6_takeIn yX6_takeIn]
def wsL_law0_r26 : List Cond := [Cond.code yX6_takeIn cX6_takeIn 5 (some .int), Cond.methodLink RX6 266 yX6_giveBack, Cond.instanceMethod yX6_giveBack, Cond.selects RX6 yX6_giveBack yX6_giveBack, Cond.code yX6_giveBack cX6_giveBack 3 (some .int), Cond.methodLink RL 98 yX5_resume, Cond.instanceMethod yX5_resume, Cond.selects RX5 yX5_resume yX5_resume, Cond.code yX5_resume cX5_resume 4 (some .int), Cond.methodLink RL 101 yX6_resume, Cond.instanceMethod yX6_resume, Cond.selects RX6 yX6_resume yX6_resume, Cond.code yX6_resume cX6_resume 4 (some .int), Cond.methodLink RL 102 yX5_result, Cond.instanceMethod yX5_result, Cond.selects RX5 yX5_result yX5_result, Cond.code yX5_result cX5_result 1 (some .int), Cond.methodLink RL 105 yX6_result, Cond.instanceMethod yX6_result, Cond.selects RX6 yX6_result yX6_result, Cond.code yX6_result cX6_result 1 (some .int), Cond.methodLink RL 106 yX5_steps, Cond.instanceMethod yX5_steps, Cond.selects RX5 yX5_steps yX5_steps]
def wsL_law0_r27 : List Cond := [Cond.code yX5_steps cX5_steps 1 (some .int), Cond.fieldLink RX5 161 "PageMonitor$Machine" "lastSteps" "I", Cond.methodLink RL 109 yX6_steps, Cond.instanceMethod yX6_steps, Cond.selects RX6 yX6_steps yX6_steps, Cond.code yX6_steps cX6_steps 1 (some .int), Cond.methodLink RL 110 yL_told, Cond.static yL_told, Cond.codeWith yL_told cL_told 5 (some .int) [(0, 10, 13, 13), (0, 10, 17, 26)], Cond.classLink RL 26 "java/lang/IllegalArgumentException", Cond.methodLink RL 23 yX5_told, Cond.instanceMethod yX5_told, Cond.selects RX5 yX5_told yX5_told, Cond.code yX5_told cX5_told 4 (some .int), Cond.classLink RX5 168 "java/lang/IllegalArgumentException", Cond.initialized "java/lang/IllegalArgumentException", Cond.methodLink RX5 164 yX5_stateOf, Cond.static yX5_stateOf, Cond.code yX5_stateOf cX5_stateOf 1 (some .int), Cond.methodLink RL 112 yX6_told, Cond.instanceMethod yX6_told, Cond.selects RX6 yX6_told yX6_told, Cond.code yX6_told cX6_told 3 (some .int), Cond.methodLink RL 113 yL_measure]
def wsL_law0_r28 : List Cond := [Cond.static yL_measure, Cond.codeWith yL_measure cL_measure 5 (some .int) [(0, 10, 13, 13), (0, 10, 17, 31)], Cond.classLink RL 31 "java/lang/IllegalStateException", Cond.methodLink RL 28 yX5_measure, Cond.instanceMethod yX5_measure, Cond.selects RX5 yX5_measure yX5_measure, Cond.code yX5_measure cX5_measure 4 (some .int), Cond.classLink RX5 174 "java/lang/IllegalStateException", Cond.initialized "java/lang/IllegalStateException", Cond.fieldLink RX5 171 "PageMonitor$Page" "sealed" "Z", Cond.fieldLink RX5 177 "PageMonitor$Page" "digest" "[I", Cond.methodLink RL 115 yX6_measure, Cond.instanceMethod yX6_measure, Cond.selects RX6 yX6_measure yX6_measure, Cond.code yX6_measure cX6_measure 3 (some .int)]
def wsL_law0 : List Cond := (wsL_law0_r1 ++ (wsL_law0_r2 ++ (wsL_law0_r3 ++ (wsL_law0_r4 ++ (wsL_law0_r5 ++ (wsL_law0_r6 ++ (wsL_law0_r7 ++ (wsL_law0_r8 ++ (wsL_law0_r9 ++ (wsL_law0_r10 ++ (wsL_law0_r11 ++ (wsL_law0_r12 ++ (wsL_law0_r13 ++ (wsL_law0_r14 ++ (wsL_law0_r15 ++ (wsL_law0_r16 ++ (wsL_law0_r17 ++ (wsL_law0_r18 ++ (wsL_law0_r19 ++ (wsL_law0_r20 ++ (wsL_law0_r21 ++ (wsL_law0_r22 ++ (wsL_law0_r23 ++ (wsL_law0_r24 ++ (wsL_law0_r25 ++ (wsL_law0_r26 ++ (wsL_law0_r27 ++ wsL_law0_r28))))))))))))))))))))))))))) ++ wsX50 ++ wsX60 ++ wsX10 ++ wsX40 ++ wsX20 ++ wsX30 ++ wsX00 ++ ([] : List Cond)
def wsL_law : List Cond := wsL_law0 ++ (vx_at0 RX5 28 "java/lang/IndexOutOfBoundsException" ["java/lang/RuntimeException", "java/lang/Exception"]).filter goodWord ++ (vx_at0 RX5 170 "java/lang/IllegalArgumentException" ["java/lang/RuntimeException", "java/lang/Exception"]).filter goodWord ++ (vx_at0 RX5 176 "java/lang/IllegalStateException" ["java/lang/RuntimeException", "java/lang/Exception"]).filter goodWord
abbrev vwCl : List vw_C := [(RX0, TX0, 2), (RX1, TX1, 8), (RX2, TX2, 3), (RX3, TX3, 12), (RX4, TX4, 2), (RX5, TX5, 3), (RX6, TX6, 32)]
end
section
theorem dX0_init_0 : decode cX0_init 0 = .ok (.aload_n 0, 1) := by decide +kernel
theorem dX0_init_1 : decode cX0_init 1 = .ok (.invokespecial 3, 3) := by decide +kernel
theorem dX0_init_4 : decode cX0_init 4 = .ok (.aload_n 0, 1) := by decide +kernel
theorem dX0_init_5 : decode cX0_init 5 = .ok (.bipush 64, 2) := by decide +kernel
theorem dX0_init_7 : decode cX0_init 7 = .ok (.newarray .int, 2) := by decide +kernel
theorem dX0_init_9 : decode cX0_init 9 = .ok (.putfield 11, 3) := by decide +kernel
theorem dX0_init_12 : decode cX0_init 12 = .ok (.aload_n 0, 1) := by decide +kernel
theorem dX0_init_13 : decode cX0_init 13 = .ok (.bipush 16, 2) := by decide +kernel
theorem dX0_init_15 : decode cX0_init 15 = .ok (.newarray .int, 2) := by decide +kernel
theorem dX0_init_17 : decode cX0_init 17 = .ok (.putfield 15, 3) := by decide +kernel
theorem dX0_init_20 : decode cX0_init 20 = .ok (.return_, 1) := by decide +kernel
theorem dX0_begin_0 : decode cX0_begin 0 = .ok (.getstatic 18, 3) := by decide +kernel
theorem dX0_begin_3 : decode cX0_begin 3 = .ok (.iconst 0, 1) := by decide +kernel
theorem dX0_begin_4 : decode cX0_begin 4 = .ok (.aload_n 1, 1) := by decide +kernel
theorem dX0_begin_5 : decode cX0_begin 5 = .ok (.iconst 0, 1) := by decide +kernel
theorem dX0_begin_6 : decode cX0_begin 6 = .ok (.bipush 8, 2) := by decide +kernel
theorem dX0_begin_8 : decode cX0_begin 8 = .ok (.invokestatic 21, 3) := by decide +kernel
theorem dX0_begin_11 : decode cX0_begin 11 = .ok (.return_, 1) := by decide +kernel
set_option maxRecDepth 20000 in
theorem ggX0_take_X0_spread : GoodIn wsX0_take wsX0_spread := goodIn_r _ [7, 2, 8, 9, 10, 11, 12, 13] (by decide +kernel) (by decide +kernel)
set_option maxRecDepth 20000 in
theorem gX0_take_X0_spread : GoodIn wsX0_take (wsV RX0 27 RX0 yX0_spread wsX0_spread) := goodIn_app (goodIn_of _ (by decide +kernel)) ggX0_take_X0_spread
theorem dX0_take_0 : decode cX0_take 0 = .ok (.aload_n 0, 1) := by decide +kernel
theorem dX0_take_1 : decode cX0_take 1 = .ok (.aload_n 2, 1) := by decide +kernel
theorem dX0_take_2 : decode cX0_take 2 = .ok (.invokevirtual 27, 3) := by decide +kernel
theorem dX0_take_5 : decode cX0_take 5 = .ok (.aload_n 1, 1) := by decide +kernel
theorem dX0_take_6 : decode cX0_take 6 = .ok (.iconst 0, 1) := by decide +kernel
theorem dX0_take_7 : decode cX0_take 7 = .ok (.iaload, 1) := by decide +kernel
theorem dX0_take_8 : decode cX0_take 8 = .ok (.istore_n 3, 1) := by decide +kernel
theorem dX0_take_9 : decode cX0_take 9 = .ok (.aload_n 1, 1) := by decide +kernel
theorem dX0_take_10 : decode cX0_take 10 = .ok (.iconst 1, 1) := by decide +kernel
theorem dX0_take_11 : decode cX0_take 11 = .ok (.iaload, 1) := by decide +kernel
theorem dX0_take_12 : decode cX0_take 12 = .ok (.istore 4, 2) := by decide +kernel
theorem dX0_take_14 : decode cX0_take 14 = .ok (.aload_n 1, 1) := by decide +kernel
theorem dX0_take_15 : decode cX0_take 15 = .ok (.iconst 2, 1) := by decide +kernel
theorem dX0_take_16 : decode cX0_take 16 = .ok (.iaload, 1) := by decide +kernel
theorem dX0_take_17 : decode cX0_take 17 = .ok (.istore 5, 2) := by decide +kernel
theorem dX0_take_19 : decode cX0_take 19 = .ok (.aload_n 1, 1) := by decide +kernel
theorem dX0_take_20 : decode cX0_take 20 = .ok (.iconst 3, 1) := by decide +kernel
theorem dX0_take_21 : decode cX0_take 21 = .ok (.iaload, 1) := by decide +kernel
theorem dX0_take_22 : decode cX0_take 22 = .ok (.istore 6, 2) := by decide +kernel
theorem dX0_take_24 : decode cX0_take 24 = .ok (.aload_n 1, 1) := by decide +kernel
theorem dX0_take_25 : decode cX0_take 25 = .ok (.iconst 4, 1) := by decide +kernel
theorem dX0_take_26 : decode cX0_take 26 = .ok (.iaload, 1) := by decide +kernel
theorem dX0_take_27 : decode cX0_take 27 = .ok (.istore 7, 2) := by decide +kernel
theorem dX0_take_29 : decode cX0_take 29 = .ok (.aload_n 1, 1) := by decide +kernel
theorem dX0_take_30 : decode cX0_take 30 = .ok (.iconst 5, 1) := by decide +kernel
theorem dX0_take_31 : decode cX0_take 31 = .ok (.iaload, 1) := by decide +kernel
theorem dX0_take_32 : decode cX0_take 32 = .ok (.istore 8, 2) := by decide +kernel
theorem dX0_take_34 : decode cX0_take 34 = .ok (.aload_n 1, 1) := by decide +kernel
theorem dX0_take_35 : decode cX0_take 35 = .ok (.bipush 6, 2) := by decide +kernel
theorem dX0_take_37 : decode cX0_take 37 = .ok (.iaload, 1) := by decide +kernel
theorem dX0_take_38 : decode cX0_take 38 = .ok (.istore 9, 2) := by decide +kernel
theorem dX0_take_40 : decode cX0_take 40 = .ok (.aload_n 1, 1) := by decide +kernel
theorem dX0_take_41 : decode cX0_take 41 = .ok (.bipush 7, 2) := by decide +kernel
theorem dX0_take_43 : decode cX0_take 43 = .ok (.iaload, 1) := by decide +kernel
theorem dX0_take_44 : decode cX0_take 44 = .ok (.istore 10, 2) := by decide +kernel
theorem dX0_take_46 : decode cX0_take 46 = .ok (.iconst 0, 1) := by decide +kernel
theorem dX0_take_47 : decode cX0_take 47 = .ok (.istore 11, 2) := by decide +kernel
theorem dX0_take_49 : decode cX0_take 49 = .ok (.iload 11, 2) := by decide +kernel
theorem dX0_take_51 : decode cX0_take 51 = .ok (.bipush 64, 2) := by decide +kernel
theorem dX0_take_53 : decode cX0_take 53 = .ok (.if_icmp .ge 168, 3) := by decide +kernel
theorem dX0_take_56 : decode cX0_take 56 = .ok (.iload 7, 2) := by decide +kernel
theorem dX0_take_58 : decode cX0_take 58 = .ok (.bipush 6, 2) := by decide +kernel
theorem dX0_take_60 : decode cX0_take 60 = .ok (.iushr, 1) := by decide +kernel
theorem dX0_take_61 : decode cX0_take 61 = .ok (.iload 7, 2) := by decide +kernel
theorem dX0_take_63 : decode cX0_take 63 = .ok (.bipush 26, 2) := by decide +kernel
theorem dX0_take_65 : decode cX0_take 65 = .ok (.ishl, 1) := by decide +kernel
theorem dX0_take_66 : decode cX0_take 66 = .ok (.ior, 1) := by decide +kernel
theorem dX0_take_67 : decode cX0_take 67 = .ok (.iload 7, 2) := by decide +kernel
theorem dX0_take_69 : decode cX0_take 69 = .ok (.bipush 11, 2) := by decide +kernel
theorem dX0_take_71 : decode cX0_take 71 = .ok (.iushr, 1) := by decide +kernel
theorem dX0_take_72 : decode cX0_take 72 = .ok (.iload 7, 2) := by decide +kernel
theorem dX0_take_74 : decode cX0_take 74 = .ok (.bipush 21, 2) := by decide +kernel
theorem dX0_take_76 : decode cX0_take 76 = .ok (.ishl, 1) := by decide +kernel
theorem dX0_take_77 : decode cX0_take 77 = .ok (.ior, 1) := by decide +kernel
theorem dX0_take_78 : decode cX0_take 78 = .ok (.ixor, 1) := by decide +kernel
theorem dX0_take_79 : decode cX0_take 79 = .ok (.iload 7, 2) := by decide +kernel
theorem dX0_take_81 : decode cX0_take 81 = .ok (.bipush 25, 2) := by decide +kernel
theorem dX0_take_83 : decode cX0_take 83 = .ok (.iushr, 1) := by decide +kernel
theorem dX0_take_84 : decode cX0_take 84 = .ok (.iload 7, 2) := by decide +kernel
theorem dX0_take_86 : decode cX0_take 86 = .ok (.bipush 7, 2) := by decide +kernel
theorem dX0_take_88 : decode cX0_take 88 = .ok (.ishl, 1) := by decide +kernel
theorem dX0_take_89 : decode cX0_take 89 = .ok (.ior, 1) := by decide +kernel
theorem dX0_take_90 : decode cX0_take 90 = .ok (.ixor, 1) := by decide +kernel
theorem dX0_take_91 : decode cX0_take 91 = .ok (.istore 12, 2) := by decide +kernel
theorem dX0_take_93 : decode cX0_take 93 = .ok (.iload_n 3, 1) := by decide +kernel
theorem dX0_take_94 : decode cX0_take 94 = .ok (.iconst 2, 1) := by decide +kernel
theorem dX0_take_95 : decode cX0_take 95 = .ok (.iushr, 1) := by decide +kernel
theorem dX0_take_96 : decode cX0_take 96 = .ok (.iload_n 3, 1) := by decide +kernel
theorem dX0_take_97 : decode cX0_take 97 = .ok (.bipush 30, 2) := by decide +kernel
theorem dX0_take_99 : decode cX0_take 99 = .ok (.ishl, 1) := by decide +kernel
theorem dX0_take_100 : decode cX0_take 100 = .ok (.ior, 1) := by decide +kernel
theorem dX0_take_101 : decode cX0_take 101 = .ok (.iload_n 3, 1) := by decide +kernel
theorem dX0_take_102 : decode cX0_take 102 = .ok (.bipush 13, 2) := by decide +kernel
theorem dX0_take_104 : decode cX0_take 104 = .ok (.iushr, 1) := by decide +kernel
theorem dX0_take_105 : decode cX0_take 105 = .ok (.iload_n 3, 1) := by decide +kernel
theorem dX0_take_106 : decode cX0_take 106 = .ok (.bipush 19, 2) := by decide +kernel
theorem dX0_take_108 : decode cX0_take 108 = .ok (.ishl, 1) := by decide +kernel
theorem dX0_take_109 : decode cX0_take 109 = .ok (.ior, 1) := by decide +kernel
theorem dX0_take_110 : decode cX0_take 110 = .ok (.ixor, 1) := by decide +kernel
theorem dX0_take_111 : decode cX0_take 111 = .ok (.iload_n 3, 1) := by decide +kernel
theorem dX0_take_112 : decode cX0_take 112 = .ok (.bipush 22, 2) := by decide +kernel
theorem dX0_take_114 : decode cX0_take 114 = .ok (.iushr, 1) := by decide +kernel
theorem dX0_take_115 : decode cX0_take 115 = .ok (.iload_n 3, 1) := by decide +kernel
theorem dX0_take_116 : decode cX0_take 116 = .ok (.bipush 10, 2) := by decide +kernel
theorem dX0_take_118 : decode cX0_take 118 = .ok (.ishl, 1) := by decide +kernel
theorem dX0_take_119 : decode cX0_take 119 = .ok (.ior, 1) := by decide +kernel
theorem dX0_take_120 : decode cX0_take 120 = .ok (.ixor, 1) := by decide +kernel
theorem dX0_take_121 : decode cX0_take 121 = .ok (.istore 13, 2) := by decide +kernel
theorem dX0_take_123 : decode cX0_take 123 = .ok (.iload 10, 2) := by decide +kernel
theorem dX0_take_125 : decode cX0_take 125 = .ok (.iload 12, 2) := by decide +kernel
theorem dX0_take_127 : decode cX0_take 127 = .ok (.iadd, 1) := by decide +kernel
theorem dX0_take_128 : decode cX0_take 128 = .ok (.iload 7, 2) := by decide +kernel
theorem dX0_take_130 : decode cX0_take 130 = .ok (.iload 8, 2) := by decide +kernel
theorem dX0_take_132 : decode cX0_take 132 = .ok (.iand, 1) := by decide +kernel
theorem dX0_take_133 : decode cX0_take 133 = .ok (.iload 7, 2) := by decide +kernel
theorem dX0_take_135 : decode cX0_take 135 = .ok (.iconst (-1), 1) := by decide +kernel
theorem dX0_take_136 : decode cX0_take 136 = .ok (.ixor, 1) := by decide +kernel
theorem dX0_take_137 : decode cX0_take 137 = .ok (.iload 9, 2) := by decide +kernel
theorem dX0_take_139 : decode cX0_take 139 = .ok (.iand, 1) := by decide +kernel
theorem dX0_take_140 : decode cX0_take 140 = .ok (.ixor, 1) := by decide +kernel
theorem dX0_take_141 : decode cX0_take 141 = .ok (.iadd, 1) := by decide +kernel
theorem dX0_take_142 : decode cX0_take 142 = .ok (.getstatic 31, 3) := by decide +kernel
theorem dX0_take_145 : decode cX0_take 145 = .ok (.iload 11, 2) := by decide +kernel
theorem dX0_take_147 : decode cX0_take 147 = .ok (.iaload, 1) := by decide +kernel
theorem dX0_take_148 : decode cX0_take 148 = .ok (.iadd, 1) := by decide +kernel
theorem dX0_take_149 : decode cX0_take 149 = .ok (.aload_n 0, 1) := by decide +kernel
theorem dX0_take_150 : decode cX0_take 150 = .ok (.getfield 11, 3) := by decide +kernel
theorem dX0_take_153 : decode cX0_take 153 = .ok (.iload 11, 2) := by decide +kernel
theorem dX0_take_155 : decode cX0_take 155 = .ok (.iaload, 1) := by decide +kernel
theorem dX0_take_156 : decode cX0_take 156 = .ok (.iadd, 1) := by decide +kernel
theorem dX0_take_157 : decode cX0_take 157 = .ok (.istore 14, 2) := by decide +kernel
theorem dX0_take_159 : decode cX0_take 159 = .ok (.iload 13, 2) := by decide +kernel
theorem dX0_take_161 : decode cX0_take 161 = .ok (.iload_n 3, 1) := by decide +kernel
theorem dX0_take_162 : decode cX0_take 162 = .ok (.iload 4, 2) := by decide +kernel
theorem dX0_take_164 : decode cX0_take 164 = .ok (.iand, 1) := by decide +kernel
theorem dX0_take_165 : decode cX0_take 165 = .ok (.iload_n 3, 1) := by decide +kernel
theorem dX0_take_166 : decode cX0_take 166 = .ok (.iload 5, 2) := by decide +kernel
theorem dX0_take_168 : decode cX0_take 168 = .ok (.iand, 1) := by decide +kernel
theorem dX0_take_169 : decode cX0_take 169 = .ok (.ixor, 1) := by decide +kernel
theorem dX0_take_170 : decode cX0_take 170 = .ok (.iload 4, 2) := by decide +kernel
theorem dX0_take_172 : decode cX0_take 172 = .ok (.iload 5, 2) := by decide +kernel
theorem dX0_take_174 : decode cX0_take 174 = .ok (.iand, 1) := by decide +kernel
theorem dX0_take_175 : decode cX0_take 175 = .ok (.ixor, 1) := by decide +kernel
theorem dX0_take_176 : decode cX0_take 176 = .ok (.iadd, 1) := by decide +kernel
theorem dX0_take_177 : decode cX0_take 177 = .ok (.istore 15, 2) := by decide +kernel
theorem dX0_take_179 : decode cX0_take 179 = .ok (.iload 9, 2) := by decide +kernel
theorem dX0_take_181 : decode cX0_take 181 = .ok (.istore 10, 2) := by decide +kernel
theorem dX0_take_183 : decode cX0_take 183 = .ok (.iload 8, 2) := by decide +kernel
theorem dX0_take_185 : decode cX0_take 185 = .ok (.istore 9, 2) := by decide +kernel
theorem dX0_take_187 : decode cX0_take 187 = .ok (.iload 7, 2) := by decide +kernel
theorem dX0_take_189 : decode cX0_take 189 = .ok (.istore 8, 2) := by decide +kernel
theorem dX0_take_191 : decode cX0_take 191 = .ok (.iload 6, 2) := by decide +kernel
theorem dX0_take_193 : decode cX0_take 193 = .ok (.iload 14, 2) := by decide +kernel
theorem dX0_take_195 : decode cX0_take 195 = .ok (.iadd, 1) := by decide +kernel
theorem dX0_take_196 : decode cX0_take 196 = .ok (.istore 7, 2) := by decide +kernel
theorem dX0_take_198 : decode cX0_take 198 = .ok (.iload 5, 2) := by decide +kernel
theorem dX0_take_200 : decode cX0_take 200 = .ok (.istore 6, 2) := by decide +kernel
theorem dX0_take_202 : decode cX0_take 202 = .ok (.iload 4, 2) := by decide +kernel
theorem dX0_take_204 : decode cX0_take 204 = .ok (.istore 5, 2) := by decide +kernel
theorem dX0_take_206 : decode cX0_take 206 = .ok (.iload_n 3, 1) := by decide +kernel
theorem dX0_take_207 : decode cX0_take 207 = .ok (.istore 4, 2) := by decide +kernel
theorem dX0_take_209 : decode cX0_take 209 = .ok (.iload 14, 2) := by decide +kernel
theorem dX0_take_211 : decode cX0_take 211 = .ok (.iload 15, 2) := by decide +kernel
theorem dX0_take_213 : decode cX0_take 213 = .ok (.iadd, 1) := by decide +kernel
theorem dX0_take_214 : decode cX0_take 214 = .ok (.istore_n 3, 1) := by decide +kernel
theorem dX0_take_215 : decode cX0_take 215 = .ok (.iinc 11 1, 3) := by decide +kernel
theorem dX0_take_218 : decode cX0_take 218 = .ok (.goto (-169), 3) := by decide +kernel
theorem dX0_take_221 : decode cX0_take 221 = .ok (.aload_n 1, 1) := by decide +kernel
theorem dX0_take_222 : decode cX0_take 222 = .ok (.iconst 0, 1) := by decide +kernel
theorem dX0_take_223 : decode cX0_take 223 = .ok (.dup2, 1) := by decide +kernel
theorem dX0_take_224 : decode cX0_take 224 = .ok (.iaload, 1) := by decide +kernel
theorem dX0_take_225 : decode cX0_take 225 = .ok (.iload_n 3, 1) := by decide +kernel
theorem dX0_take_226 : decode cX0_take 226 = .ok (.iadd, 1) := by decide +kernel
theorem dX0_take_227 : decode cX0_take 227 = .ok (.iastore, 1) := by decide +kernel
theorem dX0_take_228 : decode cX0_take 228 = .ok (.aload_n 1, 1) := by decide +kernel
theorem dX0_take_229 : decode cX0_take 229 = .ok (.iconst 1, 1) := by decide +kernel
theorem dX0_take_230 : decode cX0_take 230 = .ok (.dup2, 1) := by decide +kernel
theorem dX0_take_231 : decode cX0_take 231 = .ok (.iaload, 1) := by decide +kernel
theorem dX0_take_232 : decode cX0_take 232 = .ok (.iload 4, 2) := by decide +kernel
theorem dX0_take_234 : decode cX0_take 234 = .ok (.iadd, 1) := by decide +kernel
theorem dX0_take_235 : decode cX0_take 235 = .ok (.iastore, 1) := by decide +kernel
theorem dX0_take_236 : decode cX0_take 236 = .ok (.aload_n 1, 1) := by decide +kernel
theorem dX0_take_237 : decode cX0_take 237 = .ok (.iconst 2, 1) := by decide +kernel
theorem dX0_take_238 : decode cX0_take 238 = .ok (.dup2, 1) := by decide +kernel
theorem dX0_take_239 : decode cX0_take 239 = .ok (.iaload, 1) := by decide +kernel
theorem dX0_take_240 : decode cX0_take 240 = .ok (.iload 5, 2) := by decide +kernel
theorem dX0_take_242 : decode cX0_take 242 = .ok (.iadd, 1) := by decide +kernel
theorem dX0_take_243 : decode cX0_take 243 = .ok (.iastore, 1) := by decide +kernel
theorem dX0_take_244 : decode cX0_take 244 = .ok (.aload_n 1, 1) := by decide +kernel
theorem dX0_take_245 : decode cX0_take 245 = .ok (.iconst 3, 1) := by decide +kernel
theorem dX0_take_246 : decode cX0_take 246 = .ok (.dup2, 1) := by decide +kernel
theorem dX0_take_247 : decode cX0_take 247 = .ok (.iaload, 1) := by decide +kernel
theorem dX0_take_248 : decode cX0_take 248 = .ok (.iload 6, 2) := by decide +kernel
theorem dX0_take_250 : decode cX0_take 250 = .ok (.iadd, 1) := by decide +kernel
theorem dX0_take_251 : decode cX0_take 251 = .ok (.iastore, 1) := by decide +kernel
theorem dX0_take_252 : decode cX0_take 252 = .ok (.aload_n 1, 1) := by decide +kernel
theorem dX0_take_253 : decode cX0_take 253 = .ok (.iconst 4, 1) := by decide +kernel
theorem dX0_take_254 : decode cX0_take 254 = .ok (.dup2, 1) := by decide +kernel
theorem dX0_take_255 : decode cX0_take 255 = .ok (.iaload, 1) := by decide +kernel
theorem dX0_take_256 : decode cX0_take 256 = .ok (.iload 7, 2) := by decide +kernel
theorem dX0_take_258 : decode cX0_take 258 = .ok (.iadd, 1) := by decide +kernel
theorem dX0_take_259 : decode cX0_take 259 = .ok (.iastore, 1) := by decide +kernel
theorem dX0_take_260 : decode cX0_take 260 = .ok (.aload_n 1, 1) := by decide +kernel
theorem dX0_take_261 : decode cX0_take 261 = .ok (.iconst 5, 1) := by decide +kernel
theorem dX0_take_262 : decode cX0_take 262 = .ok (.dup2, 1) := by decide +kernel
theorem dX0_take_263 : decode cX0_take 263 = .ok (.iaload, 1) := by decide +kernel
theorem dX0_take_264 : decode cX0_take 264 = .ok (.iload 8, 2) := by decide +kernel
theorem dX0_take_266 : decode cX0_take 266 = .ok (.iadd, 1) := by decide +kernel
theorem dX0_take_267 : decode cX0_take 267 = .ok (.iastore, 1) := by decide +kernel
theorem dX0_take_268 : decode cX0_take 268 = .ok (.aload_n 1, 1) := by decide +kernel
theorem dX0_take_269 : decode cX0_take 269 = .ok (.bipush 6, 2) := by decide +kernel
theorem dX0_take_271 : decode cX0_take 271 = .ok (.dup2, 1) := by decide +kernel
theorem dX0_take_272 : decode cX0_take 272 = .ok (.iaload, 1) := by decide +kernel
theorem dX0_take_273 : decode cX0_take 273 = .ok (.iload 9, 2) := by decide +kernel
theorem dX0_take_275 : decode cX0_take 275 = .ok (.iadd, 1) := by decide +kernel
theorem dX0_take_276 : decode cX0_take 276 = .ok (.iastore, 1) := by decide +kernel
theorem dX0_take_277 : decode cX0_take 277 = .ok (.aload_n 1, 1) := by decide +kernel
theorem dX0_take_278 : decode cX0_take 278 = .ok (.bipush 7, 2) := by decide +kernel
theorem dX0_take_280 : decode cX0_take 280 = .ok (.dup2, 1) := by decide +kernel
theorem dX0_take_281 : decode cX0_take 281 = .ok (.iaload, 1) := by decide +kernel
theorem dX0_take_282 : decode cX0_take 282 = .ok (.iload 10, 2) := by decide +kernel
theorem dX0_take_284 : decode cX0_take 284 = .ok (.iadd, 1) := by decide +kernel
theorem dX0_take_285 : decode cX0_take 285 = .ok (.iastore, 1) := by decide +kernel
theorem dX0_take_286 : decode cX0_take 286 = .ok (.return_, 1) := by decide +kernel
theorem dX0_endAfter_0 : decode cX0_endAfter 0 = .ok (.aload_n 0, 1) := by decide +kernel
theorem dX0_endAfter_1 : decode cX0_endAfter 1 = .ok (.getfield 15, 3) := by decide +kernel
theorem dX0_endAfter_4 : decode cX0_endAfter 4 = .ok (.iconst 0, 1) := by decide +kernel
theorem dX0_endAfter_5 : decode cX0_endAfter 5 = .ok (.ldc 34, 2) := by decide +kernel
theorem dX0_endAfter_7 : decode cX0_endAfter 7 = .ok (.iastore, 1) := by decide +kernel
theorem dX0_endAfter_8 : decode cX0_endAfter 8 = .ok (.aload_n 0, 1) := by decide +kernel
theorem dX0_endAfter_9 : decode cX0_endAfter 9 = .ok (.getfield 15, 3) := by decide +kernel
theorem dX0_endAfter_12 : decode cX0_endAfter 12 = .ok (.bipush 15, 2) := by decide +kernel
theorem dX0_endAfter_14 : decode cX0_endAfter 14 = .ok (.iload_n 1, 1) := by decide +kernel
theorem dX0_endAfter_15 : decode cX0_endAfter 15 = .ok (.sipush 512, 3) := by decide +kernel
theorem dX0_endAfter_18 : decode cX0_endAfter 18 = .ok (.imul, 1) := by decide +kernel
theorem dX0_endAfter_19 : decode cX0_endAfter 19 = .ok (.iastore, 1) := by decide +kernel
theorem dX0_endAfter_20 : decode cX0_endAfter 20 = .ok (.aload_n 0, 1) := by decide +kernel
theorem dX0_endAfter_21 : decode cX0_endAfter 21 = .ok (.getfield 15, 3) := by decide +kernel
theorem dX0_endAfter_24 : decode cX0_endAfter 24 = .ok (.areturn, 1) := by decide +kernel
theorem dX0_spread_0 : decode cX0_spread 0 = .ok (.aload_n 1, 1) := by decide +kernel
theorem dX0_spread_1 : decode cX0_spread 1 = .ok (.iconst 0, 1) := by decide +kernel
theorem dX0_spread_2 : decode cX0_spread 2 = .ok (.aload_n 0, 1) := by decide +kernel
theorem dX0_spread_3 : decode cX0_spread 3 = .ok (.getfield 11, 3) := by decide +kernel
theorem dX0_spread_6 : decode cX0_spread 6 = .ok (.iconst 0, 1) := by decide +kernel
theorem dX0_spread_7 : decode cX0_spread 7 = .ok (.bipush 16, 2) := by decide +kernel
theorem dX0_spread_9 : decode cX0_spread 9 = .ok (.invokestatic 21, 3) := by decide +kernel
theorem dX0_spread_12 : decode cX0_spread 12 = .ok (.bipush 16, 2) := by decide +kernel
theorem dX0_spread_14 : decode cX0_spread 14 = .ok (.istore_n 2, 1) := by decide +kernel
theorem dX0_spread_15 : decode cX0_spread 15 = .ok (.iload_n 2, 1) := by decide +kernel
theorem dX0_spread_16 : decode cX0_spread 16 = .ok (.bipush 64, 2) := by decide +kernel
theorem dX0_spread_18 : decode cX0_spread 18 = .ok (.if_icmp .ge 116, 3) := by decide +kernel
theorem dX0_spread_21 : decode cX0_spread 21 = .ok (.aload_n 0, 1) := by decide +kernel
theorem dX0_spread_22 : decode cX0_spread 22 = .ok (.getfield 11, 3) := by decide +kernel
theorem dX0_spread_25 : decode cX0_spread 25 = .ok (.iload_n 2, 1) := by decide +kernel
theorem dX0_spread_26 : decode cX0_spread 26 = .ok (.bipush 15, 2) := by decide +kernel
theorem dX0_spread_28 : decode cX0_spread 28 = .ok (.isub, 1) := by decide +kernel
theorem dX0_spread_29 : decode cX0_spread 29 = .ok (.iaload, 1) := by decide +kernel
theorem dX0_spread_30 : decode cX0_spread 30 = .ok (.istore_n 3, 1) := by decide +kernel
theorem dX0_spread_31 : decode cX0_spread 31 = .ok (.aload_n 0, 1) := by decide +kernel
theorem dX0_spread_32 : decode cX0_spread 32 = .ok (.getfield 11, 3) := by decide +kernel
theorem dX0_spread_35 : decode cX0_spread 35 = .ok (.iload_n 2, 1) := by decide +kernel
theorem dX0_spread_36 : decode cX0_spread 36 = .ok (.iconst 2, 1) := by decide +kernel
theorem dX0_spread_37 : decode cX0_spread 37 = .ok (.isub, 1) := by decide +kernel
theorem dX0_spread_38 : decode cX0_spread 38 = .ok (.iaload, 1) := by decide +kernel
theorem dX0_spread_39 : decode cX0_spread 39 = .ok (.istore 4, 2) := by decide +kernel
theorem dX0_spread_41 : decode cX0_spread 41 = .ok (.iload_n 3, 1) := by decide +kernel
theorem dX0_spread_42 : decode cX0_spread 42 = .ok (.bipush 7, 2) := by decide +kernel
theorem dX0_spread_44 : decode cX0_spread 44 = .ok (.iushr, 1) := by decide +kernel
theorem dX0_spread_45 : decode cX0_spread 45 = .ok (.iload_n 3, 1) := by decide +kernel
theorem dX0_spread_46 : decode cX0_spread 46 = .ok (.bipush 25, 2) := by decide +kernel
theorem dX0_spread_48 : decode cX0_spread 48 = .ok (.ishl, 1) := by decide +kernel
theorem dX0_spread_49 : decode cX0_spread 49 = .ok (.ior, 1) := by decide +kernel
theorem dX0_spread_50 : decode cX0_spread 50 = .ok (.iload_n 3, 1) := by decide +kernel
theorem dX0_spread_51 : decode cX0_spread 51 = .ok (.bipush 18, 2) := by decide +kernel
theorem dX0_spread_53 : decode cX0_spread 53 = .ok (.iushr, 1) := by decide +kernel
theorem dX0_spread_54 : decode cX0_spread 54 = .ok (.iload_n 3, 1) := by decide +kernel
theorem dX0_spread_55 : decode cX0_spread 55 = .ok (.bipush 14, 2) := by decide +kernel
theorem dX0_spread_57 : decode cX0_spread 57 = .ok (.ishl, 1) := by decide +kernel
theorem dX0_spread_58 : decode cX0_spread 58 = .ok (.ior, 1) := by decide +kernel
theorem dX0_spread_59 : decode cX0_spread 59 = .ok (.ixor, 1) := by decide +kernel
theorem dX0_spread_60 : decode cX0_spread 60 = .ok (.iload_n 3, 1) := by decide +kernel
theorem dX0_spread_61 : decode cX0_spread 61 = .ok (.iconst 3, 1) := by decide +kernel
theorem dX0_spread_62 : decode cX0_spread 62 = .ok (.iushr, 1) := by decide +kernel
theorem dX0_spread_63 : decode cX0_spread 63 = .ok (.ixor, 1) := by decide +kernel
theorem dX0_spread_64 : decode cX0_spread 64 = .ok (.istore 5, 2) := by decide +kernel
theorem dX0_spread_66 : decode cX0_spread 66 = .ok (.iload 4, 2) := by decide +kernel
theorem dX0_spread_68 : decode cX0_spread 68 = .ok (.bipush 17, 2) := by decide +kernel
theorem dX0_spread_70 : decode cX0_spread 70 = .ok (.iushr, 1) := by decide +kernel
theorem dX0_spread_71 : decode cX0_spread 71 = .ok (.iload 4, 2) := by decide +kernel
theorem dX0_spread_73 : decode cX0_spread 73 = .ok (.bipush 15, 2) := by decide +kernel
theorem dX0_spread_75 : decode cX0_spread 75 = .ok (.ishl, 1) := by decide +kernel
theorem dX0_spread_76 : decode cX0_spread 76 = .ok (.ior, 1) := by decide +kernel
theorem dX0_spread_77 : decode cX0_spread 77 = .ok (.iload 4, 2) := by decide +kernel
theorem dX0_spread_79 : decode cX0_spread 79 = .ok (.bipush 19, 2) := by decide +kernel
theorem dX0_spread_81 : decode cX0_spread 81 = .ok (.iushr, 1) := by decide +kernel
theorem dX0_spread_82 : decode cX0_spread 82 = .ok (.iload 4, 2) := by decide +kernel
theorem dX0_spread_84 : decode cX0_spread 84 = .ok (.bipush 13, 2) := by decide +kernel
theorem dX0_spread_86 : decode cX0_spread 86 = .ok (.ishl, 1) := by decide +kernel
theorem dX0_spread_87 : decode cX0_spread 87 = .ok (.ior, 1) := by decide +kernel
theorem dX0_spread_88 : decode cX0_spread 88 = .ok (.ixor, 1) := by decide +kernel
theorem dX0_spread_89 : decode cX0_spread 89 = .ok (.iload 4, 2) := by decide +kernel
theorem dX0_spread_91 : decode cX0_spread 91 = .ok (.bipush 10, 2) := by decide +kernel
theorem dX0_spread_93 : decode cX0_spread 93 = .ok (.iushr, 1) := by decide +kernel
theorem dX0_spread_94 : decode cX0_spread 94 = .ok (.ixor, 1) := by decide +kernel
theorem dX0_spread_95 : decode cX0_spread 95 = .ok (.istore 6, 2) := by decide +kernel
theorem dX0_spread_97 : decode cX0_spread 97 = .ok (.aload_n 0, 1) := by decide +kernel
theorem dX0_spread_98 : decode cX0_spread 98 = .ok (.getfield 11, 3) := by decide +kernel
theorem dX0_spread_101 : decode cX0_spread 101 = .ok (.iload_n 2, 1) := by decide +kernel
theorem dX0_spread_102 : decode cX0_spread 102 = .ok (.aload_n 0, 1) := by decide +kernel
theorem dX0_spread_103 : decode cX0_spread 103 = .ok (.getfield 11, 3) := by decide +kernel
theorem dX0_spread_106 : decode cX0_spread 106 = .ok (.iload_n 2, 1) := by decide +kernel
theorem dX0_spread_107 : decode cX0_spread 107 = .ok (.bipush 16, 2) := by decide +kernel
theorem dX0_spread_109 : decode cX0_spread 109 = .ok (.isub, 1) := by decide +kernel
theorem dX0_spread_110 : decode cX0_spread 110 = .ok (.iaload, 1) := by decide +kernel
theorem dX0_spread_111 : decode cX0_spread 111 = .ok (.iload 5, 2) := by decide +kernel
theorem dX0_spread_113 : decode cX0_spread 113 = .ok (.iadd, 1) := by decide +kernel
theorem dX0_spread_114 : decode cX0_spread 114 = .ok (.aload_n 0, 1) := by decide +kernel
theorem dX0_spread_115 : decode cX0_spread 115 = .ok (.getfield 11, 3) := by decide +kernel
theorem dX0_spread_118 : decode cX0_spread 118 = .ok (.iload_n 2, 1) := by decide +kernel
theorem dX0_spread_119 : decode cX0_spread 119 = .ok (.bipush 7, 2) := by decide +kernel
theorem dX0_spread_121 : decode cX0_spread 121 = .ok (.isub, 1) := by decide +kernel
theorem dX0_spread_122 : decode cX0_spread 122 = .ok (.iaload, 1) := by decide +kernel
theorem dX0_spread_123 : decode cX0_spread 123 = .ok (.iadd, 1) := by decide +kernel
theorem dX0_spread_124 : decode cX0_spread 124 = .ok (.iload 6, 2) := by decide +kernel
theorem dX0_spread_126 : decode cX0_spread 126 = .ok (.iadd, 1) := by decide +kernel
theorem dX0_spread_127 : decode cX0_spread 127 = .ok (.iastore, 1) := by decide +kernel
theorem dX0_spread_128 : decode cX0_spread 128 = .ok (.iinc 2 1, 3) := by decide +kernel
theorem dX0_spread_131 : decode cX0_spread 131 = .ok (.goto (-116), 3) := by decide +kernel
theorem dX0_spread_134 : decode cX0_spread 134 = .ok (.return_, 1) := by decide +kernel
set_option maxRecDepth 20000 in
theorem ggX1_init_X4_init : GoodIn wsX1_init wsX4_init := goodIn_r _ [21, 22, 2, 3, 23, 24, 25, 14, 26, 27, 28, 29, 30, 31, 32, 33, 34, 35, 36, 37, 38, 39, 40, 41, 42, 43, 58, 59, 71, 72, 73, 74, 75, 76, 77, 78, 79, 80, 81, 82] (by decide +kernel) (by decide +kernel)
set_option maxRecDepth 20000 in
theorem gX1_init_X4_init : GoodIn wsX1_init (wsX4_init) := ggX1_init_X4_init
set_option maxRecDepth 20000 in
theorem ggX1_init_X2_init : GoodIn wsX1_init wsX2_init := goodIn_r _ [45, 46, 2, 3, 14, 47, 48, 49, 50, 51, 52, 53, 54, 55, 56, 57, 68, 69, 70, 83, 84] (by decide +kernel) (by decide +kernel)
set_option maxRecDepth 20000 in
theorem gX1_init_X2_init_n20 : GoodIn wsX1_init (wsX2_init) := ggX1_init_X2_init
theorem dX1_init_0 : decode cX1_init 0 = .ok (.aload_n 0, 1) := by decide +kernel
theorem dX1_init_1 : decode cX1_init 1 = .ok (.invokespecial 3, 3) := by decide +kernel
theorem dX1_init_4 : decode cX1_init 4 = .ok (.aload_n 0, 1) := by decide +kernel
theorem dX1_init_5 : decode cX1_init 5 = .ok (.new 9, 3) := by decide +kernel
theorem dX1_init_8 : decode cX1_init 8 = .ok (.dup, 1) := by decide +kernel
theorem dX1_init_9 : decode cX1_init 9 = .ok (.invokespecial 11, 3) := by decide +kernel
theorem dX1_init_12 : decode cX1_init 12 = .ok (.putfield 12, 3) := by decide +kernel
theorem dX1_init_15 : decode cX1_init 15 = .ok (.aload_n 0, 1) := by decide +kernel
theorem dX1_init_16 : decode cX1_init 16 = .ok (.new 18, 3) := by decide +kernel
theorem dX1_init_19 : decode cX1_init 19 = .ok (.dup, 1) := by decide +kernel
theorem dX1_init_20 : decode cX1_init 20 = .ok (.invokespecial 20, 3) := by decide +kernel
theorem dX1_init_23 : decode cX1_init 23 = .ok (.putfield 21, 3) := by decide +kernel
theorem dX1_init_26 : decode cX1_init 26 = .ok (.aload_n 0, 1) := by decide +kernel
theorem dX1_init_27 : decode cX1_init 27 = .ok (.iconst 0, 1) := by decide +kernel
theorem dX1_init_28 : decode cX1_init 28 = .ok (.putfield 25, 3) := by decide +kernel
theorem dX1_init_31 : decode cX1_init 31 = .ok (.aload_n 0, 1) := by decide +kernel
theorem dX1_init_32 : decode cX1_init 32 = .ok (.iconst 0, 1) := by decide +kernel
theorem dX1_init_33 : decode cX1_init 33 = .ok (.putfield 29, 3) := by decide +kernel
theorem dX1_init_36 : decode cX1_init 36 = .ok (.aload_n 0, 1) := by decide +kernel
theorem dX1_init_37 : decode cX1_init 37 = .ok (.bipush 8, 2) := by decide +kernel
theorem dX1_init_39 : decode cX1_init 39 = .ok (.newarray .int, 2) := by decide +kernel
theorem dX1_init_41 : decode cX1_init 41 = .ok (.putfield 32, 3) := by decide +kernel
theorem dX1_init_44 : decode cX1_init 44 = .ok (.aload_n 0, 1) := by decide +kernel
theorem dX1_init_45 : decode cX1_init 45 = .ok (.bipush 8, 2) := by decide +kernel
theorem dX1_init_47 : decode cX1_init 47 = .ok (.newarray .int, 2) := by decide +kernel
theorem dX1_init_49 : decode cX1_init 49 = .ok (.putfield 36, 3) := by decide +kernel
theorem dX1_init_52 : decode cX1_init 52 = .ok (.aload_n 0, 1) := by decide +kernel
theorem dX1_init_53 : decode cX1_init 53 = .ok (.bipush 8, 2) := by decide +kernel
theorem dX1_init_55 : decode cX1_init 55 = .ok (.newarray .int, 2) := by decide +kernel
theorem dX1_init_57 : decode cX1_init 57 = .ok (.putfield 39, 3) := by decide +kernel
theorem dX1_init_60 : decode cX1_init 60 = .ok (.aload_n 0, 1) := by decide +kernel
theorem dX1_init_61 : decode cX1_init 61 = .ok (.bipush 8, 2) := by decide +kernel
theorem dX1_init_63 : decode cX1_init 63 = .ok (.newarray .int, 2) := by decide +kernel
theorem dX1_init_65 : decode cX1_init 65 = .ok (.putfield 42, 3) := by decide +kernel
theorem dX1_init_68 : decode cX1_init 68 = .ok (.return_, 1) := by decide +kernel
set_option maxRecDepth 20000 in
theorem ggX1_run_X4_rowAt : GoodIn wsX1_run wsX4_rowAt := goodIn_r _ [12, 13, 14, 15, 16, 11, 17, 18, 19, 20, 21, 22, 23, 130, 131, 132, 133, 134, 135, 136, 137, 138, 139, 140, 141, 142, 143] (by decide +kernel) (by decide +kernel)
set_option maxRecDepth 20000 in
theorem gX1_run_X4_rowAt : GoodIn wsX1_run (wsV RX1 57 RX4 yX4_rowAt wsX4_rowAt) := goodIn_app (goodIn_of _ (by decide +kernel)) ggX1_run_X4_rowAt
set_option maxRecDepth 20000 in
theorem ggX1_run_X1_obey : GoodIn wsX1_run wsX1_obey := goodIn_r _ [28, 4, 29, 7, 30, 1, 3, 31, 32, 33, 27, 34, 8, 9, 10, 11, 12, 13, 14, 15, 16, 17, 18, 19, 20, 21, 22, 23, 35, 36, 37, 38, 39, 40, 41, 42, 43, 44, 45, 46, 47, 48, 49, 50, 51, 52, 53, 54, 55, 56, 57, 58, 59, 60, 61, 62, 63, 64, 65, 66, 67, 68, 69, 70, 71, 72, 73, 74, 75, 76, 77, 78, 79, 80, 81, 82, 83, 84, 85, 86, 87, 88, 89, 90, 91, 92, 93, 94, 95, 96, 97, 98, 99, 100, 101, 102, 103, 104, 105, 106, 107, 108, 109, 110, 111, 112, 113, 114, 115, 116, 117, 118, 119, 120, 121, 132, 133, 134, 135, 136, 137, 138, 139, 140, 141, 142, 143, 122, 123, 124, 125, 126, 127, 128, 129, 130, 131, 144, 145, 146, 147, 148] (by decide +kernel) (by decide +kernel)
set_option maxRecDepth 20000 in
theorem gX1_run_X1_obey : GoodIn wsX1_run (wsV RX1 61 RX1 yX1_obey wsX1_obey) := goodIn_app (goodIn_of _ (by decide +kernel)) ggX1_run_X1_obey
theorem dX1_run_0 : decode cX1_run 0 = .ok (.aload_n 0, 1) := by decide +kernel
theorem dX1_run_1 : decode cX1_run 1 = .ok (.getfield 12, 3) := by decide +kernel
theorem dX1_run_4 : decode cX1_run 4 = .ok (.getfield 45, 3) := by decide +kernel
theorem dX1_run_7 : decode cX1_run 7 = .ok (.aload_n 1, 1) := by decide +kernel
theorem dX1_run_8 : decode cX1_run 8 = .ok (.getfield 49, 3) := by decide +kernel
theorem dX1_run_11 : decode cX1_run 11 = .ok (.aaload, 1) := by decide +kernel
theorem dX1_run_12 : decode cX1_run 12 = .ok (.astore_n 3, 1) := by decide +kernel
theorem dX1_run_13 : decode cX1_run 13 = .ok (.iconst 0, 1) := by decide +kernel
theorem dX1_run_14 : decode cX1_run 14 = .ok (.istore 4, 2) := by decide +kernel
theorem dX1_run_16 : decode cX1_run 16 = .ok (.iconst 0, 1) := by decide +kernel
theorem dX1_run_17 : decode cX1_run 17 = .ok (.istore 5, 2) := by decide +kernel
theorem dX1_run_19 : decode cX1_run 19 = .ok (.iload 5, 2) := by decide +kernel
theorem dX1_run_21 : decode cX1_run 21 = .ok (.iload_n 2, 1) := by decide +kernel
theorem dX1_run_22 : decode cX1_run 22 = .ok (.if_icmp .ge 56, 3) := by decide +kernel
theorem dX1_run_25 : decode cX1_run 25 = .ok (.iload 4, 2) := by decide +kernel
theorem dX1_run_27 : decode cX1_run 27 = .ok (.ifCond .ne 51, 3) := by decide +kernel
theorem dX1_run_30 : decode cX1_run 30 = .ok (.aload_n 0, 1) := by decide +kernel
theorem dX1_run_31 : decode cX1_run 31 = .ok (.getfield 12, 3) := by decide +kernel
theorem dX1_run_34 : decode cX1_run 34 = .ok (.aload_n 3, 1) := by decide +kernel
theorem dX1_run_35 : decode cX1_run 35 = .ok (.aload_n 1, 1) := by decide +kernel
theorem dX1_run_36 : decode cX1_run 36 = .ok (.getfield 54, 3) := by decide +kernel
theorem dX1_run_39 : decode cX1_run 39 = .ok (.iconst 4, 1) := by decide +kernel
theorem dX1_run_40 : decode cX1_run 40 = .ok (.invokevirtual 57, 3) := by decide +kernel
theorem dX1_run_43 : decode cX1_run 43 = .ok (.astore 6, 2) := by decide +kernel
theorem dX1_run_45 : decode cX1_run 45 = .ok (.aload 6, 2) := by decide +kernel
theorem dX1_run_47 : decode cX1_run 47 = .ok (.ifnonnull 7, 3) := by decide +kernel
theorem dX1_run_50 : decode cX1_run 50 = .ok (.iconst 1, 1) := by decide +kernel
theorem dX1_run_51 : decode cX1_run 51 = .ok (.goto 19, 3) := by decide +kernel
theorem dX1_run_54 : decode cX1_run 54 = .ok (.aload_n 0, 1) := by decide +kernel
theorem dX1_run_55 : decode cX1_run 55 = .ok (.aload_n 1, 1) := by decide +kernel
theorem dX1_run_56 : decode cX1_run 56 = .ok (.aload_n 3, 1) := by decide +kernel
theorem dX1_run_57 : decode cX1_run 57 = .ok (.aload 6, 2) := by decide +kernel
theorem dX1_run_59 : decode cX1_run 59 = .ok (.aload_n 1, 1) := by decide +kernel
theorem dX1_run_60 : decode cX1_run 60 = .ok (.getfield 54, 3) := by decide +kernel
theorem dX1_run_63 : decode cX1_run 63 = .ok (.bipush 16, 2) := by decide +kernel
theorem dX1_run_65 : decode cX1_run 65 = .ok (.irem, 1) := by decide +kernel
theorem dX1_run_66 : decode cX1_run 66 = .ok (.iaload, 1) := by decide +kernel
theorem dX1_run_67 : decode cX1_run 67 = .ok (.invokevirtual 61, 3) := by decide +kernel
theorem dX1_run_70 : decode cX1_run 70 = .ok (.istore 4, 2) := by decide +kernel
theorem dX1_run_72 : decode cX1_run 72 = .ok (.iinc 5 1, 3) := by decide +kernel
theorem dX1_run_75 : decode cX1_run 75 = .ok (.goto (-56), 3) := by decide +kernel
theorem dX1_run_78 : decode cX1_run 78 = .ok (.aload_n 0, 1) := by decide +kernel
theorem dX1_run_79 : decode cX1_run 79 = .ok (.iload 5, 2) := by decide +kernel
theorem dX1_run_81 : decode cX1_run 81 = .ok (.putfield 29, 3) := by decide +kernel
theorem dX1_run_84 : decode cX1_run 84 = .ok (.aload_n 1, 1) := by decide +kernel
theorem dX1_run_85 : decode cX1_run 85 = .ok (.iload 4, 2) := by decide +kernel
theorem dX1_run_87 : decode cX1_run 87 = .ok (.ifCond .ne 7, 3) := by decide +kernel
theorem dX1_run_90 : decode cX1_run 90 = .ok (.iconst 1, 1) := by decide +kernel
theorem dX1_run_91 : decode cX1_run 91 = .ok (.goto 4, 3) := by decide +kernel
theorem dX1_run_94 : decode cX1_run 94 = .ok (.iconst 0, 1) := by decide +kernel
theorem dX1_run_95 : decode cX1_run 95 = .ok (.putfield 65, 3) := by decide +kernel
theorem dX1_run_98 : decode cX1_run 98 = .ok (.iload 4, 2) := by decide +kernel
theorem dX1_run_100 : decode cX1_run 100 = .ok (.iconst (-1), 1) := by decide +kernel
theorem dX1_run_101 : decode cX1_run 101 = .ok (.if_icmp .ne 5, 3) := by decide +kernel
theorem dX1_run_104 : decode cX1_run 104 = .ok (.iconst 0, 1) := by decide +kernel
theorem dX1_run_105 : decode cX1_run 105 = .ok (.ireturn, 1) := by decide +kernel
theorem dX1_run_106 : decode cX1_run 106 = .ok (.aload_n 0, 1) := by decide +kernel
theorem dX1_run_107 : decode cX1_run 107 = .ok (.iload 4, 2) := by decide +kernel
theorem dX1_run_109 : decode cX1_run 109 = .ok (.ifCond .ne 7, 3) := by decide +kernel
theorem dX1_run_112 : decode cX1_run 112 = .ok (.iconst 0, 1) := by decide +kernel
theorem dX1_run_113 : decode cX1_run 113 = .ok (.goto 5, 3) := by decide +kernel
theorem dX1_run_116 : decode cX1_run 116 = .ok (.iload 4, 2) := by decide +kernel
theorem dX1_run_118 : decode cX1_run 118 = .ok (.putfield 25, 3) := by decide +kernel
theorem dX1_run_121 : decode cX1_run 121 = .ok (.iload 4, 2) := by decide +kernel
theorem dX1_run_123 : decode cX1_run 123 = .ok (.ifCond .ne 8, 3) := by decide +kernel
theorem dX1_run_126 : decode cX1_run 126 = .ok (.bipush 8, 2) := by decide +kernel
theorem dX1_run_128 : decode cX1_run 128 = .ok (.goto 5, 3) := by decide +kernel
theorem dX1_run_131 : decode cX1_run 131 = .ok (.bipush 9, 2) := by decide +kernel
theorem dX1_run_133 : decode cX1_run 133 = .ok (.ireturn, 1) := by decide +kernel
set_option maxRecDepth 20000 in
theorem ggX1_obey_X1_load : GoodIn wsX1_obey wsX1_load := goodIn_r _ [11, 5, 12, 13, 14, 15, 16, 17, 18, 19, 20, 21, 22, 23, 24, 25, 26, 27, 127, 128, 129, 130, 131, 132, 133, 134, 135, 136, 115, 116, 117, 118, 119, 120, 121, 122, 123, 124, 125, 126] (by decide +kernel) (by decide +kernel)
set_option maxRecDepth 20000 in
theorem gX1_obey_X1_load : GoodIn wsX1_obey (wsV RX1 72 RX1 yX1_load wsX1_load) := goodIn_app (goodIn_of _ (by decide +kernel)) ggX1_obey_X1_load
set_option maxRecDepth 20000 in
theorem ggX1_obey_X1_save : GoodIn wsX1_obey wsX1_save := goodIn_r _ [31, 5, 12, 13, 14, 15, 16, 17, 18, 19, 20, 21, 22, 23, 24, 25, 26, 27, 127, 128, 129, 130, 131, 132, 133, 134, 135, 136, 115, 116, 117, 118, 119, 120, 121, 122, 123, 124, 125, 126] (by decide +kernel) (by decide +kernel)
set_option maxRecDepth 20000 in
theorem gX1_obey_X1_save : GoodIn wsX1_obey (wsV RX1 76 RX1 yX1_save wsX1_save) := goodIn_app (goodIn_of _ (by decide +kernel)) ggX1_obey_X1_save
set_option maxRecDepth 20000 in
theorem ggX1_obey_X1_vouch : GoodIn wsX1_obey wsX1_vouch := goodIn_r _ [35, 36, 37, 4, 38, 39, 40, 41, 10, 42, 5, 12, 13, 14, 15, 16, 17, 18, 19, 20, 21, 22, 23, 24, 25, 26, 27, 43, 44, 45, 46, 47, 48, 49, 50, 51, 52, 53, 54, 55, 56, 57, 58, 59, 60, 61, 62, 63, 64, 65, 66, 67, 68, 69, 70, 71, 72, 73, 74, 75, 76, 77, 78, 79, 80, 81, 82, 83, 84, 85, 28, 29, 30, 31, 127, 128, 129, 130, 131, 132, 133, 134, 115, 116, 117, 118, 119, 120, 121, 122, 123, 124, 125, 126, 135, 136, 137, 138, 139, 140, 141] (by decide +kernel) (by decide +kernel)
set_option maxRecDepth 20000 in
theorem gX1_obey_X1_vouch : GoodIn wsX1_obey (wsV RX1 80 RX1 yX1_vouch wsX1_vouch) := goodIn_app (goodIn_of _ (by decide +kernel)) ggX1_obey_X1_vouch
set_option maxRecDepth 20000 in
theorem ggX1_obey_X1_compare : GoodIn wsX1_obey wsX1_compare := goodIn_r _ [89, 90, 36, 91, 37, 38, 39, 40, 41, 10, 42, 5, 12, 13, 14, 15, 16, 17, 18, 19, 20, 21, 22, 23, 24, 25, 26, 27, 47, 48, 49, 50, 51, 52, 53, 54, 55, 56, 57, 58, 59, 60, 61, 62, 63, 64, 65, 66, 67, 68, 69, 70, 71, 72, 73, 74, 75, 76, 77, 78, 79, 80, 81, 82, 83, 84, 85, 127, 128, 129, 130, 131, 132, 133, 134, 135, 136, 115, 116, 117, 118, 119, 120, 121, 122, 123, 124, 125, 126, 137, 138, 139, 140, 141] (by decide +kernel) (by decide +kernel)
set_option maxRecDepth 20000 in
theorem gX1_obey_X1_compare : GoodIn wsX1_obey (wsV RX1 83 RX1 yX1_compare wsX1_compare) := goodIn_app (goodIn_of _ (by decide +kernel)) ggX1_obey_X1_compare
set_option maxRecDepth 20000 in
theorem ggX1_obey_X4_useSpare : GoodIn wsX1_obey wsX4_useSpare := goodIn_r _ [95, 23, 96, 97, 17, 98, 26, 99, 100, 101, 102, 103, 104, 15, 105, 18, 19, 20, 21, 22, 24, 25, 27, 106, 77, 78, 79, 107, 108, 109, 110, 135, 136, 115, 116, 117, 118, 119, 120, 121, 122, 123, 124, 125, 126] (by decide +kernel) (by decide +kernel)
set_option maxRecDepth 20000 in
theorem gX1_obey_X4_useSpare : GoodIn wsX1_obey (wsV RX1 89 RX4 yX4_useSpare wsX4_useSpare) := goodIn_app (goodIn_of _ (by decide +kernel)) ggX1_obey_X4_useSpare
set_option maxRecDepth 20000 in
theorem ggX1_obey_X4_giveBack : GoodIn wsX1_obey wsX4_giveBack := goodIn_r _ [114, 23, 96, 18, 19, 20, 15, 21, 22, 24, 25, 26, 27, 135, 136, 115, 116, 117, 118, 119, 120, 121, 122, 123, 124, 125, 126] (by decide +kernel) (by decide +kernel)
set_option maxRecDepth 20000 in
theorem gX1_obey_X4_giveBack : GoodIn wsX1_obey (wsV RX1 93 RX4 yX4_giveBack wsX4_giveBack) := goodIn_app (goodIn_of _ (by decide +kernel)) ggX1_obey_X4_giveBack
theorem dX1_obey_0 : decode cX1_obey 0 = .ok (.aload_n 1, 1) := by decide +kernel
theorem dX1_obey_1 : decode cX1_obey 1 = .ok (.dup, 1) := by decide +kernel
theorem dX1_obey_2 : decode cX1_obey 2 = .ok (.getfield 54, 3) := by decide +kernel
theorem dX1_obey_5 : decode cX1_obey 5 = .ok (.iconst 1, 1) := by decide +kernel
theorem dX1_obey_6 : decode cX1_obey 6 = .ok (.iadd, 1) := by decide +kernel
theorem dX1_obey_7 : decode cX1_obey 7 = .ok (.putfield 54, 3) := by decide +kernel
theorem dX1_obey_10 : decode cX1_obey 10 = .ok (.aload_n 1, 1) := by decide +kernel
theorem dX1_obey_11 : decode cX1_obey 11 = .ok (.getfield 69, 3) := by decide +kernel
theorem dX1_obey_14 : decode cX1_obey 14 = .ok (.astore 4, 2) := by decide +kernel
theorem dX1_obey_16 : decode cX1_obey 16 = .ok (.iload_n 3, 1) := by decide +kernel
theorem dX1_obey_17 : decode cX1_obey 17 = .ok (.iconst 4, 1) := by decide +kernel
theorem dX1_obey_18 : decode cX1_obey 18 = .ok (.ishr, 1) := by decide +kernel
theorem dX1_obey_19 : decode cX1_obey 19 = .ok (.iconst 3, 1) := by decide +kernel
theorem dX1_obey_20 : decode cX1_obey 20 = .ok (.iand, 1) := by decide +kernel
theorem dX1_obey_21 : decode cX1_obey 21 = .ok (.istore 5, 2) := by decide +kernel
theorem dX1_obey_23 : decode cX1_obey 23 = .ok (.iload_n 3, 1) := by decide +kernel
theorem dX1_obey_24 : decode cX1_obey 24 = .ok (.bipush 8, 2) := by decide +kernel
theorem dX1_obey_26 : decode cX1_obey 26 = .ok (.ishr, 1) := by decide +kernel
theorem dX1_obey_27 : decode cX1_obey 27 = .ok (.istore 6, 2) := by decide +kernel
theorem dX1_obey_29 : decode cX1_obey 29 = .ok (.aload 4, 2) := by decide +kernel
theorem dX1_obey_31 : decode cX1_obey 31 = .ok (.iload 5, 2) := by decide +kernel
theorem dX1_obey_33 : decode cX1_obey 33 = .ok (.iaload, 1) := by decide +kernel
theorem dX1_obey_34 : decode cX1_obey 34 = .ok (.istore 7, 2) := by decide +kernel
theorem dX1_obey_36 : decode cX1_obey 36 = .ok (.aload 4, 2) := by decide +kernel
theorem dX1_obey_38 : decode cX1_obey 38 = .ok (.iload_n 3, 1) := by decide +kernel
theorem dX1_obey_39 : decode cX1_obey 39 = .ok (.bipush 6, 2) := by decide +kernel
theorem dX1_obey_41 : decode cX1_obey 41 = .ok (.ishr, 1) := by decide +kernel
theorem dX1_obey_42 : decode cX1_obey 42 = .ok (.iconst 3, 1) := by decide +kernel
theorem dX1_obey_43 : decode cX1_obey 43 = .ok (.iand, 1) := by decide +kernel
theorem dX1_obey_44 : decode cX1_obey 44 = .ok (.iaload, 1) := by decide +kernel
theorem dX1_obey_45 : decode cX1_obey 45 = .ok (.istore 8, 2) := by decide +kernel
theorem dX1_obey_47 : decode cX1_obey 47 = .ok (.iload_n 3, 1) := by decide +kernel
theorem dX1_obey_48 : decode cX1_obey 48 = .ok (.bipush 15, 2) := by decide +kernel
theorem dX1_obey_50 : decode cX1_obey 50 = .ok (.iand, 1) := by decide +kernel
theorem dX1_obey_51 : decode cX1_obey 51 = .ok (.tableswitch 278 0 13 #[69, 77, 86, 98, 110, 122, 134, 149, 162, 184, 194, 206, 223, 258], 69) := by decide +kernel
theorem dX1_obey_120 : decode cX1_obey 120 = .ok (.aload_n 0, 1) := by decide +kernel
theorem dX1_obey_121 : decode cX1_obey 121 = .ok (.iload 7, 2) := by decide +kernel
theorem dX1_obey_123 : decode cX1_obey 123 = .ok (.putfield 25, 3) := by decide +kernel
theorem dX1_obey_126 : decode cX1_obey 126 = .ok (.iconst (-1), 1) := by decide +kernel
theorem dX1_obey_127 : decode cX1_obey 127 = .ok (.ireturn, 1) := by decide +kernel
theorem dX1_obey_128 : decode cX1_obey 128 = .ok (.aload 4, 2) := by decide +kernel
theorem dX1_obey_130 : decode cX1_obey 130 = .ok (.iload 5, 2) := by decide +kernel
theorem dX1_obey_132 : decode cX1_obey 132 = .ok (.iload 6, 2) := by decide +kernel
theorem dX1_obey_134 : decode cX1_obey 134 = .ok (.iastore, 1) := by decide +kernel
theorem dX1_obey_135 : decode cX1_obey 135 = .ok (.iconst 0, 1) := by decide +kernel
theorem dX1_obey_136 : decode cX1_obey 136 = .ok (.ireturn, 1) := by decide +kernel
theorem dX1_obey_137 : decode cX1_obey 137 = .ok (.aload 4, 2) := by decide +kernel
theorem dX1_obey_139 : decode cX1_obey 139 = .ok (.iload 5, 2) := by decide +kernel
theorem dX1_obey_141 : decode cX1_obey 141 = .ok (.iload 7, 2) := by decide +kernel
theorem dX1_obey_143 : decode cX1_obey 143 = .ok (.iload 8, 2) := by decide +kernel
theorem dX1_obey_145 : decode cX1_obey 145 = .ok (.iadd, 1) := by decide +kernel
theorem dX1_obey_146 : decode cX1_obey 146 = .ok (.iastore, 1) := by decide +kernel
theorem dX1_obey_147 : decode cX1_obey 147 = .ok (.iconst 0, 1) := by decide +kernel
theorem dX1_obey_148 : decode cX1_obey 148 = .ok (.ireturn, 1) := by decide +kernel
theorem dX1_obey_149 : decode cX1_obey 149 = .ok (.aload 4, 2) := by decide +kernel
theorem dX1_obey_151 : decode cX1_obey 151 = .ok (.iload 5, 2) := by decide +kernel
theorem dX1_obey_153 : decode cX1_obey 153 = .ok (.iload 7, 2) := by decide +kernel
theorem dX1_obey_155 : decode cX1_obey 155 = .ok (.iload 8, 2) := by decide +kernel
theorem dX1_obey_157 : decode cX1_obey 157 = .ok (.isub, 1) := by decide +kernel
theorem dX1_obey_158 : decode cX1_obey 158 = .ok (.iastore, 1) := by decide +kernel
theorem dX1_obey_159 : decode cX1_obey 159 = .ok (.iconst 0, 1) := by decide +kernel
theorem dX1_obey_160 : decode cX1_obey 160 = .ok (.ireturn, 1) := by decide +kernel
theorem dX1_obey_161 : decode cX1_obey 161 = .ok (.aload 4, 2) := by decide +kernel
theorem dX1_obey_163 : decode cX1_obey 163 = .ok (.iload 5, 2) := by decide +kernel
theorem dX1_obey_165 : decode cX1_obey 165 = .ok (.iload 7, 2) := by decide +kernel
theorem dX1_obey_167 : decode cX1_obey 167 = .ok (.iload 8, 2) := by decide +kernel
theorem dX1_obey_169 : decode cX1_obey 169 = .ok (.imul, 1) := by decide +kernel
theorem dX1_obey_170 : decode cX1_obey 170 = .ok (.iastore, 1) := by decide +kernel
theorem dX1_obey_171 : decode cX1_obey 171 = .ok (.iconst 0, 1) := by decide +kernel
theorem dX1_obey_172 : decode cX1_obey 172 = .ok (.ireturn, 1) := by decide +kernel
theorem dX1_obey_173 : decode cX1_obey 173 = .ok (.aload 4, 2) := by decide +kernel
theorem dX1_obey_175 : decode cX1_obey 175 = .ok (.iload 5, 2) := by decide +kernel
theorem dX1_obey_177 : decode cX1_obey 177 = .ok (.iload 7, 2) := by decide +kernel
theorem dX1_obey_179 : decode cX1_obey 179 = .ok (.iload 8, 2) := by decide +kernel
theorem dX1_obey_181 : decode cX1_obey 181 = .ok (.iand, 1) := by decide +kernel
theorem dX1_obey_182 : decode cX1_obey 182 = .ok (.iastore, 1) := by decide +kernel
theorem dX1_obey_183 : decode cX1_obey 183 = .ok (.iconst 0, 1) := by decide +kernel
theorem dX1_obey_184 : decode cX1_obey 184 = .ok (.ireturn, 1) := by decide +kernel
theorem dX1_obey_185 : decode cX1_obey 185 = .ok (.aload_n 0, 1) := by decide +kernel
theorem dX1_obey_186 : decode cX1_obey 186 = .ok (.aload_n 2, 1) := by decide +kernel
theorem dX1_obey_187 : decode cX1_obey 187 = .ok (.iload 8, 2) := by decide +kernel
theorem dX1_obey_189 : decode cX1_obey 189 = .ok (.iload 6, 2) := by decide +kernel
theorem dX1_obey_191 : decode cX1_obey 191 = .ok (.iadd, 1) := by decide +kernel
theorem dX1_obey_192 : decode cX1_obey 192 = .ok (.aload 4, 2) := by decide +kernel
theorem dX1_obey_194 : decode cX1_obey 194 = .ok (.iload 5, 2) := by decide +kernel
theorem dX1_obey_196 : decode cX1_obey 196 = .ok (.invokevirtual 72, 3) := by decide +kernel
theorem dX1_obey_199 : decode cX1_obey 199 = .ok (.ireturn, 1) := by decide +kernel
theorem dX1_obey_200 : decode cX1_obey 200 = .ok (.aload_n 0, 1) := by decide +kernel
theorem dX1_obey_201 : decode cX1_obey 201 = .ok (.aload_n 2, 1) := by decide +kernel
theorem dX1_obey_202 : decode cX1_obey 202 = .ok (.iload 8, 2) := by decide +kernel
theorem dX1_obey_204 : decode cX1_obey 204 = .ok (.iload 6, 2) := by decide +kernel
theorem dX1_obey_206 : decode cX1_obey 206 = .ok (.iadd, 1) := by decide +kernel
theorem dX1_obey_207 : decode cX1_obey 207 = .ok (.iload 7, 2) := by decide +kernel
theorem dX1_obey_209 : decode cX1_obey 209 = .ok (.invokevirtual 76, 3) := by decide +kernel
theorem dX1_obey_212 : decode cX1_obey 212 = .ok (.ireturn, 1) := by decide +kernel
theorem dX1_obey_213 : decode cX1_obey 213 = .ok (.aload_n 1, 1) := by decide +kernel
theorem dX1_obey_214 : decode cX1_obey 214 = .ok (.dup, 1) := by decide +kernel
theorem dX1_obey_215 : decode cX1_obey 215 = .ok (.getfield 54, 3) := by decide +kernel
theorem dX1_obey_218 : decode cX1_obey 218 = .ok (.iload 7, 2) := by decide +kernel
theorem dX1_obey_220 : decode cX1_obey 220 = .ok (.ifCond .eq 8, 3) := by decide +kernel
theorem dX1_obey_223 : decode cX1_obey 223 = .ok (.iload 6, 2) := by decide +kernel
theorem dX1_obey_225 : decode cX1_obey 225 = .ok (.goto 4, 3) := by decide +kernel
theorem dX1_obey_228 : decode cX1_obey 228 = .ok (.iconst 0, 1) := by decide +kernel
theorem dX1_obey_229 : decode cX1_obey 229 = .ok (.iadd, 1) := by decide +kernel
theorem dX1_obey_230 : decode cX1_obey 230 = .ok (.putfield 54, 3) := by decide +kernel
theorem dX1_obey_233 : decode cX1_obey 233 = .ok (.iconst 0, 1) := by decide +kernel
theorem dX1_obey_234 : decode cX1_obey 234 = .ok (.ireturn, 1) := by decide +kernel
theorem dX1_obey_235 : decode cX1_obey 235 = .ok (.aload_n 0, 1) := by decide +kernel
theorem dX1_obey_236 : decode cX1_obey 236 = .ok (.aload_n 2, 1) := by decide +kernel
theorem dX1_obey_237 : decode cX1_obey 237 = .ok (.iload 7, 2) := by decide +kernel
theorem dX1_obey_239 : decode cX1_obey 239 = .ok (.iload 8, 2) := by decide +kernel
theorem dX1_obey_241 : decode cX1_obey 241 = .ok (.invokevirtual 80, 3) := by decide +kernel
theorem dX1_obey_244 : decode cX1_obey 244 = .ok (.ireturn, 1) := by decide +kernel
theorem dX1_obey_245 : decode cX1_obey 245 = .ok (.aload_n 0, 1) := by decide +kernel
theorem dX1_obey_246 : decode cX1_obey 246 = .ok (.aload_n 2, 1) := by decide +kernel
theorem dX1_obey_247 : decode cX1_obey 247 = .ok (.iload 8, 2) := by decide +kernel
theorem dX1_obey_249 : decode cX1_obey 249 = .ok (.aload 4, 2) := by decide +kernel
theorem dX1_obey_251 : decode cX1_obey 251 = .ok (.iload 5, 2) := by decide +kernel
theorem dX1_obey_253 : decode cX1_obey 253 = .ok (.invokevirtual 83, 3) := by decide +kernel
theorem dX1_obey_256 : decode cX1_obey 256 = .ok (.ireturn, 1) := by decide +kernel
theorem dX1_obey_257 : decode cX1_obey 257 = .ok (.aload 4, 2) := by decide +kernel
theorem dX1_obey_259 : decode cX1_obey 259 = .ok (.iload 5, 2) := by decide +kernel
theorem dX1_obey_261 : decode cX1_obey 261 = .ok (.aload_n 2, 1) := by decide +kernel
theorem dX1_obey_262 : decode cX1_obey 262 = .ok (.getfield 86, 3) := by decide +kernel
theorem dX1_obey_265 : decode cX1_obey 265 = .ok (.iload 6, 2) := by decide +kernel
theorem dX1_obey_267 : decode cX1_obey 267 = .ok (.bipush 7, 2) := by decide +kernel
theorem dX1_obey_269 : decode cX1_obey 269 = .ok (.iand, 1) := by decide +kernel
theorem dX1_obey_270 : decode cX1_obey 270 = .ok (.iaload, 1) := by decide +kernel
theorem dX1_obey_271 : decode cX1_obey 271 = .ok (.iastore, 1) := by decide +kernel
theorem dX1_obey_272 : decode cX1_obey 272 = .ok (.iconst 0, 1) := by decide +kernel
theorem dX1_obey_273 : decode cX1_obey 273 = .ok (.ireturn, 1) := by decide +kernel
theorem dX1_obey_274 : decode cX1_obey 274 = .ok (.aload 4, 2) := by decide +kernel
theorem dX1_obey_276 : decode cX1_obey 276 = .ok (.iload 5, 2) := by decide +kernel
theorem dX1_obey_278 : decode cX1_obey 278 = .ok (.aload_n 0, 1) := by decide +kernel
theorem dX1_obey_279 : decode cX1_obey 279 = .ok (.getfield 12, 3) := by decide +kernel
theorem dX1_obey_282 : decode cX1_obey 282 = .ok (.aload_n 1, 1) := by decide +kernel
theorem dX1_obey_283 : decode cX1_obey 283 = .ok (.getfield 49, 3) := by decide +kernel
theorem dX1_obey_286 : decode cX1_obey 286 = .ok (.iload 7, 2) := by decide +kernel
theorem dX1_obey_288 : decode cX1_obey 288 = .ok (.iload 8, 2) := by decide +kernel
theorem dX1_obey_290 : decode cX1_obey 290 = .ok (.iload 6, 2) := by decide +kernel
theorem dX1_obey_292 : decode cX1_obey 292 = .ok (.bipush 7, 2) := by decide +kernel
theorem dX1_obey_294 : decode cX1_obey 294 = .ok (.iand, 1) := by decide +kernel
theorem dX1_obey_295 : decode cX1_obey 295 = .ok (.invokevirtual 89, 3) := by decide +kernel
theorem dX1_obey_298 : decode cX1_obey 298 = .ok (.ifCond .eq 7, 3) := by decide +kernel
theorem dX1_obey_301 : decode cX1_obey 301 = .ok (.iconst 0, 1) := by decide +kernel
theorem dX1_obey_302 : decode cX1_obey 302 = .ok (.goto 4, 3) := by decide +kernel
theorem dX1_obey_305 : decode cX1_obey 305 = .ok (.iconst 1, 1) := by decide +kernel
theorem dX1_obey_306 : decode cX1_obey 306 = .ok (.iastore, 1) := by decide +kernel
theorem dX1_obey_307 : decode cX1_obey 307 = .ok (.iconst 0, 1) := by decide +kernel
theorem dX1_obey_308 : decode cX1_obey 308 = .ok (.ireturn, 1) := by decide +kernel
theorem dX1_obey_309 : decode cX1_obey 309 = .ok (.aload 4, 2) := by decide +kernel
theorem dX1_obey_311 : decode cX1_obey 311 = .ok (.iload 5, 2) := by decide +kernel
theorem dX1_obey_313 : decode cX1_obey 313 = .ok (.aload_n 0, 1) := by decide +kernel
theorem dX1_obey_314 : decode cX1_obey 314 = .ok (.getfield 12, 3) := by decide +kernel
theorem dX1_obey_317 : decode cX1_obey 317 = .ok (.aload_n 1, 1) := by decide +kernel
theorem dX1_obey_318 : decode cX1_obey 318 = .ok (.getfield 49, 3) := by decide +kernel
theorem dX1_obey_321 : decode cX1_obey 321 = .ok (.iload 8, 2) := by decide +kernel
theorem dX1_obey_323 : decode cX1_obey 323 = .ok (.invokevirtual 93, 3) := by decide +kernel
theorem dX1_obey_326 : decode cX1_obey 326 = .ok (.iastore, 1) := by decide +kernel
theorem dX1_obey_327 : decode cX1_obey 327 = .ok (.iconst 0, 1) := by decide +kernel
theorem dX1_obey_328 : decode cX1_obey 328 = .ok (.ireturn, 1) := by decide +kernel
theorem dX1_obey_329 : decode cX1_obey 329 = .ok (.iconst 4, 1) := by decide +kernel
theorem dX1_obey_330 : decode cX1_obey 330 = .ok (.ireturn, 1) := by decide +kernel
set_option maxRecDepth 20000 in
theorem ggX1_load_X4_rowAt : GoodIn wsX1_load wsX4_rowAt := goodIn_r _ [6, 7, 8, 9, 10, 5, 11, 12, 13, 14, 15, 16, 17, 26, 27, 28, 29, 30, 31, 32, 33, 34, 35, 36, 37, 38, 39] (by decide +kernel) (by decide +kernel)
set_option maxRecDepth 20000 in
theorem gX1_load_X4_rowAt : GoodIn wsX1_load (wsV RX1 57 RX4 yX4_rowAt wsX4_rowAt) := goodIn_app (goodIn_of _ (by decide +kernel)) ggX1_load_X4_rowAt
theorem dX1_load_0 : decode cX1_load 0 = .ok (.aload_n 0, 1) := by decide +kernel
theorem dX1_load_1 : decode cX1_load 1 = .ok (.getfield 12, 3) := by decide +kernel
theorem dX1_load_4 : decode cX1_load 4 = .ok (.aload_n 1, 1) := by decide +kernel
theorem dX1_load_5 : decode cX1_load 5 = .ok (.iload_n 2, 1) := by decide +kernel
theorem dX1_load_6 : decode cX1_load 6 = .ok (.iconst 1, 1) := by decide +kernel
theorem dX1_load_7 : decode cX1_load 7 = .ok (.invokevirtual 57, 3) := by decide +kernel
theorem dX1_load_10 : decode cX1_load 10 = .ok (.astore 5, 2) := by decide +kernel
theorem dX1_load_12 : decode cX1_load 12 = .ok (.aload 5, 2) := by decide +kernel
theorem dX1_load_14 : decode cX1_load 14 = .ok (.ifnonnull 5, 3) := by decide +kernel
theorem dX1_load_17 : decode cX1_load 17 = .ok (.iconst 2, 1) := by decide +kernel
theorem dX1_load_18 : decode cX1_load 18 = .ok (.ireturn, 1) := by decide +kernel
theorem dX1_load_19 : decode cX1_load 19 = .ok (.aload_n 3, 1) := by decide +kernel
theorem dX1_load_20 : decode cX1_load 20 = .ok (.iload 4, 2) := by decide +kernel
theorem dX1_load_22 : decode cX1_load 22 = .ok (.aload 5, 2) := by decide +kernel
theorem dX1_load_24 : decode cX1_load 24 = .ok (.iload_n 2, 1) := by decide +kernel
theorem dX1_load_25 : decode cX1_load 25 = .ok (.bipush 16, 2) := by decide +kernel
theorem dX1_load_27 : decode cX1_load 27 = .ok (.irem, 1) := by decide +kernel
theorem dX1_load_28 : decode cX1_load 28 = .ok (.iaload, 1) := by decide +kernel
theorem dX1_load_29 : decode cX1_load 29 = .ok (.iastore, 1) := by decide +kernel
theorem dX1_load_30 : decode cX1_load 30 = .ok (.iconst 0, 1) := by decide +kernel
theorem dX1_load_31 : decode cX1_load 31 = .ok (.ireturn, 1) := by decide +kernel
set_option maxRecDepth 20000 in
theorem ggX1_save_X4_rowAt : GoodIn wsX1_save wsX4_rowAt := goodIn_r _ [6, 7, 8, 9, 10, 5, 11, 12, 13, 14, 15, 16, 17, 26, 27, 28, 29, 30, 31, 32, 33, 34, 35, 36, 37, 38, 39] (by decide +kernel) (by decide +kernel)
set_option maxRecDepth 20000 in
theorem gX1_save_X4_rowAt : GoodIn wsX1_save (wsV RX1 57 RX4 yX4_rowAt wsX4_rowAt) := goodIn_app (goodIn_of _ (by decide +kernel)) ggX1_save_X4_rowAt
theorem dX1_save_0 : decode cX1_save 0 = .ok (.aload_n 0, 1) := by decide +kernel
theorem dX1_save_1 : decode cX1_save 1 = .ok (.getfield 12, 3) := by decide +kernel
theorem dX1_save_4 : decode cX1_save 4 = .ok (.aload_n 1, 1) := by decide +kernel
theorem dX1_save_5 : decode cX1_save 5 = .ok (.iload_n 2, 1) := by decide +kernel
theorem dX1_save_6 : decode cX1_save 6 = .ok (.iconst 2, 1) := by decide +kernel
theorem dX1_save_7 : decode cX1_save 7 = .ok (.invokevirtual 57, 3) := by decide +kernel
theorem dX1_save_10 : decode cX1_save 10 = .ok (.astore 4, 2) := by decide +kernel
theorem dX1_save_12 : decode cX1_save 12 = .ok (.aload 4, 2) := by decide +kernel
theorem dX1_save_14 : decode cX1_save 14 = .ok (.ifnonnull 5, 3) := by decide +kernel
theorem dX1_save_17 : decode cX1_save 17 = .ok (.iconst 3, 1) := by decide +kernel
theorem dX1_save_18 : decode cX1_save 18 = .ok (.ireturn, 1) := by decide +kernel
theorem dX1_save_19 : decode cX1_save 19 = .ok (.aload 4, 2) := by decide +kernel
theorem dX1_save_21 : decode cX1_save 21 = .ok (.iload_n 2, 1) := by decide +kernel
theorem dX1_save_22 : decode cX1_save 22 = .ok (.bipush 16, 2) := by decide +kernel
theorem dX1_save_24 : decode cX1_save 24 = .ok (.irem, 1) := by decide +kernel
theorem dX1_save_25 : decode cX1_save 25 = .ok (.iload_n 3, 1) := by decide +kernel
theorem dX1_save_26 : decode cX1_save 26 = .ok (.iastore, 1) := by decide +kernel
theorem dX1_save_27 : decode cX1_save 27 = .ok (.iconst 0, 1) := by decide +kernel
theorem dX1_save_28 : decode cX1_save 28 = .ok (.ireturn, 1) := by decide +kernel
set_option maxRecDepth 20000 in
theorem ggX1_vouch_X1_readEight : GoodIn wsX1_vouch wsX1_readEight := goodIn_r _ [9, 10, 11, 12, 13, 14, 15, 16, 17, 18, 19, 20, 21, 22, 23, 24, 25, 26, 74, 75, 76, 77, 78, 79, 80, 81, 94, 95, 82, 83, 84, 85, 86, 87, 88, 89, 90, 91, 92, 93] (by decide +kernel) (by decide +kernel)
set_option maxRecDepth 20000 in
theorem gX1_vouch_X1_readEight : GoodIn wsX1_vouch (wsV RX1 97 RX1 yX1_readEight wsX1_readEight) := goodIn_app (goodIn_of _ (by decide +kernel)) ggX1_vouch_X1_readEight
set_option maxRecDepth 20000 in
theorem ggX1_vouch_X1_mayWriteEight : GoodIn wsX1_vouch wsX1_mayWriteEight := goodIn_r _ [30, 10, 11, 12, 13, 14, 15, 16, 17, 18, 19, 20, 21, 22, 23, 24, 25, 26, 74, 75, 76, 77, 78, 79, 80, 81, 94, 95, 82, 83, 84, 85, 86, 87, 88, 89, 90, 91, 92, 93] (by decide +kernel) (by decide +kernel)
set_option maxRecDepth 20000 in
theorem gX1_vouch_X1_mayWriteEight : GoodIn wsX1_vouch (wsV RX1 101 RX1 yX1_mayWriteEight wsX1_mayWriteEight) := goodIn_app (goodIn_of _ (by decide +kernel)) ggX1_vouch_X1_mayWriteEight
set_option maxRecDepth 20000 in
theorem ggX1_vouch_X2_writeVoucher : GoodIn wsX1_vouch wsX2_writeVoucher := goodIn_r _ [35, 36, 37, 38, 39, 40, 41, 42, 43, 44, 45, 46, 47, 48, 49, 50, 51, 52, 53, 54, 55, 56, 57, 58, 59, 60, 61, 62, 63, 64, 65, 66, 67, 68, 69, 96, 97, 98, 99, 100] (by decide +kernel) (by decide +kernel)
set_option maxRecDepth 20000 in
theorem gX1_vouch_X2_writeVoucher : GoodIn wsX1_vouch (wsV RX1 105 RX2 yX2_writeVoucher wsX2_writeVoucher) := goodIn_app (goodIn_of _ (by decide +kernel)) ggX1_vouch_X2_writeVoucher
set_option maxRecDepth 20000 in
theorem ggX1_vouch_X1_save : GoodIn wsX1_vouch wsX1_save := goodIn_r _ [73, 10, 11, 12, 13, 14, 15, 16, 17, 18, 19, 20, 21, 22, 23, 24, 25, 26, 74, 75, 76, 77, 78, 79, 80, 81, 94, 95, 82, 83, 84, 85, 86, 87, 88, 89, 90, 91, 92, 93] (by decide +kernel) (by decide +kernel)
set_option maxRecDepth 20000 in
theorem gX1_vouch_X1_save : GoodIn wsX1_vouch (wsV RX1 76 RX1 yX1_save wsX1_save) := goodIn_app (goodIn_of _ (by decide +kernel)) ggX1_vouch_X1_save
theorem dX1_vouch_0 : decode cX1_vouch 0 = .ok (.aload_n 0, 1) := by decide +kernel
theorem dX1_vouch_1 : decode cX1_vouch 1 = .ok (.aload_n 1, 1) := by decide +kernel
theorem dX1_vouch_2 : decode cX1_vouch 2 = .ok (.iload_n 2, 1) := by decide +kernel
theorem dX1_vouch_3 : decode cX1_vouch 3 = .ok (.aload_n 0, 1) := by decide +kernel
theorem dX1_vouch_4 : decode cX1_vouch 4 = .ok (.getfield 32, 3) := by decide +kernel
theorem dX1_vouch_7 : decode cX1_vouch 7 = .ok (.invokevirtual 97, 3) := by decide +kernel
theorem dX1_vouch_10 : decode cX1_vouch 10 = .ok (.ifCond .ne 5, 3) := by decide +kernel
theorem dX1_vouch_13 : decode cX1_vouch 13 = .ok (.iconst 2, 1) := by decide +kernel
theorem dX1_vouch_14 : decode cX1_vouch 14 = .ok (.ireturn, 1) := by decide +kernel
theorem dX1_vouch_15 : decode cX1_vouch 15 = .ok (.aload_n 0, 1) := by decide +kernel
theorem dX1_vouch_16 : decode cX1_vouch 16 = .ok (.aload_n 1, 1) := by decide +kernel
theorem dX1_vouch_17 : decode cX1_vouch 17 = .ok (.iload_n 3, 1) := by decide +kernel
theorem dX1_vouch_18 : decode cX1_vouch 18 = .ok (.invokevirtual 101, 3) := by decide +kernel
theorem dX1_vouch_21 : decode cX1_vouch 21 = .ok (.ifCond .ne 5, 3) := by decide +kernel
theorem dX1_vouch_24 : decode cX1_vouch 24 = .ok (.iconst 3, 1) := by decide +kernel
theorem dX1_vouch_25 : decode cX1_vouch 25 = .ok (.ireturn, 1) := by decide +kernel
theorem dX1_vouch_26 : decode cX1_vouch 26 = .ok (.aload_n 0, 1) := by decide +kernel
theorem dX1_vouch_27 : decode cX1_vouch 27 = .ok (.getfield 21, 3) := by decide +kernel
theorem dX1_vouch_30 : decode cX1_vouch 30 = .ok (.aload_n 1, 1) := by decide +kernel
theorem dX1_vouch_31 : decode cX1_vouch 31 = .ok (.getfield 86, 3) := by decide +kernel
theorem dX1_vouch_34 : decode cX1_vouch 34 = .ok (.aload_n 0, 1) := by decide +kernel
theorem dX1_vouch_35 : decode cX1_vouch 35 = .ok (.getfield 32, 3) := by decide +kernel
theorem dX1_vouch_38 : decode cX1_vouch 38 = .ok (.aload_n 0, 1) := by decide +kernel
theorem dX1_vouch_39 : decode cX1_vouch 39 = .ok (.getfield 42, 3) := by decide +kernel
theorem dX1_vouch_42 : decode cX1_vouch 42 = .ok (.invokevirtual 105, 3) := by decide +kernel
theorem dX1_vouch_45 : decode cX1_vouch 45 = .ok (.iconst 0, 1) := by decide +kernel
theorem dX1_vouch_46 : decode cX1_vouch 46 = .ok (.istore 4, 2) := by decide +kernel
theorem dX1_vouch_48 : decode cX1_vouch 48 = .ok (.iload 4, 2) := by decide +kernel
theorem dX1_vouch_50 : decode cX1_vouch 50 = .ok (.bipush 8, 2) := by decide +kernel
theorem dX1_vouch_52 : decode cX1_vouch 52 = .ok (.if_icmp .ge 26, 3) := by decide +kernel
theorem dX1_vouch_55 : decode cX1_vouch 55 = .ok (.aload_n 0, 1) := by decide +kernel
theorem dX1_vouch_56 : decode cX1_vouch 56 = .ok (.aload_n 1, 1) := by decide +kernel
theorem dX1_vouch_57 : decode cX1_vouch 57 = .ok (.iload_n 3, 1) := by decide +kernel
theorem dX1_vouch_58 : decode cX1_vouch 58 = .ok (.iload 4, 2) := by decide +kernel
theorem dX1_vouch_60 : decode cX1_vouch 60 = .ok (.iadd, 1) := by decide +kernel
theorem dX1_vouch_61 : decode cX1_vouch 61 = .ok (.aload_n 0, 1) := by decide +kernel
theorem dX1_vouch_62 : decode cX1_vouch 62 = .ok (.getfield 42, 3) := by decide +kernel
theorem dX1_vouch_65 : decode cX1_vouch 65 = .ok (.iload 4, 2) := by decide +kernel
theorem dX1_vouch_67 : decode cX1_vouch 67 = .ok (.iaload, 1) := by decide +kernel
theorem dX1_vouch_68 : decode cX1_vouch 68 = .ok (.invokevirtual 76, 3) := by decide +kernel
theorem dX1_vouch_71 : decode cX1_vouch 71 = .ok (.pop, 1) := by decide +kernel
theorem dX1_vouch_72 : decode cX1_vouch 72 = .ok (.iinc 4 1, 3) := by decide +kernel
theorem dX1_vouch_75 : decode cX1_vouch 75 = .ok (.goto (-27), 3) := by decide +kernel
theorem dX1_vouch_78 : decode cX1_vouch 78 = .ok (.iconst 0, 1) := by decide +kernel
theorem dX1_vouch_79 : decode cX1_vouch 79 = .ok (.ireturn, 1) := by decide +kernel
set_option maxRecDepth 20000 in
theorem ggX1_compare_X1_readEight : GoodIn wsX1_compare wsX1_readEight := goodIn_r _ [10, 11, 12, 13, 14, 15, 16, 17, 18, 19, 20, 21, 22, 23, 24, 25, 26, 27, 67, 68, 69, 70, 71, 72, 73, 74, 75, 76, 77, 78, 79, 80, 81, 82, 83, 84, 85, 86, 87, 88] (by decide +kernel) (by decide +kernel)
set_option maxRecDepth 20000 in
theorem gX1_compare_X1_readEight : GoodIn wsX1_compare (wsV RX1 97 RX1 yX1_readEight wsX1_readEight) := goodIn_app (goodIn_of _ (by decide +kernel)) ggX1_compare_X1_readEight
set_option maxRecDepth 20000 in
theorem ggX1_compare_X2_writeVoucher : GoodIn wsX1_compare wsX2_writeVoucher := goodIn_r _ [32, 33, 34, 35, 36, 37, 38, 39, 40, 41, 42, 43, 44, 45, 46, 47, 48, 49, 50, 51, 52, 53, 54, 55, 56, 57, 58, 59, 60, 61, 62, 63, 64, 65, 66, 89, 90, 91, 92, 93] (by decide +kernel) (by decide +kernel)
set_option maxRecDepth 20000 in
theorem gX1_compare_X2_writeVoucher : GoodIn wsX1_compare (wsV RX1 105 RX2 yX2_writeVoucher wsX2_writeVoucher) := goodIn_app (goodIn_of _ (by decide +kernel)) ggX1_compare_X2_writeVoucher
theorem dX1_compare_0 : decode cX1_compare 0 = .ok (.aload_n 0, 1) := by decide +kernel
theorem dX1_compare_1 : decode cX1_compare 1 = .ok (.aload_n 1, 1) := by decide +kernel
theorem dX1_compare_2 : decode cX1_compare 2 = .ok (.iload_n 2, 1) := by decide +kernel
theorem dX1_compare_3 : decode cX1_compare 3 = .ok (.aload_n 0, 1) := by decide +kernel
theorem dX1_compare_4 : decode cX1_compare 4 = .ok (.getfield 36, 3) := by decide +kernel
theorem dX1_compare_7 : decode cX1_compare 7 = .ok (.invokevirtual 97, 3) := by decide +kernel
theorem dX1_compare_10 : decode cX1_compare 10 = .ok (.ifCond .eq 35, 3) := by decide +kernel
theorem dX1_compare_13 : decode cX1_compare 13 = .ok (.aload_n 0, 1) := by decide +kernel
theorem dX1_compare_14 : decode cX1_compare 14 = .ok (.aload_n 1, 1) := by decide +kernel
theorem dX1_compare_15 : decode cX1_compare 15 = .ok (.iload_n 2, 1) := by decide +kernel
theorem dX1_compare_16 : decode cX1_compare 16 = .ok (.bipush 8, 2) := by decide +kernel
theorem dX1_compare_18 : decode cX1_compare 18 = .ok (.iadd, 1) := by decide +kernel
theorem dX1_compare_19 : decode cX1_compare 19 = .ok (.aload_n 0, 1) := by decide +kernel
theorem dX1_compare_20 : decode cX1_compare 20 = .ok (.getfield 32, 3) := by decide +kernel
theorem dX1_compare_23 : decode cX1_compare 23 = .ok (.invokevirtual 97, 3) := by decide +kernel
theorem dX1_compare_26 : decode cX1_compare 26 = .ok (.ifCond .eq 19, 3) := by decide +kernel
theorem dX1_compare_29 : decode cX1_compare 29 = .ok (.aload_n 0, 1) := by decide +kernel
theorem dX1_compare_30 : decode cX1_compare 30 = .ok (.aload_n 1, 1) := by decide +kernel
theorem dX1_compare_31 : decode cX1_compare 31 = .ok (.iload_n 2, 1) := by decide +kernel
theorem dX1_compare_32 : decode cX1_compare 32 = .ok (.bipush 16, 2) := by decide +kernel
theorem dX1_compare_34 : decode cX1_compare 34 = .ok (.iadd, 1) := by decide +kernel
theorem dX1_compare_35 : decode cX1_compare 35 = .ok (.aload_n 0, 1) := by decide +kernel
theorem dX1_compare_36 : decode cX1_compare 36 = .ok (.getfield 39, 3) := by decide +kernel
theorem dX1_compare_39 : decode cX1_compare 39 = .ok (.invokevirtual 97, 3) := by decide +kernel
theorem dX1_compare_42 : decode cX1_compare 42 = .ok (.ifCond .ne 5, 3) := by decide +kernel
theorem dX1_compare_45 : decode cX1_compare 45 = .ok (.iconst 2, 1) := by decide +kernel
theorem dX1_compare_46 : decode cX1_compare 46 = .ok (.ireturn, 1) := by decide +kernel
theorem dX1_compare_47 : decode cX1_compare 47 = .ok (.aload_n 0, 1) := by decide +kernel
theorem dX1_compare_48 : decode cX1_compare 48 = .ok (.getfield 21, 3) := by decide +kernel
theorem dX1_compare_51 : decode cX1_compare 51 = .ok (.aload_n 0, 1) := by decide +kernel
theorem dX1_compare_52 : decode cX1_compare 52 = .ok (.getfield 36, 3) := by decide +kernel
theorem dX1_compare_55 : decode cX1_compare 55 = .ok (.aload_n 0, 1) := by decide +kernel
theorem dX1_compare_56 : decode cX1_compare 56 = .ok (.getfield 32, 3) := by decide +kernel
theorem dX1_compare_59 : decode cX1_compare 59 = .ok (.aload_n 0, 1) := by decide +kernel
theorem dX1_compare_60 : decode cX1_compare 60 = .ok (.getfield 42, 3) := by decide +kernel
theorem dX1_compare_63 : decode cX1_compare 63 = .ok (.invokevirtual 105, 3) := by decide +kernel
theorem dX1_compare_66 : decode cX1_compare 66 = .ok (.aload_n 3, 1) := by decide +kernel
theorem dX1_compare_67 : decode cX1_compare 67 = .ok (.iload 4, 2) := by decide +kernel
theorem dX1_compare_69 : decode cX1_compare 69 = .ok (.iconst 1, 1) := by decide +kernel
theorem dX1_compare_70 : decode cX1_compare 70 = .ok (.iastore, 1) := by decide +kernel
theorem dX1_compare_71 : decode cX1_compare 71 = .ok (.iconst 0, 1) := by decide +kernel
theorem dX1_compare_72 : decode cX1_compare 72 = .ok (.istore 5, 2) := by decide +kernel
theorem dX1_compare_74 : decode cX1_compare 74 = .ok (.iload 5, 2) := by decide +kernel
theorem dX1_compare_76 : decode cX1_compare 76 = .ok (.bipush 8, 2) := by decide +kernel
theorem dX1_compare_78 : decode cX1_compare 78 = .ok (.if_icmp .ge 31, 3) := by decide +kernel
theorem dX1_compare_81 : decode cX1_compare 81 = .ok (.aload_n 0, 1) := by decide +kernel
theorem dX1_compare_82 : decode cX1_compare 82 = .ok (.getfield 42, 3) := by decide +kernel
theorem dX1_compare_85 : decode cX1_compare 85 = .ok (.iload 5, 2) := by decide +kernel
theorem dX1_compare_87 : decode cX1_compare 87 = .ok (.iaload, 1) := by decide +kernel
theorem dX1_compare_88 : decode cX1_compare 88 = .ok (.aload_n 0, 1) := by decide +kernel
theorem dX1_compare_89 : decode cX1_compare 89 = .ok (.getfield 39, 3) := by decide +kernel
theorem dX1_compare_92 : decode cX1_compare 92 = .ok (.iload 5, 2) := by decide +kernel
theorem dX1_compare_94 : decode cX1_compare 94 = .ok (.iaload, 1) := by decide +kernel
theorem dX1_compare_95 : decode cX1_compare 95 = .ok (.if_icmp .eq 8, 3) := by decide +kernel
theorem dX1_compare_98 : decode cX1_compare 98 = .ok (.aload_n 3, 1) := by decide +kernel
theorem dX1_compare_99 : decode cX1_compare 99 = .ok (.iload 4, 2) := by decide +kernel
theorem dX1_compare_101 : decode cX1_compare 101 = .ok (.iconst 0, 1) := by decide +kernel
theorem dX1_compare_102 : decode cX1_compare 102 = .ok (.iastore, 1) := by decide +kernel
theorem dX1_compare_103 : decode cX1_compare 103 = .ok (.iinc 5 1, 3) := by decide +kernel
theorem dX1_compare_106 : decode cX1_compare 106 = .ok (.goto (-32), 3) := by decide +kernel
theorem dX1_compare_109 : decode cX1_compare 109 = .ok (.iconst 0, 1) := by decide +kernel
theorem dX1_compare_110 : decode cX1_compare 110 = .ok (.ireturn, 1) := by decide +kernel
set_option maxRecDepth 20000 in
theorem ggX1_readEight_X4_rowAt : GoodIn wsX1_readEight wsX4_rowAt := goodIn_r _ [6, 7, 8, 9, 10, 5, 11, 12, 13, 14, 15, 16, 17, 26, 27, 28, 29, 30, 31, 32, 33, 34, 35, 36, 37, 38, 39] (by decide +kernel) (by decide +kernel)
set_option maxRecDepth 20000 in
theorem gX1_readEight_X4_rowAt : GoodIn wsX1_readEight (wsV RX1 57 RX4 yX4_rowAt wsX4_rowAt) := goodIn_app (goodIn_of _ (by decide +kernel)) ggX1_readEight_X4_rowAt
theorem dX1_readEight_0 : decode cX1_readEight 0 = .ok (.iconst 0, 1) := by decide +kernel
theorem dX1_readEight_1 : decode cX1_readEight 1 = .ok (.istore 4, 2) := by decide +kernel
theorem dX1_readEight_3 : decode cX1_readEight 3 = .ok (.iload 4, 2) := by decide +kernel
theorem dX1_readEight_5 : decode cX1_readEight 5 = .ok (.bipush 8, 2) := by decide +kernel
theorem dX1_readEight_7 : decode cX1_readEight 7 = .ok (.if_icmp .ge 45, 3) := by decide +kernel
theorem dX1_readEight_10 : decode cX1_readEight 10 = .ok (.aload_n 0, 1) := by decide +kernel
theorem dX1_readEight_11 : decode cX1_readEight 11 = .ok (.getfield 12, 3) := by decide +kernel
theorem dX1_readEight_14 : decode cX1_readEight 14 = .ok (.aload_n 1, 1) := by decide +kernel
theorem dX1_readEight_15 : decode cX1_readEight 15 = .ok (.iload_n 2, 1) := by decide +kernel
theorem dX1_readEight_16 : decode cX1_readEight 16 = .ok (.iload 4, 2) := by decide +kernel
theorem dX1_readEight_18 : decode cX1_readEight 18 = .ok (.iadd, 1) := by decide +kernel
theorem dX1_readEight_19 : decode cX1_readEight 19 = .ok (.iconst 1, 1) := by decide +kernel
theorem dX1_readEight_20 : decode cX1_readEight 20 = .ok (.invokevirtual 57, 3) := by decide +kernel
theorem dX1_readEight_23 : decode cX1_readEight 23 = .ok (.astore 5, 2) := by decide +kernel
theorem dX1_readEight_25 : decode cX1_readEight 25 = .ok (.aload 5, 2) := by decide +kernel
theorem dX1_readEight_27 : decode cX1_readEight 27 = .ok (.ifnonnull 5, 3) := by decide +kernel
theorem dX1_readEight_30 : decode cX1_readEight 30 = .ok (.iconst 0, 1) := by decide +kernel
theorem dX1_readEight_31 : decode cX1_readEight 31 = .ok (.ireturn, 1) := by decide +kernel
theorem dX1_readEight_32 : decode cX1_readEight 32 = .ok (.aload_n 3, 1) := by decide +kernel
theorem dX1_readEight_33 : decode cX1_readEight 33 = .ok (.iload 4, 2) := by decide +kernel
theorem dX1_readEight_35 : decode cX1_readEight 35 = .ok (.aload 5, 2) := by decide +kernel
theorem dX1_readEight_37 : decode cX1_readEight 37 = .ok (.iload_n 2, 1) := by decide +kernel
theorem dX1_readEight_38 : decode cX1_readEight 38 = .ok (.iload 4, 2) := by decide +kernel
theorem dX1_readEight_40 : decode cX1_readEight 40 = .ok (.iadd, 1) := by decide +kernel
theorem dX1_readEight_41 : decode cX1_readEight 41 = .ok (.bipush 16, 2) := by decide +kernel
theorem dX1_readEight_43 : decode cX1_readEight 43 = .ok (.irem, 1) := by decide +kernel
theorem dX1_readEight_44 : decode cX1_readEight 44 = .ok (.iaload, 1) := by decide +kernel
theorem dX1_readEight_45 : decode cX1_readEight 45 = .ok (.iastore, 1) := by decide +kernel
theorem dX1_readEight_46 : decode cX1_readEight 46 = .ok (.iinc 4 1, 3) := by decide +kernel
theorem dX1_readEight_49 : decode cX1_readEight 49 = .ok (.goto (-46), 3) := by decide +kernel
theorem dX1_readEight_52 : decode cX1_readEight 52 = .ok (.iconst 1, 1) := by decide +kernel
theorem dX1_readEight_53 : decode cX1_readEight 53 = .ok (.ireturn, 1) := by decide +kernel
set_option maxRecDepth 20000 in
theorem ggX1_mayWriteEight_X4_rowAt : GoodIn wsX1_mayWriteEight wsX4_rowAt := goodIn_r _ [6, 7, 8, 9, 10, 5, 11, 12, 13, 14, 15, 16, 17, 26, 27, 28, 29, 30, 31, 32, 33, 34, 35, 36, 37, 38, 39] (by decide +kernel) (by decide +kernel)
set_option maxRecDepth 20000 in
theorem gX1_mayWriteEight_X4_rowAt : GoodIn wsX1_mayWriteEight (wsV RX1 57 RX4 yX4_rowAt wsX4_rowAt) := goodIn_app (goodIn_of _ (by decide +kernel)) ggX1_mayWriteEight_X4_rowAt
theorem dX1_mayWriteEight_0 : decode cX1_mayWriteEight 0 = .ok (.iconst 0, 1) := by decide +kernel
theorem dX1_mayWriteEight_1 : decode cX1_mayWriteEight 1 = .ok (.istore_n 3, 1) := by decide +kernel
theorem dX1_mayWriteEight_2 : decode cX1_mayWriteEight 2 = .ok (.iload_n 3, 1) := by decide +kernel
theorem dX1_mayWriteEight_3 : decode cX1_mayWriteEight 3 = .ok (.bipush 8, 2) := by decide +kernel
theorem dX1_mayWriteEight_5 : decode cX1_mayWriteEight 5 = .ok (.if_icmp .ge 26, 3) := by decide +kernel
theorem dX1_mayWriteEight_8 : decode cX1_mayWriteEight 8 = .ok (.aload_n 0, 1) := by decide +kernel
theorem dX1_mayWriteEight_9 : decode cX1_mayWriteEight 9 = .ok (.getfield 12, 3) := by decide +kernel
theorem dX1_mayWriteEight_12 : decode cX1_mayWriteEight 12 = .ok (.aload_n 1, 1) := by decide +kernel
theorem dX1_mayWriteEight_13 : decode cX1_mayWriteEight 13 = .ok (.iload_n 2, 1) := by decide +kernel
theorem dX1_mayWriteEight_14 : decode cX1_mayWriteEight 14 = .ok (.iload_n 3, 1) := by decide +kernel
theorem dX1_mayWriteEight_15 : decode cX1_mayWriteEight 15 = .ok (.iadd, 1) := by decide +kernel
theorem dX1_mayWriteEight_16 : decode cX1_mayWriteEight 16 = .ok (.iconst 2, 1) := by decide +kernel
theorem dX1_mayWriteEight_17 : decode cX1_mayWriteEight 17 = .ok (.invokevirtual 57, 3) := by decide +kernel
theorem dX1_mayWriteEight_20 : decode cX1_mayWriteEight 20 = .ok (.ifnonnull 5, 3) := by decide +kernel
theorem dX1_mayWriteEight_23 : decode cX1_mayWriteEight 23 = .ok (.iconst 0, 1) := by decide +kernel
theorem dX1_mayWriteEight_24 : decode cX1_mayWriteEight 24 = .ok (.ireturn, 1) := by decide +kernel
theorem dX1_mayWriteEight_25 : decode cX1_mayWriteEight 25 = .ok (.iinc 3 1, 3) := by decide +kernel
theorem dX1_mayWriteEight_28 : decode cX1_mayWriteEight 28 = .ok (.goto (-26), 3) := by decide +kernel
theorem dX1_mayWriteEight_31 : decode cX1_mayWriteEight 31 = .ok (.iconst 1, 1) := by decide +kernel
theorem dX1_mayWriteEight_32 : decode cX1_mayWriteEight 32 = .ok (.ireturn, 1) := by decide +kernel
set_option maxRecDepth 20000 in
theorem ggX2_init_X0_init : GoodIn wsX2_init wsX0_init := goodIn_r _ [12, 13, 2, 3, 4, 14, 15, 19, 20] (by decide +kernel) (by decide +kernel)
set_option maxRecDepth 20000 in
theorem gX2_init_X0_init_n17 : GoodIn wsX2_init (wsX0_init) := ggX2_init_X0_init
theorem dX2_init_0 : decode cX2_init 0 = .ok (.aload_n 0, 1) := by decide +kernel
theorem dX2_init_1 : decode cX2_init 1 = .ok (.invokespecial 3, 3) := by decide +kernel
theorem dX2_init_4 : decode cX2_init 4 = .ok (.aload_n 0, 1) := by decide +kernel
theorem dX2_init_5 : decode cX2_init 5 = .ok (.bipush 8, 2) := by decide +kernel
theorem dX2_init_7 : decode cX2_init 7 = .ok (.newarray .int, 2) := by decide +kernel
theorem dX2_init_9 : decode cX2_init 9 = .ok (.putfield 9, 3) := by decide +kernel
theorem dX2_init_12 : decode cX2_init 12 = .ok (.aload_n 0, 1) := by decide +kernel
theorem dX2_init_13 : decode cX2_init 13 = .ok (.new 15, 3) := by decide +kernel
theorem dX2_init_16 : decode cX2_init 16 = .ok (.dup, 1) := by decide +kernel
theorem dX2_init_17 : decode cX2_init 17 = .ok (.invokespecial 17, 3) := by decide +kernel
theorem dX2_init_20 : decode cX2_init 20 = .ok (.putfield 18, 3) := by decide +kernel
theorem dX2_init_23 : decode cX2_init 23 = .ok (.aload_n 0, 1) := by decide +kernel
theorem dX2_init_24 : decode cX2_init 24 = .ok (.bipush 16, 2) := by decide +kernel
theorem dX2_init_26 : decode cX2_init 26 = .ok (.newarray .int, 2) := by decide +kernel
theorem dX2_init_28 : decode cX2_init 28 = .ok (.putfield 22, 3) := by decide +kernel
theorem dX2_init_31 : decode cX2_init 31 = .ok (.return_, 1) := by decide +kernel
set_option maxRecDepth 20000 in
theorem ggX2_open_X0_begin : GoodIn wsX2_open wsX0_begin := goodIn_r _ [9, 10, 11, 12, 13, 14] (by decide +kernel) (by decide +kernel)
set_option maxRecDepth 20000 in
theorem gX2_open_X0_begin : GoodIn wsX2_open (wsV RX2 38 RX0 yX0_begin wsX0_begin) := goodIn_app (goodIn_of _ (by decide +kernel)) ggX2_open_X0_begin
end
section
theorem dX2_open_0 : decode cX2_open 0 = .ok (.aload_n 1, 1) := by decide +kernel
theorem dX2_open_1 : decode cX2_open 1 = .ok (.iconst 0, 1) := by decide +kernel
theorem dX2_open_2 : decode cX2_open 2 = .ok (.putfield 25, 3) := by decide +kernel
theorem dX2_open_5 : decode cX2_open 5 = .ok (.aload_n 1, 1) := by decide +kernel
theorem dX2_open_6 : decode cX2_open 6 = .ok (.iconst 0, 1) := by decide +kernel
theorem dX2_open_7 : decode cX2_open 7 = .ok (.putfield 31, 3) := by decide +kernel
theorem dX2_open_10 : decode cX2_open 10 = .ok (.aload_n 0, 1) := by decide +kernel
theorem dX2_open_11 : decode cX2_open 11 = .ok (.getfield 18, 3) := by decide +kernel
theorem dX2_open_14 : decode cX2_open 14 = .ok (.aload_n 1, 1) := by decide +kernel
theorem dX2_open_15 : decode cX2_open 15 = .ok (.getfield 35, 3) := by decide +kernel
theorem dX2_open_18 : decode cX2_open 18 = .ok (.invokevirtual 38, 3) := by decide +kernel
theorem dX2_open_21 : decode cX2_open 21 = .ok (.return_, 1) := by decide +kernel
set_option maxRecDepth 20000 in
theorem ggX2_tell_J7_fill_53178 : GoodIn wsX2_tell wsJ7_fill_53178 := goodIn_r _ [5] (by decide +kernel) (by decide +kernel)
set_option maxRecDepth 20000 in
theorem gX2_tell_J7_fill_53178 : GoodIn wsX2_tell (va_wsS RX2 42 yJ7_fill_53178 wsJ7_fill_53178) := goodIn_app (goodIn_of _ (by decide +kernel)) ggX2_tell_J7_fill_53178
set_option maxRecDepth 20000 in
theorem ggX2_tell_X2_tellWords : GoodIn wsX2_tell wsX2_tellWords := goodIn_r _ [10, 11, 12, 13, 14, 15, 16, 17, 18, 19, 20, 21, 22, 23, 24, 25, 26, 27, 28, 29, 30, 31, 32, 33, 34, 35, 36, 37, 38, 39, 40, 41, 42, 43, 44, 45] (by decide +kernel) (by decide +kernel)
set_option maxRecDepth 20000 in
theorem gX2_tell_X2_tellWords : GoodIn wsX2_tell (wsV RX2 48 RX2 yX2_tellWords wsX2_tellWords) := goodIn_app (goodIn_of _ (by decide +kernel)) ggX2_tell_X2_tellWords
theorem dX2_tell_0 : decode cX2_tell 0 = .ok (.aload_n 0, 1) := by decide +kernel
theorem dX2_tell_1 : decode cX2_tell 1 = .ok (.getfield 22, 3) := by decide +kernel
theorem dX2_tell_4 : decode cX2_tell 4 = .ok (.iconst 0, 1) := by decide +kernel
theorem dX2_tell_5 : decode cX2_tell 5 = .ok (.invokestatic 42, 3) := by decide +kernel
theorem dX2_tell_8 : decode cX2_tell 8 = .ok (.aload_n 0, 1) := by decide +kernel
theorem dX2_tell_9 : decode cX2_tell 9 = .ok (.getfield 22, 3) := by decide +kernel
theorem dX2_tell_12 : decode cX2_tell 12 = .ok (.iconst 0, 1) := by decide +kernel
theorem dX2_tell_13 : decode cX2_tell 13 = .ok (.iload_n 2, 1) := by decide +kernel
theorem dX2_tell_14 : decode cX2_tell 14 = .ok (.iastore, 1) := by decide +kernel
theorem dX2_tell_15 : decode cX2_tell 15 = .ok (.aload_n 0, 1) := by decide +kernel
theorem dX2_tell_16 : decode cX2_tell 16 = .ok (.getfield 22, 3) := by decide +kernel
theorem dX2_tell_19 : decode cX2_tell 19 = .ok (.iconst 1, 1) := by decide +kernel
theorem dX2_tell_20 : decode cX2_tell 20 = .ok (.iload_n 3, 1) := by decide +kernel
theorem dX2_tell_21 : decode cX2_tell 21 = .ok (.iastore, 1) := by decide +kernel
theorem dX2_tell_22 : decode cX2_tell 22 = .ok (.aload_n 0, 1) := by decide +kernel
theorem dX2_tell_23 : decode cX2_tell 23 = .ok (.getfield 22, 3) := by decide +kernel
theorem dX2_tell_26 : decode cX2_tell 26 = .ok (.iconst 2, 1) := by decide +kernel
theorem dX2_tell_27 : decode cX2_tell 27 = .ok (.iload 4, 2) := by decide +kernel
theorem dX2_tell_29 : decode cX2_tell 29 = .ok (.iastore, 1) := by decide +kernel
theorem dX2_tell_30 : decode cX2_tell 30 = .ok (.aload_n 0, 1) := by decide +kernel
theorem dX2_tell_31 : decode cX2_tell 31 = .ok (.aload_n 1, 1) := by decide +kernel
theorem dX2_tell_32 : decode cX2_tell 32 = .ok (.aload_n 0, 1) := by decide +kernel
theorem dX2_tell_33 : decode cX2_tell 33 = .ok (.getfield 22, 3) := by decide +kernel
theorem dX2_tell_36 : decode cX2_tell 36 = .ok (.invokevirtual 48, 3) := by decide +kernel
theorem dX2_tell_39 : decode cX2_tell 39 = .ok (.return_, 1) := by decide +kernel
set_option maxRecDepth 20000 in
theorem ggX2_tellWords_X0_take : GoodIn wsX2_tellWords wsX0_take := goodIn_r _ [8, 9, 10, 11, 12, 13, 7, 14, 15, 16, 17, 18, 34, 35] (by decide +kernel) (by decide +kernel)
set_option maxRecDepth 20000 in
theorem gX2_tellWords_X0_take : GoodIn wsX2_tellWords (wsV RX2 52 RX0 yX0_take wsX0_take) := goodIn_app (goodIn_of _ (by decide +kernel)) ggX2_tellWords_X0_take
theorem dX2_tellWords_0 : decode cX2_tellWords 0 = .ok (.aload_n 0, 1) := by decide +kernel
theorem dX2_tellWords_1 : decode cX2_tellWords 1 = .ok (.getfield 18, 3) := by decide +kernel
theorem dX2_tellWords_4 : decode cX2_tellWords 4 = .ok (.aload_n 1, 1) := by decide +kernel
theorem dX2_tellWords_5 : decode cX2_tellWords 5 = .ok (.getfield 35, 3) := by decide +kernel
theorem dX2_tellWords_8 : decode cX2_tellWords 8 = .ok (.aload_n 2, 1) := by decide +kernel
theorem dX2_tellWords_9 : decode cX2_tellWords 9 = .ok (.invokevirtual 52, 3) := by decide +kernel
theorem dX2_tellWords_12 : decode cX2_tellWords 12 = .ok (.aload_n 1, 1) := by decide +kernel
theorem dX2_tellWords_13 : decode cX2_tellWords 13 = .ok (.dup, 1) := by decide +kernel
theorem dX2_tellWords_14 : decode cX2_tellWords 14 = .ok (.getfield 31, 3) := by decide +kernel
theorem dX2_tellWords_17 : decode cX2_tellWords 17 = .ok (.iconst 1, 1) := by decide +kernel
theorem dX2_tellWords_18 : decode cX2_tellWords 18 = .ok (.iadd, 1) := by decide +kernel
theorem dX2_tellWords_19 : decode cX2_tellWords 19 = .ok (.putfield 31, 3) := by decide +kernel
theorem dX2_tellWords_22 : decode cX2_tellWords 22 = .ok (.return_, 1) := by decide +kernel
set_option maxRecDepth 20000 in
theorem ggX2_seal_X2_tell : GoodIn wsX2_seal wsX2_tell := goodIn_r _ [9, 10, 11, 12, 13, 14, 15, 16, 17, 8, 18, 1, 2, 3, 19, 20, 21, 22, 23, 24, 25, 26, 27, 28, 29, 30, 31, 32, 33, 40, 41, 42, 43, 44, 45, 46, 47, 48, 49, 50, 51, 52, 53, 54, 55, 56] (by decide +kernel) (by decide +kernel)
set_option maxRecDepth 20000 in
theorem gX2_seal_X2_tell : GoodIn wsX2_seal (wsV RX2 56 RX2 yX2_tell wsX2_tell) := goodIn_app (goodIn_of _ (by decide +kernel)) ggX2_seal_X2_tell
set_option maxRecDepth 20000 in
theorem ggX2_seal_X0_endAfter : GoodIn wsX2_seal wsX0_endAfter := goodIn_r _ [37, 38, 39, 55, 56] (by decide +kernel) (by decide +kernel)
set_option maxRecDepth 20000 in
theorem gX2_seal_X0_endAfter : GoodIn wsX2_seal (wsV RX2 60 RX0 yX0_endAfter wsX0_endAfter) := goodIn_app (goodIn_of _ (by decide +kernel)) ggX2_seal_X0_endAfter
set_option maxRecDepth 20000 in
theorem ggX2_seal_X0_take : GoodIn wsX2_seal wsX0_take := goodIn_r _ [23, 24, 25, 26, 27, 28, 22, 29, 30, 31, 32, 33, 55, 56] (by decide +kernel) (by decide +kernel)
set_option maxRecDepth 20000 in
theorem gX2_seal_X0_take : GoodIn wsX2_seal (wsV RX2 52 RX0 yX0_take wsX0_take) := goodIn_app (goodIn_of _ (by decide +kernel)) ggX2_seal_X0_take
theorem dX2_seal_0 : decode cX2_seal 0 = .ok (.aload_n 0, 1) := by decide +kernel
theorem dX2_seal_1 : decode cX2_seal 1 = .ok (.aload_n 1, 1) := by decide +kernel
theorem dX2_seal_2 : decode cX2_seal 2 = .ok (.iconst 4, 1) := by decide +kernel
theorem dX2_seal_3 : decode cX2_seal 3 = .ok (.iconst 0, 1) := by decide +kernel
theorem dX2_seal_4 : decode cX2_seal 4 = .ok (.iconst 0, 1) := by decide +kernel
theorem dX2_seal_5 : decode cX2_seal 5 = .ok (.invokevirtual 56, 3) := by decide +kernel
theorem dX2_seal_8 : decode cX2_seal 8 = .ok (.aload_n 0, 1) := by decide +kernel
theorem dX2_seal_9 : decode cX2_seal 9 = .ok (.getfield 18, 3) := by decide +kernel
theorem dX2_seal_12 : decode cX2_seal 12 = .ok (.aload_n 1, 1) := by decide +kernel
theorem dX2_seal_13 : decode cX2_seal 13 = .ok (.getfield 35, 3) := by decide +kernel
theorem dX2_seal_16 : decode cX2_seal 16 = .ok (.aload_n 0, 1) := by decide +kernel
theorem dX2_seal_17 : decode cX2_seal 17 = .ok (.getfield 18, 3) := by decide +kernel
theorem dX2_seal_20 : decode cX2_seal 20 = .ok (.aload_n 1, 1) := by decide +kernel
theorem dX2_seal_21 : decode cX2_seal 21 = .ok (.getfield 31, 3) := by decide +kernel
theorem dX2_seal_24 : decode cX2_seal 24 = .ok (.invokevirtual 60, 3) := by decide +kernel
theorem dX2_seal_27 : decode cX2_seal 27 = .ok (.invokevirtual 52, 3) := by decide +kernel
theorem dX2_seal_30 : decode cX2_seal 30 = .ok (.aload_n 1, 1) := by decide +kernel
theorem dX2_seal_31 : decode cX2_seal 31 = .ok (.iconst 1, 1) := by decide +kernel
theorem dX2_seal_32 : decode cX2_seal 32 = .ok (.putfield 25, 3) := by decide +kernel
theorem dX2_seal_35 : decode cX2_seal 35 = .ok (.return_, 1) := by decide +kernel
set_option maxRecDepth 20000 in
theorem ggX2_writeVoucher_X0_begin : GoodIn wsX2_writeVoucher wsX0_begin := goodIn_r _ [12, 13, 14, 5, 6, 7] (by decide +kernel) (by decide +kernel)
set_option maxRecDepth 20000 in
theorem gX2_writeVoucher_X0_begin : GoodIn wsX2_writeVoucher (wsV RX2 38 RX0 yX0_begin wsX0_begin) := goodIn_app (goodIn_of _ (by decide +kernel)) ggX2_writeVoucher_X0_begin
set_option maxRecDepth 20000 in
theorem ggX2_writeVoucher_X0_take : GoodIn wsX2_writeVoucher wsX0_take := goodIn_r _ [18, 19, 20, 21, 22, 23, 11, 24, 14, 5, 6, 7, 38, 39] (by decide +kernel) (by decide +kernel)
set_option maxRecDepth 20000 in
theorem gX2_writeVoucher_X0_take : GoodIn wsX2_writeVoucher (wsV RX2 52 RX0 yX0_take wsX0_take) := goodIn_app (goodIn_of _ (by decide +kernel)) ggX2_writeVoucher_X0_take
set_option maxRecDepth 20000 in
theorem ggX2_writeVoucher_J7_fill_53178 : GoodIn wsX2_writeVoucher wsJ7_fill_53178 := goodIn_r _ [28] (by decide +kernel) (by decide +kernel)
set_option maxRecDepth 20000 in
theorem gX2_writeVoucher_J7_fill_53178 : GoodIn wsX2_writeVoucher (va_wsS RX2 42 yJ7_fill_53178 wsJ7_fill_53178) := goodIn_app (goodIn_of _ (by decide +kernel)) ggX2_writeVoucher_J7_fill_53178
set_option maxRecDepth 20000 in
theorem ggX2_writeVoucher_X0_endAfter : GoodIn wsX2_writeVoucher wsX0_endAfter := goodIn_r _ [32, 33, 34, 38, 39] (by decide +kernel) (by decide +kernel)
set_option maxRecDepth 20000 in
theorem gX2_writeVoucher_X0_endAfter : GoodIn wsX2_writeVoucher (wsV RX2 60 RX0 yX0_endAfter wsX0_endAfter) := goodIn_app (goodIn_of _ (by decide +kernel)) ggX2_writeVoucher_X0_endAfter
theorem dX2_writeVoucher_0 : decode cX2_writeVoucher 0 = .ok (.aload_n 0, 1) := by decide +kernel
theorem dX2_writeVoucher_1 : decode cX2_writeVoucher 1 = .ok (.getfield 18, 3) := by decide +kernel
theorem dX2_writeVoucher_4 : decode cX2_writeVoucher 4 = .ok (.aload_n 3, 1) := by decide +kernel
theorem dX2_writeVoucher_5 : decode cX2_writeVoucher 5 = .ok (.invokevirtual 38, 3) := by decide +kernel
theorem dX2_writeVoucher_8 : decode cX2_writeVoucher 8 = .ok (.aload_n 0, 1) := by decide +kernel
theorem dX2_writeVoucher_9 : decode cX2_writeVoucher 9 = .ok (.getfield 9, 3) := by decide +kernel
theorem dX2_writeVoucher_12 : decode cX2_writeVoucher 12 = .ok (.iconst 0, 1) := by decide +kernel
theorem dX2_writeVoucher_13 : decode cX2_writeVoucher 13 = .ok (.aload_n 0, 1) := by decide +kernel
theorem dX2_writeVoucher_14 : decode cX2_writeVoucher 14 = .ok (.getfield 22, 3) := by decide +kernel
theorem dX2_writeVoucher_17 : decode cX2_writeVoucher 17 = .ok (.iconst 0, 1) := by decide +kernel
theorem dX2_writeVoucher_18 : decode cX2_writeVoucher 18 = .ok (.bipush 8, 2) := by decide +kernel
theorem dX2_writeVoucher_20 : decode cX2_writeVoucher 20 = .ok (.invokestatic 64, 3) := by decide +kernel
theorem dX2_writeVoucher_23 : decode cX2_writeVoucher 23 = .ok (.aload_n 1, 1) := by decide +kernel
theorem dX2_writeVoucher_24 : decode cX2_writeVoucher 24 = .ok (.iconst 0, 1) := by decide +kernel
theorem dX2_writeVoucher_25 : decode cX2_writeVoucher 25 = .ok (.aload_n 0, 1) := by decide +kernel
theorem dX2_writeVoucher_26 : decode cX2_writeVoucher 26 = .ok (.getfield 22, 3) := by decide +kernel
theorem dX2_writeVoucher_29 : decode cX2_writeVoucher 29 = .ok (.bipush 8, 2) := by decide +kernel
theorem dX2_writeVoucher_31 : decode cX2_writeVoucher 31 = .ok (.bipush 8, 2) := by decide +kernel
theorem dX2_writeVoucher_33 : decode cX2_writeVoucher 33 = .ok (.invokestatic 64, 3) := by decide +kernel
theorem dX2_writeVoucher_36 : decode cX2_writeVoucher 36 = .ok (.aload_n 0, 1) := by decide +kernel
theorem dX2_writeVoucher_37 : decode cX2_writeVoucher 37 = .ok (.getfield 18, 3) := by decide +kernel
theorem dX2_writeVoucher_40 : decode cX2_writeVoucher 40 = .ok (.aload_n 3, 1) := by decide +kernel
theorem dX2_writeVoucher_41 : decode cX2_writeVoucher 41 = .ok (.aload_n 0, 1) := by decide +kernel
theorem dX2_writeVoucher_42 : decode cX2_writeVoucher 42 = .ok (.getfield 22, 3) := by decide +kernel
theorem dX2_writeVoucher_45 : decode cX2_writeVoucher 45 = .ok (.invokevirtual 52, 3) := by decide +kernel
theorem dX2_writeVoucher_48 : decode cX2_writeVoucher 48 = .ok (.aload_n 0, 1) := by decide +kernel
theorem dX2_writeVoucher_49 : decode cX2_writeVoucher 49 = .ok (.getfield 22, 3) := by decide +kernel
theorem dX2_writeVoucher_52 : decode cX2_writeVoucher 52 = .ok (.iconst 0, 1) := by decide +kernel
theorem dX2_writeVoucher_53 : decode cX2_writeVoucher 53 = .ok (.invokestatic 42, 3) := by decide +kernel
theorem dX2_writeVoucher_56 : decode cX2_writeVoucher 56 = .ok (.aload_n 2, 1) := by decide +kernel
theorem dX2_writeVoucher_57 : decode cX2_writeVoucher 57 = .ok (.iconst 0, 1) := by decide +kernel
theorem dX2_writeVoucher_58 : decode cX2_writeVoucher 58 = .ok (.aload_n 0, 1) := by decide +kernel
theorem dX2_writeVoucher_59 : decode cX2_writeVoucher 59 = .ok (.getfield 22, 3) := by decide +kernel
theorem dX2_writeVoucher_62 : decode cX2_writeVoucher 62 = .ok (.iconst 0, 1) := by decide +kernel
theorem dX2_writeVoucher_63 : decode cX2_writeVoucher 63 = .ok (.bipush 8, 2) := by decide +kernel
theorem dX2_writeVoucher_65 : decode cX2_writeVoucher 65 = .ok (.invokestatic 64, 3) := by decide +kernel
theorem dX2_writeVoucher_68 : decode cX2_writeVoucher 68 = .ok (.aload_n 0, 1) := by decide +kernel
theorem dX2_writeVoucher_69 : decode cX2_writeVoucher 69 = .ok (.getfield 18, 3) := by decide +kernel
theorem dX2_writeVoucher_72 : decode cX2_writeVoucher 72 = .ok (.aload_n 3, 1) := by decide +kernel
theorem dX2_writeVoucher_73 : decode cX2_writeVoucher 73 = .ok (.aload_n 0, 1) := by decide +kernel
theorem dX2_writeVoucher_74 : decode cX2_writeVoucher 74 = .ok (.getfield 22, 3) := by decide +kernel
theorem dX2_writeVoucher_77 : decode cX2_writeVoucher 77 = .ok (.invokevirtual 52, 3) := by decide +kernel
theorem dX2_writeVoucher_80 : decode cX2_writeVoucher 80 = .ok (.aload_n 0, 1) := by decide +kernel
theorem dX2_writeVoucher_81 : decode cX2_writeVoucher 81 = .ok (.getfield 18, 3) := by decide +kernel
theorem dX2_writeVoucher_84 : decode cX2_writeVoucher 84 = .ok (.aload_n 3, 1) := by decide +kernel
theorem dX2_writeVoucher_85 : decode cX2_writeVoucher 85 = .ok (.aload_n 0, 1) := by decide +kernel
theorem dX2_writeVoucher_86 : decode cX2_writeVoucher 86 = .ok (.getfield 18, 3) := by decide +kernel
theorem dX2_writeVoucher_89 : decode cX2_writeVoucher 89 = .ok (.iconst 2, 1) := by decide +kernel
theorem dX2_writeVoucher_90 : decode cX2_writeVoucher 90 = .ok (.invokevirtual 60, 3) := by decide +kernel
theorem dX2_writeVoucher_93 : decode cX2_writeVoucher 93 = .ok (.invokevirtual 52, 3) := by decide +kernel
theorem dX2_writeVoucher_96 : decode cX2_writeVoucher 96 = .ok (.return_, 1) := by decide +kernel
theorem dX3_init_0 : decode cX3_init 0 = .ok (.aload_n 0, 1) := by decide +kernel
theorem dX3_init_1 : decode cX3_init 1 = .ok (.invokespecial 3, 3) := by decide +kernel
theorem dX3_init_4 : decode cX3_init 4 = .ok (.aload_n 0, 1) := by decide +kernel
theorem dX3_init_5 : decode cX3_init 5 = .ok (.iconst 0, 1) := by decide +kernel
theorem dX3_init_6 : decode cX3_init 6 = .ok (.putfield 9, 3) := by decide +kernel
theorem dX3_init_9 : decode cX3_init 9 = .ok (.aload_n 0, 1) := by decide +kernel
theorem dX3_init_10 : decode cX3_init 10 = .ok (.iconst (-1), 1) := by decide +kernel
theorem dX3_init_11 : decode cX3_init 11 = .ok (.putfield 15, 3) := by decide +kernel
theorem dX3_init_14 : decode cX3_init 14 = .ok (.aload_n 0, 1) := by decide +kernel
theorem dX3_init_15 : decode cX3_init 15 = .ok (.iconst 0, 1) := by decide +kernel
theorem dX3_init_16 : decode cX3_init 16 = .ok (.putfield 18, 3) := by decide +kernel
theorem dX3_init_19 : decode cX3_init 19 = .ok (.aload_n 0, 1) := by decide +kernel
theorem dX3_init_20 : decode cX3_init 20 = .ok (.iconst 0, 1) := by decide +kernel
theorem dX3_init_21 : decode cX3_init 21 = .ok (.putfield 21, 3) := by decide +kernel
theorem dX3_init_24 : decode cX3_init 24 = .ok (.aload_n 0, 1) := by decide +kernel
theorem dX3_init_25 : decode cX3_init 25 = .ok (.iconst 0, 1) := by decide +kernel
theorem dX3_init_26 : decode cX3_init 26 = .ok (.putfield 25, 3) := by decide +kernel
theorem dX3_init_29 : decode cX3_init 29 = .ok (.aload_n 0, 1) := by decide +kernel
theorem dX3_init_30 : decode cX3_init 30 = .ok (.iconst 4, 1) := by decide +kernel
theorem dX3_init_31 : decode cX3_init 31 = .ok (.newarray .int, 2) := by decide +kernel
theorem dX3_init_33 : decode cX3_init 33 = .ok (.putfield 28, 3) := by decide +kernel
theorem dX3_init_36 : decode cX3_init 36 = .ok (.aload_n 0, 1) := by decide +kernel
theorem dX3_init_37 : decode cX3_init 37 = .ok (.bipush 8, 2) := by decide +kernel
theorem dX3_init_39 : decode cX3_init 39 = .ok (.newarray .int, 2) := by decide +kernel
theorem dX3_init_41 : decode cX3_init 41 = .ok (.putfield 32, 3) := by decide +kernel
theorem dX3_init_44 : decode cX3_init 44 = .ok (.aload_n 0, 1) := by decide +kernel
theorem dX3_init_45 : decode cX3_init 45 = .ok (.iconst 0, 1) := by decide +kernel
theorem dX3_init_46 : decode cX3_init 46 = .ok (.putfield 35, 3) := by decide +kernel
theorem dX3_init_49 : decode cX3_init 49 = .ok (.aload_n 0, 1) := by decide +kernel
theorem dX3_init_50 : decode cX3_init 50 = .ok (.iconst 0, 1) := by decide +kernel
theorem dX3_init_51 : decode cX3_init 51 = .ok (.putfield 38, 3) := by decide +kernel
theorem dX3_init_54 : decode cX3_init 54 = .ok (.aload_n 0, 1) := by decide +kernel
theorem dX3_init_55 : decode cX3_init 55 = .ok (.iconst 0, 1) := by decide +kernel
theorem dX3_init_56 : decode cX3_init 56 = .ok (.putfield 41, 3) := by decide +kernel
theorem dX3_init_59 : decode cX3_init 59 = .ok (.aload_n 0, 1) := by decide +kernel
theorem dX3_init_60 : decode cX3_init 60 = .ok (.iconst 4, 1) := by decide +kernel
theorem dX3_init_61 : decode cX3_init 61 = .ok (.newarray .int, 2) := by decide +kernel
theorem dX3_init_63 : decode cX3_init 63 = .ok (.putfield 44, 3) := by decide +kernel
theorem dX3_init_66 : decode cX3_init 66 = .ok (.aload_n 0, 1) := by decide +kernel
theorem dX3_init_67 : decode cX3_init 67 = .ok (.bipush 8, 2) := by decide +kernel
theorem dX3_init_69 : decode cX3_init 69 = .ok (.newarray .int, 2) := by decide +kernel
theorem dX3_init_71 : decode cX3_init 71 = .ok (.putfield 47, 3) := by decide +kernel
theorem dX3_init_74 : decode cX3_init 74 = .ok (.return_, 1) := by decide +kernel
set_option maxRecDepth 20000 in
theorem ggX4_init_X3_init : GoodIn wsX4_init wsX3_init := goodIn_r _ [12, 13, 2, 3, 14, 15, 16, 17, 18, 7, 19, 20, 21, 22, 23, 24, 25, 28, 29, 30, 31, 32, 33, 34, 35, 36, 37, 38, 39] (by decide +kernel) (by decide +kernel)
set_option maxRecDepth 20000 in
theorem gX4_init_X3_init_n22 : GoodIn wsX4_init (wsX3_init) := ggX4_init_X3_init
theorem dX4_init_0 : decode cX4_init 0 = .ok (.aload_n 0, 1) := by decide +kernel
theorem dX4_init_1 : decode cX4_init 1 = .ok (.invokespecial 3, 3) := by decide +kernel
theorem dX4_init_4 : decode cX4_init 4 = .ok (.aload_n 0, 1) := by decide +kernel
theorem dX4_init_5 : decode cX4_init 5 = .ok (.bipush 20, 2) := by decide +kernel
theorem dX4_init_7 : decode cX4_init 7 = .ok (.anewarray 9, 3) := by decide +kernel
theorem dX4_init_10 : decode cX4_init 10 = .ok (.putfield 11, 3) := by decide +kernel
theorem dX4_init_13 : decode cX4_init 13 = .ok (.aload_n 0, 1) := by decide +kernel
theorem dX4_init_14 : decode cX4_init 14 = .ok (.bipush 28, 2) := by decide +kernel
theorem dX4_init_16 : decode cX4_init 16 = .ok (.bipush 16, 2) := by decide +kernel
theorem dX4_init_18 : decode cX4_init 18 = .ok (.multianewarray 17 2, 4) := by decide +kernel
theorem dX4_init_22 : decode cX4_init 22 = .ok (.putfield 19, 3) := by decide +kernel
theorem dX4_init_25 : decode cX4_init 25 = .ok (.iconst 0, 1) := by decide +kernel
theorem dX4_init_26 : decode cX4_init 26 = .ok (.istore_n 1, 1) := by decide +kernel
theorem dX4_init_27 : decode cX4_init 27 = .ok (.iload_n 1, 1) := by decide +kernel
theorem dX4_init_28 : decode cX4_init 28 = .ok (.bipush 20, 2) := by decide +kernel
theorem dX4_init_30 : decode cX4_init 30 = .ok (.if_icmp .ge 22, 3) := by decide +kernel
theorem dX4_init_33 : decode cX4_init 33 = .ok (.aload_n 0, 1) := by decide +kernel
theorem dX4_init_34 : decode cX4_init 34 = .ok (.getfield 11, 3) := by decide +kernel
theorem dX4_init_37 : decode cX4_init 37 = .ok (.iload_n 1, 1) := by decide +kernel
theorem dX4_init_38 : decode cX4_init 38 = .ok (.new 9, 3) := by decide +kernel
theorem dX4_init_41 : decode cX4_init 41 = .ok (.dup, 1) := by decide +kernel
theorem dX4_init_42 : decode cX4_init 42 = .ok (.invokespecial 22, 3) := by decide +kernel
theorem dX4_init_45 : decode cX4_init 45 = .ok (.aastore, 1) := by decide +kernel
theorem dX4_init_46 : decode cX4_init 46 = .ok (.iinc 1 1, 3) := by decide +kernel
theorem dX4_init_49 : decode cX4_init 49 = .ok (.goto (-22), 3) := by decide +kernel
theorem dX4_init_52 : decode cX4_init 52 = .ok (.return_, 1) := by decide +kernel
theorem dX4_frameRow_0 : decode cX4_frameRow 0 = .ok (.aload_n 0, 1) := by decide +kernel
theorem dX4_frameRow_1 : decode cX4_frameRow 1 = .ok (.getfield 19, 3) := by decide +kernel
theorem dX4_frameRow_4 : decode cX4_frameRow 4 = .ok (.bipush 20, 2) := by decide +kernel
theorem dX4_frameRow_6 : decode cX4_frameRow 6 = .ok (.iload_n 1, 1) := by decide +kernel
theorem dX4_frameRow_7 : decode cX4_frameRow 7 = .ok (.iadd, 1) := by decide +kernel
theorem dX4_frameRow_8 : decode cX4_frameRow 8 = .ok (.aaload, 1) := by decide +kernel
theorem dX4_frameRow_9 : decode cX4_frameRow 9 = .ok (.areturn, 1) := by decide +kernel
theorem dX4_claim_0 : decode cX4_claim 0 = .ok (.aload_n 0, 1) := by decide +kernel
theorem dX4_claim_1 : decode cX4_claim 1 = .ok (.getfield 11, 3) := by decide +kernel
theorem dX4_claim_4 : decode cX4_claim 4 = .ok (.iload_n 1, 1) := by decide +kernel
theorem dX4_claim_5 : decode cX4_claim 5 = .ok (.aaload, 1) := by decide +kernel
theorem dX4_claim_6 : decode cX4_claim 6 = .ok (.astore 4, 2) := by decide +kernel
theorem dX4_claim_8 : decode cX4_claim 8 = .ok (.aload 4, 2) := by decide +kernel
theorem dX4_claim_10 : decode cX4_claim 10 = .ok (.iload_n 2, 1) := by decide +kernel
theorem dX4_claim_11 : decode cX4_claim 11 = .ok (.putfield 23, 3) := by decide +kernel
theorem dX4_claim_14 : decode cX4_claim 14 = .ok (.aload 4, 2) := by decide +kernel
theorem dX4_claim_16 : decode cX4_claim 16 = .ok (.iload_n 3, 1) := by decide +kernel
theorem dX4_claim_17 : decode cX4_claim 17 = .ok (.putfield 27, 3) := by decide +kernel
theorem dX4_claim_20 : decode cX4_claim 20 = .ok (.aload 4, 2) := by decide +kernel
theorem dX4_claim_22 : decode cX4_claim 22 = .ok (.areturn, 1) := by decide +kernel
theorem dX4_countOwnedBy_0 : decode cX4_countOwnedBy 0 = .ok (.iconst 0, 1) := by decide +kernel
theorem dX4_countOwnedBy_1 : decode cX4_countOwnedBy 1 = .ok (.istore_n 2, 1) := by decide +kernel
theorem dX4_countOwnedBy_2 : decode cX4_countOwnedBy 2 = .ok (.iconst 0, 1) := by decide +kernel
theorem dX4_countOwnedBy_3 : decode cX4_countOwnedBy 3 = .ok (.istore_n 3, 1) := by decide +kernel
theorem dX4_countOwnedBy_4 : decode cX4_countOwnedBy 4 = .ok (.iload_n 3, 1) := by decide +kernel
theorem dX4_countOwnedBy_5 : decode cX4_countOwnedBy 5 = .ok (.bipush 20, 2) := by decide +kernel
theorem dX4_countOwnedBy_7 : decode cX4_countOwnedBy 7 = .ok (.if_icmp .ge 25, 3) := by decide +kernel
theorem dX4_countOwnedBy_10 : decode cX4_countOwnedBy 10 = .ok (.aload_n 0, 1) := by decide +kernel
theorem dX4_countOwnedBy_11 : decode cX4_countOwnedBy 11 = .ok (.getfield 11, 3) := by decide +kernel
theorem dX4_countOwnedBy_14 : decode cX4_countOwnedBy 14 = .ok (.iload_n 3, 1) := by decide +kernel
theorem dX4_countOwnedBy_15 : decode cX4_countOwnedBy 15 = .ok (.aaload, 1) := by decide +kernel
theorem dX4_countOwnedBy_16 : decode cX4_countOwnedBy 16 = .ok (.getfield 27, 3) := by decide +kernel
theorem dX4_countOwnedBy_19 : decode cX4_countOwnedBy 19 = .ok (.iload_n 1, 1) := by decide +kernel
theorem dX4_countOwnedBy_20 : decode cX4_countOwnedBy 20 = .ok (.if_icmp .ne 6, 3) := by decide +kernel
theorem dX4_countOwnedBy_23 : decode cX4_countOwnedBy 23 = .ok (.iinc 2 1, 3) := by decide +kernel
theorem dX4_countOwnedBy_26 : decode cX4_countOwnedBy 26 = .ok (.iinc 3 1, 3) := by decide +kernel
theorem dX4_countOwnedBy_29 : decode cX4_countOwnedBy 29 = .ok (.goto (-25), 3) := by decide +kernel
theorem dX4_countOwnedBy_32 : decode cX4_countOwnedBy 32 = .ok (.iload_n 2, 1) := by decide +kernel
theorem dX4_countOwnedBy_33 : decode cX4_countOwnedBy 33 = .ok (.ireturn, 1) := by decide +kernel
set_option maxRecDepth 20000 in
theorem ggX4_entriesFor_X5_isBlock : GoodIn wsX4_entriesFor wsX5_isBlock := goodIn_r _ [6] (by decide +kernel) (by decide +kernel)
set_option maxRecDepth 20000 in
theorem gX4_entriesFor_X5_isBlock_n30 : GoodIn wsX4_entriesFor (wsX5_isBlock) := ggX4_entriesFor_X5_isBlock
theorem dX4_entriesFor_0 : decode cX4_entriesFor 0 = .ok (.iload_n 2, 1) := by decide +kernel
theorem dX4_entriesFor_1 : decode cX4_entriesFor 1 = .ok (.invokestatic 30, 3) := by decide +kernel
theorem dX4_entriesFor_4 : decode cX4_entriesFor 4 = .ok (.ifCond .ne 5, 3) := by decide +kernel
theorem dX4_entriesFor_7 : decode cX4_entriesFor 7 = .ok (.aconst_null, 1) := by decide +kernel
theorem dX4_entriesFor_8 : decode cX4_entriesFor 8 = .ok (.areturn, 1) := by decide +kernel
theorem dX4_entriesFor_9 : decode cX4_entriesFor 9 = .ok (.aload_n 1, 1) := by decide +kernel
theorem dX4_entriesFor_10 : decode cX4_entriesFor 10 = .ok (.getfield 34, 3) := by decide +kernel
theorem dX4_entriesFor_13 : decode cX4_entriesFor 13 = .ok (.iload_n 2, 1) := by decide +kernel
theorem dX4_entriesFor_14 : decode cX4_entriesFor 14 = .ok (.bipush 8, 2) := by decide +kernel
theorem dX4_entriesFor_16 : decode cX4_entriesFor 16 = .ok (.idiv, 1) := by decide +kernel
theorem dX4_entriesFor_17 : decode cX4_entriesFor 17 = .ok (.iaload, 1) := by decide +kernel
theorem dX4_entriesFor_18 : decode cX4_entriesFor 18 = .ok (.istore_n 3, 1) := by decide +kernel
theorem dX4_entriesFor_19 : decode cX4_entriesFor 19 = .ok (.iload_n 3, 1) := by decide +kernel
theorem dX4_entriesFor_20 : decode cX4_entriesFor 20 = .ok (.iconst (-1), 1) := by decide +kernel
theorem dX4_entriesFor_21 : decode cX4_entriesFor 21 = .ok (.if_icmp .ne 7, 3) := by decide +kernel
theorem dX4_entriesFor_24 : decode cX4_entriesFor 24 = .ok (.aconst_null, 1) := by decide +kernel
theorem dX4_entriesFor_25 : decode cX4_entriesFor 25 = .ok (.goto 12, 3) := by decide +kernel
theorem dX4_entriesFor_28 : decode cX4_entriesFor 28 = .ok (.aload_n 0, 1) := by decide +kernel
theorem dX4_entriesFor_29 : decode cX4_entriesFor 29 = .ok (.getfield 11, 3) := by decide +kernel
theorem dX4_entriesFor_32 : decode cX4_entriesFor 32 = .ok (.iload_n 3, 1) := by decide +kernel
theorem dX4_entriesFor_33 : decode cX4_entriesFor 33 = .ok (.aaload, 1) := by decide +kernel
theorem dX4_entriesFor_34 : decode cX4_entriesFor 34 = .ok (.getfield 38, 3) := by decide +kernel
theorem dX4_entriesFor_37 : decode cX4_entriesFor 37 = .ok (.areturn, 1) := by decide +kernel
set_option maxRecDepth 20000 in
theorem ggX4_hasRoom_X4_entriesFor : GoodIn wsX4_hasRoom wsX4_entriesFor := goodIn_r _ [5, 6, 7, 8, 9, 10, 11, 12, 13, 14, 15, 16, 17, 18, 19, 20, 21, 22, 23, 24, 25] (by decide +kernel) (by decide +kernel)
set_option maxRecDepth 20000 in
theorem gX4_hasRoom_X4_entriesFor : GoodIn wsX4_hasRoom (wsV RX4 41 RX4 yX4_entriesFor wsX4_entriesFor) := goodIn_app (goodIn_of _ (by decide +kernel)) ggX4_hasRoom_X4_entriesFor
theorem dX4_hasRoom_0 : decode cX4_hasRoom 0 = .ok (.aload_n 0, 1) := by decide +kernel
theorem dX4_hasRoom_1 : decode cX4_hasRoom 1 = .ok (.aload_n 1, 1) := by decide +kernel
theorem dX4_hasRoom_2 : decode cX4_hasRoom 2 = .ok (.iload_n 2, 1) := by decide +kernel
theorem dX4_hasRoom_3 : decode cX4_hasRoom 3 = .ok (.invokevirtual 41, 3) := by decide +kernel
theorem dX4_hasRoom_6 : decode cX4_hasRoom 6 = .ok (.astore_n 3, 1) := by decide +kernel
theorem dX4_hasRoom_7 : decode cX4_hasRoom 7 = .ok (.aload_n 3, 1) := by decide +kernel
theorem dX4_hasRoom_8 : decode cX4_hasRoom 8 = .ok (.ifnull 16, 3) := by decide +kernel
theorem dX4_hasRoom_11 : decode cX4_hasRoom 11 = .ok (.aload_n 3, 1) := by decide +kernel
theorem dX4_hasRoom_12 : decode cX4_hasRoom 12 = .ok (.iload_n 2, 1) := by decide +kernel
theorem dX4_hasRoom_13 : decode cX4_hasRoom 13 = .ok (.bipush 8, 2) := by decide +kernel
theorem dX4_hasRoom_15 : decode cX4_hasRoom 15 = .ok (.irem, 1) := by decide +kernel
theorem dX4_hasRoom_16 : decode cX4_hasRoom 16 = .ok (.iaload, 1) := by decide +kernel
theorem dX4_hasRoom_17 : decode cX4_hasRoom 17 = .ok (.ifCond .ne 7, 3) := by decide +kernel
theorem dX4_hasRoom_20 : decode cX4_hasRoom 20 = .ok (.iconst 1, 1) := by decide +kernel
theorem dX4_hasRoom_21 : decode cX4_hasRoom 21 = .ok (.goto 4, 3) := by decide +kernel
theorem dX4_hasRoom_24 : decode cX4_hasRoom 24 = .ok (.iconst 0, 1) := by decide +kernel
theorem dX4_hasRoom_25 : decode cX4_hasRoom 25 = .ok (.ireturn, 1) := by decide +kernel
set_option maxRecDepth 20000 in
theorem ggX4_map_X4_entriesFor : GoodIn wsX4_map wsX4_entriesFor := goodIn_r _ [5, 6, 7, 8, 9, 10, 11, 12, 13, 14, 15, 16, 17, 18, 19, 20, 21, 22, 23, 24, 25] (by decide +kernel) (by decide +kernel)
set_option maxRecDepth 20000 in
theorem gX4_map_X4_entriesFor : GoodIn wsX4_map (wsV RX4 41 RX4 yX4_entriesFor wsX4_entriesFor) := goodIn_app (goodIn_of _ (by decide +kernel)) ggX4_map_X4_entriesFor
theorem dX4_map_0 : decode cX4_map 0 = .ok (.aload_n 0, 1) := by decide +kernel
theorem dX4_map_1 : decode cX4_map 1 = .ok (.aload_n 1, 1) := by decide +kernel
theorem dX4_map_2 : decode cX4_map 2 = .ok (.iload_n 2, 1) := by decide +kernel
theorem dX4_map_3 : decode cX4_map 3 = .ok (.invokevirtual 41, 3) := by decide +kernel
theorem dX4_map_6 : decode cX4_map 6 = .ok (.astore 5, 2) := by decide +kernel
theorem dX4_map_8 : decode cX4_map 8 = .ok (.aload 5, 2) := by decide +kernel
theorem dX4_map_10 : decode cX4_map 10 = .ok (.ifnull 16, 3) := by decide +kernel
theorem dX4_map_13 : decode cX4_map 13 = .ok (.aload 5, 2) := by decide +kernel
theorem dX4_map_15 : decode cX4_map 15 = .ok (.iload_n 2, 1) := by decide +kernel
theorem dX4_map_16 : decode cX4_map 16 = .ok (.bipush 8, 2) := by decide +kernel
theorem dX4_map_18 : decode cX4_map 18 = .ok (.irem, 1) := by decide +kernel
theorem dX4_map_19 : decode cX4_map 19 = .ok (.iload_n 3, 1) := by decide +kernel
theorem dX4_map_20 : decode cX4_map 20 = .ok (.iconst 3, 1) := by decide +kernel
theorem dX4_map_21 : decode cX4_map 21 = .ok (.ishl, 1) := by decide +kernel
theorem dX4_map_22 : decode cX4_map 22 = .ok (.iload 4, 2) := by decide +kernel
theorem dX4_map_24 : decode cX4_map 24 = .ok (.ior, 1) := by decide +kernel
theorem dX4_map_25 : decode cX4_map 25 = .ok (.iastore, 1) := by decide +kernel
theorem dX4_map_26 : decode cX4_map 26 = .ok (.return_, 1) := by decide +kernel
set_option maxRecDepth 20000 in
theorem ggX4_rowAt_X4_entriesFor : GoodIn wsX4_rowAt wsX4_entriesFor := goodIn_r _ [6, 7, 8, 9, 10, 11, 12, 15, 16, 17, 18, 19, 20, 21, 22, 23, 24, 25, 26, 13, 14] (by decide +kernel) (by decide +kernel)
set_option maxRecDepth 20000 in
theorem gX4_rowAt_X4_entriesFor : GoodIn wsX4_rowAt (wsV RX4 41 RX4 yX4_entriesFor wsX4_entriesFor) := goodIn_app (goodIn_of _ (by decide +kernel)) ggX4_rowAt_X4_entriesFor
theorem dX4_rowAt_0 : decode cX4_rowAt 0 = .ok (.iload_n 2, 1) := by decide +kernel
theorem dX4_rowAt_1 : decode cX4_rowAt 1 = .ok (.ifCond .lt 10, 3) := by decide +kernel
theorem dX4_rowAt_4 : decode cX4_rowAt 4 = .ok (.iload_n 2, 1) := by decide +kernel
theorem dX4_rowAt_5 : decode cX4_rowAt 5 = .ok (.sipush 512, 3) := by decide +kernel
theorem dX4_rowAt_8 : decode cX4_rowAt 8 = .ok (.if_icmp .lt 5, 3) := by decide +kernel
theorem dX4_rowAt_11 : decode cX4_rowAt 11 = .ok (.aconst_null, 1) := by decide +kernel
theorem dX4_rowAt_12 : decode cX4_rowAt 12 = .ok (.areturn, 1) := by decide +kernel
theorem dX4_rowAt_13 : decode cX4_rowAt 13 = .ok (.iload_n 2, 1) := by decide +kernel
theorem dX4_rowAt_14 : decode cX4_rowAt 14 = .ok (.bipush 16, 2) := by decide +kernel
theorem dX4_rowAt_16 : decode cX4_rowAt 16 = .ok (.idiv, 1) := by decide +kernel
theorem dX4_rowAt_17 : decode cX4_rowAt 17 = .ok (.istore 4, 2) := by decide +kernel
theorem dX4_rowAt_19 : decode cX4_rowAt 19 = .ok (.aload_n 0, 1) := by decide +kernel
theorem dX4_rowAt_20 : decode cX4_rowAt 20 = .ok (.aload_n 1, 1) := by decide +kernel
theorem dX4_rowAt_21 : decode cX4_rowAt 21 = .ok (.iload 4, 2) := by decide +kernel
theorem dX4_rowAt_23 : decode cX4_rowAt 23 = .ok (.invokevirtual 41, 3) := by decide +kernel
theorem dX4_rowAt_26 : decode cX4_rowAt 26 = .ok (.astore 5, 2) := by decide +kernel
theorem dX4_rowAt_28 : decode cX4_rowAt 28 = .ok (.aload 5, 2) := by decide +kernel
theorem dX4_rowAt_30 : decode cX4_rowAt 30 = .ok (.ifnonnull 5, 3) := by decide +kernel
theorem dX4_rowAt_33 : decode cX4_rowAt 33 = .ok (.aconst_null, 1) := by decide +kernel
theorem dX4_rowAt_34 : decode cX4_rowAt 34 = .ok (.areturn, 1) := by decide +kernel
theorem dX4_rowAt_35 : decode cX4_rowAt 35 = .ok (.aload 5, 2) := by decide +kernel
theorem dX4_rowAt_37 : decode cX4_rowAt 37 = .ok (.iload 4, 2) := by decide +kernel
theorem dX4_rowAt_39 : decode cX4_rowAt 39 = .ok (.bipush 8, 2) := by decide +kernel
theorem dX4_rowAt_41 : decode cX4_rowAt 41 = .ok (.irem, 1) := by decide +kernel
theorem dX4_rowAt_42 : decode cX4_rowAt 42 = .ok (.iaload, 1) := by decide +kernel
theorem dX4_rowAt_43 : decode cX4_rowAt 43 = .ok (.istore 6, 2) := by decide +kernel
theorem dX4_rowAt_45 : decode cX4_rowAt 45 = .ok (.iload 6, 2) := by decide +kernel
theorem dX4_rowAt_47 : decode cX4_rowAt 47 = .ok (.iload_n 3, 1) := by decide +kernel
theorem dX4_rowAt_48 : decode cX4_rowAt 48 = .ok (.iand, 1) := by decide +kernel
theorem dX4_rowAt_49 : decode cX4_rowAt 49 = .ok (.ifCond .ne 7, 3) := by decide +kernel
theorem dX4_rowAt_52 : decode cX4_rowAt 52 = .ok (.aconst_null, 1) := by decide +kernel
theorem dX4_rowAt_53 : decode cX4_rowAt 53 = .ok (.goto 12, 3) := by decide +kernel
theorem dX4_rowAt_56 : decode cX4_rowAt 56 = .ok (.aload_n 0, 1) := by decide +kernel
theorem dX4_rowAt_57 : decode cX4_rowAt 57 = .ok (.getfield 19, 3) := by decide +kernel
theorem dX4_rowAt_60 : decode cX4_rowAt 60 = .ok (.iload 6, 2) := by decide +kernel
theorem dX4_rowAt_62 : decode cX4_rowAt 62 = .ok (.iconst 3, 1) := by decide +kernel
theorem dX4_rowAt_63 : decode cX4_rowAt 63 = .ok (.ishr, 1) := by decide +kernel
theorem dX4_rowAt_64 : decode cX4_rowAt 64 = .ok (.aaload, 1) := by decide +kernel
theorem dX4_rowAt_65 : decode cX4_rowAt 65 = .ok (.areturn, 1) := by decide +kernel
set_option maxRecDepth 20000 in
theorem ggX4_useSpare_X5_isPage : GoodIn wsX4_useSpare wsX5_isPage := goodIn_r _ [7] (by decide +kernel) (by decide +kernel)
set_option maxRecDepth 20000 in
theorem gX4_useSpare_X5_isPage_n45 : GoodIn wsX4_useSpare (wsX5_isPage) := ggX4_useSpare_X5_isPage
set_option maxRecDepth 20000 in
theorem ggX4_useSpare_X5_areDataRights : GoodIn wsX4_useSpare wsX5_areDataRights := goodIn_r _ [9] (by decide +kernel) (by decide +kernel)
set_option maxRecDepth 20000 in
theorem gX4_useSpare_X5_areDataRights_n48 : GoodIn wsX4_useSpare (wsX5_areDataRights) := ggX4_useSpare_X5_areDataRights
set_option maxRecDepth 20000 in
theorem ggX4_useSpare_X4_hasRoom : GoodIn wsX4_useSpare wsX4_hasRoom := goodIn_r _ [14, 15, 16, 17, 13, 18, 19, 1, 20, 21, 6, 22, 33, 34, 35, 36, 37, 38, 39, 40, 41, 42, 43, 44, 31, 32] (by decide +kernel) (by decide +kernel)
set_option maxRecDepth 20000 in
theorem gX4_useSpare_X4_hasRoom : GoodIn wsX4_useSpare (wsV RX4 51 RX4 yX4_hasRoom wsX4_hasRoom) := goodIn_app (goodIn_of _ (by decide +kernel)) ggX4_useSpare_X4_hasRoom
set_option maxRecDepth 20000 in
theorem ggX4_useSpare_J7_fill_53178 : GoodIn wsX4_useSpare wsJ7_fill_53178 := goodIn_r _ [26] (by decide +kernel) (by decide +kernel)
set_option maxRecDepth 20000 in
theorem gX4_useSpare_J7_fill_53178 : GoodIn wsX4_useSpare (va_wsS RX4 55 yJ7_fill_53178 wsJ7_fill_53178) := goodIn_app (goodIn_of _ (by decide +kernel)) ggX4_useSpare_J7_fill_53178
set_option maxRecDepth 20000 in
theorem ggX4_useSpare_X4_map : GoodIn wsX4_useSpare wsX4_map := goodIn_r _ [30, 15, 16, 17, 13, 18, 19, 1, 20, 21, 6, 22, 33, 34, 35, 36, 37, 38, 39, 40, 41, 42, 43, 44, 31, 32] (by decide +kernel) (by decide +kernel)
set_option maxRecDepth 20000 in
theorem gX4_useSpare_X4_map : GoodIn wsX4_useSpare (wsV RX4 61 RX4 yX4_map wsX4_map) := goodIn_app (goodIn_of _ (by decide +kernel)) ggX4_useSpare_X4_map
theorem dX4_useSpare_0 : decode cX4_useSpare 0 = .ok (.iload_n 2, 1) := by decide +kernel
theorem dX4_useSpare_1 : decode cX4_useSpare 1 = .ok (.invokestatic 45, 3) := by decide +kernel
theorem dX4_useSpare_4 : decode cX4_useSpare 4 = .ok (.ifCond .eq 29, 3) := by decide +kernel
theorem dX4_useSpare_7 : decode cX4_useSpare 7 = .ok (.aload_n 0, 1) := by decide +kernel
theorem dX4_useSpare_8 : decode cX4_useSpare 8 = .ok (.getfield 11, 3) := by decide +kernel
theorem dX4_useSpare_11 : decode cX4_useSpare 11 = .ok (.iload_n 2, 1) := by decide +kernel
theorem dX4_useSpare_12 : decode cX4_useSpare 12 = .ok (.aaload, 1) := by decide +kernel
theorem dX4_useSpare_13 : decode cX4_useSpare 13 = .ok (.getfield 23, 3) := by decide +kernel
theorem dX4_useSpare_16 : decode cX4_useSpare 16 = .ok (.iconst 5, 1) := by decide +kernel
theorem dX4_useSpare_17 : decode cX4_useSpare 17 = .ok (.if_icmp .ne 16, 3) := by decide +kernel
theorem dX4_useSpare_20 : decode cX4_useSpare 20 = .ok (.aload_n 0, 1) := by decide +kernel
theorem dX4_useSpare_21 : decode cX4_useSpare 21 = .ok (.getfield 11, 3) := by decide +kernel
theorem dX4_useSpare_24 : decode cX4_useSpare 24 = .ok (.iload_n 2, 1) := by decide +kernel
theorem dX4_useSpare_25 : decode cX4_useSpare 25 = .ok (.aaload, 1) := by decide +kernel
theorem dX4_useSpare_26 : decode cX4_useSpare 26 = .ok (.getfield 27, 3) := by decide +kernel
theorem dX4_useSpare_29 : decode cX4_useSpare 29 = .ok (.iload_n 1, 1) := by decide +kernel
theorem dX4_useSpare_30 : decode cX4_useSpare 30 = .ok (.if_icmp .eq 5, 3) := by decide +kernel
theorem dX4_useSpare_33 : decode cX4_useSpare 33 = .ok (.iconst 0, 1) := by decide +kernel
theorem dX4_useSpare_34 : decode cX4_useSpare 34 = .ok (.ireturn, 1) := by decide +kernel
theorem dX4_useSpare_35 : decode cX4_useSpare 35 = .ok (.iload 4, 2) := by decide +kernel
theorem dX4_useSpare_37 : decode cX4_useSpare 37 = .ok (.invokestatic 48, 3) := by decide +kernel
theorem dX4_useSpare_40 : decode cX4_useSpare 40 = .ok (.ifCond .eq 17, 3) := by decide +kernel
theorem dX4_useSpare_43 : decode cX4_useSpare 43 = .ok (.aload_n 0, 1) := by decide +kernel
theorem dX4_useSpare_44 : decode cX4_useSpare 44 = .ok (.aload_n 0, 1) := by decide +kernel
theorem dX4_useSpare_45 : decode cX4_useSpare 45 = .ok (.getfield 11, 3) := by decide +kernel
theorem dX4_useSpare_48 : decode cX4_useSpare 48 = .ok (.iload_n 1, 1) := by decide +kernel
theorem dX4_useSpare_49 : decode cX4_useSpare 49 = .ok (.aaload, 1) := by decide +kernel
theorem dX4_useSpare_50 : decode cX4_useSpare 50 = .ok (.iload_n 3, 1) := by decide +kernel
theorem dX4_useSpare_51 : decode cX4_useSpare 51 = .ok (.invokevirtual 51, 3) := by decide +kernel
theorem dX4_useSpare_54 : decode cX4_useSpare 54 = .ok (.ifCond .ne 5, 3) := by decide +kernel
theorem dX4_useSpare_57 : decode cX4_useSpare 57 = .ok (.iconst 0, 1) := by decide +kernel
theorem dX4_useSpare_58 : decode cX4_useSpare 58 = .ok (.ireturn, 1) := by decide +kernel
theorem dX4_useSpare_59 : decode cX4_useSpare 59 = .ok (.aload_n 0, 1) := by decide +kernel
theorem dX4_useSpare_60 : decode cX4_useSpare 60 = .ok (.getfield 11, 3) := by decide +kernel
theorem dX4_useSpare_63 : decode cX4_useSpare 63 = .ok (.iload_n 2, 1) := by decide +kernel
theorem dX4_useSpare_64 : decode cX4_useSpare 64 = .ok (.aaload, 1) := by decide +kernel
theorem dX4_useSpare_65 : decode cX4_useSpare 65 = .ok (.iconst 4, 1) := by decide +kernel
theorem dX4_useSpare_66 : decode cX4_useSpare 66 = .ok (.putfield 23, 3) := by decide +kernel
theorem dX4_useSpare_69 : decode cX4_useSpare 69 = .ok (.aload_n 0, 1) := by decide +kernel
theorem dX4_useSpare_70 : decode cX4_useSpare 70 = .ok (.getfield 19, 3) := by decide +kernel
theorem dX4_useSpare_73 : decode cX4_useSpare 73 = .ok (.iload_n 2, 1) := by decide +kernel
theorem dX4_useSpare_74 : decode cX4_useSpare 74 = .ok (.aaload, 1) := by decide +kernel
theorem dX4_useSpare_75 : decode cX4_useSpare 75 = .ok (.iconst 0, 1) := by decide +kernel
theorem dX4_useSpare_76 : decode cX4_useSpare 76 = .ok (.invokestatic 55, 3) := by decide +kernel
theorem dX4_useSpare_79 : decode cX4_useSpare 79 = .ok (.aload_n 0, 1) := by decide +kernel
theorem dX4_useSpare_80 : decode cX4_useSpare 80 = .ok (.aload_n 0, 1) := by decide +kernel
theorem dX4_useSpare_81 : decode cX4_useSpare 81 = .ok (.getfield 11, 3) := by decide +kernel
theorem dX4_useSpare_84 : decode cX4_useSpare 84 = .ok (.iload_n 1, 1) := by decide +kernel
theorem dX4_useSpare_85 : decode cX4_useSpare 85 = .ok (.aaload, 1) := by decide +kernel
theorem dX4_useSpare_86 : decode cX4_useSpare 86 = .ok (.iload_n 3, 1) := by decide +kernel
theorem dX4_useSpare_87 : decode cX4_useSpare 87 = .ok (.iload_n 2, 1) := by decide +kernel
theorem dX4_useSpare_88 : decode cX4_useSpare 88 = .ok (.iload 4, 2) := by decide +kernel
theorem dX4_useSpare_90 : decode cX4_useSpare 90 = .ok (.invokevirtual 61, 3) := by decide +kernel
theorem dX4_useSpare_93 : decode cX4_useSpare 93 = .ok (.iconst 1, 1) := by decide +kernel
theorem dX4_useSpare_94 : decode cX4_useSpare 94 = .ok (.ireturn, 1) := by decide +kernel
set_option maxRecDepth 20000 in
theorem ggX4_giveBack_X4_entriesFor : GoodIn wsX4_giveBack wsX4_entriesFor := goodIn_r _ [7, 8, 1, 9, 10, 11, 12, 15, 16, 17, 18, 19, 20, 21, 22, 23, 24, 25, 26, 13, 14] (by decide +kernel) (by decide +kernel)
set_option maxRecDepth 20000 in
theorem gX4_giveBack_X4_entriesFor : GoodIn wsX4_giveBack (wsV RX4 41 RX4 yX4_entriesFor wsX4_entriesFor) := goodIn_app (goodIn_of _ (by decide +kernel)) ggX4_giveBack_X4_entriesFor
theorem dX4_giveBack_0 : decode cX4_giveBack 0 = .ok (.aload_n 0, 1) := by decide +kernel
theorem dX4_giveBack_1 : decode cX4_giveBack 1 = .ok (.aload_n 0, 1) := by decide +kernel
theorem dX4_giveBack_2 : decode cX4_giveBack 2 = .ok (.getfield 11, 3) := by decide +kernel
theorem dX4_giveBack_5 : decode cX4_giveBack 5 = .ok (.iload_n 1, 1) := by decide +kernel
theorem dX4_giveBack_6 : decode cX4_giveBack 6 = .ok (.aaload, 1) := by decide +kernel
theorem dX4_giveBack_7 : decode cX4_giveBack 7 = .ok (.iload_n 2, 1) := by decide +kernel
theorem dX4_giveBack_8 : decode cX4_giveBack 8 = .ok (.invokevirtual 41, 3) := by decide +kernel
theorem dX4_giveBack_11 : decode cX4_giveBack 11 = .ok (.astore_n 3, 1) := by decide +kernel
theorem dX4_giveBack_12 : decode cX4_giveBack 12 = .ok (.aload_n 3, 1) := by decide +kernel
theorem dX4_giveBack_13 : decode cX4_giveBack 13 = .ok (.ifnull 12, 3) := by decide +kernel
theorem dX4_giveBack_16 : decode cX4_giveBack 16 = .ok (.aload_n 3, 1) := by decide +kernel
theorem dX4_giveBack_17 : decode cX4_giveBack 17 = .ok (.iload_n 2, 1) := by decide +kernel
theorem dX4_giveBack_18 : decode cX4_giveBack 18 = .ok (.bipush 8, 2) := by decide +kernel
theorem dX4_giveBack_20 : decode cX4_giveBack 20 = .ok (.irem, 1) := by decide +kernel
theorem dX4_giveBack_21 : decode cX4_giveBack 21 = .ok (.iaload, 1) := by decide +kernel
theorem dX4_giveBack_22 : decode cX4_giveBack 22 = .ok (.ifCond .ne 5, 3) := by decide +kernel
theorem dX4_giveBack_25 : decode cX4_giveBack 25 = .ok (.iconst (-1), 1) := by decide +kernel
theorem dX4_giveBack_26 : decode cX4_giveBack 26 = .ok (.ireturn, 1) := by decide +kernel
theorem dX4_giveBack_27 : decode cX4_giveBack 27 = .ok (.aload_n 3, 1) := by decide +kernel
theorem dX4_giveBack_28 : decode cX4_giveBack 28 = .ok (.iload_n 2, 1) := by decide +kernel
theorem dX4_giveBack_29 : decode cX4_giveBack 29 = .ok (.bipush 8, 2) := by decide +kernel
theorem dX4_giveBack_31 : decode cX4_giveBack 31 = .ok (.irem, 1) := by decide +kernel
theorem dX4_giveBack_32 : decode cX4_giveBack 32 = .ok (.iaload, 1) := by decide +kernel
theorem dX4_giveBack_33 : decode cX4_giveBack 33 = .ok (.iconst 3, 1) := by decide +kernel
theorem dX4_giveBack_34 : decode cX4_giveBack 34 = .ok (.ishr, 1) := by decide +kernel
theorem dX4_giveBack_35 : decode cX4_giveBack 35 = .ok (.istore 4, 2) := by decide +kernel
theorem dX4_giveBack_37 : decode cX4_giveBack 37 = .ok (.iload 4, 2) := by decide +kernel
theorem dX4_giveBack_39 : decode cX4_giveBack 39 = .ok (.bipush 20, 2) := by decide +kernel
theorem dX4_giveBack_41 : decode cX4_giveBack 41 = .ok (.if_icmp .lt 5, 3) := by decide +kernel
theorem dX4_giveBack_44 : decode cX4_giveBack 44 = .ok (.iconst (-1), 1) := by decide +kernel
theorem dX4_giveBack_45 : decode cX4_giveBack 45 = .ok (.ireturn, 1) := by decide +kernel
theorem dX4_giveBack_46 : decode cX4_giveBack 46 = .ok (.aload_n 0, 1) := by decide +kernel
theorem dX4_giveBack_47 : decode cX4_giveBack 47 = .ok (.getfield 11, 3) := by decide +kernel
theorem dX4_giveBack_50 : decode cX4_giveBack 50 = .ok (.iload 4, 2) := by decide +kernel
theorem dX4_giveBack_52 : decode cX4_giveBack 52 = .ok (.aaload, 1) := by decide +kernel
theorem dX4_giveBack_53 : decode cX4_giveBack 53 = .ok (.iconst 5, 1) := by decide +kernel
theorem dX4_giveBack_54 : decode cX4_giveBack 54 = .ok (.putfield 23, 3) := by decide +kernel
theorem dX4_giveBack_57 : decode cX4_giveBack 57 = .ok (.aload_n 3, 1) := by decide +kernel
theorem dX4_giveBack_58 : decode cX4_giveBack 58 = .ok (.iload_n 2, 1) := by decide +kernel
theorem dX4_giveBack_59 : decode cX4_giveBack 59 = .ok (.bipush 8, 2) := by decide +kernel
theorem dX4_giveBack_61 : decode cX4_giveBack 61 = .ok (.irem, 1) := by decide +kernel
theorem dX4_giveBack_62 : decode cX4_giveBack 62 = .ok (.iconst 0, 1) := by decide +kernel
theorem dX4_giveBack_63 : decode cX4_giveBack 63 = .ok (.iastore, 1) := by decide +kernel
theorem dX4_giveBack_64 : decode cX4_giveBack 64 = .ok (.iload 4, 2) := by decide +kernel
theorem dX4_giveBack_66 : decode cX4_giveBack 66 = .ok (.ireturn, 1) := by decide +kernel
set_option maxRecDepth 20000 in
theorem ggX5_init_X1_init : GoodIn wsX5_init wsX1_init := goodIn_r _ [13, 14, 2, 3, 15, 16, 17, 18, 19, 20, 21, 22, 23, 24, 25, 26, 27, 28, 29, 30, 31, 32, 33, 34, 35, 36, 37, 38, 39, 40, 41, 42, 43, 44, 45, 46, 47, 48, 49, 50, 51, 52, 53, 54, 55, 56, 57, 58, 59, 60, 61, 62, 63, 64, 65, 66, 67, 68, 80, 81, 69, 70, 71, 72, 73, 74, 75, 76, 82, 83, 84, 85, 86, 87, 88, 89, 90, 91, 92, 93, 94, 95, 96, 97, 98] (by decide +kernel) (by decide +kernel)
set_option maxRecDepth 20000 in
theorem gX5_init_X1_init_n9 : GoodIn wsX5_init (wsX1_init) := ggX5_init_X1_init
theorem dX5_init_0 : decode cX5_init 0 = .ok (.aload_n 0, 1) := by decide +kernel
theorem dX5_init_1 : decode cX5_init 1 = .ok (.invokespecial 1, 3) := by decide +kernel
theorem dX5_init_4 : decode cX5_init 4 = .ok (.aload_n 0, 1) := by decide +kernel
theorem dX5_init_5 : decode cX5_init 5 = .ok (.new 7, 3) := by decide +kernel
theorem dX5_init_8 : decode cX5_init 8 = .ok (.dup, 1) := by decide +kernel
theorem dX5_init_9 : decode cX5_init 9 = .ok (.invokespecial 9, 3) := by decide +kernel
theorem dX5_init_12 : decode cX5_init 12 = .ok (.putfield 10, 3) := by decide +kernel
theorem dX5_init_15 : decode cX5_init 15 = .ok (.aload_n 0, 1) := by decide +kernel
theorem dX5_init_16 : decode cX5_init 16 = .ok (.aload_n 0, 1) := by decide +kernel
theorem dX5_init_17 : decode cX5_init 17 = .ok (.getfield 10, 3) := by decide +kernel
theorem dX5_init_20 : decode cX5_init 20 = .ok (.getfield 16, 3) := by decide +kernel
theorem dX5_init_23 : decode cX5_init 23 = .ok (.putfield 20, 3) := by decide +kernel
theorem dX5_init_26 : decode cX5_init 26 = .ok (.aload_n 0, 1) := by decide +kernel
theorem dX5_init_27 : decode cX5_init 27 = .ok (.aload_n 0, 1) := by decide +kernel
theorem dX5_init_28 : decode cX5_init 28 = .ok (.getfield 10, 3) := by decide +kernel
theorem dX5_init_31 : decode cX5_init 31 = .ok (.getfield 21, 3) := by decide +kernel
theorem dX5_init_34 : decode cX5_init 34 = .ok (.putfield 25, 3) := by decide +kernel
theorem dX5_init_37 : decode cX5_init 37 = .ok (.return_, 1) := by decide +kernel
set_option maxRecDepth 20000 in
theorem ggX5_key_X4_claim : GoodIn wsX5_key wsX4_claim := goodIn_r _ [12, 13, 14, 15, 30, 31, 32, 33, 34, 35, 36, 37, 38, 39, 40, 41, 42, 43] (by decide +kernel) (by decide +kernel)
set_option maxRecDepth 20000 in
theorem gX5_key_X4_claim : GoodIn wsX5_key (wsV RX5 35 RX4 yX4_claim wsX4_claim) := goodIn_app (goodIn_of _ (by decide +kernel)) ggX5_key_X4_claim
theorem dX5_key_0 : decode cX5_key 0 = .ok (.iload_n 1, 1) := by decide +kernel
theorem dX5_key_1 : decode cX5_key 1 = .ok (.ifCond .lt 9, 3) := by decide +kernel
theorem dX5_key_4 : decode cX5_key 4 = .ok (.iload_n 1, 1) := by decide +kernel
theorem dX5_key_5 : decode cX5_key 5 = .ok (.bipush 8, 2) := by decide +kernel
theorem dX5_key_7 : decode cX5_key 7 = .ok (.if_icmp .lt 11, 3) := by decide +kernel
theorem dX5_key_10 : decode cX5_key 10 = .ok (.new 26, 3) := by decide +kernel
theorem dX5_key_13 : decode cX5_key 13 = .ok (.dup, 1) := by decide +kernel
theorem dX5_key_14 : decode cX5_key 14 = .ok (.invokespecial 28, 3) := by decide +kernel
theorem dX5_key_17 : decode cX5_key 17 = .ok (.athrow, 1) := by decide +kernel
theorem dX5_key_18 : decode cX5_key 18 = .ok (.aload_n 0, 1) := by decide +kernel
theorem dX5_key_19 : decode cX5_key 19 = .ok (.getfield 25, 3) := by decide +kernel
theorem dX5_key_22 : decode cX5_key 22 = .ok (.getfield 29, 3) := by decide +kernel
theorem dX5_key_25 : decode cX5_key 25 = .ok (.iload_n 1, 1) := by decide +kernel
theorem dX5_key_26 : decode cX5_key 26 = .ok (.iload_n 2, 1) := by decide +kernel
theorem dX5_key_27 : decode cX5_key 27 = .ok (.iastore, 1) := by decide +kernel
theorem dX5_key_28 : decode cX5_key 28 = .ok (.iconst 0, 1) := by decide +kernel
theorem dX5_key_29 : decode cX5_key 29 = .ok (.istore_n 3, 1) := by decide +kernel
theorem dX5_key_30 : decode cX5_key 30 = .ok (.iload_n 3, 1) := by decide +kernel
theorem dX5_key_31 : decode cX5_key 31 = .ok (.bipush 20, 2) := by decide +kernel
theorem dX5_key_33 : decode cX5_key 33 = .ok (.if_icmp .ge 20, 3) := by decide +kernel
theorem dX5_key_36 : decode cX5_key 36 = .ok (.aload_n 0, 1) := by decide +kernel
theorem dX5_key_37 : decode cX5_key 37 = .ok (.getfield 20, 3) := by decide +kernel
theorem dX5_key_40 : decode cX5_key 40 = .ok (.iload_n 3, 1) := by decide +kernel
theorem dX5_key_41 : decode cX5_key 41 = .ok (.iconst 0, 1) := by decide +kernel
theorem dX5_key_42 : decode cX5_key 42 = .ok (.iconst (-1), 1) := by decide +kernel
theorem dX5_key_43 : decode cX5_key 43 = .ok (.invokevirtual 35, 3) := by decide +kernel
theorem dX5_key_46 : decode cX5_key 46 = .ok (.pop, 1) := by decide +kernel
theorem dX5_key_47 : decode cX5_key 47 = .ok (.iinc 3 1, 3) := by decide +kernel
theorem dX5_key_50 : decode cX5_key 50 = .ok (.goto (-20), 3) := by decide +kernel
theorem dX5_key_53 : decode cX5_key 53 = .ok (.aload_n 0, 1) := by decide +kernel
theorem dX5_key_54 : decode cX5_key 54 = .ok (.getfield 10, 3) := by decide +kernel
theorem dX5_key_57 : decode cX5_key 57 = .ok (.iconst 0, 1) := by decide +kernel
theorem dX5_key_58 : decode cX5_key 58 = .ok (.putfield 41, 3) := by decide +kernel
theorem dX5_key_61 : decode cX5_key 61 = .ok (.return_, 1) := by decide +kernel
set_option maxRecDepth 20000 in
theorem ggX5_poke_X5_isFrame : GoodIn wsX5_poke wsX5_isFrame := goodIn_r _ [7] (by decide +kernel) (by decide +kernel)
set_option maxRecDepth 20000 in
theorem gX5_poke_X5_isFrame : GoodIn wsX5_poke (va_wsS RX5 45 yX5_isFrame wsX5_isFrame) := goodIn_app (goodIn_of _ (by decide +kernel)) ggX5_poke_X5_isFrame
set_option maxRecDepth 20000 in
theorem ggX5_poke_X5_isWord : GoodIn wsX5_poke wsX5_isWord := goodIn_r _ [10] (by decide +kernel) (by decide +kernel)
set_option maxRecDepth 20000 in
theorem gX5_poke_X5_isWord : GoodIn wsX5_poke (va_wsS RX5 49 yX5_isWord wsX5_isWord) := goodIn_app (goodIn_of _ (by decide +kernel)) ggX5_poke_X5_isWord
set_option maxRecDepth 20000 in
theorem ggX5_poke_X4_frameRow : GoodIn wsX5_poke wsX4_frameRow := goodIn_r _ [15, 16, 20, 21] (by decide +kernel) (by decide +kernel)
set_option maxRecDepth 20000 in
theorem gX5_poke_X4_frameRow : GoodIn wsX5_poke (wsV RX5 52 RX4 yX4_frameRow wsX4_frameRow) := goodIn_app (goodIn_of _ (by decide +kernel)) ggX5_poke_X4_frameRow
theorem dX5_poke_0 : decode cX5_poke 0 = .ok (.iload_n 1, 1) := by decide +kernel
theorem dX5_poke_1 : decode cX5_poke 1 = .ok (.invokestatic 45, 3) := by decide +kernel
theorem dX5_poke_4 : decode cX5_poke 4 = .ok (.ifCond .eq 10, 3) := by decide +kernel
theorem dX5_poke_7 : decode cX5_poke 7 = .ok (.iload_n 2, 1) := by decide +kernel
theorem dX5_poke_8 : decode cX5_poke 8 = .ok (.invokestatic 49, 3) := by decide +kernel
theorem dX5_poke_11 : decode cX5_poke 11 = .ok (.ifCond .ne 11, 3) := by decide +kernel
theorem dX5_poke_14 : decode cX5_poke 14 = .ok (.new 26, 3) := by decide +kernel
theorem dX5_poke_17 : decode cX5_poke 17 = .ok (.dup, 1) := by decide +kernel
theorem dX5_poke_18 : decode cX5_poke 18 = .ok (.invokespecial 28, 3) := by decide +kernel
theorem dX5_poke_21 : decode cX5_poke 21 = .ok (.athrow, 1) := by decide +kernel
theorem dX5_poke_22 : decode cX5_poke 22 = .ok (.aload_n 0, 1) := by decide +kernel
theorem dX5_poke_23 : decode cX5_poke 23 = .ok (.getfield 20, 3) := by decide +kernel
theorem dX5_poke_26 : decode cX5_poke 26 = .ok (.iload_n 1, 1) := by decide +kernel
theorem dX5_poke_27 : decode cX5_poke 27 = .ok (.invokevirtual 52, 3) := by decide +kernel
theorem dX5_poke_30 : decode cX5_poke 30 = .ok (.astore 4, 2) := by decide +kernel
theorem dX5_poke_32 : decode cX5_poke 32 = .ok (.aload 4, 2) := by decide +kernel
theorem dX5_poke_34 : decode cX5_poke 34 = .ok (.iload_n 2, 1) := by decide +kernel
theorem dX5_poke_35 : decode cX5_poke 35 = .ok (.iaload, 1) := by decide +kernel
theorem dX5_poke_36 : decode cX5_poke 36 = .ok (.istore 5, 2) := by decide +kernel
theorem dX5_poke_38 : decode cX5_poke 38 = .ok (.aload 4, 2) := by decide +kernel
theorem dX5_poke_40 : decode cX5_poke 40 = .ok (.iload_n 2, 1) := by decide +kernel
theorem dX5_poke_41 : decode cX5_poke 41 = .ok (.iload_n 3, 1) := by decide +kernel
theorem dX5_poke_42 : decode cX5_poke 42 = .ok (.iastore, 1) := by decide +kernel
theorem dX5_poke_43 : decode cX5_poke 43 = .ok (.iload 5, 2) := by decide +kernel
theorem dX5_poke_45 : decode cX5_poke 45 = .ok (.ireturn, 1) := by decide +kernel
set_option maxRecDepth 20000 in
theorem ggX5_peek_X5_isFrame : GoodIn wsX5_peek wsX5_isFrame := goodIn_r _ [7] (by decide +kernel) (by decide +kernel)
set_option maxRecDepth 20000 in
theorem gX5_peek_X5_isFrame : GoodIn wsX5_peek (va_wsS RX5 45 yX5_isFrame wsX5_isFrame) := goodIn_app (goodIn_of _ (by decide +kernel)) ggX5_peek_X5_isFrame
set_option maxRecDepth 20000 in
theorem ggX5_peek_X5_isWord : GoodIn wsX5_peek wsX5_isWord := goodIn_r _ [10] (by decide +kernel) (by decide +kernel)
set_option maxRecDepth 20000 in
theorem gX5_peek_X5_isWord : GoodIn wsX5_peek (va_wsS RX5 49 yX5_isWord wsX5_isWord) := goodIn_app (goodIn_of _ (by decide +kernel)) ggX5_peek_X5_isWord
set_option maxRecDepth 20000 in
theorem ggX5_peek_X4_frameRow : GoodIn wsX5_peek wsX4_frameRow := goodIn_r _ [15, 16, 20, 21] (by decide +kernel) (by decide +kernel)
set_option maxRecDepth 20000 in
theorem gX5_peek_X4_frameRow : GoodIn wsX5_peek (wsV RX5 52 RX4 yX4_frameRow wsX4_frameRow) := goodIn_app (goodIn_of _ (by decide +kernel)) ggX5_peek_X4_frameRow
theorem dX5_peek_0 : decode cX5_peek 0 = .ok (.iload_n 1, 1) := by decide +kernel
theorem dX5_peek_1 : decode cX5_peek 1 = .ok (.invokestatic 45, 3) := by decide +kernel
theorem dX5_peek_4 : decode cX5_peek 4 = .ok (.ifCond .eq 10, 3) := by decide +kernel
theorem dX5_peek_7 : decode cX5_peek 7 = .ok (.iload_n 2, 1) := by decide +kernel
theorem dX5_peek_8 : decode cX5_peek 8 = .ok (.invokestatic 49, 3) := by decide +kernel
theorem dX5_peek_11 : decode cX5_peek 11 = .ok (.ifCond .ne 11, 3) := by decide +kernel
theorem dX5_peek_14 : decode cX5_peek 14 = .ok (.new 26, 3) := by decide +kernel
theorem dX5_peek_17 : decode cX5_peek 17 = .ok (.dup, 1) := by decide +kernel
theorem dX5_peek_18 : decode cX5_peek 18 = .ok (.invokespecial 28, 3) := by decide +kernel
theorem dX5_peek_21 : decode cX5_peek 21 = .ok (.athrow, 1) := by decide +kernel
theorem dX5_peek_22 : decode cX5_peek 22 = .ok (.aload_n 0, 1) := by decide +kernel
theorem dX5_peek_23 : decode cX5_peek 23 = .ok (.getfield 20, 3) := by decide +kernel
theorem dX5_peek_26 : decode cX5_peek 26 = .ok (.iload_n 1, 1) := by decide +kernel
theorem dX5_peek_27 : decode cX5_peek 27 = .ok (.invokevirtual 52, 3) := by decide +kernel
theorem dX5_peek_30 : decode cX5_peek 30 = .ok (.iload_n 2, 1) := by decide +kernel
theorem dX5_peek_31 : decode cX5_peek 31 = .ok (.iaload, 1) := by decide +kernel
theorem dX5_peek_32 : decode cX5_peek 32 = .ok (.ireturn, 1) := by decide +kernel
set_option maxRecDepth 20000 in
theorem ggX5_space_X5_isPage : GoodIn wsX5_space wsX5_isPage := goodIn_r _ [10] (by decide +kernel) (by decide +kernel)
set_option maxRecDepth 20000 in
theorem gX5_space_X5_isPage : GoodIn wsX5_space (va_wsS RX5 56 yX5_isPage wsX5_isPage) := goodIn_app (goodIn_of _ (by decide +kernel)) ggX5_space_X5_isPage
set_option maxRecDepth 20000 in
theorem ggX5_space_X4_claim : GoodIn wsX5_space wsX4_claim := goodIn_r _ [15, 16, 17, 18, 45, 46, 47, 48, 49, 50, 51, 52, 53, 54, 55, 56, 57, 58] (by decide +kernel) (by decide +kernel)
set_option maxRecDepth 20000 in
theorem gX5_space_X4_claim : GoodIn wsX5_space (wsV RX5 35 RX4 yX4_claim wsX4_claim) := goodIn_app (goodIn_of _ (by decide +kernel)) ggX5_space_X4_claim
set_option maxRecDepth 20000 in
theorem ggX5_space_J7_fill_53178 : GoodIn wsX5_space wsJ7_fill_53178 := goodIn_r _ [22] (by decide +kernel) (by decide +kernel)
set_option maxRecDepth 20000 in
theorem gX5_space_J7_fill_53178 : GoodIn wsX5_space (va_wsS RX5 74 yJ7_fill_53178 wsJ7_fill_53178) := goodIn_app (goodIn_of _ (by decide +kernel)) ggX5_space_J7_fill_53178
set_option maxRecDepth 20000 in
theorem ggX5_space_X2_open : GoodIn wsX5_space wsX2_open := goodIn_r _ [27, 28, 29, 30, 31, 32, 33, 34, 35, 36, 37, 38, 39, 40, 41, 47, 48, 49, 50, 51, 52, 53, 54, 55, 56, 57, 58, 59, 60, 61] (by decide +kernel) (by decide +kernel)
set_option maxRecDepth 20000 in
theorem gX5_space_X2_open : GoodIn wsX5_space (wsV RX5 80 RX2 yX2_open wsX2_open) := goodIn_app (goodIn_of _ (by decide +kernel)) ggX5_space_X2_open
theorem dX5_space_0 : decode cX5_space 0 = .ok (.iload_n 1, 1) := by decide +kernel
theorem dX5_space_1 : decode cX5_space 1 = .ok (.invokestatic 56, 3) := by decide +kernel
theorem dX5_space_4 : decode cX5_space 4 = .ok (.ifCond .ne 5, 3) := by decide +kernel
theorem dX5_space_7 : decode cX5_space 7 = .ok (.iconst 1, 1) := by decide +kernel
theorem dX5_space_8 : decode cX5_space 8 = .ok (.ireturn, 1) := by decide +kernel
theorem dX5_space_9 : decode cX5_space 9 = .ok (.aload_n 0, 1) := by decide +kernel
theorem dX5_space_10 : decode cX5_space 10 = .ok (.getfield 20, 3) := by decide +kernel
theorem dX5_space_13 : decode cX5_space 13 = .ok (.getfield 59, 3) := by decide +kernel
theorem dX5_space_16 : decode cX5_space 16 = .ok (.iload_n 1, 1) := by decide +kernel
theorem dX5_space_17 : decode cX5_space 17 = .ok (.aaload, 1) := by decide +kernel
theorem dX5_space_18 : decode cX5_space 18 = .ok (.getfield 63, 3) := by decide +kernel
theorem dX5_space_21 : decode cX5_space 21 = .ok (.ifCond .eq 5, 3) := by decide +kernel
theorem dX5_space_24 : decode cX5_space 24 = .ok (.iconst 2, 1) := by decide +kernel
theorem dX5_space_25 : decode cX5_space 25 = .ok (.ireturn, 1) := by decide +kernel
theorem dX5_space_26 : decode cX5_space 26 = .ok (.aload_n 0, 1) := by decide +kernel
theorem dX5_space_27 : decode cX5_space 27 = .ok (.getfield 20, 3) := by decide +kernel
theorem dX5_space_30 : decode cX5_space 30 = .ok (.iload_n 1, 1) := by decide +kernel
theorem dX5_space_31 : decode cX5_space 31 = .ok (.iconst 1, 1) := by decide +kernel
theorem dX5_space_32 : decode cX5_space 32 = .ok (.iconst (-1), 1) := by decide +kernel
theorem dX5_space_33 : decode cX5_space 33 = .ok (.invokevirtual 35, 3) := by decide +kernel
theorem dX5_space_36 : decode cX5_space 36 = .ok (.astore_n 2, 1) := by decide +kernel
theorem dX5_space_37 : decode cX5_space 37 = .ok (.aload_n 2, 1) := by decide +kernel
theorem dX5_space_38 : decode cX5_space 38 = .ok (.iconst 0, 1) := by decide +kernel
theorem dX5_space_39 : decode cX5_space 39 = .ok (.putfield 68, 3) := by decide +kernel
theorem dX5_space_42 : decode cX5_space 42 = .ok (.aload_n 2, 1) := by decide +kernel
theorem dX5_space_43 : decode cX5_space 43 = .ok (.getfield 71, 3) := by decide +kernel
theorem dX5_space_46 : decode cX5_space 46 = .ok (.iconst (-1), 1) := by decide +kernel
theorem dX5_space_47 : decode cX5_space 47 = .ok (.invokestatic 74, 3) := by decide +kernel
theorem dX5_space_50 : decode cX5_space 50 = .ok (.aload_n 0, 1) := by decide +kernel
theorem dX5_space_51 : decode cX5_space 51 = .ok (.getfield 25, 3) := by decide +kernel
theorem dX5_space_54 : decode cX5_space 54 = .ok (.aload_n 2, 1) := by decide +kernel
theorem dX5_space_55 : decode cX5_space 55 = .ok (.invokevirtual 80, 3) := by decide +kernel
theorem dX5_space_58 : decode cX5_space 58 = .ok (.iconst 0, 1) := by decide +kernel
theorem dX5_space_59 : decode cX5_space 59 = .ok (.ireturn, 1) := by decide +kernel
set_option maxRecDepth 20000 in
theorem ggX5_thread_X5_isPage : GoodIn wsX5_thread wsX5_isPage := goodIn_r _ [9] (by decide +kernel) (by decide +kernel)
set_option maxRecDepth 20000 in
theorem gX5_thread_X5_isPage : GoodIn wsX5_thread (va_wsS RX5 56 yX5_isPage wsX5_isPage) := goodIn_app (goodIn_of _ (by decide +kernel)) ggX5_thread_X5_isPage
set_option maxRecDepth 20000 in
theorem ggX5_thread_X5_refusalOfNew : GoodIn wsX5_thread wsX5_refusalOfNew := goodIn_r _ [13, 1, 5, 14, 15, 16, 17, 8, 18, 19, 60, 61, 62, 75, 76, 63, 64, 65, 66, 67, 68, 69, 70, 71, 72, 73, 74] (by decide +kernel) (by decide +kernel)
set_option maxRecDepth 20000 in
theorem gX5_thread_X5_refusalOfNew : GoodIn wsX5_thread (wsV RX5 84 RX5 yX5_refusalOfNew wsX5_refusalOfNew) := goodIn_app (goodIn_of _ (by decide +kernel)) ggX5_thread_X5_refusalOfNew
set_option maxRecDepth 20000 in
theorem ggX5_thread_X4_claim : GoodIn wsX5_thread wsX4_claim := goodIn_r _ [24, 25, 26, 27, 75, 76, 63, 64, 65, 66, 67, 68, 69, 70, 71, 72, 73, 74] (by decide +kernel) (by decide +kernel)
set_option maxRecDepth 20000 in
theorem gX5_thread_X4_claim : GoodIn wsX5_thread (wsV RX5 35 RX4 yX4_claim wsX4_claim) := goodIn_app (goodIn_of _ (by decide +kernel)) ggX5_thread_X4_claim
set_option maxRecDepth 20000 in
theorem ggX5_thread_X2_tell : GoodIn wsX5_thread wsX2_tell := goodIn_r _ [32, 33, 34, 35, 36, 37, 38, 39, 40, 31, 41, 42, 43, 44, 45, 46, 47, 48, 49, 50, 51, 52, 53, 54, 55, 56, 57, 58, 59, 77, 78, 79, 63, 64, 65, 66, 67, 68, 69, 70, 71, 72, 73, 74, 80, 81] (by decide +kernel) (by decide +kernel)
set_option maxRecDepth 20000 in
theorem gX5_thread_X2_tell : GoodIn wsX5_thread (wsV RX5 95 RX2 yX2_tell wsX2_tell) := goodIn_app (goodIn_of _ (by decide +kernel)) ggX5_thread_X2_tell
theorem dX5_thread_0 : decode cX5_thread 0 = .ok (.iload_n 1, 1) := by decide +kernel
theorem dX5_thread_1 : decode cX5_thread 1 = .ok (.invokestatic 56, 3) := by decide +kernel
theorem dX5_thread_4 : decode cX5_thread 4 = .ok (.ifCond .eq 21, 3) := by decide +kernel
theorem dX5_thread_7 : decode cX5_thread 7 = .ok (.iload_n 2, 1) := by decide +kernel
theorem dX5_thread_8 : decode cX5_thread 8 = .ok (.invokestatic 56, 3) := by decide +kernel
theorem dX5_thread_11 : decode cX5_thread 11 = .ok (.ifCond .eq 14, 3) := by decide +kernel
theorem dX5_thread_14 : decode cX5_thread 14 = .ok (.iload_n 3, 1) := by decide +kernel
theorem dX5_thread_15 : decode cX5_thread 15 = .ok (.ifCond .lt 10, 3) := by decide +kernel
theorem dX5_thread_18 : decode cX5_thread 18 = .ok (.iload_n 3, 1) := by decide +kernel
theorem dX5_thread_19 : decode cX5_thread 19 = .ok (.sipush 512, 3) := by decide +kernel
theorem dX5_thread_22 : decode cX5_thread 22 = .ok (.if_icmp .lt 5, 3) := by decide +kernel
theorem dX5_thread_25 : decode cX5_thread 25 = .ok (.iconst 1, 1) := by decide +kernel
theorem dX5_thread_26 : decode cX5_thread 26 = .ok (.ireturn, 1) := by decide +kernel
theorem dX5_thread_27 : decode cX5_thread 27 = .ok (.aload_n 0, 1) := by decide +kernel
theorem dX5_thread_28 : decode cX5_thread 28 = .ok (.iload_n 1, 1) := by decide +kernel
theorem dX5_thread_29 : decode cX5_thread 29 = .ok (.iload_n 2, 1) := by decide +kernel
theorem dX5_thread_30 : decode cX5_thread 30 = .ok (.iconst 0, 1) := by decide +kernel
theorem dX5_thread_31 : decode cX5_thread 31 = .ok (.invokevirtual 84, 3) := by decide +kernel
theorem dX5_thread_34 : decode cX5_thread 34 = .ok (.istore 4, 2) := by decide +kernel
theorem dX5_thread_36 : decode cX5_thread 36 = .ok (.iload 4, 2) := by decide +kernel
theorem dX5_thread_38 : decode cX5_thread 38 = .ok (.ifCond .eq 6, 3) := by decide +kernel
theorem dX5_thread_41 : decode cX5_thread 41 = .ok (.iload 4, 2) := by decide +kernel
theorem dX5_thread_43 : decode cX5_thread 43 = .ok (.ireturn, 1) := by decide +kernel
theorem dX5_thread_44 : decode cX5_thread 44 = .ok (.aload_n 0, 1) := by decide +kernel
theorem dX5_thread_45 : decode cX5_thread 45 = .ok (.getfield 20, 3) := by decide +kernel
theorem dX5_thread_48 : decode cX5_thread 48 = .ok (.iload_n 1, 1) := by decide +kernel
theorem dX5_thread_49 : decode cX5_thread 49 = .ok (.iconst 2, 1) := by decide +kernel
theorem dX5_thread_50 : decode cX5_thread 50 = .ok (.iload_n 2, 1) := by decide +kernel
theorem dX5_thread_51 : decode cX5_thread 51 = .ok (.invokevirtual 35, 3) := by decide +kernel
theorem dX5_thread_54 : decode cX5_thread 54 = .ok (.astore 5, 2) := by decide +kernel
theorem dX5_thread_56 : decode cX5_thread 56 = .ok (.aload 5, 2) := by decide +kernel
theorem dX5_thread_58 : decode cX5_thread 58 = .ok (.iload_n 3, 1) := by decide +kernel
theorem dX5_thread_59 : decode cX5_thread 59 = .ok (.putfield 88, 3) := by decide +kernel
theorem dX5_thread_62 : decode cX5_thread 62 = .ok (.aload 5, 2) := by decide +kernel
theorem dX5_thread_64 : decode cX5_thread 64 = .ok (.iconst 0, 1) := by decide +kernel
theorem dX5_thread_65 : decode cX5_thread 65 = .ok (.putfield 91, 3) := by decide +kernel
theorem dX5_thread_68 : decode cX5_thread 68 = .ok (.aload_n 0, 1) := by decide +kernel
theorem dX5_thread_69 : decode cX5_thread 69 = .ok (.getfield 25, 3) := by decide +kernel
theorem dX5_thread_72 : decode cX5_thread 72 = .ok (.aload_n 0, 1) := by decide +kernel
theorem dX5_thread_73 : decode cX5_thread 73 = .ok (.getfield 20, 3) := by decide +kernel
theorem dX5_thread_76 : decode cX5_thread 76 = .ok (.getfield 59, 3) := by decide +kernel
theorem dX5_thread_79 : decode cX5_thread 79 = .ok (.iload_n 2, 1) := by decide +kernel
theorem dX5_thread_80 : decode cX5_thread 80 = .ok (.aaload, 1) := by decide +kernel
theorem dX5_thread_81 : decode cX5_thread 81 = .ok (.iconst 1, 1) := by decide +kernel
theorem dX5_thread_82 : decode cX5_thread 82 = .ok (.iload_n 3, 1) := by decide +kernel
theorem dX5_thread_83 : decode cX5_thread 83 = .ok (.iconst 0, 1) := by decide +kernel
theorem dX5_thread_84 : decode cX5_thread 84 = .ok (.invokevirtual 95, 3) := by decide +kernel
theorem dX5_thread_87 : decode cX5_thread 87 = .ok (.iconst 0, 1) := by decide +kernel
theorem dX5_thread_88 : decode cX5_thread 88 = .ok (.ireturn, 1) := by decide +kernel
set_option maxRecDepth 20000 in
theorem ggX5_table_X5_isPage : GoodIn wsX5_table wsX5_isPage := goodIn_r _ [8] (by decide +kernel) (by decide +kernel)
set_option maxRecDepth 20000 in
theorem gX5_table_X5_isPage : GoodIn wsX5_table (va_wsS RX5 56 yX5_isPage wsX5_isPage) := goodIn_app (goodIn_of _ (by decide +kernel)) ggX5_table_X5_isPage
set_option maxRecDepth 20000 in
theorem ggX5_table_X5_refusalOfNew : GoodIn wsX5_table wsX5_refusalOfNew := goodIn_r _ [12, 1, 2, 13, 14, 15, 16, 7, 17, 18, 31, 32, 33, 34, 35, 36, 37, 38, 39, 40, 41, 42, 43, 44, 45, 46, 47] (by decide +kernel) (by decide +kernel)
set_option maxRecDepth 20000 in
theorem gX5_table_X5_refusalOfNew : GoodIn wsX5_table (wsV RX5 84 RX5 yX5_refusalOfNew wsX5_refusalOfNew) := goodIn_app (goodIn_of _ (by decide +kernel)) ggX5_table_X5_refusalOfNew
set_option maxRecDepth 20000 in
theorem ggX5_table_X4_claim : GoodIn wsX5_table wsX4_claim := goodIn_r _ [23, 24, 25, 26, 34, 35, 36, 37, 38, 39, 40, 41, 42, 43, 44, 45, 46, 47] (by decide +kernel) (by decide +kernel)
set_option maxRecDepth 20000 in
theorem gX5_table_X4_claim : GoodIn wsX5_table (wsV RX5 35 RX4 yX4_claim wsX4_claim) := goodIn_app (goodIn_of _ (by decide +kernel)) ggX5_table_X4_claim
set_option maxRecDepth 20000 in
theorem ggX5_table_J7_fill_53178 : GoodIn wsX5_table wsJ7_fill_53178 := goodIn_r _ [30] (by decide +kernel) (by decide +kernel)
set_option maxRecDepth 20000 in
theorem gX5_table_J7_fill_53178 : GoodIn wsX5_table (va_wsS RX5 74 yJ7_fill_53178 wsJ7_fill_53178) := goodIn_app (goodIn_of _ (by decide +kernel)) ggX5_table_J7_fill_53178
theorem dX5_table_0 : decode cX5_table 0 = .ok (.iload_n 1, 1) := by decide +kernel
theorem dX5_table_1 : decode cX5_table 1 = .ok (.invokestatic 56, 3) := by decide +kernel
theorem dX5_table_4 : decode cX5_table 4 = .ok (.ifCond .eq 19, 3) := by decide +kernel
theorem dX5_table_7 : decode cX5_table 7 = .ok (.iload_n 2, 1) := by decide +kernel
theorem dX5_table_8 : decode cX5_table 8 = .ok (.invokestatic 56, 3) := by decide +kernel
theorem dX5_table_11 : decode cX5_table 11 = .ok (.ifCond .eq 12, 3) := by decide +kernel
theorem dX5_table_14 : decode cX5_table 14 = .ok (.iload_n 3, 1) := by decide +kernel
theorem dX5_table_15 : decode cX5_table 15 = .ok (.ifCond .lt 8, 3) := by decide +kernel
theorem dX5_table_18 : decode cX5_table 18 = .ok (.iload_n 3, 1) := by decide +kernel
theorem dX5_table_19 : decode cX5_table 19 = .ok (.iconst 4, 1) := by decide +kernel
theorem dX5_table_20 : decode cX5_table 20 = .ok (.if_icmp .lt 5, 3) := by decide +kernel
theorem dX5_table_23 : decode cX5_table 23 = .ok (.iconst 1, 1) := by decide +kernel
theorem dX5_table_24 : decode cX5_table 24 = .ok (.ireturn, 1) := by decide +kernel
theorem dX5_table_25 : decode cX5_table 25 = .ok (.aload_n 0, 1) := by decide +kernel
theorem dX5_table_26 : decode cX5_table 26 = .ok (.iload_n 1, 1) := by decide +kernel
theorem dX5_table_27 : decode cX5_table 27 = .ok (.iload_n 2, 1) := by decide +kernel
theorem dX5_table_28 : decode cX5_table 28 = .ok (.iconst 0, 1) := by decide +kernel
theorem dX5_table_29 : decode cX5_table 29 = .ok (.invokevirtual 84, 3) := by decide +kernel
theorem dX5_table_32 : decode cX5_table 32 = .ok (.istore 4, 2) := by decide +kernel
theorem dX5_table_34 : decode cX5_table 34 = .ok (.iload 4, 2) := by decide +kernel
theorem dX5_table_36 : decode cX5_table 36 = .ok (.ifCond .eq 6, 3) := by decide +kernel
theorem dX5_table_39 : decode cX5_table 39 = .ok (.iload 4, 2) := by decide +kernel
theorem dX5_table_41 : decode cX5_table 41 = .ok (.ireturn, 1) := by decide +kernel
theorem dX5_table_42 : decode cX5_table 42 = .ok (.aload_n 0, 1) := by decide +kernel
theorem dX5_table_43 : decode cX5_table 43 = .ok (.getfield 20, 3) := by decide +kernel
theorem dX5_table_46 : decode cX5_table 46 = .ok (.getfield 59, 3) := by decide +kernel
theorem dX5_table_49 : decode cX5_table 49 = .ok (.iload_n 2, 1) := by decide +kernel
theorem dX5_table_50 : decode cX5_table 50 = .ok (.aaload, 1) := by decide +kernel
theorem dX5_table_51 : decode cX5_table 51 = .ok (.getfield 71, 3) := by decide +kernel
theorem dX5_table_54 : decode cX5_table 54 = .ok (.astore 5, 2) := by decide +kernel
theorem dX5_table_56 : decode cX5_table 56 = .ok (.aload 5, 2) := by decide +kernel
theorem dX5_table_58 : decode cX5_table 58 = .ok (.iload_n 3, 1) := by decide +kernel
theorem dX5_table_59 : decode cX5_table 59 = .ok (.iaload, 1) := by decide +kernel
theorem dX5_table_60 : decode cX5_table 60 = .ok (.iconst (-1), 1) := by decide +kernel
theorem dX5_table_61 : decode cX5_table 61 = .ok (.if_icmp .eq 5, 3) := by decide +kernel
theorem dX5_table_64 : decode cX5_table 64 = .ok (.iconst 5, 1) := by decide +kernel
theorem dX5_table_65 : decode cX5_table 65 = .ok (.ireturn, 1) := by decide +kernel
theorem dX5_table_66 : decode cX5_table 66 = .ok (.aload 5, 2) := by decide +kernel
theorem dX5_table_68 : decode cX5_table 68 = .ok (.iload_n 3, 1) := by decide +kernel
theorem dX5_table_69 : decode cX5_table 69 = .ok (.iload_n 1, 1) := by decide +kernel
theorem dX5_table_70 : decode cX5_table 70 = .ok (.iastore, 1) := by decide +kernel
theorem dX5_table_71 : decode cX5_table 71 = .ok (.aload_n 0, 1) := by decide +kernel
theorem dX5_table_72 : decode cX5_table 72 = .ok (.getfield 20, 3) := by decide +kernel
theorem dX5_table_75 : decode cX5_table 75 = .ok (.iload_n 1, 1) := by decide +kernel
theorem dX5_table_76 : decode cX5_table 76 = .ok (.iconst 3, 1) := by decide +kernel
theorem dX5_table_77 : decode cX5_table 77 = .ok (.iload_n 2, 1) := by decide +kernel
theorem dX5_table_78 : decode cX5_table 78 = .ok (.invokevirtual 35, 3) := by decide +kernel
theorem dX5_table_81 : decode cX5_table 81 = .ok (.getfield 99, 3) := by decide +kernel
theorem dX5_table_84 : decode cX5_table 84 = .ok (.iconst 0, 1) := by decide +kernel
theorem dX5_table_85 : decode cX5_table 85 = .ok (.invokestatic 74, 3) := by decide +kernel
theorem dX5_table_88 : decode cX5_table 88 = .ok (.iconst 0, 1) := by decide +kernel
theorem dX5_table_89 : decode cX5_table 89 = .ok (.ireturn, 1) := by decide +kernel
set_option maxRecDepth 20000 in
theorem ggX5_data_X5_isPage : GoodIn wsX5_data wsX5_isPage := goodIn_r _ [12] (by decide +kernel) (by decide +kernel)
set_option maxRecDepth 20000 in
theorem gX5_data_X5_isPage : GoodIn wsX5_data (va_wsS RX5 56 yX5_isPage wsX5_isPage) := goodIn_app (goodIn_of _ (by decide +kernel)) ggX5_data_X5_isPage
set_option maxRecDepth 20000 in
theorem ggX5_data_X5_isBlock : GoodIn wsX5_data wsX5_isBlock := goodIn_r _ [15] (by decide +kernel) (by decide +kernel)
set_option maxRecDepth 20000 in
theorem gX5_data_X5_isBlock : GoodIn wsX5_data (va_wsS RX5 102 yX5_isBlock wsX5_isBlock) := goodIn_app (goodIn_of _ (by decide +kernel)) ggX5_data_X5_isBlock
set_option maxRecDepth 20000 in
theorem ggX5_data_X5_isFrame : GoodIn wsX5_data wsX5_isFrame := goodIn_r _ [18] (by decide +kernel) (by decide +kernel)
set_option maxRecDepth 20000 in
theorem gX5_data_X5_isFrame : GoodIn wsX5_data (va_wsS RX5 45 yX5_isFrame wsX5_isFrame) := goodIn_app (goodIn_of _ (by decide +kernel)) ggX5_data_X5_isFrame
set_option maxRecDepth 20000 in
theorem ggX5_data_X5_areDataRights : GoodIn wsX5_data wsX5_areDataRights := goodIn_r _ [21] (by decide +kernel) (by decide +kernel)
set_option maxRecDepth 20000 in
theorem gX5_data_X5_areDataRights : GoodIn wsX5_data (va_wsS RX5 105 yX5_areDataRights wsX5_areDataRights) := goodIn_app (goodIn_of _ (by decide +kernel)) ggX5_data_X5_areDataRights
set_option maxRecDepth 20000 in
theorem ggX5_data_X5_refusalOfNew : GoodIn wsX5_data wsX5_refusalOfNew := goodIn_r _ [25, 1, 2, 26, 27, 28, 29, 11, 30, 31, 89, 90, 91, 92, 93, 94, 95, 96, 97, 98, 99, 100, 101, 102, 103, 104, 105] (by decide +kernel) (by decide +kernel)
set_option maxRecDepth 20000 in
theorem gX5_data_X5_refusalOfNew : GoodIn wsX5_data (wsV RX5 84 RX5 yX5_refusalOfNew wsX5_refusalOfNew) := goodIn_app (goodIn_of _ (by decide +kernel)) ggX5_data_X5_refusalOfNew
set_option maxRecDepth 20000 in
theorem ggX5_data_X4_hasRoom : GoodIn wsX5_data wsX4_hasRoom := goodIn_r _ [36, 37, 38, 39, 35, 40, 41, 42, 43, 14, 11, 15, 94, 95, 96, 97, 98, 99, 100, 101, 102, 103, 104, 105, 92, 93] (by decide +kernel) (by decide +kernel)
set_option maxRecDepth 20000 in
theorem gX5_data_X4_hasRoom : GoodIn wsX5_data (wsV RX5 108 RX4 yX4_hasRoom wsX4_hasRoom) := goodIn_app (goodIn_of _ (by decide +kernel)) ggX5_data_X4_hasRoom
set_option maxRecDepth 20000 in
theorem ggX5_data_X4_claim : GoodIn wsX5_data wsX4_claim := goodIn_r _ [47, 42, 48, 49, 92, 93, 94, 95, 96, 97, 98, 99, 100, 101, 102, 103, 104, 105] (by decide +kernel) (by decide +kernel)
set_option maxRecDepth 20000 in
theorem gX5_data_X4_claim : GoodIn wsX5_data (wsV RX5 35 RX4 yX4_claim wsX4_claim) := goodIn_app (goodIn_of _ (by decide +kernel)) ggX5_data_X4_claim
set_option maxRecDepth 20000 in
theorem ggX5_data_X4_frameRow : GoodIn wsX5_data wsX4_frameRow := goodIn_r _ [53, 54, 92, 93] (by decide +kernel) (by decide +kernel)
set_option maxRecDepth 20000 in
theorem gX5_data_X4_frameRow : GoodIn wsX5_data (wsV RX5 52 RX4 yX4_frameRow wsX4_frameRow) := goodIn_app (goodIn_of _ (by decide +kernel)) ggX5_data_X4_frameRow
set_option maxRecDepth 20000 in
theorem ggX5_data_X4_map : GoodIn wsX5_data wsX4_map := goodIn_r _ [58, 37, 38, 39, 35, 40, 41, 42, 43, 14, 11, 15, 94, 95, 96, 97, 98, 99, 100, 101, 102, 103, 104, 105, 92, 93] (by decide +kernel) (by decide +kernel)
set_option maxRecDepth 20000 in
theorem gX5_data_X4_map : GoodIn wsX5_data (wsV RX5 122 RX4 yX4_map wsX4_map) := goodIn_app (goodIn_of _ (by decide +kernel)) ggX5_data_X4_map
set_option maxRecDepth 20000 in
theorem ggX5_data_X2_tell : GoodIn wsX5_data wsX2_tell := goodIn_r _ [63, 64, 65, 66, 67, 68, 69, 70, 71, 62, 72, 73, 74, 75, 76, 77, 78, 79, 80, 81, 82, 83, 84, 85, 86, 87, 5, 6, 7, 106, 107, 108, 94, 95, 96, 97, 98, 99, 100, 101, 102, 103, 104, 105, 109, 110] (by decide +kernel) (by decide +kernel)
set_option maxRecDepth 20000 in
theorem gX5_data_X2_tell : GoodIn wsX5_data (wsV RX5 95 RX2 yX2_tell wsX2_tell) := goodIn_app (goodIn_of _ (by decide +kernel)) ggX5_data_X2_tell
set_option maxRecDepth 20000 in
theorem ggX5_data_X2_tellWords : GoodIn wsX5_data wsX2_tellWords := goodIn_r _ [72, 73, 74, 75, 76, 77, 78, 79, 80, 81, 82, 83, 84, 85, 86, 87, 5, 6, 7, 106, 107, 108, 94, 95, 96, 97, 98, 99, 100, 101, 102, 103, 104, 105, 109, 110] (by decide +kernel) (by decide +kernel)
set_option maxRecDepth 20000 in
theorem gX5_data_X2_tellWords : GoodIn wsX5_data (wsV RX5 125 RX2 yX2_tellWords wsX2_tellWords) := goodIn_app (goodIn_of _ (by decide +kernel)) ggX5_data_X2_tellWords
theorem dX5_data_0 : decode cX5_data 0 = .ok (.iload_n 1, 1) := by decide +kernel
theorem dX5_data_1 : decode cX5_data 1 = .ok (.invokestatic 56, 3) := by decide +kernel
theorem dX5_data_4 : decode cX5_data 4 = .ok (.ifCond .eq 33, 3) := by decide +kernel
theorem dX5_data_7 : decode cX5_data 7 = .ok (.iload_n 2, 1) := by decide +kernel
theorem dX5_data_8 : decode cX5_data 8 = .ok (.invokestatic 56, 3) := by decide +kernel
theorem dX5_data_11 : decode cX5_data 11 = .ok (.ifCond .eq 26, 3) := by decide +kernel
theorem dX5_data_14 : decode cX5_data 14 = .ok (.iload_n 3, 1) := by decide +kernel
theorem dX5_data_15 : decode cX5_data 15 = .ok (.invokestatic 102, 3) := by decide +kernel
theorem dX5_data_18 : decode cX5_data 18 = .ok (.ifCond .eq 19, 3) := by decide +kernel
theorem dX5_data_21 : decode cX5_data 21 = .ok (.iload 5, 2) := by decide +kernel
theorem dX5_data_23 : decode cX5_data 23 = .ok (.invokestatic 45, 3) := by decide +kernel
theorem dX5_data_26 : decode cX5_data 26 = .ok (.ifCond .eq 11, 3) := by decide +kernel
theorem dX5_data_29 : decode cX5_data 29 = .ok (.iload 4, 2) := by decide +kernel
theorem dX5_data_31 : decode cX5_data 31 = .ok (.invokestatic 105, 3) := by decide +kernel
theorem dX5_data_34 : decode cX5_data 34 = .ok (.ifCond .ne 5, 3) := by decide +kernel
theorem dX5_data_37 : decode cX5_data 37 = .ok (.iconst 1, 1) := by decide +kernel
theorem dX5_data_38 : decode cX5_data 38 = .ok (.ireturn, 1) := by decide +kernel
theorem dX5_data_39 : decode cX5_data 39 = .ok (.aload_n 0, 1) := by decide +kernel
theorem dX5_data_40 : decode cX5_data 40 = .ok (.iload_n 1, 1) := by decide +kernel
theorem dX5_data_41 : decode cX5_data 41 = .ok (.iload_n 2, 1) := by decide +kernel
theorem dX5_data_42 : decode cX5_data 42 = .ok (.iconst 0, 1) := by decide +kernel
theorem dX5_data_43 : decode cX5_data 43 = .ok (.invokevirtual 84, 3) := by decide +kernel
theorem dX5_data_46 : decode cX5_data 46 = .ok (.istore 6, 2) := by decide +kernel
theorem dX5_data_48 : decode cX5_data 48 = .ok (.iload 6, 2) := by decide +kernel
theorem dX5_data_50 : decode cX5_data 50 = .ok (.ifCond .eq 6, 3) := by decide +kernel
theorem dX5_data_53 : decode cX5_data 53 = .ok (.iload 6, 2) := by decide +kernel
theorem dX5_data_55 : decode cX5_data 55 = .ok (.ireturn, 1) := by decide +kernel
theorem dX5_data_56 : decode cX5_data 56 = .ok (.aload_n 0, 1) := by decide +kernel
theorem dX5_data_57 : decode cX5_data 57 = .ok (.getfield 20, 3) := by decide +kernel
theorem dX5_data_60 : decode cX5_data 60 = .ok (.getfield 59, 3) := by decide +kernel
theorem dX5_data_63 : decode cX5_data 63 = .ok (.iload_n 2, 1) := by decide +kernel
theorem dX5_data_64 : decode cX5_data 64 = .ok (.aaload, 1) := by decide +kernel
theorem dX5_data_65 : decode cX5_data 65 = .ok (.astore 7, 2) := by decide +kernel
theorem dX5_data_67 : decode cX5_data 67 = .ok (.aload_n 0, 1) := by decide +kernel
theorem dX5_data_68 : decode cX5_data 68 = .ok (.getfield 20, 3) := by decide +kernel
theorem dX5_data_71 : decode cX5_data 71 = .ok (.aload 7, 2) := by decide +kernel
theorem dX5_data_73 : decode cX5_data 73 = .ok (.iload_n 3, 1) := by decide +kernel
end
section
theorem dX5_data_74 : decode cX5_data 74 = .ok (.invokevirtual 108, 3) := by decide +kernel
theorem dX5_data_77 : decode cX5_data 77 = .ok (.ifCond .ne 5, 3) := by decide +kernel
theorem dX5_data_80 : decode cX5_data 80 = .ok (.iconst 5, 1) := by decide +kernel
theorem dX5_data_81 : decode cX5_data 81 = .ok (.ireturn, 1) := by decide +kernel
theorem dX5_data_82 : decode cX5_data 82 = .ok (.aload_n 0, 1) := by decide +kernel
theorem dX5_data_83 : decode cX5_data 83 = .ok (.getfield 20, 3) := by decide +kernel
theorem dX5_data_86 : decode cX5_data 86 = .ok (.iload_n 1, 1) := by decide +kernel
theorem dX5_data_87 : decode cX5_data 87 = .ok (.iconst 4, 1) := by decide +kernel
theorem dX5_data_88 : decode cX5_data 88 = .ok (.iload_n 2, 1) := by decide +kernel
theorem dX5_data_89 : decode cX5_data 89 = .ok (.invokevirtual 35, 3) := by decide +kernel
theorem dX5_data_92 : decode cX5_data 92 = .ok (.pop, 1) := by decide +kernel
theorem dX5_data_93 : decode cX5_data 93 = .ok (.aload_n 0, 1) := by decide +kernel
theorem dX5_data_94 : decode cX5_data 94 = .ok (.getfield 20, 3) := by decide +kernel
theorem dX5_data_97 : decode cX5_data 97 = .ok (.getfield 112, 3) := by decide +kernel
theorem dX5_data_100 : decode cX5_data 100 = .ok (.iload_n 1, 1) := by decide +kernel
theorem dX5_data_101 : decode cX5_data 101 = .ok (.aaload, 1) := by decide +kernel
theorem dX5_data_102 : decode cX5_data 102 = .ok (.astore 8, 2) := by decide +kernel
theorem dX5_data_104 : decode cX5_data 104 = .ok (.aload_n 0, 1) := by decide +kernel
theorem dX5_data_105 : decode cX5_data 105 = .ok (.getfield 20, 3) := by decide +kernel
theorem dX5_data_108 : decode cX5_data 108 = .ok (.iload 5, 2) := by decide +kernel
theorem dX5_data_110 : decode cX5_data 110 = .ok (.invokevirtual 52, 3) := by decide +kernel
theorem dX5_data_113 : decode cX5_data 113 = .ok (.iconst 0, 1) := by decide +kernel
theorem dX5_data_114 : decode cX5_data 114 = .ok (.aload 8, 2) := by decide +kernel
theorem dX5_data_116 : decode cX5_data 116 = .ok (.iconst 0, 1) := by decide +kernel
theorem dX5_data_117 : decode cX5_data 117 = .ok (.bipush 16, 2) := by decide +kernel
theorem dX5_data_119 : decode cX5_data 119 = .ok (.invokestatic 116, 3) := by decide +kernel
theorem dX5_data_122 : decode cX5_data 122 = .ok (.aload_n 0, 1) := by decide +kernel
theorem dX5_data_123 : decode cX5_data 123 = .ok (.getfield 20, 3) := by decide +kernel
theorem dX5_data_126 : decode cX5_data 126 = .ok (.aload 7, 2) := by decide +kernel
theorem dX5_data_128 : decode cX5_data 128 = .ok (.iload_n 3, 1) := by decide +kernel
theorem dX5_data_129 : decode cX5_data 129 = .ok (.iload_n 1, 1) := by decide +kernel
theorem dX5_data_130 : decode cX5_data 130 = .ok (.iload 4, 2) := by decide +kernel
theorem dX5_data_132 : decode cX5_data 132 = .ok (.invokevirtual 122, 3) := by decide +kernel
theorem dX5_data_135 : decode cX5_data 135 = .ok (.aload_n 0, 1) := by decide +kernel
theorem dX5_data_136 : decode cX5_data 136 = .ok (.getfield 25, 3) := by decide +kernel
theorem dX5_data_139 : decode cX5_data 139 = .ok (.aload 7, 2) := by decide +kernel
theorem dX5_data_141 : decode cX5_data 141 = .ok (.iconst 2, 1) := by decide +kernel
theorem dX5_data_142 : decode cX5_data 142 = .ok (.iload_n 3, 1) := by decide +kernel
theorem dX5_data_143 : decode cX5_data 143 = .ok (.iload 4, 2) := by decide +kernel
theorem dX5_data_145 : decode cX5_data 145 = .ok (.invokevirtual 95, 3) := by decide +kernel
theorem dX5_data_148 : decode cX5_data 148 = .ok (.aload_n 0, 1) := by decide +kernel
theorem dX5_data_149 : decode cX5_data 149 = .ok (.getfield 25, 3) := by decide +kernel
theorem dX5_data_152 : decode cX5_data 152 = .ok (.aload 7, 2) := by decide +kernel
theorem dX5_data_154 : decode cX5_data 154 = .ok (.aload 8, 2) := by decide +kernel
theorem dX5_data_156 : decode cX5_data 156 = .ok (.invokevirtual 125, 3) := by decide +kernel
theorem dX5_data_159 : decode cX5_data 159 = .ok (.iconst 0, 1) := by decide +kernel
theorem dX5_data_160 : decode cX5_data 160 = .ok (.ireturn, 1) := by decide +kernel
set_option maxRecDepth 20000 in
theorem ggX5_share_X5_isPage : GoodIn wsX5_share wsX5_isPage := goodIn_r _ [7] (by decide +kernel) (by decide +kernel)
set_option maxRecDepth 20000 in
theorem gX5_share_X5_isPage : GoodIn wsX5_share (va_wsS RX5 56 yX5_isPage wsX5_isPage) := goodIn_app (goodIn_of _ (by decide +kernel)) ggX5_share_X5_isPage
set_option maxRecDepth 20000 in
theorem ggX5_share_X5_isBlock : GoodIn wsX5_share wsX5_isBlock := goodIn_r _ [10] (by decide +kernel) (by decide +kernel)
set_option maxRecDepth 20000 in
theorem gX5_share_X5_isBlock : GoodIn wsX5_share (va_wsS RX5 102 yX5_isBlock wsX5_isBlock) := goodIn_app (goodIn_of _ (by decide +kernel)) ggX5_share_X5_isBlock
set_option maxRecDepth 20000 in
theorem ggX5_share_X5_isFrame : GoodIn wsX5_share wsX5_isFrame := goodIn_r _ [13] (by decide +kernel) (by decide +kernel)
set_option maxRecDepth 20000 in
theorem gX5_share_X5_isFrame : GoodIn wsX5_share (va_wsS RX5 45 yX5_isFrame wsX5_isFrame) := goodIn_app (goodIn_of _ (by decide +kernel)) ggX5_share_X5_isFrame
set_option maxRecDepth 20000 in
theorem ggX5_share_X5_refusalOfSpace : GoodIn wsX5_share wsX5_refusalOfSpace := goodIn_r _ [17, 1, 2, 18, 19, 68, 69, 70, 71, 72, 73, 74, 75, 76, 77, 78, 79, 80, 81, 82, 83, 84] (by decide +kernel) (by decide +kernel)
set_option maxRecDepth 20000 in
theorem gX5_share_X5_refusalOfSpace : GoodIn wsX5_share (wsV RX5 129 RX5 yX5_refusalOfSpace wsX5_refusalOfSpace) := goodIn_app (goodIn_of _ (by decide +kernel)) ggX5_share_X5_refusalOfSpace
set_option maxRecDepth 20000 in
theorem ggX5_share_X4_hasRoom : GoodIn wsX5_share wsX4_hasRoom := goodIn_r _ [24, 25, 26, 27, 23, 28, 29, 30, 31, 9, 6, 10, 73, 74, 75, 76, 77, 78, 79, 80, 81, 82, 83, 84, 71, 72] (by decide +kernel) (by decide +kernel)
set_option maxRecDepth 20000 in
theorem gX5_share_X4_hasRoom : GoodIn wsX5_share (wsV RX5 108 RX4 yX4_hasRoom wsX4_hasRoom) := goodIn_app (goodIn_of _ (by decide +kernel)) ggX5_share_X4_hasRoom
set_option maxRecDepth 20000 in
theorem ggX5_share_X4_map : GoodIn wsX5_share wsX4_map := goodIn_r _ [35, 25, 26, 27, 23, 28, 29, 30, 31, 9, 6, 10, 73, 74, 75, 76, 77, 78, 79, 80, 81, 82, 83, 84, 71, 72] (by decide +kernel) (by decide +kernel)
set_option maxRecDepth 20000 in
theorem gX5_share_X4_map : GoodIn wsX5_share (wsV RX5 122 RX4 yX4_map wsX4_map) := goodIn_app (goodIn_of _ (by decide +kernel)) ggX5_share_X4_map
set_option maxRecDepth 20000 in
theorem ggX5_share_X2_tell : GoodIn wsX5_share wsX2_tell := goodIn_r _ [40, 41, 42, 43, 44, 45, 46, 47, 48, 39, 49, 50, 51, 52, 53, 54, 55, 56, 57, 58, 59, 60, 61, 62, 63, 64, 65, 66, 67, 85, 86, 87, 73, 74, 75, 76, 77, 78, 79, 80, 81, 82, 83, 84, 88, 89] (by decide +kernel) (by decide +kernel)
set_option maxRecDepth 20000 in
theorem gX5_share_X2_tell : GoodIn wsX5_share (wsV RX5 95 RX2 yX2_tell wsX2_tell) := goodIn_app (goodIn_of _ (by decide +kernel)) ggX5_share_X2_tell
theorem dX5_share_0 : decode cX5_share 0 = .ok (.iload_n 1, 1) := by decide +kernel
theorem dX5_share_1 : decode cX5_share 1 = .ok (.invokestatic 56, 3) := by decide +kernel
theorem dX5_share_4 : decode cX5_share 4 = .ok (.ifCond .eq 28, 3) := by decide +kernel
theorem dX5_share_7 : decode cX5_share 7 = .ok (.iload_n 2, 1) := by decide +kernel
theorem dX5_share_8 : decode cX5_share 8 = .ok (.invokestatic 102, 3) := by decide +kernel
theorem dX5_share_11 : decode cX5_share 11 = .ok (.ifCond .eq 21, 3) := by decide +kernel
theorem dX5_share_14 : decode cX5_share 14 = .ok (.iload 4, 2) := by decide +kernel
theorem dX5_share_16 : decode cX5_share 16 = .ok (.invokestatic 45, 3) := by decide +kernel
theorem dX5_share_19 : decode cX5_share 19 = .ok (.ifCond .eq 13, 3) := by decide +kernel
theorem dX5_share_22 : decode cX5_share 22 = .ok (.iload_n 3, 1) := by decide +kernel
theorem dX5_share_23 : decode cX5_share 23 = .ok (.iconst 1, 1) := by decide +kernel
theorem dX5_share_24 : decode cX5_share 24 = .ok (.if_icmp .eq 10, 3) := by decide +kernel
theorem dX5_share_27 : decode cX5_share 27 = .ok (.iload_n 3, 1) := by decide +kernel
theorem dX5_share_28 : decode cX5_share 28 = .ok (.iconst 3, 1) := by decide +kernel
theorem dX5_share_29 : decode cX5_share 29 = .ok (.if_icmp .eq 5, 3) := by decide +kernel
theorem dX5_share_32 : decode cX5_share 32 = .ok (.iconst 1, 1) := by decide +kernel
theorem dX5_share_33 : decode cX5_share 33 = .ok (.ireturn, 1) := by decide +kernel
theorem dX5_share_34 : decode cX5_share 34 = .ok (.aload_n 0, 1) := by decide +kernel
theorem dX5_share_35 : decode cX5_share 35 = .ok (.iload_n 1, 1) := by decide +kernel
theorem dX5_share_36 : decode cX5_share 36 = .ok (.iconst 0, 1) := by decide +kernel
theorem dX5_share_37 : decode cX5_share 37 = .ok (.invokevirtual 129, 3) := by decide +kernel
theorem dX5_share_40 : decode cX5_share 40 = .ok (.istore 5, 2) := by decide +kernel
theorem dX5_share_42 : decode cX5_share 42 = .ok (.iload 5, 2) := by decide +kernel
theorem dX5_share_44 : decode cX5_share 44 = .ok (.ifCond .eq 6, 3) := by decide +kernel
theorem dX5_share_47 : decode cX5_share 47 = .ok (.iload 5, 2) := by decide +kernel
theorem dX5_share_49 : decode cX5_share 49 = .ok (.ireturn, 1) := by decide +kernel
theorem dX5_share_50 : decode cX5_share 50 = .ok (.aload_n 0, 1) := by decide +kernel
theorem dX5_share_51 : decode cX5_share 51 = .ok (.getfield 20, 3) := by decide +kernel
theorem dX5_share_54 : decode cX5_share 54 = .ok (.getfield 59, 3) := by decide +kernel
theorem dX5_share_57 : decode cX5_share 57 = .ok (.iload_n 1, 1) := by decide +kernel
theorem dX5_share_58 : decode cX5_share 58 = .ok (.aaload, 1) := by decide +kernel
theorem dX5_share_59 : decode cX5_share 59 = .ok (.astore 6, 2) := by decide +kernel
theorem dX5_share_61 : decode cX5_share 61 = .ok (.aload_n 0, 1) := by decide +kernel
theorem dX5_share_62 : decode cX5_share 62 = .ok (.getfield 20, 3) := by decide +kernel
theorem dX5_share_65 : decode cX5_share 65 = .ok (.aload 6, 2) := by decide +kernel
theorem dX5_share_67 : decode cX5_share 67 = .ok (.iload_n 2, 1) := by decide +kernel
theorem dX5_share_68 : decode cX5_share 68 = .ok (.invokevirtual 108, 3) := by decide +kernel
theorem dX5_share_71 : decode cX5_share 71 = .ok (.ifCond .ne 5, 3) := by decide +kernel
theorem dX5_share_74 : decode cX5_share 74 = .ok (.iconst 5, 1) := by decide +kernel
theorem dX5_share_75 : decode cX5_share 75 = .ok (.ireturn, 1) := by decide +kernel
theorem dX5_share_76 : decode cX5_share 76 = .ok (.aload_n 0, 1) := by decide +kernel
theorem dX5_share_77 : decode cX5_share 77 = .ok (.getfield 20, 3) := by decide +kernel
theorem dX5_share_80 : decode cX5_share 80 = .ok (.aload 6, 2) := by decide +kernel
theorem dX5_share_82 : decode cX5_share 82 = .ok (.iload_n 2, 1) := by decide +kernel
theorem dX5_share_83 : decode cX5_share 83 = .ok (.bipush 20, 2) := by decide +kernel
theorem dX5_share_85 : decode cX5_share 85 = .ok (.iload 4, 2) := by decide +kernel
theorem dX5_share_87 : decode cX5_share 87 = .ok (.iadd, 1) := by decide +kernel
theorem dX5_share_88 : decode cX5_share 88 = .ok (.iload_n 3, 1) := by decide +kernel
theorem dX5_share_89 : decode cX5_share 89 = .ok (.invokevirtual 122, 3) := by decide +kernel
theorem dX5_share_92 : decode cX5_share 92 = .ok (.aload_n 0, 1) := by decide +kernel
theorem dX5_share_93 : decode cX5_share 93 = .ok (.getfield 25, 3) := by decide +kernel
theorem dX5_share_96 : decode cX5_share 96 = .ok (.aload 6, 2) := by decide +kernel
theorem dX5_share_98 : decode cX5_share 98 = .ok (.iconst 3, 1) := by decide +kernel
theorem dX5_share_99 : decode cX5_share 99 = .ok (.iload_n 2, 1) := by decide +kernel
theorem dX5_share_100 : decode cX5_share 100 = .ok (.iload_n 3, 1) := by decide +kernel
theorem dX5_share_101 : decode cX5_share 101 = .ok (.invokevirtual 95, 3) := by decide +kernel
theorem dX5_share_104 : decode cX5_share 104 = .ok (.iconst 0, 1) := by decide +kernel
theorem dX5_share_105 : decode cX5_share 105 = .ok (.ireturn, 1) := by decide +kernel
set_option maxRecDepth 20000 in
theorem ggX5_spare_X5_isPage : GoodIn wsX5_spare wsX5_isPage := goodIn_r _ [5] (by decide +kernel) (by decide +kernel)
set_option maxRecDepth 20000 in
theorem gX5_spare_X5_isPage : GoodIn wsX5_spare (va_wsS RX5 56 yX5_isPage wsX5_isPage) := goodIn_app (goodIn_of _ (by decide +kernel)) ggX5_spare_X5_isPage
set_option maxRecDepth 20000 in
theorem ggX5_spare_X5_refusalOfNew : GoodIn wsX5_spare wsX5_refusalOfNew := goodIn_r _ [9, 1, 10, 11, 12, 13, 14, 4, 15, 16, 25, 26, 27, 28, 29, 30, 31, 32, 33, 34, 35, 36, 37, 38, 39, 40, 41] (by decide +kernel) (by decide +kernel)
set_option maxRecDepth 20000 in
theorem gX5_spare_X5_refusalOfNew : GoodIn wsX5_spare (wsV RX5 84 RX5 yX5_refusalOfNew wsX5_refusalOfNew) := goodIn_app (goodIn_of _ (by decide +kernel)) ggX5_spare_X5_refusalOfNew
set_option maxRecDepth 20000 in
theorem ggX5_spare_X4_claim : GoodIn wsX5_spare wsX4_claim := goodIn_r _ [21, 22, 23, 24, 28, 29, 30, 31, 32, 33, 34, 35, 36, 37, 38, 39, 40, 41] (by decide +kernel) (by decide +kernel)
set_option maxRecDepth 20000 in
theorem gX5_spare_X4_claim : GoodIn wsX5_spare (wsV RX5 35 RX4 yX4_claim wsX4_claim) := goodIn_app (goodIn_of _ (by decide +kernel)) ggX5_spare_X4_claim
theorem dX5_spare_0 : decode cX5_spare 0 = .ok (.iload_n 1, 1) := by decide +kernel
theorem dX5_spare_1 : decode cX5_spare 1 = .ok (.invokestatic 56, 3) := by decide +kernel
theorem dX5_spare_4 : decode cX5_spare 4 = .ok (.ifCond .eq 10, 3) := by decide +kernel
theorem dX5_spare_7 : decode cX5_spare 7 = .ok (.iload_n 2, 1) := by decide +kernel
theorem dX5_spare_8 : decode cX5_spare 8 = .ok (.invokestatic 56, 3) := by decide +kernel
theorem dX5_spare_11 : decode cX5_spare 11 = .ok (.ifCond .ne 5, 3) := by decide +kernel
theorem dX5_spare_14 : decode cX5_spare 14 = .ok (.iconst 1, 1) := by decide +kernel
theorem dX5_spare_15 : decode cX5_spare 15 = .ok (.ireturn, 1) := by decide +kernel
theorem dX5_spare_16 : decode cX5_spare 16 = .ok (.aload_n 0, 1) := by decide +kernel
theorem dX5_spare_17 : decode cX5_spare 17 = .ok (.iload_n 1, 1) := by decide +kernel
theorem dX5_spare_18 : decode cX5_spare 18 = .ok (.iload_n 2, 1) := by decide +kernel
theorem dX5_spare_19 : decode cX5_spare 19 = .ok (.iconst 1, 1) := by decide +kernel
theorem dX5_spare_20 : decode cX5_spare 20 = .ok (.invokevirtual 84, 3) := by decide +kernel
theorem dX5_spare_23 : decode cX5_spare 23 = .ok (.istore_n 3, 1) := by decide +kernel
theorem dX5_spare_24 : decode cX5_spare 24 = .ok (.iload_n 3, 1) := by decide +kernel
theorem dX5_spare_25 : decode cX5_spare 25 = .ok (.ifCond .eq 5, 3) := by decide +kernel
theorem dX5_spare_28 : decode cX5_spare 28 = .ok (.iload_n 3, 1) := by decide +kernel
theorem dX5_spare_29 : decode cX5_spare 29 = .ok (.ireturn, 1) := by decide +kernel
theorem dX5_spare_30 : decode cX5_spare 30 = .ok (.aload_n 0, 1) := by decide +kernel
theorem dX5_spare_31 : decode cX5_spare 31 = .ok (.getfield 20, 3) := by decide +kernel
theorem dX5_spare_34 : decode cX5_spare 34 = .ok (.iload_n 1, 1) := by decide +kernel
theorem dX5_spare_35 : decode cX5_spare 35 = .ok (.iconst 5, 1) := by decide +kernel
theorem dX5_spare_36 : decode cX5_spare 36 = .ok (.iload_n 2, 1) := by decide +kernel
theorem dX5_spare_37 : decode cX5_spare 37 = .ok (.invokevirtual 35, 3) := by decide +kernel
theorem dX5_spare_40 : decode cX5_spare 40 = .ok (.pop, 1) := by decide +kernel
theorem dX5_spare_41 : decode cX5_spare 41 = .ok (.iconst 0, 1) := by decide +kernel
theorem dX5_spare_42 : decode cX5_spare 42 = .ok (.ireturn, 1) := by decide +kernel
set_option maxRecDepth 20000 in
theorem ggX5_finish_X5_isPage : GoodIn wsX5_finish wsX5_isPage := goodIn_r _ [8] (by decide +kernel) (by decide +kernel)
set_option maxRecDepth 20000 in
theorem gX5_finish_X5_isPage : GoodIn wsX5_finish (va_wsS RX5 56 yX5_isPage wsX5_isPage) := goodIn_app (goodIn_of _ (by decide +kernel)) ggX5_finish_X5_isPage
set_option maxRecDepth 20000 in
theorem ggX5_finish_X5_refusalOfSpace : GoodIn wsX5_finish wsX5_refusalOfSpace := goodIn_r _ [12, 1, 2, 13, 3, 57, 58, 59, 60, 61, 62, 63, 64, 65, 66, 67, 68, 69, 70, 71, 72, 73] (by decide +kernel) (by decide +kernel)
set_option maxRecDepth 20000 in
theorem gX5_finish_X5_refusalOfSpace : GoodIn wsX5_finish (wsV RX5 129 RX5 yX5_refusalOfSpace wsX5_refusalOfSpace) := goodIn_app (goodIn_of _ (by decide +kernel)) ggX5_finish_X5_refusalOfSpace
set_option maxRecDepth 20000 in
theorem ggX5_finish_X2_seal : GoodIn wsX5_finish wsX2_seal := goodIn_r _ [18, 19, 20, 21, 22, 23, 24, 25, 17, 26, 27, 28, 29, 30, 31, 32, 33, 34, 35, 36, 37, 38, 39, 40, 41, 42, 43, 44, 45, 46, 47, 48, 49, 50, 51, 52, 53, 54, 55, 56, 74, 75, 76, 62, 63, 64, 65, 66, 67, 68, 69, 70, 71, 72, 73, 77, 78] (by decide +kernel) (by decide +kernel)
set_option maxRecDepth 20000 in
theorem gX5_finish_X2_seal : GoodIn wsX5_finish (wsV RX5 133 RX2 yX2_seal wsX2_seal) := goodIn_app (goodIn_of _ (by decide +kernel)) ggX5_finish_X2_seal
theorem dX5_finish_0 : decode cX5_finish 0 = .ok (.iload_n 1, 1) := by decide +kernel
theorem dX5_finish_1 : decode cX5_finish 1 = .ok (.invokestatic 56, 3) := by decide +kernel
theorem dX5_finish_4 : decode cX5_finish 4 = .ok (.ifCond .ne 5, 3) := by decide +kernel
theorem dX5_finish_7 : decode cX5_finish 7 = .ok (.iconst 1, 1) := by decide +kernel
theorem dX5_finish_8 : decode cX5_finish 8 = .ok (.ireturn, 1) := by decide +kernel
theorem dX5_finish_9 : decode cX5_finish 9 = .ok (.aload_n 0, 1) := by decide +kernel
theorem dX5_finish_10 : decode cX5_finish 10 = .ok (.iload_n 1, 1) := by decide +kernel
theorem dX5_finish_11 : decode cX5_finish 11 = .ok (.iconst 0, 1) := by decide +kernel
theorem dX5_finish_12 : decode cX5_finish 12 = .ok (.invokevirtual 129, 3) := by decide +kernel
theorem dX5_finish_15 : decode cX5_finish 15 = .ok (.istore_n 2, 1) := by decide +kernel
theorem dX5_finish_16 : decode cX5_finish 16 = .ok (.iload_n 2, 1) := by decide +kernel
theorem dX5_finish_17 : decode cX5_finish 17 = .ok (.ifCond .eq 5, 3) := by decide +kernel
theorem dX5_finish_20 : decode cX5_finish 20 = .ok (.iload_n 2, 1) := by decide +kernel
theorem dX5_finish_21 : decode cX5_finish 21 = .ok (.ireturn, 1) := by decide +kernel
theorem dX5_finish_22 : decode cX5_finish 22 = .ok (.aload_n 0, 1) := by decide +kernel
theorem dX5_finish_23 : decode cX5_finish 23 = .ok (.getfield 20, 3) := by decide +kernel
theorem dX5_finish_26 : decode cX5_finish 26 = .ok (.getfield 59, 3) := by decide +kernel
theorem dX5_finish_29 : decode cX5_finish 29 = .ok (.iload_n 1, 1) := by decide +kernel
theorem dX5_finish_30 : decode cX5_finish 30 = .ok (.aaload, 1) := by decide +kernel
theorem dX5_finish_31 : decode cX5_finish 31 = .ok (.iconst 1, 1) := by decide +kernel
theorem dX5_finish_32 : decode cX5_finish 32 = .ok (.putfield 68, 3) := by decide +kernel
theorem dX5_finish_35 : decode cX5_finish 35 = .ok (.aload_n 0, 1) := by decide +kernel
theorem dX5_finish_36 : decode cX5_finish 36 = .ok (.getfield 25, 3) := by decide +kernel
theorem dX5_finish_39 : decode cX5_finish 39 = .ok (.aload_n 0, 1) := by decide +kernel
theorem dX5_finish_40 : decode cX5_finish 40 = .ok (.getfield 20, 3) := by decide +kernel
theorem dX5_finish_43 : decode cX5_finish 43 = .ok (.getfield 59, 3) := by decide +kernel
theorem dX5_finish_46 : decode cX5_finish 46 = .ok (.iload_n 1, 1) := by decide +kernel
theorem dX5_finish_47 : decode cX5_finish 47 = .ok (.aaload, 1) := by decide +kernel
theorem dX5_finish_48 : decode cX5_finish 48 = .ok (.invokevirtual 133, 3) := by decide +kernel
theorem dX5_finish_51 : decode cX5_finish 51 = .ok (.iconst 0, 1) := by decide +kernel
theorem dX5_finish_52 : decode cX5_finish 52 = .ok (.ireturn, 1) := by decide +kernel
set_option maxRecDepth 20000 in
theorem ggX5_stop_X5_isPage : GoodIn wsX5_stop wsX5_isPage := goodIn_r _ [9] (by decide +kernel) (by decide +kernel)
set_option maxRecDepth 20000 in
theorem gX5_stop_X5_isPage : GoodIn wsX5_stop (va_wsS RX5 56 yX5_isPage wsX5_isPage) := goodIn_app (goodIn_of _ (by decide +kernel)) ggX5_stop_X5_isPage
set_option maxRecDepth 20000 in
theorem ggX5_stop_X5_refusalOfSpace : GoodIn wsX5_stop wsX5_refusalOfSpace := goodIn_r _ [13, 1, 2, 14, 3, 15, 16, 17, 18, 19, 20, 21, 22, 23, 24, 25, 26, 27, 28, 29, 30, 31] (by decide +kernel) (by decide +kernel)
set_option maxRecDepth 20000 in
theorem gX5_stop_X5_refusalOfSpace : GoodIn wsX5_stop (wsV RX5 129 RX5 yX5_refusalOfSpace wsX5_refusalOfSpace) := goodIn_app (goodIn_of _ (by decide +kernel)) ggX5_stop_X5_refusalOfSpace
theorem dX5_stop_0 : decode cX5_stop 0 = .ok (.iload_n 1, 1) := by decide +kernel
theorem dX5_stop_1 : decode cX5_stop 1 = .ok (.invokestatic 56, 3) := by decide +kernel
theorem dX5_stop_4 : decode cX5_stop 4 = .ok (.ifCond .ne 5, 3) := by decide +kernel
theorem dX5_stop_7 : decode cX5_stop 7 = .ok (.iconst 1, 1) := by decide +kernel
theorem dX5_stop_8 : decode cX5_stop 8 = .ok (.ireturn, 1) := by decide +kernel
theorem dX5_stop_9 : decode cX5_stop 9 = .ok (.aload_n 0, 1) := by decide +kernel
theorem dX5_stop_10 : decode cX5_stop 10 = .ok (.iload_n 1, 1) := by decide +kernel
theorem dX5_stop_11 : decode cX5_stop 11 = .ok (.iconst 1, 1) := by decide +kernel
theorem dX5_stop_12 : decode cX5_stop 12 = .ok (.invokevirtual 129, 3) := by decide +kernel
theorem dX5_stop_15 : decode cX5_stop 15 = .ok (.istore_n 2, 1) := by decide +kernel
theorem dX5_stop_16 : decode cX5_stop 16 = .ok (.iload_n 2, 1) := by decide +kernel
theorem dX5_stop_17 : decode cX5_stop 17 = .ok (.ifCond .eq 5, 3) := by decide +kernel
theorem dX5_stop_20 : decode cX5_stop 20 = .ok (.iload_n 2, 1) := by decide +kernel
theorem dX5_stop_21 : decode cX5_stop 21 = .ok (.ireturn, 1) := by decide +kernel
theorem dX5_stop_22 : decode cX5_stop 22 = .ok (.aload_n 0, 1) := by decide +kernel
theorem dX5_stop_23 : decode cX5_stop 23 = .ok (.getfield 20, 3) := by decide +kernel
theorem dX5_stop_26 : decode cX5_stop 26 = .ok (.getfield 59, 3) := by decide +kernel
theorem dX5_stop_29 : decode cX5_stop 29 = .ok (.iload_n 1, 1) := by decide +kernel
theorem dX5_stop_30 : decode cX5_stop 30 = .ok (.aaload, 1) := by decide +kernel
theorem dX5_stop_31 : decode cX5_stop 31 = .ok (.iconst 2, 1) := by decide +kernel
theorem dX5_stop_32 : decode cX5_stop 32 = .ok (.putfield 68, 3) := by decide +kernel
theorem dX5_stop_35 : decode cX5_stop 35 = .ok (.iconst 0, 1) := by decide +kernel
theorem dX5_stop_36 : decode cX5_stop 36 = .ok (.istore_n 3, 1) := by decide +kernel
theorem dX5_stop_37 : decode cX5_stop 37 = .ok (.iload_n 3, 1) := by decide +kernel
theorem dX5_stop_38 : decode cX5_stop 38 = .ok (.bipush 20, 2) := by decide +kernel
theorem dX5_stop_40 : decode cX5_stop 40 = .ok (.if_icmp .ge 38, 3) := by decide +kernel
theorem dX5_stop_43 : decode cX5_stop 43 = .ok (.aload_n 0, 1) := by decide +kernel
theorem dX5_stop_44 : decode cX5_stop 44 = .ok (.getfield 20, 3) := by decide +kernel
theorem dX5_stop_47 : decode cX5_stop 47 = .ok (.getfield 59, 3) := by decide +kernel
theorem dX5_stop_50 : decode cX5_stop 50 = .ok (.iload_n 3, 1) := by decide +kernel
theorem dX5_stop_51 : decode cX5_stop 51 = .ok (.aaload, 1) := by decide +kernel
theorem dX5_stop_52 : decode cX5_stop 52 = .ok (.getfield 136, 3) := by decide +kernel
theorem dX5_stop_55 : decode cX5_stop 55 = .ok (.iload_n 1, 1) := by decide +kernel
theorem dX5_stop_56 : decode cX5_stop 56 = .ok (.if_icmp .ne 16, 3) := by decide +kernel
theorem dX5_stop_59 : decode cX5_stop 59 = .ok (.aload_n 0, 1) := by decide +kernel
theorem dX5_stop_60 : decode cX5_stop 60 = .ok (.getfield 20, 3) := by decide +kernel
theorem dX5_stop_63 : decode cX5_stop 63 = .ok (.getfield 59, 3) := by decide +kernel
theorem dX5_stop_66 : decode cX5_stop 66 = .ok (.iload_n 3, 1) := by decide +kernel
theorem dX5_stop_67 : decode cX5_stop 67 = .ok (.aaload, 1) := by decide +kernel
theorem dX5_stop_68 : decode cX5_stop 68 = .ok (.iconst 0, 1) := by decide +kernel
theorem dX5_stop_69 : decode cX5_stop 69 = .ok (.putfield 91, 3) := by decide +kernel
theorem dX5_stop_72 : decode cX5_stop 72 = .ok (.iinc 3 1, 3) := by decide +kernel
theorem dX5_stop_75 : decode cX5_stop 75 = .ok (.goto (-38), 3) := by decide +kernel
theorem dX5_stop_78 : decode cX5_stop 78 = .ok (.iconst 0, 1) := by decide +kernel
theorem dX5_stop_79 : decode cX5_stop 79 = .ok (.ireturn, 1) := by decide +kernel
set_option maxRecDepth 20000 in
theorem ggX5_remove_X5_isPage : GoodIn wsX5_remove wsX5_isPage := goodIn_r _ [8] (by decide +kernel) (by decide +kernel)
set_option maxRecDepth 20000 in
theorem gX5_remove_X5_isPage : GoodIn wsX5_remove (va_wsS RX5 56 yX5_isPage wsX5_isPage) := goodIn_app (goodIn_of _ (by decide +kernel)) ggX5_remove_X5_isPage
set_option maxRecDepth 20000 in
theorem ggX5_remove_X5_homeOf : GoodIn wsX5_remove wsX5_homeOf := goodIn_r _ [12, 3, 1, 2, 13, 31, 32, 33, 34, 35, 36, 37, 38, 39, 40, 41, 42, 26, 27, 28, 29, 30] (by decide +kernel) (by decide +kernel)
set_option maxRecDepth 20000 in
theorem gX5_remove_X5_homeOf : GoodIn wsX5_remove (wsV RX5 139 RX5 yX5_homeOf wsX5_homeOf) := goodIn_app (goodIn_of _ (by decide +kernel)) ggX5_remove_X5_homeOf
set_option maxRecDepth 20000 in
theorem ggX5_remove_X4_countOwnedBy : GoodIn wsX5_remove wsX4_countOwnedBy := goodIn_r _ [18, 19, 20, 29, 30, 31, 32, 33, 34, 35, 36, 37, 38, 39, 40, 41, 42] (by decide +kernel) (by decide +kernel)
set_option maxRecDepth 20000 in
theorem gX5_remove_X4_countOwnedBy : GoodIn wsX5_remove (wsV RX5 143 RX4 yX4_countOwnedBy wsX4_countOwnedBy) := goodIn_app (goodIn_of _ (by decide +kernel)) ggX5_remove_X4_countOwnedBy
set_option maxRecDepth 20000 in
theorem ggX5_remove_X4_claim : GoodIn wsX5_remove wsX4_claim := goodIn_r _ [24, 19, 25, 20, 29, 30, 31, 32, 33, 34, 35, 36, 37, 38, 39, 40, 41, 42] (by decide +kernel) (by decide +kernel)
set_option maxRecDepth 20000 in
theorem gX5_remove_X4_claim : GoodIn wsX5_remove (wsV RX5 35 RX4 yX4_claim wsX4_claim) := goodIn_app (goodIn_of _ (by decide +kernel)) ggX5_remove_X4_claim
theorem dX5_remove_0 : decode cX5_remove 0 = .ok (.iload_n 1, 1) := by decide +kernel
theorem dX5_remove_1 : decode cX5_remove 1 = .ok (.invokestatic 56, 3) := by decide +kernel
theorem dX5_remove_4 : decode cX5_remove 4 = .ok (.ifCond .ne 5, 3) := by decide +kernel
theorem dX5_remove_7 : decode cX5_remove 7 = .ok (.iconst 1, 1) := by decide +kernel
theorem dX5_remove_8 : decode cX5_remove 8 = .ok (.ireturn, 1) := by decide +kernel
theorem dX5_remove_9 : decode cX5_remove 9 = .ok (.aload_n 0, 1) := by decide +kernel
theorem dX5_remove_10 : decode cX5_remove 10 = .ok (.getfield 20, 3) := by decide +kernel
theorem dX5_remove_13 : decode cX5_remove 13 = .ok (.getfield 59, 3) := by decide +kernel
theorem dX5_remove_16 : decode cX5_remove 16 = .ok (.iload_n 1, 1) := by decide +kernel
theorem dX5_remove_17 : decode cX5_remove 17 = .ok (.aaload, 1) := by decide +kernel
theorem dX5_remove_18 : decode cX5_remove 18 = .ok (.astore_n 2, 1) := by decide +kernel
theorem dX5_remove_19 : decode cX5_remove 19 = .ok (.aload_n 2, 1) := by decide +kernel
theorem dX5_remove_20 : decode cX5_remove 20 = .ok (.getfield 63, 3) := by decide +kernel
theorem dX5_remove_23 : decode cX5_remove 23 = .ok (.ifCond .ne 5, 3) := by decide +kernel
theorem dX5_remove_26 : decode cX5_remove 26 = .ok (.iconst 3, 1) := by decide +kernel
theorem dX5_remove_27 : decode cX5_remove 27 = .ok (.ireturn, 1) := by decide +kernel
theorem dX5_remove_28 : decode cX5_remove 28 = .ok (.aload_n 2, 1) := by decide +kernel
theorem dX5_remove_29 : decode cX5_remove 29 = .ok (.getfield 63, 3) := by decide +kernel
theorem dX5_remove_32 : decode cX5_remove 32 = .ok (.iconst 5, 1) := by decide +kernel
theorem dX5_remove_33 : decode cX5_remove 33 = .ok (.if_icmp .eq 17, 3) := by decide +kernel
theorem dX5_remove_36 : decode cX5_remove 36 = .ok (.aload_n 0, 1) := by decide +kernel
theorem dX5_remove_37 : decode cX5_remove 37 = .ok (.aload_n 2, 1) := by decide +kernel
theorem dX5_remove_38 : decode cX5_remove 38 = .ok (.invokevirtual 139, 3) := by decide +kernel
theorem dX5_remove_41 : decode cX5_remove 41 = .ok (.getfield 68, 3) := by decide +kernel
theorem dX5_remove_44 : decode cX5_remove 44 = .ok (.iconst 2, 1) := by decide +kernel
theorem dX5_remove_45 : decode cX5_remove 45 = .ok (.if_icmp .eq 5, 3) := by decide +kernel
theorem dX5_remove_48 : decode cX5_remove 48 = .ok (.iconst 4, 1) := by decide +kernel
theorem dX5_remove_49 : decode cX5_remove 49 = .ok (.ireturn, 1) := by decide +kernel
theorem dX5_remove_50 : decode cX5_remove 50 = .ok (.aload_n 2, 1) := by decide +kernel
theorem dX5_remove_51 : decode cX5_remove 51 = .ok (.getfield 63, 3) := by decide +kernel
theorem dX5_remove_54 : decode cX5_remove 54 = .ok (.iconst 1, 1) := by decide +kernel
theorem dX5_remove_55 : decode cX5_remove 55 = .ok (.if_icmp .ne 17, 3) := by decide +kernel
theorem dX5_remove_58 : decode cX5_remove 58 = .ok (.aload_n 0, 1) := by decide +kernel
theorem dX5_remove_59 : decode cX5_remove 59 = .ok (.getfield 20, 3) := by decide +kernel
theorem dX5_remove_62 : decode cX5_remove 62 = .ok (.iload_n 1, 1) := by decide +kernel
theorem dX5_remove_63 : decode cX5_remove 63 = .ok (.invokevirtual 143, 3) := by decide +kernel
theorem dX5_remove_66 : decode cX5_remove 66 = .ok (.ifCond .le 6, 3) := by decide +kernel
theorem dX5_remove_69 : decode cX5_remove 69 = .ok (.bipush 7, 2) := by decide +kernel
theorem dX5_remove_71 : decode cX5_remove 71 = .ok (.ireturn, 1) := by decide +kernel
theorem dX5_remove_72 : decode cX5_remove 72 = .ok (.aload_n 0, 1) := by decide +kernel
theorem dX5_remove_73 : decode cX5_remove 73 = .ok (.getfield 20, 3) := by decide +kernel
theorem dX5_remove_76 : decode cX5_remove 76 = .ok (.iload_n 1, 1) := by decide +kernel
theorem dX5_remove_77 : decode cX5_remove 77 = .ok (.iconst 0, 1) := by decide +kernel
theorem dX5_remove_78 : decode cX5_remove 78 = .ok (.iconst (-1), 1) := by decide +kernel
theorem dX5_remove_79 : decode cX5_remove 79 = .ok (.invokevirtual 35, 3) := by decide +kernel
theorem dX5_remove_82 : decode cX5_remove 82 = .ok (.pop, 1) := by decide +kernel
theorem dX5_remove_83 : decode cX5_remove 83 = .ok (.iconst 0, 1) := by decide +kernel
theorem dX5_remove_84 : decode cX5_remove 84 = .ok (.ireturn, 1) := by decide +kernel
set_option maxRecDepth 20000 in
theorem ggX5_enter_X5_refusalOfRun : GoodIn wsX5_enter wsX5_refusalOfRun := goodIn_r _ [11, 1, 2, 12, 13, 14, 15, 16, 10, 17, 18, 19, 20, 21, 22, 146, 147, 148, 149, 150, 151, 152, 153, 154, 155, 156, 157, 158, 159, 160, 161, 162] (by decide +kernel) (by decide +kernel)
set_option maxRecDepth 20000 in
theorem gX5_enter_X5_refusalOfRun : GoodIn wsX5_enter (wsV RX5 147 RX5 yX5_refusalOfRun wsX5_refusalOfRun) := goodIn_app (goodIn_of _ (by decide +kernel)) ggX5_enter_X5_refusalOfRun
set_option maxRecDepth 20000 in
theorem ggX5_enter_J7_fill_53178 : GoodIn wsX5_enter wsJ7_fill_53178 := goodIn_r _ [26] (by decide +kernel) (by decide +kernel)
set_option maxRecDepth 20000 in
theorem gX5_enter_J7_fill_53178 : GoodIn wsX5_enter (va_wsS RX5 74 yJ7_fill_53178 wsJ7_fill_53178) := goodIn_app (goodIn_of _ (by decide +kernel)) ggX5_enter_J7_fill_53178
set_option maxRecDepth 20000 in
theorem ggX5_enter_X1_run : GoodIn wsX5_enter wsX1_run := goodIn_r _ [31, 32, 33, 34, 35, 36, 37, 38, 39, 40, 41, 42, 43, 44, 45, 46, 47, 48, 49, 50, 51, 52, 10, 53, 54, 55, 56, 30, 57, 58, 59, 60, 61, 62, 63, 64, 65, 66, 67, 68, 69, 70, 71, 72, 73, 74, 75, 76, 77, 78, 79, 80, 81, 82, 83, 84, 85, 86, 87, 88, 89, 90, 91, 92, 93, 94, 95, 96, 97, 98, 99, 100, 101, 102, 103, 104, 105, 106, 107, 108, 109, 110, 111, 112, 24, 25, 26, 113, 114, 115, 116, 117, 118, 119, 120, 121, 122, 123, 124, 125, 126, 127, 128, 129, 130, 16, 17, 131, 132, 133, 134, 135, 136, 137, 138, 139, 140, 141, 142, 143, 144, 145, 163, 164, 165, 166, 167, 168, 169, 170, 149, 150, 151, 152, 153, 154, 155, 156, 157, 158, 159, 160, 161, 162, 171, 172, 173, 174, 175] (by decide +kernel) (by decide +kernel)
set_option maxRecDepth 20000 in
theorem gX5_enter_X1_run : GoodIn wsX5_enter (wsV RX5 157 RX1 yX1_run wsX1_run) := goodIn_app (goodIn_of _ (by decide +kernel)) ggX5_enter_X1_run
theorem dX5_enter_0 : decode cX5_enter 0 = .ok (.aload_n 0, 1) := by decide +kernel
theorem dX5_enter_1 : decode cX5_enter 1 = .ok (.iload_n 1, 1) := by decide +kernel
theorem dX5_enter_2 : decode cX5_enter 2 = .ok (.iload 4, 2) := by decide +kernel
theorem dX5_enter_4 : decode cX5_enter 4 = .ok (.iconst 0, 1) := by decide +kernel
theorem dX5_enter_5 : decode cX5_enter 5 = .ok (.invokevirtual 147, 3) := by decide +kernel
theorem dX5_enter_8 : decode cX5_enter 8 = .ok (.istore 5, 2) := by decide +kernel
theorem dX5_enter_10 : decode cX5_enter 10 = .ok (.iload 5, 2) := by decide +kernel
theorem dX5_enter_12 : decode cX5_enter 12 = .ok (.ifCond .eq 6, 3) := by decide +kernel
theorem dX5_enter_15 : decode cX5_enter 15 = .ok (.iload 5, 2) := by decide +kernel
theorem dX5_enter_17 : decode cX5_enter 17 = .ok (.ireturn, 1) := by decide +kernel
theorem dX5_enter_18 : decode cX5_enter 18 = .ok (.aload_n 0, 1) := by decide +kernel
theorem dX5_enter_19 : decode cX5_enter 19 = .ok (.getfield 20, 3) := by decide +kernel
theorem dX5_enter_22 : decode cX5_enter 22 = .ok (.getfield 59, 3) := by decide +kernel
theorem dX5_enter_25 : decode cX5_enter 25 = .ok (.iload_n 1, 1) := by decide +kernel
theorem dX5_enter_26 : decode cX5_enter 26 = .ok (.aaload, 1) := by decide +kernel
theorem dX5_enter_27 : decode cX5_enter 27 = .ok (.astore 6, 2) := by decide +kernel
theorem dX5_enter_29 : decode cX5_enter 29 = .ok (.aload 6, 2) := by decide +kernel
theorem dX5_enter_31 : decode cX5_enter 31 = .ok (.getfield 151, 3) := by decide +kernel
theorem dX5_enter_34 : decode cX5_enter 34 = .ok (.iconst 0, 1) := by decide +kernel
theorem dX5_enter_35 : decode cX5_enter 35 = .ok (.invokestatic 74, 3) := by decide +kernel
theorem dX5_enter_38 : decode cX5_enter 38 = .ok (.aload 6, 2) := by decide +kernel
theorem dX5_enter_40 : decode cX5_enter 40 = .ok (.getfield 151, 3) := by decide +kernel
theorem dX5_enter_43 : decode cX5_enter 43 = .ok (.iconst 0, 1) := by decide +kernel
theorem dX5_enter_44 : decode cX5_enter 44 = .ok (.iload_n 2, 1) := by decide +kernel
theorem dX5_enter_45 : decode cX5_enter 45 = .ok (.iastore, 1) := by decide +kernel
theorem dX5_enter_46 : decode cX5_enter 46 = .ok (.aload 6, 2) := by decide +kernel
theorem dX5_enter_48 : decode cX5_enter 48 = .ok (.getfield 151, 3) := by decide +kernel
theorem dX5_enter_51 : decode cX5_enter 51 = .ok (.iconst 1, 1) := by decide +kernel
theorem dX5_enter_52 : decode cX5_enter 52 = .ok (.iload_n 3, 1) := by decide +kernel
theorem dX5_enter_53 : decode cX5_enter 53 = .ok (.iastore, 1) := by decide +kernel
theorem dX5_enter_54 : decode cX5_enter 54 = .ok (.aload 6, 2) := by decide +kernel
theorem dX5_enter_56 : decode cX5_enter 56 = .ok (.aload 6, 2) := by decide +kernel
theorem dX5_enter_58 : decode cX5_enter 58 = .ok (.getfield 88, 3) := by decide +kernel
theorem dX5_enter_61 : decode cX5_enter 61 = .ok (.putfield 154, 3) := by decide +kernel
theorem dX5_enter_64 : decode cX5_enter 64 = .ok (.aload_n 0, 1) := by decide +kernel
theorem dX5_enter_65 : decode cX5_enter 65 = .ok (.getfield 10, 3) := by decide +kernel
theorem dX5_enter_68 : decode cX5_enter 68 = .ok (.aload 6, 2) := by decide +kernel
theorem dX5_enter_70 : decode cX5_enter 70 = .ok (.iload 4, 2) := by decide +kernel
theorem dX5_enter_72 : decode cX5_enter 72 = .ok (.invokevirtual 157, 3) := by decide +kernel
theorem dX5_enter_75 : decode cX5_enter 75 = .ok (.ireturn, 1) := by decide +kernel
set_option maxRecDepth 20000 in
theorem ggX5_resume_X5_refusalOfRun : GoodIn wsX5_resume wsX5_refusalOfRun := goodIn_r _ [8, 2, 3, 9, 10, 11, 12, 13, 7, 14, 15, 16, 17, 18, 19, 142, 143, 144, 145, 146, 147, 148, 149, 150, 151, 152, 153, 154, 155, 156, 157, 158] (by decide +kernel) (by decide +kernel)
set_option maxRecDepth 20000 in
theorem gX5_resume_X5_refusalOfRun : GoodIn wsX5_resume (wsV RX5 147 RX5 yX5_refusalOfRun wsX5_refusalOfRun) := goodIn_app (goodIn_of _ (by decide +kernel)) ggX5_resume_X5_refusalOfRun
set_option maxRecDepth 20000 in
theorem ggX5_resume_X1_run : GoodIn wsX5_resume wsX1_run := goodIn_r _ [24, 25, 26, 27, 28, 29, 30, 31, 32, 33, 34, 35, 36, 37, 38, 39, 40, 41, 42, 43, 44, 45, 7, 46, 47, 48, 49, 23, 50, 51, 52, 53, 54, 55, 56, 57, 58, 59, 60, 61, 62, 63, 64, 65, 66, 67, 68, 69, 70, 71, 72, 73, 74, 75, 76, 77, 78, 79, 80, 81, 82, 83, 84, 85, 86, 87, 88, 89, 90, 91, 92, 93, 94, 95, 96, 97, 98, 99, 100, 101, 102, 103, 104, 105, 106, 107, 108, 109, 110, 111, 112, 113, 114, 115, 116, 117, 118, 119, 120, 121, 122, 123, 124, 125, 126, 13, 14, 127, 128, 129, 130, 131, 132, 133, 134, 135, 136, 137, 138, 139, 140, 141, 159, 160, 161, 162, 163, 164, 165, 166, 145, 146, 147, 148, 149, 150, 151, 152, 153, 154, 155, 156, 157, 158, 167, 168, 169, 170, 171] (by decide +kernel) (by decide +kernel)
set_option maxRecDepth 20000 in
theorem gX5_resume_X1_run : GoodIn wsX5_resume (wsV RX5 157 RX1 yX1_run wsX1_run) := goodIn_app (goodIn_of _ (by decide +kernel)) ggX5_resume_X1_run
theorem dX5_resume_0 : decode cX5_resume 0 = .ok (.aload_n 0, 1) := by decide +kernel
theorem dX5_resume_1 : decode cX5_resume 1 = .ok (.iload_n 1, 1) := by decide +kernel
theorem dX5_resume_2 : decode cX5_resume 2 = .ok (.iload_n 2, 1) := by decide +kernel
theorem dX5_resume_3 : decode cX5_resume 3 = .ok (.iconst 1, 1) := by decide +kernel
theorem dX5_resume_4 : decode cX5_resume 4 = .ok (.invokevirtual 147, 3) := by decide +kernel
theorem dX5_resume_7 : decode cX5_resume 7 = .ok (.istore_n 3, 1) := by decide +kernel
theorem dX5_resume_8 : decode cX5_resume 8 = .ok (.iload_n 3, 1) := by decide +kernel
theorem dX5_resume_9 : decode cX5_resume 9 = .ok (.ifCond .eq 5, 3) := by decide +kernel
theorem dX5_resume_12 : decode cX5_resume 12 = .ok (.iload_n 3, 1) := by decide +kernel
theorem dX5_resume_13 : decode cX5_resume 13 = .ok (.ireturn, 1) := by decide +kernel
theorem dX5_resume_14 : decode cX5_resume 14 = .ok (.aload_n 0, 1) := by decide +kernel
theorem dX5_resume_15 : decode cX5_resume 15 = .ok (.getfield 10, 3) := by decide +kernel
theorem dX5_resume_18 : decode cX5_resume 18 = .ok (.aload_n 0, 1) := by decide +kernel
theorem dX5_resume_19 : decode cX5_resume 19 = .ok (.getfield 20, 3) := by decide +kernel
theorem dX5_resume_22 : decode cX5_resume 22 = .ok (.getfield 59, 3) := by decide +kernel
theorem dX5_resume_25 : decode cX5_resume 25 = .ok (.iload_n 1, 1) := by decide +kernel
theorem dX5_resume_26 : decode cX5_resume 26 = .ok (.aaload, 1) := by decide +kernel
theorem dX5_resume_27 : decode cX5_resume 27 = .ok (.iload_n 2, 1) := by decide +kernel
theorem dX5_resume_28 : decode cX5_resume 28 = .ok (.invokevirtual 157, 3) := by decide +kernel
theorem dX5_resume_31 : decode cX5_resume 31 = .ok (.ireturn, 1) := by decide +kernel
theorem dX5_result_0 : decode cX5_result 0 = .ok (.aload_n 0, 1) := by decide +kernel
theorem dX5_result_1 : decode cX5_result 1 = .ok (.getfield 10, 3) := by decide +kernel
theorem dX5_result_4 : decode cX5_result 4 = .ok (.getfield 41, 3) := by decide +kernel
theorem dX5_result_7 : decode cX5_result 7 = .ok (.ireturn, 1) := by decide +kernel
theorem dX5_steps_0 : decode cX5_steps 0 = .ok (.aload_n 0, 1) := by decide +kernel
theorem dX5_steps_1 : decode cX5_steps 1 = .ok (.getfield 10, 3) := by decide +kernel
theorem dX5_steps_4 : decode cX5_steps 4 = .ok (.getfield 161, 3) := by decide +kernel
theorem dX5_steps_7 : decode cX5_steps 7 = .ok (.ireturn, 1) := by decide +kernel
set_option maxRecDepth 20000 in
theorem ggX5_told_X5_isPage : GoodIn wsX5_told wsX5_isPage := goodIn_r _ [12] (by decide +kernel) (by decide +kernel)
set_option maxRecDepth 20000 in
theorem gX5_told_X5_isPage : GoodIn wsX5_told (va_wsS RX5 56 yX5_isPage wsX5_isPage) := goodIn_app (goodIn_of _ (by decide +kernel)) ggX5_told_X5_isPage
set_option maxRecDepth 20000 in
theorem ggX5_told_X5_stateOf : GoodIn wsX5_told wsX5_stateOf := goodIn_r _ [15, 7, 16, 17, 30, 31, 32, 33, 34, 35, 36, 37, 38, 39, 40, 41] (by decide +kernel) (by decide +kernel)
set_option maxRecDepth 20000 in
theorem gX5_told_X5_stateOf : GoodIn wsX5_told (va_wsS RX5 164 yX5_stateOf wsX5_stateOf) := goodIn_app (goodIn_of _ (by decide +kernel)) ggX5_told_X5_stateOf
set_option maxRecDepth 20000 in
theorem ggX5_told_X4_countOwnedBy : GoodIn wsX5_told wsX4_countOwnedBy := goodIn_r _ [22, 23, 24, 28, 29, 30, 31, 32, 33, 34, 35, 36, 37, 38, 39, 40, 41] (by decide +kernel) (by decide +kernel)
set_option maxRecDepth 20000 in
theorem gX5_told_X4_countOwnedBy : GoodIn wsX5_told (wsV RX5 143 RX4 yX4_countOwnedBy wsX4_countOwnedBy) := goodIn_app (goodIn_of _ (by decide +kernel)) ggX5_told_X4_countOwnedBy
theorem dX5_told_0 : decode cX5_told 0 = .ok (.iload_n 1, 1) := by decide +kernel
theorem dX5_told_1 : decode cX5_told 1 = .ok (.invokestatic 56, 3) := by decide +kernel
theorem dX5_told_4 : decode cX5_told 4 = .ok (.ifCond .ne 11, 3) := by decide +kernel
theorem dX5_told_7 : decode cX5_told 7 = .ok (.new 26, 3) := by decide +kernel
theorem dX5_told_10 : decode cX5_told 10 = .ok (.dup, 1) := by decide +kernel
theorem dX5_told_11 : decode cX5_told 11 = .ok (.invokespecial 28, 3) := by decide +kernel
theorem dX5_told_14 : decode cX5_told 14 = .ok (.athrow, 1) := by decide +kernel
theorem dX5_told_15 : decode cX5_told 15 = .ok (.aload_n 0, 1) := by decide +kernel
theorem dX5_told_16 : decode cX5_told 16 = .ok (.getfield 20, 3) := by decide +kernel
theorem dX5_told_19 : decode cX5_told 19 = .ok (.getfield 59, 3) := by decide +kernel
theorem dX5_told_22 : decode cX5_told 22 = .ok (.iload_n 1, 1) := by decide +kernel
theorem dX5_told_23 : decode cX5_told 23 = .ok (.aaload, 1) := by decide +kernel
theorem dX5_told_24 : decode cX5_told 24 = .ok (.astore_n 3, 1) := by decide +kernel
theorem dX5_told_25 : decode cX5_told 25 = .ok (.iload_n 2, 1) := by decide +kernel
theorem dX5_told_26 : decode cX5_told 26 = .ok (.tableswitch 66 0 3 #[30, 35, 40, 45], 30) := by decide +kernel
theorem dX5_told_56 : decode cX5_told 56 = .ok (.aload_n 3, 1) := by decide +kernel
theorem dX5_told_57 : decode cX5_told 57 = .ok (.getfield 63, 3) := by decide +kernel
theorem dX5_told_60 : decode cX5_told 60 = .ok (.ireturn, 1) := by decide +kernel
theorem dX5_told_61 : decode cX5_told 61 = .ok (.aload_n 3, 1) := by decide +kernel
theorem dX5_told_62 : decode cX5_told 62 = .ok (.getfield 136, 3) := by decide +kernel
theorem dX5_told_65 : decode cX5_told 65 = .ok (.ireturn, 1) := by decide +kernel
theorem dX5_told_66 : decode cX5_told 66 = .ok (.aload_n 3, 1) := by decide +kernel
theorem dX5_told_67 : decode cX5_told 67 = .ok (.invokestatic 164, 3) := by decide +kernel
theorem dX5_told_70 : decode cX5_told 70 = .ok (.ireturn, 1) := by decide +kernel
theorem dX5_told_71 : decode cX5_told 71 = .ok (.aload_n 3, 1) := by decide +kernel
theorem dX5_told_72 : decode cX5_told 72 = .ok (.getfield 63, 3) := by decide +kernel
theorem dX5_told_75 : decode cX5_told 75 = .ok (.iconst 1, 1) := by decide +kernel
theorem dX5_told_76 : decode cX5_told 76 = .ok (.if_icmp .ne 14, 3) := by decide +kernel
theorem dX5_told_79 : decode cX5_told 79 = .ok (.aload_n 0, 1) := by decide +kernel
theorem dX5_told_80 : decode cX5_told 80 = .ok (.getfield 20, 3) := by decide +kernel
theorem dX5_told_83 : decode cX5_told 83 = .ok (.iload_n 1, 1) := by decide +kernel
theorem dX5_told_84 : decode cX5_told 84 = .ok (.invokevirtual 143, 3) := by decide +kernel
theorem dX5_told_87 : decode cX5_told 87 = .ok (.goto 4, 3) := by decide +kernel
theorem dX5_told_90 : decode cX5_told 90 = .ok (.iconst 0, 1) := by decide +kernel
theorem dX5_told_91 : decode cX5_told 91 = .ok (.ireturn, 1) := by decide +kernel
theorem dX5_told_92 : decode cX5_told 92 = .ok (.new 168, 3) := by decide +kernel
theorem dX5_told_95 : decode cX5_told 95 = .ok (.dup, 1) := by decide +kernel
theorem dX5_told_96 : decode cX5_told 96 = .ok (.invokespecial 170, 3) := by decide +kernel
theorem dX5_told_99 : decode cX5_told 99 = .ok (.athrow, 1) := by decide +kernel
set_option maxRecDepth 20000 in
theorem ggX5_measure_X5_isPage : GoodIn wsX5_measure wsX5_isPage := goodIn_r _ [13] (by decide +kernel) (by decide +kernel)
set_option maxRecDepth 20000 in
theorem gX5_measure_X5_isPage : GoodIn wsX5_measure (va_wsS RX5 56 yX5_isPage wsX5_isPage) := goodIn_app (goodIn_of _ (by decide +kernel)) ggX5_measure_X5_isPage
theorem dX5_measure_0 : decode cX5_measure 0 = .ok (.iload_n 1, 1) := by decide +kernel
theorem dX5_measure_1 : decode cX5_measure 1 = .ok (.invokestatic 56, 3) := by decide +kernel
theorem dX5_measure_4 : decode cX5_measure 4 = .ok (.ifCond .eq 13, 3) := by decide +kernel
theorem dX5_measure_7 : decode cX5_measure 7 = .ok (.iload_n 2, 1) := by decide +kernel
theorem dX5_measure_8 : decode cX5_measure 8 = .ok (.ifCond .lt 9, 3) := by decide +kernel
theorem dX5_measure_11 : decode cX5_measure 11 = .ok (.iload_n 2, 1) := by decide +kernel
theorem dX5_measure_12 : decode cX5_measure 12 = .ok (.bipush 8, 2) := by decide +kernel
theorem dX5_measure_14 : decode cX5_measure 14 = .ok (.if_icmp .lt 11, 3) := by decide +kernel
theorem dX5_measure_17 : decode cX5_measure 17 = .ok (.new 26, 3) := by decide +kernel
theorem dX5_measure_20 : decode cX5_measure 20 = .ok (.dup, 1) := by decide +kernel
theorem dX5_measure_21 : decode cX5_measure 21 = .ok (.invokespecial 28, 3) := by decide +kernel
theorem dX5_measure_24 : decode cX5_measure 24 = .ok (.athrow, 1) := by decide +kernel
theorem dX5_measure_25 : decode cX5_measure 25 = .ok (.aload_n 0, 1) := by decide +kernel
theorem dX5_measure_26 : decode cX5_measure 26 = .ok (.getfield 20, 3) := by decide +kernel
theorem dX5_measure_29 : decode cX5_measure 29 = .ok (.getfield 59, 3) := by decide +kernel
theorem dX5_measure_32 : decode cX5_measure 32 = .ok (.iload_n 1, 1) := by decide +kernel
theorem dX5_measure_33 : decode cX5_measure 33 = .ok (.aaload, 1) := by decide +kernel
theorem dX5_measure_34 : decode cX5_measure 34 = .ok (.astore_n 3, 1) := by decide +kernel
theorem dX5_measure_35 : decode cX5_measure 35 = .ok (.aload_n 3, 1) := by decide +kernel
theorem dX5_measure_36 : decode cX5_measure 36 = .ok (.getfield 63, 3) := by decide +kernel
theorem dX5_measure_39 : decode cX5_measure 39 = .ok (.iconst 1, 1) := by decide +kernel
theorem dX5_measure_40 : decode cX5_measure 40 = .ok (.if_icmp .ne 10, 3) := by decide +kernel
theorem dX5_measure_43 : decode cX5_measure 43 = .ok (.aload_n 3, 1) := by decide +kernel
theorem dX5_measure_44 : decode cX5_measure 44 = .ok (.getfield 171, 3) := by decide +kernel
theorem dX5_measure_47 : decode cX5_measure 47 = .ok (.ifCond .ne 11, 3) := by decide +kernel
theorem dX5_measure_50 : decode cX5_measure 50 = .ok (.new 174, 3) := by decide +kernel
theorem dX5_measure_53 : decode cX5_measure 53 = .ok (.dup, 1) := by decide +kernel
theorem dX5_measure_54 : decode cX5_measure 54 = .ok (.invokespecial 176, 3) := by decide +kernel
theorem dX5_measure_57 : decode cX5_measure 57 = .ok (.athrow, 1) := by decide +kernel
theorem dX5_measure_58 : decode cX5_measure 58 = .ok (.aload_n 3, 1) := by decide +kernel
theorem dX5_measure_59 : decode cX5_measure 59 = .ok (.getfield 177, 3) := by decide +kernel
theorem dX5_measure_62 : decode cX5_measure 62 = .ok (.iload_n 2, 1) := by decide +kernel
theorem dX5_measure_63 : decode cX5_measure 63 = .ok (.iaload, 1) := by decide +kernel
theorem dX5_measure_64 : decode cX5_measure 64 = .ok (.ireturn, 1) := by decide +kernel
theorem dX5_isPage_0 : decode cX5_isPage 0 = .ok (.iload_n 0, 1) := by decide +kernel
theorem dX5_isPage_1 : decode cX5_isPage 1 = .ok (.ifCond .lt 13, 3) := by decide +kernel
theorem dX5_isPage_4 : decode cX5_isPage 4 = .ok (.iload_n 0, 1) := by decide +kernel
theorem dX5_isPage_5 : decode cX5_isPage 5 = .ok (.bipush 20, 2) := by decide +kernel
theorem dX5_isPage_7 : decode cX5_isPage 7 = .ok (.if_icmp .ge 7, 3) := by decide +kernel
theorem dX5_isPage_10 : decode cX5_isPage 10 = .ok (.iconst 1, 1) := by decide +kernel
theorem dX5_isPage_11 : decode cX5_isPage 11 = .ok (.goto 4, 3) := by decide +kernel
theorem dX5_isPage_14 : decode cX5_isPage 14 = .ok (.iconst 0, 1) := by decide +kernel
theorem dX5_isPage_15 : decode cX5_isPage 15 = .ok (.ireturn, 1) := by decide +kernel
theorem dX5_isFrame_0 : decode cX5_isFrame 0 = .ok (.iload_n 0, 1) := by decide +kernel
theorem dX5_isFrame_1 : decode cX5_isFrame 1 = .ok (.ifCond .lt 13, 3) := by decide +kernel
theorem dX5_isFrame_4 : decode cX5_isFrame 4 = .ok (.iload_n 0, 1) := by decide +kernel
theorem dX5_isFrame_5 : decode cX5_isFrame 5 = .ok (.bipush 8, 2) := by decide +kernel
theorem dX5_isFrame_7 : decode cX5_isFrame 7 = .ok (.if_icmp .ge 7, 3) := by decide +kernel
theorem dX5_isFrame_10 : decode cX5_isFrame 10 = .ok (.iconst 1, 1) := by decide +kernel
theorem dX5_isFrame_11 : decode cX5_isFrame 11 = .ok (.goto 4, 3) := by decide +kernel
theorem dX5_isFrame_14 : decode cX5_isFrame 14 = .ok (.iconst 0, 1) := by decide +kernel
theorem dX5_isFrame_15 : decode cX5_isFrame 15 = .ok (.ireturn, 1) := by decide +kernel
theorem dX5_isWord_0 : decode cX5_isWord 0 = .ok (.iload_n 0, 1) := by decide +kernel
theorem dX5_isWord_1 : decode cX5_isWord 1 = .ok (.ifCond .lt 13, 3) := by decide +kernel
theorem dX5_isWord_4 : decode cX5_isWord 4 = .ok (.iload_n 0, 1) := by decide +kernel
theorem dX5_isWord_5 : decode cX5_isWord 5 = .ok (.bipush 16, 2) := by decide +kernel
theorem dX5_isWord_7 : decode cX5_isWord 7 = .ok (.if_icmp .ge 7, 3) := by decide +kernel
theorem dX5_isWord_10 : decode cX5_isWord 10 = .ok (.iconst 1, 1) := by decide +kernel
theorem dX5_isWord_11 : decode cX5_isWord 11 = .ok (.goto 4, 3) := by decide +kernel
theorem dX5_isWord_14 : decode cX5_isWord 14 = .ok (.iconst 0, 1) := by decide +kernel
theorem dX5_isWord_15 : decode cX5_isWord 15 = .ok (.ireturn, 1) := by decide +kernel
theorem dX5_isBlock_0 : decode cX5_isBlock 0 = .ok (.iload_n 0, 1) := by decide +kernel
theorem dX5_isBlock_1 : decode cX5_isBlock 1 = .ok (.ifCond .lt 13, 3) := by decide +kernel
theorem dX5_isBlock_4 : decode cX5_isBlock 4 = .ok (.iload_n 0, 1) := by decide +kernel
theorem dX5_isBlock_5 : decode cX5_isBlock 5 = .ok (.bipush 32, 2) := by decide +kernel
theorem dX5_isBlock_7 : decode cX5_isBlock 7 = .ok (.if_icmp .ge 7, 3) := by decide +kernel
theorem dX5_isBlock_10 : decode cX5_isBlock 10 = .ok (.iconst 1, 1) := by decide +kernel
theorem dX5_isBlock_11 : decode cX5_isBlock 11 = .ok (.goto 4, 3) := by decide +kernel
theorem dX5_isBlock_14 : decode cX5_isBlock 14 = .ok (.iconst 0, 1) := by decide +kernel
theorem dX5_isBlock_15 : decode cX5_isBlock 15 = .ok (.ireturn, 1) := by decide +kernel
theorem dX5_areDataRights_0 : decode cX5_areDataRights 0 = .ok (.iload_n 0, 1) := by decide +kernel
theorem dX5_areDataRights_1 : decode cX5_areDataRights 1 = .ok (.iconst 1, 1) := by decide +kernel
theorem dX5_areDataRights_2 : decode cX5_areDataRights 2 = .ok (.if_icmp .lt 13, 3) := by decide +kernel
theorem dX5_areDataRights_5 : decode cX5_areDataRights 5 = .ok (.iload_n 0, 1) := by decide +kernel
theorem dX5_areDataRights_6 : decode cX5_areDataRights 6 = .ok (.bipush 7, 2) := by decide +kernel
theorem dX5_areDataRights_8 : decode cX5_areDataRights 8 = .ok (.if_icmp .gt 7, 3) := by decide +kernel
theorem dX5_areDataRights_11 : decode cX5_areDataRights 11 = .ok (.iconst 1, 1) := by decide +kernel
theorem dX5_areDataRights_12 : decode cX5_areDataRights 12 = .ok (.goto 4, 3) := by decide +kernel
theorem dX5_areDataRights_15 : decode cX5_areDataRights 15 = .ok (.iconst 0, 1) := by decide +kernel
theorem dX5_areDataRights_16 : decode cX5_areDataRights 16 = .ok (.ireturn, 1) := by decide +kernel
theorem dX5_stateOf_0 : decode cX5_stateOf 0 = .ok (.aload_n 0, 1) := by decide +kernel
theorem dX5_stateOf_1 : decode cX5_stateOf 1 = .ok (.getfield 63, 3) := by decide +kernel
theorem dX5_stateOf_4 : decode cX5_stateOf 4 = .ok (.iconst 1, 1) := by decide +kernel
theorem dX5_stateOf_5 : decode cX5_stateOf 5 = .ok (.if_icmp .ne 8, 3) := by decide +kernel
theorem dX5_stateOf_8 : decode cX5_stateOf 8 = .ok (.aload_n 0, 1) := by decide +kernel
theorem dX5_stateOf_9 : decode cX5_stateOf 9 = .ok (.getfield 68, 3) := by decide +kernel
theorem dX5_stateOf_12 : decode cX5_stateOf 12 = .ok (.ireturn, 1) := by decide +kernel
theorem dX5_stateOf_13 : decode cX5_stateOf 13 = .ok (.aload_n 0, 1) := by decide +kernel
theorem dX5_stateOf_14 : decode cX5_stateOf 14 = .ok (.getfield 63, 3) := by decide +kernel
theorem dX5_stateOf_17 : decode cX5_stateOf 17 = .ok (.iconst 2, 1) := by decide +kernel
theorem dX5_stateOf_18 : decode cX5_stateOf 18 = .ok (.if_icmp .ne 14, 3) := by decide +kernel
theorem dX5_stateOf_21 : decode cX5_stateOf 21 = .ok (.aload_n 0, 1) := by decide +kernel
theorem dX5_stateOf_22 : decode cX5_stateOf 22 = .ok (.getfield 91, 3) := by decide +kernel
theorem dX5_stateOf_25 : decode cX5_stateOf 25 = .ok (.ifCond .eq 7, 3) := by decide +kernel
theorem dX5_stateOf_28 : decode cX5_stateOf 28 = .ok (.iconst 1, 1) := by decide +kernel
theorem dX5_stateOf_29 : decode cX5_stateOf 29 = .ok (.goto 4, 3) := by decide +kernel
theorem dX5_stateOf_32 : decode cX5_stateOf 32 = .ok (.iconst 0, 1) := by decide +kernel
theorem dX5_stateOf_33 : decode cX5_stateOf 33 = .ok (.ireturn, 1) := by decide +kernel
theorem dX5_homeOf_0 : decode cX5_homeOf 0 = .ok (.aload_n 1, 1) := by decide +kernel
theorem dX5_homeOf_1 : decode cX5_homeOf 1 = .ok (.getfield 63, 3) := by decide +kernel
theorem dX5_homeOf_4 : decode cX5_homeOf 4 = .ok (.iconst 1, 1) := by decide +kernel
theorem dX5_homeOf_5 : decode cX5_homeOf 5 = .ok (.if_icmp .ne 7, 3) := by decide +kernel
theorem dX5_homeOf_8 : decode cX5_homeOf 8 = .ok (.aload_n 1, 1) := by decide +kernel
theorem dX5_homeOf_9 : decode cX5_homeOf 9 = .ok (.goto 15, 3) := by decide +kernel
theorem dX5_homeOf_12 : decode cX5_homeOf 12 = .ok (.aload_n 0, 1) := by decide +kernel
theorem dX5_homeOf_13 : decode cX5_homeOf 13 = .ok (.getfield 20, 3) := by decide +kernel
theorem dX5_homeOf_16 : decode cX5_homeOf 16 = .ok (.getfield 59, 3) := by decide +kernel
theorem dX5_homeOf_19 : decode cX5_homeOf 19 = .ok (.aload_n 1, 1) := by decide +kernel
theorem dX5_homeOf_20 : decode cX5_homeOf 20 = .ok (.getfield 136, 3) := by decide +kernel
theorem dX5_homeOf_23 : decode cX5_homeOf 23 = .ok (.aaload, 1) := by decide +kernel
theorem dX5_homeOf_24 : decode cX5_homeOf 24 = .ok (.areturn, 1) := by decide +kernel
theorem dX5_refusalOfSpace_0 : decode cX5_refusalOfSpace 0 = .ok (.aload_n 0, 1) := by decide +kernel
theorem dX5_refusalOfSpace_1 : decode cX5_refusalOfSpace 1 = .ok (.getfield 20, 3) := by decide +kernel
theorem dX5_refusalOfSpace_4 : decode cX5_refusalOfSpace 4 = .ok (.getfield 59, 3) := by decide +kernel
theorem dX5_refusalOfSpace_7 : decode cX5_refusalOfSpace 7 = .ok (.iload_n 1, 1) := by decide +kernel
theorem dX5_refusalOfSpace_8 : decode cX5_refusalOfSpace 8 = .ok (.aaload, 1) := by decide +kernel
theorem dX5_refusalOfSpace_9 : decode cX5_refusalOfSpace 9 = .ok (.astore_n 3, 1) := by decide +kernel
theorem dX5_refusalOfSpace_10 : decode cX5_refusalOfSpace 10 = .ok (.aload_n 3, 1) := by decide +kernel
theorem dX5_refusalOfSpace_11 : decode cX5_refusalOfSpace 11 = .ok (.getfield 63, 3) := by decide +kernel
theorem dX5_refusalOfSpace_14 : decode cX5_refusalOfSpace 14 = .ok (.iconst 1, 1) := by decide +kernel
theorem dX5_refusalOfSpace_15 : decode cX5_refusalOfSpace 15 = .ok (.if_icmp .eq 5, 3) := by decide +kernel
theorem dX5_refusalOfSpace_18 : decode cX5_refusalOfSpace 18 = .ok (.iconst 3, 1) := by decide +kernel
theorem dX5_refusalOfSpace_19 : decode cX5_refusalOfSpace 19 = .ok (.ireturn, 1) := by decide +kernel
theorem dX5_refusalOfSpace_20 : decode cX5_refusalOfSpace 20 = .ok (.aload_n 3, 1) := by decide +kernel
theorem dX5_refusalOfSpace_21 : decode cX5_refusalOfSpace 21 = .ok (.getfield 68, 3) := by decide +kernel
theorem dX5_refusalOfSpace_24 : decode cX5_refusalOfSpace 24 = .ok (.iload_n 2, 1) := by decide +kernel
theorem dX5_refusalOfSpace_25 : decode cX5_refusalOfSpace 25 = .ok (.if_icmp .gt 7, 3) := by decide +kernel
theorem dX5_refusalOfSpace_28 : decode cX5_refusalOfSpace 28 = .ok (.iconst 0, 1) := by decide +kernel
theorem dX5_refusalOfSpace_29 : decode cX5_refusalOfSpace 29 = .ok (.goto 4, 3) := by decide +kernel
theorem dX5_refusalOfSpace_32 : decode cX5_refusalOfSpace 32 = .ok (.iconst 4, 1) := by decide +kernel
theorem dX5_refusalOfSpace_33 : decode cX5_refusalOfSpace 33 = .ok (.ireturn, 1) := by decide +kernel
set_option maxRecDepth 20000 in
theorem ggX5_refusalOfNew_X5_refusalOfSpace : GoodIn wsX5_refusalOfNew wsX5_refusalOfSpace := goodIn_r _ [8, 1, 2, 3, 9, 10, 11, 12, 13, 14, 15, 16, 17, 18, 19, 20, 21, 22, 23, 24, 25, 26] (by decide +kernel) (by decide +kernel)
set_option maxRecDepth 20000 in
theorem gX5_refusalOfNew_X5_refusalOfSpace : GoodIn wsX5_refusalOfNew (wsV RX5 129 RX5 yX5_refusalOfSpace wsX5_refusalOfSpace) := goodIn_app (goodIn_of _ (by decide +kernel)) ggX5_refusalOfNew_X5_refusalOfSpace
theorem dX5_refusalOfNew_0 : decode cX5_refusalOfNew 0 = .ok (.aload_n 0, 1) := by decide +kernel
theorem dX5_refusalOfNew_1 : decode cX5_refusalOfNew 1 = .ok (.getfield 20, 3) := by decide +kernel
theorem dX5_refusalOfNew_4 : decode cX5_refusalOfNew 4 = .ok (.getfield 59, 3) := by decide +kernel
theorem dX5_refusalOfNew_7 : decode cX5_refusalOfNew 7 = .ok (.iload_n 1, 1) := by decide +kernel
theorem dX5_refusalOfNew_8 : decode cX5_refusalOfNew 8 = .ok (.aaload, 1) := by decide +kernel
theorem dX5_refusalOfNew_9 : decode cX5_refusalOfNew 9 = .ok (.getfield 63, 3) := by decide +kernel
theorem dX5_refusalOfNew_12 : decode cX5_refusalOfNew 12 = .ok (.ifCond .eq 7, 3) := by decide +kernel
theorem dX5_refusalOfNew_15 : decode cX5_refusalOfNew 15 = .ok (.iconst 2, 1) := by decide +kernel
theorem dX5_refusalOfNew_16 : decode cX5_refusalOfNew 16 = .ok (.goto 9, 3) := by decide +kernel
theorem dX5_refusalOfNew_19 : decode cX5_refusalOfNew 19 = .ok (.aload_n 0, 1) := by decide +kernel
theorem dX5_refusalOfNew_20 : decode cX5_refusalOfNew 20 = .ok (.iload_n 2, 1) := by decide +kernel
theorem dX5_refusalOfNew_21 : decode cX5_refusalOfNew 21 = .ok (.iload_n 3, 1) := by decide +kernel
theorem dX5_refusalOfNew_22 : decode cX5_refusalOfNew 22 = .ok (.invokevirtual 129, 3) := by decide +kernel
theorem dX5_refusalOfNew_25 : decode cX5_refusalOfNew 25 = .ok (.ireturn, 1) := by decide +kernel
set_option maxRecDepth 20000 in
theorem ggX5_refusalOfRun_X5_isPage : GoodIn wsX5_refusalOfRun wsX5_isPage := goodIn_r _ [9] (by decide +kernel) (by decide +kernel)
set_option maxRecDepth 20000 in
theorem gX5_refusalOfRun_X5_isPage : GoodIn wsX5_refusalOfRun (va_wsS RX5 56 yX5_isPage wsX5_isPage) := goodIn_app (goodIn_of _ (by decide +kernel)) ggX5_refusalOfRun_X5_isPage
set_option maxRecDepth 20000 in
theorem ggX5_refusalOfRun_X5_homeOf : GoodIn wsX5_refusalOfRun wsX5_homeOf := goodIn_r _ [13, 3, 1, 2, 14, 20, 21, 22, 23, 24, 25, 26, 27, 28, 29, 30, 31, 15, 16, 17, 18, 19] (by decide +kernel) (by decide +kernel)
set_option maxRecDepth 20000 in
theorem gX5_refusalOfRun_X5_homeOf : GoodIn wsX5_refusalOfRun (wsV RX5 139 RX5 yX5_homeOf wsX5_homeOf) := goodIn_app (goodIn_of _ (by decide +kernel)) ggX5_refusalOfRun_X5_homeOf
theorem dX5_refusalOfRun_0 : decode cX5_refusalOfRun 0 = .ok (.iload_n 1, 1) := by decide +kernel
theorem dX5_refusalOfRun_1 : decode cX5_refusalOfRun 1 = .ok (.invokestatic 56, 3) := by decide +kernel
theorem dX5_refusalOfRun_4 : decode cX5_refusalOfRun 4 = .ok (.ifCond .eq 15, 3) := by decide +kernel
theorem dX5_refusalOfRun_7 : decode cX5_refusalOfRun 7 = .ok (.iload_n 2, 1) := by decide +kernel
theorem dX5_refusalOfRun_8 : decode cX5_refusalOfRun 8 = .ok (.iconst 1, 1) := by decide +kernel
theorem dX5_refusalOfRun_9 : decode cX5_refusalOfRun 9 = .ok (.if_icmp .lt 10, 3) := by decide +kernel
theorem dX5_refusalOfRun_12 : decode cX5_refusalOfRun 12 = .ok (.iload_n 2, 1) := by decide +kernel
theorem dX5_refusalOfRun_13 : decode cX5_refusalOfRun 13 = .ok (.sipush 2000, 3) := by decide +kernel
theorem dX5_refusalOfRun_16 : decode cX5_refusalOfRun 16 = .ok (.if_icmp .le 5, 3) := by decide +kernel
theorem dX5_refusalOfRun_19 : decode cX5_refusalOfRun 19 = .ok (.iconst 1, 1) := by decide +kernel
theorem dX5_refusalOfRun_20 : decode cX5_refusalOfRun 20 = .ok (.ireturn, 1) := by decide +kernel
theorem dX5_refusalOfRun_21 : decode cX5_refusalOfRun 21 = .ok (.aload_n 0, 1) := by decide +kernel
theorem dX5_refusalOfRun_22 : decode cX5_refusalOfRun 22 = .ok (.getfield 20, 3) := by decide +kernel
theorem dX5_refusalOfRun_25 : decode cX5_refusalOfRun 25 = .ok (.getfield 59, 3) := by decide +kernel
theorem dX5_refusalOfRun_28 : decode cX5_refusalOfRun 28 = .ok (.iload_n 1, 1) := by decide +kernel
theorem dX5_refusalOfRun_29 : decode cX5_refusalOfRun 29 = .ok (.aaload, 1) := by decide +kernel
theorem dX5_refusalOfRun_30 : decode cX5_refusalOfRun 30 = .ok (.astore 4, 2) := by decide +kernel
theorem dX5_refusalOfRun_32 : decode cX5_refusalOfRun 32 = .ok (.aload 4, 2) := by decide +kernel
theorem dX5_refusalOfRun_34 : decode cX5_refusalOfRun 34 = .ok (.getfield 63, 3) := by decide +kernel
theorem dX5_refusalOfRun_37 : decode cX5_refusalOfRun 37 = .ok (.iconst 2, 1) := by decide +kernel
theorem dX5_refusalOfRun_38 : decode cX5_refusalOfRun 38 = .ok (.if_icmp .eq 5, 3) := by decide +kernel
theorem dX5_refusalOfRun_41 : decode cX5_refusalOfRun 41 = .ok (.iconst 3, 1) := by decide +kernel
theorem dX5_refusalOfRun_42 : decode cX5_refusalOfRun 42 = .ok (.ireturn, 1) := by decide +kernel
theorem dX5_refusalOfRun_43 : decode cX5_refusalOfRun 43 = .ok (.aload_n 0, 1) := by decide +kernel
theorem dX5_refusalOfRun_44 : decode cX5_refusalOfRun 44 = .ok (.aload 4, 2) := by decide +kernel
theorem dX5_refusalOfRun_46 : decode cX5_refusalOfRun 46 = .ok (.invokevirtual 139, 3) := by decide +kernel
theorem dX5_refusalOfRun_49 : decode cX5_refusalOfRun 49 = .ok (.getfield 68, 3) := by decide +kernel
theorem dX5_refusalOfRun_52 : decode cX5_refusalOfRun 52 = .ok (.iconst 1, 1) := by decide +kernel
theorem dX5_refusalOfRun_53 : decode cX5_refusalOfRun 53 = .ok (.if_icmp .eq 5, 3) := by decide +kernel
theorem dX5_refusalOfRun_56 : decode cX5_refusalOfRun 56 = .ok (.iconst 4, 1) := by decide +kernel
theorem dX5_refusalOfRun_57 : decode cX5_refusalOfRun 57 = .ok (.ireturn, 1) := by decide +kernel
theorem dX5_refusalOfRun_58 : decode cX5_refusalOfRun 58 = .ok (.aload 4, 2) := by decide +kernel
theorem dX5_refusalOfRun_60 : decode cX5_refusalOfRun 60 = .ok (.getfield 91, 3) := by decide +kernel
theorem dX5_refusalOfRun_63 : decode cX5_refusalOfRun 63 = .ok (.iload_n 3, 1) := by decide +kernel
theorem dX5_refusalOfRun_64 : decode cX5_refusalOfRun 64 = .ok (.if_icmp .ne 7, 3) := by decide +kernel
theorem dX5_refusalOfRun_67 : decode cX5_refusalOfRun 67 = .ok (.iconst 0, 1) := by decide +kernel
theorem dX5_refusalOfRun_68 : decode cX5_refusalOfRun 68 = .ok (.goto 5, 3) := by decide +kernel
theorem dX5_refusalOfRun_71 : decode cX5_refusalOfRun 71 = .ok (.bipush 6, 2) := by decide +kernel
theorem dX5_refusalOfRun_73 : decode cX5_refusalOfRun 73 = .ok (.ireturn, 1) := by decide +kernel
set_option maxRecDepth 20000 in
theorem ggX6_init_X6_free : GoodIn wsX6_init wsX6_free := goodIn_r _ [106, 7, 8, 107, 108, 109, 110, 111, 112, 113, 114, 115, 116, 117, 118, 119, 120, 121, 122, 123, 124, 125, 126, 127, 128, 129, 130, 131, 132, 133, 134, 135, 136, 137, 138, 139] (by decide +kernel) (by decide +kernel)
set_option maxRecDepth 20000 in
theorem gX6_init_X6_free : GoodIn wsX6_init (wsV RX6 155 RX6 yX6_free wsX6_free) := goodIn_app (goodIn_of _ (by decide +kernel)) ggX6_init_X6_free
theorem dX6_init_0 : decode cX6_init 0 = .ok (.aload_n 0, 1) := by decide +kernel
theorem dX6_init_1 : decode cX6_init 1 = .ok (.invokespecial 1, 3) := by decide +kernel
theorem dX6_init_4 : decode cX6_init 4 = .ok (.aload_n 0, 1) := by decide +kernel
theorem dX6_init_5 : decode cX6_init 5 = .ok (.bipush 8, 2) := by decide +kernel
theorem dX6_init_7 : decode cX6_init 7 = .ok (.newarray .int, 2) := by decide +kernel
theorem dX6_init_9 : decode cX6_init 9 = .ok (.putfield 7, 3) := by decide +kernel
theorem dX6_init_12 : decode cX6_init 12 = .ok (.aload_n 0, 1) := by decide +kernel
theorem dX6_init_13 : decode cX6_init 13 = .ok (.sipush 128, 3) := by decide +kernel
theorem dX6_init_16 : decode cX6_init 16 = .ok (.newarray .int, 2) := by decide +kernel
theorem dX6_init_18 : decode cX6_init 18 = .ok (.putfield 13, 3) := by decide +kernel
theorem dX6_init_21 : decode cX6_init 21 = .ok (.aload_n 0, 1) := by decide +kernel
theorem dX6_init_22 : decode cX6_init 22 = .ok (.bipush 20, 2) := by decide +kernel
theorem dX6_init_24 : decode cX6_init 24 = .ok (.newarray .int, 2) := by decide +kernel
theorem dX6_init_26 : decode cX6_init 26 = .ok (.putfield 16, 3) := by decide +kernel
theorem dX6_init_29 : decode cX6_init 29 = .ok (.aload_n 0, 1) := by decide +kernel
theorem dX6_init_30 : decode cX6_init 30 = .ok (.bipush 20, 2) := by decide +kernel
theorem dX6_init_32 : decode cX6_init 32 = .ok (.newarray .int, 2) := by decide +kernel
theorem dX6_init_34 : decode cX6_init 34 = .ok (.putfield 19, 3) := by decide +kernel
theorem dX6_init_37 : decode cX6_init 37 = .ok (.aload_n 0, 1) := by decide +kernel
theorem dX6_init_38 : decode cX6_init 38 = .ok (.bipush 20, 2) := by decide +kernel
theorem dX6_init_40 : decode cX6_init 40 = .ok (.newarray .int, 2) := by decide +kernel
theorem dX6_init_42 : decode cX6_init 42 = .ok (.putfield 22, 3) := by decide +kernel
theorem dX6_init_45 : decode cX6_init 45 = .ok (.aload_n 0, 1) := by decide +kernel
theorem dX6_init_46 : decode cX6_init 46 = .ok (.sipush 320, 3) := by decide +kernel
theorem dX6_init_49 : decode cX6_init 49 = .ok (.newarray .int, 2) := by decide +kernel
theorem dX6_init_51 : decode cX6_init 51 = .ok (.putfield 25, 3) := by decide +kernel
theorem dX6_init_54 : decode cX6_init 54 = .ok (.aload_n 0, 1) := by decide +kernel
theorem dX6_init_55 : decode cX6_init 55 = .ok (.sipush 160, 3) := by decide +kernel
theorem dX6_init_58 : decode cX6_init 58 = .ok (.newarray .int, 2) := by decide +kernel
theorem dX6_init_60 : decode cX6_init 60 = .ok (.putfield 28, 3) := by decide +kernel
theorem dX6_init_63 : decode cX6_init 63 = .ok (.aload_n 0, 1) := by decide +kernel
theorem dX6_init_64 : decode cX6_init 64 = .ok (.sipush 160, 3) := by decide +kernel
theorem dX6_init_67 : decode cX6_init 67 = .ok (.newarray .int, 2) := by decide +kernel
theorem dX6_init_69 : decode cX6_init 69 = .ok (.putfield 31, 3) := by decide +kernel
theorem dX6_init_72 : decode cX6_init 72 = .ok (.aload_n 0, 1) := by decide +kernel
theorem dX6_init_73 : decode cX6_init 73 = .ok (.bipush 80, 2) := by decide +kernel
theorem dX6_init_75 : decode cX6_init 75 = .ok (.newarray .int, 2) := by decide +kernel
theorem dX6_init_77 : decode cX6_init 77 = .ok (.putfield 34, 3) := by decide +kernel
theorem dX6_init_80 : decode cX6_init 80 = .ok (.aload_n 0, 1) := by decide +kernel
theorem dX6_init_81 : decode cX6_init 81 = .ok (.sipush 32000, 3) := by decide +kernel
theorem dX6_init_84 : decode cX6_init 84 = .ok (.newarray .int, 2) := by decide +kernel
theorem dX6_init_86 : decode cX6_init 86 = .ok (.putfield 37, 3) := by decide +kernel
theorem dX6_init_89 : decode cX6_init 89 = .ok (.aload_n 0, 1) := by decide +kernel
theorem dX6_init_90 : decode cX6_init 90 = .ok (.bipush 20, 2) := by decide +kernel
theorem dX6_init_92 : decode cX6_init 92 = .ok (.newarray .int, 2) := by decide +kernel
theorem dX6_init_94 : decode cX6_init 94 = .ok (.putfield 40, 3) := by decide +kernel
theorem dX6_init_97 : decode cX6_init 97 = .ok (.aload_n 0, 1) := by decide +kernel
theorem dX6_init_98 : decode cX6_init 98 = .ok (.sipush 160, 3) := by decide +kernel
theorem dX6_init_101 : decode cX6_init 101 = .ok (.newarray .int, 2) := by decide +kernel
theorem dX6_init_103 : decode cX6_init 103 = .ok (.putfield 43, 3) := by decide +kernel
theorem dX6_init_106 : decode cX6_init 106 = .ok (.aload_n 0, 1) := by decide +kernel
theorem dX6_init_107 : decode cX6_init 107 = .ok (.bipush 20, 2) := by decide +kernel
theorem dX6_init_109 : decode cX6_init 109 = .ok (.newarray .boolean, 2) := by decide +kernel
theorem dX6_init_111 : decode cX6_init 111 = .ok (.putfield 46, 3) := by decide +kernel
theorem dX6_init_114 : decode cX6_init 114 = .ok (.aload_n 0, 1) := by decide +kernel
theorem dX6_init_115 : decode cX6_init 115 = .ok (.bipush 20, 2) := by decide +kernel
theorem dX6_init_117 : decode cX6_init 117 = .ok (.newarray .int, 2) := by decide +kernel
theorem dX6_init_119 : decode cX6_init 119 = .ok (.putfield 50, 3) := by decide +kernel
theorem dX6_init_122 : decode cX6_init 122 = .ok (.aload_n 0, 1) := by decide +kernel
theorem dX6_init_123 : decode cX6_init 123 = .ok (.bipush 20, 2) := by decide +kernel
theorem dX6_init_125 : decode cX6_init 125 = .ok (.newarray .boolean, 2) := by decide +kernel
theorem dX6_init_127 : decode cX6_init 127 = .ok (.putfield 53, 3) := by decide +kernel
theorem dX6_init_130 : decode cX6_init 130 = .ok (.aload_n 0, 1) := by decide +kernel
theorem dX6_init_131 : decode cX6_init 131 = .ok (.bipush 100, 2) := by decide +kernel
theorem dX6_init_133 : decode cX6_init 133 = .ok (.newarray .int, 2) := by decide +kernel
theorem dX6_init_135 : decode cX6_init 135 = .ok (.putfield 56, 3) := by decide +kernel
theorem dX6_init_138 : decode cX6_init 138 = .ok (.aload_n 0, 1) := by decide +kernel
theorem dX6_init_139 : decode cX6_init 139 = .ok (.iconst 4, 1) := by decide +kernel
theorem dX6_init_140 : decode cX6_init 140 = .ok (.newarray .int, 2) := by decide +kernel
theorem dX6_init_142 : decode cX6_init 142 = .ok (.putfield 59, 3) := by decide +kernel
theorem dX6_init_145 : decode cX6_init 145 = .ok (.aload_n 0, 1) := by decide +kernel
theorem dX6_init_146 : decode cX6_init 146 = .ok (.bipush 64, 2) := by decide +kernel
theorem dX6_init_148 : decode cX6_init 148 = .ok (.newarray .int, 2) := by decide +kernel
theorem dX6_init_150 : decode cX6_init 150 = .ok (.dup, 1) := by decide +kernel
theorem dX6_init_151 : decode cX6_init 151 = .ok (.iconst 0, 1) := by decide +kernel
theorem dX6_init_152 : decode cX6_init 152 = .ok (.ldc 62, 2) := by decide +kernel
theorem dX6_init_154 : decode cX6_init 154 = .ok (.iastore, 1) := by decide +kernel
theorem dX6_init_155 : decode cX6_init 155 = .ok (.dup, 1) := by decide +kernel
theorem dX6_init_156 : decode cX6_init 156 = .ok (.iconst 1, 1) := by decide +kernel
theorem dX6_init_157 : decode cX6_init 157 = .ok (.ldc 63, 2) := by decide +kernel
theorem dX6_init_159 : decode cX6_init 159 = .ok (.iastore, 1) := by decide +kernel
theorem dX6_init_160 : decode cX6_init 160 = .ok (.dup, 1) := by decide +kernel
theorem dX6_init_161 : decode cX6_init 161 = .ok (.iconst 2, 1) := by decide +kernel
theorem dX6_init_162 : decode cX6_init 162 = .ok (.ldc 64, 2) := by decide +kernel
theorem dX6_init_164 : decode cX6_init 164 = .ok (.iastore, 1) := by decide +kernel
theorem dX6_init_165 : decode cX6_init 165 = .ok (.dup, 1) := by decide +kernel
theorem dX6_init_166 : decode cX6_init 166 = .ok (.iconst 3, 1) := by decide +kernel
theorem dX6_init_167 : decode cX6_init 167 = .ok (.ldc 65, 2) := by decide +kernel
theorem dX6_init_169 : decode cX6_init 169 = .ok (.iastore, 1) := by decide +kernel
theorem dX6_init_170 : decode cX6_init 170 = .ok (.dup, 1) := by decide +kernel
theorem dX6_init_171 : decode cX6_init 171 = .ok (.iconst 4, 1) := by decide +kernel
theorem dX6_init_172 : decode cX6_init 172 = .ok (.ldc 66, 2) := by decide +kernel
theorem dX6_init_174 : decode cX6_init 174 = .ok (.iastore, 1) := by decide +kernel
theorem dX6_init_175 : decode cX6_init 175 = .ok (.dup, 1) := by decide +kernel
theorem dX6_init_176 : decode cX6_init 176 = .ok (.iconst 5, 1) := by decide +kernel
theorem dX6_init_177 : decode cX6_init 177 = .ok (.ldc 67, 2) := by decide +kernel
theorem dX6_init_179 : decode cX6_init 179 = .ok (.iastore, 1) := by decide +kernel
theorem dX6_init_180 : decode cX6_init 180 = .ok (.dup, 1) := by decide +kernel
theorem dX6_init_181 : decode cX6_init 181 = .ok (.bipush 6, 2) := by decide +kernel
theorem dX6_init_183 : decode cX6_init 183 = .ok (.ldc 68, 2) := by decide +kernel
theorem dX6_init_185 : decode cX6_init 185 = .ok (.iastore, 1) := by decide +kernel
theorem dX6_init_186 : decode cX6_init 186 = .ok (.dup, 1) := by decide +kernel
theorem dX6_init_187 : decode cX6_init 187 = .ok (.bipush 7, 2) := by decide +kernel
theorem dX6_init_189 : decode cX6_init 189 = .ok (.ldc 69, 2) := by decide +kernel
theorem dX6_init_191 : decode cX6_init 191 = .ok (.iastore, 1) := by decide +kernel
theorem dX6_init_192 : decode cX6_init 192 = .ok (.dup, 1) := by decide +kernel
theorem dX6_init_193 : decode cX6_init 193 = .ok (.bipush 8, 2) := by decide +kernel
theorem dX6_init_195 : decode cX6_init 195 = .ok (.ldc 70, 2) := by decide +kernel
theorem dX6_init_197 : decode cX6_init 197 = .ok (.iastore, 1) := by decide +kernel
theorem dX6_init_198 : decode cX6_init 198 = .ok (.dup, 1) := by decide +kernel
theorem dX6_init_199 : decode cX6_init 199 = .ok (.bipush 9, 2) := by decide +kernel
theorem dX6_init_201 : decode cX6_init 201 = .ok (.ldc 71, 2) := by decide +kernel
theorem dX6_init_203 : decode cX6_init 203 = .ok (.iastore, 1) := by decide +kernel
theorem dX6_init_204 : decode cX6_init 204 = .ok (.dup, 1) := by decide +kernel
theorem dX6_init_205 : decode cX6_init 205 = .ok (.bipush 10, 2) := by decide +kernel
theorem dX6_init_207 : decode cX6_init 207 = .ok (.ldc 72, 2) := by decide +kernel
theorem dX6_init_209 : decode cX6_init 209 = .ok (.iastore, 1) := by decide +kernel
theorem dX6_init_210 : decode cX6_init 210 = .ok (.dup, 1) := by decide +kernel
theorem dX6_init_211 : decode cX6_init 211 = .ok (.bipush 11, 2) := by decide +kernel
theorem dX6_init_213 : decode cX6_init 213 = .ok (.ldc 73, 2) := by decide +kernel
theorem dX6_init_215 : decode cX6_init 215 = .ok (.iastore, 1) := by decide +kernel
theorem dX6_init_216 : decode cX6_init 216 = .ok (.dup, 1) := by decide +kernel
theorem dX6_init_217 : decode cX6_init 217 = .ok (.bipush 12, 2) := by decide +kernel
theorem dX6_init_219 : decode cX6_init 219 = .ok (.ldc 74, 2) := by decide +kernel
theorem dX6_init_221 : decode cX6_init 221 = .ok (.iastore, 1) := by decide +kernel
theorem dX6_init_222 : decode cX6_init 222 = .ok (.dup, 1) := by decide +kernel
theorem dX6_init_223 : decode cX6_init 223 = .ok (.bipush 13, 2) := by decide +kernel
theorem dX6_init_225 : decode cX6_init 225 = .ok (.ldc 75, 2) := by decide +kernel
theorem dX6_init_227 : decode cX6_init 227 = .ok (.iastore, 1) := by decide +kernel
theorem dX6_init_228 : decode cX6_init 228 = .ok (.dup, 1) := by decide +kernel
theorem dX6_init_229 : decode cX6_init 229 = .ok (.bipush 14, 2) := by decide +kernel
theorem dX6_init_231 : decode cX6_init 231 = .ok (.ldc 76, 2) := by decide +kernel
theorem dX6_init_233 : decode cX6_init 233 = .ok (.iastore, 1) := by decide +kernel
theorem dX6_init_234 : decode cX6_init 234 = .ok (.dup, 1) := by decide +kernel
theorem dX6_init_235 : decode cX6_init 235 = .ok (.bipush 15, 2) := by decide +kernel
theorem dX6_init_237 : decode cX6_init 237 = .ok (.ldc 77, 2) := by decide +kernel
theorem dX6_init_239 : decode cX6_init 239 = .ok (.iastore, 1) := by decide +kernel
theorem dX6_init_240 : decode cX6_init 240 = .ok (.dup, 1) := by decide +kernel
theorem dX6_init_241 : decode cX6_init 241 = .ok (.bipush 16, 2) := by decide +kernel
theorem dX6_init_243 : decode cX6_init 243 = .ok (.ldc 78, 2) := by decide +kernel
theorem dX6_init_245 : decode cX6_init 245 = .ok (.iastore, 1) := by decide +kernel
theorem dX6_init_246 : decode cX6_init 246 = .ok (.dup, 1) := by decide +kernel
theorem dX6_init_247 : decode cX6_init 247 = .ok (.bipush 17, 2) := by decide +kernel
theorem dX6_init_249 : decode cX6_init 249 = .ok (.ldc 79, 2) := by decide +kernel
theorem dX6_init_251 : decode cX6_init 251 = .ok (.iastore, 1) := by decide +kernel
theorem dX6_init_252 : decode cX6_init 252 = .ok (.dup, 1) := by decide +kernel
theorem dX6_init_253 : decode cX6_init 253 = .ok (.bipush 18, 2) := by decide +kernel
theorem dX6_init_255 : decode cX6_init 255 = .ok (.ldc 80, 2) := by decide +kernel
theorem dX6_init_257 : decode cX6_init 257 = .ok (.iastore, 1) := by decide +kernel
theorem dX6_init_258 : decode cX6_init 258 = .ok (.dup, 1) := by decide +kernel
theorem dX6_init_259 : decode cX6_init 259 = .ok (.bipush 19, 2) := by decide +kernel
theorem dX6_init_261 : decode cX6_init 261 = .ok (.ldc 81, 2) := by decide +kernel
theorem dX6_init_263 : decode cX6_init 263 = .ok (.iastore, 1) := by decide +kernel
theorem dX6_init_264 : decode cX6_init 264 = .ok (.dup, 1) := by decide +kernel
theorem dX6_init_265 : decode cX6_init 265 = .ok (.bipush 20, 2) := by decide +kernel
theorem dX6_init_267 : decode cX6_init 267 = .ok (.ldc 82, 2) := by decide +kernel
theorem dX6_init_269 : decode cX6_init 269 = .ok (.iastore, 1) := by decide +kernel
theorem dX6_init_270 : decode cX6_init 270 = .ok (.dup, 1) := by decide +kernel
theorem dX6_init_271 : decode cX6_init 271 = .ok (.bipush 21, 2) := by decide +kernel
theorem dX6_init_273 : decode cX6_init 273 = .ok (.ldc 83, 2) := by decide +kernel
theorem dX6_init_275 : decode cX6_init 275 = .ok (.iastore, 1) := by decide +kernel
theorem dX6_init_276 : decode cX6_init 276 = .ok (.dup, 1) := by decide +kernel
theorem dX6_init_277 : decode cX6_init 277 = .ok (.bipush 22, 2) := by decide +kernel
theorem dX6_init_279 : decode cX6_init 279 = .ok (.ldc 84, 2) := by decide +kernel
theorem dX6_init_281 : decode cX6_init 281 = .ok (.iastore, 1) := by decide +kernel
theorem dX6_init_282 : decode cX6_init 282 = .ok (.dup, 1) := by decide +kernel
theorem dX6_init_283 : decode cX6_init 283 = .ok (.bipush 23, 2) := by decide +kernel
theorem dX6_init_285 : decode cX6_init 285 = .ok (.ldc 85, 2) := by decide +kernel
theorem dX6_init_287 : decode cX6_init 287 = .ok (.iastore, 1) := by decide +kernel
theorem dX6_init_288 : decode cX6_init 288 = .ok (.dup, 1) := by decide +kernel
theorem dX6_init_289 : decode cX6_init 289 = .ok (.bipush 24, 2) := by decide +kernel
theorem dX6_init_291 : decode cX6_init 291 = .ok (.ldc 86, 2) := by decide +kernel
theorem dX6_init_293 : decode cX6_init 293 = .ok (.iastore, 1) := by decide +kernel
theorem dX6_init_294 : decode cX6_init 294 = .ok (.dup, 1) := by decide +kernel
theorem dX6_init_295 : decode cX6_init 295 = .ok (.bipush 25, 2) := by decide +kernel
theorem dX6_init_297 : decode cX6_init 297 = .ok (.ldc 87, 2) := by decide +kernel
theorem dX6_init_299 : decode cX6_init 299 = .ok (.iastore, 1) := by decide +kernel
theorem dX6_init_300 : decode cX6_init 300 = .ok (.dup, 1) := by decide +kernel
theorem dX6_init_301 : decode cX6_init 301 = .ok (.bipush 26, 2) := by decide +kernel
theorem dX6_init_303 : decode cX6_init 303 = .ok (.ldc 88, 2) := by decide +kernel
theorem dX6_init_305 : decode cX6_init 305 = .ok (.iastore, 1) := by decide +kernel
theorem dX6_init_306 : decode cX6_init 306 = .ok (.dup, 1) := by decide +kernel
theorem dX6_init_307 : decode cX6_init 307 = .ok (.bipush 27, 2) := by decide +kernel
theorem dX6_init_309 : decode cX6_init 309 = .ok (.ldc 89, 2) := by decide +kernel
theorem dX6_init_311 : decode cX6_init 311 = .ok (.iastore, 1) := by decide +kernel
theorem dX6_init_312 : decode cX6_init 312 = .ok (.dup, 1) := by decide +kernel
theorem dX6_init_313 : decode cX6_init 313 = .ok (.bipush 28, 2) := by decide +kernel
theorem dX6_init_315 : decode cX6_init 315 = .ok (.ldc 90, 2) := by decide +kernel
theorem dX6_init_317 : decode cX6_init 317 = .ok (.iastore, 1) := by decide +kernel
theorem dX6_init_318 : decode cX6_init 318 = .ok (.dup, 1) := by decide +kernel
theorem dX6_init_319 : decode cX6_init 319 = .ok (.bipush 29, 2) := by decide +kernel
theorem dX6_init_321 : decode cX6_init 321 = .ok (.ldc 91, 2) := by decide +kernel
theorem dX6_init_323 : decode cX6_init 323 = .ok (.iastore, 1) := by decide +kernel
theorem dX6_init_324 : decode cX6_init 324 = .ok (.dup, 1) := by decide +kernel
theorem dX6_init_325 : decode cX6_init 325 = .ok (.bipush 30, 2) := by decide +kernel
theorem dX6_init_327 : decode cX6_init 327 = .ok (.ldc 92, 2) := by decide +kernel
theorem dX6_init_329 : decode cX6_init 329 = .ok (.iastore, 1) := by decide +kernel
theorem dX6_init_330 : decode cX6_init 330 = .ok (.dup, 1) := by decide +kernel
theorem dX6_init_331 : decode cX6_init 331 = .ok (.bipush 31, 2) := by decide +kernel
theorem dX6_init_333 : decode cX6_init 333 = .ok (.ldc 93, 2) := by decide +kernel
theorem dX6_init_335 : decode cX6_init 335 = .ok (.iastore, 1) := by decide +kernel
theorem dX6_init_336 : decode cX6_init 336 = .ok (.dup, 1) := by decide +kernel
theorem dX6_init_337 : decode cX6_init 337 = .ok (.bipush 32, 2) := by decide +kernel
theorem dX6_init_339 : decode cX6_init 339 = .ok (.ldc 94, 2) := by decide +kernel
theorem dX6_init_341 : decode cX6_init 341 = .ok (.iastore, 1) := by decide +kernel
theorem dX6_init_342 : decode cX6_init 342 = .ok (.dup, 1) := by decide +kernel
theorem dX6_init_343 : decode cX6_init 343 = .ok (.bipush 33, 2) := by decide +kernel
theorem dX6_init_345 : decode cX6_init 345 = .ok (.ldc 95, 2) := by decide +kernel
theorem dX6_init_347 : decode cX6_init 347 = .ok (.iastore, 1) := by decide +kernel
theorem dX6_init_348 : decode cX6_init 348 = .ok (.dup, 1) := by decide +kernel
theorem dX6_init_349 : decode cX6_init 349 = .ok (.bipush 34, 2) := by decide +kernel
theorem dX6_init_351 : decode cX6_init 351 = .ok (.ldc 96, 2) := by decide +kernel
theorem dX6_init_353 : decode cX6_init 353 = .ok (.iastore, 1) := by decide +kernel
theorem dX6_init_354 : decode cX6_init 354 = .ok (.dup, 1) := by decide +kernel
theorem dX6_init_355 : decode cX6_init 355 = .ok (.bipush 35, 2) := by decide +kernel
theorem dX6_init_357 : decode cX6_init 357 = .ok (.ldc 97, 2) := by decide +kernel
theorem dX6_init_359 : decode cX6_init 359 = .ok (.iastore, 1) := by decide +kernel
theorem dX6_init_360 : decode cX6_init 360 = .ok (.dup, 1) := by decide +kernel
theorem dX6_init_361 : decode cX6_init 361 = .ok (.bipush 36, 2) := by decide +kernel
theorem dX6_init_363 : decode cX6_init 363 = .ok (.ldc 98, 2) := by decide +kernel
theorem dX6_init_365 : decode cX6_init 365 = .ok (.iastore, 1) := by decide +kernel
theorem dX6_init_366 : decode cX6_init 366 = .ok (.dup, 1) := by decide +kernel
theorem dX6_init_367 : decode cX6_init 367 = .ok (.bipush 37, 2) := by decide +kernel
theorem dX6_init_369 : decode cX6_init 369 = .ok (.ldc 99, 2) := by decide +kernel
theorem dX6_init_371 : decode cX6_init 371 = .ok (.iastore, 1) := by decide +kernel
end
section
theorem dX6_init_372 : decode cX6_init 372 = .ok (.dup, 1) := by decide +kernel
theorem dX6_init_373 : decode cX6_init 373 = .ok (.bipush 38, 2) := by decide +kernel
theorem dX6_init_375 : decode cX6_init 375 = .ok (.ldc 100, 2) := by decide +kernel
theorem dX6_init_377 : decode cX6_init 377 = .ok (.iastore, 1) := by decide +kernel
theorem dX6_init_378 : decode cX6_init 378 = .ok (.dup, 1) := by decide +kernel
theorem dX6_init_379 : decode cX6_init 379 = .ok (.bipush 39, 2) := by decide +kernel
theorem dX6_init_381 : decode cX6_init 381 = .ok (.ldc 101, 2) := by decide +kernel
theorem dX6_init_383 : decode cX6_init 383 = .ok (.iastore, 1) := by decide +kernel
theorem dX6_init_384 : decode cX6_init 384 = .ok (.dup, 1) := by decide +kernel
theorem dX6_init_385 : decode cX6_init 385 = .ok (.bipush 40, 2) := by decide +kernel
theorem dX6_init_387 : decode cX6_init 387 = .ok (.ldc 102, 2) := by decide +kernel
theorem dX6_init_389 : decode cX6_init 389 = .ok (.iastore, 1) := by decide +kernel
theorem dX6_init_390 : decode cX6_init 390 = .ok (.dup, 1) := by decide +kernel
theorem dX6_init_391 : decode cX6_init 391 = .ok (.bipush 41, 2) := by decide +kernel
theorem dX6_init_393 : decode cX6_init 393 = .ok (.ldc 103, 2) := by decide +kernel
theorem dX6_init_395 : decode cX6_init 395 = .ok (.iastore, 1) := by decide +kernel
theorem dX6_init_396 : decode cX6_init 396 = .ok (.dup, 1) := by decide +kernel
theorem dX6_init_397 : decode cX6_init 397 = .ok (.bipush 42, 2) := by decide +kernel
theorem dX6_init_399 : decode cX6_init 399 = .ok (.ldc 104, 2) := by decide +kernel
theorem dX6_init_401 : decode cX6_init 401 = .ok (.iastore, 1) := by decide +kernel
theorem dX6_init_402 : decode cX6_init 402 = .ok (.dup, 1) := by decide +kernel
theorem dX6_init_403 : decode cX6_init 403 = .ok (.bipush 43, 2) := by decide +kernel
theorem dX6_init_405 : decode cX6_init 405 = .ok (.ldc 105, 2) := by decide +kernel
theorem dX6_init_407 : decode cX6_init 407 = .ok (.iastore, 1) := by decide +kernel
theorem dX6_init_408 : decode cX6_init 408 = .ok (.dup, 1) := by decide +kernel
theorem dX6_init_409 : decode cX6_init 409 = .ok (.bipush 44, 2) := by decide +kernel
theorem dX6_init_411 : decode cX6_init 411 = .ok (.ldc 106, 2) := by decide +kernel
theorem dX6_init_413 : decode cX6_init 413 = .ok (.iastore, 1) := by decide +kernel
theorem dX6_init_414 : decode cX6_init 414 = .ok (.dup, 1) := by decide +kernel
theorem dX6_init_415 : decode cX6_init 415 = .ok (.bipush 45, 2) := by decide +kernel
theorem dX6_init_417 : decode cX6_init 417 = .ok (.ldc 107, 2) := by decide +kernel
theorem dX6_init_419 : decode cX6_init 419 = .ok (.iastore, 1) := by decide +kernel
theorem dX6_init_420 : decode cX6_init 420 = .ok (.dup, 1) := by decide +kernel
theorem dX6_init_421 : decode cX6_init 421 = .ok (.bipush 46, 2) := by decide +kernel
theorem dX6_init_423 : decode cX6_init 423 = .ok (.ldc 108, 2) := by decide +kernel
theorem dX6_init_425 : decode cX6_init 425 = .ok (.iastore, 1) := by decide +kernel
theorem dX6_init_426 : decode cX6_init 426 = .ok (.dup, 1) := by decide +kernel
theorem dX6_init_427 : decode cX6_init 427 = .ok (.bipush 47, 2) := by decide +kernel
theorem dX6_init_429 : decode cX6_init 429 = .ok (.ldc 109, 2) := by decide +kernel
theorem dX6_init_431 : decode cX6_init 431 = .ok (.iastore, 1) := by decide +kernel
theorem dX6_init_432 : decode cX6_init 432 = .ok (.dup, 1) := by decide +kernel
theorem dX6_init_433 : decode cX6_init 433 = .ok (.bipush 48, 2) := by decide +kernel
theorem dX6_init_435 : decode cX6_init 435 = .ok (.ldc 110, 2) := by decide +kernel
theorem dX6_init_437 : decode cX6_init 437 = .ok (.iastore, 1) := by decide +kernel
theorem dX6_init_438 : decode cX6_init 438 = .ok (.dup, 1) := by decide +kernel
theorem dX6_init_439 : decode cX6_init 439 = .ok (.bipush 49, 2) := by decide +kernel
theorem dX6_init_441 : decode cX6_init 441 = .ok (.ldc 111, 2) := by decide +kernel
theorem dX6_init_443 : decode cX6_init 443 = .ok (.iastore, 1) := by decide +kernel
theorem dX6_init_444 : decode cX6_init 444 = .ok (.dup, 1) := by decide +kernel
theorem dX6_init_445 : decode cX6_init 445 = .ok (.bipush 50, 2) := by decide +kernel
theorem dX6_init_447 : decode cX6_init 447 = .ok (.ldc 112, 2) := by decide +kernel
theorem dX6_init_449 : decode cX6_init 449 = .ok (.iastore, 1) := by decide +kernel
theorem dX6_init_450 : decode cX6_init 450 = .ok (.dup, 1) := by decide +kernel
theorem dX6_init_451 : decode cX6_init 451 = .ok (.bipush 51, 2) := by decide +kernel
theorem dX6_init_453 : decode cX6_init 453 = .ok (.ldc 113, 2) := by decide +kernel
theorem dX6_init_455 : decode cX6_init 455 = .ok (.iastore, 1) := by decide +kernel
theorem dX6_init_456 : decode cX6_init 456 = .ok (.dup, 1) := by decide +kernel
theorem dX6_init_457 : decode cX6_init 457 = .ok (.bipush 52, 2) := by decide +kernel
theorem dX6_init_459 : decode cX6_init 459 = .ok (.ldc 114, 2) := by decide +kernel
theorem dX6_init_461 : decode cX6_init 461 = .ok (.iastore, 1) := by decide +kernel
theorem dX6_init_462 : decode cX6_init 462 = .ok (.dup, 1) := by decide +kernel
theorem dX6_init_463 : decode cX6_init 463 = .ok (.bipush 53, 2) := by decide +kernel
theorem dX6_init_465 : decode cX6_init 465 = .ok (.ldc 115, 2) := by decide +kernel
theorem dX6_init_467 : decode cX6_init 467 = .ok (.iastore, 1) := by decide +kernel
theorem dX6_init_468 : decode cX6_init 468 = .ok (.dup, 1) := by decide +kernel
theorem dX6_init_469 : decode cX6_init 469 = .ok (.bipush 54, 2) := by decide +kernel
theorem dX6_init_471 : decode cX6_init 471 = .ok (.ldc 116, 2) := by decide +kernel
theorem dX6_init_473 : decode cX6_init 473 = .ok (.iastore, 1) := by decide +kernel
theorem dX6_init_474 : decode cX6_init 474 = .ok (.dup, 1) := by decide +kernel
theorem dX6_init_475 : decode cX6_init 475 = .ok (.bipush 55, 2) := by decide +kernel
theorem dX6_init_477 : decode cX6_init 477 = .ok (.ldc 117, 2) := by decide +kernel
theorem dX6_init_479 : decode cX6_init 479 = .ok (.iastore, 1) := by decide +kernel
theorem dX6_init_480 : decode cX6_init 480 = .ok (.dup, 1) := by decide +kernel
theorem dX6_init_481 : decode cX6_init 481 = .ok (.bipush 56, 2) := by decide +kernel
theorem dX6_init_483 : decode cX6_init 483 = .ok (.ldc 118, 2) := by decide +kernel
theorem dX6_init_485 : decode cX6_init 485 = .ok (.iastore, 1) := by decide +kernel
theorem dX6_init_486 : decode cX6_init 486 = .ok (.dup, 1) := by decide +kernel
theorem dX6_init_487 : decode cX6_init 487 = .ok (.bipush 57, 2) := by decide +kernel
theorem dX6_init_489 : decode cX6_init 489 = .ok (.ldc 119, 2) := by decide +kernel
theorem dX6_init_491 : decode cX6_init 491 = .ok (.iastore, 1) := by decide +kernel
theorem dX6_init_492 : decode cX6_init 492 = .ok (.dup, 1) := by decide +kernel
theorem dX6_init_493 : decode cX6_init 493 = .ok (.bipush 58, 2) := by decide +kernel
theorem dX6_init_495 : decode cX6_init 495 = .ok (.ldc 120, 2) := by decide +kernel
theorem dX6_init_497 : decode cX6_init 497 = .ok (.iastore, 1) := by decide +kernel
theorem dX6_init_498 : decode cX6_init 498 = .ok (.dup, 1) := by decide +kernel
theorem dX6_init_499 : decode cX6_init 499 = .ok (.bipush 59, 2) := by decide +kernel
theorem dX6_init_501 : decode cX6_init 501 = .ok (.ldc 121, 2) := by decide +kernel
theorem dX6_init_503 : decode cX6_init 503 = .ok (.iastore, 1) := by decide +kernel
theorem dX6_init_504 : decode cX6_init 504 = .ok (.dup, 1) := by decide +kernel
theorem dX6_init_505 : decode cX6_init 505 = .ok (.bipush 60, 2) := by decide +kernel
theorem dX6_init_507 : decode cX6_init 507 = .ok (.ldc 122, 2) := by decide +kernel
theorem dX6_init_509 : decode cX6_init 509 = .ok (.iastore, 1) := by decide +kernel
theorem dX6_init_510 : decode cX6_init 510 = .ok (.dup, 1) := by decide +kernel
theorem dX6_init_511 : decode cX6_init 511 = .ok (.bipush 61, 2) := by decide +kernel
theorem dX6_init_513 : decode cX6_init 513 = .ok (.ldc 123, 2) := by decide +kernel
theorem dX6_init_515 : decode cX6_init 515 = .ok (.iastore, 1) := by decide +kernel
theorem dX6_init_516 : decode cX6_init 516 = .ok (.dup, 1) := by decide +kernel
theorem dX6_init_517 : decode cX6_init 517 = .ok (.bipush 62, 2) := by decide +kernel
theorem dX6_init_519 : decode cX6_init 519 = .ok (.ldc 124, 2) := by decide +kernel
theorem dX6_init_521 : decode cX6_init 521 = .ok (.iastore, 1) := by decide +kernel
theorem dX6_init_522 : decode cX6_init 522 = .ok (.dup, 1) := by decide +kernel
theorem dX6_init_523 : decode cX6_init 523 = .ok (.bipush 63, 2) := by decide +kernel
theorem dX6_init_525 : decode cX6_init 525 = .ok (.ldc 125, 2) := by decide +kernel
theorem dX6_init_527 : decode cX6_init 527 = .ok (.iastore, 1) := by decide +kernel
theorem dX6_init_528 : decode cX6_init 528 = .ok (.putfield 126, 3) := by decide +kernel
theorem dX6_init_531 : decode cX6_init 531 = .ok (.aload_n 0, 1) := by decide +kernel
theorem dX6_init_532 : decode cX6_init 532 = .ok (.bipush 8, 2) := by decide +kernel
theorem dX6_init_534 : decode cX6_init 534 = .ok (.newarray .int, 2) := by decide +kernel
theorem dX6_init_536 : decode cX6_init 536 = .ok (.dup, 1) := by decide +kernel
theorem dX6_init_537 : decode cX6_init 537 = .ok (.iconst 0, 1) := by decide +kernel
theorem dX6_init_538 : decode cX6_init 538 = .ok (.ldc 129, 2) := by decide +kernel
theorem dX6_init_540 : decode cX6_init 540 = .ok (.iastore, 1) := by decide +kernel
theorem dX6_init_541 : decode cX6_init 541 = .ok (.dup, 1) := by decide +kernel
theorem dX6_init_542 : decode cX6_init 542 = .ok (.iconst 1, 1) := by decide +kernel
theorem dX6_init_543 : decode cX6_init 543 = .ok (.ldc 130, 2) := by decide +kernel
theorem dX6_init_545 : decode cX6_init 545 = .ok (.iastore, 1) := by decide +kernel
theorem dX6_init_546 : decode cX6_init 546 = .ok (.dup, 1) := by decide +kernel
theorem dX6_init_547 : decode cX6_init 547 = .ok (.iconst 2, 1) := by decide +kernel
theorem dX6_init_548 : decode cX6_init 548 = .ok (.ldc 131, 2) := by decide +kernel
theorem dX6_init_550 : decode cX6_init 550 = .ok (.iastore, 1) := by decide +kernel
theorem dX6_init_551 : decode cX6_init 551 = .ok (.dup, 1) := by decide +kernel
theorem dX6_init_552 : decode cX6_init 552 = .ok (.iconst 3, 1) := by decide +kernel
theorem dX6_init_553 : decode cX6_init 553 = .ok (.ldc 132, 2) := by decide +kernel
theorem dX6_init_555 : decode cX6_init 555 = .ok (.iastore, 1) := by decide +kernel
theorem dX6_init_556 : decode cX6_init 556 = .ok (.dup, 1) := by decide +kernel
theorem dX6_init_557 : decode cX6_init 557 = .ok (.iconst 4, 1) := by decide +kernel
theorem dX6_init_558 : decode cX6_init 558 = .ok (.ldc 133, 2) := by decide +kernel
theorem dX6_init_560 : decode cX6_init 560 = .ok (.iastore, 1) := by decide +kernel
theorem dX6_init_561 : decode cX6_init 561 = .ok (.dup, 1) := by decide +kernel
theorem dX6_init_562 : decode cX6_init 562 = .ok (.iconst 5, 1) := by decide +kernel
theorem dX6_init_563 : decode cX6_init 563 = .ok (.ldc 134, 2) := by decide +kernel
theorem dX6_init_565 : decode cX6_init 565 = .ok (.iastore, 1) := by decide +kernel
theorem dX6_init_566 : decode cX6_init 566 = .ok (.dup, 1) := by decide +kernel
theorem dX6_init_567 : decode cX6_init 567 = .ok (.bipush 6, 2) := by decide +kernel
theorem dX6_init_569 : decode cX6_init 569 = .ok (.ldc 135, 2) := by decide +kernel
theorem dX6_init_571 : decode cX6_init 571 = .ok (.iastore, 1) := by decide +kernel
theorem dX6_init_572 : decode cX6_init 572 = .ok (.dup, 1) := by decide +kernel
theorem dX6_init_573 : decode cX6_init 573 = .ok (.bipush 7, 2) := by decide +kernel
theorem dX6_init_575 : decode cX6_init 575 = .ok (.ldc 136, 2) := by decide +kernel
theorem dX6_init_577 : decode cX6_init 577 = .ok (.iastore, 1) := by decide +kernel
theorem dX6_init_578 : decode cX6_init 578 = .ok (.putfield 137, 3) := by decide +kernel
theorem dX6_init_581 : decode cX6_init 581 = .ok (.aload_n 0, 1) := by decide +kernel
theorem dX6_init_582 : decode cX6_init 582 = .ok (.sipush 1700, 3) := by decide +kernel
theorem dX6_init_585 : decode cX6_init 585 = .ok (.newarray .int, 2) := by decide +kernel
theorem dX6_init_587 : decode cX6_init 587 = .ok (.putfield 140, 3) := by decide +kernel
theorem dX6_init_590 : decode cX6_init 590 = .ok (.aload_n 0, 1) := by decide +kernel
theorem dX6_init_591 : decode cX6_init 591 = .ok (.bipush 64, 2) := by decide +kernel
theorem dX6_init_593 : decode cX6_init 593 = .ok (.newarray .int, 2) := by decide +kernel
theorem dX6_init_595 : decode cX6_init 595 = .ok (.putfield 143, 3) := by decide +kernel
theorem dX6_init_598 : decode cX6_init 598 = .ok (.aload_n 0, 1) := by decide +kernel
theorem dX6_init_599 : decode cX6_init 599 = .ok (.bipush 8, 2) := by decide +kernel
theorem dX6_init_601 : decode cX6_init 601 = .ok (.newarray .int, 2) := by decide +kernel
theorem dX6_init_603 : decode cX6_init 603 = .ok (.putfield 146, 3) := by decide +kernel
theorem dX6_init_606 : decode cX6_init 606 = .ok (.aload_n 0, 1) := by decide +kernel
theorem dX6_init_607 : decode cX6_init 607 = .ok (.bipush 8, 2) := by decide +kernel
theorem dX6_init_609 : decode cX6_init 609 = .ok (.newarray .int, 2) := by decide +kernel
theorem dX6_init_611 : decode cX6_init 611 = .ok (.putfield 149, 3) := by decide +kernel
theorem dX6_init_614 : decode cX6_init 614 = .ok (.aload_n 0, 1) := by decide +kernel
theorem dX6_init_615 : decode cX6_init 615 = .ok (.bipush 24, 2) := by decide +kernel
theorem dX6_init_617 : decode cX6_init 617 = .ok (.newarray .int, 2) := by decide +kernel
theorem dX6_init_619 : decode cX6_init 619 = .ok (.putfield 152, 3) := by decide +kernel
theorem dX6_init_622 : decode cX6_init 622 = .ok (.aload_n 0, 1) := by decide +kernel
theorem dX6_init_623 : decode cX6_init 623 = .ok (.invokevirtual 155, 3) := by decide +kernel
theorem dX6_init_626 : decode cX6_init 626 = .ok (.return_, 1) := by decide +kernel
theorem dX6_thrown_0 : decode cX6_thrown 0 = .ok (.aload_n 0, 1) := by decide +kernel
theorem dX6_thrown_1 : decode cX6_thrown 1 = .ok (.getfield 158, 3) := by decide +kernel
theorem dX6_thrown_4 : decode cX6_thrown 4 = .ok (.ireturn, 1) := by decide +kernel
theorem dX6_free_0 : decode cX6_free 0 = .ok (.iconst 0, 1) := by decide +kernel
theorem dX6_free_1 : decode cX6_free 1 = .ok (.istore_n 1, 1) := by decide +kernel
theorem dX6_free_2 : decode cX6_free 2 = .ok (.iload_n 1, 1) := by decide +kernel
theorem dX6_free_3 : decode cX6_free 3 = .ok (.bipush 20, 2) := by decide +kernel
theorem dX6_free_5 : decode cX6_free 5 = .ok (.if_icmp .ge 23, 3) := by decide +kernel
theorem dX6_free_8 : decode cX6_free 8 = .ok (.aload_n 0, 1) := by decide +kernel
theorem dX6_free_9 : decode cX6_free 9 = .ok (.getfield 16, 3) := by decide +kernel
theorem dX6_free_12 : decode cX6_free 12 = .ok (.iload_n 1, 1) := by decide +kernel
theorem dX6_free_13 : decode cX6_free 13 = .ok (.iconst 0, 1) := by decide +kernel
theorem dX6_free_14 : decode cX6_free 14 = .ok (.iastore, 1) := by decide +kernel
theorem dX6_free_15 : decode cX6_free 15 = .ok (.aload_n 0, 1) := by decide +kernel
theorem dX6_free_16 : decode cX6_free 16 = .ok (.getfield 19, 3) := by decide +kernel
theorem dX6_free_19 : decode cX6_free 19 = .ok (.iload_n 1, 1) := by decide +kernel
theorem dX6_free_20 : decode cX6_free 20 = .ok (.iconst (-1), 1) := by decide +kernel
theorem dX6_free_21 : decode cX6_free 21 = .ok (.iastore, 1) := by decide +kernel
theorem dX6_free_22 : decode cX6_free 22 = .ok (.iinc 1 1, 3) := by decide +kernel
theorem dX6_free_25 : decode cX6_free 25 = .ok (.goto (-23), 3) := by decide +kernel
theorem dX6_free_28 : decode cX6_free 28 = .ok (.aload_n 0, 1) := by decide +kernel
theorem dX6_free_29 : decode cX6_free 29 = .ok (.iconst 0, 1) := by decide +kernel
theorem dX6_free_30 : decode cX6_free 30 = .ok (.putfield 162, 3) := by decide +kernel
theorem dX6_free_33 : decode cX6_free 33 = .ok (.return_, 1) := by decide +kernel
theorem dX6_turned_0 : decode cX6_turned 0 = .ok (.iload_n 0, 1) := by decide +kernel
theorem dX6_turned_1 : decode cX6_turned 1 = .ok (.iload_n 1, 1) := by decide +kernel
theorem dX6_turned_2 : decode cX6_turned 2 = .ok (.iushr, 1) := by decide +kernel
theorem dX6_turned_3 : decode cX6_turned 3 = .ok (.iload_n 0, 1) := by decide +kernel
theorem dX6_turned_4 : decode cX6_turned 4 = .ok (.bipush 32, 2) := by decide +kernel
theorem dX6_turned_6 : decode cX6_turned 6 = .ok (.iload_n 1, 1) := by decide +kernel
theorem dX6_turned_7 : decode cX6_turned 7 = .ok (.isub, 1) := by decide +kernel
theorem dX6_turned_8 : decode cX6_turned 8 = .ok (.ishl, 1) := by decide +kernel
theorem dX6_turned_9 : decode cX6_turned 9 = .ok (.ior, 1) := by decide +kernel
theorem dX6_turned_10 : decode cX6_turned 10 = .ok (.ireturn, 1) := by decide +kernel
set_option maxRecDepth 20000 in
theorem ggX6_block_X6_turned : GoodIn wsX6_block wsX6_turned := goodIn_r _ [9] (by decide +kernel) (by decide +kernel)
set_option maxRecDepth 20000 in
theorem gX6_block_X6_turned : GoodIn wsX6_block (va_wsS RX6 165 yX6_turned wsX6_turned) := goodIn_app (goodIn_of _ (by decide +kernel)) ggX6_block_X6_turned
theorem dX6_block_0 : decode cX6_block 0 = .ok (.iconst 0, 1) := by decide +kernel
theorem dX6_block_1 : decode cX6_block 1 = .ok (.istore_n 2, 1) := by decide +kernel
theorem dX6_block_2 : decode cX6_block 2 = .ok (.iload_n 2, 1) := by decide +kernel
theorem dX6_block_3 : decode cX6_block 3 = .ok (.bipush 64, 2) := by decide +kernel
theorem dX6_block_5 : decode cX6_block 5 = .ok (.if_icmp .ge 125, 3) := by decide +kernel
theorem dX6_block_8 : decode cX6_block 8 = .ok (.iload_n 2, 1) := by decide +kernel
theorem dX6_block_9 : decode cX6_block 9 = .ok (.bipush 16, 2) := by decide +kernel
theorem dX6_block_11 : decode cX6_block 11 = .ok (.if_icmp .ge 20, 3) := by decide +kernel
theorem dX6_block_14 : decode cX6_block 14 = .ok (.aload_n 0, 1) := by decide +kernel
theorem dX6_block_15 : decode cX6_block 15 = .ok (.getfield 143, 3) := by decide +kernel
theorem dX6_block_18 : decode cX6_block 18 = .ok (.iload_n 2, 1) := by decide +kernel
theorem dX6_block_19 : decode cX6_block 19 = .ok (.aload_n 0, 1) := by decide +kernel
theorem dX6_block_20 : decode cX6_block 20 = .ok (.getfield 140, 3) := by decide +kernel
theorem dX6_block_23 : decode cX6_block 23 = .ok (.iload_n 1, 1) := by decide +kernel
theorem dX6_block_24 : decode cX6_block 24 = .ok (.iload_n 2, 1) := by decide +kernel
theorem dX6_block_25 : decode cX6_block 25 = .ok (.iadd, 1) := by decide +kernel
theorem dX6_block_26 : decode cX6_block 26 = .ok (.iaload, 1) := by decide +kernel
theorem dX6_block_27 : decode cX6_block 27 = .ok (.iastore, 1) := by decide +kernel
theorem dX6_block_28 : decode cX6_block 28 = .ok (.goto 96, 3) := by decide +kernel
theorem dX6_block_31 : decode cX6_block 31 = .ok (.aload_n 0, 1) := by decide +kernel
theorem dX6_block_32 : decode cX6_block 32 = .ok (.getfield 143, 3) := by decide +kernel
theorem dX6_block_35 : decode cX6_block 35 = .ok (.iload_n 2, 1) := by decide +kernel
theorem dX6_block_36 : decode cX6_block 36 = .ok (.bipush 15, 2) := by decide +kernel
theorem dX6_block_38 : decode cX6_block 38 = .ok (.isub, 1) := by decide +kernel
theorem dX6_block_39 : decode cX6_block 39 = .ok (.iaload, 1) := by decide +kernel
theorem dX6_block_40 : decode cX6_block 40 = .ok (.istore_n 3, 1) := by decide +kernel
theorem dX6_block_41 : decode cX6_block 41 = .ok (.aload_n 0, 1) := by decide +kernel
theorem dX6_block_42 : decode cX6_block 42 = .ok (.getfield 143, 3) := by decide +kernel
theorem dX6_block_45 : decode cX6_block 45 = .ok (.iload_n 2, 1) := by decide +kernel
theorem dX6_block_46 : decode cX6_block 46 = .ok (.iconst 2, 1) := by decide +kernel
theorem dX6_block_47 : decode cX6_block 47 = .ok (.isub, 1) := by decide +kernel
theorem dX6_block_48 : decode cX6_block 48 = .ok (.iaload, 1) := by decide +kernel
theorem dX6_block_49 : decode cX6_block 49 = .ok (.istore 4, 2) := by decide +kernel
theorem dX6_block_51 : decode cX6_block 51 = .ok (.iload_n 3, 1) := by decide +kernel
theorem dX6_block_52 : decode cX6_block 52 = .ok (.bipush 7, 2) := by decide +kernel
theorem dX6_block_54 : decode cX6_block 54 = .ok (.invokestatic 165, 3) := by decide +kernel
theorem dX6_block_57 : decode cX6_block 57 = .ok (.iload_n 3, 1) := by decide +kernel
theorem dX6_block_58 : decode cX6_block 58 = .ok (.bipush 18, 2) := by decide +kernel
theorem dX6_block_60 : decode cX6_block 60 = .ok (.invokestatic 165, 3) := by decide +kernel
theorem dX6_block_63 : decode cX6_block 63 = .ok (.ixor, 1) := by decide +kernel
theorem dX6_block_64 : decode cX6_block 64 = .ok (.iload_n 3, 1) := by decide +kernel
theorem dX6_block_65 : decode cX6_block 65 = .ok (.iconst 3, 1) := by decide +kernel
theorem dX6_block_66 : decode cX6_block 66 = .ok (.iushr, 1) := by decide +kernel
theorem dX6_block_67 : decode cX6_block 67 = .ok (.ixor, 1) := by decide +kernel
theorem dX6_block_68 : decode cX6_block 68 = .ok (.istore 5, 2) := by decide +kernel
theorem dX6_block_70 : decode cX6_block 70 = .ok (.iload 4, 2) := by decide +kernel
theorem dX6_block_72 : decode cX6_block 72 = .ok (.bipush 17, 2) := by decide +kernel
theorem dX6_block_74 : decode cX6_block 74 = .ok (.invokestatic 165, 3) := by decide +kernel
theorem dX6_block_77 : decode cX6_block 77 = .ok (.iload 4, 2) := by decide +kernel
theorem dX6_block_79 : decode cX6_block 79 = .ok (.bipush 19, 2) := by decide +kernel
theorem dX6_block_81 : decode cX6_block 81 = .ok (.invokestatic 165, 3) := by decide +kernel
theorem dX6_block_84 : decode cX6_block 84 = .ok (.ixor, 1) := by decide +kernel
theorem dX6_block_85 : decode cX6_block 85 = .ok (.iload 4, 2) := by decide +kernel
theorem dX6_block_87 : decode cX6_block 87 = .ok (.bipush 10, 2) := by decide +kernel
theorem dX6_block_89 : decode cX6_block 89 = .ok (.iushr, 1) := by decide +kernel
theorem dX6_block_90 : decode cX6_block 90 = .ok (.ixor, 1) := by decide +kernel
theorem dX6_block_91 : decode cX6_block 91 = .ok (.istore 6, 2) := by decide +kernel
theorem dX6_block_93 : decode cX6_block 93 = .ok (.aload_n 0, 1) := by decide +kernel
theorem dX6_block_94 : decode cX6_block 94 = .ok (.getfield 143, 3) := by decide +kernel
theorem dX6_block_97 : decode cX6_block 97 = .ok (.iload_n 2, 1) := by decide +kernel
theorem dX6_block_98 : decode cX6_block 98 = .ok (.aload_n 0, 1) := by decide +kernel
theorem dX6_block_99 : decode cX6_block 99 = .ok (.getfield 143, 3) := by decide +kernel
theorem dX6_block_102 : decode cX6_block 102 = .ok (.iload_n 2, 1) := by decide +kernel
theorem dX6_block_103 : decode cX6_block 103 = .ok (.bipush 16, 2) := by decide +kernel
theorem dX6_block_105 : decode cX6_block 105 = .ok (.isub, 1) := by decide +kernel
theorem dX6_block_106 : decode cX6_block 106 = .ok (.iaload, 1) := by decide +kernel
theorem dX6_block_107 : decode cX6_block 107 = .ok (.iload 5, 2) := by decide +kernel
theorem dX6_block_109 : decode cX6_block 109 = .ok (.iadd, 1) := by decide +kernel
theorem dX6_block_110 : decode cX6_block 110 = .ok (.aload_n 0, 1) := by decide +kernel
theorem dX6_block_111 : decode cX6_block 111 = .ok (.getfield 143, 3) := by decide +kernel
theorem dX6_block_114 : decode cX6_block 114 = .ok (.iload_n 2, 1) := by decide +kernel
theorem dX6_block_115 : decode cX6_block 115 = .ok (.bipush 7, 2) := by decide +kernel
theorem dX6_block_117 : decode cX6_block 117 = .ok (.isub, 1) := by decide +kernel
theorem dX6_block_118 : decode cX6_block 118 = .ok (.iaload, 1) := by decide +kernel
theorem dX6_block_119 : decode cX6_block 119 = .ok (.iadd, 1) := by decide +kernel
theorem dX6_block_120 : decode cX6_block 120 = .ok (.iload 6, 2) := by decide +kernel
theorem dX6_block_122 : decode cX6_block 122 = .ok (.iadd, 1) := by decide +kernel
theorem dX6_block_123 : decode cX6_block 123 = .ok (.iastore, 1) := by decide +kernel
theorem dX6_block_124 : decode cX6_block 124 = .ok (.iinc 2 1, 3) := by decide +kernel
theorem dX6_block_127 : decode cX6_block 127 = .ok (.goto (-125), 3) := by decide +kernel
theorem dX6_block_130 : decode cX6_block 130 = .ok (.iconst 0, 1) := by decide +kernel
theorem dX6_block_131 : decode cX6_block 131 = .ok (.istore_n 2, 1) := by decide +kernel
theorem dX6_block_132 : decode cX6_block 132 = .ok (.iload_n 2, 1) := by decide +kernel
theorem dX6_block_133 : decode cX6_block 133 = .ok (.bipush 8, 2) := by decide +kernel
theorem dX6_block_135 : decode cX6_block 135 = .ok (.if_icmp .ge 21, 3) := by decide +kernel
theorem dX6_block_138 : decode cX6_block 138 = .ok (.aload_n 0, 1) := by decide +kernel
theorem dX6_block_139 : decode cX6_block 139 = .ok (.getfield 149, 3) := by decide +kernel
theorem dX6_block_142 : decode cX6_block 142 = .ok (.iload_n 2, 1) := by decide +kernel
theorem dX6_block_143 : decode cX6_block 143 = .ok (.aload_n 0, 1) := by decide +kernel
theorem dX6_block_144 : decode cX6_block 144 = .ok (.getfield 146, 3) := by decide +kernel
theorem dX6_block_147 : decode cX6_block 147 = .ok (.iload_n 2, 1) := by decide +kernel
theorem dX6_block_148 : decode cX6_block 148 = .ok (.iaload, 1) := by decide +kernel
theorem dX6_block_149 : decode cX6_block 149 = .ok (.iastore, 1) := by decide +kernel
theorem dX6_block_150 : decode cX6_block 150 = .ok (.iinc 2 1, 3) := by decide +kernel
theorem dX6_block_153 : decode cX6_block 153 = .ok (.goto (-21), 3) := by decide +kernel
theorem dX6_block_156 : decode cX6_block 156 = .ok (.iconst 0, 1) := by decide +kernel
theorem dX6_block_157 : decode cX6_block 157 = .ok (.istore_n 2, 1) := by decide +kernel
theorem dX6_block_158 : decode cX6_block 158 = .ok (.iload_n 2, 1) := by decide +kernel
theorem dX6_block_159 : decode cX6_block 159 = .ok (.bipush 64, 2) := by decide +kernel
theorem dX6_block_161 : decode cX6_block 161 = .ok (.if_icmp .ge 204, 3) := by decide +kernel
theorem dX6_block_164 : decode cX6_block 164 = .ok (.aload_n 0, 1) := by decide +kernel
theorem dX6_block_165 : decode cX6_block 165 = .ok (.getfield 149, 3) := by decide +kernel
theorem dX6_block_168 : decode cX6_block 168 = .ok (.iconst 4, 1) := by decide +kernel
theorem dX6_block_169 : decode cX6_block 169 = .ok (.iaload, 1) := by decide +kernel
theorem dX6_block_170 : decode cX6_block 170 = .ok (.istore_n 3, 1) := by decide +kernel
theorem dX6_block_171 : decode cX6_block 171 = .ok (.aload_n 0, 1) := by decide +kernel
theorem dX6_block_172 : decode cX6_block 172 = .ok (.getfield 149, 3) := by decide +kernel
theorem dX6_block_175 : decode cX6_block 175 = .ok (.iconst 0, 1) := by decide +kernel
theorem dX6_block_176 : decode cX6_block 176 = .ok (.iaload, 1) := by decide +kernel
theorem dX6_block_177 : decode cX6_block 177 = .ok (.istore 4, 2) := by decide +kernel
theorem dX6_block_179 : decode cX6_block 179 = .ok (.aload_n 0, 1) := by decide +kernel
theorem dX6_block_180 : decode cX6_block 180 = .ok (.getfield 149, 3) := by decide +kernel
theorem dX6_block_183 : decode cX6_block 183 = .ok (.bipush 7, 2) := by decide +kernel
theorem dX6_block_185 : decode cX6_block 185 = .ok (.iaload, 1) := by decide +kernel
theorem dX6_block_186 : decode cX6_block 186 = .ok (.iload_n 3, 1) := by decide +kernel
theorem dX6_block_187 : decode cX6_block 187 = .ok (.bipush 6, 2) := by decide +kernel
theorem dX6_block_189 : decode cX6_block 189 = .ok (.invokestatic 165, 3) := by decide +kernel
theorem dX6_block_192 : decode cX6_block 192 = .ok (.iload_n 3, 1) := by decide +kernel
theorem dX6_block_193 : decode cX6_block 193 = .ok (.bipush 11, 2) := by decide +kernel
theorem dX6_block_195 : decode cX6_block 195 = .ok (.invokestatic 165, 3) := by decide +kernel
theorem dX6_block_198 : decode cX6_block 198 = .ok (.ixor, 1) := by decide +kernel
theorem dX6_block_199 : decode cX6_block 199 = .ok (.iload_n 3, 1) := by decide +kernel
theorem dX6_block_200 : decode cX6_block 200 = .ok (.bipush 25, 2) := by decide +kernel
theorem dX6_block_202 : decode cX6_block 202 = .ok (.invokestatic 165, 3) := by decide +kernel
theorem dX6_block_205 : decode cX6_block 205 = .ok (.ixor, 1) := by decide +kernel
theorem dX6_block_206 : decode cX6_block 206 = .ok (.iadd, 1) := by decide +kernel
theorem dX6_block_207 : decode cX6_block 207 = .ok (.iload_n 3, 1) := by decide +kernel
theorem dX6_block_208 : decode cX6_block 208 = .ok (.aload_n 0, 1) := by decide +kernel
theorem dX6_block_209 : decode cX6_block 209 = .ok (.getfield 149, 3) := by decide +kernel
theorem dX6_block_212 : decode cX6_block 212 = .ok (.iconst 5, 1) := by decide +kernel
theorem dX6_block_213 : decode cX6_block 213 = .ok (.iaload, 1) := by decide +kernel
theorem dX6_block_214 : decode cX6_block 214 = .ok (.iand, 1) := by decide +kernel
theorem dX6_block_215 : decode cX6_block 215 = .ok (.iload_n 3, 1) := by decide +kernel
theorem dX6_block_216 : decode cX6_block 216 = .ok (.iconst (-1), 1) := by decide +kernel
theorem dX6_block_217 : decode cX6_block 217 = .ok (.ixor, 1) := by decide +kernel
theorem dX6_block_218 : decode cX6_block 218 = .ok (.aload_n 0, 1) := by decide +kernel
theorem dX6_block_219 : decode cX6_block 219 = .ok (.getfield 149, 3) := by decide +kernel
theorem dX6_block_222 : decode cX6_block 222 = .ok (.bipush 6, 2) := by decide +kernel
theorem dX6_block_224 : decode cX6_block 224 = .ok (.iaload, 1) := by decide +kernel
theorem dX6_block_225 : decode cX6_block 225 = .ok (.iand, 1) := by decide +kernel
theorem dX6_block_226 : decode cX6_block 226 = .ok (.ixor, 1) := by decide +kernel
theorem dX6_block_227 : decode cX6_block 227 = .ok (.iadd, 1) := by decide +kernel
theorem dX6_block_228 : decode cX6_block 228 = .ok (.aload_n 0, 1) := by decide +kernel
theorem dX6_block_229 : decode cX6_block 229 = .ok (.getfield 126, 3) := by decide +kernel
theorem dX6_block_232 : decode cX6_block 232 = .ok (.iload_n 2, 1) := by decide +kernel
theorem dX6_block_233 : decode cX6_block 233 = .ok (.iaload, 1) := by decide +kernel
theorem dX6_block_234 : decode cX6_block 234 = .ok (.iadd, 1) := by decide +kernel
theorem dX6_block_235 : decode cX6_block 235 = .ok (.aload_n 0, 1) := by decide +kernel
theorem dX6_block_236 : decode cX6_block 236 = .ok (.getfield 143, 3) := by decide +kernel
theorem dX6_block_239 : decode cX6_block 239 = .ok (.iload_n 2, 1) := by decide +kernel
theorem dX6_block_240 : decode cX6_block 240 = .ok (.iaload, 1) := by decide +kernel
theorem dX6_block_241 : decode cX6_block 241 = .ok (.iadd, 1) := by decide +kernel
theorem dX6_block_242 : decode cX6_block 242 = .ok (.istore 5, 2) := by decide +kernel
theorem dX6_block_244 : decode cX6_block 244 = .ok (.iload 4, 2) := by decide +kernel
theorem dX6_block_246 : decode cX6_block 246 = .ok (.iconst 2, 1) := by decide +kernel
theorem dX6_block_247 : decode cX6_block 247 = .ok (.invokestatic 165, 3) := by decide +kernel
theorem dX6_block_250 : decode cX6_block 250 = .ok (.iload 4, 2) := by decide +kernel
theorem dX6_block_252 : decode cX6_block 252 = .ok (.bipush 13, 2) := by decide +kernel
theorem dX6_block_254 : decode cX6_block 254 = .ok (.invokestatic 165, 3) := by decide +kernel
theorem dX6_block_257 : decode cX6_block 257 = .ok (.ixor, 1) := by decide +kernel
theorem dX6_block_258 : decode cX6_block 258 = .ok (.iload 4, 2) := by decide +kernel
theorem dX6_block_260 : decode cX6_block 260 = .ok (.bipush 22, 2) := by decide +kernel
theorem dX6_block_262 : decode cX6_block 262 = .ok (.invokestatic 165, 3) := by decide +kernel
theorem dX6_block_265 : decode cX6_block 265 = .ok (.ixor, 1) := by decide +kernel
theorem dX6_block_266 : decode cX6_block 266 = .ok (.iload 4, 2) := by decide +kernel
theorem dX6_block_268 : decode cX6_block 268 = .ok (.aload_n 0, 1) := by decide +kernel
theorem dX6_block_269 : decode cX6_block 269 = .ok (.getfield 149, 3) := by decide +kernel
theorem dX6_block_272 : decode cX6_block 272 = .ok (.iconst 1, 1) := by decide +kernel
theorem dX6_block_273 : decode cX6_block 273 = .ok (.iaload, 1) := by decide +kernel
theorem dX6_block_274 : decode cX6_block 274 = .ok (.iand, 1) := by decide +kernel
theorem dX6_block_275 : decode cX6_block 275 = .ok (.iload 4, 2) := by decide +kernel
theorem dX6_block_277 : decode cX6_block 277 = .ok (.aload_n 0, 1) := by decide +kernel
theorem dX6_block_278 : decode cX6_block 278 = .ok (.getfield 149, 3) := by decide +kernel
theorem dX6_block_281 : decode cX6_block 281 = .ok (.iconst 2, 1) := by decide +kernel
theorem dX6_block_282 : decode cX6_block 282 = .ok (.iaload, 1) := by decide +kernel
theorem dX6_block_283 : decode cX6_block 283 = .ok (.iand, 1) := by decide +kernel
theorem dX6_block_284 : decode cX6_block 284 = .ok (.ixor, 1) := by decide +kernel
theorem dX6_block_285 : decode cX6_block 285 = .ok (.aload_n 0, 1) := by decide +kernel
theorem dX6_block_286 : decode cX6_block 286 = .ok (.getfield 149, 3) := by decide +kernel
theorem dX6_block_289 : decode cX6_block 289 = .ok (.iconst 1, 1) := by decide +kernel
theorem dX6_block_290 : decode cX6_block 290 = .ok (.iaload, 1) := by decide +kernel
theorem dX6_block_291 : decode cX6_block 291 = .ok (.aload_n 0, 1) := by decide +kernel
theorem dX6_block_292 : decode cX6_block 292 = .ok (.getfield 149, 3) := by decide +kernel
theorem dX6_block_295 : decode cX6_block 295 = .ok (.iconst 2, 1) := by decide +kernel
theorem dX6_block_296 : decode cX6_block 296 = .ok (.iaload, 1) := by decide +kernel
theorem dX6_block_297 : decode cX6_block 297 = .ok (.iand, 1) := by decide +kernel
theorem dX6_block_298 : decode cX6_block 298 = .ok (.ixor, 1) := by decide +kernel
theorem dX6_block_299 : decode cX6_block 299 = .ok (.iadd, 1) := by decide +kernel
theorem dX6_block_300 : decode cX6_block 300 = .ok (.istore 6, 2) := by decide +kernel
theorem dX6_block_302 : decode cX6_block 302 = .ok (.bipush 7, 2) := by decide +kernel
theorem dX6_block_304 : decode cX6_block 304 = .ok (.istore 7, 2) := by decide +kernel
theorem dX6_block_306 : decode cX6_block 306 = .ok (.iload 7, 2) := by decide +kernel
theorem dX6_block_308 : decode cX6_block 308 = .ok (.ifCond .le 25, 3) := by decide +kernel
theorem dX6_block_311 : decode cX6_block 311 = .ok (.aload_n 0, 1) := by decide +kernel
theorem dX6_block_312 : decode cX6_block 312 = .ok (.getfield 149, 3) := by decide +kernel
theorem dX6_block_315 : decode cX6_block 315 = .ok (.iload 7, 2) := by decide +kernel
theorem dX6_block_317 : decode cX6_block 317 = .ok (.aload_n 0, 1) := by decide +kernel
theorem dX6_block_318 : decode cX6_block 318 = .ok (.getfield 149, 3) := by decide +kernel
theorem dX6_block_321 : decode cX6_block 321 = .ok (.iload 7, 2) := by decide +kernel
theorem dX6_block_323 : decode cX6_block 323 = .ok (.iconst 1, 1) := by decide +kernel
theorem dX6_block_324 : decode cX6_block 324 = .ok (.isub, 1) := by decide +kernel
theorem dX6_block_325 : decode cX6_block 325 = .ok (.iaload, 1) := by decide +kernel
theorem dX6_block_326 : decode cX6_block 326 = .ok (.iastore, 1) := by decide +kernel
theorem dX6_block_327 : decode cX6_block 327 = .ok (.iinc 7 (-1), 3) := by decide +kernel
theorem dX6_block_330 : decode cX6_block 330 = .ok (.goto (-24), 3) := by decide +kernel
theorem dX6_block_333 : decode cX6_block 333 = .ok (.aload_n 0, 1) := by decide +kernel
theorem dX6_block_334 : decode cX6_block 334 = .ok (.getfield 149, 3) := by decide +kernel
theorem dX6_block_337 : decode cX6_block 337 = .ok (.iconst 4, 1) := by decide +kernel
theorem dX6_block_338 : decode cX6_block 338 = .ok (.aload_n 0, 1) := by decide +kernel
theorem dX6_block_339 : decode cX6_block 339 = .ok (.getfield 149, 3) := by decide +kernel
theorem dX6_block_342 : decode cX6_block 342 = .ok (.iconst 4, 1) := by decide +kernel
theorem dX6_block_343 : decode cX6_block 343 = .ok (.iaload, 1) := by decide +kernel
theorem dX6_block_344 : decode cX6_block 344 = .ok (.iload 5, 2) := by decide +kernel
theorem dX6_block_346 : decode cX6_block 346 = .ok (.iadd, 1) := by decide +kernel
theorem dX6_block_347 : decode cX6_block 347 = .ok (.iastore, 1) := by decide +kernel
theorem dX6_block_348 : decode cX6_block 348 = .ok (.aload_n 0, 1) := by decide +kernel
theorem dX6_block_349 : decode cX6_block 349 = .ok (.getfield 149, 3) := by decide +kernel
theorem dX6_block_352 : decode cX6_block 352 = .ok (.iconst 0, 1) := by decide +kernel
theorem dX6_block_353 : decode cX6_block 353 = .ok (.iload 5, 2) := by decide +kernel
theorem dX6_block_355 : decode cX6_block 355 = .ok (.iload 6, 2) := by decide +kernel
theorem dX6_block_357 : decode cX6_block 357 = .ok (.iadd, 1) := by decide +kernel
theorem dX6_block_358 : decode cX6_block 358 = .ok (.iastore, 1) := by decide +kernel
theorem dX6_block_359 : decode cX6_block 359 = .ok (.iinc 2 1, 3) := by decide +kernel
theorem dX6_block_362 : decode cX6_block 362 = .ok (.goto (-204), 3) := by decide +kernel
theorem dX6_block_365 : decode cX6_block 365 = .ok (.iconst 0, 1) := by decide +kernel
theorem dX6_block_366 : decode cX6_block 366 = .ok (.istore_n 2, 1) := by decide +kernel
theorem dX6_block_367 : decode cX6_block 367 = .ok (.iload_n 2, 1) := by decide +kernel
theorem dX6_block_368 : decode cX6_block 368 = .ok (.bipush 8, 2) := by decide +kernel
theorem dX6_block_370 : decode cX6_block 370 = .ok (.if_icmp .ge 28, 3) := by decide +kernel
theorem dX6_block_373 : decode cX6_block 373 = .ok (.aload_n 0, 1) := by decide +kernel
theorem dX6_block_374 : decode cX6_block 374 = .ok (.getfield 146, 3) := by decide +kernel
theorem dX6_block_377 : decode cX6_block 377 = .ok (.iload_n 2, 1) := by decide +kernel
theorem dX6_block_378 : decode cX6_block 378 = .ok (.aload_n 0, 1) := by decide +kernel
theorem dX6_block_379 : decode cX6_block 379 = .ok (.getfield 146, 3) := by decide +kernel
theorem dX6_block_382 : decode cX6_block 382 = .ok (.iload_n 2, 1) := by decide +kernel
theorem dX6_block_383 : decode cX6_block 383 = .ok (.iaload, 1) := by decide +kernel
theorem dX6_block_384 : decode cX6_block 384 = .ok (.aload_n 0, 1) := by decide +kernel
theorem dX6_block_385 : decode cX6_block 385 = .ok (.getfield 149, 3) := by decide +kernel
theorem dX6_block_388 : decode cX6_block 388 = .ok (.iload_n 2, 1) := by decide +kernel
theorem dX6_block_389 : decode cX6_block 389 = .ok (.iaload, 1) := by decide +kernel
theorem dX6_block_390 : decode cX6_block 390 = .ok (.iadd, 1) := by decide +kernel
theorem dX6_block_391 : decode cX6_block 391 = .ok (.iastore, 1) := by decide +kernel
theorem dX6_block_392 : decode cX6_block 392 = .ok (.iinc 2 1, 3) := by decide +kernel
theorem dX6_block_395 : decode cX6_block 395 = .ok (.goto (-28), 3) := by decide +kernel
theorem dX6_block_398 : decode cX6_block 398 = .ok (.return_, 1) := by decide +kernel
set_option maxRecDepth 20000 in
theorem ggX6_hash_X6_block : GoodIn wsX6_hash wsX6_block := goodIn_r _ [9, 10, 3, 11, 1, 12, 13, 14, 8, 15, 16, 17, 18, 19, 20, 21, 22, 23, 24, 25, 26, 27, 28, 29, 30, 31, 32, 33, 34, 35, 36, 37, 38, 39, 40, 41, 42, 43, 44, 45, 46, 47] (by decide +kernel) (by decide +kernel)
set_option maxRecDepth 20000 in
theorem gX6_hash_X6_block : GoodIn wsX6_hash (wsV RX6 172 RX6 yX6_block wsX6_block) := goodIn_app (goodIn_of _ (by decide +kernel)) ggX6_hash_X6_block
theorem dX6_hash_0 : decode cX6_hash 0 = .ok (.iconst 0, 1) := by decide +kernel
theorem dX6_hash_1 : decode cX6_hash 1 = .ok (.istore_n 2, 1) := by decide +kernel
theorem dX6_hash_2 : decode cX6_hash 2 = .ok (.iload_n 2, 1) := by decide +kernel
theorem dX6_hash_3 : decode cX6_hash 3 = .ok (.bipush 8, 2) := by decide +kernel
theorem dX6_hash_5 : decode cX6_hash 5 = .ok (.if_icmp .ge 21, 3) := by decide +kernel
theorem dX6_hash_8 : decode cX6_hash 8 = .ok (.aload_n 0, 1) := by decide +kernel
theorem dX6_hash_9 : decode cX6_hash 9 = .ok (.getfield 146, 3) := by decide +kernel
theorem dX6_hash_12 : decode cX6_hash 12 = .ok (.iload_n 2, 1) := by decide +kernel
theorem dX6_hash_13 : decode cX6_hash 13 = .ok (.aload_n 0, 1) := by decide +kernel
theorem dX6_hash_14 : decode cX6_hash 14 = .ok (.getfield 137, 3) := by decide +kernel
theorem dX6_hash_17 : decode cX6_hash 17 = .ok (.iload_n 2, 1) := by decide +kernel
theorem dX6_hash_18 : decode cX6_hash 18 = .ok (.iaload, 1) := by decide +kernel
theorem dX6_hash_19 : decode cX6_hash 19 = .ok (.iastore, 1) := by decide +kernel
theorem dX6_hash_20 : decode cX6_hash 20 = .ok (.iinc 2 1, 3) := by decide +kernel
theorem dX6_hash_23 : decode cX6_hash 23 = .ok (.goto (-21), 3) := by decide +kernel
theorem dX6_hash_26 : decode cX6_hash 26 = .ok (.aload_n 0, 1) := by decide +kernel
theorem dX6_hash_27 : decode cX6_hash 27 = .ok (.getfield 140, 3) := by decide +kernel
theorem dX6_hash_30 : decode cX6_hash 30 = .ok (.iload_n 1, 1) := by decide +kernel
theorem dX6_hash_31 : decode cX6_hash 31 = .ok (.ldc 171, 2) := by decide +kernel
theorem dX6_hash_33 : decode cX6_hash 33 = .ok (.iastore, 1) := by decide +kernel
theorem dX6_hash_34 : decode cX6_hash 34 = .ok (.iload_n 1, 1) := by decide +kernel
theorem dX6_hash_35 : decode cX6_hash 35 = .ok (.iconst 1, 1) := by decide +kernel
theorem dX6_hash_36 : decode cX6_hash 36 = .ok (.iadd, 1) := by decide +kernel
theorem dX6_hash_37 : decode cX6_hash 37 = .ok (.istore_n 2, 1) := by decide +kernel
theorem dX6_hash_38 : decode cX6_hash 38 = .ok (.iload_n 2, 1) := by decide +kernel
theorem dX6_hash_39 : decode cX6_hash 39 = .ok (.iload_n 1, 1) := by decide +kernel
theorem dX6_hash_40 : decode cX6_hash 40 = .ok (.bipush 16, 2) := by decide +kernel
theorem dX6_hash_42 : decode cX6_hash 42 = .ok (.iadd, 1) := by decide +kernel
theorem dX6_hash_43 : decode cX6_hash 43 = .ok (.if_icmp .ge 16, 3) := by decide +kernel
theorem dX6_hash_46 : decode cX6_hash 46 = .ok (.aload_n 0, 1) := by decide +kernel
theorem dX6_hash_47 : decode cX6_hash 47 = .ok (.getfield 140, 3) := by decide +kernel
theorem dX6_hash_50 : decode cX6_hash 50 = .ok (.iload_n 2, 1) := by decide +kernel
theorem dX6_hash_51 : decode cX6_hash 51 = .ok (.iconst 0, 1) := by decide +kernel
theorem dX6_hash_52 : decode cX6_hash 52 = .ok (.iastore, 1) := by decide +kernel
theorem dX6_hash_53 : decode cX6_hash 53 = .ok (.iinc 2 1, 3) := by decide +kernel
theorem dX6_hash_56 : decode cX6_hash 56 = .ok (.goto (-18), 3) := by decide +kernel
theorem dX6_hash_59 : decode cX6_hash 59 = .ok (.aload_n 0, 1) := by decide +kernel
theorem dX6_hash_60 : decode cX6_hash 60 = .ok (.getfield 140, 3) := by decide +kernel
theorem dX6_hash_63 : decode cX6_hash 63 = .ok (.iload_n 1, 1) := by decide +kernel
theorem dX6_hash_64 : decode cX6_hash 64 = .ok (.bipush 15, 2) := by decide +kernel
theorem dX6_hash_66 : decode cX6_hash 66 = .ok (.iadd, 1) := by decide +kernel
theorem dX6_hash_67 : decode cX6_hash 67 = .ok (.bipush 32, 2) := by decide +kernel
theorem dX6_hash_69 : decode cX6_hash 69 = .ok (.iload_n 1, 1) := by decide +kernel
theorem dX6_hash_70 : decode cX6_hash 70 = .ok (.imul, 1) := by decide +kernel
theorem dX6_hash_71 : decode cX6_hash 71 = .ok (.iastore, 1) := by decide +kernel
theorem dX6_hash_72 : decode cX6_hash 72 = .ok (.iconst 0, 1) := by decide +kernel
theorem dX6_hash_73 : decode cX6_hash 73 = .ok (.istore_n 2, 1) := by decide +kernel
theorem dX6_hash_74 : decode cX6_hash 74 = .ok (.iload_n 2, 1) := by decide +kernel
theorem dX6_hash_75 : decode cX6_hash 75 = .ok (.iload_n 1, 1) := by decide +kernel
theorem dX6_hash_76 : decode cX6_hash 76 = .ok (.if_icmp .gt 14, 3) := by decide +kernel
theorem dX6_hash_79 : decode cX6_hash 79 = .ok (.aload_n 0, 1) := by decide +kernel
theorem dX6_hash_80 : decode cX6_hash 80 = .ok (.iload_n 2, 1) := by decide +kernel
theorem dX6_hash_81 : decode cX6_hash 81 = .ok (.invokevirtual 172, 3) := by decide +kernel
theorem dX6_hash_84 : decode cX6_hash 84 = .ok (.iinc 2 16, 3) := by decide +kernel
theorem dX6_hash_87 : decode cX6_hash 87 = .ok (.goto (-13), 3) := by decide +kernel
theorem dX6_hash_90 : decode cX6_hash 90 = .ok (.return_, 1) := by decide +kernel
set_option maxRecDepth 20000 in
theorem ggX6_voucher_X6_hash : GoodIn wsX6_voucher wsX6_hash := goodIn_r _ [7, 8, 9, 1, 10, 11, 12, 13, 6, 14, 15, 16, 17, 18, 19, 20, 21, 22, 23, 24, 25, 26, 27, 28, 29, 30, 31, 32, 33, 34, 35, 36, 37, 38, 39, 40, 41, 42, 43, 44, 45, 46, 47, 48, 49, 50, 51, 52] (by decide +kernel) (by decide +kernel)
set_option maxRecDepth 20000 in
theorem gX6_voucher_X6_hash : GoodIn wsX6_voucher (wsV RX6 176 RX6 yX6_hash wsX6_hash) := goodIn_app (goodIn_of _ (by decide +kernel)) ggX6_voucher_X6_hash
theorem dX6_voucher_0 : decode cX6_voucher 0 = .ok (.iconst 0, 1) := by decide +kernel
theorem dX6_voucher_1 : decode cX6_voucher 1 = .ok (.istore_n 3, 1) := by decide +kernel
theorem dX6_voucher_2 : decode cX6_voucher 2 = .ok (.iload_n 3, 1) := by decide +kernel
theorem dX6_voucher_3 : decode cX6_voucher 3 = .ok (.bipush 8, 2) := by decide +kernel
theorem dX6_voucher_5 : decode cX6_voucher 5 = .ok (.if_icmp .ge 45, 3) := by decide +kernel
theorem dX6_voucher_8 : decode cX6_voucher 8 = .ok (.aload_n 0, 1) := by decide +kernel
theorem dX6_voucher_9 : decode cX6_voucher 9 = .ok (.getfield 140, 3) := by decide +kernel
theorem dX6_voucher_12 : decode cX6_voucher 12 = .ok (.iload_n 3, 1) := by decide +kernel
theorem dX6_voucher_13 : decode cX6_voucher 13 = .ok (.aload_n 0, 1) := by decide +kernel
theorem dX6_voucher_14 : decode cX6_voucher 14 = .ok (.getfield 7, 3) := by decide +kernel
theorem dX6_voucher_17 : decode cX6_voucher 17 = .ok (.iload_n 3, 1) := by decide +kernel
theorem dX6_voucher_18 : decode cX6_voucher 18 = .ok (.iaload, 1) := by decide +kernel
theorem dX6_voucher_19 : decode cX6_voucher 19 = .ok (.iastore, 1) := by decide +kernel
theorem dX6_voucher_20 : decode cX6_voucher 20 = .ok (.aload_n 0, 1) := by decide +kernel
theorem dX6_voucher_21 : decode cX6_voucher 21 = .ok (.getfield 140, 3) := by decide +kernel
theorem dX6_voucher_24 : decode cX6_voucher 24 = .ok (.bipush 8, 2) := by decide +kernel
theorem dX6_voucher_26 : decode cX6_voucher 26 = .ok (.iload_n 3, 1) := by decide +kernel
theorem dX6_voucher_27 : decode cX6_voucher 27 = .ok (.iadd, 1) := by decide +kernel
theorem dX6_voucher_28 : decode cX6_voucher 28 = .ok (.aload_n 1, 1) := by decide +kernel
theorem dX6_voucher_29 : decode cX6_voucher 29 = .ok (.iload_n 2, 1) := by decide +kernel
theorem dX6_voucher_30 : decode cX6_voucher 30 = .ok (.iload_n 3, 1) := by decide +kernel
theorem dX6_voucher_31 : decode cX6_voucher 31 = .ok (.iadd, 1) := by decide +kernel
theorem dX6_voucher_32 : decode cX6_voucher 32 = .ok (.iaload, 1) := by decide +kernel
theorem dX6_voucher_33 : decode cX6_voucher 33 = .ok (.iastore, 1) := by decide +kernel
theorem dX6_voucher_34 : decode cX6_voucher 34 = .ok (.aload_n 0, 1) := by decide +kernel
theorem dX6_voucher_35 : decode cX6_voucher 35 = .ok (.getfield 140, 3) := by decide +kernel
theorem dX6_voucher_38 : decode cX6_voucher 38 = .ok (.bipush 24, 2) := by decide +kernel
theorem dX6_voucher_40 : decode cX6_voucher 40 = .ok (.iload_n 3, 1) := by decide +kernel
theorem dX6_voucher_41 : decode cX6_voucher 41 = .ok (.iadd, 1) := by decide +kernel
theorem dX6_voucher_42 : decode cX6_voucher 42 = .ok (.iconst 0, 1) := by decide +kernel
theorem dX6_voucher_43 : decode cX6_voucher 43 = .ok (.iastore, 1) := by decide +kernel
theorem dX6_voucher_44 : decode cX6_voucher 44 = .ok (.iinc 3 1, 3) := by decide +kernel
theorem dX6_voucher_47 : decode cX6_voucher 47 = .ok (.goto (-45), 3) := by decide +kernel
theorem dX6_voucher_50 : decode cX6_voucher 50 = .ok (.aload_n 0, 1) := by decide +kernel
theorem dX6_voucher_51 : decode cX6_voucher 51 = .ok (.bipush 32, 2) := by decide +kernel
theorem dX6_voucher_53 : decode cX6_voucher 53 = .ok (.invokevirtual 176, 3) := by decide +kernel
theorem dX6_voucher_56 : decode cX6_voucher 56 = .ok (.return_, 1) := by decide +kernel
set_option maxRecDepth 20000 in
theorem ggX6_key_X6_free : GoodIn wsX6_key wsX6_free := goodIn_r _ [7, 8, 9, 10, 11, 12, 13, 14, 15, 16, 17, 18, 19, 20, 21, 22, 23, 24, 25, 26, 27, 28, 29, 30, 31, 32, 33, 34, 35, 36, 37, 38, 39, 40, 41, 42] (by decide +kernel) (by decide +kernel)
set_option maxRecDepth 20000 in
theorem gX6_key_X6_free : GoodIn wsX6_key (wsV RX6 155 RX6 yX6_free wsX6_free) := goodIn_app (goodIn_of _ (by decide +kernel)) ggX6_key_X6_free
theorem dX6_key_0 : decode cX6_key 0 = .ok (.aload_n 0, 1) := by decide +kernel
theorem dX6_key_1 : decode cX6_key 1 = .ok (.iload_n 1, 1) := by decide +kernel
theorem dX6_key_2 : decode cX6_key 2 = .ok (.ifCond .lt 9, 3) := by decide +kernel
theorem dX6_key_5 : decode cX6_key 5 = .ok (.iload_n 1, 1) := by decide +kernel
theorem dX6_key_6 : decode cX6_key 6 = .ok (.bipush 7, 2) := by decide +kernel
theorem dX6_key_8 : decode cX6_key 8 = .ok (.if_icmp .le 7, 3) := by decide +kernel
theorem dX6_key_11 : decode cX6_key 11 = .ok (.iconst 1, 1) := by decide +kernel
theorem dX6_key_12 : decode cX6_key 12 = .ok (.goto 4, 3) := by decide +kernel
theorem dX6_key_15 : decode cX6_key 15 = .ok (.iconst 0, 1) := by decide +kernel
theorem dX6_key_16 : decode cX6_key 16 = .ok (.putfield 158, 3) := by decide +kernel
theorem dX6_key_19 : decode cX6_key 19 = .ok (.aload_n 0, 1) := by decide +kernel
theorem dX6_key_20 : decode cX6_key 20 = .ok (.getfield 158, 3) := by decide +kernel
theorem dX6_key_23 : decode cX6_key 23 = .ok (.ifCond .ne 14, 3) := by decide +kernel
theorem dX6_key_26 : decode cX6_key 26 = .ok (.aload_n 0, 1) := by decide +kernel
theorem dX6_key_27 : decode cX6_key 27 = .ok (.getfield 7, 3) := by decide +kernel
theorem dX6_key_30 : decode cX6_key 30 = .ok (.iload_n 1, 1) := by decide +kernel
theorem dX6_key_31 : decode cX6_key 31 = .ok (.iload_n 2, 1) := by decide +kernel
theorem dX6_key_32 : decode cX6_key 32 = .ok (.iastore, 1) := by decide +kernel
theorem dX6_key_33 : decode cX6_key 33 = .ok (.aload_n 0, 1) := by decide +kernel
theorem dX6_key_34 : decode cX6_key 34 = .ok (.invokevirtual 155, 3) := by decide +kernel
theorem dX6_key_37 : decode cX6_key 37 = .ok (.return_, 1) := by decide +kernel
theorem dX6_noFrame_0 : decode cX6_noFrame 0 = .ok (.iload_n 0, 1) := by decide +kernel
theorem dX6_noFrame_1 : decode cX6_noFrame 1 = .ok (.ifCond .lt 9, 3) := by decide +kernel
theorem dX6_noFrame_4 : decode cX6_noFrame 4 = .ok (.iload_n 0, 1) := by decide +kernel
theorem dX6_noFrame_5 : decode cX6_noFrame 5 = .ok (.bipush 8, 2) := by decide +kernel
theorem dX6_noFrame_7 : decode cX6_noFrame 7 = .ok (.if_icmp .lt 7, 3) := by decide +kernel
theorem dX6_noFrame_10 : decode cX6_noFrame 10 = .ok (.iconst 1, 1) := by decide +kernel
theorem dX6_noFrame_11 : decode cX6_noFrame 11 = .ok (.goto 4, 3) := by decide +kernel
theorem dX6_noFrame_14 : decode cX6_noFrame 14 = .ok (.iconst 0, 1) := by decide +kernel
theorem dX6_noFrame_15 : decode cX6_noFrame 15 = .ok (.ireturn, 1) := by decide +kernel
set_option maxRecDepth 20000 in
theorem ggX6_poke_X6_noFrame : GoodIn wsX6_poke wsX6_noFrame := goodIn_r _ [6] (by decide +kernel) (by decide +kernel)
set_option maxRecDepth 20000 in
theorem gX6_poke_X6_noFrame : GoodIn wsX6_poke (va_wsS RX6 179 yX6_noFrame wsX6_noFrame) := goodIn_app (goodIn_of _ (by decide +kernel)) ggX6_poke_X6_noFrame
theorem dX6_poke_0 : decode cX6_poke 0 = .ok (.aload_n 0, 1) := by decide +kernel
theorem dX6_poke_1 : decode cX6_poke 1 = .ok (.iload_n 1, 1) := by decide +kernel
theorem dX6_poke_2 : decode cX6_poke 2 = .ok (.invokestatic 179, 3) := by decide +kernel
theorem dX6_poke_5 : decode cX6_poke 5 = .ok (.ifCond .ne 13, 3) := by decide +kernel
theorem dX6_poke_8 : decode cX6_poke 8 = .ok (.iload_n 2, 1) := by decide +kernel
theorem dX6_poke_9 : decode cX6_poke 9 = .ok (.ifCond .lt 9, 3) := by decide +kernel
theorem dX6_poke_12 : decode cX6_poke 12 = .ok (.iload_n 2, 1) := by decide +kernel
theorem dX6_poke_13 : decode cX6_poke 13 = .ok (.bipush 16, 2) := by decide +kernel
theorem dX6_poke_15 : decode cX6_poke 15 = .ok (.if_icmp .lt 7, 3) := by decide +kernel
theorem dX6_poke_18 : decode cX6_poke 18 = .ok (.iconst 1, 1) := by decide +kernel
theorem dX6_poke_19 : decode cX6_poke 19 = .ok (.goto 4, 3) := by decide +kernel
theorem dX6_poke_22 : decode cX6_poke 22 = .ok (.iconst 0, 1) := by decide +kernel
theorem dX6_poke_23 : decode cX6_poke 23 = .ok (.putfield 158, 3) := by decide +kernel
theorem dX6_poke_26 : decode cX6_poke 26 = .ok (.aload_n 0, 1) := by decide +kernel
theorem dX6_poke_27 : decode cX6_poke 27 = .ok (.getfield 158, 3) := by decide +kernel
theorem dX6_poke_30 : decode cX6_poke 30 = .ok (.ifCond .le 5, 3) := by decide +kernel
theorem dX6_poke_33 : decode cX6_poke 33 = .ok (.iconst 0, 1) := by decide +kernel
theorem dX6_poke_34 : decode cX6_poke 34 = .ok (.ireturn, 1) := by decide +kernel
theorem dX6_poke_35 : decode cX6_poke 35 = .ok (.aload_n 0, 1) := by decide +kernel
theorem dX6_poke_36 : decode cX6_poke 36 = .ok (.getfield 13, 3) := by decide +kernel
theorem dX6_poke_39 : decode cX6_poke 39 = .ok (.bipush 16, 2) := by decide +kernel
theorem dX6_poke_41 : decode cX6_poke 41 = .ok (.iload_n 1, 1) := by decide +kernel
theorem dX6_poke_42 : decode cX6_poke 42 = .ok (.imul, 1) := by decide +kernel
theorem dX6_poke_43 : decode cX6_poke 43 = .ok (.iload_n 2, 1) := by decide +kernel
theorem dX6_poke_44 : decode cX6_poke 44 = .ok (.iadd, 1) := by decide +kernel
theorem dX6_poke_45 : decode cX6_poke 45 = .ok (.iaload, 1) := by decide +kernel
theorem dX6_poke_46 : decode cX6_poke 46 = .ok (.istore 4, 2) := by decide +kernel
theorem dX6_poke_48 : decode cX6_poke 48 = .ok (.aload_n 0, 1) := by decide +kernel
theorem dX6_poke_49 : decode cX6_poke 49 = .ok (.getfield 13, 3) := by decide +kernel
theorem dX6_poke_52 : decode cX6_poke 52 = .ok (.bipush 16, 2) := by decide +kernel
theorem dX6_poke_54 : decode cX6_poke 54 = .ok (.iload_n 1, 1) := by decide +kernel
theorem dX6_poke_55 : decode cX6_poke 55 = .ok (.imul, 1) := by decide +kernel
theorem dX6_poke_56 : decode cX6_poke 56 = .ok (.iload_n 2, 1) := by decide +kernel
theorem dX6_poke_57 : decode cX6_poke 57 = .ok (.iadd, 1) := by decide +kernel
theorem dX6_poke_58 : decode cX6_poke 58 = .ok (.iload_n 3, 1) := by decide +kernel
theorem dX6_poke_59 : decode cX6_poke 59 = .ok (.iastore, 1) := by decide +kernel
theorem dX6_poke_60 : decode cX6_poke 60 = .ok (.iload 4, 2) := by decide +kernel
theorem dX6_poke_62 : decode cX6_poke 62 = .ok (.ireturn, 1) := by decide +kernel
set_option maxRecDepth 20000 in
theorem ggX6_peek_X6_noFrame : GoodIn wsX6_peek wsX6_noFrame := goodIn_r _ [6] (by decide +kernel) (by decide +kernel)
set_option maxRecDepth 20000 in
theorem gX6_peek_X6_noFrame : GoodIn wsX6_peek (va_wsS RX6 179 yX6_noFrame wsX6_noFrame) := goodIn_app (goodIn_of _ (by decide +kernel)) ggX6_peek_X6_noFrame
theorem dX6_peek_0 : decode cX6_peek 0 = .ok (.aload_n 0, 1) := by decide +kernel
theorem dX6_peek_1 : decode cX6_peek 1 = .ok (.iload_n 1, 1) := by decide +kernel
theorem dX6_peek_2 : decode cX6_peek 2 = .ok (.invokestatic 179, 3) := by decide +kernel
theorem dX6_peek_5 : decode cX6_peek 5 = .ok (.ifCond .ne 13, 3) := by decide +kernel
theorem dX6_peek_8 : decode cX6_peek 8 = .ok (.iload_n 2, 1) := by decide +kernel
theorem dX6_peek_9 : decode cX6_peek 9 = .ok (.ifCond .lt 9, 3) := by decide +kernel
theorem dX6_peek_12 : decode cX6_peek 12 = .ok (.iload_n 2, 1) := by decide +kernel
theorem dX6_peek_13 : decode cX6_peek 13 = .ok (.bipush 16, 2) := by decide +kernel
theorem dX6_peek_15 : decode cX6_peek 15 = .ok (.if_icmp .lt 7, 3) := by decide +kernel
theorem dX6_peek_18 : decode cX6_peek 18 = .ok (.iconst 1, 1) := by decide +kernel
theorem dX6_peek_19 : decode cX6_peek 19 = .ok (.goto 4, 3) := by decide +kernel
theorem dX6_peek_22 : decode cX6_peek 22 = .ok (.iconst 0, 1) := by decide +kernel
theorem dX6_peek_23 : decode cX6_peek 23 = .ok (.putfield 158, 3) := by decide +kernel
theorem dX6_peek_26 : decode cX6_peek 26 = .ok (.aload_n 0, 1) := by decide +kernel
theorem dX6_peek_27 : decode cX6_peek 27 = .ok (.getfield 158, 3) := by decide +kernel
theorem dX6_peek_30 : decode cX6_peek 30 = .ok (.ifCond .le 7, 3) := by decide +kernel
theorem dX6_peek_33 : decode cX6_peek 33 = .ok (.iconst 0, 1) := by decide +kernel
theorem dX6_peek_34 : decode cX6_peek 34 = .ok (.goto 14, 3) := by decide +kernel
theorem dX6_peek_37 : decode cX6_peek 37 = .ok (.aload_n 0, 1) := by decide +kernel
theorem dX6_peek_38 : decode cX6_peek 38 = .ok (.getfield 13, 3) := by decide +kernel
theorem dX6_peek_41 : decode cX6_peek 41 = .ok (.bipush 16, 2) := by decide +kernel
theorem dX6_peek_43 : decode cX6_peek 43 = .ok (.iload_n 1, 1) := by decide +kernel
theorem dX6_peek_44 : decode cX6_peek 44 = .ok (.imul, 1) := by decide +kernel
theorem dX6_peek_45 : decode cX6_peek 45 = .ok (.iload_n 2, 1) := by decide +kernel
theorem dX6_peek_46 : decode cX6_peek 46 = .ok (.iadd, 1) := by decide +kernel
theorem dX6_peek_47 : decode cX6_peek 47 = .ok (.iaload, 1) := by decide +kernel
theorem dX6_peek_48 : decode cX6_peek 48 = .ok (.ireturn, 1) := by decide +kernel
theorem dX6_noPage_0 : decode cX6_noPage 0 = .ok (.iload_n 0, 1) := by decide +kernel
theorem dX6_noPage_1 : decode cX6_noPage 1 = .ok (.ifCond .lt 9, 3) := by decide +kernel
theorem dX6_noPage_4 : decode cX6_noPage 4 = .ok (.iload_n 0, 1) := by decide +kernel
theorem dX6_noPage_5 : decode cX6_noPage 5 = .ok (.bipush 20, 2) := by decide +kernel
theorem dX6_noPage_7 : decode cX6_noPage 7 = .ok (.if_icmp .lt 7, 3) := by decide +kernel
theorem dX6_noPage_10 : decode cX6_noPage 10 = .ok (.iconst 1, 1) := by decide +kernel
theorem dX6_noPage_11 : decode cX6_noPage 11 = .ok (.goto 4, 3) := by decide +kernel
theorem dX6_noPage_14 : decode cX6_noPage 14 = .ok (.iconst 0, 1) := by decide +kernel
theorem dX6_noPage_15 : decode cX6_noPage 15 = .ok (.ireturn, 1) := by decide +kernel
theorem dX6_begin_0 : decode cX6_begin 0 = .ok (.aload_n 0, 1) := by decide +kernel
theorem dX6_begin_1 : decode cX6_begin 1 = .ok (.iconst 0, 1) := by decide +kernel
theorem dX6_begin_2 : decode cX6_begin 2 = .ok (.putfield 158, 3) := by decide +kernel
theorem dX6_begin_5 : decode cX6_begin 5 = .ok (.aload_n 0, 1) := by decide +kernel
theorem dX6_begin_6 : decode cX6_begin 6 = .ok (.iconst 0, 1) := by decide +kernel
theorem dX6_begin_7 : decode cX6_begin 7 = .ok (.putfield 183, 3) := by decide +kernel
theorem dX6_begin_10 : decode cX6_begin 10 = .ok (.return_, 1) := by decide +kernel
theorem dX6_wrong_0 : decode cX6_wrong 0 = .ok (.iload_n 1, 1) := by decide +kernel
theorem dX6_wrong_1 : decode cX6_wrong 1 = .ok (.ifCond .eq 15, 3) := by decide +kernel
theorem dX6_wrong_4 : decode cX6_wrong 4 = .ok (.aload_n 0, 1) := by decide +kernel
theorem dX6_wrong_5 : decode cX6_wrong 5 = .ok (.getfield 183, 3) := by decide +kernel
theorem dX6_wrong_8 : decode cX6_wrong 8 = .ok (.ifCond .ne 8, 3) := by decide +kernel
theorem dX6_wrong_11 : decode cX6_wrong 11 = .ok (.aload_n 0, 1) := by decide +kernel
theorem dX6_wrong_12 : decode cX6_wrong 12 = .ok (.iload_n 2, 1) := by decide +kernel
theorem dX6_wrong_13 : decode cX6_wrong 13 = .ok (.putfield 183, 3) := by decide +kernel
theorem dX6_wrong_16 : decode cX6_wrong 16 = .ok (.return_, 1) := by decide +kernel
set_option maxRecDepth 20000 in
theorem ggX6_isKind_X6_noPage : GoodIn wsX6_isKind wsX6_noPage := goodIn_r _ [5] (by decide +kernel) (by decide +kernel)
set_option maxRecDepth 20000 in
theorem gX6_isKind_X6_noPage : GoodIn wsX6_isKind (va_wsS RX6 186 yX6_noPage wsX6_noPage) := goodIn_app (goodIn_of _ (by decide +kernel)) ggX6_isKind_X6_noPage
theorem dX6_isKind_0 : decode cX6_isKind 0 = .ok (.iload_n 1, 1) := by decide +kernel
theorem dX6_isKind_1 : decode cX6_isKind 1 = .ok (.invokestatic 186, 3) := by decide +kernel
theorem dX6_isKind_4 : decode cX6_isKind 4 = .ok (.ifCond .ne 17, 3) := by decide +kernel
theorem dX6_isKind_7 : decode cX6_isKind 7 = .ok (.aload_n 0, 1) := by decide +kernel
theorem dX6_isKind_8 : decode cX6_isKind 8 = .ok (.getfield 16, 3) := by decide +kernel
theorem dX6_isKind_11 : decode cX6_isKind 11 = .ok (.iload_n 1, 1) := by decide +kernel
theorem dX6_isKind_12 : decode cX6_isKind 12 = .ok (.iaload, 1) := by decide +kernel
theorem dX6_isKind_13 : decode cX6_isKind 13 = .ok (.iload_n 2, 1) := by decide +kernel
theorem dX6_isKind_14 : decode cX6_isKind 14 = .ok (.if_icmp .ne 7, 3) := by decide +kernel
theorem dX6_isKind_17 : decode cX6_isKind 17 = .ok (.iconst 1, 1) := by decide +kernel
theorem dX6_isKind_18 : decode cX6_isKind 18 = .ok (.goto 4, 3) := by decide +kernel
theorem dX6_isKind_21 : decode cX6_isKind 21 = .ok (.iconst 0, 1) := by decide +kernel
theorem dX6_isKind_22 : decode cX6_isKind 22 = .ok (.ireturn, 1) := by decide +kernel
set_option maxRecDepth 20000 in
theorem ggX6_wantFree_X6_isKind : GoodIn wsX6_wantFree wsX6_isKind := goodIn_r _ [5, 6, 7, 8, 4, 9, 15, 16, 17, 18, 19, 20, 21, 22, 23, 24, 25, 26, 27, 28, 29, 30, 31, 32, 33, 34, 35, 36, 37, 38, 39, 40, 41, 42, 43, 44, 45, 46] (by decide +kernel) (by decide +kernel)
set_option maxRecDepth 20000 in
theorem gX6_wantFree_X6_isKind : GoodIn wsX6_wantFree (wsV RX6 189 RX6 yX6_isKind wsX6_isKind) := goodIn_app (goodIn_of _ (by decide +kernel)) ggX6_wantFree_X6_isKind
set_option maxRecDepth 20000 in
theorem ggX6_wantFree_X6_wrong : GoodIn wsX6_wantFree wsX6_wrong := goodIn_r _ [13, 14, 15, 16, 17, 18, 19, 20, 21, 22, 23, 24, 25, 26, 27, 28, 29, 30, 31, 32, 33, 34, 35, 36, 37, 38, 39, 40, 41, 42, 43, 44, 45, 46] (by decide +kernel) (by decide +kernel)
set_option maxRecDepth 20000 in
theorem gX6_wantFree_X6_wrong : GoodIn wsX6_wantFree (wsV RX6 193 RX6 yX6_wrong wsX6_wrong) := goodIn_app (goodIn_of _ (by decide +kernel)) ggX6_wantFree_X6_wrong
theorem dX6_wantFree_0 : decode cX6_wantFree 0 = .ok (.aload_n 0, 1) := by decide +kernel
theorem dX6_wantFree_1 : decode cX6_wantFree 1 = .ok (.aload_n 0, 1) := by decide +kernel
theorem dX6_wantFree_2 : decode cX6_wantFree 2 = .ok (.iload_n 1, 1) := by decide +kernel
theorem dX6_wantFree_3 : decode cX6_wantFree 3 = .ok (.iconst 0, 1) := by decide +kernel
theorem dX6_wantFree_4 : decode cX6_wantFree 4 = .ok (.invokevirtual 189, 3) := by decide +kernel
theorem dX6_wantFree_7 : decode cX6_wantFree 7 = .ok (.ifCond .ne 7, 3) := by decide +kernel
theorem dX6_wantFree_10 : decode cX6_wantFree 10 = .ok (.iconst 1, 1) := by decide +kernel
theorem dX6_wantFree_11 : decode cX6_wantFree 11 = .ok (.goto 4, 3) := by decide +kernel
theorem dX6_wantFree_14 : decode cX6_wantFree 14 = .ok (.iconst 0, 1) := by decide +kernel
theorem dX6_wantFree_15 : decode cX6_wantFree 15 = .ok (.iconst 2, 1) := by decide +kernel
theorem dX6_wantFree_16 : decode cX6_wantFree 16 = .ok (.invokevirtual 193, 3) := by decide +kernel
theorem dX6_wantFree_19 : decode cX6_wantFree 19 = .ok (.return_, 1) := by decide +kernel
set_option maxRecDepth 20000 in
theorem ggX6_wantSpace_X6_isKind : GoodIn wsX6_wantSpace wsX6_isKind := goodIn_r _ [7, 8, 9, 10, 6, 11, 16, 17, 18, 19, 20, 21, 22, 23, 24, 25, 26, 27, 28, 29, 30, 31, 32, 33, 34, 35, 36, 37, 38, 39, 40, 41, 42, 43, 44, 45, 46, 47] (by decide +kernel) (by decide +kernel)
set_option maxRecDepth 20000 in
theorem gX6_wantSpace_X6_isKind : GoodIn wsX6_wantSpace (wsV RX6 189 RX6 yX6_isKind wsX6_isKind) := goodIn_app (goodIn_of _ (by decide +kernel)) ggX6_wantSpace_X6_isKind
set_option maxRecDepth 20000 in
theorem ggX6_wantSpace_X6_wrong : GoodIn wsX6_wantSpace wsX6_wrong := goodIn_r _ [15, 1, 16, 17, 18, 19, 20, 21, 22, 23, 24, 25, 26, 27, 28, 29, 30, 31, 32, 33, 34, 35, 36, 37, 38, 39, 40, 41, 42, 43, 44, 45, 46, 47] (by decide +kernel) (by decide +kernel)
set_option maxRecDepth 20000 in
theorem gX6_wantSpace_X6_wrong : GoodIn wsX6_wantSpace (wsV RX6 193 RX6 yX6_wrong wsX6_wrong) := goodIn_app (goodIn_of _ (by decide +kernel)) ggX6_wantSpace_X6_wrong
theorem dX6_wantSpace_0 : decode cX6_wantSpace 0 = .ok (.aload_n 0, 1) := by decide +kernel
theorem dX6_wantSpace_1 : decode cX6_wantSpace 1 = .ok (.aload_n 0, 1) := by decide +kernel
theorem dX6_wantSpace_2 : decode cX6_wantSpace 2 = .ok (.iload_n 1, 1) := by decide +kernel
theorem dX6_wantSpace_3 : decode cX6_wantSpace 3 = .ok (.iconst 1, 1) := by decide +kernel
theorem dX6_wantSpace_4 : decode cX6_wantSpace 4 = .ok (.invokevirtual 189, 3) := by decide +kernel
theorem dX6_wantSpace_7 : decode cX6_wantSpace 7 = .ok (.ifCond .ne 7, 3) := by decide +kernel
theorem dX6_wantSpace_10 : decode cX6_wantSpace 10 = .ok (.iconst 1, 1) := by decide +kernel
theorem dX6_wantSpace_11 : decode cX6_wantSpace 11 = .ok (.goto 4, 3) := by decide +kernel
theorem dX6_wantSpace_14 : decode cX6_wantSpace 14 = .ok (.iconst 0, 1) := by decide +kernel
theorem dX6_wantSpace_15 : decode cX6_wantSpace 15 = .ok (.iconst 3, 1) := by decide +kernel
theorem dX6_wantSpace_16 : decode cX6_wantSpace 16 = .ok (.invokevirtual 193, 3) := by decide +kernel
theorem dX6_wantSpace_19 : decode cX6_wantSpace 19 = .ok (.aload_n 0, 1) := by decide +kernel
theorem dX6_wantSpace_20 : decode cX6_wantSpace 20 = .ok (.aload_n 0, 1) := by decide +kernel
theorem dX6_wantSpace_21 : decode cX6_wantSpace 21 = .ok (.getfield 183, 3) := by decide +kernel
theorem dX6_wantSpace_24 : decode cX6_wantSpace 24 = .ok (.ifCond .ne 17, 3) := by decide +kernel
theorem dX6_wantSpace_27 : decode cX6_wantSpace 27 = .ok (.aload_n 0, 1) := by decide +kernel
theorem dX6_wantSpace_28 : decode cX6_wantSpace 28 = .ok (.getfield 22, 3) := by decide +kernel
theorem dX6_wantSpace_31 : decode cX6_wantSpace 31 = .ok (.iload_n 1, 1) := by decide +kernel
theorem dX6_wantSpace_32 : decode cX6_wantSpace 32 = .ok (.iaload, 1) := by decide +kernel
theorem dX6_wantSpace_33 : decode cX6_wantSpace 33 = .ok (.iload_n 2, 1) := by decide +kernel
theorem dX6_wantSpace_34 : decode cX6_wantSpace 34 = .ok (.if_icmp .eq 7, 3) := by decide +kernel
theorem dX6_wantSpace_37 : decode cX6_wantSpace 37 = .ok (.iconst 1, 1) := by decide +kernel
theorem dX6_wantSpace_38 : decode cX6_wantSpace 38 = .ok (.goto 4, 3) := by decide +kernel
theorem dX6_wantSpace_41 : decode cX6_wantSpace 41 = .ok (.iconst 0, 1) := by decide +kernel
theorem dX6_wantSpace_42 : decode cX6_wantSpace 42 = .ok (.iconst 4, 1) := by decide +kernel
theorem dX6_wantSpace_43 : decode cX6_wantSpace 43 = .ok (.invokevirtual 193, 3) := by decide +kernel
theorem dX6_wantSpace_46 : decode cX6_wantSpace 46 = .ok (.return_, 1) := by decide +kernel
theorem dX6_tableOf_0 : decode cX6_tableOf 0 = .ok (.aload_n 0, 1) := by decide +kernel
theorem dX6_tableOf_1 : decode cX6_tableOf 1 = .ok (.getfield 34, 3) := by decide +kernel
theorem dX6_tableOf_4 : decode cX6_tableOf 4 = .ok (.iconst 4, 1) := by decide +kernel
theorem dX6_tableOf_5 : decode cX6_tableOf 5 = .ok (.iload_n 1, 1) := by decide +kernel
theorem dX6_tableOf_6 : decode cX6_tableOf 6 = .ok (.imul, 1) := by decide +kernel
theorem dX6_tableOf_7 : decode cX6_tableOf 7 = .ok (.iload_n 2, 1) := by decide +kernel
theorem dX6_tableOf_8 : decode cX6_tableOf 8 = .ok (.bipush 8, 2) := by decide +kernel
theorem dX6_tableOf_10 : decode cX6_tableOf 10 = .ok (.idiv, 1) := by decide +kernel
theorem dX6_tableOf_11 : decode cX6_tableOf 11 = .ok (.iadd, 1) := by decide +kernel
theorem dX6_tableOf_12 : decode cX6_tableOf 12 = .ok (.iaload, 1) := by decide +kernel
theorem dX6_tableOf_13 : decode cX6_tableOf 13 = .ok (.ireturn, 1) := by decide +kernel
set_option maxRecDepth 20000 in
theorem ggX6_entryOf_X6_tableOf : GoodIn wsX6_entryOf wsX6_tableOf := goodIn_r _ [5, 6, 7, 8, 9, 10, 11, 12, 13, 14, 15, 16, 17, 18, 19, 20, 21, 22, 23, 24, 25, 26, 27, 28, 29, 30, 31, 32, 33, 34, 35, 36, 37, 38] (by decide +kernel) (by decide +kernel)
set_option maxRecDepth 20000 in
theorem gX6_entryOf_X6_tableOf : GoodIn wsX6_entryOf (wsV RX6 197 RX6 yX6_tableOf wsX6_tableOf) := goodIn_app (goodIn_of _ (by decide +kernel)) ggX6_entryOf_X6_tableOf
theorem dX6_entryOf_0 : decode cX6_entryOf 0 = .ok (.bipush 8, 2) := by decide +kernel
theorem dX6_entryOf_2 : decode cX6_entryOf 2 = .ok (.aload_n 0, 1) := by decide +kernel
theorem dX6_entryOf_3 : decode cX6_entryOf 3 = .ok (.iload_n 1, 1) := by decide +kernel
theorem dX6_entryOf_4 : decode cX6_entryOf 4 = .ok (.iload_n 2, 1) := by decide +kernel
theorem dX6_entryOf_5 : decode cX6_entryOf 5 = .ok (.invokevirtual 197, 3) := by decide +kernel
theorem dX6_entryOf_8 : decode cX6_entryOf 8 = .ok (.imul, 1) := by decide +kernel
theorem dX6_entryOf_9 : decode cX6_entryOf 9 = .ok (.iload_n 2, 1) := by decide +kernel
theorem dX6_entryOf_10 : decode cX6_entryOf 10 = .ok (.bipush 8, 2) := by decide +kernel
theorem dX6_entryOf_12 : decode cX6_entryOf 12 = .ok (.irem, 1) := by decide +kernel
theorem dX6_entryOf_13 : decode cX6_entryOf 13 = .ok (.iadd, 1) := by decide +kernel
theorem dX6_entryOf_14 : decode cX6_entryOf 14 = .ok (.ireturn, 1) := by decide +kernel
set_option maxRecDepth 20000 in
theorem ggX6_isTaken_X6_tableOf : GoodIn wsX6_isTaken wsX6_tableOf := goodIn_r _ [6, 7, 12, 13, 14, 15, 16, 17, 18, 19, 20, 21, 22, 23, 24, 25, 26, 27, 28, 29, 30, 31, 32, 33, 34, 35, 36, 37, 38, 39, 40, 41, 42, 43] (by decide +kernel) (by decide +kernel)
set_option maxRecDepth 20000 in
theorem gX6_isTaken_X6_tableOf : GoodIn wsX6_isTaken (wsV RX6 197 RX6 yX6_tableOf wsX6_tableOf) := goodIn_app (goodIn_of _ (by decide +kernel)) ggX6_isTaken_X6_tableOf
set_option maxRecDepth 20000 in
theorem ggX6_isTaken_X6_entryOf : GoodIn wsX6_isTaken wsX6_entryOf := goodIn_r _ [11, 2, 3, 4, 5, 6, 7, 12, 13, 14, 15, 16, 17, 18, 19, 20, 21, 22, 23, 24, 25, 26, 27, 28, 29, 30, 31, 32, 33, 34, 35, 36, 37, 38, 39, 40, 41, 42, 43] (by decide +kernel) (by decide +kernel)
set_option maxRecDepth 20000 in
theorem gX6_isTaken_X6_entryOf : GoodIn wsX6_isTaken (wsV RX6 200 RX6 yX6_entryOf wsX6_entryOf) := goodIn_app (goodIn_of _ (by decide +kernel)) ggX6_isTaken_X6_entryOf
theorem dX6_isTaken_0 : decode cX6_isTaken 0 = .ok (.aload_n 0, 1) := by decide +kernel
theorem dX6_isTaken_1 : decode cX6_isTaken 1 = .ok (.iload_n 1, 1) := by decide +kernel
theorem dX6_isTaken_2 : decode cX6_isTaken 2 = .ok (.iload_n 2, 1) := by decide +kernel
theorem dX6_isTaken_3 : decode cX6_isTaken 3 = .ok (.invokevirtual 197, 3) := by decide +kernel
theorem dX6_isTaken_6 : decode cX6_isTaken 6 = .ok (.ifCond .lt 17, 3) := by decide +kernel
theorem dX6_isTaken_9 : decode cX6_isTaken 9 = .ok (.aload_n 0, 1) := by decide +kernel
theorem dX6_isTaken_10 : decode cX6_isTaken 10 = .ok (.getfield 28, 3) := by decide +kernel
theorem dX6_isTaken_13 : decode cX6_isTaken 13 = .ok (.aload_n 0, 1) := by decide +kernel
theorem dX6_isTaken_14 : decode cX6_isTaken 14 = .ok (.iload_n 1, 1) := by decide +kernel
theorem dX6_isTaken_15 : decode cX6_isTaken 15 = .ok (.iload_n 2, 1) := by decide +kernel
theorem dX6_isTaken_16 : decode cX6_isTaken 16 = .ok (.invokevirtual 200, 3) := by decide +kernel
theorem dX6_isTaken_19 : decode cX6_isTaken 19 = .ok (.iaload, 1) := by decide +kernel
theorem dX6_isTaken_20 : decode cX6_isTaken 20 = .ok (.ifCond .eq 7, 3) := by decide +kernel
theorem dX6_isTaken_23 : decode cX6_isTaken 23 = .ok (.iconst 1, 1) := by decide +kernel
theorem dX6_isTaken_24 : decode cX6_isTaken 24 = .ok (.goto 4, 3) := by decide +kernel
theorem dX6_isTaken_27 : decode cX6_isTaken 27 = .ok (.iconst 0, 1) := by decide +kernel
theorem dX6_isTaken_28 : decode cX6_isTaken 28 = .ok (.ireturn, 1) := by decide +kernel
theorem dX6_noBlock_0 : decode cX6_noBlock 0 = .ok (.iload_n 0, 1) := by decide +kernel
theorem dX6_noBlock_1 : decode cX6_noBlock 1 = .ok (.ifCond .lt 9, 3) := by decide +kernel
theorem dX6_noBlock_4 : decode cX6_noBlock 4 = .ok (.iload_n 0, 1) := by decide +kernel
theorem dX6_noBlock_5 : decode cX6_noBlock 5 = .ok (.bipush 31, 2) := by decide +kernel
theorem dX6_noBlock_7 : decode cX6_noBlock 7 = .ok (.if_icmp .le 7, 3) := by decide +kernel
theorem dX6_noBlock_10 : decode cX6_noBlock 10 = .ok (.iconst 1, 1) := by decide +kernel
theorem dX6_noBlock_11 : decode cX6_noBlock 11 = .ok (.goto 4, 3) := by decide +kernel
theorem dX6_noBlock_14 : decode cX6_noBlock 14 = .ok (.iconst 0, 1) := by decide +kernel
theorem dX6_noBlock_15 : decode cX6_noBlock 15 = .ok (.ireturn, 1) := by decide +kernel
theorem dX6_become_0 : decode cX6_become 0 = .ok (.aload_n 0, 1) := by decide +kernel
theorem dX6_become_1 : decode cX6_become 1 = .ok (.getfield 16, 3) := by decide +kernel
theorem dX6_become_4 : decode cX6_become 4 = .ok (.iload_n 1, 1) := by decide +kernel
theorem dX6_become_5 : decode cX6_become 5 = .ok (.iload_n 2, 1) := by decide +kernel
theorem dX6_become_6 : decode cX6_become 6 = .ok (.iastore, 1) := by decide +kernel
theorem dX6_become_7 : decode cX6_become 7 = .ok (.aload_n 0, 1) := by decide +kernel
theorem dX6_become_8 : decode cX6_become 8 = .ok (.getfield 19, 3) := by decide +kernel
theorem dX6_become_11 : decode cX6_become 11 = .ok (.iload_n 1, 1) := by decide +kernel
theorem dX6_become_12 : decode cX6_become 12 = .ok (.iload_n 3, 1) := by decide +kernel
theorem dX6_become_13 : decode cX6_become 13 = .ok (.iastore, 1) := by decide +kernel
theorem dX6_become_14 : decode cX6_become 14 = .ok (.return_, 1) := by decide +kernel
theorem dX6_tell_0 : decode cX6_tell 0 = .ok (.sipush 1600, 3) := by decide +kernel
theorem dX6_tell_3 : decode cX6_tell 3 = .ok (.iload_n 1, 1) := by decide +kernel
theorem dX6_tell_4 : decode cX6_tell 4 = .ok (.imul, 1) := by decide +kernel
theorem dX6_tell_5 : decode cX6_tell 5 = .ok (.aload_n 0, 1) := by decide +kernel
theorem dX6_tell_6 : decode cX6_tell 6 = .ok (.getfield 40, 3) := by decide +kernel
theorem dX6_tell_9 : decode cX6_tell 9 = .ok (.iload_n 1, 1) := by decide +kernel
theorem dX6_tell_10 : decode cX6_tell 10 = .ok (.iaload, 1) := by decide +kernel
theorem dX6_tell_11 : decode cX6_tell 11 = .ok (.iadd, 1) := by decide +kernel
theorem dX6_tell_12 : decode cX6_tell 12 = .ok (.istore 5, 2) := by decide +kernel
theorem dX6_tell_14 : decode cX6_tell 14 = .ok (.iconst 0, 1) := by decide +kernel
theorem dX6_tell_15 : decode cX6_tell 15 = .ok (.istore 6, 2) := by decide +kernel
theorem dX6_tell_17 : decode cX6_tell 17 = .ok (.iload 6, 2) := by decide +kernel
theorem dX6_tell_19 : decode cX6_tell 19 = .ok (.bipush 16, 2) := by decide +kernel
theorem dX6_tell_21 : decode cX6_tell 21 = .ok (.if_icmp .ge 50, 3) := by decide +kernel
theorem dX6_tell_24 : decode cX6_tell 24 = .ok (.aload_n 0, 1) := by decide +kernel
theorem dX6_tell_25 : decode cX6_tell 25 = .ok (.getfield 37, 3) := by decide +kernel
theorem dX6_tell_28 : decode cX6_tell 28 = .ok (.iload 5, 2) := by decide +kernel
theorem dX6_tell_30 : decode cX6_tell 30 = .ok (.iload 6, 2) := by decide +kernel
theorem dX6_tell_32 : decode cX6_tell 32 = .ok (.iadd, 1) := by decide +kernel
theorem dX6_tell_33 : decode cX6_tell 33 = .ok (.iload 6, 2) := by decide +kernel
theorem dX6_tell_35 : decode cX6_tell 35 = .ok (.ifCond .ne 7, 3) := by decide +kernel
theorem dX6_tell_38 : decode cX6_tell 38 = .ok (.iload_n 2, 1) := by decide +kernel
theorem dX6_tell_39 : decode cX6_tell 39 = .ok (.goto 25, 3) := by decide +kernel
theorem dX6_tell_42 : decode cX6_tell 42 = .ok (.iload 6, 2) := by decide +kernel
theorem dX6_tell_44 : decode cX6_tell 44 = .ok (.iconst 1, 1) := by decide +kernel
theorem dX6_tell_45 : decode cX6_tell 45 = .ok (.if_icmp .ne 7, 3) := by decide +kernel
theorem dX6_tell_48 : decode cX6_tell 48 = .ok (.iload_n 3, 1) := by decide +kernel
theorem dX6_tell_49 : decode cX6_tell 49 = .ok (.goto 15, 3) := by decide +kernel
theorem dX6_tell_52 : decode cX6_tell 52 = .ok (.iload 6, 2) := by decide +kernel
theorem dX6_tell_54 : decode cX6_tell 54 = .ok (.iconst 2, 1) := by decide +kernel
theorem dX6_tell_55 : decode cX6_tell 55 = .ok (.if_icmp .ne 8, 3) := by decide +kernel
theorem dX6_tell_58 : decode cX6_tell 58 = .ok (.iload 4, 2) := by decide +kernel
theorem dX6_tell_60 : decode cX6_tell 60 = .ok (.goto 4, 3) := by decide +kernel
theorem dX6_tell_63 : decode cX6_tell 63 = .ok (.iconst 0, 1) := by decide +kernel
theorem dX6_tell_64 : decode cX6_tell 64 = .ok (.iastore, 1) := by decide +kernel
theorem dX6_tell_65 : decode cX6_tell 65 = .ok (.iinc 6 1, 3) := by decide +kernel
theorem dX6_tell_68 : decode cX6_tell 68 = .ok (.goto (-51), 3) := by decide +kernel
theorem dX6_tell_71 : decode cX6_tell 71 = .ok (.aload_n 0, 1) := by decide +kernel
theorem dX6_tell_72 : decode cX6_tell 72 = .ok (.getfield 40, 3) := by decide +kernel
theorem dX6_tell_75 : decode cX6_tell 75 = .ok (.iload_n 1, 1) := by decide +kernel
theorem dX6_tell_76 : decode cX6_tell 76 = .ok (.aload_n 0, 1) := by decide +kernel
theorem dX6_tell_77 : decode cX6_tell 77 = .ok (.getfield 40, 3) := by decide +kernel
theorem dX6_tell_80 : decode cX6_tell 80 = .ok (.iload_n 1, 1) := by decide +kernel
theorem dX6_tell_81 : decode cX6_tell 81 = .ok (.iaload, 1) := by decide +kernel
theorem dX6_tell_82 : decode cX6_tell 82 = .ok (.bipush 16, 2) := by decide +kernel
theorem dX6_tell_84 : decode cX6_tell 84 = .ok (.iadd, 1) := by decide +kernel
theorem dX6_tell_85 : decode cX6_tell 85 = .ok (.iastore, 1) := by decide +kernel
theorem dX6_tell_86 : decode cX6_tell 86 = .ok (.return_, 1) := by decide +kernel
set_option maxRecDepth 20000 in
theorem ggX6_space_X6_begin : GoodIn wsX6_space wsX6_begin := goodIn_r _ [10, 11, 1, 33, 34, 35, 36, 37, 38, 39, 40, 41, 42, 43, 44, 45, 46, 47, 48, 49, 50, 51, 52, 53, 54, 55, 56, 57, 58, 59, 60, 61, 62, 63, 64] (by decide +kernel) (by decide +kernel)
set_option maxRecDepth 20000 in
theorem gX6_space_X6_begin : GoodIn wsX6_space (wsV RX6 203 RX6 yX6_begin wsX6_begin) := goodIn_app (goodIn_of _ (by decide +kernel)) ggX6_space_X6_begin
set_option maxRecDepth 20000 in
theorem ggX6_space_X6_noPage : GoodIn wsX6_space wsX6_noPage := goodIn_r _ [14] (by decide +kernel) (by decide +kernel)
set_option maxRecDepth 20000 in
theorem gX6_space_X6_noPage : GoodIn wsX6_space (va_wsS RX6 186 yX6_noPage wsX6_noPage) := goodIn_app (goodIn_of _ (by decide +kernel)) ggX6_space_X6_noPage
set_option maxRecDepth 20000 in
theorem ggX6_space_X6_wrong : GoodIn wsX6_space wsX6_wrong := goodIn_r _ [18, 1, 33, 34, 35, 36, 37, 38, 39, 40, 41, 42, 43, 44, 45, 46, 47, 48, 49, 50, 51, 52, 53, 54, 55, 56, 57, 58, 59, 60, 61, 62, 63, 64] (by decide +kernel) (by decide +kernel)
set_option maxRecDepth 20000 in
theorem gX6_space_X6_wrong : GoodIn wsX6_space (wsV RX6 193 RX6 yX6_wrong wsX6_wrong) := goodIn_app (goodIn_of _ (by decide +kernel)) ggX6_space_X6_wrong
set_option maxRecDepth 20000 in
theorem ggX6_space_X6_wantFree : GoodIn wsX6_space wsX6_wantFree := goodIn_r _ [22, 23, 24, 25, 9, 26, 27, 12, 13, 14, 15, 16, 17, 18, 1, 33, 34, 35, 36, 37, 38, 39, 40, 41, 42, 43, 44, 45, 46, 47, 48, 49, 50, 51, 52, 53, 54, 55, 56, 57, 58, 59, 60, 61, 62, 63, 64] (by decide +kernel) (by decide +kernel)
set_option maxRecDepth 20000 in
theorem gX6_space_X6_wantFree : GoodIn wsX6_space (wsV RX6 206 RX6 yX6_wantFree wsX6_wantFree) := goodIn_app (goodIn_of _ (by decide +kernel)) ggX6_space_X6_wantFree
set_option maxRecDepth 20000 in
theorem ggX6_space_X6_become : GoodIn wsX6_space wsX6_become := goodIn_r _ [31, 27, 32, 33, 34, 35, 36, 37, 38, 39, 40, 41, 42, 43, 44, 45, 46, 47, 48, 49, 50, 51, 52, 53, 54, 55, 56, 57, 58, 59, 60, 61, 62, 63, 64] (by decide +kernel) (by decide +kernel)
set_option maxRecDepth 20000 in
theorem gX6_space_X6_become : GoodIn wsX6_space (wsV RX6 209 RX6 yX6_become wsX6_become) := goodIn_app (goodIn_of _ (by decide +kernel)) ggX6_space_X6_become
theorem dX6_space_0 : decode cX6_space 0 = .ok (.aload_n 0, 1) := by decide +kernel
theorem dX6_space_1 : decode cX6_space 1 = .ok (.invokevirtual 203, 3) := by decide +kernel
theorem dX6_space_4 : decode cX6_space 4 = .ok (.aload_n 0, 1) := by decide +kernel
theorem dX6_space_5 : decode cX6_space 5 = .ok (.iload_n 1, 1) := by decide +kernel
theorem dX6_space_6 : decode cX6_space 6 = .ok (.invokestatic 186, 3) := by decide +kernel
theorem dX6_space_9 : decode cX6_space 9 = .ok (.iconst 1, 1) := by decide +kernel
theorem dX6_space_10 : decode cX6_space 10 = .ok (.invokevirtual 193, 3) := by decide +kernel
theorem dX6_space_13 : decode cX6_space 13 = .ok (.aload_n 0, 1) := by decide +kernel
theorem dX6_space_14 : decode cX6_space 14 = .ok (.iload_n 1, 1) := by decide +kernel
end
section
theorem dX6_space_15 : decode cX6_space 15 = .ok (.invokevirtual 206, 3) := by decide +kernel
theorem dX6_space_18 : decode cX6_space 18 = .ok (.aload_n 0, 1) := by decide +kernel
theorem dX6_space_19 : decode cX6_space 19 = .ok (.getfield 183, 3) := by decide +kernel
theorem dX6_space_22 : decode cX6_space 22 = .ok (.ifCond .le 8, 3) := by decide +kernel
theorem dX6_space_25 : decode cX6_space 25 = .ok (.aload_n 0, 1) := by decide +kernel
theorem dX6_space_26 : decode cX6_space 26 = .ok (.getfield 183, 3) := by decide +kernel
theorem dX6_space_29 : decode cX6_space 29 = .ok (.ireturn, 1) := by decide +kernel
theorem dX6_space_30 : decode cX6_space 30 = .ok (.aload_n 0, 1) := by decide +kernel
theorem dX6_space_31 : decode cX6_space 31 = .ok (.iload_n 1, 1) := by decide +kernel
theorem dX6_space_32 : decode cX6_space 32 = .ok (.iconst 1, 1) := by decide +kernel
theorem dX6_space_33 : decode cX6_space 33 = .ok (.iconst (-1), 1) := by decide +kernel
theorem dX6_space_34 : decode cX6_space 34 = .ok (.invokevirtual 209, 3) := by decide +kernel
theorem dX6_space_37 : decode cX6_space 37 = .ok (.aload_n 0, 1) := by decide +kernel
theorem dX6_space_38 : decode cX6_space 38 = .ok (.getfield 22, 3) := by decide +kernel
theorem dX6_space_41 : decode cX6_space 41 = .ok (.iload_n 1, 1) := by decide +kernel
theorem dX6_space_42 : decode cX6_space 42 = .ok (.iconst 0, 1) := by decide +kernel
theorem dX6_space_43 : decode cX6_space 43 = .ok (.iastore, 1) := by decide +kernel
theorem dX6_space_44 : decode cX6_space 44 = .ok (.aload_n 0, 1) := by decide +kernel
theorem dX6_space_45 : decode cX6_space 45 = .ok (.getfield 46, 3) := by decide +kernel
theorem dX6_space_48 : decode cX6_space 48 = .ok (.iload_n 1, 1) := by decide +kernel
theorem dX6_space_49 : decode cX6_space 49 = .ok (.iconst 0, 1) := by decide +kernel
theorem dX6_space_50 : decode cX6_space 50 = .ok (.bastore, 1) := by decide +kernel
theorem dX6_space_51 : decode cX6_space 51 = .ok (.aload_n 0, 1) := by decide +kernel
theorem dX6_space_52 : decode cX6_space 52 = .ok (.getfield 40, 3) := by decide +kernel
theorem dX6_space_55 : decode cX6_space 55 = .ok (.iload_n 1, 1) := by decide +kernel
theorem dX6_space_56 : decode cX6_space 56 = .ok (.iconst 0, 1) := by decide +kernel
theorem dX6_space_57 : decode cX6_space 57 = .ok (.iastore, 1) := by decide +kernel
theorem dX6_space_58 : decode cX6_space 58 = .ok (.iconst 0, 1) := by decide +kernel
theorem dX6_space_59 : decode cX6_space 59 = .ok (.istore_n 2, 1) := by decide +kernel
theorem dX6_space_60 : decode cX6_space 60 = .ok (.iload_n 2, 1) := by decide +kernel
theorem dX6_space_61 : decode cX6_space 61 = .ok (.iconst 4, 1) := by decide +kernel
theorem dX6_space_62 : decode cX6_space 62 = .ok (.if_icmp .ge 20, 3) := by decide +kernel
theorem dX6_space_65 : decode cX6_space 65 = .ok (.aload_n 0, 1) := by decide +kernel
theorem dX6_space_66 : decode cX6_space 66 = .ok (.getfield 34, 3) := by decide +kernel
theorem dX6_space_69 : decode cX6_space 69 = .ok (.iconst 4, 1) := by decide +kernel
theorem dX6_space_70 : decode cX6_space 70 = .ok (.iload_n 1, 1) := by decide +kernel
theorem dX6_space_71 : decode cX6_space 71 = .ok (.imul, 1) := by decide +kernel
theorem dX6_space_72 : decode cX6_space 72 = .ok (.iload_n 2, 1) := by decide +kernel
theorem dX6_space_73 : decode cX6_space 73 = .ok (.iadd, 1) := by decide +kernel
theorem dX6_space_74 : decode cX6_space 74 = .ok (.iconst (-1), 1) := by decide +kernel
theorem dX6_space_75 : decode cX6_space 75 = .ok (.iastore, 1) := by decide +kernel
theorem dX6_space_76 : decode cX6_space 76 = .ok (.iinc 2 1, 3) := by decide +kernel
theorem dX6_space_79 : decode cX6_space 79 = .ok (.goto (-19), 3) := by decide +kernel
theorem dX6_space_82 : decode cX6_space 82 = .ok (.iconst 0, 1) := by decide +kernel
theorem dX6_space_83 : decode cX6_space 83 = .ok (.ireturn, 1) := by decide +kernel
set_option maxRecDepth 20000 in
theorem ggX6_thread_X6_begin : GoodIn wsX6_thread wsX6_begin := goodIn_r _ [8, 9, 1, 42, 43, 44, 45, 46, 47, 48, 49, 50, 51, 52, 53, 54, 55, 56, 57, 58, 59, 60, 61, 62, 63, 64, 65, 66, 67, 68, 69, 70, 71, 72, 73] (by decide +kernel) (by decide +kernel)
set_option maxRecDepth 20000 in
theorem gX6_thread_X6_begin : GoodIn wsX6_thread (wsV RX6 203 RX6 yX6_begin wsX6_begin) := goodIn_app (goodIn_of _ (by decide +kernel)) ggX6_thread_X6_begin
set_option maxRecDepth 20000 in
theorem ggX6_thread_X6_noPage : GoodIn wsX6_thread wsX6_noPage := goodIn_r _ [12] (by decide +kernel) (by decide +kernel)
set_option maxRecDepth 20000 in
theorem gX6_thread_X6_noPage : GoodIn wsX6_thread (va_wsS RX6 186 yX6_noPage wsX6_noPage) := goodIn_app (goodIn_of _ (by decide +kernel)) ggX6_thread_X6_noPage
set_option maxRecDepth 20000 in
theorem ggX6_thread_X6_wrong : GoodIn wsX6_thread wsX6_wrong := goodIn_r _ [16, 1, 42, 43, 44, 45, 46, 47, 48, 49, 50, 51, 52, 53, 54, 55, 56, 57, 58, 59, 60, 61, 62, 63, 64, 65, 66, 67, 68, 69, 70, 71, 72, 73] (by decide +kernel) (by decide +kernel)
set_option maxRecDepth 20000 in
theorem gX6_thread_X6_wrong : GoodIn wsX6_thread (wsV RX6 193 RX6 yX6_wrong wsX6_wrong) := goodIn_app (goodIn_of _ (by decide +kernel)) ggX6_thread_X6_wrong
set_option maxRecDepth 20000 in
theorem ggX6_thread_X6_wantFree : GoodIn wsX6_thread wsX6_wantFree := goodIn_r _ [20, 21, 22, 23, 7, 24, 25, 10, 11, 12, 13, 14, 15, 16, 1, 42, 43, 44, 45, 46, 47, 48, 49, 50, 51, 52, 53, 54, 55, 56, 57, 58, 59, 60, 61, 62, 63, 64, 65, 66, 67, 68, 69, 70, 71, 72, 73] (by decide +kernel) (by decide +kernel)
set_option maxRecDepth 20000 in
theorem gX6_thread_X6_wantFree : GoodIn wsX6_thread (wsV RX6 206 RX6 yX6_wantFree wsX6_wantFree) := goodIn_app (goodIn_of _ (by decide +kernel)) ggX6_thread_X6_wantFree
set_option maxRecDepth 20000 in
theorem ggX6_thread_X6_wantSpace : GoodIn wsX6_thread wsX6_wantSpace := goodIn_r _ [29, 1, 30, 21, 22, 23, 7, 24, 25, 10, 11, 12, 13, 14, 15, 16, 42, 43, 44, 45, 46, 47, 48, 49, 50, 51, 52, 53, 54, 55, 56, 57, 58, 59, 60, 61, 62, 63, 64, 65, 66, 67, 68, 69, 70, 71, 72, 73] (by decide +kernel) (by decide +kernel)
set_option maxRecDepth 20000 in
theorem gX6_thread_X6_wantSpace : GoodIn wsX6_thread (wsV RX6 213 RX6 yX6_wantSpace wsX6_wantSpace) := goodIn_app (goodIn_of _ (by decide +kernel)) ggX6_thread_X6_wantSpace
set_option maxRecDepth 20000 in
theorem ggX6_thread_X6_become : GoodIn wsX6_thread wsX6_become := goodIn_r _ [34, 25, 35, 42, 43, 44, 45, 46, 47, 48, 49, 50, 51, 52, 53, 54, 55, 56, 57, 58, 59, 60, 61, 62, 63, 64, 65, 66, 67, 68, 69, 70, 71, 72, 73] (by decide +kernel) (by decide +kernel)
set_option maxRecDepth 20000 in
theorem gX6_thread_X6_become : GoodIn wsX6_thread (wsV RX6 209 RX6 yX6_become wsX6_become) := goodIn_app (goodIn_of _ (by decide +kernel)) ggX6_thread_X6_become
set_option maxRecDepth 20000 in
theorem ggX6_thread_X6_tell : GoodIn wsX6_thread wsX6_tell := goodIn_r _ [39, 40, 41, 42, 43, 44, 45, 46, 47, 48, 49, 50, 51, 52, 53, 54, 55, 56, 57, 58, 59, 60, 61, 62, 63, 64, 65, 66, 67, 68, 69, 70, 71, 72, 73] (by decide +kernel) (by decide +kernel)
set_option maxRecDepth 20000 in
theorem gX6_thread_X6_tell : GoodIn wsX6_thread (wsV RX6 217 RX6 yX6_tell wsX6_tell) := goodIn_app (goodIn_of _ (by decide +kernel)) ggX6_thread_X6_tell
theorem dX6_thread_0 : decode cX6_thread 0 = .ok (.aload_n 0, 1) := by decide +kernel
theorem dX6_thread_1 : decode cX6_thread 1 = .ok (.invokevirtual 203, 3) := by decide +kernel
theorem dX6_thread_4 : decode cX6_thread 4 = .ok (.aload_n 0, 1) := by decide +kernel
theorem dX6_thread_5 : decode cX6_thread 5 = .ok (.iload_n 1, 1) := by decide +kernel
theorem dX6_thread_6 : decode cX6_thread 6 = .ok (.invokestatic 186, 3) := by decide +kernel
theorem dX6_thread_9 : decode cX6_thread 9 = .ok (.ifCond .ne 21, 3) := by decide +kernel
theorem dX6_thread_12 : decode cX6_thread 12 = .ok (.iload_n 2, 1) := by decide +kernel
theorem dX6_thread_13 : decode cX6_thread 13 = .ok (.invokestatic 186, 3) := by decide +kernel
theorem dX6_thread_16 : decode cX6_thread 16 = .ok (.ifCond .ne 14, 3) := by decide +kernel
theorem dX6_thread_19 : decode cX6_thread 19 = .ok (.iload_n 3, 1) := by decide +kernel
theorem dX6_thread_20 : decode cX6_thread 20 = .ok (.ifCond .lt 10, 3) := by decide +kernel
theorem dX6_thread_23 : decode cX6_thread 23 = .ok (.iload_n 3, 1) := by decide +kernel
theorem dX6_thread_24 : decode cX6_thread 24 = .ok (.sipush 511, 3) := by decide +kernel
theorem dX6_thread_27 : decode cX6_thread 27 = .ok (.if_icmp .le 7, 3) := by decide +kernel
theorem dX6_thread_30 : decode cX6_thread 30 = .ok (.iconst 1, 1) := by decide +kernel
theorem dX6_thread_31 : decode cX6_thread 31 = .ok (.goto 4, 3) := by decide +kernel
theorem dX6_thread_34 : decode cX6_thread 34 = .ok (.iconst 0, 1) := by decide +kernel
theorem dX6_thread_35 : decode cX6_thread 35 = .ok (.iconst 1, 1) := by decide +kernel
theorem dX6_thread_36 : decode cX6_thread 36 = .ok (.invokevirtual 193, 3) := by decide +kernel
theorem dX6_thread_39 : decode cX6_thread 39 = .ok (.aload_n 0, 1) := by decide +kernel
theorem dX6_thread_40 : decode cX6_thread 40 = .ok (.iload_n 1, 1) := by decide +kernel
theorem dX6_thread_41 : decode cX6_thread 41 = .ok (.invokevirtual 206, 3) := by decide +kernel
theorem dX6_thread_44 : decode cX6_thread 44 = .ok (.aload_n 0, 1) := by decide +kernel
theorem dX6_thread_45 : decode cX6_thread 45 = .ok (.iload_n 2, 1) := by decide +kernel
theorem dX6_thread_46 : decode cX6_thread 46 = .ok (.iconst 0, 1) := by decide +kernel
theorem dX6_thread_47 : decode cX6_thread 47 = .ok (.invokevirtual 213, 3) := by decide +kernel
theorem dX6_thread_50 : decode cX6_thread 50 = .ok (.aload_n 0, 1) := by decide +kernel
theorem dX6_thread_51 : decode cX6_thread 51 = .ok (.getfield 183, 3) := by decide +kernel
theorem dX6_thread_54 : decode cX6_thread 54 = .ok (.ifCond .le 8, 3) := by decide +kernel
theorem dX6_thread_57 : decode cX6_thread 57 = .ok (.aload_n 0, 1) := by decide +kernel
theorem dX6_thread_58 : decode cX6_thread 58 = .ok (.getfield 183, 3) := by decide +kernel
theorem dX6_thread_61 : decode cX6_thread 61 = .ok (.ireturn, 1) := by decide +kernel
theorem dX6_thread_62 : decode cX6_thread 62 = .ok (.aload_n 0, 1) := by decide +kernel
theorem dX6_thread_63 : decode cX6_thread 63 = .ok (.iload_n 1, 1) := by decide +kernel
theorem dX6_thread_64 : decode cX6_thread 64 = .ok (.iconst 2, 1) := by decide +kernel
theorem dX6_thread_65 : decode cX6_thread 65 = .ok (.iload_n 2, 1) := by decide +kernel
theorem dX6_thread_66 : decode cX6_thread 66 = .ok (.invokevirtual 209, 3) := by decide +kernel
theorem dX6_thread_69 : decode cX6_thread 69 = .ok (.aload_n 0, 1) := by decide +kernel
theorem dX6_thread_70 : decode cX6_thread 70 = .ok (.getfield 50, 3) := by decide +kernel
theorem dX6_thread_73 : decode cX6_thread 73 = .ok (.iload_n 1, 1) := by decide +kernel
theorem dX6_thread_74 : decode cX6_thread 74 = .ok (.iload_n 3, 1) := by decide +kernel
theorem dX6_thread_75 : decode cX6_thread 75 = .ok (.iastore, 1) := by decide +kernel
theorem dX6_thread_76 : decode cX6_thread 76 = .ok (.aload_n 0, 1) := by decide +kernel
theorem dX6_thread_77 : decode cX6_thread 77 = .ok (.getfield 53, 3) := by decide +kernel
theorem dX6_thread_80 : decode cX6_thread 80 = .ok (.iload_n 1, 1) := by decide +kernel
theorem dX6_thread_81 : decode cX6_thread 81 = .ok (.iconst 0, 1) := by decide +kernel
theorem dX6_thread_82 : decode cX6_thread 82 = .ok (.bastore, 1) := by decide +kernel
theorem dX6_thread_83 : decode cX6_thread 83 = .ok (.aload_n 0, 1) := by decide +kernel
theorem dX6_thread_84 : decode cX6_thread 84 = .ok (.iload_n 2, 1) := by decide +kernel
theorem dX6_thread_85 : decode cX6_thread 85 = .ok (.iconst 1, 1) := by decide +kernel
theorem dX6_thread_86 : decode cX6_thread 86 = .ok (.iload_n 3, 1) := by decide +kernel
theorem dX6_thread_87 : decode cX6_thread 87 = .ok (.iconst 0, 1) := by decide +kernel
theorem dX6_thread_88 : decode cX6_thread 88 = .ok (.invokevirtual 217, 3) := by decide +kernel
theorem dX6_thread_91 : decode cX6_thread 91 = .ok (.iconst 0, 1) := by decide +kernel
theorem dX6_thread_92 : decode cX6_thread 92 = .ok (.ireturn, 1) := by decide +kernel
set_option maxRecDepth 20000 in
theorem ggX6_table_X6_begin : GoodIn wsX6_table wsX6_begin := goodIn_r _ [8, 9, 1, 36, 37, 38, 39, 40, 41, 42, 43, 44, 45, 46, 47, 48, 49, 50, 51, 52, 53, 54, 55, 56, 57, 58, 59, 60, 61, 62, 63, 64, 65, 66, 67] (by decide +kernel) (by decide +kernel)
set_option maxRecDepth 20000 in
theorem gX6_table_X6_begin : GoodIn wsX6_table (wsV RX6 203 RX6 yX6_begin wsX6_begin) := goodIn_app (goodIn_of _ (by decide +kernel)) ggX6_table_X6_begin
set_option maxRecDepth 20000 in
theorem ggX6_table_X6_noPage : GoodIn wsX6_table wsX6_noPage := goodIn_r _ [12] (by decide +kernel) (by decide +kernel)
set_option maxRecDepth 20000 in
theorem gX6_table_X6_noPage : GoodIn wsX6_table (va_wsS RX6 186 yX6_noPage wsX6_noPage) := goodIn_app (goodIn_of _ (by decide +kernel)) ggX6_table_X6_noPage
set_option maxRecDepth 20000 in
theorem ggX6_table_X6_wrong : GoodIn wsX6_table wsX6_wrong := goodIn_r _ [16, 1, 36, 37, 38, 39, 40, 41, 42, 43, 44, 45, 46, 47, 48, 49, 50, 51, 52, 53, 54, 55, 56, 57, 58, 59, 60, 61, 62, 63, 64, 65, 66, 67] (by decide +kernel) (by decide +kernel)
set_option maxRecDepth 20000 in
theorem gX6_table_X6_wrong : GoodIn wsX6_table (wsV RX6 193 RX6 yX6_wrong wsX6_wrong) := goodIn_app (goodIn_of _ (by decide +kernel)) ggX6_table_X6_wrong
set_option maxRecDepth 20000 in
theorem ggX6_table_X6_wantFree : GoodIn wsX6_table wsX6_wantFree := goodIn_r _ [20, 21, 22, 23, 7, 24, 25, 10, 11, 12, 13, 14, 15, 16, 1, 36, 37, 38, 39, 40, 41, 42, 43, 44, 45, 46, 47, 48, 49, 50, 51, 52, 53, 54, 55, 56, 57, 58, 59, 60, 61, 62, 63, 64, 65, 66, 67] (by decide +kernel) (by decide +kernel)
set_option maxRecDepth 20000 in
theorem gX6_table_X6_wantFree : GoodIn wsX6_table (wsV RX6 206 RX6 yX6_wantFree wsX6_wantFree) := goodIn_app (goodIn_of _ (by decide +kernel)) ggX6_table_X6_wantFree
set_option maxRecDepth 20000 in
theorem ggX6_table_X6_wantSpace : GoodIn wsX6_table wsX6_wantSpace := goodIn_r _ [29, 1, 30, 21, 22, 23, 7, 24, 25, 10, 11, 12, 13, 14, 15, 16, 36, 37, 38, 39, 40, 41, 42, 43, 44, 45, 46, 47, 48, 49, 50, 51, 52, 53, 54, 55, 56, 57, 58, 59, 60, 61, 62, 63, 64, 65, 66, 67] (by decide +kernel) (by decide +kernel)
set_option maxRecDepth 20000 in
theorem gX6_table_X6_wantSpace : GoodIn wsX6_table (wsV RX6 213 RX6 yX6_wantSpace wsX6_wantSpace) := goodIn_app (goodIn_of _ (by decide +kernel)) ggX6_table_X6_wantSpace
set_option maxRecDepth 20000 in
theorem ggX6_table_X6_become : GoodIn wsX6_table wsX6_become := goodIn_r _ [34, 25, 35, 36, 37, 38, 39, 40, 41, 42, 43, 44, 45, 46, 47, 48, 49, 50, 51, 52, 53, 54, 55, 56, 57, 58, 59, 60, 61, 62, 63, 64, 65, 66, 67] (by decide +kernel) (by decide +kernel)
set_option maxRecDepth 20000 in
theorem gX6_table_X6_become : GoodIn wsX6_table (wsV RX6 209 RX6 yX6_become wsX6_become) := goodIn_app (goodIn_of _ (by decide +kernel)) ggX6_table_X6_become
theorem dX6_table_0 : decode cX6_table 0 = .ok (.aload_n 0, 1) := by decide +kernel
theorem dX6_table_1 : decode cX6_table 1 = .ok (.invokevirtual 203, 3) := by decide +kernel
theorem dX6_table_4 : decode cX6_table 4 = .ok (.aload_n 0, 1) := by decide +kernel
theorem dX6_table_5 : decode cX6_table 5 = .ok (.iload_n 1, 1) := by decide +kernel
theorem dX6_table_6 : decode cX6_table 6 = .ok (.invokestatic 186, 3) := by decide +kernel
theorem dX6_table_9 : decode cX6_table 9 = .ok (.ifCond .ne 19, 3) := by decide +kernel
theorem dX6_table_12 : decode cX6_table 12 = .ok (.iload_n 2, 1) := by decide +kernel
theorem dX6_table_13 : decode cX6_table 13 = .ok (.invokestatic 186, 3) := by decide +kernel
theorem dX6_table_16 : decode cX6_table 16 = .ok (.ifCond .ne 12, 3) := by decide +kernel
theorem dX6_table_19 : decode cX6_table 19 = .ok (.iload_n 3, 1) := by decide +kernel
theorem dX6_table_20 : decode cX6_table 20 = .ok (.ifCond .lt 8, 3) := by decide +kernel
theorem dX6_table_23 : decode cX6_table 23 = .ok (.iload_n 3, 1) := by decide +kernel
theorem dX6_table_24 : decode cX6_table 24 = .ok (.iconst 3, 1) := by decide +kernel
theorem dX6_table_25 : decode cX6_table 25 = .ok (.if_icmp .le 7, 3) := by decide +kernel
theorem dX6_table_28 : decode cX6_table 28 = .ok (.iconst 1, 1) := by decide +kernel
theorem dX6_table_29 : decode cX6_table 29 = .ok (.goto 4, 3) := by decide +kernel
theorem dX6_table_32 : decode cX6_table 32 = .ok (.iconst 0, 1) := by decide +kernel
theorem dX6_table_33 : decode cX6_table 33 = .ok (.iconst 1, 1) := by decide +kernel
theorem dX6_table_34 : decode cX6_table 34 = .ok (.invokevirtual 193, 3) := by decide +kernel
theorem dX6_table_37 : decode cX6_table 37 = .ok (.aload_n 0, 1) := by decide +kernel
theorem dX6_table_38 : decode cX6_table 38 = .ok (.iload_n 1, 1) := by decide +kernel
theorem dX6_table_39 : decode cX6_table 39 = .ok (.invokevirtual 206, 3) := by decide +kernel
theorem dX6_table_42 : decode cX6_table 42 = .ok (.aload_n 0, 1) := by decide +kernel
theorem dX6_table_43 : decode cX6_table 43 = .ok (.iload_n 2, 1) := by decide +kernel
theorem dX6_table_44 : decode cX6_table 44 = .ok (.iconst 0, 1) := by decide +kernel
theorem dX6_table_45 : decode cX6_table 45 = .ok (.invokevirtual 213, 3) := by decide +kernel
theorem dX6_table_48 : decode cX6_table 48 = .ok (.aload_n 0, 1) := by decide +kernel
theorem dX6_table_49 : decode cX6_table 49 = .ok (.aload_n 0, 1) := by decide +kernel
theorem dX6_table_50 : decode cX6_table 50 = .ok (.getfield 183, 3) := by decide +kernel
theorem dX6_table_53 : decode cX6_table 53 = .ok (.ifCond .ne 20, 3) := by decide +kernel
theorem dX6_table_56 : decode cX6_table 56 = .ok (.aload_n 0, 1) := by decide +kernel
theorem dX6_table_57 : decode cX6_table 57 = .ok (.getfield 34, 3) := by decide +kernel
theorem dX6_table_60 : decode cX6_table 60 = .ok (.iconst 4, 1) := by decide +kernel
theorem dX6_table_61 : decode cX6_table 61 = .ok (.iload_n 2, 1) := by decide +kernel
theorem dX6_table_62 : decode cX6_table 62 = .ok (.imul, 1) := by decide +kernel
theorem dX6_table_63 : decode cX6_table 63 = .ok (.iload_n 3, 1) := by decide +kernel
theorem dX6_table_64 : decode cX6_table 64 = .ok (.iadd, 1) := by decide +kernel
theorem dX6_table_65 : decode cX6_table 65 = .ok (.iaload, 1) := by decide +kernel
theorem dX6_table_66 : decode cX6_table 66 = .ok (.ifCond .lt 7, 3) := by decide +kernel
theorem dX6_table_69 : decode cX6_table 69 = .ok (.iconst 1, 1) := by decide +kernel
theorem dX6_table_70 : decode cX6_table 70 = .ok (.goto 4, 3) := by decide +kernel
theorem dX6_table_73 : decode cX6_table 73 = .ok (.iconst 0, 1) := by decide +kernel
theorem dX6_table_74 : decode cX6_table 74 = .ok (.iconst 5, 1) := by decide +kernel
theorem dX6_table_75 : decode cX6_table 75 = .ok (.invokevirtual 193, 3) := by decide +kernel
theorem dX6_table_78 : decode cX6_table 78 = .ok (.aload_n 0, 1) := by decide +kernel
theorem dX6_table_79 : decode cX6_table 79 = .ok (.getfield 183, 3) := by decide +kernel
theorem dX6_table_82 : decode cX6_table 82 = .ok (.ifCond .le 8, 3) := by decide +kernel
theorem dX6_table_85 : decode cX6_table 85 = .ok (.aload_n 0, 1) := by decide +kernel
theorem dX6_table_86 : decode cX6_table 86 = .ok (.getfield 183, 3) := by decide +kernel
theorem dX6_table_89 : decode cX6_table 89 = .ok (.ireturn, 1) := by decide +kernel
theorem dX6_table_90 : decode cX6_table 90 = .ok (.aload_n 0, 1) := by decide +kernel
theorem dX6_table_91 : decode cX6_table 91 = .ok (.iload_n 1, 1) := by decide +kernel
theorem dX6_table_92 : decode cX6_table 92 = .ok (.iconst 3, 1) := by decide +kernel
theorem dX6_table_93 : decode cX6_table 93 = .ok (.iload_n 2, 1) := by decide +kernel
theorem dX6_table_94 : decode cX6_table 94 = .ok (.invokevirtual 209, 3) := by decide +kernel
theorem dX6_table_97 : decode cX6_table 97 = .ok (.aload_n 0, 1) := by decide +kernel
theorem dX6_table_98 : decode cX6_table 98 = .ok (.getfield 34, 3) := by decide +kernel
theorem dX6_table_101 : decode cX6_table 101 = .ok (.iconst 4, 1) := by decide +kernel
theorem dX6_table_102 : decode cX6_table 102 = .ok (.iload_n 2, 1) := by decide +kernel
theorem dX6_table_103 : decode cX6_table 103 = .ok (.imul, 1) := by decide +kernel
theorem dX6_table_104 : decode cX6_table 104 = .ok (.iload_n 3, 1) := by decide +kernel
theorem dX6_table_105 : decode cX6_table 105 = .ok (.iadd, 1) := by decide +kernel
theorem dX6_table_106 : decode cX6_table 106 = .ok (.iload_n 1, 1) := by decide +kernel
theorem dX6_table_107 : decode cX6_table 107 = .ok (.iastore, 1) := by decide +kernel
theorem dX6_table_108 : decode cX6_table 108 = .ok (.iconst 0, 1) := by decide +kernel
theorem dX6_table_109 : decode cX6_table 109 = .ok (.istore 4, 2) := by decide +kernel
theorem dX6_table_111 : decode cX6_table 111 = .ok (.iload 4, 2) := by decide +kernel
theorem dX6_table_113 : decode cX6_table 113 = .ok (.bipush 8, 2) := by decide +kernel
theorem dX6_table_115 : decode cX6_table 115 = .ok (.if_icmp .ge 22, 3) := by decide +kernel
theorem dX6_table_118 : decode cX6_table 118 = .ok (.aload_n 0, 1) := by decide +kernel
theorem dX6_table_119 : decode cX6_table 119 = .ok (.getfield 28, 3) := by decide +kernel
theorem dX6_table_122 : decode cX6_table 122 = .ok (.bipush 8, 2) := by decide +kernel
theorem dX6_table_124 : decode cX6_table 124 = .ok (.iload_n 1, 1) := by decide +kernel
theorem dX6_table_125 : decode cX6_table 125 = .ok (.imul, 1) := by decide +kernel
theorem dX6_table_126 : decode cX6_table 126 = .ok (.iload 4, 2) := by decide +kernel
theorem dX6_table_128 : decode cX6_table 128 = .ok (.iadd, 1) := by decide +kernel
theorem dX6_table_129 : decode cX6_table 129 = .ok (.iconst 0, 1) := by decide +kernel
theorem dX6_table_130 : decode cX6_table 130 = .ok (.iastore, 1) := by decide +kernel
theorem dX6_table_131 : decode cX6_table 131 = .ok (.iinc 4 1, 3) := by decide +kernel
theorem dX6_table_134 : decode cX6_table 134 = .ok (.goto (-23), 3) := by decide +kernel
theorem dX6_table_137 : decode cX6_table 137 = .ok (.iconst 0, 1) := by decide +kernel
theorem dX6_table_138 : decode cX6_table 138 = .ok (.ireturn, 1) := by decide +kernel
set_option maxRecDepth 20000 in
theorem ggX6_data_X6_begin : GoodIn wsX6_data wsX6_begin := goodIn_r _ [12, 13, 1, 63, 64, 65, 66, 67, 68, 69, 70, 71, 72, 73, 74, 75, 76, 77, 78, 79, 80, 81, 82, 83, 84, 85, 86, 87, 88, 89, 90, 91, 92, 93, 94] (by decide +kernel) (by decide +kernel)
set_option maxRecDepth 20000 in
theorem gX6_data_X6_begin : GoodIn wsX6_data (wsV RX6 203 RX6 yX6_begin wsX6_begin) := goodIn_app (goodIn_of _ (by decide +kernel)) ggX6_data_X6_begin
set_option maxRecDepth 20000 in
theorem ggX6_data_X6_noPage : GoodIn wsX6_data wsX6_noPage := goodIn_r _ [16] (by decide +kernel) (by decide +kernel)
set_option maxRecDepth 20000 in
theorem gX6_data_X6_noPage : GoodIn wsX6_data (va_wsS RX6 186 yX6_noPage wsX6_noPage) := goodIn_app (goodIn_of _ (by decide +kernel)) ggX6_data_X6_noPage
set_option maxRecDepth 20000 in
theorem ggX6_data_X6_noBlock : GoodIn wsX6_data wsX6_noBlock := goodIn_r _ [19] (by decide +kernel) (by decide +kernel)
set_option maxRecDepth 20000 in
theorem gX6_data_X6_noBlock : GoodIn wsX6_data (va_wsS RX6 221 yX6_noBlock wsX6_noBlock) := goodIn_app (goodIn_of _ (by decide +kernel)) ggX6_data_X6_noBlock
set_option maxRecDepth 20000 in
theorem ggX6_data_X6_noFrame : GoodIn wsX6_data wsX6_noFrame := goodIn_r _ [22] (by decide +kernel) (by decide +kernel)
set_option maxRecDepth 20000 in
theorem gX6_data_X6_noFrame : GoodIn wsX6_data (va_wsS RX6 179 yX6_noFrame wsX6_noFrame) := goodIn_app (goodIn_of _ (by decide +kernel)) ggX6_data_X6_noFrame
set_option maxRecDepth 20000 in
theorem ggX6_data_X6_wrong : GoodIn wsX6_data wsX6_wrong := goodIn_r _ [26, 1, 63, 64, 65, 66, 67, 68, 69, 70, 71, 72, 73, 74, 75, 76, 77, 78, 79, 80, 81, 82, 83, 84, 85, 86, 87, 88, 89, 90, 91, 92, 93, 94] (by decide +kernel) (by decide +kernel)
set_option maxRecDepth 20000 in
theorem gX6_data_X6_wrong : GoodIn wsX6_data (wsV RX6 193 RX6 yX6_wrong wsX6_wrong) := goodIn_app (goodIn_of _ (by decide +kernel)) ggX6_data_X6_wrong
set_option maxRecDepth 20000 in
theorem ggX6_data_X6_wantFree : GoodIn wsX6_data wsX6_wantFree := goodIn_r _ [30, 31, 32, 33, 11, 34, 35, 14, 15, 16, 23, 24, 25, 26, 1, 63, 64, 65, 66, 67, 68, 69, 70, 71, 72, 73, 74, 75, 76, 77, 78, 79, 80, 81, 82, 83, 84, 85, 86, 87, 88, 89, 90, 91, 92, 93, 94] (by decide +kernel) (by decide +kernel)
set_option maxRecDepth 20000 in
theorem gX6_data_X6_wantFree : GoodIn wsX6_data (wsV RX6 206 RX6 yX6_wantFree wsX6_wantFree) := goodIn_app (goodIn_of _ (by decide +kernel)) ggX6_data_X6_wantFree
set_option maxRecDepth 20000 in
theorem ggX6_data_X6_wantSpace : GoodIn wsX6_data wsX6_wantSpace := goodIn_r _ [39, 1, 40, 31, 32, 33, 11, 34, 35, 14, 15, 16, 23, 24, 25, 26, 63, 64, 65, 66, 67, 68, 69, 70, 71, 72, 73, 74, 75, 76, 77, 78, 79, 80, 81, 82, 83, 84, 85, 86, 87, 88, 89, 90, 91, 92, 93, 94] (by decide +kernel) (by decide +kernel)
set_option maxRecDepth 20000 in
theorem gX6_data_X6_wantSpace : GoodIn wsX6_data (wsV RX6 213 RX6 yX6_wantSpace wsX6_wantSpace) := goodIn_app (goodIn_of _ (by decide +kernel)) ggX6_data_X6_wantSpace
set_option maxRecDepth 20000 in
theorem ggX6_data_X6_isTaken : GoodIn wsX6_data wsX6_isTaken := goodIn_r _ [44, 2, 45, 46, 47, 11, 48, 49, 50, 51, 52, 53, 63, 64, 65, 66, 67, 68, 69, 70, 71, 72, 73, 74, 75, 76, 77, 78, 79, 80, 81, 82, 83, 84, 85, 86, 87, 88, 89, 90, 91, 92, 93, 94] (by decide +kernel) (by decide +kernel)
set_option maxRecDepth 20000 in
theorem gX6_data_X6_isTaken : GoodIn wsX6_data (wsV RX6 224 RX6 yX6_isTaken wsX6_isTaken) := goodIn_app (goodIn_of _ (by decide +kernel)) ggX6_data_X6_isTaken
set_option maxRecDepth 20000 in
theorem ggX6_data_X6_become : GoodIn wsX6_data wsX6_become := goodIn_r _ [57, 35, 58, 63, 64, 65, 66, 67, 68, 69, 70, 71, 72, 73, 74, 75, 76, 77, 78, 79, 80, 81, 82, 83, 84, 85, 86, 87, 88, 89, 90, 91, 92, 93, 94] (by decide +kernel) (by decide +kernel)
set_option maxRecDepth 20000 in
theorem gX6_data_X6_become : GoodIn wsX6_data (wsV RX6 209 RX6 yX6_become wsX6_become) := goodIn_app (goodIn_of _ (by decide +kernel)) ggX6_data_X6_become
set_option maxRecDepth 20000 in
theorem ggX6_data_X6_entryOf : GoodIn wsX6_data wsX6_entryOf := goodIn_r _ [53, 45, 46, 47, 11, 48, 49, 63, 64, 65, 66, 67, 68, 69, 70, 71, 72, 73, 74, 75, 76, 77, 78, 79, 80, 81, 82, 83, 84, 85, 86, 87, 88, 89, 90, 91, 92, 93, 94] (by decide +kernel) (by decide +kernel)
set_option maxRecDepth 20000 in
theorem gX6_data_X6_entryOf : GoodIn wsX6_data (wsV RX6 200 RX6 yX6_entryOf wsX6_entryOf) := goodIn_app (goodIn_of _ (by decide +kernel)) ggX6_data_X6_entryOf
set_option maxRecDepth 20000 in
theorem ggX6_data_X6_tell : GoodIn wsX6_data wsX6_tell := goodIn_r _ [62, 7, 6, 63, 64, 65, 66, 67, 68, 69, 70, 71, 72, 73, 74, 75, 76, 77, 78, 79, 80, 81, 82, 83, 84, 85, 86, 87, 88, 89, 90, 91, 92, 93, 94] (by decide +kernel) (by decide +kernel)
set_option maxRecDepth 20000 in
theorem gX6_data_X6_tell : GoodIn wsX6_data (wsV RX6 217 RX6 yX6_tell wsX6_tell) := goodIn_app (goodIn_of _ (by decide +kernel)) ggX6_data_X6_tell
theorem dX6_data_0 : decode cX6_data 0 = .ok (.aload_n 0, 1) := by decide +kernel
theorem dX6_data_1 : decode cX6_data 1 = .ok (.invokevirtual 203, 3) := by decide +kernel
theorem dX6_data_4 : decode cX6_data 4 = .ok (.aload_n 0, 1) := by decide +kernel
theorem dX6_data_5 : decode cX6_data 5 = .ok (.iload_n 1, 1) := by decide +kernel
theorem dX6_data_6 : decode cX6_data 6 = .ok (.invokestatic 186, 3) := by decide +kernel
theorem dX6_data_9 : decode cX6_data 9 = .ok (.ifCond .ne 38, 3) := by decide +kernel
theorem dX6_data_12 : decode cX6_data 12 = .ok (.iload_n 2, 1) := by decide +kernel
theorem dX6_data_13 : decode cX6_data 13 = .ok (.invokestatic 186, 3) := by decide +kernel
theorem dX6_data_16 : decode cX6_data 16 = .ok (.ifCond .ne 31, 3) := by decide +kernel
theorem dX6_data_19 : decode cX6_data 19 = .ok (.iload_n 3, 1) := by decide +kernel
theorem dX6_data_20 : decode cX6_data 20 = .ok (.invokestatic 221, 3) := by decide +kernel
theorem dX6_data_23 : decode cX6_data 23 = .ok (.ifCond .ne 24, 3) := by decide +kernel
theorem dX6_data_26 : decode cX6_data 26 = .ok (.iload 4, 2) := by decide +kernel
theorem dX6_data_28 : decode cX6_data 28 = .ok (.iconst 1, 1) := by decide +kernel
theorem dX6_data_29 : decode cX6_data 29 = .ok (.if_icmp .lt 18, 3) := by decide +kernel
theorem dX6_data_32 : decode cX6_data 32 = .ok (.iload 4, 2) := by decide +kernel
theorem dX6_data_34 : decode cX6_data 34 = .ok (.bipush 7, 2) := by decide +kernel
theorem dX6_data_36 : decode cX6_data 36 = .ok (.if_icmp .gt 11, 3) := by decide +kernel
theorem dX6_data_39 : decode cX6_data 39 = .ok (.iload 5, 2) := by decide +kernel
theorem dX6_data_41 : decode cX6_data 41 = .ok (.invokestatic 179, 3) := by decide +kernel
theorem dX6_data_44 : decode cX6_data 44 = .ok (.ifCond .eq 7, 3) := by decide +kernel
theorem dX6_data_47 : decode cX6_data 47 = .ok (.iconst 1, 1) := by decide +kernel
theorem dX6_data_48 : decode cX6_data 48 = .ok (.goto 4, 3) := by decide +kernel
theorem dX6_data_51 : decode cX6_data 51 = .ok (.iconst 0, 1) := by decide +kernel
theorem dX6_data_52 : decode cX6_data 52 = .ok (.iconst 1, 1) := by decide +kernel
theorem dX6_data_53 : decode cX6_data 53 = .ok (.invokevirtual 193, 3) := by decide +kernel
theorem dX6_data_56 : decode cX6_data 56 = .ok (.aload_n 0, 1) := by decide +kernel
theorem dX6_data_57 : decode cX6_data 57 = .ok (.iload_n 1, 1) := by decide +kernel
theorem dX6_data_58 : decode cX6_data 58 = .ok (.invokevirtual 206, 3) := by decide +kernel
theorem dX6_data_61 : decode cX6_data 61 = .ok (.aload_n 0, 1) := by decide +kernel
theorem dX6_data_62 : decode cX6_data 62 = .ok (.iload_n 2, 1) := by decide +kernel
theorem dX6_data_63 : decode cX6_data 63 = .ok (.iconst 0, 1) := by decide +kernel
theorem dX6_data_64 : decode cX6_data 64 = .ok (.invokevirtual 213, 3) := by decide +kernel
theorem dX6_data_67 : decode cX6_data 67 = .ok (.aload_n 0, 1) := by decide +kernel
theorem dX6_data_68 : decode cX6_data 68 = .ok (.aload_n 0, 1) := by decide +kernel
theorem dX6_data_69 : decode cX6_data 69 = .ok (.getfield 183, 3) := by decide +kernel
theorem dX6_data_72 : decode cX6_data 72 = .ok (.ifCond .ne 16, 3) := by decide +kernel
theorem dX6_data_75 : decode cX6_data 75 = .ok (.aload_n 0, 1) := by decide +kernel
theorem dX6_data_76 : decode cX6_data 76 = .ok (.iload_n 2, 1) := by decide +kernel
theorem dX6_data_77 : decode cX6_data 77 = .ok (.iload_n 3, 1) := by decide +kernel
theorem dX6_data_78 : decode cX6_data 78 = .ok (.invokevirtual 224, 3) := by decide +kernel
theorem dX6_data_81 : decode cX6_data 81 = .ok (.ifCond .eq 7, 3) := by decide +kernel
theorem dX6_data_84 : decode cX6_data 84 = .ok (.iconst 1, 1) := by decide +kernel
theorem dX6_data_85 : decode cX6_data 85 = .ok (.goto 4, 3) := by decide +kernel
theorem dX6_data_88 : decode cX6_data 88 = .ok (.iconst 0, 1) := by decide +kernel
theorem dX6_data_89 : decode cX6_data 89 = .ok (.iconst 5, 1) := by decide +kernel
theorem dX6_data_90 : decode cX6_data 90 = .ok (.invokevirtual 193, 3) := by decide +kernel
theorem dX6_data_93 : decode cX6_data 93 = .ok (.aload_n 0, 1) := by decide +kernel
theorem dX6_data_94 : decode cX6_data 94 = .ok (.getfield 183, 3) := by decide +kernel
theorem dX6_data_97 : decode cX6_data 97 = .ok (.ifCond .le 8, 3) := by decide +kernel
theorem dX6_data_100 : decode cX6_data 100 = .ok (.aload_n 0, 1) := by decide +kernel
theorem dX6_data_101 : decode cX6_data 101 = .ok (.getfield 183, 3) := by decide +kernel
theorem dX6_data_104 : decode cX6_data 104 = .ok (.ireturn, 1) := by decide +kernel
theorem dX6_data_105 : decode cX6_data 105 = .ok (.aload_n 0, 1) := by decide +kernel
theorem dX6_data_106 : decode cX6_data 106 = .ok (.iload_n 1, 1) := by decide +kernel
theorem dX6_data_107 : decode cX6_data 107 = .ok (.iconst 4, 1) := by decide +kernel
theorem dX6_data_108 : decode cX6_data 108 = .ok (.iload_n 2, 1) := by decide +kernel
theorem dX6_data_109 : decode cX6_data 109 = .ok (.invokevirtual 209, 3) := by decide +kernel
theorem dX6_data_112 : decode cX6_data 112 = .ok (.aload_n 0, 1) := by decide +kernel
theorem dX6_data_113 : decode cX6_data 113 = .ok (.getfield 28, 3) := by decide +kernel
theorem dX6_data_116 : decode cX6_data 116 = .ok (.aload_n 0, 1) := by decide +kernel
theorem dX6_data_117 : decode cX6_data 117 = .ok (.iload_n 2, 1) := by decide +kernel
theorem dX6_data_118 : decode cX6_data 118 = .ok (.iload_n 3, 1) := by decide +kernel
theorem dX6_data_119 : decode cX6_data 119 = .ok (.invokevirtual 200, 3) := by decide +kernel
theorem dX6_data_122 : decode cX6_data 122 = .ok (.iload_n 1, 1) := by decide +kernel
theorem dX6_data_123 : decode cX6_data 123 = .ok (.iconst 1, 1) := by decide +kernel
theorem dX6_data_124 : decode cX6_data 124 = .ok (.iadd, 1) := by decide +kernel
theorem dX6_data_125 : decode cX6_data 125 = .ok (.iastore, 1) := by decide +kernel
theorem dX6_data_126 : decode cX6_data 126 = .ok (.aload_n 0, 1) := by decide +kernel
theorem dX6_data_127 : decode cX6_data 127 = .ok (.getfield 31, 3) := by decide +kernel
theorem dX6_data_130 : decode cX6_data 130 = .ok (.aload_n 0, 1) := by decide +kernel
theorem dX6_data_131 : decode cX6_data 131 = .ok (.iload_n 2, 1) := by decide +kernel
theorem dX6_data_132 : decode cX6_data 132 = .ok (.iload_n 3, 1) := by decide +kernel
theorem dX6_data_133 : decode cX6_data 133 = .ok (.invokevirtual 200, 3) := by decide +kernel
theorem dX6_data_136 : decode cX6_data 136 = .ok (.iload 4, 2) := by decide +kernel
theorem dX6_data_138 : decode cX6_data 138 = .ok (.iastore, 1) := by decide +kernel
theorem dX6_data_139 : decode cX6_data 139 = .ok (.aload_n 0, 1) := by decide +kernel
theorem dX6_data_140 : decode cX6_data 140 = .ok (.iload_n 2, 1) := by decide +kernel
theorem dX6_data_141 : decode cX6_data 141 = .ok (.iconst 2, 1) := by decide +kernel
theorem dX6_data_142 : decode cX6_data 142 = .ok (.iload_n 3, 1) := by decide +kernel
theorem dX6_data_143 : decode cX6_data 143 = .ok (.iload 4, 2) := by decide +kernel
theorem dX6_data_145 : decode cX6_data 145 = .ok (.invokevirtual 217, 3) := by decide +kernel
theorem dX6_data_148 : decode cX6_data 148 = .ok (.iconst 0, 1) := by decide +kernel
theorem dX6_data_149 : decode cX6_data 149 = .ok (.istore 6, 2) := by decide +kernel
theorem dX6_data_151 : decode cX6_data 151 = .ok (.iload 6, 2) := by decide +kernel
theorem dX6_data_153 : decode cX6_data 153 = .ok (.bipush 16, 2) := by decide +kernel
theorem dX6_data_155 : decode cX6_data 155 = .ok (.if_icmp .ge 67, 3) := by decide +kernel
theorem dX6_data_158 : decode cX6_data 158 = .ok (.aload_n 0, 1) := by decide +kernel
theorem dX6_data_159 : decode cX6_data 159 = .ok (.getfield 25, 3) := by decide +kernel
theorem dX6_data_162 : decode cX6_data 162 = .ok (.bipush 16, 2) := by decide +kernel
theorem dX6_data_164 : decode cX6_data 164 = .ok (.iload_n 1, 1) := by decide +kernel
theorem dX6_data_165 : decode cX6_data 165 = .ok (.imul, 1) := by decide +kernel
theorem dX6_data_166 : decode cX6_data 166 = .ok (.iload 6, 2) := by decide +kernel
theorem dX6_data_168 : decode cX6_data 168 = .ok (.iadd, 1) := by decide +kernel
theorem dX6_data_169 : decode cX6_data 169 = .ok (.aload_n 0, 1) := by decide +kernel
theorem dX6_data_170 : decode cX6_data 170 = .ok (.getfield 13, 3) := by decide +kernel
theorem dX6_data_173 : decode cX6_data 173 = .ok (.bipush 16, 2) := by decide +kernel
theorem dX6_data_175 : decode cX6_data 175 = .ok (.iload 5, 2) := by decide +kernel
theorem dX6_data_177 : decode cX6_data 177 = .ok (.imul, 1) := by decide +kernel
theorem dX6_data_178 : decode cX6_data 178 = .ok (.iload 6, 2) := by decide +kernel
theorem dX6_data_180 : decode cX6_data 180 = .ok (.iadd, 1) := by decide +kernel
theorem dX6_data_181 : decode cX6_data 181 = .ok (.iaload, 1) := by decide +kernel
theorem dX6_data_182 : decode cX6_data 182 = .ok (.iastore, 1) := by decide +kernel
theorem dX6_data_183 : decode cX6_data 183 = .ok (.aload_n 0, 1) := by decide +kernel
theorem dX6_data_184 : decode cX6_data 184 = .ok (.getfield 37, 3) := by decide +kernel
theorem dX6_data_187 : decode cX6_data 187 = .ok (.sipush 1600, 3) := by decide +kernel
theorem dX6_data_190 : decode cX6_data 190 = .ok (.iload_n 2, 1) := by decide +kernel
theorem dX6_data_191 : decode cX6_data 191 = .ok (.imul, 1) := by decide +kernel
theorem dX6_data_192 : decode cX6_data 192 = .ok (.aload_n 0, 1) := by decide +kernel
theorem dX6_data_193 : decode cX6_data 193 = .ok (.getfield 40, 3) := by decide +kernel
theorem dX6_data_196 : decode cX6_data 196 = .ok (.iload_n 2, 1) := by decide +kernel
theorem dX6_data_197 : decode cX6_data 197 = .ok (.iaload, 1) := by decide +kernel
theorem dX6_data_198 : decode cX6_data 198 = .ok (.iadd, 1) := by decide +kernel
theorem dX6_data_199 : decode cX6_data 199 = .ok (.iload 6, 2) := by decide +kernel
theorem dX6_data_201 : decode cX6_data 201 = .ok (.iadd, 1) := by decide +kernel
theorem dX6_data_202 : decode cX6_data 202 = .ok (.aload_n 0, 1) := by decide +kernel
theorem dX6_data_203 : decode cX6_data 203 = .ok (.getfield 13, 3) := by decide +kernel
theorem dX6_data_206 : decode cX6_data 206 = .ok (.bipush 16, 2) := by decide +kernel
theorem dX6_data_208 : decode cX6_data 208 = .ok (.iload 5, 2) := by decide +kernel
theorem dX6_data_210 : decode cX6_data 210 = .ok (.imul, 1) := by decide +kernel
theorem dX6_data_211 : decode cX6_data 211 = .ok (.iload 6, 2) := by decide +kernel
theorem dX6_data_213 : decode cX6_data 213 = .ok (.iadd, 1) := by decide +kernel
theorem dX6_data_214 : decode cX6_data 214 = .ok (.iaload, 1) := by decide +kernel
theorem dX6_data_215 : decode cX6_data 215 = .ok (.iastore, 1) := by decide +kernel
theorem dX6_data_216 : decode cX6_data 216 = .ok (.iinc 6 1, 3) := by decide +kernel
theorem dX6_data_219 : decode cX6_data 219 = .ok (.goto (-68), 3) := by decide +kernel
theorem dX6_data_222 : decode cX6_data 222 = .ok (.aload_n 0, 1) := by decide +kernel
theorem dX6_data_223 : decode cX6_data 223 = .ok (.getfield 40, 3) := by decide +kernel
theorem dX6_data_226 : decode cX6_data 226 = .ok (.iload_n 2, 1) := by decide +kernel
theorem dX6_data_227 : decode cX6_data 227 = .ok (.aload_n 0, 1) := by decide +kernel
theorem dX6_data_228 : decode cX6_data 228 = .ok (.getfield 40, 3) := by decide +kernel
theorem dX6_data_231 : decode cX6_data 231 = .ok (.iload_n 2, 1) := by decide +kernel
theorem dX6_data_232 : decode cX6_data 232 = .ok (.iaload, 1) := by decide +kernel
theorem dX6_data_233 : decode cX6_data 233 = .ok (.bipush 16, 2) := by decide +kernel
theorem dX6_data_235 : decode cX6_data 235 = .ok (.iadd, 1) := by decide +kernel
theorem dX6_data_236 : decode cX6_data 236 = .ok (.iastore, 1) := by decide +kernel
theorem dX6_data_237 : decode cX6_data 237 = .ok (.iconst 0, 1) := by decide +kernel
theorem dX6_data_238 : decode cX6_data 238 = .ok (.ireturn, 1) := by decide +kernel
set_option maxRecDepth 20000 in
theorem ggX6_share_X6_begin : GoodIn wsX6_share wsX6_begin := goodIn_r _ [8, 9, 1, 52, 53, 54, 55, 56, 57, 58, 59, 60, 61, 62, 63, 64, 65, 66, 67, 68, 69, 70, 71, 72, 73, 74, 75, 76, 77, 78, 79, 80, 81, 82, 83] (by decide +kernel) (by decide +kernel)
set_option maxRecDepth 20000 in
theorem gX6_share_X6_begin : GoodIn wsX6_share (wsV RX6 203 RX6 yX6_begin wsX6_begin) := goodIn_app (goodIn_of _ (by decide +kernel)) ggX6_share_X6_begin
set_option maxRecDepth 20000 in
theorem ggX6_share_X6_noPage : GoodIn wsX6_share wsX6_noPage := goodIn_r _ [12] (by decide +kernel) (by decide +kernel)
set_option maxRecDepth 20000 in
theorem gX6_share_X6_noPage : GoodIn wsX6_share (va_wsS RX6 186 yX6_noPage wsX6_noPage) := goodIn_app (goodIn_of _ (by decide +kernel)) ggX6_share_X6_noPage
set_option maxRecDepth 20000 in
theorem ggX6_share_X6_noBlock : GoodIn wsX6_share wsX6_noBlock := goodIn_r _ [15] (by decide +kernel) (by decide +kernel)
set_option maxRecDepth 20000 in
theorem gX6_share_X6_noBlock : GoodIn wsX6_share (va_wsS RX6 221 yX6_noBlock wsX6_noBlock) := goodIn_app (goodIn_of _ (by decide +kernel)) ggX6_share_X6_noBlock
set_option maxRecDepth 20000 in
theorem ggX6_share_X6_noFrame : GoodIn wsX6_share wsX6_noFrame := goodIn_r _ [18] (by decide +kernel) (by decide +kernel)
set_option maxRecDepth 20000 in
theorem gX6_share_X6_noFrame : GoodIn wsX6_share (va_wsS RX6 179 yX6_noFrame wsX6_noFrame) := goodIn_app (goodIn_of _ (by decide +kernel)) ggX6_share_X6_noFrame
set_option maxRecDepth 20000 in
theorem ggX6_share_X6_wrong : GoodIn wsX6_share wsX6_wrong := goodIn_r _ [22, 1, 52, 53, 54, 55, 56, 57, 58, 59, 60, 61, 62, 63, 64, 65, 66, 67, 68, 69, 70, 71, 72, 73, 74, 75, 76, 77, 78, 79, 80, 81, 82, 83] (by decide +kernel) (by decide +kernel)
set_option maxRecDepth 20000 in
theorem gX6_share_X6_wrong : GoodIn wsX6_share (wsV RX6 193 RX6 yX6_wrong wsX6_wrong) := goodIn_app (goodIn_of _ (by decide +kernel)) ggX6_share_X6_wrong
set_option maxRecDepth 20000 in
theorem ggX6_share_X6_wantSpace : GoodIn wsX6_share wsX6_wantSpace := goodIn_r _ [26, 1, 27, 28, 29, 30, 7, 31, 32, 10, 11, 12, 19, 20, 21, 22, 52, 53, 54, 55, 56, 57, 58, 59, 60, 61, 62, 63, 64, 65, 66, 67, 68, 69, 70, 71, 72, 73, 74, 75, 76, 77, 78, 79, 80, 81, 82, 83] (by decide +kernel) (by decide +kernel)
set_option maxRecDepth 20000 in
theorem gX6_share_X6_wantSpace : GoodIn wsX6_share (wsV RX6 213 RX6 yX6_wantSpace wsX6_wantSpace) := goodIn_app (goodIn_of _ (by decide +kernel)) ggX6_share_X6_wantSpace
set_option maxRecDepth 20000 in
theorem ggX6_share_X6_isTaken : GoodIn wsX6_share wsX6_isTaken := goodIn_r _ [36, 2, 37, 38, 39, 7, 40, 41, 42, 43, 44, 45, 52, 53, 54, 55, 56, 57, 58, 59, 60, 61, 62, 63, 64, 65, 66, 67, 68, 69, 70, 71, 72, 73, 74, 75, 76, 77, 78, 79, 80, 81, 82, 83] (by decide +kernel) (by decide +kernel)
set_option maxRecDepth 20000 in
theorem gX6_share_X6_isTaken : GoodIn wsX6_share (wsV RX6 224 RX6 yX6_isTaken wsX6_isTaken) := goodIn_app (goodIn_of _ (by decide +kernel)) ggX6_share_X6_isTaken
set_option maxRecDepth 20000 in
theorem ggX6_share_X6_entryOf : GoodIn wsX6_share wsX6_entryOf := goodIn_r _ [45, 37, 38, 39, 7, 40, 41, 52, 53, 54, 55, 56, 57, 58, 59, 60, 61, 62, 63, 64, 65, 66, 67, 68, 69, 70, 71, 72, 73, 74, 75, 76, 77, 78, 79, 80, 81, 82, 83] (by decide +kernel) (by decide +kernel)
set_option maxRecDepth 20000 in
theorem gX6_share_X6_entryOf : GoodIn wsX6_share (wsV RX6 200 RX6 yX6_entryOf wsX6_entryOf) := goodIn_app (goodIn_of _ (by decide +kernel)) ggX6_share_X6_entryOf
set_option maxRecDepth 20000 in
theorem ggX6_share_X6_tell : GoodIn wsX6_share wsX6_tell := goodIn_r _ [49, 50, 51, 52, 53, 54, 55, 56, 57, 58, 59, 60, 61, 62, 63, 64, 65, 66, 67, 68, 69, 70, 71, 72, 73, 74, 75, 76, 77, 78, 79, 80, 81, 82, 83] (by decide +kernel) (by decide +kernel)
set_option maxRecDepth 20000 in
theorem gX6_share_X6_tell : GoodIn wsX6_share (wsV RX6 217 RX6 yX6_tell wsX6_tell) := goodIn_app (goodIn_of _ (by decide +kernel)) ggX6_share_X6_tell
theorem dX6_share_0 : decode cX6_share 0 = .ok (.aload_n 0, 1) := by decide +kernel
theorem dX6_share_1 : decode cX6_share 1 = .ok (.invokevirtual 203, 3) := by decide +kernel
theorem dX6_share_4 : decode cX6_share 4 = .ok (.aload_n 0, 1) := by decide +kernel
theorem dX6_share_5 : decode cX6_share 5 = .ok (.iload_n 1, 1) := by decide +kernel
theorem dX6_share_6 : decode cX6_share 6 = .ok (.invokestatic 186, 3) := by decide +kernel
theorem dX6_share_9 : decode cX6_share 9 = .ok (.ifCond .ne 28, 3) := by decide +kernel
theorem dX6_share_12 : decode cX6_share 12 = .ok (.iload_n 2, 1) := by decide +kernel
theorem dX6_share_13 : decode cX6_share 13 = .ok (.invokestatic 221, 3) := by decide +kernel
theorem dX6_share_16 : decode cX6_share 16 = .ok (.ifCond .ne 21, 3) := by decide +kernel
theorem dX6_share_19 : decode cX6_share 19 = .ok (.iload_n 3, 1) := by decide +kernel
theorem dX6_share_20 : decode cX6_share 20 = .ok (.iconst 1, 1) := by decide +kernel
theorem dX6_share_21 : decode cX6_share 21 = .ok (.if_icmp .eq 8, 3) := by decide +kernel
theorem dX6_share_24 : decode cX6_share 24 = .ok (.iload_n 3, 1) := by decide +kernel
theorem dX6_share_25 : decode cX6_share 25 = .ok (.iconst 3, 1) := by decide +kernel
theorem dX6_share_26 : decode cX6_share 26 = .ok (.if_icmp .ne 11, 3) := by decide +kernel
theorem dX6_share_29 : decode cX6_share 29 = .ok (.iload 4, 2) := by decide +kernel
theorem dX6_share_31 : decode cX6_share 31 = .ok (.invokestatic 179, 3) := by decide +kernel
theorem dX6_share_34 : decode cX6_share 34 = .ok (.ifCond .eq 7, 3) := by decide +kernel
theorem dX6_share_37 : decode cX6_share 37 = .ok (.iconst 1, 1) := by decide +kernel
theorem dX6_share_38 : decode cX6_share 38 = .ok (.goto 4, 3) := by decide +kernel
theorem dX6_share_41 : decode cX6_share 41 = .ok (.iconst 0, 1) := by decide +kernel
theorem dX6_share_42 : decode cX6_share 42 = .ok (.iconst 1, 1) := by decide +kernel
theorem dX6_share_43 : decode cX6_share 43 = .ok (.invokevirtual 193, 3) := by decide +kernel
theorem dX6_share_46 : decode cX6_share 46 = .ok (.aload_n 0, 1) := by decide +kernel
theorem dX6_share_47 : decode cX6_share 47 = .ok (.iload_n 1, 1) := by decide +kernel
theorem dX6_share_48 : decode cX6_share 48 = .ok (.iconst 0, 1) := by decide +kernel
theorem dX6_share_49 : decode cX6_share 49 = .ok (.invokevirtual 213, 3) := by decide +kernel
theorem dX6_share_52 : decode cX6_share 52 = .ok (.aload_n 0, 1) := by decide +kernel
theorem dX6_share_53 : decode cX6_share 53 = .ok (.aload_n 0, 1) := by decide +kernel
theorem dX6_share_54 : decode cX6_share 54 = .ok (.getfield 183, 3) := by decide +kernel
theorem dX6_share_57 : decode cX6_share 57 = .ok (.ifCond .ne 16, 3) := by decide +kernel
theorem dX6_share_60 : decode cX6_share 60 = .ok (.aload_n 0, 1) := by decide +kernel
theorem dX6_share_61 : decode cX6_share 61 = .ok (.iload_n 1, 1) := by decide +kernel
theorem dX6_share_62 : decode cX6_share 62 = .ok (.iload_n 2, 1) := by decide +kernel
theorem dX6_share_63 : decode cX6_share 63 = .ok (.invokevirtual 224, 3) := by decide +kernel
theorem dX6_share_66 : decode cX6_share 66 = .ok (.ifCond .eq 7, 3) := by decide +kernel
theorem dX6_share_69 : decode cX6_share 69 = .ok (.iconst 1, 1) := by decide +kernel
theorem dX6_share_70 : decode cX6_share 70 = .ok (.goto 4, 3) := by decide +kernel
theorem dX6_share_73 : decode cX6_share 73 = .ok (.iconst 0, 1) := by decide +kernel
theorem dX6_share_74 : decode cX6_share 74 = .ok (.iconst 5, 1) := by decide +kernel
theorem dX6_share_75 : decode cX6_share 75 = .ok (.invokevirtual 193, 3) := by decide +kernel
theorem dX6_share_78 : decode cX6_share 78 = .ok (.aload_n 0, 1) := by decide +kernel
theorem dX6_share_79 : decode cX6_share 79 = .ok (.getfield 183, 3) := by decide +kernel
theorem dX6_share_82 : decode cX6_share 82 = .ok (.ifCond .le 8, 3) := by decide +kernel
theorem dX6_share_85 : decode cX6_share 85 = .ok (.aload_n 0, 1) := by decide +kernel
theorem dX6_share_86 : decode cX6_share 86 = .ok (.getfield 183, 3) := by decide +kernel
theorem dX6_share_89 : decode cX6_share 89 = .ok (.ireturn, 1) := by decide +kernel
theorem dX6_share_90 : decode cX6_share 90 = .ok (.aload_n 0, 1) := by decide +kernel
theorem dX6_share_91 : decode cX6_share 91 = .ok (.getfield 28, 3) := by decide +kernel
theorem dX6_share_94 : decode cX6_share 94 = .ok (.aload_n 0, 1) := by decide +kernel
theorem dX6_share_95 : decode cX6_share 95 = .ok (.iload_n 1, 1) := by decide +kernel
theorem dX6_share_96 : decode cX6_share 96 = .ok (.iload_n 2, 1) := by decide +kernel
theorem dX6_share_97 : decode cX6_share 97 = .ok (.invokevirtual 200, 3) := by decide +kernel
theorem dX6_share_100 : decode cX6_share 100 = .ok (.iload 4, 2) := by decide +kernel
theorem dX6_share_102 : decode cX6_share 102 = .ok (.ineg, 1) := by decide +kernel
theorem dX6_share_103 : decode cX6_share 103 = .ok (.iconst 1, 1) := by decide +kernel
theorem dX6_share_104 : decode cX6_share 104 = .ok (.isub, 1) := by decide +kernel
theorem dX6_share_105 : decode cX6_share 105 = .ok (.iastore, 1) := by decide +kernel
theorem dX6_share_106 : decode cX6_share 106 = .ok (.aload_n 0, 1) := by decide +kernel
theorem dX6_share_107 : decode cX6_share 107 = .ok (.getfield 31, 3) := by decide +kernel
theorem dX6_share_110 : decode cX6_share 110 = .ok (.aload_n 0, 1) := by decide +kernel
theorem dX6_share_111 : decode cX6_share 111 = .ok (.iload_n 1, 1) := by decide +kernel
theorem dX6_share_112 : decode cX6_share 112 = .ok (.iload_n 2, 1) := by decide +kernel
theorem dX6_share_113 : decode cX6_share 113 = .ok (.invokevirtual 200, 3) := by decide +kernel
theorem dX6_share_116 : decode cX6_share 116 = .ok (.iload_n 3, 1) := by decide +kernel
theorem dX6_share_117 : decode cX6_share 117 = .ok (.iastore, 1) := by decide +kernel
theorem dX6_share_118 : decode cX6_share 118 = .ok (.aload_n 0, 1) := by decide +kernel
theorem dX6_share_119 : decode cX6_share 119 = .ok (.iload_n 1, 1) := by decide +kernel
theorem dX6_share_120 : decode cX6_share 120 = .ok (.iconst 3, 1) := by decide +kernel
theorem dX6_share_121 : decode cX6_share 121 = .ok (.iload_n 2, 1) := by decide +kernel
theorem dX6_share_122 : decode cX6_share 122 = .ok (.iload_n 3, 1) := by decide +kernel
theorem dX6_share_123 : decode cX6_share 123 = .ok (.invokevirtual 217, 3) := by decide +kernel
theorem dX6_share_126 : decode cX6_share 126 = .ok (.iconst 0, 1) := by decide +kernel
theorem dX6_share_127 : decode cX6_share 127 = .ok (.ireturn, 1) := by decide +kernel
set_option maxRecDepth 20000 in
theorem ggX6_spare_X6_begin : GoodIn wsX6_spare wsX6_begin := goodIn_r _ [7, 8, 1, 30, 31, 32, 33, 34, 35, 36, 37, 38, 39, 40, 41, 42, 43, 44, 45, 46, 47, 48, 49, 50, 51, 52, 53, 54, 55, 56, 57, 58, 59, 60, 61] (by decide +kernel) (by decide +kernel)
set_option maxRecDepth 20000 in
theorem gX6_spare_X6_begin : GoodIn wsX6_spare (wsV RX6 203 RX6 yX6_begin wsX6_begin) := goodIn_app (goodIn_of _ (by decide +kernel)) ggX6_spare_X6_begin
set_option maxRecDepth 20000 in
theorem ggX6_spare_X6_noPage : GoodIn wsX6_spare wsX6_noPage := goodIn_r _ [11] (by decide +kernel) (by decide +kernel)
set_option maxRecDepth 20000 in
theorem gX6_spare_X6_noPage : GoodIn wsX6_spare (va_wsS RX6 186 yX6_noPage wsX6_noPage) := goodIn_app (goodIn_of _ (by decide +kernel)) ggX6_spare_X6_noPage
set_option maxRecDepth 20000 in
theorem ggX6_spare_X6_wrong : GoodIn wsX6_spare wsX6_wrong := goodIn_r _ [15, 1, 30, 31, 32, 33, 34, 35, 36, 37, 38, 39, 40, 41, 42, 43, 44, 45, 46, 47, 48, 49, 50, 51, 52, 53, 54, 55, 56, 57, 58, 59, 60, 61] (by decide +kernel) (by decide +kernel)
set_option maxRecDepth 20000 in
theorem gX6_spare_X6_wrong : GoodIn wsX6_spare (wsV RX6 193 RX6 yX6_wrong wsX6_wrong) := goodIn_app (goodIn_of _ (by decide +kernel)) ggX6_spare_X6_wrong
set_option maxRecDepth 20000 in
theorem ggX6_spare_X6_wantFree : GoodIn wsX6_spare wsX6_wantFree := goodIn_r _ [19, 20, 21, 22, 6, 23, 24, 9, 10, 11, 12, 13, 14, 15, 1, 30, 31, 32, 33, 34, 35, 36, 37, 38, 39, 40, 41, 42, 43, 44, 45, 46, 47, 48, 49, 50, 51, 52, 53, 54, 55, 56, 57, 58, 59, 60, 61] (by decide +kernel) (by decide +kernel)
set_option maxRecDepth 20000 in
theorem gX6_spare_X6_wantFree : GoodIn wsX6_spare (wsV RX6 206 RX6 yX6_wantFree wsX6_wantFree) := goodIn_app (goodIn_of _ (by decide +kernel)) ggX6_spare_X6_wantFree
set_option maxRecDepth 20000 in
theorem ggX6_spare_X6_isKind : GoodIn wsX6_spare wsX6_isKind := goodIn_r _ [23, 24, 9, 10, 6, 11, 30, 31, 32, 33, 34, 35, 36, 37, 38, 39, 40, 41, 42, 43, 44, 45, 46, 47, 48, 49, 50, 51, 52, 53, 54, 55, 56, 57, 58, 59, 60, 61] (by decide +kernel) (by decide +kernel)
set_option maxRecDepth 20000 in
theorem gX6_spare_X6_isKind : GoodIn wsX6_spare (wsV RX6 189 RX6 yX6_isKind wsX6_isKind) := goodIn_app (goodIn_of _ (by decide +kernel)) ggX6_spare_X6_isKind
set_option maxRecDepth 20000 in
theorem ggX6_spare_X6_become : GoodIn wsX6_spare wsX6_become := goodIn_r _ [28, 24, 29, 30, 31, 32, 33, 34, 35, 36, 37, 38, 39, 40, 41, 42, 43, 44, 45, 46, 47, 48, 49, 50, 51, 52, 53, 54, 55, 56, 57, 58, 59, 60, 61] (by decide +kernel) (by decide +kernel)
set_option maxRecDepth 20000 in
theorem gX6_spare_X6_become : GoodIn wsX6_spare (wsV RX6 209 RX6 yX6_become wsX6_become) := goodIn_app (goodIn_of _ (by decide +kernel)) ggX6_spare_X6_become
theorem dX6_spare_0 : decode cX6_spare 0 = .ok (.aload_n 0, 1) := by decide +kernel
theorem dX6_spare_1 : decode cX6_spare 1 = .ok (.invokevirtual 203, 3) := by decide +kernel
theorem dX6_spare_4 : decode cX6_spare 4 = .ok (.aload_n 0, 1) := by decide +kernel
theorem dX6_spare_5 : decode cX6_spare 5 = .ok (.iload_n 1, 1) := by decide +kernel
theorem dX6_spare_6 : decode cX6_spare 6 = .ok (.invokestatic 186, 3) := by decide +kernel
theorem dX6_spare_9 : decode cX6_spare 9 = .ok (.ifCond .ne 10, 3) := by decide +kernel
theorem dX6_spare_12 : decode cX6_spare 12 = .ok (.iload_n 2, 1) := by decide +kernel
theorem dX6_spare_13 : decode cX6_spare 13 = .ok (.invokestatic 186, 3) := by decide +kernel
theorem dX6_spare_16 : decode cX6_spare 16 = .ok (.ifCond .eq 7, 3) := by decide +kernel
theorem dX6_spare_19 : decode cX6_spare 19 = .ok (.iconst 1, 1) := by decide +kernel
theorem dX6_spare_20 : decode cX6_spare 20 = .ok (.goto 4, 3) := by decide +kernel
theorem dX6_spare_23 : decode cX6_spare 23 = .ok (.iconst 0, 1) := by decide +kernel
theorem dX6_spare_24 : decode cX6_spare 24 = .ok (.iconst 1, 1) := by decide +kernel
theorem dX6_spare_25 : decode cX6_spare 25 = .ok (.invokevirtual 193, 3) := by decide +kernel
theorem dX6_spare_28 : decode cX6_spare 28 = .ok (.aload_n 0, 1) := by decide +kernel
theorem dX6_spare_29 : decode cX6_spare 29 = .ok (.iload_n 1, 1) := by decide +kernel
theorem dX6_spare_30 : decode cX6_spare 30 = .ok (.invokevirtual 206, 3) := by decide +kernel
theorem dX6_spare_33 : decode cX6_spare 33 = .ok (.aload_n 0, 1) := by decide +kernel
theorem dX6_spare_34 : decode cX6_spare 34 = .ok (.aload_n 0, 1) := by decide +kernel
theorem dX6_spare_35 : decode cX6_spare 35 = .ok (.iload_n 2, 1) := by decide +kernel
theorem dX6_spare_36 : decode cX6_spare 36 = .ok (.iconst 1, 1) := by decide +kernel
theorem dX6_spare_37 : decode cX6_spare 37 = .ok (.invokevirtual 189, 3) := by decide +kernel
theorem dX6_spare_40 : decode cX6_spare 40 = .ok (.ifCond .ne 7, 3) := by decide +kernel
theorem dX6_spare_43 : decode cX6_spare 43 = .ok (.iconst 1, 1) := by decide +kernel
theorem dX6_spare_44 : decode cX6_spare 44 = .ok (.goto 4, 3) := by decide +kernel
theorem dX6_spare_47 : decode cX6_spare 47 = .ok (.iconst 0, 1) := by decide +kernel
theorem dX6_spare_48 : decode cX6_spare 48 = .ok (.iconst 3, 1) := by decide +kernel
theorem dX6_spare_49 : decode cX6_spare 49 = .ok (.invokevirtual 193, 3) := by decide +kernel
theorem dX6_spare_52 : decode cX6_spare 52 = .ok (.aload_n 0, 1) := by decide +kernel
theorem dX6_spare_53 : decode cX6_spare 53 = .ok (.aload_n 0, 1) := by decide +kernel
theorem dX6_spare_54 : decode cX6_spare 54 = .ok (.getfield 183, 3) := by decide +kernel
theorem dX6_spare_57 : decode cX6_spare 57 = .ok (.ifCond .ne 17, 3) := by decide +kernel
theorem dX6_spare_60 : decode cX6_spare 60 = .ok (.aload_n 0, 1) := by decide +kernel
theorem dX6_spare_61 : decode cX6_spare 61 = .ok (.getfield 22, 3) := by decide +kernel
theorem dX6_spare_64 : decode cX6_spare 64 = .ok (.iload_n 2, 1) := by decide +kernel
theorem dX6_spare_65 : decode cX6_spare 65 = .ok (.iaload, 1) := by decide +kernel
theorem dX6_spare_66 : decode cX6_spare 66 = .ok (.iconst 2, 1) := by decide +kernel
theorem dX6_spare_67 : decode cX6_spare 67 = .ok (.if_icmp .ne 7, 3) := by decide +kernel
theorem dX6_spare_70 : decode cX6_spare 70 = .ok (.iconst 1, 1) := by decide +kernel
theorem dX6_spare_71 : decode cX6_spare 71 = .ok (.goto 4, 3) := by decide +kernel
theorem dX6_spare_74 : decode cX6_spare 74 = .ok (.iconst 0, 1) := by decide +kernel
theorem dX6_spare_75 : decode cX6_spare 75 = .ok (.iconst 4, 1) := by decide +kernel
theorem dX6_spare_76 : decode cX6_spare 76 = .ok (.invokevirtual 193, 3) := by decide +kernel
theorem dX6_spare_79 : decode cX6_spare 79 = .ok (.aload_n 0, 1) := by decide +kernel
theorem dX6_spare_80 : decode cX6_spare 80 = .ok (.getfield 183, 3) := by decide +kernel
theorem dX6_spare_83 : decode cX6_spare 83 = .ok (.ifCond .ne 10, 3) := by decide +kernel
theorem dX6_spare_86 : decode cX6_spare 86 = .ok (.aload_n 0, 1) := by decide +kernel
theorem dX6_spare_87 : decode cX6_spare 87 = .ok (.iload_n 1, 1) := by decide +kernel
theorem dX6_spare_88 : decode cX6_spare 88 = .ok (.iconst 5, 1) := by decide +kernel
theorem dX6_spare_89 : decode cX6_spare 89 = .ok (.iload_n 2, 1) := by decide +kernel
theorem dX6_spare_90 : decode cX6_spare 90 = .ok (.invokevirtual 209, 3) := by decide +kernel
theorem dX6_spare_93 : decode cX6_spare 93 = .ok (.aload_n 0, 1) := by decide +kernel
theorem dX6_spare_94 : decode cX6_spare 94 = .ok (.getfield 183, 3) := by decide +kernel
theorem dX6_spare_97 : decode cX6_spare 97 = .ok (.ireturn, 1) := by decide +kernel
set_option maxRecDepth 20000 in
theorem ggX6_finish_X6_begin : GoodIn wsX6_finish wsX6_begin := goodIn_r _ [13, 14, 1, 51, 52, 53, 54, 55, 56, 57, 58, 59, 60, 61, 62, 63, 64, 65, 66, 67, 68, 69, 70, 71, 72, 73, 74, 75, 76, 77, 78, 79, 80, 81, 82] (by decide +kernel) (by decide +kernel)
set_option maxRecDepth 20000 in
theorem gX6_finish_X6_begin : GoodIn wsX6_finish (wsV RX6 203 RX6 yX6_begin wsX6_begin) := goodIn_app (goodIn_of _ (by decide +kernel)) ggX6_finish_X6_begin
set_option maxRecDepth 20000 in
theorem ggX6_finish_X6_noPage : GoodIn wsX6_finish wsX6_noPage := goodIn_r _ [17] (by decide +kernel) (by decide +kernel)
set_option maxRecDepth 20000 in
theorem gX6_finish_X6_noPage : GoodIn wsX6_finish (va_wsS RX6 186 yX6_noPage wsX6_noPage) := goodIn_app (goodIn_of _ (by decide +kernel)) ggX6_finish_X6_noPage
set_option maxRecDepth 20000 in
theorem ggX6_finish_X6_wrong : GoodIn wsX6_finish wsX6_wrong := goodIn_r _ [21, 1, 51, 52, 53, 54, 55, 56, 57, 58, 59, 60, 61, 62, 63, 64, 65, 66, 67, 68, 69, 70, 71, 72, 73, 74, 75, 76, 77, 78, 79, 80, 81, 82] (by decide +kernel) (by decide +kernel)
set_option maxRecDepth 20000 in
theorem gX6_finish_X6_wrong : GoodIn wsX6_finish (wsV RX6 193 RX6 yX6_wrong wsX6_wrong) := goodIn_app (goodIn_of _ (by decide +kernel)) ggX6_finish_X6_wrong
set_option maxRecDepth 20000 in
theorem ggX6_finish_X6_wantSpace : GoodIn wsX6_finish wsX6_wantSpace := goodIn_r _ [25, 1, 8, 26, 27, 28, 12, 29, 30, 15, 16, 17, 18, 19, 20, 21, 51, 52, 53, 54, 55, 56, 57, 58, 59, 60, 61, 62, 63, 64, 65, 66, 67, 68, 69, 70, 71, 72, 73, 74, 75, 76, 77, 78, 79, 80, 81, 82] (by decide +kernel) (by decide +kernel)
set_option maxRecDepth 20000 in
theorem gX6_finish_X6_wantSpace : GoodIn wsX6_finish (wsV RX6 213 RX6 yX6_wantSpace wsX6_wantSpace) := goodIn_app (goodIn_of _ (by decide +kernel)) ggX6_finish_X6_wantSpace
set_option maxRecDepth 20000 in
theorem ggX6_finish_X6_tell : GoodIn wsX6_finish wsX6_tell := goodIn_r _ [34, 2, 4, 51, 52, 53, 54, 55, 56, 57, 58, 59, 60, 61, 62, 63, 64, 65, 66, 67, 68, 69, 70, 71, 72, 73, 74, 75, 76, 77, 78, 79, 80, 81, 82] (by decide +kernel) (by decide +kernel)
set_option maxRecDepth 20000 in
theorem gX6_finish_X6_tell : GoodIn wsX6_finish (wsV RX6 217 RX6 yX6_tell wsX6_tell) := goodIn_app (goodIn_of _ (by decide +kernel)) ggX6_finish_X6_tell
set_option maxRecDepth 20000 in
theorem ggX6_finish_X6_hash : GoodIn wsX6_finish wsX6_hash := goodIn_r _ [38, 6, 39, 3, 40, 41, 42, 43, 12, 44, 45, 46, 47, 48, 49, 50, 51, 52, 53, 54, 55, 56, 57, 58, 59, 60, 61, 62, 63, 64, 65, 66, 67, 68, 69, 70, 71, 72, 73, 74, 75, 76, 77, 78, 79, 80, 81, 82] (by decide +kernel) (by decide +kernel)
set_option maxRecDepth 20000 in
theorem gX6_finish_X6_hash : GoodIn wsX6_finish (wsV RX6 176 RX6 yX6_hash wsX6_hash) := goodIn_app (goodIn_of _ (by decide +kernel)) ggX6_finish_X6_hash
theorem dX6_finish_0 : decode cX6_finish 0 = .ok (.aload_n 0, 1) := by decide +kernel
theorem dX6_finish_1 : decode cX6_finish 1 = .ok (.invokevirtual 203, 3) := by decide +kernel
theorem dX6_finish_4 : decode cX6_finish 4 = .ok (.aload_n 0, 1) := by decide +kernel
theorem dX6_finish_5 : decode cX6_finish 5 = .ok (.iload_n 1, 1) := by decide +kernel
theorem dX6_finish_6 : decode cX6_finish 6 = .ok (.invokestatic 186, 3) := by decide +kernel
theorem dX6_finish_9 : decode cX6_finish 9 = .ok (.iconst 1, 1) := by decide +kernel
theorem dX6_finish_10 : decode cX6_finish 10 = .ok (.invokevirtual 193, 3) := by decide +kernel
theorem dX6_finish_13 : decode cX6_finish 13 = .ok (.aload_n 0, 1) := by decide +kernel
theorem dX6_finish_14 : decode cX6_finish 14 = .ok (.iload_n 1, 1) := by decide +kernel
theorem dX6_finish_15 : decode cX6_finish 15 = .ok (.iconst 0, 1) := by decide +kernel
theorem dX6_finish_16 : decode cX6_finish 16 = .ok (.invokevirtual 213, 3) := by decide +kernel
theorem dX6_finish_19 : decode cX6_finish 19 = .ok (.aload_n 0, 1) := by decide +kernel
theorem dX6_finish_20 : decode cX6_finish 20 = .ok (.getfield 183, 3) := by decide +kernel
theorem dX6_finish_23 : decode cX6_finish 23 = .ok (.ifCond .le 8, 3) := by decide +kernel
theorem dX6_finish_26 : decode cX6_finish 26 = .ok (.aload_n 0, 1) := by decide +kernel
theorem dX6_finish_27 : decode cX6_finish 27 = .ok (.getfield 183, 3) := by decide +kernel
theorem dX6_finish_30 : decode cX6_finish 30 = .ok (.ireturn, 1) := by decide +kernel
theorem dX6_finish_31 : decode cX6_finish 31 = .ok (.aload_n 0, 1) := by decide +kernel
theorem dX6_finish_32 : decode cX6_finish 32 = .ok (.iload_n 1, 1) := by decide +kernel
theorem dX6_finish_33 : decode cX6_finish 33 = .ok (.iconst 4, 1) := by decide +kernel
theorem dX6_finish_34 : decode cX6_finish 34 = .ok (.iconst 0, 1) := by decide +kernel
theorem dX6_finish_35 : decode cX6_finish 35 = .ok (.iconst 0, 1) := by decide +kernel
theorem dX6_finish_36 : decode cX6_finish 36 = .ok (.invokevirtual 217, 3) := by decide +kernel
theorem dX6_finish_39 : decode cX6_finish 39 = .ok (.iconst 0, 1) := by decide +kernel
theorem dX6_finish_40 : decode cX6_finish 40 = .ok (.istore_n 2, 1) := by decide +kernel
theorem dX6_finish_41 : decode cX6_finish 41 = .ok (.iload_n 2, 1) := by decide +kernel
theorem dX6_finish_42 : decode cX6_finish 42 = .ok (.aload_n 0, 1) := by decide +kernel
theorem dX6_finish_43 : decode cX6_finish 43 = .ok (.getfield 40, 3) := by decide +kernel
theorem dX6_finish_46 : decode cX6_finish 46 = .ok (.iload_n 1, 1) := by decide +kernel
theorem dX6_finish_47 : decode cX6_finish 47 = .ok (.iaload, 1) := by decide +kernel
theorem dX6_finish_48 : decode cX6_finish 48 = .ok (.if_icmp .ge 27, 3) := by decide +kernel
theorem dX6_finish_51 : decode cX6_finish 51 = .ok (.aload_n 0, 1) := by decide +kernel
theorem dX6_finish_52 : decode cX6_finish 52 = .ok (.getfield 140, 3) := by decide +kernel
theorem dX6_finish_55 : decode cX6_finish 55 = .ok (.iload_n 2, 1) := by decide +kernel
theorem dX6_finish_56 : decode cX6_finish 56 = .ok (.aload_n 0, 1) := by decide +kernel
theorem dX6_finish_57 : decode cX6_finish 57 = .ok (.getfield 37, 3) := by decide +kernel
theorem dX6_finish_60 : decode cX6_finish 60 = .ok (.sipush 1600, 3) := by decide +kernel
theorem dX6_finish_63 : decode cX6_finish 63 = .ok (.iload_n 1, 1) := by decide +kernel
theorem dX6_finish_64 : decode cX6_finish 64 = .ok (.imul, 1) := by decide +kernel
theorem dX6_finish_65 : decode cX6_finish 65 = .ok (.iload_n 2, 1) := by decide +kernel
theorem dX6_finish_66 : decode cX6_finish 66 = .ok (.iadd, 1) := by decide +kernel
theorem dX6_finish_67 : decode cX6_finish 67 = .ok (.iaload, 1) := by decide +kernel
theorem dX6_finish_68 : decode cX6_finish 68 = .ok (.iastore, 1) := by decide +kernel
theorem dX6_finish_69 : decode cX6_finish 69 = .ok (.iinc 2 1, 3) := by decide +kernel
theorem dX6_finish_72 : decode cX6_finish 72 = .ok (.goto (-31), 3) := by decide +kernel
theorem dX6_finish_75 : decode cX6_finish 75 = .ok (.aload_n 0, 1) := by decide +kernel
theorem dX6_finish_76 : decode cX6_finish 76 = .ok (.aload_n 0, 1) := by decide +kernel
theorem dX6_finish_77 : decode cX6_finish 77 = .ok (.getfield 40, 3) := by decide +kernel
theorem dX6_finish_80 : decode cX6_finish 80 = .ok (.iload_n 1, 1) := by decide +kernel
theorem dX6_finish_81 : decode cX6_finish 81 = .ok (.iaload, 1) := by decide +kernel
theorem dX6_finish_82 : decode cX6_finish 82 = .ok (.invokevirtual 176, 3) := by decide +kernel
theorem dX6_finish_85 : decode cX6_finish 85 = .ok (.iconst 0, 1) := by decide +kernel
theorem dX6_finish_86 : decode cX6_finish 86 = .ok (.istore_n 2, 1) := by decide +kernel
theorem dX6_finish_87 : decode cX6_finish 87 = .ok (.iload_n 2, 1) := by decide +kernel
theorem dX6_finish_88 : decode cX6_finish 88 = .ok (.bipush 8, 2) := by decide +kernel
theorem dX6_finish_90 : decode cX6_finish 90 = .ok (.if_icmp .ge 26, 3) := by decide +kernel
theorem dX6_finish_93 : decode cX6_finish 93 = .ok (.aload_n 0, 1) := by decide +kernel
theorem dX6_finish_94 : decode cX6_finish 94 = .ok (.getfield 43, 3) := by decide +kernel
theorem dX6_finish_97 : decode cX6_finish 97 = .ok (.bipush 8, 2) := by decide +kernel
theorem dX6_finish_99 : decode cX6_finish 99 = .ok (.iload_n 1, 1) := by decide +kernel
theorem dX6_finish_100 : decode cX6_finish 100 = .ok (.imul, 1) := by decide +kernel
theorem dX6_finish_101 : decode cX6_finish 101 = .ok (.iload_n 2, 1) := by decide +kernel
theorem dX6_finish_102 : decode cX6_finish 102 = .ok (.iadd, 1) := by decide +kernel
theorem dX6_finish_103 : decode cX6_finish 103 = .ok (.aload_n 0, 1) := by decide +kernel
theorem dX6_finish_104 : decode cX6_finish 104 = .ok (.getfield 146, 3) := by decide +kernel
theorem dX6_finish_107 : decode cX6_finish 107 = .ok (.iload_n 2, 1) := by decide +kernel
theorem dX6_finish_108 : decode cX6_finish 108 = .ok (.iaload, 1) := by decide +kernel
theorem dX6_finish_109 : decode cX6_finish 109 = .ok (.iastore, 1) := by decide +kernel
theorem dX6_finish_110 : decode cX6_finish 110 = .ok (.iinc 2 1, 3) := by decide +kernel
theorem dX6_finish_113 : decode cX6_finish 113 = .ok (.goto (-26), 3) := by decide +kernel
theorem dX6_finish_116 : decode cX6_finish 116 = .ok (.aload_n 0, 1) := by decide +kernel
theorem dX6_finish_117 : decode cX6_finish 117 = .ok (.getfield 46, 3) := by decide +kernel
theorem dX6_finish_120 : decode cX6_finish 120 = .ok (.iload_n 1, 1) := by decide +kernel
theorem dX6_finish_121 : decode cX6_finish 121 = .ok (.iconst 1, 1) := by decide +kernel
theorem dX6_finish_122 : decode cX6_finish 122 = .ok (.bastore, 1) := by decide +kernel
theorem dX6_finish_123 : decode cX6_finish 123 = .ok (.aload_n 0, 1) := by decide +kernel
theorem dX6_finish_124 : decode cX6_finish 124 = .ok (.getfield 22, 3) := by decide +kernel
theorem dX6_finish_127 : decode cX6_finish 127 = .ok (.iload_n 1, 1) := by decide +kernel
theorem dX6_finish_128 : decode cX6_finish 128 = .ok (.iconst 1, 1) := by decide +kernel
theorem dX6_finish_129 : decode cX6_finish 129 = .ok (.iastore, 1) := by decide +kernel
theorem dX6_finish_130 : decode cX6_finish 130 = .ok (.iconst 0, 1) := by decide +kernel
theorem dX6_finish_131 : decode cX6_finish 131 = .ok (.ireturn, 1) := by decide +kernel
set_option maxRecDepth 20000 in
theorem ggX6_stop_X6_begin : GoodIn wsX6_stop wsX6_begin := goodIn_r _ [9, 10, 1, 23, 24, 25, 26, 27, 28, 29, 30, 31, 32, 33, 34, 35, 36, 37, 38, 39, 40, 41, 42, 43, 44, 45, 46, 47, 48, 49, 50, 51, 52, 53, 54] (by decide +kernel) (by decide +kernel)
set_option maxRecDepth 20000 in
theorem gX6_stop_X6_begin : GoodIn wsX6_stop (wsV RX6 203 RX6 yX6_begin wsX6_begin) := goodIn_app (goodIn_of _ (by decide +kernel)) ggX6_stop_X6_begin
set_option maxRecDepth 20000 in
theorem ggX6_stop_X6_noPage : GoodIn wsX6_stop wsX6_noPage := goodIn_r _ [13] (by decide +kernel) (by decide +kernel)
set_option maxRecDepth 20000 in
theorem gX6_stop_X6_noPage : GoodIn wsX6_stop (va_wsS RX6 186 yX6_noPage wsX6_noPage) := goodIn_app (goodIn_of _ (by decide +kernel)) ggX6_stop_X6_noPage
set_option maxRecDepth 20000 in
theorem ggX6_stop_X6_wrong : GoodIn wsX6_stop wsX6_wrong := goodIn_r _ [17, 1, 23, 24, 25, 26, 27, 28, 29, 30, 31, 32, 33, 34, 35, 36, 37, 38, 39, 40, 41, 42, 43, 44, 45, 46, 47, 48, 49, 50, 51, 52, 53, 54] (by decide +kernel) (by decide +kernel)
set_option maxRecDepth 20000 in
theorem gX6_stop_X6_wrong : GoodIn wsX6_stop (wsV RX6 193 RX6 yX6_wrong wsX6_wrong) := goodIn_app (goodIn_of _ (by decide +kernel)) ggX6_stop_X6_wrong
set_option maxRecDepth 20000 in
theorem ggX6_stop_X6_isKind : GoodIn wsX6_stop wsX6_isKind := goodIn_r _ [21, 22, 11, 12, 8, 13, 23, 24, 25, 26, 27, 28, 29, 30, 31, 32, 33, 34, 35, 36, 37, 38, 39, 40, 41, 42, 43, 44, 45, 46, 47, 48, 49, 50, 51, 52, 53, 54] (by decide +kernel) (by decide +kernel)
set_option maxRecDepth 20000 in
theorem gX6_stop_X6_isKind : GoodIn wsX6_stop (wsV RX6 189 RX6 yX6_isKind wsX6_isKind) := goodIn_app (goodIn_of _ (by decide +kernel)) ggX6_stop_X6_isKind
theorem dX6_stop_0 : decode cX6_stop 0 = .ok (.aload_n 0, 1) := by decide +kernel
theorem dX6_stop_1 : decode cX6_stop 1 = .ok (.invokevirtual 203, 3) := by decide +kernel
theorem dX6_stop_4 : decode cX6_stop 4 = .ok (.aload_n 0, 1) := by decide +kernel
theorem dX6_stop_5 : decode cX6_stop 5 = .ok (.iload_n 1, 1) := by decide +kernel
theorem dX6_stop_6 : decode cX6_stop 6 = .ok (.invokestatic 186, 3) := by decide +kernel
theorem dX6_stop_9 : decode cX6_stop 9 = .ok (.iconst 1, 1) := by decide +kernel
theorem dX6_stop_10 : decode cX6_stop 10 = .ok (.invokevirtual 193, 3) := by decide +kernel
theorem dX6_stop_13 : decode cX6_stop 13 = .ok (.aload_n 0, 1) := by decide +kernel
theorem dX6_stop_14 : decode cX6_stop 14 = .ok (.aload_n 0, 1) := by decide +kernel
theorem dX6_stop_15 : decode cX6_stop 15 = .ok (.iload_n 1, 1) := by decide +kernel
theorem dX6_stop_16 : decode cX6_stop 16 = .ok (.iconst 1, 1) := by decide +kernel
theorem dX6_stop_17 : decode cX6_stop 17 = .ok (.invokevirtual 189, 3) := by decide +kernel
theorem dX6_stop_20 : decode cX6_stop 20 = .ok (.ifCond .ne 7, 3) := by decide +kernel
theorem dX6_stop_23 : decode cX6_stop 23 = .ok (.iconst 1, 1) := by decide +kernel
theorem dX6_stop_24 : decode cX6_stop 24 = .ok (.goto 4, 3) := by decide +kernel
theorem dX6_stop_27 : decode cX6_stop 27 = .ok (.iconst 0, 1) := by decide +kernel
theorem dX6_stop_28 : decode cX6_stop 28 = .ok (.iconst 3, 1) := by decide +kernel
theorem dX6_stop_29 : decode cX6_stop 29 = .ok (.invokevirtual 193, 3) := by decide +kernel
theorem dX6_stop_32 : decode cX6_stop 32 = .ok (.aload_n 0, 1) := by decide +kernel
theorem dX6_stop_33 : decode cX6_stop 33 = .ok (.aload_n 0, 1) := by decide +kernel
theorem dX6_stop_34 : decode cX6_stop 34 = .ok (.getfield 183, 3) := by decide +kernel
theorem dX6_stop_37 : decode cX6_stop 37 = .ok (.ifCond .ne 17, 3) := by decide +kernel
theorem dX6_stop_40 : decode cX6_stop 40 = .ok (.aload_n 0, 1) := by decide +kernel
theorem dX6_stop_41 : decode cX6_stop 41 = .ok (.getfield 22, 3) := by decide +kernel
theorem dX6_stop_44 : decode cX6_stop 44 = .ok (.iload_n 1, 1) := by decide +kernel
theorem dX6_stop_45 : decode cX6_stop 45 = .ok (.iaload, 1) := by decide +kernel
theorem dX6_stop_46 : decode cX6_stop 46 = .ok (.iconst 2, 1) := by decide +kernel
theorem dX6_stop_47 : decode cX6_stop 47 = .ok (.if_icmp .ne 7, 3) := by decide +kernel
theorem dX6_stop_50 : decode cX6_stop 50 = .ok (.iconst 1, 1) := by decide +kernel
theorem dX6_stop_51 : decode cX6_stop 51 = .ok (.goto 4, 3) := by decide +kernel
theorem dX6_stop_54 : decode cX6_stop 54 = .ok (.iconst 0, 1) := by decide +kernel
theorem dX6_stop_55 : decode cX6_stop 55 = .ok (.iconst 4, 1) := by decide +kernel
theorem dX6_stop_56 : decode cX6_stop 56 = .ok (.invokevirtual 193, 3) := by decide +kernel
theorem dX6_stop_59 : decode cX6_stop 59 = .ok (.aload_n 0, 1) := by decide +kernel
theorem dX6_stop_60 : decode cX6_stop 60 = .ok (.getfield 183, 3) := by decide +kernel
theorem dX6_stop_63 : decode cX6_stop 63 = .ok (.ifCond .le 8, 3) := by decide +kernel
theorem dX6_stop_66 : decode cX6_stop 66 = .ok (.aload_n 0, 1) := by decide +kernel
theorem dX6_stop_67 : decode cX6_stop 67 = .ok (.getfield 183, 3) := by decide +kernel
theorem dX6_stop_70 : decode cX6_stop 70 = .ok (.ireturn, 1) := by decide +kernel
theorem dX6_stop_71 : decode cX6_stop 71 = .ok (.aload_n 0, 1) := by decide +kernel
theorem dX6_stop_72 : decode cX6_stop 72 = .ok (.getfield 22, 3) := by decide +kernel
theorem dX6_stop_75 : decode cX6_stop 75 = .ok (.iload_n 1, 1) := by decide +kernel
theorem dX6_stop_76 : decode cX6_stop 76 = .ok (.iconst 2, 1) := by decide +kernel
theorem dX6_stop_77 : decode cX6_stop 77 = .ok (.iastore, 1) := by decide +kernel
theorem dX6_stop_78 : decode cX6_stop 78 = .ok (.iconst 0, 1) := by decide +kernel
theorem dX6_stop_79 : decode cX6_stop 79 = .ok (.istore_n 2, 1) := by decide +kernel
theorem dX6_stop_80 : decode cX6_stop 80 = .ok (.iload_n 2, 1) := by decide +kernel
theorem dX6_stop_81 : decode cX6_stop 81 = .ok (.bipush 20, 2) := by decide +kernel
theorem dX6_stop_83 : decode cX6_stop 83 = .ok (.if_icmp .ge 39, 3) := by decide +kernel
theorem dX6_stop_86 : decode cX6_stop 86 = .ok (.aload_n 0, 1) := by decide +kernel
theorem dX6_stop_87 : decode cX6_stop 87 = .ok (.getfield 53, 3) := by decide +kernel
theorem dX6_stop_90 : decode cX6_stop 90 = .ok (.iload_n 2, 1) := by decide +kernel
theorem dX6_stop_91 : decode cX6_stop 91 = .ok (.aload_n 0, 1) := by decide +kernel
theorem dX6_stop_92 : decode cX6_stop 92 = .ok (.getfield 53, 3) := by decide +kernel
theorem dX6_stop_95 : decode cX6_stop 95 = .ok (.iload_n 2, 1) := by decide +kernel
theorem dX6_stop_96 : decode cX6_stop 96 = .ok (.baload, 1) := by decide +kernel
theorem dX6_stop_97 : decode cX6_stop 97 = .ok (.ifCond .eq 17, 3) := by decide +kernel
theorem dX6_stop_100 : decode cX6_stop 100 = .ok (.aload_n 0, 1) := by decide +kernel
theorem dX6_stop_101 : decode cX6_stop 101 = .ok (.getfield 19, 3) := by decide +kernel
theorem dX6_stop_104 : decode cX6_stop 104 = .ok (.iload_n 2, 1) := by decide +kernel
theorem dX6_stop_105 : decode cX6_stop 105 = .ok (.iaload, 1) := by decide +kernel
theorem dX6_stop_106 : decode cX6_stop 106 = .ok (.iload_n 1, 1) := by decide +kernel
theorem dX6_stop_107 : decode cX6_stop 107 = .ok (.if_icmp .eq 7, 3) := by decide +kernel
theorem dX6_stop_110 : decode cX6_stop 110 = .ok (.iconst 1, 1) := by decide +kernel
theorem dX6_stop_111 : decode cX6_stop 111 = .ok (.goto 4, 3) := by decide +kernel
theorem dX6_stop_114 : decode cX6_stop 114 = .ok (.iconst 0, 1) := by decide +kernel
theorem dX6_stop_115 : decode cX6_stop 115 = .ok (.bastore, 1) := by decide +kernel
theorem dX6_stop_116 : decode cX6_stop 116 = .ok (.iinc 2 1, 3) := by decide +kernel
theorem dX6_stop_119 : decode cX6_stop 119 = .ok (.goto (-39), 3) := by decide +kernel
theorem dX6_stop_122 : decode cX6_stop 122 = .ok (.iconst 0, 1) := by decide +kernel
theorem dX6_stop_123 : decode cX6_stop 123 = .ok (.ireturn, 1) := by decide +kernel
theorem dX6_belonging_0 : decode cX6_belonging 0 = .ok (.iconst 0, 1) := by decide +kernel
theorem dX6_belonging_1 : decode cX6_belonging 1 = .ok (.istore_n 2, 1) := by decide +kernel
theorem dX6_belonging_2 : decode cX6_belonging 2 = .ok (.iconst 0, 1) := by decide +kernel
theorem dX6_belonging_3 : decode cX6_belonging 3 = .ok (.istore_n 3, 1) := by decide +kernel
theorem dX6_belonging_4 : decode cX6_belonging 4 = .ok (.iload_n 3, 1) := by decide +kernel
theorem dX6_belonging_5 : decode cX6_belonging 5 = .ok (.bipush 20, 2) := by decide +kernel
theorem dX6_belonging_7 : decode cX6_belonging 7 = .ok (.if_icmp .ge 37, 3) := by decide +kernel
theorem dX6_belonging_10 : decode cX6_belonging 10 = .ok (.aload_n 0, 1) := by decide +kernel
theorem dX6_belonging_11 : decode cX6_belonging 11 = .ok (.getfield 16, 3) := by decide +kernel
theorem dX6_belonging_14 : decode cX6_belonging 14 = .ok (.iload_n 3, 1) := by decide +kernel
theorem dX6_belonging_15 : decode cX6_belonging 15 = .ok (.iaload, 1) := by decide +kernel
theorem dX6_belonging_16 : decode cX6_belonging 16 = .ok (.iconst 1, 1) := by decide +kernel
theorem dX6_belonging_17 : decode cX6_belonging 17 = .ok (.if_icmp .le 19, 3) := by decide +kernel
theorem dX6_belonging_20 : decode cX6_belonging 20 = .ok (.aload_n 0, 1) := by decide +kernel
theorem dX6_belonging_21 : decode cX6_belonging 21 = .ok (.getfield 19, 3) := by decide +kernel
theorem dX6_belonging_24 : decode cX6_belonging 24 = .ok (.iload_n 3, 1) := by decide +kernel
theorem dX6_belonging_25 : decode cX6_belonging 25 = .ok (.iaload, 1) := by decide +kernel
theorem dX6_belonging_26 : decode cX6_belonging 26 = .ok (.iload_n 1, 1) := by decide +kernel
theorem dX6_belonging_27 : decode cX6_belonging 27 = .ok (.if_icmp .ne 9, 3) := by decide +kernel
theorem dX6_belonging_30 : decode cX6_belonging 30 = .ok (.iload_n 2, 1) := by decide +kernel
theorem dX6_belonging_31 : decode cX6_belonging 31 = .ok (.iconst 1, 1) := by decide +kernel
theorem dX6_belonging_32 : decode cX6_belonging 32 = .ok (.iadd, 1) := by decide +kernel
theorem dX6_belonging_33 : decode cX6_belonging 33 = .ok (.goto 4, 3) := by decide +kernel
theorem dX6_belonging_36 : decode cX6_belonging 36 = .ok (.iload_n 2, 1) := by decide +kernel
theorem dX6_belonging_37 : decode cX6_belonging 37 = .ok (.istore_n 2, 1) := by decide +kernel
theorem dX6_belonging_38 : decode cX6_belonging 38 = .ok (.iinc 3 1, 3) := by decide +kernel
theorem dX6_belonging_41 : decode cX6_belonging 41 = .ok (.goto (-37), 3) := by decide +kernel
theorem dX6_belonging_44 : decode cX6_belonging 44 = .ok (.iload_n 2, 1) := by decide +kernel
theorem dX6_belonging_45 : decode cX6_belonging 45 = .ok (.ireturn, 1) := by decide +kernel
set_option maxRecDepth 20000 in
theorem ggX6_remove_X6_begin : GoodIn wsX6_remove wsX6_begin := goodIn_r _ [10, 11, 1, 31, 32, 33, 34, 35, 36, 37, 38, 39, 40, 41, 42, 43, 44, 45, 46, 47, 48, 49, 50, 51, 52, 53, 54, 55, 56, 57, 58, 59, 60, 61, 62] (by decide +kernel) (by decide +kernel)
set_option maxRecDepth 20000 in
theorem gX6_remove_X6_begin : GoodIn wsX6_remove (wsV RX6 203 RX6 yX6_begin wsX6_begin) := goodIn_app (goodIn_of _ (by decide +kernel)) ggX6_remove_X6_begin
set_option maxRecDepth 20000 in
theorem ggX6_remove_X6_noPage : GoodIn wsX6_remove wsX6_noPage := goodIn_r _ [14] (by decide +kernel) (by decide +kernel)
set_option maxRecDepth 20000 in
theorem gX6_remove_X6_noPage : GoodIn wsX6_remove (va_wsS RX6 186 yX6_noPage wsX6_noPage) := goodIn_app (goodIn_of _ (by decide +kernel)) ggX6_remove_X6_noPage
set_option maxRecDepth 20000 in
theorem ggX6_remove_X6_wrong : GoodIn wsX6_remove wsX6_wrong := goodIn_r _ [18, 1, 31, 32, 33, 34, 35, 36, 37, 38, 39, 40, 41, 42, 43, 44, 45, 46, 47, 48, 49, 50, 51, 52, 53, 54, 55, 56, 57, 58, 59, 60, 61, 62] (by decide +kernel) (by decide +kernel)
set_option maxRecDepth 20000 in
theorem gX6_remove_X6_wrong : GoodIn wsX6_remove (wsV RX6 193 RX6 yX6_wrong wsX6_wrong) := goodIn_app (goodIn_of _ (by decide +kernel)) ggX6_remove_X6_wrong
set_option maxRecDepth 20000 in
theorem ggX6_remove_X6_isKind : GoodIn wsX6_remove wsX6_isKind := goodIn_r _ [22, 2, 12, 13, 9, 14, 31, 32, 33, 34, 35, 36, 37, 38, 39, 40, 41, 42, 43, 44, 45, 46, 47, 48, 49, 50, 51, 52, 53, 54, 55, 56, 57, 58, 59, 60, 61, 62] (by decide +kernel) (by decide +kernel)
set_option maxRecDepth 20000 in
theorem gX6_remove_X6_isKind : GoodIn wsX6_remove (wsV RX6 189 RX6 yX6_isKind wsX6_isKind) := goodIn_app (goodIn_of _ (by decide +kernel)) ggX6_remove_X6_isKind
set_option maxRecDepth 20000 in
theorem ggX6_remove_X6_belonging : GoodIn wsX6_remove wsX6_belonging := goodIn_r _ [26, 2, 3, 31, 32, 33, 34, 35, 36, 37, 38, 39, 40, 41, 42, 43, 44, 45, 46, 47, 48, 49, 50, 51, 52, 53, 54, 55, 56, 57, 58, 59, 60, 61, 62] (by decide +kernel) (by decide +kernel)
set_option maxRecDepth 20000 in
theorem gX6_remove_X6_belonging : GoodIn wsX6_remove (wsV RX6 227 RX6 yX6_belonging wsX6_belonging) := goodIn_app (goodIn_of _ (by decide +kernel)) ggX6_remove_X6_belonging
set_option maxRecDepth 20000 in
theorem ggX6_remove_X6_become : GoodIn wsX6_remove wsX6_become := goodIn_r _ [30, 2, 3, 31, 32, 33, 34, 35, 36, 37, 38, 39, 40, 41, 42, 43, 44, 45, 46, 47, 48, 49, 50, 51, 52, 53, 54, 55, 56, 57, 58, 59, 60, 61, 62] (by decide +kernel) (by decide +kernel)
set_option maxRecDepth 20000 in
theorem gX6_remove_X6_become : GoodIn wsX6_remove (wsV RX6 209 RX6 yX6_become wsX6_become) := goodIn_app (goodIn_of _ (by decide +kernel)) ggX6_remove_X6_become
theorem dX6_remove_0 : decode cX6_remove 0 = .ok (.aload_n 0, 1) := by decide +kernel
theorem dX6_remove_1 : decode cX6_remove 1 = .ok (.invokevirtual 203, 3) := by decide +kernel
theorem dX6_remove_4 : decode cX6_remove 4 = .ok (.aload_n 0, 1) := by decide +kernel
theorem dX6_remove_5 : decode cX6_remove 5 = .ok (.iload_n 1, 1) := by decide +kernel
theorem dX6_remove_6 : decode cX6_remove 6 = .ok (.invokestatic 186, 3) := by decide +kernel
theorem dX6_remove_9 : decode cX6_remove 9 = .ok (.iconst 1, 1) := by decide +kernel
theorem dX6_remove_10 : decode cX6_remove 10 = .ok (.invokevirtual 193, 3) := by decide +kernel
theorem dX6_remove_13 : decode cX6_remove 13 = .ok (.aload_n 0, 1) := by decide +kernel
theorem dX6_remove_14 : decode cX6_remove 14 = .ok (.aload_n 0, 1) := by decide +kernel
theorem dX6_remove_15 : decode cX6_remove 15 = .ok (.iload_n 1, 1) := by decide +kernel
theorem dX6_remove_16 : decode cX6_remove 16 = .ok (.iconst 0, 1) := by decide +kernel
theorem dX6_remove_17 : decode cX6_remove 17 = .ok (.invokevirtual 189, 3) := by decide +kernel
theorem dX6_remove_20 : decode cX6_remove 20 = .ok (.iconst 3, 1) := by decide +kernel
theorem dX6_remove_21 : decode cX6_remove 21 = .ok (.invokevirtual 193, 3) := by decide +kernel
theorem dX6_remove_24 : decode cX6_remove 24 = .ok (.aload_n 0, 1) := by decide +kernel
theorem dX6_remove_25 : decode cX6_remove 25 = .ok (.getfield 183, 3) := by decide +kernel
theorem dX6_remove_28 : decode cX6_remove 28 = .ok (.ifCond .le 8, 3) := by decide +kernel
theorem dX6_remove_31 : decode cX6_remove 31 = .ok (.aload_n 0, 1) := by decide +kernel
theorem dX6_remove_32 : decode cX6_remove 32 = .ok (.getfield 183, 3) := by decide +kernel
theorem dX6_remove_35 : decode cX6_remove 35 = .ok (.ireturn, 1) := by decide +kernel
theorem dX6_remove_36 : decode cX6_remove 36 = .ok (.aload_n 0, 1) := by decide +kernel
theorem dX6_remove_37 : decode cX6_remove 37 = .ok (.getfield 16, 3) := by decide +kernel
theorem dX6_remove_40 : decode cX6_remove 40 = .ok (.iload_n 1, 1) := by decide +kernel
theorem dX6_remove_41 : decode cX6_remove 41 = .ok (.iaload, 1) := by decide +kernel
theorem dX6_remove_42 : decode cX6_remove 42 = .ok (.iconst 1, 1) := by decide +kernel
theorem dX6_remove_43 : decode cX6_remove 43 = .ok (.if_icmp .ne 7, 3) := by decide +kernel
theorem dX6_remove_46 : decode cX6_remove 46 = .ok (.iload_n 1, 1) := by decide +kernel
theorem dX6_remove_47 : decode cX6_remove 47 = .ok (.goto 9, 3) := by decide +kernel
theorem dX6_remove_50 : decode cX6_remove 50 = .ok (.aload_n 0, 1) := by decide +kernel
theorem dX6_remove_51 : decode cX6_remove 51 = .ok (.getfield 19, 3) := by decide +kernel
theorem dX6_remove_54 : decode cX6_remove 54 = .ok (.iload_n 1, 1) := by decide +kernel
theorem dX6_remove_55 : decode cX6_remove 55 = .ok (.iaload, 1) := by decide +kernel
theorem dX6_remove_56 : decode cX6_remove 56 = .ok (.istore_n 2, 1) := by decide +kernel
theorem dX6_remove_57 : decode cX6_remove 57 = .ok (.aload_n 0, 1) := by decide +kernel
theorem dX6_remove_58 : decode cX6_remove 58 = .ok (.aload_n 0, 1) := by decide +kernel
theorem dX6_remove_59 : decode cX6_remove 59 = .ok (.getfield 16, 3) := by decide +kernel
theorem dX6_remove_62 : decode cX6_remove 62 = .ok (.iload_n 1, 1) := by decide +kernel
theorem dX6_remove_63 : decode cX6_remove 63 = .ok (.iaload, 1) := by decide +kernel
theorem dX6_remove_64 : decode cX6_remove 64 = .ok (.iconst 5, 1) := by decide +kernel
theorem dX6_remove_65 : decode cX6_remove 65 = .ok (.if_icmp .eq 17, 3) := by decide +kernel
theorem dX6_remove_68 : decode cX6_remove 68 = .ok (.aload_n 0, 1) := by decide +kernel
theorem dX6_remove_69 : decode cX6_remove 69 = .ok (.getfield 22, 3) := by decide +kernel
theorem dX6_remove_72 : decode cX6_remove 72 = .ok (.iload_n 2, 1) := by decide +kernel
theorem dX6_remove_73 : decode cX6_remove 73 = .ok (.iaload, 1) := by decide +kernel
theorem dX6_remove_74 : decode cX6_remove 74 = .ok (.iconst 2, 1) := by decide +kernel
theorem dX6_remove_75 : decode cX6_remove 75 = .ok (.if_icmp .eq 7, 3) := by decide +kernel
theorem dX6_remove_78 : decode cX6_remove 78 = .ok (.iconst 1, 1) := by decide +kernel
theorem dX6_remove_79 : decode cX6_remove 79 = .ok (.goto 4, 3) := by decide +kernel
theorem dX6_remove_82 : decode cX6_remove 82 = .ok (.iconst 0, 1) := by decide +kernel
theorem dX6_remove_83 : decode cX6_remove 83 = .ok (.iconst 4, 1) := by decide +kernel
end
section
theorem dX6_remove_84 : decode cX6_remove 84 = .ok (.invokevirtual 193, 3) := by decide +kernel
theorem dX6_remove_87 : decode cX6_remove 87 = .ok (.aload_n 0, 1) := by decide +kernel
theorem dX6_remove_88 : decode cX6_remove 88 = .ok (.aload_n 0, 1) := by decide +kernel
theorem dX6_remove_89 : decode cX6_remove 89 = .ok (.getfield 16, 3) := by decide +kernel
theorem dX6_remove_92 : decode cX6_remove 92 = .ok (.iload_n 1, 1) := by decide +kernel
theorem dX6_remove_93 : decode cX6_remove 93 = .ok (.iaload, 1) := by decide +kernel
theorem dX6_remove_94 : decode cX6_remove 94 = .ok (.iconst 1, 1) := by decide +kernel
theorem dX6_remove_95 : decode cX6_remove 95 = .ok (.if_icmp .ne 15, 3) := by decide +kernel
theorem dX6_remove_98 : decode cX6_remove 98 = .ok (.aload_n 0, 1) := by decide +kernel
theorem dX6_remove_99 : decode cX6_remove 99 = .ok (.iload_n 1, 1) := by decide +kernel
theorem dX6_remove_100 : decode cX6_remove 100 = .ok (.invokevirtual 227, 3) := by decide +kernel
theorem dX6_remove_103 : decode cX6_remove 103 = .ok (.ifCond .le 7, 3) := by decide +kernel
theorem dX6_remove_106 : decode cX6_remove 106 = .ok (.iconst 1, 1) := by decide +kernel
theorem dX6_remove_107 : decode cX6_remove 107 = .ok (.goto 4, 3) := by decide +kernel
theorem dX6_remove_110 : decode cX6_remove 110 = .ok (.iconst 0, 1) := by decide +kernel
theorem dX6_remove_111 : decode cX6_remove 111 = .ok (.bipush 7, 2) := by decide +kernel
theorem dX6_remove_113 : decode cX6_remove 113 = .ok (.invokevirtual 193, 3) := by decide +kernel
theorem dX6_remove_116 : decode cX6_remove 116 = .ok (.aload_n 0, 1) := by decide +kernel
theorem dX6_remove_117 : decode cX6_remove 117 = .ok (.getfield 183, 3) := by decide +kernel
theorem dX6_remove_120 : decode cX6_remove 120 = .ok (.ifCond .ne 17, 3) := by decide +kernel
theorem dX6_remove_123 : decode cX6_remove 123 = .ok (.aload_n 0, 1) := by decide +kernel
theorem dX6_remove_124 : decode cX6_remove 124 = .ok (.iload_n 1, 1) := by decide +kernel
theorem dX6_remove_125 : decode cX6_remove 125 = .ok (.iconst 0, 1) := by decide +kernel
theorem dX6_remove_126 : decode cX6_remove 126 = .ok (.iconst (-1), 1) := by decide +kernel
theorem dX6_remove_127 : decode cX6_remove 127 = .ok (.invokevirtual 209, 3) := by decide +kernel
theorem dX6_remove_130 : decode cX6_remove 130 = .ok (.aload_n 0, 1) := by decide +kernel
theorem dX6_remove_131 : decode cX6_remove 131 = .ok (.getfield 53, 3) := by decide +kernel
theorem dX6_remove_134 : decode cX6_remove 134 = .ok (.iload_n 1, 1) := by decide +kernel
theorem dX6_remove_135 : decode cX6_remove 135 = .ok (.iconst 0, 1) := by decide +kernel
theorem dX6_remove_136 : decode cX6_remove 136 = .ok (.bastore, 1) := by decide +kernel
theorem dX6_remove_137 : decode cX6_remove 137 = .ok (.aload_n 0, 1) := by decide +kernel
theorem dX6_remove_138 : decode cX6_remove 138 = .ok (.getfield 183, 3) := by decide +kernel
theorem dX6_remove_141 : decode cX6_remove 141 = .ok (.ireturn, 1) := by decide +kernel
set_option maxRecDepth 20000 in
theorem ggX6_lies_X6_tableOf : GoodIn wsX6_lies wsX6_tableOf := goodIn_r _ [8, 9, 14, 15, 16, 17, 18, 19, 20, 21, 22, 23, 24, 25, 26, 27, 28, 29, 30, 31, 32, 33, 34, 35, 36, 37, 38, 39, 40, 41, 42, 43, 44, 45] (by decide +kernel) (by decide +kernel)
set_option maxRecDepth 20000 in
theorem gX6_lies_X6_tableOf : GoodIn wsX6_lies (wsV RX6 197 RX6 yX6_tableOf wsX6_tableOf) := goodIn_app (goodIn_of _ (by decide +kernel)) ggX6_lies_X6_tableOf
set_option maxRecDepth 20000 in
theorem ggX6_lies_X6_entryOf : GoodIn wsX6_lies wsX6_entryOf := goodIn_r _ [13, 4, 5, 6, 7, 8, 9, 14, 15, 16, 17, 18, 19, 20, 21, 22, 23, 24, 25, 26, 27, 28, 29, 30, 31, 32, 33, 34, 35, 36, 37, 38, 39, 40, 41, 42, 43, 44, 45] (by decide +kernel) (by decide +kernel)
set_option maxRecDepth 20000 in
theorem gX6_lies_X6_entryOf : GoodIn wsX6_lies (wsV RX6 200 RX6 yX6_entryOf wsX6_entryOf) := goodIn_app (goodIn_of _ (by decide +kernel)) ggX6_lies_X6_entryOf
theorem dX6_lies_0 : decode cX6_lies 0 = .ok (.iload_n 1, 1) := by decide +kernel
theorem dX6_lies_1 : decode cX6_lies 1 = .ok (.ifCond .lt 25, 3) := by decide +kernel
theorem dX6_lies_4 : decode cX6_lies 4 = .ok (.iload_n 1, 1) := by decide +kernel
theorem dX6_lies_5 : decode cX6_lies 5 = .ok (.sipush 511, 3) := by decide +kernel
theorem dX6_lies_8 : decode cX6_lies 8 = .ok (.if_icmp .gt 18, 3) := by decide +kernel
theorem dX6_lies_11 : decode cX6_lies 11 = .ok (.aload_n 0, 1) := by decide +kernel
theorem dX6_lies_12 : decode cX6_lies 12 = .ok (.aload_n 0, 1) := by decide +kernel
theorem dX6_lies_13 : decode cX6_lies 13 = .ok (.getfield 231, 3) := by decide +kernel
theorem dX6_lies_16 : decode cX6_lies 16 = .ok (.iload_n 1, 1) := by decide +kernel
theorem dX6_lies_17 : decode cX6_lies 17 = .ok (.bipush 16, 2) := by decide +kernel
theorem dX6_lies_19 : decode cX6_lies 19 = .ok (.idiv, 1) := by decide +kernel
theorem dX6_lies_20 : decode cX6_lies 20 = .ok (.invokevirtual 197, 3) := by decide +kernel
theorem dX6_lies_23 : decode cX6_lies 23 = .ok (.ifCond .ge 5, 3) := by decide +kernel
theorem dX6_lies_26 : decode cX6_lies 26 = .ok (.iconst (-1), 1) := by decide +kernel
theorem dX6_lies_27 : decode cX6_lies 27 = .ok (.ireturn, 1) := by decide +kernel
theorem dX6_lies_28 : decode cX6_lies 28 = .ok (.aload_n 0, 1) := by decide +kernel
theorem dX6_lies_29 : decode cX6_lies 29 = .ok (.aload_n 0, 1) := by decide +kernel
theorem dX6_lies_30 : decode cX6_lies 30 = .ok (.getfield 231, 3) := by decide +kernel
theorem dX6_lies_33 : decode cX6_lies 33 = .ok (.iload_n 1, 1) := by decide +kernel
theorem dX6_lies_34 : decode cX6_lies 34 = .ok (.bipush 16, 2) := by decide +kernel
theorem dX6_lies_36 : decode cX6_lies 36 = .ok (.idiv, 1) := by decide +kernel
theorem dX6_lies_37 : decode cX6_lies 37 = .ok (.invokevirtual 200, 3) := by decide +kernel
theorem dX6_lies_40 : decode cX6_lies 40 = .ok (.istore_n 3, 1) := by decide +kernel
theorem dX6_lies_41 : decode cX6_lies 41 = .ok (.aload_n 0, 1) := by decide +kernel
theorem dX6_lies_42 : decode cX6_lies 42 = .ok (.getfield 28, 3) := by decide +kernel
theorem dX6_lies_45 : decode cX6_lies 45 = .ok (.iload_n 3, 1) := by decide +kernel
theorem dX6_lies_46 : decode cX6_lies 46 = .ok (.iaload, 1) := by decide +kernel
theorem dX6_lies_47 : decode cX6_lies 47 = .ok (.ifCond .eq 15, 3) := by decide +kernel
theorem dX6_lies_50 : decode cX6_lies 50 = .ok (.aload_n 0, 1) := by decide +kernel
theorem dX6_lies_51 : decode cX6_lies 51 = .ok (.getfield 31, 3) := by decide +kernel
theorem dX6_lies_54 : decode cX6_lies 54 = .ok (.iload_n 3, 1) := by decide +kernel
theorem dX6_lies_55 : decode cX6_lies 55 = .ok (.iaload, 1) := by decide +kernel
theorem dX6_lies_56 : decode cX6_lies 56 = .ok (.iload_n 2, 1) := by decide +kernel
theorem dX6_lies_57 : decode cX6_lies 57 = .ok (.iand, 1) := by decide +kernel
theorem dX6_lies_58 : decode cX6_lies 58 = .ok (.iload_n 2, 1) := by decide +kernel
theorem dX6_lies_59 : decode cX6_lies 59 = .ok (.if_icmp .eq 5, 3) := by decide +kernel
theorem dX6_lies_62 : decode cX6_lies 62 = .ok (.iconst (-1), 1) := by decide +kernel
theorem dX6_lies_63 : decode cX6_lies 63 = .ok (.ireturn, 1) := by decide +kernel
theorem dX6_lies_64 : decode cX6_lies 64 = .ok (.aload_n 0, 1) := by decide +kernel
theorem dX6_lies_65 : decode cX6_lies 65 = .ok (.getfield 28, 3) := by decide +kernel
theorem dX6_lies_68 : decode cX6_lies 68 = .ok (.iload_n 3, 1) := by decide +kernel
theorem dX6_lies_69 : decode cX6_lies 69 = .ok (.iaload, 1) := by decide +kernel
theorem dX6_lies_70 : decode cX6_lies 70 = .ok (.ifCond .le 22, 3) := by decide +kernel
theorem dX6_lies_73 : decode cX6_lies 73 = .ok (.bipush 16, 2) := by decide +kernel
theorem dX6_lies_75 : decode cX6_lies 75 = .ok (.aload_n 0, 1) := by decide +kernel
theorem dX6_lies_76 : decode cX6_lies 76 = .ok (.getfield 28, 3) := by decide +kernel
theorem dX6_lies_79 : decode cX6_lies 79 = .ok (.iload_n 3, 1) := by decide +kernel
theorem dX6_lies_80 : decode cX6_lies 80 = .ok (.iaload, 1) := by decide +kernel
theorem dX6_lies_81 : decode cX6_lies 81 = .ok (.iconst 1, 1) := by decide +kernel
theorem dX6_lies_82 : decode cX6_lies 82 = .ok (.isub, 1) := by decide +kernel
theorem dX6_lies_83 : decode cX6_lies 83 = .ok (.imul, 1) := by decide +kernel
theorem dX6_lies_84 : decode cX6_lies 84 = .ok (.iload_n 1, 1) := by decide +kernel
theorem dX6_lies_85 : decode cX6_lies 85 = .ok (.bipush 16, 2) := by decide +kernel
theorem dX6_lies_87 : decode cX6_lies 87 = .ok (.irem, 1) := by decide +kernel
theorem dX6_lies_88 : decode cX6_lies 88 = .ok (.iadd, 1) := by decide +kernel
theorem dX6_lies_89 : decode cX6_lies 89 = .ok (.goto 24, 3) := by decide +kernel
theorem dX6_lies_92 : decode cX6_lies 92 = .ok (.sipush 320, 3) := by decide +kernel
theorem dX6_lies_95 : decode cX6_lies 95 = .ok (.bipush 16, 2) := by decide +kernel
theorem dX6_lies_97 : decode cX6_lies 97 = .ok (.aload_n 0, 1) := by decide +kernel
theorem dX6_lies_98 : decode cX6_lies 98 = .ok (.getfield 28, 3) := by decide +kernel
theorem dX6_lies_101 : decode cX6_lies 101 = .ok (.iload_n 3, 1) := by decide +kernel
theorem dX6_lies_102 : decode cX6_lies 102 = .ok (.iaload, 1) := by decide +kernel
theorem dX6_lies_103 : decode cX6_lies 103 = .ok (.ineg, 1) := by decide +kernel
theorem dX6_lies_104 : decode cX6_lies 104 = .ok (.iconst 1, 1) := by decide +kernel
theorem dX6_lies_105 : decode cX6_lies 105 = .ok (.isub, 1) := by decide +kernel
theorem dX6_lies_106 : decode cX6_lies 106 = .ok (.imul, 1) := by decide +kernel
theorem dX6_lies_107 : decode cX6_lies 107 = .ok (.iadd, 1) := by decide +kernel
theorem dX6_lies_108 : decode cX6_lies 108 = .ok (.iload_n 1, 1) := by decide +kernel
theorem dX6_lies_109 : decode cX6_lies 109 = .ok (.bipush 16, 2) := by decide +kernel
theorem dX6_lies_111 : decode cX6_lies 111 = .ok (.irem, 1) := by decide +kernel
theorem dX6_lies_112 : decode cX6_lies 112 = .ok (.iadd, 1) := by decide +kernel
theorem dX6_lies_113 : decode cX6_lies 113 = .ok (.ireturn, 1) := by decide +kernel
set_option maxRecDepth 20000 in
theorem ggX6_load_X6_lies : GoodIn wsX6_load wsX6_lies := goodIn_r _ [8, 9, 10, 11, 12, 13, 14, 7, 15, 16, 17, 18, 19, 20, 21, 22, 23, 24, 25, 26, 27, 28, 29, 30, 31, 32, 33, 34, 35, 36, 37, 38, 39, 40, 41, 42, 43, 44, 45, 46, 47, 48, 49, 50, 51, 52] (by decide +kernel) (by decide +kernel)
set_option maxRecDepth 20000 in
theorem gX6_load_X6_lies : GoodIn wsX6_load (wsV RX6 234 RX6 yX6_lies wsX6_lies) := goodIn_app (goodIn_of _ (by decide +kernel)) ggX6_load_X6_lies
theorem dX6_load_0 : decode cX6_load 0 = .ok (.aload_n 0, 1) := by decide +kernel
theorem dX6_load_1 : decode cX6_load 1 = .ok (.iload_n 1, 1) := by decide +kernel
theorem dX6_load_2 : decode cX6_load 2 = .ok (.iconst 1, 1) := by decide +kernel
theorem dX6_load_3 : decode cX6_load 3 = .ok (.invokevirtual 234, 3) := by decide +kernel
theorem dX6_load_6 : decode cX6_load 6 = .ok (.istore_n 2, 1) := by decide +kernel
theorem dX6_load_7 : decode cX6_load 7 = .ok (.iload_n 2, 1) := by decide +kernel
theorem dX6_load_8 : decode cX6_load 8 = .ok (.ifCond .ge 24, 3) := by decide +kernel
theorem dX6_load_11 : decode cX6_load 11 = .ok (.aload_n 0, 1) := by decide +kernel
theorem dX6_load_12 : decode cX6_load 12 = .ok (.aload_n 0, 1) := by decide +kernel
theorem dX6_load_13 : decode cX6_load 13 = .ok (.getfield 237, 3) := by decide +kernel
theorem dX6_load_16 : decode cX6_load 16 = .ok (.ifCond .ne 7, 3) := by decide +kernel
theorem dX6_load_19 : decode cX6_load 19 = .ok (.iconst 2, 1) := by decide +kernel
theorem dX6_load_20 : decode cX6_load 20 = .ok (.goto 7, 3) := by decide +kernel
theorem dX6_load_23 : decode cX6_load 23 = .ok (.aload_n 0, 1) := by decide +kernel
theorem dX6_load_24 : decode cX6_load 24 = .ok (.getfield 237, 3) := by decide +kernel
theorem dX6_load_27 : decode cX6_load 27 = .ok (.putfield 237, 3) := by decide +kernel
theorem dX6_load_30 : decode cX6_load 30 = .ok (.iconst 0, 1) := by decide +kernel
theorem dX6_load_31 : decode cX6_load 31 = .ok (.ireturn, 1) := by decide +kernel
theorem dX6_load_32 : decode cX6_load 32 = .ok (.iload_n 2, 1) := by decide +kernel
theorem dX6_load_33 : decode cX6_load 33 = .ok (.sipush 320, 3) := by decide +kernel
theorem dX6_load_36 : decode cX6_load 36 = .ok (.if_icmp .ge 12, 3) := by decide +kernel
theorem dX6_load_39 : decode cX6_load 39 = .ok (.aload_n 0, 1) := by decide +kernel
theorem dX6_load_40 : decode cX6_load 40 = .ok (.getfield 25, 3) := by decide +kernel
theorem dX6_load_43 : decode cX6_load 43 = .ok (.iload_n 2, 1) := by decide +kernel
theorem dX6_load_44 : decode cX6_load 44 = .ok (.iaload, 1) := by decide +kernel
theorem dX6_load_45 : decode cX6_load 45 = .ok (.goto 13, 3) := by decide +kernel
theorem dX6_load_48 : decode cX6_load 48 = .ok (.aload_n 0, 1) := by decide +kernel
theorem dX6_load_49 : decode cX6_load 49 = .ok (.getfield 13, 3) := by decide +kernel
theorem dX6_load_52 : decode cX6_load 52 = .ok (.iload_n 2, 1) := by decide +kernel
theorem dX6_load_53 : decode cX6_load 53 = .ok (.sipush 320, 3) := by decide +kernel
theorem dX6_load_56 : decode cX6_load 56 = .ok (.isub, 1) := by decide +kernel
theorem dX6_load_57 : decode cX6_load 57 = .ok (.iaload, 1) := by decide +kernel
theorem dX6_load_58 : decode cX6_load 58 = .ok (.ireturn, 1) := by decide +kernel
set_option maxRecDepth 20000 in
theorem ggX6_store_X6_lies : GoodIn wsX6_store wsX6_lies := goodIn_r _ [8, 9, 10, 11, 12, 13, 14, 7, 15, 16, 17, 18, 19, 20, 21, 22, 23, 24, 25, 26, 27, 28, 29, 30, 31, 32, 33, 34, 35, 36, 37, 38, 39, 40, 41, 42, 43, 44, 45, 46, 47, 48, 49, 50, 51, 52] (by decide +kernel) (by decide +kernel)
set_option maxRecDepth 20000 in
theorem gX6_store_X6_lies : GoodIn wsX6_store (wsV RX6 234 RX6 yX6_lies wsX6_lies) := goodIn_app (goodIn_of _ (by decide +kernel)) ggX6_store_X6_lies
theorem dX6_store_0 : decode cX6_store 0 = .ok (.aload_n 0, 1) := by decide +kernel
theorem dX6_store_1 : decode cX6_store 1 = .ok (.iload_n 1, 1) := by decide +kernel
theorem dX6_store_2 : decode cX6_store 2 = .ok (.iconst 2, 1) := by decide +kernel
theorem dX6_store_3 : decode cX6_store 3 = .ok (.invokevirtual 234, 3) := by decide +kernel
theorem dX6_store_6 : decode cX6_store 6 = .ok (.istore_n 3, 1) := by decide +kernel
theorem dX6_store_7 : decode cX6_store 7 = .ok (.iload_n 3, 1) := by decide +kernel
theorem dX6_store_8 : decode cX6_store 8 = .ok (.ifCond .ge 25, 3) := by decide +kernel
theorem dX6_store_11 : decode cX6_store 11 = .ok (.aload_n 0, 1) := by decide +kernel
theorem dX6_store_12 : decode cX6_store 12 = .ok (.aload_n 0, 1) := by decide +kernel
theorem dX6_store_13 : decode cX6_store 13 = .ok (.getfield 237, 3) := by decide +kernel
theorem dX6_store_16 : decode cX6_store 16 = .ok (.ifCond .ne 7, 3) := by decide +kernel
theorem dX6_store_19 : decode cX6_store 19 = .ok (.iconst 3, 1) := by decide +kernel
theorem dX6_store_20 : decode cX6_store 20 = .ok (.goto 7, 3) := by decide +kernel
theorem dX6_store_23 : decode cX6_store 23 = .ok (.aload_n 0, 1) := by decide +kernel
theorem dX6_store_24 : decode cX6_store 24 = .ok (.getfield 237, 3) := by decide +kernel
theorem dX6_store_27 : decode cX6_store 27 = .ok (.putfield 237, 3) := by decide +kernel
theorem dX6_store_30 : decode cX6_store 30 = .ok (.goto 31, 3) := by decide +kernel
theorem dX6_store_33 : decode cX6_store 33 = .ok (.iload_n 3, 1) := by decide +kernel
theorem dX6_store_34 : decode cX6_store 34 = .ok (.sipush 320, 3) := by decide +kernel
theorem dX6_store_37 : decode cX6_store 37 = .ok (.if_icmp .ge 13, 3) := by decide +kernel
theorem dX6_store_40 : decode cX6_store 40 = .ok (.aload_n 0, 1) := by decide +kernel
theorem dX6_store_41 : decode cX6_store 41 = .ok (.getfield 25, 3) := by decide +kernel
theorem dX6_store_44 : decode cX6_store 44 = .ok (.iload_n 3, 1) := by decide +kernel
theorem dX6_store_45 : decode cX6_store 45 = .ok (.iload_n 2, 1) := by decide +kernel
theorem dX6_store_46 : decode cX6_store 46 = .ok (.iastore, 1) := by decide +kernel
theorem dX6_store_47 : decode cX6_store 47 = .ok (.goto 14, 3) := by decide +kernel
theorem dX6_store_50 : decode cX6_store 50 = .ok (.aload_n 0, 1) := by decide +kernel
theorem dX6_store_51 : decode cX6_store 51 = .ok (.getfield 13, 3) := by decide +kernel
theorem dX6_store_54 : decode cX6_store 54 = .ok (.iload_n 3, 1) := by decide +kernel
theorem dX6_store_55 : decode cX6_store 55 = .ok (.sipush 320, 3) := by decide +kernel
theorem dX6_store_58 : decode cX6_store 58 = .ok (.isub, 1) := by decide +kernel
theorem dX6_store_59 : decode cX6_store 59 = .ok (.iload_n 2, 1) := by decide +kernel
theorem dX6_store_60 : decode cX6_store 60 = .ok (.iastore, 1) := by decide +kernel
theorem dX6_store_61 : decode cX6_store 61 = .ok (.return_, 1) := by decide +kernel
set_option maxRecDepth 20000 in
theorem ggX6_vouch_X6_load : GoodIn wsX6_vouch wsX6_load := goodIn_r _ [10, 2, 11, 12, 13, 14, 15, 9, 16, 4, 17, 18, 19, 20, 21, 22, 23, 24, 25, 26, 27, 53, 54, 55, 56, 57, 58, 59, 60, 61, 62, 63, 64, 65, 66, 67, 68, 69, 70, 71, 72, 73, 74, 75, 76, 77, 78, 79, 80, 81, 82, 83, 84] (by decide +kernel) (by decide +kernel)
set_option maxRecDepth 20000 in
theorem gX6_vouch_X6_load : GoodIn wsX6_vouch (wsV RX6 240 RX6 yX6_load wsX6_load) := goodIn_app (goodIn_of _ (by decide +kernel)) ggX6_vouch_X6_load
set_option maxRecDepth 20000 in
theorem ggX6_vouch_X6_lies : GoodIn wsX6_vouch wsX6_lies := goodIn_r _ [16, 4, 17, 18, 19, 20, 21, 9, 22, 23, 24, 25, 26, 27, 53, 54, 55, 56, 57, 58, 59, 60, 61, 62, 63, 64, 65, 66, 67, 68, 69, 70, 71, 72, 73, 74, 75, 76, 77, 78, 79, 80, 81, 82, 83, 84] (by decide +kernel) (by decide +kernel)
set_option maxRecDepth 20000 in
theorem gX6_vouch_X6_lies : GoodIn wsX6_vouch (wsV RX6 234 RX6 yX6_lies wsX6_lies) := goodIn_app (goodIn_of _ (by decide +kernel)) ggX6_vouch_X6_lies
set_option maxRecDepth 20000 in
theorem ggX6_vouch_X6_voucher : GoodIn wsX6_vouch wsX6_voucher := goodIn_r _ [31, 1, 32, 33, 34, 35, 9, 36, 5, 37, 38, 39, 40, 41, 42, 43, 44, 45, 46, 47, 48, 53, 54, 55, 56, 57, 58, 59, 60, 61, 62, 63, 64, 65, 66, 67, 68, 69, 70, 71, 72, 73, 74, 75, 76, 77, 78, 79, 80, 81, 82, 83, 84] (by decide +kernel) (by decide +kernel)
set_option maxRecDepth 20000 in
theorem gX6_vouch_X6_voucher : GoodIn wsX6_vouch (wsV RX6 243 RX6 yX6_voucher wsX6_voucher) := goodIn_app (goodIn_of _ (by decide +kernel)) ggX6_vouch_X6_voucher
set_option maxRecDepth 20000 in
theorem ggX6_vouch_X6_store : GoodIn wsX6_vouch wsX6_store := goodIn_r _ [52, 2, 11, 12, 13, 14, 15, 9, 16, 4, 17, 18, 19, 20, 21, 22, 23, 24, 25, 26, 27, 53, 54, 55, 56, 57, 58, 59, 60, 61, 62, 63, 64, 65, 66, 67, 68, 69, 70, 71, 72, 73, 74, 75, 76, 77, 78, 79, 80, 81, 82, 83, 84] (by decide +kernel) (by decide +kernel)
set_option maxRecDepth 20000 in
theorem gX6_vouch_X6_store : GoodIn wsX6_vouch (wsV RX6 247 RX6 yX6_store wsX6_store) := goodIn_app (goodIn_of _ (by decide +kernel)) ggX6_vouch_X6_store
theorem dX6_vouch_0 : decode cX6_vouch 0 = .ok (.iconst 0, 1) := by decide +kernel
theorem dX6_vouch_1 : decode cX6_vouch 1 = .ok (.istore_n 3, 1) := by decide +kernel
theorem dX6_vouch_2 : decode cX6_vouch 2 = .ok (.iload_n 3, 1) := by decide +kernel
theorem dX6_vouch_3 : decode cX6_vouch 3 = .ok (.bipush 8, 2) := by decide +kernel
theorem dX6_vouch_5 : decode cX6_vouch 5 = .ok (.if_icmp .ge 25, 3) := by decide +kernel
theorem dX6_vouch_8 : decode cX6_vouch 8 = .ok (.aload_n 0, 1) := by decide +kernel
theorem dX6_vouch_9 : decode cX6_vouch 9 = .ok (.getfield 140, 3) := by decide +kernel
theorem dX6_vouch_12 : decode cX6_vouch 12 = .ok (.bipush 16, 2) := by decide +kernel
theorem dX6_vouch_14 : decode cX6_vouch 14 = .ok (.iload_n 3, 1) := by decide +kernel
theorem dX6_vouch_15 : decode cX6_vouch 15 = .ok (.iadd, 1) := by decide +kernel
theorem dX6_vouch_16 : decode cX6_vouch 16 = .ok (.aload_n 0, 1) := by decide +kernel
theorem dX6_vouch_17 : decode cX6_vouch 17 = .ok (.iload_n 1, 1) := by decide +kernel
theorem dX6_vouch_18 : decode cX6_vouch 18 = .ok (.iload_n 3, 1) := by decide +kernel
theorem dX6_vouch_19 : decode cX6_vouch 19 = .ok (.iadd, 1) := by decide +kernel
theorem dX6_vouch_20 : decode cX6_vouch 20 = .ok (.invokevirtual 240, 3) := by decide +kernel
theorem dX6_vouch_23 : decode cX6_vouch 23 = .ok (.iastore, 1) := by decide +kernel
theorem dX6_vouch_24 : decode cX6_vouch 24 = .ok (.iinc 3 1, 3) := by decide +kernel
theorem dX6_vouch_27 : decode cX6_vouch 27 = .ok (.goto (-25), 3) := by decide +kernel
theorem dX6_vouch_30 : decode cX6_vouch 30 = .ok (.iconst 0, 1) := by decide +kernel
theorem dX6_vouch_31 : decode cX6_vouch 31 = .ok (.istore_n 3, 1) := by decide +kernel
theorem dX6_vouch_32 : decode cX6_vouch 32 = .ok (.iload_n 3, 1) := by decide +kernel
theorem dX6_vouch_33 : decode cX6_vouch 33 = .ok (.bipush 8, 2) := by decide +kernel
theorem dX6_vouch_35 : decode cX6_vouch 35 = .ok (.if_icmp .ge 32, 3) := by decide +kernel
theorem dX6_vouch_38 : decode cX6_vouch 38 = .ok (.aload_n 0, 1) := by decide +kernel
theorem dX6_vouch_39 : decode cX6_vouch 39 = .ok (.getfield 237, 3) := by decide +kernel
theorem dX6_vouch_42 : decode cX6_vouch 42 = .ok (.ifCond .ne 19, 3) := by decide +kernel
theorem dX6_vouch_45 : decode cX6_vouch 45 = .ok (.aload_n 0, 1) := by decide +kernel
theorem dX6_vouch_46 : decode cX6_vouch 46 = .ok (.iload_n 2, 1) := by decide +kernel
theorem dX6_vouch_47 : decode cX6_vouch 47 = .ok (.iload_n 3, 1) := by decide +kernel
theorem dX6_vouch_48 : decode cX6_vouch 48 = .ok (.iadd, 1) := by decide +kernel
theorem dX6_vouch_49 : decode cX6_vouch 49 = .ok (.iconst 2, 1) := by decide +kernel
theorem dX6_vouch_50 : decode cX6_vouch 50 = .ok (.invokevirtual 234, 3) := by decide +kernel
theorem dX6_vouch_53 : decode cX6_vouch 53 = .ok (.ifCond .ge 8, 3) := by decide +kernel
theorem dX6_vouch_56 : decode cX6_vouch 56 = .ok (.aload_n 0, 1) := by decide +kernel
theorem dX6_vouch_57 : decode cX6_vouch 57 = .ok (.iconst 3, 1) := by decide +kernel
theorem dX6_vouch_58 : decode cX6_vouch 58 = .ok (.putfield 237, 3) := by decide +kernel
theorem dX6_vouch_61 : decode cX6_vouch 61 = .ok (.iinc 3 1, 3) := by decide +kernel
theorem dX6_vouch_64 : decode cX6_vouch 64 = .ok (.goto (-32), 3) := by decide +kernel
theorem dX6_vouch_67 : decode cX6_vouch 67 = .ok (.aload_n 0, 1) := by decide +kernel
theorem dX6_vouch_68 : decode cX6_vouch 68 = .ok (.aload_n 0, 1) := by decide +kernel
theorem dX6_vouch_69 : decode cX6_vouch 69 = .ok (.getfield 43, 3) := by decide +kernel
theorem dX6_vouch_72 : decode cX6_vouch 72 = .ok (.bipush 8, 2) := by decide +kernel
theorem dX6_vouch_74 : decode cX6_vouch 74 = .ok (.aload_n 0, 1) := by decide +kernel
theorem dX6_vouch_75 : decode cX6_vouch 75 = .ok (.getfield 231, 3) := by decide +kernel
theorem dX6_vouch_78 : decode cX6_vouch 78 = .ok (.imul, 1) := by decide +kernel
theorem dX6_vouch_79 : decode cX6_vouch 79 = .ok (.invokevirtual 243, 3) := by decide +kernel
theorem dX6_vouch_82 : decode cX6_vouch 82 = .ok (.iconst 0, 1) := by decide +kernel
theorem dX6_vouch_83 : decode cX6_vouch 83 = .ok (.istore_n 3, 1) := by decide +kernel
theorem dX6_vouch_84 : decode cX6_vouch 84 = .ok (.iload_n 3, 1) := by decide +kernel
theorem dX6_vouch_85 : decode cX6_vouch 85 = .ok (.bipush 8, 2) := by decide +kernel
theorem dX6_vouch_87 : decode cX6_vouch 87 = .ok (.if_icmp .ge 29, 3) := by decide +kernel
theorem dX6_vouch_90 : decode cX6_vouch 90 = .ok (.aload_n 0, 1) := by decide +kernel
theorem dX6_vouch_91 : decode cX6_vouch 91 = .ok (.getfield 237, 3) := by decide +kernel
theorem dX6_vouch_94 : decode cX6_vouch 94 = .ok (.ifCond .ne 22, 3) := by decide +kernel
theorem dX6_vouch_97 : decode cX6_vouch 97 = .ok (.aload_n 0, 1) := by decide +kernel
theorem dX6_vouch_98 : decode cX6_vouch 98 = .ok (.iload_n 2, 1) := by decide +kernel
theorem dX6_vouch_99 : decode cX6_vouch 99 = .ok (.iload_n 3, 1) := by decide +kernel
theorem dX6_vouch_100 : decode cX6_vouch 100 = .ok (.iadd, 1) := by decide +kernel
theorem dX6_vouch_101 : decode cX6_vouch 101 = .ok (.aload_n 0, 1) := by decide +kernel
theorem dX6_vouch_102 : decode cX6_vouch 102 = .ok (.getfield 146, 3) := by decide +kernel
theorem dX6_vouch_105 : decode cX6_vouch 105 = .ok (.iload_n 3, 1) := by decide +kernel
theorem dX6_vouch_106 : decode cX6_vouch 106 = .ok (.iaload, 1) := by decide +kernel
theorem dX6_vouch_107 : decode cX6_vouch 107 = .ok (.invokevirtual 247, 3) := by decide +kernel
theorem dX6_vouch_110 : decode cX6_vouch 110 = .ok (.iinc 3 1, 3) := by decide +kernel
theorem dX6_vouch_113 : decode cX6_vouch 113 = .ok (.goto (-29), 3) := by decide +kernel
theorem dX6_vouch_116 : decode cX6_vouch 116 = .ok (.return_, 1) := by decide +kernel
set_option maxRecDepth 20000 in
theorem ggX6_verified_X6_load : GoodIn wsX6_verified wsX6_load := goodIn_r _ [8, 9, 10, 11, 12, 13, 14, 7, 15, 16, 17, 18, 19, 20, 21, 22, 23, 24, 25, 26, 27, 49, 50, 51, 52, 53, 54, 55, 56, 57, 58, 59, 60, 61, 62, 63, 64, 65, 66, 67, 68, 69, 70, 71, 72, 73, 74, 75, 76, 77, 78, 79, 80] (by decide +kernel) (by decide +kernel)
set_option maxRecDepth 20000 in
theorem gX6_verified_X6_load : GoodIn wsX6_verified (wsV RX6 240 RX6 yX6_load wsX6_load) := goodIn_app (goodIn_of _ (by decide +kernel)) ggX6_verified_X6_load
set_option maxRecDepth 20000 in
theorem ggX6_verified_X6_voucher : GoodIn wsX6_verified wsX6_voucher := goodIn_r _ [31, 2, 32, 33, 34, 35, 7, 36, 3, 37, 38, 39, 40, 41, 42, 43, 44, 45, 46, 47, 48, 49, 50, 51, 52, 53, 54, 55, 56, 57, 58, 59, 60, 61, 62, 63, 64, 65, 66, 67, 68, 69, 70, 71, 72, 73, 74, 75, 76, 77, 78, 79, 80] (by decide +kernel) (by decide +kernel)
set_option maxRecDepth 20000 in
theorem gX6_verified_X6_voucher : GoodIn wsX6_verified (wsV RX6 243 RX6 yX6_voucher wsX6_voucher) := goodIn_app (goodIn_of _ (by decide +kernel)) ggX6_verified_X6_voucher
theorem dX6_verified_0 : decode cX6_verified 0 = .ok (.iconst 0, 1) := by decide +kernel
theorem dX6_verified_1 : decode cX6_verified 1 = .ok (.istore_n 2, 1) := by decide +kernel
theorem dX6_verified_2 : decode cX6_verified 2 = .ok (.iload_n 2, 1) := by decide +kernel
theorem dX6_verified_3 : decode cX6_verified 3 = .ok (.bipush 24, 2) := by decide +kernel
theorem dX6_verified_5 : decode cX6_verified 5 = .ok (.if_icmp .ge 22, 3) := by decide +kernel
theorem dX6_verified_8 : decode cX6_verified 8 = .ok (.aload_n 0, 1) := by decide +kernel
theorem dX6_verified_9 : decode cX6_verified 9 = .ok (.getfield 152, 3) := by decide +kernel
theorem dX6_verified_12 : decode cX6_verified 12 = .ok (.iload_n 2, 1) := by decide +kernel
theorem dX6_verified_13 : decode cX6_verified 13 = .ok (.aload_n 0, 1) := by decide +kernel
theorem dX6_verified_14 : decode cX6_verified 14 = .ok (.iload_n 1, 1) := by decide +kernel
theorem dX6_verified_15 : decode cX6_verified 15 = .ok (.iload_n 2, 1) := by decide +kernel
theorem dX6_verified_16 : decode cX6_verified 16 = .ok (.iadd, 1) := by decide +kernel
theorem dX6_verified_17 : decode cX6_verified 17 = .ok (.invokevirtual 240, 3) := by decide +kernel
theorem dX6_verified_20 : decode cX6_verified 20 = .ok (.iastore, 1) := by decide +kernel
theorem dX6_verified_21 : decode cX6_verified 21 = .ok (.iinc 2 1, 3) := by decide +kernel
theorem dX6_verified_24 : decode cX6_verified 24 = .ok (.goto (-22), 3) := by decide +kernel
theorem dX6_verified_27 : decode cX6_verified 27 = .ok (.iconst 0, 1) := by decide +kernel
theorem dX6_verified_28 : decode cX6_verified 28 = .ok (.istore_n 2, 1) := by decide +kernel
theorem dX6_verified_29 : decode cX6_verified 29 = .ok (.iload_n 2, 1) := by decide +kernel
theorem dX6_verified_30 : decode cX6_verified 30 = .ok (.bipush 8, 2) := by decide +kernel
theorem dX6_verified_32 : decode cX6_verified 32 = .ok (.if_icmp .ge 27, 3) := by decide +kernel
theorem dX6_verified_35 : decode cX6_verified 35 = .ok (.aload_n 0, 1) := by decide +kernel
theorem dX6_verified_36 : decode cX6_verified 36 = .ok (.getfield 140, 3) := by decide +kernel
theorem dX6_verified_39 : decode cX6_verified 39 = .ok (.bipush 16, 2) := by decide +kernel
theorem dX6_verified_41 : decode cX6_verified 41 = .ok (.iload_n 2, 1) := by decide +kernel
theorem dX6_verified_42 : decode cX6_verified 42 = .ok (.iadd, 1) := by decide +kernel
theorem dX6_verified_43 : decode cX6_verified 43 = .ok (.aload_n 0, 1) := by decide +kernel
theorem dX6_verified_44 : decode cX6_verified 44 = .ok (.getfield 152, 3) := by decide +kernel
theorem dX6_verified_47 : decode cX6_verified 47 = .ok (.bipush 8, 2) := by decide +kernel
theorem dX6_verified_49 : decode cX6_verified 49 = .ok (.iload_n 2, 1) := by decide +kernel
theorem dX6_verified_50 : decode cX6_verified 50 = .ok (.iadd, 1) := by decide +kernel
theorem dX6_verified_51 : decode cX6_verified 51 = .ok (.iaload, 1) := by decide +kernel
theorem dX6_verified_52 : decode cX6_verified 52 = .ok (.iastore, 1) := by decide +kernel
theorem dX6_verified_53 : decode cX6_verified 53 = .ok (.iinc 2 1, 3) := by decide +kernel
theorem dX6_verified_56 : decode cX6_verified 56 = .ok (.goto (-27), 3) := by decide +kernel
theorem dX6_verified_59 : decode cX6_verified 59 = .ok (.aload_n 0, 1) := by decide +kernel
theorem dX6_verified_60 : decode cX6_verified 60 = .ok (.aload_n 0, 1) := by decide +kernel
theorem dX6_verified_61 : decode cX6_verified 61 = .ok (.getfield 152, 3) := by decide +kernel
theorem dX6_verified_64 : decode cX6_verified 64 = .ok (.iconst 0, 1) := by decide +kernel
theorem dX6_verified_65 : decode cX6_verified 65 = .ok (.invokevirtual 243, 3) := by decide +kernel
theorem dX6_verified_68 : decode cX6_verified 68 = .ok (.iconst 1, 1) := by decide +kernel
theorem dX6_verified_69 : decode cX6_verified 69 = .ok (.istore_n 2, 1) := by decide +kernel
theorem dX6_verified_70 : decode cX6_verified 70 = .ok (.iconst 0, 1) := by decide +kernel
theorem dX6_verified_71 : decode cX6_verified 71 = .ok (.istore_n 3, 1) := by decide +kernel
theorem dX6_verified_72 : decode cX6_verified 72 = .ok (.iload_n 3, 1) := by decide +kernel
theorem dX6_verified_73 : decode cX6_verified 73 = .ok (.bipush 8, 2) := by decide +kernel
theorem dX6_verified_75 : decode cX6_verified 75 = .ok (.if_icmp .ge 37, 3) := by decide +kernel
theorem dX6_verified_78 : decode cX6_verified 78 = .ok (.iload_n 2, 1) := by decide +kernel
theorem dX6_verified_79 : decode cX6_verified 79 = .ok (.ifCond .eq 25, 3) := by decide +kernel
theorem dX6_verified_82 : decode cX6_verified 82 = .ok (.aload_n 0, 1) := by decide +kernel
theorem dX6_verified_83 : decode cX6_verified 83 = .ok (.getfield 152, 3) := by decide +kernel
theorem dX6_verified_86 : decode cX6_verified 86 = .ok (.bipush 16, 2) := by decide +kernel
theorem dX6_verified_88 : decode cX6_verified 88 = .ok (.iload_n 3, 1) := by decide +kernel
theorem dX6_verified_89 : decode cX6_verified 89 = .ok (.iadd, 1) := by decide +kernel
theorem dX6_verified_90 : decode cX6_verified 90 = .ok (.iaload, 1) := by decide +kernel
theorem dX6_verified_91 : decode cX6_verified 91 = .ok (.aload_n 0, 1) := by decide +kernel
theorem dX6_verified_92 : decode cX6_verified 92 = .ok (.getfield 146, 3) := by decide +kernel
theorem dX6_verified_95 : decode cX6_verified 95 = .ok (.iload_n 3, 1) := by decide +kernel
theorem dX6_verified_96 : decode cX6_verified 96 = .ok (.iaload, 1) := by decide +kernel
theorem dX6_verified_97 : decode cX6_verified 97 = .ok (.if_icmp .ne 7, 3) := by decide +kernel
theorem dX6_verified_100 : decode cX6_verified 100 = .ok (.iconst 1, 1) := by decide +kernel
theorem dX6_verified_101 : decode cX6_verified 101 = .ok (.goto 4, 3) := by decide +kernel
theorem dX6_verified_104 : decode cX6_verified 104 = .ok (.iconst 0, 1) := by decide +kernel
theorem dX6_verified_105 : decode cX6_verified 105 = .ok (.istore_n 2, 1) := by decide +kernel
theorem dX6_verified_106 : decode cX6_verified 106 = .ok (.iinc 3 1, 3) := by decide +kernel
theorem dX6_verified_109 : decode cX6_verified 109 = .ok (.goto (-37), 3) := by decide +kernel
theorem dX6_verified_112 : decode cX6_verified 112 = .ok (.iload_n 2, 1) := by decide +kernel
theorem dX6_verified_113 : decode cX6_verified 113 = .ok (.ifCond .eq 7, 3) := by decide +kernel
theorem dX6_verified_116 : decode cX6_verified 116 = .ok (.iconst 1, 1) := by decide +kernel
theorem dX6_verified_117 : decode cX6_verified 117 = .ok (.goto 4, 3) := by decide +kernel
theorem dX6_verified_120 : decode cX6_verified 120 = .ok (.iconst 0, 1) := by decide +kernel
theorem dX6_verified_121 : decode cX6_verified 121 = .ok (.ireturn, 1) := by decide +kernel
set_option maxRecDepth 20000 in
theorem ggX6_takeIn_X6_isKind : GoodIn wsX6_takeIn wsX6_isKind := goodIn_r _ [10, 11, 12, 13, 9, 14, 35, 36, 37, 38, 39, 40, 41, 42, 43, 44, 45, 46, 47, 48, 49, 50, 51, 52, 53, 54, 55, 56, 57, 58, 59, 60, 61, 62, 63, 64, 65, 66] (by decide +kernel) (by decide +kernel)
set_option maxRecDepth 20000 in
theorem gX6_takeIn_X6_isKind : GoodIn wsX6_takeIn (wsV RX6 189 RX6 yX6_isKind wsX6_isKind) := goodIn_app (goodIn_of _ (by decide +kernel)) ggX6_takeIn_X6_isKind
set_option maxRecDepth 20000 in
theorem ggX6_takeIn_X6_noBlock : GoodIn wsX6_takeIn wsX6_noBlock := goodIn_r _ [17] (by decide +kernel) (by decide +kernel)
set_option maxRecDepth 20000 in
theorem gX6_takeIn_X6_noBlock : GoodIn wsX6_takeIn (va_wsS RX6 221 yX6_noBlock wsX6_noBlock) := goodIn_app (goodIn_of _ (by decide +kernel)) ggX6_takeIn_X6_noBlock
set_option maxRecDepth 20000 in
theorem ggX6_takeIn_X6_isTaken : GoodIn wsX6_takeIn wsX6_isTaken := goodIn_r _ [21, 3, 22, 23, 24, 9, 25, 26, 27, 28, 29, 30, 35, 36, 37, 38, 39, 40, 41, 42, 43, 44, 45, 46, 47, 48, 49, 50, 51, 52, 53, 54, 55, 56, 57, 58, 59, 60, 61, 62, 63, 64, 65, 66] (by decide +kernel) (by decide +kernel)
set_option maxRecDepth 20000 in
theorem gX6_takeIn_X6_isTaken : GoodIn wsX6_takeIn (wsV RX6 224 RX6 yX6_isTaken wsX6_isTaken) := goodIn_app (goodIn_of _ (by decide +kernel)) ggX6_takeIn_X6_isTaken
set_option maxRecDepth 20000 in
theorem ggX6_takeIn_X6_become : GoodIn wsX6_takeIn wsX6_become := goodIn_r _ [34, 11, 1, 35, 36, 37, 38, 39, 40, 41, 42, 43, 44, 45, 46, 47, 48, 49, 50, 51, 52, 53, 54, 55, 56, 57, 58, 59, 60, 61, 62, 63, 64, 65, 66] (by decide +kernel) (by decide +kernel)
set_option maxRecDepth 20000 in
theorem gX6_takeIn_X6_become : GoodIn wsX6_takeIn (wsV RX6 209 RX6 yX6_become wsX6_become) := goodIn_app (goodIn_of _ (by decide +kernel)) ggX6_takeIn_X6_become
set_option maxRecDepth 20000 in
theorem ggX6_takeIn_X6_entryOf : GoodIn wsX6_takeIn wsX6_entryOf := goodIn_r _ [30, 22, 23, 24, 9, 25, 26, 35, 36, 37, 38, 39, 40, 41, 42, 43, 44, 45, 46, 47, 48, 49, 50, 51, 52, 53, 54, 55, 56, 57, 58, 59, 60, 61, 62, 63, 64, 65, 66] (by decide +kernel) (by decide +kernel)
set_option maxRecDepth 20000 in
theorem gX6_takeIn_X6_entryOf : GoodIn wsX6_takeIn (wsV RX6 200 RX6 yX6_entryOf wsX6_entryOf) := goodIn_app (goodIn_of _ (by decide +kernel)) ggX6_takeIn_X6_entryOf
theorem dX6_takeIn_0 : decode cX6_takeIn 0 = .ok (.aload_n 0, 1) := by decide +kernel
theorem dX6_takeIn_1 : decode cX6_takeIn 1 = .ok (.iload_n 1, 1) := by decide +kernel
theorem dX6_takeIn_2 : decode cX6_takeIn 2 = .ok (.iconst 5, 1) := by decide +kernel
theorem dX6_takeIn_3 : decode cX6_takeIn 3 = .ok (.invokevirtual 189, 3) := by decide +kernel
theorem dX6_takeIn_6 : decode cX6_takeIn 6 = .ok (.ifCond .eq 39, 3) := by decide +kernel
theorem dX6_takeIn_9 : decode cX6_takeIn 9 = .ok (.aload_n 0, 1) := by decide +kernel
theorem dX6_takeIn_10 : decode cX6_takeIn 10 = .ok (.getfield 19, 3) := by decide +kernel
theorem dX6_takeIn_13 : decode cX6_takeIn 13 = .ok (.iload_n 1, 1) := by decide +kernel
theorem dX6_takeIn_14 : decode cX6_takeIn 14 = .ok (.iaload, 1) := by decide +kernel
theorem dX6_takeIn_15 : decode cX6_takeIn 15 = .ok (.aload_n 0, 1) := by decide +kernel
theorem dX6_takeIn_16 : decode cX6_takeIn 16 = .ok (.getfield 231, 3) := by decide +kernel
theorem dX6_takeIn_19 : decode cX6_takeIn 19 = .ok (.if_icmp .ne 26, 3) := by decide +kernel
theorem dX6_takeIn_22 : decode cX6_takeIn 22 = .ok (.iload_n 2, 1) := by decide +kernel
theorem dX6_takeIn_23 : decode cX6_takeIn 23 = .ok (.invokestatic 221, 3) := by decide +kernel
theorem dX6_takeIn_26 : decode cX6_takeIn 26 = .ok (.ifCond .ne 19, 3) := by decide +kernel
theorem dX6_takeIn_29 : decode cX6_takeIn 29 = .ok (.iload_n 3, 1) := by decide +kernel
theorem dX6_takeIn_30 : decode cX6_takeIn 30 = .ok (.ifCond .eq 15, 3) := by decide +kernel
theorem dX6_takeIn_33 : decode cX6_takeIn 33 = .ok (.aload_n 0, 1) := by decide +kernel
theorem dX6_takeIn_34 : decode cX6_takeIn 34 = .ok (.aload_n 0, 1) := by decide +kernel
theorem dX6_takeIn_35 : decode cX6_takeIn 35 = .ok (.getfield 231, 3) := by decide +kernel
theorem dX6_takeIn_38 : decode cX6_takeIn 38 = .ok (.iload_n 2, 1) := by decide +kernel
theorem dX6_takeIn_39 : decode cX6_takeIn 39 = .ok (.invokevirtual 224, 3) := by decide +kernel
theorem dX6_takeIn_42 : decode cX6_takeIn 42 = .ok (.ifCond .eq 5, 3) := by decide +kernel
theorem dX6_takeIn_45 : decode cX6_takeIn 45 = .ok (.iconst 1, 1) := by decide +kernel
theorem dX6_takeIn_46 : decode cX6_takeIn 46 = .ok (.ireturn, 1) := by decide +kernel
theorem dX6_takeIn_47 : decode cX6_takeIn 47 = .ok (.aload_n 0, 1) := by decide +kernel
theorem dX6_takeIn_48 : decode cX6_takeIn 48 = .ok (.iload_n 1, 1) := by decide +kernel
theorem dX6_takeIn_49 : decode cX6_takeIn 49 = .ok (.iconst 4, 1) := by decide +kernel
theorem dX6_takeIn_50 : decode cX6_takeIn 50 = .ok (.aload_n 0, 1) := by decide +kernel
theorem dX6_takeIn_51 : decode cX6_takeIn 51 = .ok (.getfield 231, 3) := by decide +kernel
theorem dX6_takeIn_54 : decode cX6_takeIn 54 = .ok (.invokevirtual 209, 3) := by decide +kernel
theorem dX6_takeIn_57 : decode cX6_takeIn 57 = .ok (.aload_n 0, 1) := by decide +kernel
theorem dX6_takeIn_58 : decode cX6_takeIn 58 = .ok (.getfield 28, 3) := by decide +kernel
theorem dX6_takeIn_61 : decode cX6_takeIn 61 = .ok (.aload_n 0, 1) := by decide +kernel
theorem dX6_takeIn_62 : decode cX6_takeIn 62 = .ok (.aload_n 0, 1) := by decide +kernel
theorem dX6_takeIn_63 : decode cX6_takeIn 63 = .ok (.getfield 231, 3) := by decide +kernel
theorem dX6_takeIn_66 : decode cX6_takeIn 66 = .ok (.iload_n 2, 1) := by decide +kernel
theorem dX6_takeIn_67 : decode cX6_takeIn 67 = .ok (.invokevirtual 200, 3) := by decide +kernel
theorem dX6_takeIn_70 : decode cX6_takeIn 70 = .ok (.iload_n 1, 1) := by decide +kernel
theorem dX6_takeIn_71 : decode cX6_takeIn 71 = .ok (.iconst 1, 1) := by decide +kernel
theorem dX6_takeIn_72 : decode cX6_takeIn 72 = .ok (.iadd, 1) := by decide +kernel
theorem dX6_takeIn_73 : decode cX6_takeIn 73 = .ok (.iastore, 1) := by decide +kernel
theorem dX6_takeIn_74 : decode cX6_takeIn 74 = .ok (.aload_n 0, 1) := by decide +kernel
theorem dX6_takeIn_75 : decode cX6_takeIn 75 = .ok (.getfield 31, 3) := by decide +kernel
theorem dX6_takeIn_78 : decode cX6_takeIn 78 = .ok (.aload_n 0, 1) := by decide +kernel
theorem dX6_takeIn_79 : decode cX6_takeIn 79 = .ok (.aload_n 0, 1) := by decide +kernel
theorem dX6_takeIn_80 : decode cX6_takeIn 80 = .ok (.getfield 231, 3) := by decide +kernel
theorem dX6_takeIn_83 : decode cX6_takeIn 83 = .ok (.iload_n 2, 1) := by decide +kernel
theorem dX6_takeIn_84 : decode cX6_takeIn 84 = .ok (.invokevirtual 200, 3) := by decide +kernel
theorem dX6_takeIn_87 : decode cX6_takeIn 87 = .ok (.iload_n 3, 1) := by decide +kernel
theorem dX6_takeIn_88 : decode cX6_takeIn 88 = .ok (.iastore, 1) := by decide +kernel
theorem dX6_takeIn_89 : decode cX6_takeIn 89 = .ok (.iconst 0, 1) := by decide +kernel
theorem dX6_takeIn_90 : decode cX6_takeIn 90 = .ok (.istore 4, 2) := by decide +kernel
theorem dX6_takeIn_92 : decode cX6_takeIn 92 = .ok (.iload 4, 2) := by decide +kernel
theorem dX6_takeIn_94 : decode cX6_takeIn 94 = .ok (.bipush 16, 2) := by decide +kernel
theorem dX6_takeIn_96 : decode cX6_takeIn 96 = .ok (.if_icmp .ge 22, 3) := by decide +kernel
theorem dX6_takeIn_99 : decode cX6_takeIn 99 = .ok (.aload_n 0, 1) := by decide +kernel
theorem dX6_takeIn_100 : decode cX6_takeIn 100 = .ok (.getfield 25, 3) := by decide +kernel
theorem dX6_takeIn_103 : decode cX6_takeIn 103 = .ok (.bipush 16, 2) := by decide +kernel
theorem dX6_takeIn_105 : decode cX6_takeIn 105 = .ok (.iload_n 1, 1) := by decide +kernel
theorem dX6_takeIn_106 : decode cX6_takeIn 106 = .ok (.imul, 1) := by decide +kernel
theorem dX6_takeIn_107 : decode cX6_takeIn 107 = .ok (.iload 4, 2) := by decide +kernel
theorem dX6_takeIn_109 : decode cX6_takeIn 109 = .ok (.iadd, 1) := by decide +kernel
theorem dX6_takeIn_110 : decode cX6_takeIn 110 = .ok (.iconst 0, 1) := by decide +kernel
theorem dX6_takeIn_111 : decode cX6_takeIn 111 = .ok (.iastore, 1) := by decide +kernel
theorem dX6_takeIn_112 : decode cX6_takeIn 112 = .ok (.iinc 4 1, 3) := by decide +kernel
theorem dX6_takeIn_115 : decode cX6_takeIn 115 = .ok (.goto (-23), 3) := by decide +kernel
theorem dX6_takeIn_118 : decode cX6_takeIn 118 = .ok (.iconst 0, 1) := by decide +kernel
theorem dX6_takeIn_119 : decode cX6_takeIn 119 = .ok (.ireturn, 1) := by decide +kernel
set_option maxRecDepth 20000 in
theorem ggX6_giveBack_X6_noBlock : GoodIn wsX6_giveBack wsX6_noBlock := goodIn_r _ [7] (by decide +kernel) (by decide +kernel)
set_option maxRecDepth 20000 in
theorem gX6_giveBack_X6_noBlock : GoodIn wsX6_giveBack (va_wsS RX6 221 yX6_noBlock wsX6_noBlock) := goodIn_app (goodIn_of _ (by decide +kernel)) ggX6_giveBack_X6_noBlock
set_option maxRecDepth 20000 in
theorem ggX6_giveBack_X6_tableOf : GoodIn wsX6_giveBack wsX6_tableOf := goodIn_r _ [11, 12, 17, 18, 19, 20, 21, 22, 23, 24, 25, 26, 27, 28, 29, 30, 31, 32, 33, 34, 35, 36, 37, 38, 39, 40, 41, 42, 43, 44, 45, 46, 47, 48] (by decide +kernel) (by decide +kernel)
set_option maxRecDepth 20000 in
theorem gX6_giveBack_X6_tableOf : GoodIn wsX6_giveBack (wsV RX6 197 RX6 yX6_tableOf wsX6_tableOf) := goodIn_app (goodIn_of _ (by decide +kernel)) ggX6_giveBack_X6_tableOf
set_option maxRecDepth 20000 in
theorem ggX6_giveBack_X6_entryOf : GoodIn wsX6_giveBack wsX6_entryOf := goodIn_r _ [16, 8, 9, 10, 6, 11, 12, 17, 18, 19, 20, 21, 22, 23, 24, 25, 26, 27, 28, 29, 30, 31, 32, 33, 34, 35, 36, 37, 38, 39, 40, 41, 42, 43, 44, 45, 46, 47, 48] (by decide +kernel) (by decide +kernel)
set_option maxRecDepth 20000 in
theorem gX6_giveBack_X6_entryOf : GoodIn wsX6_giveBack (wsV RX6 200 RX6 yX6_entryOf wsX6_entryOf) := goodIn_app (goodIn_of _ (by decide +kernel)) ggX6_giveBack_X6_entryOf
theorem dX6_giveBack_0 : decode cX6_giveBack 0 = .ok (.iload_n 1, 1) := by decide +kernel
theorem dX6_giveBack_1 : decode cX6_giveBack 1 = .ok (.invokestatic 221, 3) := by decide +kernel
theorem dX6_giveBack_4 : decode cX6_giveBack 4 = .ok (.ifCond .ne 32, 3) := by decide +kernel
theorem dX6_giveBack_7 : decode cX6_giveBack 7 = .ok (.aload_n 0, 1) := by decide +kernel
theorem dX6_giveBack_8 : decode cX6_giveBack 8 = .ok (.aload_n 0, 1) := by decide +kernel
theorem dX6_giveBack_9 : decode cX6_giveBack 9 = .ok (.getfield 231, 3) := by decide +kernel
theorem dX6_giveBack_12 : decode cX6_giveBack 12 = .ok (.iload_n 1, 1) := by decide +kernel
theorem dX6_giveBack_13 : decode cX6_giveBack 13 = .ok (.invokevirtual 197, 3) := by decide +kernel
theorem dX6_giveBack_16 : decode cX6_giveBack 16 = .ok (.ifCond .lt 20, 3) := by decide +kernel
theorem dX6_giveBack_19 : decode cX6_giveBack 19 = .ok (.aload_n 0, 1) := by decide +kernel
theorem dX6_giveBack_20 : decode cX6_giveBack 20 = .ok (.getfield 28, 3) := by decide +kernel
theorem dX6_giveBack_23 : decode cX6_giveBack 23 = .ok (.aload_n 0, 1) := by decide +kernel
theorem dX6_giveBack_24 : decode cX6_giveBack 24 = .ok (.aload_n 0, 1) := by decide +kernel
theorem dX6_giveBack_25 : decode cX6_giveBack 25 = .ok (.getfield 231, 3) := by decide +kernel
theorem dX6_giveBack_28 : decode cX6_giveBack 28 = .ok (.iload_n 1, 1) := by decide +kernel
theorem dX6_giveBack_29 : decode cX6_giveBack 29 = .ok (.invokevirtual 200, 3) := by decide +kernel
theorem dX6_giveBack_32 : decode cX6_giveBack 32 = .ok (.iaload, 1) := by decide +kernel
theorem dX6_giveBack_33 : decode cX6_giveBack 33 = .ok (.ifCond .gt 5, 3) := by decide +kernel
theorem dX6_giveBack_36 : decode cX6_giveBack 36 = .ok (.iconst (-1), 1) := by decide +kernel
theorem dX6_giveBack_37 : decode cX6_giveBack 37 = .ok (.ireturn, 1) := by decide +kernel
theorem dX6_giveBack_38 : decode cX6_giveBack 38 = .ok (.aload_n 0, 1) := by decide +kernel
theorem dX6_giveBack_39 : decode cX6_giveBack 39 = .ok (.getfield 28, 3) := by decide +kernel
theorem dX6_giveBack_42 : decode cX6_giveBack 42 = .ok (.aload_n 0, 1) := by decide +kernel
theorem dX6_giveBack_43 : decode cX6_giveBack 43 = .ok (.aload_n 0, 1) := by decide +kernel
theorem dX6_giveBack_44 : decode cX6_giveBack 44 = .ok (.getfield 231, 3) := by decide +kernel
theorem dX6_giveBack_47 : decode cX6_giveBack 47 = .ok (.iload_n 1, 1) := by decide +kernel
theorem dX6_giveBack_48 : decode cX6_giveBack 48 = .ok (.invokevirtual 200, 3) := by decide +kernel
theorem dX6_giveBack_51 : decode cX6_giveBack 51 = .ok (.iaload, 1) := by decide +kernel
theorem dX6_giveBack_52 : decode cX6_giveBack 52 = .ok (.iconst 1, 1) := by decide +kernel
theorem dX6_giveBack_53 : decode cX6_giveBack 53 = .ok (.isub, 1) := by decide +kernel
theorem dX6_giveBack_54 : decode cX6_giveBack 54 = .ok (.istore_n 2, 1) := by decide +kernel
theorem dX6_giveBack_55 : decode cX6_giveBack 55 = .ok (.aload_n 0, 1) := by decide +kernel
theorem dX6_giveBack_56 : decode cX6_giveBack 56 = .ok (.getfield 28, 3) := by decide +kernel
theorem dX6_giveBack_59 : decode cX6_giveBack 59 = .ok (.aload_n 0, 1) := by decide +kernel
theorem dX6_giveBack_60 : decode cX6_giveBack 60 = .ok (.aload_n 0, 1) := by decide +kernel
theorem dX6_giveBack_61 : decode cX6_giveBack 61 = .ok (.getfield 231, 3) := by decide +kernel
theorem dX6_giveBack_64 : decode cX6_giveBack 64 = .ok (.iload_n 1, 1) := by decide +kernel
theorem dX6_giveBack_65 : decode cX6_giveBack 65 = .ok (.invokevirtual 200, 3) := by decide +kernel
theorem dX6_giveBack_68 : decode cX6_giveBack 68 = .ok (.iconst 0, 1) := by decide +kernel
theorem dX6_giveBack_69 : decode cX6_giveBack 69 = .ok (.iastore, 1) := by decide +kernel
theorem dX6_giveBack_70 : decode cX6_giveBack 70 = .ok (.aload_n 0, 1) := by decide +kernel
theorem dX6_giveBack_71 : decode cX6_giveBack 71 = .ok (.getfield 16, 3) := by decide +kernel
theorem dX6_giveBack_74 : decode cX6_giveBack 74 = .ok (.iload_n 2, 1) := by decide +kernel
theorem dX6_giveBack_75 : decode cX6_giveBack 75 = .ok (.iconst 5, 1) := by decide +kernel
theorem dX6_giveBack_76 : decode cX6_giveBack 76 = .ok (.iastore, 1) := by decide +kernel
theorem dX6_giveBack_77 : decode cX6_giveBack 77 = .ok (.iload_n 2, 1) := by decide +kernel
theorem dX6_giveBack_78 : decode cX6_giveBack 78 = .ok (.ireturn, 1) := by decide +kernel
theorem dX6_put_0 : decode cX6_put 0 = .ok (.aload_n 0, 1) := by decide +kernel
theorem dX6_put_1 : decode cX6_put 1 = .ok (.getfield 237, 3) := by decide +kernel
theorem dX6_put_4 : decode cX6_put 4 = .ok (.ifCond .ne 10, 3) := by decide +kernel
theorem dX6_put_7 : decode cX6_put 7 = .ok (.aload_n 0, 1) := by decide +kernel
theorem dX6_put_8 : decode cX6_put 8 = .ok (.getfield 59, 3) := by decide +kernel
theorem dX6_put_11 : decode cX6_put 11 = .ok (.iload_n 1, 1) := by decide +kernel
theorem dX6_put_12 : decode cX6_put 12 = .ok (.iload_n 2, 1) := by decide +kernel
theorem dX6_put_13 : decode cX6_put 13 = .ok (.iastore, 1) := by decide +kernel
theorem dX6_put_14 : decode cX6_put 14 = .ok (.return_, 1) := by decide +kernel
set_option maxRecDepth 20000 in
theorem ggX6_one_X6_lies : GoodIn wsX6_one wsX6_lies := goodIn_r _ [13, 8, 14, 15, 16, 17, 18, 12, 19, 20, 21, 22, 23, 24, 97, 98, 99, 100, 101, 102, 103, 104, 105, 106, 107, 108, 109, 110, 111, 112, 113, 114, 115, 116, 117, 118, 119, 120, 121, 122, 123, 124, 125, 126, 127, 128] (by decide +kernel) (by decide +kernel)
set_option maxRecDepth 20000 in
theorem gX6_one_X6_lies : GoodIn wsX6_one (wsV RX6 234 RX6 yX6_lies wsX6_lies) := goodIn_app (goodIn_of _ (by decide +kernel)) ggX6_one_X6_lies
set_option maxRecDepth 20000 in
theorem ggX6_one_X6_load : GoodIn wsX6_one wsX6_load := goodIn_r _ [28, 2, 3, 4, 9, 10, 11, 12, 13, 8, 14, 15, 16, 17, 18, 19, 20, 21, 22, 23, 24, 97, 98, 99, 100, 101, 102, 103, 104, 105, 106, 107, 108, 109, 110, 111, 112, 113, 114, 115, 116, 117, 118, 119, 120, 121, 122, 123, 124, 125, 126, 127, 128] (by decide +kernel) (by decide +kernel)
set_option maxRecDepth 20000 in
theorem gX6_one_X6_load : GoodIn wsX6_one (wsV RX6 240 RX6 yX6_load wsX6_load) := goodIn_app (goodIn_of _ (by decide +kernel)) ggX6_one_X6_load
set_option maxRecDepth 20000 in
theorem ggX6_one_X6_put : GoodIn wsX6_one wsX6_put := goodIn_r _ [32, 2, 5, 97, 98, 99, 100, 101, 102, 103, 104, 105, 106, 107, 108, 109, 110, 111, 112, 113, 114, 115, 116, 117, 118, 119, 120, 121, 122, 123, 124, 125, 126, 127, 128] (by decide +kernel) (by decide +kernel)
set_option maxRecDepth 20000 in
theorem gX6_one_X6_put : GoodIn wsX6_one (wsV RX6 253 RX6 yX6_put wsX6_put) := goodIn_app (goodIn_of _ (by decide +kernel)) ggX6_one_X6_put
set_option maxRecDepth 20000 in
theorem ggX6_one_X6_store : GoodIn wsX6_one wsX6_store := goodIn_r _ [36, 2, 3, 4, 9, 10, 11, 12, 13, 8, 14, 15, 16, 17, 18, 19, 20, 21, 22, 23, 24, 97, 98, 99, 100, 101, 102, 103, 104, 105, 106, 107, 108, 109, 110, 111, 112, 113, 114, 115, 116, 117, 118, 119, 120, 121, 122, 123, 124, 125, 126, 127, 128] (by decide +kernel) (by decide +kernel)
set_option maxRecDepth 20000 in
theorem gX6_one_X6_store : GoodIn wsX6_one (wsV RX6 247 RX6 yX6_store wsX6_store) := goodIn_app (goodIn_of _ (by decide +kernel)) ggX6_one_X6_store
set_option maxRecDepth 20000 in
theorem ggX6_one_X6_vouch : GoodIn wsX6_one wsX6_vouch := goodIn_r _ [40, 41, 2, 7, 8, 42, 25, 26, 27, 12, 28, 3, 4, 9, 10, 11, 13, 14, 15, 16, 17, 18, 19, 20, 21, 22, 23, 24, 43, 44, 45, 46, 47, 48, 49, 50, 51, 52, 53, 54, 55, 56, 57, 58, 59, 60, 61, 62, 63, 33, 34, 35, 36, 97, 98, 99, 100, 101, 102, 103, 104, 105, 106, 107, 108, 109, 110, 111, 112, 113, 114, 115, 116, 117, 118, 119, 120, 121, 122, 123, 124, 125, 126, 127, 128] (by decide +kernel) (by decide +kernel)
set_option maxRecDepth 20000 in
theorem gX6_one_X6_vouch : GoodIn wsX6_one (wsV RX6 256 RX6 yX6_vouch wsX6_vouch) := goodIn_app (goodIn_of _ (by decide +kernel)) ggX6_one_X6_vouch
set_option maxRecDepth 20000 in
theorem ggX6_one_X6_verified : GoodIn wsX6_one wsX6_verified := goodIn_r _ [67, 68, 41, 42, 25, 26, 27, 12, 28, 2, 3, 4, 9, 10, 11, 13, 8, 14, 15, 16, 17, 18, 19, 20, 21, 22, 23, 24, 43, 44, 45, 46, 47, 48, 49, 50, 51, 52, 53, 54, 55, 56, 57, 58, 59, 60, 61, 62, 63, 97, 98, 99, 100, 101, 102, 103, 104, 105, 106, 107, 108, 109, 110, 111, 112, 113, 114, 115, 116, 117, 118, 119, 120, 121, 122, 123, 124, 125, 126, 127, 128] (by decide +kernel) (by decide +kernel)
set_option maxRecDepth 20000 in
theorem gX6_one_X6_verified : GoodIn wsX6_one (wsV RX6 259 RX6 yX6_verified wsX6_verified) := goodIn_app (goodIn_of _ (by decide +kernel)) ggX6_one_X6_verified
set_option maxRecDepth 20000 in
theorem ggX6_one_X6_takeIn : GoodIn wsX6_one wsX6_takeIn := goodIn_r _ [72, 73, 8, 14, 15, 3, 74, 75, 76, 12, 77, 78, 79, 80, 81, 82, 83, 84, 85, 86, 87, 88, 16, 17, 18, 19, 20, 21, 22, 23, 24, 89, 90, 91, 92, 97, 98, 99, 100, 101, 102, 103, 104, 105, 106, 107, 108, 109, 110, 111, 112, 113, 114, 115, 116, 117, 118, 119, 120, 121, 122, 123, 124, 125, 126, 127, 128] (by decide +kernel) (by decide +kernel)
set_option maxRecDepth 20000 in
theorem gX6_one_X6_takeIn : GoodIn wsX6_one (wsV RX6 262 RX6 yX6_takeIn wsX6_takeIn) := goodIn_app (goodIn_of _ (by decide +kernel)) ggX6_one_X6_takeIn
set_option maxRecDepth 20000 in
theorem ggX6_one_X6_giveBack : GoodIn wsX6_one wsX6_giveBack := goodIn_r _ [96, 8, 14, 78, 82, 83, 12, 84, 16, 17, 18, 19, 20, 21, 22, 23, 24, 97, 98, 99, 100, 101, 102, 103, 104, 105, 106, 107, 108, 109, 110, 111, 112, 113, 114, 115, 116, 117, 118, 119, 120, 121, 122, 123, 124, 125, 126, 127, 128] (by decide +kernel) (by decide +kernel)
set_option maxRecDepth 20000 in
theorem gX6_one_X6_giveBack : GoodIn wsX6_one (wsV RX6 266 RX6 yX6_giveBack wsX6_giveBack) := goodIn_app (goodIn_of _ (by decide +kernel)) ggX6_one_X6_giveBack
theorem dX6_one_0 : decode cX6_one 0 = .ok (.aload_n 0, 1) := by decide +kernel
theorem dX6_one_1 : decode cX6_one 1 = .ok (.aload_n 0, 1) := by decide +kernel
theorem dX6_one_2 : decode cX6_one 2 = .ok (.getfield 250, 3) := by decide +kernel
theorem dX6_one_5 : decode cX6_one 5 = .ok (.iconst 4, 1) := by decide +kernel
theorem dX6_one_6 : decode cX6_one 6 = .ok (.invokevirtual 234, 3) := by decide +kernel
theorem dX6_one_9 : decode cX6_one 9 = .ok (.istore_n 1, 1) := by decide +kernel
theorem dX6_one_10 : decode cX6_one 10 = .ok (.iload_n 1, 1) := by decide +kernel
theorem dX6_one_11 : decode cX6_one 11 = .ok (.ifCond .ge 10, 3) := by decide +kernel
theorem dX6_one_14 : decode cX6_one 14 = .ok (.aload_n 0, 1) := by decide +kernel
theorem dX6_one_15 : decode cX6_one 15 = .ok (.iconst 1, 1) := by decide +kernel
theorem dX6_one_16 : decode cX6_one 16 = .ok (.putfield 237, 3) := by decide +kernel
theorem dX6_one_19 : decode cX6_one 19 = .ok (.iconst 0, 1) := by decide +kernel
theorem dX6_one_20 : decode cX6_one 20 = .ok (.ireturn, 1) := by decide +kernel
theorem dX6_one_21 : decode cX6_one 21 = .ok (.iload_n 1, 1) := by decide +kernel
theorem dX6_one_22 : decode cX6_one 22 = .ok (.sipush 320, 3) := by decide +kernel
theorem dX6_one_25 : decode cX6_one 25 = .ok (.if_icmp .ge 12, 3) := by decide +kernel
theorem dX6_one_28 : decode cX6_one 28 = .ok (.aload_n 0, 1) := by decide +kernel
theorem dX6_one_29 : decode cX6_one 29 = .ok (.getfield 25, 3) := by decide +kernel
theorem dX6_one_32 : decode cX6_one 32 = .ok (.iload_n 1, 1) := by decide +kernel
theorem dX6_one_33 : decode cX6_one 33 = .ok (.iaload, 1) := by decide +kernel
theorem dX6_one_34 : decode cX6_one 34 = .ok (.goto 13, 3) := by decide +kernel
theorem dX6_one_37 : decode cX6_one 37 = .ok (.aload_n 0, 1) := by decide +kernel
theorem dX6_one_38 : decode cX6_one 38 = .ok (.getfield 13, 3) := by decide +kernel
theorem dX6_one_41 : decode cX6_one 41 = .ok (.iload_n 1, 1) := by decide +kernel
theorem dX6_one_42 : decode cX6_one 42 = .ok (.sipush 320, 3) := by decide +kernel
theorem dX6_one_45 : decode cX6_one 45 = .ok (.isub, 1) := by decide +kernel
theorem dX6_one_46 : decode cX6_one 46 = .ok (.iaload, 1) := by decide +kernel
theorem dX6_one_47 : decode cX6_one 47 = .ok (.istore_n 2, 1) := by decide +kernel
theorem dX6_one_48 : decode cX6_one 48 = .ok (.iload_n 2, 1) := by decide +kernel
theorem dX6_one_49 : decode cX6_one 49 = .ok (.iconst 4, 1) := by decide +kernel
theorem dX6_one_50 : decode cX6_one 50 = .ok (.ishr, 1) := by decide +kernel
theorem dX6_one_51 : decode cX6_one 51 = .ok (.iconst 3, 1) := by decide +kernel
theorem dX6_one_52 : decode cX6_one 52 = .ok (.iand, 1) := by decide +kernel
theorem dX6_one_53 : decode cX6_one 53 = .ok (.istore_n 3, 1) := by decide +kernel
theorem dX6_one_54 : decode cX6_one 54 = .ok (.aload_n 0, 1) := by decide +kernel
theorem dX6_one_55 : decode cX6_one 55 = .ok (.getfield 59, 3) := by decide +kernel
theorem dX6_one_58 : decode cX6_one 58 = .ok (.iload_n 2, 1) := by decide +kernel
theorem dX6_one_59 : decode cX6_one 59 = .ok (.bipush 6, 2) := by decide +kernel
theorem dX6_one_61 : decode cX6_one 61 = .ok (.ishr, 1) := by decide +kernel
theorem dX6_one_62 : decode cX6_one 62 = .ok (.iconst 3, 1) := by decide +kernel
theorem dX6_one_63 : decode cX6_one 63 = .ok (.iand, 1) := by decide +kernel
theorem dX6_one_64 : decode cX6_one 64 = .ok (.iaload, 1) := by decide +kernel
theorem dX6_one_65 : decode cX6_one 65 = .ok (.istore 4, 2) := by decide +kernel
theorem dX6_one_67 : decode cX6_one 67 = .ok (.iload_n 2, 1) := by decide +kernel
theorem dX6_one_68 : decode cX6_one 68 = .ok (.bipush 8, 2) := by decide +kernel
theorem dX6_one_70 : decode cX6_one 70 = .ok (.ishr, 1) := by decide +kernel
theorem dX6_one_71 : decode cX6_one 71 = .ok (.istore 5, 2) := by decide +kernel
theorem dX6_one_73 : decode cX6_one 73 = .ok (.aload_n 0, 1) := by decide +kernel
theorem dX6_one_74 : decode cX6_one 74 = .ok (.dup, 1) := by decide +kernel
theorem dX6_one_75 : decode cX6_one 75 = .ok (.getfield 250, 3) := by decide +kernel
theorem dX6_one_78 : decode cX6_one 78 = .ok (.iconst 1, 1) := by decide +kernel
theorem dX6_one_79 : decode cX6_one 79 = .ok (.iadd, 1) := by decide +kernel
theorem dX6_one_80 : decode cX6_one 80 = .ok (.putfield 250, 3) := by decide +kernel
theorem dX6_one_83 : decode cX6_one 83 = .ok (.iload_n 2, 1) := by decide +kernel
theorem dX6_one_84 : decode cX6_one 84 = .ok (.bipush 15, 2) := by decide +kernel
theorem dX6_one_86 : decode cX6_one 86 = .ok (.iand, 1) := by decide +kernel
theorem dX6_one_87 : decode cX6_one 87 = .ok (.tableswitch 326 0 13 #[69, 81, 92, 110, 128, 146, 164, 181, 199, 229, 244, 258, 285, 311], 69) := by decide +kernel
theorem dX6_one_156 : decode cX6_one 156 = .ok (.aload_n 0, 1) := by decide +kernel
theorem dX6_one_157 : decode cX6_one 157 = .ok (.aload_n 0, 1) := by decide +kernel
theorem dX6_one_158 : decode cX6_one 158 = .ok (.getfield 59, 3) := by decide +kernel
theorem dX6_one_161 : decode cX6_one 161 = .ok (.iload_n 3, 1) := by decide +kernel
theorem dX6_one_162 : decode cX6_one 162 = .ok (.iaload, 1) := by decide +kernel
theorem dX6_one_163 : decode cX6_one 163 = .ok (.putfield 162, 3) := by decide +kernel
theorem dX6_one_166 : decode cX6_one 166 = .ok (.iconst 1, 1) := by decide +kernel
theorem dX6_one_167 : decode cX6_one 167 = .ok (.ireturn, 1) := by decide +kernel
theorem dX6_one_168 : decode cX6_one 168 = .ok (.aload_n 0, 1) := by decide +kernel
theorem dX6_one_169 : decode cX6_one 169 = .ok (.getfield 59, 3) := by decide +kernel
theorem dX6_one_172 : decode cX6_one 172 = .ok (.iload_n 3, 1) := by decide +kernel
theorem dX6_one_173 : decode cX6_one 173 = .ok (.iload 5, 2) := by decide +kernel
theorem dX6_one_175 : decode cX6_one 175 = .ok (.iastore, 1) := by decide +kernel
theorem dX6_one_176 : decode cX6_one 176 = .ok (.goto 242, 3) := by decide +kernel
theorem dX6_one_179 : decode cX6_one 179 = .ok (.aload_n 0, 1) := by decide +kernel
theorem dX6_one_180 : decode cX6_one 180 = .ok (.getfield 59, 3) := by decide +kernel
theorem dX6_one_183 : decode cX6_one 183 = .ok (.iload_n 3, 1) := by decide +kernel
theorem dX6_one_184 : decode cX6_one 184 = .ok (.aload_n 0, 1) := by decide +kernel
theorem dX6_one_185 : decode cX6_one 185 = .ok (.getfield 59, 3) := by decide +kernel
theorem dX6_one_188 : decode cX6_one 188 = .ok (.iload_n 3, 1) := by decide +kernel
theorem dX6_one_189 : decode cX6_one 189 = .ok (.iaload, 1) := by decide +kernel
theorem dX6_one_190 : decode cX6_one 190 = .ok (.iload 4, 2) := by decide +kernel
theorem dX6_one_192 : decode cX6_one 192 = .ok (.iadd, 1) := by decide +kernel
theorem dX6_one_193 : decode cX6_one 193 = .ok (.iastore, 1) := by decide +kernel
theorem dX6_one_194 : decode cX6_one 194 = .ok (.goto 224, 3) := by decide +kernel
theorem dX6_one_197 : decode cX6_one 197 = .ok (.aload_n 0, 1) := by decide +kernel
theorem dX6_one_198 : decode cX6_one 198 = .ok (.getfield 59, 3) := by decide +kernel
theorem dX6_one_201 : decode cX6_one 201 = .ok (.iload_n 3, 1) := by decide +kernel
theorem dX6_one_202 : decode cX6_one 202 = .ok (.aload_n 0, 1) := by decide +kernel
theorem dX6_one_203 : decode cX6_one 203 = .ok (.getfield 59, 3) := by decide +kernel
theorem dX6_one_206 : decode cX6_one 206 = .ok (.iload_n 3, 1) := by decide +kernel
theorem dX6_one_207 : decode cX6_one 207 = .ok (.iaload, 1) := by decide +kernel
theorem dX6_one_208 : decode cX6_one 208 = .ok (.iload 4, 2) := by decide +kernel
theorem dX6_one_210 : decode cX6_one 210 = .ok (.isub, 1) := by decide +kernel
theorem dX6_one_211 : decode cX6_one 211 = .ok (.iastore, 1) := by decide +kernel
theorem dX6_one_212 : decode cX6_one 212 = .ok (.goto 206, 3) := by decide +kernel
theorem dX6_one_215 : decode cX6_one 215 = .ok (.aload_n 0, 1) := by decide +kernel
theorem dX6_one_216 : decode cX6_one 216 = .ok (.getfield 59, 3) := by decide +kernel
theorem dX6_one_219 : decode cX6_one 219 = .ok (.iload_n 3, 1) := by decide +kernel
theorem dX6_one_220 : decode cX6_one 220 = .ok (.aload_n 0, 1) := by decide +kernel
theorem dX6_one_221 : decode cX6_one 221 = .ok (.getfield 59, 3) := by decide +kernel
theorem dX6_one_224 : decode cX6_one 224 = .ok (.iload_n 3, 1) := by decide +kernel
theorem dX6_one_225 : decode cX6_one 225 = .ok (.iaload, 1) := by decide +kernel
theorem dX6_one_226 : decode cX6_one 226 = .ok (.iload 4, 2) := by decide +kernel
theorem dX6_one_228 : decode cX6_one 228 = .ok (.imul, 1) := by decide +kernel
theorem dX6_one_229 : decode cX6_one 229 = .ok (.iastore, 1) := by decide +kernel
theorem dX6_one_230 : decode cX6_one 230 = .ok (.goto 188, 3) := by decide +kernel
theorem dX6_one_233 : decode cX6_one 233 = .ok (.aload_n 0, 1) := by decide +kernel
theorem dX6_one_234 : decode cX6_one 234 = .ok (.getfield 59, 3) := by decide +kernel
theorem dX6_one_237 : decode cX6_one 237 = .ok (.iload_n 3, 1) := by decide +kernel
theorem dX6_one_238 : decode cX6_one 238 = .ok (.aload_n 0, 1) := by decide +kernel
theorem dX6_one_239 : decode cX6_one 239 = .ok (.getfield 59, 3) := by decide +kernel
theorem dX6_one_242 : decode cX6_one 242 = .ok (.iload_n 3, 1) := by decide +kernel
theorem dX6_one_243 : decode cX6_one 243 = .ok (.iaload, 1) := by decide +kernel
theorem dX6_one_244 : decode cX6_one 244 = .ok (.iload 4, 2) := by decide +kernel
theorem dX6_one_246 : decode cX6_one 246 = .ok (.iand, 1) := by decide +kernel
theorem dX6_one_247 : decode cX6_one 247 = .ok (.iastore, 1) := by decide +kernel
theorem dX6_one_248 : decode cX6_one 248 = .ok (.goto 170, 3) := by decide +kernel
theorem dX6_one_251 : decode cX6_one 251 = .ok (.aload_n 0, 1) := by decide +kernel
theorem dX6_one_252 : decode cX6_one 252 = .ok (.iload_n 3, 1) := by decide +kernel
theorem dX6_one_253 : decode cX6_one 253 = .ok (.aload_n 0, 1) := by decide +kernel
theorem dX6_one_254 : decode cX6_one 254 = .ok (.iload 4, 2) := by decide +kernel
theorem dX6_one_256 : decode cX6_one 256 = .ok (.iload 5, 2) := by decide +kernel
theorem dX6_one_258 : decode cX6_one 258 = .ok (.iadd, 1) := by decide +kernel
theorem dX6_one_259 : decode cX6_one 259 = .ok (.invokevirtual 240, 3) := by decide +kernel
theorem dX6_one_262 : decode cX6_one 262 = .ok (.invokevirtual 253, 3) := by decide +kernel
theorem dX6_one_265 : decode cX6_one 265 = .ok (.goto 153, 3) := by decide +kernel
theorem dX6_one_268 : decode cX6_one 268 = .ok (.aload_n 0, 1) := by decide +kernel
theorem dX6_one_269 : decode cX6_one 269 = .ok (.iload 4, 2) := by decide +kernel
theorem dX6_one_271 : decode cX6_one 271 = .ok (.iload 5, 2) := by decide +kernel
theorem dX6_one_273 : decode cX6_one 273 = .ok (.iadd, 1) := by decide +kernel
theorem dX6_one_274 : decode cX6_one 274 = .ok (.aload_n 0, 1) := by decide +kernel
theorem dX6_one_275 : decode cX6_one 275 = .ok (.getfield 59, 3) := by decide +kernel
theorem dX6_one_278 : decode cX6_one 278 = .ok (.iload_n 3, 1) := by decide +kernel
theorem dX6_one_279 : decode cX6_one 279 = .ok (.iaload, 1) := by decide +kernel
theorem dX6_one_280 : decode cX6_one 280 = .ok (.invokevirtual 247, 3) := by decide +kernel
theorem dX6_one_283 : decode cX6_one 283 = .ok (.goto 135, 3) := by decide +kernel
theorem dX6_one_286 : decode cX6_one 286 = .ok (.aload_n 0, 1) := by decide +kernel
theorem dX6_one_287 : decode cX6_one 287 = .ok (.aload_n 0, 1) := by decide +kernel
theorem dX6_one_288 : decode cX6_one 288 = .ok (.getfield 59, 3) := by decide +kernel
theorem dX6_one_291 : decode cX6_one 291 = .ok (.iload_n 3, 1) := by decide +kernel
theorem dX6_one_292 : decode cX6_one 292 = .ok (.iaload, 1) := by decide +kernel
theorem dX6_one_293 : decode cX6_one 293 = .ok (.ifCond .eq 13, 3) := by decide +kernel
theorem dX6_one_296 : decode cX6_one 296 = .ok (.aload_n 0, 1) := by decide +kernel
theorem dX6_one_297 : decode cX6_one 297 = .ok (.getfield 250, 3) := by decide +kernel
theorem dX6_one_300 : decode cX6_one 300 = .ok (.iload 5, 2) := by decide +kernel
theorem dX6_one_302 : decode cX6_one 302 = .ok (.iadd, 1) := by decide +kernel
theorem dX6_one_303 : decode cX6_one 303 = .ok (.goto 7, 3) := by decide +kernel
theorem dX6_one_306 : decode cX6_one 306 = .ok (.aload_n 0, 1) := by decide +kernel
theorem dX6_one_307 : decode cX6_one 307 = .ok (.getfield 250, 3) := by decide +kernel
theorem dX6_one_310 : decode cX6_one 310 = .ok (.putfield 250, 3) := by decide +kernel
theorem dX6_one_313 : decode cX6_one 313 = .ok (.goto 105, 3) := by decide +kernel
theorem dX6_one_316 : decode cX6_one 316 = .ok (.aload_n 0, 1) := by decide +kernel
theorem dX6_one_317 : decode cX6_one 317 = .ok (.aload_n 0, 1) := by decide +kernel
theorem dX6_one_318 : decode cX6_one 318 = .ok (.getfield 59, 3) := by decide +kernel
theorem dX6_one_321 : decode cX6_one 321 = .ok (.iload_n 3, 1) := by decide +kernel
theorem dX6_one_322 : decode cX6_one 322 = .ok (.iaload, 1) := by decide +kernel
theorem dX6_one_323 : decode cX6_one 323 = .ok (.iload 4, 2) := by decide +kernel
theorem dX6_one_325 : decode cX6_one 325 = .ok (.invokevirtual 256, 3) := by decide +kernel
theorem dX6_one_328 : decode cX6_one 328 = .ok (.goto 90, 3) := by decide +kernel
theorem dX6_one_331 : decode cX6_one 331 = .ok (.aload_n 0, 1) := by decide +kernel
theorem dX6_one_332 : decode cX6_one 332 = .ok (.iload_n 3, 1) := by decide +kernel
theorem dX6_one_333 : decode cX6_one 333 = .ok (.aload_n 0, 1) := by decide +kernel
theorem dX6_one_334 : decode cX6_one 334 = .ok (.iload 4, 2) := by decide +kernel
theorem dX6_one_336 : decode cX6_one 336 = .ok (.invokevirtual 259, 3) := by decide +kernel
theorem dX6_one_339 : decode cX6_one 339 = .ok (.invokevirtual 253, 3) := by decide +kernel
theorem dX6_one_342 : decode cX6_one 342 = .ok (.goto 76, 3) := by decide +kernel
theorem dX6_one_345 : decode cX6_one 345 = .ok (.aload_n 0, 1) := by decide +kernel
theorem dX6_one_346 : decode cX6_one 346 = .ok (.getfield 59, 3) := by decide +kernel
theorem dX6_one_349 : decode cX6_one 349 = .ok (.iload_n 3, 1) := by decide +kernel
theorem dX6_one_350 : decode cX6_one 350 = .ok (.aload_n 0, 1) := by decide +kernel
theorem dX6_one_351 : decode cX6_one 351 = .ok (.getfield 43, 3) := by decide +kernel
theorem dX6_one_354 : decode cX6_one 354 = .ok (.bipush 8, 2) := by decide +kernel
theorem dX6_one_356 : decode cX6_one 356 = .ok (.aload_n 0, 1) := by decide +kernel
theorem dX6_one_357 : decode cX6_one 357 = .ok (.getfield 231, 3) := by decide +kernel
theorem dX6_one_360 : decode cX6_one 360 = .ok (.imul, 1) := by decide +kernel
theorem dX6_one_361 : decode cX6_one 361 = .ok (.iload 5, 2) := by decide +kernel
theorem dX6_one_363 : decode cX6_one 363 = .ok (.bipush 7, 2) := by decide +kernel
theorem dX6_one_365 : decode cX6_one 365 = .ok (.iand, 1) := by decide +kernel
theorem dX6_one_366 : decode cX6_one 366 = .ok (.iadd, 1) := by decide +kernel
theorem dX6_one_367 : decode cX6_one 367 = .ok (.iaload, 1) := by decide +kernel
theorem dX6_one_368 : decode cX6_one 368 = .ok (.iastore, 1) := by decide +kernel
theorem dX6_one_369 : decode cX6_one 369 = .ok (.goto 49, 3) := by decide +kernel
theorem dX6_one_372 : decode cX6_one 372 = .ok (.aload_n 0, 1) := by decide +kernel
theorem dX6_one_373 : decode cX6_one 373 = .ok (.getfield 59, 3) := by decide +kernel
theorem dX6_one_376 : decode cX6_one 376 = .ok (.iload_n 3, 1) := by decide +kernel
theorem dX6_one_377 : decode cX6_one 377 = .ok (.aload_n 0, 1) := by decide +kernel
theorem dX6_one_378 : decode cX6_one 378 = .ok (.aload_n 0, 1) := by decide +kernel
theorem dX6_one_379 : decode cX6_one 379 = .ok (.getfield 59, 3) := by decide +kernel
theorem dX6_one_382 : decode cX6_one 382 = .ok (.iload_n 3, 1) := by decide +kernel
theorem dX6_one_383 : decode cX6_one 383 = .ok (.iaload, 1) := by decide +kernel
theorem dX6_one_384 : decode cX6_one 384 = .ok (.iload 4, 2) := by decide +kernel
theorem dX6_one_386 : decode cX6_one 386 = .ok (.iload 5, 2) := by decide +kernel
theorem dX6_one_388 : decode cX6_one 388 = .ok (.bipush 7, 2) := by decide +kernel
theorem dX6_one_390 : decode cX6_one 390 = .ok (.iand, 1) := by decide +kernel
theorem dX6_one_391 : decode cX6_one 391 = .ok (.invokevirtual 262, 3) := by decide +kernel
theorem dX6_one_394 : decode cX6_one 394 = .ok (.iastore, 1) := by decide +kernel
theorem dX6_one_395 : decode cX6_one 395 = .ok (.goto 23, 3) := by decide +kernel
theorem dX6_one_398 : decode cX6_one 398 = .ok (.aload_n 0, 1) := by decide +kernel
theorem dX6_one_399 : decode cX6_one 399 = .ok (.getfield 59, 3) := by decide +kernel
theorem dX6_one_402 : decode cX6_one 402 = .ok (.iload_n 3, 1) := by decide +kernel
theorem dX6_one_403 : decode cX6_one 403 = .ok (.aload_n 0, 1) := by decide +kernel
theorem dX6_one_404 : decode cX6_one 404 = .ok (.iload 4, 2) := by decide +kernel
theorem dX6_one_406 : decode cX6_one 406 = .ok (.invokevirtual 266, 3) := by decide +kernel
theorem dX6_one_409 : decode cX6_one 409 = .ok (.iastore, 1) := by decide +kernel
theorem dX6_one_410 : decode cX6_one 410 = .ok (.goto 8, 3) := by decide +kernel
theorem dX6_one_413 : decode cX6_one 413 = .ok (.aload_n 0, 1) := by decide +kernel
theorem dX6_one_414 : decode cX6_one 414 = .ok (.iconst 4, 1) := by decide +kernel
theorem dX6_one_415 : decode cX6_one 415 = .ok (.putfield 237, 3) := by decide +kernel
theorem dX6_one_418 : decode cX6_one 418 = .ok (.iconst 0, 1) := by decide +kernel
theorem dX6_one_419 : decode cX6_one 419 = .ok (.ireturn, 1) := by decide +kernel
set_option maxRecDepth 20000 in
theorem ggX6_run_X6_one : GoodIn wsX6_run wsX6_one := goodIn_r _ [15, 10, 5, 16, 17, 9, 6, 18, 3, 19, 20, 21, 14, 22, 23, 24, 25, 26, 27, 28, 29, 30, 31, 32, 33, 34, 35, 36, 37, 38, 39, 40, 41, 42, 43, 44, 45, 46, 47, 48, 49, 50, 51, 52, 53, 54, 55, 56, 57, 58, 59, 60, 61, 62, 63, 64, 65, 66, 67, 68, 69, 70, 71, 72, 73, 74, 75, 76, 77, 78, 79, 80, 81, 1, 82, 83, 84, 85, 86, 87, 88, 89, 90, 91, 92, 93, 94, 95, 96, 97, 98, 99, 100, 101, 102, 103, 104, 105, 106, 107, 108, 109, 110, 111, 112, 113, 114, 115, 116, 117, 118, 119, 120, 121, 122, 123, 124, 125, 126, 127, 128, 129, 130, 131, 132, 133, 134, 135, 136] (by decide +kernel) (by decide +kernel)
set_option maxRecDepth 20000 in
theorem gX6_run_X6_one : GoodIn wsX6_run (wsV RX6 275 RX6 yX6_one wsX6_one) := goodIn_app (goodIn_of _ (by decide +kernel)) ggX6_run_X6_one
theorem dX6_run_0 : decode cX6_run 0 = .ok (.aload_n 0, 1) := by decide +kernel
theorem dX6_run_1 : decode cX6_run 1 = .ok (.aload_n 0, 1) := by decide +kernel
theorem dX6_run_2 : decode cX6_run 2 = .ok (.getfield 19, 3) := by decide +kernel
theorem dX6_run_5 : decode cX6_run 5 = .ok (.aload_n 0, 1) := by decide +kernel
theorem dX6_run_6 : decode cX6_run 6 = .ok (.getfield 269, 3) := by decide +kernel
theorem dX6_run_9 : decode cX6_run 9 = .ok (.iaload, 1) := by decide +kernel
theorem dX6_run_10 : decode cX6_run 10 = .ok (.putfield 231, 3) := by decide +kernel
theorem dX6_run_13 : decode cX6_run 13 = .ok (.aload_n 0, 1) := by decide +kernel
theorem dX6_run_14 : decode cX6_run 14 = .ok (.getfield 53, 3) := by decide +kernel
theorem dX6_run_17 : decode cX6_run 17 = .ok (.aload_n 0, 1) := by decide +kernel
theorem dX6_run_18 : decode cX6_run 18 = .ok (.getfield 269, 3) := by decide +kernel
theorem dX6_run_21 : decode cX6_run 21 = .ok (.iconst 0, 1) := by decide +kernel
theorem dX6_run_22 : decode cX6_run 22 = .ok (.bastore, 1) := by decide +kernel
theorem dX6_run_23 : decode cX6_run 23 = .ok (.aload_n 0, 1) := by decide +kernel
theorem dX6_run_24 : decode cX6_run 24 = .ok (.iconst 0, 1) := by decide +kernel
theorem dX6_run_25 : decode cX6_run 25 = .ok (.putfield 237, 3) := by decide +kernel
theorem dX6_run_28 : decode cX6_run 28 = .ok (.aload_n 0, 1) := by decide +kernel
theorem dX6_run_29 : decode cX6_run 29 = .ok (.iconst 0, 1) := by decide +kernel
theorem dX6_run_30 : decode cX6_run 30 = .ok (.putfield 162, 3) := by decide +kernel
theorem dX6_run_33 : decode cX6_run 33 = .ok (.aload_n 0, 1) := by decide +kernel
theorem dX6_run_34 : decode cX6_run 34 = .ok (.iconst 0, 1) := by decide +kernel
theorem dX6_run_35 : decode cX6_run 35 = .ok (.putfield 272, 3) := by decide +kernel
theorem dX6_run_38 : decode cX6_run 38 = .ok (.aload_n 0, 1) := by decide +kernel
theorem dX6_run_39 : decode cX6_run 39 = .ok (.getfield 272, 3) := by decide +kernel
theorem dX6_run_42 : decode cX6_run 42 = .ok (.iload_n 1, 1) := by decide +kernel
theorem dX6_run_43 : decode cX6_run 43 = .ok (.if_icmp .ge 40, 3) := by decide +kernel
theorem dX6_run_46 : decode cX6_run 46 = .ok (.aload_n 0, 1) := by decide +kernel
theorem dX6_run_47 : decode cX6_run 47 = .ok (.dup, 1) := by decide +kernel
theorem dX6_run_48 : decode cX6_run 48 = .ok (.getfield 272, 3) := by decide +kernel
theorem dX6_run_51 : decode cX6_run 51 = .ok (.iconst 1, 1) := by decide +kernel
theorem dX6_run_52 : decode cX6_run 52 = .ok (.iadd, 1) := by decide +kernel
theorem dX6_run_53 : decode cX6_run 53 = .ok (.putfield 272, 3) := by decide +kernel
theorem dX6_run_56 : decode cX6_run 56 = .ok (.aload_n 0, 1) := by decide +kernel
theorem dX6_run_57 : decode cX6_run 57 = .ok (.invokevirtual 275, 3) := by decide +kernel
theorem dX6_run_60 : decode cX6_run 60 = .ok (.ifCond .eq 5, 3) := by decide +kernel
theorem dX6_run_63 : decode cX6_run 63 = .ok (.iconst 0, 1) := by decide +kernel
theorem dX6_run_64 : decode cX6_run 64 = .ok (.ireturn, 1) := by decide +kernel
theorem dX6_run_65 : decode cX6_run 65 = .ok (.aload_n 0, 1) := by decide +kernel
theorem dX6_run_66 : decode cX6_run 66 = .ok (.getfield 237, 3) := by decide +kernel
theorem dX6_run_69 : decode cX6_run 69 = .ok (.ifCond .le (-31), 3) := by decide +kernel
theorem dX6_run_72 : decode cX6_run 72 = .ok (.aload_n 0, 1) := by decide +kernel
theorem dX6_run_73 : decode cX6_run 73 = .ok (.aload_n 0, 1) := by decide +kernel
theorem dX6_run_74 : decode cX6_run 74 = .ok (.getfield 237, 3) := by decide +kernel
theorem dX6_run_77 : decode cX6_run 77 = .ok (.putfield 162, 3) := by decide +kernel
theorem dX6_run_80 : decode cX6_run 80 = .ok (.bipush 9, 2) := by decide +kernel
theorem dX6_run_82 : decode cX6_run 82 = .ok (.ireturn, 1) := by decide +kernel
theorem dX6_run_83 : decode cX6_run 83 = .ok (.aload_n 0, 1) := by decide +kernel
theorem dX6_run_84 : decode cX6_run 84 = .ok (.getfield 53, 3) := by decide +kernel
theorem dX6_run_87 : decode cX6_run 87 = .ok (.aload_n 0, 1) := by decide +kernel
theorem dX6_run_88 : decode cX6_run 88 = .ok (.getfield 269, 3) := by decide +kernel
theorem dX6_run_91 : decode cX6_run 91 = .ok (.iconst 1, 1) := by decide +kernel
theorem dX6_run_92 : decode cX6_run 92 = .ok (.bastore, 1) := by decide +kernel
theorem dX6_run_93 : decode cX6_run 93 = .ok (.iconst 0, 1) := by decide +kernel
theorem dX6_run_94 : decode cX6_run 94 = .ok (.istore_n 2, 1) := by decide +kernel
theorem dX6_run_95 : decode cX6_run 95 = .ok (.iload_n 2, 1) := by decide +kernel
theorem dX6_run_96 : decode cX6_run 96 = .ok (.iconst 4, 1) := by decide +kernel
theorem dX6_run_97 : decode cX6_run 97 = .ok (.if_icmp .ge 28, 3) := by decide +kernel
theorem dX6_run_100 : decode cX6_run 100 = .ok (.aload_n 0, 1) := by decide +kernel
theorem dX6_run_101 : decode cX6_run 101 = .ok (.getfield 56, 3) := by decide +kernel
theorem dX6_run_104 : decode cX6_run 104 = .ok (.iconst 5, 1) := by decide +kernel
theorem dX6_run_105 : decode cX6_run 105 = .ok (.aload_n 0, 1) := by decide +kernel
theorem dX6_run_106 : decode cX6_run 106 = .ok (.getfield 269, 3) := by decide +kernel
theorem dX6_run_109 : decode cX6_run 109 = .ok (.imul, 1) := by decide +kernel
theorem dX6_run_110 : decode cX6_run 110 = .ok (.iload_n 2, 1) := by decide +kernel
theorem dX6_run_111 : decode cX6_run 111 = .ok (.iadd, 1) := by decide +kernel
theorem dX6_run_112 : decode cX6_run 112 = .ok (.aload_n 0, 1) := by decide +kernel
theorem dX6_run_113 : decode cX6_run 113 = .ok (.getfield 59, 3) := by decide +kernel
theorem dX6_run_116 : decode cX6_run 116 = .ok (.iload_n 2, 1) := by decide +kernel
theorem dX6_run_117 : decode cX6_run 117 = .ok (.iaload, 1) := by decide +kernel
theorem dX6_run_118 : decode cX6_run 118 = .ok (.iastore, 1) := by decide +kernel
theorem dX6_run_119 : decode cX6_run 119 = .ok (.iinc 2 1, 3) := by decide +kernel
theorem dX6_run_122 : decode cX6_run 122 = .ok (.goto (-27), 3) := by decide +kernel
theorem dX6_run_125 : decode cX6_run 125 = .ok (.aload_n 0, 1) := by decide +kernel
theorem dX6_run_126 : decode cX6_run 126 = .ok (.getfield 56, 3) := by decide +kernel
theorem dX6_run_129 : decode cX6_run 129 = .ok (.iconst 5, 1) := by decide +kernel
theorem dX6_run_130 : decode cX6_run 130 = .ok (.aload_n 0, 1) := by decide +kernel
theorem dX6_run_131 : decode cX6_run 131 = .ok (.getfield 269, 3) := by decide +kernel
theorem dX6_run_134 : decode cX6_run 134 = .ok (.imul, 1) := by decide +kernel
theorem dX6_run_135 : decode cX6_run 135 = .ok (.iconst 4, 1) := by decide +kernel
theorem dX6_run_136 : decode cX6_run 136 = .ok (.iadd, 1) := by decide +kernel
theorem dX6_run_137 : decode cX6_run 137 = .ok (.aload_n 0, 1) := by decide +kernel
theorem dX6_run_138 : decode cX6_run 138 = .ok (.getfield 250, 3) := by decide +kernel
theorem dX6_run_141 : decode cX6_run 141 = .ok (.iastore, 1) := by decide +kernel
theorem dX6_run_142 : decode cX6_run 142 = .ok (.bipush 8, 2) := by decide +kernel
theorem dX6_run_144 : decode cX6_run 144 = .ok (.ireturn, 1) := by decide +kernel
set_option maxRecDepth 20000 in
theorem ggX6_wantThread_X6_begin : GoodIn wsX6_wantThread wsX6_begin := goodIn_r _ [9, 10, 1, 23, 24, 25, 26, 27, 28, 29, 30, 31, 32, 33, 34, 35, 36, 37, 38, 39, 40, 41, 42, 43, 44, 45, 46, 47, 48, 49, 50, 51, 52, 53, 54] (by decide +kernel) (by decide +kernel)
set_option maxRecDepth 20000 in
theorem gX6_wantThread_X6_begin : GoodIn wsX6_wantThread (wsV RX6 203 RX6 yX6_begin wsX6_begin) := goodIn_app (goodIn_of _ (by decide +kernel)) ggX6_wantThread_X6_begin
set_option maxRecDepth 20000 in
theorem ggX6_wantThread_X6_noPage : GoodIn wsX6_wantThread wsX6_noPage := goodIn_r _ [13] (by decide +kernel) (by decide +kernel)
set_option maxRecDepth 20000 in
theorem gX6_wantThread_X6_noPage : GoodIn wsX6_wantThread (va_wsS RX6 186 yX6_noPage wsX6_noPage) := goodIn_app (goodIn_of _ (by decide +kernel)) ggX6_wantThread_X6_noPage
set_option maxRecDepth 20000 in
theorem ggX6_wantThread_X6_wrong : GoodIn wsX6_wantThread wsX6_wrong := goodIn_r _ [17, 1, 23, 24, 25, 26, 27, 28, 29, 30, 31, 32, 33, 34, 35, 36, 37, 38, 39, 40, 41, 42, 43, 44, 45, 46, 47, 48, 49, 50, 51, 52, 53, 54] (by decide +kernel) (by decide +kernel)
set_option maxRecDepth 20000 in
theorem gX6_wantThread_X6_wrong : GoodIn wsX6_wantThread (wsV RX6 193 RX6 yX6_wrong wsX6_wrong) := goodIn_app (goodIn_of _ (by decide +kernel)) ggX6_wantThread_X6_wrong
set_option maxRecDepth 20000 in
theorem ggX6_wantThread_X6_isKind : GoodIn wsX6_wantThread wsX6_isKind := goodIn_r _ [21, 22, 11, 12, 8, 13, 23, 24, 25, 26, 27, 28, 29, 30, 31, 32, 33, 34, 35, 36, 37, 38, 39, 40, 41, 42, 43, 44, 45, 46, 47, 48, 49, 50, 51, 52, 53, 54] (by decide +kernel) (by decide +kernel)
set_option maxRecDepth 20000 in
theorem gX6_wantThread_X6_isKind : GoodIn wsX6_wantThread (wsV RX6 189 RX6 yX6_isKind wsX6_isKind) := goodIn_app (goodIn_of _ (by decide +kernel)) ggX6_wantThread_X6_isKind
theorem dX6_wantThread_0 : decode cX6_wantThread 0 = .ok (.aload_n 0, 1) := by decide +kernel
theorem dX6_wantThread_1 : decode cX6_wantThread 1 = .ok (.invokevirtual 203, 3) := by decide +kernel
theorem dX6_wantThread_4 : decode cX6_wantThread 4 = .ok (.aload_n 0, 1) := by decide +kernel
theorem dX6_wantThread_5 : decode cX6_wantThread 5 = .ok (.iload_n 1, 1) := by decide +kernel
theorem dX6_wantThread_6 : decode cX6_wantThread 6 = .ok (.invokestatic 186, 3) := by decide +kernel
theorem dX6_wantThread_9 : decode cX6_wantThread 9 = .ok (.ifCond .ne 15, 3) := by decide +kernel
theorem dX6_wantThread_12 : decode cX6_wantThread 12 = .ok (.iload_n 2, 1) := by decide +kernel
theorem dX6_wantThread_13 : decode cX6_wantThread 13 = .ok (.iconst 1, 1) := by decide +kernel
theorem dX6_wantThread_14 : decode cX6_wantThread 14 = .ok (.if_icmp .lt 10, 3) := by decide +kernel
theorem dX6_wantThread_17 : decode cX6_wantThread 17 = .ok (.iload_n 2, 1) := by decide +kernel
theorem dX6_wantThread_18 : decode cX6_wantThread 18 = .ok (.sipush 2000, 3) := by decide +kernel
theorem dX6_wantThread_21 : decode cX6_wantThread 21 = .ok (.if_icmp .le 7, 3) := by decide +kernel
theorem dX6_wantThread_24 : decode cX6_wantThread 24 = .ok (.iconst 1, 1) := by decide +kernel
theorem dX6_wantThread_25 : decode cX6_wantThread 25 = .ok (.goto 4, 3) := by decide +kernel
theorem dX6_wantThread_28 : decode cX6_wantThread 28 = .ok (.iconst 0, 1) := by decide +kernel
theorem dX6_wantThread_29 : decode cX6_wantThread 29 = .ok (.iconst 1, 1) := by decide +kernel
theorem dX6_wantThread_30 : decode cX6_wantThread 30 = .ok (.invokevirtual 193, 3) := by decide +kernel
theorem dX6_wantThread_33 : decode cX6_wantThread 33 = .ok (.aload_n 0, 1) := by decide +kernel
theorem dX6_wantThread_34 : decode cX6_wantThread 34 = .ok (.aload_n 0, 1) := by decide +kernel
theorem dX6_wantThread_35 : decode cX6_wantThread 35 = .ok (.iload_n 1, 1) := by decide +kernel
theorem dX6_wantThread_36 : decode cX6_wantThread 36 = .ok (.iconst 2, 1) := by decide +kernel
theorem dX6_wantThread_37 : decode cX6_wantThread 37 = .ok (.invokevirtual 189, 3) := by decide +kernel
theorem dX6_wantThread_40 : decode cX6_wantThread 40 = .ok (.ifCond .ne 7, 3) := by decide +kernel
theorem dX6_wantThread_43 : decode cX6_wantThread 43 = .ok (.iconst 1, 1) := by decide +kernel
theorem dX6_wantThread_44 : decode cX6_wantThread 44 = .ok (.goto 4, 3) := by decide +kernel
theorem dX6_wantThread_47 : decode cX6_wantThread 47 = .ok (.iconst 0, 1) := by decide +kernel
theorem dX6_wantThread_48 : decode cX6_wantThread 48 = .ok (.iconst 3, 1) := by decide +kernel
theorem dX6_wantThread_49 : decode cX6_wantThread 49 = .ok (.invokevirtual 193, 3) := by decide +kernel
theorem dX6_wantThread_52 : decode cX6_wantThread 52 = .ok (.aload_n 0, 1) := by decide +kernel
theorem dX6_wantThread_53 : decode cX6_wantThread 53 = .ok (.aload_n 0, 1) := by decide +kernel
theorem dX6_wantThread_54 : decode cX6_wantThread 54 = .ok (.getfield 183, 3) := by decide +kernel
theorem dX6_wantThread_57 : decode cX6_wantThread 57 = .ok (.ifCond .ne 22, 3) := by decide +kernel
theorem dX6_wantThread_60 : decode cX6_wantThread 60 = .ok (.aload_n 0, 1) := by decide +kernel
theorem dX6_wantThread_61 : decode cX6_wantThread 61 = .ok (.getfield 22, 3) := by decide +kernel
theorem dX6_wantThread_64 : decode cX6_wantThread 64 = .ok (.aload_n 0, 1) := by decide +kernel
theorem dX6_wantThread_65 : decode cX6_wantThread 65 = .ok (.getfield 19, 3) := by decide +kernel
theorem dX6_wantThread_68 : decode cX6_wantThread 68 = .ok (.iload_n 1, 1) := by decide +kernel
theorem dX6_wantThread_69 : decode cX6_wantThread 69 = .ok (.iaload, 1) := by decide +kernel
theorem dX6_wantThread_70 : decode cX6_wantThread 70 = .ok (.iaload, 1) := by decide +kernel
theorem dX6_wantThread_71 : decode cX6_wantThread 71 = .ok (.iconst 1, 1) := by decide +kernel
theorem dX6_wantThread_72 : decode cX6_wantThread 72 = .ok (.if_icmp .eq 7, 3) := by decide +kernel
theorem dX6_wantThread_75 : decode cX6_wantThread 75 = .ok (.iconst 1, 1) := by decide +kernel
theorem dX6_wantThread_76 : decode cX6_wantThread 76 = .ok (.goto 4, 3) := by decide +kernel
theorem dX6_wantThread_79 : decode cX6_wantThread 79 = .ok (.iconst 0, 1) := by decide +kernel
theorem dX6_wantThread_80 : decode cX6_wantThread 80 = .ok (.iconst 4, 1) := by decide +kernel
theorem dX6_wantThread_81 : decode cX6_wantThread 81 = .ok (.invokevirtual 193, 3) := by decide +kernel
theorem dX6_wantThread_84 : decode cX6_wantThread 84 = .ok (.aload_n 0, 1) := by decide +kernel
theorem dX6_wantThread_85 : decode cX6_wantThread 85 = .ok (.aload_n 0, 1) := by decide +kernel
end
section
theorem dX6_wantThread_86 : decode cX6_wantThread 86 = .ok (.getfield 183, 3) := by decide +kernel
theorem dX6_wantThread_89 : decode cX6_wantThread 89 = .ok (.ifCond .ne 17, 3) := by decide +kernel
theorem dX6_wantThread_92 : decode cX6_wantThread 92 = .ok (.aload_n 0, 1) := by decide +kernel
theorem dX6_wantThread_93 : decode cX6_wantThread 93 = .ok (.getfield 53, 3) := by decide +kernel
theorem dX6_wantThread_96 : decode cX6_wantThread 96 = .ok (.iload_n 1, 1) := by decide +kernel
theorem dX6_wantThread_97 : decode cX6_wantThread 97 = .ok (.baload, 1) := by decide +kernel
theorem dX6_wantThread_98 : decode cX6_wantThread 98 = .ok (.iload_n 3, 1) := by decide +kernel
theorem dX6_wantThread_99 : decode cX6_wantThread 99 = .ok (.if_icmp .eq 7, 3) := by decide +kernel
theorem dX6_wantThread_102 : decode cX6_wantThread 102 = .ok (.iconst 1, 1) := by decide +kernel
theorem dX6_wantThread_103 : decode cX6_wantThread 103 = .ok (.goto 4, 3) := by decide +kernel
theorem dX6_wantThread_106 : decode cX6_wantThread 106 = .ok (.iconst 0, 1) := by decide +kernel
theorem dX6_wantThread_107 : decode cX6_wantThread 107 = .ok (.bipush 6, 2) := by decide +kernel
theorem dX6_wantThread_109 : decode cX6_wantThread 109 = .ok (.invokevirtual 193, 3) := by decide +kernel
theorem dX6_wantThread_112 : decode cX6_wantThread 112 = .ok (.return_, 1) := by decide +kernel
set_option maxRecDepth 20000 in
theorem ggX6_enter_X6_wantThread : GoodIn wsX6_enter wsX6_wantThread := goodIn_r _ [10, 1, 11, 12, 13, 14, 15, 16, 9, 17, 18, 19, 20, 21, 22, 23, 24, 25, 26, 27, 28, 29, 30, 125, 126, 127, 128, 129, 130, 131, 132, 133, 134, 135, 136, 137, 138, 139, 140, 141, 142, 143, 144, 145, 146, 147, 148, 149, 150, 151, 152, 153, 154, 155, 156] (by decide +kernel) (by decide +kernel)
set_option maxRecDepth 20000 in
theorem gX6_enter_X6_wantThread : GoodIn wsX6_enter (wsV RX6 279 RX6 yX6_wantThread wsX6_wantThread) := goodIn_app (goodIn_of _ (by decide +kernel)) ggX6_enter_X6_wantThread
set_option maxRecDepth 20000 in
theorem ggX6_enter_X6_run : GoodIn wsX6_enter wsX6_run := goodIn_r _ [34, 12, 2, 35, 13, 36, 37, 38, 39, 3, 5, 40, 41, 42, 9, 43, 44, 45, 46, 47, 48, 49, 50, 51, 52, 53, 54, 55, 56, 57, 58, 59, 60, 61, 62, 63, 64, 65, 66, 67, 68, 69, 70, 71, 72, 73, 74, 75, 76, 77, 78, 79, 80, 81, 82, 83, 84, 85, 86, 87, 88, 89, 90, 91, 92, 93, 94, 95, 96, 97, 98, 99, 100, 101, 102, 103, 104, 105, 106, 107, 108, 109, 26, 27, 28, 29, 30, 19, 20, 21, 110, 111, 112, 113, 114, 115, 116, 117, 118, 119, 120, 121, 122, 123, 124, 125, 126, 127, 128, 129, 130, 131, 132, 133, 134, 135, 136, 137, 138, 139, 140, 141, 142, 143, 144, 145, 146, 147, 148, 149, 150, 151, 152, 153, 154, 155, 156] (by decide +kernel) (by decide +kernel)
set_option maxRecDepth 20000 in
theorem gX6_enter_X6_run : GoodIn wsX6_enter (wsV RX6 283 RX6 yX6_run wsX6_run) := goodIn_app (goodIn_of _ (by decide +kernel)) ggX6_enter_X6_run
theorem dX6_enter_0 : decode cX6_enter 0 = .ok (.aload_n 0, 1) := by decide +kernel
theorem dX6_enter_1 : decode cX6_enter 1 = .ok (.iload_n 1, 1) := by decide +kernel
theorem dX6_enter_2 : decode cX6_enter 2 = .ok (.iload 4, 2) := by decide +kernel
theorem dX6_enter_4 : decode cX6_enter 4 = .ok (.iconst 0, 1) := by decide +kernel
theorem dX6_enter_5 : decode cX6_enter 5 = .ok (.invokevirtual 279, 3) := by decide +kernel
theorem dX6_enter_8 : decode cX6_enter 8 = .ok (.aload_n 0, 1) := by decide +kernel
theorem dX6_enter_9 : decode cX6_enter 9 = .ok (.getfield 183, 3) := by decide +kernel
theorem dX6_enter_12 : decode cX6_enter 12 = .ok (.ifCond .le 8, 3) := by decide +kernel
theorem dX6_enter_15 : decode cX6_enter 15 = .ok (.aload_n 0, 1) := by decide +kernel
theorem dX6_enter_16 : decode cX6_enter 16 = .ok (.getfield 183, 3) := by decide +kernel
theorem dX6_enter_19 : decode cX6_enter 19 = .ok (.ireturn, 1) := by decide +kernel
theorem dX6_enter_20 : decode cX6_enter 20 = .ok (.aload_n 0, 1) := by decide +kernel
theorem dX6_enter_21 : decode cX6_enter 21 = .ok (.iload_n 1, 1) := by decide +kernel
theorem dX6_enter_22 : decode cX6_enter 22 = .ok (.putfield 269, 3) := by decide +kernel
theorem dX6_enter_25 : decode cX6_enter 25 = .ok (.aload_n 0, 1) := by decide +kernel
theorem dX6_enter_26 : decode cX6_enter 26 = .ok (.getfield 59, 3) := by decide +kernel
theorem dX6_enter_29 : decode cX6_enter 29 = .ok (.iconst 0, 1) := by decide +kernel
theorem dX6_enter_30 : decode cX6_enter 30 = .ok (.iload_n 2, 1) := by decide +kernel
theorem dX6_enter_31 : decode cX6_enter 31 = .ok (.iastore, 1) := by decide +kernel
theorem dX6_enter_32 : decode cX6_enter 32 = .ok (.aload_n 0, 1) := by decide +kernel
theorem dX6_enter_33 : decode cX6_enter 33 = .ok (.getfield 59, 3) := by decide +kernel
theorem dX6_enter_36 : decode cX6_enter 36 = .ok (.iconst 1, 1) := by decide +kernel
theorem dX6_enter_37 : decode cX6_enter 37 = .ok (.iload_n 3, 1) := by decide +kernel
theorem dX6_enter_38 : decode cX6_enter 38 = .ok (.iastore, 1) := by decide +kernel
theorem dX6_enter_39 : decode cX6_enter 39 = .ok (.aload_n 0, 1) := by decide +kernel
theorem dX6_enter_40 : decode cX6_enter 40 = .ok (.getfield 59, 3) := by decide +kernel
theorem dX6_enter_43 : decode cX6_enter 43 = .ok (.iconst 2, 1) := by decide +kernel
theorem dX6_enter_44 : decode cX6_enter 44 = .ok (.iconst 0, 1) := by decide +kernel
theorem dX6_enter_45 : decode cX6_enter 45 = .ok (.iastore, 1) := by decide +kernel
theorem dX6_enter_46 : decode cX6_enter 46 = .ok (.aload_n 0, 1) := by decide +kernel
theorem dX6_enter_47 : decode cX6_enter 47 = .ok (.getfield 59, 3) := by decide +kernel
theorem dX6_enter_50 : decode cX6_enter 50 = .ok (.iconst 3, 1) := by decide +kernel
theorem dX6_enter_51 : decode cX6_enter 51 = .ok (.iconst 0, 1) := by decide +kernel
theorem dX6_enter_52 : decode cX6_enter 52 = .ok (.iastore, 1) := by decide +kernel
theorem dX6_enter_53 : decode cX6_enter 53 = .ok (.aload_n 0, 1) := by decide +kernel
theorem dX6_enter_54 : decode cX6_enter 54 = .ok (.aload_n 0, 1) := by decide +kernel
theorem dX6_enter_55 : decode cX6_enter 55 = .ok (.getfield 50, 3) := by decide +kernel
theorem dX6_enter_58 : decode cX6_enter 58 = .ok (.iload_n 1, 1) := by decide +kernel
theorem dX6_enter_59 : decode cX6_enter 59 = .ok (.iaload, 1) := by decide +kernel
theorem dX6_enter_60 : decode cX6_enter 60 = .ok (.putfield 250, 3) := by decide +kernel
theorem dX6_enter_63 : decode cX6_enter 63 = .ok (.aload_n 0, 1) := by decide +kernel
theorem dX6_enter_64 : decode cX6_enter 64 = .ok (.iload 4, 2) := by decide +kernel
theorem dX6_enter_66 : decode cX6_enter 66 = .ok (.invokevirtual 283, 3) := by decide +kernel
theorem dX6_enter_69 : decode cX6_enter 69 = .ok (.ireturn, 1) := by decide +kernel
set_option maxRecDepth 20000 in
theorem ggX6_resume_X6_wantThread : GoodIn wsX6_resume wsX6_wantThread := goodIn_r _ [10, 1, 11, 12, 13, 14, 15, 16, 9, 17, 18, 19, 20, 21, 22, 23, 24, 25, 26, 27, 28, 29, 30, 124, 125, 126, 127, 128, 129, 130, 131, 132, 133, 134, 135, 136, 137, 138, 139, 140, 141, 142, 143, 144, 145, 146, 147, 148, 149, 150, 151, 152, 153, 154, 155] (by decide +kernel) (by decide +kernel)
set_option maxRecDepth 20000 in
theorem gX6_resume_X6_wantThread : GoodIn wsX6_resume (wsV RX6 279 RX6 yX6_wantThread wsX6_wantThread) := goodIn_app (goodIn_of _ (by decide +kernel)) ggX6_resume_X6_wantThread
set_option maxRecDepth 20000 in
theorem ggX6_resume_X6_run : GoodIn wsX6_resume wsX6_run := goodIn_r _ [34, 12, 2, 35, 13, 36, 37, 38, 4, 3, 5, 39, 40, 41, 9, 42, 43, 44, 45, 46, 47, 48, 49, 50, 51, 52, 53, 54, 55, 56, 57, 58, 59, 60, 61, 62, 63, 64, 65, 66, 67, 68, 69, 70, 71, 72, 73, 74, 75, 76, 77, 78, 79, 80, 81, 82, 83, 84, 85, 86, 87, 88, 89, 90, 91, 92, 93, 94, 95, 96, 97, 98, 99, 100, 101, 102, 103, 104, 105, 106, 107, 108, 26, 27, 28, 29, 30, 19, 20, 21, 109, 110, 111, 112, 113, 114, 115, 116, 117, 118, 119, 120, 121, 122, 123, 124, 125, 126, 127, 128, 129, 130, 131, 132, 133, 134, 135, 136, 137, 138, 139, 140, 141, 142, 143, 144, 145, 146, 147, 148, 149, 150, 151, 152, 153, 154, 155] (by decide +kernel) (by decide +kernel)
set_option maxRecDepth 20000 in
theorem gX6_resume_X6_run : GoodIn wsX6_resume (wsV RX6 283 RX6 yX6_run wsX6_run) := goodIn_app (goodIn_of _ (by decide +kernel)) ggX6_resume_X6_run
theorem dX6_resume_0 : decode cX6_resume 0 = .ok (.aload_n 0, 1) := by decide +kernel
theorem dX6_resume_1 : decode cX6_resume 1 = .ok (.iload_n 1, 1) := by decide +kernel
theorem dX6_resume_2 : decode cX6_resume 2 = .ok (.iload_n 2, 1) := by decide +kernel
theorem dX6_resume_3 : decode cX6_resume 3 = .ok (.iconst 1, 1) := by decide +kernel
theorem dX6_resume_4 : decode cX6_resume 4 = .ok (.invokevirtual 279, 3) := by decide +kernel
theorem dX6_resume_7 : decode cX6_resume 7 = .ok (.aload_n 0, 1) := by decide +kernel
theorem dX6_resume_8 : decode cX6_resume 8 = .ok (.getfield 183, 3) := by decide +kernel
theorem dX6_resume_11 : decode cX6_resume 11 = .ok (.ifCond .le 8, 3) := by decide +kernel
theorem dX6_resume_14 : decode cX6_resume 14 = .ok (.aload_n 0, 1) := by decide +kernel
theorem dX6_resume_15 : decode cX6_resume 15 = .ok (.getfield 183, 3) := by decide +kernel
theorem dX6_resume_18 : decode cX6_resume 18 = .ok (.ireturn, 1) := by decide +kernel
theorem dX6_resume_19 : decode cX6_resume 19 = .ok (.aload_n 0, 1) := by decide +kernel
theorem dX6_resume_20 : decode cX6_resume 20 = .ok (.iload_n 1, 1) := by decide +kernel
theorem dX6_resume_21 : decode cX6_resume 21 = .ok (.putfield 269, 3) := by decide +kernel
theorem dX6_resume_24 : decode cX6_resume 24 = .ok (.iconst 0, 1) := by decide +kernel
theorem dX6_resume_25 : decode cX6_resume 25 = .ok (.istore_n 3, 1) := by decide +kernel
theorem dX6_resume_26 : decode cX6_resume 26 = .ok (.iload_n 3, 1) := by decide +kernel
theorem dX6_resume_27 : decode cX6_resume 27 = .ok (.iconst 4, 1) := by decide +kernel
theorem dX6_resume_28 : decode cX6_resume 28 = .ok (.if_icmp .ge 25, 3) := by decide +kernel
theorem dX6_resume_31 : decode cX6_resume 31 = .ok (.aload_n 0, 1) := by decide +kernel
theorem dX6_resume_32 : decode cX6_resume 32 = .ok (.getfield 59, 3) := by decide +kernel
theorem dX6_resume_35 : decode cX6_resume 35 = .ok (.iload_n 3, 1) := by decide +kernel
theorem dX6_resume_36 : decode cX6_resume 36 = .ok (.aload_n 0, 1) := by decide +kernel
theorem dX6_resume_37 : decode cX6_resume 37 = .ok (.getfield 56, 3) := by decide +kernel
theorem dX6_resume_40 : decode cX6_resume 40 = .ok (.iconst 5, 1) := by decide +kernel
theorem dX6_resume_41 : decode cX6_resume 41 = .ok (.iload_n 1, 1) := by decide +kernel
theorem dX6_resume_42 : decode cX6_resume 42 = .ok (.imul, 1) := by decide +kernel
theorem dX6_resume_43 : decode cX6_resume 43 = .ok (.iload_n 3, 1) := by decide +kernel
theorem dX6_resume_44 : decode cX6_resume 44 = .ok (.iadd, 1) := by decide +kernel
theorem dX6_resume_45 : decode cX6_resume 45 = .ok (.iaload, 1) := by decide +kernel
theorem dX6_resume_46 : decode cX6_resume 46 = .ok (.iastore, 1) := by decide +kernel
theorem dX6_resume_47 : decode cX6_resume 47 = .ok (.iinc 3 1, 3) := by decide +kernel
theorem dX6_resume_50 : decode cX6_resume 50 = .ok (.goto (-24), 3) := by decide +kernel
theorem dX6_resume_53 : decode cX6_resume 53 = .ok (.aload_n 0, 1) := by decide +kernel
theorem dX6_resume_54 : decode cX6_resume 54 = .ok (.aload_n 0, 1) := by decide +kernel
theorem dX6_resume_55 : decode cX6_resume 55 = .ok (.getfield 56, 3) := by decide +kernel
theorem dX6_resume_58 : decode cX6_resume 58 = .ok (.iconst 5, 1) := by decide +kernel
theorem dX6_resume_59 : decode cX6_resume 59 = .ok (.iload_n 1, 1) := by decide +kernel
theorem dX6_resume_60 : decode cX6_resume 60 = .ok (.imul, 1) := by decide +kernel
theorem dX6_resume_61 : decode cX6_resume 61 = .ok (.iconst 4, 1) := by decide +kernel
theorem dX6_resume_62 : decode cX6_resume 62 = .ok (.iadd, 1) := by decide +kernel
theorem dX6_resume_63 : decode cX6_resume 63 = .ok (.iaload, 1) := by decide +kernel
theorem dX6_resume_64 : decode cX6_resume 64 = .ok (.putfield 250, 3) := by decide +kernel
theorem dX6_resume_67 : decode cX6_resume 67 = .ok (.aload_n 0, 1) := by decide +kernel
theorem dX6_resume_68 : decode cX6_resume 68 = .ok (.iload_n 2, 1) := by decide +kernel
theorem dX6_resume_69 : decode cX6_resume 69 = .ok (.invokevirtual 283, 3) := by decide +kernel
theorem dX6_resume_72 : decode cX6_resume 72 = .ok (.ireturn, 1) := by decide +kernel
theorem dX6_result_0 : decode cX6_result 0 = .ok (.aload_n 0, 1) := by decide +kernel
theorem dX6_result_1 : decode cX6_result 1 = .ok (.iconst 0, 1) := by decide +kernel
theorem dX6_result_2 : decode cX6_result 2 = .ok (.putfield 158, 3) := by decide +kernel
theorem dX6_result_5 : decode cX6_result 5 = .ok (.aload_n 0, 1) := by decide +kernel
theorem dX6_result_6 : decode cX6_result 6 = .ok (.getfield 162, 3) := by decide +kernel
theorem dX6_result_9 : decode cX6_result 9 = .ok (.ireturn, 1) := by decide +kernel
theorem dX6_steps_0 : decode cX6_steps 0 = .ok (.aload_n 0, 1) := by decide +kernel
theorem dX6_steps_1 : decode cX6_steps 1 = .ok (.iconst 0, 1) := by decide +kernel
theorem dX6_steps_2 : decode cX6_steps 2 = .ok (.putfield 158, 3) := by decide +kernel
theorem dX6_steps_5 : decode cX6_steps 5 = .ok (.aload_n 0, 1) := by decide +kernel
theorem dX6_steps_6 : decode cX6_steps 6 = .ok (.getfield 272, 3) := by decide +kernel
theorem dX6_steps_9 : decode cX6_steps 9 = .ok (.ireturn, 1) := by decide +kernel
set_option maxRecDepth 20000 in
theorem ggX6_told_X6_noPage : GoodIn wsX6_told wsX6_noPage := goodIn_r _ [9] (by decide +kernel) (by decide +kernel)
set_option maxRecDepth 20000 in
theorem gX6_told_X6_noPage : GoodIn wsX6_told (va_wsS RX6 186 yX6_noPage wsX6_noPage) := goodIn_app (goodIn_of _ (by decide +kernel)) ggX6_told_X6_noPage
set_option maxRecDepth 20000 in
theorem ggX6_told_X6_belonging : GoodIn wsX6_told wsX6_belonging := goodIn_r _ [13, 2, 3, 14, 15, 16, 17, 18, 19, 20, 21, 22, 23, 24, 25, 26, 27, 28, 29, 30, 31, 32, 33, 34, 35, 36, 37, 38, 39, 40, 41, 42, 43, 44, 45] (by decide +kernel) (by decide +kernel)
set_option maxRecDepth 20000 in
theorem gX6_told_X6_belonging : GoodIn wsX6_told (wsV RX6 227 RX6 yX6_belonging wsX6_belonging) := goodIn_app (goodIn_of _ (by decide +kernel)) ggX6_told_X6_belonging
theorem dX6_told_0 : decode cX6_told 0 = .ok (.aload_n 0, 1) := by decide +kernel
theorem dX6_told_1 : decode cX6_told 1 = .ok (.iload_n 1, 1) := by decide +kernel
theorem dX6_told_2 : decode cX6_told 2 = .ok (.invokestatic 186, 3) := by decide +kernel
theorem dX6_told_5 : decode cX6_told 5 = .ok (.ifCond .eq 7, 3) := by decide +kernel
theorem dX6_told_8 : decode cX6_told 8 = .ok (.iconst 1, 1) := by decide +kernel
theorem dX6_told_9 : decode cX6_told 9 = .ok (.goto 17, 3) := by decide +kernel
theorem dX6_told_12 : decode cX6_told 12 = .ok (.iload_n 2, 1) := by decide +kernel
theorem dX6_told_13 : decode cX6_told 13 = .ok (.ifCond .lt 8, 3) := by decide +kernel
theorem dX6_told_16 : decode cX6_told 16 = .ok (.iload_n 2, 1) := by decide +kernel
theorem dX6_told_17 : decode cX6_told 17 = .ok (.iconst 3, 1) := by decide +kernel
theorem dX6_told_18 : decode cX6_told 18 = .ok (.if_icmp .le 7, 3) := by decide +kernel
theorem dX6_told_21 : decode cX6_told 21 = .ok (.iconst 2, 1) := by decide +kernel
theorem dX6_told_22 : decode cX6_told 22 = .ok (.goto 4, 3) := by decide +kernel
theorem dX6_told_25 : decode cX6_told 25 = .ok (.iconst 0, 1) := by decide +kernel
theorem dX6_told_26 : decode cX6_told 26 = .ok (.putfield 158, 3) := by decide +kernel
theorem dX6_told_29 : decode cX6_told 29 = .ok (.aload_n 0, 1) := by decide +kernel
theorem dX6_told_30 : decode cX6_told 30 = .ok (.getfield 158, 3) := by decide +kernel
theorem dX6_told_33 : decode cX6_told 33 = .ok (.ifCond .le 5, 3) := by decide +kernel
theorem dX6_told_36 : decode cX6_told 36 = .ok (.iconst 0, 1) := by decide +kernel
theorem dX6_told_37 : decode cX6_told 37 = .ok (.ireturn, 1) := by decide +kernel
theorem dX6_told_38 : decode cX6_told 38 = .ok (.iload_n 2, 1) := by decide +kernel
theorem dX6_told_39 : decode cX6_told 39 = .ok (.ifCond .ne 10, 3) := by decide +kernel
theorem dX6_told_42 : decode cX6_told 42 = .ok (.aload_n 0, 1) := by decide +kernel
theorem dX6_told_43 : decode cX6_told 43 = .ok (.getfield 16, 3) := by decide +kernel
theorem dX6_told_46 : decode cX6_told 46 = .ok (.iload_n 1, 1) := by decide +kernel
theorem dX6_told_47 : decode cX6_told 47 = .ok (.iaload, 1) := by decide +kernel
theorem dX6_told_48 : decode cX6_told 48 = .ok (.ireturn, 1) := by decide +kernel
theorem dX6_told_49 : decode cX6_told 49 = .ok (.iload_n 2, 1) := by decide +kernel
theorem dX6_told_50 : decode cX6_told 50 = .ok (.iconst 1, 1) := by decide +kernel
theorem dX6_told_51 : decode cX6_told 51 = .ok (.if_icmp .ne 24, 3) := by decide +kernel
theorem dX6_told_54 : decode cX6_told 54 = .ok (.aload_n 0, 1) := by decide +kernel
theorem dX6_told_55 : decode cX6_told 55 = .ok (.getfield 16, 3) := by decide +kernel
theorem dX6_told_58 : decode cX6_told 58 = .ok (.iload_n 1, 1) := by decide +kernel
theorem dX6_told_59 : decode cX6_told 59 = .ok (.iaload, 1) := by decide +kernel
theorem dX6_told_60 : decode cX6_told 60 = .ok (.iconst 1, 1) := by decide +kernel
theorem dX6_told_61 : decode cX6_told 61 = .ok (.if_icmp .le 12, 3) := by decide +kernel
theorem dX6_told_64 : decode cX6_told 64 = .ok (.aload_n 0, 1) := by decide +kernel
theorem dX6_told_65 : decode cX6_told 65 = .ok (.getfield 19, 3) := by decide +kernel
theorem dX6_told_68 : decode cX6_told 68 = .ok (.iload_n 1, 1) := by decide +kernel
theorem dX6_told_69 : decode cX6_told 69 = .ok (.iaload, 1) := by decide +kernel
theorem dX6_told_70 : decode cX6_told 70 = .ok (.goto 4, 3) := by decide +kernel
theorem dX6_told_73 : decode cX6_told 73 = .ok (.iconst (-1), 1) := by decide +kernel
theorem dX6_told_74 : decode cX6_told 74 = .ok (.ireturn, 1) := by decide +kernel
theorem dX6_told_75 : decode cX6_told 75 = .ok (.iload_n 2, 1) := by decide +kernel
theorem dX6_told_76 : decode cX6_told 76 = .ok (.iconst 2, 1) := by decide +kernel
theorem dX6_told_77 : decode cX6_told 77 = .ok (.if_icmp .ne 47, 3) := by decide +kernel
theorem dX6_told_80 : decode cX6_told 80 = .ok (.aload_n 0, 1) := by decide +kernel
theorem dX6_told_81 : decode cX6_told 81 = .ok (.getfield 16, 3) := by decide +kernel
theorem dX6_told_84 : decode cX6_told 84 = .ok (.iload_n 1, 1) := by decide +kernel
theorem dX6_told_85 : decode cX6_told 85 = .ok (.iaload, 1) := by decide +kernel
theorem dX6_told_86 : decode cX6_told 86 = .ok (.iconst 1, 1) := by decide +kernel
theorem dX6_told_87 : decode cX6_told 87 = .ok (.if_icmp .ne 12, 3) := by decide +kernel
theorem dX6_told_90 : decode cX6_told 90 = .ok (.aload_n 0, 1) := by decide +kernel
theorem dX6_told_91 : decode cX6_told 91 = .ok (.getfield 22, 3) := by decide +kernel
theorem dX6_told_94 : decode cX6_told 94 = .ok (.iload_n 1, 1) := by decide +kernel
theorem dX6_told_95 : decode cX6_told 95 = .ok (.iaload, 1) := by decide +kernel
theorem dX6_told_96 : decode cX6_told 96 = .ok (.goto 27, 3) := by decide +kernel
theorem dX6_told_99 : decode cX6_told 99 = .ok (.aload_n 0, 1) := by decide +kernel
theorem dX6_told_100 : decode cX6_told 100 = .ok (.getfield 16, 3) := by decide +kernel
theorem dX6_told_103 : decode cX6_told 103 = .ok (.iload_n 1, 1) := by decide +kernel
theorem dX6_told_104 : decode cX6_told 104 = .ok (.iaload, 1) := by decide +kernel
theorem dX6_told_105 : decode cX6_told 105 = .ok (.iconst 2, 1) := by decide +kernel
theorem dX6_told_106 : decode cX6_told 106 = .ok (.if_icmp .ne 16, 3) := by decide +kernel
theorem dX6_told_109 : decode cX6_told 109 = .ok (.aload_n 0, 1) := by decide +kernel
theorem dX6_told_110 : decode cX6_told 110 = .ok (.getfield 53, 3) := by decide +kernel
theorem dX6_told_113 : decode cX6_told 113 = .ok (.iload_n 1, 1) := by decide +kernel
theorem dX6_told_114 : decode cX6_told 114 = .ok (.baload, 1) := by decide +kernel
theorem dX6_told_115 : decode cX6_told 115 = .ok (.ifCond .eq 7, 3) := by decide +kernel
theorem dX6_told_118 : decode cX6_told 118 = .ok (.iconst 1, 1) := by decide +kernel
theorem dX6_told_119 : decode cX6_told 119 = .ok (.goto 4, 3) := by decide +kernel
theorem dX6_told_122 : decode cX6_told 122 = .ok (.iconst 0, 1) := by decide +kernel
theorem dX6_told_123 : decode cX6_told 123 = .ok (.ireturn, 1) := by decide +kernel
theorem dX6_told_124 : decode cX6_told 124 = .ok (.aload_n 0, 1) := by decide +kernel
theorem dX6_told_125 : decode cX6_told 125 = .ok (.getfield 16, 3) := by decide +kernel
theorem dX6_told_128 : decode cX6_told 128 = .ok (.iload_n 1, 1) := by decide +kernel
theorem dX6_told_129 : decode cX6_told 129 = .ok (.iaload, 1) := by decide +kernel
theorem dX6_told_130 : decode cX6_told 130 = .ok (.iconst 1, 1) := by decide +kernel
theorem dX6_told_131 : decode cX6_told 131 = .ok (.if_icmp .ne 11, 3) := by decide +kernel
theorem dX6_told_134 : decode cX6_told 134 = .ok (.aload_n 0, 1) := by decide +kernel
theorem dX6_told_135 : decode cX6_told 135 = .ok (.iload_n 1, 1) := by decide +kernel
theorem dX6_told_136 : decode cX6_told 136 = .ok (.invokevirtual 227, 3) := by decide +kernel
theorem dX6_told_139 : decode cX6_told 139 = .ok (.goto 4, 3) := by decide +kernel
theorem dX6_told_142 : decode cX6_told 142 = .ok (.iconst 0, 1) := by decide +kernel
theorem dX6_told_143 : decode cX6_told 143 = .ok (.ireturn, 1) := by decide +kernel
set_option maxRecDepth 20000 in
theorem ggX6_measure_X6_noPage : GoodIn wsX6_measure wsX6_noPage := goodIn_r _ [8] (by decide +kernel) (by decide +kernel)
set_option maxRecDepth 20000 in
theorem gX6_measure_X6_noPage : GoodIn wsX6_measure (va_wsS RX6 186 yX6_noPage wsX6_noPage) := goodIn_app (goodIn_of _ (by decide +kernel)) ggX6_measure_X6_noPage
theorem dX6_measure_0 : decode cX6_measure 0 = .ok (.aload_n 0, 1) := by decide +kernel
theorem dX6_measure_1 : decode cX6_measure 1 = .ok (.iload_n 1, 1) := by decide +kernel
theorem dX6_measure_2 : decode cX6_measure 2 = .ok (.invokestatic 186, 3) := by decide +kernel
theorem dX6_measure_5 : decode cX6_measure 5 = .ok (.ifCond .ne 13, 3) := by decide +kernel
theorem dX6_measure_8 : decode cX6_measure 8 = .ok (.iload_n 2, 1) := by decide +kernel
theorem dX6_measure_9 : decode cX6_measure 9 = .ok (.ifCond .lt 9, 3) := by decide +kernel
theorem dX6_measure_12 : decode cX6_measure 12 = .ok (.iload_n 2, 1) := by decide +kernel
theorem dX6_measure_13 : decode cX6_measure 13 = .ok (.bipush 7, 2) := by decide +kernel
theorem dX6_measure_15 : decode cX6_measure 15 = .ok (.if_icmp .le 7, 3) := by decide +kernel
theorem dX6_measure_18 : decode cX6_measure 18 = .ok (.iconst 1, 1) := by decide +kernel
theorem dX6_measure_19 : decode cX6_measure 19 = .ok (.goto 27, 3) := by decide +kernel
theorem dX6_measure_22 : decode cX6_measure 22 = .ok (.aload_n 0, 1) := by decide +kernel
theorem dX6_measure_23 : decode cX6_measure 23 = .ok (.getfield 16, 3) := by decide +kernel
theorem dX6_measure_26 : decode cX6_measure 26 = .ok (.iload_n 1, 1) := by decide +kernel
theorem dX6_measure_27 : decode cX6_measure 27 = .ok (.iaload, 1) := by decide +kernel
theorem dX6_measure_28 : decode cX6_measure 28 = .ok (.iconst 1, 1) := by decide +kernel
theorem dX6_measure_29 : decode cX6_measure 29 = .ok (.if_icmp .ne 12, 3) := by decide +kernel
theorem dX6_measure_32 : decode cX6_measure 32 = .ok (.aload_n 0, 1) := by decide +kernel
theorem dX6_measure_33 : decode cX6_measure 33 = .ok (.getfield 46, 3) := by decide +kernel
theorem dX6_measure_36 : decode cX6_measure 36 = .ok (.iload_n 1, 1) := by decide +kernel
theorem dX6_measure_37 : decode cX6_measure 37 = .ok (.baload, 1) := by decide +kernel
theorem dX6_measure_38 : decode cX6_measure 38 = .ok (.ifCond .ne 7, 3) := by decide +kernel
theorem dX6_measure_41 : decode cX6_measure 41 = .ok (.iconst 2, 1) := by decide +kernel
theorem dX6_measure_42 : decode cX6_measure 42 = .ok (.goto 4, 3) := by decide +kernel
theorem dX6_measure_45 : decode cX6_measure 45 = .ok (.iconst 0, 1) := by decide +kernel
theorem dX6_measure_46 : decode cX6_measure 46 = .ok (.putfield 158, 3) := by decide +kernel
theorem dX6_measure_49 : decode cX6_measure 49 = .ok (.aload_n 0, 1) := by decide +kernel
theorem dX6_measure_50 : decode cX6_measure 50 = .ok (.getfield 158, 3) := by decide +kernel
theorem dX6_measure_53 : decode cX6_measure 53 = .ok (.ifCond .le 7, 3) := by decide +kernel
theorem dX6_measure_56 : decode cX6_measure 56 = .ok (.iconst 0, 1) := by decide +kernel
theorem dX6_measure_57 : decode cX6_measure 57 = .ok (.goto 14, 3) := by decide +kernel
theorem dX6_measure_60 : decode cX6_measure 60 = .ok (.aload_n 0, 1) := by decide +kernel
theorem dX6_measure_61 : decode cX6_measure 61 = .ok (.getfield 43, 3) := by decide +kernel
theorem dX6_measure_64 : decode cX6_measure 64 = .ok (.bipush 8, 2) := by decide +kernel
theorem dX6_measure_66 : decode cX6_measure 66 = .ok (.iload_n 1, 1) := by decide +kernel
theorem dX6_measure_67 : decode cX6_measure 67 = .ok (.imul, 1) := by decide +kernel
theorem dX6_measure_68 : decode cX6_measure 68 = .ok (.iload_n 2, 1) := by decide +kernel
theorem dX6_measure_69 : decode cX6_measure 69 = .ok (.iadd, 1) := by decide +kernel
theorem dX6_measure_70 : decode cX6_measure 70 = .ok (.iaload, 1) := by decide +kernel
theorem dX6_measure_71 : decode cX6_measure 71 = .ok (.ireturn, 1) := by decide +kernel
theorem dJ7_fill_53178_0 : decode cJ7_fill_53178 0 = .ok (.iconst 0, 1) := by decide +kernel
theorem dJ7_fill_53178_1 : decode cJ7_fill_53178 1 = .ok (.istore_n 2, 1) := by decide +kernel
theorem dJ7_fill_53178_2 : decode cJ7_fill_53178 2 = .ok (.aload_n 0, 1) := by decide +kernel
theorem dJ7_fill_53178_3 : decode cJ7_fill_53178 3 = .ok (.arraylength, 1) := by decide +kernel
theorem dJ7_fill_53178_4 : decode cJ7_fill_53178 4 = .ok (.istore_n 3, 1) := by decide +kernel
theorem dJ7_fill_53178_5 : decode cJ7_fill_53178 5 = .ok (.iload_n 2, 1) := by decide +kernel
theorem dJ7_fill_53178_6 : decode cJ7_fill_53178 6 = .ok (.iload_n 3, 1) := by decide +kernel
theorem dJ7_fill_53178_7 : decode cJ7_fill_53178 7 = .ok (.if_icmp .ge 13, 3) := by decide +kernel
theorem dJ7_fill_53178_10 : decode cJ7_fill_53178 10 = .ok (.aload_n 0, 1) := by decide +kernel
theorem dJ7_fill_53178_11 : decode cJ7_fill_53178 11 = .ok (.iload_n 2, 1) := by decide +kernel
theorem dJ7_fill_53178_12 : decode cJ7_fill_53178 12 = .ok (.iload_n 1, 1) := by decide +kernel
theorem dJ7_fill_53178_13 : decode cJ7_fill_53178 13 = .ok (.iastore, 1) := by decide +kernel
theorem dJ7_fill_53178_14 : decode cJ7_fill_53178 14 = .ok (.iinc 2 1, 3) := by decide +kernel
theorem dJ7_fill_53178_17 : decode cJ7_fill_53178 17 = .ok (.goto (-12), 3) := by decide +kernel
theorem dJ7_fill_53178_20 : decode cJ7_fill_53178 20 = .ok (.return_, 1) := by decide +kernel
end
section
/-! The world of a system whose references never change: numbered cells, a memory of ints; methods as functions on it. -/
abbrev Mem : Type := Nat → Nat → Int32
def mrow (M : Mem) (k : Nat) (f : Nat → Int32) : Mem := fun a => if a = k then f else M a
def mset (M : Mem) (k j : Nat) (x : Int32) : Mem := mrow M k (upd (M k) j x)
theorem mrow_s (M : Mem) (k : Nat) (f : Nat → Int32) : mrow M k f k = f := if_pos rfl
theorem mrow_n (M : Mem) {k a : Nat} (f : Nat → Int32) (h : a ≠ k) : mrow M k f a = M a := if_neg h
abbrev Shp : Type := Nat → (Nat → Int32) → va_E
def gw (N : Nat) (ad : Nat → Nat) (sp : Shp) (M : Mem) : va_W := (List.range N).map (fun k => (ad k, sp k (M k)))
theorem gw_at {N : Nat} {ad : Nat → Nat} {sp : Shp} {M : Mem} {k : Nat} (h : k < N) : (gw N ad sp M)[k]? = some (ad k, sp k (M k)) := by
  unfold gw
  rw [List.getElem?_map, List.getElem?_range h]
  rfl
theorem gw_lt {N : Nat} {ad : Nat → Nat} {sp : Shp} {M : Mem} {k : Nat} {q : Nat × va_E} (h : (gw N ad sp M)[k]? = some q) : k < N := by
  have h1 := (List.getElem?_eq_some_iff.mp h).1
  simpa [gw] using h1
theorem gw_set {N : Nat} {ad : Nat → Nat} {sp : Shp} {M : Mem} {k : Nat} {f : Nat → Int32} (h : k < N) : (gw N ad sp M).set k (ad k, sp k f) = gw N ad sp (mrow M k f) := by
  apply List.ext_getElem?
  intro i
  by_cases hi : i = k
  · subst hi
    rw [List.getElem?_set_self (by simpa [gw] using h), gw_at h, mrow_s]
  · rw [List.getElem?_set_ne (Ne.symm hi)]
    by_cases hN : i < N
    · rw [gw_at hN, gw_at hN, mrow_n _ _ hi]
    · rw [List.getElem?_eq_none (by simpa [gw] using hN), List.getElem?_eq_none (by simpa [gw] using hN)]
def gInj (N : Nat) (ad : Nat → Nat) : Prop := ∀ i j, i < N → j < N → ad i = ad j → i = j
theorem gw_D {N : Nat} {ad : Nat → Nat} {sp : Shp} {M : Mem} {A : Nat → Prop} (hI : gInj N ad) (hA : ∀ k, k < N → A (ad k)) : va_D A (gw N ad sp M) := by
  refine ⟨fun i j p q hi hj e => ?_, fun k q hk => ?_⟩
  · have h1 := gw_lt hi
    have h2 := gw_lt hj
    rw [gw_at h1] at hi
    rw [gw_at h2] at hj
    cases hi
    cases hj
    exact hI i j h1 h2 e
  · have h1 := gw_lt hk
    rw [gw_at h1] at hk
    cases hk
    exact hA k h1
-- the words of the functions
def bnd {α β : Type} (x : α) (F : α → Option β) : Option β := F x
def gd {β : Type} (b : Bool) (F : Option β) : Option β := if b = true then F else none
def jn {γ β : Type} (K : γ) (F : γ → Option β) : Option β := F K
def oq {β : Type} (o : Option Nat) (a : Option β) (b : Nat → Option β) : Option β := match o with
  | none => a
  | some k => b k
def inb (i : Int32) (n : Nat) : Bool := decide (¬ (i < 0 ∨ n ≤ i.toNatClampNeg))
def usr (x y : Int32) : Int32 := (x.toUInt32 >>> (y.toUInt32 &&& Int32.toUInt32 31)).toInt32
theorem gd_s {β : Type} {b : Bool} {F : Option β} {r : β} (h : gd b F = some r) : b = true ∧ F = some r := by
  unfold gd at h
  by_cases hb : b = true
  · rw [if_pos hb] at h
    exact ⟨hb, h⟩
  · rw [if_neg hb] at h
    cases h
theorem inb_s {i : Int32} {n : Nat} (h : inb i n = true) : vp_in i n := by
  have h2 : ¬ (i < 0 ∨ n ≤ i.toNatClampNeg) := of_decide_eq_true h
  exact h2
theorem ob {α β : Type} {o : Option α} {F : α → Option β} {r : β} (h : o.bind F = some r) : ∃ q, o = some q ∧ F q = some r := by
  cases o with
  | none => cases h
  | some q => exact ⟨q, rfl, h⟩
-- what a method asks and leaves
abbrev Xt : Type := State → Heap → Prop
def XtOk (A : Nat → Prop) (X : Xt) : Prop := ∀ (u U : State) (H : Heap), u.WarmedH U.vm → (∀ q, q < u.heap.size → ¬ A q → H[q]? = u.heap[q]?) → X u u.heap → X U H
def XtBl (X : Xt) : Prop := ∀ (U : State) (g : JFrame) (mk : MethodId) (a : Array Value), X U U.heap → X (U.calling g mk a) U.heap
def Pf (D : va_G) (cl : List vw_C) (tys : List (ClassId × FieldType)) (N : Nat) (ad : Nat → Nat) (sp : Shp) (X : Xt) (M : Mem) (U : State) : Prop := va_P D cl (gw N ad sp M) U.heap ∧ va_K D cl tys U ∧ X U U.heap
def Qf (D : va_G) (cl : List vw_C) (N : Nat) (ad : Nat → Nat) (sp : Shp) (A : Nat → Prop) (v : Option Value) (M : Mem) : Array Value → State → Outcome → State → Prop := fun _ st oc t => oc = .returned v ∧ va_P D cl (gw N ad sp M) t.heap ∧ va_F A st t
theorem Pf_blind {D : va_G} {cl : List vw_C} {tys : List (ClassId × FieldType)} {N : Nat} {ad : Nat → Nat} {sp : Shp} {X : Xt} {M : Mem} {av : List Value} (hX : XtBl X) : FrameBlind (va_Pc av (Pf D cl tys N ad sp X M)) := by
  intro a U g mk q
  obtain ⟨q0, qP, qK, qX⟩ := q
  exact ⟨q0, qP, va_K.moved (u := U) (U := U.calling g mk a) (Vm.Alike.refl U.vm) qK, hX U g mk a qX⟩
theorem Pf_S {s : State} {H : Heap} {locs : List Loc} {D : va_G} {cl : List vw_C} {tys : List (ClassId × FieldType)} {N : Nat} {ad : Nat → Nat} {sp : Shp} {X : Xt} {M : Mem} {A : Nat → Prop} {av : List Value} (hXb : XtBl X) (hXo : XtOk A X) (hX : X s s.heap) (hK : va_K D cl tys s) (hP : va_P D cl (gw N ad sp M) H) (hS : va_S A s.heap H locs) : PreS s H (va_Pc av (Pf D cl tys N ad sp X M)) av :=
  ⟨Pf_blind hXb, fun U hU hW => ⟨rfl, by rw [hU]; exact hP, va_K.moved hW.alike hK, by rw [hU]; exact hXo s U H hW hS.2.1 hX⟩⟩
theorem Pf_V {s : State} {H : Heap} {locs : List Loc} {D : va_G} {cl : List vw_C} {tys : List (ClassId × FieldType)} {N : Nat} {ad : Nat → Nat} {sp : Shp} {X : Xt} {M : Mem} {A : Nat → Prop} {As : List Value} {C : String} {T : u_T} {Nf k ci : Nat} {fs : (Nat → Int32) → List Value} (hXb : XtBl X) (hXo : XtOk A X) (hX : X s s.heap) (hK : va_K D cl tys s) (hP : va_P D cl (gw N ad sp M) H) (hS : va_S A s.heap H locs) (hk : k < N ∧ ∀ f, sp k f = .inr (ci, fs f)) (hc : cl[ci]? = some (C, T, Nf)) : PreV s H C (ad k) (va_Pc (.ref (ad k) :: As) (Pf D cl tys N ad sp X M)) As :=
  ⟨Pf_blind hXb, va_recv hK hP hc (by rw [gw_at hk.1, hk.2]), (Pf_S (av := .ref (ad k) :: As) hXb hXo hX hK hP hS).2⟩
section RW
variable {p : Program} {l : Launch} {e : Env} {R : Room} {s : State} {m : MethodId} {args : Array Value} {below : List Frame} {meth : Method} {c : Code} {H : Heap} {locs : List Loc} {cells slots : Nat} {Q : State → Prop}
variable {cc : ByteArray} {pc : Nat} {ls : Array Slot} {rest : List Value} {D : va_G} {cl : List vw_C} {A : Nat → Prop} {tys : List (ClassId × FieldType)} {H0 : Heap} {N : Nat} {ad : Nat → Nat} {sp : Shp} {M : Mem} {β : Type} {res : β}
theorem r_top {α : Type} {g : α → Value} {x : α} {F : α → Option β} (hf : bnd x F = some res) (kk : ∀ y, F y = some res → W p l e R s m args below meth c H locs cells slots Q (F0 m pc ls (g y :: rest))) : W p l e R s m args below meth c H locs cells slots Q (F0 m pc ls (g x :: rest)) := kk x hf
theorem r_bnd {α : Type} {G : α → Prop} {x : α} {F : α → Option β} (hf : bnd x F = some res) (kk : ∀ y, F y = some res → G y) : G x := kk x hf
theorem r_jn {γ : Type} {G : Prop} {K : γ} {F : γ → Option β} (hf : jn K F = some res) (kk : ∀ K', K' = K → F K' = some res → G) : G := kk K rfl hf
theorem r_if {P : Prop} [Decidable P] {G1 G2 : Prop} {a b : Option β} (hf : (if P then a else b) = some res) (k1 : a = some res → G1) (k2 : b = some res → G2) : (P → G1) ∧ (¬ P → G2) :=
  ⟨fun h => k1 (by rw [if_pos h] at hf; exact hf), fun h => k2 (by rw [if_neg h] at hf; exact hf)⟩
theorem r_oq {o : Option Nat} {a : Option β} {b : Nat → Option β} (hf : oq o a b = some res) (k1 : a = some res → W p l e R s m args below meth c H locs cells slots Q (F0 m pc ls (.null :: rest))) (k2 : ∀ k, b k = some res → W p l e R s m args below meth c H locs cells slots Q (F0 m pc ls (.ref (ad k) :: rest))) : W p l e R s m args below meth c H locs cells slots Q (F0 m pc ls (va_rf (o.map ad) :: rest)) := by
  cases o with
  | none => exact k1 hf
  | some k => exact k2 k hf
-- arrays of ints
theorem r_iald (hx : p.tables.exec = Jvm.exec) (hb : c.code = cc) (hK : va_K D cl tys s) (hP : va_P D cl (gw N ad sp M) H) (t0 : Nat) {cA : ClassId} {k n : Nat} {ok : Bool} (hk : ok = true → k < N ∧ ∀ f, sp k f = .inl (cA, n, .inl f)) (ht : tys[t0]? = some (cA, .int)) {i : Int32} {F : Int32 → Option β} (hdg : decode cc pc = .ok (.iaload, 1))
    (hf : gd (ok && inb i n) (bnd (M k i.toNatClampNeg) F) = some res) (kk : ∀ x, F x = some res → W p l e R s m args below meth c H locs cells slots Q (F0 m (pc + 1) ls (.int x :: rest))) : W p l e R s m args below meth c H locs cells slots Q (F0 m pc ls (.int i :: .ref (ad k) :: rest)) := by
  obtain ⟨h1, hf⟩ := gd_s hf
  rw [Bool.and_eq_true] at h1
  obtain ⟨hN, hs⟩ := hk h1.1
  exact va_iald hx hb hK hP k t0 (by rw [gw_at hN, hs]) ht (inb_s h1.2) hdg (kk _ hf)
theorem r_zald (hx : p.tables.exec = Jvm.exec) (hb : c.code = cc) (hK : va_K D cl tys s) (hP : va_P D cl (gw N ad sp M) H) (t0 : Nat) {cA : ClassId} {k n : Nat} {ok : Bool} (hk : ok = true → k < N ∧ ∀ f, sp k f = .inl (cA, n, .inl f)) (ht : tys[t0]? = some (cA, .boolean)) {i : Int32} {F : Int32 → Option β} (hdg : decode cc pc = .ok (.baload, 1))
    (hf : gd (ok && inb i n) (bnd (M k i.toNatClampNeg) F) = some res) (kk : ∀ x, F x = some res → W p l e R s m args below meth c H locs cells slots Q (F0 m (pc + 1) ls (.int x :: rest))) : W p l e R s m args below meth c H locs cells slots Q (F0 m pc ls (.int i :: .ref (ad k) :: rest)) := by
  obtain ⟨h1, hf⟩ := gd_s hf
  rw [Bool.and_eq_true] at h1
  obtain ⟨hN, hs⟩ := hk h1.1
  exact va_zald hx hb hK hP k t0 (by rw [gw_at hN, hs]) ht (inb_s h1.2) hdg (kk _ hf)
theorem r_iast (hx : p.tables.exec = Jvm.exec) (hb : c.code = cc) (hI : gInj N ad) (hA : ∀ k, k < N → A (ad k)) (hK : va_K D cl tys s) (hP : va_P D cl (gw N ad sp M) H) (hS : va_S A H0 H locs) (t0 : Nat) {cA : ClassId} {k n : Nat} {ok : Bool} (hk : ok = true → k < N ∧ ∀ f, sp k f = .inl (cA, n, .inl f)) (ht : tys[t0]? = some (cA, .int)) {i x : Int32} {F : Mem → Option β} (hdg : decode cc pc = .ok (.iastore, 1))
    (hf : gd (ok && inb i n) (bnd (mset M k i.toNatClampNeg x) F) = some res) (kk : ∀ (M' : Mem) (H1 : Heap) (locs1 : List Loc), va_P D cl (gw N ad sp M') H1 → va_S A H0 H1 locs1 → F M' = some res → W p l e R s m args below meth c H1 locs1 cells slots Q (F0 m (pc + 1) ls rest)) : W p l e R s m args below meth c H locs cells slots Q (F0 m pc ls (.int x :: .int i :: .ref (ad k) :: rest)) := by
  obtain ⟨h1, hf⟩ := gd_s hf
  rw [Bool.and_eq_true] at h1
  obtain ⟨hN, hs⟩ := hk h1.1
  refine va_iast hx hb hK hP (gw_D hI hA) hS k t0 (by rw [gw_at hN, hs]) ht (inb_s h1.2) hdg (fun H1 locs1 hP1 _ hS1 => kk _ H1 locs1 ?_ hS1 hf)
  rw [← hs (upd (M k) i.toNatClampNeg x), gw_set hN] at hP1
  exact hP1
theorem r_zast (hx : p.tables.exec = Jvm.exec) (hb : c.code = cc) (hI : gInj N ad) (hA : ∀ k, k < N → A (ad k)) (hK : va_K D cl tys s) (hP : va_P D cl (gw N ad sp M) H) (hS : va_S A H0 H locs) (t0 : Nat) {cA : ClassId} {k n : Nat} {ok : Bool} (hk : ok = true → k < N ∧ ∀ f, sp k f = .inl (cA, n, .inl f)) (ht : tys[t0]? = some (cA, .boolean)) {i x : Int32} {F : Mem → Option β} (hdg : decode cc pc = .ok (.bastore, 1))
    (hf : gd (ok && inb i n) (bnd (mset M k i.toNatClampNeg (vp_nar .boolean x)) F) = some res) (kk : ∀ (M' : Mem) (H1 : Heap) (locs1 : List Loc), va_P D cl (gw N ad sp M') H1 → va_S A H0 H1 locs1 → F M' = some res → W p l e R s m args below meth c H1 locs1 cells slots Q (F0 m (pc + 1) ls rest)) : W p l e R s m args below meth c H locs cells slots Q (F0 m pc ls (.int x :: .int i :: .ref (ad k) :: rest)) := by
  obtain ⟨h1, hf⟩ := gd_s hf
  rw [Bool.and_eq_true] at h1
  obtain ⟨hN, hs⟩ := hk h1.1
  refine va_zast hx hb hK hP (gw_D hI hA) hS k t0 (by rw [gw_at hN, hs]) ht (inb_s h1.2) hdg (fun H1 locs1 hP1 _ hS1 => kk _ H1 locs1 ?_ hS1 hf)
  rw [← hs (upd (M k) i.toNatClampNeg (vp_nar .boolean x)), gw_set hN] at hP1
  exact hP1
theorem r_alen (hx : p.tables.exec = Jvm.exec) (hb : c.code = cc) (hK : va_K D cl tys s) (hP : va_P D cl (gw N ad sp M) H) (t0 : Nat) {cA : ClassId} {k n : Nat} {ok : Bool} (hk : ok = true → k < N ∧ ∀ f, sp k f = .inl (cA, n, .inl f)) (ht : tys[t0]? = some (cA, .int)) {F : Int32 → Option β} (hdg : decode cc pc = .ok (.arraylength, 1))
    (hf : gd ok (bnd (Int32.ofNat n) F) = some res) (kk : ∀ x, F x = some res → W p l e R s m args below meth c H locs cells slots Q (F0 m (pc + 1) ls (.int x :: rest))) : W p l e R s m args below meth c H locs cells slots Q (F0 m pc ls (.ref (ad k) :: rest)) := by
  obtain ⟨h1, hf⟩ := gd_s hf
  obtain ⟨hN, hs⟩ := hk h1
  exact va_alen (v := Int32.ofNat n) hx hb hK hP k t0 (by rw [gw_at hN, hs]) ht rfl hdg (kk _ hf)
-- arrays of references: place j holds the cell g j
theorem r_aald (hx : p.tables.exec = Jvm.exec) (hb : c.code = cc) (hK : va_K D cl tys s) (hP : va_P D cl (gw N ad sp M) H) (t0 : Nat) {cA : ClassId} {ty : FieldType} {k n : Nat} {g : Nat → Nat} (hk : k < N ∧ ∀ f, sp k f = .inl (cA, n, .inr (.inr (.inr (.inr (fun j => some (ad (g j)))))))) (ht : tys[t0]? = some (cA, ty)) (hty : ty.isReference = true) {i : Int32} {F : Nat → Option β} (hdg : decode cc pc = .ok (.aaload, 1))
    (hf : gd (inb i n) (bnd (g i.toNatClampNeg) F) = some res) (kk : ∀ k', F k' = some res → W p l e R s m args below meth c H locs cells slots Q (F0 m (pc + 1) ls (.ref (ad k') :: rest))) : W p l e R s m args below meth c H locs cells slots Q (F0 m pc ls (.int i :: .ref (ad k) :: rest)) := by
  obtain ⟨h1, hf⟩ := gd_s hf
  have hin := inb_s h1
  have hlt : i.toNatClampNeg < n := Nat.not_le.mp fun q => hin (Or.inr q)
  have ha : (gw N ad sp M)[k]? = some (ad k, .inl (cA, n, .inr (.inr (.inr (.inr (fun j => some (ad (g j)))))))) := by rw [gw_at hk.1, hk.2]
  exact W.aald (v := va_rf (some (ad (g i.toNatClampNeg)))) (ty := ty) hx hb (hP k _ ha) ((hK.2 t0 _ ht).1 n (fun j => va_rf (some (ad (g j))))) hty (fun q => by cases q) (by show ¬ (i < 0 ∨ (arrV _ _ _).slots.size ≤ _); rw [arrV_size]; exact hin) (by show (arrV _ _ _).slots[_]? = _; rw [arrV_read _ _ hlt]) rfl rfl hdg (kk _ hf)
-- fields
theorem r_geti (hx : p.tables.exec = Jvm.exec) (hb : c.code = cc) {own C : String} {T : u_T} {Nf ci index : Nat} {Ts : List Cond} (hts : ∀ w ∈ Ts, w.before args s = true) (hin : ∀ w ∈ u_ws C T Nf, w ∈ Ts) (hown : s.vm.findClass own = some m.cls) (hK : va_K D cl tys s) (hP : va_P D cl (gw N ad sp M) H) {k j : Nat} {ok : Bool} {fs : (Nat → Int32) → List Value} (hk : ok = true → k < N ∧ ∀ f, sp k f = .inr (ci, fs f)) (hc : cl[ci]? = some (C, T, Nf)) (hj : j < Nf) (hlink : (Cond.fieldLink own index (T j).1 (T j).2.1 (T j).2.2.1).before args s = true) (hv : ∀ f, (fs f)[j]? = some (.int (f j))) {F : Int32 → Option β} (hdg : decode cc pc = .ok (.getfield index, 3))
    (hf : gd ok (bnd (M k j) F) = some res) (kk : ∀ x, F x = some res → W p l e R s m args below meth c H locs cells slots Q (F0 m (pc + 3) ls (.int x :: rest))) : W p l e R s m args below meth c H locs cells slots Q (F0 m pc ls (.ref (ad k) :: rest)) := by
  obtain ⟨h1, hf⟩ := gd_s hf
  obtain ⟨hN, hs⟩ := hk h1
  exact va_get hx hb hts hin hown hK hP k (by rw [gw_at hN, hs]) hc j hj hlink (fun _ h => h) (hv (M k)) hdg (kk _ hf)
theorem r_getr (hx : p.tables.exec = Jvm.exec) (hb : c.code = cc) {own C : String} {T : u_T} {Nf ci index : Nat} {Ts : List Cond} (hts : ∀ w ∈ Ts, w.before args s = true) (hin : ∀ w ∈ u_ws C T Nf, w ∈ Ts) (hown : s.vm.findClass own = some m.cls) (hK : va_K D cl tys s) (hP : va_P D cl (gw N ad sp M) H) {k j k' : Nat} {ok : Bool} {fs : (Nat → Int32) → List Value} (hk : ok = true → k < N ∧ ∀ f, sp k f = .inr (ci, fs f)) (hc : cl[ci]? = some (C, T, Nf)) (hj : j < Nf) (hlink : (Cond.fieldLink own index (T j).1 (T j).2.1 (T j).2.2.1).before args s = true) (hv : ∀ f, (fs f)[j]? = some (.ref (ad k'))) {F : Option β} (hdg : decode cc pc = .ok (.getfield index, 3))
    (hf : gd ok F = some res) (kk : F = some res → W p l e R s m args below meth c H locs cells slots Q (F0 m (pc + 3) ls (.ref (ad k') :: rest))) : W p l e R s m args below meth c H locs cells slots Q (F0 m pc ls (.ref (ad k) :: rest)) := by
  obtain ⟨h1, hf⟩ := gd_s hf
  obtain ⟨hN, hs⟩ := hk h1
  exact va_get hx hb hts hin hown hK hP k (by rw [gw_at hN, hs]) hc j hj hlink (fun _ h => h) (hv (M k)) hdg (kk hf)
theorem r_getc (hx : p.tables.exec = Jvm.exec) (hb : c.code = cc) {own C : String} {T : u_T} {Nf ci index : Nat} {Ts : List Cond} (hts : ∀ w ∈ Ts, w.before args s = true) (hin : ∀ w ∈ u_ws C T Nf, w ∈ Ts) (hown : s.vm.findClass own = some m.cls) (hK : va_K D cl tys s) (hP : va_P D cl (gw N ad sp M) H) {k j k' : Nat} {fs : (Nat → Int32) → List Value} (hk : k < N ∧ ∀ f, sp k f = .inr (ci, fs f)) (hc : cl[ci]? = some (C, T, Nf)) (hj : j < Nf) (hlink : (Cond.fieldLink own index (T j).1 (T j).2.1 (T j).2.2.1).before args s = true) (hv : ∀ f, (fs f)[j]? = some (.ref (ad k'))) (hdg : decode cc pc = .ok (.getfield index, 3))
    (kk : W p l e R s m args below meth c H locs cells slots Q (F0 m (pc + 3) ls (.ref (ad k') :: rest))) : W p l e R s m args below meth c H locs cells slots Q (F0 m pc ls (.ref (ad k) :: rest)) :=
  va_get hx hb hts hin hown hK hP k (by rw [gw_at hk.1, hk.2]) hc j hj hlink (fun _ h => h) (hv (M k)) hdg kk
theorem r_puti (hx : p.tables.exec = Jvm.exec) (hb : c.code = cc) {own C : String} {T : u_T} {Nf ci index : Nat} {Ts : List Cond} (hts : ∀ w ∈ Ts, w.before args s = true) (hin : ∀ w ∈ u_ws C T Nf, w ∈ Ts) (ty0 : Nat → FieldType) (hty : ∀ k, k < Nf → parseFieldDescriptor (T k).2.2.1 = some (ty0 k)) (hnm : ∀ a, a < Nf → ∀ b, b < Nf → a ≠ b → (T a).2.1 ≠ (T b).2.1) (hown : s.vm.findClass own = some m.cls) (hI : gInj N ad) (hA : ∀ k, k < N → A (ad k)) (hK : va_K D cl tys s) (hP : va_P D cl (gw N ad sp M) H) (hS : va_S A H0 H locs) {k j : Nat} {ok : Bool} {fs : (Nat → Int32) → List Value} (hk : ok = true → k < N ∧ ∀ f, sp k f = .inr (ci, fs f)) (hc : cl[ci]? = some (C, T, Nf)) (hj : j < Nf) (hlink : (Cond.fieldLink own index (T j).1 (T j).2.1 (T j).2.2.1).before args s = true) (hfin : (T j).2.2.2 = false) {x : Int32} (hn : narrow (ty0 j) (.int x) = .int x) (hfit : fits (ty0 j) (.int x) = true) (hl : ∀ f, j < (fs f).length) (hu : ∀ (f : Nat → Int32) (x : Int32), (fs f).set j (.int x) = fs (upd f j x)) {F : Mem → Option β} (hdg : decode cc pc = .ok (.putfield index, 3))
    (hf : gd ok (bnd (mset M k j x) F) = some res) (kk : ∀ (M' : Mem) (H1 : Heap) (locs1 : List Loc), va_P D cl (gw N ad sp M') H1 → va_S A H0 H1 locs1 → F M' = some res → W p l e R s m args below meth c H1 locs1 cells slots Q (F0 m (pc + 3) ls rest)) : W p l e R s m args below meth c H locs cells slots Q (F0 m pc ls (.int x :: .ref (ad k) :: rest)) := by
  obtain ⟨h1, hf⟩ := gd_s hf
  obtain ⟨hN, hs⟩ := hk h1
  refine va_put (ty := ty0 j) hx hb hts hin ty0 hty hnm hown hK hP (gw_D hI hA) hS k (by rw [gw_at hN, hs]) hc j hj hlink (fun _ h => h) hfin (hty j hj) hn hfit (hl (M k)) hdg (fun H1 locs1 hP1 _ hS1 => kk _ H1 locs1 ?_ hS1 hf)
  rw [hu, ← hs (upd (M k) j x), gw_set hN] at hP1
  exact hP1
-- calls
theorem r_callv {M' : Mem} {st0 : List Value} {a : Array Value} (hr : va_Run p l e R s m args below meth c H locs cells slots 0 0 (F0 m pc ls st0) rest (Qf D cl N ad sp A none M' a) A) (hS : va_S A H0 H locs)
    (kk : ∀ (H1 : Heap) (locs1 : List Loc), va_P D cl (gw N ad sp M') H1 → va_S A H0 H1 locs1 → W p l e R s m args below meth c H1 locs1 cells slots Q (F0 m (pc + 3) ls rest)) : W p l e R s m args below meth c H locs cells slots Q (F0 m pc ls st0) := by
  intro T hT X
  obtain ⟨v, st₀, t, T', L, h0, X', hL, e1, e2, ⟨hv, hP1, hz, hk⟩, st⟩ := hr T hT X
  cases hv
  rw [h0] at hz hk
  obtain ⟨t2, a1, b1⟩ := kk T'.heap (locs ++ L) (by rw [e1]; exact hP1) ⟨Nat.le_trans hS.1 (by rw [e1]; exact hz), fun q h1 h2 => by rw [e1, hk q (Nat.lt_of_lt_of_le h1 hS.1) h2]; exact hS.2.1 q h1 h2, fun q hq => by
      rcases List.mem_append.mp hq with h | h
      · exact hS.2.2 q h
      · exact hL q h⟩ T' rfl X'
  exact ⟨t2, st t2 a1, b1⟩
theorem r_call1 {M' : Mem} {st0 : List Value} {a : Array Value} {w : Value} (hr : va_Run p l e R s m args below meth c H locs cells slots 0 0 (F0 m pc ls st0) rest (Qf D cl N ad sp A (some w) M' a) A) (hS : va_S A H0 H locs)
    (kk : ∀ (H1 : Heap) (locs1 : List Loc), va_P D cl (gw N ad sp M') H1 → va_S A H0 H1 locs1 → W p l e R s m args below meth c H1 locs1 cells slots Q (F0 m (pc + 3) ls (w :: rest))) : W p l e R s m args below meth c H locs cells slots Q (F0 m pc ls st0) := by
  intro T hT X
  obtain ⟨v, st₀, t, T', L, h0, X', hL, e1, e2, ⟨hv, hP1, hz, hk⟩, st⟩ := hr T hT X
  cases hv
  rw [h0] at hz hk
  obtain ⟨t2, a1, b1⟩ := kk T'.heap (locs ++ L) (by rw [e1]; exact hP1) ⟨Nat.le_trans hS.1 (by rw [e1]; exact hz), fun q h1 h2 => by rw [e1, hk q (Nat.lt_of_lt_of_le h1 hS.1) h2]; exact hS.2.1 q h1 h2, fun q hq => by
      rcases List.mem_append.mp hq with h | h
      · exact hS.2.2 q h
      · exact hL q h⟩ T' rfl X'
  exact ⟨t2, st t2 a1, b1⟩
-- ends
theorem r_iret {v : Int32} (hx : p.tables.exec = Jvm.exec) (hb : c.code = cc) (hr : meth.sig.returnType = some .int) (hlocks : meth.locks = false) (hP : va_P D cl (gw N ad sp M) H) (hS : va_S A s.heap H locs) (hdg : decode cc pc = .ok (.ireturn, 1)) : W p l e R s m args below meth c H locs 0 0 (MQ below (Qf D cl N ad sp A (some (.int v)) M) args s 0 0 A) (F0 m pc ls [.int v]) :=
  W.iret hx hb hr (fun t ht hW => ⟨rfl, by rw [ht]; exact hP, hS.F ht⟩) hS.2.2 hdg hlocks
theorem r_zret {v : Int32} (hx : p.tables.exec = Jvm.exec) (hb : c.code = cc) (hr : meth.sig.returnType = some .boolean) (hn : narrow .boolean (.int v) = .int v) (hlocks : meth.locks = false) (hP : va_P D cl (gw N ad sp M) H) (hS : va_S A s.heap H locs) (hdg : decode cc pc = .ok (.ireturn, 1)) : W p l e R s m args below meth c H locs 0 0 (MQ below (Qf D cl N ad sp A (some (.int v)) M) args s 0 0 A) (F0 m pc ls [.int v]) :=
  W.zret hx hb hr hn (fun t ht hW => ⟨rfl, by rw [ht]; exact hP, hS.F ht⟩) hS.2.2 hdg hlocks
theorem r_vret (hx : p.tables.exec = Jvm.exec) (hb : c.code = cc) (hr : meth.sig.returnType = none) (hlocks : meth.locks = false) (hP : va_P D cl (gw N ad sp M) H) (hS : va_S A s.heap H locs) (hdg : decode cc pc = .ok (.return_, 1)) : W p l e R s m args below meth c H locs 0 0 (MQ below (Qf D cl N ad sp A none M) args s 0 0 A) (F0 m pc ls []) :=
  W.vret hx hb hr (fun t ht hW => ⟨rfl, by rw [ht]; exact hP, hS.F ht⟩) hS.2.2 hdg hlocks
end RW
end
