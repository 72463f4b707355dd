/-! One instruction. -/
noncomputable def obs (M2 : Mem) (p0 p1 : Nat) (x3 x4 x5 x6 x7 : Int32) : Option (Int32 × Mem) := if x7 = (0 : Int32) then bnd (mset M2 1 2 x5) (fun M8 => some ((-1 : Int32), M8)) else if x7 = (1 : Int32) then gd (isI (p0 + 3) && inb x3 (lnC (p0 + 3))) (bnd (mset M2 (p0 + 3) (x3).toNatClampNeg x4) (fun M9 => some ((0 : Int32), M9))) else if x7 = (2 : Int32) then gd (isI (p0 + 3) && inb x3 (lnC (p0 + 3))) (bnd (mset M2 (p0 + 3) (x3).toNatClampNeg (x5 + x6)) (fun M10 => some ((0 : Int32), M10))) else if x7 = (3 : Int32) then gd (isI (p0 + 3) && inb x3 (lnC (p0 + 3))) (bnd (mset M2 (p0 + 3) (x3).toNatClampNeg (x5 - x6)) (fun M11 => some ((0 : Int32), M11))) else if x7 = (4 : Int32) then gd (isI (p0 + 3) && inb x3 (lnC (p0 + 3))) (bnd (mset M2 (p0 + 3) (x3).toNatClampNeg (x5 * x6)) (fun M12 => some ((0 : Int32), M12))) else if x7 = (5 : Int32) then gd (isI (p0 + 3) && inb x3 (lnC (p0 + 3))) (bnd (mset M2 (p0 + 3) (x3).toNatClampNeg (x5 &&& x6)) (fun M13 => some ((0 : Int32), M13))) else if x7 = (6 : Int32) then (fX1_load M2 p1 (x6 + x4) (p0 + 3) x3).bind (fun q14 => some (q14.1, q14.2)) else if x7 = (7 : Int32) then (fX1_save M2 p1 (x6 + x4) x5).bind (fun q15 => some (q15.1, q15.2)) else if x7 = (8 : Int32) then gd (isPg p0) (bnd (M2 p0 9) (fun x16 => jn (fun (x17 : Int32) => gd (isPg p0) (bnd (mset M2 p0 9 (x16 + x17)) (fun M19 => some ((0 : Int32), M19)))) (fun K18 => if x5 = 0 then K18 (0 : Int32) else K18 x4))) else if x7 = (9 : Int32) then (fX1_vouch M2 p1 x5 x6).bind (fun q20 => some (q20.1, q20.2)) else if x7 = (10 : Int32) then (fX1_compare M2 p1 x6 (p0 + 3) x3).bind (fun q21 => some (q21.1, q21.2)) else if x7 = (11 : Int32) then gd (isPg p1) (gd (isI (p1 + 2) && inb (x4 &&& (7 : Int32)) (lnC (p1 + 2))) (bnd (M2 (p1 + 2) (x4 &&& (7 : Int32)).toNatClampNeg) (fun x22 => gd (isI (p0 + 3) && inb x3 (lnC (p0 + 3))) (bnd (mset M2 (p0 + 3) (x3).toNatClampNeg x22) (fun M23 => some ((0 : Int32), M23)))))) else if x7 = (12 : Int32) then gd (isPg p0) (bnd (M2 p0 1) (fun x24 => (fX4_useSpare M2 x24 x5 x6 (x4 &&& (7 : Int32))).bind (fun q25 => jn (fun (x26 : Int32) => gd (isI (p0 + 3) && inb x3 (lnC (p0 + 3))) (bnd (mset q25.2 (p0 + 3) (x3).toNatClampNeg x26) (fun M28 => some ((0 : Int32), M28)))) (fun K27 => if q25.1 = 0 then K27 (1 : Int32) else K27 (0 : Int32))))) else if x7 = (13 : Int32) then gd (isPg p0) (bnd (M2 p0 1) (fun x29 => (fX4_giveBack M2 x29 x6).bind (fun q30 => gd (isI (p0 + 3) && inb x3 (lnC (p0 + 3))) (bnd (mset q30.2 (p0 + 3) (x3).toNatClampNeg q30.1) (fun M31 => some ((0 : Int32), M31)))))) else some ((4 : Int32), M2)
noncomputable def ons (M12 : Mem) (x8 x9 x10 x13 : Int32) : Option (Int32 × Mem) := if x13 = (0 : Int32) then gd (inb x8 4) (bnd (M12 17 (x8).toNatClampNeg) (fun x14 => bnd (mset M12 0 17 x14) (fun M15 => some ((1 : Int32), M15)))) else if x13 = (1 : Int32) then gd (inb x8 4) (bnd (mset M12 17 (x8).toNatClampNeg x10) (fun M16 => some ((0 : Int32), M16))) else if x13 = (2 : Int32) then gd (inb x8 4) (bnd (M12 17 (x8).toNatClampNeg) (fun x17 => gd (inb x8 4) (bnd (mset M12 17 (x8).toNatClampNeg (x17 + x9)) (fun M18 => some ((0 : Int32), M18))))) else if x13 = (3 : Int32) then gd (inb x8 4) (bnd (M12 17 (x8).toNatClampNeg) (fun x19 => gd (inb x8 4) (bnd (mset M12 17 (x8).toNatClampNeg (x19 - x9)) (fun M20 => some ((0 : Int32), M20))))) else if x13 = (4 : Int32) then gd (inb x8 4) (bnd (M12 17 (x8).toNatClampNeg) (fun x21 => gd (inb x8 4) (bnd (mset M12 17 (x8).toNatClampNeg (x21 * x9)) (fun M22 => some ((0 : Int32), M22))))) else if x13 = (5 : Int32) then gd (inb x8 4) (bnd (M12 17 (x8).toNatClampNeg) (fun x23 => gd (inb x8 4) (bnd (mset M12 17 (x8).toNatClampNeg (x23 &&& x9)) (fun M24 => some ((0 : Int32), M24))))) else if x13 = (6 : Int32) then (fX6_load M12 (x9 + x10)).bind (fun q25 => (fX6_put q25.2 x8 q25.1).bind (fun q26 => some ((0 : Int32), q26))) else if x13 = (7 : Int32) then gd (inb x8 4) (bnd (M12 17 (x8).toNatClampNeg) (fun x27 => (fX6_store M12 (x9 + x10) x27).bind (fun q28 => some ((0 : Int32), q28)))) else if x13 = (8 : Int32) then gd (inb x8 4) (bnd (M12 17 (x8).toNatClampNeg) (fun x29 => jn (fun (x32 : Int32) => bnd (mset M12 0 23 x32) (fun M34 => some ((0 : Int32), M34))) (fun K33 => if x29 = 0 then bnd (M12 0 23) (fun x35 => K33 x35) else bnd (M12 0 23) (fun x36 => K33 (x36 + x10))))) else if x13 = (9 : Int32) then gd (inb x8 4) (bnd (M12 17 (x8).toNatClampNeg) (fun x37 => (fX6_vouch M12 x37 x9).bind (fun q38 => some ((0 : Int32), q38)))) else if x13 = (10 : Int32) then (fX6_verified M12 x9).bind (fun q39 => (fX6_put q39.2 x8 q39.1).bind (fun q40 => some ((0 : Int32), q40))) else if x13 = (11 : Int32) then bnd (M12 0 21) (fun x41 => gd (inb (((8 : Int32) * x41) + (x10 &&& (7 : Int32))) 160) (bnd (M12 12 (((8 : Int32) * x41) + (x10 &&& (7 : Int32))).toNatClampNeg) (fun x42 => gd (inb x8 4) (bnd (mset M12 17 (x8).toNatClampNeg x42) (fun M43 => some ((0 : Int32), M43)))))) else if x13 = (12 : Int32) then gd (inb x8 4) (bnd (M12 17 (x8).toNatClampNeg) (fun x44 => (fX6_takeIn M12 x44 x9 (x10 &&& (7 : Int32))).bind (fun q45 => gd (inb x8 4) (bnd (mset q45.2 17 (x8).toNatClampNeg q45.1) (fun M46 => some ((0 : Int32), M46)))))) else if x13 = (13 : Int32) then (fX6_giveBack M12 x9).bind (fun q47 => gd (inb x8 4) (bnd (mset q47.2 17 (x8).toNatClampNeg q47.1) (fun M48 => some ((0 : Int32), M48)))) else bnd (mset M12 0 24 (4 : Int32)) (fun M49 => some ((0 : Int32), M49))
theorem obs_0 {M2 : Mem} {p0 p1 : Nat} {x3 x4 x5 x6 : Int32} : obs M2 p0 p1 x3 x4 x5 x6 (nI 0) = bnd (mset M2 1 2 x5) (fun M8 => some ((-1 : Int32), M8)) := rfl
theorem ons_0 {M12 : Mem} {x8 x9 x10 : Int32} : ons M12 x8 x9 x10 (nI 0) = gd (inb x8 4) (bnd (M12 17 (x8).toNatClampNeg) (fun x14 => bnd (mset M12 0 17 x14) (fun M15 => some ((1 : Int32), M15)))) := rfl
theorem obs_1 {M2 : Mem} {p0 p1 : Nat} {x3 x4 x5 x6 : Int32} : obs M2 p0 p1 x3 x4 x5 x6 (nI 1) = gd (isI (p0 + 3) && inb x3 (lnC (p0 + 3))) (bnd (mset M2 (p0 + 3) (x3).toNatClampNeg x4) (fun M9 => some ((0 : Int32), M9))) := rfl
theorem ons_1 {M12 : Mem} {x8 x9 x10 : Int32} : ons M12 x8 x9 x10 (nI 1) = gd (inb x8 4) (bnd (mset M12 17 (x8).toNatClampNeg x10) (fun M16 => some ((0 : Int32), M16))) := rfl
theorem obs_2 {M2 : Mem} {p0 p1 : Nat} {x3 x4 x5 x6 : Int32} : obs M2 p0 p1 x3 x4 x5 x6 (nI 2) = gd (isI (p0 + 3) && inb x3 (lnC (p0 + 3))) (bnd (mset M2 (p0 + 3) (x3).toNatClampNeg (x5 + x6)) (fun M10 => some ((0 : Int32), M10))) := rfl
theorem ons_2 {M12 : Mem} {x8 x9 x10 : Int32} : ons M12 x8 x9 x10 (nI 2) = gd (inb x8 4) (bnd (M12 17 (x8).toNatClampNeg) (fun x17 => gd (inb x8 4) (bnd (mset M12 17 (x8).toNatClampNeg (x17 + x9)) (fun M18 => some ((0 : Int32), M18))))) := rfl
theorem obs_3 {M2 : Mem} {p0 p1 : Nat} {x3 x4 x5 x6 : Int32} : obs M2 p0 p1 x3 x4 x5 x6 (nI 3) = gd (isI (p0 + 3) && inb x3 (lnC (p0 + 3))) (bnd (mset M2 (p0 + 3) (x3).toNatClampNeg (x5 - x6)) (fun M11 => some ((0 : Int32), M11))) := rfl
theorem ons_3 {M12 : Mem} {x8 x9 x10 : Int32} : ons M12 x8 x9 x10 (nI 3) = gd (inb x8 4) (bnd (M12 17 (x8).toNatClampNeg) (fun x19 => gd (inb x8 4) (bnd (mset M12 17 (x8).toNatClampNeg (x19 - x9)) (fun M20 => some ((0 : Int32), M20))))) := rfl
theorem obs_4 {M2 : Mem} {p0 p1 : Nat} {x3 x4 x5 x6 : Int32} : obs M2 p0 p1 x3 x4 x5 x6 (nI 4) = gd (isI (p0 + 3) && inb x3 (lnC (p0 + 3))) (bnd (mset M2 (p0 + 3) (x3).toNatClampNeg (x5 * x6)) (fun M12 => some ((0 : Int32), M12))) := rfl
theorem ons_4 {M12 : Mem} {x8 x9 x10 : Int32} : ons M12 x8 x9 x10 (nI 4) = gd (inb x8 4) (bnd (M12 17 (x8).toNatClampNeg) (fun x21 => gd (inb x8 4) (bnd (mset M12 17 (x8).toNatClampNeg (x21 * x9)) (fun M22 => some ((0 : Int32), M22))))) := rfl
theorem obs_5 {M2 : Mem} {p0 p1 : Nat} {x3 x4 x5 x6 : Int32} : obs M2 p0 p1 x3 x4 x5 x6 (nI 5) = gd (isI (p0 + 3) && inb x3 (lnC (p0 + 3))) (bnd (mset M2 (p0 + 3) (x3).toNatClampNeg (x5 &&& x6)) (fun M13 => some ((0 : Int32), M13))) := rfl
theorem ons_5 {M12 : Mem} {x8 x9 x10 : Int32} : ons M12 x8 x9 x10 (nI 5) = gd (inb x8 4) (bnd (M12 17 (x8).toNatClampNeg) (fun x23 => gd (inb x8 4) (bnd (mset M12 17 (x8).toNatClampNeg (x23 &&& x9)) (fun M24 => some ((0 : Int32), M24))))) := rfl
theorem obs_6 {M2 : Mem} {p0 p1 : Nat} {x3 x4 x5 x6 : Int32} : obs M2 p0 p1 x3 x4 x5 x6 (nI 6) = (fX1_load M2 p1 (x6 + x4) (p0 + 3) x3).bind (fun q14 => some (q14.1, q14.2)) := rfl
theorem ons_6 {M12 : Mem} {x8 x9 x10 : Int32} : ons M12 x8 x9 x10 (nI 6) = (fX6_load M12 (x9 + x10)).bind (fun q25 => (fX6_put q25.2 x8 q25.1).bind (fun q26 => some ((0 : Int32), q26))) := rfl
theorem obs_7 {M2 : Mem} {p0 p1 : Nat} {x3 x4 x5 x6 : Int32} : obs M2 p0 p1 x3 x4 x5 x6 (nI 7) = (fX1_save M2 p1 (x6 + x4) x5).bind (fun q15 => some (q15.1, q15.2)) := rfl
theorem ons_7 {M12 : Mem} {x8 x9 x10 : Int32} : ons M12 x8 x9 x10 (nI 7) = gd (inb x8 4) (bnd (M12 17 (x8).toNatClampNeg) (fun x27 => (fX6_store M12 (x9 + x10) x27).bind (fun q28 => some ((0 : Int32), q28)))) := rfl
theorem obs_8 {M2 : Mem} {p0 p1 : Nat} {x3 x4 x5 x6 : Int32} : obs M2 p0 p1 x3 x4 x5 x6 (nI 8) = gd (isPg p0) (bnd (M2 p0 9) (fun x16 => jn (fun (x17 : Int32) => gd (isPg p0) (bnd (mset M2 p0 9 (x16 + x17)) (fun M19 => some ((0 : Int32), M19)))) (fun K18 => if x5 = 0 then K18 (0 : Int32) else K18 x4))) := rfl
theorem ons_8 {M12 : Mem} {x8 x9 x10 : Int32} : ons M12 x8 x9 x10 (nI 8) = gd (inb x8 4) (bnd (M12 17 (x8).toNatClampNeg) (fun x29 => jn (fun (x32 : Int32) => bnd (mset M12 0 23 x32) (fun M34 => some ((0 : Int32), M34))) (fun K33 => if x29 = 0 then bnd (M12 0 23) (fun x35 => K33 x35) else bnd (M12 0 23) (fun x36 => K33 (x36 + x10))))) := rfl
theorem obs_9 {M2 : Mem} {p0 p1 : Nat} {x3 x4 x5 x6 : Int32} : obs M2 p0 p1 x3 x4 x5 x6 (nI 9) = (fX1_vouch M2 p1 x5 x6).bind (fun q20 => some (q20.1, q20.2)) := rfl
theorem ons_9 {M12 : Mem} {x8 x9 x10 : Int32} : ons M12 x8 x9 x10 (nI 9) = gd (inb x8 4) (bnd (M12 17 (x8).toNatClampNeg) (fun x37 => (fX6_vouch M12 x37 x9).bind (fun q38 => some ((0 : Int32), q38)))) := rfl
theorem obs_10 {M2 : Mem} {p0 p1 : Nat} {x3 x4 x5 x6 : Int32} : obs M2 p0 p1 x3 x4 x5 x6 (nI 10) = (fX1_compare M2 p1 x6 (p0 + 3) x3).bind (fun q21 => some (q21.1, q21.2)) := rfl
theorem ons_10 {M12 : Mem} {x8 x9 x10 : Int32} : ons M12 x8 x9 x10 (nI 10) = (fX6_verified M12 x9).bind (fun q39 => (fX6_put q39.2 x8 q39.1).bind (fun q40 => some ((0 : Int32), q40))) := rfl
theorem obs_11 {M2 : Mem} {p0 p1 : Nat} {x3 x4 x5 x6 : Int32} : obs M2 p0 p1 x3 x4 x5 x6 (nI 11) = gd (isPg p1) (gd (isI (p1 + 2) && inb (x4 &&& (7 : Int32)) (lnC (p1 + 2))) (bnd (M2 (p1 + 2) (x4 &&& (7 : Int32)).toNatClampNeg) (fun x22 => gd (isI (p0 + 3) && inb x3 (lnC (p0 + 3))) (bnd (mset M2 (p0 + 3) (x3).toNatClampNeg x22) (fun M23 => some ((0 : Int32), M23)))))) := rfl
theorem ons_11 {M12 : Mem} {x8 x9 x10 : Int32} : ons M12 x8 x9 x10 (nI 11) = bnd (M12 0 21) (fun x41 => gd (inb (((8 : Int32) * x41) + (x10 &&& (7 : Int32))) 160) (bnd (M12 12 (((8 : Int32) * x41) + (x10 &&& (7 : Int32))).toNatClampNeg) (fun x42 => gd (inb x8 4) (bnd (mset M12 17 (x8).toNatClampNeg x42) (fun M43 => some ((0 : Int32), M43)))))) := rfl
theorem obs_12 {M2 : Mem} {p0 p1 : Nat} {x3 x4 x5 x6 : Int32} : obs M2 p0 p1 x3 x4 x5 x6 (nI 12) = gd (isPg p0) (bnd (M2 p0 1) (fun x24 => (fX4_useSpare M2 x24 x5 x6 (x4 &&& (7 : Int32))).bind (fun q25 => jn (fun (x26 : Int32) => gd (isI (p0 + 3) && inb x3 (lnC (p0 + 3))) (bnd (mset q25.2 (p0 + 3) (x3).toNatClampNeg x26) (fun M28 => some ((0 : Int32), M28)))) (fun K27 => if q25.1 = 0 then K27 (1 : Int32) else K27 (0 : Int32))))) := rfl
theorem ons_12 {M12 : Mem} {x8 x9 x10 : Int32} : ons M12 x8 x9 x10 (nI 12) = gd (inb x8 4) (bnd (M12 17 (x8).toNatClampNeg) (fun x44 => (fX6_takeIn M12 x44 x9 (x10 &&& (7 : Int32))).bind (fun q45 => gd (inb x8 4) (bnd (mset q45.2 17 (x8).toNatClampNeg q45.1) (fun M46 => some ((0 : Int32), M46)))))) := rfl
theorem obs_13 {M2 : Mem} {p0 p1 : Nat} {x3 x4 x5 x6 : Int32} : obs M2 p0 p1 x3 x4 x5 x6 (nI 13) = gd (isPg p0) (bnd (M2 p0 1) (fun x29 => (fX4_giveBack M2 x29 x6).bind (fun q30 => gd (isI (p0 + 3) && inb x3 (lnC (p0 + 3))) (bnd (mset q30.2 (p0 + 3) (x3).toNatClampNeg q30.1) (fun M31 => some ((0 : Int32), M31)))))) := rfl
theorem ons_13 {M12 : Mem} {x8 x9 x10 : Int32} : ons M12 x8 x9 x10 (nI 13) = (fX6_giveBack M12 x9).bind (fun q47 => gd (inb x8 4) (bnd (mset q47.2 17 (x8).toNatClampNeg q47.1) (fun M48 => some ((0 : Int32), M48)))) := rfl
theorem obs_14 {M2 : Mem} {p0 p1 : Nat} {x3 x4 x5 x6 : Int32} : obs M2 p0 p1 x3 x4 x5 x6 (nI 14) = some ((4 : Int32), M2) := rfl
theorem ons_14 {M12 : Mem} {x8 x9 x10 : Int32} : ons M12 x8 x9 x10 (nI 14) = bnd (mset M12 0 24 (4 : Int32)) (fun M49 => some ((0 : Int32), M49)) := rfl
theorem obs_15 {M2 : Mem} {p0 p1 : Nat} {x3 x4 x5 x6 : Int32} : obs M2 p0 p1 x3 x4 x5 x6 (nI 15) = some ((4 : Int32), M2) := rfl
theorem ons_15 {M12 : Mem} {x8 x9 x10 : Int32} : ons M12 x8 x9 x10 (nI 15) = bnd (mset M12 0 24 (4 : Int32)) (fun M49 => some ((0 : Int32), M49)) := rfl
theorem sh4 (x : Int32) : ∃ j, j < 4 ∧ (x >>> ((4 : Int32) &&& 31)) &&& (3 : Int32) = nI j := pk_andE _ 2 (by decide)
theorem sh6 (x : Int32) : ∃ j, j < 4 ∧ (x >>> ((6 : Int32) &&& 31)) &&& (3 : Int32) = nI j := pk_andE _ 2 (by decide)
theorem an15 (x : Int32) : ∃ j, j < 16 ∧ x &&& (15 : Int32) = nI j := pk_andE _ 4 (by decide)
theorem an7 (x : Int32) : ∃ j, j < 8 ∧ x &&& nI 7 = nI j := pk_andE _ 3 (by decide)
theorem obey_e {C : Mem} {th s ja jb jc : Nat} {x : Int32} (ht : th < 20) (ha : ja < 4) (hb : jb < 4) (e4 : (x >>> ((4 : Int32) &&& 31)) &&& (3 : Int32) = nI ja) (e6 : (x >>> ((6 : Int32) &&& 31)) &&& (3 : Int32) = nI jb) (e15 : x &&& (15 : Int32) = nI jc) :
    fX1_obey C (33 + 5 * th) (33 + 5 * s) x = obs (mset C (33 + 5 * th) 9 (C (33 + 5 * th) 9 + nI 1)) (33 + 5 * th) (33 + 5 * s) (nI ja) (x >>> ((8 : Int32) &&& 31)) (C (33 + 5 * th + 3) ja) (C (33 + 5 * th + 3) jb) (nI jc) := by
  unfold fX1_obey
  rw [gd_t (isPg_p ht), bnd_e, gd_t (isPg_p ht), bnd_e, gd_t (isPg_p ht), bnd_e, bnd_e, e4, gd_t (by rw [isI_p3 ht, lnC_p3 ht, inb_nI (by omega)]; simp [ha]), bnd_e, e6, gd_t (by rw [isI_p3 ht, lnC_p3 ht, inb_nI (by omega)]; simp [hb]), bnd_e, bnd_e, e15, tn_nI (by omega), tn_nI (by omega), mset_nk C _ _ (show 33 + 5 * th + 3 ≠ 33 + 5 * th by omega)]
  unfold obs
  rw [tn_nI (by omega)]
  rfl
theorem one_s {R : Mem} {n ja jb jc : Nat} (hn : n < 448) (hl : fX6_lies R (R 0 23) (nI 4) = some (nI n, R)) (ha : ja < 4) (hb : jb < 4) (e4 : (mrd R n >>> ((4 : Int32) &&& 31)) &&& (3 : Int32) = nI ja) (e6 : (mrd R n >>> ((6 : Int32) &&& 31)) &&& (3 : Int32) = nI jb) (e15 : mrd R n &&& (15 : Int32) = nI jc) :
    fX6_one R = ons (mset R 0 23 (R 0 23 + nI 1)) (nI ja) (R 17 jb) (mrd R n >>> ((8 : Int32) &&& 31)) (nI jc) := by
  have go : ∀ x6 : Int32, x6 = mrd R n → bnd ((x6 >>> ((4 : Int32) &&& 31)) &&& (3 : Int32)) (fun x8 => gd (inb ((x6 >>> ((6 : Int32) &&& 31)) &&& (3 : Int32)) 4) (bnd (R 17 ((x6 >>> ((6 : Int32) &&& 31)) &&& (3 : Int32)).toNatClampNeg) (fun x9 => bnd (x6 >>> ((8 : Int32) &&& 31)) (fun x10 => bnd (R 0 23) (fun x11 => bnd (mset R 0 23 (x11 + (1 : Int32))) (fun M12 => bnd (x6 &&& (15 : Int32)) (fun x13 => ons M12 x8 x9 x10 x13))))))) = ons (mset R 0 23 (R 0 23 + nI 1)) (nI ja) (R 17 jb) (mrd R n >>> ((8 : Int32) &&& 31)) (nI jc) := by
    intro x6 h6
    rw [h6, bnd_e, e4, e6, gd_t (by rw [inb_nI (by omega)]; simp [hb]), tn_nI (by omega), bnd_e, bnd_e, bnd_e, bnd_e, e15, bnd_e]
    rfl
  unfold fX6_one
  rw [bnd_e, li_4, hl, Option.bind_some, bnd_e, li_0, if_pos (nI_le (Nat.zero_le _) (by omega)), jn_e]
  rcases Nat.lt_or_ge n 320 with c | c
  · rw [li_320, if_neg (nI_ge c (by omega))]
    rw [gd_t (by rw [inb_nI (by omega)]; simp [c]), bnd_e, tn_nI (by omega)]
    exact go _ (by unfold mrd; rw [if_neg (by omega)])
  · rw [li_320, if_pos (nI_le c (by omega)), nI_subl c]
    rw [gd_t (by rw [inb_nI (by omega)]; simp; omega), bnd_e, tn_nI (by omega)]
    exact go _ (by unfold mrd; rw [if_pos c])
theorem one_n {R : Mem} (hl : fX6_lies R (R 0 23) (nI 4) = some (-nI 1, R)) : fX6_one R = some (nI 0, mset R 0 24 (nI 1)) := by
  have nm := m1_nle
  unfold fX6_one
  rw [bnd_e, li_4, hl, Option.bind_some, bnd_e, li_0, if_neg nm, bnd_e, li_1]
theorem RU_fr {C C' R R' : Mem} {th s : Nat} (hu : RU C R th s) (hC : ∀ a b, ¬ (a = 33 + 5 * th ∧ (b = 8 ∨ b = 9)) → a ≠ 33 + 5 * th + 3 → a ≠ 1 → C' a b = C a b) (hR : ∀ a b, a ≠ 17 → a ≠ 0 → R' a b = R a b) : RU C' R' th s := by
  obtain ⟨kd, ow, st, md, et, lg, tb, en, rt, h, hI, k⟩ := hu
  exact ⟨kd, ow, st, md, et, lg, tb, en, rt, RW_fr h (fun q hq => (hI.1 q hq).2.2.2.2.1) (fun a b _ _ h3 h4 _ h6 => hC a b h3 h4 h6) (fun a b h1 _ h3 => hR a b h1 h3), hI, k⟩
def RG (C R : Mem) (th s : Nat) : Prop := RU C R th s ∧ (∀ j, j < 4 → C (33 + 5 * th + 3) j = R 17 j) ∧ C (33 + 5 * th) 9 = R 0 23 ∧ R 0 21 = nI s ∧ R 0 20 = nI th ∧ R 0 24 = nI 0
theorem RG_reg {C R : Mem} {th s j : Nat} (g : RG C R th s) (v : Int32) : RG (mset C (33 + 5 * th + 3) j v) (mset R 17 j v) th s := by
  obtain ⟨g1, g2, g3, g4, g5, g6⟩ := g
  refine ⟨RU_fr g1 (fun a b _ h _ => by rw [mset_nk _ _ _ h]) (fun a b h _ => by rw [mset_nk _ _ _ h]), fun i hi => ?_, ?_, ?_, ?_, ?_⟩
  · by_cases c : i = j
    · rw [c, mset_s, mset_s]
    · rw [mset_nj _ _ _ c, mset_nj _ _ _ c, g2 i hi]
  · rw [mset_nk _ _ _ (by omega), mset_nk _ _ _ (by omega), g3]
  · rw [mset_nk _ _ _ (by omega), g4]
  · rw [mset_nk _ _ _ (by omega), g5]
  · rw [mset_nk _ _ _ (by omega), g6]
theorem RG_at {C R : Mem} {th s : Nat} (g : RG C R th s) (v : Int32) : RG (mset C (33 + 5 * th) 9 v) (mset R 0 23 v) th s := by
  obtain ⟨g1, g2, g3, g4, g5, g6⟩ := g
  refine ⟨RU_fr g1 (fun a b h _ _ => ?_) (fun a b _ h => by rw [mset_nk _ _ _ h]), fun i hi => ?_, ?_, ?_, ?_, ?_⟩
  · by_cases c : a = 33 + 5 * th
    · rw [c, mset_nj _ _ _ (by omega)]
    · rw [mset_nk _ _ _ c]
  · rw [mset_nk _ _ _ (by omega), mset_nk _ _ _ (by omega), g2 i hi]
  · rw [mset_s, mset_s]
  · rw [mset_nj _ _ _ (by omega), g4]
  · rw [mset_nj _ _ _ (by omega), g5]
  · rw [mset_nj _ _ _ (by omega), g6]
/-- one instruction's outcome: it goes on, leaves, or faults -/
def OUT (th s : Nat) (R : Mem) (o : Int32) (C' : Mem) (b : Int32) (R' : Mem) : Prop := RU C' R' th s ∧ R' 0 18 = R 0 18 ∧ R' 0 20 = R 0 20 ∧ ((o = nI 0 ∧ b = nI 0 ∧ RG C' R' th s ∧ R' 0 17 = R 0 17) ∨ (o = -nI 1 ∧ b = nI 1 ∧ C' 1 2 = R' 0 17) ∨ (∃ g, 1 ≤ g ∧ g < 5 ∧ o = nI g ∧ b = nI 0 ∧ R' 0 24 = nI g))
theorem OUT_go {C R R' : Mem} {th s : Nat} (g : RG C R' th s) (h17 : R' 0 17 = R 0 17) (h18 : R' 0 18 = R 0 18) (h20 : R' 0 20 = R 0 20) : OUT th s R (nI 0) C (nI 0) R' := ⟨g.1, h18, h20, Or.inl ⟨rfl, rfl, g, h17⟩⟩
theorem OUT_ft {C R R' : Mem} {th s g : Nat} (u : RU C R' th s) (h18 : R' 0 18 = R 0 18) (h20 : R' 0 20 = R 0 20) (h1 : 1 ≤ g) (h2 : g < 5) (h24 : R' 0 24 = nI g) : OUT th s R (nI g) C (nI 0) R' := ⟨u, h18, h20, Or.inr (Or.inr ⟨g, h1, h2, rfl, rfl, h24⟩)⟩
theorem OUT_reg {C R : Mem} {th s j : Nat} (g : RG C R th s) (v : Int32) : OUT th s R (nI 0) (mset C (33 + 5 * th + 3) j v) (nI 0) (mset R 17 j v) :=
  OUT_go (RG_reg g v) (by rw [mset_nk _ _ _ (by omega)]) (by rw [mset_nk _ _ _ (by omega)]) (by rw [mset_nk _ _ _ (by omega)])
theorem regC {C : Mem} {th j : Nat} (ht : th < 20) (hj : j < 4) (v : Int32) : gd (isI (33 + 5 * th + 3) && inb (nI j) (lnC (33 + 5 * th + 3))) (bnd (mset C (33 + 5 * th + 3) (nI j).toNatClampNeg v) (fun M => some ((0 : Int32), M))) = some (nI 0, mset C (33 + 5 * th + 3) j v) := by
  rw [gd_t (by rw [isI_p3 ht, lnC_p3 ht, inb_nI (by omega)]; simp [hj]), bnd_e, tn_nI (by omega), li_0]
theorem regM {R : Mem} {j : Nat} (hj : j < 4) (v : Int32) : gd (inb (nI j) 4) (bnd (mset R 17 (nI j).toNatClampNeg v) (fun M => some ((0 : Int32), M))) = some (nI 0, mset R 17 j v) := by
  rw [gd_t (by rw [inb_nI (by omega)]; simp [hj]), bnd_e, tn_nI (by omega), li_0]
theorem rdM {R : Mem} {β : Type} {j : Nat} (hj : j < 4) (F : Int32 → Option β) : gd (inb (nI j) 4) (bnd (R 17 (nI j).toNatClampNeg) F) = F (R 17 j) := by
  rw [gd_t (by rw [inb_nI (by omega)]; simp [hj]), bnd_e, tn_nI (by omega)]
theorem putM_0 {R : Mem} {j : Nat} (hj : j < 4) (h : R 0 24 = nI 0) (v : Int32) : fX6_put R (nI j) v = some (mset R 17 j v) := by
  unfold fX6_put
  rw [bnd_e, h, jn_e, li_0, if_pos rfl, gd_t (by rw [inb_nI (by omega)]; simp [hj]), bnd_e, tn_nI (by omega)]
theorem putM_n {R : Mem} {g : Nat} {x : Int32} (h1 : 1 ≤ g) (h2 : g < 10) (h : R 0 24 = nI g) (v : Int32) : fX6_put R x v = some R := by
  unfold fX6_put
  rw [bnd_e, h, jn_e, li_0, if_neg (by rw [nI_eq (by omega) (by omega)]; omega)]
theorem RG_RW {C C' R R' : Mem} {th s : Nat} (g : RG C R th s) (u : RU C' R' th s) (c3 : C' (33 + 5 * th + 3) = C (33 + 5 * th + 3)) (c0 : C' (33 + 5 * th) = C (33 + 5 * th)) (r0 : ∀ b, b ≠ 17 → b ≠ 18 → b ≠ 24 → R' 0 b = R 0 b) (r24 : R' 0 24 = nI 0) (r17 : R' 17 = R 17) : RG C' R' th s := by
  obtain ⟨g1, g2, g3, g4, g5, g6⟩ := g
  exact ⟨u, fun j hj => by rw [c3, r17, g2 j hj], by rw [c0, r0 23 (by omega) (by omega) (by omega), g3], by rw [r0 21 (by omega) (by omega) (by omega), g4], by rw [r0 20 (by omega) (by omega) (by omega), g5], r24⟩
theorem sw_6 {C R : Mem} {th s ja : Nat} (g : RG C R th s) (ht : th < 20) (hs : s < 20) (ha : ja < 4) (x y : Int32) (z : Int32) :
    ∃ o C' b R', obs C (33 + 5 * th) (33 + 5 * s) (nI ja) y z x (nI 6) = some (o, C') ∧ ons R (nI ja) x y (nI 6) = some (b, R') ∧ OUT th s R o C' b R' := by
  obtain ⟨g1, g2, g3, g4, g5, g6⟩ := id g
  obtain ⟨kd, ow, st, md, et, lg, tb, en, rt, h, hI, kt, ot, ks, ss, te⟩ := id g1
  have rc := rowAt_e h hI hs (Or.inl rfl) (x + y)
  have rl := lies_e h hI hs (Or.inl rfl) g4 (x + y)
  rw [obs_6, ons_6]
  rcases lx_alt hI hs ks ss 1 (x + y) with e | ⟨a, w, ha', ex, hw, e, _⟩
  · rw [e] at rc rl
    refine ⟨nI 2, C, nI 0, mset R 0 24 (nI 2), ?_, ?_, OUT_ft (RU_fr g1 (fun _ _ _ _ _ => rfl) (fun a b _ h => by rw [mset_nk _ _ _ h])) (by rw [mset_nj _ _ _ (by omega)]) (by rw [mset_nj _ _ _ (by omega)]) (by omega) (by omega) (by rw [mset_s])⟩
    · rw [ldC_n rc, Option.bind_some]
    · rw [ldM_n (g := 0) (by omega) g6 rl, Option.bind_some, if_pos rfl, putM_n (g := 2) (by omega) (by omega) (mset_s _ _ _ _), Option.bind_some, li_0]
  · rw [e] at rc rl
    have e5 : 5 + (16 * w + a % 16) / 16 = 5 + w := by omega
    have rc' : fX4_rowAt C (33 + 5 * s) (nI a) (nI 1) = some (some (5 + w), C) := by rw [← ex, rc, Option.map_some, e5]
    refine ⟨nI 0, mset C (33 + 5 * th + 3) ja (C (5 + w) (a % 16)), nI 0, mset R 17 ja (C (5 + w) (a % 16)), ?_, ?_, OUT_reg g _⟩
    · rw [ex, ldC_s ht ha' hw ha rc', Option.bind_some]
    · rw [ldM_s (n := 16 * w + a % 16) (by omega) rl, Option.bind_some, putM_0 ha g6, Option.bind_some, li_0, rd_eq h hw (Nat.mod_lt _ (by omega))]
theorem sw_7 {C R : Mem} {th s ja : Nat} (g : RG C R th s) (ht : th < 20) (hs : s < 20) (ha : ja < 4) (x y : Int32) :
    ∃ o C' b R', obs C (33 + 5 * th) (33 + 5 * s) (nI ja) y (R 17 ja) x (nI 7) = some (o, C') ∧ ons R (nI ja) x y (nI 7) = some (b, R') ∧ OUT th s R o C' b R' := by
  obtain ⟨g1, g2, g3, g4, g5, g6⟩ := id g
  obtain ⟨kd, ow, st, md, et, lg, tb, en, rt, h, hI, kt, ot, ks, ss, te⟩ := id g1
  have rc := rowAt_e h hI hs (Or.inr (Or.inl rfl)) (x + y)
  have rl := lies_e h hI hs (Or.inr (Or.inl rfl)) g4 (x + y)
  rw [obs_7, ons_7, rdM ha]
  rcases lx_alt hI hs ks ss 2 (x + y) with e | ⟨a, w, ha', ex, hw, e, _⟩
  · rw [e] at rc rl
    refine ⟨nI 3, C, nI 0, mset R 0 24 (nI 3), ?_, ?_, OUT_ft (RU_fr g1 (fun _ _ _ _ _ => rfl) (fun a b _ h => by rw [mset_nk _ _ _ h])) (by rw [mset_nj _ _ _ (by omega)]) (by rw [mset_nj _ _ _ (by omega)]) (by omega) (by omega) (by rw [mset_s])⟩
    · rw [svC_n rc, Option.bind_some]
    · rw [stM_n g6 rl, Option.bind_some, li_0]
  · rw [e] at rc rl
    have e5 : 5 + (16 * w + a % 16) / 16 = 5 + w := by omega
    have rc' : fX4_rowAt C (33 + 5 * s) (nI a) (nI 2) = some (some (5 + w), C) := by rw [← ex, rc, Option.map_some, e5]
    have r0 : ∀ k, k ≠ 2 → k ≠ 6 → mwr R (16 * w + a % 16) (R 17 ja) k = R k := fun k k2 k6 => by
      unfold mwr
      by_cases c : 320 ≤ 16 * w + a % 16
      · rw [if_pos c, mset_nk _ _ _ k2]
      · rw [if_neg c, mset_nk _ _ _ k6]
    have u : RU (mset C (5 + w) (a % 16) (R 17 ja)) (mwr R (16 * w + a % 16) (R 17 ja)) th s := ⟨kd, ow, st, md, et, lg, tb, en, rt, RW_st h (fun q hq => (hI.1 q hq).2.2.2.2.1) hw (Nat.mod_lt _ (by omega)) _, hI, kt, ot, ks, ss, te⟩
    refine ⟨nI 0, mset C (5 + w) (a % 16) (R 17 ja), nI 0, mwr R (16 * w + a % 16) (R 17 ja), ?_, ?_, OUT_go (RG_RW g u (mset_nk _ _ _ (by omega)) (mset_nk _ _ _ (by omega)) (fun b _ _ _ => by rw [r0 0 (by omega) (by omega)]) (by rw [r0 0 (by omega) (by omega), g6]) (r0 17 (by omega) (by omega))) (by rw [r0 0 (by omega) (by omega)]) (by rw [r0 0 (by omega) (by omega)]) (by rw [r0 0 (by omega) (by omega)])⟩
    · rw [ex, svC_s ha' hw rc', Option.bind_some]
    · rw [stM_s (n := 16 * w + a % 16) (by omega) rl, Option.bind_some, li_0]
theorem sw_8 {C R : Mem} {th s ja : Nat} (g : RG C R th s) (ht : th < 20) (ha : ja < 4) (x y : Int32) :
    ∃ o C' b R', obs C (33 + 5 * th) (33 + 5 * s) (nI ja) y (R 17 ja) x (nI 8) = some (o, C') ∧ ons R (nI ja) x y (nI 8) = some (b, R') ∧ OUT th s R o C' b R' := by
  obtain ⟨g1, g2, g3, g4, g5, g6⟩ := id g
  have fin : ∀ v : Int32, OUT th s R (nI 0) (mset C (33 + 5 * th) 9 v) (nI 0) (mset R 0 23 v) := fun v => OUT_go (RG_at g v) (by rw [mset_nj _ _ _ (by omega)]) (by rw [mset_nj _ _ _ (by omega)]) (by rw [mset_nj _ _ _ (by omega)])
  rw [obs_8, ons_8, rdM ha, gd_t (isPg_p ht), bnd_e, jn_e, jn_e]
  by_cases c : R 17 ja = 0
  · refine ⟨nI 0, _, nI 0, _, ?_, ?_, fin (R 0 23)⟩
    · rw [if_pos c, g3]
      show gd _ _ = _
      rw [gd_t (isPg_p ht), bnd_e, Int32.add_zero, li_0]
    · rw [if_pos c, bnd_e, li_0]
      rfl
  · refine ⟨nI 0, _, nI 0, _, ?_, ?_, fin (R 0 23 + y)⟩
    · rw [if_neg c, g3]
      show gd _ _ = _
      rw [gd_t (isPg_p ht), bnd_e, li_0]
    · rw [if_neg c, bnd_e, li_0]
      rfl
theorem sw_9 {C R : Mem} {th s ja : Nat} (g : RG C R th s) (ht : th < 20) (hs : s < 20) (ha : ja < 4) (x y : Int32) :
    ∃ o C' b R', obs C (33 + 5 * th) (33 + 5 * s) (nI ja) y (R 17 ja) x (nI 9) = some (o, C') ∧ ons R (nI ja) x y (nI 9) = some (b, R') ∧ OUT th s R o C' b R' := by
  obtain ⟨g1, g2, g3, g4, g5, g6⟩ := id g
  obtain ⟨kd, ow, st, md, et, lg, tb, en, rt, h, hI, kt, ot, ks, ss, te⟩ := id g1
  obtain ⟨o, C', R', a1, a2, a3, a4, a5, a6, a7, a8⟩ := sim_vouch h hI hs ks ss g4 g6 (R 17 ja) x
  have u : RU C' R' th s := ⟨kd, ow, st, md, et, lg, tb, en, rt, a5, hI, kt, ot, ks, ss, te⟩
  rw [obs_9, ons_9, rdM ha, a1, a2, Option.bind_some, Option.bind_some]
  refine ⟨nI o, C', nI 0, R', rfl, by rw [li_0], ?_⟩
  by_cases c : o = 0
  · subst c
    exact OUT_go (RG_RW g u (a6 _ (by omega)) (a6 _ (by omega)) (fun b _ _ h => a7 b h) a4 (a8 17 (by omega) (by omega) (by omega) (by omega) (by omega) (by omega) (by omega))) (a7 _ (by omega)) (a7 _ (by omega)) (a7 _ (by omega))
  · exact OUT_ft u (a7 _ (by omega)) (a7 _ (by omega)) (by omega) (by omega) a4
theorem sw_10 {C R : Mem} {th s ja : Nat} (g : RG C R th s) (ht : th < 20) (hs : s < 20) (ha : ja < 4) (x y z : Int32) :
    ∃ o C' b R', obs C (33 + 5 * th) (33 + 5 * s) (nI ja) y z x (nI 10) = some (o, C') ∧ ons R (nI ja) x y (nI 10) = some (b, R') ∧ OUT th s R o C' b R' := by
  obtain ⟨g1, g2, g3, g4, g5, g6⟩ := id g
  obtain ⟨kd, ow, st, md, et, lg, tb, en, rt, h, hI, kt, ot, ks, ss, te⟩ := id g1
  obtain ⟨o, C', v, R', a1, a2, a3, a4, a5, a6, a7, a8, a9, a10, a11⟩ := sim_compare h hI ht ha hs ks ss g4 g6 x
  have u : RU C' R' th s := ⟨kd, ow, st, md, et, lg, tb, en, rt, a5, hI, kt, ot, ks, ss, te⟩
  rw [obs_10, ons_10, a1, a2, Option.bind_some, Option.bind_some]
  by_cases c : o = 0
  · subst c
    have r17 := a11 17 (by omega) (by omega)
    refine ⟨nI 0, C', nI 0, mset R' 17 ja v, rfl, ?_, OUT_go ⟨RU_fr u (fun _ _ _ _ _ => rfl) (fun a b h _ => by rw [mset_nk _ _ _ h]), fun j hj => ?_, ?_, ?_, ?_, ?_⟩ ?_ ?_ ?_⟩
    · rw [putM_0 ha a4, Option.bind_some, li_0]
    · by_cases e : j = ja
      · rw [e, mset_s, a8 rfl]
      · rw [mset_nj _ _ _ e, a7 j e, r17, g2 j hj]
    · rw [mset_nk _ _ _ (by omega), a6 _ (by omega) (by omega), a10 23 (by omega), g3]
    · rw [mset_nk _ _ _ (by omega), a10 _ (by omega), g4]
    · rw [mset_nk _ _ _ (by omega), a10 _ (by omega), g5]
    · rw [mset_nk _ _ _ (by omega), a4]
    · rw [mset_nk _ _ _ (by omega), a10 _ (by omega)]
    · rw [mset_nk _ _ _ (by omega), a10 _ (by omega)]
    · rw [mset_nk _ _ _ (by omega), a10 _ (by omega)]
  · refine ⟨nI o, C', nI 0, R', rfl, ?_, OUT_ft u (a10 _ (by omega)) (a10 _ (by omega)) (by omega) (by omega) a4⟩
    rw [putM_n (g := o) (by omega) (by omega) a4, Option.bind_some, li_0]
theorem sw_11 {C R : Mem} {th s ja : Nat} (g : RG C R th s) (ht : th < 20) (hs : s < 20) (ha : ja < 4) (x y z : Int32) :
    ∃ o C' b R', obs C (33 + 5 * th) (33 + 5 * s) (nI ja) y z x (nI 11) = some (o, C') ∧ ons R (nI ja) x y (nI 11) = some (b, R') ∧ OUT th s R o C' b R' := by
  obtain ⟨g1, g2, g3, g4, g5, g6⟩ := id g
  obtain ⟨kd, ow, st, md, et, lg, tb, en, rt, h, hI, kt, ot, ks, ss, te⟩ := id g1
  obtain ⟨j, hj, ej⟩ := an7 y
  have m1 : md s = 1 := ((hI.1 s hs).2.2.2.2.2.2.2.1 ks).1 ss
  have dg := (h.2.2 s hs).2.2.2.2.2.2.2.1 ks m1 j hj
  rw [obs_11, ons_11, li_7, ej, gd_t (isPg_p hs), gd_t (by rw [isI_p2 hs, lnC_p2 hs, inb_nI (by omega)]; simp [hj]), bnd_e, tn_nI (i := j) (by omega), regC ht ha, bnd_e, g4, li_8, pk_mul, nI_add, gd_t (by rw [inb_nI (by omega)]; simp; omega), bnd_e, tn_nI (i := 8 * s + j) (by omega), regM ha]
  exact ⟨_, _, _, _, rfl, rfl, by rw [dg]; exact OUT_reg g _⟩
theorem sw_12 {C R : Mem} {th s ja : Nat} (g : RG C R th s) (ht : th < 20) (hs : s < 20) (ha : ja < 4) (x y : Int32) :
    ∃ o C' b R', obs C (33 + 5 * th) (33 + 5 * s) (nI ja) y (R 17 ja) x (nI 12) = some (o, C') ∧ ons R (nI ja) x y (nI 12) = some (b, R') ∧ OUT th s R o C' b R' := by
  obtain ⟨g1, g2, g3, g4, g5, g6⟩ := id g
  obtain ⟨kd, ow, st, md, et, lg, tb, en, rt, h, hI, kt, ot, ks, ss, te⟩ := id g1
  obtain ⟨j, hj, ej⟩ := an7 y
  have ow1 : C (33 + 5 * th) 1 = nI s := by rw [(h.2.2 th ht).2.1, ot]; unfold oI; rw [if_pos hs]
  obtain ⟨b, C', R', hb, a1, a2, a3, a4, a5, a6, a7, a8⟩ := sim_take g1 ht hs g4 (R 17 ja) x hj
  have g' : RG C' R' th s := RG_RW g a3 a6 a5 (fun b _ _ _ => by rw [a7]) (by rw [a7, g6]) a8
  have o' := OUT_reg (j := ja) g' (nI (1 - b))
  have o : OUT th s R (nI 0) (mset C' (33 + 5 * th + 3) ja (nI (1 - b))) (nI 0) (mset R' 17 ja (nI (1 - b))) := by
    unfold OUT at o' ⊢
    rw [a7] at o'
    exact o'
  refine ⟨_, _, _, _, ?_, ?_, o⟩
  · rw [obs_12, li_7, ej, gd_t (isPg_p ht), bnd_e, ow1, a1, Option.bind_some, jn_e]
    by_cases c : b = 0
    · subst c
      rw [li_0, if_pos rfl, li_1]
      exact regC ht ha _
    · have : b = 1 := by omega
      subst this
      rw [li_0, if_neg (by rw [nI_eq (by omega) (by omega)]; omega)]
      exact regC ht ha _
  · rw [ons_12, li_7, ej, rdM ha, a2, Option.bind_some]
    exact regM ha _
theorem sw_13 {C R : Mem} {th s ja : Nat} (g : RG C R th s) (ht : th < 20) (hs : s < 20) (ha : ja < 4) (x y z : Int32) :
    ∃ o C' b R', obs C (33 + 5 * th) (33 + 5 * s) (nI ja) y z x (nI 13) = some (o, C') ∧ ons R (nI ja) x y (nI 13) = some (b, R') ∧ OUT th s R o C' b R' := by
  obtain ⟨g1, g2, g3, g4, g5, g6⟩ := id g
  obtain ⟨kd, ow, st, md, et, lg, tb, en, rt, h, hI, kt, ot, ks, ss, te⟩ := id g1
  have ow1 : C (33 + 5 * th) 1 = nI s := by rw [(h.2.2 th ht).2.1, ot]; unfold oI; rw [if_pos hs]
  obtain ⟨v, C', R', a1, a2, a3, a4, a5, a6, a7, a8⟩ := sim_give g1 ht hs g4 x
  have g' : RG C' R' th s := RG_RW g a3 a6 a5 (fun b _ _ _ => by rw [a7]) (by rw [a7, g6]) a8
  have o' := OUT_reg (j := ja) g' v
  have o : OUT th s R (nI 0) (mset C' (33 + 5 * th + 3) ja v) (nI 0) (mset R' 17 ja v) := by
    unfold OUT at o' ⊢
    rw [a7] at o'
    exact o'
  refine ⟨_, _, _, _, ?_, ?_, o⟩
  · rw [obs_13, gd_t (isPg_p ht), bnd_e, ow1, a1, Option.bind_some]
    exact regC ht ha _
  · rw [ons_13, a2, Option.bind_some]
    exact regM ha _
theorem sim_sw {C R : Mem} {th s ja jb jc : Nat} (g : RG C R th s) (ht : th < 20) (hs : s < 20) (ha : ja < 4) (hb : jb < 4) (hc : jc < 16) (y : Int32) :
    ∃ o C' b R', obs C (33 + 5 * th) (33 + 5 * s) (nI ja) y (C (33 + 5 * th + 3) ja) (C (33 + 5 * th + 3) jb) (nI jc) = some (o, C') ∧ ons R (nI ja) (R 17 jb) y (nI jc) = some (b, R') ∧ OUT th s R o C' b R' := by
  rw [g.2.1 ja ha, g.2.1 jb hb]
  have reg : ∀ (v : Int32) (A B : Option (Int32 × Mem)), A = some (nI 0, mset C (33 + 5 * th + 3) ja v) → B = some (nI 0, mset R 17 ja v) → ∃ o C' b R', A = some (o, C') ∧ B = some (b, R') ∧ OUT th s R o C' b R' := fun v A B h1 h2 => ⟨_, _, _, _, h1, h2, OUT_reg g v⟩
  have f4 : ∃ o C' b R', some ((4 : Int32), C) = some (o, C') ∧ bnd (mset R 0 24 (4 : Int32)) (fun M49 => some ((0 : Int32), M49)) = some (b, R') ∧ OUT th s R o C' b R' := ⟨nI 4, C, nI 0, mset R 0 24 (nI 4), by rw [li_4], by rw [bnd_e, li_0, li_4], OUT_ft (RU_fr g.1 (fun _ _ _ _ _ => rfl) (fun a b _ h => by rw [mset_nk _ _ _ h])) (by rw [mset_nj _ _ _ (by omega)]) (by rw [mset_nj _ _ _ (by omega)]) (by omega) (by omega) (by rw [mset_s])⟩
  have hh : jc = 0 ∨ jc = 1 ∨ jc = 2 ∨ jc = 3 ∨ jc = 4 ∨ jc = 5 ∨ jc = 6 ∨ jc = 7 ∨ jc = 8 ∨ jc = 9 ∨ jc = 10 ∨ jc = 11 ∨ jc = 12 ∨ jc = 13 ∨ jc = 14 ∨ jc = 15 := by omega
  rcases hh with rfl | rfl | rfl | rfl | rfl | rfl | rfl | rfl | rfl | rfl | rfl | rfl | rfl | rfl | rfl | rfl
  · rw [obs_0, ons_0, rdM ha, bnd_e, bnd_e]
    refine ⟨_, _, _, _, rfl, rfl, RU_fr g.1 (fun a b _ _ h => by rw [mset_nk _ _ _ h]) (fun a b _ h => by rw [mset_nk _ _ _ h]), by rw [mset_nj _ _ _ (by omega)], by rw [mset_nj _ _ _ (by omega)], Or.inr (Or.inl ⟨by decide, by rw [li_1], by rw [mset_s, mset_s]⟩)⟩
  · rw [obs_1, ons_1]; exact reg _ _ _ (regC ht ha _) (regM ha _)
  · rw [obs_2, ons_2, rdM ha]; exact reg _ _ _ (regC ht ha _) (regM ha _)
  · rw [obs_3, ons_3, rdM ha]; exact reg _ _ _ (regC ht ha _) (regM ha _)
  · rw [obs_4, ons_4, rdM ha]; exact reg _ _ _ (regC ht ha _) (regM ha _)
  · rw [obs_5, ons_5, rdM ha]; exact reg _ _ _ (regC ht ha _) (regM ha _)
  · exact sw_6 g ht hs ha _ _ _
  · exact sw_7 g ht hs ha _ _
  · exact sw_8 g ht ha _ _
  · exact sw_9 g ht hs ha _ _
  · exact sw_10 g ht hs ha _ _ _
  · exact sw_11 g ht hs ha _ _ _
  · exact sw_12 g ht hs ha _ _
  · exact sw_13 g ht hs ha _ _ _
  · rw [obs_14, ons_14]; exact f4
  · rw [obs_15, ons_15]; exact f4
/-- a step of both loops -/
theorem sim_stp {C R : Mem} {th s : Nat} (g : RG C R th s) (ht : th < 20) (hs : s < 20) : ∃ o C' b R', OUT th s R o C' b R' ∧ fX6_one R = some (b, R') ∧ ∀ (p1 x4 : Int32) (F : Int32 → Int32 → Mem → Option (Int32 × Mem)) (n : Nat), ¬ p1 ≤ x4 → lp_X1_run_19 p1 (33 + 5 * th) (33 + 5 * s) F (n + 1) (nI 0) x4 C = lp_X1_run_19 p1 (33 + 5 * th) (33 + 5 * s) F n o (x4 + nI 1) C' := by
  obtain ⟨g1, g2, g3, g4, g5, g6⟩ := id g
  obtain ⟨kd, ow, st, md, et, lg, tb, en, rt, h, hI, kt, ot, ks, ss, te⟩ := id g1
  have rc := rowAt_e h hI hs (Or.inr (Or.inr rfl)) (R 0 23)
  have rl := lies_e h hI hs (Or.inr (Or.inr rfl)) g4 (R 0 23)
  rcases lx_alt hI hs ks ss 4 (R 0 23) with e | ⟨a, w, ha', ex, hw, e, _⟩
  · rw [e] at rc rl
    refine ⟨nI 1, C, nI 0, mset R 0 24 (nI 1), OUT_ft (RU_fr g1 (fun _ _ _ _ _ => rfl) (fun a b _ h => by rw [mset_nk _ _ _ h])) (by rw [mset_nj _ _ _ (by omega)]) (by rw [mset_nj _ _ _ (by omega)]) (by omega) (by omega) (by rw [mset_s]), one_n rl, fun p1 x4 F n hp => ?_⟩
    rw [lp_X1_run_19_s, if_neg hp, li_0, if_pos rfl, gd_t (isPg_p ht), bnd_e, g3, li_4, rc, Option.bind_some, li_1]
    rfl
  · rw [e] at rc rl
    have e5 : 5 + (16 * w + a % 16) / 16 = 5 + w := by omega
    have rc' : fX4_rowAt C (33 + 5 * s) (R 0 23) (nI 4) = some (some (5 + w), C) := by rw [rc, Option.map_some, e5]
    obtain ⟨ja, ha, e4⟩ := sh4 (mrd R (16 * w + a % 16))
    obtain ⟨jb, hb, e6⟩ := sh6 (mrd R (16 * w + a % 16))
    obtain ⟨jc, hc, e15⟩ := an15 (mrd R (16 * w + a % 16))
    have gg := RG_at g (R 0 23 + nI 1)
    obtain ⟨o, C', b, R', b1, b2, b3⟩ := sim_sw gg ht hs ha hb hc (mrd R (16 * w + a % 16) >>> ((8 : Int32) &&& 31))
    rw [mset_nk _ _ _ (by omega)] at b1
    rw [mset_nk _ _ _ (by omega)] at b2
    refine ⟨o, C', b, R', ?_, ?_, fun p1 x4 F n hp => ?_⟩
    · unfold OUT at b3 ⊢
      rw [mset_nj _ _ _ (by omega), mset_nj _ _ _ (by omega), mset_nj _ _ _ (by omega)] at b3
      exact b3
    · rw [one_s (by omega) rl ha hb e4 e6 e15]
      exact b2
    · have ob := obey_e (C := C) (s := s) ht ha hb e4 e6 e15
      rw [g3] at ob
      rw [lp_X1_run_19_s, if_neg hp, li_0, if_pos rfl, gd_t (isPg_p ht), bnd_e, g3, li_4, rc', Option.bind_some]
      show gd (isPg (33 + 5 * th)) _ = _
      rw [gd_t (isPg_p ht), bnd_e]
      dsimp only
      rw [g3, ex, li_16, pk_rem (by omega) (by omega) (by omega), gd_t (by rw [isI_r (by omega), lnC_r (by omega), inb_nI (by omega)]; simp; omega), bnd_e, tn_nI (by omega), rd_eq h hw (Nat.mod_lt _ (by omega)), ob, b1, Option.bind_some, bnd_e, li_1]
