/-! ===== the law's small numbers ===== -/
/-- the lower 31 bits -/
def lwv (v : Int32) : Nat := v.toBitVec.toNat % 2147483648
/-- what 'low' answers -/
def lowN (v : Int32) (n : Nat) : Nat := lwv v % n
theorem lowN_lt (v : Int32) {n : Nat} (h : 0 < n) : lowN v n < n := Nat.mod_lt _ h
theorem and31 (v : Int32) : v &&& 2147483647 = zI ((lwv v : Nat) : Int) := by
  apply Int32.toBitVec_inj.1
  rw [← zI_n]
  show v.toBitVec &&& (2147483647 : Int32).toBitVec = BitVec.ofNat 32 (v.toBitVec.toNat % 2147483648)
  rw [show (2147483647 : Int32).toBitVec = 2147483647#32 by decide +kernel]
  apply BitVec.eq_of_toNat_eq
  rw [BitVec.toNat_and, BitVec.toNat_ofNat, BitVec.toNat_ofNat, show (2147483647 % 2 ^ 32 : Nat) = 2 ^ 31 - 1 from rfl, Nat.and_two_pow_sub_one_eq_mod, Nat.mod_eq_of_lt (a := v.toBitVec.toNat % 2147483648) (Nat.lt_trans (Nat.mod_lt _ (by decide)) (by decide))]
/-- two bits of a number -/
def two (v : Int32) : Nat := v.toBitVec.toNat % 4
theorem and2 (v : Int32) : v &&& zI 3 = zI ((two v : Nat) : Int) := by
  apply Int32.toBitVec_inj.1
  rw [← zI_n]
  show v.toBitVec &&& (zI 3).toBitVec = BitVec.ofNat 32 (v.toBitVec.toNat % 4)
  rw [show (zI 3).toBitVec = 3#32 by decide +kernel]
  apply BitVec.eq_of_toNat_eq
  rw [BitVec.toNat_and, BitVec.toNat_ofNat, BitVec.toNat_ofNat, show (3 % 2 ^ 32 : Nat) = 2 ^ 2 - 1 from rfl, Nat.and_two_pow_sub_one_eq_mod, Nat.mod_eq_of_lt (a := v.toBitVec.toNat % 4) (Nat.lt_trans (Nat.mod_lt _ (by decide)) (by decide))]
theorem two_lt (v : Int32) : two v < 4 := Nat.mod_lt _ (by decide)
theorem k_far : (-99999 : Int32) = zI xE := by decide +kernel
/-- a cell of the script, computed beyond its length -/
def cellF (G : gG) (k : Nat) : Int32 := if k < gSl G then gSx G k else zI (7919 * ((k : Int) + 433) * ((k : Int) + 2719))
section
variable {p : Program} {l : Launch} {e : Env} {R : Room} {s : State} {m : MethodId} {args : Array Value} {below : List Frame} {meth : Method} {c : Code} {H : Heap} {locs : List Loc} {cells slots : Nat} {Q : State → Prop} {G : gG} {pc : Nat} {ls : Array Slot} {rest : List Value} {cc : ByteArray}
theorem gz_sld (hexec : p.tables.exec = Jvm.exec) (hb : c.code = cc) (hX : gX G s s.heap) (hS : va_S (gA G) s.heap H locs) {z : Int} (k : Nat) (hz : z = k) (hk : k < gSl G) (hdg : decode cc pc = .ok (.iaload, 1))
    (kk : W p l e R s m args below meth c H locs cells slots Q (F0 m (pc + 1) ls (.int (gSx G k) :: rest))) : W p l e R s m args below meth c H locs cells slots Q (F0 m pc ls (.int (zI z) :: .ref (gSb G) :: rest)) := by
  have h9 := hX.2.2.2.2.2.2
  exact va_sld hexec hb hX.2.2.2.2.1 (Nat.lt_of_lt_of_le hX.2.2.2.2.2.1 hX.2.2.2.1) (Nat.not_le.mpr hX.2.2.2.2.2.1) hS (zI_in hz hk (by omega)) hdg (by rw [zI_clamp hz (by omega)]; exact kk)
theorem gz_slen (hexec : p.tables.exec = Jvm.exec) (hb : c.code = cc) (hX : gX G s s.heap) (hS : va_S (gA G) s.heap H locs) (hdg : decode cc pc = .ok (.arraylength, 1))
    (kk : W p l e R s m args below meth c H locs cells slots Q (F0 m (pc + 1) ls (.int (zI (gSl G : Int)) :: rest))) : W p l e R s m args below meth c H locs cells slots Q (F0 m pc ls (.ref (gSb G) :: rest)) :=
  va_slen hexec hb hX.2.2.2.2.1 (Nat.lt_of_lt_of_le hX.2.2.2.2.2.1 hX.2.2.2.1) (Nat.not_le.mpr hX.2.2.2.2.2.1) hS hdg (by rw [show Int32.ofNat (gSl G) = zI (gSl G : Int) from zI_n _]; exact kk)
end
