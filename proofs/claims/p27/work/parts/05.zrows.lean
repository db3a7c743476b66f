/-! ===== ints as the images of whole numbers: zI is additive without conditions, ordered within the range ===== -/
def zI (z : Int) : Int32 := Int32.ofInt z
abbrev rI (z : Int) : Prop := -2147483648 ≤ z ∧ z < 2147483648
theorem zI_add (a b : Int) : zI a + zI b = zI (a + b) := (Int32.ofInt_add a b).symm
theorem zI_sub (a b : Int) : zI a - zI b = zI (a - b) := (Int32.ofInt_sub a b).symm
theorem zI_mul (a b : Int) : zI a * zI b = zI (a * b) := (Int32.ofInt_mul a b).symm
theorem zI_neg (a : Int) : -zI a = zI (-a) := (Int32.ofInt_neg a).symm
theorem zI_toInt {z : Int} (h : rI z) : (zI z).toInt = z := Int32.toInt_ofInt_of_le (by have := h.1; omega) (by have := h.2; omega)
theorem zI_lt {a b : Int} (ha : rI a) (hb : rI b) : zI a < zI b ↔ a < b := by rw [Int32.lt_iff_toInt_lt, zI_toInt ha, zI_toInt hb]
theorem zI_le {a b : Int} (ha : rI a) (hb : rI b) : zI a ≤ zI b ↔ a ≤ b := by rw [Int32.le_iff_toInt_le, zI_toInt ha, zI_toInt hb]
theorem zI_eq {a b : Int} (ha : rI a) (hb : rI b) : zI a = zI b ↔ a = b := by rw [← Int32.toInt_inj, zI_toInt ha, zI_toInt hb]
theorem zI_as (x : Int32) : x = zI x.toInt := (Int32.ofInt_toInt x).symm
theorem zI_n (n : Nat) : nI n = zI n := by
  first | exact (Int32.ofInt_eq_ofNat).symm | exact Int32.ofInt_eq_ofNat.symm | (simp [zI, nI, Int32.ofInt, Int32.ofNat, Int32.toBitVec_inj]; done) | rfl
theorem zI_clamp {z : Int} {k : Nat} (hz : z = k) (hk : k < 2147483648) : (zI z).toNatClampNeg = k := by
  rw [hz, ← zI_n]; exact nI_clamp (by omega)
theorem zI_in {z : Int} {k n : Nat} (hz : z = k) (hk : k < n) (hn : n ≤ 2147483647) : vp_in (zI z) n := by
  rw [hz, ← zI_n]; exact vp_in_nI hk (by omega)
theorem rI_toInt (x : Int32) : rI x.toInt := ⟨by have := x.le_toInt; omega, by have := x.toInt_lt; omega⟩
theorem zI_and (a b : Nat) : zI a &&& zI b = zI ((a &&& b : Nat) : Int) := by
  rw [← zI_n, ← zI_n, ← zI_n]
  apply Int32.toBitVec_inj.1
  show BitVec.ofNat 32 a &&& BitVec.ofNat 32 b = BitVec.ofNat 32 (a &&& b)
  apply BitVec.eq_of_getLsbD_eq
  intro i hi
  simp [hi]
theorem zI_or (a b : Nat) : zI a ||| zI b = zI ((a ||| b : Nat) : Int) := by
  rw [← zI_n, ← zI_n, ← zI_n]
  apply Int32.toBitVec_inj.1
  show BitVec.ofNat 32 a ||| BitVec.ofNat 32 b = BitVec.ofNat 32 (a ||| b)
  apply BitVec.eq_of_getLsbD_eq
  intro i hi
  simp [hi]
theorem zI_xor (a b : Nat) : zI a ^^^ zI b = zI ((a ^^^ b : Nat) : Int) := by
  rw [← zI_n, ← zI_n, ← zI_n]
  apply Int32.toBitVec_inj.1
  show BitVec.ofNat 32 a ^^^ BitVec.ofNat 32 b = BitVec.ofNat 32 (a ^^^ b)
  apply BitVec.eq_of_getLsbD_eq
  intro i hi
  simp [hi]
theorem zs_l : ∀ n, n < 32 → ((nI n &&& 31).toBitVec.smod 32).toNat = n := by decide +kernel
theorem zI_shl {k : Nat} (hk : k < 31) : zI 1 <<< (zI k &&& 31) = zI ((2 ^ k : Nat) : Int) := by
  rw [← zI_n, ← zI_n, show zI 1 = nI 1 from rfl, pk_shlN _ k (zs_l k (by omega)) (by have := Nat.pow_lt_pow_right (a := 2) (by omega) (show k < 32 by omega); omega), Nat.one_mul]
theorem zI_shr {a k : Nat} (ha : a < 2147483648) (hk : k < 31) : zI a >>> (zI k &&& 31) = zI ((a / 2 ^ k : Nat) : Int) := by
  rw [← zI_n, ← zI_n, ← zI_n, pk_shrN (by omega) _ k (zs_l k (by omega))]
theorem zI_abs {a : Int} (ha : -1000000 ≤ a ∧ a ≤ 1000000) : (if 0 ≤ zI a then zI a else 0 - zI a) = zI (if 0 ≤ a then a else -a) := by
  have z0 : (0 : Int32) = zI 0 := rfl
  rw [z0]
  by_cases h : 0 ≤ a
  · rw [if_pos ((zI_le (by decide) ⟨by omega, by omega⟩).mpr h), if_pos h]
  · rw [if_neg (fun q => h ((zI_le (by decide) ⟨by omega, by omega⟩).mp q)), if_neg h, zI_sub, Int.zero_sub]
section GZ
variable {p : Program} {l : Launch} {e : Env} {R : Room} {s : State} {m : MethodId} {args : Array Value} {below : List Frame} {meth : Method} {c : Code} {H : Heap} {locs : List Loc} {cells slots : Nat} {Q : State → Prop}
variable {G : gG} {H0 : Heap} {a : Nat} {pc : Nat} {ls : Array Slot} {rest : List Value} {cc : ByteArray}
theorem gz_iadd (hexec : p.tables.exec = Jvm.exec) (hb : c.code = cc) {x y : Int} (hdg : decode cc pc = .ok (.iadd, 1)) (k : W p l e R s m args below meth c H locs cells slots Q (F0 m (pc + 1) ls (.int (zI (x + y)) :: rest))) : W p l e R s m args below meth c H locs cells slots Q (F0 m (pc) ls (.int (zI y) :: .int (zI x) :: rest)) := lv_iadd hexec hb hdg (by rw [zI_add]; exact k)
theorem gz_isub (hexec : p.tables.exec = Jvm.exec) (hb : c.code = cc) {x y : Int} (hdg : decode cc pc = .ok (.isub, 1)) (k : W p l e R s m args below meth c H locs cells slots Q (F0 m (pc + 1) ls (.int (zI (x - y)) :: rest))) : W p l e R s m args below meth c H locs cells slots Q (F0 m (pc) ls (.int (zI y) :: .int (zI x) :: rest)) := lv_isub hexec hb hdg (by rw [zI_sub]; exact k)
theorem gz_imul (hexec : p.tables.exec = Jvm.exec) (hb : c.code = cc) {x y : Int} (hdg : decode cc pc = .ok (.imul, 1)) (k : W p l e R s m args below meth c H locs cells slots Q (F0 m (pc + 1) ls (.int (zI (x * y)) :: rest))) : W p l e R s m args below meth c H locs cells slots Q (F0 m (pc) ls (.int (zI y) :: .int (zI x) :: rest)) := lv_imul hexec hb hdg (by rw [zI_mul]; exact k)
theorem gz_ineg (hexec : p.tables.exec = Jvm.exec) (hb : c.code = cc) {x : Int} (hdg : decode cc pc = .ok (.ineg, 1)) (k : W p l e R s m args below meth c H locs cells slots Q (F0 m (pc + 1) ls (.int (zI (-x)) :: rest))) : W p l e R s m args below meth c H locs cells slots Q (F0 m (pc) ls (.int (zI x) :: rest)) := lv_ineg hexec hb hdg (by rw [zI_neg]; exact k)
theorem gz_icmp_lt (hexec : p.tables.exec = Jvm.exec) (hb : c.code = cc) {x y : Int} {off : Int} {tgt : Nat} (hx : rI x) (hy : rI y) (hdg : decode cc pc = .ok (.if_icmp .lt off, 3)) (ht : (pc : Int) + off = (tgt : Int)) (kt : (x < y) → W p l e R s m args below meth c H locs cells slots Q (F0 m (tgt) ls (rest))) (kf : ¬ (x < y) → W p l e R s m args below meth c H locs cells slots Q (F0 m (pc + 3) ls (rest))) : W p l e R s m args below meth c H locs cells slots Q (F0 m (pc) ls (.int (zI y) :: .int (zI x) :: rest)) := lv_icmp_lt hexec hb hdg ht (fun h => kt ((zI_lt hx hy).mp h)) (fun h => kf (fun q => h ((zI_lt hx hy).mpr q)))
theorem gz_if_lt (hexec : p.tables.exec = Jvm.exec) (hb : c.code = cc) {x : Int} {off : Int} {tgt : Nat} (hx : rI x) (hdg : decode cc pc = .ok (.ifCond .lt off, 3)) (ht : (pc : Int) + off = (tgt : Int)) (kt : (x < 0) → W p l e R s m args below meth c H locs cells slots Q (F0 m (tgt) ls (rest))) (kf : ¬ (x < 0) → W p l e R s m args below meth c H locs cells slots Q (F0 m (pc + 3) ls (rest))) : W p l e R s m args below meth c H locs cells slots Q (F0 m (pc) ls (.int (zI x) :: rest)) := have z0 : rI 0 := by decide
  lv_if_lt hexec hb hdg ht (fun h => kt ((zI_lt hx z0).mp h)) (fun h => kf (fun q => h ((zI_lt hx z0).mpr q)))
theorem gz_icmp_le (hexec : p.tables.exec = Jvm.exec) (hb : c.code = cc) {x y : Int} {off : Int} {tgt : Nat} (hx : rI x) (hy : rI y) (hdg : decode cc pc = .ok (.if_icmp .le off, 3)) (ht : (pc : Int) + off = (tgt : Int)) (kt : (x ≤ y) → W p l e R s m args below meth c H locs cells slots Q (F0 m (tgt) ls (rest))) (kf : ¬ (x ≤ y) → W p l e R s m args below meth c H locs cells slots Q (F0 m (pc + 3) ls (rest))) : W p l e R s m args below meth c H locs cells slots Q (F0 m (pc) ls (.int (zI y) :: .int (zI x) :: rest)) := lv_icmp_le hexec hb hdg ht (fun h => kt ((zI_le hx hy).mp h)) (fun h => kf (fun q => h ((zI_le hx hy).mpr q)))
theorem gz_if_le (hexec : p.tables.exec = Jvm.exec) (hb : c.code = cc) {x : Int} {off : Int} {tgt : Nat} (hx : rI x) (hdg : decode cc pc = .ok (.ifCond .le off, 3)) (ht : (pc : Int) + off = (tgt : Int)) (kt : (x ≤ 0) → W p l e R s m args below meth c H locs cells slots Q (F0 m (tgt) ls (rest))) (kf : ¬ (x ≤ 0) → W p l e R s m args below meth c H locs cells slots Q (F0 m (pc + 3) ls (rest))) : W p l e R s m args below meth c H locs cells slots Q (F0 m (pc) ls (.int (zI x) :: rest)) := have z0 : rI 0 := by decide
  lv_if_le hexec hb hdg ht (fun h => kt ((zI_le hx z0).mp h)) (fun h => kf (fun q => h ((zI_le hx z0).mpr q)))
theorem gz_icmp_gt (hexec : p.tables.exec = Jvm.exec) (hb : c.code = cc) {x y : Int} {off : Int} {tgt : Nat} (hx : rI x) (hy : rI y) (hdg : decode cc pc = .ok (.if_icmp .gt off, 3)) (ht : (pc : Int) + off = (tgt : Int)) (kt : (y < x) → W p l e R s m args below meth c H locs cells slots Q (F0 m (tgt) ls (rest))) (kf : ¬ (y < x) → W p l e R s m args below meth c H locs cells slots Q (F0 m (pc + 3) ls (rest))) : W p l e R s m args below meth c H locs cells slots Q (F0 m (pc) ls (.int (zI y) :: .int (zI x) :: rest)) := lv_icmp_gt hexec hb hdg ht (fun h => kt ((zI_lt hy hx).mp h)) (fun h => kf (fun q => h ((zI_lt hy hx).mpr q)))
theorem gz_if_gt (hexec : p.tables.exec = Jvm.exec) (hb : c.code = cc) {x : Int} {off : Int} {tgt : Nat} (hx : rI x) (hdg : decode cc pc = .ok (.ifCond .gt off, 3)) (ht : (pc : Int) + off = (tgt : Int)) (kt : (0 < x) → W p l e R s m args below meth c H locs cells slots Q (F0 m (tgt) ls (rest))) (kf : ¬ (0 < x) → W p l e R s m args below meth c H locs cells slots Q (F0 m (pc + 3) ls (rest))) : W p l e R s m args below meth c H locs cells slots Q (F0 m (pc) ls (.int (zI x) :: rest)) := have z0 : rI 0 := by decide
  lv_if_gt hexec hb hdg ht (fun h => kt ((zI_lt z0 hx).mp h)) (fun h => kf (fun q => h ((zI_lt z0 hx).mpr q)))
theorem gz_icmp_ge (hexec : p.tables.exec = Jvm.exec) (hb : c.code = cc) {x y : Int} {off : Int} {tgt : Nat} (hx : rI x) (hy : rI y) (hdg : decode cc pc = .ok (.if_icmp .ge off, 3)) (ht : (pc : Int) + off = (tgt : Int)) (kt : (y ≤ x) → W p l e R s m args below meth c H locs cells slots Q (F0 m (tgt) ls (rest))) (kf : ¬ (y ≤ x) → W p l e R s m args below meth c H locs cells slots Q (F0 m (pc + 3) ls (rest))) : W p l e R s m args below meth c H locs cells slots Q (F0 m (pc) ls (.int (zI y) :: .int (zI x) :: rest)) := lv_icmp_ge hexec hb hdg ht (fun h => kt ((zI_le hy hx).mp h)) (fun h => kf (fun q => h ((zI_le hy hx).mpr q)))
theorem gz_if_ge (hexec : p.tables.exec = Jvm.exec) (hb : c.code = cc) {x : Int} {off : Int} {tgt : Nat} (hx : rI x) (hdg : decode cc pc = .ok (.ifCond .ge off, 3)) (ht : (pc : Int) + off = (tgt : Int)) (kt : (0 ≤ x) → W p l e R s m args below meth c H locs cells slots Q (F0 m (tgt) ls (rest))) (kf : ¬ (0 ≤ x) → W p l e R s m args below meth c H locs cells slots Q (F0 m (pc + 3) ls (rest))) : W p l e R s m args below meth c H locs cells slots Q (F0 m (pc) ls (.int (zI x) :: rest)) := have z0 : rI 0 := by decide
  lv_if_ge hexec hb hdg ht (fun h => kt ((zI_le z0 hx).mp h)) (fun h => kf (fun q => h ((zI_le z0 hx).mpr q)))
theorem gz_icmp_eq (hexec : p.tables.exec = Jvm.exec) (hb : c.code = cc) {x y : Int} {off : Int} {tgt : Nat} (hx : rI x) (hy : rI y) (hdg : decode cc pc = .ok (.if_icmp .eq off, 3)) (ht : (pc : Int) + off = (tgt : Int)) (kt : (x = y) → W p l e R s m args below meth c H locs cells slots Q (F0 m (tgt) ls (rest))) (kf : ¬ (x = y) → W p l e R s m args below meth c H locs cells slots Q (F0 m (pc + 3) ls (rest))) : W p l e R s m args below meth c H locs cells slots Q (F0 m (pc) ls (.int (zI y) :: .int (zI x) :: rest)) := lv_icmp_eq hexec hb hdg ht (fun h => kt ((zI_eq hx hy).mp h)) (fun h => kf (fun q => h ((zI_eq hx hy).mpr q)))
theorem gz_if_eq (hexec : p.tables.exec = Jvm.exec) (hb : c.code = cc) {x : Int} {off : Int} {tgt : Nat} (hx : rI x) (hdg : decode cc pc = .ok (.ifCond .eq off, 3)) (ht : (pc : Int) + off = (tgt : Int)) (kt : (x = 0) → W p l e R s m args below meth c H locs cells slots Q (F0 m (tgt) ls (rest))) (kf : ¬ (x = 0) → W p l e R s m args below meth c H locs cells slots Q (F0 m (pc + 3) ls (rest))) : W p l e R s m args below meth c H locs cells slots Q (F0 m (pc) ls (.int (zI x) :: rest)) := have z0 : rI 0 := by decide
  lv_if_eq hexec hb hdg ht (fun h => kt ((zI_eq hx z0).mp h)) (fun h => kf (fun q => h ((zI_eq hx z0).mpr q)))
theorem gz_icmp_ne (hexec : p.tables.exec = Jvm.exec) (hb : c.code = cc) {x y : Int} {off : Int} {tgt : Nat} (hx : rI x) (hy : rI y) (hdg : decode cc pc = .ok (.if_icmp .ne off, 3)) (ht : (pc : Int) + off = (tgt : Int)) (kt : (¬ x = y) → W p l e R s m args below meth c H locs cells slots Q (F0 m (tgt) ls (rest))) (kf : ¬ (¬ x = y) → W p l e R s m args below meth c H locs cells slots Q (F0 m (pc + 3) ls (rest))) : W p l e R s m args below meth c H locs cells slots Q (F0 m (pc) ls (.int (zI y) :: .int (zI x) :: rest)) := lv_icmp_ne hexec hb hdg ht (fun h => kt (fun q => h ((zI_eq hx hy).mpr q))) (fun h => kf (fun q => q ((zI_eq hx hy).mp h)))
theorem gz_if_ne (hexec : p.tables.exec = Jvm.exec) (hb : c.code = cc) {x : Int} {off : Int} {tgt : Nat} (hx : rI x) (hdg : decode cc pc = .ok (.ifCond .ne off, 3)) (ht : (pc : Int) + off = (tgt : Int)) (kt : (¬ x = 0) → W p l e R s m args below meth c H locs cells slots Q (F0 m (tgt) ls (rest))) (kf : ¬ (¬ x = 0) → W p l e R s m args below meth c H locs cells slots Q (F0 m (pc + 3) ls (rest))) : W p l e R s m args below meth c H locs cells slots Q (F0 m (pc) ls (.int (zI x) :: rest)) := have z0 : rI 0 := by decide
  lv_if_ne hexec hb hdg ht (fun h => kt (fun q => h ((zI_eq hx z0).mpr q))) (fun h => kf (fun q => q ((zI_eq hx z0).mp h)))
theorem gz_idiv (hexec : p.tables.exec = Jvm.exec) (hb : c.code = cc) {x : Int} (k d : Nat) (hx : x = k) (hk : k < 2147483648) (h0 : 0 < d) (hd : d < 2147483648) (hdg : decode cc pc = .ok (.idiv, 1)) (kk : W p l e R s m args below meth c H locs cells slots Q (F0 m (pc + 1) ls (.int (zI ((k / d : Nat) : Int)) :: rest))) : W p l e R s m args below meth c H locs cells slots Q (F0 m (pc) ls (.int (zI d) :: .int (zI x) :: rest)) := by
  refine lv_idiv hexec hb hdg (by rw [← zI_n]; exact nI_ne0 h0 (by omega)) ?_
  rw [hx, ← zI_n, ← zI_n, pk_div (by omega) h0 (by omega), zI_n]
  exact kk
theorem gz_irem (hexec : p.tables.exec = Jvm.exec) (hb : c.code = cc) {x : Int} (k d : Nat) (hx : x = k) (hk : k < 2147483648) (h0 : 0 < d) (hd : d < 2147483648) (hdg : decode cc pc = .ok (.irem, 1)) (kk : W p l e R s m args below meth c H locs cells slots Q (F0 m (pc + 1) ls (.int (zI ((k % d : Nat) : Int)) :: rest))) : W p l e R s m args below meth c H locs cells slots Q (F0 m (pc) ls (.int (zI d) :: .int (zI x) :: rest)) := by
  refine lv_irem hexec hb hdg (by rw [← zI_n]; exact nI_ne0 h0 (by omega)) ?_
  rw [hx, ← zI_n, ← zI_n, pk_rem (by omega) h0 (by omega), zI_n]
  exact kk
theorem zI_max {a b : Int} (ha : rI a) (hb : rI b) : (if zI a < zI b then zI b else zI a) = zI (max a b) := by
  by_cases h : a < b
  · rw [if_pos ((zI_lt ha hb).mpr h), show max a b = b by omega]
  · rw [if_neg (fun q => h ((zI_lt ha hb).mp q)), show max a b = a by omega]
theorem zI_min {a b : Int} (ha : rI a) (hb : rI b) : (if zI b < zI a then zI b else zI a) = zI (min a b) := by
  by_cases h : b < a
  · rw [if_pos ((zI_lt hb ha).mpr h), show min a b = b by omega]
  · rw [if_neg (fun q => h ((zI_lt hb ha).mp q)), show min a b = a by omega]
theorem gz_mmax (hexec : p.tables.exec = Jvm.exec) (hb0 : c.code = cc) (hml : c.maxLocals = ls.size) {own : String} {index : Nat} (hown : s.vm.findClass own = some m.cls) (hlink : (Cond.methodLink own index Lib.Math.max.name).before args s = true) (hstat : (Cond.static Lib.Math.max.name).before args s = true) (hini : (Cond.initialized "java/lang/Math").before args s = true) (hcode : (Cond.code Lib.Math.max.name Lib.Math.max.code 2 (some .int)).before args s = true)
    (hframes : 1 ≤ R.frames) (hlocals : (rest.map fun v => v.category).sum + 13 ≤ R.locals) (hc : cells ≤ R.cells) (hs : slots ≤ R.slots) {a b : Int} (ha : rI a) (hb : rI b) (hdg : decode cc pc = .ok (.invokestatic index, 3))
    (kk : W p l e R s m args below meth c H locs cells slots Q (F0 m (pc + 3) ls (.int (zI (max a b)) :: rest))) : W p l e R s m args below meth c H locs cells slots Q (F0 m (pc) ls (.int (zI b) :: .int (zI a) :: rest)) :=
  va_mmax hexec hb0 hml hown hlink hstat hini hcode hframes hlocals hc hs hdg (by rw [zI_max ha hb]; exact kk)
theorem gz_mmin (hexec : p.tables.exec = Jvm.exec) (hb0 : c.code = cc) (hml : c.maxLocals = ls.size) {own : String} {index : Nat} (hown : s.vm.findClass own = some m.cls) (hlink : (Cond.methodLink own index Lib.Math.min.name).before args s = true) (hstat : (Cond.static Lib.Math.min.name).before args s = true) (hini : (Cond.initialized "java/lang/Math").before args s = true) (hcode : (Cond.code Lib.Math.min.name Lib.Math.min.code 2 (some .int)).before args s = true)
    (hframes : 1 ≤ R.frames) (hlocals : (rest.map fun v => v.category).sum + 13 ≤ R.locals) (hc : cells ≤ R.cells) (hs : slots ≤ R.slots) {a b : Int} (ha : rI a) (hb : rI b) (hdg : decode cc pc = .ok (.invokestatic index, 3))
    (kk : W p l e R s m args below meth c H locs cells slots Q (F0 m (pc + 3) ls (.int (zI (min a b)) :: rest))) : W p l e R s m args below meth c H locs cells slots Q (F0 m (pc) ls (.int (zI b) :: .int (zI a) :: rest)) :=
  va_mmin hexec hb0 hml hown hlink hstat hini hcode hframes hlocals hc hs hdg (by rw [zI_min ha hb]; exact kk)
theorem gz_iand (hexec : p.tables.exec = Jvm.exec) (hb : c.code = cc) {x y : Int} (a b : Nat) (hx : x = a) (hy : y = b) (hdg : decode cc pc = .ok (.iand, 1)) (k : W p l e R s m args below meth c H locs cells slots Q (F0 m (pc + 1) ls (.int (zI ((a &&& b : Nat) : Int)) :: rest))) : W p l e R s m args below meth c H locs cells slots Q (F0 m (pc) ls (.int (zI y) :: .int (zI x) :: rest)) := lv_iand hexec hb hdg (by rw [hx, hy, zI_and]; exact k)
theorem gz_ior (hexec : p.tables.exec = Jvm.exec) (hb : c.code = cc) {x y : Int} (a b : Nat) (hx : x = a) (hy : y = b) (hdg : decode cc pc = .ok (.ior, 1)) (k : W p l e R s m args below meth c H locs cells slots Q (F0 m (pc + 1) ls (.int (zI ((a ||| b : Nat) : Int)) :: rest))) : W p l e R s m args below meth c H locs cells slots Q (F0 m (pc) ls (.int (zI y) :: .int (zI x) :: rest)) := lv_ior hexec hb hdg (by rw [hx, hy, zI_or]; exact k)
theorem gz_ixor (hexec : p.tables.exec = Jvm.exec) (hb : c.code = cc) {x y : Int} (a b : Nat) (hx : x = a) (hy : y = b) (hdg : decode cc pc = .ok (.ixor, 1)) (k : W p l e R s m args below meth c H locs cells slots Q (F0 m (pc + 1) ls (.int (zI ((a ^^^ b : Nat) : Int)) :: rest))) : W p l e R s m args below meth c H locs cells slots Q (F0 m (pc) ls (.int (zI y) :: .int (zI x) :: rest)) := lv_ixor hexec hb hdg (by rw [hx, hy, zI_xor]; exact k)
theorem gz_ishl (hexec : p.tables.exec = Jvm.exec) (hb : c.code = cc) {x y : Int} (k : Nat) (hx : x = 1) (hy : y = k) (hk : k < 31) (hdg : decode cc pc = .ok (.ishl, 1)) (kk : W p l e R s m args below meth c H locs cells slots Q (F0 m (pc + 1) ls (.int (zI ((2 ^ k : Nat) : Int)) :: rest))) : W p l e R s m args below meth c H locs cells slots Q (F0 m (pc) ls (.int (zI y) :: .int (zI x) :: rest)) := lv_ishl hexec hb hdg (by rw [hx, hy, zI_shl hk]; exact kk)
theorem gz_ishr (hexec : p.tables.exec = Jvm.exec) (hb : c.code = cc) {x y : Int} (a k : Nat) (hx : x = a) (ha : a < 2147483648) (hy : y = k) (hk : k < 31) (hdg : decode cc pc = .ok (.ishr, 1)) (kk : W p l e R s m args below meth c H locs cells slots Q (F0 m (pc + 1) ls (.int (zI ((a / 2 ^ k : Nat) : Int)) :: rest))) : W p l e R s m args below meth c H locs cells slots Q (F0 m (pc) ls (.int (zI y) :: .int (zI x) :: rest)) := lv_ishr hexec hb hdg (by rw [hx, hy, zI_shr ha hk]; exact kk)
theorem gz_mabs (hexec : p.tables.exec = Jvm.exec) (hb0 : c.code = cc) (hml : c.maxLocals = ls.size) {own : String} {index : Nat} (hown : s.vm.findClass own = some m.cls) (hlink : (Cond.methodLink own index Lib.Math.abs.name).before args s = true) (hstat : (Cond.static Lib.Math.abs.name).before args s = true) (hini : (Cond.initialized "java/lang/Math").before args s = true) (hcode : (Cond.code Lib.Math.abs.name Lib.Math.abs.code 1 (some .int)).before args s = true)
    (hframes : 1 ≤ R.frames) (hlocals : (rest.map fun v => v.category).sum + 13 ≤ R.locals) (hc : cells ≤ R.cells) (hs : slots ≤ R.slots) {a : Int} (ha : -1000000 ≤ a ∧ a ≤ 1000000) (hdg : decode cc pc = .ok (.invokestatic index, 3))
    (kk : W p l e R s m args below meth c H locs cells slots Q (F0 m (pc + 3) ls (.int (zI (if 0 ≤ a then a else -a)) :: rest))) : W p l e R s m args below meth c H locs cells slots Q (F0 m (pc) ls (.int (zI a) :: rest)) :=
  va_mabs hexec hb0 hml hown hlink hstat hini hcode hframes hlocals hc hs hdg (by rw [zI_abs ha]; exact kk)
theorem gz_iald (hexec : p.tables.exec = Jvm.exec) (hb : c.code = cc) (hX : gX G s H0) {n : Nat} {f : Nat → Int32} (he : gat G a (.inl (gI G, n, .inl f)) H) {z : Int} (k : Nat) (hz : z = k) (hk : k < n) (hn : n ≤ 2147483647) (hdg : decode cc pc = .ok (.iaload, 1)) (kk : W p l e R s m args below meth c H locs cells slots Q (F0 m (pc + 1) ls (.int (f k) :: rest))) : W p l e R s m args below meth c H locs cells slots Q (F0 m (pc) ls (.int (zI z) :: .ref a :: rest)) :=
  g_iald hexec hb hX he (zI_in hz hk hn) hdg (by rw [zI_clamp hz (by omega)]; exact kk)
theorem gz_aald (hexec : p.tables.exec = Jvm.exec) (hb : c.code = cc) (hX : gX G s H0) {n : Nat} {f : Nat → Option Nat} (he : gat G a (.inl (gT G, n, .inr (.inr (.inr (.inr f))))) H) {z : Int} (k : Nat) (hz : z = k) (hk : k < n) (hn : n ≤ 2147483647) (hdg : decode cc pc = .ok (.aaload, 1)) (kk : W p l e R s m args below meth c H locs cells slots Q (F0 m (pc + 1) ls (va_rf (f k) :: rest))) : W p l e R s m args below meth c H locs cells slots Q (F0 m (pc) ls (.int (zI z) :: .ref a :: rest)) :=
  g_aald hexec hb hX he (zI_in hz hk hn) hdg (by rw [zI_clamp hz (by omega)]; exact kk)
theorem gz_alenI (hexec : p.tables.exec = Jvm.exec) (hb : c.code = cc) (hX : gX G s H0) {n : Nat} {f : Nat → Int32} (he : gat G a (.inl (gI G, n, .inl f)) H) (hdg : decode cc pc = .ok (.arraylength, 1)) (kk : W p l e R s m args below meth c H locs cells slots Q (F0 m (pc + 1) ls (.int (zI n) :: rest))) : W p l e R s m args below meth c H locs cells slots Q (F0 m (pc) ls (.ref a :: rest)) :=
  g_alenI hexec hb hX he hdg (by rw [zI_n]; exact kk)
theorem gz_alenT (hexec : p.tables.exec = Jvm.exec) (hb : c.code = cc) (hX : gX G s H0) {n : Nat} {f : Nat → Option Nat} (he : gat G a (.inl (gT G, n, .inr (.inr (.inr (.inr f))))) H) (hdg : decode cc pc = .ok (.arraylength, 1)) (kk : W p l e R s m args below meth c H locs cells slots Q (F0 m (pc + 1) ls (.int (zI n) :: rest))) : W p l e R s m args below meth c H locs cells slots Q (F0 m (pc) ls (.ref a :: rest)) :=
  g_alenT hexec hb hX he hdg (by rw [zI_n]; exact kk)
theorem gz_iast (hexec : p.tables.exec = Jvm.exec) (hb : c.code = cc) (hX : gX G s H0) (hS : va_S (gA G) H0 H locs) {n : Nat} {f : Nat → Int32} (he : gat G a (.inl (gI G, n, .inl f)) H) (hga : gB G ≤ a) {z : Int} {x : Int32} (k : Nat) (hz : z = k) (hk : k < n) (hn : n ≤ 2147483647) (hdg : decode cc pc = .ok (.iastore, 1))
    (kk : ∀ (H1 : Heap) (locs1 : List Loc), gat G a (.inl (gI G, n, .inl (upd f k x))) H1 → gOnly [a] H H1 → va_S (gA G) H0 H1 locs1 → W p l e R s m args below meth c H1 locs1 cells slots Q (F0 m (pc + 1) ls (rest))) : W p l e R s m args below meth c H locs cells slots Q (F0 m (pc) ls (.int x :: .int (zI z) :: .ref a :: rest)) :=
  g_iast hexec hb hX hS he hga (zI_in hz hk hn) hdg (by rw [zI_clamp hz (by omega)]; exact kk)
theorem gz_aast (hexec : p.tables.exec = Jvm.exec) (hb : c.code = cc) (hX : gX G s H0) (hS : va_S (gA G) H0 H locs) {n v : Nat} {vs : List Value} {f : Nat → Option Nat} (he : gat G a (.inl (gT G, n, .inr (.inr (.inr (.inr f))))) H) (hga : gB G ≤ a) (hv : gat G v (.inr (3, vs)) H) {z : Int} (k : Nat) (hz : z = k) (hk : k < n) (hn : n ≤ 2147483647) (hdg : decode cc pc = .ok (.aastore, 1))
    (kk : ∀ (H1 : Heap) (locs1 : List Loc), gat G a (.inl (gT G, n, .inr (.inr (.inr (.inr (va_up f k (some v))))))) H1 → gOnly [a] H H1 → va_S (gA G) H0 H1 locs1 → W p l e R s m args below meth c H1 locs1 cells slots Q (F0 m (pc + 1) ls (rest))) : W p l e R s m args below meth c H locs cells slots Q (F0 m (pc) ls (.ref v :: .int (zI z) :: .ref a :: rest)) :=
  g_aast hexec hb hX hS he hga hv (zI_in hz hk hn) hdg (by rw [zI_clamp hz (by omega)]; exact kk)
end GZ
