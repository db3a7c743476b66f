/-! ===== what a call of the law leaves: both sides' pictures, kept apart ===== -/
theorem gat.kp {G : gG} {a : Nat} {e : va_E} {O : Nat → Prop} {H H1 : Heap} (h : gat G a e H) (x : gKp O H H1) (n : ¬ O a) : gat G a e H1 := va_at.kept h (x.2 a (va_at.lt h) n)
theorem gRow.kp {G : gG} {a b cap n : Nat} {f : Nat → Int32} {O : Nat → Prop} {H H1 : Heap} (h : gRow G a b cap n f H) (x : gKp O H H1) (n1 : ¬ O a) (n2 : ¬ O b) : gRow G a b cap n f H1 := ⟨h.1.kp x n1, h.2.1.kp x n2, h.2.2⟩
theorem Mat.kp {G : gG} {mt ra rb ta : Nat} {X : cX} {tb : Nat → Int32} {O : Nat → Prop} {H H1 : Heap} (h : Mat G mt ra rb ta X tb H) (x : gKp O H H1) (n1 : ¬ O mt) (n2 : ¬ O ra) (n3 : ¬ O rb) (n4 : ¬ O ta) : Mat G mt ra rb ta X tb H1 := ⟨h.1.kp x n1, h.2.1.kp x n2 n3, h.2.2.1.kp x n4, h.2.2.2⟩
theorem Lnk.kp {G : gG} {a r b n : Nat} {lk : Nat → Nat} {O : Nat → Prop} {H H1 : Heap} (h : Lnk G a r b n lk H) (x : gKp O H H1) (n1 : ¬ O a) (n2 : ¬ O r) (n3 : ¬ O b) : Lnk G a r b n lk H1 := ⟨h.1.kp x n1, h.2.1.kp x n2 n3, h.2.2⟩
theorem Tun.kp {G : gG} {t : Nat → Nat} {n : Nat} {f g : Nat → Int} {r : Bool} {O : Nat → Prop} {H H1 : Heap} (h : Tun G t n f g r H) (x : gKp O H H1) (n1 : ∀ j, j < 5 → ¬ O (t j)) : Tun G t n f g r H1 :=
  ⟨h.1.kp x (n1 0 (by omega)), h.2.1.kp x (n1 1 (by omega)) (n1 2 (by omega)), h.2.2.1.kp x (n1 3 (by omega)) (n1 4 (by omega)), h.2.2.2⟩
theorem Cat.kp {G : gG} {A : Nat → Nat} {TA : Nat → Nat → Nat} {S : cS} {W : cWk} {O : Nat → Prop} {H H1 : Heap} (h : Cat G A TA S W H) (x : gKp O H H1) (n : ∀ q, own A TA (sn S) q → ¬ O q) : Cat G A TA S W H1 := by
  obtain ⟨h0, h1, h2, h3, h4, h5, h6, h7⟩ := h
  have nA : ∀ k, k < 13 → ¬ O (A k) := fun k hk => n _ (own.A hk)
  exact ⟨h0.kp x (nA 0 (by omega)), h1.kp x (nA 1 (by omega)), h2.kp x (nA 4 (by omega)) (nA 2 (by omega)) (nA 3 (by omega)) (nA 5 (by omega)), h3.kp x (nA 6 (by omega)) (nA 7 (by omega)) (nA 8 (by omega)), h4.kp x (nA 9 (by omega)) (nA 10 (by omega)), h5.kp x (nA 11 (by omega)) (nA 12 (by omega)), fun i hi => (h6 i hi).kp x (fun j hj => n _ (own.T hi hj)), h7⟩
theorem Mod.kp {G : gG} {B : Nat → Nat} {S : cS} {th : Int} {ct : Nat → Int32} {O : Nat → Prop} {H H1 : Heap} (h : Mod G B S th ct H) (x : gKp O H H1) (n : ∀ k, k < 8 → ¬ O (B k)) : Mod G B S th ct H1 := by
  obtain ⟨m0, m1, m2, m3, m4, m5, m6, m7, m8⟩ := h
  exact ⟨m0.kp x (n 0 (by omega)), m1.kp x (n 1 (by omega)), m2.kp x (n 2 (by omega)), m3.kp x (n 3 (by omega)), m4.kp x (n 4 (by omega)), m5.kp x (n 5 (by omega)), m6.kp x (n 6 (by omega)), m7.kp x (n 7 (by omega)), m8⟩
theorem Mod.lt {G : gG} {B : Nat → Nat} {S : cS} {th : Int} {ct : Nat → Int32} {H : Heap} (h : Mod G B S th ct H) : ∀ k, k < 8 → B k < H.size := by
  obtain ⟨m0, m1, m2, m3, m4, m5, m6, m7, m8⟩ := h
  intro k hk
  rcases (show k = 0 ∨ k = 1 ∨ k = 2 ∨ k = 3 ∨ k = 4 ∨ k = 5 ∨ k = 6 ∨ k = 7 by omega) with rfl | rfl | rfl | rfl | rfl | rfl | rfl | rfl
  · exact va_at.lt m0
  · exact va_at.lt m1
  · exact va_at.lt m2
  · exact va_at.lt m3
  · exact va_at.lt m4
  · exact va_at.lt m5
  · exact va_at.lt m6
  · exact va_at.lt m7
/-- what a call of the class leaves, its own cells and the out cell written at most, new tunes in new cells -/
def LX (G : gG) (A : Nat → Nat) (TA TA2 : Nat → Nat → Nat) (S S2 : cS) (o : Nat) (H H1 : Heap) : Prop :=
  (∃ W, Cat G A TA2 S2 W H1) ∧ gKp (fun q => own A TA (sn S) q ∨ q = o) H H1 ∧ ∀ i j, i < sn S2 → j < 5 → (i < sn S ∧ TA2 i j = TA i j) ∨ H.size ≤ TA2 i j
def LU (G : gG) (o : Nat) (H : Heap) : Prop := ∃ f : Nat → Int64, gat G o (.inl (gJ G, 1, .inr (.inl f))) H
def LO (G : gG) (o : Nat) (H : Heap) (v : Int) : Prop := ∃ f : Nat → Int64, gat G o (.inl (gJ G, 1, .inr (.inl f))) H ∧ f 0 = (zI v).toInt64
theorem LO.u {G : gG} {o : Nat} {H : Heap} {v : Int} (h : LO G o H v) : LU G o H := ⟨h.choose, h.choose_spec.1⟩
theorem LU.kp {G : gG} {o : Nat} {O : Nat → Prop} {H H1 : Heap} (h : LU G o H) (x : gKp O H H1) (n : ¬ O o) : LU G o H1 := ⟨h.choose, h.choose_spec.kp x n⟩
theorem LU.lt {G : gG} {o : Nat} {H : Heap} (h : LU G o H) : o < H.size := va_at.lt h.choose_spec
theorem gKp.wide {O O2 : Nat → Prop} {H H1 : Heap} (x : gKp O H H1) (h : ∀ q, O q → O2 q) : gKp O2 H H1 := ⟨x.1, fun q h1 h2 => x.2 q h1 (fun z => h2 (h q z))⟩
theorem LX.same {G : gG} {A : Nat → Nat} {TA : Nat → Nat → Nat} {S : cS} {W : cWk} {H : Heap} (o : Nat) (h : Cat G A TA S W H) : LX G A TA TA S S o H H :=
  ⟨⟨W, h⟩, gKp.rf _ _, fun i j hi _ => Or.inl ⟨hi, rfl⟩⟩
theorem LX.xp {G : gG} {A : Nat → Nat} {TA : Nat → Nat → Nat} {S S2 : cS} {H H1 : Heap} (o : Nat) (h : XP G A TA S S2 H H1) (e : sn S2 = sn S) : LX G A TA TA S S2 o H H1 :=
  ⟨h.1, h.2.wide (fun _ z => Or.inl z), fun i j hi _ => Or.inl ⟨by omega, rfl⟩⟩
theorem LX.ext {G : gG} {A : Nat → Nat} {TA : Nat → Nat → Nat} {S : cS} {W : cWk} {H H1 : Heap} (o : Nat) (h : Cat G A TA S W H) (x : gExt H H1) : LX G A TA TA S S o H H1 := LX.xp o (XP.same h x) rfl
theorem LX.add {G : gG} {A : Nat → Nat} {TA TA2 : Nat → Nat → Nat} {S : cS} {p1 l1 : Int} {H H1 : Heap} (o : Nat) (h1 : ∃ W, Cat G A TA2 (sAdd S p1 l1) W H1) (h2 : gKp (own A TA (sn S)) H H1) (h3 : ∀ i, i < sn S → TA2 i = TA i) (h4 : ∀ j, j < 5 → H.size ≤ TA2 (sn S) j) : LX G A TA TA2 S (sAdd S p1 l1) o H H1 :=
  ⟨h1, h2.wide (fun _ z => Or.inl z), fun i j hi hj => by
    have hi : i < sn S + 1 := hi
    rcases Nat.lt_or_ge i (sn S) with g | g
    · exact Or.inl ⟨g, by rw [h3 i g]⟩
    · rw [show i = sn S by omega]; exact Or.inr (h4 j hj)⟩
theorem LX.dis {G : gG} {A : Nat → Nat} {TA TA2 : Nat → Nat → Nat} {S S2 : cS} {o q : Nat} {H H1 : Heap} (h : LX G A TA TA2 S S2 o H H1) (hq : q < H.size) (nq : ¬ own A TA (sn S) q) : ¬ own A TA2 (sn S2) q := by
  rintro (⟨k, hk, e⟩ | ⟨i, j, hi, hj, e⟩)
  · exact nq (Or.inl ⟨k, hk, e⟩)
  · rcases h.2.2 i j hi hj with ⟨h1, h2⟩ | h1
    · exact nq (Or.inr ⟨i, j, h1, hj, by rw [e, h2]⟩)
    · omega
theorem gOnly.kp {q : Nat} {H H1 : Heap} (h : gOnly [q] H H1) : gKp (fun z => z = q) H H1 := h.kp1 rfl
theorem LX.put {G : gG} {A : Nat → Nat} {TA TA2 : Nat → Nat → Nat} {S S2 : cS} {o : Nat} {H H1 H2 : Heap} (h : LX G A TA TA2 S S2 o H H1) (hO : gOnly [o] H1 H2) (ho : o < H.size) (no : ¬ own A TA (sn S) o) : LX G A TA TA2 S S2 o H H2 := by
  have nd := h.dis ho no
  obtain ⟨⟨W, h1⟩, h2, h3⟩ := h
  exact ⟨⟨W, h1.kp hO.kp (fun q hq e => nd (by rw [← e]; exact hq))⟩, h2.trans (hO.kp.wide (fun _ z => Or.inr z)), h3⟩
theorem LU.lx {G : gG} {A : Nat → Nat} {TA : Nat → Nat → Nat} {n o : Nat} {H H1 : Heap} (h : LU G o H) (x : gKp (own A TA n) H H1) (no : ¬ own A TA n o) : LU G o H1 := h.kp x no
/-- what holds between two calls of the law -/
def LI (G : gG) (A : Nat → Nat) (TA : Nat → Nat → Nat) (B : Nat → Nat) (o : Nat) (S : cS) (th : Int) (H : Heap) : Prop :=
  sInv S ∧ (∃ W, Cat G A TA S W H) ∧ (∃ ct, Mod G B S th ct H) ∧ LU G o H ∧ gB G ≤ o ∧ (∀ k, k < 8 → ¬ own A TA (sn S) (B k)) ∧ ¬ own A TA (sn S) o ∧ ∀ k, k < 8 → B k ≠ o
theorem LI.mid {G : gG} {A : Nat → Nat} {TA TA2 : Nat → Nat → Nat} {B : Nat → Nat} {o : Nat} {S S2 : cS} {th : Int} {ct : Nat → Int32} {H H1 : Heap} (hM : Mod G B S th ct H) (hx : LX G A TA TA2 S S2 o H H1) (d1 : ∀ k, k < 8 → ¬ own A TA (sn S) (B k)) (d3 : ∀ k, k < 8 → B k ≠ o) : Mod G B S th ct H1 :=
  hM.kp hx.2.1 (fun k hk z => z.elim (d1 k hk) (d3 k hk))
theorem LI.fin {G : gG} {A : Nat → Nat} {TA TA2 : Nat → Nat → Nat} {B : Nat → Nat} {o : Nat} {S S2 : cS} {th th2 : Int} {H H1 H2 : Heap} (hI2 : sInv S2) (h : LI G A TA B o S th H) (hx : LX G A TA TA2 S S2 o H H1) (hu : LU G o H1) (hm : MP G B S2 th2 H1 H2) : LI G A TA2 B o S2 th2 H2 := by
  obtain ⟨-, -, ⟨ct, hM⟩, ho, go, d1, d2, d3⟩ := h
  have e1 := fun k hk => hx.dis (Mod.lt hM k hk) (d1 k hk)
  have e2 := hx.dis ho.lt d2
  obtain ⟨⟨ct2, m⟩, kp⟩ := hm
  obtain ⟨⟨W, c⟩, -, -⟩ := hx
  have nk : ∀ q, own A TA2 (sn S2) q → ¬ oB B q := fun q hq z => by
    obtain ⟨k, hk, e⟩ := z
    exact e1 k hk (by rw [← e]; exact hq)
  refine ⟨hI2, ⟨W, c.kp kp nk⟩, ⟨ct2, m⟩, hu.kp kp (fun z => ?_), go, e1, e2, d3⟩
  obtain ⟨k, hk, e⟩ := z
  exact d3 k hk e.symm
theorem LO.mp {G : gG} {B : Nat → Nat} {o : Nat} {S2 : cS} {th2 v : Int} {H1 H2 : Heap} (h : LO G o H1 v) (hm : MP G B S2 th2 H1 H2) (d3 : ∀ k, k < 8 → B k ≠ o) : LO G o H2 v := by
  obtain ⟨f, h1, h2⟩ := h
  refine ⟨f, h1.kp hm.2 (fun z => ?_), h2⟩
  obtain ⟨k, hk, e⟩ := z
  exact d3 k hk e.symm
/-! a method with a table of its own -/
def gFW (p : Program) (s : State) (m : MethodId) (args : Array Value) (meth : Method) (c : Code) (y : MethodName) (ws : List Cond) (cc : ByteArray) (maxL : Nat) (ret : Option FieldType) (hh : List (Nat × Nat × Nat × Nat)) (G : gG) (H : Heap) : Prop :=
  p.tables.exec = Jvm.exec ∧ c.code = cc ∧ c.maxLocals = maxL ∧ meth.sig.returnType = ret ∧ (∀ w ∈ ws, w.before args s = true) ∧ s.vm.findClass y.cls = some m.cls ∧ meth.locks = false ∧ c.exceptionTable.toList = tableOf hh ∧ s.heap = H ∧ gX G s s.heap ∧ meth.name = y.name
theorem g_startW {cc : ByteArray} {l : Launch} {G : gG} {H : Heap} {y : MethodName} {ws ws' : List Cond} {rm : Room} {As : List Value} {post : Option Value → Heap → Prop} {xp : String → Heap → Prop} {mc ms maxL : Nat} {ret : Option FieldType} {hh : List (Nat × Nat × Nat × Nat)} (hy : plainName y.cls = true) (hw : ws = Cond.codeWith y cc maxL ret hh :: ws') (hn : (lg_sl As).length ≤ maxL)
    (body : ∀ p e s m args below meth c, gFW p s m args meth c y ws cc maxL ret hh G H → ∀ ls : Array Slot, lv_has ls maxL (lv_args 0 As) →
      W p l e rm s m args below meth c H [] 0 0 (vx_MQ below (gQ G post) (gXC G xp) args s mc ms (gA G)) (F0 m 0 ls [])) : gM l y ws rm As G H post xp mc ms := by
  refine vx_ofWH hy hw ?_
  intro p e s m args below meth c s₁ B hml hv
  obtain ⟨rfl, hH, hX⟩ := hv
  have hl := lv_entry As (n := maxL) hn
  have hts : ∀ w ∈ ws, w.before As.toArray s = true := atoms_spec (ws := ws) B.pre
  have hxt : c.exceptionTable.toList = tableOf hh := vx_table (x := y) B (hts _ (by rw [hw]; exact List.mem_cons_self))
  rw [lg_entry_eq]
  have K := body p e s m As.toArray below meth c ⟨B.exec, B.bytes, hml, B.returns, hts, findClass_of_methodNamed B.named, B.notSynchronized, hxt, hH, (by rw [hH]; exact hX), (name_of_methodNamed B.named B.method).1⟩ _ hl
  rw [← hH] at K
  exact K
theorem g_catch {p : Program} {l : Launch} {e : Env} {R : Room} {s : State} {m : MethodId} {args : Array Value} {below : List Frame} {meth : Method} {c : Code} {H : Heap} {locs : List Loc} {cells slots : Nat} {Q : State → Prop} {pc : Nat} {ls : Array Slot} {rest : List Value} {G : gG} {own E : String} {ce : Cell} {q : Addr}
    (hX : gX G s s.heap) (hown : s.vm.findClass own = some m.cls) (pre : List ExceptionTableEntry) (x : ExceptionTableEntry) (suf : List ExceptionTableEntry) (hsplit : c.exceptionTable.toList = pre ++ x :: suf)
    (hpass : ∀ z ∈ pre, z.catchType ≠ 0 ∧ ∃ nm : String, (Cond.classLink own z.catchType nm).before args s = true ∧ nm ∈ gEx ∧ E ≠ nm) (hE : E ∈ gEx) (hx : covers x pc = true) (h0 : x.catchType ≠ 0)
    (hlink : (Cond.classLink own x.catchType E).before args s = true) (hcw : Cond.castable E E ∈ gFc) (hcell : H[q]? = some ce) (hv : ce.vm = .none) (hcl : s.vm.findClass E = some ce.cls)
    (kk : W p l e R s m args below meth c H locs cells slots Q (F0 m x.handlerPc ls [.ref q])) : vx_W p l e R s m args below meth c H locs cells slots Q (F0 m pc ls rest) q :=
  vx_catch (name := E) hown pre x suf hsplit (fun z hz => by
    obtain ⟨h1, nm, h2, h3, h4⟩ := hpass z hz
    exact Or.inr ⟨h1, nm, h2, hX.1.2.2.2.2.2.2 E hE nm h3 h4⟩) hx h0 hlink (va_Nw.use rfl (hX.1.2.2.2.2.2.1 _ hcw)) hcell hv hcl kk
theorem lgc0 (x : Int64) : lg_cmp x x = zI 0 := by simp [lg_cmp]; decide +kernel
