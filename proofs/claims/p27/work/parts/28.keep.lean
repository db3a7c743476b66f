/-! ===== what a call of the law leaves: both sides' pictures, kept apart ===== -/
theorem gat.kp {G : gG} {a : Nat} {e : va_E} {O : Nat → Prop} {H H1 : Heap} (h : gat G a e H) (x : gKp O H H1) (n : ¬ O a) : gat G a e H1 := va_at.kept h (x.2 a (va_at.lt h) n)
theorem gRow.kp {G : gG} {a b cap n : Nat} {f : Nat → Int32} {O : Nat → Prop} {H H1 : Heap} (h : gRow G a b cap n f H) (x : gKp O H H1) (n1 : ¬ O a) (n2 : ¬ O b) : gRow G a b cap n f H1 := ⟨h.1.kp x n1, h.2.1.kp x n2, h.2.2⟩
theorem Mat.kp {G : gG} {mt ra rb ta : Nat} {X : cX} {tb : Nat → Int32} {O : Nat → Prop} {H H1 : Heap} (h : Mat G mt ra rb ta X tb H) (x : gKp O H H1) (n1 : ¬ O mt) (n2 : ¬ O ra) (n3 : ¬ O rb) (n4 : ¬ O ta) : Mat G mt ra rb ta X tb H1 := ⟨h.1.kp x n1, h.2.1.kp x n2 n3, h.2.2.1.kp x n4, h.2.2.2⟩
theorem Lnk.kp {G : gG} {a r b n : Nat} {lk : Nat → Nat} {O : Nat → Prop} {H H1 : Heap} (h : Lnk G a r b n lk H) (x : gKp O H H1) (n1 : ¬ O a) (n2 : ¬ O r) (n3 : ¬ O b) : Lnk G a r b n lk H1 := ⟨h.1.kp x n1, h.2.1.kp x n2 n3, h.2.2⟩
theorem Tun.kp {G : gG} {t : Nat → Nat} {n : Nat} {f g : Nat → Int} {r : Bool} {O : Nat → Prop} {H H1 : Heap} (h : Tun G t n f g r H) (x : gKp O H H1) (n1 : ∀ j, j < 5 → ¬ O (t j)) : Tun G t n f g r H1 :=
  ⟨h.1.kp x (n1 0 (by omega)), h.2.1.kp x (n1 1 (by omega)) (n1 2 (by omega)), h.2.2.1.kp x (n1 3 (by omega)) (n1 4 (by omega)), h.2.2.2⟩
theorem Cat.kp {G : gG} {A : Nat → Nat} {TA : Nat → Nat → Nat} {S : cS} {W : cWk} {O : Nat → Prop} {H H1 : Heap} (h : Cat G A TA S W H) (x : gKp O H H1) (n : ∀ q, own A TA (sn S) q → ¬ O q) : Cat G A TA S W H1 := by
  obtain ⟨h0, h1, h2, h3, h4, h5, h6, h7⟩ := h
  have nA : ∀ k, k < 13 → ¬ O (A k) := fun k hk => n _ (own.A hk)
  exact ⟨h0.kp x (nA 0 (by omega)), h1.kp x (nA 1 (by omega)), h2.kp x (nA 4 (by omega)) (nA 2 (by omega)) (nA 3 (by omega)) (nA 5 (by omega)), h3.kp x (nA 6 (by omega)) (nA 7 (by omega)) (nA 8 (by omega)), h4.kp x (nA 9 (by omega)) (nA 10 (by omega)), h5.kp x (nA 11 (by omega)) (nA 12 (by omega)), fun i hi => (h6 i hi).kp x (fun j hj => n _ (own.T hi hj)), h7⟩
theorem gKp.wide {O O2 : Nat → Prop} {H H1 : Heap} (x : gKp O H H1) (h : ∀ q, O q → O2 q) : gKp O2 H H1 := ⟨x.1, fun q h1 h2 => x.2 q h1 (fun z => h2 (h q z))⟩
/-! a method with a table of its own -/
def gFW (p : Program) (s : State) (m : MethodId) (args : Array Value) (meth : Method) (c : Code) (y : MethodName) (ws : List Cond) (cc : ByteArray) (maxL : Nat) (ret : Option FieldType) (hh : List (Nat × Nat × Nat × Nat)) (G : gG) (H : Heap) : Prop :=
  p.tables.exec = Jvm.exec ∧ c.code = cc ∧ c.maxLocals = maxL ∧ meth.sig.returnType = ret ∧ (∀ w ∈ ws, w.before args s = true) ∧ s.vm.findClass y.cls = some m.cls ∧ meth.locks = false ∧ c.exceptionTable.toList = tableOf hh ∧ s.heap = H ∧ gX G s s.heap ∧ meth.name = y.name
theorem g_startW {cc : ByteArray} {l : Launch} {G : gG} {H : Heap} {y : MethodName} {ws ws' : List Cond} {rm : Room} {As : List Value} {post : Option Value → Heap → Prop} {xp : String → Heap → Prop} {mc ms maxL : Nat} {ret : Option FieldType} {hh : List (Nat × Nat × Nat × Nat)} (hy : plainName y.cls = true) (hw : ws = Cond.codeWith y cc maxL ret hh :: ws') (hn : (lg_sl As).length ≤ maxL)
    (body : ∀ p e s m args below meth c, gFW p s m args meth c y ws cc maxL ret hh G H → ∀ ls : Array Slot, lv_has ls maxL (lv_args 0 As) →
      W p l e rm s m args below meth c H [] 0 0 (vx_MQ below (gQ G post) (gXC G xp) args s mc ms (gA G)) (F0 m 0 ls [])) : gM l y ws rm As G H post xp mc ms := by
  refine vx_ofWH hy hw ?_
  intro p e s m args below meth c s₁ B hml hv
  obtain ⟨rfl, hH, hX⟩ := hv
  have hl := lv_entry As (n := maxL) hn
  have hts : ∀ w ∈ ws, w.before As.toArray s = true := atoms_spec (ws := ws) B.pre
  have hxt : c.exceptionTable.toList = tableOf hh := vx_table (x := y) B (hts _ (by rw [hw]; exact List.mem_cons_self))
  rw [lg_entry_eq]
  have K := body p e s m As.toArray below meth c ⟨B.exec, B.bytes, hml, B.returns, hts, findClass_of_methodNamed B.named, B.notSynchronized, hxt, hH, (by rw [hH]; exact hX), (name_of_methodNamed B.named B.method).1⟩ _ hl
  rw [← hH] at K
  exact K
theorem g_catch {p : Program} {l : Launch} {e : Env} {R : Room} {s : State} {m : MethodId} {args : Array Value} {below : List Frame} {meth : Method} {c : Code} {H : Heap} {locs : List Loc} {cells slots : Nat} {Q : State → Prop} {pc : Nat} {ls : Array Slot} {rest : List Value} {G : gG} {own E : String} {ce : Cell} {q : Addr}
    (hX : gX G s s.heap) (hown : s.vm.findClass own = some m.cls) (pre : List ExceptionTableEntry) (x : ExceptionTableEntry) (suf : List ExceptionTableEntry) (hsplit : c.exceptionTable.toList = pre ++ x :: suf)
    (hpass : ∀ z ∈ pre, z.catchType ≠ 0 ∧ ∃ nm : String, (Cond.classLink own z.catchType nm).before args s = true ∧ nm ∈ gEx ∧ E ≠ nm) (hE : E ∈ gEx) (hx : covers x pc = true) (h0 : x.catchType ≠ 0)
    (hlink : (Cond.classLink own x.catchType E).before args s = true) (hcw : Cond.castable E E ∈ gFc) (hcell : H[q]? = some ce) (hv : ce.vm = .none) (hcl : s.vm.findClass E = some ce.cls)
    (kk : W p l e R s m args below meth c H locs cells slots Q (F0 m x.handlerPc ls [.ref q])) : vx_W p l e R s m args below meth c H locs cells slots Q (F0 m pc ls rest) q :=
  vx_catch (name := E) hown pre x suf hsplit (fun z hz => by
    obtain ⟨h1, nm, h2, h3, h4⟩ := hpass z hz
    exact Or.inr ⟨h1, nm, h2, hX.1.2.2.2.2.2.2 E hE nm h3 h4⟩) hx h0 hlink (va_Nw.use rfl (hX.1.2.2.2.2.2.1 _ hcw)) hcell hv hcl kk
theorem lgc0 (x : Int64) : lg_cmp x x = zI 0 := by simp [lg_cmp]; decide +kernel
