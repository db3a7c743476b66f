/-! ===== base: one form of contract for every method: the heap is the state ===== -/
abbrev gG : Type := va_G × ClassId × ClassId × ClassId × ClassId × Nat × (Nat → Nat) × Nat × Nat × (Nat → Int32)
abbrev gD (G : gG) : va_G := G.1
abbrev gI (G : gG) : ClassId := G.2.1
abbrev gZ (G : gG) : ClassId := G.2.2.1
abbrev gT (G : gG) : ClassId := G.2.2.2.1
abbrev gJ (G : gG) : ClassId := G.2.2.2.2.1
abbrev gB (G : gG) : Nat := G.2.2.2.2.2.1
abbrev gSa (G : gG) : Nat → Nat := G.2.2.2.2.2.2.1
/-- the script: its cell, its length, its ints -/
abbrev gSb (G : gG) : Nat := G.2.2.2.2.2.2.2.1
abbrev gSl (G : gG) : Nat := G.2.2.2.2.2.2.2.2.1
abbrev gSx (G : gG) : Nat → Int32 := G.2.2.2.2.2.2.2.2.2
abbrev gTys (G : gG) : List (ClassId × FieldType) := [(gI G, .int), (gT G, .object "TuneCatalogue$Tune")]
def gA (G : gG) : Nat → Prop := fun q => gB G ≤ q
def gNW : List Cond := [.fieldLinkNest RX4 22 RX1 "hum" "LTuneCatalogue$Row;" RX4, .fieldLinkNest RX4 144 RX1 "slip" "I" RX4, .fieldLinkNest RX4 147 RX1 "ornament" "I" RX4, .fieldLinkNest RX4 150 RX1 "repeat" "I" RX4, .fieldLinkNest RX4 77 RX3 "pitches" "LTuneCatalogue$Row;" RX4, .fieldLinkNest RX1 75 RX3 "pitches" "LTuneCatalogue$Row;" RX4, .fieldLinkNest RX4 102 RX3 "lengths" "LTuneCatalogue$Row;" RX4, .fieldLinkNest RX1 87 RX3 "lengths" "LTuneCatalogue$Row;" RX4, .fieldLinkNest RX4 111 RX3 "retired" "Z" RX4]
def gNM : List Cond := [.methodLinkNest RX4 17 yX1_init RX4, .methodLinkNest RX4 31 yX0_init RX4, .methodLinkNest RX4 66 yX3_init RX4, .methodLinkNest RX1 60 yX4_isWithin RX4]
def gStr : List (Nat × String) := [(207, "a number is out of range"), (61, "there are as many tunes as there may be"), (216, "no such tune is known"), (84, "the tune has as many notes as it may have"), (109, "a pitch would be out of range"), (137, "the hum has as many pitches as it may have"), (214, "there never was such a tune"), (187, "a link joins two unlike tunes"), (194, "there is a link of both"), (202, "there is no link of both"), (209, "the hum has not so many steps"), (92, "the tune has no such note"), (121, "the tune has no such note with a next one"), (168, "there are not so many tunes with a match")]
def gEx : List String := ["java/lang/IllegalStateException", "java/lang/IllegalArgumentException", "java/lang/IndexOutOfBoundsException"]
def gFc : List Cond := [.castable "java/lang/IllegalStateException" "java/lang/IllegalStateException", .castable "java/lang/IllegalArgumentException" "java/lang/IllegalArgumentException", .castable "java/lang/IndexOutOfBoundsException" "java/lang/IndexOutOfBoundsException", .declares (Bundle.initS "java/lang/RuntimeException"), .declares (Bundle.initS "java/lang/Exception"), .declares (Bundle.initS "java/lang/Throwable")]
theorem gFc_ok : ∀ w ∈ gFc, w.faceAtom = true ∧ w.onTables = true := by decide +kernel
theorem gFace_warm {w : Cond} (hw : w.faceAtom = true ∧ w.onTables = true) {s U : State} (hW : s.WarmedH U.vm) (h : va_Nw w s) : va_Nw w U := va_tabs hw.2 (rfl : (s.setVm U.vm).vm = U.vm) (Cond.faceAtom_setVm hW.alike w hw.1 h)
/-- what the tables say, at every call -/
def gK (G : gG) (U : State) : Prop := va_K (gD G) vwCl (gTys G) U ∧ (∀ w ∈ gNW, va_Nw w U) ∧ (∀ w ∈ gNM, va_Nw w U) ∧ (∀ q ∈ gStr, vk_R RX4 q.1 q.2 (gSa G q.1) U) ∧ va_AO "TuneCatalogue$Tune" U ∧ (∀ w ∈ gFc, va_Nw w U) ∧ ∀ a ∈ gEx, ∀ b ∈ gEx, a ≠ b → va_Nc a b U
def gX (G : gG) (U : State) (H : Heap) : Prop := gK G U ∧ vx_Zq Bundle.tN "UNASSIGNED_STACK" Bundle.steD (gA G) U H ∧ vx_Zq Bundle.tN "SUPPRESSED_SENTINEL" Bundle.listD (gA G) U H ∧ gB G ≤ H.size ∧ va_X (gSb G) (gSl G) (gSx G) U H ∧ gSb G < gB G ∧ gSl G ≤ 260
theorem gK.warm {G : gG} {s U : State} (hW : s.WarmedH U.vm) (h : gK G s) : gK G U := by
  obtain ⟨h1, h2, h3, h4, h5, h6, h7⟩ := h
  refine ⟨va_K.moved hW.alike h1, ?_, ?_, fun q hq => (h4 q hq).warm hW, va_AO.moved hW.alike h5, fun w hw => gFace_warm (gFc_ok w hw) hW (h6 w hw), fun a ha b hb n => (h7 a ha b hb n).moved hW.alike⟩
  · simp only [gNW, List.forall_mem_cons] at h2 ⊢
    obtain ⟨a1, a2, a3, a4, a5, a6, a7, a8, a9, -⟩ := h2
    exact ⟨va_Nw.warmF hW a1, va_Nw.warmF hW a2, va_Nw.warmF hW a3, va_Nw.warmF hW a4, va_Nw.warmF hW a5, va_Nw.warmF hW a6, va_Nw.warmF hW a7, va_Nw.warmF hW a8, va_Nw.warmF hW a9, fun _ h => absurd h List.not_mem_nil⟩
  · simp only [gNM, List.forall_mem_cons] at h3 ⊢
    obtain ⟨a1, a2, a3, a4, -⟩ := h3
    exact ⟨va_Nw.warmM hW a1, va_Nw.warmM hW a2, va_Nw.warmM hW a3, va_Nw.warmM hW a4, fun _ h => absurd h List.not_mem_nil⟩
theorem gX.go {G : gG} {s U : State} {H : Heap} {locs : List Loc} (h : gX G s s.heap) (hS : va_S (gA G) s.heap H locs) (hW : s.WarmedH U.vm) : gX G U H :=
  ⟨h.1.warm hW, (h.2.1.kept (fun a h1 h2 => hS.2.1 a h1 h2)).moved hW.alike, (h.2.2.1.kept (fun a h1 h2 => hS.2.1 a h1 h2)).moved hW.alike, Nat.le_trans h.2.2.2.1 hS.1, (h.2.2.2.2.1.kept (hS.2.1 _ (Nat.lt_of_lt_of_le h.2.2.2.2.2.1 h.2.2.2.1) (Nat.not_le.mpr h.2.2.2.2.2.1))).moved hW.alike, h.2.2.2.2.2⟩
theorem gA.new {G : gG} {s : State} {H : Heap} (h : gX G s H) : ∀ q, H.size ≤ q → gA G q := fun q hq => Nat.le_trans h.2.2.2.1 hq
def gQ (G : gG) (post : Option Value → Heap → Prop) : Array Value → State → Outcome → State → Prop := fun _ st oc t => (∃ v, oc = .returned v ∧ post v t.heap) ∧ va_F (gA G) st t
def gXC (G : gG) (xp : String → Heap → Prop) : String → State → State → Prop := fun E st t => xp E t.heap ∧ va_F (gA G) st t
/-- the contract of a method y, called with As at the heap H: it returns v at a heap with 'post', or throws an E at a heap with 'xp' -/
def gM (l : Launch) (y : MethodName) (ws : List Cond) (rm : Room) (As : List Value) (G : gG) (H : Heap) (post : Option Value → Heap → Prop) (xp : String → Heap → Prop) (mc ms : Nat) : Prop :=
  vx_Met l y ws rm (va_Pc As (fun U => U.heap = H ∧ gX G U H)) (gQ G post) (gXC G xp) mc ms (gA G)
def gNo : String → Heap → Prop := fun _ _ => False
def gi (f : Int32 → Heap → Prop) : Option Value → Heap → Prop := fun v H => ∃ r, v = some (.int r) ∧ f r H
def gv (f : Heap → Prop) : Option Value → Heap → Prop := fun v H => v = none ∧ f H
def gq (f : Option Nat → Heap → Prop) : Option Value → Heap → Prop := fun v H => ∃ r, v = some (va_rf r) ∧ f r H
/-- cells that a step leaves as they are -/
def gOnly (L : List Nat) (H H1 : Heap) : Prop := H1.size = H.size ∧ ∀ q : Nat, q ∉ L → H1[q]? = H[q]?
/-- old cells all stay, new ones may come -/
def gExt (H H1 : Heap) : Prop := H.size ≤ H1.size ∧ ∀ q : Nat, q < H.size → H1[q]? = H[q]?
theorem gExt.rf (H : Heap) : gExt H H := ⟨Nat.le_refl _, fun _ _ => rfl⟩
theorem gExt.trans {H H1 H2 : Heap} (a : gExt H H1) (b : gExt H1 H2) : gExt H H2 := ⟨Nat.le_trans a.1 b.1, fun q h => (b.2 q (Nat.lt_of_lt_of_le h a.1)).trans (a.2 q h)⟩
abbrev gat (G : gG) (a : Nat) (e : va_E) (H : Heap) : Prop := va_at (gD G) vwCl (a, e) H
theorem gat.ext {G : gG} {a : Nat} {e : va_E} {H H1 : Heap} (h : gat G a e H) (x : gExt H H1) : gat G a e H1 := va_at.kept h (x.2 a (va_at.lt h))
theorem gat.only {G : gG} {a : Nat} {e : va_E} {L : List Nat} {H H1 : Heap} (h : gat G a e H) (x : gOnly L H H1) (n : a ∉ L) : gat G a e H1 := va_at.kept h (x.2 a n)
theorem gat.only1 {G : gG} {a b : Nat} {e : va_E} {H H1 : Heap} (h : gat G a e H) (x : gOnly [b] H H1) (n : a ≠ b) : gat G a e H1 := h.only x (fun q => n (List.mem_singleton.mp q))
theorem nm1 {a b : Nat} (h : a ≠ b) : a ∉ [b] := fun q => h (List.mem_singleton.mp q)
theorem nm2 {a b c : Nat} (h : a ≠ b) (h2 : a ≠ c) : a ∉ [b, c] := fun q => by
  rcases List.mem_cons.mp q with r | r
  · exact h r
  · exact h2 (List.mem_singleton.mp r)
/-- old cells stay but those of L, new ones may come -/
def gGrow (L : List Nat) (H H1 : Heap) : Prop := H.size ≤ H1.size ∧ ∀ q : Nat, q < H.size → q ∉ L → H1[q]? = H[q]?
theorem gat.grow {G : gG} {a : Nat} {e : va_E} {L : List Nat} {H H1 : Heap} (h : gat G a e H) (x : gGrow L H H1) (n : a ∉ L) : gat G a e H1 := va_at.kept h (x.2 a (va_at.lt h) n)
theorem gOnly.grow {L : List Nat} {H H1 : Heap} (h : gOnly L H H1) : gGrow L H H1 := ⟨Nat.le_of_eq h.1.symm, fun q _ n => h.2 q n⟩
theorem gExt.grow {L : List Nat} {H H1 : Heap} (h : gExt H H1) : gGrow L H H1 := ⟨h.1, fun q h1 _ => h.2 q h1⟩
theorem gGrow.rf (L : List Nat) (H : Heap) : gGrow L H H := ⟨Nat.le_refl _, fun _ _ _ => rfl⟩
theorem gGrow.trans {L L2 : List Nat} {H H1 H2 : Heap} (a : gGrow L H H1) (b : gGrow L2 H1 H2) (h : ∀ q, q < H.size → q ∈ L2 → q ∈ L) : gGrow L H H2 :=
  ⟨Nat.le_trans a.1 b.1, fun q h1 n => (b.2 q (Nat.lt_of_lt_of_le h1 a.1) (fun z => n (h q h1 z))).trans (a.2 q h1 n)⟩
theorem gOnly.trans {L L2 L3 : List Nat} {H H1 H2 : Heap} (a : gOnly L H H1) (b : gOnly L2 H1 H2) (h1 : ∀ q ∈ L, q ∈ L3) (h2 : ∀ q ∈ L2, q ∈ L3) : gOnly L3 H H2 :=
  ⟨b.1.trans a.1, fun q n => (b.2 q (fun z => n (h2 q z))).trans (a.2 q (fun z => n (h1 q z)))⟩
theorem gOnly.mono {L L3 : List Nat} {H H1 : Heap} (a : gOnly L H H1) (h : ∀ q ∈ L, q ∈ L3) : gOnly L3 H H1 := ⟨a.1, fun q n => a.2 q (fun z => n (h q z))⟩
theorem gat.P {G : gG} {a : Nat} {e : va_E} {H : Heap} (h : gat G a e H) : va_P (gD G) vwCl [(a, e)] H := by
  intro k q hk
  match k, hk with
  | 0, hk => cases hk; exact h
  | k + 1, hk => simp at hk
theorem va_E1 {ws : va_W} {a : Nat} {e : va_E} {k : Nat} (h : ws[k]? = some (a, e)) : ws[k]? = some (a, e) := h
section GB
variable {p : Program} {l : Launch} {e : Env} {R : Room} {s : State} {m : MethodId} {args : Array Value} {below : List Frame} {meth : Method} {c : Code} {H : Heap} {locs : List Loc} {cells slots : Nat} {Q : State → Prop}
variable {mc ms : Nat} {G : gG} {H0 : Heap} {a : Array Value} {pc : Nat} {ls : Array Slot} {st0 rest : List Value} {cc : ByteArray} {post : Option Value → Heap → Prop} {xp : String → Heap → Prop}
theorem g_go (hr : vx_Run p l e R s m args below meth c H locs cells slots mc ms (F0 m pc ls st0) rest (gQ G post a) (gXC G xp) (gA G)) (hS : va_S (gA G) H0 H locs)
    (kx : ∀ (E : String) (ce : Cell) (q9 : Addr) (H1 : Heap) (locs1 : List Loc), xp E H1 → va_S (gA G) H0 H1 locs1 → H1[q9]? = some ce → ce.vm = .none → s.vm.findClass E = some ce.cls → vx_W p l e R s m args below meth c H1 locs1 (cells + mc) (slots + ms) Q (F0 m pc ls rest) q9)
    (kk : ∀ (v : Option Value) (H1 : Heap) (locs1 : List Loc), post v H1 → va_S (gA G) H0 H1 locs1 → W p l e R s m args below meth c H1 locs1 (cells + mc) (slots + ms) Q (F0 m (pc + 3) ls (v.toList ++ rest))) : W p l e R s m args below meth c H locs cells slots Q (F0 m pc ls st0) := by
  intro T hT X
  rcases hr T hT X with ⟨v, st₀, t, T', L, h0, X', hL, e1, e2, ⟨⟨w, hv, hp⟩, hF⟩, st⟩ | ⟨q, st₀, t, T', L, E, ce, h0, X', hL, e1, e2, ⟨hp, hF⟩, hce, hcv, hcl, st⟩
  · cases hv
    obtain ⟨k1, k2, k3⟩ := vx_keep h0 e1 hS (fun q _ h => h) (fun q h => h) hL hF
    obtain ⟨t2, a1, b1⟩ := kk v T'.heap (locs ++ L) (by rw [e1]; exact hp) k3 T' rfl X'
    exact ⟨t2, st t2 a1, b1⟩
  · obtain ⟨k1, k2, k3⟩ := vx_keep h0 e1 hS (fun q _ h => h) (fun q h => h) hL hF
    obtain ⟨t2, a1, b1⟩ := kx E ce q T'.heap (locs ++ L) (by rw [e1]; exact hp) k3 (by rw [e1]; exact hce) hcv hcl T' rfl X'
    exact ⟨t2, st.trans a1, b1⟩
theorem g_goi {f : Int32 → Heap → Prop} (hr : vx_Run p l e R s m args below meth c H locs cells slots mc ms (F0 m pc ls st0) rest (gQ G (gi f) a) (gXC G gNo) (gA G)) (hS : va_S (gA G) H0 H locs)
    (kk : ∀ (r : Int32) (H1 : Heap) (locs1 : List Loc), f r H1 → va_S (gA G) H0 H1 locs1 → W p l e R s m args below meth c H1 locs1 (cells + mc) (slots + ms) Q (F0 m (pc + 3) ls (.int r :: rest))) : W p l e R s m args below meth c H locs cells slots Q (F0 m pc ls st0) :=
  g_go hr hS (fun _ _ _ _ _ h => h.elim) (fun v H1 locs1 h hS => by obtain ⟨r, rfl, h⟩ := h; exact kk r H1 locs1 h hS)
theorem g_gov {f : Heap → Prop} (hr : vx_Run p l e R s m args below meth c H locs cells slots mc ms (F0 m pc ls st0) rest (gQ G (gv f) a) (gXC G gNo) (gA G)) (hS : va_S (gA G) H0 H locs)
    (kk : ∀ (H1 : Heap) (locs1 : List Loc), f H1 → va_S (gA G) H0 H1 locs1 → W p l e R s m args below meth c H1 locs1 (cells + mc) (slots + ms) Q (F0 m (pc + 3) ls rest)) : W p l e R s m args below meth c H locs cells slots Q (F0 m pc ls st0) :=
  g_go hr hS (fun _ _ _ _ _ h => h.elim) (fun v H1 locs1 h hS => by obtain ⟨rfl, h⟩ := h; exact kk H1 locs1 h hS)
theorem g_goq {f : Option Nat → Heap → Prop} (hr : vx_Run p l e R s m args below meth c H locs cells slots mc ms (F0 m pc ls st0) rest (gQ G (gq f) a) (gXC G gNo) (gA G)) (hS : va_S (gA G) H0 H locs)
    (kk : ∀ (r : Option Nat) (H1 : Heap) (locs1 : List Loc), f r H1 → va_S (gA G) H0 H1 locs1 → W p l e R s m args below meth c H1 locs1 (cells + mc) (slots + ms) Q (F0 m (pc + 3) ls (va_rf r :: rest))) : W p l e R s m args below meth c H locs cells slots Q (F0 m pc ls st0) :=
  g_go hr hS (fun _ _ _ _ _ h => h.elim) (fun v H1 locs1 h hS => by obtain ⟨r, rfl, h⟩ := h; exact kk r H1 locs1 h hS)
/-- the same, of callees that may throw: 'kx' tells what comes of a throw -/
theorem g_xoi {f : Int32 → Heap → Prop} (hr : vx_Run p l e R s m args below meth c H locs cells slots mc ms (F0 m pc ls st0) rest (gQ G (gi f) a) (gXC G xp) (gA G)) (hS : va_S (gA G) H0 H locs)
    (kx : ∀ (E : String) (ce : Cell) (q9 : Addr) (H1 : Heap) (locs1 : List Loc), xp E H1 → va_S (gA G) H0 H1 locs1 → H1[q9]? = some ce → ce.vm = .none → s.vm.findClass E = some ce.cls → vx_W p l e R s m args below meth c H1 locs1 (cells + mc) (slots + ms) Q (F0 m pc ls rest) q9)
    (kk : ∀ (r : Int32) (H1 : Heap) (locs1 : List Loc), f r H1 → va_S (gA G) H0 H1 locs1 → W p l e R s m args below meth c H1 locs1 (cells + mc) (slots + ms) Q (F0 m (pc + 3) ls (.int r :: rest))) : W p l e R s m args below meth c H locs cells slots Q (F0 m pc ls st0) :=
  g_go hr hS kx (fun v H1 locs1 h hS => by obtain ⟨r, rfl, h⟩ := h; exact kk r H1 locs1 h hS)
theorem g_xov {f : Heap → Prop} (hr : vx_Run p l e R s m args below meth c H locs cells slots mc ms (F0 m pc ls st0) rest (gQ G (gv f) a) (gXC G xp) (gA G)) (hS : va_S (gA G) H0 H locs)
    (kx : ∀ (E : String) (ce : Cell) (q9 : Addr) (H1 : Heap) (locs1 : List Loc), xp E H1 → va_S (gA G) H0 H1 locs1 → H1[q9]? = some ce → ce.vm = .none → s.vm.findClass E = some ce.cls → vx_W p l e R s m args below meth c H1 locs1 (cells + mc) (slots + ms) Q (F0 m pc ls rest) q9)
    (kk : ∀ (H1 : Heap) (locs1 : List Loc), f H1 → va_S (gA G) H0 H1 locs1 → W p l e R s m args below meth c H1 locs1 (cells + mc) (slots + ms) Q (F0 m (pc + 3) ls rest)) : W p l e R s m args below meth c H locs cells slots Q (F0 m pc ls st0) :=
  g_go hr hS kx (fun v H1 locs1 h hS => by obtain ⟨rfl, h⟩ := h; exact kk H1 locs1 h hS)
theorem g_xoq {f : Option Nat → Heap → Prop} (hr : vx_Run p l e R s m args below meth c H locs cells slots mc ms (F0 m pc ls st0) rest (gQ G (gq f) a) (gXC G xp) (gA G)) (hS : va_S (gA G) H0 H locs)
    (kx : ∀ (E : String) (ce : Cell) (q9 : Addr) (H1 : Heap) (locs1 : List Loc), xp E H1 → va_S (gA G) H0 H1 locs1 → H1[q9]? = some ce → ce.vm = .none → s.vm.findClass E = some ce.cls → vx_W p l e R s m args below meth c H1 locs1 (cells + mc) (slots + ms) Q (F0 m pc ls rest) q9)
    (kk : ∀ (r : Option Nat) (H1 : Heap) (locs1 : List Loc), f r H1 → va_S (gA G) H0 H1 locs1 → W p l e R s m args below meth c H1 locs1 (cells + mc) (slots + ms) Q (F0 m (pc + 3) ls (va_rf r :: rest))) : W p l e R s m args below meth c H locs cells slots Q (F0 m pc ls st0) :=
  g_go hr hS kx (fun v H1 locs1 h hS => by obtain ⟨r, rfl, h⟩ := h; exact kk r H1 locs1 h hS)
/-- a callee's start -/
theorem g_pre {As : List Value} (hX : gX G s s.heap) (hS : va_S (gA G) s.heap H locs) : PreS s H (va_Pc As (fun U => U.heap = H ∧ gX G U H)) As :=
  ⟨fun a U g mk q => by
    obtain ⟨q0, q1, q2, q3, q4⟩ := q
    refine ⟨q0, q1, q2.warm ?_, ?_, ?_⟩
    · exact State.WarmedH.refl _
    · exact q3.moved (Vm.Alike.refl _)
    · exact ⟨q4.1.moved (Vm.Alike.refl _), q4.2⟩,
   fun U hU hW => ⟨rfl, hU, hX.go hS hW⟩⟩
theorem g_preV {As : List Value} {b : Addr} {ci : Nat} {fs : List Value} {C : String} {T : u_T} {N : Nat} (hX : gX G s s.heap) (hS : va_S (gA G) s.heap H locs) (hc : vwCl[ci]? = some (C, T, N)) (h : gat G b (.inr (ci, fs)) H) : PreV s H C b (va_Pc (.ref b :: As) (fun U => U.heap = H ∧ gX G U H)) As :=
  ⟨(g_pre hX hS).1, va_recv (q := (C, T, N)) (q0 := 0) hX.1.1 h.P hc rfl, (g_pre hX hS).2⟩
end GB
section GR
variable {p : Program} {l : Launch} {e : Env} {R : Room} {s : State} {m : MethodId} {args : Array Value} {below : List Frame} {meth : Method} {c : Code} {H : Heap} {locs : List Loc} {cells slots : Nat} {Q : State → Prop}
variable {G : gG} {H0 : Heap} {a : Nat} {pc : Nat} {ls : Array Slot} {rest : List Value} {cc : ByteArray}
theorem g_get (hexec : p.tables.exec = Jvm.exec) (hb : c.code = cc) (hX : gX G s H0) {own C : String} {T : u_T} {N ci index : Nat} {Ts : List Cond} (hts : ∀ w ∈ Ts, w.before args s = true) (hin : ∀ w ∈ u_ws C T N, w ∈ Ts) (hown : s.vm.findClass own = some m.cls) {fs : List Value} (he : gat G a (.inr (ci, fs)) H) (hc : vwCl[ci]? = some (C, T, N)) (k : Nat) (hk : k < N) (hlink : (Cond.fieldLink own index (T k).1 (T k).2.1 (T k).2.2.1).before args s = true) {v : Value} (hv : fs[k]? = some v) (hdg : decode cc pc = .ok (.getfield index, 3))
    (kk : W p l e R s m args below meth c H locs cells slots Q (F0 m (pc + 3) ls (v :: rest))) : W p l e R s m args below meth c H locs cells slots Q (F0 m pc ls (.ref a :: rest)) :=
  va_get hexec hb hts hin hown hX.1.1 he.P 0 rfl hc k hk hlink (fun _ h => h) hv hdg kk
theorem g_getN (hexec : p.tables.exec = Jvm.exec) (hb : c.code = cc) (hX : gX G s H0) {own C host : String} {T : u_T} {N ci index : Nat} {Ts : List Cond} (hts : ∀ w ∈ Ts, w.before args s = true) (hin : ∀ w ∈ u_ws C T N, w ∈ Ts) (hown : s.vm.findClass own = some m.cls) {fs : List Value} (he : gat G a (.inr (ci, fs)) H) (hc : vwCl[ci]? = some (C, T, N)) (k : Nat) (hk : k < N) (hw : Cond.fieldLinkNest own index (T k).1 (T k).2.1 (T k).2.2.1 host ∈ gNW) {v : Value} (hv : fs[k]? = some v) (hdg : decode cc pc = .ok (.getfield index, 3))
    (kk : W p l e R s m args below meth c H locs cells slots Q (F0 m (pc + 3) ls (v :: rest))) : W p l e R s m args below meth c H locs cells slots Q (F0 m pc ls (.ref a :: rest)) :=
  va_getN hexec hb hts hin hown hX.1.1 he.P 0 rfl hc k hk (va_Nw.use rfl (hX.1.2.1 _ hw)) (fun _ h => h) hv hdg kk
theorem g_put (hexec : p.tables.exec = Jvm.exec) (hb : c.code = cc) (hX : gX G s H0) {own C : String} {T : u_T} {N ci index : Nat} {Ts : List Cond} (hts : ∀ w ∈ Ts, w.before args s = true) (hin : ∀ w ∈ u_ws C T N, w ∈ Ts) (ty0 : Nat → FieldType) (hty : ∀ k, k < N → parseFieldDescriptor (T k).2.2.1 = some (ty0 k)) (hnm : ∀ a, a < N → ∀ b, b < N → a ≠ b → (T a).2.1 ≠ (T b).2.1) (hown : s.vm.findClass own = some m.cls) (hS0 : va_S (gA G) H0 H locs) {fs : List Value} (he : gat G a (.inr (ci, fs)) H) (hga : gB G ≤ a) (hc : vwCl[ci]? = some (C, T, N)) (k : Nat) (hk : k < N) (hlink : (Cond.fieldLink own index (T k).1 (T k).2.1 (T k).2.2.1).before args s = true) (hfin : (T k).2.2.2 = false) {ty : FieldType} {v : Value} (hd : parseFieldDescriptor (T k).2.2.1 = some ty) (hn : narrow ty v = v) (hfit : fits ty v = true) (hl : k < fs.length)
    (hdg : decode cc pc = .ok (.putfield index, 3)) (kk : ∀ (H1 : Heap) (locs1 : List Loc), gat G a (.inr (ci, fs.set k v)) H1 → gOnly [a] H H1 → va_S (gA G) H0 H1 locs1 → W p l e R s m args below meth c H1 locs1 cells slots Q (F0 m (pc + 3) ls rest)) : W p l e R s m args below meth c H locs cells slots Q (F0 m pc ls (v :: .ref a :: rest)) := by
  have hK := hX.1.1
  have hap := va_apart (own := own) hts hin ty0 hty hnm hK hc
  obtain ⟨r, h1, cell, q1, q2, q3, q4⟩ := he
  have hr : r = (C, T, N) := Option.some.inj (h1.symm.trans hc)
  subst hr
  obtain ⟨hS, hfc, kC, hkC, hkind⟩ := hK.1 ci _ hc
  obtain ⟨cf, kf, fi, f, hi, hsl⟩ := hS k hk
  have hlay := hts _ (hin _ (u_in_lay hk))
  unfold u_lay at hlay
  rw [if_neg (by rw [hfin]; decide)] at hlay
  have hst := (u_facts hfc hkC (u_lays hts hin hk) hi).1
  have h6 := u_store hfc hkC hkind hlay hi hd hn hfit
  refine W.putK hexec hb (f := f) ⟨hown, hlink, ⟨_, _, _, hi⟩, hst⟩ (by rw [q2]; exact h6) q1 q3 (by rw [hsl]; exact k2_hasslot (q4 k hk)) rfl rfl hdg fun H' e1 e2 e3 => ?_
  rw [hsl] at e1 ⊢
  refine kk H' _ ⟨_, hc, t_OB.to (V := updV (vp_V fs) k v) ⟨_, e1, q2, q3, t_set q4 hap hk v⟩ (fun j _ => vp_updV_set hl v j)⟩ ⟨e2, fun q hq => e3 q (fun h => hq (by rw [h]; exact List.mem_singleton.mpr rfl))⟩ (hS0.put e2 e3 hga)
theorem g_putN (hexec : p.tables.exec = Jvm.exec) (hb : c.code = cc) (hX : gX G s H0) {own C host : String} {T : u_T} {N ci index : Nat} {Ts : List Cond} (hts : ∀ w ∈ Ts, w.before args s = true) (hin : ∀ w ∈ u_ws C T N, w ∈ Ts) (ty0 : Nat → FieldType) (hty : ∀ k, k < N → parseFieldDescriptor (T k).2.2.1 = some (ty0 k)) (hnm : ∀ a, a < N → ∀ b, b < N → a ≠ b → (T a).2.1 ≠ (T b).2.1) (hown : s.vm.findClass own = some m.cls) (hS0 : va_S (gA G) H0 H locs) {fs : List Value} (he : gat G a (.inr (ci, fs)) H) (hga : gB G ≤ a) (hc : vwCl[ci]? = some (C, T, N)) (k : Nat) (hk : k < N) (hw : Cond.fieldLinkNest own index (T k).1 (T k).2.1 (T k).2.2.1 host ∈ gNW) (hfin : (T k).2.2.2 = false) {ty : FieldType} {v : Value} (hd : parseFieldDescriptor (T k).2.2.1 = some ty) (hn : narrow ty v = v) (hfit : fits ty v = true) (hl : k < fs.length)
    (hdg : decode cc pc = .ok (.putfield index, 3)) (kk : ∀ (H1 : Heap) (locs1 : List Loc), gat G a (.inr (ci, fs.set k v)) H1 → gOnly [a] H H1 → va_S (gA G) H0 H1 locs1 → W p l e R s m args below meth c H1 locs1 cells slots Q (F0 m (pc + 3) ls rest)) : W p l e R s m args below meth c H locs cells slots Q (F0 m pc ls (v :: .ref a :: rest)) := by
  have hK := hX.1.1
  have hap := va_apart (own := own) hts hin ty0 hty hnm hK hc
  obtain ⟨r, h1, cell, q1, q2, q3, q4⟩ := he
  have hr : r = (C, T, N) := Option.some.inj (h1.symm.trans hc)
  subst hr
  obtain ⟨hS, hfc, kC, hkC, hkind⟩ := hK.1 ci _ hc
  obtain ⟨cf, kf, fi, f, hi, hsl⟩ := hS k hk
  have hlay := hts _ (hin _ (u_in_lay hk))
  unfold u_lay at hlay
  rw [if_neg (by rw [hfin]; decide)] at hlay
  have hst := (u_facts hfc hkC (u_lays hts hin hk) hi).1
  have h6 := u_store hfc hkC hkind hlay hi hd hn hfit
  refine va_WputK hexec hb hown (va_Nw.use rfl (hX.1.2.1 _ hw)) hi hst (by rw [q2]; exact h6) q1 q3 (by rw [hsl]; exact k2_hasslot (q4 k hk)) rfl rfl hdg fun H' e1 e2 e3 => ?_
  rw [hsl] at e1 ⊢
  refine kk H' _ ⟨_, hc, t_OB.to (V := updV (vp_V fs) k v) ⟨_, e1, q2, q3, t_set q4 hap hk v⟩ (fun j _ => vp_updV_set hl v j)⟩ ⟨e2, fun q hq => e3 q (fun h => hq (by rw [h]; exact List.mem_singleton.mpr rfl))⟩ (hS0.put e2 e3 hga)
theorem g_putF (hexec : p.tables.exec = Jvm.exec) (hb : c.code = cc) (hX : gX G s H0) {own C : String} {T : u_T} {N ci index : Nat} {Ts : List Cond} (hts : ∀ w ∈ Ts, w.before args s = true) (hin : ∀ w ∈ u_ws C T N, w ∈ Ts) (ty0 : Nat → FieldType) (hty : ∀ k, k < N → parseFieldDescriptor (T k).2.2.1 = some (ty0 k)) (hnm : ∀ a, a < N → ∀ b, b < N → a ≠ b → (T a).2.1 ≠ (T b).2.1) (hown : s.vm.findClass own = some m.cls) (hS0 : va_S (gA G) H0 H locs) {fs : List Value} (he : gat G a (.inr (ci, fs)) H) (hga : gB G ≤ a) (hc : vwCl[ci]? = some (C, T, N)) (k : Nat) (hk : k < N) (hlink : (Cond.fieldLink own index (T k).1 (T k).2.1 (T k).2.2.1).before args s = true) (hfin : (T k).2.2.2 = true) (hin2 : meth.name = "<init>") (hdecl : (T k).1 = own) {ty : FieldType} {v : Value} (hd : parseFieldDescriptor (T k).2.2.1 = some ty) (hn : narrow ty v = v) (hfit : fits ty v = true) (hl : k < fs.length)
    (hdg : decode cc pc = .ok (.putfield index, 3)) (kk : ∀ (H1 : Heap) (locs1 : List Loc), gat G a (.inr (ci, fs.set k v)) H1 → gOnly [a] H H1 → va_S (gA G) H0 H1 locs1 → W p l e R s m args below meth c H1 locs1 cells slots Q (F0 m (pc + 3) ls rest)) : W p l e R s m args below meth c H locs cells slots Q (F0 m pc ls (v :: .ref a :: rest)) := by
  have hK := hX.1.1
  have hap := va_apart (own := own) hts hin ty0 hty hnm hK hc
  obtain ⟨r, h1, cell, q1, q2, q3, q4⟩ := he
  have hr : r = (C, T, N) := Option.some.inj (h1.symm.trans hc)
  subst hr
  obtain ⟨hS, hfc, kC, hkC, hkind⟩ := hK.1 ci _ hc
  obtain ⟨cf, kf, fi, f, hi, hsl⟩ := hS k hk
  have hlay := hts _ (hin _ (u_in_lay hk))
  unfold u_lay at hlay
  rw [if_pos hfin] at hlay
  have hst := (u_facts hfc hkC (u_lays hts hin hk) hi).1
  have hcf : m.cls = cf := by
    obtain ⟨_, _, c', _, _, _, -, -, hf', -, -, -, hown2, -⟩ := Cond.laysFinal_spec hlay
    have e1 : c' = cf := by have := hi.symm.trans hf'; simp at this; exact this.1.symm
    rw [hdecl] at hown2
    rw [← e1]; exact Option.some.inj (hown.symm.trans hown2)
  have h6 := u_fits hfc hkC hkind (Or.inr hlay) hi hd hn hfit
  refine W.putFinK hexec hb hown hlink hi hst hcf hin2 (by rw [q2]; exact h6) q1 q3 (by rw [hsl]; exact k2_hasslot (q4 k hk)) rfl rfl hdg fun H' e1 e2 e3 => ?_
  rw [hsl] at e1 ⊢
  refine kk H' _ ⟨_, hc, t_OB.to (V := updV (vp_V fs) k v) ⟨_, e1, q2, q3, t_set q4 hap hk v⟩ (fun j _ => vp_updV_set hl v j)⟩ ⟨e2, fun q hq => e3 q (fun h => hq (by rw [h]; exact List.mem_singleton.mpr rfl))⟩ (hS0.put e2 e3 hga)
theorem g_iald (hexec : p.tables.exec = Jvm.exec) (hb : c.code = cc) (hX : gX G s H0) {n : Nat} {f : Nat → Int32} (he : gat G a (.inl (gI G, n, .inl f)) H) {i : Int32} (hin : vp_in i n) (hdg : decode cc pc = .ok (.iaload, 1))
    (kk : W p l e R s m args below meth c H locs cells slots Q (F0 m (pc + 1) ls (.int (f i.toNatClampNeg) :: rest))) : W p l e R s m args below meth c H locs cells slots Q (F0 m pc ls (.int i :: .ref a :: rest)) :=
  va_iald hexec hb hX.1.1 he.P 0 0 rfl rfl hin hdg kk
theorem g_aald (hexec : p.tables.exec = Jvm.exec) (hb : c.code = cc) (hX : gX G s H0) {n : Nat} {f : Nat → Option Nat} (he : gat G a (.inl (gT G, n, .inr (.inr (.inr (.inr f))))) H) {i : Int32} (hin : vp_in i n) (hdg : decode cc pc = .ok (.aaload, 1))
    (kk : W p l e R s m args below meth c H locs cells slots Q (F0 m (pc + 1) ls (va_rf (f i.toNatClampNeg) :: rest))) : W p l e R s m args below meth c H locs cells slots Q (F0 m pc ls (.int i :: .ref a :: rest)) :=
  va_aldq hexec hb hX.1.1 he.P 0 1 rfl rfl hin hdg kk
theorem g_alenI (hexec : p.tables.exec = Jvm.exec) (hb : c.code = cc) (hX : gX G s H0) {n : Nat} {f : Nat → Int32} (he : gat G a (.inl (gI G, n, .inl f)) H) (hdg : decode cc pc = .ok (.arraylength, 1))
    (kk : W p l e R s m args below meth c H locs cells slots Q (F0 m (pc + 1) ls (.int (nI n) :: rest))) : W p l e R s m args below meth c H locs cells slots Q (F0 m pc ls (.ref a :: rest)) :=
  va_alen hexec hb hX.1.1 he.P 0 0 rfl rfl rfl hdg kk
theorem g_alenT (hexec : p.tables.exec = Jvm.exec) (hb : c.code = cc) (hX : gX G s H0) {n : Nat} {f : Nat → Option Nat} (he : gat G a (.inl (gT G, n, .inr (.inr (.inr (.inr f))))) H) (hdg : decode cc pc = .ok (.arraylength, 1))
    (kk : W p l e R s m args below meth c H locs cells slots Q (F0 m (pc + 1) ls (.int (nI n) :: rest))) : W p l e R s m args below meth c H locs cells slots Q (F0 m pc ls (.ref a :: rest)) :=
  va_alen hexec hb hX.1.1 he.P 0 1 rfl rfl rfl hdg kk
theorem gD1 {A : Nat → Prop} {a : Nat} {e : va_E} (h : A a) : va_D A [(a, e)] := by
  refine ⟨fun i j p q hi hj _ => ?_, fun k q hk => ?_⟩
  · have h1 := (List.getElem?_eq_some_iff.mp hi).1
    have h2 := (List.getElem?_eq_some_iff.mp hj).1
    simp at h1 h2
    omega
  · match k, hk with
    | 0, hk => cases hk; exact h
    | k + 1, hk => simp at hk
theorem g_iast (hexec : p.tables.exec = Jvm.exec) (hb : c.code = cc) (hX : gX G s H0) (hS : va_S (gA G) H0 H locs) {n : Nat} {f : Nat → Int32} (he : gat G a (.inl (gI G, n, .inl f)) H) (hga : gB G ≤ a) {i x : Int32} (hin : vp_in i n) (hdg : decode cc pc = .ok (.iastore, 1))
    (kk : ∀ (H1 : Heap) (locs1 : List Loc), gat G a (.inl (gI G, n, .inl (upd f i.toNatClampNeg x))) H1 → gOnly [a] H H1 → va_S (gA G) H0 H1 locs1 → W p l e R s m args below meth c H1 locs1 cells slots Q (F0 m (pc + 1) ls rest)) : W p l e R s m args below meth c H locs cells slots Q (F0 m pc ls (.int x :: .int i :: .ref a :: rest)) := by
  have hT := (hX.1.1.2 0 _ rfl).1
  refine W.iast hexec hb he (hT n (fun j => .int (f j))) (fun q => by cases q) (by show ¬ (i < 0 ∨ (arrV _ _ _).slots.size ≤ _); rw [arrV_size]; exact hin) rfl rfl hdg fun H1 e z oq => ?_
  refine kk H1 _ ?_ ⟨z, fun q hq => oq q (fun h => hq (by rw [h]; exact List.mem_singleton.mpr rfl))⟩ (hS.put z oq hga)
  show H1[a]? = some (vp_cell _ _)
  rw [e]
  rw [vp_cell_i, vp_cell_i, arrV_store]
  congr 2
  funext q
  by_cases hq : q = i.toNatClampNeg
  · subst hq
    simp [updV, upd]
  · simp [updV, upd, hq]
end GR
section GR2
variable {p : Program} {l : Launch} {e : Env} {R : Room} {s : State} {m : MethodId} {args : Array Value} {below : List Frame} {meth : Method} {c : Code} {H : Heap} {locs : List Loc} {cells slots : Nat} {Q : State → Prop}
variable {G : gG} {H0 : Heap} {a : Nat} {pc : Nat} {ls : Array Slot} {rest : List Value} {cc : ByteArray}
theorem g_aast (hexec : p.tables.exec = Jvm.exec) (hb : c.code = cc) (hX : gX G s H0) (hS : va_S (gA G) H0 H locs) {n v : Nat} {vs : List Value} {f : Nat → Option Nat} (he : gat G a (.inl (gT G, n, .inr (.inr (.inr (.inr f))))) H) (hga : gB G ≤ a) (hv : gat G v (.inr (3, vs)) H) {i : Int32} (hin : vp_in i n) (hdg : decode cc pc = .ok (.aastore, 1))
    (kk : ∀ (H1 : Heap) (locs1 : List Loc), gat G a (.inl (gT G, n, .inr (.inr (.inr (.inr (va_up f i.toNatClampNeg (some v))))))) H1 → gOnly [a] H H1 → va_S (gA G) H0 H1 locs1 → W p l e R s m args below meth c H1 locs1 cells slots Q (F0 m (pc + 1) ls rest)) : W p l e R s m args below meth c H locs cells slots Q (F0 m pc ls (.ref v :: .int i :: .ref a :: rest)) := by
  have hK := hX.1.1
  have hlt : i.toNatClampNeg < n := Nat.not_le.mp fun q => hin (Or.inr q)
  have h0 : ¬ i < 0 := fun q => hin (Or.inl q)
  obtain ⟨r', hr', cellV, g1, g2, g3, -⟩ := hv
  have hcls := (hK.1 3 _ rfl).2
  obtain ⟨kA, comp, k1, k2, k3, -⟩ := (hK.2 1 _ rfl).2
  have hcomp : comp = (gD G).1 3 := Option.some.inj (k3.symm.trans hcls.1)
  subst hcomp
  obtain ⟨kC, hkC, -⟩ := hcls.2
  refine W.aast hexec hb he (fun q h => by cases h) (fun h => by cases h) k1 k2 rfl hkC ⟨h0, by show _ < (arrV _ _ _).slots.size; rw [arrV_size]; exact hlt⟩ g1 (fun q h => by rw [g3] at h; cases h) (by rw [g2]; exact hkC) (by rw [g2]; exact va_assign hcls) rfl rfl hdg fun H1 e z oq => ?_
  refine kk H1 _ ?_ ⟨z, fun q hq => oq q (fun h => hq (by rw [h]; exact List.mem_singleton.mpr rfl))⟩ (hS.put z oq hga)
  show H1[a]? = some (vp_cell _ _)
  rw [e]
  rw [vp_cell_q, vp_cell_q, arrV_store]
  congr 2
  funext q
  by_cases hq : q = i.toNatClampNeg
  · subst hq
    simp [updV, va_up, va_rf]
  · simp [updV, va_up, hq]
theorem gS_new {H1 : Heap} (hS : va_S (gA G) H0 H locs) (x : gExt H H1) : va_S (gA G) H0 H1 locs :=
  ⟨Nat.le_trans hS.1 x.1, fun q h1 h2 => (x.2 q (Nat.lt_of_lt_of_le h1 hS.1)).trans (hS.2.1 q h1 h2), hS.2.2⟩
theorem g_new (hexec : p.tables.exec = Jvm.exec) (hb : c.code = cc) (hX : gX G s H0) {own C : String} {T : u_T} {N ci index : Nat} {Ts : List Cond} (hts : ∀ w ∈ Ts, w.before args s = true) (hin : ∀ w ∈ u_ws C T N, w ∈ Ts) (ty : Nat → FieldType) (hty : ∀ k, k < N → parseFieldDescriptor (T k).2.2.1 = some (ty k)) (hown : s.vm.findClass own = some m.cls) (hcl : (Cond.classLink own index C).before args s = true) (hinst : (Cond.instantiable C N).before args s = true) (hini : (Cond.initialized C).before args s = true)
    (hS : va_S (gA G) H0 H locs) (hc : vwCl[ci]? = some (C, T, N)) {fs : List Value} (hfs : ∀ j, j < N → defaultValue (ty j) = vp_V fs j) (hcells : cells + 1 ≤ R.cells) (hslots : slots + N ≤ R.slots) (hdg : decode cc pc = .ok (.new index, 3))
    (kk : ∀ (H1 : Heap) (q : Nat), q = H.size → gat G q (.inr (ci, fs)) H1 → gB G ≤ q → H1.size = H.size + 1 → gExt H H1 → va_S (gA G) H0 H1 locs →
      W p l e R s m args below meth c H1 locs (cells + 1) (slots + N) Q (F0 m (pc + 3) ls (.ref q :: rest))) : W p l e R s m args below meth c H locs cells slots Q (F0 m pc ls rest) := by
  have hK := hX.1.1
  have hKn := hK.1 ci _ hc
  refine W.newcK hexec hb hown hcl hinst hini rfl hdg hcells hslots hKn.2.1 rfl fun H1 kC hkC e1 z1 o1 => ?_
  have hx : gExt H H1 := ⟨by omega, o1⟩
  exact kk H1 _ rfl ⟨_, hc, (u_born ty hts hin hKn hkC e1 hty).to hfs⟩ (Nat.le_trans hX.2.2.2.1 hS.1) z1 hx (gS_new hS hx)
theorem g_newa (hexec : p.tables.exec = Jvm.exec) (hb : c.code = cc) (hX : gX G s H0) {atype : ArrayType} (harr : (Cond.arrayClass (newarray.typeOf atype)).before args s = true) {cX : ClassId} (hRA : s.vm.findClass ("[" ++ (newarray.typeOf atype).toString) = some cX) (hS : va_S (gA G) H0 H locs)
    {n : Int32} {N' : Nat} {a0 : vp_A} (ha : vp_cell cX a0 = arrV cX N' (fun _ => defaultValue (newarray.typeOf atype))) (hn : ¬ n < 0) (hN : n.toNatClampNeg = N') (hbytes : N' * componentBytes (newarray.typeOf atype) ≤ 536870912) (hcells : cells + 1 ≤ R.cells) (hslots : slots + N' ≤ R.slots) (hdg : decode cc pc = .ok (.newarray atype, 2))
    (kk : ∀ (H1 : Heap) (q : Nat), q = H.size → gat G q (.inl (cX, a0)) H1 → gB G ≤ q → H1.size = H.size + 1 → gExt H H1 → va_S (gA G) H0 H1 locs →
      W p l e R s m args below meth c H1 locs (cells + 1) (slots + N') Q (F0 m (pc + 2) ls (.ref q :: rest))) : W p l e R s m args below meth c H locs cells slots Q (F0 m pc ls (.int n :: rest)) := by
  refine va_newaK hexec hb harr rfl hdg rfl hn hN hbytes hcells hslots rfl fun H1 cA e1 z1 o1 hAr hNm => ?_
  have hcA : cA = cX := Option.some.inj (hNm.symm.trans hRA)
  subst hcA
  have hx : gExt H H1 := ⟨by omega, o1⟩
  refine kk H1 _ rfl ?_ (Nat.le_trans hX.2.2.2.1 hS.1) z1 hx (gS_new hS hx)
  show H1[H.size]? = some (vp_cell _ _)
  rw [ha]
  exact e1
theorem g_newT (hexec : p.tables.exec = Jvm.exec) (hb : c.code = cc) (hX : gX G s H0) {own : String} {index : Nat} (hown : s.vm.findClass own = some m.cls) (hclink : (Cond.classLink own index "TuneCatalogue$Tune").before args s = true) (hS : va_S (gA G) H0 H locs)
    {n : Int32} {N' : Nat} (hn : ¬ n < 0) (hN : n.toNatClampNeg = N') (hbytes : N' * 4 ≤ 536870912) (hcells : cells + 1 ≤ R.cells) (hslots : slots + N' ≤ R.slots) (hdg : decode cc pc = .ok (.anewarray index, 3))
    (kk : ∀ (H1 : Heap) (q : Nat), q = H.size → gat G q (.inl (gT G, N', .inr (.inr (.inr (.inr (fun _ => none)))))) H1 → gB G ≤ q → H1.size = H.size + 1 → gExt H H1 → va_S (gA G) H0 H1 locs →
      W p l e R s m args below meth c H1 locs (cells + 1) (slots + N') Q (F0 m (pc + 3) ls (.ref q :: rest))) : W p l e R s m args below meth c H locs cells slots Q (F0 m pc ls (.int n :: rest)) := by
  subst hN
  refine W.anew hexec hb hown hclink (va_AO.use hX.1.2.2.2.2.1) rfl hdg rfl hn hbytes hcells hslots fun cA kA comp f1 f2 f3 f4 => ?_
  obtain ⟨kA2, comp2, k1, k2, k3, k4⟩ := (hX.1.1.2 1 _ rfl).2
  have hcA : cA = gT G := Option.some.inj (f1.symm.trans k4)
  subst hcA
  generalize hH1 : H.push ({ cls := gT G, slots := Array.replicate n.toNatClampNeg .null, vm := .none } : Cell) = H1
  have z1 : H1.size = H.size + 1 := by rw [← hH1, Array.size_push]
  have e1 : H1[H.size]? = some (arrV (gT G) n.toNatClampNeg (fun _ => .null)) := by rw [← hH1, Array.getElem?_push_size, ← arrV_new]
  have o1 : ∀ q : Nat, q < H.size → H1[q]? = H[q]? := fun q hq => by rw [← hH1, Array.getElem?_push, if_neg (Nat.ne_of_lt hq)]
  have hx : gExt H H1 := ⟨by omega, o1⟩
  refine kk H1 _ rfl ?_ (Nat.le_trans hX.2.2.2.1 hS.1) z1 hx (gS_new hS hx)
  show H1[H.size]? = some (vp_cell _ _)
  rw [vp_cell_q]
  exact e1
/-! ends -/
theorem g_reti {f : Int32 → Heap → Prop} {xp : String → Heap → Prop} {mc ms : Nat} {v : Int32} {ty : FieldType} (hexec : p.tables.exec = Jvm.exec) (hb : c.code = cc) (hr : meth.sig.returnType = some ty) (hlocks : meth.locks = false) (hS : va_S (gA G) s.heap H locs) (hn : narrow ty (.int v) = .int v) (hp : f v H) (hc : cells ≤ mc) (hs : slots ≤ ms) (hdg : decode cc pc = .ok (.ireturn, 1)) :
    W p l e R s m args below meth c H locs cells slots (vx_MQ below (gQ G (gi f)) (gXC G xp) args s mc ms (gA G)) (F0 m pc ls [.int v]) :=
  W.widen hc hs (vx_ret (W.zret (v := v) hexec hb hr hn (fun t ht _ => ⟨⟨_, rfl, v, rfl, by rw [ht]; exact hp⟩, hS.F ht⟩) hS.2.2 hdg hlocks))
theorem g_retv {f : Heap → Prop} {xp : String → Heap → Prop} {mc ms : Nat} (hexec : p.tables.exec = Jvm.exec) (hb : c.code = cc) (hr : meth.sig.returnType = none) (hlocks : meth.locks = false) (hS : va_S (gA G) s.heap H locs) (hp : f H) (hc : cells ≤ mc) (hs : slots ≤ ms) (hdg : decode cc pc = .ok (.return_, 1)) :
    W p l e R s m args below meth c H locs cells slots (vx_MQ below (gQ G (gv f)) (gXC G xp) args s mc ms (gA G)) (F0 m pc ls []) :=
  W.widen hc hs (vx_ret (W.vret hexec hb hr (fun t ht _ => ⟨⟨_, rfl, rfl, by rw [ht]; exact hp⟩, hS.F ht⟩) hS.2.2 hdg hlocks))
theorem g_retq {f : Option Nat → Heap → Prop} {xp : String → Heap → Prop} {mc ms : Nat} {v : Option Nat} {n : String} (hexec : p.tables.exec = Jvm.exec) (hb : c.code = cc) (hr : meth.sig.returnType = some (.object n)) (hlocks : meth.locks = false) (hS : va_S (gA G) s.heap H locs) (hp : f v H) (hc : cells ≤ mc) (hs : slots ≤ ms) (hdg : decode cc pc = .ok (.areturn, 1)) :
    W p l e R s m args below meth c H locs cells slots (vx_MQ below (gQ G (gq f)) (gXC G xp) args s mc ms (gA G)) (F0 m pc ls [va_rf v]) :=
  W.widen hc hs (vx_ret (W.aret (v := va_rf v) hexec hb hr (Or.inl ⟨_, rfl⟩) (va_rf_or v) (fun t ht _ => ⟨⟨_, rfl, v, rfl, by rw [ht]; exact hp⟩, hS.F ht⟩) hS.2.2 hdg hlocks))
theorem g_out {post : Option Value → Heap → Prop} {xp : String → Heap → Prop} {mc ms : Nat} {E : String} {ce : Cell} {q : Addr} (hxt : ∀ x ∈ c.exceptionTable.toList, False) (hlocks : meth.locks = false) (hS : va_S (gA G) s.heap H locs) (hcell : H[q]? = some ce) (hv : ce.vm = .none) (hcl : s.vm.findClass E = some ce.cls) (hp : xp E H) (hc : cells ≤ mc) (hs : slots ≤ ms) :
    vx_W p l e R s m args below meth c H locs cells slots (vx_MQ below (gQ G post) (gXC G xp) args s mc ms (gA G)) (F0 m pc ls rest) q :=
  vx_out (fun x hx => (hxt x hx).elim) hlocks hcell hv hcl (fun t ht _ => ⟨by rw [ht]; exact hp, hS.F ht⟩) hS.2.2 hc hs
theorem g_throw {post : Option Value → Heap → Prop} {xp : String → Heap → Prop} (hexec : p.tables.exec = Jvm.exec) (hb : c.code = cc) (hlf : l.stackTraces = false) {cls text : String} {ik is ic mc ms : Nat}
    (hX : gX G s s.heap) (hown : s.vm.findClass RX4 = some m.cls) (hcls : Bundle.fit cls = true) (hnames : ∀ n ∈ ["java/lang/RuntimeException", "java/lang/Exception"], Bundle.fit n = true)
    (hk : (Cond.classLink RX4 ik cls).before args s = true) (hini : (Cond.initialized cls).before args s = true) (hstr : (is, text) ∈ gStr) (hat : ∀ w ∈ vx_atS RX4 ic cls ["java/lang/RuntimeException", "java/lang/Exception"], w.before args s = true)
    (hgood : ∀ w ∈ Cond.classLink RX4 ik cls :: Cond.initialized cls :: vx_atS RX4 ic cls ["java/lang/RuntimeException", "java/lang/Exception"], vx_ot w = true)
    (hS : va_S (gA G) s.heap H locs) (hsize : ls.size = c.maxLocals)
    (d0 : decode cc pc = .ok (.new ik, 3)) (d3 : decode cc (pc + 3) = .ok (.dup, 1)) (d4 : decode cc (pc + 4) = .ok (.ldc is, 2)) (d6 : decode cc (pc + 6) = .ok (.invokespecial ic, 3)) (d9 : decode cc (pc + 9) = .ok (.athrow, 1))
    (hxt : ∀ x ∈ c.exceptionTable.toList, False) (hRframes : 5 < R.frames) (hRlocals : (rest.map fun v => v.category).sum + 82 ≤ R.locals) (hRcells : cells + 1 ≤ R.cells) (hRslots : slots + 6 ≤ R.slots) (hlocks : meth.locks = false)
    (hp : ∀ H1 : Heap, gExt H H1 → xp cls H1) (hc : cells + 1 ≤ mc) (hs : slots + 6 ≤ ms) :
    W p l e R s m args below meth c H locs cells slots (vx_MQ below (gQ G post) (gXC G xp) args s mc ms (gA G)) (F0 m pc ls rest) :=
  vx_throwS hexec hb hlf hown hcls hnames hk hini (hX.1.2.2.2.1 (is, text) hstr) hat hgood hX.2.1 hX.2.2.1 hS hsize d0 d3 d4 d6 d9 (fun x hx => (hxt x hx).elim) hRframes hRlocals hRcells hRslots hlocks
    (fun t _ h1 h2 => ⟨hp _ ⟨h1, h2⟩, (gS_new hS ⟨h1, h2⟩).F rfl⟩) hS.2.2 hc hs
/-- what holds all through a method's body -/
def gF (p : Program) (s : State) (m : MethodId) (args : Array Value) (meth : Method) (c : Code) (y : MethodName) (ws : List Cond) (cc : ByteArray) (maxL : Nat) (ret : Option FieldType) (G : gG) (H : Heap) : Prop :=
  p.tables.exec = Jvm.exec ∧ c.code = cc ∧ c.maxLocals = maxL ∧ meth.sig.returnType = ret ∧ (∀ w ∈ ws, w.before args s = true) ∧ s.vm.findClass y.cls = some m.cls ∧ meth.locks = false ∧ (∀ x ∈ c.exceptionTable.toList, False) ∧ s.heap = H ∧ gX G s s.heap ∧ meth.name = y.name
theorem g_start {y : MethodName} {ws ws' : List Cond} {rm : Room} {As : List Value} {post : Option Value → Heap → Prop} {xp : String → Heap → Prop} {mc ms maxL : Nat} {ret : Option FieldType} (hy : plainName y.cls = true) (hw : ws = Cond.code y cc maxL ret :: ws') (hn : (lg_sl As).length ≤ maxL)
    (body : ∀ p e s m args below meth c, gF p s m args meth c y ws cc maxL ret G H → ∀ ls : Array Slot, lv_has ls maxL (lv_args 0 As) →
      W p l e rm s m args below meth c H [] 0 0 (vx_MQ below (gQ G post) (gXC G xp) args s mc ms (gA G)) (F0 m 0 ls [])) : gM l y ws rm As G H post xp mc ms := by
  refine vx_ofW hy hw ?_
  intro p e s m args below meth c s₁ B hml hxt hv
  obtain ⟨rfl, hH, hX⟩ := hv
  have hl := lv_entry As (n := maxL) hn
  rw [lg_entry_eq]
  have K := body p e s m As.toArray below meth c ⟨B.exec, B.bytes, hml, B.returns, atoms_spec (ws := ws) B.pre, findClass_of_methodNamed B.named, B.notSynchronized, hxt, hH, (by rw [hH]; exact hX), (name_of_methodNamed B.named B.method).1⟩ _ hl
  rw [← hH] at K
  exact K
end GR2
