/-! ===== TuneCatalogue: how a heap holds it ===== -/
def gF0 : Option Value → Heap → Prop := fun _ _ => False
def gTh (E0 : String) (H : Heap) : String → Heap → Prop := fun E H1 => E = E0 ∧ gExt H H1
abbrev cWk : Type := (Nat → Int32) × Nat × (Nat → Int32) × Nat × (Nat → Int32)
abbrev wtb (W : cWk) : Nat → Int32 := W.1
abbrev wpn (W : cWk) : Nat := W.2.1
abbrev wpf (W : cWk) : Nat → Int32 := W.2.2.1
abbrev wln (W : cWk) : Nat := W.2.2.2.1
abbrev wlf (W : cWk) : Nat → Int32 := W.2.2.2.2
def tX (S : cS) (i : Nat) : cX := (stn S i, stp S i, stl S i, shn S, shf S, ssl S, sor S, srp S)
theorem tX_ok {S : cS} (h : sInv S) (i : Nat) : xOK (tX S i) := by
  obtain ⟨h1, h2, h3, h4, h5, h6, h7, h8, h9, h10, -⟩ := h
  refine ⟨?_, h4 i, h5 i, h6, h7, h8, h9, h10⟩
  show stn S i ≤ 24
  rcases Nat.lt_or_ge i (sn S) with g | g
  · exact (h2 i g).2
  · rw [(h3 i g).1]; omega
theorem slk_lt {S : cS} (h : sInv S) (i : Nat) : slk S i < 65536 := by
  obtain ⟨h1, -, -, -, -, -, -, -, -, -, h11, -⟩ := h
  refine Nat.lt_pow_two_of_testBit (n := 16) _ (fun j hj => ?_)
  cases e : (slk S i).testBit j
  · rfl
  · exact absurd (h11 i j e) (by omega)
def CAp (G : gG) (A : Nat → Nat) (TA : Nat → Nat → Nat) (n : Nat) : Prop :=
  (∀ i j, i < 13 → j < 13 → i ≠ j → A i ≠ A j) ∧ (∀ i j k, i < n → j < 5 → k < 13 → TA i j ≠ A k) ∧ (∀ i i' j j', i < n → i' < n → j < 5 → j' < 5 → i ≠ i' → TA i j ≠ TA i' j') ∧ ∀ k, k < 13 → gB G ≤ A k
def Cat (G : gG) (A : Nat → Nat) (TA : Nat → Nat → Nat) (S : cS) (W : cWk) (H : Heap) : Prop :=
  gat G (A 0) (.inr (4, [.ref (A 1), .int (zI (sn S)), .ref (A 4), .ref (A 2), .ref (A 6), .ref (A 9), .ref (A 11)])) H ∧
  gat G (A 1) (.inl (gT G, 16, .inr (.inr (.inr (.inr (fun i => if i < sn S then some (TA i 0) else none)))))) H ∧
  Mat G (A 4) (A 2) (A 3) (A 5) (tX S 0) (wtb W) H ∧
  Lnk G (A 6) (A 7) (A 8) (sn S) (slk S) H ∧
  gRow G (A 9) (A 10) 16 (wpn W) (wpf W) H ∧
  gRow G (A 11) (A 12) 384 (wln W) (wlf W) H ∧
  (∀ i, i < sn S → Tun G (TA i) (stn S i) (stp S i) (stl S i) (srt S i) H) ∧
  CAp G A TA (sn S)
theorem Cat.mat {G : gG} {A : Nat → Nat} {TA : Nat → Nat → Nat} {S : cS} {W : cWk} {H : Heap} (h : Cat G A TA S W H) (i : Nat) : Mat G (A 4) (A 2) (A 3) (A 5) (tX S i) (wtb W) H := h.2.2.1
/-- what is untouched stays: 'tch' tells which of the thirteen cells were written -/
theorem Cat.rest {G : gG} {A : Nat → Nat} {TA : Nat → Nat → Nat} {S : cS} {W : cWk} {H H1 : Heap} {L : List Nat} (h : Cat G A TA S W H) (hg : gGrow L H H1) (tch : Nat → Bool) (hL : ∀ q ∈ L, ∃ k, k < 13 ∧ tch k = true ∧ q = A k) :
    (tch 0 = false → gat G (A 0) (.inr (4, [.ref (A 1), .int (zI (sn S)), .ref (A 4), .ref (A 2), .ref (A 6), .ref (A 9), .ref (A 11)])) H1) ∧
    (tch 1 = false → gat G (A 1) (.inl (gT G, 16, .inr (.inr (.inr (.inr (fun i => if i < sn S then some (TA i 0) else none)))))) H1) ∧
    ((tch 2 || tch 3 || tch 4 || tch 5) = false → Mat G (A 4) (A 2) (A 3) (A 5) (tX S 0) (wtb W) H1) ∧
    ((tch 6 || tch 7 || tch 8) = false → Lnk G (A 6) (A 7) (A 8) (sn S) (slk S) H1) ∧
    ((tch 9 || tch 10) = false → gRow G (A 9) (A 10) 16 (wpn W) (wpf W) H1) ∧
    ((tch 11 || tch 12) = false → gRow G (A 11) (A 12) 384 (wln W) (wlf W) H1) ∧
    (∀ i, i < sn S → Tun G (TA i) (stn S i) (stp S i) (stl S i) (srt S i) H1) := by
  obtain ⟨h0, h1, h2, h3, h4, h5, h6, ap1, ap2, ap3, ap4⟩ := h
  have nA : ∀ k, k < 13 → tch k = false → A k ∉ L := fun k hk ht hq => by
    obtain ⟨k2, hk2, ht2, e⟩ := hL _ hq
    exact ap1 k k2 hk hk2 (fun z => by rw [z, ht2] at ht; cases ht) e
  have nT : ∀ i j, i < sn S → j < 5 → TA i j ∉ L := fun i j hi hj hq => by
    obtain ⟨k2, hk2, -, e⟩ := hL _ hq
    exact ap2 i j k2 hi hj hk2 e
  refine ⟨fun t => h0.grow hg (nA 0 (by omega) t), fun t => h1.grow hg (nA 1 (by omega) t), fun t => ?_, fun t => ?_, fun t => ?_, fun t => ?_, fun i hi => (h6 i hi).grow hg (fun j hj => nT i j hi hj)⟩
  · simp only [Bool.or_eq_false_iff] at t
    obtain ⟨m1, m2, m3, m4⟩ := h2
    exact ⟨m1.grow hg (nA 4 (by omega) t.1.2), m2.grow hg (nA 2 (by omega) t.1.1.1) (nA 3 (by omega) t.1.1.2), m3.grow hg (nA 5 (by omega) t.2), m4⟩
  · simp only [Bool.or_eq_false_iff] at t
    obtain ⟨m1, m2, m3⟩ := h3
    exact ⟨m1.grow hg (nA 6 (by omega) t.1.1), m2.grow hg (nA 7 (by omega) t.1.2) (nA 8 (by omega) t.2), m3⟩
  · simp only [Bool.or_eq_false_iff] at t
    exact h4.grow hg (nA 9 (by omega) t.1) (nA 10 (by omega) t.2)
  · simp only [Bool.or_eq_false_iff] at t
    exact h5.grow hg (nA 11 (by omega) t.1) (nA 12 (by omega) t.2)
theorem Cat.ext {G : gG} {A : Nat → Nat} {TA : Nat → Nat → Nat} {S : cS} {W : cWk} {H H1 : Heap} (h : Cat G A TA S W H) (x : gExt H H1) : Cat G A TA S W H1 := by
  obtain ⟨a0, a1, a2, a3, a4, a5, a6⟩ := h.rest (L := []) x.grow (fun _ => false) (fun q hq => absurd hq List.not_mem_nil)
  exact ⟨a0 rfl, a1 rfl, a2 rfl, a3 rfl, a4 rfl, a5 rfl, a6, h.2.2.2.2.2.2.2⟩
theorem Cat.tab {G : gG} {A : Nat → Nat} {TA : Nat → Nat → Nat} {S : cS} {W : cWk} {H H1 : Heap} {tb2 : Nat → Int32} (h : Cat G A TA S W H) (hg : gOnly [A 5] H H1) (hM : Mat G (A 4) (A 2) (A 3) (A 5) (tX S 0) tb2 H1) : Cat G A TA S (tb2, W.2) H1 := by
  obtain ⟨a0, a1, a2, a3, a4, a5, a6⟩ := h.rest hg.grow (fun k => k == 5) (fun q hq => ⟨5, by omega, rfl, List.mem_singleton.mp hq⟩)
  exact ⟨a0 rfl, a1 rfl, hM, a3 rfl, a4 rfl, a5 rfl, a6, h.2.2.2.2.2.2.2⟩
theorem Cat.price {G : gG} {A : Nat → Nat} {TA : Nat → Nat → Nat} {S : cS} {W : cWk} {H H1 : Heap} {n : Nat} {f : Nat → Int32} (h : Cat G A TA S W H) (hg : gOnly [A 9, A 10] H H1) (hM : gRow G (A 9) (A 10) 16 n f H1) : Cat G A TA S (W.1, n, f, W.2.2.2) H1 := by
  obtain ⟨a0, a1, a2, a3, a4, a5, a6⟩ := h.rest hg.grow (fun k => k == 9 || k == 10) (fun q hq => by
    simp only [List.mem_cons, List.not_mem_nil, or_false] at hq
    rcases hq with e | e
    · exact ⟨9, by omega, rfl, e⟩
    · exact ⟨10, by omega, rfl, e⟩)
  exact ⟨a0 rfl, a1 rfl, a2 rfl, a3 rfl, hM, a5 rfl, a6, h.2.2.2.2.2.2.2⟩
theorem Cat.place {G : gG} {A : Nat → Nat} {TA : Nat → Nat → Nat} {S : cS} {W : cWk} {H H1 : Heap} {n : Nat} {f : Nat → Int32} (h : Cat G A TA S W H) (hg : gOnly [A 11, A 12] H H1) (hM : gRow G (A 11) (A 12) 384 n f H1) : Cat G A TA S (W.1, W.2.1, W.2.2.1, n, f) H1 := by
  obtain ⟨a0, a1, a2, a3, a4, a5, a6⟩ := h.rest hg.grow (fun k => k == 11 || k == 12) (fun q hq => by
    simp only [List.mem_cons, List.not_mem_nil, or_false] at hq
    rcases hq with e | e
    · exact ⟨11, by omega, rfl, e⟩
    · exact ⟨12, by omega, rfl, e⟩)
  exact ⟨a0 rfl, a1 rfl, a2 rfl, a3 rfl, a4 rfl, hM, a6, h.2.2.2.2.2.2.2⟩
set_option maxHeartbeats 4000000 in
set_option maxRecDepth 100000 in
theorem k_rW_ok (l : Launch) (G : gG) (H : Heap) (a lo hi : Int) (ha : rI a) (hlo : rI lo) (hhi : rI hi) (h : lo ≤ a ∧ a ≤ hi) : gM l yX4_refuseUnlessWithin wsX4_refuseUnlessWithin rm_X4_refuseUnlessWithin [.int (zI a), .int (zI lo), .int (zI hi)] G H (gv (fun H1 => H = H1)) (gNo) 1 6 := by
  refine g_start (cc := cX4_refuseUnlessWithin) (maxL := 3) (ret := none) (by decide +kernel) rfl (Nat.le_of_ble_eq_true rfl) ?_
  intro p e s m args below meth c F ls hl
  obtain ⟨hx, hb, hml, hr, hts, hown, hlocks, hxt, hH, hX, hin⟩ := F
  have hown : s.vm.findClass RX4 = some m.cls := hown
  have hS : va_S (gA G) s.heap H [] := by rw [hH]; exact va_S.rf
  have hl : lv_has ls 3 [(0, .int (zI a)), (1, .int (zI lo)), (2, .int (zI hi))] := hl
  refine lv_iload_n hx hb dX4_refuseUnlessWithin_0 rfl (lv_at hl 0 rfl) ?_
  refine lv_iload_n hx hb dX4_refuseUnlessWithin_1 rfl (lv_at hl 1 rfl) ?_
  refine lv_iload_n hx hb dX4_refuseUnlessWithin_2 rfl (lv_at hl 2 rfl) ?_
  refine g_goi (vx_runS (As := [.int (zI a), .int (zI lo), .int (zI hi)]) (rest := []) ⟨hx, hb, hml, hown, hts⟩ (k_isWithin_t l G H a lo hi ha hlo hhi h) (va_cwS 3 hts gX4_refuseUnlessWithin_X4_isWithin rfl rfl rfl hd_X4_isWithin.2 ⟨(Nat.le_of_ble_eq_true rfl), (Nat.le_of_ble_eq_true rfl)⟩) (g_pre hX hS) rfl rfl hl.1 rfl (lv_room (Nat.le_of_ble_eq_true rfl)) dX4_refuseUnlessWithin_3 ⟨(Nat.le_of_ble_eq_true rfl), (Nat.le_of_ble_eq_true rfl)⟩) hS (fun r_3 H_3 locs hp hS => ?_)
  obtain ⟨rfl, rfl⟩ := hp
  refine gz_if_ne (tgt := 19) hx hb (by decide) dX4_refuseUnlessWithin_6 (by decide) (fun c_6 => ?_) (fun c_6 => ?_)
  · exact g_retv hx hb hr hlocks hS (rfl) (Nat.le_of_ble_eq_true rfl) (Nat.le_of_ble_eq_true rfl) dX4_refuseUnlessWithin_19
  · omega
set_option maxHeartbeats 4000000 in
set_option maxRecDepth 100000 in
theorem k_rW_no (l : Launch) (G : gG) (hlf : l.stackTraces = false) (H : Heap) (a lo hi : Int) (ha : rI a) (hlo : rI lo) (hhi : rI hi) (h : ¬ (lo ≤ a ∧ a ≤ hi)) : gM l yX4_refuseUnlessWithin wsX4_refuseUnlessWithin rm_X4_refuseUnlessWithin [.int (zI a), .int (zI lo), .int (zI hi)] G H (gF0) (gTh "java/lang/IllegalArgumentException" H) 1 6 := by
  refine g_start (cc := cX4_refuseUnlessWithin) (maxL := 3) (ret := none) (by decide +kernel) rfl (Nat.le_of_ble_eq_true rfl) ?_
  intro p e s m args below meth c F ls hl
  obtain ⟨hx, hb, hml, hr, hts, hown, hlocks, hxt, hH, hX, hin⟩ := F
  have hown : s.vm.findClass RX4 = some m.cls := hown
  have hS : va_S (gA G) s.heap H [] := by rw [hH]; exact va_S.rf
  have hl : lv_has ls 3 [(0, .int (zI a)), (1, .int (zI lo)), (2, .int (zI hi))] := hl
  refine lv_iload_n hx hb dX4_refuseUnlessWithin_0 rfl (lv_at hl 0 rfl) ?_
  refine lv_iload_n hx hb dX4_refuseUnlessWithin_1 rfl (lv_at hl 1 rfl) ?_
  refine lv_iload_n hx hb dX4_refuseUnlessWithin_2 rfl (lv_at hl 2 rfl) ?_
  refine g_goi (vx_runS (As := [.int (zI a), .int (zI lo), .int (zI hi)]) (rest := []) ⟨hx, hb, hml, hown, hts⟩ (k_isWithin_f l G H a lo hi ha hlo hhi h) (va_cwS 3 hts gX4_refuseUnlessWithin_X4_isWithin rfl rfl rfl hd_X4_isWithin.2 ⟨(Nat.le_of_ble_eq_true rfl), (Nat.le_of_ble_eq_true rfl)⟩) (g_pre hX hS) rfl rfl hl.1 rfl (lv_room (Nat.le_of_ble_eq_true rfl)) dX4_refuseUnlessWithin_3 ⟨(Nat.le_of_ble_eq_true rfl), (Nat.le_of_ble_eq_true rfl)⟩) hS (fun r_3 H_3 locs hp hS => ?_)
  obtain ⟨rfl, rfl⟩ := hp
  refine gz_if_ne (tgt := 19) hx hb (by decide) dX4_refuseUnlessWithin_6 (by decide) (fun c_6 => ?_) (fun c_6 => ?_)
  · omega
  · exact g_throw hx hb hlf hX hown (by decide +kernel) (by decide +kernel) (hts (.classLink RX4 185 "java/lang/IllegalArgumentException") (List.mem_cons_of_mem _ (List.mem_append_left _ (List.mem_of_getElem? (i := 0) rfl)))) (hts (.initialized "java/lang/IllegalArgumentException") (List.mem_cons_of_mem _ (List.mem_append_left _ (List.mem_of_getElem? (i := 1) rfl)))) (by decide +kernel : (207, "a number is out of range") ∈ gStr) (ha_X4_refuseUnlessWithin_189 hX hts) (by decide +kernel) hS (hl.1.trans hml.symm) dX4_refuseUnlessWithin_9 dX4_refuseUnlessWithin_12 dX4_refuseUnlessWithin_13 dX4_refuseUnlessWithin_15 dX4_refuseUnlessWithin_18 hxt (Nat.le_of_ble_eq_true rfl) (Nat.le_of_ble_eq_true rfl) (Nat.le_of_ble_eq_true rfl) (Nat.le_of_ble_eq_true rfl) hlocks (fun H1 hE => ⟨rfl, hE⟩) (Nat.le_of_ble_eq_true rfl) (Nat.le_of_ble_eq_true rfl)
def isN (z1 z2 : Int) : Prop := (0 ≤ z1 ∧ z1 ≤ 60) ∧ 1 ≤ z2 ∧ z2 ≤ 8
set_option maxHeartbeats 4000000 in
set_option maxRecDepth 100000 in
theorem k_rN_ok (l : Launch) (G : gG) (H : Heap) (a b : Int) (ha : rI a) (hb1 : rI b) (h : isN a b) : gM l yX4_refuseUnlessNote wsX4_refuseUnlessNote rm_X4_refuseUnlessNote [.int (zI a), .int (zI b)] G H (gv (fun H1 => H = H1)) (gNo) 2 12 := by
  obtain ⟨h1, h2⟩ := h
  refine g_start (cc := cX4_refuseUnlessNote) (maxL := 2) (ret := none) (by decide +kernel) rfl (Nat.le_of_ble_eq_true rfl) ?_
  intro p e s m args below meth c F ls hl
  obtain ⟨hx, hb, hml, hr, hts, hown, hlocks, hxt, hH, hX, hin⟩ := F
  have hown : s.vm.findClass RX4 = some m.cls := hown
  have hS : va_S (gA G) s.heap H [] := by rw [hH]; exact va_S.rf
  have hl : lv_has ls 2 [(0, .int (zI a)), (1, .int (zI b))] := hl
  refine lv_iload_n hx hb dX4_refuseUnlessNote_0 rfl (lv_at hl 0 rfl) ?_
  refine lv_iconst (v := zI 0) hx hb dX4_refuseUnlessNote_1 rfl ?_
  refine lv_bipush (v := zI 60) hx hb dX4_refuseUnlessNote_2 (by decide +kernel) ?_
  refine g_gov (vx_runS (As := [.int (zI a), .int (zI 0), .int (zI 60)]) (rest := []) ⟨hx, hb, hml, hown, hts⟩ (k_rW_ok l G H a 0 60 (by first | assumption | exact ⟨by omega, by omega⟩) (by decide) (by decide) (by omega)) (va_cwS 3 hts gX4_refuseUnlessNote_X4_refuseUnlessWithin rfl rfl rfl hd_X4_refuseUnlessWithin.2 ⟨(Nat.le_of_ble_eq_true rfl), (Nat.le_of_ble_eq_true rfl)⟩) (g_pre hX hS) rfl rfl hl.1 rfl (lv_room (Nat.le_of_ble_eq_true rfl)) dX4_refuseUnlessNote_4 ⟨(Nat.le_of_ble_eq_true rfl), (Nat.le_of_ble_eq_true rfl)⟩) hS (fun H_4 locs hp hS => ?_)
  subst hp
  refine lv_iload_n hx hb dX4_refuseUnlessNote_7 rfl (lv_at hl 1 rfl) ?_
  refine lv_iconst (v := zI 1) hx hb dX4_refuseUnlessNote_8 rfl ?_
  refine lv_bipush (v := zI 8) hx hb dX4_refuseUnlessNote_9 (by decide +kernel) ?_
  refine g_gov (vx_runS (As := [.int (zI b), .int (zI 1), .int (zI 8)]) (rest := []) ⟨hx, hb, hml, hown, hts⟩ (k_rW_ok l G H b 1 8 (by first | assumption | exact ⟨by omega, by omega⟩) (by decide) (by decide) (by omega)) (va_cwS 3 hts gX4_refuseUnlessNote_X4_refuseUnlessWithin rfl rfl rfl hd_X4_refuseUnlessWithin.2 ⟨(Nat.le_of_ble_eq_true rfl), (Nat.le_of_ble_eq_true rfl)⟩) (g_pre hX hS) rfl rfl hl.1 rfl (lv_room (Nat.le_of_ble_eq_true rfl)) dX4_refuseUnlessNote_11 ⟨(Nat.le_of_ble_eq_true rfl), (Nat.le_of_ble_eq_true rfl)⟩) hS (fun H_11 locs hp hS => ?_)
  subst hp
  exact g_retv hx hb hr hlocks hS (rfl) (Nat.le_of_ble_eq_true rfl) (Nat.le_of_ble_eq_true rfl) dX4_refuseUnlessNote_14
set_option maxHeartbeats 4000000 in
set_option maxRecDepth 100000 in
theorem k_rN_no1 (l : Launch) (G : gG) (hlf : l.stackTraces = false) (H : Heap) (a b : Int) (ha : rI a) (hb1 : rI b) (h : ¬ (0 ≤ a ∧ a ≤ 60)) : gM l yX4_refuseUnlessNote wsX4_refuseUnlessNote rm_X4_refuseUnlessNote [.int (zI a), .int (zI b)] G H (gF0) (gTh "java/lang/IllegalArgumentException" H) 2 12 := by
  refine g_start (cc := cX4_refuseUnlessNote) (maxL := 2) (ret := none) (by decide +kernel) rfl (Nat.le_of_ble_eq_true rfl) ?_
  intro p e s m args below meth c F ls hl
  obtain ⟨hx, hb, hml, hr, hts, hown, hlocks, hxt, hH, hX, hin⟩ := F
  have hown : s.vm.findClass RX4 = some m.cls := hown
  have hS : va_S (gA G) s.heap H [] := by rw [hH]; exact va_S.rf
  have hl : lv_has ls 2 [(0, .int (zI a)), (1, .int (zI b))] := hl
  refine lv_iload_n hx hb dX4_refuseUnlessNote_0 rfl (lv_at hl 0 rfl) ?_
  refine lv_iconst (v := zI 0) hx hb dX4_refuseUnlessNote_1 rfl ?_
  refine lv_bipush (v := zI 60) hx hb dX4_refuseUnlessNote_2 (by decide +kernel) ?_
  refine g_go (vx_runS (As := [.int (zI a), .int (zI 0), .int (zI 60)]) (rest := []) ⟨hx, hb, hml, hown, hts⟩ (k_rW_no l G hlf H a 0 60 (by first | assumption | exact ⟨by omega, by omega⟩) (by decide) (by decide) (by omega)) (va_cwS 3 hts gX4_refuseUnlessNote_X4_refuseUnlessWithin rfl rfl rfl hd_X4_refuseUnlessWithin.2 ⟨(Nat.le_of_ble_eq_true rfl), (Nat.le_of_ble_eq_true rfl)⟩) (g_pre hX hS) rfl rfl hl.1 rfl (lv_room (Nat.le_of_ble_eq_true rfl)) dX4_refuseUnlessNote_4 ⟨(Nat.le_of_ble_eq_true rfl), (Nat.le_of_ble_eq_true rfl)⟩) hS (fun E ce q9 H_4 locs hp hS hce hcv hcl => ?_) (fun v H1 locs h hS => h.elim)
  exact g_out hxt hlocks hS hce hcv hcl (hp) (Nat.le_of_ble_eq_true rfl) (Nat.le_of_ble_eq_true rfl)
set_option maxHeartbeats 4000000 in
set_option maxRecDepth 100000 in
theorem k_rN_no2 (l : Launch) (G : gG) (hlf : l.stackTraces = false) (H : Heap) (a b : Int) (ha : rI a) (hb1 : rI b) (h1 : 0 ≤ a ∧ a ≤ 60) (h : ¬ (1 ≤ b ∧ b ≤ 8)) : gM l yX4_refuseUnlessNote wsX4_refuseUnlessNote rm_X4_refuseUnlessNote [.int (zI a), .int (zI b)] G H (gF0) (gTh "java/lang/IllegalArgumentException" H) 2 12 := by
  refine g_start (cc := cX4_refuseUnlessNote) (maxL := 2) (ret := none) (by decide +kernel) rfl (Nat.le_of_ble_eq_true rfl) ?_
  intro p e s m args below meth c F ls hl
  obtain ⟨hx, hb, hml, hr, hts, hown, hlocks, hxt, hH, hX, hin⟩ := F
  have hown : s.vm.findClass RX4 = some m.cls := hown
  have hS : va_S (gA G) s.heap H [] := by rw [hH]; exact va_S.rf
  have hl : lv_has ls 2 [(0, .int (zI a)), (1, .int (zI b))] := hl
  refine lv_iload_n hx hb dX4_refuseUnlessNote_0 rfl (lv_at hl 0 rfl) ?_
  refine lv_iconst (v := zI 0) hx hb dX4_refuseUnlessNote_1 rfl ?_
  refine lv_bipush (v := zI 60) hx hb dX4_refuseUnlessNote_2 (by decide +kernel) ?_
  refine g_gov (vx_runS (As := [.int (zI a), .int (zI 0), .int (zI 60)]) (rest := []) ⟨hx, hb, hml, hown, hts⟩ (k_rW_ok l G H a 0 60 (by first | assumption | exact ⟨by omega, by omega⟩) (by decide) (by decide) (by omega)) (va_cwS 3 hts gX4_refuseUnlessNote_X4_refuseUnlessWithin rfl rfl rfl hd_X4_refuseUnlessWithin.2 ⟨(Nat.le_of_ble_eq_true rfl), (Nat.le_of_ble_eq_true rfl)⟩) (g_pre hX hS) rfl rfl hl.1 rfl (lv_room (Nat.le_of_ble_eq_true rfl)) dX4_refuseUnlessNote_4 ⟨(Nat.le_of_ble_eq_true rfl), (Nat.le_of_ble_eq_true rfl)⟩) hS (fun H_4 locs hp hS => ?_)
  subst hp
  refine lv_iload_n hx hb dX4_refuseUnlessNote_7 rfl (lv_at hl 1 rfl) ?_
  refine lv_iconst (v := zI 1) hx hb dX4_refuseUnlessNote_8 rfl ?_
  refine lv_bipush (v := zI 8) hx hb dX4_refuseUnlessNote_9 (by decide +kernel) ?_
  refine g_go (vx_runS (As := [.int (zI b), .int (zI 1), .int (zI 8)]) (rest := []) ⟨hx, hb, hml, hown, hts⟩ (k_rW_no l G hlf H b 1 8 (by first | assumption | exact ⟨by omega, by omega⟩) (by decide) (by decide) (by omega)) (va_cwS 3 hts gX4_refuseUnlessNote_X4_refuseUnlessWithin rfl rfl rfl hd_X4_refuseUnlessWithin.2 ⟨(Nat.le_of_ble_eq_true rfl), (Nat.le_of_ble_eq_true rfl)⟩) (g_pre hX hS) rfl rfl hl.1 rfl (lv_room (Nat.le_of_ble_eq_true rfl)) dX4_refuseUnlessNote_11 ⟨(Nat.le_of_ble_eq_true rfl), (Nat.le_of_ble_eq_true rfl)⟩) hS (fun E ce q9 H_11 locs hp hS hce hcv hcl => ?_) (fun v H1 locs h hS => h.elim)
  exact g_out hxt hlocks hS hce hcv hcl (hp) (Nat.le_of_ble_eq_true rfl) (Nat.le_of_ble_eq_true rfl)
theorem k_rN_no (l : Launch) (G : gG) (hlf : l.stackTraces = false) (H : Heap) (a b : Int) (ha : rI a) (hb1 : rI b) (h : ¬ isN a b) : gM l yX4_refuseUnlessNote wsX4_refuseUnlessNote rm_X4_refuseUnlessNote [.int (zI a), .int (zI b)] G H gF0 (gTh "java/lang/IllegalArgumentException" H) 2 12 := by
  by_cases h1 : 0 ≤ a ∧ a ≤ 60
  · exact k_rN_no2 l G hlf H a b ha hb1 h1 (fun q => h ⟨h1, q⟩)
  · exact k_rN_no1 l G hlf H a b ha hb1 h1
set_option maxHeartbeats 4000000 in
set_option maxRecDepth 100000 in
theorem k_rR_ok (l : Launch) (G : gG) (A : Nat → Nat) (TA : Nat → Nat → Nat) (S : cS) (W9 : cWk) (H : Heap) (hC : Cat G A TA S W9 H) (hI : sInv S) (z : Int) (hz : rI z) (h : (1 ≤ z ∧ z ≤ 4) ∧ z ≤ (shn S : Int) - 1) : gM l yX4_refuseUnlessRunOfHum wsX4_refuseUnlessRunOfHum rm_X4_refuseUnlessRunOfHum [.ref (A 0), .int (zI z)] G H (gv (fun H1 => H = H1)) (gNo) 2 12 := by
  obtain ⟨h0, h1, h2, h3, h4, h5, h6, hap⟩ := id hC
  have hn16 : sn S ≤ 16 := hI.1
  have hh12 : shn S ≤ 12 := hI.2.2.2.2.2.1
  refine g_start (cc := cX4_refuseUnlessRunOfHum) (maxL := 2) (ret := none) (by decide +kernel) rfl (Nat.le_of_ble_eq_true rfl) ?_
  intro p e s m args below meth c F ls hl
  obtain ⟨hx, hb, hml, hr, hts, hown, hlocks, hxt, hH, hX, hin⟩ := F
  have hown : s.vm.findClass RX4 = some m.cls := hown
  have hS : va_S (gA G) s.heap H [] := by rw [hH]; exact va_S.rf
  have hl : lv_has ls 2 [(0, .ref (A 0)), (1, .int (zI z))] := hl
  refine lv_iload_n hx hb dX4_refuseUnlessRunOfHum_0 rfl (lv_at hl 1 rfl) ?_
  refine lv_iconst (v := zI 1) hx hb dX4_refuseUnlessRunOfHum_1 rfl ?_
  refine lv_iconst (v := zI 4) hx hb dX4_refuseUnlessRunOfHum_2 rfl ?_
  refine g_gov (vx_runS (As := [.int (zI z), .int (zI 1), .int (zI 4)]) (rest := []) ⟨hx, hb, hml, hown, hts⟩ (k_rW_ok l G H z 1 4 (by first | assumption | exact ⟨by omega, by omega⟩) (by decide) (by decide) (by omega)) (va_cwS 3 hts gX4_refuseUnlessRunOfHum_X4_refuseUnlessWithin rfl rfl rfl hd_X4_refuseUnlessWithin.2 ⟨(Nat.le_of_ble_eq_true rfl), (Nat.le_of_ble_eq_true rfl)⟩) (g_pre hX hS) rfl rfl hl.1 rfl (lv_room (Nat.le_of_ble_eq_true rfl)) dX4_refuseUnlessRunOfHum_3 ⟨(Nat.le_of_ble_eq_true rfl), (Nat.le_of_ble_eq_true rfl)⟩) hS (fun H_3 locs hp hS => ?_)
  subst hp
  refine lv_iload_n hx hb dX4_refuseUnlessRunOfHum_6 rfl (lv_at hl 1 rfl) ?_
  refine lv_aload_n hx hb dX4_refuseUnlessRunOfHum_7 rfl (lv_at hl 0 rfl) ?_
  refine g_get hx hb hX hts (fun w h => (List.mem_cons_of_mem _ (List.mem_append_left _ (List.mem_append_left _ (List.mem_append_left _ (List.mem_append_right _ h)))))) hown h0 rfl 3 (by decide) (hts (.fieldLink RX4 26 "TuneCatalogue" "humRow" "LTuneCatalogue$Row;") (List.mem_cons_of_mem _ (List.mem_append_left _ (List.mem_append_left _ (List.mem_append_left _ (List.mem_append_left _ (List.mem_of_getElem? (i := 2) rfl))))))) rfl dX4_refuseUnlessRunOfHum_8 ?_
  refine g_goi (vx_runV (As := []) (rest := [.int (zI z)]) ⟨hx, hb, hml, hown, hts⟩ (k_size l G (A 2) (A 3) 12 (shn S) _ H h2.2.1) (cwV 0 hts gX4_refuseUnlessRunOfHum_X2_size rfl rfl rfl hd_X2_size ⟨(Nat.le_of_ble_eq_true rfl), (Nat.le_of_ble_eq_true rfl)⟩) (g_preV hX hS (ci := 2) rfl h2.2.1.1) rfl rfl hl.1 rfl (lv_room (Nat.le_of_ble_eq_true rfl)) dX4_refuseUnlessRunOfHum_11 ⟨(Nat.le_of_ble_eq_true rfl), (Nat.le_of_ble_eq_true rfl)⟩) hS (fun r_11 H_11 locs hp hS => ?_)
  obtain ⟨rfl, rfl⟩ := hp
  refine lv_iconst (v := zI 1) hx hb dX4_refuseUnlessRunOfHum_14 rfl ?_
  refine gz_isub hx hb dX4_refuseUnlessRunOfHum_15 ?_
  refine gz_icmp_le (tgt := 29) hx hb ⟨by omega, by omega⟩ ⟨by omega, by omega⟩ dX4_refuseUnlessRunOfHum_16 (by decide) (fun c_16 => ?_) (fun c_16 => ?_)
  · exact g_retv hx hb hr hlocks hS (rfl) (Nat.le_of_ble_eq_true rfl) (Nat.le_of_ble_eq_true rfl) dX4_refuseUnlessRunOfHum_29
  · omega
set_option maxHeartbeats 4000000 in
set_option maxRecDepth 100000 in
theorem k_rR_no1 (l : Launch) (G : gG) (hlf : l.stackTraces = false) (A : Nat → Nat) (TA : Nat → Nat → Nat) (S : cS) (W9 : cWk) (H : Heap) (hC : Cat G A TA S W9 H) (hI : sInv S) (z : Int) (hz : rI z) (h : ¬ (1 ≤ z ∧ z ≤ 4)) : gM l yX4_refuseUnlessRunOfHum wsX4_refuseUnlessRunOfHum rm_X4_refuseUnlessRunOfHum [.ref (A 0), .int (zI z)] G H (gF0) (gTh "java/lang/IllegalArgumentException" H) 2 12 := by
  obtain ⟨h0, h1, h2, h3, h4, h5, h6, hap⟩ := id hC
  have hn16 : sn S ≤ 16 := hI.1
  refine g_start (cc := cX4_refuseUnlessRunOfHum) (maxL := 2) (ret := none) (by decide +kernel) rfl (Nat.le_of_ble_eq_true rfl) ?_
  intro p e s m args below meth c F ls hl
  obtain ⟨hx, hb, hml, hr, hts, hown, hlocks, hxt, hH, hX, hin⟩ := F
  have hown : s.vm.findClass RX4 = some m.cls := hown
  have hS : va_S (gA G) s.heap H [] := by rw [hH]; exact va_S.rf
  have hl : lv_has ls 2 [(0, .ref (A 0)), (1, .int (zI z))] := hl
  refine lv_iload_n hx hb dX4_refuseUnlessRunOfHum_0 rfl (lv_at hl 1 rfl) ?_
  refine lv_iconst (v := zI 1) hx hb dX4_refuseUnlessRunOfHum_1 rfl ?_
  refine lv_iconst (v := zI 4) hx hb dX4_refuseUnlessRunOfHum_2 rfl ?_
  refine g_go (vx_runS (As := [.int (zI z), .int (zI 1), .int (zI 4)]) (rest := []) ⟨hx, hb, hml, hown, hts⟩ (k_rW_no l G hlf H z 1 4 (by first | assumption | exact ⟨by omega, by omega⟩) (by decide) (by decide) (by omega)) (va_cwS 3 hts gX4_refuseUnlessRunOfHum_X4_refuseUnlessWithin rfl rfl rfl hd_X4_refuseUnlessWithin.2 ⟨(Nat.le_of_ble_eq_true rfl), (Nat.le_of_ble_eq_true rfl)⟩) (g_pre hX hS) rfl rfl hl.1 rfl (lv_room (Nat.le_of_ble_eq_true rfl)) dX4_refuseUnlessRunOfHum_3 ⟨(Nat.le_of_ble_eq_true rfl), (Nat.le_of_ble_eq_true rfl)⟩) hS (fun E ce q9 H_3 locs hp hS hce hcv hcl => ?_) (fun v H1 locs h hS => h.elim)
  exact g_out hxt hlocks hS hce hcv hcl (hp) (Nat.le_of_ble_eq_true rfl) (Nat.le_of_ble_eq_true rfl)
set_option maxHeartbeats 4000000 in
set_option maxRecDepth 100000 in
theorem k_rR_no2 (l : Launch) (G : gG) (hlf : l.stackTraces = false) (A : Nat → Nat) (TA : Nat → Nat → Nat) (S : cS) (W9 : cWk) (H : Heap) (hC : Cat G A TA S W9 H) (hI : sInv S) (z : Int) (hz : rI z) (h1z : 1 ≤ z ∧ z ≤ 4) (h : ¬ z ≤ (shn S : Int) - 1) : gM l yX4_refuseUnlessRunOfHum wsX4_refuseUnlessRunOfHum rm_X4_refuseUnlessRunOfHum [.ref (A 0), .int (zI z)] G H (gF0) (gTh "java/lang/IllegalStateException" H) 2 12 := by
  obtain ⟨h0, h1, h2, h3, h4, h5, h6, hap⟩ := id hC
  have hn16 : sn S ≤ 16 := hI.1
  have hh12 : shn S ≤ 12 := hI.2.2.2.2.2.1
  refine g_start (cc := cX4_refuseUnlessRunOfHum) (maxL := 2) (ret := none) (by decide +kernel) rfl (Nat.le_of_ble_eq_true rfl) ?_
  intro p e s m args below meth c F ls hl
  obtain ⟨hx, hb, hml, hr, hts, hown, hlocks, hxt, hH, hX, hin⟩ := F
  have hown : s.vm.findClass RX4 = some m.cls := hown
  have hS : va_S (gA G) s.heap H [] := by rw [hH]; exact va_S.rf
  have hl : lv_has ls 2 [(0, .ref (A 0)), (1, .int (zI z))] := hl
  refine lv_iload_n hx hb dX4_refuseUnlessRunOfHum_0 rfl (lv_at hl 1 rfl) ?_
  refine lv_iconst (v := zI 1) hx hb dX4_refuseUnlessRunOfHum_1 rfl ?_
  refine lv_iconst (v := zI 4) hx hb dX4_refuseUnlessRunOfHum_2 rfl ?_
  refine g_gov (vx_runS (As := [.int (zI z), .int (zI 1), .int (zI 4)]) (rest := []) ⟨hx, hb, hml, hown, hts⟩ (k_rW_ok l G H z 1 4 (by first | assumption | exact ⟨by omega, by omega⟩) (by decide) (by decide) (by omega)) (va_cwS 3 hts gX4_refuseUnlessRunOfHum_X4_refuseUnlessWithin rfl rfl rfl hd_X4_refuseUnlessWithin.2 ⟨(Nat.le_of_ble_eq_true rfl), (Nat.le_of_ble_eq_true rfl)⟩) (g_pre hX hS) rfl rfl hl.1 rfl (lv_room (Nat.le_of_ble_eq_true rfl)) dX4_refuseUnlessRunOfHum_3 ⟨(Nat.le_of_ble_eq_true rfl), (Nat.le_of_ble_eq_true rfl)⟩) hS (fun H_3 locs hp hS => ?_)
  subst hp
  refine lv_iload_n hx hb dX4_refuseUnlessRunOfHum_6 rfl (lv_at hl 1 rfl) ?_
  refine lv_aload_n hx hb dX4_refuseUnlessRunOfHum_7 rfl (lv_at hl 0 rfl) ?_
  refine g_get hx hb hX hts (fun w h => (List.mem_cons_of_mem _ (List.mem_append_left _ (List.mem_append_left _ (List.mem_append_left _ (List.mem_append_right _ h)))))) hown h0 rfl 3 (by decide) (hts (.fieldLink RX4 26 "TuneCatalogue" "humRow" "LTuneCatalogue$Row;") (List.mem_cons_of_mem _ (List.mem_append_left _ (List.mem_append_left _ (List.mem_append_left _ (List.mem_append_left _ (List.mem_of_getElem? (i := 2) rfl))))))) rfl dX4_refuseUnlessRunOfHum_8 ?_
  refine g_goi (vx_runV (As := []) (rest := [.int (zI z)]) ⟨hx, hb, hml, hown, hts⟩ (k_size l G (A 2) (A 3) 12 (shn S) _ H h2.2.1) (cwV 0 hts gX4_refuseUnlessRunOfHum_X2_size rfl rfl rfl hd_X2_size ⟨(Nat.le_of_ble_eq_true rfl), (Nat.le_of_ble_eq_true rfl)⟩) (g_preV hX hS (ci := 2) rfl h2.2.1.1) rfl rfl hl.1 rfl (lv_room (Nat.le_of_ble_eq_true rfl)) dX4_refuseUnlessRunOfHum_11 ⟨(Nat.le_of_ble_eq_true rfl), (Nat.le_of_ble_eq_true rfl)⟩) hS (fun r_11 H_11 locs hp hS => ?_)
  obtain ⟨rfl, rfl⟩ := hp
  refine lv_iconst (v := zI 1) hx hb dX4_refuseUnlessRunOfHum_14 rfl ?_
  refine gz_isub hx hb dX4_refuseUnlessRunOfHum_15 ?_
  refine gz_icmp_le (tgt := 29) hx hb ⟨by omega, by omega⟩ ⟨by omega, by omega⟩ dX4_refuseUnlessRunOfHum_16 (by decide) (fun c_16 => ?_) (fun c_16 => ?_)
  · omega
  · exact g_throw hx hb hlf hX hown (by decide +kernel) (by decide +kernel) (hts (.classLink RX4 59 "java/lang/IllegalStateException") (List.mem_cons_of_mem _ (List.mem_append_left _ (List.mem_append_left _ (List.mem_append_left _ (List.mem_append_left _ (List.mem_of_getElem? (i := 0) rfl))))))) (hts (.initialized "java/lang/IllegalStateException") (List.mem_cons_of_mem _ (List.mem_append_left _ (List.mem_append_left _ (List.mem_append_left _ (List.mem_append_left _ (List.mem_of_getElem? (i := 1) rfl))))))) (by decide +kernel : (209, "the hum has not so many steps") ∈ gStr) (ha_X4_refuseUnlessRunOfHum_63 hX hts) (by decide +kernel) hS (hl.1.trans hml.symm) dX4_refuseUnlessRunOfHum_19 dX4_refuseUnlessRunOfHum_22 dX4_refuseUnlessRunOfHum_23 dX4_refuseUnlessRunOfHum_25 dX4_refuseUnlessRunOfHum_28 hxt (Nat.le_of_ble_eq_true rfl) (Nat.le_of_ble_eq_true rfl) (Nat.le_of_ble_eq_true rfl) (Nat.le_of_ble_eq_true rfl) hlocks (fun H1 hE => ⟨rfl, hE⟩) (Nat.le_of_ble_eq_true rfl) (Nat.le_of_ble_eq_true rfl)
set_option maxHeartbeats 4000000 in
set_option maxRecDepth 100000 in
theorem k_eN_some (l : Launch) (G : gG) (A : Nat → Nat) (TA : Nat → Nat → Nat) (S : cS) (W9 : cWk) (H : Heap) (hC : Cat G A TA S W9 H) (hI : sInv S) (z : Int) (i : Nat) (hz : z = i) (hi : i < sn S) : gM l yX4_enteredOrNull wsX4_enteredOrNull rm_X4_enteredOrNull [.ref (A 0), .int (zI z)] G H (gq (fun r H1 => some (TA i 0) = r ∧ H = H1)) (gNo) 0 0 := by
  obtain ⟨h0, h1, h2, h3, h4, h5, h6, hap⟩ := id hC
  have hn16 : sn S ≤ 16 := hI.1
  refine g_start (cc := cX4_enteredOrNull) (maxL := 2) (ret := (some (.object "TuneCatalogue$Tune"))) (by decide +kernel) rfl (Nat.le_of_ble_eq_true rfl) ?_
  intro p e s m args below meth c F ls hl
  obtain ⟨hx, hb, hml, hr, hts, hown, hlocks, hxt, hH, hX, hin⟩ := F
  have hown : s.vm.findClass RX4 = some m.cls := hown
  have hS : va_S (gA G) s.heap H [] := by rw [hH]; exact va_S.rf
  have hl : lv_has ls 2 [(0, .ref (A 0)), (1, .int (zI z))] := hl
  refine lv_iload_n hx hb dX4_enteredOrNull_0 rfl (lv_at hl 1 rfl) ?_
  refine gz_if_lt (tgt := 30) hx hb ⟨by omega, by omega⟩ dX4_enteredOrNull_1 (by decide) (fun c_1 => ?_) (fun c_1 => ?_)
  · omega
  · refine lv_iload_n hx hb dX4_enteredOrNull_4 rfl (lv_at hl 1 rfl) ?_
    refine lv_aload_n hx hb dX4_enteredOrNull_5 rfl (lv_at hl 0 rfl) ?_
    refine g_get hx hb hX hts (fun w h => (List.mem_cons_of_mem _ (List.mem_append_right _ h))) hown h0 rfl 1 (by decide) (hts (.fieldLink RX4 51 "TuneCatalogue" "entered" "I") (List.mem_cons_of_mem _ (List.mem_append_left _ (List.mem_of_getElem? (i := 0) rfl)))) rfl dX4_enteredOrNull_6 ?_
    refine gz_icmp_ge (tgt := 30) hx hb ⟨by omega, by omega⟩ ⟨by omega, by omega⟩ dX4_enteredOrNull_9 (by decide) (fun c_9 => ?_) (fun c_9 => ?_)
    · omega
    · refine lv_iload_n hx hb dX4_enteredOrNull_12 rfl (lv_at hl 1 rfl) ?_
      refine lv_aload_n hx hb dX4_enteredOrNull_13 rfl (lv_at hl 0 rfl) ?_
      refine g_get hx hb hX hts (fun w h => (List.mem_cons_of_mem _ (List.mem_append_right _ h))) hown h0 rfl 0 (by decide) (hts (.fieldLink RX4 11 "TuneCatalogue" "entries" "[LTuneCatalogue$Tune;") (List.mem_cons_of_mem _ (List.mem_append_left _ (List.mem_of_getElem? (i := 1) rfl)))) rfl dX4_enteredOrNull_14 ?_
      refine gz_alenT hx hb hX h1 dX4_enteredOrNull_17 ?_
      refine gz_icmp_ge (tgt := 30) hx hb ⟨by omega, by omega⟩ (by decide) dX4_enteredOrNull_18 (by decide) (fun c_18 => ?_) (fun c_18 => ?_)
      · omega
      · refine lv_aload_n hx hb dX4_enteredOrNull_21 rfl (lv_at hl 0 rfl) ?_
        refine g_get hx hb hX hts (fun w h => (List.mem_cons_of_mem _ (List.mem_append_right _ h))) hown h0 rfl 0 (by decide) (hts (.fieldLink RX4 11 "TuneCatalogue" "entries" "[LTuneCatalogue$Tune;") (List.mem_cons_of_mem _ (List.mem_append_left _ (List.mem_of_getElem? (i := 1) rfl)))) rfl dX4_enteredOrNull_22 ?_
        refine lv_iload_n hx hb dX4_enteredOrNull_25 rfl (lv_at hl 1 rfl) ?_
        refine gz_aald hx hb hX h1 i (by omega) (by omega) (by omega) dX4_enteredOrNull_26 ?_
        rw [if_pos hi]
        refine W.eq (g2 := F0 m 27 ls [.ref (TA i 0)]) rfl ?_
        refine lv_goto (tgt := 31) hx hb dX4_enteredOrNull_27 (by decide) ?_
        exact g_retq (v := (some (TA i 0))) hx hb hr hlocks hS (⟨rfl, rfl⟩) (Nat.le_of_ble_eq_true rfl) (Nat.le_of_ble_eq_true rfl) dX4_enteredOrNull_31
set_option maxHeartbeats 4000000 in
set_option maxRecDepth 100000 in
theorem k_eN_none (l : Launch) (G : gG) (A : Nat → Nat) (TA : Nat → Nat → Nat) (S : cS) (W9 : cWk) (H : Heap) (hC : Cat G A TA S W9 H) (hI : sInv S) (z : Int) (hz : rI z) (hi : ¬ (0 ≤ z ∧ z < sn S)) : gM l yX4_enteredOrNull wsX4_enteredOrNull rm_X4_enteredOrNull [.ref (A 0), .int (zI z)] G H (gq (fun r H1 => none = r ∧ H = H1)) (gNo) 0 0 := by
  obtain ⟨h0, h1, h2, h3, h4, h5, h6, hap⟩ := id hC
  have hn16 : sn S ≤ 16 := hI.1
  refine g_start (cc := cX4_enteredOrNull) (maxL := 2) (ret := (some (.object "TuneCatalogue$Tune"))) (by decide +kernel) rfl (Nat.le_of_ble_eq_true rfl) ?_
  intro p e s m args below meth c F ls hl
  obtain ⟨hx, hb, hml, hr, hts, hown, hlocks, hxt, hH, hX, hin⟩ := F
  have hown : s.vm.findClass RX4 = some m.cls := hown
  have hS : va_S (gA G) s.heap H [] := by rw [hH]; exact va_S.rf
  have hl : lv_has ls 2 [(0, .ref (A 0)), (1, .int (zI z))] := hl
  refine lv_iload_n hx hb dX4_enteredOrNull_0 rfl (lv_at hl 1 rfl) ?_
  refine gz_if_lt (tgt := 30) hx hb ⟨by omega, by omega⟩ dX4_enteredOrNull_1 (by decide) (fun c_1 => ?_) (fun c_1 => ?_)
  · refine lv_null hx hb dX4_enteredOrNull_30 ?_
    exact g_retq (v := none) hx hb hr hlocks hS (⟨rfl, rfl⟩) (Nat.le_of_ble_eq_true rfl) (Nat.le_of_ble_eq_true rfl) dX4_enteredOrNull_31
  · refine lv_iload_n hx hb dX4_enteredOrNull_4 rfl (lv_at hl 1 rfl) ?_
    refine lv_aload_n hx hb dX4_enteredOrNull_5 rfl (lv_at hl 0 rfl) ?_
    refine g_get hx hb hX hts (fun w h => (List.mem_cons_of_mem _ (List.mem_append_right _ h))) hown h0 rfl 1 (by decide) (hts (.fieldLink RX4 51 "TuneCatalogue" "entered" "I") (List.mem_cons_of_mem _ (List.mem_append_left _ (List.mem_of_getElem? (i := 0) rfl)))) rfl dX4_enteredOrNull_6 ?_
    refine gz_icmp_ge (tgt := 30) hx hb ⟨by omega, by omega⟩ ⟨by omega, by omega⟩ dX4_enteredOrNull_9 (by decide) (fun c_9 => ?_) (fun c_9 => ?_)
    · refine lv_null hx hb dX4_enteredOrNull_30 ?_
      exact g_retq (v := none) hx hb hr hlocks hS (⟨rfl, rfl⟩) (Nat.le_of_ble_eq_true rfl) (Nat.le_of_ble_eq_true rfl) dX4_enteredOrNull_31
    · omega
set_option maxHeartbeats 4000000 in
set_option maxRecDepth 100000 in
theorem k_kN_some (l : Launch) (G : gG) (A : Nat → Nat) (TA : Nat → Nat → Nat) (S : cS) (W9 : cWk) (H : Heap) (hC : Cat G A TA S W9 H) (hI : sInv S) (z : Int) (i : Nat) (hz : z = i) (hi : i < sn S)(hk : srt S i = false) : gM l yX4_knownOrNull wsX4_knownOrNull rm_X4_knownOrNull [.ref (A 0), .int (zI z)] G H (gq (fun r H1 => some (TA i 0) = r ∧ H = H1)) (gNo) 0 0 := by
  obtain ⟨h0, h1, h2, h3, h4, h5, h6, hap⟩ := id hC
  have hn16 : sn S ≤ 16 := hI.1
  obtain ⟨ht, hp1, hl1, gt, htd⟩ := id (h6 i hi)
  refine g_start (cc := cX4_knownOrNull) (maxL := 3) (ret := (some (.object "TuneCatalogue$Tune"))) (by decide +kernel) rfl (Nat.le_of_ble_eq_true rfl) ?_
  intro p e s m args below meth c F ls hl
  obtain ⟨hx, hb, hml, hr, hts, hown, hlocks, hxt, hH, hX, hin⟩ := F
  have hown : s.vm.findClass RX4 = some m.cls := hown
  have hS : va_S (gA G) s.heap H [] := by rw [hH]; exact va_S.rf
  have hl : lv_has ls 3 [(0, .ref (A 0)), (1, .int (zI z))] := hl
  refine lv_aload_n hx hb dX4_knownOrNull_0 rfl (lv_at hl 0 rfl) ?_
  refine lv_iload_n hx hb dX4_knownOrNull_1 rfl (lv_at hl 1 rfl) ?_
  refine g_goq (vx_runV (As := [.int (zI z)]) (rest := []) ⟨hx, hb, hml, hown, hts⟩ (k_eN_some l G A TA S W9 H hC hI z i hz hi) (cwV 1 hts gX4_knownOrNull_X4_enteredOrNull rfl rfl rfl hd_X4_enteredOrNull ⟨(Nat.le_of_ble_eq_true rfl), (Nat.le_of_ble_eq_true rfl)⟩) (g_preV hX hS (ci := 4) rfl h0) rfl rfl hl.1 rfl (lv_room (Nat.le_of_ble_eq_true rfl)) dX4_knownOrNull_2 ⟨(Nat.le_of_ble_eq_true rfl), (Nat.le_of_ble_eq_true rfl)⟩) hS (fun r_2 H_2 locs hp hS => ?_)
  obtain ⟨rfl, rfl⟩ := hp
  refine W.eq (g2 := F0 m 5 ls [.ref (TA i 0)]) rfl ?_
  refine lv_astore_n (lv' := [(2, .ref (TA i 0)), (0, .ref (A 0)), (1, .int (zI z))]) hx hb dX4_knownOrNull_5 rfl hl (by decide) rfl (fun ls hl => ?_)
  refine lv_aload_n hx hb dX4_knownOrNull_6 rfl (lv_at hl 0 rfl) ?_
  refine lv_ifnull hx hb dX4_knownOrNull_7 ?_
  refine lv_aload_n hx hb dX4_knownOrNull_10 rfl (lv_at hl 0 rfl) ?_
  refine g_getN hx hb hX hts (fun w h => (List.mem_cons_of_mem _ (List.mem_append_left _ (List.mem_append_right _ h)))) hown ht rfl 2 (by decide) (by decide +kernel : Cond.fieldLinkNest RX4 111 "TuneCatalogue$Tune" "retired" "Z" RX4 ∈ gNW) rfl dX4_knownOrNull_11 ?_
  refine gz_if_eq (tgt := 21) hx hb (by cases srt S i <;> decide) dX4_knownOrNull_14 (by decide) (fun c_14 => ?_) (fun c_14 => ?_)
  · refine lv_aload_n hx hb dX4_knownOrNull_21 rfl (lv_at hl 0 rfl) ?_
    exact g_retq (v := (some (TA i 0))) hx hb hr hlocks hS (⟨rfl, rfl⟩) (Nat.le_of_ble_eq_true rfl) (Nat.le_of_ble_eq_true rfl) dX4_knownOrNull_22
  · exact absurd (by rw [hk]; rfl) c_14
set_option maxHeartbeats 4000000 in
set_option maxRecDepth 100000 in
theorem k_kN_none2 (l : Launch) (G : gG) (A : Nat → Nat) (TA : Nat → Nat → Nat) (S : cS) (W9 : cWk) (H : Heap) (hC : Cat G A TA S W9 H) (hI : sInv S) (z : Int) (i : Nat) (hz : z = i) (hi : i < sn S)(hk : srt S i = true) : gM l yX4_knownOrNull wsX4_knownOrNull rm_X4_knownOrNull [.ref (A 0), .int (zI z)] G H (gq (fun r H1 => none = r ∧ H = H1)) (gNo) 0 0 := by
  obtain ⟨h0, h1, h2, h3, h4, h5, h6, hap⟩ := id hC
  have hn16 : sn S ≤ 16 := hI.1
  obtain ⟨ht, hp1, hl1, gt, htd⟩ := id (h6 i hi)
  refine g_start (cc := cX4_knownOrNull) (maxL := 3) (ret := (some (.object "TuneCatalogue$Tune"))) (by decide +kernel) rfl (Nat.le_of_ble_eq_true rfl) ?_
  intro p e s m args below meth c F ls hl
  obtain ⟨hx, hb, hml, hr, hts, hown, hlocks, hxt, hH, hX, hin⟩ := F
  have hown : s.vm.findClass RX4 = some m.cls := hown
  have hS : va_S (gA G) s.heap H [] := by rw [hH]; exact va_S.rf
  have hl : lv_has ls 3 [(0, .ref (A 0)), (1, .int (zI z))] := hl
  refine lv_aload_n hx hb dX4_knownOrNull_0 rfl (lv_at hl 0 rfl) ?_
  refine lv_iload_n hx hb dX4_knownOrNull_1 rfl (lv_at hl 1 rfl) ?_
  refine g_goq (vx_runV (As := [.int (zI z)]) (rest := []) ⟨hx, hb, hml, hown, hts⟩ (k_eN_some l G A TA S W9 H hC hI z i hz hi) (cwV 1 hts gX4_knownOrNull_X4_enteredOrNull rfl rfl rfl hd_X4_enteredOrNull ⟨(Nat.le_of_ble_eq_true rfl), (Nat.le_of_ble_eq_true rfl)⟩) (g_preV hX hS (ci := 4) rfl h0) rfl rfl hl.1 rfl (lv_room (Nat.le_of_ble_eq_true rfl)) dX4_knownOrNull_2 ⟨(Nat.le_of_ble_eq_true rfl), (Nat.le_of_ble_eq_true rfl)⟩) hS (fun r_2 H_2 locs hp hS => ?_)
  obtain ⟨rfl, rfl⟩ := hp
  refine W.eq (g2 := F0 m 5 ls [.ref (TA i 0)]) rfl ?_
  refine lv_astore_n (lv' := [(2, .ref (TA i 0)), (0, .ref (A 0)), (1, .int (zI z))]) hx hb dX4_knownOrNull_5 rfl hl (by decide) rfl (fun ls hl => ?_)
  refine lv_aload_n hx hb dX4_knownOrNull_6 rfl (lv_at hl 0 rfl) ?_
  refine lv_ifnull hx hb dX4_knownOrNull_7 ?_
  refine lv_aload_n hx hb dX4_knownOrNull_10 rfl (lv_at hl 0 rfl) ?_
  refine g_getN hx hb hX hts (fun w h => (List.mem_cons_of_mem _ (List.mem_append_left _ (List.mem_append_right _ h)))) hown ht rfl 2 (by decide) (by decide +kernel : Cond.fieldLinkNest RX4 111 "TuneCatalogue$Tune" "retired" "Z" RX4 ∈ gNW) rfl dX4_knownOrNull_11 ?_
  refine gz_if_eq (tgt := 21) hx hb (by cases srt S i <;> decide) dX4_knownOrNull_14 (by decide) (fun c_14 => ?_) (fun c_14 => ?_)
  · rw [hk] at c_14
    exact absurd c_14 (by decide)
  · refine lv_null hx hb dX4_knownOrNull_17 ?_
    refine lv_goto (tgt := 22) hx hb dX4_knownOrNull_18 (by decide) ?_
    exact g_retq (v := none) hx hb hr hlocks hS (⟨rfl, rfl⟩) (Nat.le_of_ble_eq_true rfl) (Nat.le_of_ble_eq_true rfl) dX4_knownOrNull_22
set_option maxHeartbeats 4000000 in
set_option maxRecDepth 100000 in
theorem k_kN_none1 (l : Launch) (G : gG) (A : Nat → Nat) (TA : Nat → Nat → Nat) (S : cS) (W9 : cWk) (H : Heap) (hC : Cat G A TA S W9 H) (hI : sInv S) (z : Int) (hz : rI z) (hi : ¬ (0 ≤ z ∧ z < sn S)) : gM l yX4_knownOrNull wsX4_knownOrNull rm_X4_knownOrNull [.ref (A 0), .int (zI z)] G H (gq (fun r H1 => none = r ∧ H = H1)) (gNo) 0 0 := by
  obtain ⟨h0, h1, h2, h3, h4, h5, h6, hap⟩ := id hC
  have hn16 : sn S ≤ 16 := hI.1
  refine g_start (cc := cX4_knownOrNull) (maxL := 3) (ret := (some (.object "TuneCatalogue$Tune"))) (by decide +kernel) rfl (Nat.le_of_ble_eq_true rfl) ?_
  intro p e s m args below meth c F ls hl
  obtain ⟨hx, hb, hml, hr, hts, hown, hlocks, hxt, hH, hX, hin⟩ := F
  have hown : s.vm.findClass RX4 = some m.cls := hown
  have hS : va_S (gA G) s.heap H [] := by rw [hH]; exact va_S.rf
  have hl : lv_has ls 3 [(0, .ref (A 0)), (1, .int (zI z))] := hl
  refine lv_aload_n hx hb dX4_knownOrNull_0 rfl (lv_at hl 0 rfl) ?_
  refine lv_iload_n hx hb dX4_knownOrNull_1 rfl (lv_at hl 1 rfl) ?_
  refine g_goq (vx_runV (As := [.int (zI z)]) (rest := []) ⟨hx, hb, hml, hown, hts⟩ (k_eN_none l G A TA S W9 H hC hI z hz hi) (cwV 1 hts gX4_knownOrNull_X4_enteredOrNull rfl rfl rfl hd_X4_enteredOrNull ⟨(Nat.le_of_ble_eq_true rfl), (Nat.le_of_ble_eq_true rfl)⟩) (g_preV hX hS (ci := 4) rfl h0) rfl rfl hl.1 rfl (lv_room (Nat.le_of_ble_eq_true rfl)) dX4_knownOrNull_2 ⟨(Nat.le_of_ble_eq_true rfl), (Nat.le_of_ble_eq_true rfl)⟩) hS (fun r_2 H_2 locs hp hS => ?_)
  obtain ⟨rfl, rfl⟩ := hp
  refine W.eq (g2 := F0 m 5 ls [.null]) rfl ?_
  refine lv_astore_nN (lv' := [(2, .null), (0, .ref (A 0)), (1, .int (zI z))]) hx hb dX4_knownOrNull_5 rfl hl (by decide) rfl (fun ls hl => ?_)
  refine lv_aload_nN hx hb dX4_knownOrNull_6 rfl (lv_at hl 0 rfl) ?_
  refine lv_ifnullN (tgt := 17) hx hb dX4_knownOrNull_7 (by decide) ?_
  refine lv_null hx hb dX4_knownOrNull_17 ?_
  refine lv_goto (tgt := 22) hx hb dX4_knownOrNull_18 (by decide) ?_
  exact g_retq (v := none) hx hb hr hlocks hS (⟨rfl, rfl⟩) (Nat.le_of_ble_eq_true rfl) (Nat.le_of_ble_eq_true rfl) dX4_knownOrNull_22
def kwn (S : cS) (z : Int) : Prop := (0 ≤ z ∧ z < sn S) ∧ srt S z.toNat = false
theorem k_kN_none (l : Launch) (G : gG) (A : Nat → Nat) (TA : Nat → Nat → Nat) (S : cS) (W9 : cWk) (H : Heap) (hC : Cat G A TA S W9 H) (hI : sInv S) (z : Int) (hz : rI z) (h : ¬ kwn S z) : gM l yX4_knownOrNull wsX4_knownOrNull rm_X4_knownOrNull [.ref (A 0), .int (zI z)] G H (gq (fun r H1 => none = r ∧ H = H1)) gNo 0 0 := by
  by_cases h1 : 0 ≤ z ∧ z < sn S
  · refine k_kN_none2 l G A TA S W9 H hC hI z z.toNat (by omega) (by omega) ?_
    cases e : srt S z.toNat
    · exact absurd ⟨h1, e⟩ h
    · rfl
  · exact k_kN_none1 l G A TA S W9 H hC hI z hz h1
set_option maxHeartbeats 4000000 in
set_option maxRecDepth 100000 in
theorem k_eT_ok (l : Launch) (G : gG) (A : Nat → Nat) (TA : Nat → Nat → Nat) (S : cS) (W9 : cWk) (H : Heap) (hC : Cat G A TA S W9 H) (hI : sInv S) (z : Int) (i : Nat) (hz : z = i) (hi : i < sn S) : gM l yX4_enteredOrThrow wsX4_enteredOrThrow rm_X4_enteredOrThrow [.ref (A 0), .int (zI z)] G H (gq (fun r H1 => some (TA i 0) = r ∧ H = H1)) (gNo) 1 6 := by
  obtain ⟨h0, h1, h2, h3, h4, h5, h6, hap⟩ := id hC
  have hn16 : sn S ≤ 16 := hI.1
  refine g_start (cc := cX4_enteredOrThrow) (maxL := 3) (ret := (some (.object "TuneCatalogue$Tune"))) (by decide +kernel) rfl (Nat.le_of_ble_eq_true rfl) ?_
  intro p e s m args below meth c F ls hl
  obtain ⟨hx, hb, hml, hr, hts, hown, hlocks, hxt, hH, hX, hin⟩ := F
  have hown : s.vm.findClass RX4 = some m.cls := hown
  have hS : va_S (gA G) s.heap H [] := by rw [hH]; exact va_S.rf
  have hl : lv_has ls 3 [(0, .ref (A 0)), (1, .int (zI z))] := hl
  refine lv_aload_n hx hb dX4_enteredOrThrow_0 rfl (lv_at hl 0 rfl) ?_
  refine lv_iload_n hx hb dX4_enteredOrThrow_1 rfl (lv_at hl 1 rfl) ?_
  refine g_goq (vx_runV (As := [.int (zI z)]) (rest := []) ⟨hx, hb, hml, hown, hts⟩ (k_eN_some l G A TA S W9 H hC hI z i hz hi) (cwV 1 hts gX4_enteredOrThrow_X4_enteredOrNull rfl rfl rfl hd_X4_enteredOrNull ⟨(Nat.le_of_ble_eq_true rfl), (Nat.le_of_ble_eq_true rfl)⟩) (g_preV hX hS (ci := 4) rfl h0) rfl rfl hl.1 rfl (lv_room (Nat.le_of_ble_eq_true rfl)) dX4_enteredOrThrow_2 ⟨(Nat.le_of_ble_eq_true rfl), (Nat.le_of_ble_eq_true rfl)⟩) hS (fun r_2 H_2 locs hp hS => ?_)
  obtain ⟨rfl, rfl⟩ := hp
  refine W.eq (g2 := F0 m 5 ls [.ref (TA i 0)]) rfl ?_
  refine lv_astore_n (lv' := [(2, .ref (TA i 0)), (0, .ref (A 0)), (1, .int (zI z))]) hx hb dX4_enteredOrThrow_5 rfl hl (by decide) rfl (fun ls hl => ?_)
  refine lv_aload_n hx hb dX4_enteredOrThrow_6 rfl (lv_at hl 0 rfl) ?_
  refine lv_ifnonnull (tgt := 20) hx hb dX4_enteredOrThrow_7 (by decide) ?_
  refine lv_aload_n hx hb dX4_enteredOrThrow_20 rfl (lv_at hl 0 rfl) ?_
  exact g_retq (v := (some (TA i 0))) hx hb hr hlocks hS (⟨rfl, rfl⟩) (Nat.le_of_ble_eq_true rfl) (Nat.le_of_ble_eq_true rfl) dX4_enteredOrThrow_21
set_option maxHeartbeats 4000000 in
set_option maxRecDepth 100000 in
theorem k_eT_no (l : Launch) (G : gG) (hlf : l.stackTraces = false) (A : Nat → Nat) (TA : Nat → Nat → Nat) (S : cS) (W9 : cWk) (H : Heap) (hC : Cat G A TA S W9 H) (hI : sInv S) (z : Int) (hz : rI z) (hi : ¬ (0 ≤ z ∧ z < sn S)) : gM l yX4_enteredOrThrow wsX4_enteredOrThrow rm_X4_enteredOrThrow [.ref (A 0), .int (zI z)] G H (gF0) (gTh "java/lang/IndexOutOfBoundsException" H) 1 6 := by
  obtain ⟨h0, h1, h2, h3, h4, h5, h6, hap⟩ := id hC
  have hn16 : sn S ≤ 16 := hI.1
  refine g_start (cc := cX4_enteredOrThrow) (maxL := 3) (ret := (some (.object "TuneCatalogue$Tune"))) (by decide +kernel) rfl (Nat.le_of_ble_eq_true rfl) ?_
  intro p e s m args below meth c F ls hl
  obtain ⟨hx, hb, hml, hr, hts, hown, hlocks, hxt, hH, hX, hin⟩ := F
  have hown : s.vm.findClass RX4 = some m.cls := hown
  have hS : va_S (gA G) s.heap H [] := by rw [hH]; exact va_S.rf
  have hl : lv_has ls 3 [(0, .ref (A 0)), (1, .int (zI z))] := hl
  refine lv_aload_n hx hb dX4_enteredOrThrow_0 rfl (lv_at hl 0 rfl) ?_
  refine lv_iload_n hx hb dX4_enteredOrThrow_1 rfl (lv_at hl 1 rfl) ?_
  refine g_goq (vx_runV (As := [.int (zI z)]) (rest := []) ⟨hx, hb, hml, hown, hts⟩ (k_eN_none l G A TA S W9 H hC hI z hz hi) (cwV 1 hts gX4_enteredOrThrow_X4_enteredOrNull rfl rfl rfl hd_X4_enteredOrNull ⟨(Nat.le_of_ble_eq_true rfl), (Nat.le_of_ble_eq_true rfl)⟩) (g_preV hX hS (ci := 4) rfl h0) rfl rfl hl.1 rfl (lv_room (Nat.le_of_ble_eq_true rfl)) dX4_enteredOrThrow_2 ⟨(Nat.le_of_ble_eq_true rfl), (Nat.le_of_ble_eq_true rfl)⟩) hS (fun r_2 H_2 locs hp hS => ?_)
  obtain ⟨rfl, rfl⟩ := hp
  refine W.eq (g2 := F0 m 5 ls [.null]) rfl ?_
  refine lv_astore_nN (lv' := [(2, .null), (0, .ref (A 0)), (1, .int (zI z))]) hx hb dX4_enteredOrThrow_5 rfl hl (by decide) rfl (fun ls hl => ?_)
  refine lv_aload_nN hx hb dX4_enteredOrThrow_6 rfl (lv_at hl 0 rfl) ?_
  refine lv_ifnonnullN hx hb dX4_enteredOrThrow_7 ?_
  exact g_throw hx hb hlf hX hown (by decide +kernel) (by decide +kernel) (hts (.classLink RX4 90 "java/lang/IndexOutOfBoundsException") (List.mem_cons_of_mem _ (List.mem_append_left _ (List.mem_append_left _ (List.mem_of_getElem? (i := 0) rfl))))) (hts (.initialized "java/lang/IndexOutOfBoundsException") (List.mem_cons_of_mem _ (List.mem_append_left _ (List.mem_append_left _ (List.mem_of_getElem? (i := 1) rfl))))) (by decide +kernel : (214, "there never was such a tune") ∈ gStr) (ha_X4_enteredOrThrow_94 hX hts) (by decide +kernel) hS (hl.1.trans hml.symm) dX4_enteredOrThrow_10 dX4_enteredOrThrow_13 dX4_enteredOrThrow_14 dX4_enteredOrThrow_16 dX4_enteredOrThrow_19 hxt (Nat.le_of_ble_eq_true rfl) (Nat.le_of_ble_eq_true rfl) (Nat.le_of_ble_eq_true rfl) (Nat.le_of_ble_eq_true rfl) hlocks (fun H1 hE => ⟨rfl, hE⟩) (Nat.le_of_ble_eq_true rfl) (Nat.le_of_ble_eq_true rfl)
set_option maxHeartbeats 4000000 in
set_option maxRecDepth 100000 in
theorem k_kT_ok (l : Launch) (G : gG) (A : Nat → Nat) (TA : Nat → Nat → Nat) (S : cS) (W9 : cWk) (H : Heap) (hC : Cat G A TA S W9 H) (hI : sInv S) (z : Int) (i : Nat) (hz : z = i) (hi : i < sn S)(hk : srt S i = false) : gM l yX4_knownOrThrow wsX4_knownOrThrow rm_X4_knownOrThrow [.ref (A 0), .int (zI z)] G H (gq (fun r H1 => some (TA i 0) = r ∧ H = H1)) (gNo) 1 6 := by
  obtain ⟨h0, h1, h2, h3, h4, h5, h6, hap⟩ := id hC
  have hn16 : sn S ≤ 16 := hI.1
  refine g_start (cc := cX4_knownOrThrow) (maxL := 3) (ret := (some (.object "TuneCatalogue$Tune"))) (by decide +kernel) rfl (Nat.le_of_ble_eq_true rfl) ?_
  intro p e s m args below meth c F ls hl
  obtain ⟨hx, hb, hml, hr, hts, hown, hlocks, hxt, hH, hX, hin⟩ := F
  have hown : s.vm.findClass RX4 = some m.cls := hown
  have hS : va_S (gA G) s.heap H [] := by rw [hH]; exact va_S.rf
  have hl : lv_has ls 3 [(0, .ref (A 0)), (1, .int (zI z))] := hl
  refine lv_aload_n hx hb dX4_knownOrThrow_0 rfl (lv_at hl 0 rfl) ?_
  refine lv_iload_n hx hb dX4_knownOrThrow_1 rfl (lv_at hl 1 rfl) ?_
  refine g_goq (vx_runV (As := [.int (zI z)]) (rest := []) ⟨hx, hb, hml, hown, hts⟩ (k_kN_some l G A TA S W9 H hC hI z i hz hi hk) (cwV 1 hts gX4_knownOrThrow_X4_knownOrNull rfl rfl rfl hd_X4_knownOrNull ⟨(Nat.le_of_ble_eq_true rfl), (Nat.le_of_ble_eq_true rfl)⟩) (g_preV hX hS (ci := 4) rfl h0) rfl rfl hl.1 rfl (lv_room (Nat.le_of_ble_eq_true rfl)) dX4_knownOrThrow_2 ⟨(Nat.le_of_ble_eq_true rfl), (Nat.le_of_ble_eq_true rfl)⟩) hS (fun r_2 H_2 locs hp hS => ?_)
  obtain ⟨rfl, rfl⟩ := hp
  refine W.eq (g2 := F0 m 5 ls [.ref (TA i 0)]) rfl ?_
  refine lv_astore_n (lv' := [(2, .ref (TA i 0)), (0, .ref (A 0)), (1, .int (zI z))]) hx hb dX4_knownOrThrow_5 rfl hl (by decide) rfl (fun ls hl => ?_)
  refine lv_aload_n hx hb dX4_knownOrThrow_6 rfl (lv_at hl 0 rfl) ?_
  refine lv_ifnonnull (tgt := 20) hx hb dX4_knownOrThrow_7 (by decide) ?_
  refine lv_aload_n hx hb dX4_knownOrThrow_20 rfl (lv_at hl 0 rfl) ?_
  exact g_retq (v := (some (TA i 0))) hx hb hr hlocks hS (⟨rfl, rfl⟩) (Nat.le_of_ble_eq_true rfl) (Nat.le_of_ble_eq_true rfl) dX4_knownOrThrow_21
set_option maxHeartbeats 4000000 in
set_option maxRecDepth 100000 in
theorem k_kT_no (l : Launch) (G : gG) (hlf : l.stackTraces = false) (A : Nat → Nat) (TA : Nat → Nat → Nat) (S : cS) (W9 : cWk) (H : Heap) (hC : Cat G A TA S W9 H) (hI : sInv S) (z : Int) (hz : rI z) (hi : ¬ kwn S z) : gM l yX4_knownOrThrow wsX4_knownOrThrow rm_X4_knownOrThrow [.ref (A 0), .int (zI z)] G H (gF0) (gTh "java/lang/IndexOutOfBoundsException" H) 1 6 := by
  obtain ⟨h0, h1, h2, h3, h4, h5, h6, hap⟩ := id hC
  have hn16 : sn S ≤ 16 := hI.1
  refine g_start (cc := cX4_knownOrThrow) (maxL := 3) (ret := (some (.object "TuneCatalogue$Tune"))) (by decide +kernel) rfl (Nat.le_of_ble_eq_true rfl) ?_
  intro p e s m args below meth c F ls hl
  obtain ⟨hx, hb, hml, hr, hts, hown, hlocks, hxt, hH, hX, hin⟩ := F
  have hown : s.vm.findClass RX4 = some m.cls := hown
  have hS : va_S (gA G) s.heap H [] := by rw [hH]; exact va_S.rf
  have hl : lv_has ls 3 [(0, .ref (A 0)), (1, .int (zI z))] := hl
  refine lv_aload_n hx hb dX4_knownOrThrow_0 rfl (lv_at hl 0 rfl) ?_
  refine lv_iload_n hx hb dX4_knownOrThrow_1 rfl (lv_at hl 1 rfl) ?_
  refine g_goq (vx_runV (As := [.int (zI z)]) (rest := []) ⟨hx, hb, hml, hown, hts⟩ (k_kN_none l G A TA S W9 H hC hI z hz hi) (cwV 1 hts gX4_knownOrThrow_X4_knownOrNull rfl rfl rfl hd_X4_knownOrNull ⟨(Nat.le_of_ble_eq_true rfl), (Nat.le_of_ble_eq_true rfl)⟩) (g_preV hX hS (ci := 4) rfl h0) rfl rfl hl.1 rfl (lv_room (Nat.le_of_ble_eq_true rfl)) dX4_knownOrThrow_2 ⟨(Nat.le_of_ble_eq_true rfl), (Nat.le_of_ble_eq_true rfl)⟩) hS (fun r_2 H_2 locs hp hS => ?_)
  obtain ⟨rfl, rfl⟩ := hp
  refine W.eq (g2 := F0 m 5 ls [.null]) rfl ?_
  refine lv_astore_nN (lv' := [(2, .null), (0, .ref (A 0)), (1, .int (zI z))]) hx hb dX4_knownOrThrow_5 rfl hl (by decide) rfl (fun ls hl => ?_)
  refine lv_aload_nN hx hb dX4_knownOrThrow_6 rfl (lv_at hl 0 rfl) ?_
  refine lv_ifnonnullN hx hb dX4_knownOrThrow_7 ?_
  exact g_throw hx hb hlf hX hown (by decide +kernel) (by decide +kernel) (hts (.classLink RX4 90 "java/lang/IndexOutOfBoundsException") (List.mem_cons_of_mem _ (List.mem_append_left _ (List.mem_append_left _ (List.mem_append_left _ (List.mem_of_getElem? (i := 0) rfl)))))) (hts (.initialized "java/lang/IndexOutOfBoundsException") (List.mem_cons_of_mem _ (List.mem_append_left _ (List.mem_append_left _ (List.mem_append_left _ (List.mem_of_getElem? (i := 1) rfl)))))) (by decide +kernel : (216, "no such tune is known") ∈ gStr) (ha_X4_knownOrThrow_94 hX hts) (by decide +kernel) hS (hl.1.trans hml.symm) dX4_knownOrThrow_10 dX4_knownOrThrow_13 dX4_knownOrThrow_14 dX4_knownOrThrow_16 dX4_knownOrThrow_19 hxt (Nat.le_of_ble_eq_true rfl) (Nat.le_of_ble_eq_true rfl) (Nat.le_of_ble_eq_true rfl) (Nat.le_of_ble_eq_true rfl) hlocks (fun H1 hE => ⟨rfl, hE⟩) (Nat.le_of_ble_eq_true rfl) (Nat.le_of_ble_eq_true rfl)
set_option maxHeartbeats 4000000 in
set_option maxRecDepth 100000 in
theorem k_rE_ok (l : Launch) (G : gG) (A : Nat → Nat) (TA : Nat → Nat → Nat) (S : cS) (W9 : cWk) (H : Heap) (hC : Cat G A TA S W9 H) (hI : sInv S) (z1 z2 : Int) (i j : Nat) (hz1 : z1 = i) (hi : i < sn S) (hz2 : z2 = j) (hj : j < sn S) : gM l yX4_refuseUnlessEntered wsX4_refuseUnlessEntered rm_X4_refuseUnlessEntered [.ref (A 0), .int (zI z1), .int (zI z2)] G H (gv (fun H1 => H = H1)) (gNo) 2 12 := by
  obtain ⟨h0, h1, h2, h3, h4, h5, h6, hap⟩ := id hC
  have hn16 : sn S ≤ 16 := hI.1
  refine g_start (cc := cX4_refuseUnlessEntered) (maxL := 3) (ret := none) (by decide +kernel) rfl (Nat.le_of_ble_eq_true rfl) ?_
  intro p e s m args below meth c F ls hl
  obtain ⟨hx, hb, hml, hr, hts, hown, hlocks, hxt, hH, hX, hin⟩ := F
  have hown : s.vm.findClass RX4 = some m.cls := hown
  have hS : va_S (gA G) s.heap H [] := by rw [hH]; exact va_S.rf
  have hl : lv_has ls 3 [(0, .ref (A 0)), (1, .int (zI z1)), (2, .int (zI z2))] := hl
  refine lv_aload_n hx hb dX4_refuseUnlessEntered_0 rfl (lv_at hl 0 rfl) ?_
  refine lv_iload_n hx hb dX4_refuseUnlessEntered_1 rfl (lv_at hl 1 rfl) ?_
  refine g_goq (vx_runV (As := [.int (zI z1)]) (rest := []) ⟨hx, hb, hml, hown, hts⟩ (k_eT_ok l G A TA S W9 H hC hI z1 i hz1 hi) (cwV 1 hts gX4_refuseUnlessEntered_X4_enteredOrThrow rfl rfl rfl hd_X4_enteredOrThrow ⟨(Nat.le_of_ble_eq_true rfl), (Nat.le_of_ble_eq_true rfl)⟩) (g_preV hX hS (ci := 4) rfl h0) rfl rfl hl.1 rfl (lv_room (Nat.le_of_ble_eq_true rfl)) dX4_refuseUnlessEntered_2 ⟨(Nat.le_of_ble_eq_true rfl), (Nat.le_of_ble_eq_true rfl)⟩) hS (fun r_2 H_2 locs hp hS => ?_)
  obtain ⟨rfl, rfl⟩ := hp
  refine W.eq (g2 := F0 m 5 ls [.ref (TA i 0)]) rfl ?_
  refine lv_pop hx hb dX4_refuseUnlessEntered_5 rfl ?_
  refine lv_aload_n hx hb dX4_refuseUnlessEntered_6 rfl (lv_at hl 0 rfl) ?_
  refine lv_iload_n hx hb dX4_refuseUnlessEntered_7 rfl (lv_at hl 2 rfl) ?_
  refine g_goq (vx_runV (As := [.int (zI z2)]) (rest := []) ⟨hx, hb, hml, hown, hts⟩ (k_eT_ok l G A TA S W9 H hC hI z2 j hz2 hj) (cwV 1 hts gX4_refuseUnlessEntered_X4_enteredOrThrow rfl rfl rfl hd_X4_enteredOrThrow ⟨(Nat.le_of_ble_eq_true rfl), (Nat.le_of_ble_eq_true rfl)⟩) (g_preV hX hS (ci := 4) rfl h0) rfl rfl hl.1 rfl (lv_room (Nat.le_of_ble_eq_true rfl)) dX4_refuseUnlessEntered_8 ⟨(Nat.le_of_ble_eq_true rfl), (Nat.le_of_ble_eq_true rfl)⟩) hS (fun r_8 H_8 locs hp hS => ?_)
  obtain ⟨rfl, rfl⟩ := hp
  refine W.eq (g2 := F0 m 11 ls [.ref (TA j 0)]) rfl ?_
  refine lv_pop hx hb dX4_refuseUnlessEntered_11 rfl ?_
  exact g_retv hx hb hr hlocks hS (rfl) (Nat.le_of_ble_eq_true rfl) (Nat.le_of_ble_eq_true rfl) dX4_refuseUnlessEntered_12
set_option maxHeartbeats 4000000 in
set_option maxRecDepth 100000 in
theorem k_rE_no1 (l : Launch) (G : gG) (hlf : l.stackTraces = false) (A : Nat → Nat) (TA : Nat → Nat → Nat) (S : cS) (W9 : cWk) (H : Heap) (hC : Cat G A TA S W9 H) (hI : sInv S) (z1 z2 : Int) (hz : rI z1) (hi : ¬ (0 ≤ z1 ∧ z1 < sn S)) : gM l yX4_refuseUnlessEntered wsX4_refuseUnlessEntered rm_X4_refuseUnlessEntered [.ref (A 0), .int (zI z1), .int (zI z2)] G H (gF0) (gTh "java/lang/IndexOutOfBoundsException" H) 2 12 := by
  obtain ⟨h0, h1, h2, h3, h4, h5, h6, hap⟩ := id hC
  have hn16 : sn S ≤ 16 := hI.1
  refine g_start (cc := cX4_refuseUnlessEntered) (maxL := 3) (ret := none) (by decide +kernel) rfl (Nat.le_of_ble_eq_true rfl) ?_
  intro p e s m args below meth c F ls hl
  obtain ⟨hx, hb, hml, hr, hts, hown, hlocks, hxt, hH, hX, hin⟩ := F
  have hown : s.vm.findClass RX4 = some m.cls := hown
  have hS : va_S (gA G) s.heap H [] := by rw [hH]; exact va_S.rf
  have hl : lv_has ls 3 [(0, .ref (A 0)), (1, .int (zI z1)), (2, .int (zI z2))] := hl
  refine lv_aload_n hx hb dX4_refuseUnlessEntered_0 rfl (lv_at hl 0 rfl) ?_
  refine lv_iload_n hx hb dX4_refuseUnlessEntered_1 rfl (lv_at hl 1 rfl) ?_
  refine g_go (vx_runV (As := [.int (zI z1)]) (rest := []) ⟨hx, hb, hml, hown, hts⟩ (k_eT_no l G hlf A TA S W9 H hC hI z1 hz hi) (cwV 1 hts gX4_refuseUnlessEntered_X4_enteredOrThrow rfl rfl rfl hd_X4_enteredOrThrow ⟨(Nat.le_of_ble_eq_true rfl), (Nat.le_of_ble_eq_true rfl)⟩) (g_preV hX hS (ci := 4) rfl h0) rfl rfl hl.1 rfl (lv_room (Nat.le_of_ble_eq_true rfl)) dX4_refuseUnlessEntered_2 ⟨(Nat.le_of_ble_eq_true rfl), (Nat.le_of_ble_eq_true rfl)⟩) hS (fun E ce q9 H_2 locs hp hS hce hcv hcl => ?_) (fun v H1 locs h hS => h.elim)
  exact g_out hxt hlocks hS hce hcv hcl (hp) (Nat.le_of_ble_eq_true rfl) (Nat.le_of_ble_eq_true rfl)
set_option maxHeartbeats 4000000 in
set_option maxRecDepth 100000 in
theorem k_rE_no2 (l : Launch) (G : gG) (hlf : l.stackTraces = false) (A : Nat → Nat) (TA : Nat → Nat → Nat) (S : cS) (W9 : cWk) (H : Heap) (hC : Cat G A TA S W9 H) (hI : sInv S) (z1 z2 : Int) (i : Nat) (hz1 : z1 = i) (hi1 : i < sn S) (hz : rI z2) (hi : ¬ (0 ≤ z2 ∧ z2 < sn S)) : gM l yX4_refuseUnlessEntered wsX4_refuseUnlessEntered rm_X4_refuseUnlessEntered [.ref (A 0), .int (zI z1), .int (zI z2)] G H (gF0) (gTh "java/lang/IndexOutOfBoundsException" H) 2 12 := by
  obtain ⟨h0, h1, h2, h3, h4, h5, h6, hap⟩ := id hC
  have hn16 : sn S ≤ 16 := hI.1
  refine g_start (cc := cX4_refuseUnlessEntered) (maxL := 3) (ret := none) (by decide +kernel) rfl (Nat.le_of_ble_eq_true rfl) ?_
  intro p e s m args below meth c F ls hl
  obtain ⟨hx, hb, hml, hr, hts, hown, hlocks, hxt, hH, hX, hin⟩ := F
  have hown : s.vm.findClass RX4 = some m.cls := hown
  have hS : va_S (gA G) s.heap H [] := by rw [hH]; exact va_S.rf
  have hl : lv_has ls 3 [(0, .ref (A 0)), (1, .int (zI z1)), (2, .int (zI z2))] := hl
  refine lv_aload_n hx hb dX4_refuseUnlessEntered_0 rfl (lv_at hl 0 rfl) ?_
  refine lv_iload_n hx hb dX4_refuseUnlessEntered_1 rfl (lv_at hl 1 rfl) ?_
  refine g_goq (vx_runV (As := [.int (zI z1)]) (rest := []) ⟨hx, hb, hml, hown, hts⟩ (k_eT_ok l G A TA S W9 H hC hI z1 i hz1 hi1) (cwV 1 hts gX4_refuseUnlessEntered_X4_enteredOrThrow rfl rfl rfl hd_X4_enteredOrThrow ⟨(Nat.le_of_ble_eq_true rfl), (Nat.le_of_ble_eq_true rfl)⟩) (g_preV hX hS (ci := 4) rfl h0) rfl rfl hl.1 rfl (lv_room (Nat.le_of_ble_eq_true rfl)) dX4_refuseUnlessEntered_2 ⟨(Nat.le_of_ble_eq_true rfl), (Nat.le_of_ble_eq_true rfl)⟩) hS (fun r_2 H_2 locs hp hS => ?_)
  obtain ⟨rfl, rfl⟩ := hp
  refine W.eq (g2 := F0 m 5 ls [.ref (TA i 0)]) rfl ?_
  refine lv_pop hx hb dX4_refuseUnlessEntered_5 rfl ?_
  refine lv_aload_n hx hb dX4_refuseUnlessEntered_6 rfl (lv_at hl 0 rfl) ?_
  refine lv_iload_n hx hb dX4_refuseUnlessEntered_7 rfl (lv_at hl 2 rfl) ?_
  refine g_go (vx_runV (As := [.int (zI z2)]) (rest := []) ⟨hx, hb, hml, hown, hts⟩ (k_eT_no l G hlf A TA S W9 H hC hI z2 hz hi) (cwV 1 hts gX4_refuseUnlessEntered_X4_enteredOrThrow rfl rfl rfl hd_X4_enteredOrThrow ⟨(Nat.le_of_ble_eq_true rfl), (Nat.le_of_ble_eq_true rfl)⟩) (g_preV hX hS (ci := 4) rfl h0) rfl rfl hl.1 rfl (lv_room (Nat.le_of_ble_eq_true rfl)) dX4_refuseUnlessEntered_8 ⟨(Nat.le_of_ble_eq_true rfl), (Nat.le_of_ble_eq_true rfl)⟩) hS (fun E ce q9 H_8 locs hp hS hce hcv hcl => ?_) (fun v H1 locs h hS => h.elim)
  exact g_out hxt hlocks hS hce hcv hcl (hp) (Nat.le_of_ble_eq_true rfl) (Nat.le_of_ble_eq_true rfl)
theorem k_rE_no (l : Launch) (G : gG) (hlf : l.stackTraces = false) (A : Nat → Nat) (TA : Nat → Nat → Nat) (S : cS) (W9 : cWk) (H : Heap) (hC : Cat G A TA S W9 H) (hI : sInv S) (z1 z2 : Int) (hz1 : rI z1) (hz2 : rI z2) (h : ¬ ((0 ≤ z1 ∧ z1 < sn S) ∧ 0 ≤ z2 ∧ z2 < sn S)) : gM l yX4_refuseUnlessEntered wsX4_refuseUnlessEntered rm_X4_refuseUnlessEntered [.ref (A 0), .int (zI z1), .int (zI z2)] G H gF0 (gTh "java/lang/IndexOutOfBoundsException" H) 2 12 := by
  by_cases h1 : 0 ≤ z1 ∧ z1 < sn S
  · exact k_rE_no2 l G hlf A TA S W9 H hC hI z1 z2 z1.toNat (by omega) (by omega) hz2 (fun q => h ⟨h1, q⟩)
  · exact k_rE_no1 l G hlf A TA S W9 H hC hI z1 z2 hz1 h1
