/-! ===== TuneCatalogue: what its calls do ===== -/
def own (A : Nat → Nat) (TA : Nat → Nat → Nat) (n : Nat) (q : Nat) : Prop := (∃ k, k < 13 ∧ q = A k) ∨ ∃ i j, i < n ∧ j < 5 ∧ q = TA i j
def gKp (O : Nat → Prop) (H H1 : Heap) : Prop := H.size ≤ H1.size ∧ ∀ q : Nat, q < H.size → ¬ O q → H1[q]? = H[q]?
theorem gGrow.kp {O : Nat → Prop} {L : List Nat} {H H1 : Heap} (h : gGrow L H H1) (hL : ∀ q ∈ L, O q) : gKp O H H1 := ⟨h.1, fun q h1 h2 => h.2 q h1 (fun z => h2 (hL q z))⟩
theorem gExt.kp {O : Nat → Prop} {H H1 : Heap} (h : gExt H H1) : gKp O H H1 := ⟨h.1, fun q h1 _ => h.2 q h1⟩
theorem gKp.trans {O : Nat → Prop} {H H1 H2 : Heap} (a : gKp O H H1) (b : gKp O H1 H2) : gKp O H H2 := ⟨Nat.le_trans a.1 b.1, fun q h1 h2 => (b.2 q (Nat.lt_of_lt_of_le h1 a.1) h2).trans (a.2 q h1 h2)⟩
def XP (G : gG) (A : Nat → Nat) (TA : Nat → Nat → Nat) (S S2 : cS) (H H1 : Heap) : Prop := (∃ W, Cat G A TA S2 W H1) ∧ gKp (own A TA (sn S)) H H1
theorem XP.same {G : gG} {A : Nat → Nat} {TA : Nat → Nat → Nat} {S : cS} {W : cWk} {H H1 : Heap} (h : Cat G A TA S W H) (x : gExt H H1) : XP G A TA S S H H1 := ⟨⟨W, h.ext x⟩, x.kp⟩
theorem own.A {A : Nat → Nat} {TA : Nat → Nat → Nat} {n k : Nat} (h : k < 13) : own A TA n (A k) := Or.inl ⟨k, h, rfl⟩
theorem own.T {A : Nat → Nat} {TA : Nat → Nat → Nat} {n i j : Nat} (hi : i < n) (hj : j < 5) : own A TA n (TA i j) := Or.inr ⟨i, j, hi, hj, rfl⟩
def sAdd (S : cS) (p l : Int) : cS := (sn S + 1, va_up (stn S) (sn S) 1, up2 (stp S) (sn S) 0 p, up2 (stl S) (sn S) 0 l, S.2.2.2.2)
def sNote (S : cS) (i : Nat) (p l : Int) : cS := (sn S, va_up (stn S) i (stn S i + 1), up2 (stp S) i (stn S i) p, up2 (stl S) i (stn S i) l, S.2.2.2.2)
def sCorr (S : cS) (i k : Nat) (p l : Int) : cS := (sn S, stn S, up2 (stp S) i k p, up2 (stl S) i k l, S.2.2.2.2)
def shF (S : cS) (i : Nat) (by' : Int) (m : Nat) : Nat → Nat → Int := fun a b => if a = i ∧ b < m then stp S a b + by' else stp S a b
def sShift (S : cS) (i : Nat) (by' : Int) : cS := (sn S, stn S, shF S i by' (stn S i), S.2.2.2)
def sRet (S : cS) (i : Nat) : cS := (sn S, stn S, stp S, stl S, va_up (srt S) i true, S.2.2.2.2.2)
def sHum (S : cS) (p : Int) : cS := (sn S, stn S, stp S, stl S, srt S, shn S + 1, va_up (shf S) (shn S) p, S.2.2.2.2.2.2.2)
def sHush (S : cS) : cS := (sn S, stn S, stp S, stl S, srt S, 0, S.2.2.2.2.2.2)
def sCost (S : cS) (a b d : Int) : cS := (sn S, stn S, stp S, stl S, srt S, shn S, shf S, a, b, d, slk S)
def lkT (lk : Nat → Nat) (i j : Nat) : Nat → Nat := va_up (va_up lk i (lk i ^^^ 2 ^ j)) j (lk j ^^^ 2 ^ i)
def sLnk (S : cS) (i j : Nat) : cS := (sn S, stn S, stp S, stl S, srt S, shn S, shf S, ssl S, sor S, srp S, lkT (slk S) i j)
theorem Cat.tun {G : gG} {A : Nat → Nat} {TA : Nat → Nat → Nat} {S S2 : cS} {W : cWk} {H H1 : Heap} {L : List Nat} {i : Nat} (h : Cat G A TA S W H) (hi : i < sn S) (hg : gOnly L H H1) (hL : ∀ q ∈ L, ∃ j, j < 5 ∧ q = TA i j)
    (hT : Tun G (TA i) (stn S2 i) (stp S2 i) (stl S2 i) (srt S2 i) H1) (hn : sn S2 = sn S) (ho : ∀ k, k ≠ i → stn S2 k = stn S k ∧ stp S2 k = stp S k ∧ stl S2 k = stl S k ∧ srt S2 k = srt S k) (hr : S2.2.2.2.2.2 = S.2.2.2.2.2) : XP G A TA S S2 H H1 := by
  obtain ⟨h0, h1, h2, h3, h4, h5, h6, ap1, ap2, ap3, ap4⟩ := id h
  have nA : ∀ k, k < 13 → A k ∉ L := fun k hk hq => by
    obtain ⟨j, hj, e⟩ := hL _ hq
    exact ap2 i j k hi hj hk e.symm
  have nT : ∀ i2 j, i2 < sn S → i2 ≠ i → j < 5 → TA i2 j ∉ L := fun i2 j hi2 hne hj hq => by
    obtain ⟨j2, hj2, e⟩ := hL _ hq
    exact ap3 i2 i j j2 hi2 hi hj hj2 hne e
  have hM : Mat G (A 4) (A 2) (A 3) (A 5) (tX S 0) (wtb W) H1 := h2.only hg (nA 4 (by omega)) (nA 2 (by omega)) (nA 3 (by omega)) (nA 5 (by omega))
  have hK : Lnk G (A 6) (A 7) (A 8) (sn S) (slk S) H1 := ⟨h3.1.only hg (nA 6 (by omega)), h3.2.1.only hg (nA 7 (by omega)) (nA 8 (by omega)), h3.2.2⟩
  have hTs : ∀ k, k < sn S2 → Tun G (TA k) (stn S2 k) (stp S2 k) (stl S2 k) (srt S2 k) H1 := fun k hk => by
    rw [hn] at hk
    by_cases e : k = i
    · rw [e]; exact hT
    · obtain ⟨e1, e2, e3, e4⟩ := ho k e
      rw [e1, e2, e3, e4]
      exact (h6 k hk).grow hg.grow (fun j hj => nT k j hk e hj)
  refine ⟨⟨W, ?_, ?_, ?_, ?_, h4.only hg (nA 9 (by omega)) (nA 10 (by omega)), h5.only hg (nA 11 (by omega)) (nA 12 (by omega)), hTs, by rw [hn]; exact ⟨ap1, ap2, ap3, ap4⟩⟩, hg.grow.kp (fun q hq => by obtain ⟨j, hj, e⟩ := hL q hq; rw [e]; exact own.T hi hj)⟩
  · rw [hn]; exact h0.only hg (nA 0 (by omega))
  · rw [hn]; exact h1.only hg (nA 1 (by omega))
  · obtain ⟨n1, a1, b1, c1, d1, r1⟩ := S
    obtain ⟨n2, a2, b2, c2, d2, r2⟩ := S2
    dsimp only at hr
    subst hr
    exact hM
  · rw [hn, show slk S2 = slk S from by show S2.2.2.2.2.2.2.2.2.2.2 = S.2.2.2.2.2.2.2.2.2.2; rw [hr]]
    exact hK
theorem Cat.hum {G : gG} {A : Nat → Nat} {TA : Nat → Nat → Nat} {S : cS} {W : cWk} {H H1 : Heap} {L : List Nat} {n : Nat} {f : Nat → Int} (h : Cat G A TA S W H) (hg : gOnly L H H1) (hL : ∀ q ∈ L, q = A 2 ∨ q = A 3) (hR : gRow G (A 2) (A 3) 12 n (fun k => zI (f k)) H1) : XP G A TA S (sn S, stn S, stp S, stl S, srt S, n, f, S.2.2.2.2.2.2.2) H H1 := by
  have hL2 : ∀ q ∈ L, ∃ k, k < 13 ∧ (k == 2 || k == 3) = true ∧ q = A k := fun q hq => by
    rcases hL q hq with e | e
    · exact ⟨2, by omega, rfl, e⟩
    · exact ⟨3, by omega, rfl, e⟩
  obtain ⟨a0, a1, a2, a3, a4, a5, a6⟩ := h.rest hg.grow (fun k => k == 2 || k == 3) hL2
  obtain ⟨m1, m2, m3, m4⟩ := h.2.2.1
  have ap1 := h.2.2.2.2.2.2.2.1
  have nL : ∀ k, k < 13 → k ≠ 2 → k ≠ 3 → A k ∉ L := fun k hk n2 n3 hq => by
    rcases hL _ hq with e | e
    · exact ap1 k 2 hk (by omega) n2 e
    · exact ap1 k 3 hk (by omega) n3 e
  exact ⟨⟨W, a0 rfl, a1 rfl, ⟨m1.only hg (nL 4 (by omega) (by omega) (by omega)), hR, m3.only hg (nL 5 (by omega) (by omega) (by omega)), m4⟩, a3 rfl, a4 rfl, a5 rfl, a6, h.2.2.2.2.2.2.2⟩, hg.grow.kp (fun q hq => by rcases hL q hq with e | e <;> rw [e] <;> exact own.A (by omega))⟩
theorem Cat.costs {G : gG} {A : Nat → Nat} {TA : Nat → Nat → Nat} {S : cS} {W : cWk} {H H1 : Heap} {a b d : Int} (h : Cat G A TA S W H) (hg : gOnly [A 4] H H1) (hR : gat G (A 4) (.inr (1, [.ref (A 2), .int (zI a), .int (zI b), .int (zI d), .ref (A 5)])) H1) : XP G A TA S (sCost S a b d) H H1 := by
  obtain ⟨a0, a1, a2, a3, a4, a5, a6⟩ := h.rest hg.grow (fun k => k == 4) (fun q hq => ⟨4, by omega, rfl, List.mem_singleton.mp hq⟩)
  obtain ⟨m1, m2, m3, m4⟩ := h.2.2.1
  have ap1 := h.2.2.2.2.2.2.2.1
  exact ⟨⟨W, a0 rfl, a1 rfl, ⟨hR, m2.only hg (nm1 (ap1 2 4 (by omega) (by omega) (by omega))) (nm1 (ap1 3 4 (by omega) (by omega) (by omega))), m3.only hg (nm1 (ap1 5 4 (by omega) (by omega) (by omega))), m4⟩, a3 rfl, a4 rfl, a5 rfl, a6, h.2.2.2.2.2.2.2⟩, hg.grow.kp (fun q hq => by rw [List.mem_singleton.mp hq]; exact own.A (by omega))⟩
theorem Cat.links {G : gG} {A : Nat → Nat} {TA : Nat → Nat → Nat} {S : cS} {W : cWk} {H H1 : Heap} {lk : Nat → Nat} (h : Cat G A TA S W H) (hg : gOnly [A 7, A 8] H H1) (hR : Lnk G (A 6) (A 7) (A 8) (sn S) lk H1) : XP G A TA S (sn S, stn S, stp S, stl S, srt S, shn S, shf S, ssl S, sor S, srp S, lk) H H1 := by
  have hL : ∀ q ∈ [A 7, A 8], ∃ k, k < 13 ∧ (k == 7 || k == 8) = true ∧ q = A k := fun q hq => by
    simp only [List.mem_cons, List.not_mem_nil, or_false] at hq
    rcases hq with e | e
    · exact ⟨7, by omega, rfl, e⟩
    · exact ⟨8, by omega, rfl, e⟩
  obtain ⟨a0, a1, a2, a3, a4, a5, a6⟩ := h.rest hg.grow (fun k => k == 7 || k == 8) hL
  exact ⟨⟨W, a0 rfl, a1 rfl, a2 rfl, hR, a4 rfl, a5 rfl, a6, h.2.2.2.2.2.2.2⟩, hg.grow.kp (fun q hq => by obtain ⟨k, hk, -, e⟩ := hL q hq; rw [e]; exact own.A hk)⟩
set_option maxHeartbeats 4000000 in
set_option maxRecDepth 100000 in
theorem x_tunes (l : Launch) (G : gG) (A : Nat → Nat) (TA : Nat → Nat → Nat) (S : cS) (W9 : cWk) (H : Heap) (hC : Cat G A TA S W9 H) (hI : sInv S)  : gM l yX4_tunes wsX4_tunes rm_X4_tunes [.ref (A 0)] G H (gi (fun r H1 => zI (sn S) = r ∧ H = H1)) (gNo) 0 0 := by
  obtain ⟨h0, h1, h2, h3, h4, h5, h6, hap⟩ := id hC
  have hn16 : sn S ≤ 16 := hI.1
  refine g_start (cc := cX4_tunes) (maxL := 1) (ret := (some .int)) (by decide +kernel) rfl (Nat.le_of_ble_eq_true rfl) ?_
  intro p e s m args below meth c F ls hl
  obtain ⟨hx, hb, hml, hr, hts, hown, hlocks, hxt, hH, hX, hin⟩ := F
  have hown : s.vm.findClass RX4 = some m.cls := hown
  have hS : va_S (gA G) s.heap H [] := by rw [hH]; exact va_S.rf
  have hl : lv_has ls 1 [(0, .ref (A 0))] := hl
  refine lv_aload_n hx hb dX4_tunes_0 rfl (lv_at hl 0 rfl) ?_
  refine g_get hx hb hX hts (fun w h => (List.mem_cons_of_mem _ (List.mem_append_right _ h))) hown h0 rfl 1 (by decide) (hts (.fieldLink RX4 51 "TuneCatalogue" "entered" "I") (List.mem_cons_of_mem _ (List.mem_append_left _ (List.mem_of_getElem? (i := 0) rfl)))) rfl dX4_tunes_1 ?_
  exact g_reti hx hb hr hlocks hS rfl (⟨rfl, rfl⟩) (Nat.le_of_ble_eq_true rfl) (Nat.le_of_ble_eq_true rfl) dX4_tunes_4
set_option maxHeartbeats 4000000 in
set_option maxRecDepth 100000 in
theorem x_hummed (l : Launch) (G : gG) (A : Nat → Nat) (TA : Nat → Nat → Nat) (S : cS) (W9 : cWk) (H : Heap) (hC : Cat G A TA S W9 H) (hI : sInv S)  : gM l yX4_hummed wsX4_hummed rm_X4_hummed [.ref (A 0)] G H (gi (fun r H1 => zI (shn S) = r ∧ H = H1)) (gNo) 0 0 := by
  obtain ⟨h0, h1, h2, h3, h4, h5, h6, hap⟩ := id hC
  have hn16 : sn S ≤ 16 := hI.1
  refine g_start (cc := cX4_hummed) (maxL := 1) (ret := (some .int)) (by decide +kernel) rfl (Nat.le_of_ble_eq_true rfl) ?_
  intro p e s m args below meth c F ls hl
  obtain ⟨hx, hb, hml, hr, hts, hown, hlocks, hxt, hH, hX, hin⟩ := F
  have hown : s.vm.findClass RX4 = some m.cls := hown
  have hS : va_S (gA G) s.heap H [] := by rw [hH]; exact va_S.rf
  have hl : lv_has ls 1 [(0, .ref (A 0))] := hl
  refine lv_aload_n hx hb dX4_hummed_0 rfl (lv_at hl 0 rfl) ?_
  refine g_get hx hb hX hts (fun w h => (List.mem_cons_of_mem _ (List.mem_append_left _ (List.mem_append_right _ h)))) hown h0 rfl 3 (by decide) (hts (.fieldLink RX4 26 "TuneCatalogue" "humRow" "LTuneCatalogue$Row;") (List.mem_cons_of_mem _ (List.mem_append_left _ (List.mem_append_left _ (List.mem_of_getElem? (i := 0) rfl))))) rfl dX4_hummed_1 ?_
  refine g_goi (vx_runV (As := []) (rest := []) ⟨hx, hb, hml, hown, hts⟩ (k_size l G (A 2) (A 3) 12 (shn S) _ H h2.2.1) (cwV 0 hts gX4_hummed_X2_size rfl rfl rfl hd_X2_size ⟨(Nat.le_of_ble_eq_true rfl), (Nat.le_of_ble_eq_true rfl)⟩) (g_preV hX hS (ci := 2) rfl h2.2.1.1) rfl rfl hl.1 rfl (lv_room (Nat.le_of_ble_eq_true rfl)) dX4_hummed_4 ⟨(Nat.le_of_ble_eq_true rfl), (Nat.le_of_ble_eq_true rfl)⟩) hS (fun r_4 H_4 locs hp hS => ?_)
  obtain ⟨rfl, rfl⟩ := hp
  exact g_reti hx hb hr hlocks hS rfl (⟨rfl, rfl⟩) (Nat.le_of_ble_eq_true rfl) (Nat.le_of_ble_eq_true rfl) dX4_hummed_7
set_option maxHeartbeats 4000000 in
set_option maxRecDepth 100000 in
theorem x_notes_ok (l : Launch) (G : gG) (A : Nat → Nat) (TA : Nat → Nat → Nat) (S : cS) (W9 : cWk) (H : Heap) (hC : Cat G A TA S W9 H) (hI : sInv S) (z : Int) (i : Nat) (hz : z = i) (hi : i < sn S) : gM l yX4_notes wsX4_notes rm_X4_notes [.ref (A 0), .int (zI z)] G H (gi (fun r H1 => zI (stn S i) = r ∧ H = H1)) (gNo) 6 60 := by
  obtain ⟨h0, h1, h2, h3, h4, h5, h6, hap⟩ := id hC
  have hn16 : sn S ≤ 16 := hI.1
  obtain ⟨ht, hp1, hl1, gt, htd⟩ := id (h6 i hi)
  have hT := h6 i hi
  refine g_start (cc := cX4_notes) (maxL := 2) (ret := (some .int)) (by decide +kernel) rfl (Nat.le_of_ble_eq_true rfl) ?_
  intro p e s m args below meth c F ls hl
  obtain ⟨hx, hb, hml, hr, hts, hown, hlocks, hxt, hH, hX, hin⟩ := F
  have hown : s.vm.findClass RX4 = some m.cls := hown
  have hS : va_S (gA G) s.heap H [] := by rw [hH]; exact va_S.rf
  have hl : lv_has ls 2 [(0, .ref (A 0)), (1, .int (zI z))] := hl
  refine lv_aload_n hx hb dX4_notes_0 rfl (lv_at hl 0 rfl) ?_
  refine lv_iload_n hx hb dX4_notes_1 rfl (lv_at hl 1 rfl) ?_
  refine g_goq (vx_runV (As := [.int (zI z)]) (rest := []) ⟨hx, hb, hml, hown, hts⟩ (k_eT_ok l G A TA S W9 H hC hI z i hz hi) (cwV 1 hts gX4_notes_X4_enteredOrThrow rfl rfl rfl hd_X4_enteredOrThrow ⟨(Nat.le_of_ble_eq_true rfl), (Nat.le_of_ble_eq_true rfl)⟩) (g_preV hX hS (ci := 4) rfl h0) rfl rfl hl.1 rfl (lv_room (Nat.le_of_ble_eq_true rfl)) dX4_notes_2 ⟨(Nat.le_of_ble_eq_true rfl), (Nat.le_of_ble_eq_true rfl)⟩) hS (fun r_2 H_2 locs hp hS => ?_)
  obtain ⟨rfl, rfl⟩ := hp
  refine W.eq (g2 := F0 m 5 ls [.ref (TA i 0)]) rfl ?_
  refine g_goi (vx_runV (As := []) (rest := []) ⟨hx, hb, hml, hown, hts⟩ (k_Tune_size l G (TA i) (stn S i) (stp S i) (stl S i) (srt S i) H hT) (cwV 0 hts gX4_notes_X3_size rfl rfl rfl hd_X3_size ⟨(Nat.le_of_ble_eq_true rfl), (Nat.le_of_ble_eq_true rfl)⟩) (g_preV hX hS (ci := 3) rfl ht) rfl rfl hl.1 rfl (lv_room (Nat.le_of_ble_eq_true rfl)) dX4_notes_5 ⟨(Nat.le_of_ble_eq_true rfl), (Nat.le_of_ble_eq_true rfl)⟩) hS (fun r_5 H_5 locs hp hS => ?_)
  obtain ⟨rfl, rfl⟩ := hp
  exact g_reti hx hb hr hlocks hS rfl (⟨rfl, rfl⟩) (Nat.le_of_ble_eq_true rfl) (Nat.le_of_ble_eq_true rfl) dX4_notes_8
set_option maxHeartbeats 4000000 in
set_option maxRecDepth 100000 in
theorem x_notes_e1 (l : Launch) (G : gG) (hlf : l.stackTraces = false) (A : Nat → Nat) (TA : Nat → Nat → Nat) (S : cS) (W9 : cWk) (H : Heap) (hC : Cat G A TA S W9 H) (hI : sInv S) (z : Int) (hz : rI z) (hi : ¬ (0 ≤ z ∧ z < sn S)) : gM l yX4_notes wsX4_notes rm_X4_notes [.ref (A 0), .int (zI z)] G H (gF0) (gTh "java/lang/IndexOutOfBoundsException" H) 6 60 := by
  obtain ⟨h0, h1, h2, h3, h4, h5, h6, hap⟩ := id hC
  have hn16 : sn S ≤ 16 := hI.1
  refine g_start (cc := cX4_notes) (maxL := 2) (ret := (some .int)) (by decide +kernel) rfl (Nat.le_of_ble_eq_true rfl) ?_
  intro p e s m args below meth c F ls hl
  obtain ⟨hx, hb, hml, hr, hts, hown, hlocks, hxt, hH, hX, hin⟩ := F
  have hown : s.vm.findClass RX4 = some m.cls := hown
  have hS : va_S (gA G) s.heap H [] := by rw [hH]; exact va_S.rf
  have hl : lv_has ls 2 [(0, .ref (A 0)), (1, .int (zI z))] := hl
  refine lv_aload_n hx hb dX4_notes_0 rfl (lv_at hl 0 rfl) ?_
  refine lv_iload_n hx hb dX4_notes_1 rfl (lv_at hl 1 rfl) ?_
  refine g_go (vx_runV (As := [.int (zI z)]) (rest := []) ⟨hx, hb, hml, hown, hts⟩ (k_eT_no l G hlf A TA S W9 H hC hI z hz hi) (cwV 1 hts gX4_notes_X4_enteredOrThrow rfl rfl rfl hd_X4_enteredOrThrow ⟨(Nat.le_of_ble_eq_true rfl), (Nat.le_of_ble_eq_true rfl)⟩) (g_preV hX hS (ci := 4) rfl h0) rfl rfl hl.1 rfl (lv_room (Nat.le_of_ble_eq_true rfl)) dX4_notes_2 ⟨(Nat.le_of_ble_eq_true rfl), (Nat.le_of_ble_eq_true rfl)⟩) hS (fun E ce q9 H_2 locs hp hS hce hcv hcl => ?_) (fun v H1 locs h hS => h.elim)
  exact g_out hxt hlocks hS hce hcv hcl (hp) (Nat.le_of_ble_eq_true rfl) (Nat.le_of_ble_eq_true rfl)
set_option maxHeartbeats 4000000 in
set_option maxRecDepth 100000 in
theorem x_step_ok (l : Launch) (G : gG) (A : Nat → Nat) (TA : Nat → Nat → Nat) (S : cS) (W9 : cWk) (H : Heap) (hC : Cat G A TA S W9 H) (hI : sInv S) (z : Int) (i : Nat) (hz : z = i) (hi : i < sn S) (z2 : Int) (k : Nat) (hz2 : z2 = k) (hk : k + 1 < stn S i) : gM l yX4_step wsX4_step rm_X4_step [.ref (A 0), .int (zI z), .int (zI z2)] G H (gi (fun r H1 => zI (stp S i (k + 1) - stp S i k) = r ∧ H = H1)) (gNo) 6 60 := by
  obtain ⟨h0, h1, h2, h3, h4, h5, h6, hap⟩ := id hC
  have hn16 : sn S ≤ 16 := hI.1
  obtain ⟨ht, hp1, hl1, gt, htd⟩ := id (h6 i hi)
  have hT := h6 i hi
  have ht24 := (hI.2.1 i hi).2
  have ht1 := (hI.2.1 i hi).1
  refine g_start (cc := cX4_step) (maxL := 4) (ret := (some .int)) (by decide +kernel) rfl (Nat.le_of_ble_eq_true rfl) ?_
  intro p e s m args below meth c F ls hl
  obtain ⟨hx, hb, hml, hr, hts, hown, hlocks, hxt, hH, hX, hin⟩ := F
  have hown : s.vm.findClass RX4 = some m.cls := hown
  have hS : va_S (gA G) s.heap H [] := by rw [hH]; exact va_S.rf
  have hl : lv_has ls 4 [(0, .ref (A 0)), (1, .int (zI z)), (2, .int (zI z2))] := hl
  refine lv_aload_n hx hb dX4_step_0 rfl (lv_at hl 0 rfl) ?_
  refine lv_iload_n hx hb dX4_step_1 rfl (lv_at hl 1 rfl) ?_
  refine g_goq (vx_runV (As := [.int (zI z)]) (rest := []) ⟨hx, hb, hml, hown, hts⟩ (k_eT_ok l G A TA S W9 H hC hI z i hz hi) (cwV 1 hts gX4_step_X4_enteredOrThrow rfl rfl rfl hd_X4_enteredOrThrow ⟨(Nat.le_of_ble_eq_true rfl), (Nat.le_of_ble_eq_true rfl)⟩) (g_preV hX hS (ci := 4) rfl h0) rfl rfl hl.1 rfl (lv_room (Nat.le_of_ble_eq_true rfl)) dX4_step_2 ⟨(Nat.le_of_ble_eq_true rfl), (Nat.le_of_ble_eq_true rfl)⟩) hS (fun r_2 H_2 locs hp hS => ?_)
  obtain ⟨rfl, rfl⟩ := hp
  refine W.eq (g2 := F0 m 5 ls [.ref (TA i 0)]) rfl ?_
  refine lv_astore_n (lv' := [(3, .ref (TA i 0)), (0, .ref (A 0)), (1, .int (zI z)), (2, .int (zI z2))]) hx hb dX4_step_5 rfl hl (by decide) rfl (fun ls hl => ?_)
  refine lv_iload_n hx hb dX4_step_6 rfl (lv_at hl 3 rfl) ?_
  refine gz_if_lt (tgt := 20) hx hb ⟨by omega, by omega⟩ dX4_step_7 (by decide) (fun c_7 => ?_) (fun c_7 => ?_)
  · omega
  · refine lv_iload_n hx hb dX4_step_10 rfl (lv_at hl 3 rfl) ?_
    refine lv_aload_n hx hb dX4_step_11 rfl (lv_at hl 0 rfl) ?_
    refine g_goi (vx_runV (As := []) (rest := [.int (zI z2)]) ⟨hx, hb, hml, hown, hts⟩ (k_Tune_size l G (TA i) (stn S i) (stp S i) (stl S i) (srt S i) H hT) (cwV 0 hts gX4_step_X3_size rfl rfl rfl hd_X3_size ⟨(Nat.le_of_ble_eq_true rfl), (Nat.le_of_ble_eq_true rfl)⟩) (g_preV hX hS (ci := 3) rfl ht) rfl rfl hl.1 rfl (lv_room (Nat.le_of_ble_eq_true rfl)) dX4_step_12 ⟨(Nat.le_of_ble_eq_true rfl), (Nat.le_of_ble_eq_true rfl)⟩) hS (fun r_12 H_12 locs hp hS => ?_)
    obtain ⟨rfl, rfl⟩ := hp
    refine lv_iconst (v := zI 1) hx hb dX4_step_15 rfl ?_
    refine gz_isub hx hb dX4_step_16 ?_
    refine gz_icmp_lt (tgt := 30) hx hb ⟨by omega, by omega⟩ ⟨by omega, by omega⟩ dX4_step_17 (by decide) (fun c_17 => ?_) (fun c_17 => ?_)
    · refine lv_aload_n hx hb dX4_step_30 rfl (lv_at hl 0 rfl) ?_
      refine g_getN hx hb hX hts (fun w h => (List.mem_cons_of_mem _ (List.mem_append_left _ (List.mem_append_left _ (List.mem_append_left _ (List.mem_append_right _ h)))))) hown ht rfl 0 (by decide) (by decide +kernel : Cond.fieldLinkNest RX4 77 "TuneCatalogue$Tune" "pitches" "LTuneCatalogue$Row;" RX4 ∈ gNW) rfl dX4_step_31 ?_
      refine lv_iload_n hx hb dX4_step_34 rfl (lv_at hl 3 rfl) ?_
      refine g_goi (vx_runV (As := [.int (zI z2)]) (rest := []) ⟨hx, hb, hml, hown, hts⟩ (k_stepFrom l G (TA i 1) (TA i 2) 24 (stn S i) _ H hp1 z2 k hz2 hk) (cwV 1 hts gX4_step_X2_stepFrom rfl rfl rfl hd_X2_stepFrom ⟨(Nat.le_of_ble_eq_true rfl), (Nat.le_of_ble_eq_true rfl)⟩) (g_preV hX hS (ci := 2) rfl hp1.1) rfl rfl hl.1 rfl (lv_room (Nat.le_of_ble_eq_true rfl)) dX4_step_35 ⟨(Nat.le_of_ble_eq_true rfl), (Nat.le_of_ble_eq_true rfl)⟩) hS (fun r_35 H_35 locs hp hS => ?_)
      obtain ⟨rfl, rfl⟩ := hp
      exact g_reti hx hb hr hlocks hS rfl (⟨(zI_sub _ _).symm, rfl⟩) (Nat.le_of_ble_eq_true rfl) (Nat.le_of_ble_eq_true rfl) dX4_step_38
    · omega
set_option maxHeartbeats 4000000 in
set_option maxRecDepth 100000 in
theorem x_step_e1 (l : Launch) (G : gG) (hlf : l.stackTraces = false) (A : Nat → Nat) (TA : Nat → Nat → Nat) (S : cS) (W9 : cWk) (H : Heap) (hC : Cat G A TA S W9 H) (hI : sInv S) (z : Int) (hz : rI z) (hi : ¬ (0 ≤ z ∧ z < sn S)) (z2 : Int) (hz2 : rI z2)  : gM l yX4_step wsX4_step rm_X4_step [.ref (A 0), .int (zI z), .int (zI z2)] G H (gF0) (gTh "java/lang/IndexOutOfBoundsException" H) 6 60 := by
  obtain ⟨h0, h1, h2, h3, h4, h5, h6, hap⟩ := id hC
  have hn16 : sn S ≤ 16 := hI.1
  refine g_start (cc := cX4_step) (maxL := 4) (ret := (some .int)) (by decide +kernel) rfl (Nat.le_of_ble_eq_true rfl) ?_
  intro p e s m args below meth c F ls hl
  obtain ⟨hx, hb, hml, hr, hts, hown, hlocks, hxt, hH, hX, hin⟩ := F
  have hown : s.vm.findClass RX4 = some m.cls := hown
  have hS : va_S (gA G) s.heap H [] := by rw [hH]; exact va_S.rf
  have hl : lv_has ls 4 [(0, .ref (A 0)), (1, .int (zI z)), (2, .int (zI z2))] := hl
  refine lv_aload_n hx hb dX4_step_0 rfl (lv_at hl 0 rfl) ?_
  refine lv_iload_n hx hb dX4_step_1 rfl (lv_at hl 1 rfl) ?_
  refine g_go (vx_runV (As := [.int (zI z)]) (rest := []) ⟨hx, hb, hml, hown, hts⟩ (k_eT_no l G hlf A TA S W9 H hC hI z hz hi) (cwV 1 hts gX4_step_X4_enteredOrThrow rfl rfl rfl hd_X4_enteredOrThrow ⟨(Nat.le_of_ble_eq_true rfl), (Nat.le_of_ble_eq_true rfl)⟩) (g_preV hX hS (ci := 4) rfl h0) rfl rfl hl.1 rfl (lv_room (Nat.le_of_ble_eq_true rfl)) dX4_step_2 ⟨(Nat.le_of_ble_eq_true rfl), (Nat.le_of_ble_eq_true rfl)⟩) hS (fun E ce q9 H_2 locs hp hS hce hcv hcl => ?_) (fun v H1 locs h hS => h.elim)
  exact g_out hxt hlocks hS hce hcv hcl (hp) (Nat.le_of_ble_eq_true rfl) (Nat.le_of_ble_eq_true rfl)
set_option maxHeartbeats 4000000 in
set_option maxRecDepth 100000 in
theorem x_step_e2 (l : Launch) (G : gG) (hlf : l.stackTraces = false) (A : Nat → Nat) (TA : Nat → Nat → Nat) (S : cS) (W9 : cWk) (H : Heap) (hC : Cat G A TA S W9 H) (hI : sInv S) (z : Int) (i : Nat) (hz : z = i) (hi : i < sn S) (z2 : Int) (hz2 : rI z2) (hk : ¬ (0 ≤ z2 ∧ z2 < (stn S i : Int) - 1)) : gM l yX4_step wsX4_step rm_X4_step [.ref (A 0), .int (zI z), .int (zI z2)] G H (gF0) (gTh "java/lang/IndexOutOfBoundsException" H) 6 60 := by
  obtain ⟨h0, h1, h2, h3, h4, h5, h6, hap⟩ := id hC
  have hn16 : sn S ≤ 16 := hI.1
  obtain ⟨ht, hp1, hl1, gt, htd⟩ := id (h6 i hi)
  have hT := h6 i hi
  have ht24 := (hI.2.1 i hi).2
  have ht1 := (hI.2.1 i hi).1
  refine g_start (cc := cX4_step) (maxL := 4) (ret := (some .int)) (by decide +kernel) rfl (Nat.le_of_ble_eq_true rfl) ?_
  intro p e s m args below meth c F ls hl
  obtain ⟨hx, hb, hml, hr, hts, hown, hlocks, hxt, hH, hX, hin⟩ := F
  have hown : s.vm.findClass RX4 = some m.cls := hown
  have hS : va_S (gA G) s.heap H [] := by rw [hH]; exact va_S.rf
  have hl : lv_has ls 4 [(0, .ref (A 0)), (1, .int (zI z)), (2, .int (zI z2))] := hl
  refine lv_aload_n hx hb dX4_step_0 rfl (lv_at hl 0 rfl) ?_
  refine lv_iload_n hx hb dX4_step_1 rfl (lv_at hl 1 rfl) ?_
  refine g_goq (vx_runV (As := [.int (zI z)]) (rest := []) ⟨hx, hb, hml, hown, hts⟩ (k_eT_ok l G A TA S W9 H hC hI z i hz hi) (cwV 1 hts gX4_step_X4_enteredOrThrow rfl rfl rfl hd_X4_enteredOrThrow ⟨(Nat.le_of_ble_eq_true rfl), (Nat.le_of_ble_eq_true rfl)⟩) (g_preV hX hS (ci := 4) rfl h0) rfl rfl hl.1 rfl (lv_room (Nat.le_of_ble_eq_true rfl)) dX4_step_2 ⟨(Nat.le_of_ble_eq_true rfl), (Nat.le_of_ble_eq_true rfl)⟩) hS (fun r_2 H_2 locs hp hS => ?_)
  obtain ⟨rfl, rfl⟩ := hp
  refine W.eq (g2 := F0 m 5 ls [.ref (TA i 0)]) rfl ?_
  refine lv_astore_n (lv' := [(3, .ref (TA i 0)), (0, .ref (A 0)), (1, .int (zI z)), (2, .int (zI z2))]) hx hb dX4_step_5 rfl hl (by decide) rfl (fun ls hl => ?_)
  refine lv_iload_n hx hb dX4_step_6 rfl (lv_at hl 3 rfl) ?_
  refine gz_if_lt (tgt := 20) hx hb ⟨by omega, by omega⟩ dX4_step_7 (by decide) (fun c_7 => ?_) (fun c_7 => ?_)
  · exact g_throw hx hb hlf hX hown (by decide +kernel) (by decide +kernel) (hts (.classLink RX4 90 "java/lang/IndexOutOfBoundsException") (List.mem_cons_of_mem _ (List.mem_append_left _ (List.mem_append_left _ (List.mem_append_left _ (List.mem_append_left _ (List.mem_append_left _ (List.mem_of_getElem? (i := 0) rfl)))))))) (hts (.initialized "java/lang/IndexOutOfBoundsException") (List.mem_cons_of_mem _ (List.mem_append_left _ (List.mem_append_left _ (List.mem_append_left _ (List.mem_append_left _ (List.mem_append_left _ (List.mem_of_getElem? (i := 1) rfl)))))))) (by decide +kernel : (121, "the tune has no such note with a next one") ∈ gStr) (ha_X4_step_94 hX hts) (by decide +kernel) hS (hl.1.trans hml.symm) dX4_step_20 dX4_step_23 dX4_step_24 dX4_step_26 dX4_step_29 hxt (Nat.le_of_ble_eq_true rfl) (Nat.le_of_ble_eq_true rfl) (Nat.le_of_ble_eq_true rfl) (Nat.le_of_ble_eq_true rfl) hlocks (fun H1 hE => ⟨rfl, hE⟩) (Nat.le_of_ble_eq_true rfl) (Nat.le_of_ble_eq_true rfl)
  · refine lv_iload_n hx hb dX4_step_10 rfl (lv_at hl 3 rfl) ?_
    refine lv_aload_n hx hb dX4_step_11 rfl (lv_at hl 0 rfl) ?_
    refine g_goi (vx_runV (As := []) (rest := [.int (zI z2)]) ⟨hx, hb, hml, hown, hts⟩ (k_Tune_size l G (TA i) (stn S i) (stp S i) (stl S i) (srt S i) H hT) (cwV 0 hts gX4_step_X3_size rfl rfl rfl hd_X3_size ⟨(Nat.le_of_ble_eq_true rfl), (Nat.le_of_ble_eq_true rfl)⟩) (g_preV hX hS (ci := 3) rfl ht) rfl rfl hl.1 rfl (lv_room (Nat.le_of_ble_eq_true rfl)) dX4_step_12 ⟨(Nat.le_of_ble_eq_true rfl), (Nat.le_of_ble_eq_true rfl)⟩) hS (fun r_12 H_12 locs hp hS => ?_)
    obtain ⟨rfl, rfl⟩ := hp
    refine lv_iconst (v := zI 1) hx hb dX4_step_15 rfl ?_
    refine gz_isub hx hb dX4_step_16 ?_
    refine gz_icmp_lt (tgt := 30) hx hb ⟨by omega, by omega⟩ ⟨by omega, by omega⟩ dX4_step_17 (by decide) (fun c_17 => ?_) (fun c_17 => ?_)
    · omega
    · exact g_throw hx hb hlf hX hown (by decide +kernel) (by decide +kernel) (hts (.classLink RX4 90 "java/lang/IndexOutOfBoundsException") (List.mem_cons_of_mem _ (List.mem_append_left _ (List.mem_append_left _ (List.mem_append_left _ (List.mem_append_left _ (List.mem_append_left _ (List.mem_of_getElem? (i := 0) rfl)))))))) (hts (.initialized "java/lang/IndexOutOfBoundsException") (List.mem_cons_of_mem _ (List.mem_append_left _ (List.mem_append_left _ (List.mem_append_left _ (List.mem_append_left _ (List.mem_append_left _ (List.mem_of_getElem? (i := 1) rfl)))))))) (by decide +kernel : (121, "the tune has no such note with a next one") ∈ gStr) (ha_X4_step_94 hX hts) (by decide +kernel) hS (hl.1.trans hml.symm) dX4_step_20 dX4_step_23 dX4_step_24 dX4_step_26 dX4_step_29 hxt (Nat.le_of_ble_eq_true rfl) (Nat.le_of_ble_eq_true rfl) (Nat.le_of_ble_eq_true rfl) (Nat.le_of_ble_eq_true rfl) hlocks (fun H1 hE => ⟨rfl, hE⟩) (Nat.le_of_ble_eq_true rfl) (Nat.le_of_ble_eq_true rfl)
set_option maxHeartbeats 4000000 in
set_option maxRecDepth 100000 in
theorem x_note_ok (l : Launch) (G : gG) (A : Nat → Nat) (TA : Nat → Nat → Nat) (S : cS) (W9 : cWk) (H : Heap) (hC : Cat G A TA S W9 H) (hI : sInv S) (z : Int) (i : Nat) (hz : z = i) (hi : i < sn S)(hk : srt S i = false) (p1 l1 : Int) (hp0 : rI p1) (hl0 : rI l1) (hN : isN p1 l1) (h24 : stn S i < 24) : gM l yX4_note wsX4_note rm_X4_note [.ref (A 0), .int (zI z), .int (zI p1), .int (zI l1)] G H (gi (fun r H1 => zI ((stn S i + 1 : Nat) : Int) = r ∧ XP G A TA S (sNote S i p1 l1) H H1)) (gNo) 6 60 := by
  obtain ⟨h0, h1, h2, h3, h4, h5, h6, hap⟩ := id hC
  have hn16 : sn S ≤ 16 := hI.1
  obtain ⟨ht, hp1, hl1, gt, htd⟩ := id (h6 i hi)
  have hT := h6 i hi
  have ht24 := (hI.2.1 i hi).2
  have ht1 := (hI.2.1 i hi).1
  refine g_start (cc := cX4_note) (maxL := 5) (ret := (some .int)) (by decide +kernel) rfl (Nat.le_of_ble_eq_true rfl) ?_
  intro p e s m args below meth c F ls hl
  obtain ⟨hx, hb, hml, hr, hts, hown, hlocks, hxt, hH, hX, hin⟩ := F
  have hown : s.vm.findClass RX4 = some m.cls := hown
  have hS : va_S (gA G) s.heap H [] := by rw [hH]; exact va_S.rf
  have hl : lv_has ls 5 [(0, .ref (A 0)), (1, .int (zI z)), (2, .int (zI p1)), (3, .int (zI l1))] := hl
  refine lv_aload_n hx hb dX4_note_0 rfl (lv_at hl 0 rfl) ?_
  refine lv_iload_n hx hb dX4_note_1 rfl (lv_at hl 1 rfl) ?_
  refine g_goq (vx_runV (As := [.int (zI z)]) (rest := []) ⟨hx, hb, hml, hown, hts⟩ (k_kT_ok l G A TA S W9 H hC hI z i hz hi hk) (cwV 1 hts gX4_note_X4_knownOrThrow rfl rfl rfl hd_X4_knownOrThrow ⟨(Nat.le_of_ble_eq_true rfl), (Nat.le_of_ble_eq_true rfl)⟩) (g_preV hX hS (ci := 4) rfl h0) rfl rfl hl.1 rfl (lv_room (Nat.le_of_ble_eq_true rfl)) dX4_note_2 ⟨(Nat.le_of_ble_eq_true rfl), (Nat.le_of_ble_eq_true rfl)⟩) hS (fun r_2 H_2 locs hp hS => ?_)
  obtain ⟨rfl, rfl⟩ := hp
  refine W.eq (g2 := F0 m 5 ls [.ref (TA i 0)]) rfl ?_
  refine lv_astore (lv' := [(4, .ref (TA i 0)), (0, .ref (A 0)), (1, .int (zI z)), (2, .int (zI p1)), (3, .int (zI l1))]) hx hb dX4_note_5 hl (by decide) rfl (fun ls hl => ?_)
  refine lv_iload_n hx hb dX4_note_7 rfl (lv_at hl 3 rfl) ?_
  refine lv_iload_n hx hb dX4_note_8 rfl (lv_at hl 4 rfl) ?_
  refine g_gov (vx_runS (As := [.int (zI p1), .int (zI l1)]) (rest := []) ⟨hx, hb, hml, hown, hts⟩ (k_rN_ok l G H p1 l1 (by assumption) (by assumption) hN) (va_cwS 2 hts gX4_note_X4_refuseUnlessNote rfl rfl rfl hd_X4_refuseUnlessNote.2 ⟨(Nat.le_of_ble_eq_true rfl), (Nat.le_of_ble_eq_true rfl)⟩) (g_pre hX hS) rfl rfl hl.1 rfl (lv_room (Nat.le_of_ble_eq_true rfl)) dX4_note_9 ⟨(Nat.le_of_ble_eq_true rfl), (Nat.le_of_ble_eq_true rfl)⟩) hS (fun H_9 locs hp hS => ?_)
  subst hp
  refine lv_aload hx hb dX4_note_12 (lv_at hl 0 rfl) ?_
  refine g_getN hx hb hX hts (fun w h => (List.mem_cons_of_mem _ (List.mem_append_left _ (List.mem_append_left _ (List.mem_append_left _ (List.mem_append_left _ (List.mem_append_left _ (List.mem_append_right _ h)))))))) hown ht rfl 0 (by decide) (by decide +kernel : Cond.fieldLinkNest RX4 77 "TuneCatalogue$Tune" "pitches" "LTuneCatalogue$Row;" RX4 ∈ gNW) rfl dX4_note_14 ?_
  refine g_goi (vx_runV (As := []) (rest := []) ⟨hx, hb, hml, hown, hts⟩ (k_isFull l G (TA i 1) (TA i 2) 24 (stn S i) _ H hp1) (cwV 0 hts gX4_note_X2_isFull rfl rfl rfl hd_X2_isFull ⟨(Nat.le_of_ble_eq_true rfl), (Nat.le_of_ble_eq_true rfl)⟩) (g_preV hX hS (ci := 2) rfl hp1.1) rfl rfl hl.1 rfl (lv_room (Nat.le_of_ble_eq_true rfl)) dX4_note_17 ⟨(Nat.le_of_ble_eq_true rfl), (Nat.le_of_ble_eq_true rfl)⟩) hS (fun r_17 H_17 locs hp hS => ?_)
  obtain ⟨hv, rfl⟩ := hp
  rw [if_neg (by omega)] at hv
  subst hv
  refine W.eq (g2 := F0 m 20 ls [.int (zI 0)]) rfl ?_
  refine gz_if_eq (tgt := 33) hx hb (by decide) dX4_note_20 (by decide) (fun c_20 => ?_) (fun c_20 => ?_)
  · refine lv_aload hx hb dX4_note_33 (lv_at hl 0 rfl) ?_
    refine lv_iload_n hx hb dX4_note_35 rfl (lv_at hl 3 rfl) ?_
    refine lv_iload_n hx hb dX4_note_36 rfl (lv_at hl 4 rfl) ?_
    refine g_gov (vx_runV (As := [.int (zI p1), .int (zI l1)]) (rest := []) ⟨hx, hb, hml, hown, hts⟩ (k_Tune_append l G (TA i) (stn S i) (stp S i) (stl S i) (srt S i) H hT p1 l1 h24) (cwV 2 hts gX4_note_X3_append rfl rfl rfl hd_X3_append ⟨(Nat.le_of_ble_eq_true rfl), (Nat.le_of_ble_eq_true rfl)⟩) (g_preV hX hS (ci := 3) rfl ht) rfl rfl hl.1 rfl (lv_room (Nat.le_of_ble_eq_true rfl)) dX4_note_37 ⟨(Nat.le_of_ble_eq_true rfl), (Nat.le_of_ble_eq_true rfl)⟩) hS (fun H_37 locs hp hS => ?_)
    obtain ⟨hT2, hO2⟩ := hp
    have ht2 := hT2.1
    refine lv_aload hx hb dX4_note_40 (lv_at hl 0 rfl) ?_
    refine g_goi (vx_runV (As := []) (rest := []) ⟨hx, hb, hml, hown, hts⟩ (k_Tune_size l G (TA i) (stn S i + 1) _ _ (srt S i) H_37 hT2) (cwV 0 hts gX4_note_X3_size rfl rfl rfl hd_X3_size ⟨(Nat.le_of_ble_eq_true rfl), (Nat.le_of_ble_eq_true rfl)⟩) (g_preV hX hS (ci := 3) rfl ht2) rfl rfl hl.1 rfl (lv_room (Nat.le_of_ble_eq_true rfl)) dX4_note_42 ⟨(Nat.le_of_ble_eq_true rfl), (Nat.le_of_ble_eq_true rfl)⟩) hS (fun r_42 H_42 locs hp hS => ?_)
    obtain ⟨rfl, rfl⟩ := hp
    exact g_reti hx hb hr hlocks hS rfl (⟨rfl, hC.tun (S2 := sNote S i p1 l1) hi hO2 (by intro q hq; simp only [List.mem_cons, List.not_mem_nil, or_false] at hq; rcases hq with e | e | e | e; exact ⟨1, by omega, e⟩; exact ⟨2, by omega, e⟩; exact ⟨3, by omega, e⟩; exact ⟨4, by omega, e⟩) (by show Tun G (TA i) (va_up (stn S) i (stn S i + 1) i) (up2 (stp S) i (stn S i) p1 i) (up2 (stl S) i (stn S i) l1 i) (srt S i) _; rw [up2_at, up2_at, show va_up (stn S) i (stn S i + 1) i = stn S i + 1 from if_pos rfl]; exact hT2) rfl (fun k hk => ⟨if_neg hk, up2_ne _ _ _ hk, up2_ne _ _ _ hk, rfl⟩) rfl⟩) (Nat.le_of_ble_eq_true rfl) (Nat.le_of_ble_eq_true rfl) dX4_note_45
  · omega
set_option maxHeartbeats 4000000 in
set_option maxRecDepth 100000 in
theorem x_note_e1 (l : Launch) (G : gG) (hlf : l.stackTraces = false) (A : Nat → Nat) (TA : Nat → Nat → Nat) (S : cS) (W9 : cWk) (H : Heap) (hC : Cat G A TA S W9 H) (hI : sInv S) (z : Int) (hz : rI z) (hi : ¬ kwn S z) (p1 l1 : Int) : gM l yX4_note wsX4_note rm_X4_note [.ref (A 0), .int (zI z), .int (zI p1), .int (zI l1)] G H (gF0) (gTh "java/lang/IndexOutOfBoundsException" H) 6 60 := by
  obtain ⟨h0, h1, h2, h3, h4, h5, h6, hap⟩ := id hC
  have hn16 : sn S ≤ 16 := hI.1
  refine g_start (cc := cX4_note) (maxL := 5) (ret := (some .int)) (by decide +kernel) rfl (Nat.le_of_ble_eq_true rfl) ?_
  intro p e s m args below meth c F ls hl
  obtain ⟨hx, hb, hml, hr, hts, hown, hlocks, hxt, hH, hX, hin⟩ := F
  have hown : s.vm.findClass RX4 = some m.cls := hown
  have hS : va_S (gA G) s.heap H [] := by rw [hH]; exact va_S.rf
  have hl : lv_has ls 5 [(0, .ref (A 0)), (1, .int (zI z)), (2, .int (zI p1)), (3, .int (zI l1))] := hl
  refine lv_aload_n hx hb dX4_note_0 rfl (lv_at hl 0 rfl) ?_
  refine lv_iload_n hx hb dX4_note_1 rfl (lv_at hl 1 rfl) ?_
  refine g_go (vx_runV (As := [.int (zI z)]) (rest := []) ⟨hx, hb, hml, hown, hts⟩ (k_kT_no l G hlf A TA S W9 H hC hI z hz hi) (cwV 1 hts gX4_note_X4_knownOrThrow rfl rfl rfl hd_X4_knownOrThrow ⟨(Nat.le_of_ble_eq_true rfl), (Nat.le_of_ble_eq_true rfl)⟩) (g_preV hX hS (ci := 4) rfl h0) rfl rfl hl.1 rfl (lv_room (Nat.le_of_ble_eq_true rfl)) dX4_note_2 ⟨(Nat.le_of_ble_eq_true rfl), (Nat.le_of_ble_eq_true rfl)⟩) hS (fun E ce q9 H_2 locs hp hS hce hcv hcl => ?_) (fun v H1 locs h hS => h.elim)
  exact g_out hxt hlocks hS hce hcv hcl (hp) (Nat.le_of_ble_eq_true rfl) (Nat.le_of_ble_eq_true rfl)
set_option maxHeartbeats 4000000 in
set_option maxRecDepth 100000 in
theorem x_note_e2 (l : Launch) (G : gG) (hlf : l.stackTraces = false) (A : Nat → Nat) (TA : Nat → Nat → Nat) (S : cS) (W9 : cWk) (H : Heap) (hC : Cat G A TA S W9 H) (hI : sInv S) (z : Int) (i : Nat) (hz : z = i) (hi : i < sn S)(hk : srt S i = false) (p1 l1 : Int) (hp0 : rI p1) (hl0 : rI l1) (hN : ¬ isN p1 l1) : gM l yX4_note wsX4_note rm_X4_note [.ref (A 0), .int (zI z), .int (zI p1), .int (zI l1)] G H (gF0) (gTh "java/lang/IllegalArgumentException" H) 6 60 := by
  obtain ⟨h0, h1, h2, h3, h4, h5, h6, hap⟩ := id hC
  have hn16 : sn S ≤ 16 := hI.1
  obtain ⟨ht, hp1, hl1, gt, htd⟩ := id (h6 i hi)
  have hT := h6 i hi
  refine g_start (cc := cX4_note) (maxL := 5) (ret := (some .int)) (by decide +kernel) rfl (Nat.le_of_ble_eq_true rfl) ?_
  intro p e s m args below meth c F ls hl
  obtain ⟨hx, hb, hml, hr, hts, hown, hlocks, hxt, hH, hX, hin⟩ := F
  have hown : s.vm.findClass RX4 = some m.cls := hown
  have hS : va_S (gA G) s.heap H [] := by rw [hH]; exact va_S.rf
  have hl : lv_has ls 5 [(0, .ref (A 0)), (1, .int (zI z)), (2, .int (zI p1)), (3, .int (zI l1))] := hl
  refine lv_aload_n hx hb dX4_note_0 rfl (lv_at hl 0 rfl) ?_
  refine lv_iload_n hx hb dX4_note_1 rfl (lv_at hl 1 rfl) ?_
  refine g_goq (vx_runV (As := [.int (zI z)]) (rest := []) ⟨hx, hb, hml, hown, hts⟩ (k_kT_ok l G A TA S W9 H hC hI z i hz hi hk) (cwV 1 hts gX4_note_X4_knownOrThrow rfl rfl rfl hd_X4_knownOrThrow ⟨(Nat.le_of_ble_eq_true rfl), (Nat.le_of_ble_eq_true rfl)⟩) (g_preV hX hS (ci := 4) rfl h0) rfl rfl hl.1 rfl (lv_room (Nat.le_of_ble_eq_true rfl)) dX4_note_2 ⟨(Nat.le_of_ble_eq_true rfl), (Nat.le_of_ble_eq_true rfl)⟩) hS (fun r_2 H_2 locs hp hS => ?_)
  obtain ⟨rfl, rfl⟩ := hp
  refine W.eq (g2 := F0 m 5 ls [.ref (TA i 0)]) rfl ?_
  refine lv_astore (lv' := [(4, .ref (TA i 0)), (0, .ref (A 0)), (1, .int (zI z)), (2, .int (zI p1)), (3, .int (zI l1))]) hx hb dX4_note_5 hl (by decide) rfl (fun ls hl => ?_)
  refine lv_iload_n hx hb dX4_note_7 rfl (lv_at hl 3 rfl) ?_
  refine lv_iload_n hx hb dX4_note_8 rfl (lv_at hl 4 rfl) ?_
  refine g_go (vx_runS (As := [.int (zI p1), .int (zI l1)]) (rest := []) ⟨hx, hb, hml, hown, hts⟩ (k_rN_no l G hlf H p1 l1 (by assumption) (by assumption) hN) (va_cwS 2 hts gX4_note_X4_refuseUnlessNote rfl rfl rfl hd_X4_refuseUnlessNote.2 ⟨(Nat.le_of_ble_eq_true rfl), (Nat.le_of_ble_eq_true rfl)⟩) (g_pre hX hS) rfl rfl hl.1 rfl (lv_room (Nat.le_of_ble_eq_true rfl)) dX4_note_9 ⟨(Nat.le_of_ble_eq_true rfl), (Nat.le_of_ble_eq_true rfl)⟩) hS (fun E ce q9 H_9 locs hp hS hce hcv hcl => ?_) (fun v H1 locs h hS => h.elim)
  exact g_out hxt hlocks hS hce hcv hcl (hp) (Nat.le_of_ble_eq_true rfl) (Nat.le_of_ble_eq_true rfl)
set_option maxHeartbeats 4000000 in
set_option maxRecDepth 100000 in
theorem x_note_e3 (l : Launch) (G : gG) (hlf : l.stackTraces = false) (A : Nat → Nat) (TA : Nat → Nat → Nat) (S : cS) (W9 : cWk) (H : Heap) (hC : Cat G A TA S W9 H) (hI : sInv S) (z : Int) (i : Nat) (hz : z = i) (hi : i < sn S)(hk : srt S i = false) (p1 l1 : Int) (hp0 : rI p1) (hl0 : rI l1) (hN : isN p1 l1) (h24 : ¬ stn S i < 24) : gM l yX4_note wsX4_note rm_X4_note [.ref (A 0), .int (zI z), .int (zI p1), .int (zI l1)] G H (gF0) (gTh "java/lang/IllegalStateException" H) 6 60 := by
  obtain ⟨h0, h1, h2, h3, h4, h5, h6, hap⟩ := id hC
  have hn16 : sn S ≤ 16 := hI.1
  obtain ⟨ht, hp1, hl1, gt, htd⟩ := id (h6 i hi)
  have hT := h6 i hi
  have ht24 := (hI.2.1 i hi).2
  have ht1 := (hI.2.1 i hi).1
  refine g_start (cc := cX4_note) (maxL := 5) (ret := (some .int)) (by decide +kernel) rfl (Nat.le_of_ble_eq_true rfl) ?_
  intro p e s m args below meth c F ls hl
  obtain ⟨hx, hb, hml, hr, hts, hown, hlocks, hxt, hH, hX, hin⟩ := F
  have hown : s.vm.findClass RX4 = some m.cls := hown
  have hS : va_S (gA G) s.heap H [] := by rw [hH]; exact va_S.rf
  have hl : lv_has ls 5 [(0, .ref (A 0)), (1, .int (zI z)), (2, .int (zI p1)), (3, .int (zI l1))] := hl
  refine lv_aload_n hx hb dX4_note_0 rfl (lv_at hl 0 rfl) ?_
  refine lv_iload_n hx hb dX4_note_1 rfl (lv_at hl 1 rfl) ?_
  refine g_goq (vx_runV (As := [.int (zI z)]) (rest := []) ⟨hx, hb, hml, hown, hts⟩ (k_kT_ok l G A TA S W9 H hC hI z i hz hi hk) (cwV 1 hts gX4_note_X4_knownOrThrow rfl rfl rfl hd_X4_knownOrThrow ⟨(Nat.le_of_ble_eq_true rfl), (Nat.le_of_ble_eq_true rfl)⟩) (g_preV hX hS (ci := 4) rfl h0) rfl rfl hl.1 rfl (lv_room (Nat.le_of_ble_eq_true rfl)) dX4_note_2 ⟨(Nat.le_of_ble_eq_true rfl), (Nat.le_of_ble_eq_true rfl)⟩) hS (fun r_2 H_2 locs hp hS => ?_)
  obtain ⟨rfl, rfl⟩ := hp
  refine W.eq (g2 := F0 m 5 ls [.ref (TA i 0)]) rfl ?_
  refine lv_astore (lv' := [(4, .ref (TA i 0)), (0, .ref (A 0)), (1, .int (zI z)), (2, .int (zI p1)), (3, .int (zI l1))]) hx hb dX4_note_5 hl (by decide) rfl (fun ls hl => ?_)
  refine lv_iload_n hx hb dX4_note_7 rfl (lv_at hl 3 rfl) ?_
  refine lv_iload_n hx hb dX4_note_8 rfl (lv_at hl 4 rfl) ?_
  refine g_gov (vx_runS (As := [.int (zI p1), .int (zI l1)]) (rest := []) ⟨hx, hb, hml, hown, hts⟩ (k_rN_ok l G H p1 l1 (by assumption) (by assumption) hN) (va_cwS 2 hts gX4_note_X4_refuseUnlessNote rfl rfl rfl hd_X4_refuseUnlessNote.2 ⟨(Nat.le_of_ble_eq_true rfl), (Nat.le_of_ble_eq_true rfl)⟩) (g_pre hX hS) rfl rfl hl.1 rfl (lv_room (Nat.le_of_ble_eq_true rfl)) dX4_note_9 ⟨(Nat.le_of_ble_eq_true rfl), (Nat.le_of_ble_eq_true rfl)⟩) hS (fun H_9 locs hp hS => ?_)
  subst hp
  refine lv_aload hx hb dX4_note_12 (lv_at hl 0 rfl) ?_
  refine g_getN hx hb hX hts (fun w h => (List.mem_cons_of_mem _ (List.mem_append_left _ (List.mem_append_left _ (List.mem_append_left _ (List.mem_append_left _ (List.mem_append_left _ (List.mem_append_right _ h)))))))) hown ht rfl 0 (by decide) (by decide +kernel : Cond.fieldLinkNest RX4 77 "TuneCatalogue$Tune" "pitches" "LTuneCatalogue$Row;" RX4 ∈ gNW) rfl dX4_note_14 ?_
  refine g_goi (vx_runV (As := []) (rest := []) ⟨hx, hb, hml, hown, hts⟩ (k_isFull l G (TA i 1) (TA i 2) 24 (stn S i) _ H hp1) (cwV 0 hts gX4_note_X2_isFull rfl rfl rfl hd_X2_isFull ⟨(Nat.le_of_ble_eq_true rfl), (Nat.le_of_ble_eq_true rfl)⟩) (g_preV hX hS (ci := 2) rfl hp1.1) rfl rfl hl.1 rfl (lv_room (Nat.le_of_ble_eq_true rfl)) dX4_note_17 ⟨(Nat.le_of_ble_eq_true rfl), (Nat.le_of_ble_eq_true rfl)⟩) hS (fun r_17 H_17 locs hp hS => ?_)
  obtain ⟨hv, rfl⟩ := hp
  rw [if_pos (by omega)] at hv
  subst hv
  refine W.eq (g2 := F0 m 20 ls [.int (zI 1)]) rfl ?_
  refine gz_if_eq (tgt := 33) hx hb (by decide) dX4_note_20 (by decide) (fun c_20 => ?_) (fun c_20 => ?_)
  · omega
  · exact g_throw hx hb hlf hX hown (by decide +kernel) (by decide +kernel) (hts (.classLink RX4 59 "java/lang/IllegalStateException") (List.mem_cons_of_mem _ (List.mem_append_left _ (List.mem_append_left _ (List.mem_append_left _ (List.mem_append_left _ (List.mem_append_left _ (List.mem_append_left _ (List.mem_append_left _ (List.mem_of_getElem? (i := 0) rfl)))))))))) (hts (.initialized "java/lang/IllegalStateException") (List.mem_cons_of_mem _ (List.mem_append_left _ (List.mem_append_left _ (List.mem_append_left _ (List.mem_append_left _ (List.mem_append_left _ (List.mem_append_left _ (List.mem_append_left _ (List.mem_of_getElem? (i := 1) rfl)))))))))) (by decide +kernel : (84, "the tune has as many notes as it may have") ∈ gStr) (ha_X4_note_63 hX hts) (by decide +kernel) hS (hl.1.trans hml.symm) dX4_note_23 dX4_note_26 dX4_note_27 dX4_note_29 dX4_note_32 hxt (Nat.le_of_ble_eq_true rfl) (Nat.le_of_ble_eq_true rfl) (Nat.le_of_ble_eq_true rfl) (Nat.le_of_ble_eq_true rfl) hlocks (fun H1 hE => ⟨rfl, hE⟩) (Nat.le_of_ble_eq_true rfl) (Nat.le_of_ble_eq_true rfl)
set_option maxHeartbeats 4000000 in
set_option maxRecDepth 100000 in
theorem x_correct_ok (l : Launch) (G : gG) (A : Nat → Nat) (TA : Nat → Nat → Nat) (S : cS) (W9 : cWk) (H : Heap) (hC : Cat G A TA S W9 H) (hI : sInv S) (z : Int) (i : Nat) (hz : z = i) (hi : i < sn S)(hk : srt S i = false) (z2 p1 l1 : Int) (hz20 : rI z2) (hp0 : rI p1) (hl0 : rI l1) (k : Nat) (hz2 : z2 = k) (hk2 : k < stn S i) (hN : isN p1 l1) : gM l yX4_correct wsX4_correct rm_X4_correct [.ref (A 0), .int (zI z), .int (zI z2), .int (zI p1), .int (zI l1)] G H (gi (fun r H1 => zI (stp S i k) = r ∧ XP G A TA S (sCorr S i k p1 l1) H H1)) (gNo) 6 60 := by
  obtain ⟨h0, h1, h2, h3, h4, h5, h6, hap⟩ := id hC
  have hn16 : sn S ≤ 16 := hI.1
  obtain ⟨ht, hp1, hl1, gt, htd⟩ := id (h6 i hi)
  have hT := h6 i hi
  have ht24 := (hI.2.1 i hi).2
  have ht1 := (hI.2.1 i hi).1
  have n31 : TA i 3 ≠ TA i 2 := htd 3 2 (by omega) (by omega) (by omega)
  have n42 : TA i 4 ≠ TA i 2 := htd 4 2 (by omega) (by omega) (by omega)
  have n02 : TA i 0 ≠ TA i 2 := htd 0 2 (by omega) (by omega) (by omega)
  have n04 : TA i 0 ≠ TA i 4 := htd 0 4 (by omega) (by omega) (by omega)
  have n14 : TA i 1 ≠ TA i 4 := htd 1 4 (by omega) (by omega) (by omega)
  refine g_start (cc := cX4_correct) (maxL := 7) (ret := (some .int)) (by decide +kernel) rfl (Nat.le_of_ble_eq_true rfl) ?_
  intro p e s m args below meth c F ls hl
  obtain ⟨hx, hb, hml, hr, hts, hown, hlocks, hxt, hH, hX, hin⟩ := F
  have hown : s.vm.findClass RX4 = some m.cls := hown
  have hS : va_S (gA G) s.heap H [] := by rw [hH]; exact va_S.rf
  have hl : lv_has ls 7 [(0, .ref (A 0)), (1, .int (zI z)), (2, .int (zI z2)), (3, .int (zI p1)), (4, .int (zI l1))] := hl
  refine lv_aload_n hx hb dX4_correct_0 rfl (lv_at hl 0 rfl) ?_
  refine lv_iload_n hx hb dX4_correct_1 rfl (lv_at hl 1 rfl) ?_
  refine g_goq (vx_runV (As := [.int (zI z)]) (rest := []) ⟨hx, hb, hml, hown, hts⟩ (k_kT_ok l G A TA S W9 H hC hI z i hz hi hk) (cwV 1 hts gX4_correct_X4_knownOrThrow rfl rfl rfl hd_X4_knownOrThrow ⟨(Nat.le_of_ble_eq_true rfl), (Nat.le_of_ble_eq_true rfl)⟩) (g_preV hX hS (ci := 4) rfl h0) rfl rfl hl.1 rfl (lv_room (Nat.le_of_ble_eq_true rfl)) dX4_correct_2 ⟨(Nat.le_of_ble_eq_true rfl), (Nat.le_of_ble_eq_true rfl)⟩) hS (fun r_2 H_2 locs hp hS => ?_)
  obtain ⟨rfl, rfl⟩ := hp
  refine W.eq (g2 := F0 m 5 ls [.ref (TA i 0)]) rfl ?_
  refine lv_astore (lv' := [(5, .ref (TA i 0)), (0, .ref (A 0)), (1, .int (zI z)), (2, .int (zI z2)), (3, .int (zI p1)), (4, .int (zI l1))]) hx hb dX4_correct_5 hl (by decide) rfl (fun ls hl => ?_)
  refine lv_iload_n hx hb dX4_correct_7 rfl (lv_at hl 3 rfl) ?_
  refine gz_if_lt (tgt := 20) hx hb ⟨by omega, by omega⟩ dX4_correct_8 (by decide) (fun c_8 => ?_) (fun c_8 => ?_)
  · omega
  · refine lv_iload_n hx hb dX4_correct_11 rfl (lv_at hl 3 rfl) ?_
    refine lv_aload hx hb dX4_correct_12 (lv_at hl 0 rfl) ?_
    refine g_goi (vx_runV (As := []) (rest := [.int (zI z2)]) ⟨hx, hb, hml, hown, hts⟩ (k_Tune_size l G (TA i) (stn S i) (stp S i) (stl S i) (srt S i) H hT) (cwV 0 hts gX4_correct_X3_size rfl rfl rfl hd_X3_size ⟨(Nat.le_of_ble_eq_true rfl), (Nat.le_of_ble_eq_true rfl)⟩) (g_preV hX hS (ci := 3) rfl ht) rfl rfl hl.1 rfl (lv_room (Nat.le_of_ble_eq_true rfl)) dX4_correct_14 ⟨(Nat.le_of_ble_eq_true rfl), (Nat.le_of_ble_eq_true rfl)⟩) hS (fun r_14 H_14 locs hp hS => ?_)
    obtain ⟨rfl, rfl⟩ := hp
    refine gz_icmp_lt (tgt := 30) hx hb ⟨by omega, by omega⟩ ⟨by omega, by omega⟩ dX4_correct_17 (by decide) (fun c_17 => ?_) (fun c_17 => ?_)
    · refine lv_iload_n hx hb dX4_correct_30 rfl (lv_at hl 4 rfl) ?_
      refine lv_iload hx hb dX4_correct_31 (lv_at hl 5 rfl) ?_
      refine g_gov (vx_runS (As := [.int (zI p1), .int (zI l1)]) (rest := []) ⟨hx, hb, hml, hown, hts⟩ (k_rN_ok l G H p1 l1 (by assumption) (by assumption) hN) (va_cwS 2 hts gX4_correct_X4_refuseUnlessNote rfl rfl rfl hd_X4_refuseUnlessNote.2 ⟨(Nat.le_of_ble_eq_true rfl), (Nat.le_of_ble_eq_true rfl)⟩) (g_pre hX hS) rfl rfl hl.1 rfl (lv_room (Nat.le_of_ble_eq_true rfl)) dX4_correct_33 ⟨(Nat.le_of_ble_eq_true rfl), (Nat.le_of_ble_eq_true rfl)⟩) hS (fun H_33 locs hp hS => ?_)
      subst hp
      refine lv_aload hx hb dX4_correct_36 (lv_at hl 0 rfl) ?_
      refine g_getN hx hb hX hts (fun w h => (List.mem_cons_of_mem _ (List.mem_append_left _ (List.mem_append_left _ (List.mem_append_left _ (List.mem_append_left _ (List.mem_append_right _ h))))))) hown ht rfl 0 (by decide) (by decide +kernel : Cond.fieldLinkNest RX4 77 "TuneCatalogue$Tune" "pitches" "LTuneCatalogue$Row;" RX4 ∈ gNW) rfl dX4_correct_38 ?_
      refine lv_iload_n hx hb dX4_correct_41 rfl (lv_at hl 3 rfl) ?_
      refine g_goi (vx_runV (As := [.int (zI z2)]) (rest := []) ⟨hx, hb, hml, hown, hts⟩ (k_at l G (TA i 1) (TA i 2) 24 (stn S i) _ H hp1 z2 k hz2 hk2) (cwV 1 hts gX4_correct_X2_at rfl rfl rfl hd_X2_at ⟨(Nat.le_of_ble_eq_true rfl), (Nat.le_of_ble_eq_true rfl)⟩) (g_preV hX hS (ci := 2) rfl hp1.1) rfl rfl hl.1 rfl (lv_room (Nat.le_of_ble_eq_true rfl)) dX4_correct_42 ⟨(Nat.le_of_ble_eq_true rfl), (Nat.le_of_ble_eq_true rfl)⟩) hS (fun r_42 H_42 locs hp hS => ?_)
      obtain ⟨rfl, rfl⟩ := hp
      refine lv_istore (lv' := [(6, .int (zI (stp S i k))), (5, .ref (TA i 0)), (0, .ref (A 0)), (1, .int (zI z)), (2, .int (zI z2)), (3, .int (zI p1)), (4, .int (zI l1))]) hx hb dX4_correct_45 hl (by decide) rfl (fun ls hl => ?_)
      refine lv_aload hx hb dX4_correct_47 (lv_at hl 1 rfl) ?_
      refine g_getN hx hb hX hts (fun w h => (List.mem_cons_of_mem _ (List.mem_append_left _ (List.mem_append_left _ (List.mem_append_left _ (List.mem_append_left _ (List.mem_append_right _ h))))))) hown ht rfl 0 (by decide) (by decide +kernel : Cond.fieldLinkNest RX4 77 "TuneCatalogue$Tune" "pitches" "LTuneCatalogue$Row;" RX4 ∈ gNW) rfl dX4_correct_49 ?_
      refine lv_iload_n hx hb dX4_correct_52 rfl (lv_at hl 4 rfl) ?_
      refine lv_iload_n hx hb dX4_correct_53 rfl (lv_at hl 5 rfl) ?_
      refine g_gov (vx_runV (As := [.int (zI z2), .int (zI p1)]) (rest := []) ⟨hx, hb, hml, hown, hts⟩ (k_put l G (TA i 1) (TA i 2) 24 (stn S i) _ H hp1 z2 k (zI p1) hz2 hk2) (cwV 2 hts gX4_correct_X2_put rfl rfl rfl hd_X2_put ⟨(Nat.le_of_ble_eq_true rfl), (Nat.le_of_ble_eq_true rfl)⟩) (g_preV hX hS (ci := 2) rfl hp1.1) rfl rfl hl.1 rfl (lv_room (Nat.le_of_ble_eq_true rfl)) dX4_correct_54 ⟨(Nat.le_of_ble_eq_true rfl), (Nat.le_of_ble_eq_true rfl)⟩) hS (fun H_54 locs hp hS => ?_)
      obtain ⟨hp2, hO1⟩ := hp
      rw [zup] at hp2
      have ht := ht.only1 hO1 n02
      have hl2 := hl1.only hO1 (nm1 n31) (nm1 n42)
      refine lv_aload hx hb dX4_correct_57 (lv_at hl 1 rfl) ?_
      refine g_getN hx hb hX hts (fun w h => (List.mem_cons_of_mem _ (List.mem_append_left _ (List.mem_append_left _ (List.mem_append_left _ (List.mem_append_left _ (List.mem_append_right _ h))))))) hown ht rfl 1 (by decide) (by decide +kernel : Cond.fieldLinkNest RX4 102 "TuneCatalogue$Tune" "lengths" "LTuneCatalogue$Row;" RX4 ∈ gNW) rfl dX4_correct_59 ?_
      refine lv_iload_n hx hb dX4_correct_62 rfl (lv_at hl 4 rfl) ?_
      refine lv_iload hx hb dX4_correct_63 (lv_at hl 6 rfl) ?_
      refine g_gov (vx_runV (As := [.int (zI z2), .int (zI l1)]) (rest := []) ⟨hx, hb, hml, hown, hts⟩ (k_put l G (TA i 3) (TA i 4) 24 (stn S i) _ H_54 hl2 z2 k (zI l1) hz2 hk2) (cwV 2 hts gX4_correct_X2_put rfl rfl rfl hd_X2_put ⟨(Nat.le_of_ble_eq_true rfl), (Nat.le_of_ble_eq_true rfl)⟩) (g_preV hX hS (ci := 2) rfl hl2.1) rfl rfl hl.1 rfl (lv_room (Nat.le_of_ble_eq_true rfl)) dX4_correct_65 ⟨(Nat.le_of_ble_eq_true rfl), (Nat.le_of_ble_eq_true rfl)⟩) hS (fun H_65 locs hp hS => ?_)
      obtain ⟨hl3, hO2⟩ := hp
      rw [zup] at hl3
      have ht := ht.only1 hO2 n04
      have hp3 := hp2.only hO2 (nm1 n14) (nm1 (Ne.symm n42))
      have hO := hO1.trans (L3 := [TA i 2, TA i 4]) hO2 (by intro q h; simp only [List.mem_cons, List.not_mem_nil, or_false] at h ⊢; omega) (by intro q h; simp only [List.mem_cons, List.not_mem_nil, or_false] at h ⊢; omega)
      refine lv_iload hx hb dX4_correct_68 (lv_at hl 0 rfl) ?_
      exact g_reti hx hb hr hlocks hS rfl (⟨rfl, hC.tun (S2 := sCorr S i k p1 l1) hi hO (by intro q hq; simp only [List.mem_cons, List.not_mem_nil, or_false] at hq; rcases hq with e | e; exact ⟨2, by omega, e⟩; exact ⟨4, by omega, e⟩) (by show Tun G (TA i) (stn S i) (up2 (stp S) i k p1 i) (up2 (stl S) i k l1 i) (srt S i) _; rw [up2_at, up2_at]; exact ⟨ht, hp3, hl3, gt, htd⟩) rfl (fun k2 hk => ⟨rfl, up2_ne _ _ _ hk, up2_ne _ _ _ hk, rfl⟩) rfl⟩) (Nat.le_of_ble_eq_true rfl) (Nat.le_of_ble_eq_true rfl) dX4_correct_70
    · omega
set_option maxHeartbeats 4000000 in
set_option maxRecDepth 100000 in
theorem x_correct_e1 (l : Launch) (G : gG) (hlf : l.stackTraces = false) (A : Nat → Nat) (TA : Nat → Nat → Nat) (S : cS) (W9 : cWk) (H : Heap) (hC : Cat G A TA S W9 H) (hI : sInv S) (z : Int) (hz : rI z) (hi : ¬ kwn S z) (z2 p1 l1 : Int) : gM l yX4_correct wsX4_correct rm_X4_correct [.ref (A 0), .int (zI z), .int (zI z2), .int (zI p1), .int (zI l1)] G H (gF0) (gTh "java/lang/IndexOutOfBoundsException" H) 6 60 := by
  obtain ⟨h0, h1, h2, h3, h4, h5, h6, hap⟩ := id hC
  have hn16 : sn S ≤ 16 := hI.1
  refine g_start (cc := cX4_correct) (maxL := 7) (ret := (some .int)) (by decide +kernel) rfl (Nat.le_of_ble_eq_true rfl) ?_
  intro p e s m args below meth c F ls hl
  obtain ⟨hx, hb, hml, hr, hts, hown, hlocks, hxt, hH, hX, hin⟩ := F
  have hown : s.vm.findClass RX4 = some m.cls := hown
  have hS : va_S (gA G) s.heap H [] := by rw [hH]; exact va_S.rf
  have hl : lv_has ls 7 [(0, .ref (A 0)), (1, .int (zI z)), (2, .int (zI z2)), (3, .int (zI p1)), (4, .int (zI l1))] := hl
  refine lv_aload_n hx hb dX4_correct_0 rfl (lv_at hl 0 rfl) ?_
  refine lv_iload_n hx hb dX4_correct_1 rfl (lv_at hl 1 rfl) ?_
  refine g_go (vx_runV (As := [.int (zI z)]) (rest := []) ⟨hx, hb, hml, hown, hts⟩ (k_kT_no l G hlf A TA S W9 H hC hI z hz hi) (cwV 1 hts gX4_correct_X4_knownOrThrow rfl rfl rfl hd_X4_knownOrThrow ⟨(Nat.le_of_ble_eq_true rfl), (Nat.le_of_ble_eq_true rfl)⟩) (g_preV hX hS (ci := 4) rfl h0) rfl rfl hl.1 rfl (lv_room (Nat.le_of_ble_eq_true rfl)) dX4_correct_2 ⟨(Nat.le_of_ble_eq_true rfl), (Nat.le_of_ble_eq_true rfl)⟩) hS (fun E ce q9 H_2 locs hp hS hce hcv hcl => ?_) (fun v H1 locs h hS => h.elim)
  exact g_out hxt hlocks hS hce hcv hcl (hp) (Nat.le_of_ble_eq_true rfl) (Nat.le_of_ble_eq_true rfl)
set_option maxHeartbeats 4000000 in
set_option maxRecDepth 100000 in
theorem x_correct_e2 (l : Launch) (G : gG) (hlf : l.stackTraces = false) (A : Nat → Nat) (TA : Nat → Nat → Nat) (S : cS) (W9 : cWk) (H : Heap) (hC : Cat G A TA S W9 H) (hI : sInv S) (z : Int) (i : Nat) (hz : z = i) (hi : i < sn S)(hk : srt S i = false) (z2 p1 l1 : Int) (hz20 : rI z2) (hp0 : rI p1) (hl0 : rI l1) (hk2 : ¬ (0 ≤ z2 ∧ z2 < stn S i)) : gM l yX4_correct wsX4_correct rm_X4_correct [.ref (A 0), .int (zI z), .int (zI z2), .int (zI p1), .int (zI l1)] G H (gF0) (gTh "java/lang/IndexOutOfBoundsException" H) 6 60 := by
  obtain ⟨h0, h1, h2, h3, h4, h5, h6, hap⟩ := id hC
  have hn16 : sn S ≤ 16 := hI.1
  obtain ⟨ht, hp1, hl1, gt, htd⟩ := id (h6 i hi)
  have hT := h6 i hi
  have ht24 := (hI.2.1 i hi).2
  have ht1 := (hI.2.1 i hi).1
  refine g_start (cc := cX4_correct) (maxL := 7) (ret := (some .int)) (by decide +kernel) rfl (Nat.le_of_ble_eq_true rfl) ?_
  intro p e s m args below meth c F ls hl
  obtain ⟨hx, hb, hml, hr, hts, hown, hlocks, hxt, hH, hX, hin⟩ := F
  have hown : s.vm.findClass RX4 = some m.cls := hown
  have hS : va_S (gA G) s.heap H [] := by rw [hH]; exact va_S.rf
  have hl : lv_has ls 7 [(0, .ref (A 0)), (1, .int (zI z)), (2, .int (zI z2)), (3, .int (zI p1)), (4, .int (zI l1))] := hl
  refine lv_aload_n hx hb dX4_correct_0 rfl (lv_at hl 0 rfl) ?_
  refine lv_iload_n hx hb dX4_correct_1 rfl (lv_at hl 1 rfl) ?_
  refine g_goq (vx_runV (As := [.int (zI z)]) (rest := []) ⟨hx, hb, hml, hown, hts⟩ (k_kT_ok l G A TA S W9 H hC hI z i hz hi hk) (cwV 1 hts gX4_correct_X4_knownOrThrow rfl rfl rfl hd_X4_knownOrThrow ⟨(Nat.le_of_ble_eq_true rfl), (Nat.le_of_ble_eq_true rfl)⟩) (g_preV hX hS (ci := 4) rfl h0) rfl rfl hl.1 rfl (lv_room (Nat.le_of_ble_eq_true rfl)) dX4_correct_2 ⟨(Nat.le_of_ble_eq_true rfl), (Nat.le_of_ble_eq_true rfl)⟩) hS (fun r_2 H_2 locs hp hS => ?_)
  obtain ⟨rfl, rfl⟩ := hp
  refine W.eq (g2 := F0 m 5 ls [.ref (TA i 0)]) rfl ?_
  refine lv_astore (lv' := [(5, .ref (TA i 0)), (0, .ref (A 0)), (1, .int (zI z)), (2, .int (zI z2)), (3, .int (zI p1)), (4, .int (zI l1))]) hx hb dX4_correct_5 hl (by decide) rfl (fun ls hl => ?_)
  refine lv_iload_n hx hb dX4_correct_7 rfl (lv_at hl 3 rfl) ?_
  refine gz_if_lt (tgt := 20) hx hb ⟨by omega, by omega⟩ dX4_correct_8 (by decide) (fun c_8 => ?_) (fun c_8 => ?_)
  · exact g_throw hx hb hlf hX hown (by decide +kernel) (by decide +kernel) (hts (.classLink RX4 90 "java/lang/IndexOutOfBoundsException") (List.mem_cons_of_mem _ (List.mem_append_left _ (List.mem_append_left _ (List.mem_append_left _ (List.mem_append_left _ (List.mem_append_left _ (List.mem_append_left _ (List.mem_of_getElem? (i := 0) rfl))))))))) (hts (.initialized "java/lang/IndexOutOfBoundsException") (List.mem_cons_of_mem _ (List.mem_append_left _ (List.mem_append_left _ (List.mem_append_left _ (List.mem_append_left _ (List.mem_append_left _ (List.mem_append_left _ (List.mem_of_getElem? (i := 1) rfl))))))))) (by decide +kernel : (92, "the tune has no such note") ∈ gStr) (ha_X4_correct_94 hX hts) (by decide +kernel) hS (hl.1.trans hml.symm) dX4_correct_20 dX4_correct_23 dX4_correct_24 dX4_correct_26 dX4_correct_29 hxt (Nat.le_of_ble_eq_true rfl) (Nat.le_of_ble_eq_true rfl) (Nat.le_of_ble_eq_true rfl) (Nat.le_of_ble_eq_true rfl) hlocks (fun H1 hE => ⟨rfl, hE⟩) (Nat.le_of_ble_eq_true rfl) (Nat.le_of_ble_eq_true rfl)
  · refine lv_iload_n hx hb dX4_correct_11 rfl (lv_at hl 3 rfl) ?_
    refine lv_aload hx hb dX4_correct_12 (lv_at hl 0 rfl) ?_
    refine g_goi (vx_runV (As := []) (rest := [.int (zI z2)]) ⟨hx, hb, hml, hown, hts⟩ (k_Tune_size l G (TA i) (stn S i) (stp S i) (stl S i) (srt S i) H hT) (cwV 0 hts gX4_correct_X3_size rfl rfl rfl hd_X3_size ⟨(Nat.le_of_ble_eq_true rfl), (Nat.le_of_ble_eq_true rfl)⟩) (g_preV hX hS (ci := 3) rfl ht) rfl rfl hl.1 rfl (lv_room (Nat.le_of_ble_eq_true rfl)) dX4_correct_14 ⟨(Nat.le_of_ble_eq_true rfl), (Nat.le_of_ble_eq_true rfl)⟩) hS (fun r_14 H_14 locs hp hS => ?_)
    obtain ⟨rfl, rfl⟩ := hp
    refine gz_icmp_lt (tgt := 30) hx hb ⟨by omega, by omega⟩ ⟨by omega, by omega⟩ dX4_correct_17 (by decide) (fun c_17 => ?_) (fun c_17 => ?_)
    · omega
    · exact g_throw hx hb hlf hX hown (by decide +kernel) (by decide +kernel) (hts (.classLink RX4 90 "java/lang/IndexOutOfBoundsException") (List.mem_cons_of_mem _ (List.mem_append_left _ (List.mem_append_left _ (List.mem_append_left _ (List.mem_append_left _ (List.mem_append_left _ (List.mem_append_left _ (List.mem_of_getElem? (i := 0) rfl))))))))) (hts (.initialized "java/lang/IndexOutOfBoundsException") (List.mem_cons_of_mem _ (List.mem_append_left _ (List.mem_append_left _ (List.mem_append_left _ (List.mem_append_left _ (List.mem_append_left _ (List.mem_append_left _ (List.mem_of_getElem? (i := 1) rfl))))))))) (by decide +kernel : (92, "the tune has no such note") ∈ gStr) (ha_X4_correct_94 hX hts) (by decide +kernel) hS (hl.1.trans hml.symm) dX4_correct_20 dX4_correct_23 dX4_correct_24 dX4_correct_26 dX4_correct_29 hxt (Nat.le_of_ble_eq_true rfl) (Nat.le_of_ble_eq_true rfl) (Nat.le_of_ble_eq_true rfl) (Nat.le_of_ble_eq_true rfl) hlocks (fun H1 hE => ⟨rfl, hE⟩) (Nat.le_of_ble_eq_true rfl) (Nat.le_of_ble_eq_true rfl)
set_option maxHeartbeats 4000000 in
set_option maxRecDepth 100000 in
theorem x_correct_e3 (l : Launch) (G : gG) (hlf : l.stackTraces = false) (A : Nat → Nat) (TA : Nat → Nat → Nat) (S : cS) (W9 : cWk) (H : Heap) (hC : Cat G A TA S W9 H) (hI : sInv S) (z : Int) (i : Nat) (hz : z = i) (hi : i < sn S)(hk : srt S i = false) (z2 p1 l1 : Int) (hz20 : rI z2) (hp0 : rI p1) (hl0 : rI l1) (hk2 : 0 ≤ z2 ∧ z2 < stn S i) (hN : ¬ isN p1 l1) : gM l yX4_correct wsX4_correct rm_X4_correct [.ref (A 0), .int (zI z), .int (zI z2), .int (zI p1), .int (zI l1)] G H (gF0) (gTh "java/lang/IllegalArgumentException" H) 6 60 := by
  obtain ⟨h0, h1, h2, h3, h4, h5, h6, hap⟩ := id hC
  have hn16 : sn S ≤ 16 := hI.1
  obtain ⟨ht, hp1, hl1, gt, htd⟩ := id (h6 i hi)
  have hT := h6 i hi
  have ht24 := (hI.2.1 i hi).2
  have ht1 := (hI.2.1 i hi).1
  refine g_start (cc := cX4_correct) (maxL := 7) (ret := (some .int)) (by decide +kernel) rfl (Nat.le_of_ble_eq_true rfl) ?_
  intro p e s m args below meth c F ls hl
  obtain ⟨hx, hb, hml, hr, hts, hown, hlocks, hxt, hH, hX, hin⟩ := F
  have hown : s.vm.findClass RX4 = some m.cls := hown
  have hS : va_S (gA G) s.heap H [] := by rw [hH]; exact va_S.rf
  have hl : lv_has ls 7 [(0, .ref (A 0)), (1, .int (zI z)), (2, .int (zI z2)), (3, .int (zI p1)), (4, .int (zI l1))] := hl
  refine lv_aload_n hx hb dX4_correct_0 rfl (lv_at hl 0 rfl) ?_
  refine lv_iload_n hx hb dX4_correct_1 rfl (lv_at hl 1 rfl) ?_
  refine g_goq (vx_runV (As := [.int (zI z)]) (rest := []) ⟨hx, hb, hml, hown, hts⟩ (k_kT_ok l G A TA S W9 H hC hI z i hz hi hk) (cwV 1 hts gX4_correct_X4_knownOrThrow rfl rfl rfl hd_X4_knownOrThrow ⟨(Nat.le_of_ble_eq_true rfl), (Nat.le_of_ble_eq_true rfl)⟩) (g_preV hX hS (ci := 4) rfl h0) rfl rfl hl.1 rfl (lv_room (Nat.le_of_ble_eq_true rfl)) dX4_correct_2 ⟨(Nat.le_of_ble_eq_true rfl), (Nat.le_of_ble_eq_true rfl)⟩) hS (fun r_2 H_2 locs hp hS => ?_)
  obtain ⟨rfl, rfl⟩ := hp
  refine W.eq (g2 := F0 m 5 ls [.ref (TA i 0)]) rfl ?_
  refine lv_astore (lv' := [(5, .ref (TA i 0)), (0, .ref (A 0)), (1, .int (zI z)), (2, .int (zI z2)), (3, .int (zI p1)), (4, .int (zI l1))]) hx hb dX4_correct_5 hl (by decide) rfl (fun ls hl => ?_)
  refine lv_iload_n hx hb dX4_correct_7 rfl (lv_at hl 3 rfl) ?_
  refine gz_if_lt (tgt := 20) hx hb ⟨by omega, by omega⟩ dX4_correct_8 (by decide) (fun c_8 => ?_) (fun c_8 => ?_)
  · omega
  · refine lv_iload_n hx hb dX4_correct_11 rfl (lv_at hl 3 rfl) ?_
    refine lv_aload hx hb dX4_correct_12 (lv_at hl 0 rfl) ?_
    refine g_goi (vx_runV (As := []) (rest := [.int (zI z2)]) ⟨hx, hb, hml, hown, hts⟩ (k_Tune_size l G (TA i) (stn S i) (stp S i) (stl S i) (srt S i) H hT) (cwV 0 hts gX4_correct_X3_size rfl rfl rfl hd_X3_size ⟨(Nat.le_of_ble_eq_true rfl), (Nat.le_of_ble_eq_true rfl)⟩) (g_preV hX hS (ci := 3) rfl ht) rfl rfl hl.1 rfl (lv_room (Nat.le_of_ble_eq_true rfl)) dX4_correct_14 ⟨(Nat.le_of_ble_eq_true rfl), (Nat.le_of_ble_eq_true rfl)⟩) hS (fun r_14 H_14 locs hp hS => ?_)
    obtain ⟨rfl, rfl⟩ := hp
    refine gz_icmp_lt (tgt := 30) hx hb ⟨by omega, by omega⟩ ⟨by omega, by omega⟩ dX4_correct_17 (by decide) (fun c_17 => ?_) (fun c_17 => ?_)
    · refine lv_iload_n hx hb dX4_correct_30 rfl (lv_at hl 4 rfl) ?_
      refine lv_iload hx hb dX4_correct_31 (lv_at hl 5 rfl) ?_
      refine g_go (vx_runS (As := [.int (zI p1), .int (zI l1)]) (rest := []) ⟨hx, hb, hml, hown, hts⟩ (k_rN_no l G hlf H p1 l1 (by assumption) (by assumption) hN) (va_cwS 2 hts gX4_correct_X4_refuseUnlessNote rfl rfl rfl hd_X4_refuseUnlessNote.2 ⟨(Nat.le_of_ble_eq_true rfl), (Nat.le_of_ble_eq_true rfl)⟩) (g_pre hX hS) rfl rfl hl.1 rfl (lv_room (Nat.le_of_ble_eq_true rfl)) dX4_correct_33 ⟨(Nat.le_of_ble_eq_true rfl), (Nat.le_of_ble_eq_true rfl)⟩) hS (fun E ce q9 H_33 locs hp hS hce hcv hcl => ?_) (fun v H1 locs h hS => h.elim)
      exact g_out hxt hlocks hS hce hcv hcl (hp) (Nat.le_of_ble_eq_true rfl) (Nat.le_of_ble_eq_true rfl)
    · omega
set_option maxHeartbeats 4000000 in
set_option maxRecDepth 100000 in
theorem x_hum_ok (l : Launch) (G : gG) (A : Nat → Nat) (TA : Nat → Nat → Nat) (S : cS) (W9 : cWk) (H : Heap) (hC : Cat G A TA S W9 H) (hI : sInv S) (p1 : Int) (hp0 : rI p1) (h60 : 0 ≤ p1 ∧ p1 ≤ 60) (h12 : shn S < 12) : gM l yX4_hum wsX4_hum rm_X4_hum [.ref (A 0), .int (zI p1)] G H (gi (fun r H1 => zI ((shn S + 1 : Nat) : Int) = r ∧ XP G A TA S (sHum S p1) H H1)) (gNo) 6 60 := by
  obtain ⟨h0, h1, h2, h3, h4, h5, h6, hap⟩ := id hC
  have hn16 : sn S ≤ 16 := hI.1
  have hh12 : shn S ≤ 12 := hI.2.2.2.2.2.1
  have n02 := hap.1 0 2 (by omega) (by omega) (by omega)
  have n03 := hap.1 0 3 (by omega) (by omega) (by omega)
  refine g_start (cc := cX4_hum) (maxL := 2) (ret := (some .int)) (by decide +kernel) rfl (Nat.le_of_ble_eq_true rfl) ?_
  intro p e s m args below meth c F ls hl
  obtain ⟨hx, hb, hml, hr, hts, hown, hlocks, hxt, hH, hX, hin⟩ := F
  have hown : s.vm.findClass RX4 = some m.cls := hown
  have hS : va_S (gA G) s.heap H [] := by rw [hH]; exact va_S.rf
  have hl : lv_has ls 2 [(0, .ref (A 0)), (1, .int (zI p1))] := hl
  refine lv_iload_n hx hb dX4_hum_0 rfl (lv_at hl 1 rfl) ?_
  refine lv_iconst (v := zI 0) hx hb dX4_hum_1 rfl ?_
  refine lv_bipush (v := zI 60) hx hb dX4_hum_2 (by decide +kernel) ?_
  refine g_gov (vx_runS (As := [.int (zI p1), .int (zI 0), .int (zI 60)]) (rest := []) ⟨hx, hb, hml, hown, hts⟩ (k_rW_ok l G H p1 0 60 (by first | assumption | exact ⟨by omega, by omega⟩) (by decide) (by decide) (by omega)) (va_cwS 3 hts gX4_hum_X4_refuseUnlessWithin rfl rfl rfl hd_X4_refuseUnlessWithin.2 ⟨(Nat.le_of_ble_eq_true rfl), (Nat.le_of_ble_eq_true rfl)⟩) (g_pre hX hS) rfl rfl hl.1 rfl (lv_room (Nat.le_of_ble_eq_true rfl)) dX4_hum_4 ⟨(Nat.le_of_ble_eq_true rfl), (Nat.le_of_ble_eq_true rfl)⟩) hS (fun H_4 locs hp hS => ?_)
  subst hp
  refine lv_aload_n hx hb dX4_hum_7 rfl (lv_at hl 0 rfl) ?_
  refine g_get hx hb hX hts (fun w h => (List.mem_cons_of_mem _ (List.mem_append_left _ (List.mem_append_left _ (List.mem_append_left _ (List.mem_append_right _ h)))))) hown h0 rfl 3 (by decide) (hts (.fieldLink RX4 26 "TuneCatalogue" "humRow" "LTuneCatalogue$Row;") (List.mem_cons_of_mem _ (List.mem_append_left _ (List.mem_append_left _ (List.mem_append_left _ (List.mem_append_left _ (List.mem_append_left _ (List.mem_of_getElem? (i := 2) rfl)))))))) rfl dX4_hum_8 ?_
  refine g_goi (vx_runV (As := []) (rest := []) ⟨hx, hb, hml, hown, hts⟩ (k_isFull l G (A 2) (A 3) 12 (shn S) _ H h2.2.1) (cwV 0 hts gX4_hum_X2_isFull rfl rfl rfl hd_X2_isFull ⟨(Nat.le_of_ble_eq_true rfl), (Nat.le_of_ble_eq_true rfl)⟩) (g_preV hX hS (ci := 2) rfl h2.2.1.1) rfl rfl hl.1 rfl (lv_room (Nat.le_of_ble_eq_true rfl)) dX4_hum_11 ⟨(Nat.le_of_ble_eq_true rfl), (Nat.le_of_ble_eq_true rfl)⟩) hS (fun r_11 H_11 locs hp hS => ?_)
  obtain ⟨hv, rfl⟩ := hp
  rw [if_neg (by omega)] at hv
  subst hv
  refine W.eq (g2 := F0 m 14 ls [.int (zI 0)]) rfl ?_
  refine gz_if_eq (tgt := 27) hx hb (by decide) dX4_hum_14 (by decide) (fun c_14 => ?_) (fun c_14 => ?_)
  · refine lv_aload_n hx hb dX4_hum_27 rfl (lv_at hl 0 rfl) ?_
    refine g_get hx hb hX hts (fun w h => (List.mem_cons_of_mem _ (List.mem_append_left _ (List.mem_append_left _ (List.mem_append_left _ (List.mem_append_right _ h)))))) hown h0 rfl 3 (by decide) (hts (.fieldLink RX4 26 "TuneCatalogue" "humRow" "LTuneCatalogue$Row;") (List.mem_cons_of_mem _ (List.mem_append_left _ (List.mem_append_left _ (List.mem_append_left _ (List.mem_append_left _ (List.mem_append_left _ (List.mem_of_getElem? (i := 2) rfl)))))))) rfl dX4_hum_28 ?_
    refine lv_iload_n hx hb dX4_hum_31 rfl (lv_at hl 1 rfl) ?_
    refine g_gov (vx_runV (As := [.int (zI p1)]) (rest := []) ⟨hx, hb, hml, hown, hts⟩ (k_append l G (A 2) (A 3) 12 (shn S) _ H h2.2.1 (zI p1) h12) (cwV 1 hts gX4_hum_X2_append rfl rfl rfl hd_X2_append ⟨(Nat.le_of_ble_eq_true rfl), (Nat.le_of_ble_eq_true rfl)⟩) (g_preV hX hS (ci := 2) rfl h2.2.1.1) rfl rfl hl.1 rfl (lv_room (Nat.le_of_ble_eq_true rfl)) dX4_hum_32 ⟨(Nat.le_of_ble_eq_true rfl), (Nat.le_of_ble_eq_true rfl)⟩) hS (fun H_32 locs hp hS => ?_)
    obtain ⟨hr2, hO1⟩ := hp
    rw [zup] at hr2
    have h0 := h0.only hO1 (nm2 n02 n03)
    refine lv_aload_n hx hb dX4_hum_35 rfl (lv_at hl 0 rfl) ?_
    refine g_get hx hb hX hts (fun w h => (List.mem_cons_of_mem _ (List.mem_append_left _ (List.mem_append_left _ (List.mem_append_left _ (List.mem_append_right _ h)))))) hown h0 rfl 3 (by decide) (hts (.fieldLink RX4 26 "TuneCatalogue" "humRow" "LTuneCatalogue$Row;") (List.mem_cons_of_mem _ (List.mem_append_left _ (List.mem_append_left _ (List.mem_append_left _ (List.mem_append_left _ (List.mem_append_left _ (List.mem_of_getElem? (i := 2) rfl)))))))) rfl dX4_hum_36 ?_
    refine g_goi (vx_runV (As := []) (rest := []) ⟨hx, hb, hml, hown, hts⟩ (k_size l G (A 2) (A 3) 12 (shn S + 1) _ H_32 hr2) (cwV 0 hts gX4_hum_X2_size rfl rfl rfl hd_X2_size ⟨(Nat.le_of_ble_eq_true rfl), (Nat.le_of_ble_eq_true rfl)⟩) (g_preV hX hS (ci := 2) rfl hr2.1) rfl rfl hl.1 rfl (lv_room (Nat.le_of_ble_eq_true rfl)) dX4_hum_39 ⟨(Nat.le_of_ble_eq_true rfl), (Nat.le_of_ble_eq_true rfl)⟩) hS (fun r_39 H_39 locs hp hS => ?_)
    obtain ⟨rfl, rfl⟩ := hp
    exact g_reti hx hb hr hlocks hS rfl (⟨rfl, hC.hum hO1 (by intro q hq; simp only [List.mem_cons, List.not_mem_nil, or_false] at hq; first | exact hq | exact Or.inl hq) hr2⟩) (Nat.le_of_ble_eq_true rfl) (Nat.le_of_ble_eq_true rfl) dX4_hum_42
  · omega
set_option maxHeartbeats 4000000 in
set_option maxRecDepth 100000 in
theorem x_hum_e1 (l : Launch) (G : gG) (hlf : l.stackTraces = false) (A : Nat → Nat) (TA : Nat → Nat → Nat) (S : cS) (W9 : cWk) (H : Heap) (hC : Cat G A TA S W9 H) (hI : sInv S) (p1 : Int) (hp0 : rI p1) (h60 : ¬ (0 ≤ p1 ∧ p1 ≤ 60)) : gM l yX4_hum wsX4_hum rm_X4_hum [.ref (A 0), .int (zI p1)] G H (gF0) (gTh "java/lang/IllegalArgumentException" H) 6 60 := by
  obtain ⟨h0, h1, h2, h3, h4, h5, h6, hap⟩ := id hC
  have hn16 : sn S ≤ 16 := hI.1
  refine g_start (cc := cX4_hum) (maxL := 2) (ret := (some .int)) (by decide +kernel) rfl (Nat.le_of_ble_eq_true rfl) ?_
  intro p e s m args below meth c F ls hl
  obtain ⟨hx, hb, hml, hr, hts, hown, hlocks, hxt, hH, hX, hin⟩ := F
  have hown : s.vm.findClass RX4 = some m.cls := hown
  have hS : va_S (gA G) s.heap H [] := by rw [hH]; exact va_S.rf
  have hl : lv_has ls 2 [(0, .ref (A 0)), (1, .int (zI p1))] := hl
  refine lv_iload_n hx hb dX4_hum_0 rfl (lv_at hl 1 rfl) ?_
  refine lv_iconst (v := zI 0) hx hb dX4_hum_1 rfl ?_
  refine lv_bipush (v := zI 60) hx hb dX4_hum_2 (by decide +kernel) ?_
  refine g_go (vx_runS (As := [.int (zI p1), .int (zI 0), .int (zI 60)]) (rest := []) ⟨hx, hb, hml, hown, hts⟩ (k_rW_no l G hlf H p1 0 60 (by first | assumption | exact ⟨by omega, by omega⟩) (by decide) (by decide) (by omega)) (va_cwS 3 hts gX4_hum_X4_refuseUnlessWithin rfl rfl rfl hd_X4_refuseUnlessWithin.2 ⟨(Nat.le_of_ble_eq_true rfl), (Nat.le_of_ble_eq_true rfl)⟩) (g_pre hX hS) rfl rfl hl.1 rfl (lv_room (Nat.le_of_ble_eq_true rfl)) dX4_hum_4 ⟨(Nat.le_of_ble_eq_true rfl), (Nat.le_of_ble_eq_true rfl)⟩) hS (fun E ce q9 H_4 locs hp hS hce hcv hcl => ?_) (fun v H1 locs h hS => h.elim)
  exact g_out hxt hlocks hS hce hcv hcl (hp) (Nat.le_of_ble_eq_true rfl) (Nat.le_of_ble_eq_true rfl)
set_option maxHeartbeats 4000000 in
set_option maxRecDepth 100000 in
theorem x_hum_e2 (l : Launch) (G : gG) (hlf : l.stackTraces = false) (A : Nat → Nat) (TA : Nat → Nat → Nat) (S : cS) (W9 : cWk) (H : Heap) (hC : Cat G A TA S W9 H) (hI : sInv S) (p1 : Int) (hp0 : rI p1) (h60 : 0 ≤ p1 ∧ p1 ≤ 60) (h12 : ¬ shn S < 12) : gM l yX4_hum wsX4_hum rm_X4_hum [.ref (A 0), .int (zI p1)] G H (gF0) (gTh "java/lang/IllegalStateException" H) 6 60 := by
  obtain ⟨h0, h1, h2, h3, h4, h5, h6, hap⟩ := id hC
  have hn16 : sn S ≤ 16 := hI.1
  have hh12 : shn S ≤ 12 := hI.2.2.2.2.2.1
  refine g_start (cc := cX4_hum) (maxL := 2) (ret := (some .int)) (by decide +kernel) rfl (Nat.le_of_ble_eq_true rfl) ?_
  intro p e s m args below meth c F ls hl
  obtain ⟨hx, hb, hml, hr, hts, hown, hlocks, hxt, hH, hX, hin⟩ := F
  have hown : s.vm.findClass RX4 = some m.cls := hown
  have hS : va_S (gA G) s.heap H [] := by rw [hH]; exact va_S.rf
  have hl : lv_has ls 2 [(0, .ref (A 0)), (1, .int (zI p1))] := hl
  refine lv_iload_n hx hb dX4_hum_0 rfl (lv_at hl 1 rfl) ?_
  refine lv_iconst (v := zI 0) hx hb dX4_hum_1 rfl ?_
  refine lv_bipush (v := zI 60) hx hb dX4_hum_2 (by decide +kernel) ?_
  refine g_gov (vx_runS (As := [.int (zI p1), .int (zI 0), .int (zI 60)]) (rest := []) ⟨hx, hb, hml, hown, hts⟩ (k_rW_ok l G H p1 0 60 (by first | assumption | exact ⟨by omega, by omega⟩) (by decide) (by decide) (by omega)) (va_cwS 3 hts gX4_hum_X4_refuseUnlessWithin rfl rfl rfl hd_X4_refuseUnlessWithin.2 ⟨(Nat.le_of_ble_eq_true rfl), (Nat.le_of_ble_eq_true rfl)⟩) (g_pre hX hS) rfl rfl hl.1 rfl (lv_room (Nat.le_of_ble_eq_true rfl)) dX4_hum_4 ⟨(Nat.le_of_ble_eq_true rfl), (Nat.le_of_ble_eq_true rfl)⟩) hS (fun H_4 locs hp hS => ?_)
  subst hp
  refine lv_aload_n hx hb dX4_hum_7 rfl (lv_at hl 0 rfl) ?_
  refine g_get hx hb hX hts (fun w h => (List.mem_cons_of_mem _ (List.mem_append_left _ (List.mem_append_left _ (List.mem_append_left _ (List.mem_append_right _ h)))))) hown h0 rfl 3 (by decide) (hts (.fieldLink RX4 26 "TuneCatalogue" "humRow" "LTuneCatalogue$Row;") (List.mem_cons_of_mem _ (List.mem_append_left _ (List.mem_append_left _ (List.mem_append_left _ (List.mem_append_left _ (List.mem_append_left _ (List.mem_of_getElem? (i := 2) rfl)))))))) rfl dX4_hum_8 ?_
  refine g_goi (vx_runV (As := []) (rest := []) ⟨hx, hb, hml, hown, hts⟩ (k_isFull l G (A 2) (A 3) 12 (shn S) _ H h2.2.1) (cwV 0 hts gX4_hum_X2_isFull rfl rfl rfl hd_X2_isFull ⟨(Nat.le_of_ble_eq_true rfl), (Nat.le_of_ble_eq_true rfl)⟩) (g_preV hX hS (ci := 2) rfl h2.2.1.1) rfl rfl hl.1 rfl (lv_room (Nat.le_of_ble_eq_true rfl)) dX4_hum_11 ⟨(Nat.le_of_ble_eq_true rfl), (Nat.le_of_ble_eq_true rfl)⟩) hS (fun r_11 H_11 locs hp hS => ?_)
  obtain ⟨hv, rfl⟩ := hp
  rw [if_pos (by omega)] at hv
  subst hv
  refine W.eq (g2 := F0 m 14 ls [.int (zI 1)]) rfl ?_
  refine gz_if_eq (tgt := 27) hx hb (by decide) dX4_hum_14 (by decide) (fun c_14 => ?_) (fun c_14 => ?_)
  · omega
  · exact g_throw hx hb hlf hX hown (by decide +kernel) (by decide +kernel) (hts (.classLink RX4 59 "java/lang/IllegalStateException") (List.mem_cons_of_mem _ (List.mem_append_left _ (List.mem_append_left _ (List.mem_append_left _ (List.mem_append_left _ (List.mem_append_left _ (List.mem_of_getElem? (i := 0) rfl)))))))) (hts (.initialized "java/lang/IllegalStateException") (List.mem_cons_of_mem _ (List.mem_append_left _ (List.mem_append_left _ (List.mem_append_left _ (List.mem_append_left _ (List.mem_append_left _ (List.mem_of_getElem? (i := 1) rfl)))))))) (by decide +kernel : (137, "the hum has as many pitches as it may have") ∈ gStr) (ha_X4_hum_63 hX hts) (by decide +kernel) hS (hl.1.trans hml.symm) dX4_hum_17 dX4_hum_20 dX4_hum_21 dX4_hum_23 dX4_hum_26 hxt (Nat.le_of_ble_eq_true rfl) (Nat.le_of_ble_eq_true rfl) (Nat.le_of_ble_eq_true rfl) (Nat.le_of_ble_eq_true rfl) hlocks (fun H1 hE => ⟨rfl, hE⟩) (Nat.le_of_ble_eq_true rfl) (Nat.le_of_ble_eq_true rfl)
set_option maxHeartbeats 4000000 in
set_option maxRecDepth 100000 in
theorem x_hush (l : Launch) (G : gG) (A : Nat → Nat) (TA : Nat → Nat → Nat) (S : cS) (W9 : cWk) (H : Heap) (hC : Cat G A TA S W9 H) (hI : sInv S)  : gM l yX4_hush wsX4_hush rm_X4_hush [.ref (A 0)] G H (gi (fun r H1 => zI (shn S) = r ∧ XP G A TA S (sHush S) H H1)) (gNo) 0 0 := by
  obtain ⟨h0, h1, h2, h3, h4, h5, h6, hap⟩ := id hC
  have hn16 : sn S ≤ 16 := hI.1
  refine g_start (cc := cX4_hush) (maxL := 2) (ret := (some .int)) (by decide +kernel) rfl (Nat.le_of_ble_eq_true rfl) ?_
  intro p e s m args below meth c F ls hl
  obtain ⟨hx, hb, hml, hr, hts, hown, hlocks, hxt, hH, hX, hin⟩ := F
  have hown : s.vm.findClass RX4 = some m.cls := hown
  have hS : va_S (gA G) s.heap H [] := by rw [hH]; exact va_S.rf
  have hl : lv_has ls 2 [(0, .ref (A 0))] := hl
  refine lv_aload_n hx hb dX4_hush_0 rfl (lv_at hl 0 rfl) ?_
  refine g_get hx hb hX hts (fun w h => (List.mem_cons_of_mem _ (List.mem_append_left _ (List.mem_append_right _ h)))) hown h0 rfl 3 (by decide) (hts (.fieldLink RX4 26 "TuneCatalogue" "humRow" "LTuneCatalogue$Row;") (List.mem_cons_of_mem _ (List.mem_append_left _ (List.mem_append_left _ (List.mem_of_getElem? (i := 0) rfl))))) rfl dX4_hush_1 ?_
  refine g_goi (vx_runV (As := []) (rest := []) ⟨hx, hb, hml, hown, hts⟩ (k_size l G (A 2) (A 3) 12 (shn S) _ H h2.2.1) (cwV 0 hts gX4_hush_X2_size rfl rfl rfl hd_X2_size ⟨(Nat.le_of_ble_eq_true rfl), (Nat.le_of_ble_eq_true rfl)⟩) (g_preV hX hS (ci := 2) rfl h2.2.1.1) rfl rfl hl.1 rfl (lv_room (Nat.le_of_ble_eq_true rfl)) dX4_hush_4 ⟨(Nat.le_of_ble_eq_true rfl), (Nat.le_of_ble_eq_true rfl)⟩) hS (fun r_4 H_4 locs hp hS => ?_)
  obtain ⟨rfl, rfl⟩ := hp
  refine lv_istore_n (lv' := [(1, .int (zI (shn S : Int))), (0, .ref (A 0))]) hx hb dX4_hush_7 rfl hl (by decide) rfl (fun ls hl => ?_)
  refine lv_aload_n hx hb dX4_hush_8 rfl (lv_at hl 1 rfl) ?_
  refine g_get hx hb hX hts (fun w h => (List.mem_cons_of_mem _ (List.mem_append_left _ (List.mem_append_right _ h)))) hown h0 rfl 3 (by decide) (hts (.fieldLink RX4 26 "TuneCatalogue" "humRow" "LTuneCatalogue$Row;") (List.mem_cons_of_mem _ (List.mem_append_left _ (List.mem_append_left _ (List.mem_of_getElem? (i := 0) rfl))))) rfl dX4_hush_9 ?_
  refine g_gov (vx_runV (As := []) (rest := []) ⟨hx, hb, hml, hown, hts⟩ (k_clear l G (A 2) (A 3) 12 (shn S) _ H h2.2.1) (cwV 0 hts gX4_hush_X2_clear rfl rfl rfl hd_X2_clear ⟨(Nat.le_of_ble_eq_true rfl), (Nat.le_of_ble_eq_true rfl)⟩) (g_preV hX hS (ci := 2) rfl h2.2.1.1) rfl rfl hl.1 rfl (lv_room (Nat.le_of_ble_eq_true rfl)) dX4_hush_12 ⟨(Nat.le_of_ble_eq_true rfl), (Nat.le_of_ble_eq_true rfl)⟩) hS (fun H_12 locs hp hS => ?_)
  obtain ⟨hr2, hO1⟩ := hp
  refine lv_iload_n hx hb dX4_hush_15 rfl (lv_at hl 0 rfl) ?_
  exact g_reti hx hb hr hlocks hS rfl (⟨rfl, hC.hum hO1 (by intro q hq; simp only [List.mem_cons, List.not_mem_nil, or_false] at hq; first | exact hq | exact Or.inl hq) hr2⟩) (Nat.le_of_ble_eq_true rfl) (Nat.le_of_ble_eq_true rfl) dX4_hush_16
set_option maxHeartbeats 4000000 in
set_option maxRecDepth 100000 in
theorem x_setCosts_ok (l : Launch) (G : gG) (A : Nat → Nat) (TA : Nat → Nat → Nat) (S : cS) (W9 : cWk) (H : Heap) (hC : Cat G A TA S W9 H) (hI : sInv S) (c1 c2 c3 : Int) (hc1 : rI c1) (hc2 : rI c2) (hc3 : rI c3) (h : (0 ≤ c1 ∧ c1 ≤ 20) ∧ (0 ≤ c2 ∧ c2 ≤ 20) ∧ 0 ≤ c3 ∧ c3 ≤ 20) : gM l yX4_setCosts wsX4_setCosts rm_X4_setCosts [.ref (A 0), .int (zI c1), .int (zI c2), .int (zI c3)] G H (gv (fun H1 => XP G A TA S (sCost S c1 c2 c3) H H1)) (gNo) 6 60 := by
  obtain ⟨h0, h1, h2, h3, h4, h5, h6, hap⟩ := id hC
  have hn16 : sn S ≤ 16 := hI.1
  have hm := h2.1
  have gA4 := hap.2.2.2 4 (by omega)
  have n04 := hap.1 0 4 (by omega) (by omega) (by omega)
  have n14 := hap.1 1 4 (by omega) (by omega) (by omega)
  refine g_start (cc := cX4_setCosts) (maxL := 4) (ret := none) (by decide +kernel) rfl (Nat.le_of_ble_eq_true rfl) ?_
  intro p e s m args below meth c F ls hl
  obtain ⟨hx, hb, hml, hr, hts, hown, hlocks, hxt, hH, hX, hin⟩ := F
  have hown : s.vm.findClass RX4 = some m.cls := hown
  have hS : va_S (gA G) s.heap H [] := by rw [hH]; exact va_S.rf
  have hl : lv_has ls 4 [(0, .ref (A 0)), (1, .int (zI c1)), (2, .int (zI c2)), (3, .int (zI c3))] := hl
  refine lv_iload_n hx hb dX4_setCosts_0 rfl (lv_at hl 1 rfl) ?_
  refine lv_iconst (v := zI 0) hx hb dX4_setCosts_1 rfl ?_
  refine lv_bipush (v := zI 20) hx hb dX4_setCosts_2 (by decide +kernel) ?_
  refine g_gov (vx_runS (As := [.int (zI c1), .int (zI 0), .int (zI 20)]) (rest := []) ⟨hx, hb, hml, hown, hts⟩ (k_rW_ok l G H c1 0 20 (by first | assumption | exact ⟨by omega, by omega⟩) (by decide) (by decide) (by omega)) (va_cwS 3 hts gX4_setCosts_X4_refuseUnlessWithin rfl rfl rfl hd_X4_refuseUnlessWithin.2 ⟨(Nat.le_of_ble_eq_true rfl), (Nat.le_of_ble_eq_true rfl)⟩) (g_pre hX hS) rfl rfl hl.1 rfl (lv_room (Nat.le_of_ble_eq_true rfl)) dX4_setCosts_4 ⟨(Nat.le_of_ble_eq_true rfl), (Nat.le_of_ble_eq_true rfl)⟩) hS (fun H_4 locs hp hS => ?_)
  subst hp
  refine lv_iload_n hx hb dX4_setCosts_7 rfl (lv_at hl 2 rfl) ?_
  refine lv_iconst (v := zI 0) hx hb dX4_setCosts_8 rfl ?_
  refine lv_bipush (v := zI 20) hx hb dX4_setCosts_9 (by decide +kernel) ?_
  refine g_gov (vx_runS (As := [.int (zI c2), .int (zI 0), .int (zI 20)]) (rest := []) ⟨hx, hb, hml, hown, hts⟩ (k_rW_ok l G H c2 0 20 (by first | assumption | exact ⟨by omega, by omega⟩) (by decide) (by decide) (by omega)) (va_cwS 3 hts gX4_setCosts_X4_refuseUnlessWithin rfl rfl rfl hd_X4_refuseUnlessWithin.2 ⟨(Nat.le_of_ble_eq_true rfl), (Nat.le_of_ble_eq_true rfl)⟩) (g_pre hX hS) rfl rfl hl.1 rfl (lv_room (Nat.le_of_ble_eq_true rfl)) dX4_setCosts_11 ⟨(Nat.le_of_ble_eq_true rfl), (Nat.le_of_ble_eq_true rfl)⟩) hS (fun H_11 locs hp hS => ?_)
  subst hp
  refine lv_iload_n hx hb dX4_setCosts_14 rfl (lv_at hl 3 rfl) ?_
  refine lv_iconst (v := zI 0) hx hb dX4_setCosts_15 rfl ?_
  refine lv_bipush (v := zI 20) hx hb dX4_setCosts_16 (by decide +kernel) ?_
  refine g_gov (vx_runS (As := [.int (zI c3), .int (zI 0), .int (zI 20)]) (rest := []) ⟨hx, hb, hml, hown, hts⟩ (k_rW_ok l G H c3 0 20 (by first | assumption | exact ⟨by omega, by omega⟩) (by decide) (by decide) (by omega)) (va_cwS 3 hts gX4_setCosts_X4_refuseUnlessWithin rfl rfl rfl hd_X4_refuseUnlessWithin.2 ⟨(Nat.le_of_ble_eq_true rfl), (Nat.le_of_ble_eq_true rfl)⟩) (g_pre hX hS) rfl rfl hl.1 rfl (lv_room (Nat.le_of_ble_eq_true rfl)) dX4_setCosts_18 ⟨(Nat.le_of_ble_eq_true rfl), (Nat.le_of_ble_eq_true rfl)⟩) hS (fun H_18 locs hp hS => ?_)
  subst hp
  refine lv_aload_n hx hb dX4_setCosts_21 rfl (lv_at hl 0 rfl) ?_
  refine g_get hx hb hX hts (fun w h => (List.mem_cons_of_mem _ (List.mem_append_left _ (List.mem_append_left _ (List.mem_append_right _ h))))) hown h0 rfl 2 (by decide) (hts (.fieldLink RX4 18 "TuneCatalogue" "matching" "LTuneCatalogue$Matching;") (List.mem_cons_of_mem _ (List.mem_append_left _ (List.mem_append_left _ (List.mem_append_left _ (List.mem_of_getElem? (i := 0) rfl)))))) rfl dX4_setCosts_22 ?_
  refine lv_iload_n hx hb dX4_setCosts_25 rfl (lv_at hl 1 rfl) ?_
  refine g_putN hx hb hX hts (fun w h => (List.mem_cons_of_mem _ (List.mem_append_left _ (List.mem_append_right _ h)))) tyX1 tyX1_ok nmX1 hown hS hm gA4 rfl 1 (by decide) (by decide +kernel : Cond.fieldLinkNest RX4 144 "TuneCatalogue$Matching" "slip" "I" RX4 ∈ gNW) rfl (ty := tyX1 1) rfl rfl rfl (Nat.le_of_ble_eq_true rfl) dX4_setCosts_26 (fun H_26 locs h_n hO hS => ?_)
  have h0 := gat.only1 h0 hO n04
  have h1 := gat.only1 h1 hO n14
  have hm : gat G (A 4) (.inr (1, [.ref (A 2), .int (zI c1), .int (zI (sor S)), .int (zI (srp S)), .ref (A 5)])) H_26 := h_n
  have hO26 := hO
  refine lv_aload_n hx hb dX4_setCosts_29 rfl (lv_at hl 0 rfl) ?_
  refine g_get hx hb hX hts (fun w h => (List.mem_cons_of_mem _ (List.mem_append_left _ (List.mem_append_left _ (List.mem_append_right _ h))))) hown h0 rfl 2 (by decide) (hts (.fieldLink RX4 18 "TuneCatalogue" "matching" "LTuneCatalogue$Matching;") (List.mem_cons_of_mem _ (List.mem_append_left _ (List.mem_append_left _ (List.mem_append_left _ (List.mem_of_getElem? (i := 0) rfl)))))) rfl dX4_setCosts_30 ?_
  refine lv_iload_n hx hb dX4_setCosts_33 rfl (lv_at hl 2 rfl) ?_
  refine g_putN hx hb hX hts (fun w h => (List.mem_cons_of_mem _ (List.mem_append_left _ (List.mem_append_right _ h)))) tyX1 tyX1_ok nmX1 hown hS hm gA4 rfl 2 (by decide) (by decide +kernel : Cond.fieldLinkNest RX4 147 "TuneCatalogue$Matching" "ornament" "I" RX4 ∈ gNW) rfl (ty := tyX1 2) rfl rfl rfl (Nat.le_of_ble_eq_true rfl) dX4_setCosts_34 (fun H_34 locs h_n hO hS => ?_)
  have h0 := gat.only1 h0 hO n04
  have h1 := gat.only1 h1 hO n14
  have hm : gat G (A 4) (.inr (1, [.ref (A 2), .int (zI c1), .int (zI c2), .int (zI (srp S)), .ref (A 5)])) H_34 := h_n
  have hO34 := hO
  refine lv_aload_n hx hb dX4_setCosts_37 rfl (lv_at hl 0 rfl) ?_
  refine g_get hx hb hX hts (fun w h => (List.mem_cons_of_mem _ (List.mem_append_left _ (List.mem_append_left _ (List.mem_append_right _ h))))) hown h0 rfl 2 (by decide) (hts (.fieldLink RX4 18 "TuneCatalogue" "matching" "LTuneCatalogue$Matching;") (List.mem_cons_of_mem _ (List.mem_append_left _ (List.mem_append_left _ (List.mem_append_left _ (List.mem_of_getElem? (i := 0) rfl)))))) rfl dX4_setCosts_38 ?_
  refine lv_iload_n hx hb dX4_setCosts_41 rfl (lv_at hl 3 rfl) ?_
  refine g_putN hx hb hX hts (fun w h => (List.mem_cons_of_mem _ (List.mem_append_left _ (List.mem_append_right _ h)))) tyX1 tyX1_ok nmX1 hown hS hm gA4 rfl 3 (by decide) (by decide +kernel : Cond.fieldLinkNest RX4 150 "TuneCatalogue$Matching" "repeat" "I" RX4 ∈ gNW) rfl (ty := tyX1 3) rfl rfl rfl (Nat.le_of_ble_eq_true rfl) dX4_setCosts_42 (fun H_42 locs h_n hO hS => ?_)
  have h0 := gat.only1 h0 hO n04
  have h1 := gat.only1 h1 hO n14
  have hm : gat G (A 4) (.inr (1, [.ref (A 2), .int (zI c1), .int (zI c2), .int (zI c3), .ref (A 5)])) H_42 := h_n
  have hO42 := hO
  exact g_retv hx hb hr hlocks hS (hC.costs ((hO26.trans hO34 (fun _ h => h) (fun _ h => h)).trans hO42 (fun _ h => h) (fun _ h => h)) hm) (Nat.le_of_ble_eq_true rfl) (Nat.le_of_ble_eq_true rfl) dX4_setCosts_45
set_option maxHeartbeats 4000000 in
set_option maxRecDepth 100000 in
theorem x_setCosts_1 (l : Launch) (G : gG) (hlf : l.stackTraces = false) (A : Nat → Nat) (TA : Nat → Nat → Nat) (S : cS) (W9 : cWk) (H : Heap) (hC : Cat G A TA S W9 H) (hI : sInv S) (c1 c2 c3 : Int) (hc1 : rI c1) (hc2 : rI c2) (hc3 : rI c3) (h : ¬ (0 ≤ c1 ∧ c1 ≤ 20)) : gM l yX4_setCosts wsX4_setCosts rm_X4_setCosts [.ref (A 0), .int (zI c1), .int (zI c2), .int (zI c3)] G H (gF0) (gTh "java/lang/IllegalArgumentException" H) 6 60 := by
  obtain ⟨h0, h1, h2, h3, h4, h5, h6, hap⟩ := id hC
  have hn16 : sn S ≤ 16 := hI.1
  refine g_start (cc := cX4_setCosts) (maxL := 4) (ret := none) (by decide +kernel) rfl (Nat.le_of_ble_eq_true rfl) ?_
  intro p e s m args below meth c F ls hl
  obtain ⟨hx, hb, hml, hr, hts, hown, hlocks, hxt, hH, hX, hin⟩ := F
  have hown : s.vm.findClass RX4 = some m.cls := hown
  have hS : va_S (gA G) s.heap H [] := by rw [hH]; exact va_S.rf
  have hl : lv_has ls 4 [(0, .ref (A 0)), (1, .int (zI c1)), (2, .int (zI c2)), (3, .int (zI c3))] := hl
  refine lv_iload_n hx hb dX4_setCosts_0 rfl (lv_at hl 1 rfl) ?_
  refine lv_iconst (v := zI 0) hx hb dX4_setCosts_1 rfl ?_
  refine lv_bipush (v := zI 20) hx hb dX4_setCosts_2 (by decide +kernel) ?_
  refine g_go (vx_runS (As := [.int (zI c1), .int (zI 0), .int (zI 20)]) (rest := []) ⟨hx, hb, hml, hown, hts⟩ (k_rW_no l G hlf H c1 0 20 (by first | assumption | exact ⟨by omega, by omega⟩) (by decide) (by decide) (by omega)) (va_cwS 3 hts gX4_setCosts_X4_refuseUnlessWithin rfl rfl rfl hd_X4_refuseUnlessWithin.2 ⟨(Nat.le_of_ble_eq_true rfl), (Nat.le_of_ble_eq_true rfl)⟩) (g_pre hX hS) rfl rfl hl.1 rfl (lv_room (Nat.le_of_ble_eq_true rfl)) dX4_setCosts_4 ⟨(Nat.le_of_ble_eq_true rfl), (Nat.le_of_ble_eq_true rfl)⟩) hS (fun E ce q9 H_4 locs hp hS hce hcv hcl => ?_) (fun v H1 locs h hS => h.elim)
  exact g_out hxt hlocks hS hce hcv hcl (hp) (Nat.le_of_ble_eq_true rfl) (Nat.le_of_ble_eq_true rfl)
set_option maxHeartbeats 4000000 in
set_option maxRecDepth 100000 in
theorem x_setCosts_2 (l : Launch) (G : gG) (hlf : l.stackTraces = false) (A : Nat → Nat) (TA : Nat → Nat → Nat) (S : cS) (W9 : cWk) (H : Heap) (hC : Cat G A TA S W9 H) (hI : sInv S) (c1 c2 c3 : Int) (hc1 : rI c1) (hc2 : rI c2) (hc3 : rI c3) (h1c : 0 ≤ c1 ∧ c1 ≤ 20) (h : ¬ (0 ≤ c2 ∧ c2 ≤ 20)) : gM l yX4_setCosts wsX4_setCosts rm_X4_setCosts [.ref (A 0), .int (zI c1), .int (zI c2), .int (zI c3)] G H (gF0) (gTh "java/lang/IllegalArgumentException" H) 6 60 := by
  obtain ⟨h0, h1, h2, h3, h4, h5, h6, hap⟩ := id hC
  have hn16 : sn S ≤ 16 := hI.1
  refine g_start (cc := cX4_setCosts) (maxL := 4) (ret := none) (by decide +kernel) rfl (Nat.le_of_ble_eq_true rfl) ?_
  intro p e s m args below meth c F ls hl
  obtain ⟨hx, hb, hml, hr, hts, hown, hlocks, hxt, hH, hX, hin⟩ := F
  have hown : s.vm.findClass RX4 = some m.cls := hown
  have hS : va_S (gA G) s.heap H [] := by rw [hH]; exact va_S.rf
  have hl : lv_has ls 4 [(0, .ref (A 0)), (1, .int (zI c1)), (2, .int (zI c2)), (3, .int (zI c3))] := hl
  refine lv_iload_n hx hb dX4_setCosts_0 rfl (lv_at hl 1 rfl) ?_
  refine lv_iconst (v := zI 0) hx hb dX4_setCosts_1 rfl ?_
  refine lv_bipush (v := zI 20) hx hb dX4_setCosts_2 (by decide +kernel) ?_
  refine g_gov (vx_runS (As := [.int (zI c1), .int (zI 0), .int (zI 20)]) (rest := []) ⟨hx, hb, hml, hown, hts⟩ (k_rW_ok l G H c1 0 20 (by first | assumption | exact ⟨by omega, by omega⟩) (by decide) (by decide) (by omega)) (va_cwS 3 hts gX4_setCosts_X4_refuseUnlessWithin rfl rfl rfl hd_X4_refuseUnlessWithin.2 ⟨(Nat.le_of_ble_eq_true rfl), (Nat.le_of_ble_eq_true rfl)⟩) (g_pre hX hS) rfl rfl hl.1 rfl (lv_room (Nat.le_of_ble_eq_true rfl)) dX4_setCosts_4 ⟨(Nat.le_of_ble_eq_true rfl), (Nat.le_of_ble_eq_true rfl)⟩) hS (fun H_4 locs hp hS => ?_)
  subst hp
  refine lv_iload_n hx hb dX4_setCosts_7 rfl (lv_at hl 2 rfl) ?_
  refine lv_iconst (v := zI 0) hx hb dX4_setCosts_8 rfl ?_
  refine lv_bipush (v := zI 20) hx hb dX4_setCosts_9 (by decide +kernel) ?_
  refine g_go (vx_runS (As := [.int (zI c2), .int (zI 0), .int (zI 20)]) (rest := []) ⟨hx, hb, hml, hown, hts⟩ (k_rW_no l G hlf H c2 0 20 (by first | assumption | exact ⟨by omega, by omega⟩) (by decide) (by decide) (by omega)) (va_cwS 3 hts gX4_setCosts_X4_refuseUnlessWithin rfl rfl rfl hd_X4_refuseUnlessWithin.2 ⟨(Nat.le_of_ble_eq_true rfl), (Nat.le_of_ble_eq_true rfl)⟩) (g_pre hX hS) rfl rfl hl.1 rfl (lv_room (Nat.le_of_ble_eq_true rfl)) dX4_setCosts_11 ⟨(Nat.le_of_ble_eq_true rfl), (Nat.le_of_ble_eq_true rfl)⟩) hS (fun E ce q9 H_11 locs hp hS hce hcv hcl => ?_) (fun v H1 locs h hS => h.elim)
  exact g_out hxt hlocks hS hce hcv hcl (hp) (Nat.le_of_ble_eq_true rfl) (Nat.le_of_ble_eq_true rfl)
set_option maxHeartbeats 4000000 in
set_option maxRecDepth 100000 in
theorem x_setCosts_3 (l : Launch) (G : gG) (hlf : l.stackTraces = false) (A : Nat → Nat) (TA : Nat → Nat → Nat) (S : cS) (W9 : cWk) (H : Heap) (hC : Cat G A TA S W9 H) (hI : sInv S) (c1 c2 c3 : Int) (hc1 : rI c1) (hc2 : rI c2) (hc3 : rI c3) (h1c : 0 ≤ c1 ∧ c1 ≤ 20) (h2c : 0 ≤ c2 ∧ c2 ≤ 20) (h : ¬ (0 ≤ c3 ∧ c3 ≤ 20)) : gM l yX4_setCosts wsX4_setCosts rm_X4_setCosts [.ref (A 0), .int (zI c1), .int (zI c2), .int (zI c3)] G H (gF0) (gTh "java/lang/IllegalArgumentException" H) 6 60 := by
  obtain ⟨h0, h1, h2, h3, h4, h5, h6, hap⟩ := id hC
  have hn16 : sn S ≤ 16 := hI.1
  refine g_start (cc := cX4_setCosts) (maxL := 4) (ret := none) (by decide +kernel) rfl (Nat.le_of_ble_eq_true rfl) ?_
  intro p e s m args below meth c F ls hl
  obtain ⟨hx, hb, hml, hr, hts, hown, hlocks, hxt, hH, hX, hin⟩ := F
  have hown : s.vm.findClass RX4 = some m.cls := hown
  have hS : va_S (gA G) s.heap H [] := by rw [hH]; exact va_S.rf
  have hl : lv_has ls 4 [(0, .ref (A 0)), (1, .int (zI c1)), (2, .int (zI c2)), (3, .int (zI c3))] := hl
  refine lv_iload_n hx hb dX4_setCosts_0 rfl (lv_at hl 1 rfl) ?_
  refine lv_iconst (v := zI 0) hx hb dX4_setCosts_1 rfl ?_
  refine lv_bipush (v := zI 20) hx hb dX4_setCosts_2 (by decide +kernel) ?_
  refine g_gov (vx_runS (As := [.int (zI c1), .int (zI 0), .int (zI 20)]) (rest := []) ⟨hx, hb, hml, hown, hts⟩ (k_rW_ok l G H c1 0 20 (by first | assumption | exact ⟨by omega, by omega⟩) (by decide) (by decide) (by omega)) (va_cwS 3 hts gX4_setCosts_X4_refuseUnlessWithin rfl rfl rfl hd_X4_refuseUnlessWithin.2 ⟨(Nat.le_of_ble_eq_true rfl), (Nat.le_of_ble_eq_true rfl)⟩) (g_pre hX hS) rfl rfl hl.1 rfl (lv_room (Nat.le_of_ble_eq_true rfl)) dX4_setCosts_4 ⟨(Nat.le_of_ble_eq_true rfl), (Nat.le_of_ble_eq_true rfl)⟩) hS (fun H_4 locs hp hS => ?_)
  subst hp
  refine lv_iload_n hx hb dX4_setCosts_7 rfl (lv_at hl 2 rfl) ?_
  refine lv_iconst (v := zI 0) hx hb dX4_setCosts_8 rfl ?_
  refine lv_bipush (v := zI 20) hx hb dX4_setCosts_9 (by decide +kernel) ?_
  refine g_gov (vx_runS (As := [.int (zI c2), .int (zI 0), .int (zI 20)]) (rest := []) ⟨hx, hb, hml, hown, hts⟩ (k_rW_ok l G H c2 0 20 (by first | assumption | exact ⟨by omega, by omega⟩) (by decide) (by decide) (by omega)) (va_cwS 3 hts gX4_setCosts_X4_refuseUnlessWithin rfl rfl rfl hd_X4_refuseUnlessWithin.2 ⟨(Nat.le_of_ble_eq_true rfl), (Nat.le_of_ble_eq_true rfl)⟩) (g_pre hX hS) rfl rfl hl.1 rfl (lv_room (Nat.le_of_ble_eq_true rfl)) dX4_setCosts_11 ⟨(Nat.le_of_ble_eq_true rfl), (Nat.le_of_ble_eq_true rfl)⟩) hS (fun H_11 locs hp hS => ?_)
  subst hp
  refine lv_iload_n hx hb dX4_setCosts_14 rfl (lv_at hl 3 rfl) ?_
  refine lv_iconst (v := zI 0) hx hb dX4_setCosts_15 rfl ?_
  refine lv_bipush (v := zI 20) hx hb dX4_setCosts_16 (by decide +kernel) ?_
  refine g_go (vx_runS (As := [.int (zI c3), .int (zI 0), .int (zI 20)]) (rest := []) ⟨hx, hb, hml, hown, hts⟩ (k_rW_no l G hlf H c3 0 20 (by first | assumption | exact ⟨by omega, by omega⟩) (by decide) (by decide) (by omega)) (va_cwS 3 hts gX4_setCosts_X4_refuseUnlessWithin rfl rfl rfl hd_X4_refuseUnlessWithin.2 ⟨(Nat.le_of_ble_eq_true rfl), (Nat.le_of_ble_eq_true rfl)⟩) (g_pre hX hS) rfl rfl hl.1 rfl (lv_room (Nat.le_of_ble_eq_true rfl)) dX4_setCosts_18 ⟨(Nat.le_of_ble_eq_true rfl), (Nat.le_of_ble_eq_true rfl)⟩) hS (fun E ce q9 H_18 locs hp hS hce hcv hcl => ?_) (fun v H1 locs h hS => h.elim)
  exact g_out hxt hlocks hS hce hcv hcl (hp) (Nat.le_of_ble_eq_true rfl) (Nat.le_of_ble_eq_true rfl)
set_option maxHeartbeats 4000000 in
set_option maxRecDepth 100000 in
theorem x_cost_ok (l : Launch) (G : gG) (A : Nat → Nat) (TA : Nat → Nat → Nat) (S : cS) (W9 : cWk) (H : Heap) (hC : Cat G A TA S W9 H) (hI : sInv S) (z : Int) (i : Nat) (hz : z = i) (hi : i < sn S)(hk : srt S i = false) : gM l yX4_cost wsX4_cost rm_X4_cost [.ref (A 0), .int (zI z)] G H (gi (fun r H1 => zI (costI (tX S i)) = r ∧ XP G A TA S S H H1)) (gNo) 6 60 := by
  obtain ⟨h0, h1, h2, h3, h4, h5, h6, hap⟩ := id hC
  have hn16 : sn S ≤ 16 := hI.1
  obtain ⟨ht, hp1, hl1, gt, htd⟩ := id (h6 i hi)
  have hT := h6 i hi
  refine g_start (cc := cX4_cost) (maxL := 2) (ret := (some .int)) (by decide +kernel) rfl (Nat.le_of_ble_eq_true rfl) ?_
  intro p e s m args below meth c F ls hl
  obtain ⟨hx, hb, hml, hr, hts, hown, hlocks, hxt, hH, hX, hin⟩ := F
  have hown : s.vm.findClass RX4 = some m.cls := hown
  have hS : va_S (gA G) s.heap H [] := by rw [hH]; exact va_S.rf
  have hl : lv_has ls 2 [(0, .ref (A 0)), (1, .int (zI z))] := hl
  refine lv_aload_n hx hb dX4_cost_0 rfl (lv_at hl 0 rfl) ?_
  refine g_get hx hb hX hts (fun w h => (List.mem_cons_of_mem _ (List.mem_append_left _ (List.mem_append_left _ (List.mem_append_left _ (List.mem_append_left _ (List.mem_append_right _ h))))))) hown h0 rfl 2 (by decide) (hts (.fieldLink RX4 18 "TuneCatalogue" "matching" "LTuneCatalogue$Matching;") (List.mem_cons_of_mem _ (List.mem_append_left _ (List.mem_append_left _ (List.mem_append_left _ (List.mem_append_left _ (List.mem_append_left _ (List.mem_append_left _ (List.mem_of_getElem? (i := 0) rfl))))))))) rfl dX4_cost_1 ?_
  refine lv_aload_n hx hb dX4_cost_4 rfl (lv_at hl 0 rfl) ?_
  refine lv_iload_n hx hb dX4_cost_5 rfl (lv_at hl 1 rfl) ?_
  refine g_goq (vx_runV (As := [.int (zI z)]) (rest := [.ref (A 4)]) ⟨hx, hb, hml, hown, hts⟩ (k_kT_ok l G A TA S W9 H hC hI z i hz hi hk) (cwV 1 hts gX4_cost_X4_knownOrThrow rfl rfl rfl hd_X4_knownOrThrow ⟨(Nat.le_of_ble_eq_true rfl), (Nat.le_of_ble_eq_true rfl)⟩) (g_preV hX hS (ci := 4) rfl h0) rfl rfl hl.1 rfl (lv_room (Nat.le_of_ble_eq_true rfl)) dX4_cost_6 ⟨(Nat.le_of_ble_eq_true rfl), (Nat.le_of_ble_eq_true rfl)⟩) hS (fun r_6 H_6 locs hp hS => ?_)
  obtain ⟨rfl, rfl⟩ := hp
  refine W.eq (g2 := F0 m 9 ls [.ref (TA i 0), .ref (A 4)]) rfl ?_
  refine g_goi (vx_runV (As := [.ref (TA i 0)]) (rest := []) ⟨hx, hb, hml, hown, hts⟩ (k_cheapestByTable l G (A 4) (A 2) (A 3) (A 5) (tX S i) (wtb W9) H (hC.mat i) (tX_ok hI i) (TA i) (srt S i) hT (fun j hj => Ne.symm (hap.2.1 i j 5 hi hj (by omega)))) (cwV 1 hts gX4_cost_X1_cheapestByTable rfl rfl rfl hd_X1_cheapestByTable ⟨(Nat.le_of_ble_eq_true rfl), (Nat.le_of_ble_eq_true rfl)⟩) (g_preV hX hS (ci := 1) rfl h2.1) rfl rfl hl.1 rfl (lv_room (Nat.le_of_ble_eq_true rfl)) dX4_cost_9 ⟨(Nat.le_of_ble_eq_true rfl), (Nat.le_of_ble_eq_true rfl)⟩) hS (fun r_9 H_9 locs hp hS => ?_)
  obtain ⟨rfl, hO1, tb2, hM2⟩ := hp
  exact g_reti hx hb hr hlocks hS rfl (⟨rfl, ⟨_, hC.tab hO1 hM2⟩, hO1.grow.kp (fun q hq => by rw [List.mem_singleton.mp hq]; exact own.A (by omega))⟩) (Nat.le_of_ble_eq_true rfl) (Nat.le_of_ble_eq_true rfl) dX4_cost_12
set_option maxHeartbeats 4000000 in
set_option maxRecDepth 100000 in
theorem x_cost_e1 (l : Launch) (G : gG) (hlf : l.stackTraces = false) (A : Nat → Nat) (TA : Nat → Nat → Nat) (S : cS) (W9 : cWk) (H : Heap) (hC : Cat G A TA S W9 H) (hI : sInv S) (z : Int) (hz : rI z) (hi : ¬ kwn S z) : gM l yX4_cost wsX4_cost rm_X4_cost [.ref (A 0), .int (zI z)] G H (gF0) (gTh "java/lang/IndexOutOfBoundsException" H) 6 60 := by
  obtain ⟨h0, h1, h2, h3, h4, h5, h6, hap⟩ := id hC
  have hn16 : sn S ≤ 16 := hI.1
  refine g_start (cc := cX4_cost) (maxL := 2) (ret := (some .int)) (by decide +kernel) rfl (Nat.le_of_ble_eq_true rfl) ?_
  intro p e s m args below meth c F ls hl
  obtain ⟨hx, hb, hml, hr, hts, hown, hlocks, hxt, hH, hX, hin⟩ := F
  have hown : s.vm.findClass RX4 = some m.cls := hown
  have hS : va_S (gA G) s.heap H [] := by rw [hH]; exact va_S.rf
  have hl : lv_has ls 2 [(0, .ref (A 0)), (1, .int (zI z))] := hl
  refine lv_aload_n hx hb dX4_cost_0 rfl (lv_at hl 0 rfl) ?_
  refine g_get hx hb hX hts (fun w h => (List.mem_cons_of_mem _ (List.mem_append_left _ (List.mem_append_left _ (List.mem_append_left _ (List.mem_append_left _ (List.mem_append_right _ h))))))) hown h0 rfl 2 (by decide) (hts (.fieldLink RX4 18 "TuneCatalogue" "matching" "LTuneCatalogue$Matching;") (List.mem_cons_of_mem _ (List.mem_append_left _ (List.mem_append_left _ (List.mem_append_left _ (List.mem_append_left _ (List.mem_append_left _ (List.mem_append_left _ (List.mem_of_getElem? (i := 0) rfl))))))))) rfl dX4_cost_1 ?_
  refine lv_aload_n hx hb dX4_cost_4 rfl (lv_at hl 0 rfl) ?_
  refine lv_iload_n hx hb dX4_cost_5 rfl (lv_at hl 1 rfl) ?_
  refine g_go (vx_runV (As := [.int (zI z)]) (rest := [.ref (A 4)]) ⟨hx, hb, hml, hown, hts⟩ (k_kT_no l G hlf A TA S W9 H hC hI z hz hi) (cwV 1 hts gX4_cost_X4_knownOrThrow rfl rfl rfl hd_X4_knownOrThrow ⟨(Nat.le_of_ble_eq_true rfl), (Nat.le_of_ble_eq_true rfl)⟩) (g_preV hX hS (ci := 4) rfl h0) rfl rfl hl.1 rfl (lv_room (Nat.le_of_ble_eq_true rfl)) dX4_cost_6 ⟨(Nat.le_of_ble_eq_true rfl), (Nat.le_of_ble_eq_true rfl)⟩) hS (fun E ce q9 H_6 locs hp hS hce hcv hcl => ?_) (fun v H1 locs h hS => h.elim)
  exact g_out hxt hlocks hS hce hcv hcl (hp) (Nat.le_of_ble_eq_true rfl) (Nat.le_of_ble_eq_true rfl)
