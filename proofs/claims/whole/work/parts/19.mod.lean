/-! ===== the reference: its object and its seven rows ===== -/
def Mod (G : gG) (B : Nat → Nat) (S : cS) (th : Int) (ct : Nat → Int32) (H : Heap) : Prop :=
  gat G (B 0) (.inr (5, [.int (zI th), .int (zI (sn S)), .ref (B 1), .ref (B 2), .ref (B 3), .ref (B 4), .ref (B 5), .int (zI (shn S)), .int (zI (ssl S)), .int (zI (sor S)), .int (zI (srp S)), .ref (B 6), .ref (B 7)])) H ∧
  gat G (B 1) (.inl (gI G, 384, .inl (fun j => zI (stp S (j / 24) (j % 24))))) H ∧
  gat G (B 2) (.inl (gI G, 384, .inl (fun j => zI (stl S (j / 24) (j % 24))))) H ∧
  gat G (B 3) (.inl (gI G, 16, .inl (fun j => zI ((stn S j : Nat) : Int)))) H ∧
  gat G (B 4) (.inl (gZ G, 16, .inl (fun j => zI (zB (srt S j))))) H ∧
  gat G (B 5) (.inl (gI G, 12, .inl (fun j => zI (shf S j)))) H ∧
  gat G (B 6) (.inl (gI G, 288, .inl ct)) H ∧
  gat G (B 7) (.inl (gI G, 16, .inl (fun j => zI ((slk S j : Nat) : Int)))) H ∧
  (∀ i j, i < 8 → j < 8 → i ≠ j → B i ≠ B j) ∧ ∀ k, k < 8 → gB G ≤ B k
def oB (B : Nat → Nat) (q : Nat) : Prop := ∃ k, k < 8 ∧ q = B k
theorem oB.k {B : Nat → Nat} {k : Nat} (h : k < 8) : oB B (B k) := ⟨k, h, rfl⟩
theorem gOnly.kp1 {O : Nat → Prop} {H H1 : Heap} {q : Nat} (h : gOnly [q] H H1) (ho : O q) : gKp O H H1 := h.grow.kp (fun x hx => by rw [List.mem_singleton.mp hx]; exact ho)
theorem gKp.rf (O : Nat → Prop) (H : Heap) : gKp O H H := ⟨Nat.le_refl _, fun _ _ _ => rfl⟩
theorem d24 (F : Nat → Nat → Int) {i k : Nat} (hk : k < 24) : F ((24 * i + k) / 24) ((24 * i + k) % 24) = F i k := by
  rw [show (24 * i + k) / 24 = i by omega, show (24 * i + k) % 24 = k by omega]
def MP (G : gG) (B : Nat → Nat) (S2 : cS) (th : Int) (H H1 : Heap) : Prop := (∃ ct, Mod G B S2 th ct H1) ∧ gKp (oB B) H H1
theorem vpz : vp_nar .boolean (zI 1) = zI 1 := by decide +kernel
set_option maxHeartbeats 4000000 in
set_option maxRecDepth 100000 in
theorem m_in_t (l : Launch) (G : gG) (H : Heap) (a lo hi : Int) (ha : rI a) (hlo : rI lo) (hhi : rI hi) (h : (lo ≤ a ∧ a ≤ hi)) : gM l yX5_in wsX5_in rm_X5_in [.int (zI a), .int (zI lo), .int (zI hi)] G H (gi (fun r H1 => zI 1 = r ∧ H = H1)) (gNo) 0 0 := by
  refine g_start (cc := cX5_in) (maxL := 3) (ret := (some .boolean)) (by decide +kernel) rfl (Nat.le_of_ble_eq_true rfl) ?_
  intro p e s m args below meth c F ls hl
  obtain ⟨hx, hb, hml, hr, hts, hown, hlocks, hxt, hH, hX, hin⟩ := F
  have hown : s.vm.findClass RX5 = some m.cls := hown
  have hS : va_S (gA G) s.heap H [] := by rw [hH]; exact va_S.rf
  have hl : lv_has ls 3 [(0, .int (zI a)), (1, .int (zI lo)), (2, .int (zI hi))] := hl
  refine lv_iload_n hx hb dX5_in_0 rfl (lv_at hl 0 rfl) ?_
  refine lv_iload_n hx hb dX5_in_1 rfl (lv_at hl 1 rfl) ?_
  refine gz_icmp_lt (tgt := 14) hx hb (by assumption) (by assumption) dX5_in_2 (by decide) (fun c_2 => ?_) (fun c_2 => ?_)
  · omega
  · refine lv_iload_n hx hb dX5_in_5 rfl (lv_at hl 0 rfl) ?_
    refine lv_iload_n hx hb dX5_in_6 rfl (lv_at hl 2 rfl) ?_
    refine gz_icmp_gt (tgt := 14) hx hb (by assumption) (by assumption) dX5_in_7 (by decide) (fun c_7 => ?_) (fun c_7 => ?_)
    · omega
    · refine lv_iconst (v := zI 1) hx hb dX5_in_10 rfl ?_
      refine lv_goto (tgt := 15) hx hb dX5_in_11 (by decide) ?_
      exact g_reti hx hb hr hlocks hS rfl (⟨rfl, rfl⟩) (Nat.le_of_ble_eq_true rfl) (Nat.le_of_ble_eq_true rfl) dX5_in_15
set_option maxHeartbeats 4000000 in
set_option maxRecDepth 100000 in
theorem m_in_f (l : Launch) (G : gG) (H : Heap) (a lo hi : Int) (ha : rI a) (hlo : rI lo) (hhi : rI hi) (h : ¬ (lo ≤ a ∧ a ≤ hi)) : gM l yX5_in wsX5_in rm_X5_in [.int (zI a), .int (zI lo), .int (zI hi)] G H (gi (fun r H1 => zI 0 = r ∧ H = H1)) (gNo) 0 0 := by
  refine g_start (cc := cX5_in) (maxL := 3) (ret := (some .boolean)) (by decide +kernel) rfl (Nat.le_of_ble_eq_true rfl) ?_
  intro p e s m args below meth c F ls hl
  obtain ⟨hx, hb, hml, hr, hts, hown, hlocks, hxt, hH, hX, hin⟩ := F
  have hown : s.vm.findClass RX5 = some m.cls := hown
  have hS : va_S (gA G) s.heap H [] := by rw [hH]; exact va_S.rf
  have hl : lv_has ls 3 [(0, .int (zI a)), (1, .int (zI lo)), (2, .int (zI hi))] := hl
  refine lv_iload_n hx hb dX5_in_0 rfl (lv_at hl 0 rfl) ?_
  refine lv_iload_n hx hb dX5_in_1 rfl (lv_at hl 1 rfl) ?_
  refine gz_icmp_lt (tgt := 14) hx hb (by assumption) (by assumption) dX5_in_2 (by decide) (fun c_2 => ?_) (fun c_2 => ?_)
  · refine lv_iconst (v := zI 0) hx hb dX5_in_14 rfl ?_
    exact g_reti hx hb hr hlocks hS rfl (⟨rfl, rfl⟩) (Nat.le_of_ble_eq_true rfl) (Nat.le_of_ble_eq_true rfl) dX5_in_15
  · refine lv_iload_n hx hb dX5_in_5 rfl (lv_at hl 0 rfl) ?_
    refine lv_iload_n hx hb dX5_in_6 rfl (lv_at hl 2 rfl) ?_
    refine gz_icmp_gt (tgt := 14) hx hb (by assumption) (by assumption) dX5_in_7 (by decide) (fun c_7 => ?_) (fun c_7 => ?_)
    · refine lv_iconst (v := zI 0) hx hb dX5_in_14 rfl ?_
      exact g_reti hx hb hr hlocks hS rfl (⟨rfl, rfl⟩) (Nat.le_of_ble_eq_true rfl) (Nat.le_of_ble_eq_true rfl) dX5_in_15
    · omega
theorem m_in (l : Launch) (G : gG) (H : Heap) (a lo hi : Int) (ha : rI a) (hlo : rI lo) (hhi : rI hi) : gM l yX5_in wsX5_in rm_X5_in [.int (zI a), .int (zI lo), .int (zI hi)] G H (gi (fun r H1 => zI (if lo ≤ a ∧ a ≤ hi then 1 else 0) = r ∧ H = H1)) gNo 0 0 := by
  by_cases h : lo ≤ a ∧ a ≤ hi
  · rw [if_pos h]; exact m_in_t l G H a lo hi ha hlo hhi h
  · rw [if_neg h]; exact m_in_f l G H a lo hi ha hlo hhi h
set_option maxHeartbeats 4000000 in
set_option maxRecDepth 100000 in
theorem m_isTune_t (l : Launch) (G : gG) (B : Nat → Nat) (S : cS) (th : Int) (ct : Nat → Int32) (H : Heap) (hM : Mod G B S th ct H) (hI : sInv S) (z : Int) (i : Nat) (hz : z = i) (hi : i < sn S)  : gM l yX5_isTune wsX5_isTune rm_X5_isTune [.ref (B 0), .int (zI z)] G H (gi (fun r H1 => zI 1 = r ∧ H = H1)) (gNo) 0 0 := by
  obtain ⟨m0, m1, m2, m3, m4, m5, m6, m7, hB, gBs⟩ := id hM
  have hn16 : sn S ≤ 16 := hI.1
  have gB0 := gBs 0 (by omega)
  have gB1 := gBs 1 (by omega)
  have gB2 := gBs 2 (by omega)
  have gB3 := gBs 3 (by omega)
  have gB4 := gBs 4 (by omega)
  have gB5 := gBs 5 (by omega)
  have gB6 := gBs 6 (by omega)
  have gB7 := gBs 7 (by omega)
  refine g_start (cc := cX5_isTune) (maxL := 2) (ret := (some .boolean)) (by decide +kernel) rfl (Nat.le_of_ble_eq_true rfl) ?_
  intro p e s m args below meth c F ls hl
  obtain ⟨hx, hb, hml, hr, hts, hown, hlocks, hxt, hH, hX, hin⟩ := F
  have hown : s.vm.findClass RX5 = some m.cls := hown
  have hS : va_S (gA G) s.heap H [] := by rw [hH]; exact va_S.rf
  have hl : lv_has ls 2 [(0, .ref (B 0)), (1, .int (zI z))] := hl
  refine lv_iload_n hx hb dX5_isTune_0 rfl (lv_at hl 1 rfl) ?_
  refine lv_iconst (v := zI 0) hx hb dX5_isTune_1 rfl ?_
  refine lv_aload_n hx hb dX5_isTune_2 rfl (lv_at hl 0 rfl) ?_
  refine g_get hx hb hX hts (fun w h => (List.mem_cons_of_mem _ (List.mem_append_right _ h))) hown m0 rfl 1 (by decide) (hts (.fieldLink RX5 45 "TuneCatalogueModel" "tunes" "I") (List.mem_cons_of_mem _ (List.mem_append_left _ (List.mem_of_getElem? (i := 0) rfl)))) rfl dX5_isTune_3 ?_
  refine lv_iconst (v := zI 1) hx hb dX5_isTune_6 rfl ?_
  refine gz_isub hx hb dX5_isTune_7 ?_
  refine g_goi (vx_runS (As := [.int (zI z), .int (zI 0), .int (zI ((sn S : Int) - 1))]) (rest := []) ⟨hx, hb, hml, hown, hts⟩ (m_in_t l G H z 0 ((sn S : Int) - 1) (by first | assumption | exact ⟨by omega, by omega⟩) ⟨by omega, by omega⟩ ⟨by omega, by omega⟩ (by omega)) (va_cwS 3 hts gX5_isTune_X5_in rfl rfl rfl hd_X5_in.2 ⟨(Nat.le_of_ble_eq_true rfl), (Nat.le_of_ble_eq_true rfl)⟩) (g_pre hX hS) rfl rfl hl.1 rfl (lv_room (Nat.le_of_ble_eq_true rfl)) dX5_isTune_8 ⟨(Nat.le_of_ble_eq_true rfl), (Nat.le_of_ble_eq_true rfl)⟩) hS (fun r_8 H_8 locs hp hS => ?_)
  obtain ⟨rfl, rfl⟩ := hp
  exact g_reti hx hb hr hlocks hS rfl (⟨rfl, rfl⟩) (Nat.le_of_ble_eq_true rfl) (Nat.le_of_ble_eq_true rfl) dX5_isTune_11
set_option maxHeartbeats 4000000 in
set_option maxRecDepth 100000 in
theorem m_isTune_f (l : Launch) (G : gG) (B : Nat → Nat) (S : cS) (th : Int) (ct : Nat → Int32) (H : Heap) (hM : Mod G B S th ct H) (hI : sInv S) (z : Int) (hz : rI z) (hi : ¬ (0 ≤ z ∧ z < sn S))  : gM l yX5_isTune wsX5_isTune rm_X5_isTune [.ref (B 0), .int (zI z)] G H (gi (fun r H1 => zI 0 = r ∧ H = H1)) (gNo) 0 0 := by
  obtain ⟨m0, m1, m2, m3, m4, m5, m6, m7, hB, gBs⟩ := id hM
  have hn16 : sn S ≤ 16 := hI.1
  have gB0 := gBs 0 (by omega)
  have gB1 := gBs 1 (by omega)
  have gB2 := gBs 2 (by omega)
  have gB3 := gBs 3 (by omega)
  have gB4 := gBs 4 (by omega)
  have gB5 := gBs 5 (by omega)
  have gB6 := gBs 6 (by omega)
  have gB7 := gBs 7 (by omega)
  refine g_start (cc := cX5_isTune) (maxL := 2) (ret := (some .boolean)) (by decide +kernel) rfl (Nat.le_of_ble_eq_true rfl) ?_
  intro p e s m args below meth c F ls hl
  obtain ⟨hx, hb, hml, hr, hts, hown, hlocks, hxt, hH, hX, hin⟩ := F
  have hown : s.vm.findClass RX5 = some m.cls := hown
  have hS : va_S (gA G) s.heap H [] := by rw [hH]; exact va_S.rf
  have hl : lv_has ls 2 [(0, .ref (B 0)), (1, .int (zI z))] := hl
  refine lv_iload_n hx hb dX5_isTune_0 rfl (lv_at hl 1 rfl) ?_
  refine lv_iconst (v := zI 0) hx hb dX5_isTune_1 rfl ?_
  refine lv_aload_n hx hb dX5_isTune_2 rfl (lv_at hl 0 rfl) ?_
  refine g_get hx hb hX hts (fun w h => (List.mem_cons_of_mem _ (List.mem_append_right _ h))) hown m0 rfl 1 (by decide) (hts (.fieldLink RX5 45 "TuneCatalogueModel" "tunes" "I") (List.mem_cons_of_mem _ (List.mem_append_left _ (List.mem_of_getElem? (i := 0) rfl)))) rfl dX5_isTune_3 ?_
  refine lv_iconst (v := zI 1) hx hb dX5_isTune_6 rfl ?_
  refine gz_isub hx hb dX5_isTune_7 ?_
  refine g_goi (vx_runS (As := [.int (zI z), .int (zI 0), .int (zI ((sn S : Int) - 1))]) (rest := []) ⟨hx, hb, hml, hown, hts⟩ (m_in_f l G H z 0 ((sn S : Int) - 1) (by first | assumption | exact ⟨by omega, by omega⟩) ⟨by omega, by omega⟩ ⟨by omega, by omega⟩ (by omega)) (va_cwS 3 hts gX5_isTune_X5_in rfl rfl rfl hd_X5_in.2 ⟨(Nat.le_of_ble_eq_true rfl), (Nat.le_of_ble_eq_true rfl)⟩) (g_pre hX hS) rfl rfl hl.1 rfl (lv_room (Nat.le_of_ble_eq_true rfl)) dX5_isTune_8 ⟨(Nat.le_of_ble_eq_true rfl), (Nat.le_of_ble_eq_true rfl)⟩) hS (fun r_8 H_8 locs hp hS => ?_)
  obtain ⟨rfl, rfl⟩ := hp
  exact g_reti hx hb hr hlocks hS rfl (⟨rfl, rfl⟩) (Nat.le_of_ble_eq_true rfl) (Nat.le_of_ble_eq_true rfl) dX5_isTune_11
set_option maxHeartbeats 4000000 in
set_option maxRecDepth 100000 in
theorem m_isKnown_t (l : Launch) (G : gG) (B : Nat → Nat) (S : cS) (th : Int) (ct : Nat → Int32) (H : Heap) (hM : Mod G B S th ct H) (hI : sInv S) (z : Int) (i : Nat) (hz : z = i) (hi : i < sn S) (hk : srt S i = false)  : gM l yX5_isKnown wsX5_isKnown rm_X5_isKnown [.ref (B 0), .int (zI z)] G H (gi (fun r H1 => zI 1 = r ∧ H = H1)) (gNo) 0 0 := by
  obtain ⟨m0, m1, m2, m3, m4, m5, m6, m7, hB, gBs⟩ := id hM
  have hn16 : sn S ≤ 16 := hI.1
  have gB0 := gBs 0 (by omega)
  have gB1 := gBs 1 (by omega)
  have gB2 := gBs 2 (by omega)
  have gB3 := gBs 3 (by omega)
  have gB4 := gBs 4 (by omega)
  have gB5 := gBs 5 (by omega)
  have gB6 := gBs 6 (by omega)
  have gB7 := gBs 7 (by omega)
  refine g_start (cc := cX5_isKnown) (maxL := 2) (ret := (some .boolean)) (by decide +kernel) rfl (Nat.le_of_ble_eq_true rfl) ?_
  intro p e s m args below meth c F ls hl
  obtain ⟨hx, hb, hml, hr, hts, hown, hlocks, hxt, hH, hX, hin⟩ := F
  have hown : s.vm.findClass RX5 = some m.cls := hown
  have hS : va_S (gA G) s.heap H [] := by rw [hH]; exact va_S.rf
  have hl : lv_has ls 2 [(0, .ref (B 0)), (1, .int (zI z))] := hl
  refine lv_aload_n hx hb dX5_isKnown_0 rfl (lv_at hl 0 rfl) ?_
  refine lv_iload_n hx hb dX5_isKnown_1 rfl (lv_at hl 1 rfl) ?_
  refine g_goi (vx_runV (As := [.int (zI z)]) (rest := []) ⟨hx, hb, hml, hown, hts⟩ (m_isTune_t l G B S th ct H hM hI z i hz hi) (cwV 1 hts gX5_isKnown_X5_isTune rfl rfl rfl hd_X5_isTune ⟨(Nat.le_of_ble_eq_true rfl), (Nat.le_of_ble_eq_true rfl)⟩) (g_preV hX hS (ci := 5) rfl m0) rfl rfl hl.1 rfl (lv_room (Nat.le_of_ble_eq_true rfl)) dX5_isKnown_2 ⟨(Nat.le_of_ble_eq_true rfl), (Nat.le_of_ble_eq_true rfl)⟩) hS (fun r_2 H_2 locs hp hS => ?_)
  obtain ⟨rfl, rfl⟩ := hp
  refine gz_if_eq (tgt := 21) hx hb (by decide) dX5_isKnown_5 (by decide) (fun c_5 => ?_) (fun c_5 => ?_)
  · omega
  · refine lv_aload_n hx hb dX5_isKnown_8 rfl (lv_at hl 0 rfl) ?_
    refine g_get hx hb hX hts (fun w h => (List.mem_cons_of_mem _ (List.mem_append_right _ h))) hown m0 rfl 5 (by decide) (hts (.fieldLink RX5 19 "TuneCatalogueModel" "areRetired" "[Z") (List.mem_cons_of_mem _ (List.mem_append_left _ (List.mem_of_getElem? (i := 0) rfl)))) rfl dX5_isKnown_9 ?_
    refine lv_iload_n hx hb dX5_isKnown_12 rfl (lv_at hl 1 rfl) ?_
    refine gz_zald hx hb hX m4 i (by omega) (by omega) (by omega) dX5_isKnown_13 ?_
    refine gz_if_ne (tgt := 21) hx hb (by cases srt S i <;> decide) dX5_isKnown_14 (by decide) (fun c_14 => ?_) (fun c_14 => ?_)
    · exact absurd (by rw [hk]; rfl) c_14
    · refine lv_iconst (v := zI 1) hx hb dX5_isKnown_17 rfl ?_
      refine lv_goto (tgt := 22) hx hb dX5_isKnown_18 (by decide) ?_
      exact g_reti hx hb hr hlocks hS rfl (⟨rfl, rfl⟩) (Nat.le_of_ble_eq_true rfl) (Nat.le_of_ble_eq_true rfl) dX5_isKnown_22
set_option maxHeartbeats 4000000 in
set_option maxRecDepth 100000 in
theorem m_isKnown_f2 (l : Launch) (G : gG) (B : Nat → Nat) (S : cS) (th : Int) (ct : Nat → Int32) (H : Heap) (hM : Mod G B S th ct H) (hI : sInv S) (z : Int) (i : Nat) (hz : z = i) (hi : i < sn S) (hk : srt S i = true)  : gM l yX5_isKnown wsX5_isKnown rm_X5_isKnown [.ref (B 0), .int (zI z)] G H (gi (fun r H1 => zI 0 = r ∧ H = H1)) (gNo) 0 0 := by
  obtain ⟨m0, m1, m2, m3, m4, m5, m6, m7, hB, gBs⟩ := id hM
  have hn16 : sn S ≤ 16 := hI.1
  have gB0 := gBs 0 (by omega)
  have gB1 := gBs 1 (by omega)
  have gB2 := gBs 2 (by omega)
  have gB3 := gBs 3 (by omega)
  have gB4 := gBs 4 (by omega)
  have gB5 := gBs 5 (by omega)
  have gB6 := gBs 6 (by omega)
  have gB7 := gBs 7 (by omega)
  refine g_start (cc := cX5_isKnown) (maxL := 2) (ret := (some .boolean)) (by decide +kernel) rfl (Nat.le_of_ble_eq_true rfl) ?_
  intro p e s m args below meth c F ls hl
  obtain ⟨hx, hb, hml, hr, hts, hown, hlocks, hxt, hH, hX, hin⟩ := F
  have hown : s.vm.findClass RX5 = some m.cls := hown
  have hS : va_S (gA G) s.heap H [] := by rw [hH]; exact va_S.rf
  have hl : lv_has ls 2 [(0, .ref (B 0)), (1, .int (zI z))] := hl
  refine lv_aload_n hx hb dX5_isKnown_0 rfl (lv_at hl 0 rfl) ?_
  refine lv_iload_n hx hb dX5_isKnown_1 rfl (lv_at hl 1 rfl) ?_
  refine g_goi (vx_runV (As := [.int (zI z)]) (rest := []) ⟨hx, hb, hml, hown, hts⟩ (m_isTune_t l G B S th ct H hM hI z i hz hi) (cwV 1 hts gX5_isKnown_X5_isTune rfl rfl rfl hd_X5_isTune ⟨(Nat.le_of_ble_eq_true rfl), (Nat.le_of_ble_eq_true rfl)⟩) (g_preV hX hS (ci := 5) rfl m0) rfl rfl hl.1 rfl (lv_room (Nat.le_of_ble_eq_true rfl)) dX5_isKnown_2 ⟨(Nat.le_of_ble_eq_true rfl), (Nat.le_of_ble_eq_true rfl)⟩) hS (fun r_2 H_2 locs hp hS => ?_)
  obtain ⟨rfl, rfl⟩ := hp
  refine gz_if_eq (tgt := 21) hx hb (by decide) dX5_isKnown_5 (by decide) (fun c_5 => ?_) (fun c_5 => ?_)
  · omega
  · refine lv_aload_n hx hb dX5_isKnown_8 rfl (lv_at hl 0 rfl) ?_
    refine g_get hx hb hX hts (fun w h => (List.mem_cons_of_mem _ (List.mem_append_right _ h))) hown m0 rfl 5 (by decide) (hts (.fieldLink RX5 19 "TuneCatalogueModel" "areRetired" "[Z") (List.mem_cons_of_mem _ (List.mem_append_left _ (List.mem_of_getElem? (i := 0) rfl)))) rfl dX5_isKnown_9 ?_
    refine lv_iload_n hx hb dX5_isKnown_12 rfl (lv_at hl 1 rfl) ?_
    refine gz_zald hx hb hX m4 i (by omega) (by omega) (by omega) dX5_isKnown_13 ?_
    refine gz_if_ne (tgt := 21) hx hb (by cases srt S i <;> decide) dX5_isKnown_14 (by decide) (fun c_14 => ?_) (fun c_14 => ?_)
    · refine lv_iconst (v := zI 0) hx hb dX5_isKnown_21 rfl ?_
      exact g_reti hx hb hr hlocks hS rfl (⟨rfl, rfl⟩) (Nat.le_of_ble_eq_true rfl) (Nat.le_of_ble_eq_true rfl) dX5_isKnown_22
    · rw [hk] at c_14
      exact absurd (Classical.not_not.mp c_14) (by decide)
set_option maxHeartbeats 4000000 in
set_option maxRecDepth 100000 in
theorem m_isKnown_f1 (l : Launch) (G : gG) (B : Nat → Nat) (S : cS) (th : Int) (ct : Nat → Int32) (H : Heap) (hM : Mod G B S th ct H) (hI : sInv S) (z : Int) (hz : rI z) (hi : ¬ (0 ≤ z ∧ z < sn S))  : gM l yX5_isKnown wsX5_isKnown rm_X5_isKnown [.ref (B 0), .int (zI z)] G H (gi (fun r H1 => zI 0 = r ∧ H = H1)) (gNo) 0 0 := by
  obtain ⟨m0, m1, m2, m3, m4, m5, m6, m7, hB, gBs⟩ := id hM
  have hn16 : sn S ≤ 16 := hI.1
  have gB0 := gBs 0 (by omega)
  have gB1 := gBs 1 (by omega)
  have gB2 := gBs 2 (by omega)
  have gB3 := gBs 3 (by omega)
  have gB4 := gBs 4 (by omega)
  have gB5 := gBs 5 (by omega)
  have gB6 := gBs 6 (by omega)
  have gB7 := gBs 7 (by omega)
  refine g_start (cc := cX5_isKnown) (maxL := 2) (ret := (some .boolean)) (by decide +kernel) rfl (Nat.le_of_ble_eq_true rfl) ?_
  intro p e s m args below meth c F ls hl
  obtain ⟨hx, hb, hml, hr, hts, hown, hlocks, hxt, hH, hX, hin⟩ := F
  have hown : s.vm.findClass RX5 = some m.cls := hown
  have hS : va_S (gA G) s.heap H [] := by rw [hH]; exact va_S.rf
  have hl : lv_has ls 2 [(0, .ref (B 0)), (1, .int (zI z))] := hl
  refine lv_aload_n hx hb dX5_isKnown_0 rfl (lv_at hl 0 rfl) ?_
  refine lv_iload_n hx hb dX5_isKnown_1 rfl (lv_at hl 1 rfl) ?_
  refine g_goi (vx_runV (As := [.int (zI z)]) (rest := []) ⟨hx, hb, hml, hown, hts⟩ (m_isTune_f l G B S th ct H hM hI z hz hi) (cwV 1 hts gX5_isKnown_X5_isTune rfl rfl rfl hd_X5_isTune ⟨(Nat.le_of_ble_eq_true rfl), (Nat.le_of_ble_eq_true rfl)⟩) (g_preV hX hS (ci := 5) rfl m0) rfl rfl hl.1 rfl (lv_room (Nat.le_of_ble_eq_true rfl)) dX5_isKnown_2 ⟨(Nat.le_of_ble_eq_true rfl), (Nat.le_of_ble_eq_true rfl)⟩) hS (fun r_2 H_2 locs hp hS => ?_)
  obtain ⟨rfl, rfl⟩ := hp
  refine gz_if_eq (tgt := 21) hx hb (by decide) dX5_isKnown_5 (by decide) (fun c_5 => ?_) (fun c_5 => ?_)
  · refine lv_iconst (v := zI 0) hx hb dX5_isKnown_21 rfl ?_
    exact g_reti hx hb hr hlocks hS rfl (⟨rfl, rfl⟩) (Nat.le_of_ble_eq_true rfl) (Nat.le_of_ble_eq_true rfl) dX5_isKnown_22
  · omega
theorem m_isKnown_f (l : Launch) (G : gG) (B : Nat → Nat) (S : cS) (th : Int) (ct : Nat → Int32) (H : Heap) (hM : Mod G B S th ct H) (hI : sInv S) (z : Int) (hz : rI z) (h : ¬ kwn S z) : gM l yX5_isKnown wsX5_isKnown rm_X5_isKnown [.ref (B 0), .int (zI z)] G H (gi (fun r H1 => zI 0 = r ∧ H = H1)) gNo 0 0 := by
  by_cases h1 : 0 ≤ z ∧ z < sn S
  · refine m_isKnown_f2 l G B S th ct H hM hI z z.toNat (by omega) (by omega) ?_
    cases e : srt S z.toNat
    · exact absurd ⟨h1, e⟩ h
    · rfl
  · exact m_isKnown_f1 l G B S th ct H hM hI z hz h1
theorem m_isKnown (l : Launch) (G : gG) (B : Nat → Nat) (S : cS) (th : Int) (ct : Nat → Int32) (H : Heap) (hM : Mod G B S th ct H) (hI : sInv S) (z : Int) (i : Nat) (hz : z = i) (hi : i < sn S) : gM l yX5_isKnown wsX5_isKnown rm_X5_isKnown [.ref (B 0), .int (zI z)] G H (gi (fun r H1 => zI (zB (!srt S i)) = r ∧ H = H1)) gNo 0 0 := by
  cases e : srt S i
  · exact m_isKnown_t l G B S th ct H hM hI z i hz hi e
  · exact m_isKnown_f2 l G B S th ct H hM hI z i hz hi e
set_option maxHeartbeats 4000000 in
set_option maxRecDepth 100000 in
theorem m_isNote_t (l : Launch) (G : gG) (H : Heap) (a b : Int) (ha : rI a) (hb1 : rI b) (h : isN a b) : gM l yX5_isNote wsX5_isNote rm_X5_isNote [.int (zI a), .int (zI b)] G H (gi (fun r H1 => zI 1 = r ∧ H = H1)) (gNo) 0 0 := by
  obtain ⟨h1, h2⟩ := h
  refine g_start (cc := cX5_isNote) (maxL := 2) (ret := (some .boolean)) (by decide +kernel) rfl (Nat.le_of_ble_eq_true rfl) ?_
  intro p e s m args below meth c F ls hl
  obtain ⟨hx, hb, hml, hr, hts, hown, hlocks, hxt, hH, hX, hin⟩ := F
  have hown : s.vm.findClass RX5 = some m.cls := hown
  have hS : va_S (gA G) s.heap H [] := by rw [hH]; exact va_S.rf
  have hl : lv_has ls 2 [(0, .int (zI a)), (1, .int (zI b))] := hl
  refine lv_iload_n hx hb dX5_isNote_0 rfl (lv_at hl 0 rfl) ?_
  refine lv_iconst (v := zI 0) hx hb dX5_isNote_1 rfl ?_
  refine lv_bipush (v := zI 60) hx hb dX5_isNote_2 (by decide +kernel) ?_
  refine g_goi (vx_runS (As := [.int (zI a), .int (zI 0), .int (zI 60)]) (rest := []) ⟨hx, hb, hml, hown, hts⟩ (m_in_t l G H a 0 60 (by first | assumption | exact ⟨by omega, by omega⟩) ⟨by omega, by omega⟩ ⟨by omega, by omega⟩ (by omega)) (va_cwS 3 hts gX5_isNote_X5_in rfl rfl rfl hd_X5_in.2 ⟨(Nat.le_of_ble_eq_true rfl), (Nat.le_of_ble_eq_true rfl)⟩) (g_pre hX hS) rfl rfl hl.1 rfl (lv_room (Nat.le_of_ble_eq_true rfl)) dX5_isNote_4 ⟨(Nat.le_of_ble_eq_true rfl), (Nat.le_of_ble_eq_true rfl)⟩) hS (fun r_4 H_4 locs hp hS => ?_)
  obtain ⟨rfl, rfl⟩ := hp
  refine gz_if_eq (tgt := 24) hx hb (by decide) dX5_isNote_7 (by decide) (fun c_7 => ?_) (fun c_7 => ?_)
  · omega
  · refine lv_iload_n hx hb dX5_isNote_10 rfl (lv_at hl 1 rfl) ?_
    refine lv_iconst (v := zI 1) hx hb dX5_isNote_11 rfl ?_
    refine lv_bipush (v := zI 8) hx hb dX5_isNote_12 (by decide +kernel) ?_
    refine g_goi (vx_runS (As := [.int (zI b), .int (zI 1), .int (zI 8)]) (rest := []) ⟨hx, hb, hml, hown, hts⟩ (m_in_t l G H b 1 8 (by first | assumption | exact ⟨by omega, by omega⟩) ⟨by omega, by omega⟩ ⟨by omega, by omega⟩ (by omega)) (va_cwS 3 hts gX5_isNote_X5_in rfl rfl rfl hd_X5_in.2 ⟨(Nat.le_of_ble_eq_true rfl), (Nat.le_of_ble_eq_true rfl)⟩) (g_pre hX hS) rfl rfl hl.1 rfl (lv_room (Nat.le_of_ble_eq_true rfl)) dX5_isNote_14 ⟨(Nat.le_of_ble_eq_true rfl), (Nat.le_of_ble_eq_true rfl)⟩) hS (fun r_14 H_14 locs hp hS => ?_)
    obtain ⟨rfl, rfl⟩ := hp
    refine gz_if_eq (tgt := 24) hx hb (by decide) dX5_isNote_17 (by decide) (fun c_17 => ?_) (fun c_17 => ?_)
    · omega
    · refine lv_iconst (v := zI 1) hx hb dX5_isNote_20 rfl ?_
      refine lv_goto (tgt := 25) hx hb dX5_isNote_21 (by decide) ?_
      exact g_reti hx hb hr hlocks hS rfl (⟨rfl, rfl⟩) (Nat.le_of_ble_eq_true rfl) (Nat.le_of_ble_eq_true rfl) dX5_isNote_25
set_option maxHeartbeats 4000000 in
set_option maxRecDepth 100000 in
theorem m_isNote_f1 (l : Launch) (G : gG) (H : Heap) (a b : Int) (ha : rI a) (hb1 : rI b) (h : ¬ (0 ≤ a ∧ a ≤ 60)) : gM l yX5_isNote wsX5_isNote rm_X5_isNote [.int (zI a), .int (zI b)] G H (gi (fun r H1 => zI 0 = r ∧ H = H1)) (gNo) 0 0 := by
  refine g_start (cc := cX5_isNote) (maxL := 2) (ret := (some .boolean)) (by decide +kernel) rfl (Nat.le_of_ble_eq_true rfl) ?_
  intro p e s m args below meth c F ls hl
  obtain ⟨hx, hb, hml, hr, hts, hown, hlocks, hxt, hH, hX, hin⟩ := F
  have hown : s.vm.findClass RX5 = some m.cls := hown
  have hS : va_S (gA G) s.heap H [] := by rw [hH]; exact va_S.rf
  have hl : lv_has ls 2 [(0, .int (zI a)), (1, .int (zI b))] := hl
  refine lv_iload_n hx hb dX5_isNote_0 rfl (lv_at hl 0 rfl) ?_
  refine lv_iconst (v := zI 0) hx hb dX5_isNote_1 rfl ?_
  refine lv_bipush (v := zI 60) hx hb dX5_isNote_2 (by decide +kernel) ?_
  refine g_goi (vx_runS (As := [.int (zI a), .int (zI 0), .int (zI 60)]) (rest := []) ⟨hx, hb, hml, hown, hts⟩ (m_in_f l G H a 0 60 (by first | assumption | exact ⟨by omega, by omega⟩) ⟨by omega, by omega⟩ ⟨by omega, by omega⟩ (by omega)) (va_cwS 3 hts gX5_isNote_X5_in rfl rfl rfl hd_X5_in.2 ⟨(Nat.le_of_ble_eq_true rfl), (Nat.le_of_ble_eq_true rfl)⟩) (g_pre hX hS) rfl rfl hl.1 rfl (lv_room (Nat.le_of_ble_eq_true rfl)) dX5_isNote_4 ⟨(Nat.le_of_ble_eq_true rfl), (Nat.le_of_ble_eq_true rfl)⟩) hS (fun r_4 H_4 locs hp hS => ?_)
  obtain ⟨rfl, rfl⟩ := hp
  refine gz_if_eq (tgt := 24) hx hb (by decide) dX5_isNote_7 (by decide) (fun c_7 => ?_) (fun c_7 => ?_)
  · refine lv_iconst (v := zI 0) hx hb dX5_isNote_24 rfl ?_
    exact g_reti hx hb hr hlocks hS rfl (⟨rfl, rfl⟩) (Nat.le_of_ble_eq_true rfl) (Nat.le_of_ble_eq_true rfl) dX5_isNote_25
  · omega
set_option maxHeartbeats 4000000 in
set_option maxRecDepth 100000 in
theorem m_isNote_f2 (l : Launch) (G : gG) (H : Heap) (a b : Int) (ha : rI a) (hb1 : rI b) (h1 : 0 ≤ a ∧ a ≤ 60) (h : ¬ (1 ≤ b ∧ b ≤ 8)) : gM l yX5_isNote wsX5_isNote rm_X5_isNote [.int (zI a), .int (zI b)] G H (gi (fun r H1 => zI 0 = r ∧ H = H1)) (gNo) 0 0 := by
  refine g_start (cc := cX5_isNote) (maxL := 2) (ret := (some .boolean)) (by decide +kernel) rfl (Nat.le_of_ble_eq_true rfl) ?_
  intro p e s m args below meth c F ls hl
  obtain ⟨hx, hb, hml, hr, hts, hown, hlocks, hxt, hH, hX, hin⟩ := F
  have hown : s.vm.findClass RX5 = some m.cls := hown
  have hS : va_S (gA G) s.heap H [] := by rw [hH]; exact va_S.rf
  have hl : lv_has ls 2 [(0, .int (zI a)), (1, .int (zI b))] := hl
  refine lv_iload_n hx hb dX5_isNote_0 rfl (lv_at hl 0 rfl) ?_
  refine lv_iconst (v := zI 0) hx hb dX5_isNote_1 rfl ?_
  refine lv_bipush (v := zI 60) hx hb dX5_isNote_2 (by decide +kernel) ?_
  refine g_goi (vx_runS (As := [.int (zI a), .int (zI 0), .int (zI 60)]) (rest := []) ⟨hx, hb, hml, hown, hts⟩ (m_in_t l G H a 0 60 (by first | assumption | exact ⟨by omega, by omega⟩) ⟨by omega, by omega⟩ ⟨by omega, by omega⟩ (by omega)) (va_cwS 3 hts gX5_isNote_X5_in rfl rfl rfl hd_X5_in.2 ⟨(Nat.le_of_ble_eq_true rfl), (Nat.le_of_ble_eq_true rfl)⟩) (g_pre hX hS) rfl rfl hl.1 rfl (lv_room (Nat.le_of_ble_eq_true rfl)) dX5_isNote_4 ⟨(Nat.le_of_ble_eq_true rfl), (Nat.le_of_ble_eq_true rfl)⟩) hS (fun r_4 H_4 locs hp hS => ?_)
  obtain ⟨rfl, rfl⟩ := hp
  refine gz_if_eq (tgt := 24) hx hb (by decide) dX5_isNote_7 (by decide) (fun c_7 => ?_) (fun c_7 => ?_)
  · omega
  · refine lv_iload_n hx hb dX5_isNote_10 rfl (lv_at hl 1 rfl) ?_
    refine lv_iconst (v := zI 1) hx hb dX5_isNote_11 rfl ?_
    refine lv_bipush (v := zI 8) hx hb dX5_isNote_12 (by decide +kernel) ?_
    refine g_goi (vx_runS (As := [.int (zI b), .int (zI 1), .int (zI 8)]) (rest := []) ⟨hx, hb, hml, hown, hts⟩ (m_in_f l G H b 1 8 (by first | assumption | exact ⟨by omega, by omega⟩) ⟨by omega, by omega⟩ ⟨by omega, by omega⟩ (by omega)) (va_cwS 3 hts gX5_isNote_X5_in rfl rfl rfl hd_X5_in.2 ⟨(Nat.le_of_ble_eq_true rfl), (Nat.le_of_ble_eq_true rfl)⟩) (g_pre hX hS) rfl rfl hl.1 rfl (lv_room (Nat.le_of_ble_eq_true rfl)) dX5_isNote_14 ⟨(Nat.le_of_ble_eq_true rfl), (Nat.le_of_ble_eq_true rfl)⟩) hS (fun r_14 H_14 locs hp hS => ?_)
    obtain ⟨rfl, rfl⟩ := hp
    refine gz_if_eq (tgt := 24) hx hb (by decide) dX5_isNote_17 (by decide) (fun c_17 => ?_) (fun c_17 => ?_)
    · refine lv_iconst (v := zI 0) hx hb dX5_isNote_24 rfl ?_
      exact g_reti hx hb hr hlocks hS rfl (⟨rfl, rfl⟩) (Nat.le_of_ble_eq_true rfl) (Nat.le_of_ble_eq_true rfl) dX5_isNote_25
    · omega
theorem m_isNote_f (l : Launch) (G : gG) (H : Heap) (a b : Int) (ha : rI a) (hb1 : rI b) (h : ¬ isN a b) : gM l yX5_isNote wsX5_isNote rm_X5_isNote [.int (zI a), .int (zI b)] G H (gi (fun r H1 => zI 0 = r ∧ H = H1)) gNo 0 0 := by
  by_cases h1 : 0 ≤ a ∧ a ≤ 60
  · exact m_isNote_f2 l G H a b ha hb1 h1 (fun q => h ⟨h1, q⟩)
  · exact m_isNote_f1 l G H a b ha hb1 h1
set_option maxHeartbeats 4000000 in
set_option maxRecDepth 100000 in
theorem m_thrown (l : Launch) (G : gG) (B : Nat → Nat) (S : cS) (th : Int) (ct : Nat → Int32) (H : Heap) (hM : Mod G B S th ct H) : gM l yX5_thrown wsX5_thrown rm_X5_thrown [.ref (B 0)] G H (gi (fun r H1 => zI th = r ∧ H = H1)) (gNo) 0 0 := by
  have m0 := hM.1
  refine g_start (cc := cX5_thrown) (maxL := 1) (ret := (some .int)) (by decide +kernel) rfl (Nat.le_of_ble_eq_true rfl) ?_
  intro p e s m args below meth c F ls hl
  obtain ⟨hx, hb, hml, hr, hts, hown, hlocks, hxt, hH, hX, hin⟩ := F
  have hown : s.vm.findClass RX5 = some m.cls := hown
  have hS : va_S (gA G) s.heap H [] := by rw [hH]; exact va_S.rf
  have hl : lv_has ls 1 [(0, .ref (B 0))] := hl
  refine lv_aload_n hx hb dX5_thrown_0 rfl (lv_at hl 0 rfl) ?_
  refine g_get hx hb hX hts (fun w h => (List.mem_cons_of_mem _ (List.mem_append_right _ h))) hown m0 rfl 0 (by decide) (hts (.fieldLink RX5 42 "TuneCatalogueModel" "thrown" "I") (List.mem_cons_of_mem _ (List.mem_append_left _ (List.mem_of_getElem? (i := 0) rfl)))) rfl dX5_thrown_1 ?_
  exact g_reti hx hb hr hlocks hS rfl (⟨rfl, rfl⟩) (Nat.le_of_ble_eq_true rfl) (Nat.le_of_ble_eq_true rfl) dX5_thrown_4
set_option maxHeartbeats 4000000 in
set_option maxRecDepth 100000 in
theorem m_holds_0 (l : Launch) (G : gG) (B : Nat → Nat) (S : cS) (th : Int) (ct : Nat → Int32) (H : Heap) (hM : Mod G B S th ct H) (hI : sInv S) (z : Int) (hz : z = 0) : gM l yX5_holds wsX5_holds rm_X5_holds [.ref (B 0), .int (zI z)] G H (gi (fun r H1 => zI 1 = r ∧ Mod G B S 0 ct H1 ∧ gOnly [B 0] H H1)) (gNo) 0 0 := by
  obtain ⟨m0, m1, m2, m3, m4, m5, m6, m7, hB, gBs⟩ := id hM
  have hn16 : sn S ≤ 16 := hI.1
  have gB0 := gBs 0 (by omega)
  have gB1 := gBs 1 (by omega)
  have gB2 := gBs 2 (by omega)
  have gB3 := gBs 3 (by omega)
  have gB4 := gBs 4 (by omega)
  have gB5 := gBs 5 (by omega)
  have gB6 := gBs 6 (by omega)
  have gB7 := gBs 7 (by omega)
  refine g_start (cc := cX5_holds) (maxL := 2) (ret := (some .boolean)) (by decide +kernel) rfl (Nat.le_of_ble_eq_true rfl) ?_
  intro p e s m args below meth c F ls hl
  obtain ⟨hx, hb, hml, hr, hts, hown, hlocks, hxt, hH, hX, hin⟩ := F
  have hown : s.vm.findClass RX5 = some m.cls := hown
  have hS : va_S (gA G) s.heap H [] := by rw [hH]; exact va_S.rf
  have hl : lv_has ls 2 [(0, .ref (B 0)), (1, .int (zI z))] := hl
  subst hz
  refine lv_aload_n hx hb dX5_holds_0 rfl (lv_at hl 0 rfl) ?_
  refine lv_iload_n hx hb dX5_holds_1 rfl (lv_at hl 1 rfl) ?_
  refine g_put hx hb hX hts (fun w h => (List.mem_cons_of_mem _ (List.mem_append_right _ h))) tyX5 tyX5_ok nmX5 hown hS m0 gB0 rfl 0 (by decide) (hts (.fieldLink RX5 42 "TuneCatalogueModel" "thrown" "I") (List.mem_cons_of_mem _ (List.mem_append_left _ (List.mem_of_getElem? (i := 0) rfl)))) rfl (ty := tyX5 0) rfl rfl rfl (Nat.le_of_ble_eq_true rfl) dX5_holds_2 (fun H_2 locs h_n hO hS => ?_)
  have m1 := gat.only1 m1 hO (hB 1 0 (by omega) (by omega) (by omega))
  have m2 := gat.only1 m2 hO (hB 2 0 (by omega) (by omega) (by omega))
  have m3 := gat.only1 m3 hO (hB 3 0 (by omega) (by omega) (by omega))
  have m4 := gat.only1 m4 hO (hB 4 0 (by omega) (by omega) (by omega))
  have m5 := gat.only1 m5 hO (hB 5 0 (by omega) (by omega) (by omega))
  have m6 := gat.only1 m6 hO (hB 6 0 (by omega) (by omega) (by omega))
  have m7 := gat.only1 m7 hO (hB 7 0 (by omega) (by omega) (by omega))
  have m0 : gat G (B 0) (.inr (5, [.int (zI 0), .int (zI (sn S : Int)), .ref (B 1), .ref (B 2), .ref (B 3), .ref (B 4), .ref (B 5), .int (zI (shn S : Int)), .int (zI (ssl S)), .int (zI (sor S)), .int (zI (srp S)), .ref (B 6), .ref (B 7)])) H_2 := h_n
  refine lv_iload_n hx hb dX5_holds_5 rfl (lv_at hl 1 rfl) ?_
  refine gz_if_ne (tgt := 13) hx hb (by decide) dX5_holds_6 (by decide) (fun c_6 => ?_) (fun c_6 => ?_)
  · omega
  · refine lv_iconst (v := zI 1) hx hb dX5_holds_9 rfl ?_
    refine lv_goto (tgt := 14) hx hb dX5_holds_10 (by decide) ?_
    exact g_reti hx hb hr hlocks hS rfl (⟨rfl, ⟨m0, m1, m2, m3, m4, m5, m6, m7, hB, gBs⟩, hO⟩) (Nat.le_of_ble_eq_true rfl) (Nat.le_of_ble_eq_true rfl) dX5_holds_14
set_option maxHeartbeats 4000000 in
set_option maxRecDepth 100000 in
theorem m_holds_k (l : Launch) (G : gG) (B : Nat → Nat) (S : cS) (th : Int) (ct : Nat → Int32) (H : Heap) (hM : Mod G B S th ct H) (hI : sInv S) (z : Int) (hz : z ≠ 0) (hr1 : rI z) : gM l yX5_holds wsX5_holds rm_X5_holds [.ref (B 0), .int (zI z)] G H (gi (fun r H1 => zI 0 = r ∧ Mod G B S z ct H1 ∧ gOnly [B 0] H H1)) (gNo) 0 0 := by
  obtain ⟨m0, m1, m2, m3, m4, m5, m6, m7, hB, gBs⟩ := id hM
  have hn16 : sn S ≤ 16 := hI.1
  have gB0 := gBs 0 (by omega)
  have gB1 := gBs 1 (by omega)
  have gB2 := gBs 2 (by omega)
  have gB3 := gBs 3 (by omega)
  have gB4 := gBs 4 (by omega)
  have gB5 := gBs 5 (by omega)
  have gB6 := gBs 6 (by omega)
  have gB7 := gBs 7 (by omega)
  refine g_start (cc := cX5_holds) (maxL := 2) (ret := (some .boolean)) (by decide +kernel) rfl (Nat.le_of_ble_eq_true rfl) ?_
  intro p e s m args below meth c F ls hl
  obtain ⟨hx, hb, hml, hr, hts, hown, hlocks, hxt, hH, hX, hin⟩ := F
  have hown : s.vm.findClass RX5 = some m.cls := hown
  have hS : va_S (gA G) s.heap H [] := by rw [hH]; exact va_S.rf
  have hl : lv_has ls 2 [(0, .ref (B 0)), (1, .int (zI z))] := hl
  refine lv_aload_n hx hb dX5_holds_0 rfl (lv_at hl 0 rfl) ?_
  refine lv_iload_n hx hb dX5_holds_1 rfl (lv_at hl 1 rfl) ?_
  refine g_put hx hb hX hts (fun w h => (List.mem_cons_of_mem _ (List.mem_append_right _ h))) tyX5 tyX5_ok nmX5 hown hS m0 gB0 rfl 0 (by decide) (hts (.fieldLink RX5 42 "TuneCatalogueModel" "thrown" "I") (List.mem_cons_of_mem _ (List.mem_append_left _ (List.mem_of_getElem? (i := 0) rfl)))) rfl (ty := tyX5 0) rfl rfl rfl (Nat.le_of_ble_eq_true rfl) dX5_holds_2 (fun H_2 locs h_n hO hS => ?_)
  have m1 := gat.only1 m1 hO (hB 1 0 (by omega) (by omega) (by omega))
  have m2 := gat.only1 m2 hO (hB 2 0 (by omega) (by omega) (by omega))
  have m3 := gat.only1 m3 hO (hB 3 0 (by omega) (by omega) (by omega))
  have m4 := gat.only1 m4 hO (hB 4 0 (by omega) (by omega) (by omega))
  have m5 := gat.only1 m5 hO (hB 5 0 (by omega) (by omega) (by omega))
  have m6 := gat.only1 m6 hO (hB 6 0 (by omega) (by omega) (by omega))
  have m7 := gat.only1 m7 hO (hB 7 0 (by omega) (by omega) (by omega))
  have m0 : gat G (B 0) (.inr (5, [.int (zI z), .int (zI (sn S : Int)), .ref (B 1), .ref (B 2), .ref (B 3), .ref (B 4), .ref (B 5), .int (zI (shn S : Int)), .int (zI (ssl S)), .int (zI (sor S)), .int (zI (srp S)), .ref (B 6), .ref (B 7)])) H_2 := h_n
  refine lv_iload_n hx hb dX5_holds_5 rfl (lv_at hl 1 rfl) ?_
  refine gz_if_ne (tgt := 13) hx hb (by assumption) dX5_holds_6 (by decide) (fun c_6 => ?_) (fun c_6 => ?_)
  · refine lv_iconst (v := zI 0) hx hb dX5_holds_13 rfl ?_
    exact g_reti hx hb hr hlocks hS rfl (⟨rfl, ⟨m0, m1, m2, m3, m4, m5, m6, m7, hB, gBs⟩, hO⟩) (Nat.le_of_ble_eq_true rfl) (Nat.le_of_ble_eq_true rfl) dX5_holds_14
  · exact absurd (Classical.not_not.mp c_6) hz
set_option maxHeartbeats 4000000 in
set_option maxRecDepth 100000 in
theorem m_sets (l : Launch) (G : gG) (B : Nat → Nat) (S : cS) (th : Int) (ct : Nat → Int32) (H : Heap) (hM : Mod G B S th ct H) (hI : sInv S) (z : Int) (i : Nat) (hz : z = i) (hi : i < 16) (zk p1 l1 : Int) (k : Nat) (hzk : zk = k) (hk24 : k < 24)  : gM l yX5_sets wsX5_sets rm_X5_sets [.ref (B 0), .int (zI z), .int (zI zk), .int (zI p1), .int (zI l1)] G H (gv (fun H1 => Mod G B (sCorr S i k p1 l1) th ct H1 ∧ gOnly [B 1, B 2] H H1)) (gNo) 0 0 := by
  obtain ⟨m0, m1, m2, m3, m4, m5, m6, m7, hB, gBs⟩ := id hM
  have hn16 : sn S ≤ 16 := hI.1
  have gB0 := gBs 0 (by omega)
  have gB1 := gBs 1 (by omega)
  have gB2 := gBs 2 (by omega)
  have gB3 := gBs 3 (by omega)
  have gB4 := gBs 4 (by omega)
  have gB5 := gBs 5 (by omega)
  have gB6 := gBs 6 (by omega)
  have gB7 := gBs 7 (by omega)
  refine g_start (cc := cX5_sets) (maxL := 5) (ret := none) (by decide +kernel) rfl (Nat.le_of_ble_eq_true rfl) ?_
  intro p e s m args below meth c F ls hl
  obtain ⟨hx, hb, hml, hr, hts, hown, hlocks, hxt, hH, hX, hin⟩ := F
  have hown : s.vm.findClass RX5 = some m.cls := hown
  have hS : va_S (gA G) s.heap H [] := by rw [hH]; exact va_S.rf
  have hl : lv_has ls 5 [(0, .ref (B 0)), (1, .int (zI z)), (2, .int (zI zk)), (3, .int (zI p1)), (4, .int (zI l1))] := hl
  refine lv_aload_n hx hb dX5_sets_0 rfl (lv_at hl 0 rfl) ?_
  refine g_get hx hb hX hts (fun w h => (List.mem_cons_of_mem _ (List.mem_append_right _ h))) hown m0 rfl 2 (by decide) (hts (.fieldLink RX5 7 "TuneCatalogueModel" "pitches" "[I") (List.mem_cons_of_mem _ (List.mem_append_left _ (List.mem_of_getElem? (i := 0) rfl)))) rfl dX5_sets_1 ?_
  refine lv_bipush (v := zI 24) hx hb dX5_sets_4 (by decide +kernel) ?_
  refine lv_iload_n hx hb dX5_sets_6 rfl (lv_at hl 1 rfl) ?_
  refine gz_imul hx hb dX5_sets_7 ?_
  refine lv_iload_n hx hb dX5_sets_8 rfl (lv_at hl 2 rfl) ?_
  refine gz_iadd hx hb dX5_sets_9 ?_
  refine lv_iload_n hx hb dX5_sets_10 rfl (lv_at hl 3 rfl) ?_
  refine gz_iast hx hb hX hS m1 gB1 (24 * i + k) (by omega) (by omega) (by omega) dX5_sets_11 (fun H_11 locs h_n hO hS => ?_)
  rw [zup2 _ _ _ _ hk24] at h_n
  have m0 := gat.only1 m0 hO (hB 0 1 (by omega) (by omega) (by omega))
  have m2 := gat.only1 m2 hO (hB 2 1 (by omega) (by omega) (by omega))
  have m3 := gat.only1 m3 hO (hB 3 1 (by omega) (by omega) (by omega))
  have m4 := gat.only1 m4 hO (hB 4 1 (by omega) (by omega) (by omega))
  have m5 := gat.only1 m5 hO (hB 5 1 (by omega) (by omega) (by omega))
  have m6 := gat.only1 m6 hO (hB 6 1 (by omega) (by omega) (by omega))
  have m7 := gat.only1 m7 hO (hB 7 1 (by omega) (by omega) (by omega))
  have m1 : gat G (B 1) (.inl (gI G, 384, .inl (fun j => zI (up2 (stp S) i k p1 (j / 24) (j % 24))))) H_11 := h_n
  have hO11 := hO
  refine lv_aload_n hx hb dX5_sets_12 rfl (lv_at hl 0 rfl) ?_
  refine g_get hx hb hX hts (fun w h => (List.mem_cons_of_mem _ (List.mem_append_right _ h))) hown m0 rfl 3 (by decide) (hts (.fieldLink RX5 13 "TuneCatalogueModel" "lengths" "[I") (List.mem_cons_of_mem _ (List.mem_append_left _ (List.mem_of_getElem? (i := 1) rfl)))) rfl dX5_sets_13 ?_
  refine lv_bipush (v := zI 24) hx hb dX5_sets_16 (by decide +kernel) ?_
  refine lv_iload_n hx hb dX5_sets_18 rfl (lv_at hl 1 rfl) ?_
  refine gz_imul hx hb dX5_sets_19 ?_
  refine lv_iload_n hx hb dX5_sets_20 rfl (lv_at hl 2 rfl) ?_
  refine gz_iadd hx hb dX5_sets_21 ?_
  refine lv_iload hx hb dX5_sets_22 (lv_at hl 4 rfl) ?_
  refine gz_iast hx hb hX hS m2 gB2 (24 * i + k) (by omega) (by omega) (by omega) dX5_sets_24 (fun H_24 locs h_n hO hS => ?_)
  rw [zup2 _ _ _ _ hk24] at h_n
  have m0 := gat.only1 m0 hO (hB 0 2 (by omega) (by omega) (by omega))
  have m1 := gat.only1 m1 hO (hB 1 2 (by omega) (by omega) (by omega))
  have m3 := gat.only1 m3 hO (hB 3 2 (by omega) (by omega) (by omega))
  have m4 := gat.only1 m4 hO (hB 4 2 (by omega) (by omega) (by omega))
  have m5 := gat.only1 m5 hO (hB 5 2 (by omega) (by omega) (by omega))
  have m6 := gat.only1 m6 hO (hB 6 2 (by omega) (by omega) (by omega))
  have m7 := gat.only1 m7 hO (hB 7 2 (by omega) (by omega) (by omega))
  have m2 : gat G (B 2) (.inl (gI G, 384, .inl (fun j => zI (up2 (stl S) i k l1 (j / 24) (j % 24))))) H_24 := h_n
  exact g_retv hx hb hr hlocks hS (⟨⟨m0, m1, m2, m3, m4, m5, m6, m7, hB, gBs⟩, hO11.trans hO (by intro q h; simp only [List.mem_cons, List.not_mem_nil, or_false] at h ⊢; omega) (by intro q h; simp only [List.mem_cons, List.not_mem_nil, or_false] at h ⊢; omega)⟩) (Nat.le_of_ble_eq_true rfl) (Nat.le_of_ble_eq_true rfl) dX5_sets_25
set_option maxHeartbeats 4000000 in
set_option maxRecDepth 100000 in
theorem m_stepOf (l : Launch) (G : gG) (B : Nat → Nat) (S : cS) (th : Int) (ct : Nat → Int32) (H : Heap) (hM : Mod G B S th ct H) (hI : sInv S) (z zk : Int) (i k : Nat) (hz : z = i) (hzk : zk = k) (hi : i < 16) (hk : k + 1 < 24) : gM l yX5_stepOf wsX5_stepOf rm_X5_stepOf [.ref (B 0), .int (zI z), .int (zI zk)] G H (gi (fun r H1 => zI (stp S i (k + 1)) - zI (stp S i k) = r ∧ H = H1)) (gNo) 0 0 := by
  obtain ⟨m0, m1, m2, m3, m4, m5, m6, m7, hB, gBs⟩ := id hM
  have hn16 : sn S ≤ 16 := hI.1
  have gB0 := gBs 0 (by omega)
  have gB1 := gBs 1 (by omega)
  have gB2 := gBs 2 (by omega)
  have gB3 := gBs 3 (by omega)
  have gB4 := gBs 4 (by omega)
  have gB5 := gBs 5 (by omega)
  have gB6 := gBs 6 (by omega)
  have gB7 := gBs 7 (by omega)
  refine g_start (cc := cX5_stepOf) (maxL := 3) (ret := (some .int)) (by decide +kernel) rfl (Nat.le_of_ble_eq_true rfl) ?_
  intro p e s m args below meth c F ls hl
  obtain ⟨hx, hb, hml, hr, hts, hown, hlocks, hxt, hH, hX, hin⟩ := F
  have hown : s.vm.findClass RX5 = some m.cls := hown
  have hS : va_S (gA G) s.heap H [] := by rw [hH]; exact va_S.rf
  have hl : lv_has ls 3 [(0, .ref (B 0)), (1, .int (zI z)), (2, .int (zI zk))] := hl
  refine lv_aload_n hx hb dX5_stepOf_0 rfl (lv_at hl 0 rfl) ?_
  refine g_get hx hb hX hts (fun w h => (List.mem_cons_of_mem _ (List.mem_append_right _ h))) hown m0 rfl 2 (by decide) (hts (.fieldLink RX5 7 "TuneCatalogueModel" "pitches" "[I") (List.mem_cons_of_mem _ (List.mem_append_left _ (List.mem_of_getElem? (i := 0) rfl)))) rfl dX5_stepOf_1 ?_
  refine lv_bipush (v := zI 24) hx hb dX5_stepOf_4 (by decide +kernel) ?_
  refine lv_iload_n hx hb dX5_stepOf_6 rfl (lv_at hl 1 rfl) ?_
  refine gz_imul hx hb dX5_stepOf_7 ?_
  refine lv_iload_n hx hb dX5_stepOf_8 rfl (lv_at hl 2 rfl) ?_
  refine gz_iadd hx hb dX5_stepOf_9 ?_
  refine lv_iconst (v := zI 1) hx hb dX5_stepOf_10 rfl ?_
  refine gz_iadd hx hb dX5_stepOf_11 ?_
  refine gz_iald hx hb hX m1 (24 * i + (k + 1)) (by omega) (by omega) (by omega) dX5_stepOf_12 ?_
  rw [d24 (stp S) (i := i) (k := k + 1) (by omega)]
  refine lv_aload_n hx hb dX5_stepOf_13 rfl (lv_at hl 0 rfl) ?_
  refine g_get hx hb hX hts (fun w h => (List.mem_cons_of_mem _ (List.mem_append_right _ h))) hown m0 rfl 2 (by decide) (hts (.fieldLink RX5 7 "TuneCatalogueModel" "pitches" "[I") (List.mem_cons_of_mem _ (List.mem_append_left _ (List.mem_of_getElem? (i := 0) rfl)))) rfl dX5_stepOf_14 ?_
  refine lv_bipush (v := zI 24) hx hb dX5_stepOf_17 (by decide +kernel) ?_
  refine lv_iload_n hx hb dX5_stepOf_19 rfl (lv_at hl 1 rfl) ?_
  refine gz_imul hx hb dX5_stepOf_20 ?_
  refine lv_iload_n hx hb dX5_stepOf_21 rfl (lv_at hl 2 rfl) ?_
  refine gz_iadd hx hb dX5_stepOf_22 ?_
  refine gz_iald hx hb hX m1 (24 * i + k) (by omega) (by omega) (by omega) dX5_stepOf_23 ?_
  rw [d24 (stp S) (i := i) (k := k) (by omega)]
  refine gz_isub hx hb dX5_stepOf_24 ?_
  exact g_reti hx hb hr hlocks hS rfl (⟨zI_sub _ _, rfl⟩) (Nat.le_of_ble_eq_true rfl) (Nat.le_of_ble_eq_true rfl) dX5_stepOf_25
