/-! ===== the reference's calls: tunes and the hum ===== -/
theorem gKp.only {O : Nat → Prop} {L : List Nat} {H H1 H2 : Heap} (a : gKp O H H1) (b : gOnly L H1 H2) (h : ∀ q ∈ L, O q) : gKp O H H2 := a.trans (b.grow.kp h)
set_option maxHeartbeats 4000000 in
set_option maxRecDepth 100000 in
theorem m_add_ok (l : Launch) (G : gG) (B : Nat → Nat) (S : cS) (th : Int) (ct : Nat → Int32) (H : Heap) (hM : Mod G B S th ct H) (hI : sInv S) (p1 l1 : Int) (hp0 : rI p1) (hl0 : rI l1) (hN : isN p1 l1) (h16 : sn S < 16) : gM l yX5_add wsX5_add rm_X5_add [.ref (B 0), .int (zI p1), .int (zI l1)] G H (gi (fun r H1 => zI (sn S) = r ∧ MP G B (sAdd S p1 l1) 0 H H1)) (gNo) 0 0 := by
  obtain ⟨m0, m1, m2, m3, m4, m5, m6, m7, hB, gBs⟩ := id hM
  have hn16 : sn S ≤ 16 := hI.1
  have gB0 := gBs 0 (by omega)
  have gB1 := gBs 1 (by omega)
  have gB2 := gBs 2 (by omega)
  have gB3 := gBs 3 (by omega)
  have gB4 := gBs 4 (by omega)
  have gB5 := gBs 5 (by omega)
  have gB6 := gBs 6 (by omega)
  have gB7 := gBs 7 (by omega)
  have hK : gKp (oB B) H H := gKp.rf _ _
  refine g_start (cc := cX5_add) (maxL := 3) (ret := (some .int)) (by decide +kernel) rfl (Nat.le_of_ble_eq_true rfl) ?_
  intro p e s m args below meth c F ls hl
  obtain ⟨hx, hb, hml, hr, hts, hown, hlocks, hxt, hH, hX, hin⟩ := F
  have hown : s.vm.findClass RX5 = some m.cls := hown
  have hS : va_S (gA G) s.heap H [] := by rw [hH]; exact va_S.rf
  have hl : lv_has ls 3 [(0, .ref (B 0)), (1, .int (zI p1)), (2, .int (zI l1))] := hl
  refine lv_aload_n hx hb dX5_add_0 rfl (lv_at hl 0 rfl) ?_
  refine lv_iload_n hx hb dX5_add_1 rfl (lv_at hl 1 rfl) ?_
  refine lv_iload_n hx hb dX5_add_2 rfl (lv_at hl 2 rfl) ?_
  refine g_goi (vx_runS (As := [.int (zI p1), .int (zI l1)]) (rest := [.ref (B 0)]) ⟨hx, hb, hml, hown, hts⟩ (m_isNote_t l G H p1 l1 hp0 hl0 hN) (va_cwS 2 hts gX5_add_X5_isNote rfl rfl rfl hd_X5_isNote.2 ⟨(Nat.le_of_ble_eq_true rfl), (Nat.le_of_ble_eq_true rfl)⟩) (g_pre hX hS) rfl rfl hl.1 rfl (lv_room (Nat.le_of_ble_eq_true rfl)) dX5_add_3 ⟨(Nat.le_of_ble_eq_true rfl), (Nat.le_of_ble_eq_true rfl)⟩) hS (fun r_3 H_3 locs hp hS => ?_)
  obtain ⟨rfl, rfl⟩ := hp
  refine gz_if_ne (tgt := 13) hx hb (by decide) dX5_add_6 (by decide) (fun c_6 => ?_) (fun c_6 => ?_)
  · refine lv_aload_n hx hb dX5_add_13 rfl (lv_at hl 0 rfl) ?_
    refine g_get hx hb hX hts (fun w h => (List.mem_cons_of_mem _ (List.mem_append_right _ h))) hown m0 rfl 1 (by decide) (hts (.fieldLink RX5 45 "TuneCatalogueModel" "tunes" "I") (List.mem_cons_of_mem _ (List.mem_append_left _ (List.mem_of_getElem? (i := 0) rfl)))) rfl dX5_add_14 ?_
    refine lv_bipush (v := zI 16) hx hb dX5_add_17 (by decide +kernel) ?_
    refine gz_icmp_ne (tgt := 26) hx hb ⟨by omega, by omega⟩ (by decide) dX5_add_19 (by decide) (fun c_19 => ?_) (fun c_19 => ?_)
    · refine lv_iconst (v := zI 0) hx hb dX5_add_26 rfl ?_
      refine g_goi (vx_runV (As := [.int (zI 0)]) (rest := []) ⟨hx, hb, hml, hown, hts⟩ (m_holds_0 l G B S th ct H hM hI 0 rfl) (cwV 1 hts gX5_add_X5_holds rfl rfl rfl hd_X5_holds ⟨(Nat.le_of_ble_eq_true rfl), (Nat.le_of_ble_eq_true rfl)⟩) (g_preV hX hS (ci := 5) rfl m0) rfl rfl hl.1 rfl (lv_room (Nat.le_of_ble_eq_true rfl)) dX5_add_27 ⟨(Nat.le_of_ble_eq_true rfl), (Nat.le_of_ble_eq_true rfl)⟩) hS (fun r_27 H_27 locs hp hS => ?_)
      obtain ⟨rfl, hM, hOh⟩ := hp
      obtain ⟨m0, m1, m2, m3, m4, m5, m6, m7, hB, gBs⟩ := id hM
      have hK := hK.trans (hOh.kp1 (oB.k (k := 0) (by omega)))
      refine gz_if_ne (tgt := 35) hx hb (by decide) dX5_add_30 (by decide) (fun c_30 => ?_) (fun c_30 => ?_)
      · refine lv_aload_n hx hb dX5_add_35 rfl (lv_at hl 0 rfl) ?_
        refine lv_aload_n hx hb dX5_add_36 rfl (lv_at hl 0 rfl) ?_
        refine g_get hx hb hX hts (fun w h => (List.mem_cons_of_mem _ (List.mem_append_right _ h))) hown m0 rfl 1 (by decide) (hts (.fieldLink RX5 45 "TuneCatalogueModel" "tunes" "I") (List.mem_cons_of_mem _ (List.mem_append_left _ (List.mem_of_getElem? (i := 0) rfl)))) rfl dX5_add_37 ?_
        refine lv_iconst (v := zI 0) hx hb dX5_add_40 rfl ?_
        refine lv_iload_n hx hb dX5_add_41 rfl (lv_at hl 1 rfl) ?_
        refine lv_iload_n hx hb dX5_add_42 rfl (lv_at hl 2 rfl) ?_
        refine g_gov (vx_runV (As := [.int (zI (sn S : Int)), .int (zI 0), .int (zI p1), .int (zI l1)]) (rest := []) ⟨hx, hb, hml, hown, hts⟩ (m_sets l G B S 0 ct H_27 hM hI (sn S : Int) (sn S) (by omega) h16 0 p1 l1 0 rfl (by omega)) (cwV 4 hts gX5_add_X5_sets rfl rfl rfl hd_X5_sets ⟨(Nat.le_of_ble_eq_true rfl), (Nat.le_of_ble_eq_true rfl)⟩) (g_preV hX hS (ci := 5) rfl m0) rfl rfl hl.1 rfl (lv_room (Nat.le_of_ble_eq_true rfl)) dX5_add_43 ⟨(Nat.le_of_ble_eq_true rfl), (Nat.le_of_ble_eq_true rfl)⟩) hS (fun H_43 locs hp hS => ?_)
        obtain ⟨hM2, hO2⟩ := hp
        obtain ⟨m0, m1, m2, m3, m4, m5, m6, m7, hB, gBs⟩ := id hM2
        have hK := hK.only hO2 (by intro q hq; simp only [List.mem_cons, List.not_mem_nil, or_false] at hq; rcases hq with e | e; exact ⟨1, by omega, e⟩; exact ⟨2, by omega, e⟩)
        have m0 : gat G (B 0) (.inr (5, [.int (zI 0), .int (zI (sn S : Int)), .ref (B 1), .ref (B 2), .ref (B 3), .ref (B 4), .ref (B 5), .int (zI (shn S : Int)), .int (zI (ssl S)), .int (zI (sor S)), .int (zI (srp S)), .ref (B 6), .ref (B 7)])) H_43 := m0
        have m1 : gat G (B 1) (.inl (gI G, 384, .inl (fun j => zI (up2 (stp S) (sn S) 0 p1 (j / 24) (j % 24))))) H_43 := m1
        have m2 : gat G (B 2) (.inl (gI G, 384, .inl (fun j => zI (up2 (stl S) (sn S) 0 l1 (j / 24) (j % 24))))) H_43 := m2
        have m3 : gat G (B 3) (.inl (gI G, 16, .inl (fun j => zI ((stn S j : Nat) : Int)))) H_43 := m3
        have m4 : gat G (B 4) (.inl (gZ G, 16, .inl (fun j => zI (zB (srt S j))))) H_43 := m4
        have m5 : gat G (B 5) (.inl (gI G, 12, .inl (fun j => zI (shf S j)))) H_43 := m5
        have m6 : gat G (B 6) (.inl (gI G, 288, .inl ct)) H_43 := m6
        have m7 : gat G (B 7) (.inl (gI G, 16, .inl (fun j => zI ((slk S j : Nat) : Int)))) H_43 := m7
        refine lv_aload_n hx hb dX5_add_46 rfl (lv_at hl 0 rfl) ?_
        refine g_get hx hb hX hts (fun w h => (List.mem_cons_of_mem _ (List.mem_append_right _ h))) hown m0 rfl 4 (by decide) (hts (.fieldLink RX5 16 "TuneCatalogueModel" "sizes" "[I") (List.mem_cons_of_mem _ (List.mem_append_left _ (List.mem_of_getElem? (i := 1) rfl)))) rfl dX5_add_47 ?_
        refine lv_aload_n hx hb dX5_add_50 rfl (lv_at hl 0 rfl) ?_
        refine g_get hx hb hX hts (fun w h => (List.mem_cons_of_mem _ (List.mem_append_right _ h))) hown m0 rfl 1 (by decide) (hts (.fieldLink RX5 45 "TuneCatalogueModel" "tunes" "I") (List.mem_cons_of_mem _ (List.mem_append_left _ (List.mem_of_getElem? (i := 0) rfl)))) rfl dX5_add_51 ?_
        refine lv_iconst (v := zI 1) hx hb dX5_add_54 rfl ?_
        refine gz_iast hx hb hX hS m3 gB3 (sn S) rfl (by omega) (by omega) dX5_add_55 (fun H_55 locs h_n hO hS => ?_)
        rw [show zI 1 = zI ((1 : Nat) : Int) from rfl, zupN] at h_n
        have m0 := gat.only1 m0 hO (hB 0 3 (by omega) (by omega) (by omega))
        have m1 := gat.only1 m1 hO (hB 1 3 (by omega) (by omega) (by omega))
        have m2 := gat.only1 m2 hO (hB 2 3 (by omega) (by omega) (by omega))
        have m4 := gat.only1 m4 hO (hB 4 3 (by omega) (by omega) (by omega))
        have m5 := gat.only1 m5 hO (hB 5 3 (by omega) (by omega) (by omega))
        have m6 := gat.only1 m6 hO (hB 6 3 (by omega) (by omega) (by omega))
        have m7 := gat.only1 m7 hO (hB 7 3 (by omega) (by omega) (by omega))
        have m3 : gat G (B 3) (.inl (gI G, 16, .inl (fun j => zI ((va_up (stn S) (sn S) 1 j : Nat) : Int)))) H_55 := h_n
        have hK := hK.trans (hO.kp1 (oB.k (k := 3) (by omega)))
        refine lv_aload_n hx hb dX5_add_56 rfl (lv_at hl 0 rfl) ?_
        refine lv_dup hx hb dX5_add_57 rfl ?_
        refine g_get hx hb hX hts (fun w h => (List.mem_cons_of_mem _ (List.mem_append_right _ h))) hown m0 rfl 1 (by decide) (hts (.fieldLink RX5 45 "TuneCatalogueModel" "tunes" "I") (List.mem_cons_of_mem _ (List.mem_append_left _ (List.mem_of_getElem? (i := 0) rfl)))) rfl dX5_add_58 ?_
        refine lv_iconst (v := zI 1) hx hb dX5_add_61 rfl ?_
        refine gz_iadd hx hb dX5_add_62 ?_
        refine g_put hx hb hX hts (fun w h => (List.mem_cons_of_mem _ (List.mem_append_right _ h))) tyX5 tyX5_ok nmX5 hown hS m0 gB0 rfl 1 (by decide) (hts (.fieldLink RX5 45 "TuneCatalogueModel" "tunes" "I") (List.mem_cons_of_mem _ (List.mem_append_left _ (List.mem_of_getElem? (i := 0) rfl)))) rfl (ty := tyX5 1) rfl rfl rfl (Nat.le_of_ble_eq_true rfl) dX5_add_63 (fun H_63 locs h_n hO hS => ?_)
        have m1 := gat.only1 m1 hO (hB 1 0 (by omega) (by omega) (by omega))
        have m2 := gat.only1 m2 hO (hB 2 0 (by omega) (by omega) (by omega))
        have m3 := gat.only1 m3 hO (hB 3 0 (by omega) (by omega) (by omega))
        have m4 := gat.only1 m4 hO (hB 4 0 (by omega) (by omega) (by omega))
        have m5 := gat.only1 m5 hO (hB 5 0 (by omega) (by omega) (by omega))
        have m6 := gat.only1 m6 hO (hB 6 0 (by omega) (by omega) (by omega))
        have m7 := gat.only1 m7 hO (hB 7 0 (by omega) (by omega) (by omega))
        have m0 : gat G (B 0) (.inr (5, [.int (zI 0), .int (zI ((sn S : Int) + 1)), .ref (B 1), .ref (B 2), .ref (B 3), .ref (B 4), .ref (B 5), .int (zI (shn S : Int)), .int (zI (ssl S)), .int (zI (sor S)), .int (zI (srp S)), .ref (B 6), .ref (B 7)])) H_63 := h_n
        have hK := hK.trans (hO.kp1 (oB.k (k := 0) (by omega)))
        refine lv_aload_n hx hb dX5_add_66 rfl (lv_at hl 0 rfl) ?_
        refine g_get hx hb hX hts (fun w h => (List.mem_cons_of_mem _ (List.mem_append_right _ h))) hown m0 rfl 1 (by decide) (hts (.fieldLink RX5 45 "TuneCatalogueModel" "tunes" "I") (List.mem_cons_of_mem _ (List.mem_append_left _ (List.mem_of_getElem? (i := 0) rfl)))) rfl dX5_add_67 ?_
        refine lv_iconst (v := zI 1) hx hb dX5_add_70 rfl ?_
        refine gz_isub hx hb dX5_add_71 ?_
        rw [show (sn S : Int) + 1 = ((sn S + 1 : Nat) : Int) by omega] at m0
        exact g_reti hx hb hr hlocks hS rfl (⟨by rw [show (sn S : Int) + 1 - 1 = sn S by omega], ⟨ct, ⟨m0, m1, m2, m3, m4, m5, m6, m7, hB, gBs⟩⟩, hK⟩) (Nat.le_of_ble_eq_true rfl) (Nat.le_of_ble_eq_true rfl) dX5_add_72
      · omega
    · omega
  · omega
set_option maxHeartbeats 4000000 in
set_option maxRecDepth 100000 in
theorem m_add_e1 (l : Launch) (G : gG) (B : Nat → Nat) (S : cS) (th : Int) (ct : Nat → Int32) (H : Heap) (hM : Mod G B S th ct H) (hI : sInv S) (p1 l1 : Int) (hp0 : rI p1) (hl0 : rI l1) (hN : ¬ isN p1 l1) : gM l yX5_add wsX5_add rm_X5_add [.ref (B 0), .int (zI p1), .int (zI l1)] G H (gi (fun r H1 => zI 0 = r ∧ MP G B S 1 H H1)) (gNo) 0 0 := by
  obtain ⟨m0, m1, m2, m3, m4, m5, m6, m7, hB, gBs⟩ := id hM
  have hn16 : sn S ≤ 16 := hI.1
  have gB0 := gBs 0 (by omega)
  have gB1 := gBs 1 (by omega)
  have gB2 := gBs 2 (by omega)
  have gB3 := gBs 3 (by omega)
  have gB4 := gBs 4 (by omega)
  have gB5 := gBs 5 (by omega)
  have gB6 := gBs 6 (by omega)
  have gB7 := gBs 7 (by omega)
  have hK : gKp (oB B) H H := gKp.rf _ _
  refine g_start (cc := cX5_add) (maxL := 3) (ret := (some .int)) (by decide +kernel) rfl (Nat.le_of_ble_eq_true rfl) ?_
  intro p e s m args below meth c F ls hl
  obtain ⟨hx, hb, hml, hr, hts, hown, hlocks, hxt, hH, hX, hin⟩ := F
  have hown : s.vm.findClass RX5 = some m.cls := hown
  have hS : va_S (gA G) s.heap H [] := by rw [hH]; exact va_S.rf
  have hl : lv_has ls 3 [(0, .ref (B 0)), (1, .int (zI p1)), (2, .int (zI l1))] := hl
  refine lv_aload_n hx hb dX5_add_0 rfl (lv_at hl 0 rfl) ?_
  refine lv_iload_n hx hb dX5_add_1 rfl (lv_at hl 1 rfl) ?_
  refine lv_iload_n hx hb dX5_add_2 rfl (lv_at hl 2 rfl) ?_
  refine g_goi (vx_runS (As := [.int (zI p1), .int (zI l1)]) (rest := [.ref (B 0)]) ⟨hx, hb, hml, hown, hts⟩ (m_isNote_f l G H p1 l1 hp0 hl0 hN) (va_cwS 2 hts gX5_add_X5_isNote rfl rfl rfl hd_X5_isNote.2 ⟨(Nat.le_of_ble_eq_true rfl), (Nat.le_of_ble_eq_true rfl)⟩) (g_pre hX hS) rfl rfl hl.1 rfl (lv_room (Nat.le_of_ble_eq_true rfl)) dX5_add_3 ⟨(Nat.le_of_ble_eq_true rfl), (Nat.le_of_ble_eq_true rfl)⟩) hS (fun r_3 H_3 locs hp hS => ?_)
  obtain ⟨rfl, rfl⟩ := hp
  refine gz_if_ne (tgt := 13) hx hb (by decide) dX5_add_6 (by decide) (fun c_6 => ?_) (fun c_6 => ?_)
  · omega
  · refine lv_iconst (v := zI 1) hx hb dX5_add_9 rfl ?_
    refine lv_goto (tgt := 27) hx hb dX5_add_10 (by decide) ?_
    refine g_goi (vx_runV (As := [.int (zI 1)]) (rest := []) ⟨hx, hb, hml, hown, hts⟩ (m_holds_k l G B S th ct H hM hI 1 (by decide) (by decide)) (cwV 1 hts gX5_add_X5_holds rfl rfl rfl hd_X5_holds ⟨(Nat.le_of_ble_eq_true rfl), (Nat.le_of_ble_eq_true rfl)⟩) (g_preV hX hS (ci := 5) rfl m0) rfl rfl hl.1 rfl (lv_room (Nat.le_of_ble_eq_true rfl)) dX5_add_27 ⟨(Nat.le_of_ble_eq_true rfl), (Nat.le_of_ble_eq_true rfl)⟩) hS (fun r_27 H_27 locs hp hS => ?_)
    obtain ⟨rfl, hM, hOh⟩ := hp
    obtain ⟨m0, m1, m2, m3, m4, m5, m6, m7, hB, gBs⟩ := id hM
    have hK := hK.trans (hOh.kp1 (oB.k (k := 0) (by omega)))
    refine gz_if_ne (tgt := 35) hx hb (by decide) dX5_add_30 (by decide) (fun c_30 => ?_) (fun c_30 => ?_)
    · omega
    · refine lv_iconst (v := zI 0) hx hb dX5_add_33 rfl ?_
      exact g_reti hx hb hr hlocks hS rfl (⟨rfl, ⟨ct, ⟨m0, m1, m2, m3, m4, m5, m6, m7, hB, gBs⟩⟩, hK⟩) (Nat.le_of_ble_eq_true rfl) (Nat.le_of_ble_eq_true rfl) dX5_add_34
set_option maxHeartbeats 4000000 in
set_option maxRecDepth 100000 in
theorem m_add_e2 (l : Launch) (G : gG) (B : Nat → Nat) (S : cS) (th : Int) (ct : Nat → Int32) (H : Heap) (hM : Mod G B S th ct H) (hI : sInv S) (p1 l1 : Int) (hp0 : rI p1) (hl0 : rI l1) (hN : isN p1 l1) (h16 : ¬ sn S < 16) : gM l yX5_add wsX5_add rm_X5_add [.ref (B 0), .int (zI p1), .int (zI l1)] G H (gi (fun r H1 => zI 0 = r ∧ MP G B S 2 H H1)) (gNo) 0 0 := by
  obtain ⟨m0, m1, m2, m3, m4, m5, m6, m7, hB, gBs⟩ := id hM
  have hn16 : sn S ≤ 16 := hI.1
  have gB0 := gBs 0 (by omega)
  have gB1 := gBs 1 (by omega)
  have gB2 := gBs 2 (by omega)
  have gB3 := gBs 3 (by omega)
  have gB4 := gBs 4 (by omega)
  have gB5 := gBs 5 (by omega)
  have gB6 := gBs 6 (by omega)
  have gB7 := gBs 7 (by omega)
  have hK : gKp (oB B) H H := gKp.rf _ _
  refine g_start (cc := cX5_add) (maxL := 3) (ret := (some .int)) (by decide +kernel) rfl (Nat.le_of_ble_eq_true rfl) ?_
  intro p e s m args below meth c F ls hl
  obtain ⟨hx, hb, hml, hr, hts, hown, hlocks, hxt, hH, hX, hin⟩ := F
  have hown : s.vm.findClass RX5 = some m.cls := hown
  have hS : va_S (gA G) s.heap H [] := by rw [hH]; exact va_S.rf
  have hl : lv_has ls 3 [(0, .ref (B 0)), (1, .int (zI p1)), (2, .int (zI l1))] := hl
  refine lv_aload_n hx hb dX5_add_0 rfl (lv_at hl 0 rfl) ?_
  refine lv_iload_n hx hb dX5_add_1 rfl (lv_at hl 1 rfl) ?_
  refine lv_iload_n hx hb dX5_add_2 rfl (lv_at hl 2 rfl) ?_
  refine g_goi (vx_runS (As := [.int (zI p1), .int (zI l1)]) (rest := [.ref (B 0)]) ⟨hx, hb, hml, hown, hts⟩ (m_isNote_t l G H p1 l1 hp0 hl0 hN) (va_cwS 2 hts gX5_add_X5_isNote rfl rfl rfl hd_X5_isNote.2 ⟨(Nat.le_of_ble_eq_true rfl), (Nat.le_of_ble_eq_true rfl)⟩) (g_pre hX hS) rfl rfl hl.1 rfl (lv_room (Nat.le_of_ble_eq_true rfl)) dX5_add_3 ⟨(Nat.le_of_ble_eq_true rfl), (Nat.le_of_ble_eq_true rfl)⟩) hS (fun r_3 H_3 locs hp hS => ?_)
  obtain ⟨rfl, rfl⟩ := hp
  refine gz_if_ne (tgt := 13) hx hb (by decide) dX5_add_6 (by decide) (fun c_6 => ?_) (fun c_6 => ?_)
  · refine lv_aload_n hx hb dX5_add_13 rfl (lv_at hl 0 rfl) ?_
    refine g_get hx hb hX hts (fun w h => (List.mem_cons_of_mem _ (List.mem_append_right _ h))) hown m0 rfl 1 (by decide) (hts (.fieldLink RX5 45 "TuneCatalogueModel" "tunes" "I") (List.mem_cons_of_mem _ (List.mem_append_left _ (List.mem_of_getElem? (i := 0) rfl)))) rfl dX5_add_14 ?_
    refine lv_bipush (v := zI 16) hx hb dX5_add_17 (by decide +kernel) ?_
    refine gz_icmp_ne (tgt := 26) hx hb ⟨by omega, by omega⟩ (by decide) dX5_add_19 (by decide) (fun c_19 => ?_) (fun c_19 => ?_)
    · omega
    · refine lv_iconst (v := zI 2) hx hb dX5_add_22 rfl ?_
      refine lv_goto (tgt := 27) hx hb dX5_add_23 (by decide) ?_
      refine g_goi (vx_runV (As := [.int (zI 2)]) (rest := []) ⟨hx, hb, hml, hown, hts⟩ (m_holds_k l G B S th ct H hM hI 2 (by decide) (by decide)) (cwV 1 hts gX5_add_X5_holds rfl rfl rfl hd_X5_holds ⟨(Nat.le_of_ble_eq_true rfl), (Nat.le_of_ble_eq_true rfl)⟩) (g_preV hX hS (ci := 5) rfl m0) rfl rfl hl.1 rfl (lv_room (Nat.le_of_ble_eq_true rfl)) dX5_add_27 ⟨(Nat.le_of_ble_eq_true rfl), (Nat.le_of_ble_eq_true rfl)⟩) hS (fun r_27 H_27 locs hp hS => ?_)
      obtain ⟨rfl, hM, hOh⟩ := hp
      obtain ⟨m0, m1, m2, m3, m4, m5, m6, m7, hB, gBs⟩ := id hM
      have hK := hK.trans (hOh.kp1 (oB.k (k := 0) (by omega)))
      refine gz_if_ne (tgt := 35) hx hb (by decide) dX5_add_30 (by decide) (fun c_30 => ?_) (fun c_30 => ?_)
      · omega
      · refine lv_iconst (v := zI 0) hx hb dX5_add_33 rfl ?_
        exact g_reti hx hb hr hlocks hS rfl (⟨rfl, ⟨ct, ⟨m0, m1, m2, m3, m4, m5, m6, m7, hB, gBs⟩⟩, hK⟩) (Nat.le_of_ble_eq_true rfl) (Nat.le_of_ble_eq_true rfl) dX5_add_34
  · omega
set_option maxHeartbeats 4000000 in
set_option maxRecDepth 100000 in
theorem m_note_ok (l : Launch) (G : gG) (B : Nat → Nat) (S : cS) (th : Int) (ct : Nat → Int32) (H : Heap) (hM : Mod G B S th ct H) (hI : sInv S) (z : Int) (i : Nat) (hz : z = i) (hi : i < sn S) (hk : srt S i = false) (p1 l1 : Int) (hp0 : rI p1) (hl0 : rI l1) (hN : isN p1 l1) (h24 : stn S i < 24) : gM l yX5_note wsX5_note rm_X5_note [.ref (B 0), .int (zI z), .int (zI p1), .int (zI l1)] G H (gi (fun r H1 => zI ((stn S i + 1 : Nat) : Int) = r ∧ MP G B (sNote S i p1 l1) 0 H H1)) (gNo) 0 0 := by
  obtain ⟨m0, m1, m2, m3, m4, m5, m6, m7, hB, gBs⟩ := id hM
  have hn16 : sn S ≤ 16 := hI.1
  have gB0 := gBs 0 (by omega)
  have gB1 := gBs 1 (by omega)
  have gB2 := gBs 2 (by omega)
  have gB3 := gBs 3 (by omega)
  have gB4 := gBs 4 (by omega)
  have gB5 := gBs 5 (by omega)
  have gB6 := gBs 6 (by omega)
  have gB7 := gBs 7 (by omega)
  have hK : gKp (oB B) H H := gKp.rf _ _
  have ht24 := (hI.2.1 i hi).2
  have ht1 := (hI.2.1 i hi).1
  refine g_start (cc := cX5_note) (maxL := 4) (ret := (some .int)) (by decide +kernel) rfl (Nat.le_of_ble_eq_true rfl) ?_
  intro p e s m args below meth c F ls hl
  obtain ⟨hx, hb, hml, hr, hts, hown, hlocks, hxt, hH, hX, hin⟩ := F
  have hown : s.vm.findClass RX5 = some m.cls := hown
  have hS : va_S (gA G) s.heap H [] := by rw [hH]; exact va_S.rf
  have hl : lv_has ls 4 [(0, .ref (B 0)), (1, .int (zI z)), (2, .int (zI p1)), (3, .int (zI l1))] := hl
  refine lv_aload_n hx hb dX5_note_0 rfl (lv_at hl 0 rfl) ?_
  refine lv_aload_n hx hb dX5_note_1 rfl (lv_at hl 0 rfl) ?_
  refine lv_iload_n hx hb dX5_note_2 rfl (lv_at hl 1 rfl) ?_
  refine g_goi (vx_runV (As := [.int (zI z)]) (rest := [.ref (B 0)]) ⟨hx, hb, hml, hown, hts⟩ (m_isKnown_t l G B S th ct H hM hI z i hz hi hk) (cwV 1 hts gX5_note_X5_isKnown rfl rfl rfl hd_X5_isKnown ⟨(Nat.le_of_ble_eq_true rfl), (Nat.le_of_ble_eq_true rfl)⟩) (g_preV hX hS (ci := 5) rfl m0) rfl rfl hl.1 rfl (lv_room (Nat.le_of_ble_eq_true rfl)) dX5_note_3 ⟨(Nat.le_of_ble_eq_true rfl), (Nat.le_of_ble_eq_true rfl)⟩) hS (fun r_3 H_3 locs hp hS => ?_)
  obtain ⟨rfl, rfl⟩ := hp
  refine gz_if_ne (tgt := 13) hx hb (by decide) dX5_note_6 (by decide) (fun c_6 => ?_) (fun c_6 => ?_)
  · refine lv_iload_n hx hb dX5_note_13 rfl (lv_at hl 2 rfl) ?_
    refine lv_iload_n hx hb dX5_note_14 rfl (lv_at hl 3 rfl) ?_
    refine g_goi (vx_runS (As := [.int (zI p1), .int (zI l1)]) (rest := [.ref (B 0)]) ⟨hx, hb, hml, hown, hts⟩ (m_isNote_t l G H p1 l1 hp0 hl0 hN) (va_cwS 2 hts gX5_note_X5_isNote rfl rfl rfl hd_X5_isNote.2 ⟨(Nat.le_of_ble_eq_true rfl), (Nat.le_of_ble_eq_true rfl)⟩) (g_pre hX hS) rfl rfl hl.1 rfl (lv_room (Nat.le_of_ble_eq_true rfl)) dX5_note_15 ⟨(Nat.le_of_ble_eq_true rfl), (Nat.le_of_ble_eq_true rfl)⟩) hS (fun r_15 H_15 locs hp hS => ?_)
    obtain ⟨rfl, rfl⟩ := hp
    refine gz_if_ne (tgt := 25) hx hb (by decide) dX5_note_18 (by decide) (fun c_18 => ?_) (fun c_18 => ?_)
    · refine lv_aload_n hx hb dX5_note_25 rfl (lv_at hl 0 rfl) ?_
      refine g_get hx hb hX hts (fun w h => (List.mem_cons_of_mem _ (List.mem_append_right _ h))) hown m0 rfl 4 (by decide) (hts (.fieldLink RX5 16 "TuneCatalogueModel" "sizes" "[I") (List.mem_cons_of_mem _ (List.mem_append_left _ (List.mem_append_left _ (List.mem_of_getElem? (i := 0) rfl))))) rfl dX5_note_26 ?_
      refine lv_iload_n hx hb dX5_note_29 rfl (lv_at hl 1 rfl) ?_
      refine gz_iald hx hb hX m3 i (by omega) (by omega) (by omega) dX5_note_30 ?_
      refine lv_bipush (v := zI 24) hx hb dX5_note_31 (by decide +kernel) ?_
      refine gz_icmp_ne (tgt := 40) hx hb ⟨by omega, by omega⟩ (by decide) dX5_note_33 (by decide) (fun c_33 => ?_) (fun c_33 => ?_)
      · refine lv_iconst (v := zI 0) hx hb dX5_note_40 rfl ?_
        refine g_goi (vx_runV (As := [.int (zI 0)]) (rest := []) ⟨hx, hb, hml, hown, hts⟩ (m_holds_0 l G B S th ct H hM hI 0 rfl) (cwV 1 hts gX5_note_X5_holds rfl rfl rfl hd_X5_holds ⟨(Nat.le_of_ble_eq_true rfl), (Nat.le_of_ble_eq_true rfl)⟩) (g_preV hX hS (ci := 5) rfl m0) rfl rfl hl.1 rfl (lv_room (Nat.le_of_ble_eq_true rfl)) dX5_note_41 ⟨(Nat.le_of_ble_eq_true rfl), (Nat.le_of_ble_eq_true rfl)⟩) hS (fun r_41 H_41 locs hp hS => ?_)
        obtain ⟨rfl, hM, hOh⟩ := hp
        obtain ⟨m0, m1, m2, m3, m4, m5, m6, m7, hB, gBs⟩ := id hM
        have hK := hK.trans (hOh.kp1 (oB.k (k := 0) (by omega)))
        refine gz_if_ne (tgt := 49) hx hb (by decide) dX5_note_44 (by decide) (fun c_44 => ?_) (fun c_44 => ?_)
        · refine lv_aload_n hx hb dX5_note_49 rfl (lv_at hl 0 rfl) ?_
          refine lv_iload_n hx hb dX5_note_50 rfl (lv_at hl 1 rfl) ?_
          refine lv_aload_n hx hb dX5_note_51 rfl (lv_at hl 0 rfl) ?_
          refine g_get hx hb hX hts (fun w h => (List.mem_cons_of_mem _ (List.mem_append_right _ h))) hown m0 rfl 4 (by decide) (hts (.fieldLink RX5 16 "TuneCatalogueModel" "sizes" "[I") (List.mem_cons_of_mem _ (List.mem_append_left _ (List.mem_append_left _ (List.mem_of_getElem? (i := 0) rfl))))) rfl dX5_note_52 ?_
          refine lv_iload_n hx hb dX5_note_55 rfl (lv_at hl 1 rfl) ?_
          refine gz_iald hx hb hX m3 i (by omega) (by omega) (by omega) dX5_note_56 ?_
          refine lv_iload_n hx hb dX5_note_57 rfl (lv_at hl 2 rfl) ?_
          refine lv_iload_n hx hb dX5_note_58 rfl (lv_at hl 3 rfl) ?_
          refine g_gov (vx_runV (As := [.int (zI z), .int (zI (stn S i : Int)), .int (zI p1), .int (zI l1)]) (rest := []) ⟨hx, hb, hml, hown, hts⟩ (m_sets l G B S 0 ct H_41 hM hI z i (by omega) (by omega) (stn S i : Int) p1 l1 (stn S i) rfl (by omega)) (cwV 4 hts gX5_note_X5_sets rfl rfl rfl hd_X5_sets ⟨(Nat.le_of_ble_eq_true rfl), (Nat.le_of_ble_eq_true rfl)⟩) (g_preV hX hS (ci := 5) rfl m0) rfl rfl hl.1 rfl (lv_room (Nat.le_of_ble_eq_true rfl)) dX5_note_59 ⟨(Nat.le_of_ble_eq_true rfl), (Nat.le_of_ble_eq_true rfl)⟩) hS (fun H_59 locs hp hS => ?_)
          obtain ⟨hM2, hO2⟩ := hp
          obtain ⟨m0, m1, m2, m3, m4, m5, m6, m7, hB, gBs⟩ := id hM2
          have hK := hK.only hO2 (by intro q hq; simp only [List.mem_cons, List.not_mem_nil, or_false] at hq; rcases hq with e | e; exact ⟨1, by omega, e⟩; exact ⟨2, by omega, e⟩)
          have m0 : gat G (B 0) (.inr (5, [.int (zI 0), .int (zI (sn S : Int)), .ref (B 1), .ref (B 2), .ref (B 3), .ref (B 4), .ref (B 5), .int (zI (shn S : Int)), .int (zI (ssl S)), .int (zI (sor S)), .int (zI (srp S)), .ref (B 6), .ref (B 7)])) H_59 := m0
          have m1 : gat G (B 1) (.inl (gI G, 384, .inl (fun j => zI (up2 (stp S) i (stn S i) p1 (j / 24) (j % 24))))) H_59 := m1
          have m2 : gat G (B 2) (.inl (gI G, 384, .inl (fun j => zI (up2 (stl S) i (stn S i) l1 (j / 24) (j % 24))))) H_59 := m2
          have m3 : gat G (B 3) (.inl (gI G, 16, .inl (fun j => zI ((stn S j : Nat) : Int)))) H_59 := m3
          have m4 : gat G (B 4) (.inl (gZ G, 16, .inl (fun j => zI (zB (srt S j))))) H_59 := m4
          have m5 : gat G (B 5) (.inl (gI G, 12, .inl (fun j => zI (shf S j)))) H_59 := m5
          have m6 : gat G (B 6) (.inl (gI G, 288, .inl ct)) H_59 := m6
          have m7 : gat G (B 7) (.inl (gI G, 16, .inl (fun j => zI ((slk S j : Nat) : Int)))) H_59 := m7
          refine lv_aload_n hx hb dX5_note_62 rfl (lv_at hl 0 rfl) ?_
          refine g_get hx hb hX hts (fun w h => (List.mem_cons_of_mem _ (List.mem_append_right _ h))) hown m0 rfl 4 (by decide) (hts (.fieldLink RX5 16 "TuneCatalogueModel" "sizes" "[I") (List.mem_cons_of_mem _ (List.mem_append_left _ (List.mem_append_left _ (List.mem_of_getElem? (i := 0) rfl))))) rfl dX5_note_63 ?_
          refine lv_iload_n hx hb dX5_note_66 rfl (lv_at hl 1 rfl) ?_
          refine lv_dup2_11 hx hb dX5_note_67 rfl rfl ?_
          refine gz_iald hx hb hX m3 i (by omega) (by omega) (by omega) dX5_note_68 ?_
          refine lv_iconst (v := zI 1) hx hb dX5_note_69 rfl ?_
          refine gz_iadd hx hb dX5_note_70 ?_
          refine gz_iast hx hb hX hS m3 gB3 i (by omega) (by omega) (by omega) dX5_note_71 (fun H_71 locs h_n hO hS => ?_)
          rw [show (stn S i : Int) + 1 = ((stn S i + 1 : Nat) : Int) by omega, zupN] at h_n
          have m0 := gat.only1 m0 hO (hB 0 3 (by omega) (by omega) (by omega))
          have m1 := gat.only1 m1 hO (hB 1 3 (by omega) (by omega) (by omega))
          have m2 := gat.only1 m2 hO (hB 2 3 (by omega) (by omega) (by omega))
          have m4 := gat.only1 m4 hO (hB 4 3 (by omega) (by omega) (by omega))
          have m5 := gat.only1 m5 hO (hB 5 3 (by omega) (by omega) (by omega))
          have m6 := gat.only1 m6 hO (hB 6 3 (by omega) (by omega) (by omega))
          have m7 := gat.only1 m7 hO (hB 7 3 (by omega) (by omega) (by omega))
          have m3 : gat G (B 3) (.inl (gI G, 16, .inl (fun j => zI ((va_up (stn S) i (stn S i + 1) j : Nat) : Int)))) H_71 := h_n
          have hK := hK.trans (hO.kp1 (oB.k (k := 3) (by omega)))
          refine lv_aload_n hx hb dX5_note_72 rfl (lv_at hl 0 rfl) ?_
          refine g_get hx hb hX hts (fun w h => (List.mem_cons_of_mem _ (List.mem_append_right _ h))) hown m0 rfl 4 (by decide) (hts (.fieldLink RX5 16 "TuneCatalogueModel" "sizes" "[I") (List.mem_cons_of_mem _ (List.mem_append_left _ (List.mem_append_left _ (List.mem_of_getElem? (i := 0) rfl))))) rfl dX5_note_73 ?_
          refine lv_iload_n hx hb dX5_note_76 rfl (lv_at hl 1 rfl) ?_
          refine gz_iald hx hb hX m3 i (by omega) (by omega) (by omega) dX5_note_77 ?_
          rw [show va_up (stn S) i (stn S i + 1) i = stn S i + 1 from if_pos rfl]
          exact g_reti hx hb hr hlocks hS rfl (⟨rfl, ⟨ct, ⟨m0, m1, m2, m3, m4, m5, m6, m7, hB, gBs⟩⟩, hK⟩) (Nat.le_of_ble_eq_true rfl) (Nat.le_of_ble_eq_true rfl) dX5_note_78
        · omega
      · omega
    · omega
  · omega
set_option maxHeartbeats 4000000 in
set_option maxRecDepth 100000 in
theorem m_note_e1 (l : Launch) (G : gG) (B : Nat → Nat) (S : cS) (th : Int) (ct : Nat → Int32) (H : Heap) (hM : Mod G B S th ct H) (hI : sInv S) (z : Int) (hz : rI z) (hi : ¬ kwn S z) (p1 l1 : Int) : gM l yX5_note wsX5_note rm_X5_note [.ref (B 0), .int (zI z), .int (zI p1), .int (zI l1)] G H (gi (fun r H1 => zI 0 = r ∧ MP G B S 1 H H1)) (gNo) 0 0 := by
  obtain ⟨m0, m1, m2, m3, m4, m5, m6, m7, hB, gBs⟩ := id hM
  have hn16 : sn S ≤ 16 := hI.1
  have gB0 := gBs 0 (by omega)
  have gB1 := gBs 1 (by omega)
  have gB2 := gBs 2 (by omega)
  have gB3 := gBs 3 (by omega)
  have gB4 := gBs 4 (by omega)
  have gB5 := gBs 5 (by omega)
  have gB6 := gBs 6 (by omega)
  have gB7 := gBs 7 (by omega)
  have hK : gKp (oB B) H H := gKp.rf _ _
  refine g_start (cc := cX5_note) (maxL := 4) (ret := (some .int)) (by decide +kernel) rfl (Nat.le_of_ble_eq_true rfl) ?_
  intro p e s m args below meth c F ls hl
  obtain ⟨hx, hb, hml, hr, hts, hown, hlocks, hxt, hH, hX, hin⟩ := F
  have hown : s.vm.findClass RX5 = some m.cls := hown
  have hS : va_S (gA G) s.heap H [] := by rw [hH]; exact va_S.rf
  have hl : lv_has ls 4 [(0, .ref (B 0)), (1, .int (zI z)), (2, .int (zI p1)), (3, .int (zI l1))] := hl
  refine lv_aload_n hx hb dX5_note_0 rfl (lv_at hl 0 rfl) ?_
  refine lv_aload_n hx hb dX5_note_1 rfl (lv_at hl 0 rfl) ?_
  refine lv_iload_n hx hb dX5_note_2 rfl (lv_at hl 1 rfl) ?_
  refine g_goi (vx_runV (As := [.int (zI z)]) (rest := [.ref (B 0)]) ⟨hx, hb, hml, hown, hts⟩ (m_isKnown_f l G B S th ct H hM hI z hz hi) (cwV 1 hts gX5_note_X5_isKnown rfl rfl rfl hd_X5_isKnown ⟨(Nat.le_of_ble_eq_true rfl), (Nat.le_of_ble_eq_true rfl)⟩) (g_preV hX hS (ci := 5) rfl m0) rfl rfl hl.1 rfl (lv_room (Nat.le_of_ble_eq_true rfl)) dX5_note_3 ⟨(Nat.le_of_ble_eq_true rfl), (Nat.le_of_ble_eq_true rfl)⟩) hS (fun r_3 H_3 locs hp hS => ?_)
  obtain ⟨rfl, rfl⟩ := hp
  refine gz_if_ne (tgt := 13) hx hb (by decide) dX5_note_6 (by decide) (fun c_6 => ?_) (fun c_6 => ?_)
  · omega
  · refine lv_iconst (v := zI 1) hx hb dX5_note_9 rfl ?_
    refine lv_goto (tgt := 41) hx hb dX5_note_10 (by decide) ?_
    refine g_goi (vx_runV (As := [.int (zI 1)]) (rest := []) ⟨hx, hb, hml, hown, hts⟩ (m_holds_k l G B S th ct H hM hI 1 (by decide) (by decide)) (cwV 1 hts gX5_note_X5_holds rfl rfl rfl hd_X5_holds ⟨(Nat.le_of_ble_eq_true rfl), (Nat.le_of_ble_eq_true rfl)⟩) (g_preV hX hS (ci := 5) rfl m0) rfl rfl hl.1 rfl (lv_room (Nat.le_of_ble_eq_true rfl)) dX5_note_41 ⟨(Nat.le_of_ble_eq_true rfl), (Nat.le_of_ble_eq_true rfl)⟩) hS (fun r_41 H_41 locs hp hS => ?_)
    obtain ⟨rfl, hM, hOh⟩ := hp
    obtain ⟨m0, m1, m2, m3, m4, m5, m6, m7, hB, gBs⟩ := id hM
    have hK := hK.trans (hOh.kp1 (oB.k (k := 0) (by omega)))
    refine gz_if_ne (tgt := 49) hx hb (by decide) dX5_note_44 (by decide) (fun c_44 => ?_) (fun c_44 => ?_)
    · omega
    · refine lv_iconst (v := zI 0) hx hb dX5_note_47 rfl ?_
      exact g_reti hx hb hr hlocks hS rfl (⟨rfl, ⟨ct, ⟨m0, m1, m2, m3, m4, m5, m6, m7, hB, gBs⟩⟩, hK⟩) (Nat.le_of_ble_eq_true rfl) (Nat.le_of_ble_eq_true rfl) dX5_note_48
set_option maxHeartbeats 4000000 in
set_option maxRecDepth 100000 in
theorem m_note_e2 (l : Launch) (G : gG) (B : Nat → Nat) (S : cS) (th : Int) (ct : Nat → Int32) (H : Heap) (hM : Mod G B S th ct H) (hI : sInv S) (z : Int) (i : Nat) (hz : z = i) (hi : i < sn S) (hk : srt S i = false) (p1 l1 : Int) (hp0 : rI p1) (hl0 : rI l1) (hN : ¬ isN p1 l1) : gM l yX5_note wsX5_note rm_X5_note [.ref (B 0), .int (zI z), .int (zI p1), .int (zI l1)] G H (gi (fun r H1 => zI 0 = r ∧ MP G B S 2 H H1)) (gNo) 0 0 := by
  obtain ⟨m0, m1, m2, m3, m4, m5, m6, m7, hB, gBs⟩ := id hM
  have hn16 : sn S ≤ 16 := hI.1
  have gB0 := gBs 0 (by omega)
  have gB1 := gBs 1 (by omega)
  have gB2 := gBs 2 (by omega)
  have gB3 := gBs 3 (by omega)
  have gB4 := gBs 4 (by omega)
  have gB5 := gBs 5 (by omega)
  have gB6 := gBs 6 (by omega)
  have gB7 := gBs 7 (by omega)
  have hK : gKp (oB B) H H := gKp.rf _ _
  refine g_start (cc := cX5_note) (maxL := 4) (ret := (some .int)) (by decide +kernel) rfl (Nat.le_of_ble_eq_true rfl) ?_
  intro p e s m args below meth c F ls hl
  obtain ⟨hx, hb, hml, hr, hts, hown, hlocks, hxt, hH, hX, hin⟩ := F
  have hown : s.vm.findClass RX5 = some m.cls := hown
  have hS : va_S (gA G) s.heap H [] := by rw [hH]; exact va_S.rf
  have hl : lv_has ls 4 [(0, .ref (B 0)), (1, .int (zI z)), (2, .int (zI p1)), (3, .int (zI l1))] := hl
  refine lv_aload_n hx hb dX5_note_0 rfl (lv_at hl 0 rfl) ?_
  refine lv_aload_n hx hb dX5_note_1 rfl (lv_at hl 0 rfl) ?_
  refine lv_iload_n hx hb dX5_note_2 rfl (lv_at hl 1 rfl) ?_
  refine g_goi (vx_runV (As := [.int (zI z)]) (rest := [.ref (B 0)]) ⟨hx, hb, hml, hown, hts⟩ (m_isKnown_t l G B S th ct H hM hI z i hz hi hk) (cwV 1 hts gX5_note_X5_isKnown rfl rfl rfl hd_X5_isKnown ⟨(Nat.le_of_ble_eq_true rfl), (Nat.le_of_ble_eq_true rfl)⟩) (g_preV hX hS (ci := 5) rfl m0) rfl rfl hl.1 rfl (lv_room (Nat.le_of_ble_eq_true rfl)) dX5_note_3 ⟨(Nat.le_of_ble_eq_true rfl), (Nat.le_of_ble_eq_true rfl)⟩) hS (fun r_3 H_3 locs hp hS => ?_)
  obtain ⟨rfl, rfl⟩ := hp
  refine gz_if_ne (tgt := 13) hx hb (by decide) dX5_note_6 (by decide) (fun c_6 => ?_) (fun c_6 => ?_)
  · refine lv_iload_n hx hb dX5_note_13 rfl (lv_at hl 2 rfl) ?_
    refine lv_iload_n hx hb dX5_note_14 rfl (lv_at hl 3 rfl) ?_
    refine g_goi (vx_runS (As := [.int (zI p1), .int (zI l1)]) (rest := [.ref (B 0)]) ⟨hx, hb, hml, hown, hts⟩ (m_isNote_f l G H p1 l1 hp0 hl0 hN) (va_cwS 2 hts gX5_note_X5_isNote rfl rfl rfl hd_X5_isNote.2 ⟨(Nat.le_of_ble_eq_true rfl), (Nat.le_of_ble_eq_true rfl)⟩) (g_pre hX hS) rfl rfl hl.1 rfl (lv_room (Nat.le_of_ble_eq_true rfl)) dX5_note_15 ⟨(Nat.le_of_ble_eq_true rfl), (Nat.le_of_ble_eq_true rfl)⟩) hS (fun r_15 H_15 locs hp hS => ?_)
    obtain ⟨rfl, rfl⟩ := hp
    refine gz_if_ne (tgt := 25) hx hb (by decide) dX5_note_18 (by decide) (fun c_18 => ?_) (fun c_18 => ?_)
    · omega
    · refine lv_iconst (v := zI 2) hx hb dX5_note_21 rfl ?_
      refine lv_goto (tgt := 41) hx hb dX5_note_22 (by decide) ?_
      refine g_goi (vx_runV (As := [.int (zI 2)]) (rest := []) ⟨hx, hb, hml, hown, hts⟩ (m_holds_k l G B S th ct H hM hI 2 (by decide) (by decide)) (cwV 1 hts gX5_note_X5_holds rfl rfl rfl hd_X5_holds ⟨(Nat.le_of_ble_eq_true rfl), (Nat.le_of_ble_eq_true rfl)⟩) (g_preV hX hS (ci := 5) rfl m0) rfl rfl hl.1 rfl (lv_room (Nat.le_of_ble_eq_true rfl)) dX5_note_41 ⟨(Nat.le_of_ble_eq_true rfl), (Nat.le_of_ble_eq_true rfl)⟩) hS (fun r_41 H_41 locs hp hS => ?_)
      obtain ⟨rfl, hM, hOh⟩ := hp
      obtain ⟨m0, m1, m2, m3, m4, m5, m6, m7, hB, gBs⟩ := id hM
      have hK := hK.trans (hOh.kp1 (oB.k (k := 0) (by omega)))
      refine gz_if_ne (tgt := 49) hx hb (by decide) dX5_note_44 (by decide) (fun c_44 => ?_) (fun c_44 => ?_)
      · omega
      · refine lv_iconst (v := zI 0) hx hb dX5_note_47 rfl ?_
        exact g_reti hx hb hr hlocks hS rfl (⟨rfl, ⟨ct, ⟨m0, m1, m2, m3, m4, m5, m6, m7, hB, gBs⟩⟩, hK⟩) (Nat.le_of_ble_eq_true rfl) (Nat.le_of_ble_eq_true rfl) dX5_note_48
  · omega
set_option maxHeartbeats 4000000 in
set_option maxRecDepth 100000 in
theorem m_note_e3 (l : Launch) (G : gG) (B : Nat → Nat) (S : cS) (th : Int) (ct : Nat → Int32) (H : Heap) (hM : Mod G B S th ct H) (hI : sInv S) (z : Int) (i : Nat) (hz : z = i) (hi : i < sn S) (hk : srt S i = false) (p1 l1 : Int) (hp0 : rI p1) (hl0 : rI l1) (hN : isN p1 l1) (h24 : ¬ stn S i < 24) : gM l yX5_note wsX5_note rm_X5_note [.ref (B 0), .int (zI z), .int (zI p1), .int (zI l1)] G H (gi (fun r H1 => zI 0 = r ∧ MP G B S 3 H H1)) (gNo) 0 0 := by
  obtain ⟨m0, m1, m2, m3, m4, m5, m6, m7, hB, gBs⟩ := id hM
  have hn16 : sn S ≤ 16 := hI.1
  have gB0 := gBs 0 (by omega)
  have gB1 := gBs 1 (by omega)
  have gB2 := gBs 2 (by omega)
  have gB3 := gBs 3 (by omega)
  have gB4 := gBs 4 (by omega)
  have gB5 := gBs 5 (by omega)
  have gB6 := gBs 6 (by omega)
  have gB7 := gBs 7 (by omega)
  have hK : gKp (oB B) H H := gKp.rf _ _
  have ht24 := (hI.2.1 i hi).2
  have ht1 := (hI.2.1 i hi).1
  refine g_start (cc := cX5_note) (maxL := 4) (ret := (some .int)) (by decide +kernel) rfl (Nat.le_of_ble_eq_true rfl) ?_
  intro p e s m args below meth c F ls hl
  obtain ⟨hx, hb, hml, hr, hts, hown, hlocks, hxt, hH, hX, hin⟩ := F
  have hown : s.vm.findClass RX5 = some m.cls := hown
  have hS : va_S (gA G) s.heap H [] := by rw [hH]; exact va_S.rf
  have hl : lv_has ls 4 [(0, .ref (B 0)), (1, .int (zI z)), (2, .int (zI p1)), (3, .int (zI l1))] := hl
  refine lv_aload_n hx hb dX5_note_0 rfl (lv_at hl 0 rfl) ?_
  refine lv_aload_n hx hb dX5_note_1 rfl (lv_at hl 0 rfl) ?_
  refine lv_iload_n hx hb dX5_note_2 rfl (lv_at hl 1 rfl) ?_
  refine g_goi (vx_runV (As := [.int (zI z)]) (rest := [.ref (B 0)]) ⟨hx, hb, hml, hown, hts⟩ (m_isKnown_t l G B S th ct H hM hI z i hz hi hk) (cwV 1 hts gX5_note_X5_isKnown rfl rfl rfl hd_X5_isKnown ⟨(Nat.le_of_ble_eq_true rfl), (Nat.le_of_ble_eq_true rfl)⟩) (g_preV hX hS (ci := 5) rfl m0) rfl rfl hl.1 rfl (lv_room (Nat.le_of_ble_eq_true rfl)) dX5_note_3 ⟨(Nat.le_of_ble_eq_true rfl), (Nat.le_of_ble_eq_true rfl)⟩) hS (fun r_3 H_3 locs hp hS => ?_)
  obtain ⟨rfl, rfl⟩ := hp
  refine gz_if_ne (tgt := 13) hx hb (by decide) dX5_note_6 (by decide) (fun c_6 => ?_) (fun c_6 => ?_)
  · refine lv_iload_n hx hb dX5_note_13 rfl (lv_at hl 2 rfl) ?_
    refine lv_iload_n hx hb dX5_note_14 rfl (lv_at hl 3 rfl) ?_
    refine g_goi (vx_runS (As := [.int (zI p1), .int (zI l1)]) (rest := [.ref (B 0)]) ⟨hx, hb, hml, hown, hts⟩ (m_isNote_t l G H p1 l1 hp0 hl0 hN) (va_cwS 2 hts gX5_note_X5_isNote rfl rfl rfl hd_X5_isNote.2 ⟨(Nat.le_of_ble_eq_true rfl), (Nat.le_of_ble_eq_true rfl)⟩) (g_pre hX hS) rfl rfl hl.1 rfl (lv_room (Nat.le_of_ble_eq_true rfl)) dX5_note_15 ⟨(Nat.le_of_ble_eq_true rfl), (Nat.le_of_ble_eq_true rfl)⟩) hS (fun r_15 H_15 locs hp hS => ?_)
    obtain ⟨rfl, rfl⟩ := hp
    refine gz_if_ne (tgt := 25) hx hb (by decide) dX5_note_18 (by decide) (fun c_18 => ?_) (fun c_18 => ?_)
    · refine lv_aload_n hx hb dX5_note_25 rfl (lv_at hl 0 rfl) ?_
      refine g_get hx hb hX hts (fun w h => (List.mem_cons_of_mem _ (List.mem_append_right _ h))) hown m0 rfl 4 (by decide) (hts (.fieldLink RX5 16 "TuneCatalogueModel" "sizes" "[I") (List.mem_cons_of_mem _ (List.mem_append_left _ (List.mem_append_left _ (List.mem_of_getElem? (i := 0) rfl))))) rfl dX5_note_26 ?_
      refine lv_iload_n hx hb dX5_note_29 rfl (lv_at hl 1 rfl) ?_
      refine gz_iald hx hb hX m3 i (by omega) (by omega) (by omega) dX5_note_30 ?_
      refine lv_bipush (v := zI 24) hx hb dX5_note_31 (by decide +kernel) ?_
      refine gz_icmp_ne (tgt := 40) hx hb ⟨by omega, by omega⟩ (by decide) dX5_note_33 (by decide) (fun c_33 => ?_) (fun c_33 => ?_)
      · omega
      · refine lv_iconst (v := zI 3) hx hb dX5_note_36 rfl ?_
        refine lv_goto (tgt := 41) hx hb dX5_note_37 (by decide) ?_
        refine g_goi (vx_runV (As := [.int (zI 3)]) (rest := []) ⟨hx, hb, hml, hown, hts⟩ (m_holds_k l G B S th ct H hM hI 3 (by decide) (by decide)) (cwV 1 hts gX5_note_X5_holds rfl rfl rfl hd_X5_holds ⟨(Nat.le_of_ble_eq_true rfl), (Nat.le_of_ble_eq_true rfl)⟩) (g_preV hX hS (ci := 5) rfl m0) rfl rfl hl.1 rfl (lv_room (Nat.le_of_ble_eq_true rfl)) dX5_note_41 ⟨(Nat.le_of_ble_eq_true rfl), (Nat.le_of_ble_eq_true rfl)⟩) hS (fun r_41 H_41 locs hp hS => ?_)
        obtain ⟨rfl, hM, hOh⟩ := hp
        obtain ⟨m0, m1, m2, m3, m4, m5, m6, m7, hB, gBs⟩ := id hM
        have hK := hK.trans (hOh.kp1 (oB.k (k := 0) (by omega)))
        refine gz_if_ne (tgt := 49) hx hb (by decide) dX5_note_44 (by decide) (fun c_44 => ?_) (fun c_44 => ?_)
        · omega
        · refine lv_iconst (v := zI 0) hx hb dX5_note_47 rfl ?_
          exact g_reti hx hb hr hlocks hS rfl (⟨rfl, ⟨ct, ⟨m0, m1, m2, m3, m4, m5, m6, m7, hB, gBs⟩⟩, hK⟩) (Nat.le_of_ble_eq_true rfl) (Nat.le_of_ble_eq_true rfl) dX5_note_48
    · omega
  · omega
set_option maxHeartbeats 4000000 in
set_option maxRecDepth 100000 in
theorem m_correct_ok (l : Launch) (G : gG) (B : Nat → Nat) (S : cS) (th : Int) (ct : Nat → Int32) (H : Heap) (hM : Mod G B S th ct H) (hI : sInv S) (z : Int) (i : Nat) (hz : z = i) (hi : i < sn S) (hk : srt S i = false) (z2 : Int) (hz20 : rI z2) (p1 l1 : Int) (hp0 : rI p1) (hl0 : rI l1) (k : Nat) (hz2 : z2 = k) (hk2 : k < stn S i) (hN : isN p1 l1) : gM l yX5_correct wsX5_correct rm_X5_correct [.ref (B 0), .int (zI z), .int (zI z2), .int (zI p1), .int (zI l1)] G H (gi (fun r H1 => zI (stp S i k) = r ∧ MP G B (sCorr S i k p1 l1) 0 H H1)) (gNo) 0 0 := by
  obtain ⟨m0, m1, m2, m3, m4, m5, m6, m7, hB, gBs⟩ := id hM
  have hn16 : sn S ≤ 16 := hI.1
  have gB0 := gBs 0 (by omega)
  have gB1 := gBs 1 (by omega)
  have gB2 := gBs 2 (by omega)
  have gB3 := gBs 3 (by omega)
  have gB4 := gBs 4 (by omega)
  have gB5 := gBs 5 (by omega)
  have gB6 := gBs 6 (by omega)
  have gB7 := gBs 7 (by omega)
  have hK : gKp (oB B) H H := gKp.rf _ _
  have ht24 := (hI.2.1 i hi).2
  have ht1 := (hI.2.1 i hi).1
  refine g_start (cc := cX5_correct) (maxL := 7) (ret := (some .int)) (by decide +kernel) rfl (Nat.le_of_ble_eq_true rfl) ?_
  intro p e s m args below meth c F ls hl
  obtain ⟨hx, hb, hml, hr, hts, hown, hlocks, hxt, hH, hX, hin⟩ := F
  have hown : s.vm.findClass RX5 = some m.cls := hown
  have hS : va_S (gA G) s.heap H [] := by rw [hH]; exact va_S.rf
  have hl : lv_has ls 7 [(0, .ref (B 0)), (1, .int (zI z)), (2, .int (zI z2)), (3, .int (zI p1)), (4, .int (zI l1))] := hl
  refine lv_aload_n hx hb dX5_correct_0 rfl (lv_at hl 0 rfl) ?_
  refine lv_iload_n hx hb dX5_correct_1 rfl (lv_at hl 1 rfl) ?_
  refine g_goi (vx_runV (As := [.int (zI z)]) (rest := []) ⟨hx, hb, hml, hown, hts⟩ (m_isKnown_t l G B S th ct H hM hI z i hz hi hk) (cwV 1 hts gX5_correct_X5_isKnown rfl rfl rfl hd_X5_isKnown ⟨(Nat.le_of_ble_eq_true rfl), (Nat.le_of_ble_eq_true rfl)⟩) (g_preV hX hS (ci := 5) rfl m0) rfl rfl hl.1 rfl (lv_room (Nat.le_of_ble_eq_true rfl)) dX5_correct_2 ⟨(Nat.le_of_ble_eq_true rfl), (Nat.le_of_ble_eq_true rfl)⟩) hS (fun r_2 H_2 locs hp hS => ?_)
  obtain ⟨rfl, rfl⟩ := hp
  refine gz_if_eq (tgt := 28) hx hb (by decide) dX5_correct_5 (by decide) (fun c_5 => ?_) (fun c_5 => ?_)
  · omega
  · refine lv_iload_n hx hb dX5_correct_8 rfl (lv_at hl 2 rfl) ?_
    refine lv_iconst (v := zI 0) hx hb dX5_correct_9 rfl ?_
    refine lv_aload_n hx hb dX5_correct_10 rfl (lv_at hl 0 rfl) ?_
    refine g_get hx hb hX hts (fun w h => (List.mem_cons_of_mem _ (List.mem_append_right _ h))) hown m0 rfl 4 (by decide) (hts (.fieldLink RX5 16 "TuneCatalogueModel" "sizes" "[I") (List.mem_cons_of_mem _ (List.mem_append_left _ (List.mem_append_left _ (List.mem_of_getElem? (i := 0) rfl))))) rfl dX5_correct_11 ?_
    refine lv_iload_n hx hb dX5_correct_14 rfl (lv_at hl 1 rfl) ?_
    refine gz_iald hx hb hX m3 i (by omega) (by omega) (by omega) dX5_correct_15 ?_
    refine lv_iconst (v := zI 1) hx hb dX5_correct_16 rfl ?_
    refine gz_isub hx hb dX5_correct_17 ?_
    refine g_goi (vx_runS (As := [.int (zI z2), .int (zI 0), .int (zI ((stn S i : Int) - 1))]) (rest := []) ⟨hx, hb, hml, hown, hts⟩ (m_in_t l G H z2 0 ((stn S i : Int) - 1) (by first | assumption | exact ⟨by omega, by omega⟩) ⟨by omega, by omega⟩ ⟨by omega, by omega⟩ (by omega)) (va_cwS 3 hts gX5_correct_X5_in rfl rfl rfl hd_X5_in.2 ⟨(Nat.le_of_ble_eq_true rfl), (Nat.le_of_ble_eq_true rfl)⟩) (g_pre hX hS) rfl rfl hl.1 rfl (lv_room (Nat.le_of_ble_eq_true rfl)) dX5_correct_18 ⟨(Nat.le_of_ble_eq_true rfl), (Nat.le_of_ble_eq_true rfl)⟩) hS (fun r_18 H_18 locs hp hS => ?_)
    obtain ⟨rfl, rfl⟩ := hp
    refine gz_if_eq (tgt := 28) hx hb (by decide) dX5_correct_21 (by decide) (fun c_21 => ?_) (fun c_21 => ?_)
    · omega
    · refine lv_iconst (v := zI 1) hx hb dX5_correct_24 rfl ?_
      refine lv_goto (tgt := 29) hx hb dX5_correct_25 (by decide) ?_
      refine lv_istore (lv' := [(5, .int (zI 1)), (0, .ref (B 0)), (1, .int (zI z)), (2, .int (zI z2)), (3, .int (zI p1)), (4, .int (zI l1))]) hx hb dX5_correct_29 hl (by decide) rfl (fun ls hl => ?_)
      refine lv_aload_n hx hb dX5_correct_31 rfl (lv_at hl 1 rfl) ?_
      refine lv_iload hx hb dX5_correct_32 (lv_at hl 0 rfl) ?_
      refine gz_if_ne (tgt := 41) hx hb (by decide) dX5_correct_34 (by decide) (fun c_34 => ?_) (fun c_34 => ?_)
      · refine lv_iload_n hx hb dX5_correct_41 rfl (lv_at hl 4 rfl) ?_
        refine lv_iload hx hb dX5_correct_42 (lv_at hl 5 rfl) ?_
        refine g_goi (vx_runS (As := [.int (zI p1), .int (zI l1)]) (rest := [.ref (B 0)]) ⟨hx, hb, hml, hown, hts⟩ (m_isNote_t l G H p1 l1 hp0 hl0 hN) (va_cwS 2 hts gX5_correct_X5_isNote rfl rfl rfl hd_X5_isNote.2 ⟨(Nat.le_of_ble_eq_true rfl), (Nat.le_of_ble_eq_true rfl)⟩) (g_pre hX hS) rfl rfl hl.1 rfl (lv_room (Nat.le_of_ble_eq_true rfl)) dX5_correct_44 ⟨(Nat.le_of_ble_eq_true rfl), (Nat.le_of_ble_eq_true rfl)⟩) hS (fun r_44 H_44 locs hp hS => ?_)
        obtain ⟨rfl, rfl⟩ := hp
        refine gz_if_eq (tgt := 54) hx hb (by decide) dX5_correct_47 (by decide) (fun c_47 => ?_) (fun c_47 => ?_)
        · omega
        · refine lv_iconst (v := zI 0) hx hb dX5_correct_50 rfl ?_
          refine lv_goto (tgt := 55) hx hb dX5_correct_51 (by decide) ?_
          refine g_goi (vx_runV (As := [.int (zI 0)]) (rest := []) ⟨hx, hb, hml, hown, hts⟩ (m_holds_0 l G B S th ct H hM hI 0 rfl) (cwV 1 hts gX5_correct_X5_holds rfl rfl rfl hd_X5_holds ⟨(Nat.le_of_ble_eq_true rfl), (Nat.le_of_ble_eq_true rfl)⟩) (g_preV hX hS (ci := 5) rfl m0) rfl rfl hl.1 rfl (lv_room (Nat.le_of_ble_eq_true rfl)) dX5_correct_55 ⟨(Nat.le_of_ble_eq_true rfl), (Nat.le_of_ble_eq_true rfl)⟩) hS (fun r_55 H_55 locs hp hS => ?_)
          obtain ⟨rfl, hM, hOh⟩ := hp
          obtain ⟨m0, m1, m2, m3, m4, m5, m6, m7, hB, gBs⟩ := id hM
          have hK := hK.trans (hOh.kp1 (oB.k (k := 0) (by omega)))
          refine gz_if_ne (tgt := 63) hx hb (by decide) dX5_correct_58 (by decide) (fun c_58 => ?_) (fun c_58 => ?_)
          · refine lv_aload_n hx hb dX5_correct_63 rfl (lv_at hl 1 rfl) ?_
            refine g_get hx hb hX hts (fun w h => (List.mem_cons_of_mem _ (List.mem_append_right _ h))) hown m0 rfl 2 (by decide) (hts (.fieldLink RX5 7 "TuneCatalogueModel" "pitches" "[I") (List.mem_cons_of_mem _ (List.mem_append_left _ (List.mem_append_left _ (List.mem_of_getElem? (i := 1) rfl))))) rfl dX5_correct_64 ?_
            refine lv_bipush (v := zI 24) hx hb dX5_correct_67 (by decide +kernel) ?_
            refine lv_iload_n hx hb dX5_correct_69 rfl (lv_at hl 2 rfl) ?_
            refine gz_imul hx hb dX5_correct_70 ?_
            refine lv_iload_n hx hb dX5_correct_71 rfl (lv_at hl 3 rfl) ?_
            refine gz_iadd hx hb dX5_correct_72 ?_
            refine gz_iald hx hb hX m1 (24 * i + k) (by omega) (by omega) (by omega) dX5_correct_73 ?_
            rw [d24 (stp S) (i := i) (k := k) (by omega)]
            refine lv_istore (lv' := [(6, .int (zI (stp S i k))), (5, .int (zI 1)), (0, .ref (B 0)), (1, .int (zI z)), (2, .int (zI z2)), (3, .int (zI p1)), (4, .int (zI l1))]) hx hb dX5_correct_74 hl (by decide) rfl (fun ls hl => ?_)
            refine lv_aload_n hx hb dX5_correct_76 rfl (lv_at hl 2 rfl) ?_
            refine lv_iload_n hx hb dX5_correct_77 rfl (lv_at hl 3 rfl) ?_
            refine lv_iload_n hx hb dX5_correct_78 rfl (lv_at hl 4 rfl) ?_
            refine lv_iload_n hx hb dX5_correct_79 rfl (lv_at hl 5 rfl) ?_
            refine lv_iload hx hb dX5_correct_80 (lv_at hl 6 rfl) ?_
            refine g_gov (vx_runV (As := [.int (zI z), .int (zI z2), .int (zI p1), .int (zI l1)]) (rest := []) ⟨hx, hb, hml, hown, hts⟩ (m_sets l G B S 0 ct H_55 hM hI z i (by omega) (by omega) z2 p1 l1 k hz2 (by omega)) (cwV 4 hts gX5_correct_X5_sets rfl rfl rfl hd_X5_sets ⟨(Nat.le_of_ble_eq_true rfl), (Nat.le_of_ble_eq_true rfl)⟩) (g_preV hX hS (ci := 5) rfl m0) rfl rfl hl.1 rfl (lv_room (Nat.le_of_ble_eq_true rfl)) dX5_correct_82 ⟨(Nat.le_of_ble_eq_true rfl), (Nat.le_of_ble_eq_true rfl)⟩) hS (fun H_82 locs hp hS => ?_)
            obtain ⟨hM2, hO2⟩ := hp
            obtain ⟨m0, m1, m2, m3, m4, m5, m6, m7, hB, gBs⟩ := id hM2
            have hK := hK.only hO2 (by intro q hq; simp only [List.mem_cons, List.not_mem_nil, or_false] at hq; rcases hq with e | e; exact ⟨1, by omega, e⟩; exact ⟨2, by omega, e⟩)
            have m0 : gat G (B 0) (.inr (5, [.int (zI 0), .int (zI (sn S : Int)), .ref (B 1), .ref (B 2), .ref (B 3), .ref (B 4), .ref (B 5), .int (zI (shn S : Int)), .int (zI (ssl S)), .int (zI (sor S)), .int (zI (srp S)), .ref (B 6), .ref (B 7)])) H_82 := m0
            have m1 : gat G (B 1) (.inl (gI G, 384, .inl (fun j => zI (up2 (stp S) i k p1 (j / 24) (j % 24))))) H_82 := m1
            have m2 : gat G (B 2) (.inl (gI G, 384, .inl (fun j => zI (up2 (stl S) i k l1 (j / 24) (j % 24))))) H_82 := m2
            have m3 : gat G (B 3) (.inl (gI G, 16, .inl (fun j => zI ((stn S j : Nat) : Int)))) H_82 := m3
            have m4 : gat G (B 4) (.inl (gZ G, 16, .inl (fun j => zI (zB (srt S j))))) H_82 := m4
            have m5 : gat G (B 5) (.inl (gI G, 12, .inl (fun j => zI (shf S j)))) H_82 := m5
            have m6 : gat G (B 6) (.inl (gI G, 288, .inl ct)) H_82 := m6
            have m7 : gat G (B 7) (.inl (gI G, 16, .inl (fun j => zI ((slk S j : Nat) : Int)))) H_82 := m7
            refine lv_iload hx hb dX5_correct_85 (lv_at hl 0 rfl) ?_
            exact g_reti hx hb hr hlocks hS rfl (⟨rfl, ⟨ct, ⟨m0, m1, m2, m3, m4, m5, m6, m7, hB, gBs⟩⟩, hK⟩) (Nat.le_of_ble_eq_true rfl) (Nat.le_of_ble_eq_true rfl) dX5_correct_87
          · omega
      · omega
set_option maxHeartbeats 4000000 in
set_option maxRecDepth 100000 in
theorem m_correct_e1 (l : Launch) (G : gG) (B : Nat → Nat) (S : cS) (th : Int) (ct : Nat → Int32) (H : Heap) (hM : Mod G B S th ct H) (hI : sInv S) (z : Int) (hz : rI z) (hi : ¬ kwn S z) (z2 : Int) (hz20 : rI z2) (p1 l1 : Int) : gM l yX5_correct wsX5_correct rm_X5_correct [.ref (B 0), .int (zI z), .int (zI z2), .int (zI p1), .int (zI l1)] G H (gi (fun r H1 => zI 0 = r ∧ MP G B S 1 H H1)) (gNo) 0 0 := by
  obtain ⟨m0, m1, m2, m3, m4, m5, m6, m7, hB, gBs⟩ := id hM
  have hn16 : sn S ≤ 16 := hI.1
  have gB0 := gBs 0 (by omega)
  have gB1 := gBs 1 (by omega)
  have gB2 := gBs 2 (by omega)
  have gB3 := gBs 3 (by omega)
  have gB4 := gBs 4 (by omega)
  have gB5 := gBs 5 (by omega)
  have gB6 := gBs 6 (by omega)
  have gB7 := gBs 7 (by omega)
  have hK : gKp (oB B) H H := gKp.rf _ _
  refine g_start (cc := cX5_correct) (maxL := 7) (ret := (some .int)) (by decide +kernel) rfl (Nat.le_of_ble_eq_true rfl) ?_
  intro p e s m args below meth c F ls hl
  obtain ⟨hx, hb, hml, hr, hts, hown, hlocks, hxt, hH, hX, hin⟩ := F
  have hown : s.vm.findClass RX5 = some m.cls := hown
  have hS : va_S (gA G) s.heap H [] := by rw [hH]; exact va_S.rf
  have hl : lv_has ls 7 [(0, .ref (B 0)), (1, .int (zI z)), (2, .int (zI z2)), (3, .int (zI p1)), (4, .int (zI l1))] := hl
  refine lv_aload_n hx hb dX5_correct_0 rfl (lv_at hl 0 rfl) ?_
  refine lv_iload_n hx hb dX5_correct_1 rfl (lv_at hl 1 rfl) ?_
  refine g_goi (vx_runV (As := [.int (zI z)]) (rest := []) ⟨hx, hb, hml, hown, hts⟩ (m_isKnown_f l G B S th ct H hM hI z hz hi) (cwV 1 hts gX5_correct_X5_isKnown rfl rfl rfl hd_X5_isKnown ⟨(Nat.le_of_ble_eq_true rfl), (Nat.le_of_ble_eq_true rfl)⟩) (g_preV hX hS (ci := 5) rfl m0) rfl rfl hl.1 rfl (lv_room (Nat.le_of_ble_eq_true rfl)) dX5_correct_2 ⟨(Nat.le_of_ble_eq_true rfl), (Nat.le_of_ble_eq_true rfl)⟩) hS (fun r_2 H_2 locs hp hS => ?_)
  obtain ⟨rfl, rfl⟩ := hp
  refine gz_if_eq (tgt := 28) hx hb (by decide) dX5_correct_5 (by decide) (fun c_5 => ?_) (fun c_5 => ?_)
  · refine lv_iconst (v := zI 0) hx hb dX5_correct_28 rfl ?_
    refine lv_istore (lv' := [(5, .int (zI 0)), (0, .ref (B 0)), (1, .int (zI z)), (2, .int (zI z2)), (3, .int (zI p1)), (4, .int (zI l1))]) hx hb dX5_correct_29 hl (by decide) rfl (fun ls hl => ?_)
    refine lv_aload_n hx hb dX5_correct_31 rfl (lv_at hl 1 rfl) ?_
    refine lv_iload hx hb dX5_correct_32 (lv_at hl 0 rfl) ?_
    refine gz_if_ne (tgt := 41) hx hb (by decide) dX5_correct_34 (by decide) (fun c_34 => ?_) (fun c_34 => ?_)
    · omega
    · refine lv_iconst (v := zI 1) hx hb dX5_correct_37 rfl ?_
      refine lv_goto (tgt := 55) hx hb dX5_correct_38 (by decide) ?_
      refine g_goi (vx_runV (As := [.int (zI 1)]) (rest := []) ⟨hx, hb, hml, hown, hts⟩ (m_holds_k l G B S th ct H hM hI 1 (by decide) (by decide)) (cwV 1 hts gX5_correct_X5_holds rfl rfl rfl hd_X5_holds ⟨(Nat.le_of_ble_eq_true rfl), (Nat.le_of_ble_eq_true rfl)⟩) (g_preV hX hS (ci := 5) rfl m0) rfl rfl hl.1 rfl (lv_room (Nat.le_of_ble_eq_true rfl)) dX5_correct_55 ⟨(Nat.le_of_ble_eq_true rfl), (Nat.le_of_ble_eq_true rfl)⟩) hS (fun r_55 H_55 locs hp hS => ?_)
      obtain ⟨rfl, hM, hOh⟩ := hp
      obtain ⟨m0, m1, m2, m3, m4, m5, m6, m7, hB, gBs⟩ := id hM
      have hK := hK.trans (hOh.kp1 (oB.k (k := 0) (by omega)))
      refine gz_if_ne (tgt := 63) hx hb (by decide) dX5_correct_58 (by decide) (fun c_58 => ?_) (fun c_58 => ?_)
      · omega
      · refine lv_iconst (v := zI 0) hx hb dX5_correct_61 rfl ?_
        exact g_reti hx hb hr hlocks hS rfl (⟨rfl, ⟨ct, ⟨m0, m1, m2, m3, m4, m5, m6, m7, hB, gBs⟩⟩, hK⟩) (Nat.le_of_ble_eq_true rfl) (Nat.le_of_ble_eq_true rfl) dX5_correct_62
  · omega
set_option maxHeartbeats 4000000 in
set_option maxRecDepth 100000 in
theorem m_correct_e2 (l : Launch) (G : gG) (B : Nat → Nat) (S : cS) (th : Int) (ct : Nat → Int32) (H : Heap) (hM : Mod G B S th ct H) (hI : sInv S) (z : Int) (i : Nat) (hz : z = i) (hi : i < sn S) (hk : srt S i = false) (z2 : Int) (hz20 : rI z2) (p1 l1 : Int) (hp0 : rI p1) (hl0 : rI l1) (hk2 : ¬ (0 ≤ z2 ∧ z2 < stn S i)) : gM l yX5_correct wsX5_correct rm_X5_correct [.ref (B 0), .int (zI z), .int (zI z2), .int (zI p1), .int (zI l1)] G H (gi (fun r H1 => zI 0 = r ∧ MP G B S 1 H H1)) (gNo) 0 0 := by
  obtain ⟨m0, m1, m2, m3, m4, m5, m6, m7, hB, gBs⟩ := id hM
  have hn16 : sn S ≤ 16 := hI.1
  have gB0 := gBs 0 (by omega)
  have gB1 := gBs 1 (by omega)
  have gB2 := gBs 2 (by omega)
  have gB3 := gBs 3 (by omega)
  have gB4 := gBs 4 (by omega)
  have gB5 := gBs 5 (by omega)
  have gB6 := gBs 6 (by omega)
  have gB7 := gBs 7 (by omega)
  have hK : gKp (oB B) H H := gKp.rf _ _
  have ht24 := (hI.2.1 i hi).2
  have ht1 := (hI.2.1 i hi).1
  refine g_start (cc := cX5_correct) (maxL := 7) (ret := (some .int)) (by decide +kernel) rfl (Nat.le_of_ble_eq_true rfl) ?_
  intro p e s m args below meth c F ls hl
  obtain ⟨hx, hb, hml, hr, hts, hown, hlocks, hxt, hH, hX, hin⟩ := F
  have hown : s.vm.findClass RX5 = some m.cls := hown
  have hS : va_S (gA G) s.heap H [] := by rw [hH]; exact va_S.rf
  have hl : lv_has ls 7 [(0, .ref (B 0)), (1, .int (zI z)), (2, .int (zI z2)), (3, .int (zI p1)), (4, .int (zI l1))] := hl
  refine lv_aload_n hx hb dX5_correct_0 rfl (lv_at hl 0 rfl) ?_
  refine lv_iload_n hx hb dX5_correct_1 rfl (lv_at hl 1 rfl) ?_
  refine g_goi (vx_runV (As := [.int (zI z)]) (rest := []) ⟨hx, hb, hml, hown, hts⟩ (m_isKnown_t l G B S th ct H hM hI z i hz hi hk) (cwV 1 hts gX5_correct_X5_isKnown rfl rfl rfl hd_X5_isKnown ⟨(Nat.le_of_ble_eq_true rfl), (Nat.le_of_ble_eq_true rfl)⟩) (g_preV hX hS (ci := 5) rfl m0) rfl rfl hl.1 rfl (lv_room (Nat.le_of_ble_eq_true rfl)) dX5_correct_2 ⟨(Nat.le_of_ble_eq_true rfl), (Nat.le_of_ble_eq_true rfl)⟩) hS (fun r_2 H_2 locs hp hS => ?_)
  obtain ⟨rfl, rfl⟩ := hp
  refine gz_if_eq (tgt := 28) hx hb (by decide) dX5_correct_5 (by decide) (fun c_5 => ?_) (fun c_5 => ?_)
  · omega
  · refine lv_iload_n hx hb dX5_correct_8 rfl (lv_at hl 2 rfl) ?_
    refine lv_iconst (v := zI 0) hx hb dX5_correct_9 rfl ?_
    refine lv_aload_n hx hb dX5_correct_10 rfl (lv_at hl 0 rfl) ?_
    refine g_get hx hb hX hts (fun w h => (List.mem_cons_of_mem _ (List.mem_append_right _ h))) hown m0 rfl 4 (by decide) (hts (.fieldLink RX5 16 "TuneCatalogueModel" "sizes" "[I") (List.mem_cons_of_mem _ (List.mem_append_left _ (List.mem_append_left _ (List.mem_of_getElem? (i := 0) rfl))))) rfl dX5_correct_11 ?_
    refine lv_iload_n hx hb dX5_correct_14 rfl (lv_at hl 1 rfl) ?_
    refine gz_iald hx hb hX m3 i (by omega) (by omega) (by omega) dX5_correct_15 ?_
    refine lv_iconst (v := zI 1) hx hb dX5_correct_16 rfl ?_
    refine gz_isub hx hb dX5_correct_17 ?_
    refine g_goi (vx_runS (As := [.int (zI z2), .int (zI 0), .int (zI ((stn S i : Int) - 1))]) (rest := []) ⟨hx, hb, hml, hown, hts⟩ (m_in_f l G H z2 0 ((stn S i : Int) - 1) (by first | assumption | exact ⟨by omega, by omega⟩) ⟨by omega, by omega⟩ ⟨by omega, by omega⟩ (by omega)) (va_cwS 3 hts gX5_correct_X5_in rfl rfl rfl hd_X5_in.2 ⟨(Nat.le_of_ble_eq_true rfl), (Nat.le_of_ble_eq_true rfl)⟩) (g_pre hX hS) rfl rfl hl.1 rfl (lv_room (Nat.le_of_ble_eq_true rfl)) dX5_correct_18 ⟨(Nat.le_of_ble_eq_true rfl), (Nat.le_of_ble_eq_true rfl)⟩) hS (fun r_18 H_18 locs hp hS => ?_)
    obtain ⟨rfl, rfl⟩ := hp
    refine gz_if_eq (tgt := 28) hx hb (by decide) dX5_correct_21 (by decide) (fun c_21 => ?_) (fun c_21 => ?_)
    · refine lv_iconst (v := zI 0) hx hb dX5_correct_28 rfl ?_
      refine lv_istore (lv' := [(5, .int (zI 0)), (0, .ref (B 0)), (1, .int (zI z)), (2, .int (zI z2)), (3, .int (zI p1)), (4, .int (zI l1))]) hx hb dX5_correct_29 hl (by decide) rfl (fun ls hl => ?_)
      refine lv_aload_n hx hb dX5_correct_31 rfl (lv_at hl 1 rfl) ?_
      refine lv_iload hx hb dX5_correct_32 (lv_at hl 0 rfl) ?_
      refine gz_if_ne (tgt := 41) hx hb (by decide) dX5_correct_34 (by decide) (fun c_34 => ?_) (fun c_34 => ?_)
      · omega
      · refine lv_iconst (v := zI 1) hx hb dX5_correct_37 rfl ?_
        refine lv_goto (tgt := 55) hx hb dX5_correct_38 (by decide) ?_
        refine g_goi (vx_runV (As := [.int (zI 1)]) (rest := []) ⟨hx, hb, hml, hown, hts⟩ (m_holds_k l G B S th ct H hM hI 1 (by decide) (by decide)) (cwV 1 hts gX5_correct_X5_holds rfl rfl rfl hd_X5_holds ⟨(Nat.le_of_ble_eq_true rfl), (Nat.le_of_ble_eq_true rfl)⟩) (g_preV hX hS (ci := 5) rfl m0) rfl rfl hl.1 rfl (lv_room (Nat.le_of_ble_eq_true rfl)) dX5_correct_55 ⟨(Nat.le_of_ble_eq_true rfl), (Nat.le_of_ble_eq_true rfl)⟩) hS (fun r_55 H_55 locs hp hS => ?_)
        obtain ⟨rfl, hM, hOh⟩ := hp
        obtain ⟨m0, m1, m2, m3, m4, m5, m6, m7, hB, gBs⟩ := id hM
        have hK := hK.trans (hOh.kp1 (oB.k (k := 0) (by omega)))
        refine gz_if_ne (tgt := 63) hx hb (by decide) dX5_correct_58 (by decide) (fun c_58 => ?_) (fun c_58 => ?_)
        · omega
        · refine lv_iconst (v := zI 0) hx hb dX5_correct_61 rfl ?_
          exact g_reti hx hb hr hlocks hS rfl (⟨rfl, ⟨ct, ⟨m0, m1, m2, m3, m4, m5, m6, m7, hB, gBs⟩⟩, hK⟩) (Nat.le_of_ble_eq_true rfl) (Nat.le_of_ble_eq_true rfl) dX5_correct_62
    · omega
set_option maxHeartbeats 4000000 in
set_option maxRecDepth 100000 in
theorem m_correct_e3 (l : Launch) (G : gG) (B : Nat → Nat) (S : cS) (th : Int) (ct : Nat → Int32) (H : Heap) (hM : Mod G B S th ct H) (hI : sInv S) (z : Int) (i : Nat) (hz : z = i) (hi : i < sn S) (hk : srt S i = false) (z2 : Int) (hz20 : rI z2) (p1 l1 : Int) (hp0 : rI p1) (hl0 : rI l1) (hk2 : 0 ≤ z2 ∧ z2 < stn S i) (hN : ¬ isN p1 l1) : gM l yX5_correct wsX5_correct rm_X5_correct [.ref (B 0), .int (zI z), .int (zI z2), .int (zI p1), .int (zI l1)] G H (gi (fun r H1 => zI 0 = r ∧ MP G B S 2 H H1)) (gNo) 0 0 := by
  obtain ⟨m0, m1, m2, m3, m4, m5, m6, m7, hB, gBs⟩ := id hM
  have hn16 : sn S ≤ 16 := hI.1
  have gB0 := gBs 0 (by omega)
  have gB1 := gBs 1 (by omega)
  have gB2 := gBs 2 (by omega)
  have gB3 := gBs 3 (by omega)
  have gB4 := gBs 4 (by omega)
  have gB5 := gBs 5 (by omega)
  have gB6 := gBs 6 (by omega)
  have gB7 := gBs 7 (by omega)
  have hK : gKp (oB B) H H := gKp.rf _ _
  have ht24 := (hI.2.1 i hi).2
  have ht1 := (hI.2.1 i hi).1
  refine g_start (cc := cX5_correct) (maxL := 7) (ret := (some .int)) (by decide +kernel) rfl (Nat.le_of_ble_eq_true rfl) ?_
  intro p e s m args below meth c F ls hl
  obtain ⟨hx, hb, hml, hr, hts, hown, hlocks, hxt, hH, hX, hin⟩ := F
  have hown : s.vm.findClass RX5 = some m.cls := hown
  have hS : va_S (gA G) s.heap H [] := by rw [hH]; exact va_S.rf
  have hl : lv_has ls 7 [(0, .ref (B 0)), (1, .int (zI z)), (2, .int (zI z2)), (3, .int (zI p1)), (4, .int (zI l1))] := hl
  refine lv_aload_n hx hb dX5_correct_0 rfl (lv_at hl 0 rfl) ?_
  refine lv_iload_n hx hb dX5_correct_1 rfl (lv_at hl 1 rfl) ?_
  refine g_goi (vx_runV (As := [.int (zI z)]) (rest := []) ⟨hx, hb, hml, hown, hts⟩ (m_isKnown_t l G B S th ct H hM hI z i hz hi hk) (cwV 1 hts gX5_correct_X5_isKnown rfl rfl rfl hd_X5_isKnown ⟨(Nat.le_of_ble_eq_true rfl), (Nat.le_of_ble_eq_true rfl)⟩) (g_preV hX hS (ci := 5) rfl m0) rfl rfl hl.1 rfl (lv_room (Nat.le_of_ble_eq_true rfl)) dX5_correct_2 ⟨(Nat.le_of_ble_eq_true rfl), (Nat.le_of_ble_eq_true rfl)⟩) hS (fun r_2 H_2 locs hp hS => ?_)
  obtain ⟨rfl, rfl⟩ := hp
  refine gz_if_eq (tgt := 28) hx hb (by decide) dX5_correct_5 (by decide) (fun c_5 => ?_) (fun c_5 => ?_)
  · omega
  · refine lv_iload_n hx hb dX5_correct_8 rfl (lv_at hl 2 rfl) ?_
    refine lv_iconst (v := zI 0) hx hb dX5_correct_9 rfl ?_
    refine lv_aload_n hx hb dX5_correct_10 rfl (lv_at hl 0 rfl) ?_
    refine g_get hx hb hX hts (fun w h => (List.mem_cons_of_mem _ (List.mem_append_right _ h))) hown m0 rfl 4 (by decide) (hts (.fieldLink RX5 16 "TuneCatalogueModel" "sizes" "[I") (List.mem_cons_of_mem _ (List.mem_append_left _ (List.mem_append_left _ (List.mem_of_getElem? (i := 0) rfl))))) rfl dX5_correct_11 ?_
    refine lv_iload_n hx hb dX5_correct_14 rfl (lv_at hl 1 rfl) ?_
    refine gz_iald hx hb hX m3 i (by omega) (by omega) (by omega) dX5_correct_15 ?_
    refine lv_iconst (v := zI 1) hx hb dX5_correct_16 rfl ?_
    refine gz_isub hx hb dX5_correct_17 ?_
    refine g_goi (vx_runS (As := [.int (zI z2), .int (zI 0), .int (zI ((stn S i : Int) - 1))]) (rest := []) ⟨hx, hb, hml, hown, hts⟩ (m_in_t l G H z2 0 ((stn S i : Int) - 1) (by first | assumption | exact ⟨by omega, by omega⟩) ⟨by omega, by omega⟩ ⟨by omega, by omega⟩ (by omega)) (va_cwS 3 hts gX5_correct_X5_in rfl rfl rfl hd_X5_in.2 ⟨(Nat.le_of_ble_eq_true rfl), (Nat.le_of_ble_eq_true rfl)⟩) (g_pre hX hS) rfl rfl hl.1 rfl (lv_room (Nat.le_of_ble_eq_true rfl)) dX5_correct_18 ⟨(Nat.le_of_ble_eq_true rfl), (Nat.le_of_ble_eq_true rfl)⟩) hS (fun r_18 H_18 locs hp hS => ?_)
    obtain ⟨rfl, rfl⟩ := hp
    refine gz_if_eq (tgt := 28) hx hb (by decide) dX5_correct_21 (by decide) (fun c_21 => ?_) (fun c_21 => ?_)
    · omega
    · refine lv_iconst (v := zI 1) hx hb dX5_correct_24 rfl ?_
      refine lv_goto (tgt := 29) hx hb dX5_correct_25 (by decide) ?_
      refine lv_istore (lv' := [(5, .int (zI 1)), (0, .ref (B 0)), (1, .int (zI z)), (2, .int (zI z2)), (3, .int (zI p1)), (4, .int (zI l1))]) hx hb dX5_correct_29 hl (by decide) rfl (fun ls hl => ?_)
      refine lv_aload_n hx hb dX5_correct_31 rfl (lv_at hl 1 rfl) ?_
      refine lv_iload hx hb dX5_correct_32 (lv_at hl 0 rfl) ?_
      refine gz_if_ne (tgt := 41) hx hb (by decide) dX5_correct_34 (by decide) (fun c_34 => ?_) (fun c_34 => ?_)
      · refine lv_iload_n hx hb dX5_correct_41 rfl (lv_at hl 4 rfl) ?_
        refine lv_iload hx hb dX5_correct_42 (lv_at hl 5 rfl) ?_
        refine g_goi (vx_runS (As := [.int (zI p1), .int (zI l1)]) (rest := [.ref (B 0)]) ⟨hx, hb, hml, hown, hts⟩ (m_isNote_f l G H p1 l1 hp0 hl0 hN) (va_cwS 2 hts gX5_correct_X5_isNote rfl rfl rfl hd_X5_isNote.2 ⟨(Nat.le_of_ble_eq_true rfl), (Nat.le_of_ble_eq_true rfl)⟩) (g_pre hX hS) rfl rfl hl.1 rfl (lv_room (Nat.le_of_ble_eq_true rfl)) dX5_correct_44 ⟨(Nat.le_of_ble_eq_true rfl), (Nat.le_of_ble_eq_true rfl)⟩) hS (fun r_44 H_44 locs hp hS => ?_)
        obtain ⟨rfl, rfl⟩ := hp
        refine gz_if_eq (tgt := 54) hx hb (by decide) dX5_correct_47 (by decide) (fun c_47 => ?_) (fun c_47 => ?_)
        · refine lv_iconst (v := zI 2) hx hb dX5_correct_54 rfl ?_
          refine g_goi (vx_runV (As := [.int (zI 2)]) (rest := []) ⟨hx, hb, hml, hown, hts⟩ (m_holds_k l G B S th ct H hM hI 2 (by decide) (by decide)) (cwV 1 hts gX5_correct_X5_holds rfl rfl rfl hd_X5_holds ⟨(Nat.le_of_ble_eq_true rfl), (Nat.le_of_ble_eq_true rfl)⟩) (g_preV hX hS (ci := 5) rfl m0) rfl rfl hl.1 rfl (lv_room (Nat.le_of_ble_eq_true rfl)) dX5_correct_55 ⟨(Nat.le_of_ble_eq_true rfl), (Nat.le_of_ble_eq_true rfl)⟩) hS (fun r_55 H_55 locs hp hS => ?_)
          obtain ⟨rfl, hM, hOh⟩ := hp
          obtain ⟨m0, m1, m2, m3, m4, m5, m6, m7, hB, gBs⟩ := id hM
          have hK := hK.trans (hOh.kp1 (oB.k (k := 0) (by omega)))
          refine gz_if_ne (tgt := 63) hx hb (by decide) dX5_correct_58 (by decide) (fun c_58 => ?_) (fun c_58 => ?_)
          · omega
          · refine lv_iconst (v := zI 0) hx hb dX5_correct_61 rfl ?_
            exact g_reti hx hb hr hlocks hS rfl (⟨rfl, ⟨ct, ⟨m0, m1, m2, m3, m4, m5, m6, m7, hB, gBs⟩⟩, hK⟩) (Nat.le_of_ble_eq_true rfl) (Nat.le_of_ble_eq_true rfl) dX5_correct_62
        · omega
      · omega
set_option maxHeartbeats 4000000 in
set_option maxRecDepth 100000 in
theorem m_mayShift_t (l : Launch) (G : gG) (B : Nat → Nat) (S : cS) (th : Int) (ct : Nat → Int32) (H : Heap) (hM : Mod G B S th ct H) (hI : sInv S) (z : Int) (i : Nat) (hz : z = i) (hi : i < sn S) (d : Int) (hd0 : rI d) (hd : -60 ≤ d ∧ d ≤ 60) (hall : ∀ k, k < stn S i → 0 ≤ stp S i k + d ∧ stp S i k + d ≤ 60) : gM l yX5_mayShift wsX5_mayShift rm_X5_mayShift [.ref (B 0), .int (zI z), .int (zI d)] G H (gi (fun r H1 => zI 1 = r ∧ H = H1)) (gNo) 0 0 := by
  obtain ⟨m0, m1, m2, m3, m4, m5, m6, m7, hB, gBs⟩ := id hM
  have hn16 : sn S ≤ 16 := hI.1
  have gB0 := gBs 0 (by omega)
  have gB1 := gBs 1 (by omega)
  have gB2 := gBs 2 (by omega)
  have gB3 := gBs 3 (by omega)
  have gB4 := gBs 4 (by omega)
  have gB5 := gBs 5 (by omega)
  have gB6 := gBs 6 (by omega)
  have gB7 := gBs 7 (by omega)
  have ht24 := (hI.2.1 i hi).2
  have ht1 := (hI.2.1 i hi).1
  refine g_start (cc := cX5_mayShift) (maxL := 4) (ret := (some .boolean)) (by decide +kernel) rfl (Nat.le_of_ble_eq_true rfl) ?_
  intro p e s m args below meth c F ls hl
  obtain ⟨hx, hb, hml, hr, hts, hown, hlocks, hxt, hH, hX, hin⟩ := F
  have hown : s.vm.findClass RX5 = some m.cls := hown
  have hS : va_S (gA G) s.heap H [] := by rw [hH]; exact va_S.rf
  have hl : lv_has ls 4 [(0, .ref (B 0)), (1, .int (zI z)), (2, .int (zI d))] := hl
  refine lv_iconst (v := zI 0) hx hb dX5_mayShift_0 rfl ?_
  refine lv_istore_n (lv' := [(3, .int (zI 0)), (0, .ref (B 0)), (1, .int (zI z)), (2, .int (zI d))]) hx hb dX5_mayShift_1 rfl hl (by decide) rfl (fun ls hl => ?_)
  have loop_2 : ∀ (M_ : Nat) (y : Int) (k : Nat) (locs : List Loc), stn S i - k < M_ → (y = k) → (k ≤ stn S i) → va_S (gA G) s.heap H locs → ∀ (ls : Array Slot), lv_has ls 4 [(3, .int (zI y)), (0, .ref (B 0)), (1, .int (zI z)), (2, .int (zI d))] → W p l e rm_X5_mayShift s m args below meth c H locs (0) (0) (vx_MQ below (gQ G (gi (fun r H1 => zI 1 = r ∧ H = H1))) (gXC G (gNo)) args s 0 0 (gA G)) (F0 m 2 ls []) := by
    intro M_
    induction M_ with
    | zero => intro y k locs_0 h_0; exact absurd h_0 (Nat.not_lt_zero _)
    | succ M_ ih_2 =>
      intro y k locs hM_2 hy hkn hS ls hl
      have hpk := hI.2.2.2.1 i k
      refine lv_iload_n hx hb dX5_mayShift_2 rfl (lv_at hl 0 rfl) ?_
      refine lv_aload_n hx hb dX5_mayShift_3 rfl (lv_at hl 1 rfl) ?_
      refine g_get hx hb hX hts (fun w h => (List.mem_cons_of_mem _ (List.mem_append_right _ h))) hown m0 rfl 4 (by decide) (hts (.fieldLink RX5 16 "TuneCatalogueModel" "sizes" "[I") (List.mem_cons_of_mem _ (List.mem_append_left _ (List.mem_of_getElem? (i := 0) rfl)))) rfl dX5_mayShift_4 ?_
      refine lv_iload_n hx hb dX5_mayShift_7 rfl (lv_at hl 2 rfl) ?_
      refine gz_iald hx hb hX m3 i (by omega) (by omega) (by omega) dX5_mayShift_8 ?_
      refine gz_icmp_ge (tgt := 42) hx hb ⟨by omega, by omega⟩ ⟨by omega, by omega⟩ dX5_mayShift_9 (by decide) (fun c_9 => ?_) (fun c_9 => ?_)
      · refine lv_iconst (v := zI 1) hx hb dX5_mayShift_42 rfl ?_
        exact g_reti hx hb hr hlocks hS rfl (⟨rfl, rfl⟩) (Nat.le_of_ble_eq_true rfl) (Nat.le_of_ble_eq_true rfl) dX5_mayShift_43
      · refine lv_aload_n hx hb dX5_mayShift_12 rfl (lv_at hl 1 rfl) ?_
        refine g_get hx hb hX hts (fun w h => (List.mem_cons_of_mem _ (List.mem_append_right _ h))) hown m0 rfl 2 (by decide) (hts (.fieldLink RX5 7 "TuneCatalogueModel" "pitches" "[I") (List.mem_cons_of_mem _ (List.mem_append_left _ (List.mem_of_getElem? (i := 1) rfl)))) rfl dX5_mayShift_13 ?_
        refine lv_bipush (v := zI 24) hx hb dX5_mayShift_16 (by decide +kernel) ?_
        refine lv_iload_n hx hb dX5_mayShift_18 rfl (lv_at hl 2 rfl) ?_
        refine gz_imul hx hb dX5_mayShift_19 ?_
        refine lv_iload_n hx hb dX5_mayShift_20 rfl (lv_at hl 0 rfl) ?_
        refine gz_iadd hx hb dX5_mayShift_21 ?_
        refine gz_iald hx hb hX m1 (24 * i + k) (by omega) (by omega) (by omega) dX5_mayShift_22 ?_
        rw [d24 (stp S) (i := i) (k := k) (by omega)]
        refine lv_iload_n hx hb dX5_mayShift_23 rfl (lv_at hl 3 rfl) ?_
        refine gz_iadd hx hb dX5_mayShift_24 ?_
        refine lv_iconst (v := zI 0) hx hb dX5_mayShift_25 rfl ?_
        refine lv_bipush (v := zI 60) hx hb dX5_mayShift_26 (by decide +kernel) ?_
        refine g_goi (vx_runS (As := [.int (zI ((stp S i k) + d)), .int (zI 0), .int (zI 60)]) (rest := []) ⟨hx, hb, hml, hown, hts⟩ (m_in_t l G H ((stp S i k) + d) 0 60 ⟨by omega, by omega⟩ (by decide) (by decide) (hall k (by omega))) (va_cwS 3 hts gX5_mayShift_X5_in rfl rfl rfl hd_X5_in.2 ⟨(Nat.le_of_ble_eq_true rfl), (Nat.le_of_ble_eq_true rfl)⟩) (g_pre hX hS) rfl rfl hl.1 rfl (lv_room (Nat.le_of_ble_eq_true rfl)) dX5_mayShift_28 ⟨(Nat.le_of_ble_eq_true rfl), (Nat.le_of_ble_eq_true rfl)⟩) hS (fun r_28 H_28 locs hp hS => ?_)
        obtain ⟨rfl, rfl⟩ := hp
        refine gz_if_ne (tgt := 36) hx hb (by decide) dX5_mayShift_31 (by decide) (fun c_31 => ?_) (fun c_31 => ?_)
        · refine lv_iinc (v := zI (y + 1)) (lv' := [(3, .int (zI (y + 1))), (0, .ref (B 0)), (1, .int (zI z)), (2, .int (zI d))]) hx hb dX5_mayShift_36 hl (k := 0) rfl (zI_add _ _) (by decide) rfl (fun ls hl => ?_)
          refine lv_goto (tgt := 2) hx hb dX5_mayShift_39 (by decide) ?_
          exact ih_2 (y + 1) (k + 1) _ (by omega) (by omega) (by omega) hS ls (lv_sub hl [0, 1, 2, 3] rfl)
        · omega
  exact loop_2 _ 0 0 _ (Nat.lt_succ_self _) rfl (Nat.zero_le _) hS ls (lv_sub hl [0, 1, 2, 3] rfl)
set_option maxHeartbeats 4000000 in
set_option maxRecDepth 100000 in
theorem m_mayShift_f (l : Launch) (G : gG) (B : Nat → Nat) (S : cS) (th : Int) (ct : Nat → Int32) (H : Heap) (hM : Mod G B S th ct H) (hI : sInv S) (z : Int) (i : Nat) (hz : z = i) (hi : i < sn S) (d : Int) (hd0 : rI d) (hd : -60 ≤ d ∧ d ≤ 60) (q0 : Nat) (hq0 : q0 < stn S i) (hbad : ¬ (0 ≤ stp S i q0 + d ∧ stp S i q0 + d ≤ 60)) : gM l yX5_mayShift wsX5_mayShift rm_X5_mayShift [.ref (B 0), .int (zI z), .int (zI d)] G H (gi (fun r H1 => zI 0 = r ∧ H = H1)) (gNo) 0 0 := by
  obtain ⟨m0, m1, m2, m3, m4, m5, m6, m7, hB, gBs⟩ := id hM
  have hn16 : sn S ≤ 16 := hI.1
  have gB0 := gBs 0 (by omega)
  have gB1 := gBs 1 (by omega)
  have gB2 := gBs 2 (by omega)
  have gB3 := gBs 3 (by omega)
  have gB4 := gBs 4 (by omega)
  have gB5 := gBs 5 (by omega)
  have gB6 := gBs 6 (by omega)
  have gB7 := gBs 7 (by omega)
  have ht24 := (hI.2.1 i hi).2
  have ht1 := (hI.2.1 i hi).1
  refine g_start (cc := cX5_mayShift) (maxL := 4) (ret := (some .boolean)) (by decide +kernel) rfl (Nat.le_of_ble_eq_true rfl) ?_
  intro p e s m args below meth c F ls hl
  obtain ⟨hx, hb, hml, hr, hts, hown, hlocks, hxt, hH, hX, hin⟩ := F
  have hown : s.vm.findClass RX5 = some m.cls := hown
  have hS : va_S (gA G) s.heap H [] := by rw [hH]; exact va_S.rf
  have hl : lv_has ls 4 [(0, .ref (B 0)), (1, .int (zI z)), (2, .int (zI d))] := hl
  refine lv_iconst (v := zI 0) hx hb dX5_mayShift_0 rfl ?_
  refine lv_istore_n (lv' := [(3, .int (zI 0)), (0, .ref (B 0)), (1, .int (zI z)), (2, .int (zI d))]) hx hb dX5_mayShift_1 rfl hl (by decide) rfl (fun ls hl => ?_)
  have loop_2 : ∀ (M_ : Nat) (y : Int) (k : Nat) (locs : List Loc), stn S i - k < M_ → (y = k) → (k ≤ q0) → va_S (gA G) s.heap H locs → ∀ (ls : Array Slot), lv_has ls 4 [(3, .int (zI y)), (0, .ref (B 0)), (1, .int (zI z)), (2, .int (zI d))] → W p l e rm_X5_mayShift s m args below meth c H locs (0) (0) (vx_MQ below (gQ G (gi (fun r H1 => zI 0 = r ∧ H = H1))) (gXC G (gNo)) args s 0 0 (gA G)) (F0 m 2 ls []) := by
    intro M_
    induction M_ with
    | zero => intro y k locs_0 h_0; exact absurd h_0 (Nat.not_lt_zero _)
    | succ M_ ih_2 =>
      intro y k locs hM_2 hy hkn hS ls hl
      have hpk := hI.2.2.2.1 i k
      refine lv_iload_n hx hb dX5_mayShift_2 rfl (lv_at hl 0 rfl) ?_
      refine lv_aload_n hx hb dX5_mayShift_3 rfl (lv_at hl 1 rfl) ?_
      refine g_get hx hb hX hts (fun w h => (List.mem_cons_of_mem _ (List.mem_append_right _ h))) hown m0 rfl 4 (by decide) (hts (.fieldLink RX5 16 "TuneCatalogueModel" "sizes" "[I") (List.mem_cons_of_mem _ (List.mem_append_left _ (List.mem_of_getElem? (i := 0) rfl)))) rfl dX5_mayShift_4 ?_
      refine lv_iload_n hx hb dX5_mayShift_7 rfl (lv_at hl 2 rfl) ?_
      refine gz_iald hx hb hX m3 i (by omega) (by omega) (by omega) dX5_mayShift_8 ?_
      refine gz_icmp_ge (tgt := 42) hx hb ⟨by omega, by omega⟩ ⟨by omega, by omega⟩ dX5_mayShift_9 (by decide) (fun c_9 => ?_) (fun c_9 => ?_)
      · omega
      · refine lv_aload_n hx hb dX5_mayShift_12 rfl (lv_at hl 1 rfl) ?_
        refine g_get hx hb hX hts (fun w h => (List.mem_cons_of_mem _ (List.mem_append_right _ h))) hown m0 rfl 2 (by decide) (hts (.fieldLink RX5 7 "TuneCatalogueModel" "pitches" "[I") (List.mem_cons_of_mem _ (List.mem_append_left _ (List.mem_of_getElem? (i := 1) rfl)))) rfl dX5_mayShift_13 ?_
        refine lv_bipush (v := zI 24) hx hb dX5_mayShift_16 (by decide +kernel) ?_
        refine lv_iload_n hx hb dX5_mayShift_18 rfl (lv_at hl 2 rfl) ?_
        refine gz_imul hx hb dX5_mayShift_19 ?_
        refine lv_iload_n hx hb dX5_mayShift_20 rfl (lv_at hl 0 rfl) ?_
        refine gz_iadd hx hb dX5_mayShift_21 ?_
        refine gz_iald hx hb hX m1 (24 * i + k) (by omega) (by omega) (by omega) dX5_mayShift_22 ?_
        rw [d24 (stp S) (i := i) (k := k) (by omega)]
        refine lv_iload_n hx hb dX5_mayShift_23 rfl (lv_at hl 3 rfl) ?_
        refine gz_iadd hx hb dX5_mayShift_24 ?_
        refine lv_iconst (v := zI 0) hx hb dX5_mayShift_25 rfl ?_
        refine lv_bipush (v := zI 60) hx hb dX5_mayShift_26 (by decide +kernel) ?_
        refine g_goi (vx_runS (As := [.int (zI ((stp S i k) + d)), .int (zI 0), .int (zI 60)]) (rest := []) ⟨hx, hb, hml, hown, hts⟩ (m_in l G H ((stp S i k) + d) 0 60 ⟨by omega, by omega⟩ (by decide) (by decide)) (va_cwS 3 hts gX5_mayShift_X5_in rfl rfl rfl hd_X5_in.2 ⟨(Nat.le_of_ble_eq_true rfl), (Nat.le_of_ble_eq_true rfl)⟩) (g_pre hX hS) rfl rfl hl.1 rfl (lv_room (Nat.le_of_ble_eq_true rfl)) dX5_mayShift_28 ⟨(Nat.le_of_ble_eq_true rfl), (Nat.le_of_ble_eq_true rfl)⟩) hS (fun r_28 H_28 locs hp hS => ?_)
        obtain ⟨rfl, rfl⟩ := hp
        refine gz_if_ne (tgt := 36) hx hb (by split <;> decide) dX5_mayShift_31 (by decide) (fun c_31 => ?_) (fun c_31 => ?_)
        · refine lv_iinc (v := zI (y + 1)) (lv' := [(3, .int (zI (y + 1))), (0, .ref (B 0)), (1, .int (zI z)), (2, .int (zI d))]) hx hb dX5_mayShift_36 hl (k := 0) rfl (zI_add _ _) (by decide) rfl (fun ls hl => ?_)
          refine lv_goto (tgt := 2) hx hb dX5_mayShift_39 (by decide) ?_
          exact ih_2 (y + 1) (k + 1) _ (by omega) (by omega) (by rcases Nat.lt_or_ge k q0 with g | g; omega; exact absurd (by rw [if_neg (by rw [show k = q0 by omega]; exact hbad)]) c_31) hS ls (lv_sub hl [0, 1, 2, 3] rfl)
        · refine lv_iconst (v := zI 0) hx hb dX5_mayShift_34 rfl ?_
          exact g_reti hx hb hr hlocks hS rfl (⟨rfl, rfl⟩) (Nat.le_of_ble_eq_true rfl) (Nat.le_of_ble_eq_true rfl) dX5_mayShift_35
  exact loop_2 _ 0 0 _ (Nat.lt_succ_self _) rfl (Nat.zero_le _) hS ls (lv_sub hl [0, 1, 2, 3] rfl)
theorem shF_up (S : cS) (i : Nat) (d : Int) (m : Nat) : up2 (shF S i d m) i m (stp S i m + d) = shF S i d (m + 1) := by
  funext a b
  unfold up2 shF
  by_cases h : a = i ∧ b = m
  · rw [if_pos h, if_pos ⟨h.1, by omega⟩, h.1, h.2]
  · rw [if_neg h]
    by_cases g : a = i ∧ b < m
    · rw [if_pos g, if_pos ⟨g.1, by omega⟩]
    · rw [if_neg g, if_neg (fun q => by rcases Nat.lt_or_ge b m with x | x; exact g ⟨q.1, x⟩; exact h ⟨q.1, by omega⟩)]
theorem shF_m (S : cS) (i : Nat) (d : Int) (m : Nat) : shF S i d m i m = stp S i m := if_neg (fun q => Nat.lt_irrefl _ q.2)
set_option maxHeartbeats 4000000 in
set_option maxRecDepth 100000 in
theorem m_shift_ok (l : Launch) (G : gG) (B : Nat → Nat) (S : cS) (th : Int) (ct : Nat → Int32) (H : Heap) (hM : Mod G B S th ct H) (hI : sInv S) (z : Int) (i : Nat) (hz : z = i) (hi : i < sn S) (hk : srt S i = false) (d : Int) (hd0 : rI d) (hd : -60 ≤ d ∧ d ≤ 60) (hall : ∀ k, k < stn S i → 0 ≤ stp S i k + d ∧ stp S i k + d ≤ 60) : gM l yX5_shift wsX5_shift rm_X5_shift [.ref (B 0), .int (zI z), .int (zI d)] G H (gv (fun H1 => MP G B (sShift S i d) 0 H H1)) (gNo) 0 0 := by
  obtain ⟨m0, m1, m2, m3, m4, m5, m6, m7, hB, gBs⟩ := id hM
  have hn16 : sn S ≤ 16 := hI.1
  have gB0 := gBs 0 (by omega)
  have gB1 := gBs 1 (by omega)
  have gB2 := gBs 2 (by omega)
  have gB3 := gBs 3 (by omega)
  have gB4 := gBs 4 (by omega)
  have gB5 := gBs 5 (by omega)
  have gB6 := gBs 6 (by omega)
  have gB7 := gBs 7 (by omega)
  have hK : gKp (oB B) H H := gKp.rf _ _
  have ht24 := (hI.2.1 i hi).2
  have ht1 := (hI.2.1 i hi).1
  refine g_start (cc := cX5_shift) (maxL := 4) (ret := none) (by decide +kernel) rfl (Nat.le_of_ble_eq_true rfl) ?_
  intro p e s m args below meth c F ls hl
  obtain ⟨hx, hb, hml, hr, hts, hown, hlocks, hxt, hH, hX, hin⟩ := F
  have hown : s.vm.findClass RX5 = some m.cls := hown
  have hS : va_S (gA G) s.heap H [] := by rw [hH]; exact va_S.rf
  have hl : lv_has ls 4 [(0, .ref (B 0)), (1, .int (zI z)), (2, .int (zI d))] := hl
  refine lv_aload_n hx hb dX5_shift_0 rfl (lv_at hl 0 rfl) ?_
  refine lv_aload_n hx hb dX5_shift_1 rfl (lv_at hl 0 rfl) ?_
  refine lv_iload_n hx hb dX5_shift_2 rfl (lv_at hl 1 rfl) ?_
  refine g_goi (vx_runV (As := [.int (zI z)]) (rest := [.ref (B 0)]) ⟨hx, hb, hml, hown, hts⟩ (m_isKnown_t l G B S th ct H hM hI z i hz hi hk) (cwV 1 hts gX5_shift_X5_isKnown rfl rfl rfl hd_X5_isKnown ⟨(Nat.le_of_ble_eq_true rfl), (Nat.le_of_ble_eq_true rfl)⟩) (g_preV hX hS (ci := 5) rfl m0) rfl rfl hl.1 rfl (lv_room (Nat.le_of_ble_eq_true rfl)) dX5_shift_3 ⟨(Nat.le_of_ble_eq_true rfl), (Nat.le_of_ble_eq_true rfl)⟩) hS (fun r_3 H_3 locs hp hS => ?_)
  obtain ⟨rfl, rfl⟩ := hp
  refine gz_if_ne (tgt := 13) hx hb (by decide) dX5_shift_6 (by decide) (fun c_6 => ?_) (fun c_6 => ?_)
  · refine lv_iload_n hx hb dX5_shift_13 rfl (lv_at hl 2 rfl) ?_
    refine lv_bipush (v := zI (-60)) hx hb dX5_shift_14 (by decide +kernel) ?_
    refine lv_bipush (v := zI 60) hx hb dX5_shift_16 (by decide +kernel) ?_
    refine g_goi (vx_runS (As := [.int (zI d), .int (zI (-60)), .int (zI 60)]) (rest := [.ref (B 0)]) ⟨hx, hb, hml, hown, hts⟩ (m_in_t l G H d (-60) 60 (by first | assumption | exact ⟨by omega, by omega⟩) ⟨by omega, by omega⟩ ⟨by omega, by omega⟩ (by omega)) (va_cwS 3 hts gX5_shift_X5_in rfl rfl rfl hd_X5_in.2 ⟨(Nat.le_of_ble_eq_true rfl), (Nat.le_of_ble_eq_true rfl)⟩) (g_pre hX hS) rfl rfl hl.1 rfl (lv_room (Nat.le_of_ble_eq_true rfl)) dX5_shift_18 ⟨(Nat.le_of_ble_eq_true rfl), (Nat.le_of_ble_eq_true rfl)⟩) hS (fun r_18 H_18 locs hp hS => ?_)
    obtain ⟨rfl, rfl⟩ := hp
    refine gz_if_ne (tgt := 28) hx hb (by decide) dX5_shift_21 (by decide) (fun c_21 => ?_) (fun c_21 => ?_)
    · refine lv_aload_n hx hb dX5_shift_28 rfl (lv_at hl 0 rfl) ?_
      refine lv_iload_n hx hb dX5_shift_29 rfl (lv_at hl 1 rfl) ?_
      refine lv_iload_n hx hb dX5_shift_30 rfl (lv_at hl 2 rfl) ?_
      refine g_goi (vx_runV (As := [.int (zI z), .int (zI d)]) (rest := [.ref (B 0)]) ⟨hx, hb, hml, hown, hts⟩ (m_mayShift_t l G B S th ct H hM hI z i (by omega) hi d hd0 hd hall) (cwV 2 hts gX5_shift_X5_mayShift rfl rfl rfl hd_X5_mayShift ⟨(Nat.le_of_ble_eq_true rfl), (Nat.le_of_ble_eq_true rfl)⟩) (g_preV hX hS (ci := 5) rfl m0) rfl rfl hl.1 rfl (lv_room (Nat.le_of_ble_eq_true rfl)) dX5_shift_31 ⟨(Nat.le_of_ble_eq_true rfl), (Nat.le_of_ble_eq_true rfl)⟩) hS (fun r_31 H_31 locs hp hS => ?_)
      obtain ⟨rfl, rfl⟩ := hp
      refine gz_if_eq (tgt := 41) hx hb (by decide) dX5_shift_34 (by decide) (fun c_34 => ?_) (fun c_34 => ?_)
      · omega
      · refine lv_iconst (v := zI 0) hx hb dX5_shift_37 rfl ?_
        refine lv_goto (tgt := 42) hx hb dX5_shift_38 (by decide) ?_
        refine g_goi (vx_runV (As := [.int (zI 0)]) (rest := []) ⟨hx, hb, hml, hown, hts⟩ (m_holds_0 l G B S th ct H hM hI 0 rfl) (cwV 1 hts gX5_shift_X5_holds rfl rfl rfl hd_X5_holds ⟨(Nat.le_of_ble_eq_true rfl), (Nat.le_of_ble_eq_true rfl)⟩) (g_preV hX hS (ci := 5) rfl m0) rfl rfl hl.1 rfl (lv_room (Nat.le_of_ble_eq_true rfl)) dX5_shift_42 ⟨(Nat.le_of_ble_eq_true rfl), (Nat.le_of_ble_eq_true rfl)⟩) hS (fun r_42 H_42 locs hp hS => ?_)
        obtain ⟨rfl, hM, hOh⟩ := hp
        obtain ⟨m0, m1, m2, m3, m4, m5, m6, m7, hB, gBs⟩ := id hM
        have hK := hK.trans (hOh.kp1 (oB.k (k := 0) (by omega)))
        refine gz_if_eq (tgt := 81) hx hb (by decide) dX5_shift_45 (by decide) (fun c_45 => ?_) (fun c_45 => ?_)
        · omega
        · refine lv_iconst (v := zI 0) hx hb dX5_shift_48 rfl ?_
          refine lv_istore_n (lv' := [(3, .int (zI 0)), (0, .ref (B 0)), (1, .int (zI z)), (2, .int (zI d))]) hx hb dX5_shift_49 rfl hl (by decide) rfl (fun ls hl => ?_)
          have loop_50 : ∀ (M_ : Nat) (y : Int) (k : Nat) (H_L50 : Heap) (locs : List Loc), stn S i - k < M_ → (y = k) → (k ≤ stn S i) → (gat G (B 0) (.inr (5, [.int (zI 0), .int (zI (sn S : Int)), .ref (B 1), .ref (B 2), .ref (B 3), .ref (B 4), .ref (B 5), .int (zI (shn S : Int)), .int (zI (ssl S)), .int (zI (sor S)), .int (zI (srp S)), .ref (B 6), .ref (B 7)])) H_L50) → (gat G (B 1) (.inl (gI G, 384, .inl (fun j => zI (shF S i d k (j / 24) (j % 24))))) H_L50) → (gat G (B 2) (.inl (gI G, 384, .inl (fun j => zI (stl S (j / 24) (j % 24))))) H_L50) → (gat G (B 3) (.inl (gI G, 16, .inl (fun j => zI ((stn S j : Nat) : Int)))) H_L50) → (gat G (B 4) (.inl (gZ G, 16, .inl (fun j => zI (zB (srt S j))))) H_L50) → (gat G (B 5) (.inl (gI G, 12, .inl (fun j => zI (shf S j)))) H_L50) → (gat G (B 6) (.inl (gI G, 288, .inl ct)) H_L50) → (gat G (B 7) (.inl (gI G, 16, .inl (fun j => zI ((slk S j : Nat) : Int)))) H_L50) → (gKp (oB B) H H_L50) → va_S (gA G) s.heap H_L50 locs → ∀ (ls : Array Slot), lv_has ls 4 [(3, .int (zI y)), (0, .ref (B 0)), (1, .int (zI z)), (2, .int (zI d))] → W p l e rm_X5_shift s m args below meth c H_L50 locs (0) (0) (vx_MQ below (gQ G (gv (fun H1 => MP G B (sShift S i d) 0 H H1))) (gXC G (gNo)) args s 0 0 (gA G)) (F0 m 50 ls []) := by
            intro M_
            induction M_ with
            | zero => intro y k H_0 locs_0 h_0; exact absurd h_0 (Nat.not_lt_zero _)
            | succ M_ ih_50 =>
              intro y k H_L50 locs hM_50 hy hkn m0 m1 m2 m3 m4 m5 m6 m7 hK hS ls hl
              have hpk := hI.2.2.2.1 i k
              refine lv_iload_n hx hb dX5_shift_50 rfl (lv_at hl 0 rfl) ?_
              refine lv_aload_n hx hb dX5_shift_51 rfl (lv_at hl 1 rfl) ?_
              refine g_get hx hb hX hts (fun w h => (List.mem_cons_of_mem _ (List.mem_append_right _ h))) hown m0 rfl 4 (by decide) (hts (.fieldLink RX5 16 "TuneCatalogueModel" "sizes" "[I") (List.mem_cons_of_mem _ (List.mem_append_left _ (List.mem_append_left _ (List.mem_of_getElem? (i := 0) rfl))))) rfl dX5_shift_52 ?_
              refine lv_iload_n hx hb dX5_shift_55 rfl (lv_at hl 2 rfl) ?_
              refine gz_iald hx hb hX m3 i (by omega) (by omega) (by omega) dX5_shift_56 ?_
              refine gz_icmp_ge (tgt := 81) hx hb ⟨by omega, by omega⟩ ⟨by omega, by omega⟩ dX5_shift_57 (by decide) (fun c_57 => ?_) (fun c_57 => ?_)
              · have hkk : k = stn S i := by omega
                subst hkk
                exact g_retv hx hb hr hlocks hS (⟨⟨ct, ⟨m0, m1, m2, m3, m4, m5, m6, m7, hB, gBs⟩⟩, hK⟩) (Nat.le_of_ble_eq_true rfl) (Nat.le_of_ble_eq_true rfl) dX5_shift_81
              · refine lv_aload_n hx hb dX5_shift_60 rfl (lv_at hl 1 rfl) ?_
                refine g_get hx hb hX hts (fun w h => (List.mem_cons_of_mem _ (List.mem_append_right _ h))) hown m0 rfl 2 (by decide) (hts (.fieldLink RX5 7 "TuneCatalogueModel" "pitches" "[I") (List.mem_cons_of_mem _ (List.mem_append_left _ (List.mem_append_left _ (List.mem_of_getElem? (i := 1) rfl))))) rfl dX5_shift_61 ?_
                refine lv_bipush (v := zI 24) hx hb dX5_shift_64 (by decide +kernel) ?_
                refine lv_iload_n hx hb dX5_shift_66 rfl (lv_at hl 2 rfl) ?_
                refine gz_imul hx hb dX5_shift_67 ?_
                refine lv_iload_n hx hb dX5_shift_68 rfl (lv_at hl 0 rfl) ?_
                refine gz_iadd hx hb dX5_shift_69 ?_
                refine lv_dup2_11 hx hb dX5_shift_70 rfl rfl ?_
                refine gz_iald hx hb hX m1 (24 * i + k) (by omega) (by omega) (by omega) dX5_shift_71 ?_
                rw [d24 (shF S i d k) (i := i) (k := k) (by omega), shF_m]
                refine lv_iload_n hx hb dX5_shift_72 rfl (lv_at hl 3 rfl) ?_
                refine gz_iadd hx hb dX5_shift_73 ?_
                refine gz_iast hx hb hX hS m1 gB1 (24 * i + k) (by omega) (by omega) (by omega) dX5_shift_74 (fun H_74 locs h_n hO hS => ?_)
                rw [zup2 _ _ _ _ (by omega), shF_up] at h_n
                have m0 := gat.only1 m0 hO (hB 0 1 (by omega) (by omega) (by omega))
                have m2 := gat.only1 m2 hO (hB 2 1 (by omega) (by omega) (by omega))
                have m3 := gat.only1 m3 hO (hB 3 1 (by omega) (by omega) (by omega))
                have m4 := gat.only1 m4 hO (hB 4 1 (by omega) (by omega) (by omega))
                have m5 := gat.only1 m5 hO (hB 5 1 (by omega) (by omega) (by omega))
                have m6 := gat.only1 m6 hO (hB 6 1 (by omega) (by omega) (by omega))
                have m7 := gat.only1 m7 hO (hB 7 1 (by omega) (by omega) (by omega))
                have m1 : gat G (B 1) (.inl (gI G, 384, .inl (fun j => zI (shF S i d (k + 1) (j / 24) (j % 24))))) H_74 := h_n
                have hK := hK.trans (hO.kp1 (oB.k (k := 1) (by omega)))
                refine lv_iinc (v := zI (y + 1)) (lv' := [(3, .int (zI (y + 1))), (0, .ref (B 0)), (1, .int (zI z)), (2, .int (zI d))]) hx hb dX5_shift_75 hl (k := 0) rfl (zI_add _ _) (by decide) rfl (fun ls hl => ?_)
                refine lv_goto (tgt := 50) hx hb dX5_shift_78 (by decide) ?_
                exact ih_50 (y + 1) (k + 1) H_74 _ (by omega) (by omega) (by omega) m0 m1 m2 m3 m4 m5 m6 m7 hK hS ls (lv_sub hl [0, 1, 2, 3] rfl)
          exact loop_50 _ 0 0 H_42 _ (Nat.lt_succ_self _) rfl (Nat.zero_le _) m0 (by rw [shF_0]; exact m1) m2 m3 m4 m5 m6 m7 hK hS ls (lv_sub hl [0, 1, 2, 3] rfl)
    · omega
  · omega
set_option maxHeartbeats 4000000 in
set_option maxRecDepth 100000 in
theorem m_shift_e1 (l : Launch) (G : gG) (B : Nat → Nat) (S : cS) (th : Int) (ct : Nat → Int32) (H : Heap) (hM : Mod G B S th ct H) (hI : sInv S) (z : Int) (hz : rI z) (hi : ¬ kwn S z) (d : Int) : gM l yX5_shift wsX5_shift rm_X5_shift [.ref (B 0), .int (zI z), .int (zI d)] G H (gv (fun H1 => MP G B S 1 H H1)) (gNo) 0 0 := by
  obtain ⟨m0, m1, m2, m3, m4, m5, m6, m7, hB, gBs⟩ := id hM
  have hn16 : sn S ≤ 16 := hI.1
  have gB0 := gBs 0 (by omega)
  have gB1 := gBs 1 (by omega)
  have gB2 := gBs 2 (by omega)
  have gB3 := gBs 3 (by omega)
  have gB4 := gBs 4 (by omega)
  have gB5 := gBs 5 (by omega)
  have gB6 := gBs 6 (by omega)
  have gB7 := gBs 7 (by omega)
  have hK : gKp (oB B) H H := gKp.rf _ _
  refine g_start (cc := cX5_shift) (maxL := 4) (ret := none) (by decide +kernel) rfl (Nat.le_of_ble_eq_true rfl) ?_
  intro p e s m args below meth c F ls hl
  obtain ⟨hx, hb, hml, hr, hts, hown, hlocks, hxt, hH, hX, hin⟩ := F
  have hown : s.vm.findClass RX5 = some m.cls := hown
  have hS : va_S (gA G) s.heap H [] := by rw [hH]; exact va_S.rf
  have hl : lv_has ls 4 [(0, .ref (B 0)), (1, .int (zI z)), (2, .int (zI d))] := hl
  refine lv_aload_n hx hb dX5_shift_0 rfl (lv_at hl 0 rfl) ?_
  refine lv_aload_n hx hb dX5_shift_1 rfl (lv_at hl 0 rfl) ?_
  refine lv_iload_n hx hb dX5_shift_2 rfl (lv_at hl 1 rfl) ?_
  refine g_goi (vx_runV (As := [.int (zI z)]) (rest := [.ref (B 0)]) ⟨hx, hb, hml, hown, hts⟩ (m_isKnown_f l G B S th ct H hM hI z hz hi) (cwV 1 hts gX5_shift_X5_isKnown rfl rfl rfl hd_X5_isKnown ⟨(Nat.le_of_ble_eq_true rfl), (Nat.le_of_ble_eq_true rfl)⟩) (g_preV hX hS (ci := 5) rfl m0) rfl rfl hl.1 rfl (lv_room (Nat.le_of_ble_eq_true rfl)) dX5_shift_3 ⟨(Nat.le_of_ble_eq_true rfl), (Nat.le_of_ble_eq_true rfl)⟩) hS (fun r_3 H_3 locs hp hS => ?_)
  obtain ⟨rfl, rfl⟩ := hp
  refine gz_if_ne (tgt := 13) hx hb (by decide) dX5_shift_6 (by decide) (fun c_6 => ?_) (fun c_6 => ?_)
  · omega
  · refine lv_iconst (v := zI 1) hx hb dX5_shift_9 rfl ?_
    refine lv_goto (tgt := 42) hx hb dX5_shift_10 (by decide) ?_
    refine g_goi (vx_runV (As := [.int (zI 1)]) (rest := []) ⟨hx, hb, hml, hown, hts⟩ (m_holds_k l G B S th ct H hM hI 1 (by decide) (by decide)) (cwV 1 hts gX5_shift_X5_holds rfl rfl rfl hd_X5_holds ⟨(Nat.le_of_ble_eq_true rfl), (Nat.le_of_ble_eq_true rfl)⟩) (g_preV hX hS (ci := 5) rfl m0) rfl rfl hl.1 rfl (lv_room (Nat.le_of_ble_eq_true rfl)) dX5_shift_42 ⟨(Nat.le_of_ble_eq_true rfl), (Nat.le_of_ble_eq_true rfl)⟩) hS (fun r_42 H_42 locs hp hS => ?_)
    obtain ⟨rfl, hM, hOh⟩ := hp
    obtain ⟨m0, m1, m2, m3, m4, m5, m6, m7, hB, gBs⟩ := id hM
    have hK := hK.trans (hOh.kp1 (oB.k (k := 0) (by omega)))
    refine gz_if_eq (tgt := 81) hx hb (by decide) dX5_shift_45 (by decide) (fun c_45 => ?_) (fun c_45 => ?_)
    · exact g_retv hx hb hr hlocks hS (⟨⟨ct, ⟨m0, m1, m2, m3, m4, m5, m6, m7, hB, gBs⟩⟩, hK⟩) (Nat.le_of_ble_eq_true rfl) (Nat.le_of_ble_eq_true rfl) dX5_shift_81
    · omega
set_option maxHeartbeats 4000000 in
set_option maxRecDepth 100000 in
theorem m_shift_e2 (l : Launch) (G : gG) (B : Nat → Nat) (S : cS) (th : Int) (ct : Nat → Int32) (H : Heap) (hM : Mod G B S th ct H) (hI : sInv S) (z : Int) (i : Nat) (hz : z = i) (hi : i < sn S) (hk : srt S i = false) (d : Int) (hd0 : rI d) (hd : ¬ (-60 ≤ d ∧ d ≤ 60)) : gM l yX5_shift wsX5_shift rm_X5_shift [.ref (B 0), .int (zI z), .int (zI d)] G H (gv (fun H1 => MP G B S 2 H H1)) (gNo) 0 0 := by
  obtain ⟨m0, m1, m2, m3, m4, m5, m6, m7, hB, gBs⟩ := id hM
  have hn16 : sn S ≤ 16 := hI.1
  have gB0 := gBs 0 (by omega)
  have gB1 := gBs 1 (by omega)
  have gB2 := gBs 2 (by omega)
  have gB3 := gBs 3 (by omega)
  have gB4 := gBs 4 (by omega)
  have gB5 := gBs 5 (by omega)
  have gB6 := gBs 6 (by omega)
  have gB7 := gBs 7 (by omega)
  have hK : gKp (oB B) H H := gKp.rf _ _
  refine g_start (cc := cX5_shift) (maxL := 4) (ret := none) (by decide +kernel) rfl (Nat.le_of_ble_eq_true rfl) ?_
  intro p e s m args below meth c F ls hl
  obtain ⟨hx, hb, hml, hr, hts, hown, hlocks, hxt, hH, hX, hin⟩ := F
  have hown : s.vm.findClass RX5 = some m.cls := hown
  have hS : va_S (gA G) s.heap H [] := by rw [hH]; exact va_S.rf
  have hl : lv_has ls 4 [(0, .ref (B 0)), (1, .int (zI z)), (2, .int (zI d))] := hl
  refine lv_aload_n hx hb dX5_shift_0 rfl (lv_at hl 0 rfl) ?_
  refine lv_aload_n hx hb dX5_shift_1 rfl (lv_at hl 0 rfl) ?_
  refine lv_iload_n hx hb dX5_shift_2 rfl (lv_at hl 1 rfl) ?_
  refine g_goi (vx_runV (As := [.int (zI z)]) (rest := [.ref (B 0)]) ⟨hx, hb, hml, hown, hts⟩ (m_isKnown_t l G B S th ct H hM hI z i hz hi hk) (cwV 1 hts gX5_shift_X5_isKnown rfl rfl rfl hd_X5_isKnown ⟨(Nat.le_of_ble_eq_true rfl), (Nat.le_of_ble_eq_true rfl)⟩) (g_preV hX hS (ci := 5) rfl m0) rfl rfl hl.1 rfl (lv_room (Nat.le_of_ble_eq_true rfl)) dX5_shift_3 ⟨(Nat.le_of_ble_eq_true rfl), (Nat.le_of_ble_eq_true rfl)⟩) hS (fun r_3 H_3 locs hp hS => ?_)
  obtain ⟨rfl, rfl⟩ := hp
  refine gz_if_ne (tgt := 13) hx hb (by decide) dX5_shift_6 (by decide) (fun c_6 => ?_) (fun c_6 => ?_)
  · refine lv_iload_n hx hb dX5_shift_13 rfl (lv_at hl 2 rfl) ?_
    refine lv_bipush (v := zI (-60)) hx hb dX5_shift_14 (by decide +kernel) ?_
    refine lv_bipush (v := zI 60) hx hb dX5_shift_16 (by decide +kernel) ?_
    refine g_goi (vx_runS (As := [.int (zI d), .int (zI (-60)), .int (zI 60)]) (rest := [.ref (B 0)]) ⟨hx, hb, hml, hown, hts⟩ (m_in_f l G H d (-60) 60 (by first | assumption | exact ⟨by omega, by omega⟩) ⟨by omega, by omega⟩ ⟨by omega, by omega⟩ (by omega)) (va_cwS 3 hts gX5_shift_X5_in rfl rfl rfl hd_X5_in.2 ⟨(Nat.le_of_ble_eq_true rfl), (Nat.le_of_ble_eq_true rfl)⟩) (g_pre hX hS) rfl rfl hl.1 rfl (lv_room (Nat.le_of_ble_eq_true rfl)) dX5_shift_18 ⟨(Nat.le_of_ble_eq_true rfl), (Nat.le_of_ble_eq_true rfl)⟩) hS (fun r_18 H_18 locs hp hS => ?_)
    obtain ⟨rfl, rfl⟩ := hp
    refine gz_if_ne (tgt := 28) hx hb (by decide) dX5_shift_21 (by decide) (fun c_21 => ?_) (fun c_21 => ?_)
    · omega
    · refine lv_iconst (v := zI 2) hx hb dX5_shift_24 rfl ?_
      refine lv_goto (tgt := 42) hx hb dX5_shift_25 (by decide) ?_
      refine g_goi (vx_runV (As := [.int (zI 2)]) (rest := []) ⟨hx, hb, hml, hown, hts⟩ (m_holds_k l G B S th ct H hM hI 2 (by decide) (by decide)) (cwV 1 hts gX5_shift_X5_holds rfl rfl rfl hd_X5_holds ⟨(Nat.le_of_ble_eq_true rfl), (Nat.le_of_ble_eq_true rfl)⟩) (g_preV hX hS (ci := 5) rfl m0) rfl rfl hl.1 rfl (lv_room (Nat.le_of_ble_eq_true rfl)) dX5_shift_42 ⟨(Nat.le_of_ble_eq_true rfl), (Nat.le_of_ble_eq_true rfl)⟩) hS (fun r_42 H_42 locs hp hS => ?_)
      obtain ⟨rfl, hM, hOh⟩ := hp
      obtain ⟨m0, m1, m2, m3, m4, m5, m6, m7, hB, gBs⟩ := id hM
      have hK := hK.trans (hOh.kp1 (oB.k (k := 0) (by omega)))
      refine gz_if_eq (tgt := 81) hx hb (by decide) dX5_shift_45 (by decide) (fun c_45 => ?_) (fun c_45 => ?_)
      · exact g_retv hx hb hr hlocks hS (⟨⟨ct, ⟨m0, m1, m2, m3, m4, m5, m6, m7, hB, gBs⟩⟩, hK⟩) (Nat.le_of_ble_eq_true rfl) (Nat.le_of_ble_eq_true rfl) dX5_shift_81
      · omega
  · omega
set_option maxHeartbeats 4000000 in
set_option maxRecDepth 100000 in
theorem m_shift_e3 (l : Launch) (G : gG) (B : Nat → Nat) (S : cS) (th : Int) (ct : Nat → Int32) (H : Heap) (hM : Mod G B S th ct H) (hI : sInv S) (z : Int) (i : Nat) (hz : z = i) (hi : i < sn S) (hk : srt S i = false) (d : Int) (hd0 : rI d) (hd : -60 ≤ d ∧ d ≤ 60) (q0 : Nat) (hq0 : q0 < stn S i) (hbad : ¬ (0 ≤ stp S i q0 + d ∧ stp S i q0 + d ≤ 60)) : gM l yX5_shift wsX5_shift rm_X5_shift [.ref (B 0), .int (zI z), .int (zI d)] G H (gv (fun H1 => MP G B S 3 H H1)) (gNo) 0 0 := by
  obtain ⟨m0, m1, m2, m3, m4, m5, m6, m7, hB, gBs⟩ := id hM
  have hn16 : sn S ≤ 16 := hI.1
  have gB0 := gBs 0 (by omega)
  have gB1 := gBs 1 (by omega)
  have gB2 := gBs 2 (by omega)
  have gB3 := gBs 3 (by omega)
  have gB4 := gBs 4 (by omega)
  have gB5 := gBs 5 (by omega)
  have gB6 := gBs 6 (by omega)
  have gB7 := gBs 7 (by omega)
  have hK : gKp (oB B) H H := gKp.rf _ _
  refine g_start (cc := cX5_shift) (maxL := 4) (ret := none) (by decide +kernel) rfl (Nat.le_of_ble_eq_true rfl) ?_
  intro p e s m args below meth c F ls hl
  obtain ⟨hx, hb, hml, hr, hts, hown, hlocks, hxt, hH, hX, hin⟩ := F
  have hown : s.vm.findClass RX5 = some m.cls := hown
  have hS : va_S (gA G) s.heap H [] := by rw [hH]; exact va_S.rf
  have hl : lv_has ls 4 [(0, .ref (B 0)), (1, .int (zI z)), (2, .int (zI d))] := hl
  refine lv_aload_n hx hb dX5_shift_0 rfl (lv_at hl 0 rfl) ?_
  refine lv_aload_n hx hb dX5_shift_1 rfl (lv_at hl 0 rfl) ?_
  refine lv_iload_n hx hb dX5_shift_2 rfl (lv_at hl 1 rfl) ?_
  refine g_goi (vx_runV (As := [.int (zI z)]) (rest := [.ref (B 0)]) ⟨hx, hb, hml, hown, hts⟩ (m_isKnown_t l G B S th ct H hM hI z i hz hi hk) (cwV 1 hts gX5_shift_X5_isKnown rfl rfl rfl hd_X5_isKnown ⟨(Nat.le_of_ble_eq_true rfl), (Nat.le_of_ble_eq_true rfl)⟩) (g_preV hX hS (ci := 5) rfl m0) rfl rfl hl.1 rfl (lv_room (Nat.le_of_ble_eq_true rfl)) dX5_shift_3 ⟨(Nat.le_of_ble_eq_true rfl), (Nat.le_of_ble_eq_true rfl)⟩) hS (fun r_3 H_3 locs hp hS => ?_)
  obtain ⟨rfl, rfl⟩ := hp
  refine gz_if_ne (tgt := 13) hx hb (by decide) dX5_shift_6 (by decide) (fun c_6 => ?_) (fun c_6 => ?_)
  · refine lv_iload_n hx hb dX5_shift_13 rfl (lv_at hl 2 rfl) ?_
    refine lv_bipush (v := zI (-60)) hx hb dX5_shift_14 (by decide +kernel) ?_
    refine lv_bipush (v := zI 60) hx hb dX5_shift_16 (by decide +kernel) ?_
    refine g_goi (vx_runS (As := [.int (zI d), .int (zI (-60)), .int (zI 60)]) (rest := [.ref (B 0)]) ⟨hx, hb, hml, hown, hts⟩ (m_in_t l G H d (-60) 60 (by first | assumption | exact ⟨by omega, by omega⟩) ⟨by omega, by omega⟩ ⟨by omega, by omega⟩ (by omega)) (va_cwS 3 hts gX5_shift_X5_in rfl rfl rfl hd_X5_in.2 ⟨(Nat.le_of_ble_eq_true rfl), (Nat.le_of_ble_eq_true rfl)⟩) (g_pre hX hS) rfl rfl hl.1 rfl (lv_room (Nat.le_of_ble_eq_true rfl)) dX5_shift_18 ⟨(Nat.le_of_ble_eq_true rfl), (Nat.le_of_ble_eq_true rfl)⟩) hS (fun r_18 H_18 locs hp hS => ?_)
    obtain ⟨rfl, rfl⟩ := hp
    refine gz_if_ne (tgt := 28) hx hb (by decide) dX5_shift_21 (by decide) (fun c_21 => ?_) (fun c_21 => ?_)
    · refine lv_aload_n hx hb dX5_shift_28 rfl (lv_at hl 0 rfl) ?_
      refine lv_iload_n hx hb dX5_shift_29 rfl (lv_at hl 1 rfl) ?_
      refine lv_iload_n hx hb dX5_shift_30 rfl (lv_at hl 2 rfl) ?_
      refine g_goi (vx_runV (As := [.int (zI z), .int (zI d)]) (rest := [.ref (B 0)]) ⟨hx, hb, hml, hown, hts⟩ (m_mayShift_f l G B S th ct H hM hI z i (by omega) hi d hd0 hd q0 hq0 hbad) (cwV 2 hts gX5_shift_X5_mayShift rfl rfl rfl hd_X5_mayShift ⟨(Nat.le_of_ble_eq_true rfl), (Nat.le_of_ble_eq_true rfl)⟩) (g_preV hX hS (ci := 5) rfl m0) rfl rfl hl.1 rfl (lv_room (Nat.le_of_ble_eq_true rfl)) dX5_shift_31 ⟨(Nat.le_of_ble_eq_true rfl), (Nat.le_of_ble_eq_true rfl)⟩) hS (fun r_31 H_31 locs hp hS => ?_)
      obtain ⟨rfl, rfl⟩ := hp
      refine gz_if_eq (tgt := 41) hx hb (by decide) dX5_shift_34 (by decide) (fun c_34 => ?_) (fun c_34 => ?_)
      · refine lv_iconst (v := zI 3) hx hb dX5_shift_41 rfl ?_
        refine g_goi (vx_runV (As := [.int (zI 3)]) (rest := []) ⟨hx, hb, hml, hown, hts⟩ (m_holds_k l G B S th ct H hM hI 3 (by decide) (by decide)) (cwV 1 hts gX5_shift_X5_holds rfl rfl rfl hd_X5_holds ⟨(Nat.le_of_ble_eq_true rfl), (Nat.le_of_ble_eq_true rfl)⟩) (g_preV hX hS (ci := 5) rfl m0) rfl rfl hl.1 rfl (lv_room (Nat.le_of_ble_eq_true rfl)) dX5_shift_42 ⟨(Nat.le_of_ble_eq_true rfl), (Nat.le_of_ble_eq_true rfl)⟩) hS (fun r_42 H_42 locs hp hS => ?_)
        obtain ⟨rfl, hM, hOh⟩ := hp
        obtain ⟨m0, m1, m2, m3, m4, m5, m6, m7, hB, gBs⟩ := id hM
        have hK := hK.trans (hOh.kp1 (oB.k (k := 0) (by omega)))
        refine gz_if_eq (tgt := 81) hx hb (by decide) dX5_shift_45 (by decide) (fun c_45 => ?_) (fun c_45 => ?_)
        · exact g_retv hx hb hr hlocks hS (⟨⟨ct, ⟨m0, m1, m2, m3, m4, m5, m6, m7, hB, gBs⟩⟩, hK⟩) (Nat.le_of_ble_eq_true rfl) (Nat.le_of_ble_eq_true rfl) dX5_shift_81
        · omega
      · omega
    · omega
  · omega
set_option maxHeartbeats 4000000 in
set_option maxRecDepth 100000 in
theorem m_retire_ok (l : Launch) (G : gG) (B : Nat → Nat) (S : cS) (th : Int) (ct : Nat → Int32) (H : Heap) (hM : Mod G B S th ct H) (hI : sInv S) (z : Int) (i : Nat) (hz : z = i) (hi : i < sn S) (hk : srt S i = false)  : gM l yX5_retire wsX5_retire rm_X5_retire [.ref (B 0), .int (zI z)] G H (gi (fun r H1 => zI ((ctB (fun j => !(srt (sRet S i) j)) (sn S) : Nat) : Int) = r ∧ MP G B (sRet S i) 0 H H1)) (gNo) 0 0 := by
  obtain ⟨m0, m1, m2, m3, m4, m5, m6, m7, hB, gBs⟩ := id hM
  have hn16 : sn S ≤ 16 := hI.1
  have gB0 := gBs 0 (by omega)
  have gB1 := gBs 1 (by omega)
  have gB2 := gBs 2 (by omega)
  have gB3 := gBs 3 (by omega)
  have gB4 := gBs 4 (by omega)
  have gB5 := gBs 5 (by omega)
  have gB6 := gBs 6 (by omega)
  have gB7 := gBs 7 (by omega)
  have hK : gKp (oB B) H H := gKp.rf _ _
  refine g_start (cc := cX5_retire) (maxL := 4) (ret := (some .int)) (by decide +kernel) rfl (Nat.le_of_ble_eq_true rfl) ?_
  intro p e s m args below meth c F ls hl
  obtain ⟨hx, hb, hml, hr, hts, hown, hlocks, hxt, hH, hX, hin⟩ := F
  have hown : s.vm.findClass RX5 = some m.cls := hown
  have hS : va_S (gA G) s.heap H [] := by rw [hH]; exact va_S.rf
  have hl : lv_has ls 4 [(0, .ref (B 0)), (1, .int (zI z))] := hl
  refine lv_aload_n hx hb dX5_retire_0 rfl (lv_at hl 0 rfl) ?_
  refine lv_aload_n hx hb dX5_retire_1 rfl (lv_at hl 0 rfl) ?_
  refine lv_iload_n hx hb dX5_retire_2 rfl (lv_at hl 1 rfl) ?_
  refine g_goi (vx_runV (As := [.int (zI z)]) (rest := [.ref (B 0)]) ⟨hx, hb, hml, hown, hts⟩ (m_isKnown_t l G B S th ct H hM hI z i hz hi hk) (cwV 1 hts gX5_retire_X5_isKnown rfl rfl rfl hd_X5_isKnown ⟨(Nat.le_of_ble_eq_true rfl), (Nat.le_of_ble_eq_true rfl)⟩) (g_preV hX hS (ci := 5) rfl m0) rfl rfl hl.1 rfl (lv_room (Nat.le_of_ble_eq_true rfl)) dX5_retire_3 ⟨(Nat.le_of_ble_eq_true rfl), (Nat.le_of_ble_eq_true rfl)⟩) hS (fun r_3 H_3 locs hp hS => ?_)
  obtain ⟨rfl, rfl⟩ := hp
  refine gz_if_eq (tgt := 13) hx hb (by decide) dX5_retire_6 (by decide) (fun c_6 => ?_) (fun c_6 => ?_)
  · omega
  · refine lv_iconst (v := zI 0) hx hb dX5_retire_9 rfl ?_
    refine lv_goto (tgt := 14) hx hb dX5_retire_10 (by decide) ?_
    refine g_goi (vx_runV (As := [.int (zI 0)]) (rest := []) ⟨hx, hb, hml, hown, hts⟩ (m_holds_0 l G B S th ct H hM hI 0 rfl) (cwV 1 hts gX5_retire_X5_holds rfl rfl rfl hd_X5_holds ⟨(Nat.le_of_ble_eq_true rfl), (Nat.le_of_ble_eq_true rfl)⟩) (g_preV hX hS (ci := 5) rfl m0) rfl rfl hl.1 rfl (lv_room (Nat.le_of_ble_eq_true rfl)) dX5_retire_14 ⟨(Nat.le_of_ble_eq_true rfl), (Nat.le_of_ble_eq_true rfl)⟩) hS (fun r_14 H_14 locs hp hS => ?_)
    obtain ⟨rfl, hM, hOh⟩ := hp
    obtain ⟨m0, m1, m2, m3, m4, m5, m6, m7, hB, gBs⟩ := id hM
    have hK := hK.trans (hOh.kp1 (oB.k (k := 0) (by omega)))
    refine gz_if_ne (tgt := 22) hx hb (by decide) dX5_retire_17 (by decide) (fun c_17 => ?_) (fun c_17 => ?_)
    · refine lv_aload_n hx hb dX5_retire_22 rfl (lv_at hl 0 rfl) ?_
      refine g_get hx hb hX hts (fun w h => (List.mem_cons_of_mem _ (List.mem_append_right _ h))) hown m0 rfl 5 (by decide) (hts (.fieldLink RX5 19 "TuneCatalogueModel" "areRetired" "[Z") (List.mem_cons_of_mem _ (List.mem_append_left _ (List.mem_of_getElem? (i := 0) rfl)))) rfl dX5_retire_23 ?_
      refine lv_iload_n hx hb dX5_retire_26 rfl (lv_at hl 1 rfl) ?_
      refine lv_iconst (v := zI 1) hx hb dX5_retire_27 rfl ?_
      refine gz_zast hx hb hX hS m4 gB4 i (by omega) (by omega) (by omega) vpz dX5_retire_28 (fun H_28 locs h_n hO hS => ?_)
      rw [show upd (fun j => zI (zB (srt S j))) i (zI 1) = fun j => zI (zB (va_up (srt S) i true j)) from by funext j; unfold upd va_up; split <;> rfl] at h_n
      have m0 := gat.only1 m0 hO (hB 0 4 (by omega) (by omega) (by omega))
      have m1 := gat.only1 m1 hO (hB 1 4 (by omega) (by omega) (by omega))
      have m2 := gat.only1 m2 hO (hB 2 4 (by omega) (by omega) (by omega))
      have m3 := gat.only1 m3 hO (hB 3 4 (by omega) (by omega) (by omega))
      have m5 := gat.only1 m5 hO (hB 5 4 (by omega) (by omega) (by omega))
      have m6 := gat.only1 m6 hO (hB 6 4 (by omega) (by omega) (by omega))
      have m7 := gat.only1 m7 hO (hB 7 4 (by omega) (by omega) (by omega))
      have m4 : gat G (B 4) (.inl (gZ G, 16, .inl (fun j => zI (zB (va_up (srt S) i true j))))) H_28 := h_n
      have hK := hK.trans (hO.kp1 (oB.k (k := 4) (by omega)))
      refine lv_iconst (v := zI 0) hx hb dX5_retire_29 rfl ?_
      refine lv_istore_n (lv' := [(2, .int (zI 0)), (0, .ref (B 0)), (1, .int (zI z))]) hx hb dX5_retire_30 rfl hl (by decide) rfl (fun ls hl => ?_)
      refine lv_iconst (v := zI 0) hx hb dX5_retire_31 rfl ?_
      refine lv_istore_n (lv' := [(3, .int (zI 0)), (2, .int (zI 0)), (0, .ref (B 0)), (1, .int (zI z))]) hx hb dX5_retire_32 rfl hl (by decide) rfl (fun ls hl => ?_)
      have loop_33 : ∀ (M_ : Nat) (y : Int) (k : Nat) (x : Int) (locs : List Loc), sn S - k < M_ → (y = k) → (k ≤ sn S) → (x = (ctB (fun j => !(srt (sRet S i) j)) k : Nat)) → va_S (gA G) s.heap H_28 locs → ∀ (ls : Array Slot), lv_has ls 4 [(3, .int (zI y)), (2, .int (zI x)), (0, .ref (B 0)), (1, .int (zI z))] → W p l e rm_X5_retire s m args below meth c H_28 locs (0) (0) (vx_MQ below (gQ G (gi (fun r H1 => zI ((ctB (fun j => !(srt (sRet S i) j)) (sn S) : Nat) : Int) = r ∧ MP G B (sRet S i) 0 H H1))) (gXC G (gNo)) args s 0 0 (gA G)) (F0 m 33 ls []) := by
        intro M_
        induction M_ with
        | zero => intro y k x locs_0 h_0; exact absurd h_0 (Nat.not_lt_zero _)
        | succ M_ ih_33 =>
          intro y k x locs hM_33 hy hkn hx1 hS ls hl
          have hcb := ctB_le (fun j => !(srt (sRet S i) j)) k
          refine lv_iload_n hx hb dX5_retire_33 rfl (lv_at hl 0 rfl) ?_
          refine lv_aload_n hx hb dX5_retire_34 rfl (lv_at hl 2 rfl) ?_
          refine g_get hx hb hX hts (fun w h => (List.mem_cons_of_mem _ (List.mem_append_right _ h))) hown m0 rfl 1 (by decide) (hts (.fieldLink RX5 45 "TuneCatalogueModel" "tunes" "I") (List.mem_cons_of_mem _ (List.mem_append_left _ (List.mem_of_getElem? (i := 1) rfl)))) rfl dX5_retire_35 ?_
          refine gz_icmp_ge (tgt := 64) hx hb ⟨by omega, by omega⟩ ⟨by omega, by omega⟩ dX5_retire_38 (by decide) (fun c_38 => ?_) (fun c_38 => ?_)
          · refine lv_iload_n hx hb dX5_retire_64 rfl (lv_at hl 1 rfl) ?_
            exact g_reti hx hb hr hlocks hS rfl (⟨by rw [hx1, show k = sn S by omega], ⟨ct, ⟨m0, m1, m2, m3, m4, m5, m6, m7, hB, gBs⟩⟩, hK⟩) (Nat.le_of_ble_eq_true rfl) (Nat.le_of_ble_eq_true rfl) dX5_retire_65
          · refine lv_iload_n hx hb dX5_retire_41 rfl (lv_at hl 1 rfl) ?_
            refine lv_aload_n hx hb dX5_retire_42 rfl (lv_at hl 2 rfl) ?_
            refine g_get hx hb hX hts (fun w h => (List.mem_cons_of_mem _ (List.mem_append_right _ h))) hown m0 rfl 5 (by decide) (hts (.fieldLink RX5 19 "TuneCatalogueModel" "areRetired" "[Z") (List.mem_cons_of_mem _ (List.mem_append_left _ (List.mem_of_getElem? (i := 0) rfl)))) rfl dX5_retire_43 ?_
            refine lv_iload_n hx hb dX5_retire_46 rfl (lv_at hl 0 rfl) ?_
            refine gz_zald hx hb hX m4 k (by omega) (by omega) (by omega) dX5_retire_47 ?_
            refine W.eq (g2 := F0 m 48 ls [.int (zI (zB (srt (sRet S i) k))), .int (zI x)]) rfl ?_
            refine gz_if_eq (tgt := 55) hx hb (by cases srt (sRet S i) k <;> decide) dX5_retire_48 (by decide) (fun c_48 => ?_) (fun c_48 => ?_)
            · refine lv_iconst (v := zI 1) hx hb dX5_retire_55 rfl ?_
              refine gz_iadd hx hb dX5_retire_56 ?_
              refine lv_istore_n (lv' := [(2, .int (zI (x + 1))), (3, .int (zI y)), (0, .ref (B 0)), (1, .int (zI z))]) hx hb dX5_retire_57 rfl hl (by decide) rfl (fun ls hl => ?_)
              have hx2 : x + 1 = (ctB (fun j => !(srt (sRet S i) j)) (k + 1) : Nat) := by
                rw [ctB]
                cases e : srt (sRet S i) k
                · rw [e] at c_48; first | exact absurd rfl c_48 | (rw [if_pos (by rfl)]; omega)
                · rw [e] at c_48; first | exact absurd c_48 (by decide) | (rw [if_neg (by decide)]; omega)
              refine lv_iinc (v := zI (y + 1)) (lv' := [(3, .int (zI (y + 1))), (2, .int (zI (x + 1))), (0, .ref (B 0)), (1, .int (zI z))]) hx hb dX5_retire_58 hl (k := 1) rfl (zI_add _ _) (by decide) rfl (fun ls hl => ?_)
              refine lv_goto (tgt := 33) hx hb dX5_retire_61 (by decide) ?_
              exact ih_33 (y + 1) (k + 1) (x + 1) _ (by omega) (by omega) (by omega) hx2 hS ls (lv_sub hl [0, 1, 2, 3] rfl)
            · refine lv_iconst (v := zI 0) hx hb dX5_retire_51 rfl ?_
              refine lv_goto (tgt := 56) hx hb dX5_retire_52 (by decide) ?_
              refine gz_iadd hx hb dX5_retire_56 ?_
              refine lv_istore_n (lv' := [(2, .int (zI (x + 0))), (3, .int (zI y)), (0, .ref (B 0)), (1, .int (zI z))]) hx hb dX5_retire_57 rfl hl (by decide) rfl (fun ls hl => ?_)
              have hx2 : x + 0 = (ctB (fun j => !(srt (sRet S i) j)) (k + 1) : Nat) := by
                rw [ctB]
                cases e : srt (sRet S i) k
                · rw [e] at c_48; first | exact absurd rfl c_48 | (rw [if_pos (by rfl)]; omega)
                · rw [e] at c_48; first | exact absurd c_48 (by decide) | (rw [if_neg (by decide)]; omega)
              refine lv_iinc (v := zI (y + 1)) (lv' := [(3, .int (zI (y + 1))), (2, .int (zI (x + 0))), (0, .ref (B 0)), (1, .int (zI z))]) hx hb dX5_retire_58 hl (k := 1) rfl (zI_add _ _) (by decide) rfl (fun ls hl => ?_)
              refine lv_goto (tgt := 33) hx hb dX5_retire_61 (by decide) ?_
              exact ih_33 (y + 1) (k + 1) (x + 0) _ (by omega) (by omega) (by omega) hx2 hS ls (lv_sub hl [0, 1, 2, 3] rfl)
      exact loop_33 _ 0 0 0 _ (Nat.lt_succ_self _) rfl (Nat.zero_le _) rfl hS ls (lv_sub hl [0, 1, 2, 3] rfl)
    · omega
set_option maxHeartbeats 4000000 in
set_option maxRecDepth 100000 in
theorem m_retire_e1 (l : Launch) (G : gG) (B : Nat → Nat) (S : cS) (th : Int) (ct : Nat → Int32) (H : Heap) (hM : Mod G B S th ct H) (hI : sInv S) (z : Int) (hz : rI z) (hi : ¬ kwn S z)  : gM l yX5_retire wsX5_retire rm_X5_retire [.ref (B 0), .int (zI z)] G H (gi (fun r H1 => zI 0 = r ∧ MP G B S 1 H H1)) (gNo) 0 0 := by
  obtain ⟨m0, m1, m2, m3, m4, m5, m6, m7, hB, gBs⟩ := id hM
  have hn16 : sn S ≤ 16 := hI.1
  have gB0 := gBs 0 (by omega)
  have gB1 := gBs 1 (by omega)
  have gB2 := gBs 2 (by omega)
  have gB3 := gBs 3 (by omega)
  have gB4 := gBs 4 (by omega)
  have gB5 := gBs 5 (by omega)
  have gB6 := gBs 6 (by omega)
  have gB7 := gBs 7 (by omega)
  have hK : gKp (oB B) H H := gKp.rf _ _
  refine g_start (cc := cX5_retire) (maxL := 4) (ret := (some .int)) (by decide +kernel) rfl (Nat.le_of_ble_eq_true rfl) ?_
  intro p e s m args below meth c F ls hl
  obtain ⟨hx, hb, hml, hr, hts, hown, hlocks, hxt, hH, hX, hin⟩ := F
  have hown : s.vm.findClass RX5 = some m.cls := hown
  have hS : va_S (gA G) s.heap H [] := by rw [hH]; exact va_S.rf
  have hl : lv_has ls 4 [(0, .ref (B 0)), (1, .int (zI z))] := hl
  refine lv_aload_n hx hb dX5_retire_0 rfl (lv_at hl 0 rfl) ?_
  refine lv_aload_n hx hb dX5_retire_1 rfl (lv_at hl 0 rfl) ?_
  refine lv_iload_n hx hb dX5_retire_2 rfl (lv_at hl 1 rfl) ?_
  refine g_goi (vx_runV (As := [.int (zI z)]) (rest := [.ref (B 0)]) ⟨hx, hb, hml, hown, hts⟩ (m_isKnown_f l G B S th ct H hM hI z hz hi) (cwV 1 hts gX5_retire_X5_isKnown rfl rfl rfl hd_X5_isKnown ⟨(Nat.le_of_ble_eq_true rfl), (Nat.le_of_ble_eq_true rfl)⟩) (g_preV hX hS (ci := 5) rfl m0) rfl rfl hl.1 rfl (lv_room (Nat.le_of_ble_eq_true rfl)) dX5_retire_3 ⟨(Nat.le_of_ble_eq_true rfl), (Nat.le_of_ble_eq_true rfl)⟩) hS (fun r_3 H_3 locs hp hS => ?_)
  obtain ⟨rfl, rfl⟩ := hp
  refine gz_if_eq (tgt := 13) hx hb (by decide) dX5_retire_6 (by decide) (fun c_6 => ?_) (fun c_6 => ?_)
  · refine lv_iconst (v := zI 1) hx hb dX5_retire_13 rfl ?_
    refine g_goi (vx_runV (As := [.int (zI 1)]) (rest := []) ⟨hx, hb, hml, hown, hts⟩ (m_holds_k l G B S th ct H hM hI 1 (by decide) (by decide)) (cwV 1 hts gX5_retire_X5_holds rfl rfl rfl hd_X5_holds ⟨(Nat.le_of_ble_eq_true rfl), (Nat.le_of_ble_eq_true rfl)⟩) (g_preV hX hS (ci := 5) rfl m0) rfl rfl hl.1 rfl (lv_room (Nat.le_of_ble_eq_true rfl)) dX5_retire_14 ⟨(Nat.le_of_ble_eq_true rfl), (Nat.le_of_ble_eq_true rfl)⟩) hS (fun r_14 H_14 locs hp hS => ?_)
    obtain ⟨rfl, hM, hOh⟩ := hp
    obtain ⟨m0, m1, m2, m3, m4, m5, m6, m7, hB, gBs⟩ := id hM
    have hK := hK.trans (hOh.kp1 (oB.k (k := 0) (by omega)))
    refine gz_if_ne (tgt := 22) hx hb (by decide) dX5_retire_17 (by decide) (fun c_17 => ?_) (fun c_17 => ?_)
    · omega
    · refine lv_iconst (v := zI 0) hx hb dX5_retire_20 rfl ?_
      exact g_reti hx hb hr hlocks hS rfl (⟨rfl, ⟨ct, ⟨m0, m1, m2, m3, m4, m5, m6, m7, hB, gBs⟩⟩, hK⟩) (Nat.le_of_ble_eq_true rfl) (Nat.le_of_ble_eq_true rfl) dX5_retire_21
  · omega
set_option maxHeartbeats 4000000 in
set_option maxRecDepth 100000 in
theorem m_tunes (l : Launch) (G : gG) (B : Nat → Nat) (S : cS) (th : Int) (ct : Nat → Int32) (H : Heap) (hM : Mod G B S th ct H) (hI : sInv S)  : gM l yX5_tunes wsX5_tunes rm_X5_tunes [.ref (B 0)] G H (gi (fun r H1 => zI (sn S) = r ∧ MP G B S 0 H H1)) (gNo) 0 0 := by
  obtain ⟨m0, m1, m2, m3, m4, m5, m6, m7, hB, gBs⟩ := id hM
  have hn16 : sn S ≤ 16 := hI.1
  have gB0 := gBs 0 (by omega)
  have gB1 := gBs 1 (by omega)
  have gB2 := gBs 2 (by omega)
  have gB3 := gBs 3 (by omega)
  have gB4 := gBs 4 (by omega)
  have gB5 := gBs 5 (by omega)
  have gB6 := gBs 6 (by omega)
  have gB7 := gBs 7 (by omega)
  have hK : gKp (oB B) H H := gKp.rf _ _
  refine g_start (cc := cX5_tunes) (maxL := 1) (ret := (some .int)) (by decide +kernel) rfl (Nat.le_of_ble_eq_true rfl) ?_
  intro p e s m args below meth c F ls hl
  obtain ⟨hx, hb, hml, hr, hts, hown, hlocks, hxt, hH, hX, hin⟩ := F
  have hown : s.vm.findClass RX5 = some m.cls := hown
  have hS : va_S (gA G) s.heap H [] := by rw [hH]; exact va_S.rf
  have hl : lv_has ls 1 [(0, .ref (B 0))] := hl
  refine lv_aload_n hx hb dX5_tunes_0 rfl (lv_at hl 0 rfl) ?_
  refine lv_iconst (v := zI 0) hx hb dX5_tunes_1 rfl ?_
  refine g_put hx hb hX hts (fun w h => (List.mem_cons_of_mem _ (List.mem_append_right _ h))) tyX5 tyX5_ok nmX5 hown hS m0 gB0 rfl 0 (by decide) (hts (.fieldLink RX5 42 "TuneCatalogueModel" "thrown" "I") (List.mem_cons_of_mem _ (List.mem_append_left _ (List.mem_of_getElem? (i := 0) rfl)))) rfl (ty := tyX5 0) rfl rfl rfl (Nat.le_of_ble_eq_true rfl) dX5_tunes_2 (fun H_2 locs h_n hO hS => ?_)
  have m1 := gat.only1 m1 hO (hB 1 0 (by omega) (by omega) (by omega))
  have m2 := gat.only1 m2 hO (hB 2 0 (by omega) (by omega) (by omega))
  have m3 := gat.only1 m3 hO (hB 3 0 (by omega) (by omega) (by omega))
  have m4 := gat.only1 m4 hO (hB 4 0 (by omega) (by omega) (by omega))
  have m5 := gat.only1 m5 hO (hB 5 0 (by omega) (by omega) (by omega))
  have m6 := gat.only1 m6 hO (hB 6 0 (by omega) (by omega) (by omega))
  have m7 := gat.only1 m7 hO (hB 7 0 (by omega) (by omega) (by omega))
  have m0 : gat G (B 0) (.inr (5, [.int (zI 0), .int (zI (sn S : Int)), .ref (B 1), .ref (B 2), .ref (B 3), .ref (B 4), .ref (B 5), .int (zI (shn S : Int)), .int (zI (ssl S)), .int (zI (sor S)), .int (zI (srp S)), .ref (B 6), .ref (B 7)])) H_2 := h_n
  have hK := hK.trans (hO.kp1 (oB.k (k := 0) (by omega)))
  refine lv_aload_n hx hb dX5_tunes_5 rfl (lv_at hl 0 rfl) ?_
  refine g_get hx hb hX hts (fun w h => (List.mem_cons_of_mem _ (List.mem_append_right _ h))) hown m0 rfl 1 (by decide) (hts (.fieldLink RX5 45 "TuneCatalogueModel" "tunes" "I") (List.mem_cons_of_mem _ (List.mem_append_left _ (List.mem_of_getElem? (i := 1) rfl)))) rfl dX5_tunes_6 ?_
  exact g_reti hx hb hr hlocks hS rfl (⟨rfl, ⟨ct, ⟨m0, m1, m2, m3, m4, m5, m6, m7, hB, gBs⟩⟩, hK⟩) (Nat.le_of_ble_eq_true rfl) (Nat.le_of_ble_eq_true rfl) dX5_tunes_9
set_option maxHeartbeats 4000000 in
set_option maxRecDepth 100000 in
theorem m_hummed (l : Launch) (G : gG) (B : Nat → Nat) (S : cS) (th : Int) (ct : Nat → Int32) (H : Heap) (hM : Mod G B S th ct H) (hI : sInv S)  : gM l yX5_hummed wsX5_hummed rm_X5_hummed [.ref (B 0)] G H (gi (fun r H1 => zI (shn S) = r ∧ MP G B S 0 H H1)) (gNo) 0 0 := by
  obtain ⟨m0, m1, m2, m3, m4, m5, m6, m7, hB, gBs⟩ := id hM
  have hn16 : sn S ≤ 16 := hI.1
  have gB0 := gBs 0 (by omega)
  have gB1 := gBs 1 (by omega)
  have gB2 := gBs 2 (by omega)
  have gB3 := gBs 3 (by omega)
  have gB4 := gBs 4 (by omega)
  have gB5 := gBs 5 (by omega)
  have gB6 := gBs 6 (by omega)
  have gB7 := gBs 7 (by omega)
  have hK : gKp (oB B) H H := gKp.rf _ _
  refine g_start (cc := cX5_hummed) (maxL := 1) (ret := (some .int)) (by decide +kernel) rfl (Nat.le_of_ble_eq_true rfl) ?_
  intro p e s m args below meth c F ls hl
  obtain ⟨hx, hb, hml, hr, hts, hown, hlocks, hxt, hH, hX, hin⟩ := F
  have hown : s.vm.findClass RX5 = some m.cls := hown
  have hS : va_S (gA G) s.heap H [] := by rw [hH]; exact va_S.rf
  have hl : lv_has ls 1 [(0, .ref (B 0))] := hl
  refine lv_aload_n hx hb dX5_hummed_0 rfl (lv_at hl 0 rfl) ?_
  refine lv_iconst (v := zI 0) hx hb dX5_hummed_1 rfl ?_
  refine g_put hx hb hX hts (fun w h => (List.mem_cons_of_mem _ (List.mem_append_right _ h))) tyX5 tyX5_ok nmX5 hown hS m0 gB0 rfl 0 (by decide) (hts (.fieldLink RX5 42 "TuneCatalogueModel" "thrown" "I") (List.mem_cons_of_mem _ (List.mem_append_left _ (List.mem_of_getElem? (i := 0) rfl)))) rfl (ty := tyX5 0) rfl rfl rfl (Nat.le_of_ble_eq_true rfl) dX5_hummed_2 (fun H_2 locs h_n hO hS => ?_)
  have m1 := gat.only1 m1 hO (hB 1 0 (by omega) (by omega) (by omega))
  have m2 := gat.only1 m2 hO (hB 2 0 (by omega) (by omega) (by omega))
  have m3 := gat.only1 m3 hO (hB 3 0 (by omega) (by omega) (by omega))
  have m4 := gat.only1 m4 hO (hB 4 0 (by omega) (by omega) (by omega))
  have m5 := gat.only1 m5 hO (hB 5 0 (by omega) (by omega) (by omega))
  have m6 := gat.only1 m6 hO (hB 6 0 (by omega) (by omega) (by omega))
  have m7 := gat.only1 m7 hO (hB 7 0 (by omega) (by omega) (by omega))
  have m0 : gat G (B 0) (.inr (5, [.int (zI 0), .int (zI (sn S : Int)), .ref (B 1), .ref (B 2), .ref (B 3), .ref (B 4), .ref (B 5), .int (zI (shn S : Int)), .int (zI (ssl S)), .int (zI (sor S)), .int (zI (srp S)), .ref (B 6), .ref (B 7)])) H_2 := h_n
  have hK := hK.trans (hO.kp1 (oB.k (k := 0) (by omega)))
  refine lv_aload_n hx hb dX5_hummed_5 rfl (lv_at hl 0 rfl) ?_
  refine g_get hx hb hX hts (fun w h => (List.mem_cons_of_mem _ (List.mem_append_right _ h))) hown m0 rfl 7 (by decide) (hts (.fieldLink RX5 81 "TuneCatalogueModel" "hummed" "I") (List.mem_cons_of_mem _ (List.mem_append_left _ (List.mem_of_getElem? (i := 1) rfl)))) rfl dX5_hummed_6 ?_
  exact g_reti hx hb hr hlocks hS rfl (⟨rfl, ⟨ct, ⟨m0, m1, m2, m3, m4, m5, m6, m7, hB, gBs⟩⟩, hK⟩) (Nat.le_of_ble_eq_true rfl) (Nat.le_of_ble_eq_true rfl) dX5_hummed_9
set_option maxHeartbeats 4000000 in
set_option maxRecDepth 100000 in
theorem m_hush (l : Launch) (G : gG) (B : Nat → Nat) (S : cS) (th : Int) (ct : Nat → Int32) (H : Heap) (hM : Mod G B S th ct H) (hI : sInv S)  : gM l yX5_hush wsX5_hush rm_X5_hush [.ref (B 0)] G H (gi (fun r H1 => zI (shn S) = r ∧ MP G B (sHush S) 0 H H1)) (gNo) 0 0 := by
  obtain ⟨m0, m1, m2, m3, m4, m5, m6, m7, hB, gBs⟩ := id hM
  have hn16 : sn S ≤ 16 := hI.1
  have gB0 := gBs 0 (by omega)
  have gB1 := gBs 1 (by omega)
  have gB2 := gBs 2 (by omega)
  have gB3 := gBs 3 (by omega)
  have gB4 := gBs 4 (by omega)
  have gB5 := gBs 5 (by omega)
  have gB6 := gBs 6 (by omega)
  have gB7 := gBs 7 (by omega)
  have hK : gKp (oB B) H H := gKp.rf _ _
  refine g_start (cc := cX5_hush) (maxL := 2) (ret := (some .int)) (by decide +kernel) rfl (Nat.le_of_ble_eq_true rfl) ?_
  intro p e s m args below meth c F ls hl
  obtain ⟨hx, hb, hml, hr, hts, hown, hlocks, hxt, hH, hX, hin⟩ := F
  have hown : s.vm.findClass RX5 = some m.cls := hown
  have hS : va_S (gA G) s.heap H [] := by rw [hH]; exact va_S.rf
  have hl : lv_has ls 2 [(0, .ref (B 0))] := hl
  refine lv_aload_n hx hb dX5_hush_0 rfl (lv_at hl 0 rfl) ?_
  refine lv_iconst (v := zI 0) hx hb dX5_hush_1 rfl ?_
  refine g_put hx hb hX hts (fun w h => (List.mem_cons_of_mem _ (List.mem_append_right _ h))) tyX5 tyX5_ok nmX5 hown hS m0 gB0 rfl 0 (by decide) (hts (.fieldLink RX5 42 "TuneCatalogueModel" "thrown" "I") (List.mem_cons_of_mem _ (List.mem_append_left _ (List.mem_of_getElem? (i := 0) rfl)))) rfl (ty := tyX5 0) rfl rfl rfl (Nat.le_of_ble_eq_true rfl) dX5_hush_2 (fun H_2 locs h_n hO hS => ?_)
  have m1 := gat.only1 m1 hO (hB 1 0 (by omega) (by omega) (by omega))
  have m2 := gat.only1 m2 hO (hB 2 0 (by omega) (by omega) (by omega))
  have m3 := gat.only1 m3 hO (hB 3 0 (by omega) (by omega) (by omega))
  have m4 := gat.only1 m4 hO (hB 4 0 (by omega) (by omega) (by omega))
  have m5 := gat.only1 m5 hO (hB 5 0 (by omega) (by omega) (by omega))
  have m6 := gat.only1 m6 hO (hB 6 0 (by omega) (by omega) (by omega))
  have m7 := gat.only1 m7 hO (hB 7 0 (by omega) (by omega) (by omega))
  have m0 : gat G (B 0) (.inr (5, [.int (zI 0), .int (zI (sn S : Int)), .ref (B 1), .ref (B 2), .ref (B 3), .ref (B 4), .ref (B 5), .int (zI (shn S : Int)), .int (zI (ssl S)), .int (zI (sor S)), .int (zI (srp S)), .ref (B 6), .ref (B 7)])) H_2 := h_n
  have hK := hK.trans (hO.kp1 (oB.k (k := 0) (by omega)))
  refine lv_aload_n hx hb dX5_hush_5 rfl (lv_at hl 0 rfl) ?_
  refine g_get hx hb hX hts (fun w h => (List.mem_cons_of_mem _ (List.mem_append_right _ h))) hown m0 rfl 7 (by decide) (hts (.fieldLink RX5 81 "TuneCatalogueModel" "hummed" "I") (List.mem_cons_of_mem _ (List.mem_append_left _ (List.mem_of_getElem? (i := 1) rfl)))) rfl dX5_hush_6 ?_
  refine lv_istore_n (lv' := [(1, .int (zI (shn S : Int))), (0, .ref (B 0))]) hx hb dX5_hush_9 rfl hl (by decide) rfl (fun ls hl => ?_)
  refine lv_aload_n hx hb dX5_hush_10 rfl (lv_at hl 1 rfl) ?_
  refine lv_iconst (v := zI 0) hx hb dX5_hush_11 rfl ?_
  refine g_put hx hb hX hts (fun w h => (List.mem_cons_of_mem _ (List.mem_append_right _ h))) tyX5 tyX5_ok nmX5 hown hS m0 gB0 rfl 7 (by decide) (hts (.fieldLink RX5 81 "TuneCatalogueModel" "hummed" "I") (List.mem_cons_of_mem _ (List.mem_append_left _ (List.mem_of_getElem? (i := 1) rfl)))) rfl (ty := tyX5 7) rfl rfl rfl (Nat.le_of_ble_eq_true rfl) dX5_hush_12 (fun H_12 locs h_n hO hS => ?_)
  have m1 := gat.only1 m1 hO (hB 1 0 (by omega) (by omega) (by omega))
  have m2 := gat.only1 m2 hO (hB 2 0 (by omega) (by omega) (by omega))
  have m3 := gat.only1 m3 hO (hB 3 0 (by omega) (by omega) (by omega))
  have m4 := gat.only1 m4 hO (hB 4 0 (by omega) (by omega) (by omega))
  have m5 := gat.only1 m5 hO (hB 5 0 (by omega) (by omega) (by omega))
  have m6 := gat.only1 m6 hO (hB 6 0 (by omega) (by omega) (by omega))
  have m7 := gat.only1 m7 hO (hB 7 0 (by omega) (by omega) (by omega))
  have m0 : gat G (B 0) (.inr (5, [.int (zI 0), .int (zI (sn S : Int)), .ref (B 1), .ref (B 2), .ref (B 3), .ref (B 4), .ref (B 5), .int (zI 0), .int (zI (ssl S)), .int (zI (sor S)), .int (zI (srp S)), .ref (B 6), .ref (B 7)])) H_12 := h_n
  have hK := hK.trans (hO.kp1 (oB.k (k := 0) (by omega)))
  refine lv_iload_n hx hb dX5_hush_15 rfl (lv_at hl 0 rfl) ?_
  exact g_reti hx hb hr hlocks hS rfl (⟨rfl, ⟨ct, ⟨m0, m1, m2, m3, m4, m5, m6, m7, hB, gBs⟩⟩, hK⟩) (Nat.le_of_ble_eq_true rfl) (Nat.le_of_ble_eq_true rfl) dX5_hush_16
set_option maxHeartbeats 4000000 in
set_option maxRecDepth 100000 in
theorem m_notes_ok (l : Launch) (G : gG) (B : Nat → Nat) (S : cS) (th : Int) (ct : Nat → Int32) (H : Heap) (hM : Mod G B S th ct H) (hI : sInv S) (z : Int) (i : Nat) (hz : z = i) (hi : i < sn S)  : gM l yX5_notes wsX5_notes rm_X5_notes [.ref (B 0), .int (zI z)] G H (gi (fun r H1 => zI (stn S i) = r ∧ MP G B S 0 H H1)) (gNo) 0 0 := by
  obtain ⟨m0, m1, m2, m3, m4, m5, m6, m7, hB, gBs⟩ := id hM
  have hn16 : sn S ≤ 16 := hI.1
  have gB0 := gBs 0 (by omega)
  have gB1 := gBs 1 (by omega)
  have gB2 := gBs 2 (by omega)
  have gB3 := gBs 3 (by omega)
  have gB4 := gBs 4 (by omega)
  have gB5 := gBs 5 (by omega)
  have gB6 := gBs 6 (by omega)
  have gB7 := gBs 7 (by omega)
  have hK : gKp (oB B) H H := gKp.rf _ _
  refine g_start (cc := cX5_notes) (maxL := 2) (ret := (some .int)) (by decide +kernel) rfl (Nat.le_of_ble_eq_true rfl) ?_
  intro p e s m args below meth c F ls hl
  obtain ⟨hx, hb, hml, hr, hts, hown, hlocks, hxt, hH, hX, hin⟩ := F
  have hown : s.vm.findClass RX5 = some m.cls := hown
  have hS : va_S (gA G) s.heap H [] := by rw [hH]; exact va_S.rf
  have hl : lv_has ls 2 [(0, .ref (B 0)), (1, .int (zI z))] := hl
  refine lv_aload_n hx hb dX5_notes_0 rfl (lv_at hl 0 rfl) ?_
  refine lv_aload_n hx hb dX5_notes_1 rfl (lv_at hl 0 rfl) ?_
  refine lv_iload_n hx hb dX5_notes_2 rfl (lv_at hl 1 rfl) ?_
  refine g_goi (vx_runV (As := [.int (zI z)]) (rest := [.ref (B 0)]) ⟨hx, hb, hml, hown, hts⟩ (m_isTune_t l G B S th ct H hM hI z i hz hi) (cwV 1 hts gX5_notes_X5_isTune rfl rfl rfl hd_X5_isTune ⟨(Nat.le_of_ble_eq_true rfl), (Nat.le_of_ble_eq_true rfl)⟩) (g_preV hX hS (ci := 5) rfl m0) rfl rfl hl.1 rfl (lv_room (Nat.le_of_ble_eq_true rfl)) dX5_notes_3 ⟨(Nat.le_of_ble_eq_true rfl), (Nat.le_of_ble_eq_true rfl)⟩) hS (fun r_3 H_3 locs hp hS => ?_)
  obtain ⟨rfl, rfl⟩ := hp
  refine gz_if_eq (tgt := 13) hx hb (by decide) dX5_notes_6 (by decide) (fun c_6 => ?_) (fun c_6 => ?_)
  · omega
  · refine lv_iconst (v := zI 0) hx hb dX5_notes_9 rfl ?_
    refine lv_goto (tgt := 14) hx hb dX5_notes_10 (by decide) ?_
    refine g_goi (vx_runV (As := [.int (zI 0)]) (rest := []) ⟨hx, hb, hml, hown, hts⟩ (m_holds_0 l G B S th ct H hM hI 0 rfl) (cwV 1 hts gX5_notes_X5_holds rfl rfl rfl hd_X5_holds ⟨(Nat.le_of_ble_eq_true rfl), (Nat.le_of_ble_eq_true rfl)⟩) (g_preV hX hS (ci := 5) rfl m0) rfl rfl hl.1 rfl (lv_room (Nat.le_of_ble_eq_true rfl)) dX5_notes_14 ⟨(Nat.le_of_ble_eq_true rfl), (Nat.le_of_ble_eq_true rfl)⟩) hS (fun r_14 H_14 locs hp hS => ?_)
    obtain ⟨rfl, hM, hOh⟩ := hp
    obtain ⟨m0, m1, m2, m3, m4, m5, m6, m7, hB, gBs⟩ := id hM
    have hK := hK.trans (hOh.kp1 (oB.k (k := 0) (by omega)))
    refine gz_if_eq (tgt := 29) hx hb (by decide) dX5_notes_17 (by decide) (fun c_17 => ?_) (fun c_17 => ?_)
    · omega
    · refine lv_aload_n hx hb dX5_notes_20 rfl (lv_at hl 0 rfl) ?_
      refine g_get hx hb hX hts (fun w h => (List.mem_cons_of_mem _ (List.mem_append_right _ h))) hown m0 rfl 4 (by decide) (hts (.fieldLink RX5 16 "TuneCatalogueModel" "sizes" "[I") (List.mem_cons_of_mem _ (List.mem_append_left _ (List.mem_of_getElem? (i := 0) rfl)))) rfl dX5_notes_21 ?_
      refine lv_iload_n hx hb dX5_notes_24 rfl (lv_at hl 1 rfl) ?_
      refine gz_iald hx hb hX m3 i (by omega) (by omega) (by omega) dX5_notes_25 ?_
      refine lv_goto (tgt := 30) hx hb dX5_notes_26 (by decide) ?_
      exact g_reti hx hb hr hlocks hS rfl (⟨rfl, ⟨ct, ⟨m0, m1, m2, m3, m4, m5, m6, m7, hB, gBs⟩⟩, hK⟩) (Nat.le_of_ble_eq_true rfl) (Nat.le_of_ble_eq_true rfl) dX5_notes_30
set_option maxHeartbeats 4000000 in
set_option maxRecDepth 100000 in
theorem m_notes_e1 (l : Launch) (G : gG) (B : Nat → Nat) (S : cS) (th : Int) (ct : Nat → Int32) (H : Heap) (hM : Mod G B S th ct H) (hI : sInv S) (z : Int) (hz : rI z) (hi : ¬ (0 ≤ z ∧ z < sn S))  : gM l yX5_notes wsX5_notes rm_X5_notes [.ref (B 0), .int (zI z)] G H (gi (fun r H1 => zI 0 = r ∧ MP G B S 1 H H1)) (gNo) 0 0 := by
  obtain ⟨m0, m1, m2, m3, m4, m5, m6, m7, hB, gBs⟩ := id hM
  have hn16 : sn S ≤ 16 := hI.1
  have gB0 := gBs 0 (by omega)
  have gB1 := gBs 1 (by omega)
  have gB2 := gBs 2 (by omega)
  have gB3 := gBs 3 (by omega)
  have gB4 := gBs 4 (by omega)
  have gB5 := gBs 5 (by omega)
  have gB6 := gBs 6 (by omega)
  have gB7 := gBs 7 (by omega)
  have hK : gKp (oB B) H H := gKp.rf _ _
  refine g_start (cc := cX5_notes) (maxL := 2) (ret := (some .int)) (by decide +kernel) rfl (Nat.le_of_ble_eq_true rfl) ?_
  intro p e s m args below meth c F ls hl
  obtain ⟨hx, hb, hml, hr, hts, hown, hlocks, hxt, hH, hX, hin⟩ := F
  have hown : s.vm.findClass RX5 = some m.cls := hown
  have hS : va_S (gA G) s.heap H [] := by rw [hH]; exact va_S.rf
  have hl : lv_has ls 2 [(0, .ref (B 0)), (1, .int (zI z))] := hl
  refine lv_aload_n hx hb dX5_notes_0 rfl (lv_at hl 0 rfl) ?_
  refine lv_aload_n hx hb dX5_notes_1 rfl (lv_at hl 0 rfl) ?_
  refine lv_iload_n hx hb dX5_notes_2 rfl (lv_at hl 1 rfl) ?_
  refine g_goi (vx_runV (As := [.int (zI z)]) (rest := [.ref (B 0)]) ⟨hx, hb, hml, hown, hts⟩ (m_isTune_f l G B S th ct H hM hI z hz hi) (cwV 1 hts gX5_notes_X5_isTune rfl rfl rfl hd_X5_isTune ⟨(Nat.le_of_ble_eq_true rfl), (Nat.le_of_ble_eq_true rfl)⟩) (g_preV hX hS (ci := 5) rfl m0) rfl rfl hl.1 rfl (lv_room (Nat.le_of_ble_eq_true rfl)) dX5_notes_3 ⟨(Nat.le_of_ble_eq_true rfl), (Nat.le_of_ble_eq_true rfl)⟩) hS (fun r_3 H_3 locs hp hS => ?_)
  obtain ⟨rfl, rfl⟩ := hp
  refine gz_if_eq (tgt := 13) hx hb (by decide) dX5_notes_6 (by decide) (fun c_6 => ?_) (fun c_6 => ?_)
  · refine lv_iconst (v := zI 1) hx hb dX5_notes_13 rfl ?_
    refine g_goi (vx_runV (As := [.int (zI 1)]) (rest := []) ⟨hx, hb, hml, hown, hts⟩ (m_holds_k l G B S th ct H hM hI 1 (by decide) (by decide)) (cwV 1 hts gX5_notes_X5_holds rfl rfl rfl hd_X5_holds ⟨(Nat.le_of_ble_eq_true rfl), (Nat.le_of_ble_eq_true rfl)⟩) (g_preV hX hS (ci := 5) rfl m0) rfl rfl hl.1 rfl (lv_room (Nat.le_of_ble_eq_true rfl)) dX5_notes_14 ⟨(Nat.le_of_ble_eq_true rfl), (Nat.le_of_ble_eq_true rfl)⟩) hS (fun r_14 H_14 locs hp hS => ?_)
    obtain ⟨rfl, hM, hOh⟩ := hp
    obtain ⟨m0, m1, m2, m3, m4, m5, m6, m7, hB, gBs⟩ := id hM
    have hK := hK.trans (hOh.kp1 (oB.k (k := 0) (by omega)))
    refine gz_if_eq (tgt := 29) hx hb (by decide) dX5_notes_17 (by decide) (fun c_17 => ?_) (fun c_17 => ?_)
    · refine lv_iconst (v := zI 0) hx hb dX5_notes_29 rfl ?_
      exact g_reti hx hb hr hlocks hS rfl (⟨rfl, ⟨ct, ⟨m0, m1, m2, m3, m4, m5, m6, m7, hB, gBs⟩⟩, hK⟩) (Nat.le_of_ble_eq_true rfl) (Nat.le_of_ble_eq_true rfl) dX5_notes_30
    · omega
  · omega
set_option maxHeartbeats 4000000 in
set_option maxRecDepth 100000 in
theorem m_step_ok (l : Launch) (G : gG) (B : Nat → Nat) (S : cS) (th : Int) (ct : Nat → Int32) (H : Heap) (hM : Mod G B S th ct H) (hI : sInv S) (z : Int) (i : Nat) (hz : z = i) (hi : i < sn S) (z2 : Int) (hz20 : rI z2) (k : Nat) (hz2 : z2 = k) (hk : k + 1 < stn S i) : gM l yX5_step wsX5_step rm_X5_step [.ref (B 0), .int (zI z), .int (zI z2)] G H (gi (fun r H1 => zI (stp S i (k + 1) - stp S i k) = r ∧ MP G B S 0 H H1)) (gNo) 0 0 := by
  obtain ⟨m0, m1, m2, m3, m4, m5, m6, m7, hB, gBs⟩ := id hM
  have hn16 : sn S ≤ 16 := hI.1
  have gB0 := gBs 0 (by omega)
  have gB1 := gBs 1 (by omega)
  have gB2 := gBs 2 (by omega)
  have gB3 := gBs 3 (by omega)
  have gB4 := gBs 4 (by omega)
  have gB5 := gBs 5 (by omega)
  have gB6 := gBs 6 (by omega)
  have gB7 := gBs 7 (by omega)
  have hK : gKp (oB B) H H := gKp.rf _ _
  have ht24 := (hI.2.1 i hi).2
  have ht1 := (hI.2.1 i hi).1
  refine g_start (cc := cX5_step) (maxL := 3) (ret := (some .int)) (by decide +kernel) rfl (Nat.le_of_ble_eq_true rfl) ?_
  intro p e s m args below meth c F ls hl
  obtain ⟨hx, hb, hml, hr, hts, hown, hlocks, hxt, hH, hX, hin⟩ := F
  have hown : s.vm.findClass RX5 = some m.cls := hown
  have hS : va_S (gA G) s.heap H [] := by rw [hH]; exact va_S.rf
  have hl : lv_has ls 3 [(0, .ref (B 0)), (1, .int (zI z)), (2, .int (zI z2))] := hl
  refine lv_aload_n hx hb dX5_step_0 rfl (lv_at hl 0 rfl) ?_
  refine lv_aload_n hx hb dX5_step_1 rfl (lv_at hl 0 rfl) ?_
  refine lv_iload_n hx hb dX5_step_2 rfl (lv_at hl 1 rfl) ?_
  refine g_goi (vx_runV (As := [.int (zI z)]) (rest := [.ref (B 0)]) ⟨hx, hb, hml, hown, hts⟩ (m_isTune_t l G B S th ct H hM hI z i hz hi) (cwV 1 hts gX5_step_X5_isTune rfl rfl rfl hd_X5_isTune ⟨(Nat.le_of_ble_eq_true rfl), (Nat.le_of_ble_eq_true rfl)⟩) (g_preV hX hS (ci := 5) rfl m0) rfl rfl hl.1 rfl (lv_room (Nat.le_of_ble_eq_true rfl)) dX5_step_3 ⟨(Nat.le_of_ble_eq_true rfl), (Nat.le_of_ble_eq_true rfl)⟩) hS (fun r_3 H_3 locs hp hS => ?_)
  obtain ⟨rfl, rfl⟩ := hp
  refine gz_if_eq (tgt := 29) hx hb (by decide) dX5_step_6 (by decide) (fun c_6 => ?_) (fun c_6 => ?_)
  · omega
  · refine lv_iload_n hx hb dX5_step_9 rfl (lv_at hl 2 rfl) ?_
    refine lv_iconst (v := zI 0) hx hb dX5_step_10 rfl ?_
    refine lv_aload_n hx hb dX5_step_11 rfl (lv_at hl 0 rfl) ?_
    refine g_get hx hb hX hts (fun w h => (List.mem_cons_of_mem _ (List.mem_append_right _ h))) hown m0 rfl 4 (by decide) (hts (.fieldLink RX5 16 "TuneCatalogueModel" "sizes" "[I") (List.mem_cons_of_mem _ (List.mem_append_left _ (List.mem_of_getElem? (i := 0) rfl)))) rfl dX5_step_12 ?_
    refine lv_iload_n hx hb dX5_step_15 rfl (lv_at hl 1 rfl) ?_
    refine gz_iald hx hb hX m3 i (by omega) (by omega) (by omega) dX5_step_16 ?_
    refine lv_iconst (v := zI 2) hx hb dX5_step_17 rfl ?_
    refine gz_isub hx hb dX5_step_18 ?_
    refine g_goi (vx_runS (As := [.int (zI z2), .int (zI 0), .int (zI ((stn S i : Int) - 2))]) (rest := [.ref (B 0)]) ⟨hx, hb, hml, hown, hts⟩ (m_in_t l G H z2 0 ((stn S i : Int) - 2) (by first | assumption | exact ⟨by omega, by omega⟩) ⟨by omega, by omega⟩ ⟨by omega, by omega⟩ (by omega)) (va_cwS 3 hts gX5_step_X5_in rfl rfl rfl hd_X5_in.2 ⟨(Nat.le_of_ble_eq_true rfl), (Nat.le_of_ble_eq_true rfl)⟩) (g_pre hX hS) rfl rfl hl.1 rfl (lv_room (Nat.le_of_ble_eq_true rfl)) dX5_step_19 ⟨(Nat.le_of_ble_eq_true rfl), (Nat.le_of_ble_eq_true rfl)⟩) hS (fun r_19 H_19 locs hp hS => ?_)
    obtain ⟨rfl, rfl⟩ := hp
    refine gz_if_eq (tgt := 29) hx hb (by decide) dX5_step_22 (by decide) (fun c_22 => ?_) (fun c_22 => ?_)
    · omega
    · refine lv_iconst (v := zI 0) hx hb dX5_step_25 rfl ?_
      refine lv_goto (tgt := 30) hx hb dX5_step_26 (by decide) ?_
      refine g_goi (vx_runV (As := [.int (zI 0)]) (rest := []) ⟨hx, hb, hml, hown, hts⟩ (m_holds_0 l G B S th ct H hM hI 0 rfl) (cwV 1 hts gX5_step_X5_holds rfl rfl rfl hd_X5_holds ⟨(Nat.le_of_ble_eq_true rfl), (Nat.le_of_ble_eq_true rfl)⟩) (g_preV hX hS (ci := 5) rfl m0) rfl rfl hl.1 rfl (lv_room (Nat.le_of_ble_eq_true rfl)) dX5_step_30 ⟨(Nat.le_of_ble_eq_true rfl), (Nat.le_of_ble_eq_true rfl)⟩) hS (fun r_30 H_30 locs hp hS => ?_)
      obtain ⟨rfl, hM, hOh⟩ := hp
      obtain ⟨m0, m1, m2, m3, m4, m5, m6, m7, hB, gBs⟩ := id hM
      have hK := hK.trans (hOh.kp1 (oB.k (k := 0) (by omega)))
      refine gz_if_eq (tgt := 45) hx hb (by decide) dX5_step_33 (by decide) (fun c_33 => ?_) (fun c_33 => ?_)
      · omega
      · refine lv_aload_n hx hb dX5_step_36 rfl (lv_at hl 0 rfl) ?_
        refine lv_iload_n hx hb dX5_step_37 rfl (lv_at hl 1 rfl) ?_
        refine lv_iload_n hx hb dX5_step_38 rfl (lv_at hl 2 rfl) ?_
        refine g_goi (vx_runV (As := [.int (zI z), .int (zI z2)]) (rest := []) ⟨hx, hb, hml, hown, hts⟩ (m_stepOf l G B S 0 ct H_30 hM hI z z2 i k (by omega) (by omega) (by omega) (by omega)) (cwV 2 hts gX5_step_X5_stepOf rfl rfl rfl hd_X5_stepOf ⟨(Nat.le_of_ble_eq_true rfl), (Nat.le_of_ble_eq_true rfl)⟩) (g_preV hX hS (ci := 5) rfl m0) rfl rfl hl.1 rfl (lv_room (Nat.le_of_ble_eq_true rfl)) dX5_step_39 ⟨(Nat.le_of_ble_eq_true rfl), (Nat.le_of_ble_eq_true rfl)⟩) hS (fun r_39 H_39 locs hp hS => ?_)
        obtain ⟨hv, rfl⟩ := hp
        rw [zI_sub] at hv
        subst hv
        refine lv_goto (tgt := 46) hx hb dX5_step_42 (by decide) ?_
        exact g_reti hx hb hr hlocks hS rfl (⟨rfl, ⟨ct, ⟨m0, m1, m2, m3, m4, m5, m6, m7, hB, gBs⟩⟩, hK⟩) (Nat.le_of_ble_eq_true rfl) (Nat.le_of_ble_eq_true rfl) dX5_step_46
set_option maxHeartbeats 4000000 in
set_option maxRecDepth 100000 in
theorem m_step_e1 (l : Launch) (G : gG) (B : Nat → Nat) (S : cS) (th : Int) (ct : Nat → Int32) (H : Heap) (hM : Mod G B S th ct H) (hI : sInv S) (z : Int) (hz : rI z) (hi : ¬ (0 ≤ z ∧ z < sn S)) (z2 : Int) (hz20 : rI z2)  : gM l yX5_step wsX5_step rm_X5_step [.ref (B 0), .int (zI z), .int (zI z2)] G H (gi (fun r H1 => zI 0 = r ∧ MP G B S 1 H H1)) (gNo) 0 0 := by
  obtain ⟨m0, m1, m2, m3, m4, m5, m6, m7, hB, gBs⟩ := id hM
  have hn16 : sn S ≤ 16 := hI.1
  have gB0 := gBs 0 (by omega)
  have gB1 := gBs 1 (by omega)
  have gB2 := gBs 2 (by omega)
  have gB3 := gBs 3 (by omega)
  have gB4 := gBs 4 (by omega)
  have gB5 := gBs 5 (by omega)
  have gB6 := gBs 6 (by omega)
  have gB7 := gBs 7 (by omega)
  have hK : gKp (oB B) H H := gKp.rf _ _
  refine g_start (cc := cX5_step) (maxL := 3) (ret := (some .int)) (by decide +kernel) rfl (Nat.le_of_ble_eq_true rfl) ?_
  intro p e s m args below meth c F ls hl
  obtain ⟨hx, hb, hml, hr, hts, hown, hlocks, hxt, hH, hX, hin⟩ := F
  have hown : s.vm.findClass RX5 = some m.cls := hown
  have hS : va_S (gA G) s.heap H [] := by rw [hH]; exact va_S.rf
  have hl : lv_has ls 3 [(0, .ref (B 0)), (1, .int (zI z)), (2, .int (zI z2))] := hl
  refine lv_aload_n hx hb dX5_step_0 rfl (lv_at hl 0 rfl) ?_
  refine lv_aload_n hx hb dX5_step_1 rfl (lv_at hl 0 rfl) ?_
  refine lv_iload_n hx hb dX5_step_2 rfl (lv_at hl 1 rfl) ?_
  refine g_goi (vx_runV (As := [.int (zI z)]) (rest := [.ref (B 0)]) ⟨hx, hb, hml, hown, hts⟩ (m_isTune_f l G B S th ct H hM hI z hz hi) (cwV 1 hts gX5_step_X5_isTune rfl rfl rfl hd_X5_isTune ⟨(Nat.le_of_ble_eq_true rfl), (Nat.le_of_ble_eq_true rfl)⟩) (g_preV hX hS (ci := 5) rfl m0) rfl rfl hl.1 rfl (lv_room (Nat.le_of_ble_eq_true rfl)) dX5_step_3 ⟨(Nat.le_of_ble_eq_true rfl), (Nat.le_of_ble_eq_true rfl)⟩) hS (fun r_3 H_3 locs hp hS => ?_)
  obtain ⟨rfl, rfl⟩ := hp
  refine gz_if_eq (tgt := 29) hx hb (by decide) dX5_step_6 (by decide) (fun c_6 => ?_) (fun c_6 => ?_)
  · refine lv_iconst (v := zI 1) hx hb dX5_step_29 rfl ?_
    refine g_goi (vx_runV (As := [.int (zI 1)]) (rest := []) ⟨hx, hb, hml, hown, hts⟩ (m_holds_k l G B S th ct H hM hI 1 (by decide) (by decide)) (cwV 1 hts gX5_step_X5_holds rfl rfl rfl hd_X5_holds ⟨(Nat.le_of_ble_eq_true rfl), (Nat.le_of_ble_eq_true rfl)⟩) (g_preV hX hS (ci := 5) rfl m0) rfl rfl hl.1 rfl (lv_room (Nat.le_of_ble_eq_true rfl)) dX5_step_30 ⟨(Nat.le_of_ble_eq_true rfl), (Nat.le_of_ble_eq_true rfl)⟩) hS (fun r_30 H_30 locs hp hS => ?_)
    obtain ⟨rfl, hM, hOh⟩ := hp
    obtain ⟨m0, m1, m2, m3, m4, m5, m6, m7, hB, gBs⟩ := id hM
    have hK := hK.trans (hOh.kp1 (oB.k (k := 0) (by omega)))
    refine gz_if_eq (tgt := 45) hx hb (by decide) dX5_step_33 (by decide) (fun c_33 => ?_) (fun c_33 => ?_)
    · refine lv_iconst (v := zI 0) hx hb dX5_step_45 rfl ?_
      exact g_reti hx hb hr hlocks hS rfl (⟨rfl, ⟨ct, ⟨m0, m1, m2, m3, m4, m5, m6, m7, hB, gBs⟩⟩, hK⟩) (Nat.le_of_ble_eq_true rfl) (Nat.le_of_ble_eq_true rfl) dX5_step_46
    · omega
  · omega
set_option maxHeartbeats 4000000 in
set_option maxRecDepth 100000 in
theorem m_step_e2 (l : Launch) (G : gG) (B : Nat → Nat) (S : cS) (th : Int) (ct : Nat → Int32) (H : Heap) (hM : Mod G B S th ct H) (hI : sInv S) (z : Int) (i : Nat) (hz : z = i) (hi : i < sn S) (z2 : Int) (hz20 : rI z2) (hk : ¬ (0 ≤ z2 ∧ z2 < (stn S i : Int) - 1)) : gM l yX5_step wsX5_step rm_X5_step [.ref (B 0), .int (zI z), .int (zI z2)] G H (gi (fun r H1 => zI 0 = r ∧ MP G B S 1 H H1)) (gNo) 0 0 := by
  obtain ⟨m0, m1, m2, m3, m4, m5, m6, m7, hB, gBs⟩ := id hM
  have hn16 : sn S ≤ 16 := hI.1
  have gB0 := gBs 0 (by omega)
  have gB1 := gBs 1 (by omega)
  have gB2 := gBs 2 (by omega)
  have gB3 := gBs 3 (by omega)
  have gB4 := gBs 4 (by omega)
  have gB5 := gBs 5 (by omega)
  have gB6 := gBs 6 (by omega)
  have gB7 := gBs 7 (by omega)
  have hK : gKp (oB B) H H := gKp.rf _ _
  have ht24 := (hI.2.1 i hi).2
  have ht1 := (hI.2.1 i hi).1
  refine g_start (cc := cX5_step) (maxL := 3) (ret := (some .int)) (by decide +kernel) rfl (Nat.le_of_ble_eq_true rfl) ?_
  intro p e s m args below meth c F ls hl
  obtain ⟨hx, hb, hml, hr, hts, hown, hlocks, hxt, hH, hX, hin⟩ := F
  have hown : s.vm.findClass RX5 = some m.cls := hown
  have hS : va_S (gA G) s.heap H [] := by rw [hH]; exact va_S.rf
  have hl : lv_has ls 3 [(0, .ref (B 0)), (1, .int (zI z)), (2, .int (zI z2))] := hl
  refine lv_aload_n hx hb dX5_step_0 rfl (lv_at hl 0 rfl) ?_
  refine lv_aload_n hx hb dX5_step_1 rfl (lv_at hl 0 rfl) ?_
  refine lv_iload_n hx hb dX5_step_2 rfl (lv_at hl 1 rfl) ?_
  refine g_goi (vx_runV (As := [.int (zI z)]) (rest := [.ref (B 0)]) ⟨hx, hb, hml, hown, hts⟩ (m_isTune_t l G B S th ct H hM hI z i hz hi) (cwV 1 hts gX5_step_X5_isTune rfl rfl rfl hd_X5_isTune ⟨(Nat.le_of_ble_eq_true rfl), (Nat.le_of_ble_eq_true rfl)⟩) (g_preV hX hS (ci := 5) rfl m0) rfl rfl hl.1 rfl (lv_room (Nat.le_of_ble_eq_true rfl)) dX5_step_3 ⟨(Nat.le_of_ble_eq_true rfl), (Nat.le_of_ble_eq_true rfl)⟩) hS (fun r_3 H_3 locs hp hS => ?_)
  obtain ⟨rfl, rfl⟩ := hp
  refine gz_if_eq (tgt := 29) hx hb (by decide) dX5_step_6 (by decide) (fun c_6 => ?_) (fun c_6 => ?_)
  · omega
  · refine lv_iload_n hx hb dX5_step_9 rfl (lv_at hl 2 rfl) ?_
    refine lv_iconst (v := zI 0) hx hb dX5_step_10 rfl ?_
    refine lv_aload_n hx hb dX5_step_11 rfl (lv_at hl 0 rfl) ?_
    refine g_get hx hb hX hts (fun w h => (List.mem_cons_of_mem _ (List.mem_append_right _ h))) hown m0 rfl 4 (by decide) (hts (.fieldLink RX5 16 "TuneCatalogueModel" "sizes" "[I") (List.mem_cons_of_mem _ (List.mem_append_left _ (List.mem_of_getElem? (i := 0) rfl)))) rfl dX5_step_12 ?_
    refine lv_iload_n hx hb dX5_step_15 rfl (lv_at hl 1 rfl) ?_
    refine gz_iald hx hb hX m3 i (by omega) (by omega) (by omega) dX5_step_16 ?_
    refine lv_iconst (v := zI 2) hx hb dX5_step_17 rfl ?_
    refine gz_isub hx hb dX5_step_18 ?_
    refine g_goi (vx_runS (As := [.int (zI z2), .int (zI 0), .int (zI ((stn S i : Int) - 2))]) (rest := [.ref (B 0)]) ⟨hx, hb, hml, hown, hts⟩ (m_in_f l G H z2 0 ((stn S i : Int) - 2) (by first | assumption | exact ⟨by omega, by omega⟩) ⟨by omega, by omega⟩ ⟨by omega, by omega⟩ (by omega)) (va_cwS 3 hts gX5_step_X5_in rfl rfl rfl hd_X5_in.2 ⟨(Nat.le_of_ble_eq_true rfl), (Nat.le_of_ble_eq_true rfl)⟩) (g_pre hX hS) rfl rfl hl.1 rfl (lv_room (Nat.le_of_ble_eq_true rfl)) dX5_step_19 ⟨(Nat.le_of_ble_eq_true rfl), (Nat.le_of_ble_eq_true rfl)⟩) hS (fun r_19 H_19 locs hp hS => ?_)
    obtain ⟨rfl, rfl⟩ := hp
    refine gz_if_eq (tgt := 29) hx hb (by decide) dX5_step_22 (by decide) (fun c_22 => ?_) (fun c_22 => ?_)
    · refine lv_iconst (v := zI 1) hx hb dX5_step_29 rfl ?_
      refine g_goi (vx_runV (As := [.int (zI 1)]) (rest := []) ⟨hx, hb, hml, hown, hts⟩ (m_holds_k l G B S th ct H hM hI 1 (by decide) (by decide)) (cwV 1 hts gX5_step_X5_holds rfl rfl rfl hd_X5_holds ⟨(Nat.le_of_ble_eq_true rfl), (Nat.le_of_ble_eq_true rfl)⟩) (g_preV hX hS (ci := 5) rfl m0) rfl rfl hl.1 rfl (lv_room (Nat.le_of_ble_eq_true rfl)) dX5_step_30 ⟨(Nat.le_of_ble_eq_true rfl), (Nat.le_of_ble_eq_true rfl)⟩) hS (fun r_30 H_30 locs hp hS => ?_)
      obtain ⟨rfl, hM, hOh⟩ := hp
      obtain ⟨m0, m1, m2, m3, m4, m5, m6, m7, hB, gBs⟩ := id hM
      have hK := hK.trans (hOh.kp1 (oB.k (k := 0) (by omega)))
      refine gz_if_eq (tgt := 45) hx hb (by decide) dX5_step_33 (by decide) (fun c_33 => ?_) (fun c_33 => ?_)
      · refine lv_iconst (v := zI 0) hx hb dX5_step_45 rfl ?_
        exact g_reti hx hb hr hlocks hS rfl (⟨rfl, ⟨ct, ⟨m0, m1, m2, m3, m4, m5, m6, m7, hB, gBs⟩⟩, hK⟩) (Nat.le_of_ble_eq_true rfl) (Nat.le_of_ble_eq_true rfl) dX5_step_46
      · omega
    · omega
set_option maxHeartbeats 4000000 in
set_option maxRecDepth 100000 in
theorem m_hum_ok (l : Launch) (G : gG) (B : Nat → Nat) (S : cS) (th : Int) (ct : Nat → Int32) (H : Heap) (hM : Mod G B S th ct H) (hI : sInv S) (p1 : Int) (hp0 : rI p1) (h60 : 0 ≤ p1 ∧ p1 ≤ 60) (h12 : shn S < 12) : gM l yX5_hum wsX5_hum rm_X5_hum [.ref (B 0), .int (zI p1)] G H (gi (fun r H1 => zI ((shn S + 1 : Nat) : Int) = r ∧ MP G B (sHum S p1) 0 H H1)) (gNo) 0 0 := by
  obtain ⟨m0, m1, m2, m3, m4, m5, m6, m7, hB, gBs⟩ := id hM
  have hn16 : sn S ≤ 16 := hI.1
  have gB0 := gBs 0 (by omega)
  have gB1 := gBs 1 (by omega)
  have gB2 := gBs 2 (by omega)
  have gB3 := gBs 3 (by omega)
  have gB4 := gBs 4 (by omega)
  have gB5 := gBs 5 (by omega)
  have gB6 := gBs 6 (by omega)
  have gB7 := gBs 7 (by omega)
  have hK : gKp (oB B) H H := gKp.rf _ _
  refine g_start (cc := cX5_hum) (maxL := 2) (ret := (some .int)) (by decide +kernel) rfl (Nat.le_of_ble_eq_true rfl) ?_
  intro p e s m args below meth c F ls hl
  obtain ⟨hx, hb, hml, hr, hts, hown, hlocks, hxt, hH, hX, hin⟩ := F
  have hown : s.vm.findClass RX5 = some m.cls := hown
  have hS : va_S (gA G) s.heap H [] := by rw [hH]; exact va_S.rf
  have hl : lv_has ls 2 [(0, .ref (B 0)), (1, .int (zI p1))] := hl
  refine lv_aload_n hx hb dX5_hum_0 rfl (lv_at hl 0 rfl) ?_
  refine lv_iload_n hx hb dX5_hum_1 rfl (lv_at hl 1 rfl) ?_
  refine lv_iconst (v := zI 0) hx hb dX5_hum_2 rfl ?_
  refine lv_bipush (v := zI 60) hx hb dX5_hum_3 (by decide +kernel) ?_
  refine g_goi (vx_runS (As := [.int (zI p1), .int (zI 0), .int (zI 60)]) (rest := [.ref (B 0)]) ⟨hx, hb, hml, hown, hts⟩ (m_in_t l G H p1 0 60 (by first | assumption | exact ⟨by omega, by omega⟩) ⟨by omega, by omega⟩ ⟨by omega, by omega⟩ (by omega)) (va_cwS 3 hts gX5_hum_X5_in rfl rfl rfl hd_X5_in.2 ⟨(Nat.le_of_ble_eq_true rfl), (Nat.le_of_ble_eq_true rfl)⟩) (g_pre hX hS) rfl rfl hl.1 rfl (lv_room (Nat.le_of_ble_eq_true rfl)) dX5_hum_5 ⟨(Nat.le_of_ble_eq_true rfl), (Nat.le_of_ble_eq_true rfl)⟩) hS (fun r_5 H_5 locs hp hS => ?_)
  obtain ⟨rfl, rfl⟩ := hp
  refine gz_if_ne (tgt := 15) hx hb (by decide) dX5_hum_8 (by decide) (fun c_8 => ?_) (fun c_8 => ?_)
  · refine lv_aload_n hx hb dX5_hum_15 rfl (lv_at hl 0 rfl) ?_
    refine g_get hx hb hX hts (fun w h => (List.mem_cons_of_mem _ (List.mem_append_right _ h))) hown m0 rfl 7 (by decide) (hts (.fieldLink RX5 81 "TuneCatalogueModel" "hummed" "I") (List.mem_cons_of_mem _ (List.mem_append_left _ (List.mem_of_getElem? (i := 0) rfl)))) rfl dX5_hum_16 ?_
    refine lv_bipush (v := zI 12) hx hb dX5_hum_19 (by decide +kernel) ?_
    refine gz_icmp_ne (tgt := 28) hx hb ⟨by omega, by omega⟩ (by decide) dX5_hum_21 (by decide) (fun c_21 => ?_) (fun c_21 => ?_)
    · refine lv_iconst (v := zI 0) hx hb dX5_hum_28 rfl ?_
      refine g_goi (vx_runV (As := [.int (zI 0)]) (rest := []) ⟨hx, hb, hml, hown, hts⟩ (m_holds_0 l G B S th ct H hM hI 0 rfl) (cwV 1 hts gX5_hum_X5_holds rfl rfl rfl hd_X5_holds ⟨(Nat.le_of_ble_eq_true rfl), (Nat.le_of_ble_eq_true rfl)⟩) (g_preV hX hS (ci := 5) rfl m0) rfl rfl hl.1 rfl (lv_room (Nat.le_of_ble_eq_true rfl)) dX5_hum_29 ⟨(Nat.le_of_ble_eq_true rfl), (Nat.le_of_ble_eq_true rfl)⟩) hS (fun r_29 H_29 locs hp hS => ?_)
      obtain ⟨rfl, hM, hOh⟩ := hp
      obtain ⟨m0, m1, m2, m3, m4, m5, m6, m7, hB, gBs⟩ := id hM
      have hK := hK.trans (hOh.kp1 (oB.k (k := 0) (by omega)))
      refine gz_if_ne (tgt := 37) hx hb (by decide) dX5_hum_32 (by decide) (fun c_32 => ?_) (fun c_32 => ?_)
      · refine lv_aload_n hx hb dX5_hum_37 rfl (lv_at hl 0 rfl) ?_
        refine g_get hx hb hX hts (fun w h => (List.mem_cons_of_mem _ (List.mem_append_right _ h))) hown m0 rfl 6 (by decide) (hts (.fieldLink RX5 23 "TuneCatalogueModel" "hum" "[I") (List.mem_cons_of_mem _ (List.mem_append_left _ (List.mem_of_getElem? (i := 1) rfl)))) rfl dX5_hum_38 ?_
        refine lv_aload_n hx hb dX5_hum_41 rfl (lv_at hl 0 rfl) ?_
        refine g_get hx hb hX hts (fun w h => (List.mem_cons_of_mem _ (List.mem_append_right _ h))) hown m0 rfl 7 (by decide) (hts (.fieldLink RX5 81 "TuneCatalogueModel" "hummed" "I") (List.mem_cons_of_mem _ (List.mem_append_left _ (List.mem_of_getElem? (i := 0) rfl)))) rfl dX5_hum_42 ?_
        refine lv_iload_n hx hb dX5_hum_45 rfl (lv_at hl 1 rfl) ?_
        refine gz_iast hx hb hX hS m5 gB5 (shn S) rfl (by omega) (by omega) dX5_hum_46 (fun H_46 locs h_n hO hS => ?_)
        rw [zup] at h_n
        have m0 := gat.only1 m0 hO (hB 0 5 (by omega) (by omega) (by omega))
        have m1 := gat.only1 m1 hO (hB 1 5 (by omega) (by omega) (by omega))
        have m2 := gat.only1 m2 hO (hB 2 5 (by omega) (by omega) (by omega))
        have m3 := gat.only1 m3 hO (hB 3 5 (by omega) (by omega) (by omega))
        have m4 := gat.only1 m4 hO (hB 4 5 (by omega) (by omega) (by omega))
        have m6 := gat.only1 m6 hO (hB 6 5 (by omega) (by omega) (by omega))
        have m7 := gat.only1 m7 hO (hB 7 5 (by omega) (by omega) (by omega))
        have m5 : gat G (B 5) (.inl (gI G, 12, .inl (fun j => zI (va_up (shf S) (shn S) p1 j)))) H_46 := h_n
        have hK := hK.trans (hO.kp1 (oB.k (k := 5) (by omega)))
        refine lv_aload_n hx hb dX5_hum_47 rfl (lv_at hl 0 rfl) ?_
        refine lv_dup hx hb dX5_hum_48 rfl ?_
        refine g_get hx hb hX hts (fun w h => (List.mem_cons_of_mem _ (List.mem_append_right _ h))) hown m0 rfl 7 (by decide) (hts (.fieldLink RX5 81 "TuneCatalogueModel" "hummed" "I") (List.mem_cons_of_mem _ (List.mem_append_left _ (List.mem_of_getElem? (i := 0) rfl)))) rfl dX5_hum_49 ?_
        refine lv_iconst (v := zI 1) hx hb dX5_hum_52 rfl ?_
        refine gz_iadd hx hb dX5_hum_53 ?_
        refine g_put hx hb hX hts (fun w h => (List.mem_cons_of_mem _ (List.mem_append_right _ h))) tyX5 tyX5_ok nmX5 hown hS m0 gB0 rfl 7 (by decide) (hts (.fieldLink RX5 81 "TuneCatalogueModel" "hummed" "I") (List.mem_cons_of_mem _ (List.mem_append_left _ (List.mem_of_getElem? (i := 0) rfl)))) rfl (ty := tyX5 7) rfl rfl rfl (Nat.le_of_ble_eq_true rfl) dX5_hum_54 (fun H_54 locs h_n hO hS => ?_)
        have m1 := gat.only1 m1 hO (hB 1 0 (by omega) (by omega) (by omega))
        have m2 := gat.only1 m2 hO (hB 2 0 (by omega) (by omega) (by omega))
        have m3 := gat.only1 m3 hO (hB 3 0 (by omega) (by omega) (by omega))
        have m4 := gat.only1 m4 hO (hB 4 0 (by omega) (by omega) (by omega))
        have m5 := gat.only1 m5 hO (hB 5 0 (by omega) (by omega) (by omega))
        have m6 := gat.only1 m6 hO (hB 6 0 (by omega) (by omega) (by omega))
        have m7 := gat.only1 m7 hO (hB 7 0 (by omega) (by omega) (by omega))
        have m0 : gat G (B 0) (.inr (5, [.int (zI 0), .int (zI (sn S : Int)), .ref (B 1), .ref (B 2), .ref (B 3), .ref (B 4), .ref (B 5), .int (zI ((shn S : Int) + 1)), .int (zI (ssl S)), .int (zI (sor S)), .int (zI (srp S)), .ref (B 6), .ref (B 7)])) H_54 := h_n
        have hK := hK.trans (hO.kp1 (oB.k (k := 0) (by omega)))
        refine lv_aload_n hx hb dX5_hum_57 rfl (lv_at hl 0 rfl) ?_
        refine g_get hx hb hX hts (fun w h => (List.mem_cons_of_mem _ (List.mem_append_right _ h))) hown m0 rfl 7 (by decide) (hts (.fieldLink RX5 81 "TuneCatalogueModel" "hummed" "I") (List.mem_cons_of_mem _ (List.mem_append_left _ (List.mem_of_getElem? (i := 0) rfl)))) rfl dX5_hum_58 ?_
        rw [show (shn S : Int) + 1 = ((shn S + 1 : Nat) : Int) by omega] at m0
        exact g_reti hx hb hr hlocks hS rfl (⟨by rw [show (shn S : Int) + 1 = ((shn S + 1 : Nat) : Int) by omega], ⟨ct, ⟨m0, m1, m2, m3, m4, m5, m6, m7, hB, gBs⟩⟩, hK⟩) (Nat.le_of_ble_eq_true rfl) (Nat.le_of_ble_eq_true rfl) dX5_hum_61
      · omega
    · omega
  · omega
set_option maxHeartbeats 4000000 in
set_option maxRecDepth 100000 in
theorem m_hum_e1 (l : Launch) (G : gG) (B : Nat → Nat) (S : cS) (th : Int) (ct : Nat → Int32) (H : Heap) (hM : Mod G B S th ct H) (hI : sInv S) (p1 : Int) (hp0 : rI p1) (h60 : ¬ (0 ≤ p1 ∧ p1 ≤ 60)) : gM l yX5_hum wsX5_hum rm_X5_hum [.ref (B 0), .int (zI p1)] G H (gi (fun r H1 => zI 0 = r ∧ MP G B S 1 H H1)) (gNo) 0 0 := by
  obtain ⟨m0, m1, m2, m3, m4, m5, m6, m7, hB, gBs⟩ := id hM
  have hn16 : sn S ≤ 16 := hI.1
  have gB0 := gBs 0 (by omega)
  have gB1 := gBs 1 (by omega)
  have gB2 := gBs 2 (by omega)
  have gB3 := gBs 3 (by omega)
  have gB4 := gBs 4 (by omega)
  have gB5 := gBs 5 (by omega)
  have gB6 := gBs 6 (by omega)
  have gB7 := gBs 7 (by omega)
  have hK : gKp (oB B) H H := gKp.rf _ _
  refine g_start (cc := cX5_hum) (maxL := 2) (ret := (some .int)) (by decide +kernel) rfl (Nat.le_of_ble_eq_true rfl) ?_
  intro p e s m args below meth c F ls hl
  obtain ⟨hx, hb, hml, hr, hts, hown, hlocks, hxt, hH, hX, hin⟩ := F
  have hown : s.vm.findClass RX5 = some m.cls := hown
  have hS : va_S (gA G) s.heap H [] := by rw [hH]; exact va_S.rf
  have hl : lv_has ls 2 [(0, .ref (B 0)), (1, .int (zI p1))] := hl
  refine lv_aload_n hx hb dX5_hum_0 rfl (lv_at hl 0 rfl) ?_
  refine lv_iload_n hx hb dX5_hum_1 rfl (lv_at hl 1 rfl) ?_
  refine lv_iconst (v := zI 0) hx hb dX5_hum_2 rfl ?_
  refine lv_bipush (v := zI 60) hx hb dX5_hum_3 (by decide +kernel) ?_
  refine g_goi (vx_runS (As := [.int (zI p1), .int (zI 0), .int (zI 60)]) (rest := [.ref (B 0)]) ⟨hx, hb, hml, hown, hts⟩ (m_in_f l G H p1 0 60 (by first | assumption | exact ⟨by omega, by omega⟩) ⟨by omega, by omega⟩ ⟨by omega, by omega⟩ (by omega)) (va_cwS 3 hts gX5_hum_X5_in rfl rfl rfl hd_X5_in.2 ⟨(Nat.le_of_ble_eq_true rfl), (Nat.le_of_ble_eq_true rfl)⟩) (g_pre hX hS) rfl rfl hl.1 rfl (lv_room (Nat.le_of_ble_eq_true rfl)) dX5_hum_5 ⟨(Nat.le_of_ble_eq_true rfl), (Nat.le_of_ble_eq_true rfl)⟩) hS (fun r_5 H_5 locs hp hS => ?_)
  obtain ⟨rfl, rfl⟩ := hp
  refine gz_if_ne (tgt := 15) hx hb (by decide) dX5_hum_8 (by decide) (fun c_8 => ?_) (fun c_8 => ?_)
  · omega
  · refine lv_iconst (v := zI 1) hx hb dX5_hum_11 rfl ?_
    refine lv_goto (tgt := 29) hx hb dX5_hum_12 (by decide) ?_
    refine g_goi (vx_runV (As := [.int (zI 1)]) (rest := []) ⟨hx, hb, hml, hown, hts⟩ (m_holds_k l G B S th ct H hM hI 1 (by decide) (by decide)) (cwV 1 hts gX5_hum_X5_holds rfl rfl rfl hd_X5_holds ⟨(Nat.le_of_ble_eq_true rfl), (Nat.le_of_ble_eq_true rfl)⟩) (g_preV hX hS (ci := 5) rfl m0) rfl rfl hl.1 rfl (lv_room (Nat.le_of_ble_eq_true rfl)) dX5_hum_29 ⟨(Nat.le_of_ble_eq_true rfl), (Nat.le_of_ble_eq_true rfl)⟩) hS (fun r_29 H_29 locs hp hS => ?_)
    obtain ⟨rfl, hM, hOh⟩ := hp
    obtain ⟨m0, m1, m2, m3, m4, m5, m6, m7, hB, gBs⟩ := id hM
    have hK := hK.trans (hOh.kp1 (oB.k (k := 0) (by omega)))
    refine gz_if_ne (tgt := 37) hx hb (by decide) dX5_hum_32 (by decide) (fun c_32 => ?_) (fun c_32 => ?_)
    · omega
    · refine lv_iconst (v := zI 0) hx hb dX5_hum_35 rfl ?_
      exact g_reti hx hb hr hlocks hS rfl (⟨rfl, ⟨ct, ⟨m0, m1, m2, m3, m4, m5, m6, m7, hB, gBs⟩⟩, hK⟩) (Nat.le_of_ble_eq_true rfl) (Nat.le_of_ble_eq_true rfl) dX5_hum_36
set_option maxHeartbeats 4000000 in
set_option maxRecDepth 100000 in
theorem m_hum_e2 (l : Launch) (G : gG) (B : Nat → Nat) (S : cS) (th : Int) (ct : Nat → Int32) (H : Heap) (hM : Mod G B S th ct H) (hI : sInv S) (p1 : Int) (hp0 : rI p1) (h60 : 0 ≤ p1 ∧ p1 ≤ 60) (h12 : ¬ shn S < 12) : gM l yX5_hum wsX5_hum rm_X5_hum [.ref (B 0), .int (zI p1)] G H (gi (fun r H1 => zI 0 = r ∧ MP G B S 2 H H1)) (gNo) 0 0 := by
  obtain ⟨m0, m1, m2, m3, m4, m5, m6, m7, hB, gBs⟩ := id hM
  have hn16 : sn S ≤ 16 := hI.1
  have gB0 := gBs 0 (by omega)
  have gB1 := gBs 1 (by omega)
  have gB2 := gBs 2 (by omega)
  have gB3 := gBs 3 (by omega)
  have gB4 := gBs 4 (by omega)
  have gB5 := gBs 5 (by omega)
  have gB6 := gBs 6 (by omega)
  have gB7 := gBs 7 (by omega)
  have hK : gKp (oB B) H H := gKp.rf _ _
  have hh12 : shn S ≤ 12 := hI.2.2.2.2.2.1
  refine g_start (cc := cX5_hum) (maxL := 2) (ret := (some .int)) (by decide +kernel) rfl (Nat.le_of_ble_eq_true rfl) ?_
  intro p e s m args below meth c F ls hl
  obtain ⟨hx, hb, hml, hr, hts, hown, hlocks, hxt, hH, hX, hin⟩ := F
  have hown : s.vm.findClass RX5 = some m.cls := hown
  have hS : va_S (gA G) s.heap H [] := by rw [hH]; exact va_S.rf
  have hl : lv_has ls 2 [(0, .ref (B 0)), (1, .int (zI p1))] := hl
  refine lv_aload_n hx hb dX5_hum_0 rfl (lv_at hl 0 rfl) ?_
  refine lv_iload_n hx hb dX5_hum_1 rfl (lv_at hl 1 rfl) ?_
  refine lv_iconst (v := zI 0) hx hb dX5_hum_2 rfl ?_
  refine lv_bipush (v := zI 60) hx hb dX5_hum_3 (by decide +kernel) ?_
  refine g_goi (vx_runS (As := [.int (zI p1), .int (zI 0), .int (zI 60)]) (rest := [.ref (B 0)]) ⟨hx, hb, hml, hown, hts⟩ (m_in_t l G H p1 0 60 (by first | assumption | exact ⟨by omega, by omega⟩) ⟨by omega, by omega⟩ ⟨by omega, by omega⟩ (by omega)) (va_cwS 3 hts gX5_hum_X5_in rfl rfl rfl hd_X5_in.2 ⟨(Nat.le_of_ble_eq_true rfl), (Nat.le_of_ble_eq_true rfl)⟩) (g_pre hX hS) rfl rfl hl.1 rfl (lv_room (Nat.le_of_ble_eq_true rfl)) dX5_hum_5 ⟨(Nat.le_of_ble_eq_true rfl), (Nat.le_of_ble_eq_true rfl)⟩) hS (fun r_5 H_5 locs hp hS => ?_)
  obtain ⟨rfl, rfl⟩ := hp
  refine gz_if_ne (tgt := 15) hx hb (by decide) dX5_hum_8 (by decide) (fun c_8 => ?_) (fun c_8 => ?_)
  · refine lv_aload_n hx hb dX5_hum_15 rfl (lv_at hl 0 rfl) ?_
    refine g_get hx hb hX hts (fun w h => (List.mem_cons_of_mem _ (List.mem_append_right _ h))) hown m0 rfl 7 (by decide) (hts (.fieldLink RX5 81 "TuneCatalogueModel" "hummed" "I") (List.mem_cons_of_mem _ (List.mem_append_left _ (List.mem_of_getElem? (i := 0) rfl)))) rfl dX5_hum_16 ?_
    refine lv_bipush (v := zI 12) hx hb dX5_hum_19 (by decide +kernel) ?_
    refine gz_icmp_ne (tgt := 28) hx hb ⟨by omega, by omega⟩ (by decide) dX5_hum_21 (by decide) (fun c_21 => ?_) (fun c_21 => ?_)
    · omega
    · refine lv_iconst (v := zI 2) hx hb dX5_hum_24 rfl ?_
      refine lv_goto (tgt := 29) hx hb dX5_hum_25 (by decide) ?_
      refine g_goi (vx_runV (As := [.int (zI 2)]) (rest := []) ⟨hx, hb, hml, hown, hts⟩ (m_holds_k l G B S th ct H hM hI 2 (by decide) (by decide)) (cwV 1 hts gX5_hum_X5_holds rfl rfl rfl hd_X5_holds ⟨(Nat.le_of_ble_eq_true rfl), (Nat.le_of_ble_eq_true rfl)⟩) (g_preV hX hS (ci := 5) rfl m0) rfl rfl hl.1 rfl (lv_room (Nat.le_of_ble_eq_true rfl)) dX5_hum_29 ⟨(Nat.le_of_ble_eq_true rfl), (Nat.le_of_ble_eq_true rfl)⟩) hS (fun r_29 H_29 locs hp hS => ?_)
      obtain ⟨rfl, hM, hOh⟩ := hp
      obtain ⟨m0, m1, m2, m3, m4, m5, m6, m7, hB, gBs⟩ := id hM
      have hK := hK.trans (hOh.kp1 (oB.k (k := 0) (by omega)))
      refine gz_if_ne (tgt := 37) hx hb (by decide) dX5_hum_32 (by decide) (fun c_32 => ?_) (fun c_32 => ?_)
      · omega
      · refine lv_iconst (v := zI 0) hx hb dX5_hum_35 rfl ?_
        exact g_reti hx hb hr hlocks hS rfl (⟨rfl, ⟨ct, ⟨m0, m1, m2, m3, m4, m5, m6, m7, hB, gBs⟩⟩, hK⟩) (Nat.le_of_ble_eq_true rfl) (Nat.le_of_ble_eq_true rfl) dX5_hum_36
  · omega
set_option maxHeartbeats 4000000 in
set_option maxRecDepth 100000 in
theorem m_setCosts_ok (l : Launch) (G : gG) (B : Nat → Nat) (S : cS) (th : Int) (ct : Nat → Int32) (H : Heap) (hM : Mod G B S th ct H) (hI : sInv S) (c1 c2 c3 : Int) (hc1 : rI c1) (hc2 : rI c2) (hc3 : rI c3) (h : (0 ≤ c1 ∧ c1 ≤ 20) ∧ (0 ≤ c2 ∧ c2 ≤ 20) ∧ 0 ≤ c3 ∧ c3 ≤ 20) : gM l yX5_setCosts wsX5_setCosts rm_X5_setCosts [.ref (B 0), .int (zI c1), .int (zI c2), .int (zI c3)] G H (gv (fun H1 => MP G B (sCost S c1 c2 c3) 0 H H1)) (gNo) 0 0 := by
  obtain ⟨m0, m1, m2, m3, m4, m5, m6, m7, hB, gBs⟩ := id hM
  have hn16 : sn S ≤ 16 := hI.1
  have gB0 := gBs 0 (by omega)
  have gB1 := gBs 1 (by omega)
  have gB2 := gBs 2 (by omega)
  have gB3 := gBs 3 (by omega)
  have gB4 := gBs 4 (by omega)
  have gB5 := gBs 5 (by omega)
  have gB6 := gBs 6 (by omega)
  have gB7 := gBs 7 (by omega)
  have hK : gKp (oB B) H H := gKp.rf _ _
  refine g_start (cc := cX5_setCosts) (maxL := 4) (ret := none) (by decide +kernel) rfl (Nat.le_of_ble_eq_true rfl) ?_
  intro p e s m args below meth c F ls hl
  obtain ⟨hx, hb, hml, hr, hts, hown, hlocks, hxt, hH, hX, hin⟩ := F
  have hown : s.vm.findClass RX5 = some m.cls := hown
  have hS : va_S (gA G) s.heap H [] := by rw [hH]; exact va_S.rf
  have hl : lv_has ls 4 [(0, .ref (B 0)), (1, .int (zI c1)), (2, .int (zI c2)), (3, .int (zI c3))] := hl
  refine lv_aload_n hx hb dX5_setCosts_0 rfl (lv_at hl 0 rfl) ?_
  refine lv_iload_n hx hb dX5_setCosts_1 rfl (lv_at hl 1 rfl) ?_
  refine lv_iconst (v := zI 0) hx hb dX5_setCosts_2 rfl ?_
  refine lv_bipush (v := zI 20) hx hb dX5_setCosts_3 (by decide +kernel) ?_
  refine g_goi (vx_runS (As := [.int (zI c1), .int (zI 0), .int (zI 20)]) (rest := [.ref (B 0)]) ⟨hx, hb, hml, hown, hts⟩ (m_in_t l G H c1 0 20 (by first | assumption | exact ⟨by omega, by omega⟩) ⟨by omega, by omega⟩ ⟨by omega, by omega⟩ (by omega)) (va_cwS 3 hts gX5_setCosts_X5_in rfl rfl rfl hd_X5_in.2 ⟨(Nat.le_of_ble_eq_true rfl), (Nat.le_of_ble_eq_true rfl)⟩) (g_pre hX hS) rfl rfl hl.1 rfl (lv_room (Nat.le_of_ble_eq_true rfl)) dX5_setCosts_5 ⟨(Nat.le_of_ble_eq_true rfl), (Nat.le_of_ble_eq_true rfl)⟩) hS (fun r_5 H_5 locs hp hS => ?_)
  obtain ⟨rfl, rfl⟩ := hp
  refine gz_if_eq (tgt := 35) hx hb (by decide) dX5_setCosts_8 (by decide) (fun c_8 => ?_) (fun c_8 => ?_)
  · omega
  · refine lv_iload_n hx hb dX5_setCosts_11 rfl (lv_at hl 2 rfl) ?_
    refine lv_iconst (v := zI 0) hx hb dX5_setCosts_12 rfl ?_
    refine lv_bipush (v := zI 20) hx hb dX5_setCosts_13 (by decide +kernel) ?_
    refine g_goi (vx_runS (As := [.int (zI c2), .int (zI 0), .int (zI 20)]) (rest := [.ref (B 0)]) ⟨hx, hb, hml, hown, hts⟩ (m_in_t l G H c2 0 20 (by first | assumption | exact ⟨by omega, by omega⟩) ⟨by omega, by omega⟩ ⟨by omega, by omega⟩ (by omega)) (va_cwS 3 hts gX5_setCosts_X5_in rfl rfl rfl hd_X5_in.2 ⟨(Nat.le_of_ble_eq_true rfl), (Nat.le_of_ble_eq_true rfl)⟩) (g_pre hX hS) rfl rfl hl.1 rfl (lv_room (Nat.le_of_ble_eq_true rfl)) dX5_setCosts_15 ⟨(Nat.le_of_ble_eq_true rfl), (Nat.le_of_ble_eq_true rfl)⟩) hS (fun r_15 H_15 locs hp hS => ?_)
    obtain ⟨rfl, rfl⟩ := hp
    refine gz_if_eq (tgt := 35) hx hb (by decide) dX5_setCosts_18 (by decide) (fun c_18 => ?_) (fun c_18 => ?_)
    · omega
    · refine lv_iload_n hx hb dX5_setCosts_21 rfl (lv_at hl 3 rfl) ?_
      refine lv_iconst (v := zI 0) hx hb dX5_setCosts_22 rfl ?_
      refine lv_bipush (v := zI 20) hx hb dX5_setCosts_23 (by decide +kernel) ?_
      refine g_goi (vx_runS (As := [.int (zI c3), .int (zI 0), .int (zI 20)]) (rest := [.ref (B 0)]) ⟨hx, hb, hml, hown, hts⟩ (m_in_t l G H c3 0 20 (by first | assumption | exact ⟨by omega, by omega⟩) ⟨by omega, by omega⟩ ⟨by omega, by omega⟩ (by omega)) (va_cwS 3 hts gX5_setCosts_X5_in rfl rfl rfl hd_X5_in.2 ⟨(Nat.le_of_ble_eq_true rfl), (Nat.le_of_ble_eq_true rfl)⟩) (g_pre hX hS) rfl rfl hl.1 rfl (lv_room (Nat.le_of_ble_eq_true rfl)) dX5_setCosts_25 ⟨(Nat.le_of_ble_eq_true rfl), (Nat.le_of_ble_eq_true rfl)⟩) hS (fun r_25 H_25 locs hp hS => ?_)
      obtain ⟨rfl, rfl⟩ := hp
      refine gz_if_eq (tgt := 35) hx hb (by decide) dX5_setCosts_28 (by decide) (fun c_28 => ?_) (fun c_28 => ?_)
      · omega
      · refine lv_iconst (v := zI 0) hx hb dX5_setCosts_31 rfl ?_
        refine lv_goto (tgt := 36) hx hb dX5_setCosts_32 (by decide) ?_
        refine g_goi (vx_runV (As := [.int (zI 0)]) (rest := []) ⟨hx, hb, hml, hown, hts⟩ (m_holds_0 l G B S th ct H hM hI 0 rfl) (cwV 1 hts gX5_setCosts_X5_holds rfl rfl rfl hd_X5_holds ⟨(Nat.le_of_ble_eq_true rfl), (Nat.le_of_ble_eq_true rfl)⟩) (g_preV hX hS (ci := 5) rfl m0) rfl rfl hl.1 rfl (lv_room (Nat.le_of_ble_eq_true rfl)) dX5_setCosts_36 ⟨(Nat.le_of_ble_eq_true rfl), (Nat.le_of_ble_eq_true rfl)⟩) hS (fun r_36 H_36 locs hp hS => ?_)
        obtain ⟨rfl, hM, hOh⟩ := hp
        obtain ⟨m0, m1, m2, m3, m4, m5, m6, m7, hB, gBs⟩ := id hM
        have hK := hK.trans (hOh.kp1 (oB.k (k := 0) (by omega)))
        refine gz_if_eq (tgt := 57) hx hb (by decide) dX5_setCosts_39 (by decide) (fun c_39 => ?_) (fun c_39 => ?_)
        · omega
        · refine lv_aload_n hx hb dX5_setCosts_42 rfl (lv_at hl 0 rfl) ?_
          refine lv_iload_n hx hb dX5_setCosts_43 rfl (lv_at hl 1 rfl) ?_
          refine g_put hx hb hX hts (fun w h => (List.mem_cons_of_mem _ (List.mem_append_right _ h))) tyX5 tyX5_ok nmX5 hown hS m0 gB0 rfl 8 (by decide) (hts (.fieldLink RX5 26 "TuneCatalogueModel" "slip" "I") (List.mem_cons_of_mem _ (List.mem_append_left _ (List.mem_of_getElem? (i := 0) rfl)))) rfl (ty := tyX5 8) rfl rfl rfl (Nat.le_of_ble_eq_true rfl) dX5_setCosts_44 (fun H_44 locs h_n hO hS => ?_)
          have m1 := gat.only1 m1 hO (hB 1 0 (by omega) (by omega) (by omega))
          have m2 := gat.only1 m2 hO (hB 2 0 (by omega) (by omega) (by omega))
          have m3 := gat.only1 m3 hO (hB 3 0 (by omega) (by omega) (by omega))
          have m4 := gat.only1 m4 hO (hB 4 0 (by omega) (by omega) (by omega))
          have m5 := gat.only1 m5 hO (hB 5 0 (by omega) (by omega) (by omega))
          have m6 := gat.only1 m6 hO (hB 6 0 (by omega) (by omega) (by omega))
          have m7 := gat.only1 m7 hO (hB 7 0 (by omega) (by omega) (by omega))
          have m0 : gat G (B 0) (.inr (5, [.int (zI 0), .int (zI (sn S : Int)), .ref (B 1), .ref (B 2), .ref (B 3), .ref (B 4), .ref (B 5), .int (zI (shn S : Int)), .int (zI c1), .int (zI (sor S)), .int (zI (srp S)), .ref (B 6), .ref (B 7)])) H_44 := h_n
          have hK := hK.trans (hO.kp1 (oB.k (k := 0) (by omega)))
          refine lv_aload_n hx hb dX5_setCosts_47 rfl (lv_at hl 0 rfl) ?_
          refine lv_iload_n hx hb dX5_setCosts_48 rfl (lv_at hl 2 rfl) ?_
          refine g_put hx hb hX hts (fun w h => (List.mem_cons_of_mem _ (List.mem_append_right _ h))) tyX5 tyX5_ok nmX5 hown hS m0 gB0 rfl 9 (by decide) (hts (.fieldLink RX5 30 "TuneCatalogueModel" "ornament" "I") (List.mem_cons_of_mem _ (List.mem_append_left _ (List.mem_of_getElem? (i := 1) rfl)))) rfl (ty := tyX5 9) rfl rfl rfl (Nat.le_of_ble_eq_true rfl) dX5_setCosts_49 (fun H_49 locs h_n hO hS => ?_)
          have m1 := gat.only1 m1 hO (hB 1 0 (by omega) (by omega) (by omega))
          have m2 := gat.only1 m2 hO (hB 2 0 (by omega) (by omega) (by omega))
          have m3 := gat.only1 m3 hO (hB 3 0 (by omega) (by omega) (by omega))
          have m4 := gat.only1 m4 hO (hB 4 0 (by omega) (by omega) (by omega))
          have m5 := gat.only1 m5 hO (hB 5 0 (by omega) (by omega) (by omega))
          have m6 := gat.only1 m6 hO (hB 6 0 (by omega) (by omega) (by omega))
          have m7 := gat.only1 m7 hO (hB 7 0 (by omega) (by omega) (by omega))
          have m0 : gat G (B 0) (.inr (5, [.int (zI 0), .int (zI (sn S : Int)), .ref (B 1), .ref (B 2), .ref (B 3), .ref (B 4), .ref (B 5), .int (zI (shn S : Int)), .int (zI c1), .int (zI c2), .int (zI (srp S)), .ref (B 6), .ref (B 7)])) H_49 := h_n
          have hK := hK.trans (hO.kp1 (oB.k (k := 0) (by omega)))
          refine lv_aload_n hx hb dX5_setCosts_52 rfl (lv_at hl 0 rfl) ?_
          refine lv_iload_n hx hb dX5_setCosts_53 rfl (lv_at hl 3 rfl) ?_
          refine g_put hx hb hX hts (fun w h => (List.mem_cons_of_mem _ (List.mem_append_right _ h))) tyX5 tyX5_ok nmX5 hown hS m0 gB0 rfl 10 (by decide) (hts (.fieldLink RX5 33 "TuneCatalogueModel" "repeat" "I") (List.mem_cons_of_mem _ (List.mem_append_left _ (List.mem_of_getElem? (i := 2) rfl)))) rfl (ty := tyX5 10) rfl rfl rfl (Nat.le_of_ble_eq_true rfl) dX5_setCosts_54 (fun H_54 locs h_n hO hS => ?_)
          have m1 := gat.only1 m1 hO (hB 1 0 (by omega) (by omega) (by omega))
          have m2 := gat.only1 m2 hO (hB 2 0 (by omega) (by omega) (by omega))
          have m3 := gat.only1 m3 hO (hB 3 0 (by omega) (by omega) (by omega))
          have m4 := gat.only1 m4 hO (hB 4 0 (by omega) (by omega) (by omega))
          have m5 := gat.only1 m5 hO (hB 5 0 (by omega) (by omega) (by omega))
          have m6 := gat.only1 m6 hO (hB 6 0 (by omega) (by omega) (by omega))
          have m7 := gat.only1 m7 hO (hB 7 0 (by omega) (by omega) (by omega))
          have m0 : gat G (B 0) (.inr (5, [.int (zI 0), .int (zI (sn S : Int)), .ref (B 1), .ref (B 2), .ref (B 3), .ref (B 4), .ref (B 5), .int (zI (shn S : Int)), .int (zI c1), .int (zI c2), .int (zI c3), .ref (B 6), .ref (B 7)])) H_54 := h_n
          have hK := hK.trans (hO.kp1 (oB.k (k := 0) (by omega)))
          exact g_retv hx hb hr hlocks hS (⟨⟨ct, ⟨m0, m1, m2, m3, m4, m5, m6, m7, hB, gBs⟩⟩, hK⟩) (Nat.le_of_ble_eq_true rfl) (Nat.le_of_ble_eq_true rfl) dX5_setCosts_57
set_option maxHeartbeats 4000000 in
set_option maxRecDepth 100000 in
theorem m_setCosts_1 (l : Launch) (G : gG) (B : Nat → Nat) (S : cS) (th : Int) (ct : Nat → Int32) (H : Heap) (hM : Mod G B S th ct H) (hI : sInv S) (c1 c2 c3 : Int) (hc1 : rI c1) (hc2 : rI c2) (hc3 : rI c3) (h : ¬ (0 ≤ c1 ∧ c1 ≤ 20)) : gM l yX5_setCosts wsX5_setCosts rm_X5_setCosts [.ref (B 0), .int (zI c1), .int (zI c2), .int (zI c3)] G H (gv (fun H1 => MP G B S 1 H H1)) (gNo) 0 0 := by
  obtain ⟨m0, m1, m2, m3, m4, m5, m6, m7, hB, gBs⟩ := id hM
  have hn16 : sn S ≤ 16 := hI.1
  have gB0 := gBs 0 (by omega)
  have gB1 := gBs 1 (by omega)
  have gB2 := gBs 2 (by omega)
  have gB3 := gBs 3 (by omega)
  have gB4 := gBs 4 (by omega)
  have gB5 := gBs 5 (by omega)
  have gB6 := gBs 6 (by omega)
  have gB7 := gBs 7 (by omega)
  have hK : gKp (oB B) H H := gKp.rf _ _
  refine g_start (cc := cX5_setCosts) (maxL := 4) (ret := none) (by decide +kernel) rfl (Nat.le_of_ble_eq_true rfl) ?_
  intro p e s m args below meth c F ls hl
  obtain ⟨hx, hb, hml, hr, hts, hown, hlocks, hxt, hH, hX, hin⟩ := F
  have hown : s.vm.findClass RX5 = some m.cls := hown
  have hS : va_S (gA G) s.heap H [] := by rw [hH]; exact va_S.rf
  have hl : lv_has ls 4 [(0, .ref (B 0)), (1, .int (zI c1)), (2, .int (zI c2)), (3, .int (zI c3))] := hl
  refine lv_aload_n hx hb dX5_setCosts_0 rfl (lv_at hl 0 rfl) ?_
  refine lv_iload_n hx hb dX5_setCosts_1 rfl (lv_at hl 1 rfl) ?_
  refine lv_iconst (v := zI 0) hx hb dX5_setCosts_2 rfl ?_
  refine lv_bipush (v := zI 20) hx hb dX5_setCosts_3 (by decide +kernel) ?_
  refine g_goi (vx_runS (As := [.int (zI c1), .int (zI 0), .int (zI 20)]) (rest := [.ref (B 0)]) ⟨hx, hb, hml, hown, hts⟩ (m_in_f l G H c1 0 20 (by first | assumption | exact ⟨by omega, by omega⟩) ⟨by omega, by omega⟩ ⟨by omega, by omega⟩ (by omega)) (va_cwS 3 hts gX5_setCosts_X5_in rfl rfl rfl hd_X5_in.2 ⟨(Nat.le_of_ble_eq_true rfl), (Nat.le_of_ble_eq_true rfl)⟩) (g_pre hX hS) rfl rfl hl.1 rfl (lv_room (Nat.le_of_ble_eq_true rfl)) dX5_setCosts_5 ⟨(Nat.le_of_ble_eq_true rfl), (Nat.le_of_ble_eq_true rfl)⟩) hS (fun r_5 H_5 locs hp hS => ?_)
  obtain ⟨rfl, rfl⟩ := hp
  refine gz_if_eq (tgt := 35) hx hb (by decide) dX5_setCosts_8 (by decide) (fun c_8 => ?_) (fun c_8 => ?_)
  · refine lv_iconst (v := zI 1) hx hb dX5_setCosts_35 rfl ?_
    refine g_goi (vx_runV (As := [.int (zI 1)]) (rest := []) ⟨hx, hb, hml, hown, hts⟩ (m_holds_k l G B S th ct H hM hI 1 (by decide) (by decide)) (cwV 1 hts gX5_setCosts_X5_holds rfl rfl rfl hd_X5_holds ⟨(Nat.le_of_ble_eq_true rfl), (Nat.le_of_ble_eq_true rfl)⟩) (g_preV hX hS (ci := 5) rfl m0) rfl rfl hl.1 rfl (lv_room (Nat.le_of_ble_eq_true rfl)) dX5_setCosts_36 ⟨(Nat.le_of_ble_eq_true rfl), (Nat.le_of_ble_eq_true rfl)⟩) hS (fun r_36 H_36 locs hp hS => ?_)
    obtain ⟨rfl, hM, hOh⟩ := hp
    obtain ⟨m0, m1, m2, m3, m4, m5, m6, m7, hB, gBs⟩ := id hM
    have hK := hK.trans (hOh.kp1 (oB.k (k := 0) (by omega)))
    refine gz_if_eq (tgt := 57) hx hb (by decide) dX5_setCosts_39 (by decide) (fun c_39 => ?_) (fun c_39 => ?_)
    · exact g_retv hx hb hr hlocks hS (⟨⟨ct, ⟨m0, m1, m2, m3, m4, m5, m6, m7, hB, gBs⟩⟩, hK⟩) (Nat.le_of_ble_eq_true rfl) (Nat.le_of_ble_eq_true rfl) dX5_setCosts_57
    · omega
  · omega
set_option maxHeartbeats 4000000 in
set_option maxRecDepth 100000 in
theorem m_setCosts_2 (l : Launch) (G : gG) (B : Nat → Nat) (S : cS) (th : Int) (ct : Nat → Int32) (H : Heap) (hM : Mod G B S th ct H) (hI : sInv S) (c1 c2 c3 : Int) (hc1 : rI c1) (hc2 : rI c2) (hc3 : rI c3) (h1c : 0 ≤ c1 ∧ c1 ≤ 20) (h : ¬ (0 ≤ c2 ∧ c2 ≤ 20)) : gM l yX5_setCosts wsX5_setCosts rm_X5_setCosts [.ref (B 0), .int (zI c1), .int (zI c2), .int (zI c3)] G H (gv (fun H1 => MP G B S 1 H H1)) (gNo) 0 0 := by
  obtain ⟨m0, m1, m2, m3, m4, m5, m6, m7, hB, gBs⟩ := id hM
  have hn16 : sn S ≤ 16 := hI.1
  have gB0 := gBs 0 (by omega)
  have gB1 := gBs 1 (by omega)
  have gB2 := gBs 2 (by omega)
  have gB3 := gBs 3 (by omega)
  have gB4 := gBs 4 (by omega)
  have gB5 := gBs 5 (by omega)
  have gB6 := gBs 6 (by omega)
  have gB7 := gBs 7 (by omega)
  have hK : gKp (oB B) H H := gKp.rf _ _
  refine g_start (cc := cX5_setCosts) (maxL := 4) (ret := none) (by decide +kernel) rfl (Nat.le_of_ble_eq_true rfl) ?_
  intro p e s m args below meth c F ls hl
  obtain ⟨hx, hb, hml, hr, hts, hown, hlocks, hxt, hH, hX, hin⟩ := F
  have hown : s.vm.findClass RX5 = some m.cls := hown
  have hS : va_S (gA G) s.heap H [] := by rw [hH]; exact va_S.rf
  have hl : lv_has ls 4 [(0, .ref (B 0)), (1, .int (zI c1)), (2, .int (zI c2)), (3, .int (zI c3))] := hl
  refine lv_aload_n hx hb dX5_setCosts_0 rfl (lv_at hl 0 rfl) ?_
  refine lv_iload_n hx hb dX5_setCosts_1 rfl (lv_at hl 1 rfl) ?_
  refine lv_iconst (v := zI 0) hx hb dX5_setCosts_2 rfl ?_
  refine lv_bipush (v := zI 20) hx hb dX5_setCosts_3 (by decide +kernel) ?_
  refine g_goi (vx_runS (As := [.int (zI c1), .int (zI 0), .int (zI 20)]) (rest := [.ref (B 0)]) ⟨hx, hb, hml, hown, hts⟩ (m_in_t l G H c1 0 20 (by first | assumption | exact ⟨by omega, by omega⟩) ⟨by omega, by omega⟩ ⟨by omega, by omega⟩ (by omega)) (va_cwS 3 hts gX5_setCosts_X5_in rfl rfl rfl hd_X5_in.2 ⟨(Nat.le_of_ble_eq_true rfl), (Nat.le_of_ble_eq_true rfl)⟩) (g_pre hX hS) rfl rfl hl.1 rfl (lv_room (Nat.le_of_ble_eq_true rfl)) dX5_setCosts_5 ⟨(Nat.le_of_ble_eq_true rfl), (Nat.le_of_ble_eq_true rfl)⟩) hS (fun r_5 H_5 locs hp hS => ?_)
  obtain ⟨rfl, rfl⟩ := hp
  refine gz_if_eq (tgt := 35) hx hb (by decide) dX5_setCosts_8 (by decide) (fun c_8 => ?_) (fun c_8 => ?_)
  · omega
  · refine lv_iload_n hx hb dX5_setCosts_11 rfl (lv_at hl 2 rfl) ?_
    refine lv_iconst (v := zI 0) hx hb dX5_setCosts_12 rfl ?_
    refine lv_bipush (v := zI 20) hx hb dX5_setCosts_13 (by decide +kernel) ?_
    refine g_goi (vx_runS (As := [.int (zI c2), .int (zI 0), .int (zI 20)]) (rest := [.ref (B 0)]) ⟨hx, hb, hml, hown, hts⟩ (m_in_f l G H c2 0 20 (by first | assumption | exact ⟨by omega, by omega⟩) ⟨by omega, by omega⟩ ⟨by omega, by omega⟩ (by omega)) (va_cwS 3 hts gX5_setCosts_X5_in rfl rfl rfl hd_X5_in.2 ⟨(Nat.le_of_ble_eq_true rfl), (Nat.le_of_ble_eq_true rfl)⟩) (g_pre hX hS) rfl rfl hl.1 rfl (lv_room (Nat.le_of_ble_eq_true rfl)) dX5_setCosts_15 ⟨(Nat.le_of_ble_eq_true rfl), (Nat.le_of_ble_eq_true rfl)⟩) hS (fun r_15 H_15 locs hp hS => ?_)
    obtain ⟨rfl, rfl⟩ := hp
    refine gz_if_eq (tgt := 35) hx hb (by decide) dX5_setCosts_18 (by decide) (fun c_18 => ?_) (fun c_18 => ?_)
    · refine lv_iconst (v := zI 1) hx hb dX5_setCosts_35 rfl ?_
      refine g_goi (vx_runV (As := [.int (zI 1)]) (rest := []) ⟨hx, hb, hml, hown, hts⟩ (m_holds_k l G B S th ct H hM hI 1 (by decide) (by decide)) (cwV 1 hts gX5_setCosts_X5_holds rfl rfl rfl hd_X5_holds ⟨(Nat.le_of_ble_eq_true rfl), (Nat.le_of_ble_eq_true rfl)⟩) (g_preV hX hS (ci := 5) rfl m0) rfl rfl hl.1 rfl (lv_room (Nat.le_of_ble_eq_true rfl)) dX5_setCosts_36 ⟨(Nat.le_of_ble_eq_true rfl), (Nat.le_of_ble_eq_true rfl)⟩) hS (fun r_36 H_36 locs hp hS => ?_)
      obtain ⟨rfl, hM, hOh⟩ := hp
      obtain ⟨m0, m1, m2, m3, m4, m5, m6, m7, hB, gBs⟩ := id hM
      have hK := hK.trans (hOh.kp1 (oB.k (k := 0) (by omega)))
      refine gz_if_eq (tgt := 57) hx hb (by decide) dX5_setCosts_39 (by decide) (fun c_39 => ?_) (fun c_39 => ?_)
      · exact g_retv hx hb hr hlocks hS (⟨⟨ct, ⟨m0, m1, m2, m3, m4, m5, m6, m7, hB, gBs⟩⟩, hK⟩) (Nat.le_of_ble_eq_true rfl) (Nat.le_of_ble_eq_true rfl) dX5_setCosts_57
      · omega
    · omega
set_option maxHeartbeats 4000000 in
set_option maxRecDepth 100000 in
theorem m_setCosts_3 (l : Launch) (G : gG) (B : Nat → Nat) (S : cS) (th : Int) (ct : Nat → Int32) (H : Heap) (hM : Mod G B S th ct H) (hI : sInv S) (c1 c2 c3 : Int) (hc1 : rI c1) (hc2 : rI c2) (hc3 : rI c3) (h1c : 0 ≤ c1 ∧ c1 ≤ 20) (h2c : 0 ≤ c2 ∧ c2 ≤ 20) (h : ¬ (0 ≤ c3 ∧ c3 ≤ 20)) : gM l yX5_setCosts wsX5_setCosts rm_X5_setCosts [.ref (B 0), .int (zI c1), .int (zI c2), .int (zI c3)] G H (gv (fun H1 => MP G B S 1 H H1)) (gNo) 0 0 := by
  obtain ⟨m0, m1, m2, m3, m4, m5, m6, m7, hB, gBs⟩ := id hM
  have hn16 : sn S ≤ 16 := hI.1
  have gB0 := gBs 0 (by omega)
  have gB1 := gBs 1 (by omega)
  have gB2 := gBs 2 (by omega)
  have gB3 := gBs 3 (by omega)
  have gB4 := gBs 4 (by omega)
  have gB5 := gBs 5 (by omega)
  have gB6 := gBs 6 (by omega)
  have gB7 := gBs 7 (by omega)
  have hK : gKp (oB B) H H := gKp.rf _ _
  refine g_start (cc := cX5_setCosts) (maxL := 4) (ret := none) (by decide +kernel) rfl (Nat.le_of_ble_eq_true rfl) ?_
  intro p e s m args below meth c F ls hl
  obtain ⟨hx, hb, hml, hr, hts, hown, hlocks, hxt, hH, hX, hin⟩ := F
  have hown : s.vm.findClass RX5 = some m.cls := hown
  have hS : va_S (gA G) s.heap H [] := by rw [hH]; exact va_S.rf
  have hl : lv_has ls 4 [(0, .ref (B 0)), (1, .int (zI c1)), (2, .int (zI c2)), (3, .int (zI c3))] := hl
  refine lv_aload_n hx hb dX5_setCosts_0 rfl (lv_at hl 0 rfl) ?_
  refine lv_iload_n hx hb dX5_setCosts_1 rfl (lv_at hl 1 rfl) ?_
  refine lv_iconst (v := zI 0) hx hb dX5_setCosts_2 rfl ?_
  refine lv_bipush (v := zI 20) hx hb dX5_setCosts_3 (by decide +kernel) ?_
  refine g_goi (vx_runS (As := [.int (zI c1), .int (zI 0), .int (zI 20)]) (rest := [.ref (B 0)]) ⟨hx, hb, hml, hown, hts⟩ (m_in_t l G H c1 0 20 (by first | assumption | exact ⟨by omega, by omega⟩) ⟨by omega, by omega⟩ ⟨by omega, by omega⟩ (by omega)) (va_cwS 3 hts gX5_setCosts_X5_in rfl rfl rfl hd_X5_in.2 ⟨(Nat.le_of_ble_eq_true rfl), (Nat.le_of_ble_eq_true rfl)⟩) (g_pre hX hS) rfl rfl hl.1 rfl (lv_room (Nat.le_of_ble_eq_true rfl)) dX5_setCosts_5 ⟨(Nat.le_of_ble_eq_true rfl), (Nat.le_of_ble_eq_true rfl)⟩) hS (fun r_5 H_5 locs hp hS => ?_)
  obtain ⟨rfl, rfl⟩ := hp
  refine gz_if_eq (tgt := 35) hx hb (by decide) dX5_setCosts_8 (by decide) (fun c_8 => ?_) (fun c_8 => ?_)
  · omega
  · refine lv_iload_n hx hb dX5_setCosts_11 rfl (lv_at hl 2 rfl) ?_
    refine lv_iconst (v := zI 0) hx hb dX5_setCosts_12 rfl ?_
    refine lv_bipush (v := zI 20) hx hb dX5_setCosts_13 (by decide +kernel) ?_
    refine g_goi (vx_runS (As := [.int (zI c2), .int (zI 0), .int (zI 20)]) (rest := [.ref (B 0)]) ⟨hx, hb, hml, hown, hts⟩ (m_in_t l G H c2 0 20 (by first | assumption | exact ⟨by omega, by omega⟩) ⟨by omega, by omega⟩ ⟨by omega, by omega⟩ (by omega)) (va_cwS 3 hts gX5_setCosts_X5_in rfl rfl rfl hd_X5_in.2 ⟨(Nat.le_of_ble_eq_true rfl), (Nat.le_of_ble_eq_true rfl)⟩) (g_pre hX hS) rfl rfl hl.1 rfl (lv_room (Nat.le_of_ble_eq_true rfl)) dX5_setCosts_15 ⟨(Nat.le_of_ble_eq_true rfl), (Nat.le_of_ble_eq_true rfl)⟩) hS (fun r_15 H_15 locs hp hS => ?_)
    obtain ⟨rfl, rfl⟩ := hp
    refine gz_if_eq (tgt := 35) hx hb (by decide) dX5_setCosts_18 (by decide) (fun c_18 => ?_) (fun c_18 => ?_)
    · omega
    · refine lv_iload_n hx hb dX5_setCosts_21 rfl (lv_at hl 3 rfl) ?_
      refine lv_iconst (v := zI 0) hx hb dX5_setCosts_22 rfl ?_
      refine lv_bipush (v := zI 20) hx hb dX5_setCosts_23 (by decide +kernel) ?_
      refine g_goi (vx_runS (As := [.int (zI c3), .int (zI 0), .int (zI 20)]) (rest := [.ref (B 0)]) ⟨hx, hb, hml, hown, hts⟩ (m_in_f l G H c3 0 20 (by first | assumption | exact ⟨by omega, by omega⟩) ⟨by omega, by omega⟩ ⟨by omega, by omega⟩ (by omega)) (va_cwS 3 hts gX5_setCosts_X5_in rfl rfl rfl hd_X5_in.2 ⟨(Nat.le_of_ble_eq_true rfl), (Nat.le_of_ble_eq_true rfl)⟩) (g_pre hX hS) rfl rfl hl.1 rfl (lv_room (Nat.le_of_ble_eq_true rfl)) dX5_setCosts_25 ⟨(Nat.le_of_ble_eq_true rfl), (Nat.le_of_ble_eq_true rfl)⟩) hS (fun r_25 H_25 locs hp hS => ?_)
      obtain ⟨rfl, rfl⟩ := hp
      refine gz_if_eq (tgt := 35) hx hb (by decide) dX5_setCosts_28 (by decide) (fun c_28 => ?_) (fun c_28 => ?_)
      · refine lv_iconst (v := zI 1) hx hb dX5_setCosts_35 rfl ?_
        refine g_goi (vx_runV (As := [.int (zI 1)]) (rest := []) ⟨hx, hb, hml, hown, hts⟩ (m_holds_k l G B S th ct H hM hI 1 (by decide) (by decide)) (cwV 1 hts gX5_setCosts_X5_holds rfl rfl rfl hd_X5_holds ⟨(Nat.le_of_ble_eq_true rfl), (Nat.le_of_ble_eq_true rfl)⟩) (g_preV hX hS (ci := 5) rfl m0) rfl rfl hl.1 rfl (lv_room (Nat.le_of_ble_eq_true rfl)) dX5_setCosts_36 ⟨(Nat.le_of_ble_eq_true rfl), (Nat.le_of_ble_eq_true rfl)⟩) hS (fun r_36 H_36 locs hp hS => ?_)
        obtain ⟨rfl, hM, hOh⟩ := hp
        obtain ⟨m0, m1, m2, m3, m4, m5, m6, m7, hB, gBs⟩ := id hM
        have hK := hK.trans (hOh.kp1 (oB.k (k := 0) (by omega)))
        refine gz_if_eq (tgt := 57) hx hb (by decide) dX5_setCosts_39 (by decide) (fun c_39 => ?_) (fun c_39 => ?_)
        · exact g_retv hx hb hr hlocks hS (⟨⟨ct, ⟨m0, m1, m2, m3, m4, m5, m6, m7, hB, gBs⟩⟩, hK⟩) (Nat.le_of_ble_eq_true rfl) (Nat.le_of_ble_eq_true rfl) dX5_setCosts_57
        · omega
      · omega
