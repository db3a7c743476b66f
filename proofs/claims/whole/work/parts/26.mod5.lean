/-! ===== the reference's calls: matches and ranks; its constructor ===== -/
theorem prc_z (S : cS) (k : Nat) : (zB (!srt S k) = 1 ∧ prc S k = costI (tX S k)) ∨ (zB (!srt S k) = 0 ∧ prc S k = -1) := by
  unfold prc
  cases srt S k
  · exact Or.inl ⟨rfl, rfl⟩
  · exact Or.inr ⟨rfl, rfl⟩
theorem mt_s (S : cS) (k : Nat) : ctB (mtB S) (k + 1) = ctB (mtB S) k + if prc S k = -1 then 0 else 1 := by
  rw [ctB]; unfold mtB
  by_cases h : prc S k = -1
  · rw [if_pos h, if_neg (by rw [decide_eq_true_iff]; omega)]
  · rw [if_neg h, if_pos (decide_eq_true h)]
theorem rk_s (S : cS) (t k : Nat) : ctB (rkB S t) (k + 1) = ctB (rkB S t) k + if prc S k ≠ -1 ∧ (prc S k < prc S t ∨ prc S k = prc S t ∧ k < t) then 1 else 0 := by
  rw [ctB]; unfold rkB
  by_cases h : prc S k ≠ -1 ∧ (prc S k < prc S t ∨ prc S k = prc S t ∧ k < t)
  · rw [if_pos h, if_pos (decide_eq_true h)]
  · rw [if_neg h, if_neg (by rw [decide_eq_true_iff]; exact h)]
theorem rk_0 (S : cS) (t : Nat) : ctB (rkB S t) 0 = 0 := rfl
set_option maxHeartbeats 4000000 in
set_option maxRecDepth 100000 in
theorem m_cost_ok (l : Launch) (G : gG) (B : Nat → Nat) (S : cS) (th : Int) (ct : Nat → Int32) (H : Heap) (hM : Mod G B S th ct H) (hI : sInv S) (z : Int) (i : Nat) (hz : z = i) (hi : i < sn S) (hk : srt S i = false)  : gM l yX5_cost wsX5_cost rm_X5_cost [.ref (B 0), .int (zI z)] G H (gi (fun r H1 => zI (costI (tX S i)) = r ∧ MP G B S 0 H H1)) (gNo) 0 0 := by
  obtain ⟨m0, m1, m2, m3, m4, m5, m6, m7, hB, gBs⟩ := id hM
  have hn16 : sn S ≤ 16 := hI.1
  have gB0 := gBs 0 (by omega)
  have gB1 := gBs 1 (by omega)
  have gB2 := gBs 2 (by omega)
  have gB3 := gBs 3 (by omega)
  have gB4 := gBs 4 (by omega)
  have gB5 := gBs 5 (by omega)
  have gB6 := gBs 6 (by omega)
  have gB7 := gBs 7 (by omega)
  have hK : gKp (oB B) H H := gKp.rf _ _
  refine g_start (cc := cX5_cost) (maxL := 2) (ret := (some .int)) (by decide +kernel) rfl (Nat.le_of_ble_eq_true rfl) ?_
  intro p e s m args below meth c F ls hl
  obtain ⟨hx, hb, hml, hr, hts, hown, hlocks, hxt, hH, hX, hin⟩ := F
  have hown : s.vm.findClass RX5 = some m.cls := hown
  have hS : va_S (gA G) s.heap H [] := by rw [hH]; exact va_S.rf
  have hl : lv_has ls 2 [(0, .ref (B 0)), (1, .int (zI z))] := hl
  refine lv_aload_n hx hb dX5_cost_0 rfl (lv_at hl 0 rfl) ?_
  refine lv_aload_n hx hb dX5_cost_1 rfl (lv_at hl 0 rfl) ?_
  refine lv_iload_n hx hb dX5_cost_2 rfl (lv_at hl 1 rfl) ?_
  refine g_goi (vx_runV (As := [.int (zI z)]) (rest := [.ref (B 0)]) ⟨hx, hb, hml, hown, hts⟩ (m_isKnown_t l G B S th ct H hM hI z i hz hi hk) (cwV 1 hts gX5_cost_X5_isKnown rfl rfl rfl hd_X5_isKnown ⟨(Nat.le_of_ble_eq_true rfl), (Nat.le_of_ble_eq_true rfl)⟩) (g_preV hX hS (ci := 5) rfl m0) rfl rfl hl.1 rfl (lv_room (Nat.le_of_ble_eq_true rfl)) dX5_cost_3 ⟨(Nat.le_of_ble_eq_true rfl), (Nat.le_of_ble_eq_true rfl)⟩) hS (fun r_3 H_3 locs hp hS => ?_)
  obtain ⟨rfl, rfl⟩ := hp
  refine gz_if_eq (tgt := 13) hx hb (by decide) dX5_cost_6 (by decide) (fun c_6 => ?_) (fun c_6 => ?_)
  · omega
  · refine lv_iconst (v := zI 0) hx hb dX5_cost_9 rfl ?_
    refine lv_goto (tgt := 14) hx hb dX5_cost_10 (by decide) ?_
    refine g_goi (vx_runV (As := [.int (zI 0)]) (rest := []) ⟨hx, hb, hml, hown, hts⟩ (m_holds_0 l G B S th ct H hM hI 0 rfl) (cwV 1 hts gX5_cost_X5_holds rfl rfl rfl hd_X5_holds ⟨(Nat.le_of_ble_eq_true rfl), (Nat.le_of_ble_eq_true rfl)⟩) (g_preV hX hS (ci := 5) rfl m0) rfl rfl hl.1 rfl (lv_room (Nat.le_of_ble_eq_true rfl)) dX5_cost_14 ⟨(Nat.le_of_ble_eq_true rfl), (Nat.le_of_ble_eq_true rfl)⟩) hS (fun r_14 H_14 locs hp hS => ?_)
    obtain ⟨rfl, hM, hOh⟩ := hp
    obtain ⟨m0, m1, m2, m3, m4, m5, m6, m7, hB, gBs⟩ := id hM
    have hK := hK.trans (hOh.kp1 (oB.k (k := 0) (by omega)))
    refine gz_if_eq (tgt := 28) hx hb (by decide) dX5_cost_17 (by decide) (fun c_17 => ?_) (fun c_17 => ?_)
    · omega
    · refine lv_aload_n hx hb dX5_cost_20 rfl (lv_at hl 0 rfl) ?_
      refine lv_iload_n hx hb dX5_cost_21 rfl (lv_at hl 1 rfl) ?_
      refine g_goi (vx_runV (As := [.int (zI z)]) (rest := []) ⟨hx, hb, hml, hown, hts⟩ (m_costOf l G B S 0 ct H_14 hM hI z i hz hi) (cwV 1 hts gX5_cost_X5_costOf rfl rfl rfl hd_X5_costOf ⟨(Nat.le_of_ble_eq_true rfl), (Nat.le_of_ble_eq_true rfl)⟩) (g_preV hX hS (ci := 5) rfl m0) rfl rfl hl.1 rfl (lv_room (Nat.le_of_ble_eq_true rfl)) dX5_cost_22 ⟨(Nat.le_of_ble_eq_true rfl), (Nat.le_of_ble_eq_true rfl)⟩) hS (fun r_22 H_22 locs hp hS => ?_)
      obtain ⟨rfl, ⟨ct_22, hM⟩, hO9⟩ := hp
      obtain ⟨m0, m1, m2, m3, m4, m5, m6, m7, hB, gBs⟩ := id hM
      have hK := hK.trans (hO9.kp1 (oB.k (k := 6) (by omega)))
      have hcr_22 : -1 ≤ costI (tX S i) ∧ costI (tX S i) ≤ 36000 := lastC_rng (tX_ok hI i) _
      refine lv_goto (tgt := 29) hx hb dX5_cost_25 (by decide) ?_
      exact g_reti hx hb hr hlocks hS rfl (⟨rfl, ⟨ct_22, ⟨m0, m1, m2, m3, m4, m5, m6, m7, hB, gBs⟩⟩, hK⟩) (Nat.le_of_ble_eq_true rfl) (Nat.le_of_ble_eq_true rfl) dX5_cost_29
set_option maxHeartbeats 4000000 in
set_option maxRecDepth 100000 in
theorem m_cost_e1 (l : Launch) (G : gG) (B : Nat → Nat) (S : cS) (th : Int) (ct : Nat → Int32) (H : Heap) (hM : Mod G B S th ct H) (hI : sInv S) (z : Int) (hz : rI z) (hi : ¬ kwn S z)  : gM l yX5_cost wsX5_cost rm_X5_cost [.ref (B 0), .int (zI z)] G H (gi (fun r H1 => zI 0 = r ∧ MP G B S 1 H H1)) (gNo) 0 0 := by
  obtain ⟨m0, m1, m2, m3, m4, m5, m6, m7, hB, gBs⟩ := id hM
  have hn16 : sn S ≤ 16 := hI.1
  have gB0 := gBs 0 (by omega)
  have gB1 := gBs 1 (by omega)
  have gB2 := gBs 2 (by omega)
  have gB3 := gBs 3 (by omega)
  have gB4 := gBs 4 (by omega)
  have gB5 := gBs 5 (by omega)
  have gB6 := gBs 6 (by omega)
  have gB7 := gBs 7 (by omega)
  have hK : gKp (oB B) H H := gKp.rf _ _
  refine g_start (cc := cX5_cost) (maxL := 2) (ret := (some .int)) (by decide +kernel) rfl (Nat.le_of_ble_eq_true rfl) ?_
  intro p e s m args below meth c F ls hl
  obtain ⟨hx, hb, hml, hr, hts, hown, hlocks, hxt, hH, hX, hin⟩ := F
  have hown : s.vm.findClass RX5 = some m.cls := hown
  have hS : va_S (gA G) s.heap H [] := by rw [hH]; exact va_S.rf
  have hl : lv_has ls 2 [(0, .ref (B 0)), (1, .int (zI z))] := hl
  refine lv_aload_n hx hb dX5_cost_0 rfl (lv_at hl 0 rfl) ?_
  refine lv_aload_n hx hb dX5_cost_1 rfl (lv_at hl 0 rfl) ?_
  refine lv_iload_n hx hb dX5_cost_2 rfl (lv_at hl 1 rfl) ?_
  refine g_goi (vx_runV (As := [.int (zI z)]) (rest := [.ref (B 0)]) ⟨hx, hb, hml, hown, hts⟩ (m_isKnown_f l G B S th ct H hM hI z hz hi) (cwV 1 hts gX5_cost_X5_isKnown rfl rfl rfl hd_X5_isKnown ⟨(Nat.le_of_ble_eq_true rfl), (Nat.le_of_ble_eq_true rfl)⟩) (g_preV hX hS (ci := 5) rfl m0) rfl rfl hl.1 rfl (lv_room (Nat.le_of_ble_eq_true rfl)) dX5_cost_3 ⟨(Nat.le_of_ble_eq_true rfl), (Nat.le_of_ble_eq_true rfl)⟩) hS (fun r_3 H_3 locs hp hS => ?_)
  obtain ⟨rfl, rfl⟩ := hp
  refine gz_if_eq (tgt := 13) hx hb (by decide) dX5_cost_6 (by decide) (fun c_6 => ?_) (fun c_6 => ?_)
  · refine lv_iconst (v := zI 1) hx hb dX5_cost_13 rfl ?_
    refine g_goi (vx_runV (As := [.int (zI 1)]) (rest := []) ⟨hx, hb, hml, hown, hts⟩ (m_holds_k l G B S th ct H hM hI 1 (by decide) (by decide)) (cwV 1 hts gX5_cost_X5_holds rfl rfl rfl hd_X5_holds ⟨(Nat.le_of_ble_eq_true rfl), (Nat.le_of_ble_eq_true rfl)⟩) (g_preV hX hS (ci := 5) rfl m0) rfl rfl hl.1 rfl (lv_room (Nat.le_of_ble_eq_true rfl)) dX5_cost_14 ⟨(Nat.le_of_ble_eq_true rfl), (Nat.le_of_ble_eq_true rfl)⟩) hS (fun r_14 H_14 locs hp hS => ?_)
    obtain ⟨rfl, hM, hOh⟩ := hp
    obtain ⟨m0, m1, m2, m3, m4, m5, m6, m7, hB, gBs⟩ := id hM
    have hK := hK.trans (hOh.kp1 (oB.k (k := 0) (by omega)))
    refine gz_if_eq (tgt := 28) hx hb (by decide) dX5_cost_17 (by decide) (fun c_17 => ?_) (fun c_17 => ?_)
    · refine lv_iconst (v := zI 0) hx hb dX5_cost_28 rfl ?_
      exact g_reti hx hb hr hlocks hS rfl (⟨rfl, ⟨ct, ⟨m0, m1, m2, m3, m4, m5, m6, m7, hB, gBs⟩⟩, hK⟩) (Nat.le_of_ble_eq_true rfl) (Nat.le_of_ble_eq_true rfl) dX5_cost_29
    · omega
  · omega
set_option maxHeartbeats 4000000 in
set_option maxRecDepth 100000 in
theorem m_costByAll_ok (l : Launch) (G : gG) (B : Nat → Nat) (S : cS) (th : Int) (ct : Nat → Int32) (H : Heap) (hM : Mod G B S th ct H) (hI : sInv S) (z : Int) (i : Nat) (hz : z = i) (hi : i < sn S) (hk : srt S i = false) (h8 : shn S ≤ 8) : gM l yX5_costByAll wsX5_costByAll rm_X5_costByAll [.ref (B 0), .int (zI z)] G H (gi (fun r H1 => zI (costI (tX S i)) = r ∧ MP G B S 0 H H1)) (gNo) 0 0 := by
  obtain ⟨m0, m1, m2, m3, m4, m5, m6, m7, hB, gBs⟩ := id hM
  have hn16 : sn S ≤ 16 := hI.1
  have gB0 := gBs 0 (by omega)
  have gB1 := gBs 1 (by omega)
  have gB2 := gBs 2 (by omega)
  have gB3 := gBs 3 (by omega)
  have gB4 := gBs 4 (by omega)
  have gB5 := gBs 5 (by omega)
  have gB6 := gBs 6 (by omega)
  have gB7 := gBs 7 (by omega)
  have hK : gKp (oB B) H H := gKp.rf _ _
  refine g_start (cc := cX5_costByAll) (maxL := 2) (ret := (some .int)) (by decide +kernel) rfl (Nat.le_of_ble_eq_true rfl) ?_
  intro p e s m args below meth c F ls hl
  obtain ⟨hx, hb, hml, hr, hts, hown, hlocks, hxt, hH, hX, hin⟩ := F
  have hown : s.vm.findClass RX5 = some m.cls := hown
  have hS : va_S (gA G) s.heap H [] := by rw [hH]; exact va_S.rf
  have hl : lv_has ls 2 [(0, .ref (B 0)), (1, .int (zI z))] := hl
  refine lv_aload_n hx hb dX5_costByAll_0 rfl (lv_at hl 0 rfl) ?_
  refine lv_aload_n hx hb dX5_costByAll_1 rfl (lv_at hl 0 rfl) ?_
  refine lv_iload_n hx hb dX5_costByAll_2 rfl (lv_at hl 1 rfl) ?_
  refine g_goi (vx_runV (As := [.int (zI z)]) (rest := [.ref (B 0)]) ⟨hx, hb, hml, hown, hts⟩ (m_isKnown_t l G B S th ct H hM hI z i hz hi hk) (cwV 1 hts gX5_costByAll_X5_isKnown rfl rfl rfl hd_X5_isKnown ⟨(Nat.le_of_ble_eq_true rfl), (Nat.le_of_ble_eq_true rfl)⟩) (g_preV hX hS (ci := 5) rfl m0) rfl rfl hl.1 rfl (lv_room (Nat.le_of_ble_eq_true rfl)) dX5_costByAll_3 ⟨(Nat.le_of_ble_eq_true rfl), (Nat.le_of_ble_eq_true rfl)⟩) hS (fun r_3 H_3 locs hp hS => ?_)
  obtain ⟨rfl, rfl⟩ := hp
  refine gz_if_ne (tgt := 13) hx hb (by decide) dX5_costByAll_6 (by decide) (fun c_6 => ?_) (fun c_6 => ?_)
  · refine lv_aload_n hx hb dX5_costByAll_13 rfl (lv_at hl 0 rfl) ?_
    refine g_get hx hb hX hts (fun w h => (List.mem_cons_of_mem _ (List.mem_append_right _ h))) hown m0 rfl 7 (by decide) (hts (.fieldLink RX5 81 "TuneCatalogueModel" "hummed" "I") (List.mem_cons_of_mem _ (List.mem_append_left _ (List.mem_append_left _ (List.mem_of_getElem? (i := 0) rfl))))) rfl dX5_costByAll_14 ?_
    refine lv_bipush (v := zI 8) hx hb dX5_costByAll_17 (by decide +kernel) ?_
    refine gz_icmp_le (tgt := 26) hx hb ⟨by omega, by omega⟩ (by decide) dX5_costByAll_19 (by decide) (fun c_19 => ?_) (fun c_19 => ?_)
    · refine lv_iconst (v := zI 0) hx hb dX5_costByAll_26 rfl ?_
      refine g_goi (vx_runV (As := [.int (zI 0)]) (rest := []) ⟨hx, hb, hml, hown, hts⟩ (m_holds_0 l G B S th ct H hM hI 0 rfl) (cwV 1 hts gX5_costByAll_X5_holds rfl rfl rfl hd_X5_holds ⟨(Nat.le_of_ble_eq_true rfl), (Nat.le_of_ble_eq_true rfl)⟩) (g_preV hX hS (ci := 5) rfl m0) rfl rfl hl.1 rfl (lv_room (Nat.le_of_ble_eq_true rfl)) dX5_costByAll_27 ⟨(Nat.le_of_ble_eq_true rfl), (Nat.le_of_ble_eq_true rfl)⟩) hS (fun r_27 H_27 locs hp hS => ?_)
      obtain ⟨rfl, hM, hOh⟩ := hp
      obtain ⟨m0, m1, m2, m3, m4, m5, m6, m7, hB, gBs⟩ := id hM
      have hK := hK.trans (hOh.kp1 (oB.k (k := 0) (by omega)))
      refine gz_if_eq (tgt := 41) hx hb (by decide) dX5_costByAll_30 (by decide) (fun c_30 => ?_) (fun c_30 => ?_)
      · omega
      · refine lv_aload_n hx hb dX5_costByAll_33 rfl (lv_at hl 0 rfl) ?_
        refine lv_iload_n hx hb dX5_costByAll_34 rfl (lv_at hl 1 rfl) ?_
        refine g_goi (vx_runV (As := [.int (zI z)]) (rest := []) ⟨hx, hb, hml, hown, hts⟩ (m_costOf l G B S 0 ct H_27 hM hI z i hz hi) (cwV 1 hts gX5_costByAll_X5_costOf rfl rfl rfl hd_X5_costOf ⟨(Nat.le_of_ble_eq_true rfl), (Nat.le_of_ble_eq_true rfl)⟩) (g_preV hX hS (ci := 5) rfl m0) rfl rfl hl.1 rfl (lv_room (Nat.le_of_ble_eq_true rfl)) dX5_costByAll_35 ⟨(Nat.le_of_ble_eq_true rfl), (Nat.le_of_ble_eq_true rfl)⟩) hS (fun r_35 H_35 locs hp hS => ?_)
        obtain ⟨rfl, ⟨ct_35, hM⟩, hO9⟩ := hp
        obtain ⟨m0, m1, m2, m3, m4, m5, m6, m7, hB, gBs⟩ := id hM
        have hK := hK.trans (hO9.kp1 (oB.k (k := 6) (by omega)))
        have hcr_35 : -1 ≤ costI (tX S i) ∧ costI (tX S i) ≤ 36000 := lastC_rng (tX_ok hI i) _
        refine lv_goto (tgt := 42) hx hb dX5_costByAll_38 (by decide) ?_
        exact g_reti hx hb hr hlocks hS rfl (⟨rfl, ⟨ct_35, ⟨m0, m1, m2, m3, m4, m5, m6, m7, hB, gBs⟩⟩, hK⟩) (Nat.le_of_ble_eq_true rfl) (Nat.le_of_ble_eq_true rfl) dX5_costByAll_42
    · omega
  · omega
set_option maxHeartbeats 4000000 in
set_option maxRecDepth 100000 in
theorem m_costByAll_e1 (l : Launch) (G : gG) (B : Nat → Nat) (S : cS) (th : Int) (ct : Nat → Int32) (H : Heap) (hM : Mod G B S th ct H) (hI : sInv S) (z : Int) (hz : rI z) (hi : ¬ kwn S z)  : gM l yX5_costByAll wsX5_costByAll rm_X5_costByAll [.ref (B 0), .int (zI z)] G H (gi (fun r H1 => zI 0 = r ∧ MP G B S 1 H H1)) (gNo) 0 0 := by
  obtain ⟨m0, m1, m2, m3, m4, m5, m6, m7, hB, gBs⟩ := id hM
  have hn16 : sn S ≤ 16 := hI.1
  have gB0 := gBs 0 (by omega)
  have gB1 := gBs 1 (by omega)
  have gB2 := gBs 2 (by omega)
  have gB3 := gBs 3 (by omega)
  have gB4 := gBs 4 (by omega)
  have gB5 := gBs 5 (by omega)
  have gB6 := gBs 6 (by omega)
  have gB7 := gBs 7 (by omega)
  have hK : gKp (oB B) H H := gKp.rf _ _
  refine g_start (cc := cX5_costByAll) (maxL := 2) (ret := (some .int)) (by decide +kernel) rfl (Nat.le_of_ble_eq_true rfl) ?_
  intro p e s m args below meth c F ls hl
  obtain ⟨hx, hb, hml, hr, hts, hown, hlocks, hxt, hH, hX, hin⟩ := F
  have hown : s.vm.findClass RX5 = some m.cls := hown
  have hS : va_S (gA G) s.heap H [] := by rw [hH]; exact va_S.rf
  have hl : lv_has ls 2 [(0, .ref (B 0)), (1, .int (zI z))] := hl
  refine lv_aload_n hx hb dX5_costByAll_0 rfl (lv_at hl 0 rfl) ?_
  refine lv_aload_n hx hb dX5_costByAll_1 rfl (lv_at hl 0 rfl) ?_
  refine lv_iload_n hx hb dX5_costByAll_2 rfl (lv_at hl 1 rfl) ?_
  refine g_goi (vx_runV (As := [.int (zI z)]) (rest := [.ref (B 0)]) ⟨hx, hb, hml, hown, hts⟩ (m_isKnown_f l G B S th ct H hM hI z hz hi) (cwV 1 hts gX5_costByAll_X5_isKnown rfl rfl rfl hd_X5_isKnown ⟨(Nat.le_of_ble_eq_true rfl), (Nat.le_of_ble_eq_true rfl)⟩) (g_preV hX hS (ci := 5) rfl m0) rfl rfl hl.1 rfl (lv_room (Nat.le_of_ble_eq_true rfl)) dX5_costByAll_3 ⟨(Nat.le_of_ble_eq_true rfl), (Nat.le_of_ble_eq_true rfl)⟩) hS (fun r_3 H_3 locs hp hS => ?_)
  obtain ⟨rfl, rfl⟩ := hp
  refine gz_if_ne (tgt := 13) hx hb (by decide) dX5_costByAll_6 (by decide) (fun c_6 => ?_) (fun c_6 => ?_)
  · omega
  · refine lv_iconst (v := zI 1) hx hb dX5_costByAll_9 rfl ?_
    refine lv_goto (tgt := 27) hx hb dX5_costByAll_10 (by decide) ?_
    refine g_goi (vx_runV (As := [.int (zI 1)]) (rest := []) ⟨hx, hb, hml, hown, hts⟩ (m_holds_k l G B S th ct H hM hI 1 (by decide) (by decide)) (cwV 1 hts gX5_costByAll_X5_holds rfl rfl rfl hd_X5_holds ⟨(Nat.le_of_ble_eq_true rfl), (Nat.le_of_ble_eq_true rfl)⟩) (g_preV hX hS (ci := 5) rfl m0) rfl rfl hl.1 rfl (lv_room (Nat.le_of_ble_eq_true rfl)) dX5_costByAll_27 ⟨(Nat.le_of_ble_eq_true rfl), (Nat.le_of_ble_eq_true rfl)⟩) hS (fun r_27 H_27 locs hp hS => ?_)
    obtain ⟨rfl, hM, hOh⟩ := hp
    obtain ⟨m0, m1, m2, m3, m4, m5, m6, m7, hB, gBs⟩ := id hM
    have hK := hK.trans (hOh.kp1 (oB.k (k := 0) (by omega)))
    refine gz_if_eq (tgt := 41) hx hb (by decide) dX5_costByAll_30 (by decide) (fun c_30 => ?_) (fun c_30 => ?_)
    · refine lv_iconst (v := zI 0) hx hb dX5_costByAll_41 rfl ?_
      exact g_reti hx hb hr hlocks hS rfl (⟨rfl, ⟨ct, ⟨m0, m1, m2, m3, m4, m5, m6, m7, hB, gBs⟩⟩, hK⟩) (Nat.le_of_ble_eq_true rfl) (Nat.le_of_ble_eq_true rfl) dX5_costByAll_42
    · omega
set_option maxHeartbeats 4000000 in
set_option maxRecDepth 100000 in
theorem m_costByAll_e2 (l : Launch) (G : gG) (B : Nat → Nat) (S : cS) (th : Int) (ct : Nat → Int32) (H : Heap) (hM : Mod G B S th ct H) (hI : sInv S) (z : Int) (i : Nat) (hz : z = i) (hi : i < sn S) (hk : srt S i = false) (h8 : ¬ shn S ≤ 8) : gM l yX5_costByAll wsX5_costByAll rm_X5_costByAll [.ref (B 0), .int (zI z)] G H (gi (fun r H1 => zI 0 = r ∧ MP G B S 2 H H1)) (gNo) 0 0 := by
  obtain ⟨m0, m1, m2, m3, m4, m5, m6, m7, hB, gBs⟩ := id hM
  have hn16 : sn S ≤ 16 := hI.1
  have gB0 := gBs 0 (by omega)
  have gB1 := gBs 1 (by omega)
  have gB2 := gBs 2 (by omega)
  have gB3 := gBs 3 (by omega)
  have gB4 := gBs 4 (by omega)
  have gB5 := gBs 5 (by omega)
  have gB6 := gBs 6 (by omega)
  have gB7 := gBs 7 (by omega)
  have hK : gKp (oB B) H H := gKp.rf _ _
  have hh12 : shn S ≤ 12 := hI.2.2.2.2.2.1
  refine g_start (cc := cX5_costByAll) (maxL := 2) (ret := (some .int)) (by decide +kernel) rfl (Nat.le_of_ble_eq_true rfl) ?_
  intro p e s m args below meth c F ls hl
  obtain ⟨hx, hb, hml, hr, hts, hown, hlocks, hxt, hH, hX, hin⟩ := F
  have hown : s.vm.findClass RX5 = some m.cls := hown
  have hS : va_S (gA G) s.heap H [] := by rw [hH]; exact va_S.rf
  have hl : lv_has ls 2 [(0, .ref (B 0)), (1, .int (zI z))] := hl
  refine lv_aload_n hx hb dX5_costByAll_0 rfl (lv_at hl 0 rfl) ?_
  refine lv_aload_n hx hb dX5_costByAll_1 rfl (lv_at hl 0 rfl) ?_
  refine lv_iload_n hx hb dX5_costByAll_2 rfl (lv_at hl 1 rfl) ?_
  refine g_goi (vx_runV (As := [.int (zI z)]) (rest := [.ref (B 0)]) ⟨hx, hb, hml, hown, hts⟩ (m_isKnown_t l G B S th ct H hM hI z i hz hi hk) (cwV 1 hts gX5_costByAll_X5_isKnown rfl rfl rfl hd_X5_isKnown ⟨(Nat.le_of_ble_eq_true rfl), (Nat.le_of_ble_eq_true rfl)⟩) (g_preV hX hS (ci := 5) rfl m0) rfl rfl hl.1 rfl (lv_room (Nat.le_of_ble_eq_true rfl)) dX5_costByAll_3 ⟨(Nat.le_of_ble_eq_true rfl), (Nat.le_of_ble_eq_true rfl)⟩) hS (fun r_3 H_3 locs hp hS => ?_)
  obtain ⟨rfl, rfl⟩ := hp
  refine gz_if_ne (tgt := 13) hx hb (by decide) dX5_costByAll_6 (by decide) (fun c_6 => ?_) (fun c_6 => ?_)
  · refine lv_aload_n hx hb dX5_costByAll_13 rfl (lv_at hl 0 rfl) ?_
    refine g_get hx hb hX hts (fun w h => (List.mem_cons_of_mem _ (List.mem_append_right _ h))) hown m0 rfl 7 (by decide) (hts (.fieldLink RX5 81 "TuneCatalogueModel" "hummed" "I") (List.mem_cons_of_mem _ (List.mem_append_left _ (List.mem_append_left _ (List.mem_of_getElem? (i := 0) rfl))))) rfl dX5_costByAll_14 ?_
    refine lv_bipush (v := zI 8) hx hb dX5_costByAll_17 (by decide +kernel) ?_
    refine gz_icmp_le (tgt := 26) hx hb ⟨by omega, by omega⟩ (by decide) dX5_costByAll_19 (by decide) (fun c_19 => ?_) (fun c_19 => ?_)
    · omega
    · refine lv_iconst (v := zI 2) hx hb dX5_costByAll_22 rfl ?_
      refine lv_goto (tgt := 27) hx hb dX5_costByAll_23 (by decide) ?_
      refine g_goi (vx_runV (As := [.int (zI 2)]) (rest := []) ⟨hx, hb, hml, hown, hts⟩ (m_holds_k l G B S th ct H hM hI 2 (by decide) (by decide)) (cwV 1 hts gX5_costByAll_X5_holds rfl rfl rfl hd_X5_holds ⟨(Nat.le_of_ble_eq_true rfl), (Nat.le_of_ble_eq_true rfl)⟩) (g_preV hX hS (ci := 5) rfl m0) rfl rfl hl.1 rfl (lv_room (Nat.le_of_ble_eq_true rfl)) dX5_costByAll_27 ⟨(Nat.le_of_ble_eq_true rfl), (Nat.le_of_ble_eq_true rfl)⟩) hS (fun r_27 H_27 locs hp hS => ?_)
      obtain ⟨rfl, hM, hOh⟩ := hp
      obtain ⟨m0, m1, m2, m3, m4, m5, m6, m7, hB, gBs⟩ := id hM
      have hK := hK.trans (hOh.kp1 (oB.k (k := 0) (by omega)))
      refine gz_if_eq (tgt := 41) hx hb (by decide) dX5_costByAll_30 (by decide) (fun c_30 => ?_) (fun c_30 => ?_)
      · refine lv_iconst (v := zI 0) hx hb dX5_costByAll_41 rfl ?_
        exact g_reti hx hb hr hlocks hS rfl (⟨rfl, ⟨ct, ⟨m0, m1, m2, m3, m4, m5, m6, m7, hB, gBs⟩⟩, hK⟩) (Nat.le_of_ble_eq_true rfl) (Nat.le_of_ble_eq_true rfl) dX5_costByAll_42
      · omega
  · omega
set_option maxHeartbeats 4000000 in
set_option maxRecDepth 100000 in
theorem m_many (l : Launch) (G : gG) (B : Nat → Nat) (S : cS) (th : Int) (ct : Nat → Int32) (H : Heap) (hM : Mod G B S th ct H) (hI : sInv S)  : gM l yX5_many wsX5_many rm_X5_many [.ref (B 0)] G H (gi (fun r H1 => zI (manyF S : Nat) = r ∧ MC G B S th H H1)) (gNo) 0 0 := by
  obtain ⟨m0, m1, m2, m3, m4, m5, m6, m7, hB, gBs⟩ := id hM
  have hn16 : sn S ≤ 16 := hI.1
  have gB0 := gBs 0 (by omega)
  have gB1 := gBs 1 (by omega)
  have gB2 := gBs 2 (by omega)
  have gB3 := gBs 3 (by omega)
  have gB4 := gBs 4 (by omega)
  have gB5 := gBs 5 (by omega)
  have gB6 := gBs 6 (by omega)
  have gB7 := gBs 7 (by omega)
  refine g_start (cc := cX5_many) (maxL := 3) (ret := (some .int)) (by decide +kernel) rfl (Nat.le_of_ble_eq_true rfl) ?_
  intro p e s m args below meth c F ls hl
  obtain ⟨hx, hb, hml, hr, hts, hown, hlocks, hxt, hH, hX, hin⟩ := F
  have hown : s.vm.findClass RX5 = some m.cls := hown
  have hS : va_S (gA G) s.heap H [] := by rw [hH]; exact va_S.rf
  have hl : lv_has ls 3 [(0, .ref (B 0))] := hl
  refine lv_iconst (v := zI 0) hx hb dX5_many_0 rfl ?_
  refine lv_istore_n (lv' := [(1, .int (zI 0)), (0, .ref (B 0))]) hx hb dX5_many_1 rfl hl (by decide) rfl (fun ls hl => ?_)
  refine lv_iconst (v := zI 0) hx hb dX5_many_2 rfl ?_
  refine lv_istore_n (lv' := [(2, .int (zI 0)), (1, .int (zI 0)), (0, .ref (B 0))]) hx hb dX5_many_3 rfl hl (by decide) rfl (fun ls hl => ?_)
  have loop_4 : ∀ (M_ : Nat) (y : Int) (k : Nat) (x : Int) (cg : Nat → Int32) (H_L4 : Heap) (locs : List Loc), sn S - k < M_ → (y = k) → (k ≤ sn S) → (x = (ctB (mtB S) k : Nat)) → (Mod G B S th cg H_L4) → (gOnly [B 6] H H_L4) → va_S (gA G) s.heap H_L4 locs → ∀ (ls : Array Slot), lv_has ls 3 [(2, .int (zI y)), (1, .int (zI x)), (0, .ref (B 0))] → W p l e rm_X5_many s m args below meth c H_L4 locs (0) (0) (vx_MQ below (gQ G (gi (fun r H1 => zI (manyF S : Nat) = r ∧ MC G B S th H H1))) (gXC G (gNo)) args s 0 0 (gA G)) (F0 m 4 ls []) := by
    intro M_
    induction M_ with
    | zero => intro y k x cg H_0 locs_0 h_0; exact absurd h_0 (Nat.not_lt_zero _)
    | succ M_ ih_4 =>
      intro y k x cg H_L4 locs hM_4 hy hkn hx1 hM hOc hS ls hl
      obtain ⟨m0, m1, m2, m3, m4, m5, m6, m7, hB, gBs⟩ := id hM
      have hpz := prc_z S k
      have hcb := ctB_le (mtB S) k
      refine lv_iload_n hx hb dX5_many_4 rfl (lv_at hl 0 rfl) ?_
      refine lv_aload_n hx hb dX5_many_5 rfl (lv_at hl 2 rfl) ?_
      refine g_get hx hb hX hts (fun w h => (List.mem_cons_of_mem _ (List.mem_append_right _ h))) hown m0 rfl 1 (by decide) (hts (.fieldLink RX5 45 "TuneCatalogueModel" "tunes" "I") (List.mem_cons_of_mem _ (List.mem_append_left _ (List.mem_append_left _ (List.mem_of_getElem? (i := 0) rfl))))) rfl dX5_many_6 ?_
      refine gz_icmp_ge (tgt := 43) hx hb ⟨by omega, by omega⟩ ⟨by omega, by omega⟩ dX5_many_9 (by decide) (fun c_9 => ?_) (fun c_9 => ?_)
      · refine lv_iload_n hx hb dX5_many_43 rfl (lv_at hl 1 rfl) ?_
        exact g_reti hx hb hr hlocks hS rfl (⟨by rw [hx1, show k = sn S by omega]; rfl, ⟨cg, hM⟩, hOc⟩) (Nat.le_of_ble_eq_true rfl) (Nat.le_of_ble_eq_true rfl) dX5_many_44
      · refine lv_iload_n hx hb dX5_many_12 rfl (lv_at hl 1 rfl) ?_
        refine lv_aload_n hx hb dX5_many_13 rfl (lv_at hl 2 rfl) ?_
        refine lv_iload_n hx hb dX5_many_14 rfl (lv_at hl 0 rfl) ?_
        refine g_goi (vx_runV (As := [.int (zI y)]) (rest := [.int (zI x)]) ⟨hx, hb, hml, hown, hts⟩ (m_isKnown l G B S th cg H_L4 hM hI y k (by omega) (by omega)) (cwV 1 hts gX5_many_X5_isKnown rfl rfl rfl hd_X5_isKnown ⟨(Nat.le_of_ble_eq_true rfl), (Nat.le_of_ble_eq_true rfl)⟩) (g_preV hX hS (ci := 5) rfl m0) rfl rfl hl.1 rfl (lv_room (Nat.le_of_ble_eq_true rfl)) dX5_many_15 ⟨(Nat.le_of_ble_eq_true rfl), (Nat.le_of_ble_eq_true rfl)⟩) hS (fun r_15 H_15 locs hp hS => ?_)
        obtain ⟨rfl, rfl⟩ := hp
        refine gz_if_eq (tgt := 34) hx hb (by cases srt S k <;> decide) dX5_many_18 (by decide) (fun c_18 => ?_) (fun c_18 => ?_)
        · refine lv_iconst (v := zI 0) hx hb dX5_many_34 rfl ?_
          refine gz_iadd hx hb dX5_many_35 ?_
          have hx2 : x + 0 = (ctB (mtB S) (k + 1) : Nat) := by
            rw [mt_s]
            first
            | (rw [if_pos (by omega)]; omega)
            | (rw [if_neg (by omega)]; omega)
          refine lv_istore_n (lv' := [(1, .int (zI (x + 0))), (2, .int (zI y)), (0, .ref (B 0))]) hx hb dX5_many_36 rfl hl (by decide) rfl (fun ls hl => ?_)
          refine lv_iinc (v := zI (y + 1)) (lv' := [(2, .int (zI (y + 1))), (1, .int (zI (x + 0))), (0, .ref (B 0))]) hx hb dX5_many_37 hl (k := 1) rfl (zI_add _ _) (by decide) rfl (fun ls hl => ?_)
          refine lv_goto (tgt := 4) hx hb dX5_many_40 (by decide) ?_
          exact ih_4 (y + 1) (k + 1) (x + 0) cg H_L4 _ (by omega) (by omega) (by omega) hx2 hM hOc hS ls (lv_sub hl [0, 1, 2] rfl)
        · refine lv_aload_n hx hb dX5_many_21 rfl (lv_at hl 2 rfl) ?_
          refine lv_iload_n hx hb dX5_many_22 rfl (lv_at hl 0 rfl) ?_
          refine g_goi (vx_runV (As := [.int (zI y)]) (rest := [.int (zI x)]) ⟨hx, hb, hml, hown, hts⟩ (m_costOf l G B S th cg H_L4 hM hI y k (by omega) (by omega)) (cwV 1 hts gX5_many_X5_costOf rfl rfl rfl hd_X5_costOf ⟨(Nat.le_of_ble_eq_true rfl), (Nat.le_of_ble_eq_true rfl)⟩) (g_preV hX hS (ci := 5) rfl m0) rfl rfl hl.1 rfl (lv_room (Nat.le_of_ble_eq_true rfl)) dX5_many_23 ⟨(Nat.le_of_ble_eq_true rfl), (Nat.le_of_ble_eq_true rfl)⟩) hS (fun r_23 H_23 locs hp hS => ?_)
          obtain ⟨rfl, ⟨ct_23, hM⟩, hO9⟩ := hp
          obtain ⟨m0, m1, m2, m3, m4, m5, m6, m7, hB, gBs⟩ := id hM
          have hOc := hOc.trans hO9 (fun _ h => h) (fun _ h => h)
          have hcr_23 : -1 ≤ costI (tX S k) ∧ costI (tX S k) ≤ 36000 := lastC_rng (tX_ok hI k) _
          refine lv_iconst (v := zI (-1)) hx hb dX5_many_26 rfl ?_
          refine gz_icmp_eq (tgt := 34) hx hb ⟨by omega, by omega⟩ (by decide) dX5_many_27 (by decide) (fun c_27 => ?_) (fun c_27 => ?_)
          · refine lv_iconst (v := zI 0) hx hb dX5_many_34 rfl ?_
            refine gz_iadd hx hb dX5_many_35 ?_
            have hx2 : x + 0 = (ctB (mtB S) (k + 1) : Nat) := by
              rw [mt_s]
              first
              | (rw [if_pos (by omega)]; omega)
              | (rw [if_neg (by omega)]; omega)
            refine lv_istore_n (lv' := [(1, .int (zI (x + 0))), (2, .int (zI y)), (0, .ref (B 0))]) hx hb dX5_many_36 rfl hl (by decide) rfl (fun ls hl => ?_)
            refine lv_iinc (v := zI (y + 1)) (lv' := [(2, .int (zI (y + 1))), (1, .int (zI (x + 0))), (0, .ref (B 0))]) hx hb dX5_many_37 hl (k := 1) rfl (zI_add _ _) (by decide) rfl (fun ls hl => ?_)
            refine lv_goto (tgt := 4) hx hb dX5_many_40 (by decide) ?_
            exact ih_4 (y + 1) (k + 1) (x + 0) ct_23 H_23 _ (by omega) (by omega) (by omega) hx2 hM hOc hS ls (lv_sub hl [0, 1, 2] rfl)
          · refine lv_iconst (v := zI 1) hx hb dX5_many_30 rfl ?_
            refine lv_goto (tgt := 35) hx hb dX5_many_31 (by decide) ?_
            refine gz_iadd hx hb dX5_many_35 ?_
            have hx2 : x + 1 = (ctB (mtB S) (k + 1) : Nat) := by
              rw [mt_s]
              first
              | (rw [if_pos (by omega)]; omega)
              | (rw [if_neg (by omega)]; omega)
            refine lv_istore_n (lv' := [(1, .int (zI (x + 1))), (2, .int (zI y)), (0, .ref (B 0))]) hx hb dX5_many_36 rfl hl (by decide) rfl (fun ls hl => ?_)
            refine lv_iinc (v := zI (y + 1)) (lv' := [(2, .int (zI (y + 1))), (1, .int (zI (x + 1))), (0, .ref (B 0))]) hx hb dX5_many_37 hl (k := 1) rfl (zI_add _ _) (by decide) rfl (fun ls hl => ?_)
            refine lv_goto (tgt := 4) hx hb dX5_many_40 (by decide) ?_
            exact ih_4 (y + 1) (k + 1) (x + 1) ct_23 H_23 _ (by omega) (by omega) (by omega) hx2 hM hOc hS ls (lv_sub hl [0, 1, 2] rfl)
  exact loop_4 _ 0 0 0 ct H _ (Nat.lt_succ_self _) rfl (Nat.zero_le _) rfl hM ⟨rfl, fun _ _ => rfl⟩ hS ls (lv_sub hl [0, 1, 2] rfl)
set_option maxHeartbeats 4000000 in
set_option maxRecDepth 100000 in
theorem m_matches (l : Launch) (G : gG) (B : Nat → Nat) (S : cS) (th : Int) (ct : Nat → Int32) (H : Heap) (hM : Mod G B S th ct H) (hI : sInv S)  : gM l yX5_matches wsX5_matches rm_X5_matches [.ref (B 0)] G H (gi (fun r H1 => zI ((manyF S : Nat) : Int) = r ∧ MP G B S 0 H H1)) (gNo) 0 0 := by
  obtain ⟨m0, m1, m2, m3, m4, m5, m6, m7, hB, gBs⟩ := id hM
  have hn16 : sn S ≤ 16 := hI.1
  have gB0 := gBs 0 (by omega)
  have gB1 := gBs 1 (by omega)
  have gB2 := gBs 2 (by omega)
  have gB3 := gBs 3 (by omega)
  have gB4 := gBs 4 (by omega)
  have gB5 := gBs 5 (by omega)
  have gB6 := gBs 6 (by omega)
  have gB7 := gBs 7 (by omega)
  have hK : gKp (oB B) H H := gKp.rf _ _
  refine g_start (cc := cX5_matches) (maxL := 1) (ret := (some .int)) (by decide +kernel) rfl (Nat.le_of_ble_eq_true rfl) ?_
  intro p e s m args below meth c F ls hl
  obtain ⟨hx, hb, hml, hr, hts, hown, hlocks, hxt, hH, hX, hin⟩ := F
  have hown : s.vm.findClass RX5 = some m.cls := hown
  have hS : va_S (gA G) s.heap H [] := by rw [hH]; exact va_S.rf
  have hl : lv_has ls 1 [(0, .ref (B 0))] := hl
  refine lv_aload_n hx hb dX5_matches_0 rfl (lv_at hl 0 rfl) ?_
  refine lv_iconst (v := zI 0) hx hb dX5_matches_1 rfl ?_
  refine g_put hx hb hX hts (fun w h => (List.mem_cons_of_mem _ (List.mem_append_right _ h))) tyX5 tyX5_ok nmX5 hown hS m0 gB0 rfl 0 (by decide) (hts (.fieldLink RX5 42 "TuneCatalogueModel" "thrown" "I") (List.mem_cons_of_mem _ (List.mem_append_left _ (List.mem_append_left _ (List.mem_of_getElem? (i := 0) rfl))))) rfl (ty := tyX5 0) rfl rfl rfl (Nat.le_of_ble_eq_true rfl) dX5_matches_2 (fun H_2 locs h_n hO hS => ?_)
  have m1 := gat.only1 m1 hO (hB 1 0 (by omega) (by omega) (by omega))
  have m2 := gat.only1 m2 hO (hB 2 0 (by omega) (by omega) (by omega))
  have m3 := gat.only1 m3 hO (hB 3 0 (by omega) (by omega) (by omega))
  have m4 := gat.only1 m4 hO (hB 4 0 (by omega) (by omega) (by omega))
  have m5 := gat.only1 m5 hO (hB 5 0 (by omega) (by omega) (by omega))
  have m6 := gat.only1 m6 hO (hB 6 0 (by omega) (by omega) (by omega))
  have m7 := gat.only1 m7 hO (hB 7 0 (by omega) (by omega) (by omega))
  have m0 : gat G (B 0) (.inr (5, [.int (zI 0), .int (zI (sn S : Int)), .ref (B 1), .ref (B 2), .ref (B 3), .ref (B 4), .ref (B 5), .int (zI (shn S : Int)), .int (zI (ssl S)), .int (zI (sor S)), .int (zI (srp S)), .ref (B 6), .ref (B 7)])) H_2 := h_n
  have hK := hK.trans (hO.kp1 (oB.k (k := 0) (by omega)))
  have hM : Mod G B S 0 ct H_2 := ⟨m0, m1, m2, m3, m4, m5, m6, m7, hB, gBs⟩
  refine lv_aload_n hx hb dX5_matches_5 rfl (lv_at hl 0 rfl) ?_
  refine g_goi (vx_runV (As := []) (rest := []) ⟨hx, hb, hml, hown, hts⟩ (m_many l G B S 0 ct H_2 hM hI ) (cwV 0 hts gX5_matches_X5_many rfl rfl rfl hd_X5_many ⟨(Nat.le_of_ble_eq_true rfl), (Nat.le_of_ble_eq_true rfl)⟩) (g_preV hX hS (ci := 5) rfl m0) rfl rfl hl.1 rfl (lv_room (Nat.le_of_ble_eq_true rfl)) dX5_matches_6 ⟨(Nat.le_of_ble_eq_true rfl), (Nat.le_of_ble_eq_true rfl)⟩) hS (fun r_6 H_6 locs hp hS => ?_)
  obtain ⟨rfl, ⟨ct_6, hM⟩, hO9⟩ := hp
  obtain ⟨m0, m1, m2, m3, m4, m5, m6, m7, hB, gBs⟩ := id hM
  have hK := hK.trans (hO9.kp1 (oB.k (k := 6) (by omega)))
  exact g_reti hx hb hr hlocks hS rfl (⟨rfl, ⟨ct_6, ⟨m0, m1, m2, m3, m4, m5, m6, m7, hB, gBs⟩⟩, hK⟩) (Nat.le_of_ble_eq_true rfl) (Nat.le_of_ble_eq_true rfl) dX5_matches_9
set_option maxHeartbeats 4000000 in
set_option maxRecDepth 100000 in
theorem m_rank (l : Launch) (G : gG) (B : Nat → Nat) (S : cS) (th : Int) (ct : Nat → Int32) (H : Heap) (hM : Mod G B S th ct H) (hI : sInv S) (z : Int) (i : Nat) (hz : z = i) (hi : i < sn S) (hk : srt S i = false)  : gM l yX5_rank wsX5_rank rm_X5_rank [.ref (B 0), .int (zI z)] G H (gi (fun r H1 => zI (rkF S i : Nat) = r ∧ MC G B S th H H1)) (gNo) 0 0 := by
  obtain ⟨m0, m1, m2, m3, m4, m5, m6, m7, hB, gBs⟩ := id hM
  have hn16 : sn S ≤ 16 := hI.1
  have gB0 := gBs 0 (by omega)
  have gB1 := gBs 1 (by omega)
  have gB2 := gBs 2 (by omega)
  have gB3 := gBs 3 (by omega)
  have gB4 := gBs 4 (by omega)
  have gB5 := gBs 5 (by omega)
  have gB6 := gBs 6 (by omega)
  have gB7 := gBs 7 (by omega)
  have hOc : gOnly [B 6] H H := ⟨rfl, fun _ _ => rfl⟩
  have hpi : prc S i = costI (tX S i) := by unfold prc; rw [hk]; rfl
  refine g_start (cc := cX5_rank) (maxL := 6) (ret := (some .int)) (by decide +kernel) rfl (Nat.le_of_ble_eq_true rfl) ?_
  intro p e s m args below meth c F ls hl
  obtain ⟨hx, hb, hml, hr, hts, hown, hlocks, hxt, hH, hX, hin⟩ := F
  have hown : s.vm.findClass RX5 = some m.cls := hown
  have hS : va_S (gA G) s.heap H [] := by rw [hH]; exact va_S.rf
  have hl : lv_has ls 6 [(0, .ref (B 0)), (1, .int (zI z))] := hl
  refine lv_aload_n hx hb dX5_rank_0 rfl (lv_at hl 0 rfl) ?_
  refine lv_iload_n hx hb dX5_rank_1 rfl (lv_at hl 1 rfl) ?_
  refine g_goi (vx_runV (As := [.int (zI z)]) (rest := []) ⟨hx, hb, hml, hown, hts⟩ (m_costOf l G B S th ct H hM hI z i hz hi) (cwV 1 hts gX5_rank_X5_costOf rfl rfl rfl hd_X5_costOf ⟨(Nat.le_of_ble_eq_true rfl), (Nat.le_of_ble_eq_true rfl)⟩) (g_preV hX hS (ci := 5) rfl m0) rfl rfl hl.1 rfl (lv_room (Nat.le_of_ble_eq_true rfl)) dX5_rank_2 ⟨(Nat.le_of_ble_eq_true rfl), (Nat.le_of_ble_eq_true rfl)⟩) hS (fun r_2 H_2 locs hp hS => ?_)
  obtain ⟨rfl, ⟨ct_2, hM⟩, hO9⟩ := hp
  obtain ⟨m0, m1, m2, m3, m4, m5, m6, m7, hB, gBs⟩ := id hM
  have hOc := hOc.trans hO9 (fun _ h => h) (fun _ h => h)
  have hcr_2 : -1 ≤ costI (tX S i) ∧ costI (tX S i) ≤ 36000 := lastC_rng (tX_ok hI i) _
  refine lv_istore_n (lv' := [(2, .int (zI (costI (tX S i)))), (0, .ref (B 0)), (1, .int (zI z))]) hx hb dX5_rank_5 rfl hl (by decide) rfl (fun ls hl => ?_)
  refine lv_iconst (v := zI 0) hx hb dX5_rank_6 rfl ?_
  refine lv_istore_n (lv' := [(3, .int (zI 0)), (2, .int (zI (costI (tX S i)))), (0, .ref (B 0)), (1, .int (zI z))]) hx hb dX5_rank_7 rfl hl (by decide) rfl (fun ls hl => ?_)
  refine lv_iconst (v := zI 0) hx hb dX5_rank_8 rfl ?_
  refine lv_istore (lv' := [(4, .int (zI 0)), (3, .int (zI 0)), (2, .int (zI (costI (tX S i)))), (0, .ref (B 0)), (1, .int (zI z))]) hx hb dX5_rank_9 hl (by decide) rfl (fun ls hl => ?_)
  have loop_11 : ∀ (M_ : Nat) (y : Int) (k : Nat) (x : Int) (cg : Nat → Int32) (H_L11 : Heap) (locs : List Loc), sn S - k < M_ → (y = k) → (k ≤ sn S) → (x = (ctB (rkB S i) k : Nat)) → (Mod G B S th cg H_L11) → (gOnly [B 6] H H_L11) → va_S (gA G) s.heap H_L11 locs → ∀ (ls : Array Slot), lv_has ls 6 [(4, .int (zI y)), (3, .int (zI x)), (2, .int (zI (costI (tX S i)))), (0, .ref (B 0)), (1, .int (zI z))] → W p l e rm_X5_rank s m args below meth c H_L11 locs (0) (0) (vx_MQ below (gQ G (gi (fun r H1 => zI (rkF S i : Nat) = r ∧ MC G B S th H H1))) (gXC G (gNo)) args s 0 0 (gA G)) (F0 m 11 ls []) := by
    intro M_
    induction M_ with
    | zero => intro y k x cg H_0 locs_0 h_0; exact absurd h_0 (Nat.not_lt_zero _)
    | succ M_ ih_11 =>
      intro y k x cg H_L11 locs hM_11 hy hkn hx1 hM hOc hS ls hl
      obtain ⟨m0, m1, m2, m3, m4, m5, m6, m7, hB, gBs⟩ := id hM
      have hpz := prc_z S k
      have hcb := ctB_le (rkB S i) k
      refine lv_iload hx hb dX5_rank_11 (lv_at hl 0 rfl) ?_
      refine lv_aload_n hx hb dX5_rank_13 rfl (lv_at hl 3 rfl) ?_
      refine g_get hx hb hX hts (fun w h => (List.mem_cons_of_mem _ (List.mem_append_right _ h))) hown m0 rfl 1 (by decide) (hts (.fieldLink RX5 45 "TuneCatalogueModel" "tunes" "I") (List.mem_cons_of_mem _ (List.mem_append_left _ (List.mem_append_left _ (List.mem_of_getElem? (i := 0) rfl))))) rfl dX5_rank_14 ?_
      refine gz_icmp_ge (tgt := 79) hx hb ⟨by omega, by omega⟩ ⟨by omega, by omega⟩ dX5_rank_17 (by decide) (fun c_17 => ?_) (fun c_17 => ?_)
      · refine lv_iload_n hx hb dX5_rank_79 rfl (lv_at hl 1 rfl) ?_
        exact g_reti hx hb hr hlocks hS rfl (⟨by rw [hx1, show k = sn S by omega]; rfl, ⟨cg, hM⟩, hOc⟩) (Nat.le_of_ble_eq_true rfl) (Nat.le_of_ble_eq_true rfl) dX5_rank_80
      · refine lv_aload_n hx hb dX5_rank_20 rfl (lv_at hl 3 rfl) ?_
        refine lv_iload hx hb dX5_rank_21 (lv_at hl 0 rfl) ?_
        refine g_goi (vx_runV (As := [.int (zI y)]) (rest := []) ⟨hx, hb, hml, hown, hts⟩ (m_isKnown l G B S th cg H_L11 hM hI y k (by omega) (by omega)) (cwV 1 hts gX5_rank_X5_isKnown rfl rfl rfl hd_X5_isKnown ⟨(Nat.le_of_ble_eq_true rfl), (Nat.le_of_ble_eq_true rfl)⟩) (g_preV hX hS (ci := 5) rfl m0) rfl rfl hl.1 rfl (lv_room (Nat.le_of_ble_eq_true rfl)) dX5_rank_23 ⟨(Nat.le_of_ble_eq_true rfl), (Nat.le_of_ble_eq_true rfl)⟩) hS (fun r_23 H_23 locs hp hS => ?_)
        obtain ⟨rfl, rfl⟩ := hp
        refine gz_if_eq (tgt := 38) hx hb (by cases srt S k <;> decide) dX5_rank_26 (by decide) (fun c_26 => ?_) (fun c_26 => ?_)
        · refine lv_iconst (v := zI (-1)) hx hb dX5_rank_38 rfl ?_
          refine lv_istore (lv' := [(5, .int (zI (-1))), (4, .int (zI y)), (3, .int (zI x)), (2, .int (zI (costI (tX S i)))), (0, .ref (B 0)), (1, .int (zI z))]) hx hb dX5_rank_39 hl (by decide) rfl (fun ls hl => ?_)
          refine lv_iload_n hx hb dX5_rank_41 rfl (lv_at hl 2 rfl) ?_
          refine lv_iload hx hb dX5_rank_42 (lv_at hl 0 rfl) ?_
          refine lv_iconst (v := zI (-1)) hx hb dX5_rank_44 rfl ?_
          refine gz_icmp_eq (tgt := 70) hx hb (by decide) (by decide) dX5_rank_45 (by decide) (fun c_45 => ?_) (fun c_45 => ?_)
          · refine lv_iconst (v := zI 0) hx hb dX5_rank_70 rfl ?_
            refine gz_iadd hx hb dX5_rank_71 ?_
            have hx2 : x + 0 = (ctB (rkB S i) (k + 1) : Nat) := by
              rw [rk_s]
              first
              | (rw [if_pos (by omega)]; omega)
              | (rw [if_neg (by omega)]; omega)
            refine lv_istore_n (lv' := [(3, .int (zI (x + 0))), (5, .int (zI (-1))), (4, .int (zI y)), (2, .int (zI (costI (tX S i)))), (0, .ref (B 0)), (1, .int (zI z))]) hx hb dX5_rank_72 rfl hl (by decide) rfl (fun ls hl => ?_)
            refine lv_iinc (v := zI (y + 1)) (lv' := [(4, .int (zI (y + 1))), (3, .int (zI (x + 0))), (5, .int (zI (-1))), (2, .int (zI (costI (tX S i)))), (0, .ref (B 0)), (1, .int (zI z))]) hx hb dX5_rank_73 hl (k := 2) rfl (zI_add _ _) (by decide) rfl (fun ls hl => ?_)
            refine lv_goto (tgt := 11) hx hb dX5_rank_76 (by decide) ?_
            exact ih_11 (y + 1) (k + 1) (x + 0) cg H_L11 _ (by omega) (by omega) (by omega) hx2 hM hOc hS ls (lv_sub hl [0, 1, 3, 4, 5] rfl)
          · omega
        · refine lv_aload_n hx hb dX5_rank_29 rfl (lv_at hl 3 rfl) ?_
          refine lv_iload hx hb dX5_rank_30 (lv_at hl 0 rfl) ?_
          refine g_goi (vx_runV (As := [.int (zI y)]) (rest := []) ⟨hx, hb, hml, hown, hts⟩ (m_costOf l G B S th cg H_L11 hM hI y k (by omega) (by omega)) (cwV 1 hts gX5_rank_X5_costOf rfl rfl rfl hd_X5_costOf ⟨(Nat.le_of_ble_eq_true rfl), (Nat.le_of_ble_eq_true rfl)⟩) (g_preV hX hS (ci := 5) rfl m0) rfl rfl hl.1 rfl (lv_room (Nat.le_of_ble_eq_true rfl)) dX5_rank_32 ⟨(Nat.le_of_ble_eq_true rfl), (Nat.le_of_ble_eq_true rfl)⟩) hS (fun r_32 H_32 locs hp hS => ?_)
          obtain ⟨rfl, ⟨ct_32, hM⟩, hO9⟩ := hp
          obtain ⟨m0, m1, m2, m3, m4, m5, m6, m7, hB, gBs⟩ := id hM
          have hOc := hOc.trans hO9 (fun _ h => h) (fun _ h => h)
          have hcr_32 : -1 ≤ costI (tX S k) ∧ costI (tX S k) ≤ 36000 := lastC_rng (tX_ok hI k) _
          refine lv_goto (tgt := 39) hx hb dX5_rank_35 (by decide) ?_
          refine lv_istore (lv' := [(5, .int (zI (costI (tX S k)))), (4, .int (zI y)), (3, .int (zI x)), (2, .int (zI (costI (tX S i)))), (0, .ref (B 0)), (1, .int (zI z))]) hx hb dX5_rank_39 hl (by decide) rfl (fun ls hl => ?_)
          refine lv_iload_n hx hb dX5_rank_41 rfl (lv_at hl 2 rfl) ?_
          refine lv_iload hx hb dX5_rank_42 (lv_at hl 0 rfl) ?_
          refine lv_iconst (v := zI (-1)) hx hb dX5_rank_44 rfl ?_
          refine gz_icmp_eq (tgt := 70) hx hb ⟨by omega, by omega⟩ (by decide) dX5_rank_45 (by decide) (fun c_45 => ?_) (fun c_45 => ?_)
          · refine lv_iconst (v := zI 0) hx hb dX5_rank_70 rfl ?_
            refine gz_iadd hx hb dX5_rank_71 ?_
            have hx2 : x + 0 = (ctB (rkB S i) (k + 1) : Nat) := by
              rw [rk_s]
              first
              | (rw [if_pos (by omega)]; omega)
              | (rw [if_neg (by omega)]; omega)
            refine lv_istore_n (lv' := [(3, .int (zI (x + 0))), (5, .int (zI (costI (tX S k)))), (4, .int (zI y)), (2, .int (zI (costI (tX S i)))), (0, .ref (B 0)), (1, .int (zI z))]) hx hb dX5_rank_72 rfl hl (by decide) rfl (fun ls hl => ?_)
            refine lv_iinc (v := zI (y + 1)) (lv' := [(4, .int (zI (y + 1))), (3, .int (zI (x + 0))), (5, .int (zI (costI (tX S k)))), (2, .int (zI (costI (tX S i)))), (0, .ref (B 0)), (1, .int (zI z))]) hx hb dX5_rank_73 hl (k := 2) rfl (zI_add _ _) (by decide) rfl (fun ls hl => ?_)
            refine lv_goto (tgt := 11) hx hb dX5_rank_76 (by decide) ?_
            exact ih_11 (y + 1) (k + 1) (x + 0) ct_32 H_32 _ (by omega) (by omega) (by omega) hx2 hM hOc hS ls (lv_sub hl [0, 1, 3, 4, 5] rfl)
          · refine lv_iload hx hb dX5_rank_48 (lv_at hl 0 rfl) ?_
            refine lv_iload_n hx hb dX5_rank_50 rfl (lv_at hl 3 rfl) ?_
            refine gz_icmp_lt (tgt := 66) hx hb ⟨by omega, by omega⟩ ⟨by omega, by omega⟩ dX5_rank_51 (by decide) (fun c_51 => ?_) (fun c_51 => ?_)
            · refine lv_iconst (v := zI 1) hx hb dX5_rank_66 rfl ?_
              refine lv_goto (tgt := 71) hx hb dX5_rank_67 (by decide) ?_
              refine gz_iadd hx hb dX5_rank_71 ?_
              have hx2 : x + 1 = (ctB (rkB S i) (k + 1) : Nat) := by
                rw [rk_s]
                first
                | (rw [if_pos (by omega)]; omega)
                | (rw [if_neg (by omega)]; omega)
              refine lv_istore_n (lv' := [(3, .int (zI (x + 1))), (5, .int (zI (costI (tX S k)))), (4, .int (zI y)), (2, .int (zI (costI (tX S i)))), (0, .ref (B 0)), (1, .int (zI z))]) hx hb dX5_rank_72 rfl hl (by decide) rfl (fun ls hl => ?_)
              refine lv_iinc (v := zI (y + 1)) (lv' := [(4, .int (zI (y + 1))), (3, .int (zI (x + 1))), (5, .int (zI (costI (tX S k)))), (2, .int (zI (costI (tX S i)))), (0, .ref (B 0)), (1, .int (zI z))]) hx hb dX5_rank_73 hl (k := 2) rfl (zI_add _ _) (by decide) rfl (fun ls hl => ?_)
              refine lv_goto (tgt := 11) hx hb dX5_rank_76 (by decide) ?_
              exact ih_11 (y + 1) (k + 1) (x + 1) ct_32 H_32 _ (by omega) (by omega) (by omega) hx2 hM hOc hS ls (lv_sub hl [0, 1, 3, 4, 5] rfl)
            · refine lv_iload hx hb dX5_rank_54 (lv_at hl 0 rfl) ?_
              refine lv_iload_n hx hb dX5_rank_56 rfl (lv_at hl 3 rfl) ?_
              refine gz_icmp_ne (tgt := 70) hx hb ⟨by omega, by omega⟩ ⟨by omega, by omega⟩ dX5_rank_57 (by decide) (fun c_57 => ?_) (fun c_57 => ?_)
              · refine lv_iconst (v := zI 0) hx hb dX5_rank_70 rfl ?_
                refine gz_iadd hx hb dX5_rank_71 ?_
                have hx2 : x + 0 = (ctB (rkB S i) (k + 1) : Nat) := by
                  rw [rk_s]
                  first
                  | (rw [if_pos (by omega)]; omega)
                  | (rw [if_neg (by omega)]; omega)
                refine lv_istore_n (lv' := [(3, .int (zI (x + 0))), (5, .int (zI (costI (tX S k)))), (4, .int (zI y)), (2, .int (zI (costI (tX S i)))), (0, .ref (B 0)), (1, .int (zI z))]) hx hb dX5_rank_72 rfl hl (by decide) rfl (fun ls hl => ?_)
                refine lv_iinc (v := zI (y + 1)) (lv' := [(4, .int (zI (y + 1))), (3, .int (zI (x + 0))), (5, .int (zI (costI (tX S k)))), (2, .int (zI (costI (tX S i)))), (0, .ref (B 0)), (1, .int (zI z))]) hx hb dX5_rank_73 hl (k := 2) rfl (zI_add _ _) (by decide) rfl (fun ls hl => ?_)
                refine lv_goto (tgt := 11) hx hb dX5_rank_76 (by decide) ?_
                exact ih_11 (y + 1) (k + 1) (x + 0) ct_32 H_32 _ (by omega) (by omega) (by omega) hx2 hM hOc hS ls (lv_sub hl [0, 1, 3, 4, 5] rfl)
              · refine lv_iload hx hb dX5_rank_60 (lv_at hl 1 rfl) ?_
                refine lv_iload_n hx hb dX5_rank_62 rfl (lv_at hl 5 rfl) ?_
                refine gz_icmp_ge (tgt := 70) hx hb ⟨by omega, by omega⟩ ⟨by omega, by omega⟩ dX5_rank_63 (by decide) (fun c_63 => ?_) (fun c_63 => ?_)
                · refine lv_iconst (v := zI 0) hx hb dX5_rank_70 rfl ?_
                  refine gz_iadd hx hb dX5_rank_71 ?_
                  have hx2 : x + 0 = (ctB (rkB S i) (k + 1) : Nat) := by
                    rw [rk_s]
                    first
                    | (rw [if_pos (by omega)]; omega)
                    | (rw [if_neg (by omega)]; omega)
                  refine lv_istore_n (lv' := [(3, .int (zI (x + 0))), (5, .int (zI (costI (tX S k)))), (4, .int (zI y)), (2, .int (zI (costI (tX S i)))), (0, .ref (B 0)), (1, .int (zI z))]) hx hb dX5_rank_72 rfl hl (by decide) rfl (fun ls hl => ?_)
                  refine lv_iinc (v := zI (y + 1)) (lv' := [(4, .int (zI (y + 1))), (3, .int (zI (x + 0))), (5, .int (zI (costI (tX S k)))), (2, .int (zI (costI (tX S i)))), (0, .ref (B 0)), (1, .int (zI z))]) hx hb dX5_rank_73 hl (k := 2) rfl (zI_add _ _) (by decide) rfl (fun ls hl => ?_)
                  refine lv_goto (tgt := 11) hx hb dX5_rank_76 (by decide) ?_
                  exact ih_11 (y + 1) (k + 1) (x + 0) ct_32 H_32 _ (by omega) (by omega) (by omega) hx2 hM hOc hS ls (lv_sub hl [0, 1, 3, 4, 5] rfl)
                · refine lv_iconst (v := zI 1) hx hb dX5_rank_66 rfl ?_
                  refine lv_goto (tgt := 71) hx hb dX5_rank_67 (by decide) ?_
                  refine gz_iadd hx hb dX5_rank_71 ?_
                  have hx2 : x + 1 = (ctB (rkB S i) (k + 1) : Nat) := by
                    rw [rk_s]
                    first
                    | (rw [if_pos (by omega)]; omega)
                    | (rw [if_neg (by omega)]; omega)
                  refine lv_istore_n (lv' := [(3, .int (zI (x + 1))), (5, .int (zI (costI (tX S k)))), (4, .int (zI y)), (2, .int (zI (costI (tX S i)))), (0, .ref (B 0)), (1, .int (zI z))]) hx hb dX5_rank_72 rfl hl (by decide) rfl (fun ls hl => ?_)
                  refine lv_iinc (v := zI (y + 1)) (lv' := [(4, .int (zI (y + 1))), (3, .int (zI (x + 1))), (5, .int (zI (costI (tX S k)))), (2, .int (zI (costI (tX S i)))), (0, .ref (B 0)), (1, .int (zI z))]) hx hb dX5_rank_73 hl (k := 2) rfl (zI_add _ _) (by decide) rfl (fun ls hl => ?_)
                  refine lv_goto (tgt := 11) hx hb dX5_rank_76 (by decide) ?_
                  exact ih_11 (y + 1) (k + 1) (x + 1) ct_32 H_32 _ (by omega) (by omega) (by omega) hx2 hM hOc hS ls (lv_sub hl [0, 1, 3, 4, 5] rfl)
  exact loop_11 _ 0 0 0 ct_2 H_2 _ (Nat.lt_succ_self _) rfl (Nat.zero_le _) rfl hM hOc hS ls (lv_sub hl [0, 1, 2, 3, 4] rfl)
set_option maxHeartbeats 4000000 in
set_option maxRecDepth 100000 in
theorem m_found_ok (l : Launch) (G : gG) (B : Nat → Nat) (S : cS) (th : Int) (ct : Nat → Int32) (H : Heap) (hM : Mod G B S th ct H) (hI : sInv S) (z : Int) (hz : rI z) (k0 : Nat) (hfd0 : fdF S z 0 (sn S) = some k0) : gM l yX5_found wsX5_found rm_X5_found [.ref (B 0), .int (zI z)] G H (gi (fun r H1 => zI ((k0 : Nat) : Int) = r ∧ MP G B S 0 H H1)) (gNo) 0 0 := by
  obtain ⟨m0, m1, m2, m3, m4, m5, m6, m7, hB, gBs⟩ := id hM
  have hn16 : sn S ≤ 16 := hI.1
  have gB0 := gBs 0 (by omega)
  have gB1 := gBs 1 (by omega)
  have gB2 := gBs 2 (by omega)
  have gB3 := gBs 3 (by omega)
  have gB4 := gBs 4 (by omega)
  have gB5 := gBs 5 (by omega)
  have gB6 := gBs 6 (by omega)
  have gB7 := gBs 7 (by omega)
  have hK : gKp (oB B) H H := gKp.rf _ _
  have hrg : 0 ≤ z ∧ z < (manyF S : Int) := Classical.byContradiction (fun h => by rw [fdF_no h] at hfd0; cases hfd0)
  have hmn : manyF S ≤ sn S := ctB_le _ _
  refine g_start (cc := cX5_found) (maxL := 3) (ret := (some .int)) (by decide +kernel) rfl (Nat.le_of_ble_eq_true rfl) ?_
  intro p e s m args below meth c F ls hl
  obtain ⟨hx, hb, hml, hr, hts, hown, hlocks, hxt, hH, hX, hin⟩ := F
  have hown : s.vm.findClass RX5 = some m.cls := hown
  have hS : va_S (gA G) s.heap H [] := by rw [hH]; exact va_S.rf
  have hl : lv_has ls 3 [(0, .ref (B 0)), (1, .int (zI z))] := hl
  refine lv_aload_n hx hb dX5_found_0 rfl (lv_at hl 0 rfl) ?_
  refine lv_iload_n hx hb dX5_found_1 rfl (lv_at hl 1 rfl) ?_
  refine lv_iconst (v := zI 0) hx hb dX5_found_2 rfl ?_
  refine lv_aload_n hx hb dX5_found_3 rfl (lv_at hl 0 rfl) ?_
  refine g_goi (vx_runV (As := []) (rest := [.int (zI 0), .int (zI z), .ref (B 0)]) ⟨hx, hb, hml, hown, hts⟩ (m_many l G B S th ct H hM hI ) (cwV 0 hts gX5_found_X5_many rfl rfl rfl hd_X5_many ⟨(Nat.le_of_ble_eq_true rfl), (Nat.le_of_ble_eq_true rfl)⟩) (g_preV hX hS (ci := 5) rfl m0) rfl rfl hl.1 rfl (lv_room (Nat.le_of_ble_eq_true rfl)) dX5_found_4 ⟨(Nat.le_of_ble_eq_true rfl), (Nat.le_of_ble_eq_true rfl)⟩) hS (fun r_4 H_4 locs hp hS => ?_)
  obtain ⟨rfl, ⟨ct_4, hM⟩, hO9⟩ := hp
  obtain ⟨m0, m1, m2, m3, m4, m5, m6, m7, hB, gBs⟩ := id hM
  have hK := hK.trans (hO9.kp1 (oB.k (k := 6) (by omega)))
  refine lv_iconst (v := zI 1) hx hb dX5_found_7 rfl ?_
  refine gz_isub hx hb dX5_found_8 ?_
  refine g_goi (vx_runS (As := [.int (zI z), .int (zI 0), .int (zI (((manyF S : Nat) : Int) - 1))]) (rest := [.ref (B 0)]) ⟨hx, hb, hml, hown, hts⟩ (m_in_t l G H_4 z 0 (((manyF S : Nat) : Int) - 1) (by first | assumption | exact ⟨by omega, by omega⟩) ⟨by omega, by omega⟩ ⟨by omega, by omega⟩ (by omega)) (va_cwS 3 hts gX5_found_X5_in rfl rfl rfl hd_X5_in.2 ⟨(Nat.le_of_ble_eq_true rfl), (Nat.le_of_ble_eq_true rfl)⟩) (g_pre hX hS) rfl rfl hl.1 rfl (lv_room (Nat.le_of_ble_eq_true rfl)) dX5_found_9 ⟨(Nat.le_of_ble_eq_true rfl), (Nat.le_of_ble_eq_true rfl)⟩) hS (fun r_9 H_9 locs hp hS => ?_)
  obtain ⟨rfl, rfl⟩ := hp
  refine gz_if_eq (tgt := 19) hx hb (by decide) dX5_found_12 (by decide) (fun c_12 => ?_) (fun c_12 => ?_)
  · omega
  · refine lv_iconst (v := zI 0) hx hb dX5_found_15 rfl ?_
    refine lv_goto (tgt := 20) hx hb dX5_found_16 (by decide) ?_
    refine g_goi (vx_runV (As := [.int (zI 0)]) (rest := []) ⟨hx, hb, hml, hown, hts⟩ (m_holds_0 l G B S th ct_4 H_4 hM hI 0 rfl) (cwV 1 hts gX5_found_X5_holds rfl rfl rfl hd_X5_holds ⟨(Nat.le_of_ble_eq_true rfl), (Nat.le_of_ble_eq_true rfl)⟩) (g_preV hX hS (ci := 5) rfl m0) rfl rfl hl.1 rfl (lv_room (Nat.le_of_ble_eq_true rfl)) dX5_found_20 ⟨(Nat.le_of_ble_eq_true rfl), (Nat.le_of_ble_eq_true rfl)⟩) hS (fun r_20 H_20 locs hp hS => ?_)
    obtain ⟨rfl, hM, hOh⟩ := hp
    obtain ⟨m0, m1, m2, m3, m4, m5, m6, m7, hB, gBs⟩ := id hM
    have hK := hK.trans (hOh.kp1 (oB.k (k := 0) (by omega)))
    refine gz_if_ne (tgt := 28) hx hb (by decide) dX5_found_23 (by decide) (fun c_23 => ?_) (fun c_23 => ?_)
    · refine lv_iconst (v := zI 0) hx hb dX5_found_28 rfl ?_
      refine lv_istore_n (lv' := [(2, .int (zI 0)), (0, .ref (B 0)), (1, .int (zI z))]) hx hb dX5_found_29 rfl hl (by decide) rfl (fun ls hl => ?_)
      have loop_30 : ∀ (M_ : Nat) (y : Int) (k : Nat) (cg : Nat → Int32) (H_L30 : Heap) (locs : List Loc), sn S - k < M_ → (y = k) → (fdF S z k (sn S - k) = some k0) → (Mod G B S 0 cg H_L30) → (gKp (oB B) H H_L30) → va_S (gA G) s.heap H_L30 locs → ∀ (ls : Array Slot), lv_has ls 3 [(2, .int (zI y)), (0, .ref (B 0)), (1, .int (zI z))] → W p l e rm_X5_found s m args below meth c H_L30 locs (0) (0) (vx_MQ below (gQ G (gi (fun r H1 => zI ((k0 : Nat) : Int) = r ∧ MP G B S 0 H H1))) (gXC G (gNo)) args s 0 0 (gA G)) (F0 m 30 ls []) := by
        intro M_
        induction M_ with
        | zero => intro y k cg H_0 locs_0 h_0; exact absurd h_0 (Nat.not_lt_zero _)
        | succ M_ ih_30 =>
          intro y k cg H_L30 locs hM_30 hy hfd hM hK hS ls hl
          obtain ⟨m0, m1, m2, m3, m4, m5, m6, m7, hB, gBs⟩ := id hM
          have hpz := prc_z S k
          have hks : k < sn S := by
            rcases Nat.lt_or_ge k (sn S) with h | h
            · exact h
            · rw [show sn S - k = 0 by omega, fdF] at hfd; cases hfd
          have hfs : fdF S z k (sn S - k) = if prc S k ≠ -1 ∧ (rkF S k : Int) = z then some k else fdF S z (k + 1) (sn S - (k + 1)) := by rw [show sn S - k = (sn S - (k + 1)) + 1 by omega]; rfl
          have hrk : rkF S k ≤ sn S := ctB_le _ _
          refine lv_aload_n hx hb dX5_found_30 rfl (lv_at hl 1 rfl) ?_
          refine lv_iload_n hx hb dX5_found_31 rfl (lv_at hl 0 rfl) ?_
          refine g_goi (vx_runV (As := [.int (zI y)]) (rest := []) ⟨hx, hb, hml, hown, hts⟩ (m_isKnown l G B S 0 cg H_L30 hM hI y k (by omega) (by omega)) (cwV 1 hts gX5_found_X5_isKnown rfl rfl rfl hd_X5_isKnown ⟨(Nat.le_of_ble_eq_true rfl), (Nat.le_of_ble_eq_true rfl)⟩) (g_preV hX hS (ci := 5) rfl m0) rfl rfl hl.1 rfl (lv_room (Nat.le_of_ble_eq_true rfl)) dX5_found_32 ⟨(Nat.le_of_ble_eq_true rfl), (Nat.le_of_ble_eq_true rfl)⟩) hS (fun r_32 H_32 locs hp hS => ?_)
          obtain ⟨rfl, rfl⟩ := hp
          refine gz_if_eq (tgt := 56) hx hb (by cases srt S k <;> decide) dX5_found_35 (by decide) (fun c_35 => ?_) (fun c_35 => ?_)
          · have hfd2 : fdF S z (k + 1) (sn S - (k + 1)) = some k0 := by rw [hfs, if_neg (by omega)] at hfd; exact hfd
            refine lv_iinc (v := zI (y + 1)) (lv' := [(2, .int (zI (y + 1))), (0, .ref (B 0)), (1, .int (zI z))]) hx hb dX5_found_56 hl (k := 0) rfl (zI_add _ _) (by decide) rfl (fun ls hl => ?_)
            refine lv_goto (tgt := 30) hx hb dX5_found_59 (by decide) ?_
            exact ih_30 (y + 1) (k + 1) cg H_L30 _ (by omega) (by omega) hfd2 hM hK hS ls (lv_sub hl [0, 1, 2] rfl)
          · refine lv_aload_n hx hb dX5_found_38 rfl (lv_at hl 1 rfl) ?_
            refine lv_iload_n hx hb dX5_found_39 rfl (lv_at hl 0 rfl) ?_
            refine g_goi (vx_runV (As := [.int (zI y)]) (rest := []) ⟨hx, hb, hml, hown, hts⟩ (m_costOf l G B S 0 cg H_L30 hM hI y k (by omega) (by omega)) (cwV 1 hts gX5_found_X5_costOf rfl rfl rfl hd_X5_costOf ⟨(Nat.le_of_ble_eq_true rfl), (Nat.le_of_ble_eq_true rfl)⟩) (g_preV hX hS (ci := 5) rfl m0) rfl rfl hl.1 rfl (lv_room (Nat.le_of_ble_eq_true rfl)) dX5_found_40 ⟨(Nat.le_of_ble_eq_true rfl), (Nat.le_of_ble_eq_true rfl)⟩) hS (fun r_40 H_40 locs hp hS => ?_)
            obtain ⟨rfl, ⟨ct_40, hM⟩, hO9⟩ := hp
            obtain ⟨m0, m1, m2, m3, m4, m5, m6, m7, hB, gBs⟩ := id hM
            have hK := hK.trans (hO9.kp1 (oB.k (k := 6) (by omega)))
            have hcr_40 : -1 ≤ costI (tX S k) ∧ costI (tX S k) ≤ 36000 := lastC_rng (tX_ok hI k) _
            refine lv_iconst (v := zI (-1)) hx hb dX5_found_43 rfl ?_
            refine gz_icmp_eq (tgt := 56) hx hb ⟨by omega, by omega⟩ (by decide) dX5_found_44 (by decide) (fun c_44 => ?_) (fun c_44 => ?_)
            · have hfd2 : fdF S z (k + 1) (sn S - (k + 1)) = some k0 := by rw [hfs, if_neg (by omega)] at hfd; exact hfd
              refine lv_iinc (v := zI (y + 1)) (lv' := [(2, .int (zI (y + 1))), (0, .ref (B 0)), (1, .int (zI z))]) hx hb dX5_found_56 hl (k := 0) rfl (zI_add _ _) (by decide) rfl (fun ls hl => ?_)
              refine lv_goto (tgt := 30) hx hb dX5_found_59 (by decide) ?_
              exact ih_30 (y + 1) (k + 1) ct_40 H_40 _ (by omega) (by omega) hfd2 hM hK hS ls (lv_sub hl [0, 1, 2] rfl)
            · refine lv_aload_n hx hb dX5_found_47 rfl (lv_at hl 1 rfl) ?_
              refine lv_iload_n hx hb dX5_found_48 rfl (lv_at hl 0 rfl) ?_
              refine g_goi (vx_runV (As := [.int (zI y)]) (rest := []) ⟨hx, hb, hml, hown, hts⟩ (m_rank l G B S 0 ct_40 H_40 hM hI y k (by omega) hks (by cases e : srt S k; rfl; rw [e] at c_35; exact absurd rfl c_35)) (cwV 1 hts gX5_found_X5_rank rfl rfl rfl hd_X5_rank ⟨(Nat.le_of_ble_eq_true rfl), (Nat.le_of_ble_eq_true rfl)⟩) (g_preV hX hS (ci := 5) rfl m0) rfl rfl hl.1 rfl (lv_room (Nat.le_of_ble_eq_true rfl)) dX5_found_49 ⟨(Nat.le_of_ble_eq_true rfl), (Nat.le_of_ble_eq_true rfl)⟩) hS (fun r_49 H_49 locs hp hS => ?_)
              obtain ⟨rfl, ⟨ct_49, hM⟩, hO9⟩ := hp
              obtain ⟨m0, m1, m2, m3, m4, m5, m6, m7, hB, gBs⟩ := id hM
              have hK := hK.trans (hO9.kp1 (oB.k (k := 6) (by omega)))
              refine lv_iload_n hx hb dX5_found_52 rfl (lv_at hl 2 rfl) ?_
              refine gz_icmp_eq (tgt := 62) hx hb ⟨by omega, by omega⟩ ⟨by omega, by omega⟩ dX5_found_53 (by decide) (fun c_53 => ?_) (fun c_53 => ?_)
              · have hkk : k = k0 := by rw [hfs, if_pos ⟨by omega, by omega⟩] at hfd; exact Option.some.inj hfd
                refine lv_iload_n hx hb dX5_found_62 rfl (lv_at hl 0 rfl) ?_
                exact g_reti hx hb hr hlocks hS rfl (⟨by rw [hy, hkk], ⟨ct_49, ⟨m0, m1, m2, m3, m4, m5, m6, m7, hB, gBs⟩⟩, hK⟩) (Nat.le_of_ble_eq_true rfl) (Nat.le_of_ble_eq_true rfl) dX5_found_63
              · have hfd2 : fdF S z (k + 1) (sn S - (k + 1)) = some k0 := by rw [hfs, if_neg (by omega)] at hfd; exact hfd
                refine lv_iinc (v := zI (y + 1)) (lv' := [(2, .int (zI (y + 1))), (0, .ref (B 0)), (1, .int (zI z))]) hx hb dX5_found_56 hl (k := 0) rfl (zI_add _ _) (by decide) rfl (fun ls hl => ?_)
                refine lv_goto (tgt := 30) hx hb dX5_found_59 (by decide) ?_
                exact ih_30 (y + 1) (k + 1) ct_49 H_49 _ (by omega) (by omega) hfd2 hM hK hS ls (lv_sub hl [0, 1, 2] rfl)
      exact loop_30 _ 0 0 ct_4 H_20 _ (Nat.lt_succ_self _) rfl (by rw [Nat.sub_zero]; exact hfd0) hM hK hS ls (lv_sub hl [0, 1, 2] rfl)
    · omega
set_option maxHeartbeats 4000000 in
set_option maxRecDepth 100000 in
theorem m_found_e1 (l : Launch) (G : gG) (B : Nat → Nat) (S : cS) (th : Int) (ct : Nat → Int32) (H : Heap) (hM : Mod G B S th ct H) (hI : sInv S) (z : Int) (hz : rI z) (hfd0 : fdF S z 0 (sn S) = none) : gM l yX5_found wsX5_found rm_X5_found [.ref (B 0), .int (zI z)] G H (gi (fun r H1 => zI 0 = r ∧ MP G B S 1 H H1)) (gNo) 0 0 := by
  obtain ⟨m0, m1, m2, m3, m4, m5, m6, m7, hB, gBs⟩ := id hM
  have hn16 : sn S ≤ 16 := hI.1
  have gB0 := gBs 0 (by omega)
  have gB1 := gBs 1 (by omega)
  have gB2 := gBs 2 (by omega)
  have gB3 := gBs 3 (by omega)
  have gB4 := gBs 4 (by omega)
  have gB5 := gBs 5 (by omega)
  have gB6 := gBs 6 (by omega)
  have gB7 := gBs 7 (by omega)
  have hK : gKp (oB B) H H := gKp.rf _ _
  have hrg : ¬ (0 ≤ z ∧ z < (manyF S : Int)) := fun h => by obtain ⟨k0, e⟩ := fdF_yes h; rw [e] at hfd0; cases hfd0
  have hmn : manyF S ≤ sn S := ctB_le _ _
  refine g_start (cc := cX5_found) (maxL := 3) (ret := (some .int)) (by decide +kernel) rfl (Nat.le_of_ble_eq_true rfl) ?_
  intro p e s m args below meth c F ls hl
  obtain ⟨hx, hb, hml, hr, hts, hown, hlocks, hxt, hH, hX, hin⟩ := F
  have hown : s.vm.findClass RX5 = some m.cls := hown
  have hS : va_S (gA G) s.heap H [] := by rw [hH]; exact va_S.rf
  have hl : lv_has ls 3 [(0, .ref (B 0)), (1, .int (zI z))] := hl
  refine lv_aload_n hx hb dX5_found_0 rfl (lv_at hl 0 rfl) ?_
  refine lv_iload_n hx hb dX5_found_1 rfl (lv_at hl 1 rfl) ?_
  refine lv_iconst (v := zI 0) hx hb dX5_found_2 rfl ?_
  refine lv_aload_n hx hb dX5_found_3 rfl (lv_at hl 0 rfl) ?_
  refine g_goi (vx_runV (As := []) (rest := [.int (zI 0), .int (zI z), .ref (B 0)]) ⟨hx, hb, hml, hown, hts⟩ (m_many l G B S th ct H hM hI ) (cwV 0 hts gX5_found_X5_many rfl rfl rfl hd_X5_many ⟨(Nat.le_of_ble_eq_true rfl), (Nat.le_of_ble_eq_true rfl)⟩) (g_preV hX hS (ci := 5) rfl m0) rfl rfl hl.1 rfl (lv_room (Nat.le_of_ble_eq_true rfl)) dX5_found_4 ⟨(Nat.le_of_ble_eq_true rfl), (Nat.le_of_ble_eq_true rfl)⟩) hS (fun r_4 H_4 locs hp hS => ?_)
  obtain ⟨rfl, ⟨ct_4, hM⟩, hO9⟩ := hp
  obtain ⟨m0, m1, m2, m3, m4, m5, m6, m7, hB, gBs⟩ := id hM
  have hK := hK.trans (hO9.kp1 (oB.k (k := 6) (by omega)))
  refine lv_iconst (v := zI 1) hx hb dX5_found_7 rfl ?_
  refine gz_isub hx hb dX5_found_8 ?_
  refine g_goi (vx_runS (As := [.int (zI z), .int (zI 0), .int (zI (((manyF S : Nat) : Int) - 1))]) (rest := [.ref (B 0)]) ⟨hx, hb, hml, hown, hts⟩ (m_in_f l G H_4 z 0 (((manyF S : Nat) : Int) - 1) (by first | assumption | exact ⟨by omega, by omega⟩) ⟨by omega, by omega⟩ ⟨by omega, by omega⟩ (by omega)) (va_cwS 3 hts gX5_found_X5_in rfl rfl rfl hd_X5_in.2 ⟨(Nat.le_of_ble_eq_true rfl), (Nat.le_of_ble_eq_true rfl)⟩) (g_pre hX hS) rfl rfl hl.1 rfl (lv_room (Nat.le_of_ble_eq_true rfl)) dX5_found_9 ⟨(Nat.le_of_ble_eq_true rfl), (Nat.le_of_ble_eq_true rfl)⟩) hS (fun r_9 H_9 locs hp hS => ?_)
  obtain ⟨rfl, rfl⟩ := hp
  refine gz_if_eq (tgt := 19) hx hb (by decide) dX5_found_12 (by decide) (fun c_12 => ?_) (fun c_12 => ?_)
  · refine lv_iconst (v := zI 1) hx hb dX5_found_19 rfl ?_
    refine g_goi (vx_runV (As := [.int (zI 1)]) (rest := []) ⟨hx, hb, hml, hown, hts⟩ (m_holds_k l G B S th ct_4 H_4 hM hI 1 (by decide) (by decide)) (cwV 1 hts gX5_found_X5_holds rfl rfl rfl hd_X5_holds ⟨(Nat.le_of_ble_eq_true rfl), (Nat.le_of_ble_eq_true rfl)⟩) (g_preV hX hS (ci := 5) rfl m0) rfl rfl hl.1 rfl (lv_room (Nat.le_of_ble_eq_true rfl)) dX5_found_20 ⟨(Nat.le_of_ble_eq_true rfl), (Nat.le_of_ble_eq_true rfl)⟩) hS (fun r_20 H_20 locs hp hS => ?_)
    obtain ⟨rfl, hM, hOh⟩ := hp
    obtain ⟨m0, m1, m2, m3, m4, m5, m6, m7, hB, gBs⟩ := id hM
    have hK := hK.trans (hOh.kp1 (oB.k (k := 0) (by omega)))
    refine gz_if_ne (tgt := 28) hx hb (by decide) dX5_found_23 (by decide) (fun c_23 => ?_) (fun c_23 => ?_)
    · omega
    · refine lv_iconst (v := zI 0) hx hb dX5_found_26 rfl ?_
      exact g_reti hx hb hr hlocks hS rfl (⟨rfl, ⟨ct_4, ⟨m0, m1, m2, m3, m4, m5, m6, m7, hB, gBs⟩⟩, hK⟩) (Nat.le_of_ble_eq_true rfl) (Nat.le_of_ble_eq_true rfl) dX5_found_27
  · omega
theorem list8 {a0 a1 a2 a3 a4 a5 a6 a7 : Nat} (h0 : a0 < a1) (h1 : a1 < a2) (h2 : a2 < a3) (h3 : a3 < a4) (h4 : a4 < a5) (h5 : a5 < a6) (h6 : a6 < a7) : ∀ k, k + 1 < 8 → [a0, a1, a2, a3, a4, a5, a6, a7].getD k 0 < [a0, a1, a2, a3, a4, a5, a6, a7].getD (k + 1) 0 := by
  intro k hk
  rcases (show k = 0 ∨ k = 1 ∨ k = 2 ∨ k = 3 ∨ k = 4 ∨ k = 5 ∨ k = 6 by omega) with rfl | rfl | rfl | rfl | rfl | rfl | rfl <;> assumption
theorem gat_z {G : gG} {q n : Nat} {ci : _} {f g : Nat → Int32} {H : Heap} (h : gat G q (.inl (ci, n, .inl f)) H) (e : ∀ j, g j = f j) : gat G q (.inl (ci, n, .inl g)) H := by
  rw [show g = f from funext e]; exact h
set_option maxHeartbeats 4000000 in
set_option maxRecDepth 100000 in
theorem m_init (l : Launch) (G : gG) (a : Nat) (H : Heap) (ho : gat G a (.inr (5, [.int (zI 0), .int (zI 0), .null, .null, .null, .null, .null, .int (zI 0), .int (zI 0), .int (zI 0), .int (zI 0), .null, .null])) H) (ga : gB G ≤ a) : gM l yX5_init wsX5_init rm_X5_init [.ref a] G H (gv (fun H1 => ∃ B : Nat → Nat, B 0 = a ∧ (∃ ct, Mod G B S00 0 ct H1) ∧ gGrow [a] H H1 ∧ ∀ k, 1 ≤ k → k < 8 → H.size ≤ B k)) (gNo) 8 1124 := by
  have ha_lt : a < H.size := va_at.lt ho
  have hG : gGrow [a] H H := gGrow.rf _ _
  refine g_start (cc := cX5_init) (maxL := 1) (ret := none) (by decide +kernel) rfl (Nat.le_of_ble_eq_true rfl) ?_
  intro p e s m args below meth c F ls hl
  obtain ⟨hx, hb, hml, hr, hts, hown, hlocks, hxt, hH, hX, hin⟩ := F
  have hown : s.vm.findClass RX5 = some m.cls := hown
  have hS : va_S (gA G) s.heap H [] := by rw [hH]; exact va_S.rf
  have hl : lv_has ls 1 [(0, .ref a)] := hl
  refine lv_aload_n hx hb dX5_init_0 rfl (lv_at hl 0 rfl) ?_
  refine W.objInit hx hb hown (hts (.methodLink RX5 1 objectInit) (List.mem_cons_of_mem _ (List.mem_append_left _ (List.mem_of_getElem? (i := 0) rfl)))) (hts (.instanceMethod objectInit) (List.mem_cons_of_mem _ (List.mem_append_left _ (List.mem_of_getElem? (i := 1) rfl)))) (hts _ (List.mem_cons_of_mem _ (List.mem_append_left _ (List.mem_of_getElem? (i := 2) rfl)))) rfl (by rw [hml]; exact hl.1) rfl dX5_init_1 (Nat.le_of_ble_eq_true rfl) (Nat.le_of_ble_eq_true rfl) ?_
  refine W.eq (g2 := F0 m 4 ls []) rfl ?_
  refine lv_aload_n hx hb dX5_init_4 rfl (lv_at hl 0 rfl) ?_
  refine lv_sipush (v := zI 384) hx hb dX5_init_5 (by decide +kernel) ?_
  refine g_newa (atype := .int) hx hb hX (hts (.arrayClass .int) (List.mem_cons_of_mem _ (List.mem_append_left _ (List.mem_of_getElem? (i := 3) rfl)))) (cX := gI G) (hX.1.1.2 0 _ rfl).2 hS (N' := 384) (a0 := (384, .inl (fun _ => 0))) (by rw [vp_cell_i]; rfl) (by decide +kernel) (by decide +kernel) (Nat.le_of_ble_eq_true rfl) (Nat.le_of_ble_eq_true rfl) (Nat.le_of_ble_eq_true rfl) dX5_init_8 (fun H_8 q_8 eq_8 hq_8 gq_8 zq_8 hE hS => ?_)
  have ho := gat.ext ho hE
  have hG := gGrow.trans hG (hE.grow (L := [])) (by intro x hx1 hx2; first | exact hx2 | exact absurd hx2 List.not_mem_nil | (simp only [List.mem_cons, List.not_mem_nil, or_false] at hx2 ⊢; omega))
  refine g_putF hx hb hX hts (fun w h => (List.mem_cons_of_mem _ (List.mem_append_right _ h))) tyX5 tyX5_ok nmX5 hown hS ho ga rfl 2 (by decide) (hts (.fieldLink RX5 7 "TuneCatalogueModel" "pitches" "[I") (List.mem_cons_of_mem _ (List.mem_append_left _ (List.mem_of_getElem? (i := 4) rfl)))) rfl hin rfl (ty := tyX5 2) rfl rfl rfl (Nat.le_of_ble_eq_true rfl) dX5_init_10 (fun H_10 locs h_n hO hS => ?_)
  have hq_8 := gat.only1 hq_8 hO (by omega)
  have ho : gat G a (.inr (5, [.int (zI 0), .int (zI 0), .ref q_8, .null, .null, .null, .null, .int (zI 0), .int (zI 0), .int (zI 0), .int (zI 0), .null, .null])) H_10 := h_n
  have hG := gGrow.trans hG hO.grow (by intro x hx1 hx2; first | exact hx2 | exact absurd hx2 List.not_mem_nil | (simp only [List.mem_cons, List.not_mem_nil, or_false] at hx2 ⊢; omega))
  have s_13 := hO.1
  refine lv_aload_n hx hb dX5_init_13 rfl (lv_at hl 0 rfl) ?_
  refine lv_sipush (v := zI 384) hx hb dX5_init_14 (by decide +kernel) ?_
  refine g_newa (atype := .int) hx hb hX (hts (.arrayClass .int) (List.mem_cons_of_mem _ (List.mem_append_left _ (List.mem_of_getElem? (i := 3) rfl)))) (cX := gI G) (hX.1.1.2 0 _ rfl).2 hS (N' := 384) (a0 := (384, .inl (fun _ => 0))) (by rw [vp_cell_i]; rfl) (by decide +kernel) (by decide +kernel) (Nat.le_of_ble_eq_true rfl) (Nat.le_of_ble_eq_true rfl) (Nat.le_of_ble_eq_true rfl) dX5_init_17 (fun H_17 q_17 eq_17 hq_17 gq_17 zq_17 hE hS => ?_)
  have ho := gat.ext ho hE
  have hq_8 := gat.ext hq_8 hE
  have hG := gGrow.trans hG (hE.grow (L := [])) (by intro x hx1 hx2; first | exact hx2 | exact absurd hx2 List.not_mem_nil | (simp only [List.mem_cons, List.not_mem_nil, or_false] at hx2 ⊢; omega))
  refine g_putF hx hb hX hts (fun w h => (List.mem_cons_of_mem _ (List.mem_append_right _ h))) tyX5 tyX5_ok nmX5 hown hS ho ga rfl 3 (by decide) (hts (.fieldLink RX5 13 "TuneCatalogueModel" "lengths" "[I") (List.mem_cons_of_mem _ (List.mem_append_left _ (List.mem_of_getElem? (i := 5) rfl)))) rfl hin rfl (ty := tyX5 3) rfl rfl rfl (Nat.le_of_ble_eq_true rfl) dX5_init_19 (fun H_19 locs h_n hO hS => ?_)
  have hq_8 := gat.only1 hq_8 hO (by omega)
  have hq_17 := gat.only1 hq_17 hO (by omega)
  have ho : gat G a (.inr (5, [.int (zI 0), .int (zI 0), .ref q_8, .ref q_17, .null, .null, .null, .int (zI 0), .int (zI 0), .int (zI 0), .int (zI 0), .null, .null])) H_19 := h_n
  have hG := gGrow.trans hG hO.grow (by intro x hx1 hx2; first | exact hx2 | exact absurd hx2 List.not_mem_nil | (simp only [List.mem_cons, List.not_mem_nil, or_false] at hx2 ⊢; omega))
  have s_22 := hO.1
  refine lv_aload_n hx hb dX5_init_22 rfl (lv_at hl 0 rfl) ?_
  refine lv_bipush (v := zI 16) hx hb dX5_init_23 (by decide +kernel) ?_
  refine g_newa (atype := .int) hx hb hX (hts (.arrayClass .int) (List.mem_cons_of_mem _ (List.mem_append_left _ (List.mem_of_getElem? (i := 3) rfl)))) (cX := gI G) (hX.1.1.2 0 _ rfl).2 hS (N' := 16) (a0 := (16, .inl (fun _ => 0))) (by rw [vp_cell_i]; rfl) (by decide +kernel) (by decide +kernel) (Nat.le_of_ble_eq_true rfl) (Nat.le_of_ble_eq_true rfl) (Nat.le_of_ble_eq_true rfl) dX5_init_25 (fun H_25 q_25 eq_25 hq_25 gq_25 zq_25 hE hS => ?_)
  have ho := gat.ext ho hE
  have hq_8 := gat.ext hq_8 hE
  have hq_17 := gat.ext hq_17 hE
  have hG := gGrow.trans hG (hE.grow (L := [])) (by intro x hx1 hx2; first | exact hx2 | exact absurd hx2 List.not_mem_nil | (simp only [List.mem_cons, List.not_mem_nil, or_false] at hx2 ⊢; omega))
  refine g_putF hx hb hX hts (fun w h => (List.mem_cons_of_mem _ (List.mem_append_right _ h))) tyX5 tyX5_ok nmX5 hown hS ho ga rfl 4 (by decide) (hts (.fieldLink RX5 16 "TuneCatalogueModel" "sizes" "[I") (List.mem_cons_of_mem _ (List.mem_append_left _ (List.mem_of_getElem? (i := 6) rfl)))) rfl hin rfl (ty := tyX5 4) rfl rfl rfl (Nat.le_of_ble_eq_true rfl) dX5_init_27 (fun H_27 locs h_n hO hS => ?_)
  have hq_8 := gat.only1 hq_8 hO (by omega)
  have hq_17 := gat.only1 hq_17 hO (by omega)
  have hq_25 := gat.only1 hq_25 hO (by omega)
  have ho : gat G a (.inr (5, [.int (zI 0), .int (zI 0), .ref q_8, .ref q_17, .ref q_25, .null, .null, .int (zI 0), .int (zI 0), .int (zI 0), .int (zI 0), .null, .null])) H_27 := h_n
  have hG := gGrow.trans hG hO.grow (by intro x hx1 hx2; first | exact hx2 | exact absurd hx2 List.not_mem_nil | (simp only [List.mem_cons, List.not_mem_nil, or_false] at hx2 ⊢; omega))
  have s_30 := hO.1
  refine lv_aload_n hx hb dX5_init_30 rfl (lv_at hl 0 rfl) ?_
  refine lv_bipush (v := zI 16) hx hb dX5_init_31 (by decide +kernel) ?_
  refine g_newa (atype := .boolean) hx hb hX (hts (.arrayClass .boolean) (List.mem_cons_of_mem _ (List.mem_append_left _ (List.mem_of_getElem? (i := 7) rfl)))) (cX := gZ G) (hX.1.1.2 1 _ rfl).2 hS (N' := 16) (a0 := (16, .inl (fun _ => 0))) (by rw [vp_cell_i]; rfl) (by decide +kernel) (by decide +kernel) (Nat.le_of_ble_eq_true rfl) (Nat.le_of_ble_eq_true rfl) (Nat.le_of_ble_eq_true rfl) dX5_init_33 (fun H_33 q_33 eq_33 hq_33 gq_33 zq_33 hE hS => ?_)
  have ho := gat.ext ho hE
  have hq_8 := gat.ext hq_8 hE
  have hq_17 := gat.ext hq_17 hE
  have hq_25 := gat.ext hq_25 hE
  have hG := gGrow.trans hG (hE.grow (L := [])) (by intro x hx1 hx2; first | exact hx2 | exact absurd hx2 List.not_mem_nil | (simp only [List.mem_cons, List.not_mem_nil, or_false] at hx2 ⊢; omega))
  refine g_putF hx hb hX hts (fun w h => (List.mem_cons_of_mem _ (List.mem_append_right _ h))) tyX5 tyX5_ok nmX5 hown hS ho ga rfl 5 (by decide) (hts (.fieldLink RX5 19 "TuneCatalogueModel" "areRetired" "[Z") (List.mem_cons_of_mem _ (List.mem_append_left _ (List.mem_of_getElem? (i := 8) rfl)))) rfl hin rfl (ty := tyX5 5) rfl rfl rfl (Nat.le_of_ble_eq_true rfl) dX5_init_35 (fun H_35 locs h_n hO hS => ?_)
  have hq_8 := gat.only1 hq_8 hO (by omega)
  have hq_17 := gat.only1 hq_17 hO (by omega)
  have hq_25 := gat.only1 hq_25 hO (by omega)
  have hq_33 := gat.only1 hq_33 hO (by omega)
  have ho : gat G a (.inr (5, [.int (zI 0), .int (zI 0), .ref q_8, .ref q_17, .ref q_25, .ref q_33, .null, .int (zI 0), .int (zI 0), .int (zI 0), .int (zI 0), .null, .null])) H_35 := h_n
  have hG := gGrow.trans hG hO.grow (by intro x hx1 hx2; first | exact hx2 | exact absurd hx2 List.not_mem_nil | (simp only [List.mem_cons, List.not_mem_nil, or_false] at hx2 ⊢; omega))
  have s_38 := hO.1
  refine lv_aload_n hx hb dX5_init_38 rfl (lv_at hl 0 rfl) ?_
  refine lv_bipush (v := zI 12) hx hb dX5_init_39 (by decide +kernel) ?_
  refine g_newa (atype := .int) hx hb hX (hts (.arrayClass .int) (List.mem_cons_of_mem _ (List.mem_append_left _ (List.mem_of_getElem? (i := 3) rfl)))) (cX := gI G) (hX.1.1.2 0 _ rfl).2 hS (N' := 12) (a0 := (12, .inl (fun _ => 0))) (by rw [vp_cell_i]; rfl) (by decide +kernel) (by decide +kernel) (Nat.le_of_ble_eq_true rfl) (Nat.le_of_ble_eq_true rfl) (Nat.le_of_ble_eq_true rfl) dX5_init_41 (fun H_41 q_41 eq_41 hq_41 gq_41 zq_41 hE hS => ?_)
  have ho := gat.ext ho hE
  have hq_8 := gat.ext hq_8 hE
  have hq_17 := gat.ext hq_17 hE
  have hq_25 := gat.ext hq_25 hE
  have hq_33 := gat.ext hq_33 hE
  have hG := gGrow.trans hG (hE.grow (L := [])) (by intro x hx1 hx2; first | exact hx2 | exact absurd hx2 List.not_mem_nil | (simp only [List.mem_cons, List.not_mem_nil, or_false] at hx2 ⊢; omega))
  refine g_putF hx hb hX hts (fun w h => (List.mem_cons_of_mem _ (List.mem_append_right _ h))) tyX5 tyX5_ok nmX5 hown hS ho ga rfl 6 (by decide) (hts (.fieldLink RX5 23 "TuneCatalogueModel" "hum" "[I") (List.mem_cons_of_mem _ (List.mem_append_left _ (List.mem_of_getElem? (i := 9) rfl)))) rfl hin rfl (ty := tyX5 6) rfl rfl rfl (Nat.le_of_ble_eq_true rfl) dX5_init_43 (fun H_43 locs h_n hO hS => ?_)
  have hq_8 := gat.only1 hq_8 hO (by omega)
  have hq_17 := gat.only1 hq_17 hO (by omega)
  have hq_25 := gat.only1 hq_25 hO (by omega)
  have hq_33 := gat.only1 hq_33 hO (by omega)
  have hq_41 := gat.only1 hq_41 hO (by omega)
  have ho : gat G a (.inr (5, [.int (zI 0), .int (zI 0), .ref q_8, .ref q_17, .ref q_25, .ref q_33, .ref q_41, .int (zI 0), .int (zI 0), .int (zI 0), .int (zI 0), .null, .null])) H_43 := h_n
  have hG := gGrow.trans hG hO.grow (by intro x hx1 hx2; first | exact hx2 | exact absurd hx2 List.not_mem_nil | (simp only [List.mem_cons, List.not_mem_nil, or_false] at hx2 ⊢; omega))
  have s_46 := hO.1
  refine lv_aload_n hx hb dX5_init_46 rfl (lv_at hl 0 rfl) ?_
  refine lv_iconst (v := zI 2) hx hb dX5_init_47 rfl ?_
  refine g_put hx hb hX hts (fun w h => (List.mem_cons_of_mem _ (List.mem_append_right _ h))) tyX5 tyX5_ok nmX5 hown hS ho ga rfl 8 (by decide) (hts (.fieldLink RX5 26 "TuneCatalogueModel" "slip" "I") (List.mem_cons_of_mem _ (List.mem_append_left _ (List.mem_of_getElem? (i := 10) rfl)))) rfl (ty := tyX5 8) rfl rfl rfl (Nat.le_of_ble_eq_true rfl) dX5_init_48 (fun H_48 locs h_n hO hS => ?_)
  have hq_8 := gat.only1 hq_8 hO (by omega)
  have hq_17 := gat.only1 hq_17 hO (by omega)
  have hq_25 := gat.only1 hq_25 hO (by omega)
  have hq_33 := gat.only1 hq_33 hO (by omega)
  have hq_41 := gat.only1 hq_41 hO (by omega)
  have ho : gat G a (.inr (5, [.int (zI 0), .int (zI 0), .ref q_8, .ref q_17, .ref q_25, .ref q_33, .ref q_41, .int (zI 0), .int (zI 2), .int (zI 0), .int (zI 0), .null, .null])) H_48 := h_n
  have hG := gGrow.trans hG hO.grow (by intro x hx1 hx2; first | exact hx2 | exact absurd hx2 List.not_mem_nil | (simp only [List.mem_cons, List.not_mem_nil, or_false] at hx2 ⊢; omega))
  have s_51 := hO.1
  refine lv_aload_n hx hb dX5_init_51 rfl (lv_at hl 0 rfl) ?_
  refine lv_iconst (v := zI 3) hx hb dX5_init_52 rfl ?_
  refine g_put hx hb hX hts (fun w h => (List.mem_cons_of_mem _ (List.mem_append_right _ h))) tyX5 tyX5_ok nmX5 hown hS ho ga rfl 9 (by decide) (hts (.fieldLink RX5 30 "TuneCatalogueModel" "ornament" "I") (List.mem_cons_of_mem _ (List.mem_append_left _ (List.mem_of_getElem? (i := 11) rfl)))) rfl (ty := tyX5 9) rfl rfl rfl (Nat.le_of_ble_eq_true rfl) dX5_init_53 (fun H_53 locs h_n hO hS => ?_)
  have hq_8 := gat.only1 hq_8 hO (by omega)
  have hq_17 := gat.only1 hq_17 hO (by omega)
  have hq_25 := gat.only1 hq_25 hO (by omega)
  have hq_33 := gat.only1 hq_33 hO (by omega)
  have hq_41 := gat.only1 hq_41 hO (by omega)
  have ho : gat G a (.inr (5, [.int (zI 0), .int (zI 0), .ref q_8, .ref q_17, .ref q_25, .ref q_33, .ref q_41, .int (zI 0), .int (zI 2), .int (zI 3), .int (zI 0), .null, .null])) H_53 := h_n
  have hG := gGrow.trans hG hO.grow (by intro x hx1 hx2; first | exact hx2 | exact absurd hx2 List.not_mem_nil | (simp only [List.mem_cons, List.not_mem_nil, or_false] at hx2 ⊢; omega))
  have s_56 := hO.1
  refine lv_aload_n hx hb dX5_init_56 rfl (lv_at hl 0 rfl) ?_
  refine lv_iconst (v := zI 1) hx hb dX5_init_57 rfl ?_
  refine g_put hx hb hX hts (fun w h => (List.mem_cons_of_mem _ (List.mem_append_right _ h))) tyX5 tyX5_ok nmX5 hown hS ho ga rfl 10 (by decide) (hts (.fieldLink RX5 33 "TuneCatalogueModel" "repeat" "I") (List.mem_cons_of_mem _ (List.mem_append_left _ (List.mem_of_getElem? (i := 12) rfl)))) rfl (ty := tyX5 10) rfl rfl rfl (Nat.le_of_ble_eq_true rfl) dX5_init_58 (fun H_58 locs h_n hO hS => ?_)
  have hq_8 := gat.only1 hq_8 hO (by omega)
  have hq_17 := gat.only1 hq_17 hO (by omega)
  have hq_25 := gat.only1 hq_25 hO (by omega)
  have hq_33 := gat.only1 hq_33 hO (by omega)
  have hq_41 := gat.only1 hq_41 hO (by omega)
  have ho : gat G a (.inr (5, [.int (zI 0), .int (zI 0), .ref q_8, .ref q_17, .ref q_25, .ref q_33, .ref q_41, .int (zI 0), .int (zI 2), .int (zI 3), .int (zI 1), .null, .null])) H_58 := h_n
  have hG := gGrow.trans hG hO.grow (by intro x hx1 hx2; first | exact hx2 | exact absurd hx2 List.not_mem_nil | (simp only [List.mem_cons, List.not_mem_nil, or_false] at hx2 ⊢; omega))
  have s_61 := hO.1
  refine lv_aload_n hx hb dX5_init_61 rfl (lv_at hl 0 rfl) ?_
  refine lv_sipush (v := zI 288) hx hb dX5_init_62 (by decide +kernel) ?_
  refine g_newa (atype := .int) hx hb hX (hts (.arrayClass .int) (List.mem_cons_of_mem _ (List.mem_append_left _ (List.mem_of_getElem? (i := 3) rfl)))) (cX := gI G) (hX.1.1.2 0 _ rfl).2 hS (N' := 288) (a0 := (288, .inl (fun _ => 0))) (by rw [vp_cell_i]; rfl) (by decide +kernel) (by decide +kernel) (Nat.le_of_ble_eq_true rfl) (Nat.le_of_ble_eq_true rfl) (Nat.le_of_ble_eq_true rfl) dX5_init_65 (fun H_65 q_65 eq_65 hq_65 gq_65 zq_65 hE hS => ?_)
  have ho := gat.ext ho hE
  have hq_8 := gat.ext hq_8 hE
  have hq_17 := gat.ext hq_17 hE
  have hq_25 := gat.ext hq_25 hE
  have hq_33 := gat.ext hq_33 hE
  have hq_41 := gat.ext hq_41 hE
  have hG := gGrow.trans hG (hE.grow (L := [])) (by intro x hx1 hx2; first | exact hx2 | exact absurd hx2 List.not_mem_nil | (simp only [List.mem_cons, List.not_mem_nil, or_false] at hx2 ⊢; omega))
  refine g_putF hx hb hX hts (fun w h => (List.mem_cons_of_mem _ (List.mem_append_right _ h))) tyX5 tyX5_ok nmX5 hown hS ho ga rfl 11 (by decide) (hts (.fieldLink RX5 36 "TuneCatalogueModel" "costs" "[I") (List.mem_cons_of_mem _ (List.mem_append_left _ (List.mem_of_getElem? (i := 13) rfl)))) rfl hin rfl (ty := tyX5 11) rfl rfl rfl (Nat.le_of_ble_eq_true rfl) dX5_init_67 (fun H_67 locs h_n hO hS => ?_)
  have hq_8 := gat.only1 hq_8 hO (by omega)
  have hq_17 := gat.only1 hq_17 hO (by omega)
  have hq_25 := gat.only1 hq_25 hO (by omega)
  have hq_33 := gat.only1 hq_33 hO (by omega)
  have hq_41 := gat.only1 hq_41 hO (by omega)
  have hq_65 := gat.only1 hq_65 hO (by omega)
  have ho : gat G a (.inr (5, [.int (zI 0), .int (zI 0), .ref q_8, .ref q_17, .ref q_25, .ref q_33, .ref q_41, .int (zI 0), .int (zI 2), .int (zI 3), .int (zI 1), .ref q_65, .null])) H_67 := h_n
  have hG := gGrow.trans hG hO.grow (by intro x hx1 hx2; first | exact hx2 | exact absurd hx2 List.not_mem_nil | (simp only [List.mem_cons, List.not_mem_nil, or_false] at hx2 ⊢; omega))
  have s_70 := hO.1
  refine lv_aload_n hx hb dX5_init_70 rfl (lv_at hl 0 rfl) ?_
  refine lv_bipush (v := zI 16) hx hb dX5_init_71 (by decide +kernel) ?_
  refine g_newa (atype := .int) hx hb hX (hts (.arrayClass .int) (List.mem_cons_of_mem _ (List.mem_append_left _ (List.mem_of_getElem? (i := 3) rfl)))) (cX := gI G) (hX.1.1.2 0 _ rfl).2 hS (N' := 16) (a0 := (16, .inl (fun _ => 0))) (by rw [vp_cell_i]; rfl) (by decide +kernel) (by decide +kernel) (Nat.le_of_ble_eq_true rfl) (Nat.le_of_ble_eq_true rfl) (Nat.le_of_ble_eq_true rfl) dX5_init_73 (fun H_73 q_73 eq_73 hq_73 gq_73 zq_73 hE hS => ?_)
  have ho := gat.ext ho hE
  have hq_8 := gat.ext hq_8 hE
  have hq_17 := gat.ext hq_17 hE
  have hq_25 := gat.ext hq_25 hE
  have hq_33 := gat.ext hq_33 hE
  have hq_41 := gat.ext hq_41 hE
  have hq_65 := gat.ext hq_65 hE
  have hG := gGrow.trans hG (hE.grow (L := [])) (by intro x hx1 hx2; first | exact hx2 | exact absurd hx2 List.not_mem_nil | (simp only [List.mem_cons, List.not_mem_nil, or_false] at hx2 ⊢; omega))
  refine g_putF hx hb hX hts (fun w h => (List.mem_cons_of_mem _ (List.mem_append_right _ h))) tyX5 tyX5_ok nmX5 hown hS ho ga rfl 12 (by decide) (hts (.fieldLink RX5 39 "TuneCatalogueModel" "links" "[I") (List.mem_cons_of_mem _ (List.mem_append_left _ (List.mem_of_getElem? (i := 14) rfl)))) rfl hin rfl (ty := tyX5 12) rfl rfl rfl (Nat.le_of_ble_eq_true rfl) dX5_init_75 (fun H_75 locs h_n hO hS => ?_)
  have hq_8 := gat.only1 hq_8 hO (by omega)
  have hq_17 := gat.only1 hq_17 hO (by omega)
  have hq_25 := gat.only1 hq_25 hO (by omega)
  have hq_33 := gat.only1 hq_33 hO (by omega)
  have hq_41 := gat.only1 hq_41 hO (by omega)
  have hq_65 := gat.only1 hq_65 hO (by omega)
  have hq_73 := gat.only1 hq_73 hO (by omega)
  have ho : gat G a (.inr (5, [.int (zI 0), .int (zI 0), .ref q_8, .ref q_17, .ref q_25, .ref q_33, .ref q_41, .int (zI 0), .int (zI 2), .int (zI 3), .int (zI 1), .ref q_65, .ref q_73])) H_75 := h_n
  have hG := gGrow.trans hG hO.grow (by intro x hx1 hx2; first | exact hx2 | exact absurd hx2 List.not_mem_nil | (simp only [List.mem_cons, List.not_mem_nil, or_false] at hx2 ⊢; omega))
  have s_78 := hO.1
  have hlt := list8 (a0 := a) (a1 := q_8) (a2 := q_17) (a3 := q_25) (a4 := q_33) (a5 := q_41) (a6 := q_65) (a7 := q_73) (by omega) (by omega) (by omega) (by omega) (by omega) (by omega) (by omega)
  have hap := mono_inj (A := fun k => [a, q_8, q_17, q_25, q_33, q_41, q_65, q_73].getD k 0) (N := 8) hlt
  have hinc : ∀ k, 1 ≤ k → k < 8 → H.size ≤ [a, q_8, q_17, q_25, q_33, q_41, q_65, q_73].getD k 0 := fun k h1 h2 => by
    rcases (show k = 1 ∨ k = 2 ∨ k = 3 ∨ k = 4 ∨ k = 5 ∨ k = 6 ∨ k = 7 by omega) with rfl | rfl | rfl | rfl | rfl | rfl | rfl <;> simp <;> omega
  have hbs : gB G ≤ H.size := by have := hX.2.2.2; rw [hH] at this; exact this
  have hmod : Mod G (fun k => [a, q_8, q_17, q_25, q_33, q_41, q_65, q_73].getD k 0) S00 0 (fun _ => 0) H_75 := by
    refine ⟨ho, gat_z hq_8 (fun j => ?_), gat_z hq_17 (fun j => ?_), gat_z hq_25 (fun j => ?_), gat_z hq_33 (fun j => ?_), gat_z hq_41 (fun j => ?_), hq_65, gat_z hq_73 (fun j => ?_), hap, fun k hk => ?_⟩
    · show zI 0 = 0; decide +kernel
    · show zI 0 = 0; decide +kernel
    · show zI 0 = 0; decide +kernel
    · show zI 0 = 0; decide +kernel
    · show zI 0 = 0; decide +kernel
    · show zI 0 = 0; decide +kernel
    · rcases Nat.eq_zero_or_pos k with e | e
      · rw [e]; exact ga
      · exact Nat.le_trans hbs (hinc k e hk)
  exact g_retv hx hb hr hlocks hS (⟨_, rfl, ⟨_, hmod⟩, hG, hinc⟩) (Nat.le_of_ble_eq_true rfl) (Nat.le_of_ble_eq_true rfl) dX5_init_78
