/-! ===== the law's own small methods ===== -/
set_option maxHeartbeats 4000000 in
set_option maxRecDepth 100000 in
theorem k_low0 (l : Launch) (G : gG) (H : Heap) (v : Int32) (n : Nat) (h0 : 0 < n) (hn : n < 100000) : gM l yL_low wsL_low rm_L_low [.int v, .int (zI (n : Int))] G H (gi (fun r H1 => zI ((lowN v n : Nat) : Int) = r ∧ H = H1)) (gNo) 0 0 := by
  refine g_start (cc := cL_low) (maxL := 2) (ret := (some .int)) (by decide +kernel) rfl (Nat.le_of_ble_eq_true rfl) ?_
  intro p e s m args below meth c F ls hl
  obtain ⟨hx, hb, hml, hr, hts, hown, hlocks, hxt, hH, hX, hin⟩ := F
  have hown : s.vm.findClass RL = some m.cls := hown
  have hS : va_S (gA G) s.heap H [] := by rw [hH]; exact va_S.rf
  have hl : lv_has ls 2 [(0, .int v), (1, .int (zI (n : Int)))] := hl
  refine lv_iload_n hx hb dL_low_0 rfl (lv_at hl 0 rfl) ?_
  refine lv_ldc (v := 2147483647) hx hb hown (hts (.constant RL 7 (2147483647)) (List.mem_cons_of_mem _ (List.mem_of_getElem? (i := 0) rfl))) dL_low_1 ?_
  refine lv_iand hx hb dL_low_3 ?_
  rw [and31]
  refine lv_iload_n hx hb dL_low_4 rfl (lv_at hl 1 rfl) ?_
  have hlw : lwv v < 2147483648 := Nat.mod_lt _ (by decide)
  refine gz_irem hx hb (lwv v) n (by omega) (by omega) (by omega) (by omega) dL_low_5 ?_
  exact g_reti hx hb hr hlocks hS rfl (⟨rfl, rfl⟩) (Nat.le_of_ble_eq_true rfl) (Nat.le_of_ble_eq_true rfl) dL_low_6
set_option maxHeartbeats 4000000 in
set_option maxRecDepth 100000 in
theorem k_cell0 (l : Launch) (G : gG) (H : Heap) (k : Nat) (hk0 : k < 100000) : gM l yL_cell wsL_cell rm_L_cell [.ref (gSb G), .int (zI (k : Int))] G H (gi (fun r H1 => cellF G k = r ∧ H = H1)) (gNo) 0 0 := by
  refine g_start (cc := cL_cell) (maxL := 2) (ret := (some .int)) (by decide +kernel) rfl (Nat.le_of_ble_eq_true rfl) ?_
  intro p e s m args below meth c F ls hl
  obtain ⟨hx, hb, hml, hr, hts, hown, hlocks, hxt, hH, hX, hin⟩ := F
  have hown : s.vm.findClass RL = some m.cls := hown
  have hS : va_S (gA G) s.heap H [] := by rw [hH]; exact va_S.rf
  have hl : lv_has ls 2 [(0, .ref (gSb G)), (1, .int (zI (k : Int)))] := hl
  refine lv_iload_n hx hb dL_cell_0 rfl (lv_at hl 1 rfl) ?_
  refine lv_aload_n hx hb dL_cell_1 rfl (lv_at hl 0 rfl) ?_
  refine gz_slen hx hb hX hS dL_cell_2 ?_
  refine gz_icmp_ge (tgt := 12) hx hb ⟨by omega, by have := hX.2.2.2.2.2.2; omega⟩ ⟨by omega, by have := hX.2.2.2.2.2.2; omega⟩ dL_cell_3 (by decide) (fun c_3 => ?_) (fun c_3 => ?_)
  · have hge : ¬ k < gSl G := by omega
    refine lv_sipush (v := zI 7919) hx hb dL_cell_12 (by decide +kernel) ?_
    refine lv_iload_n hx hb dL_cell_15 rfl (lv_at hl 1 rfl) ?_
    refine lv_sipush (v := zI 433) hx hb dL_cell_16 (by decide +kernel) ?_
    refine gz_iadd hx hb dL_cell_19 ?_
    refine gz_imul hx hb dL_cell_20 ?_
    refine lv_iload_n hx hb dL_cell_21 rfl (lv_at hl 1 rfl) ?_
    refine lv_sipush (v := zI 2719) hx hb dL_cell_22 (by decide +kernel) ?_
    refine gz_iadd hx hb dL_cell_25 ?_
    refine gz_imul hx hb dL_cell_26 ?_
    exact g_reti hx hb hr hlocks hS rfl (⟨if_neg hge, rfl⟩) (Nat.le_of_ble_eq_true rfl) (Nat.le_of_ble_eq_true rfl) dL_cell_27
  · have hlt : k < gSl G := by omega
    refine lv_aload_n hx hb dL_cell_6 rfl (lv_at hl 0 rfl) ?_
    refine lv_iload_n hx hb dL_cell_7 rfl (lv_at hl 1 rfl) ?_
    refine gz_sld hx hb hX hS k (by omega) (by omega) dL_cell_8 ?_
    refine lv_goto (tgt := 27) hx hb dL_cell_9 (by decide) ?_
    exact g_reti hx hb hr hlocks hS rfl (⟨if_pos hlt, rfl⟩) (Nat.le_of_ble_eq_true rfl) (Nat.le_of_ble_eq_true rfl) dL_cell_27
theorem k_low (l : Launch) (G : gG) (H : Heap) (v : Int32) (z : Int) (n : Nat) (hz : z = n) (h0 : 0 < n) (hn : n < 100000) : gM l yL_low wsL_low rm_L_low [.int v, .int (zI z)] G H (gi (fun r H1 => zI ((lowN v n : Nat) : Int) = r ∧ H = H1)) (gNo) 0 0 := by
  subst hz
  exact k_low0 l G H v n h0 hn
theorem k_cell (l : Launch) (G : gG) (H : Heap) (z : Int) (k : Nat) (hz : z = k) (hk0 : k < 100000) : gM l yL_cell wsL_cell rm_L_cell [.ref (gSb G), .int (zI z)] G H (gi (fun r H1 => cellF G k = r ∧ H = H1)) (gNo) 0 0 := by
  subst hz
  exact k_cell0 l G H k hk0
set_option maxHeartbeats 4000000 in
set_option maxRecDepth 100000 in
theorem y_shift_ok (l : Launch) (G : gG) (A : Nat → Nat) (TA : Nat → Nat → Nat) (S : cS) (W9 : cWk) (H : Heap) (hC : Cat G A TA S W9 H) (hI : sInv S) (z : Int) (i : Nat) (hz : z = i) (hi : i < sn S) (hk : srt S i = false) (d : Int) (hd0 : rI d) (hd : -60 ≤ d ∧ d ≤ 60) (hall : ∀ k, k < stn S i → 0 ≤ stp S i k + d ∧ stp S i k + d ≤ 60) : gM l yL_shift wsL_shift rm_L_shift [.ref (A 0), .int (zI z), .int (zI d)] G H (gi (fun r H1 => zI 0 = r ∧ DX G A TA S (sShift S i d) H H1)) (gNo) 6 60 := by
  refine g_start (cc := cL_shift) (maxL := 3) (ret := (some .int)) (by decide +kernel) rfl (Nat.le_of_ble_eq_true rfl) ?_
  intro p e s m args below meth c F ls hl
  obtain ⟨hx, hb, hml, hr, hts, hown, hlocks, hxt, hH, hX, hin⟩ := F
  have hown : s.vm.findClass RL = some m.cls := hown
  have hS : va_S (gA G) s.heap H [] := by rw [hH]; exact va_S.rf
  have hl : lv_has ls 3 [(0, .ref (A 0)), (1, .int (zI z)), (2, .int (zI d))] := hl
  refine lv_aload_n hx hb dL_shift_0 rfl (lv_at hl 0 rfl) ?_
  refine lv_iload_n hx hb dL_shift_1 rfl (lv_at hl 1 rfl) ?_
  refine lv_iload_n hx hb dL_shift_2 rfl (lv_at hl 2 rfl) ?_
  refine g_gov (vx_runV (As := [.int (zI z), .int (zI d)]) (rest := []) ⟨hx, hb, hml, hown, hts⟩ (x_shift_ok l G A TA S W9 H hC hI z i hz hi hk d hd0 hd hall) (cwV 2 hts gL_shift_X4_shift rfl rfl rfl hd_X4_shift ⟨(Nat.le_of_ble_eq_true rfl), (Nat.le_of_ble_eq_true rfl)⟩) (g_preV hX hS (ci := 4) rfl hC.1) rfl rfl hl.1 rfl (lv_room (Nat.le_of_ble_eq_true rfl)) dL_shift_3 ⟨(Nat.le_of_ble_eq_true rfl), (Nat.le_of_ble_eq_true rfl)⟩) hS (fun H_3 locs hp hS => ?_)
  have hxp := hp
  have hDX := DX.xp hxp rfl
  refine lv_iconst (v := zI 0) hx hb dL_shift_6 rfl ?_
  exact g_reti hx hb hr hlocks hS rfl (⟨rfl, hDX⟩) (Nat.le_of_ble_eq_true rfl) (Nat.le_of_ble_eq_true rfl) dL_shift_7
set_option maxHeartbeats 4000000 in
set_option maxRecDepth 100000 in
theorem y_shift_e1 (l : Launch) (G : gG) (hlf : l.stackTraces = false) (A : Nat → Nat) (TA : Nat → Nat → Nat) (S : cS) (W9 : cWk) (H : Heap) (hC : Cat G A TA S W9 H) (hI : sInv S) (z : Int) (hz : rI z) (hi : ¬ kwn S z) (d : Int) : gM l yL_shift wsL_shift rm_L_shift [.ref (A 0), .int (zI z), .int (zI d)] G H (gF0) (gTh "java/lang/IndexOutOfBoundsException" H) 6 60 := by
  refine g_start (cc := cL_shift) (maxL := 3) (ret := (some .int)) (by decide +kernel) rfl (Nat.le_of_ble_eq_true rfl) ?_
  intro p e s m args below meth c F ls hl
  obtain ⟨hx, hb, hml, hr, hts, hown, hlocks, hxt, hH, hX, hin⟩ := F
  have hown : s.vm.findClass RL = some m.cls := hown
  have hS : va_S (gA G) s.heap H [] := by rw [hH]; exact va_S.rf
  have hl : lv_has ls 3 [(0, .ref (A 0)), (1, .int (zI z)), (2, .int (zI d))] := hl
  refine lv_aload_n hx hb dL_shift_0 rfl (lv_at hl 0 rfl) ?_
  refine lv_iload_n hx hb dL_shift_1 rfl (lv_at hl 1 rfl) ?_
  refine lv_iload_n hx hb dL_shift_2 rfl (lv_at hl 2 rfl) ?_
  refine g_go (vx_runV (As := [.int (zI z), .int (zI d)]) (rest := []) ⟨hx, hb, hml, hown, hts⟩ (x_shift_e1 l G hlf A TA S W9 H hC hI z hz hi d) (cwV 2 hts gL_shift_X4_shift rfl rfl rfl hd_X4_shift ⟨(Nat.le_of_ble_eq_true rfl), (Nat.le_of_ble_eq_true rfl)⟩) (g_preV hX hS (ci := 4) rfl hC.1) rfl rfl hl.1 rfl (lv_room (Nat.le_of_ble_eq_true rfl)) dL_shift_3 ⟨(Nat.le_of_ble_eq_true rfl), (Nat.le_of_ble_eq_true rfl)⟩) hS (fun E ce q9 H_3 locs hp hS hce hcv hcl => ?_) (fun v H1 locs h hS => h.elim)
  exact g_out hxt hlocks hS hce hcv hcl (hp) (Nat.le_of_ble_eq_true rfl) (Nat.le_of_ble_eq_true rfl)
set_option maxHeartbeats 4000000 in
set_option maxRecDepth 100000 in
theorem y_shift_e2 (l : Launch) (G : gG) (hlf : l.stackTraces = false) (A : Nat → Nat) (TA : Nat → Nat → Nat) (S : cS) (W9 : cWk) (H : Heap) (hC : Cat G A TA S W9 H) (hI : sInv S) (z : Int) (i : Nat) (hz : z = i) (hi : i < sn S) (hk : srt S i = false) (d : Int) (hd0 : rI d) (hd : ¬ (-60 ≤ d ∧ d ≤ 60)) : gM l yL_shift wsL_shift rm_L_shift [.ref (A 0), .int (zI z), .int (zI d)] G H (gF0) (gTh "java/lang/IllegalArgumentException" H) 6 60 := by
  refine g_start (cc := cL_shift) (maxL := 3) (ret := (some .int)) (by decide +kernel) rfl (Nat.le_of_ble_eq_true rfl) ?_
  intro p e s m args below meth c F ls hl
  obtain ⟨hx, hb, hml, hr, hts, hown, hlocks, hxt, hH, hX, hin⟩ := F
  have hown : s.vm.findClass RL = some m.cls := hown
  have hS : va_S (gA G) s.heap H [] := by rw [hH]; exact va_S.rf
  have hl : lv_has ls 3 [(0, .ref (A 0)), (1, .int (zI z)), (2, .int (zI d))] := hl
  refine lv_aload_n hx hb dL_shift_0 rfl (lv_at hl 0 rfl) ?_
  refine lv_iload_n hx hb dL_shift_1 rfl (lv_at hl 1 rfl) ?_
  refine lv_iload_n hx hb dL_shift_2 rfl (lv_at hl 2 rfl) ?_
  refine g_go (vx_runV (As := [.int (zI z), .int (zI d)]) (rest := []) ⟨hx, hb, hml, hown, hts⟩ (x_shift_e2 l G hlf A TA S W9 H hC hI z i hz hi hk d hd0 hd) (cwV 2 hts gL_shift_X4_shift rfl rfl rfl hd_X4_shift ⟨(Nat.le_of_ble_eq_true rfl), (Nat.le_of_ble_eq_true rfl)⟩) (g_preV hX hS (ci := 4) rfl hC.1) rfl rfl hl.1 rfl (lv_room (Nat.le_of_ble_eq_true rfl)) dL_shift_3 ⟨(Nat.le_of_ble_eq_true rfl), (Nat.le_of_ble_eq_true rfl)⟩) hS (fun E ce q9 H_3 locs hp hS hce hcv hcl => ?_) (fun v H1 locs h hS => h.elim)
  exact g_out hxt hlocks hS hce hcv hcl (hp) (Nat.le_of_ble_eq_true rfl) (Nat.le_of_ble_eq_true rfl)
set_option maxHeartbeats 4000000 in
set_option maxRecDepth 100000 in
theorem y_shift_e3 (l : Launch) (G : gG) (hlf : l.stackTraces = false) (A : Nat → Nat) (TA : Nat → Nat → Nat) (S : cS) (W9 : cWk) (H : Heap) (hC : Cat G A TA S W9 H) (hI : sInv S) (z : Int) (i : Nat) (hz : z = i) (hi : i < sn S) (hk : srt S i = false) (d : Int) (hd0 : rI d) (hd : -60 ≤ d ∧ d ≤ 60) (q0 : Nat) (hq0 : q0 < stn S i) (hbad : ¬ (0 ≤ stp S i q0 + d ∧ stp S i q0 + d ≤ 60)) : gM l yL_shift wsL_shift rm_L_shift [.ref (A 0), .int (zI z), .int (zI d)] G H (gF0) (gTh "java/lang/IllegalStateException" H) 6 60 := by
  refine g_start (cc := cL_shift) (maxL := 3) (ret := (some .int)) (by decide +kernel) rfl (Nat.le_of_ble_eq_true rfl) ?_
  intro p e s m args below meth c F ls hl
  obtain ⟨hx, hb, hml, hr, hts, hown, hlocks, hxt, hH, hX, hin⟩ := F
  have hown : s.vm.findClass RL = some m.cls := hown
  have hS : va_S (gA G) s.heap H [] := by rw [hH]; exact va_S.rf
  have hl : lv_has ls 3 [(0, .ref (A 0)), (1, .int (zI z)), (2, .int (zI d))] := hl
  refine lv_aload_n hx hb dL_shift_0 rfl (lv_at hl 0 rfl) ?_
  refine lv_iload_n hx hb dL_shift_1 rfl (lv_at hl 1 rfl) ?_
  refine lv_iload_n hx hb dL_shift_2 rfl (lv_at hl 2 rfl) ?_
  refine g_go (vx_runV (As := [.int (zI z), .int (zI d)]) (rest := []) ⟨hx, hb, hml, hown, hts⟩ (x_shift_e3 l G hlf A TA S W9 H hC hI z i hz hi hk d hd0 hd q0 hq0 hbad) (cwV 2 hts gL_shift_X4_shift rfl rfl rfl hd_X4_shift ⟨(Nat.le_of_ble_eq_true rfl), (Nat.le_of_ble_eq_true rfl)⟩) (g_preV hX hS (ci := 4) rfl hC.1) rfl rfl hl.1 rfl (lv_room (Nat.le_of_ble_eq_true rfl)) dL_shift_3 ⟨(Nat.le_of_ble_eq_true rfl), (Nat.le_of_ble_eq_true rfl)⟩) hS (fun E ce q9 H_3 locs hp hS hce hcv hcl => ?_) (fun v H1 locs h hS => h.elim)
  exact g_out hxt hlocks hS hce hcv hcl (hp) (Nat.le_of_ble_eq_true rfl) (Nat.le_of_ble_eq_true rfl)
set_option maxHeartbeats 4000000 in
set_option maxRecDepth 100000 in
theorem y_setCosts_ok (l : Launch) (G : gG) (A : Nat → Nat) (TA : Nat → Nat → Nat) (S : cS) (W9 : cWk) (H : Heap) (hC : Cat G A TA S W9 H) (hI : sInv S) (c1 : Int) (c2 : Int) (c3 : Int) (hc1 : rI c1) (hc2 : rI c2) (hc3 : rI c3) (h : (0 ≤ c1 ∧ c1 ≤ 20) ∧ (0 ≤ c2 ∧ c2 ≤ 20) ∧ 0 ≤ c3 ∧ c3 ≤ 20) : gM l yL_costs wsL_costs rm_L_costs [.ref (A 0), .int (zI c1), .int (zI c2), .int (zI c3)] G H (gi (fun r H1 => zI 0 = r ∧ DX G A TA S (sCost S c1 c2 c3) H H1)) (gNo) 6 60 := by
  refine g_start (cc := cL_costs) (maxL := 4) (ret := (some .int)) (by decide +kernel) rfl (Nat.le_of_ble_eq_true rfl) ?_
  intro p e s m args below meth c F ls hl
  obtain ⟨hx, hb, hml, hr, hts, hown, hlocks, hxt, hH, hX, hin⟩ := F
  have hown : s.vm.findClass RL = some m.cls := hown
  have hS : va_S (gA G) s.heap H [] := by rw [hH]; exact va_S.rf
  have hl : lv_has ls 4 [(0, .ref (A 0)), (1, .int (zI c1)), (2, .int (zI c2)), (3, .int (zI c3))] := hl
  refine lv_aload_n hx hb dL_costs_0 rfl (lv_at hl 0 rfl) ?_
  refine lv_iload_n hx hb dL_costs_1 rfl (lv_at hl 1 rfl) ?_
  refine lv_iload_n hx hb dL_costs_2 rfl (lv_at hl 2 rfl) ?_
  refine lv_iload_n hx hb dL_costs_3 rfl (lv_at hl 3 rfl) ?_
  refine g_gov (vx_runV (As := [.int (zI c1), .int (zI c2), .int (zI c3)]) (rest := []) ⟨hx, hb, hml, hown, hts⟩ (x_setCosts_ok l G A TA S W9 H hC hI c1 c2 c3 hc1 hc2 hc3 h) (cwV 3 hts gL_costs_X4_setCosts rfl rfl rfl hd_X4_setCosts ⟨(Nat.le_of_ble_eq_true rfl), (Nat.le_of_ble_eq_true rfl)⟩) (g_preV hX hS (ci := 4) rfl hC.1) rfl rfl hl.1 rfl (lv_room (Nat.le_of_ble_eq_true rfl)) dL_costs_4 ⟨(Nat.le_of_ble_eq_true rfl), (Nat.le_of_ble_eq_true rfl)⟩) hS (fun H_4 locs hp hS => ?_)
  have hxp := hp
  have hDX := DX.xp hxp rfl
  refine lv_iconst (v := zI 0) hx hb dL_costs_7 rfl ?_
  exact g_reti hx hb hr hlocks hS rfl (⟨rfl, hDX⟩) (Nat.le_of_ble_eq_true rfl) (Nat.le_of_ble_eq_true rfl) dL_costs_8
set_option maxHeartbeats 4000000 in
set_option maxRecDepth 100000 in
theorem y_setCosts_e1 (l : Launch) (G : gG) (hlf : l.stackTraces = false) (A : Nat → Nat) (TA : Nat → Nat → Nat) (S : cS) (W9 : cWk) (H : Heap) (hC : Cat G A TA S W9 H) (hI : sInv S) (c1 : Int) (c2 : Int) (c3 : Int) (hc1 : rI c1) (hc2 : rI c2) (hc3 : rI c3) (h : ¬ (0 ≤ c1 ∧ c1 ≤ 20)) : gM l yL_costs wsL_costs rm_L_costs [.ref (A 0), .int (zI c1), .int (zI c2), .int (zI c3)] G H (gF0) (gTh "java/lang/IllegalArgumentException" H) 6 60 := by
  refine g_start (cc := cL_costs) (maxL := 4) (ret := (some .int)) (by decide +kernel) rfl (Nat.le_of_ble_eq_true rfl) ?_
  intro p e s m args below meth c F ls hl
  obtain ⟨hx, hb, hml, hr, hts, hown, hlocks, hxt, hH, hX, hin⟩ := F
  have hown : s.vm.findClass RL = some m.cls := hown
  have hS : va_S (gA G) s.heap H [] := by rw [hH]; exact va_S.rf
  have hl : lv_has ls 4 [(0, .ref (A 0)), (1, .int (zI c1)), (2, .int (zI c2)), (3, .int (zI c3))] := hl
  refine lv_aload_n hx hb dL_costs_0 rfl (lv_at hl 0 rfl) ?_
  refine lv_iload_n hx hb dL_costs_1 rfl (lv_at hl 1 rfl) ?_
  refine lv_iload_n hx hb dL_costs_2 rfl (lv_at hl 2 rfl) ?_
  refine lv_iload_n hx hb dL_costs_3 rfl (lv_at hl 3 rfl) ?_
  refine g_go (vx_runV (As := [.int (zI c1), .int (zI c2), .int (zI c3)]) (rest := []) ⟨hx, hb, hml, hown, hts⟩ (x_setCosts_1 l G hlf A TA S W9 H hC hI c1 c2 c3 hc1 hc2 hc3 h) (cwV 3 hts gL_costs_X4_setCosts rfl rfl rfl hd_X4_setCosts ⟨(Nat.le_of_ble_eq_true rfl), (Nat.le_of_ble_eq_true rfl)⟩) (g_preV hX hS (ci := 4) rfl hC.1) rfl rfl hl.1 rfl (lv_room (Nat.le_of_ble_eq_true rfl)) dL_costs_4 ⟨(Nat.le_of_ble_eq_true rfl), (Nat.le_of_ble_eq_true rfl)⟩) hS (fun E ce q9 H_4 locs hp hS hce hcv hcl => ?_) (fun v H1 locs h hS => h.elim)
  exact g_out hxt hlocks hS hce hcv hcl (hp) (Nat.le_of_ble_eq_true rfl) (Nat.le_of_ble_eq_true rfl)
set_option maxHeartbeats 4000000 in
set_option maxRecDepth 100000 in
theorem y_setCosts_e2 (l : Launch) (G : gG) (hlf : l.stackTraces = false) (A : Nat → Nat) (TA : Nat → Nat → Nat) (S : cS) (W9 : cWk) (H : Heap) (hC : Cat G A TA S W9 H) (hI : sInv S) (c1 : Int) (c2 : Int) (c3 : Int) (hc1 : rI c1) (hc2 : rI c2) (hc3 : rI c3) (h1c : 0 ≤ c1 ∧ c1 ≤ 20) (h : ¬ (0 ≤ c2 ∧ c2 ≤ 20)) : gM l yL_costs wsL_costs rm_L_costs [.ref (A 0), .int (zI c1), .int (zI c2), .int (zI c3)] G H (gF0) (gTh "java/lang/IllegalArgumentException" H) 6 60 := by
  refine g_start (cc := cL_costs) (maxL := 4) (ret := (some .int)) (by decide +kernel) rfl (Nat.le_of_ble_eq_true rfl) ?_
  intro p e s m args below meth c F ls hl
  obtain ⟨hx, hb, hml, hr, hts, hown, hlocks, hxt, hH, hX, hin⟩ := F
  have hown : s.vm.findClass RL = some m.cls := hown
  have hS : va_S (gA G) s.heap H [] := by rw [hH]; exact va_S.rf
  have hl : lv_has ls 4 [(0, .ref (A 0)), (1, .int (zI c1)), (2, .int (zI c2)), (3, .int (zI c3))] := hl
  refine lv_aload_n hx hb dL_costs_0 rfl (lv_at hl 0 rfl) ?_
  refine lv_iload_n hx hb dL_costs_1 rfl (lv_at hl 1 rfl) ?_
  refine lv_iload_n hx hb dL_costs_2 rfl (lv_at hl 2 rfl) ?_
  refine lv_iload_n hx hb dL_costs_3 rfl (lv_at hl 3 rfl) ?_
  refine g_go (vx_runV (As := [.int (zI c1), .int (zI c2), .int (zI c3)]) (rest := []) ⟨hx, hb, hml, hown, hts⟩ (x_setCosts_2 l G hlf A TA S W9 H hC hI c1 c2 c3 hc1 hc2 hc3 h1c h) (cwV 3 hts gL_costs_X4_setCosts rfl rfl rfl hd_X4_setCosts ⟨(Nat.le_of_ble_eq_true rfl), (Nat.le_of_ble_eq_true rfl)⟩) (g_preV hX hS (ci := 4) rfl hC.1) rfl rfl hl.1 rfl (lv_room (Nat.le_of_ble_eq_true rfl)) dL_costs_4 ⟨(Nat.le_of_ble_eq_true rfl), (Nat.le_of_ble_eq_true rfl)⟩) hS (fun E ce q9 H_4 locs hp hS hce hcv hcl => ?_) (fun v H1 locs h hS => h.elim)
  exact g_out hxt hlocks hS hce hcv hcl (hp) (Nat.le_of_ble_eq_true rfl) (Nat.le_of_ble_eq_true rfl)
set_option maxHeartbeats 4000000 in
set_option maxRecDepth 100000 in
theorem y_setCosts_e3 (l : Launch) (G : gG) (hlf : l.stackTraces = false) (A : Nat → Nat) (TA : Nat → Nat → Nat) (S : cS) (W9 : cWk) (H : Heap) (hC : Cat G A TA S W9 H) (hI : sInv S) (c1 : Int) (c2 : Int) (c3 : Int) (hc1 : rI c1) (hc2 : rI c2) (hc3 : rI c3) (h1c : 0 ≤ c1 ∧ c1 ≤ 20) (h2c : 0 ≤ c2 ∧ c2 ≤ 20) (h : ¬ (0 ≤ c3 ∧ c3 ≤ 20)) : gM l yL_costs wsL_costs rm_L_costs [.ref (A 0), .int (zI c1), .int (zI c2), .int (zI c3)] G H (gF0) (gTh "java/lang/IllegalArgumentException" H) 6 60 := by
  refine g_start (cc := cL_costs) (maxL := 4) (ret := (some .int)) (by decide +kernel) rfl (Nat.le_of_ble_eq_true rfl) ?_
  intro p e s m args below meth c F ls hl
  obtain ⟨hx, hb, hml, hr, hts, hown, hlocks, hxt, hH, hX, hin⟩ := F
  have hown : s.vm.findClass RL = some m.cls := hown
  have hS : va_S (gA G) s.heap H [] := by rw [hH]; exact va_S.rf
  have hl : lv_has ls 4 [(0, .ref (A 0)), (1, .int (zI c1)), (2, .int (zI c2)), (3, .int (zI c3))] := hl
  refine lv_aload_n hx hb dL_costs_0 rfl (lv_at hl 0 rfl) ?_
  refine lv_iload_n hx hb dL_costs_1 rfl (lv_at hl 1 rfl) ?_
  refine lv_iload_n hx hb dL_costs_2 rfl (lv_at hl 2 rfl) ?_
  refine lv_iload_n hx hb dL_costs_3 rfl (lv_at hl 3 rfl) ?_
  refine g_go (vx_runV (As := [.int (zI c1), .int (zI c2), .int (zI c3)]) (rest := []) ⟨hx, hb, hml, hown, hts⟩ (x_setCosts_3 l G hlf A TA S W9 H hC hI c1 c2 c3 hc1 hc2 hc3 h1c h2c h) (cwV 3 hts gL_costs_X4_setCosts rfl rfl rfl hd_X4_setCosts ⟨(Nat.le_of_ble_eq_true rfl), (Nat.le_of_ble_eq_true rfl)⟩) (g_preV hX hS (ci := 4) rfl hC.1) rfl rfl hl.1 rfl (lv_room (Nat.le_of_ble_eq_true rfl)) dL_costs_4 ⟨(Nat.le_of_ble_eq_true rfl), (Nat.le_of_ble_eq_true rfl)⟩) hS (fun E ce q9 H_4 locs hp hS hce hcv hcl => ?_) (fun v H1 locs h hS => h.elim)
  exact g_out hxt hlocks hS hce hcv hcl (hp) (Nat.le_of_ble_eq_true rfl) (Nat.le_of_ble_eq_true rfl)
set_option maxHeartbeats 4000000 in
set_option maxRecDepth 100000 in
theorem d_add_ok (l : Launch) (G : gG) (A : Nat → Nat) (TA : Nat → Nat → Nat) (S : cS) (W9 : cWk) (H : Heap) (hC : Cat G A TA S W9 H) (hI : sInv S) (p1 : Int) (l1 : Int) (hp0 : rI p1) (hl0 : rI l1) (hN : isN p1 l1) (h16 : sn S < 16) (zu : Int) : gM l yL_does wsL_does rm_L_does [.ref (A 0), .int (zI 0), .int (zI p1), .int (zI l1), .int (zI zu)] G H (gi (fun r H1 => zI (sn S : Int) = r ∧ DX G A TA S (sAdd S p1 l1) H H1)) (gNo) 12 900 := by
  refine g_startW (cc := cL_does) (maxL := 6) (ret := (some .int)) (hh := [(0, 103, 104, 40), (0, 103, 109, 43), (0, 103, 114, 45)]) (by decide +kernel) rfl (Nat.le_of_ble_eq_true rfl) ?_
  intro p e s m args below meth c F ls hl
  obtain ⟨hx, hb, hml, hr, hts, hown, hlocks, hxt, hH, hX, hin⟩ := F
  have hown : s.vm.findClass RL = some m.cls := hown
  have hS : va_S (gA G) s.heap H [] := by rw [hH]; exact va_S.rf
  have hl : lv_has ls 6 [(0, .ref (A 0)), (1, .int (zI 0)), (2, .int (zI p1)), (3, .int (zI l1)), (4, .int (zI zu))] := hl
  refine lv_iload_n hx hb dL_does_0 rfl (lv_at hl 1 rfl) ?_
  refine gz_if_ne (tgt := 13) hx hb (by decide) dL_does_1 (by decide) (fun c_1 => ?_) (fun c_1 => ?_)
  · omega
  · refine lv_aload_n hx hb dL_does_4 rfl (lv_at hl 0 rfl) ?_
    refine lv_iload_n hx hb dL_does_5 rfl (lv_at hl 2 rfl) ?_
    refine lv_iload_n hx hb dL_does_6 rfl (lv_at hl 3 rfl) ?_
    refine g_goi (vx_runV (As := [.int (zI p1), .int (zI l1)]) (rest := []) ⟨hx, hb, hml, hown, hts⟩ (x_add_ok l G A TA S W9 H hC hI p1 l1 hp0 hl0 hN h16) (cwV 2 hts gL_does_X4_add rfl rfl rfl hd_X4_add ⟨(Nat.le_of_ble_eq_true rfl), (Nat.le_of_ble_eq_true rfl)⟩) (g_preV hX hS (ci := 4) rfl hC.1) rfl rfl hl.1 rfl (lv_room (Nat.le_of_ble_eq_true rfl)) dL_does_7 ⟨(Nat.le_of_ble_eq_true rfl), (Nat.le_of_ble_eq_true rfl)⟩) hS (fun r_7 H_7 locs hp hS => ?_)
    obtain ⟨rfl, TA2, hc2, hkp, hta1, hta2⟩ := hp
    have hDX := DX.add hc2 hkp hta1 hta2
    refine lv_goto (tgt := 103) hx hb dL_does_10 (by decide) ?_
    exact g_reti hx hb hr hlocks hS rfl (⟨rfl, hDX⟩) (Nat.le_of_ble_eq_true rfl) (Nat.le_of_ble_eq_true rfl) dL_does_103
set_option maxHeartbeats 4000000 in
set_option maxRecDepth 100000 in
theorem d_add_e1 (l : Launch) (G : gG) (hlf : l.stackTraces = false) (A : Nat → Nat) (TA : Nat → Nat → Nat) (S : cS) (W9 : cWk) (H : Heap) (hC : Cat G A TA S W9 H) (hI : sInv S) (p1 : Int) (l1 : Int) (hp0 : rI p1) (hl0 : rI l1) (hN : ¬ isN p1 l1) (zu : Int) : gM l yL_does wsL_does rm_L_does [.ref (A 0), .int (zI 0), .int (zI p1), .int (zI l1), .int (zI zu)] G H (gi (fun r H1 => zI xE = r ∧ DX G A TA S S H H1)) (gNo) 12 900 := by
  refine g_startW (cc := cL_does) (maxL := 6) (ret := (some .int)) (hh := [(0, 103, 104, 40), (0, 103, 109, 43), (0, 103, 114, 45)]) (by decide +kernel) rfl (Nat.le_of_ble_eq_true rfl) ?_
  intro p e s m args below meth c F ls hl
  obtain ⟨hx, hb, hml, hr, hts, hown, hlocks, hxt, hH, hX, hin⟩ := F
  have hown : s.vm.findClass RL = some m.cls := hown
  have hS : va_S (gA G) s.heap H [] := by rw [hH]; exact va_S.rf
  have hl : lv_has ls 6 [(0, .ref (A 0)), (1, .int (zI 0)), (2, .int (zI p1)), (3, .int (zI l1)), (4, .int (zI zu))] := hl
  refine lv_iload_n hx hb dL_does_0 rfl (lv_at hl 1 rfl) ?_
  refine gz_if_ne (tgt := 13) hx hb (by decide) dL_does_1 (by decide) (fun c_1 => ?_) (fun c_1 => ?_)
  · omega
  · refine lv_aload_n hx hb dL_does_4 rfl (lv_at hl 0 rfl) ?_
    refine lv_iload_n hx hb dL_does_5 rfl (lv_at hl 2 rfl) ?_
    refine lv_iload_n hx hb dL_does_6 rfl (lv_at hl 3 rfl) ?_
    refine g_go (vx_runV (As := [.int (zI p1), .int (zI l1)]) (rest := []) ⟨hx, hb, hml, hown, hts⟩ (x_add_e1 l G hlf A TA S W9 H hC hI p1 l1 hp0 hl0 hN) (cwV 2 hts gL_does_X4_add rfl rfl rfl hd_X4_add ⟨(Nat.le_of_ble_eq_true rfl), (Nat.le_of_ble_eq_true rfl)⟩) (g_preV hX hS (ci := 4) rfl hC.1) rfl rfl hl.1 rfl (lv_room (Nat.le_of_ble_eq_true rfl)) dL_does_7 ⟨(Nat.le_of_ble_eq_true rfl), (Nat.le_of_ble_eq_true rfl)⟩) hS (fun E ce q9 H_7 locs hp hS hce hcv hcl => ?_) (fun v H1 locs h hS => h.elim)
    obtain ⟨rfl, hE9⟩ := hp
    have hDX := DX.ext hC hE9
    refine g_catch hX hown [⟨0, 103, 104, 40⟩] ⟨0, 103, 109, 43⟩ [⟨0, 103, 114, 45⟩] hxt (List.forall_mem_cons.mpr ⟨⟨by decide, "java/lang/IndexOutOfBoundsException", (hts (.classLink RL 40 "java/lang/IndexOutOfBoundsException") (List.mem_cons_of_mem _ (List.mem_append_left _ (List.mem_append_left _ (List.mem_append_left _ (List.mem_append_left _ (List.mem_append_left _ (List.mem_append_left _ (List.mem_append_left _ (List.mem_append_left _ (List.mem_of_getElem? (i := 0) rfl))))))))))), by decide +kernel, by decide +kernel⟩, (fun _ h => absurd h List.not_mem_nil)⟩) (by decide +kernel) rfl (by decide) (hts (.classLink RL 43 "java/lang/IllegalArgumentException") (List.mem_cons_of_mem _ (List.mem_append_left _ (List.mem_append_left _ (List.mem_append_left _ (List.mem_append_left _ (List.mem_append_left _ (List.mem_append_left _ (List.mem_append_left _ (List.mem_append_left _ (List.mem_of_getElem? (i := 1) rfl))))))))))) (by decide +kernel) hce hcv hcl ?_
    refine W.eq (g2 := F0 m 109 ls [.ref q9]) rfl ?_
    refine lv_astore (lv' := [(5, .ref q9), (0, .ref (A 0)), (1, .int (zI 0)), (2, .int (zI p1)), (3, .int (zI l1)), (4, .int (zI zu))]) hx hb dL_does_109 hl (by decide) rfl (fun ls hl => ?_)
    refine lv_ldc (v := -99999) hx hb hown (hts (.constant RL 42 (-99999)) (List.mem_cons_of_mem _ (List.mem_append_left _ (List.mem_append_left _ (List.mem_append_left _ (List.mem_append_left _ (List.mem_append_left _ (List.mem_append_left _ (List.mem_append_left _ (List.mem_append_left _ (List.mem_of_getElem? (i := 3) rfl))))))))))) dL_does_111 ?_
    rw [k_far]
    exact g_reti hx hb hr hlocks hS rfl (⟨rfl, hDX⟩) (Nat.le_of_ble_eq_true rfl) (Nat.le_of_ble_eq_true rfl) dL_does_113
set_option maxHeartbeats 4000000 in
set_option maxRecDepth 100000 in
theorem d_add_e2 (l : Launch) (G : gG) (hlf : l.stackTraces = false) (A : Nat → Nat) (TA : Nat → Nat → Nat) (S : cS) (W9 : cWk) (H : Heap) (hC : Cat G A TA S W9 H) (hI : sInv S) (p1 : Int) (l1 : Int) (hp0 : rI p1) (hl0 : rI l1) (hN : isN p1 l1) (h16 : ¬ sn S < 16) (zu : Int) : gM l yL_does wsL_does rm_L_does [.ref (A 0), .int (zI 0), .int (zI p1), .int (zI l1), .int (zI zu)] G H (gi (fun r H1 => zI xE = r ∧ DX G A TA S S H H1)) (gNo) 12 900 := by
  refine g_startW (cc := cL_does) (maxL := 6) (ret := (some .int)) (hh := [(0, 103, 104, 40), (0, 103, 109, 43), (0, 103, 114, 45)]) (by decide +kernel) rfl (Nat.le_of_ble_eq_true rfl) ?_
  intro p e s m args below meth c F ls hl
  obtain ⟨hx, hb, hml, hr, hts, hown, hlocks, hxt, hH, hX, hin⟩ := F
  have hown : s.vm.findClass RL = some m.cls := hown
  have hS : va_S (gA G) s.heap H [] := by rw [hH]; exact va_S.rf
  have hl : lv_has ls 6 [(0, .ref (A 0)), (1, .int (zI 0)), (2, .int (zI p1)), (3, .int (zI l1)), (4, .int (zI zu))] := hl
  refine lv_iload_n hx hb dL_does_0 rfl (lv_at hl 1 rfl) ?_
  refine gz_if_ne (tgt := 13) hx hb (by decide) dL_does_1 (by decide) (fun c_1 => ?_) (fun c_1 => ?_)
  · omega
  · refine lv_aload_n hx hb dL_does_4 rfl (lv_at hl 0 rfl) ?_
    refine lv_iload_n hx hb dL_does_5 rfl (lv_at hl 2 rfl) ?_
    refine lv_iload_n hx hb dL_does_6 rfl (lv_at hl 3 rfl) ?_
    refine g_go (vx_runV (As := [.int (zI p1), .int (zI l1)]) (rest := []) ⟨hx, hb, hml, hown, hts⟩ (x_add_e2 l G hlf A TA S W9 H hC hI p1 l1 hp0 hl0 hN h16) (cwV 2 hts gL_does_X4_add rfl rfl rfl hd_X4_add ⟨(Nat.le_of_ble_eq_true rfl), (Nat.le_of_ble_eq_true rfl)⟩) (g_preV hX hS (ci := 4) rfl hC.1) rfl rfl hl.1 rfl (lv_room (Nat.le_of_ble_eq_true rfl)) dL_does_7 ⟨(Nat.le_of_ble_eq_true rfl), (Nat.le_of_ble_eq_true rfl)⟩) hS (fun E ce q9 H_7 locs hp hS hce hcv hcl => ?_) (fun v H1 locs h hS => h.elim)
    obtain ⟨rfl, hE9⟩ := hp
    have hDX := DX.ext hC hE9
    refine g_catch hX hown [⟨0, 103, 104, 40⟩, ⟨0, 103, 109, 43⟩] ⟨0, 103, 114, 45⟩ [] hxt (List.forall_mem_cons.mpr ⟨⟨by decide, "java/lang/IndexOutOfBoundsException", (hts (.classLink RL 40 "java/lang/IndexOutOfBoundsException") (List.mem_cons_of_mem _ (List.mem_append_left _ (List.mem_append_left _ (List.mem_append_left _ (List.mem_append_left _ (List.mem_append_left _ (List.mem_append_left _ (List.mem_append_left _ (List.mem_append_left _ (List.mem_of_getElem? (i := 0) rfl))))))))))), by decide +kernel, by decide +kernel⟩, (List.forall_mem_cons.mpr ⟨⟨by decide, "java/lang/IllegalArgumentException", (hts (.classLink RL 43 "java/lang/IllegalArgumentException") (List.mem_cons_of_mem _ (List.mem_append_left _ (List.mem_append_left _ (List.mem_append_left _ (List.mem_append_left _ (List.mem_append_left _ (List.mem_append_left _ (List.mem_append_left _ (List.mem_append_left _ (List.mem_of_getElem? (i := 1) rfl))))))))))), by decide +kernel, by decide +kernel⟩, (fun _ h => absurd h List.not_mem_nil)⟩)⟩) (by decide +kernel) rfl (by decide) (hts (.classLink RL 45 "java/lang/IllegalStateException") (List.mem_cons_of_mem _ (List.mem_append_left _ (List.mem_append_left _ (List.mem_append_left _ (List.mem_append_left _ (List.mem_append_left _ (List.mem_append_left _ (List.mem_append_left _ (List.mem_append_left _ (List.mem_of_getElem? (i := 2) rfl))))))))))) (by decide +kernel) hce hcv hcl ?_
    refine W.eq (g2 := F0 m 114 ls [.ref q9]) rfl ?_
    refine lv_astore (lv' := [(5, .ref q9), (0, .ref (A 0)), (1, .int (zI 0)), (2, .int (zI p1)), (3, .int (zI l1)), (4, .int (zI zu))]) hx hb dL_does_114 hl (by decide) rfl (fun ls hl => ?_)
    refine lv_ldc (v := -99999) hx hb hown (hts (.constant RL 42 (-99999)) (List.mem_cons_of_mem _ (List.mem_append_left _ (List.mem_append_left _ (List.mem_append_left _ (List.mem_append_left _ (List.mem_append_left _ (List.mem_append_left _ (List.mem_append_left _ (List.mem_append_left _ (List.mem_of_getElem? (i := 3) rfl))))))))))) dL_does_116 ?_
    rw [k_far]
    exact g_reti hx hb hr hlocks hS rfl (⟨rfl, hDX⟩) (Nat.le_of_ble_eq_true rfl) (Nat.le_of_ble_eq_true rfl) dL_does_118
set_option maxHeartbeats 4000000 in
set_option maxRecDepth 100000 in
theorem d_note_ok (l : Launch) (G : gG) (A : Nat → Nat) (TA : Nat → Nat → Nat) (S : cS) (W9 : cWk) (H : Heap) (hC : Cat G A TA S W9 H) (hI : sInv S) (z : Int) (i : Nat) (hz : z = i) (hi : i < sn S) (hk : srt S i = false) (p1 : Int) (l1 : Int) (hp0 : rI p1) (hl0 : rI l1) (hN : isN p1 l1) (h24 : stn S i < 24) : gM l yL_does wsL_does rm_L_does [.ref (A 0), .int (zI 1), .int (zI z), .int (zI p1), .int (zI l1)] G H (gi (fun r H1 => zI ((stn S i + 1 : Nat) : Int) = r ∧ DX G A TA S (sNote S i p1 l1) H H1)) (gNo) 12 900 := by
  refine g_startW (cc := cL_does) (maxL := 6) (ret := (some .int)) (hh := [(0, 103, 104, 40), (0, 103, 109, 43), (0, 103, 114, 45)]) (by decide +kernel) rfl (Nat.le_of_ble_eq_true rfl) ?_
  intro p e s m args below meth c F ls hl
  obtain ⟨hx, hb, hml, hr, hts, hown, hlocks, hxt, hH, hX, hin⟩ := F
  have hown : s.vm.findClass RL = some m.cls := hown
  have hS : va_S (gA G) s.heap H [] := by rw [hH]; exact va_S.rf
  have hl : lv_has ls 6 [(0, .ref (A 0)), (1, .int (zI 1)), (2, .int (zI z)), (3, .int (zI p1)), (4, .int (zI l1))] := hl
  refine lv_iload_n hx hb dL_does_0 rfl (lv_at hl 1 rfl) ?_
  refine gz_if_ne (tgt := 13) hx hb (by decide) dL_does_1 (by decide) (fun c_1 => ?_) (fun c_1 => ?_)
  · refine lv_iload_n hx hb dL_does_13 rfl (lv_at hl 1 rfl) ?_
    refine lv_iconst (v := zI 1) hx hb dL_does_14 rfl ?_
    refine gz_icmp_ne (tgt := 29) hx hb (by decide) (by decide) dL_does_15 (by decide) (fun c_15 => ?_) (fun c_15 => ?_)
    · omega
    · refine lv_aload_n hx hb dL_does_18 rfl (lv_at hl 0 rfl) ?_
      refine lv_iload_n hx hb dL_does_19 rfl (lv_at hl 2 rfl) ?_
      refine lv_iload_n hx hb dL_does_20 rfl (lv_at hl 3 rfl) ?_
      refine lv_iload hx hb dL_does_21 (lv_at hl 4 rfl) ?_
      refine g_goi (vx_runV (As := [.int (zI z), .int (zI p1), .int (zI l1)]) (rest := []) ⟨hx, hb, hml, hown, hts⟩ (x_note_ok l G A TA S W9 H hC hI z i hz hi hk p1 l1 hp0 hl0 hN h24) (cwV 3 hts gL_does_X4_note rfl rfl rfl hd_X4_note ⟨(Nat.le_of_ble_eq_true rfl), (Nat.le_of_ble_eq_true rfl)⟩) (g_preV hX hS (ci := 4) rfl hC.1) rfl rfl hl.1 rfl (lv_room (Nat.le_of_ble_eq_true rfl)) dL_does_23 ⟨(Nat.le_of_ble_eq_true rfl), (Nat.le_of_ble_eq_true rfl)⟩) hS (fun r_23 H_23 locs hp hS => ?_)
      obtain ⟨rfl, hxp⟩ := hp
      have hDX := DX.xp hxp rfl
      refine lv_goto (tgt := 103) hx hb dL_does_26 (by decide) ?_
      exact g_reti hx hb hr hlocks hS rfl (⟨rfl, hDX⟩) (Nat.le_of_ble_eq_true rfl) (Nat.le_of_ble_eq_true rfl) dL_does_103
  · omega
set_option maxHeartbeats 4000000 in
set_option maxRecDepth 100000 in
theorem d_note_e1 (l : Launch) (G : gG) (hlf : l.stackTraces = false) (A : Nat → Nat) (TA : Nat → Nat → Nat) (S : cS) (W9 : cWk) (H : Heap) (hC : Cat G A TA S W9 H) (hI : sInv S) (z : Int) (hz : rI z) (hi : ¬ kwn S z) (p1 : Int) (l1 : Int) : gM l yL_does wsL_does rm_L_does [.ref (A 0), .int (zI 1), .int (zI z), .int (zI p1), .int (zI l1)] G H (gi (fun r H1 => zI xE = r ∧ DX G A TA S S H H1)) (gNo) 12 900 := by
  refine g_startW (cc := cL_does) (maxL := 6) (ret := (some .int)) (hh := [(0, 103, 104, 40), (0, 103, 109, 43), (0, 103, 114, 45)]) (by decide +kernel) rfl (Nat.le_of_ble_eq_true rfl) ?_
  intro p e s m args below meth c F ls hl
  obtain ⟨hx, hb, hml, hr, hts, hown, hlocks, hxt, hH, hX, hin⟩ := F
  have hown : s.vm.findClass RL = some m.cls := hown
  have hS : va_S (gA G) s.heap H [] := by rw [hH]; exact va_S.rf
  have hl : lv_has ls 6 [(0, .ref (A 0)), (1, .int (zI 1)), (2, .int (zI z)), (3, .int (zI p1)), (4, .int (zI l1))] := hl
  refine lv_iload_n hx hb dL_does_0 rfl (lv_at hl 1 rfl) ?_
  refine gz_if_ne (tgt := 13) hx hb (by decide) dL_does_1 (by decide) (fun c_1 => ?_) (fun c_1 => ?_)
  · refine lv_iload_n hx hb dL_does_13 rfl (lv_at hl 1 rfl) ?_
    refine lv_iconst (v := zI 1) hx hb dL_does_14 rfl ?_
    refine gz_icmp_ne (tgt := 29) hx hb (by decide) (by decide) dL_does_15 (by decide) (fun c_15 => ?_) (fun c_15 => ?_)
    · omega
    · refine lv_aload_n hx hb dL_does_18 rfl (lv_at hl 0 rfl) ?_
      refine lv_iload_n hx hb dL_does_19 rfl (lv_at hl 2 rfl) ?_
      refine lv_iload_n hx hb dL_does_20 rfl (lv_at hl 3 rfl) ?_
      refine lv_iload hx hb dL_does_21 (lv_at hl 4 rfl) ?_
      refine g_go (vx_runV (As := [.int (zI z), .int (zI p1), .int (zI l1)]) (rest := []) ⟨hx, hb, hml, hown, hts⟩ (x_note_e1 l G hlf A TA S W9 H hC hI z hz hi p1 l1) (cwV 3 hts gL_does_X4_note rfl rfl rfl hd_X4_note ⟨(Nat.le_of_ble_eq_true rfl), (Nat.le_of_ble_eq_true rfl)⟩) (g_preV hX hS (ci := 4) rfl hC.1) rfl rfl hl.1 rfl (lv_room (Nat.le_of_ble_eq_true rfl)) dL_does_23 ⟨(Nat.le_of_ble_eq_true rfl), (Nat.le_of_ble_eq_true rfl)⟩) hS (fun E ce q9 H_23 locs hp hS hce hcv hcl => ?_) (fun v H1 locs h hS => h.elim)
      obtain ⟨rfl, hE9⟩ := hp
      have hDX := DX.ext hC hE9
      refine g_catch hX hown [] ⟨0, 103, 104, 40⟩ [⟨0, 103, 109, 43⟩, ⟨0, 103, 114, 45⟩] hxt (fun _ h => absurd h List.not_mem_nil) (by decide +kernel) rfl (by decide) (hts (.classLink RL 40 "java/lang/IndexOutOfBoundsException") (List.mem_cons_of_mem _ (List.mem_append_left _ (List.mem_append_left _ (List.mem_append_left _ (List.mem_append_left _ (List.mem_append_left _ (List.mem_append_left _ (List.mem_append_left _ (List.mem_append_left _ (List.mem_of_getElem? (i := 0) rfl))))))))))) (by decide +kernel) hce hcv hcl ?_
      refine W.eq (g2 := F0 m 104 ls [.ref q9]) rfl ?_
      refine lv_astore (lv' := [(5, .ref q9), (0, .ref (A 0)), (1, .int (zI 1)), (2, .int (zI z)), (3, .int (zI p1)), (4, .int (zI l1))]) hx hb dL_does_104 hl (by decide) rfl (fun ls hl => ?_)
      refine lv_ldc (v := -99999) hx hb hown (hts (.constant RL 42 (-99999)) (List.mem_cons_of_mem _ (List.mem_append_left _ (List.mem_append_left _ (List.mem_append_left _ (List.mem_append_left _ (List.mem_append_left _ (List.mem_append_left _ (List.mem_append_left _ (List.mem_append_left _ (List.mem_of_getElem? (i := 3) rfl))))))))))) dL_does_106 ?_
      rw [k_far]
      exact g_reti hx hb hr hlocks hS rfl (⟨rfl, hDX⟩) (Nat.le_of_ble_eq_true rfl) (Nat.le_of_ble_eq_true rfl) dL_does_108
  · omega
set_option maxHeartbeats 4000000 in
set_option maxRecDepth 100000 in
theorem d_note_e2 (l : Launch) (G : gG) (hlf : l.stackTraces = false) (A : Nat → Nat) (TA : Nat → Nat → Nat) (S : cS) (W9 : cWk) (H : Heap) (hC : Cat G A TA S W9 H) (hI : sInv S) (z : Int) (i : Nat) (hz : z = i) (hi : i < sn S) (hk : srt S i = false) (p1 : Int) (l1 : Int) (hp0 : rI p1) (hl0 : rI l1) (hN : ¬ isN p1 l1) : gM l yL_does wsL_does rm_L_does [.ref (A 0), .int (zI 1), .int (zI z), .int (zI p1), .int (zI l1)] G H (gi (fun r H1 => zI xE = r ∧ DX G A TA S S H H1)) (gNo) 12 900 := by
  refine g_startW (cc := cL_does) (maxL := 6) (ret := (some .int)) (hh := [(0, 103, 104, 40), (0, 103, 109, 43), (0, 103, 114, 45)]) (by decide +kernel) rfl (Nat.le_of_ble_eq_true rfl) ?_
  intro p e s m args below meth c F ls hl
  obtain ⟨hx, hb, hml, hr, hts, hown, hlocks, hxt, hH, hX, hin⟩ := F
  have hown : s.vm.findClass RL = some m.cls := hown
  have hS : va_S (gA G) s.heap H [] := by rw [hH]; exact va_S.rf
  have hl : lv_has ls 6 [(0, .ref (A 0)), (1, .int (zI 1)), (2, .int (zI z)), (3, .int (zI p1)), (4, .int (zI l1))] := hl
  refine lv_iload_n hx hb dL_does_0 rfl (lv_at hl 1 rfl) ?_
  refine gz_if_ne (tgt := 13) hx hb (by decide) dL_does_1 (by decide) (fun c_1 => ?_) (fun c_1 => ?_)
  · refine lv_iload_n hx hb dL_does_13 rfl (lv_at hl 1 rfl) ?_
    refine lv_iconst (v := zI 1) hx hb dL_does_14 rfl ?_
    refine gz_icmp_ne (tgt := 29) hx hb (by decide) (by decide) dL_does_15 (by decide) (fun c_15 => ?_) (fun c_15 => ?_)
    · omega
    · refine lv_aload_n hx hb dL_does_18 rfl (lv_at hl 0 rfl) ?_
      refine lv_iload_n hx hb dL_does_19 rfl (lv_at hl 2 rfl) ?_
      refine lv_iload_n hx hb dL_does_20 rfl (lv_at hl 3 rfl) ?_
      refine lv_iload hx hb dL_does_21 (lv_at hl 4 rfl) ?_
      refine g_go (vx_runV (As := [.int (zI z), .int (zI p1), .int (zI l1)]) (rest := []) ⟨hx, hb, hml, hown, hts⟩ (x_note_e2 l G hlf A TA S W9 H hC hI z i hz hi hk p1 l1 hp0 hl0 hN) (cwV 3 hts gL_does_X4_note rfl rfl rfl hd_X4_note ⟨(Nat.le_of_ble_eq_true rfl), (Nat.le_of_ble_eq_true rfl)⟩) (g_preV hX hS (ci := 4) rfl hC.1) rfl rfl hl.1 rfl (lv_room (Nat.le_of_ble_eq_true rfl)) dL_does_23 ⟨(Nat.le_of_ble_eq_true rfl), (Nat.le_of_ble_eq_true rfl)⟩) hS (fun E ce q9 H_23 locs hp hS hce hcv hcl => ?_) (fun v H1 locs h hS => h.elim)
      obtain ⟨rfl, hE9⟩ := hp
      have hDX := DX.ext hC hE9
      refine g_catch hX hown [⟨0, 103, 104, 40⟩] ⟨0, 103, 109, 43⟩ [⟨0, 103, 114, 45⟩] hxt (List.forall_mem_cons.mpr ⟨⟨by decide, "java/lang/IndexOutOfBoundsException", (hts (.classLink RL 40 "java/lang/IndexOutOfBoundsException") (List.mem_cons_of_mem _ (List.mem_append_left _ (List.mem_append_left _ (List.mem_append_left _ (List.mem_append_left _ (List.mem_append_left _ (List.mem_append_left _ (List.mem_append_left _ (List.mem_append_left _ (List.mem_of_getElem? (i := 0) rfl))))))))))), by decide +kernel, by decide +kernel⟩, (fun _ h => absurd h List.not_mem_nil)⟩) (by decide +kernel) rfl (by decide) (hts (.classLink RL 43 "java/lang/IllegalArgumentException") (List.mem_cons_of_mem _ (List.mem_append_left _ (List.mem_append_left _ (List.mem_append_left _ (List.mem_append_left _ (List.mem_append_left _ (List.mem_append_left _ (List.mem_append_left _ (List.mem_append_left _ (List.mem_of_getElem? (i := 1) rfl))))))))))) (by decide +kernel) hce hcv hcl ?_
      refine W.eq (g2 := F0 m 109 ls [.ref q9]) rfl ?_
      refine lv_astore (lv' := [(5, .ref q9), (0, .ref (A 0)), (1, .int (zI 1)), (2, .int (zI z)), (3, .int (zI p1)), (4, .int (zI l1))]) hx hb dL_does_109 hl (by decide) rfl (fun ls hl => ?_)
      refine lv_ldc (v := -99999) hx hb hown (hts (.constant RL 42 (-99999)) (List.mem_cons_of_mem _ (List.mem_append_left _ (List.mem_append_left _ (List.mem_append_left _ (List.mem_append_left _ (List.mem_append_left _ (List.mem_append_left _ (List.mem_append_left _ (List.mem_append_left _ (List.mem_of_getElem? (i := 3) rfl))))))))))) dL_does_111 ?_
      rw [k_far]
      exact g_reti hx hb hr hlocks hS rfl (⟨rfl, hDX⟩) (Nat.le_of_ble_eq_true rfl) (Nat.le_of_ble_eq_true rfl) dL_does_113
  · omega
set_option maxHeartbeats 4000000 in
set_option maxRecDepth 100000 in
theorem d_note_e3 (l : Launch) (G : gG) (hlf : l.stackTraces = false) (A : Nat → Nat) (TA : Nat → Nat → Nat) (S : cS) (W9 : cWk) (H : Heap) (hC : Cat G A TA S W9 H) (hI : sInv S) (z : Int) (i : Nat) (hz : z = i) (hi : i < sn S) (hk : srt S i = false) (p1 : Int) (l1 : Int) (hp0 : rI p1) (hl0 : rI l1) (hN : isN p1 l1) (h24 : ¬ stn S i < 24) : gM l yL_does wsL_does rm_L_does [.ref (A 0), .int (zI 1), .int (zI z), .int (zI p1), .int (zI l1)] G H (gi (fun r H1 => zI xE = r ∧ DX G A TA S S H H1)) (gNo) 12 900 := by
  refine g_startW (cc := cL_does) (maxL := 6) (ret := (some .int)) (hh := [(0, 103, 104, 40), (0, 103, 109, 43), (0, 103, 114, 45)]) (by decide +kernel) rfl (Nat.le_of_ble_eq_true rfl) ?_
  intro p e s m args below meth c F ls hl
  obtain ⟨hx, hb, hml, hr, hts, hown, hlocks, hxt, hH, hX, hin⟩ := F
  have hown : s.vm.findClass RL = some m.cls := hown
  have hS : va_S (gA G) s.heap H [] := by rw [hH]; exact va_S.rf
  have hl : lv_has ls 6 [(0, .ref (A 0)), (1, .int (zI 1)), (2, .int (zI z)), (3, .int (zI p1)), (4, .int (zI l1))] := hl
  refine lv_iload_n hx hb dL_does_0 rfl (lv_at hl 1 rfl) ?_
  refine gz_if_ne (tgt := 13) hx hb (by decide) dL_does_1 (by decide) (fun c_1 => ?_) (fun c_1 => ?_)
  · refine lv_iload_n hx hb dL_does_13 rfl (lv_at hl 1 rfl) ?_
    refine lv_iconst (v := zI 1) hx hb dL_does_14 rfl ?_
    refine gz_icmp_ne (tgt := 29) hx hb (by decide) (by decide) dL_does_15 (by decide) (fun c_15 => ?_) (fun c_15 => ?_)
    · omega
    · refine lv_aload_n hx hb dL_does_18 rfl (lv_at hl 0 rfl) ?_
      refine lv_iload_n hx hb dL_does_19 rfl (lv_at hl 2 rfl) ?_
      refine lv_iload_n hx hb dL_does_20 rfl (lv_at hl 3 rfl) ?_
      refine lv_iload hx hb dL_does_21 (lv_at hl 4 rfl) ?_
      refine g_go (vx_runV (As := [.int (zI z), .int (zI p1), .int (zI l1)]) (rest := []) ⟨hx, hb, hml, hown, hts⟩ (x_note_e3 l G hlf A TA S W9 H hC hI z i hz hi hk p1 l1 hp0 hl0 hN h24) (cwV 3 hts gL_does_X4_note rfl rfl rfl hd_X4_note ⟨(Nat.le_of_ble_eq_true rfl), (Nat.le_of_ble_eq_true rfl)⟩) (g_preV hX hS (ci := 4) rfl hC.1) rfl rfl hl.1 rfl (lv_room (Nat.le_of_ble_eq_true rfl)) dL_does_23 ⟨(Nat.le_of_ble_eq_true rfl), (Nat.le_of_ble_eq_true rfl)⟩) hS (fun E ce q9 H_23 locs hp hS hce hcv hcl => ?_) (fun v H1 locs h hS => h.elim)
      obtain ⟨rfl, hE9⟩ := hp
      have hDX := DX.ext hC hE9
      refine g_catch hX hown [⟨0, 103, 104, 40⟩, ⟨0, 103, 109, 43⟩] ⟨0, 103, 114, 45⟩ [] hxt (List.forall_mem_cons.mpr ⟨⟨by decide, "java/lang/IndexOutOfBoundsException", (hts (.classLink RL 40 "java/lang/IndexOutOfBoundsException") (List.mem_cons_of_mem _ (List.mem_append_left _ (List.mem_append_left _ (List.mem_append_left _ (List.mem_append_left _ (List.mem_append_left _ (List.mem_append_left _ (List.mem_append_left _ (List.mem_append_left _ (List.mem_of_getElem? (i := 0) rfl))))))))))), by decide +kernel, by decide +kernel⟩, (List.forall_mem_cons.mpr ⟨⟨by decide, "java/lang/IllegalArgumentException", (hts (.classLink RL 43 "java/lang/IllegalArgumentException") (List.mem_cons_of_mem _ (List.mem_append_left _ (List.mem_append_left _ (List.mem_append_left _ (List.mem_append_left _ (List.mem_append_left _ (List.mem_append_left _ (List.mem_append_left _ (List.mem_append_left _ (List.mem_of_getElem? (i := 1) rfl))))))))))), by decide +kernel, by decide +kernel⟩, (fun _ h => absurd h List.not_mem_nil)⟩)⟩) (by decide +kernel) rfl (by decide) (hts (.classLink RL 45 "java/lang/IllegalStateException") (List.mem_cons_of_mem _ (List.mem_append_left _ (List.mem_append_left _ (List.mem_append_left _ (List.mem_append_left _ (List.mem_append_left _ (List.mem_append_left _ (List.mem_append_left _ (List.mem_append_left _ (List.mem_of_getElem? (i := 2) rfl))))))))))) (by decide +kernel) hce hcv hcl ?_
      refine W.eq (g2 := F0 m 114 ls [.ref q9]) rfl ?_
      refine lv_astore (lv' := [(5, .ref q9), (0, .ref (A 0)), (1, .int (zI 1)), (2, .int (zI z)), (3, .int (zI p1)), (4, .int (zI l1))]) hx hb dL_does_114 hl (by decide) rfl (fun ls hl => ?_)
      refine lv_ldc (v := -99999) hx hb hown (hts (.constant RL 42 (-99999)) (List.mem_cons_of_mem _ (List.mem_append_left _ (List.mem_append_left _ (List.mem_append_left _ (List.mem_append_left _ (List.mem_append_left _ (List.mem_append_left _ (List.mem_append_left _ (List.mem_append_left _ (List.mem_of_getElem? (i := 3) rfl))))))))))) dL_does_116 ?_
      rw [k_far]
      exact g_reti hx hb hr hlocks hS rfl (⟨rfl, hDX⟩) (Nat.le_of_ble_eq_true rfl) (Nat.le_of_ble_eq_true rfl) dL_does_118
  · omega
set_option maxHeartbeats 4000000 in
set_option maxRecDepth 100000 in
theorem d_shift_ok (l : Launch) (G : gG) (A : Nat → Nat) (TA : Nat → Nat → Nat) (S : cS) (W9 : cWk) (H : Heap) (hC : Cat G A TA S W9 H) (hI : sInv S) (z : Int) (i : Nat) (hz : z = i) (hi : i < sn S) (hk : srt S i = false) (d : Int) (hd0 : rI d) (hd : -60 ≤ d ∧ d ≤ 60) (hall : ∀ k, k < stn S i → 0 ≤ stp S i k + d ∧ stp S i k + d ≤ 60) (zu : Int) : gM l yL_does wsL_does rm_L_does [.ref (A 0), .int (zI 2), .int (zI z), .int (zI d), .int (zI zu)] G H (gi (fun r H1 => zI 0 = r ∧ DX G A TA S (sShift S i d) H H1)) (gNo) 12 900 := by
  refine g_startW (cc := cL_does) (maxL := 6) (ret := (some .int)) (hh := [(0, 103, 104, 40), (0, 103, 109, 43), (0, 103, 114, 45)]) (by decide +kernel) rfl (Nat.le_of_ble_eq_true rfl) ?_
  intro p e s m args below meth c F ls hl
  obtain ⟨hx, hb, hml, hr, hts, hown, hlocks, hxt, hH, hX, hin⟩ := F
  have hown : s.vm.findClass RL = some m.cls := hown
  have hS : va_S (gA G) s.heap H [] := by rw [hH]; exact va_S.rf
  have hl : lv_has ls 6 [(0, .ref (A 0)), (1, .int (zI 2)), (2, .int (zI z)), (3, .int (zI d)), (4, .int (zI zu))] := hl
  refine lv_iload_n hx hb dL_does_0 rfl (lv_at hl 1 rfl) ?_
  refine gz_if_ne (tgt := 13) hx hb (by decide) dL_does_1 (by decide) (fun c_1 => ?_) (fun c_1 => ?_)
  · refine lv_iload_n hx hb dL_does_13 rfl (lv_at hl 1 rfl) ?_
    refine lv_iconst (v := zI 1) hx hb dL_does_14 rfl ?_
    refine gz_icmp_ne (tgt := 29) hx hb (by decide) (by decide) dL_does_15 (by decide) (fun c_15 => ?_) (fun c_15 => ?_)
    · refine lv_iload_n hx hb dL_does_29 rfl (lv_at hl 1 rfl) ?_
      refine lv_iconst (v := zI 2) hx hb dL_does_30 rfl ?_
      refine gz_icmp_ne (tgt := 43) hx hb (by decide) (by decide) dL_does_31 (by decide) (fun c_31 => ?_) (fun c_31 => ?_)
      · omega
      · refine lv_aload_n hx hb dL_does_34 rfl (lv_at hl 0 rfl) ?_
        refine lv_iload_n hx hb dL_does_35 rfl (lv_at hl 2 rfl) ?_
        refine lv_iload_n hx hb dL_does_36 rfl (lv_at hl 3 rfl) ?_
        refine g_goi (vx_runS (As := [.ref (A 0), .int (zI z), .int (zI d)]) (rest := []) ⟨hx, hb, hml, hown, hts⟩ (y_shift_ok l G A TA S W9 H hC hI z i hz hi hk d hd0 hd hall) (va_cwS 3 hts gL_does_L_shift rfl rfl rfl hd_L_shift.2 ⟨(Nat.le_of_ble_eq_true rfl), (Nat.le_of_ble_eq_true rfl)⟩) (g_pre hX hS) rfl rfl hl.1 rfl (lv_room (Nat.le_of_ble_eq_true rfl)) dL_does_37 ⟨(Nat.le_of_ble_eq_true rfl), (Nat.le_of_ble_eq_true rfl)⟩) hS (fun r_37 H_37 locs hp hS => ?_)
        obtain ⟨rfl, hDX⟩ := hp
        refine lv_goto (tgt := 103) hx hb dL_does_40 (by decide) ?_
        exact g_reti hx hb hr hlocks hS rfl (⟨rfl, hDX⟩) (Nat.le_of_ble_eq_true rfl) (Nat.le_of_ble_eq_true rfl) dL_does_103
    · omega
  · omega
set_option maxHeartbeats 4000000 in
set_option maxRecDepth 100000 in
theorem d_shift_e1 (l : Launch) (G : gG) (hlf : l.stackTraces = false) (A : Nat → Nat) (TA : Nat → Nat → Nat) (S : cS) (W9 : cWk) (H : Heap) (hC : Cat G A TA S W9 H) (hI : sInv S) (z : Int) (hz : rI z) (hi : ¬ kwn S z) (d : Int) (zu : Int) : gM l yL_does wsL_does rm_L_does [.ref (A 0), .int (zI 2), .int (zI z), .int (zI d), .int (zI zu)] G H (gi (fun r H1 => zI xE = r ∧ DX G A TA S S H H1)) (gNo) 12 900 := by
  refine g_startW (cc := cL_does) (maxL := 6) (ret := (some .int)) (hh := [(0, 103, 104, 40), (0, 103, 109, 43), (0, 103, 114, 45)]) (by decide +kernel) rfl (Nat.le_of_ble_eq_true rfl) ?_
  intro p e s m args below meth c F ls hl
  obtain ⟨hx, hb, hml, hr, hts, hown, hlocks, hxt, hH, hX, hin⟩ := F
  have hown : s.vm.findClass RL = some m.cls := hown
  have hS : va_S (gA G) s.heap H [] := by rw [hH]; exact va_S.rf
  have hl : lv_has ls 6 [(0, .ref (A 0)), (1, .int (zI 2)), (2, .int (zI z)), (3, .int (zI d)), (4, .int (zI zu))] := hl
  refine lv_iload_n hx hb dL_does_0 rfl (lv_at hl 1 rfl) ?_
  refine gz_if_ne (tgt := 13) hx hb (by decide) dL_does_1 (by decide) (fun c_1 => ?_) (fun c_1 => ?_)
  · refine lv_iload_n hx hb dL_does_13 rfl (lv_at hl 1 rfl) ?_
    refine lv_iconst (v := zI 1) hx hb dL_does_14 rfl ?_
    refine gz_icmp_ne (tgt := 29) hx hb (by decide) (by decide) dL_does_15 (by decide) (fun c_15 => ?_) (fun c_15 => ?_)
    · refine lv_iload_n hx hb dL_does_29 rfl (lv_at hl 1 rfl) ?_
      refine lv_iconst (v := zI 2) hx hb dL_does_30 rfl ?_
      refine gz_icmp_ne (tgt := 43) hx hb (by decide) (by decide) dL_does_31 (by decide) (fun c_31 => ?_) (fun c_31 => ?_)
      · omega
      · refine lv_aload_n hx hb dL_does_34 rfl (lv_at hl 0 rfl) ?_
        refine lv_iload_n hx hb dL_does_35 rfl (lv_at hl 2 rfl) ?_
        refine lv_iload_n hx hb dL_does_36 rfl (lv_at hl 3 rfl) ?_
        refine g_go (vx_runS (As := [.ref (A 0), .int (zI z), .int (zI d)]) (rest := []) ⟨hx, hb, hml, hown, hts⟩ (y_shift_e1 l G hlf A TA S W9 H hC hI z hz hi d) (va_cwS 3 hts gL_does_L_shift rfl rfl rfl hd_L_shift.2 ⟨(Nat.le_of_ble_eq_true rfl), (Nat.le_of_ble_eq_true rfl)⟩) (g_pre hX hS) rfl rfl hl.1 rfl (lv_room (Nat.le_of_ble_eq_true rfl)) dL_does_37 ⟨(Nat.le_of_ble_eq_true rfl), (Nat.le_of_ble_eq_true rfl)⟩) hS (fun E ce q9 H_37 locs hp hS hce hcv hcl => ?_) (fun v H1 locs h hS => h.elim)
        obtain ⟨rfl, hE9⟩ := hp
        have hDX := DX.ext hC hE9
        refine g_catch hX hown [] ⟨0, 103, 104, 40⟩ [⟨0, 103, 109, 43⟩, ⟨0, 103, 114, 45⟩] hxt (fun _ h => absurd h List.not_mem_nil) (by decide +kernel) rfl (by decide) (hts (.classLink RL 40 "java/lang/IndexOutOfBoundsException") (List.mem_cons_of_mem _ (List.mem_append_left _ (List.mem_append_left _ (List.mem_append_left _ (List.mem_append_left _ (List.mem_append_left _ (List.mem_append_left _ (List.mem_append_left _ (List.mem_append_left _ (List.mem_of_getElem? (i := 0) rfl))))))))))) (by decide +kernel) hce hcv hcl ?_
        refine W.eq (g2 := F0 m 104 ls [.ref q9]) rfl ?_
        refine lv_astore (lv' := [(5, .ref q9), (0, .ref (A 0)), (1, .int (zI 2)), (2, .int (zI z)), (3, .int (zI d)), (4, .int (zI zu))]) hx hb dL_does_104 hl (by decide) rfl (fun ls hl => ?_)
        refine lv_ldc (v := -99999) hx hb hown (hts (.constant RL 42 (-99999)) (List.mem_cons_of_mem _ (List.mem_append_left _ (List.mem_append_left _ (List.mem_append_left _ (List.mem_append_left _ (List.mem_append_left _ (List.mem_append_left _ (List.mem_append_left _ (List.mem_append_left _ (List.mem_of_getElem? (i := 3) rfl))))))))))) dL_does_106 ?_
        rw [k_far]
        exact g_reti hx hb hr hlocks hS rfl (⟨rfl, hDX⟩) (Nat.le_of_ble_eq_true rfl) (Nat.le_of_ble_eq_true rfl) dL_does_108
    · omega
  · omega
set_option maxHeartbeats 4000000 in
set_option maxRecDepth 100000 in
theorem d_shift_e2 (l : Launch) (G : gG) (hlf : l.stackTraces = false) (A : Nat → Nat) (TA : Nat → Nat → Nat) (S : cS) (W9 : cWk) (H : Heap) (hC : Cat G A TA S W9 H) (hI : sInv S) (z : Int) (i : Nat) (hz : z = i) (hi : i < sn S) (hk : srt S i = false) (d : Int) (hd0 : rI d) (hd : ¬ (-60 ≤ d ∧ d ≤ 60)) (zu : Int) : gM l yL_does wsL_does rm_L_does [.ref (A 0), .int (zI 2), .int (zI z), .int (zI d), .int (zI zu)] G H (gi (fun r H1 => zI xE = r ∧ DX G A TA S S H H1)) (gNo) 12 900 := by
  refine g_startW (cc := cL_does) (maxL := 6) (ret := (some .int)) (hh := [(0, 103, 104, 40), (0, 103, 109, 43), (0, 103, 114, 45)]) (by decide +kernel) rfl (Nat.le_of_ble_eq_true rfl) ?_
  intro p e s m args below meth c F ls hl
  obtain ⟨hx, hb, hml, hr, hts, hown, hlocks, hxt, hH, hX, hin⟩ := F
  have hown : s.vm.findClass RL = some m.cls := hown
  have hS : va_S (gA G) s.heap H [] := by rw [hH]; exact va_S.rf
  have hl : lv_has ls 6 [(0, .ref (A 0)), (1, .int (zI 2)), (2, .int (zI z)), (3, .int (zI d)), (4, .int (zI zu))] := hl
  refine lv_iload_n hx hb dL_does_0 rfl (lv_at hl 1 rfl) ?_
  refine gz_if_ne (tgt := 13) hx hb (by decide) dL_does_1 (by decide) (fun c_1 => ?_) (fun c_1 => ?_)
  · refine lv_iload_n hx hb dL_does_13 rfl (lv_at hl 1 rfl) ?_
    refine lv_iconst (v := zI 1) hx hb dL_does_14 rfl ?_
    refine gz_icmp_ne (tgt := 29) hx hb (by decide) (by decide) dL_does_15 (by decide) (fun c_15 => ?_) (fun c_15 => ?_)
    · refine lv_iload_n hx hb dL_does_29 rfl (lv_at hl 1 rfl) ?_
      refine lv_iconst (v := zI 2) hx hb dL_does_30 rfl ?_
      refine gz_icmp_ne (tgt := 43) hx hb (by decide) (by decide) dL_does_31 (by decide) (fun c_31 => ?_) (fun c_31 => ?_)
      · omega
      · refine lv_aload_n hx hb dL_does_34 rfl (lv_at hl 0 rfl) ?_
        refine lv_iload_n hx hb dL_does_35 rfl (lv_at hl 2 rfl) ?_
        refine lv_iload_n hx hb dL_does_36 rfl (lv_at hl 3 rfl) ?_
        refine g_go (vx_runS (As := [.ref (A 0), .int (zI z), .int (zI d)]) (rest := []) ⟨hx, hb, hml, hown, hts⟩ (y_shift_e2 l G hlf A TA S W9 H hC hI z i hz hi hk d hd0 hd) (va_cwS 3 hts gL_does_L_shift rfl rfl rfl hd_L_shift.2 ⟨(Nat.le_of_ble_eq_true rfl), (Nat.le_of_ble_eq_true rfl)⟩) (g_pre hX hS) rfl rfl hl.1 rfl (lv_room (Nat.le_of_ble_eq_true rfl)) dL_does_37 ⟨(Nat.le_of_ble_eq_true rfl), (Nat.le_of_ble_eq_true rfl)⟩) hS (fun E ce q9 H_37 locs hp hS hce hcv hcl => ?_) (fun v H1 locs h hS => h.elim)
        obtain ⟨rfl, hE9⟩ := hp
        have hDX := DX.ext hC hE9
        refine g_catch hX hown [⟨0, 103, 104, 40⟩] ⟨0, 103, 109, 43⟩ [⟨0, 103, 114, 45⟩] hxt (List.forall_mem_cons.mpr ⟨⟨by decide, "java/lang/IndexOutOfBoundsException", (hts (.classLink RL 40 "java/lang/IndexOutOfBoundsException") (List.mem_cons_of_mem _ (List.mem_append_left _ (List.mem_append_left _ (List.mem_append_left _ (List.mem_append_left _ (List.mem_append_left _ (List.mem_append_left _ (List.mem_append_left _ (List.mem_append_left _ (List.mem_of_getElem? (i := 0) rfl))))))))))), by decide +kernel, by decide +kernel⟩, (fun _ h => absurd h List.not_mem_nil)⟩) (by decide +kernel) rfl (by decide) (hts (.classLink RL 43 "java/lang/IllegalArgumentException") (List.mem_cons_of_mem _ (List.mem_append_left _ (List.mem_append_left _ (List.mem_append_left _ (List.mem_append_left _ (List.mem_append_left _ (List.mem_append_left _ (List.mem_append_left _ (List.mem_append_left _ (List.mem_of_getElem? (i := 1) rfl))))))))))) (by decide +kernel) hce hcv hcl ?_
        refine W.eq (g2 := F0 m 109 ls [.ref q9]) rfl ?_
        refine lv_astore (lv' := [(5, .ref q9), (0, .ref (A 0)), (1, .int (zI 2)), (2, .int (zI z)), (3, .int (zI d)), (4, .int (zI zu))]) hx hb dL_does_109 hl (by decide) rfl (fun ls hl => ?_)
        refine lv_ldc (v := -99999) hx hb hown (hts (.constant RL 42 (-99999)) (List.mem_cons_of_mem _ (List.mem_append_left _ (List.mem_append_left _ (List.mem_append_left _ (List.mem_append_left _ (List.mem_append_left _ (List.mem_append_left _ (List.mem_append_left _ (List.mem_append_left _ (List.mem_of_getElem? (i := 3) rfl))))))))))) dL_does_111 ?_
        rw [k_far]
        exact g_reti hx hb hr hlocks hS rfl (⟨rfl, hDX⟩) (Nat.le_of_ble_eq_true rfl) (Nat.le_of_ble_eq_true rfl) dL_does_113
    · omega
  · omega
set_option maxHeartbeats 4000000 in
set_option maxRecDepth 100000 in
theorem d_shift_e3 (l : Launch) (G : gG) (hlf : l.stackTraces = false) (A : Nat → Nat) (TA : Nat → Nat → Nat) (S : cS) (W9 : cWk) (H : Heap) (hC : Cat G A TA S W9 H) (hI : sInv S) (z : Int) (i : Nat) (hz : z = i) (hi : i < sn S) (hk : srt S i = false) (d : Int) (hd0 : rI d) (hd : -60 ≤ d ∧ d ≤ 60) (q0 : Nat) (hq0 : q0 < stn S i) (hbad : ¬ (0 ≤ stp S i q0 + d ∧ stp S i q0 + d ≤ 60)) (zu : Int) : gM l yL_does wsL_does rm_L_does [.ref (A 0), .int (zI 2), .int (zI z), .int (zI d), .int (zI zu)] G H (gi (fun r H1 => zI xE = r ∧ DX G A TA S S H H1)) (gNo) 12 900 := by
  refine g_startW (cc := cL_does) (maxL := 6) (ret := (some .int)) (hh := [(0, 103, 104, 40), (0, 103, 109, 43), (0, 103, 114, 45)]) (by decide +kernel) rfl (Nat.le_of_ble_eq_true rfl) ?_
  intro p e s m args below meth c F ls hl
  obtain ⟨hx, hb, hml, hr, hts, hown, hlocks, hxt, hH, hX, hin⟩ := F
  have hown : s.vm.findClass RL = some m.cls := hown
  have hS : va_S (gA G) s.heap H [] := by rw [hH]; exact va_S.rf
  have hl : lv_has ls 6 [(0, .ref (A 0)), (1, .int (zI 2)), (2, .int (zI z)), (3, .int (zI d)), (4, .int (zI zu))] := hl
  refine lv_iload_n hx hb dL_does_0 rfl (lv_at hl 1 rfl) ?_
  refine gz_if_ne (tgt := 13) hx hb (by decide) dL_does_1 (by decide) (fun c_1 => ?_) (fun c_1 => ?_)
  · refine lv_iload_n hx hb dL_does_13 rfl (lv_at hl 1 rfl) ?_
    refine lv_iconst (v := zI 1) hx hb dL_does_14 rfl ?_
    refine gz_icmp_ne (tgt := 29) hx hb (by decide) (by decide) dL_does_15 (by decide) (fun c_15 => ?_) (fun c_15 => ?_)
    · refine lv_iload_n hx hb dL_does_29 rfl (lv_at hl 1 rfl) ?_
      refine lv_iconst (v := zI 2) hx hb dL_does_30 rfl ?_
      refine gz_icmp_ne (tgt := 43) hx hb (by decide) (by decide) dL_does_31 (by decide) (fun c_31 => ?_) (fun c_31 => ?_)
      · omega
      · refine lv_aload_n hx hb dL_does_34 rfl (lv_at hl 0 rfl) ?_
        refine lv_iload_n hx hb dL_does_35 rfl (lv_at hl 2 rfl) ?_
        refine lv_iload_n hx hb dL_does_36 rfl (lv_at hl 3 rfl) ?_
        refine g_go (vx_runS (As := [.ref (A 0), .int (zI z), .int (zI d)]) (rest := []) ⟨hx, hb, hml, hown, hts⟩ (y_shift_e3 l G hlf A TA S W9 H hC hI z i hz hi hk d hd0 hd q0 hq0 hbad) (va_cwS 3 hts gL_does_L_shift rfl rfl rfl hd_L_shift.2 ⟨(Nat.le_of_ble_eq_true rfl), (Nat.le_of_ble_eq_true rfl)⟩) (g_pre hX hS) rfl rfl hl.1 rfl (lv_room (Nat.le_of_ble_eq_true rfl)) dL_does_37 ⟨(Nat.le_of_ble_eq_true rfl), (Nat.le_of_ble_eq_true rfl)⟩) hS (fun E ce q9 H_37 locs hp hS hce hcv hcl => ?_) (fun v H1 locs h hS => h.elim)
        obtain ⟨rfl, hE9⟩ := hp
        have hDX := DX.ext hC hE9
        refine g_catch hX hown [⟨0, 103, 104, 40⟩, ⟨0, 103, 109, 43⟩] ⟨0, 103, 114, 45⟩ [] hxt (List.forall_mem_cons.mpr ⟨⟨by decide, "java/lang/IndexOutOfBoundsException", (hts (.classLink RL 40 "java/lang/IndexOutOfBoundsException") (List.mem_cons_of_mem _ (List.mem_append_left _ (List.mem_append_left _ (List.mem_append_left _ (List.mem_append_left _ (List.mem_append_left _ (List.mem_append_left _ (List.mem_append_left _ (List.mem_append_left _ (List.mem_of_getElem? (i := 0) rfl))))))))))), by decide +kernel, by decide +kernel⟩, (List.forall_mem_cons.mpr ⟨⟨by decide, "java/lang/IllegalArgumentException", (hts (.classLink RL 43 "java/lang/IllegalArgumentException") (List.mem_cons_of_mem _ (List.mem_append_left _ (List.mem_append_left _ (List.mem_append_left _ (List.mem_append_left _ (List.mem_append_left _ (List.mem_append_left _ (List.mem_append_left _ (List.mem_append_left _ (List.mem_of_getElem? (i := 1) rfl))))))))))), by decide +kernel, by decide +kernel⟩, (fun _ h => absurd h List.not_mem_nil)⟩)⟩) (by decide +kernel) rfl (by decide) (hts (.classLink RL 45 "java/lang/IllegalStateException") (List.mem_cons_of_mem _ (List.mem_append_left _ (List.mem_append_left _ (List.mem_append_left _ (List.mem_append_left _ (List.mem_append_left _ (List.mem_append_left _ (List.mem_append_left _ (List.mem_append_left _ (List.mem_of_getElem? (i := 2) rfl))))))))))) (by decide +kernel) hce hcv hcl ?_
        refine W.eq (g2 := F0 m 114 ls [.ref q9]) rfl ?_
        refine lv_astore (lv' := [(5, .ref q9), (0, .ref (A 0)), (1, .int (zI 2)), (2, .int (zI z)), (3, .int (zI d)), (4, .int (zI zu))]) hx hb dL_does_114 hl (by decide) rfl (fun ls hl => ?_)
        refine lv_ldc (v := -99999) hx hb hown (hts (.constant RL 42 (-99999)) (List.mem_cons_of_mem _ (List.mem_append_left _ (List.mem_append_left _ (List.mem_append_left _ (List.mem_append_left _ (List.mem_append_left _ (List.mem_append_left _ (List.mem_append_left _ (List.mem_append_left _ (List.mem_of_getElem? (i := 3) rfl))))))))))) dL_does_116 ?_
        rw [k_far]
        exact g_reti hx hb hr hlocks hS rfl (⟨rfl, hDX⟩) (Nat.le_of_ble_eq_true rfl) (Nat.le_of_ble_eq_true rfl) dL_does_118
    · omega
  · omega
set_option maxHeartbeats 4000000 in
set_option maxRecDepth 100000 in
theorem d_retire_ok (l : Launch) (G : gG) (A : Nat → Nat) (TA : Nat → Nat → Nat) (S : cS) (W9 : cWk) (H : Heap) (hC : Cat G A TA S W9 H) (hI : sInv S) (z : Int) (i : Nat) (hz : z = i) (hi : i < sn S) (hk : srt S i = false) (hI2 : sInv (sRet S i)) (zu zv : Int) : gM l yL_does wsL_does rm_L_does [.ref (A 0), .int (zI 3), .int (zI z), .int (zI zu), .int (zI zv)] G H (gi (fun r H1 => zI ((ctB (fun j => !(srt (sRet S i) j)) (sn S) : Nat) : Int) = r ∧ DX G A TA S (sRet S i) H H1)) (gNo) 12 900 := by
  refine g_startW (cc := cL_does) (maxL := 6) (ret := (some .int)) (hh := [(0, 103, 104, 40), (0, 103, 109, 43), (0, 103, 114, 45)]) (by decide +kernel) rfl (Nat.le_of_ble_eq_true rfl) ?_
  intro p e s m args below meth c F ls hl
  obtain ⟨hx, hb, hml, hr, hts, hown, hlocks, hxt, hH, hX, hin⟩ := F
  have hown : s.vm.findClass RL = some m.cls := hown
  have hS : va_S (gA G) s.heap H [] := by rw [hH]; exact va_S.rf
  have hl : lv_has ls 6 [(0, .ref (A 0)), (1, .int (zI 3)), (2, .int (zI z)), (3, .int (zI zu)), (4, .int (zI zv))] := hl
  refine lv_iload_n hx hb dL_does_0 rfl (lv_at hl 1 rfl) ?_
  refine gz_if_ne (tgt := 13) hx hb (by decide) dL_does_1 (by decide) (fun c_1 => ?_) (fun c_1 => ?_)
  · refine lv_iload_n hx hb dL_does_13 rfl (lv_at hl 1 rfl) ?_
    refine lv_iconst (v := zI 1) hx hb dL_does_14 rfl ?_
    refine gz_icmp_ne (tgt := 29) hx hb (by decide) (by decide) dL_does_15 (by decide) (fun c_15 => ?_) (fun c_15 => ?_)
    · refine lv_iload_n hx hb dL_does_29 rfl (lv_at hl 1 rfl) ?_
      refine lv_iconst (v := zI 2) hx hb dL_does_30 rfl ?_
      refine gz_icmp_ne (tgt := 43) hx hb (by decide) (by decide) dL_does_31 (by decide) (fun c_31 => ?_) (fun c_31 => ?_)
      · refine lv_iload_n hx hb dL_does_43 rfl (lv_at hl 1 rfl) ?_
        refine lv_iconst (v := zI 3) hx hb dL_does_44 rfl ?_
        refine gz_icmp_ne (tgt := 56) hx hb (by decide) (by decide) dL_does_45 (by decide) (fun c_45 => ?_) (fun c_45 => ?_)
        · omega
        · refine lv_aload_n hx hb dL_does_48 rfl (lv_at hl 0 rfl) ?_
          refine lv_iload_n hx hb dL_does_49 rfl (lv_at hl 2 rfl) ?_
          refine g_goi (vx_runV (As := [.int (zI z)]) (rest := []) ⟨hx, hb, hml, hown, hts⟩ (x_retire_ok l G A TA S W9 H hC hI z i hz hi hk hI2) (cwV 1 hts gL_does_X4_retire rfl rfl rfl hd_X4_retire ⟨(Nat.le_of_ble_eq_true rfl), (Nat.le_of_ble_eq_true rfl)⟩) (g_preV hX hS (ci := 4) rfl hC.1) rfl rfl hl.1 rfl (lv_room (Nat.le_of_ble_eq_true rfl)) dL_does_50 ⟨(Nat.le_of_ble_eq_true rfl), (Nat.le_of_ble_eq_true rfl)⟩) hS (fun r_50 H_50 locs hp hS => ?_)
          obtain ⟨rfl, hxp⟩ := hp
          have hDX := DX.xp hxp rfl
          refine lv_goto (tgt := 103) hx hb dL_does_53 (by decide) ?_
          exact g_reti hx hb hr hlocks hS rfl (⟨rfl, hDX⟩) (Nat.le_of_ble_eq_true rfl) (Nat.le_of_ble_eq_true rfl) dL_does_103
      · omega
    · omega
  · omega
set_option maxHeartbeats 4000000 in
set_option maxRecDepth 100000 in
theorem d_retire_e1 (l : Launch) (G : gG) (hlf : l.stackTraces = false) (A : Nat → Nat) (TA : Nat → Nat → Nat) (S : cS) (W9 : cWk) (H : Heap) (hC : Cat G A TA S W9 H) (hI : sInv S) (z : Int) (hz : rI z) (hi : ¬ kwn S z) (zu zv : Int) : gM l yL_does wsL_does rm_L_does [.ref (A 0), .int (zI 3), .int (zI z), .int (zI zu), .int (zI zv)] G H (gi (fun r H1 => zI xE = r ∧ DX G A TA S S H H1)) (gNo) 12 900 := by
  refine g_startW (cc := cL_does) (maxL := 6) (ret := (some .int)) (hh := [(0, 103, 104, 40), (0, 103, 109, 43), (0, 103, 114, 45)]) (by decide +kernel) rfl (Nat.le_of_ble_eq_true rfl) ?_
  intro p e s m args below meth c F ls hl
  obtain ⟨hx, hb, hml, hr, hts, hown, hlocks, hxt, hH, hX, hin⟩ := F
  have hown : s.vm.findClass RL = some m.cls := hown
  have hS : va_S (gA G) s.heap H [] := by rw [hH]; exact va_S.rf
  have hl : lv_has ls 6 [(0, .ref (A 0)), (1, .int (zI 3)), (2, .int (zI z)), (3, .int (zI zu)), (4, .int (zI zv))] := hl
  refine lv_iload_n hx hb dL_does_0 rfl (lv_at hl 1 rfl) ?_
  refine gz_if_ne (tgt := 13) hx hb (by decide) dL_does_1 (by decide) (fun c_1 => ?_) (fun c_1 => ?_)
  · refine lv_iload_n hx hb dL_does_13 rfl (lv_at hl 1 rfl) ?_
    refine lv_iconst (v := zI 1) hx hb dL_does_14 rfl ?_
    refine gz_icmp_ne (tgt := 29) hx hb (by decide) (by decide) dL_does_15 (by decide) (fun c_15 => ?_) (fun c_15 => ?_)
    · refine lv_iload_n hx hb dL_does_29 rfl (lv_at hl 1 rfl) ?_
      refine lv_iconst (v := zI 2) hx hb dL_does_30 rfl ?_
      refine gz_icmp_ne (tgt := 43) hx hb (by decide) (by decide) dL_does_31 (by decide) (fun c_31 => ?_) (fun c_31 => ?_)
      · refine lv_iload_n hx hb dL_does_43 rfl (lv_at hl 1 rfl) ?_
        refine lv_iconst (v := zI 3) hx hb dL_does_44 rfl ?_
        refine gz_icmp_ne (tgt := 56) hx hb (by decide) (by decide) dL_does_45 (by decide) (fun c_45 => ?_) (fun c_45 => ?_)
        · omega
        · refine lv_aload_n hx hb dL_does_48 rfl (lv_at hl 0 rfl) ?_
          refine lv_iload_n hx hb dL_does_49 rfl (lv_at hl 2 rfl) ?_
          refine g_go (vx_runV (As := [.int (zI z)]) (rest := []) ⟨hx, hb, hml, hown, hts⟩ (x_retire_e1 l G hlf A TA S W9 H hC hI z hz hi) (cwV 1 hts gL_does_X4_retire rfl rfl rfl hd_X4_retire ⟨(Nat.le_of_ble_eq_true rfl), (Nat.le_of_ble_eq_true rfl)⟩) (g_preV hX hS (ci := 4) rfl hC.1) rfl rfl hl.1 rfl (lv_room (Nat.le_of_ble_eq_true rfl)) dL_does_50 ⟨(Nat.le_of_ble_eq_true rfl), (Nat.le_of_ble_eq_true rfl)⟩) hS (fun E ce q9 H_50 locs hp hS hce hcv hcl => ?_) (fun v H1 locs h hS => h.elim)
          obtain ⟨rfl, hE9⟩ := hp
          have hDX := DX.ext hC hE9
          refine g_catch hX hown [] ⟨0, 103, 104, 40⟩ [⟨0, 103, 109, 43⟩, ⟨0, 103, 114, 45⟩] hxt (fun _ h => absurd h List.not_mem_nil) (by decide +kernel) rfl (by decide) (hts (.classLink RL 40 "java/lang/IndexOutOfBoundsException") (List.mem_cons_of_mem _ (List.mem_append_left _ (List.mem_append_left _ (List.mem_append_left _ (List.mem_append_left _ (List.mem_append_left _ (List.mem_append_left _ (List.mem_append_left _ (List.mem_append_left _ (List.mem_of_getElem? (i := 0) rfl))))))))))) (by decide +kernel) hce hcv hcl ?_
          refine W.eq (g2 := F0 m 104 ls [.ref q9]) rfl ?_
          refine lv_astore (lv' := [(5, .ref q9), (0, .ref (A 0)), (1, .int (zI 3)), (2, .int (zI z)), (3, .int (zI zu)), (4, .int (zI zv))]) hx hb dL_does_104 hl (by decide) rfl (fun ls hl => ?_)
          refine lv_ldc (v := -99999) hx hb hown (hts (.constant RL 42 (-99999)) (List.mem_cons_of_mem _ (List.mem_append_left _ (List.mem_append_left _ (List.mem_append_left _ (List.mem_append_left _ (List.mem_append_left _ (List.mem_append_left _ (List.mem_append_left _ (List.mem_append_left _ (List.mem_of_getElem? (i := 3) rfl))))))))))) dL_does_106 ?_
          rw [k_far]
          exact g_reti hx hb hr hlocks hS rfl (⟨rfl, hDX⟩) (Nat.le_of_ble_eq_true rfl) (Nat.le_of_ble_eq_true rfl) dL_does_108
      · omega
    · omega
  · omega
set_option maxHeartbeats 4000000 in
set_option maxRecDepth 100000 in
theorem d_hum_ok (l : Launch) (G : gG) (A : Nat → Nat) (TA : Nat → Nat → Nat) (S : cS) (W9 : cWk) (H : Heap) (hC : Cat G A TA S W9 H) (hI : sInv S) (p1 : Int) (hp0 : rI p1) (h60 : 0 ≤ p1 ∧ p1 ≤ 60) (h12 : shn S < 12) (zu zv : Int) : gM l yL_does wsL_does rm_L_does [.ref (A 0), .int (zI 4), .int (zI p1), .int (zI zu), .int (zI zv)] G H (gi (fun r H1 => zI ((shn S + 1 : Nat) : Int) = r ∧ DX G A TA S (sHum S p1) H H1)) (gNo) 12 900 := by
  refine g_startW (cc := cL_does) (maxL := 6) (ret := (some .int)) (hh := [(0, 103, 104, 40), (0, 103, 109, 43), (0, 103, 114, 45)]) (by decide +kernel) rfl (Nat.le_of_ble_eq_true rfl) ?_
  intro p e s m args below meth c F ls hl
  obtain ⟨hx, hb, hml, hr, hts, hown, hlocks, hxt, hH, hX, hin⟩ := F
  have hown : s.vm.findClass RL = some m.cls := hown
  have hS : va_S (gA G) s.heap H [] := by rw [hH]; exact va_S.rf
  have hl : lv_has ls 6 [(0, .ref (A 0)), (1, .int (zI 4)), (2, .int (zI p1)), (3, .int (zI zu)), (4, .int (zI zv))] := hl
  refine lv_iload_n hx hb dL_does_0 rfl (lv_at hl 1 rfl) ?_
  refine gz_if_ne (tgt := 13) hx hb (by decide) dL_does_1 (by decide) (fun c_1 => ?_) (fun c_1 => ?_)
  · refine lv_iload_n hx hb dL_does_13 rfl (lv_at hl 1 rfl) ?_
    refine lv_iconst (v := zI 1) hx hb dL_does_14 rfl ?_
    refine gz_icmp_ne (tgt := 29) hx hb (by decide) (by decide) dL_does_15 (by decide) (fun c_15 => ?_) (fun c_15 => ?_)
    · refine lv_iload_n hx hb dL_does_29 rfl (lv_at hl 1 rfl) ?_
      refine lv_iconst (v := zI 2) hx hb dL_does_30 rfl ?_
      refine gz_icmp_ne (tgt := 43) hx hb (by decide) (by decide) dL_does_31 (by decide) (fun c_31 => ?_) (fun c_31 => ?_)
      · refine lv_iload_n hx hb dL_does_43 rfl (lv_at hl 1 rfl) ?_
        refine lv_iconst (v := zI 3) hx hb dL_does_44 rfl ?_
        refine gz_icmp_ne (tgt := 56) hx hb (by decide) (by decide) dL_does_45 (by decide) (fun c_45 => ?_) (fun c_45 => ?_)
        · refine lv_iload_n hx hb dL_does_56 rfl (lv_at hl 1 rfl) ?_
          refine lv_iconst (v := zI 4) hx hb dL_does_57 rfl ?_
          refine gz_icmp_ne (tgt := 69) hx hb (by decide) (by decide) dL_does_58 (by decide) (fun c_58 => ?_) (fun c_58 => ?_)
          · omega
          · refine lv_aload_n hx hb dL_does_61 rfl (lv_at hl 0 rfl) ?_
            refine lv_iload_n hx hb dL_does_62 rfl (lv_at hl 2 rfl) ?_
            refine g_goi (vx_runV (As := [.int (zI p1)]) (rest := []) ⟨hx, hb, hml, hown, hts⟩ (x_hum_ok l G A TA S W9 H hC hI p1 hp0 h60 h12) (cwV 1 hts gL_does_X4_hum rfl rfl rfl hd_X4_hum ⟨(Nat.le_of_ble_eq_true rfl), (Nat.le_of_ble_eq_true rfl)⟩) (g_preV hX hS (ci := 4) rfl hC.1) rfl rfl hl.1 rfl (lv_room (Nat.le_of_ble_eq_true rfl)) dL_does_63 ⟨(Nat.le_of_ble_eq_true rfl), (Nat.le_of_ble_eq_true rfl)⟩) hS (fun r_63 H_63 locs hp hS => ?_)
            obtain ⟨rfl, hxp⟩ := hp
            have hDX := DX.xp hxp rfl
            refine lv_goto (tgt := 103) hx hb dL_does_66 (by decide) ?_
            exact g_reti hx hb hr hlocks hS rfl (⟨rfl, hDX⟩) (Nat.le_of_ble_eq_true rfl) (Nat.le_of_ble_eq_true rfl) dL_does_103
        · omega
      · omega
    · omega
  · omega
set_option maxHeartbeats 4000000 in
set_option maxRecDepth 100000 in
theorem d_hum_e1 (l : Launch) (G : gG) (hlf : l.stackTraces = false) (A : Nat → Nat) (TA : Nat → Nat → Nat) (S : cS) (W9 : cWk) (H : Heap) (hC : Cat G A TA S W9 H) (hI : sInv S) (p1 : Int) (hp0 : rI p1) (h60 : ¬ (0 ≤ p1 ∧ p1 ≤ 60)) (zu zv : Int) : gM l yL_does wsL_does rm_L_does [.ref (A 0), .int (zI 4), .int (zI p1), .int (zI zu), .int (zI zv)] G H (gi (fun r H1 => zI xE = r ∧ DX G A TA S S H H1)) (gNo) 12 900 := by
  refine g_startW (cc := cL_does) (maxL := 6) (ret := (some .int)) (hh := [(0, 103, 104, 40), (0, 103, 109, 43), (0, 103, 114, 45)]) (by decide +kernel) rfl (Nat.le_of_ble_eq_true rfl) ?_
  intro p e s m args below meth c F ls hl
  obtain ⟨hx, hb, hml, hr, hts, hown, hlocks, hxt, hH, hX, hin⟩ := F
  have hown : s.vm.findClass RL = some m.cls := hown
  have hS : va_S (gA G) s.heap H [] := by rw [hH]; exact va_S.rf
  have hl : lv_has ls 6 [(0, .ref (A 0)), (1, .int (zI 4)), (2, .int (zI p1)), (3, .int (zI zu)), (4, .int (zI zv))] := hl
  refine lv_iload_n hx hb dL_does_0 rfl (lv_at hl 1 rfl) ?_
  refine gz_if_ne (tgt := 13) hx hb (by decide) dL_does_1 (by decide) (fun c_1 => ?_) (fun c_1 => ?_)
  · refine lv_iload_n hx hb dL_does_13 rfl (lv_at hl 1 rfl) ?_
    refine lv_iconst (v := zI 1) hx hb dL_does_14 rfl ?_
    refine gz_icmp_ne (tgt := 29) hx hb (by decide) (by decide) dL_does_15 (by decide) (fun c_15 => ?_) (fun c_15 => ?_)
    · refine lv_iload_n hx hb dL_does_29 rfl (lv_at hl 1 rfl) ?_
      refine lv_iconst (v := zI 2) hx hb dL_does_30 rfl ?_
      refine gz_icmp_ne (tgt := 43) hx hb (by decide) (by decide) dL_does_31 (by decide) (fun c_31 => ?_) (fun c_31 => ?_)
      · refine lv_iload_n hx hb dL_does_43 rfl (lv_at hl 1 rfl) ?_
        refine lv_iconst (v := zI 3) hx hb dL_does_44 rfl ?_
        refine gz_icmp_ne (tgt := 56) hx hb (by decide) (by decide) dL_does_45 (by decide) (fun c_45 => ?_) (fun c_45 => ?_)
        · refine lv_iload_n hx hb dL_does_56 rfl (lv_at hl 1 rfl) ?_
          refine lv_iconst (v := zI 4) hx hb dL_does_57 rfl ?_
          refine gz_icmp_ne (tgt := 69) hx hb (by decide) (by decide) dL_does_58 (by decide) (fun c_58 => ?_) (fun c_58 => ?_)
          · omega
          · refine lv_aload_n hx hb dL_does_61 rfl (lv_at hl 0 rfl) ?_
            refine lv_iload_n hx hb dL_does_62 rfl (lv_at hl 2 rfl) ?_
            refine g_go (vx_runV (As := [.int (zI p1)]) (rest := []) ⟨hx, hb, hml, hown, hts⟩ (x_hum_e1 l G hlf A TA S W9 H hC hI p1 hp0 h60) (cwV 1 hts gL_does_X4_hum rfl rfl rfl hd_X4_hum ⟨(Nat.le_of_ble_eq_true rfl), (Nat.le_of_ble_eq_true rfl)⟩) (g_preV hX hS (ci := 4) rfl hC.1) rfl rfl hl.1 rfl (lv_room (Nat.le_of_ble_eq_true rfl)) dL_does_63 ⟨(Nat.le_of_ble_eq_true rfl), (Nat.le_of_ble_eq_true rfl)⟩) hS (fun E ce q9 H_63 locs hp hS hce hcv hcl => ?_) (fun v H1 locs h hS => h.elim)
            obtain ⟨rfl, hE9⟩ := hp
            have hDX := DX.ext hC hE9
            refine g_catch hX hown [⟨0, 103, 104, 40⟩] ⟨0, 103, 109, 43⟩ [⟨0, 103, 114, 45⟩] hxt (List.forall_mem_cons.mpr ⟨⟨by decide, "java/lang/IndexOutOfBoundsException", (hts (.classLink RL 40 "java/lang/IndexOutOfBoundsException") (List.mem_cons_of_mem _ (List.mem_append_left _ (List.mem_append_left _ (List.mem_append_left _ (List.mem_append_left _ (List.mem_append_left _ (List.mem_append_left _ (List.mem_append_left _ (List.mem_append_left _ (List.mem_of_getElem? (i := 0) rfl))))))))))), by decide +kernel, by decide +kernel⟩, (fun _ h => absurd h List.not_mem_nil)⟩) (by decide +kernel) rfl (by decide) (hts (.classLink RL 43 "java/lang/IllegalArgumentException") (List.mem_cons_of_mem _ (List.mem_append_left _ (List.mem_append_left _ (List.mem_append_left _ (List.mem_append_left _ (List.mem_append_left _ (List.mem_append_left _ (List.mem_append_left _ (List.mem_append_left _ (List.mem_of_getElem? (i := 1) rfl))))))))))) (by decide +kernel) hce hcv hcl ?_
            refine W.eq (g2 := F0 m 109 ls [.ref q9]) rfl ?_
            refine lv_astore (lv' := [(5, .ref q9), (0, .ref (A 0)), (1, .int (zI 4)), (2, .int (zI p1)), (3, .int (zI zu)), (4, .int (zI zv))]) hx hb dL_does_109 hl (by decide) rfl (fun ls hl => ?_)
            refine lv_ldc (v := -99999) hx hb hown (hts (.constant RL 42 (-99999)) (List.mem_cons_of_mem _ (List.mem_append_left _ (List.mem_append_left _ (List.mem_append_left _ (List.mem_append_left _ (List.mem_append_left _ (List.mem_append_left _ (List.mem_append_left _ (List.mem_append_left _ (List.mem_of_getElem? (i := 3) rfl))))))))))) dL_does_111 ?_
            rw [k_far]
            exact g_reti hx hb hr hlocks hS rfl (⟨rfl, hDX⟩) (Nat.le_of_ble_eq_true rfl) (Nat.le_of_ble_eq_true rfl) dL_does_113
        · omega
      · omega
    · omega
  · omega
set_option maxHeartbeats 4000000 in
set_option maxRecDepth 100000 in
theorem d_hum_e2 (l : Launch) (G : gG) (hlf : l.stackTraces = false) (A : Nat → Nat) (TA : Nat → Nat → Nat) (S : cS) (W9 : cWk) (H : Heap) (hC : Cat G A TA S W9 H) (hI : sInv S) (p1 : Int) (hp0 : rI p1) (h60 : 0 ≤ p1 ∧ p1 ≤ 60) (h12 : ¬ shn S < 12) (zu zv : Int) : gM l yL_does wsL_does rm_L_does [.ref (A 0), .int (zI 4), .int (zI p1), .int (zI zu), .int (zI zv)] G H (gi (fun r H1 => zI xE = r ∧ DX G A TA S S H H1)) (gNo) 12 900 := by
  refine g_startW (cc := cL_does) (maxL := 6) (ret := (some .int)) (hh := [(0, 103, 104, 40), (0, 103, 109, 43), (0, 103, 114, 45)]) (by decide +kernel) rfl (Nat.le_of_ble_eq_true rfl) ?_
  intro p e s m args below meth c F ls hl
  obtain ⟨hx, hb, hml, hr, hts, hown, hlocks, hxt, hH, hX, hin⟩ := F
  have hown : s.vm.findClass RL = some m.cls := hown
  have hS : va_S (gA G) s.heap H [] := by rw [hH]; exact va_S.rf
  have hl : lv_has ls 6 [(0, .ref (A 0)), (1, .int (zI 4)), (2, .int (zI p1)), (3, .int (zI zu)), (4, .int (zI zv))] := hl
  refine lv_iload_n hx hb dL_does_0 rfl (lv_at hl 1 rfl) ?_
  refine gz_if_ne (tgt := 13) hx hb (by decide) dL_does_1 (by decide) (fun c_1 => ?_) (fun c_1 => ?_)
  · refine lv_iload_n hx hb dL_does_13 rfl (lv_at hl 1 rfl) ?_
    refine lv_iconst (v := zI 1) hx hb dL_does_14 rfl ?_
    refine gz_icmp_ne (tgt := 29) hx hb (by decide) (by decide) dL_does_15 (by decide) (fun c_15 => ?_) (fun c_15 => ?_)
    · refine lv_iload_n hx hb dL_does_29 rfl (lv_at hl 1 rfl) ?_
      refine lv_iconst (v := zI 2) hx hb dL_does_30 rfl ?_
      refine gz_icmp_ne (tgt := 43) hx hb (by decide) (by decide) dL_does_31 (by decide) (fun c_31 => ?_) (fun c_31 => ?_)
      · refine lv_iload_n hx hb dL_does_43 rfl (lv_at hl 1 rfl) ?_
        refine lv_iconst (v := zI 3) hx hb dL_does_44 rfl ?_
        refine gz_icmp_ne (tgt := 56) hx hb (by decide) (by decide) dL_does_45 (by decide) (fun c_45 => ?_) (fun c_45 => ?_)
        · refine lv_iload_n hx hb dL_does_56 rfl (lv_at hl 1 rfl) ?_
          refine lv_iconst (v := zI 4) hx hb dL_does_57 rfl ?_
          refine gz_icmp_ne (tgt := 69) hx hb (by decide) (by decide) dL_does_58 (by decide) (fun c_58 => ?_) (fun c_58 => ?_)
          · omega
          · refine lv_aload_n hx hb dL_does_61 rfl (lv_at hl 0 rfl) ?_
            refine lv_iload_n hx hb dL_does_62 rfl (lv_at hl 2 rfl) ?_
            refine g_go (vx_runV (As := [.int (zI p1)]) (rest := []) ⟨hx, hb, hml, hown, hts⟩ (x_hum_e2 l G hlf A TA S W9 H hC hI p1 hp0 h60 h12) (cwV 1 hts gL_does_X4_hum rfl rfl rfl hd_X4_hum ⟨(Nat.le_of_ble_eq_true rfl), (Nat.le_of_ble_eq_true rfl)⟩) (g_preV hX hS (ci := 4) rfl hC.1) rfl rfl hl.1 rfl (lv_room (Nat.le_of_ble_eq_true rfl)) dL_does_63 ⟨(Nat.le_of_ble_eq_true rfl), (Nat.le_of_ble_eq_true rfl)⟩) hS (fun E ce q9 H_63 locs hp hS hce hcv hcl => ?_) (fun v H1 locs h hS => h.elim)
            obtain ⟨rfl, hE9⟩ := hp
            have hDX := DX.ext hC hE9
            refine g_catch hX hown [⟨0, 103, 104, 40⟩, ⟨0, 103, 109, 43⟩] ⟨0, 103, 114, 45⟩ [] hxt (List.forall_mem_cons.mpr ⟨⟨by decide, "java/lang/IndexOutOfBoundsException", (hts (.classLink RL 40 "java/lang/IndexOutOfBoundsException") (List.mem_cons_of_mem _ (List.mem_append_left _ (List.mem_append_left _ (List.mem_append_left _ (List.mem_append_left _ (List.mem_append_left _ (List.mem_append_left _ (List.mem_append_left _ (List.mem_append_left _ (List.mem_of_getElem? (i := 0) rfl))))))))))), by decide +kernel, by decide +kernel⟩, (List.forall_mem_cons.mpr ⟨⟨by decide, "java/lang/IllegalArgumentException", (hts (.classLink RL 43 "java/lang/IllegalArgumentException") (List.mem_cons_of_mem _ (List.mem_append_left _ (List.mem_append_left _ (List.mem_append_left _ (List.mem_append_left _ (List.mem_append_left _ (List.mem_append_left _ (List.mem_append_left _ (List.mem_append_left _ (List.mem_of_getElem? (i := 1) rfl))))))))))), by decide +kernel, by decide +kernel⟩, (fun _ h => absurd h List.not_mem_nil)⟩)⟩) (by decide +kernel) rfl (by decide) (hts (.classLink RL 45 "java/lang/IllegalStateException") (List.mem_cons_of_mem _ (List.mem_append_left _ (List.mem_append_left _ (List.mem_append_left _ (List.mem_append_left _ (List.mem_append_left _ (List.mem_append_left _ (List.mem_append_left _ (List.mem_append_left _ (List.mem_of_getElem? (i := 2) rfl))))))))))) (by decide +kernel) hce hcv hcl ?_
            refine W.eq (g2 := F0 m 114 ls [.ref q9]) rfl ?_
            refine lv_astore (lv' := [(5, .ref q9), (0, .ref (A 0)), (1, .int (zI 4)), (2, .int (zI p1)), (3, .int (zI zu)), (4, .int (zI zv))]) hx hb dL_does_114 hl (by decide) rfl (fun ls hl => ?_)
            refine lv_ldc (v := -99999) hx hb hown (hts (.constant RL 42 (-99999)) (List.mem_cons_of_mem _ (List.mem_append_left _ (List.mem_append_left _ (List.mem_append_left _ (List.mem_append_left _ (List.mem_append_left _ (List.mem_append_left _ (List.mem_append_left _ (List.mem_append_left _ (List.mem_of_getElem? (i := 3) rfl))))))))))) dL_does_116 ?_
            rw [k_far]
            exact g_reti hx hb hr hlocks hS rfl (⟨rfl, hDX⟩) (Nat.le_of_ble_eq_true rfl) (Nat.le_of_ble_eq_true rfl) dL_does_118
        · omega
      · omega
    · omega
  · omega
set_option maxHeartbeats 4000000 in
set_option maxRecDepth 100000 in
theorem d_link_ok (l : Launch) (G : gG) (A : Nat → Nat) (TA : Nat → Nat → Nat) (S : cS) (W9 : cWk) (H : Heap) (hC : Cat G A TA S W9 H) (hI : sInv S) (z1 : Int) (z2 : Int) (i : Nat) (j : Nat) (hz1 : z1 = i) (hi : i < sn S) (hz2 : z2 = j) (hj : j < sn S) (hlk2 : ∀ k, lkT (slk S) i j k < 65536) (hij : i ≠ j) (htb : (slk S i).testBit j = false) (zu : Int) : gM l yL_does wsL_does rm_L_does [.ref (A 0), .int (zI 5), .int (zI z1), .int (zI z2), .int (zI zu)] G H (gi (fun r H1 => zI ((famC (lkT (slk S) i j) (sn S) (sn S) : Nat) : Int) = r ∧ DX G A TA S (sLnk S i j) H H1)) (gNo) 12 900 := by
  refine g_startW (cc := cL_does) (maxL := 6) (ret := (some .int)) (hh := [(0, 103, 104, 40), (0, 103, 109, 43), (0, 103, 114, 45)]) (by decide +kernel) rfl (Nat.le_of_ble_eq_true rfl) ?_
  intro p e s m args below meth c F ls hl
  obtain ⟨hx, hb, hml, hr, hts, hown, hlocks, hxt, hH, hX, hin⟩ := F
  have hown : s.vm.findClass RL = some m.cls := hown
  have hS : va_S (gA G) s.heap H [] := by rw [hH]; exact va_S.rf
  have hl : lv_has ls 6 [(0, .ref (A 0)), (1, .int (zI 5)), (2, .int (zI z1)), (3, .int (zI z2)), (4, .int (zI zu))] := hl
  refine lv_iload_n hx hb dL_does_0 rfl (lv_at hl 1 rfl) ?_
  refine gz_if_ne (tgt := 13) hx hb (by decide) dL_does_1 (by decide) (fun c_1 => ?_) (fun c_1 => ?_)
  · refine lv_iload_n hx hb dL_does_13 rfl (lv_at hl 1 rfl) ?_
    refine lv_iconst (v := zI 1) hx hb dL_does_14 rfl ?_
    refine gz_icmp_ne (tgt := 29) hx hb (by decide) (by decide) dL_does_15 (by decide) (fun c_15 => ?_) (fun c_15 => ?_)
    · refine lv_iload_n hx hb dL_does_29 rfl (lv_at hl 1 rfl) ?_
      refine lv_iconst (v := zI 2) hx hb dL_does_30 rfl ?_
      refine gz_icmp_ne (tgt := 43) hx hb (by decide) (by decide) dL_does_31 (by decide) (fun c_31 => ?_) (fun c_31 => ?_)
      · refine lv_iload_n hx hb dL_does_43 rfl (lv_at hl 1 rfl) ?_
        refine lv_iconst (v := zI 3) hx hb dL_does_44 rfl ?_
        refine gz_icmp_ne (tgt := 56) hx hb (by decide) (by decide) dL_does_45 (by decide) (fun c_45 => ?_) (fun c_45 => ?_)
        · refine lv_iload_n hx hb dL_does_56 rfl (lv_at hl 1 rfl) ?_
          refine lv_iconst (v := zI 4) hx hb dL_does_57 rfl ?_
          refine gz_icmp_ne (tgt := 69) hx hb (by decide) (by decide) dL_does_58 (by decide) (fun c_58 => ?_) (fun c_58 => ?_)
          · refine lv_iload_n hx hb dL_does_69 rfl (lv_at hl 1 rfl) ?_
            refine lv_iconst (v := zI 5) hx hb dL_does_70 rfl ?_
            refine gz_icmp_ne (tgt := 83) hx hb (by decide) (by decide) dL_does_71 (by decide) (fun c_71 => ?_) (fun c_71 => ?_)
            · omega
            · refine lv_aload_n hx hb dL_does_74 rfl (lv_at hl 0 rfl) ?_
              refine lv_iload_n hx hb dL_does_75 rfl (lv_at hl 2 rfl) ?_
              refine lv_iload_n hx hb dL_does_76 rfl (lv_at hl 3 rfl) ?_
              refine g_goi (vx_runV (As := [.int (zI z1), .int (zI z2)]) (rest := []) ⟨hx, hb, hml, hown, hts⟩ (x_link_ok l G A TA S W9 H hC hI z1 z2 i j hz1 hi hz2 hj hlk2 hij htb) (cwV 2 hts gL_does_X4_link rfl rfl rfl hd_X4_link ⟨(Nat.le_of_ble_eq_true rfl), (Nat.le_of_ble_eq_true rfl)⟩) (g_preV hX hS (ci := 4) rfl hC.1) rfl rfl hl.1 rfl (lv_room (Nat.le_of_ble_eq_true rfl)) dL_does_77 ⟨(Nat.le_of_ble_eq_true rfl), (Nat.le_of_ble_eq_true rfl)⟩) hS (fun r_77 H_77 locs hp hS => ?_)
              obtain ⟨rfl, hxp⟩ := hp
              have hDX := DX.xp hxp rfl
              refine lv_goto (tgt := 103) hx hb dL_does_80 (by decide) ?_
              exact g_reti hx hb hr hlocks hS rfl (⟨rfl, hDX⟩) (Nat.le_of_ble_eq_true rfl) (Nat.le_of_ble_eq_true rfl) dL_does_103
          · omega
        · omega
      · omega
    · omega
  · omega
set_option maxHeartbeats 4000000 in
set_option maxRecDepth 100000 in
theorem d_link_e1 (l : Launch) (G : gG) (hlf : l.stackTraces = false) (A : Nat → Nat) (TA : Nat → Nat → Nat) (S : cS) (W9 : cWk) (H : Heap) (hC : Cat G A TA S W9 H) (hI : sInv S) (z1 : Int) (z2 : Int) (hz1 : rI z1) (hz2 : rI z2) (hno : ¬ ((0 ≤ z1 ∧ z1 < sn S) ∧ 0 ≤ z2 ∧ z2 < sn S)) (zu : Int) : gM l yL_does wsL_does rm_L_does [.ref (A 0), .int (zI 5), .int (zI z1), .int (zI z2), .int (zI zu)] G H (gi (fun r H1 => zI xE = r ∧ DX G A TA S S H H1)) (gNo) 12 900 := by
  refine g_startW (cc := cL_does) (maxL := 6) (ret := (some .int)) (hh := [(0, 103, 104, 40), (0, 103, 109, 43), (0, 103, 114, 45)]) (by decide +kernel) rfl (Nat.le_of_ble_eq_true rfl) ?_
  intro p e s m args below meth c F ls hl
  obtain ⟨hx, hb, hml, hr, hts, hown, hlocks, hxt, hH, hX, hin⟩ := F
  have hown : s.vm.findClass RL = some m.cls := hown
  have hS : va_S (gA G) s.heap H [] := by rw [hH]; exact va_S.rf
  have hl : lv_has ls 6 [(0, .ref (A 0)), (1, .int (zI 5)), (2, .int (zI z1)), (3, .int (zI z2)), (4, .int (zI zu))] := hl
  refine lv_iload_n hx hb dL_does_0 rfl (lv_at hl 1 rfl) ?_
  refine gz_if_ne (tgt := 13) hx hb (by decide) dL_does_1 (by decide) (fun c_1 => ?_) (fun c_1 => ?_)
  · refine lv_iload_n hx hb dL_does_13 rfl (lv_at hl 1 rfl) ?_
    refine lv_iconst (v := zI 1) hx hb dL_does_14 rfl ?_
    refine gz_icmp_ne (tgt := 29) hx hb (by decide) (by decide) dL_does_15 (by decide) (fun c_15 => ?_) (fun c_15 => ?_)
    · refine lv_iload_n hx hb dL_does_29 rfl (lv_at hl 1 rfl) ?_
      refine lv_iconst (v := zI 2) hx hb dL_does_30 rfl ?_
      refine gz_icmp_ne (tgt := 43) hx hb (by decide) (by decide) dL_does_31 (by decide) (fun c_31 => ?_) (fun c_31 => ?_)
      · refine lv_iload_n hx hb dL_does_43 rfl (lv_at hl 1 rfl) ?_
        refine lv_iconst (v := zI 3) hx hb dL_does_44 rfl ?_
        refine gz_icmp_ne (tgt := 56) hx hb (by decide) (by decide) dL_does_45 (by decide) (fun c_45 => ?_) (fun c_45 => ?_)
        · refine lv_iload_n hx hb dL_does_56 rfl (lv_at hl 1 rfl) ?_
          refine lv_iconst (v := zI 4) hx hb dL_does_57 rfl ?_
          refine gz_icmp_ne (tgt := 69) hx hb (by decide) (by decide) dL_does_58 (by decide) (fun c_58 => ?_) (fun c_58 => ?_)
          · refine lv_iload_n hx hb dL_does_69 rfl (lv_at hl 1 rfl) ?_
            refine lv_iconst (v := zI 5) hx hb dL_does_70 rfl ?_
            refine gz_icmp_ne (tgt := 83) hx hb (by decide) (by decide) dL_does_71 (by decide) (fun c_71 => ?_) (fun c_71 => ?_)
            · omega
            · refine lv_aload_n hx hb dL_does_74 rfl (lv_at hl 0 rfl) ?_
              refine lv_iload_n hx hb dL_does_75 rfl (lv_at hl 2 rfl) ?_
              refine lv_iload_n hx hb dL_does_76 rfl (lv_at hl 3 rfl) ?_
              refine g_go (vx_runV (As := [.int (zI z1), .int (zI z2)]) (rest := []) ⟨hx, hb, hml, hown, hts⟩ (x_link_e1 l G hlf A TA S W9 H hC hI z1 z2 hz1 hz2 hno) (cwV 2 hts gL_does_X4_link rfl rfl rfl hd_X4_link ⟨(Nat.le_of_ble_eq_true rfl), (Nat.le_of_ble_eq_true rfl)⟩) (g_preV hX hS (ci := 4) rfl hC.1) rfl rfl hl.1 rfl (lv_room (Nat.le_of_ble_eq_true rfl)) dL_does_77 ⟨(Nat.le_of_ble_eq_true rfl), (Nat.le_of_ble_eq_true rfl)⟩) hS (fun E ce q9 H_77 locs hp hS hce hcv hcl => ?_) (fun v H1 locs h hS => h.elim)
              obtain ⟨rfl, hE9⟩ := hp
              have hDX := DX.ext hC hE9
              refine g_catch hX hown [] ⟨0, 103, 104, 40⟩ [⟨0, 103, 109, 43⟩, ⟨0, 103, 114, 45⟩] hxt (fun _ h => absurd h List.not_mem_nil) (by decide +kernel) rfl (by decide) (hts (.classLink RL 40 "java/lang/IndexOutOfBoundsException") (List.mem_cons_of_mem _ (List.mem_append_left _ (List.mem_append_left _ (List.mem_append_left _ (List.mem_append_left _ (List.mem_append_left _ (List.mem_append_left _ (List.mem_append_left _ (List.mem_append_left _ (List.mem_of_getElem? (i := 0) rfl))))))))))) (by decide +kernel) hce hcv hcl ?_
              refine W.eq (g2 := F0 m 104 ls [.ref q9]) rfl ?_
              refine lv_astore (lv' := [(5, .ref q9), (0, .ref (A 0)), (1, .int (zI 5)), (2, .int (zI z1)), (3, .int (zI z2)), (4, .int (zI zu))]) hx hb dL_does_104 hl (by decide) rfl (fun ls hl => ?_)
              refine lv_ldc (v := -99999) hx hb hown (hts (.constant RL 42 (-99999)) (List.mem_cons_of_mem _ (List.mem_append_left _ (List.mem_append_left _ (List.mem_append_left _ (List.mem_append_left _ (List.mem_append_left _ (List.mem_append_left _ (List.mem_append_left _ (List.mem_append_left _ (List.mem_of_getElem? (i := 3) rfl))))))))))) dL_does_106 ?_
              rw [k_far]
              exact g_reti hx hb hr hlocks hS rfl (⟨rfl, hDX⟩) (Nat.le_of_ble_eq_true rfl) (Nat.le_of_ble_eq_true rfl) dL_does_108
          · omega
        · omega
      · omega
    · omega
  · omega
set_option maxHeartbeats 4000000 in
set_option maxRecDepth 100000 in
theorem d_link_e2 (l : Launch) (G : gG) (hlf : l.stackTraces = false) (A : Nat → Nat) (TA : Nat → Nat → Nat) (S : cS) (W9 : cWk) (H : Heap) (hC : Cat G A TA S W9 H) (hI : sInv S) (z1 : Int) (z2 : Int) (i : Nat) (j : Nat) (hz1 : z1 = i) (hi : i < sn S) (hz2 : z2 = j) (hj : j < sn S) (hij : i = j) (zu : Int) : gM l yL_does wsL_does rm_L_does [.ref (A 0), .int (zI 5), .int (zI z1), .int (zI z2), .int (zI zu)] G H (gi (fun r H1 => zI xE = r ∧ DX G A TA S S H H1)) (gNo) 12 900 := by
  refine g_startW (cc := cL_does) (maxL := 6) (ret := (some .int)) (hh := [(0, 103, 104, 40), (0, 103, 109, 43), (0, 103, 114, 45)]) (by decide +kernel) rfl (Nat.le_of_ble_eq_true rfl) ?_
  intro p e s m args below meth c F ls hl
  obtain ⟨hx, hb, hml, hr, hts, hown, hlocks, hxt, hH, hX, hin⟩ := F
  have hown : s.vm.findClass RL = some m.cls := hown
  have hS : va_S (gA G) s.heap H [] := by rw [hH]; exact va_S.rf
  have hl : lv_has ls 6 [(0, .ref (A 0)), (1, .int (zI 5)), (2, .int (zI z1)), (3, .int (zI z2)), (4, .int (zI zu))] := hl
  refine lv_iload_n hx hb dL_does_0 rfl (lv_at hl 1 rfl) ?_
  refine gz_if_ne (tgt := 13) hx hb (by decide) dL_does_1 (by decide) (fun c_1 => ?_) (fun c_1 => ?_)
  · refine lv_iload_n hx hb dL_does_13 rfl (lv_at hl 1 rfl) ?_
    refine lv_iconst (v := zI 1) hx hb dL_does_14 rfl ?_
    refine gz_icmp_ne (tgt := 29) hx hb (by decide) (by decide) dL_does_15 (by decide) (fun c_15 => ?_) (fun c_15 => ?_)
    · refine lv_iload_n hx hb dL_does_29 rfl (lv_at hl 1 rfl) ?_
      refine lv_iconst (v := zI 2) hx hb dL_does_30 rfl ?_
      refine gz_icmp_ne (tgt := 43) hx hb (by decide) (by decide) dL_does_31 (by decide) (fun c_31 => ?_) (fun c_31 => ?_)
      · refine lv_iload_n hx hb dL_does_43 rfl (lv_at hl 1 rfl) ?_
        refine lv_iconst (v := zI 3) hx hb dL_does_44 rfl ?_
        refine gz_icmp_ne (tgt := 56) hx hb (by decide) (by decide) dL_does_45 (by decide) (fun c_45 => ?_) (fun c_45 => ?_)
        · refine lv_iload_n hx hb dL_does_56 rfl (lv_at hl 1 rfl) ?_
          refine lv_iconst (v := zI 4) hx hb dL_does_57 rfl ?_
          refine gz_icmp_ne (tgt := 69) hx hb (by decide) (by decide) dL_does_58 (by decide) (fun c_58 => ?_) (fun c_58 => ?_)
          · refine lv_iload_n hx hb dL_does_69 rfl (lv_at hl 1 rfl) ?_
            refine lv_iconst (v := zI 5) hx hb dL_does_70 rfl ?_
            refine gz_icmp_ne (tgt := 83) hx hb (by decide) (by decide) dL_does_71 (by decide) (fun c_71 => ?_) (fun c_71 => ?_)
            · omega
            · refine lv_aload_n hx hb dL_does_74 rfl (lv_at hl 0 rfl) ?_
              refine lv_iload_n hx hb dL_does_75 rfl (lv_at hl 2 rfl) ?_
              refine lv_iload_n hx hb dL_does_76 rfl (lv_at hl 3 rfl) ?_
              refine g_go (vx_runV (As := [.int (zI z1), .int (zI z2)]) (rest := []) ⟨hx, hb, hml, hown, hts⟩ (x_link_e2 l G hlf A TA S W9 H hC hI z1 z2 i j hz1 hi hz2 hj hij) (cwV 2 hts gL_does_X4_link rfl rfl rfl hd_X4_link ⟨(Nat.le_of_ble_eq_true rfl), (Nat.le_of_ble_eq_true rfl)⟩) (g_preV hX hS (ci := 4) rfl hC.1) rfl rfl hl.1 rfl (lv_room (Nat.le_of_ble_eq_true rfl)) dL_does_77 ⟨(Nat.le_of_ble_eq_true rfl), (Nat.le_of_ble_eq_true rfl)⟩) hS (fun E ce q9 H_77 locs hp hS hce hcv hcl => ?_) (fun v H1 locs h hS => h.elim)
              obtain ⟨rfl, hE9⟩ := hp
              have hDX := DX.ext hC hE9
              refine g_catch hX hown [⟨0, 103, 104, 40⟩] ⟨0, 103, 109, 43⟩ [⟨0, 103, 114, 45⟩] hxt (List.forall_mem_cons.mpr ⟨⟨by decide, "java/lang/IndexOutOfBoundsException", (hts (.classLink RL 40 "java/lang/IndexOutOfBoundsException") (List.mem_cons_of_mem _ (List.mem_append_left _ (List.mem_append_left _ (List.mem_append_left _ (List.mem_append_left _ (List.mem_append_left _ (List.mem_append_left _ (List.mem_append_left _ (List.mem_append_left _ (List.mem_of_getElem? (i := 0) rfl))))))))))), by decide +kernel, by decide +kernel⟩, (fun _ h => absurd h List.not_mem_nil)⟩) (by decide +kernel) rfl (by decide) (hts (.classLink RL 43 "java/lang/IllegalArgumentException") (List.mem_cons_of_mem _ (List.mem_append_left _ (List.mem_append_left _ (List.mem_append_left _ (List.mem_append_left _ (List.mem_append_left _ (List.mem_append_left _ (List.mem_append_left _ (List.mem_append_left _ (List.mem_of_getElem? (i := 1) rfl))))))))))) (by decide +kernel) hce hcv hcl ?_
              refine W.eq (g2 := F0 m 109 ls [.ref q9]) rfl ?_
              refine lv_astore (lv' := [(5, .ref q9), (0, .ref (A 0)), (1, .int (zI 5)), (2, .int (zI z1)), (3, .int (zI z2)), (4, .int (zI zu))]) hx hb dL_does_109 hl (by decide) rfl (fun ls hl => ?_)
              refine lv_ldc (v := -99999) hx hb hown (hts (.constant RL 42 (-99999)) (List.mem_cons_of_mem _ (List.mem_append_left _ (List.mem_append_left _ (List.mem_append_left _ (List.mem_append_left _ (List.mem_append_left _ (List.mem_append_left _ (List.mem_append_left _ (List.mem_append_left _ (List.mem_of_getElem? (i := 3) rfl))))))))))) dL_does_111 ?_
              rw [k_far]
              exact g_reti hx hb hr hlocks hS rfl (⟨rfl, hDX⟩) (Nat.le_of_ble_eq_true rfl) (Nat.le_of_ble_eq_true rfl) dL_does_113
          · omega
        · omega
      · omega
    · omega
  · omega
set_option maxHeartbeats 4000000 in
set_option maxRecDepth 100000 in
theorem d_link_e3 (l : Launch) (G : gG) (hlf : l.stackTraces = false) (A : Nat → Nat) (TA : Nat → Nat → Nat) (S : cS) (W9 : cWk) (H : Heap) (hC : Cat G A TA S W9 H) (hI : sInv S) (z1 : Int) (z2 : Int) (i : Nat) (j : Nat) (hz1 : z1 = i) (hi : i < sn S) (hz2 : z2 = j) (hj : j < sn S) (hij : i ≠ j) (htb : (slk S i).testBit j = true) (zu : Int) : gM l yL_does wsL_does rm_L_does [.ref (A 0), .int (zI 5), .int (zI z1), .int (zI z2), .int (zI zu)] G H (gi (fun r H1 => zI xE = r ∧ DX G A TA S S H H1)) (gNo) 12 900 := by
  refine g_startW (cc := cL_does) (maxL := 6) (ret := (some .int)) (hh := [(0, 103, 104, 40), (0, 103, 109, 43), (0, 103, 114, 45)]) (by decide +kernel) rfl (Nat.le_of_ble_eq_true rfl) ?_
  intro p e s m args below meth c F ls hl
  obtain ⟨hx, hb, hml, hr, hts, hown, hlocks, hxt, hH, hX, hin⟩ := F
  have hown : s.vm.findClass RL = some m.cls := hown
  have hS : va_S (gA G) s.heap H [] := by rw [hH]; exact va_S.rf
  have hl : lv_has ls 6 [(0, .ref (A 0)), (1, .int (zI 5)), (2, .int (zI z1)), (3, .int (zI z2)), (4, .int (zI zu))] := hl
  refine lv_iload_n hx hb dL_does_0 rfl (lv_at hl 1 rfl) ?_
  refine gz_if_ne (tgt := 13) hx hb (by decide) dL_does_1 (by decide) (fun c_1 => ?_) (fun c_1 => ?_)
  · refine lv_iload_n hx hb dL_does_13 rfl (lv_at hl 1 rfl) ?_
    refine lv_iconst (v := zI 1) hx hb dL_does_14 rfl ?_
    refine gz_icmp_ne (tgt := 29) hx hb (by decide) (by decide) dL_does_15 (by decide) (fun c_15 => ?_) (fun c_15 => ?_)
    · refine lv_iload_n hx hb dL_does_29 rfl (lv_at hl 1 rfl) ?_
      refine lv_iconst (v := zI 2) hx hb dL_does_30 rfl ?_
      refine gz_icmp_ne (tgt := 43) hx hb (by decide) (by decide) dL_does_31 (by decide) (fun c_31 => ?_) (fun c_31 => ?_)
      · refine lv_iload_n hx hb dL_does_43 rfl (lv_at hl 1 rfl) ?_
        refine lv_iconst (v := zI 3) hx hb dL_does_44 rfl ?_
        refine gz_icmp_ne (tgt := 56) hx hb (by decide) (by decide) dL_does_45 (by decide) (fun c_45 => ?_) (fun c_45 => ?_)
        · refine lv_iload_n hx hb dL_does_56 rfl (lv_at hl 1 rfl) ?_
          refine lv_iconst (v := zI 4) hx hb dL_does_57 rfl ?_
          refine gz_icmp_ne (tgt := 69) hx hb (by decide) (by decide) dL_does_58 (by decide) (fun c_58 => ?_) (fun c_58 => ?_)
          · refine lv_iload_n hx hb dL_does_69 rfl (lv_at hl 1 rfl) ?_
            refine lv_iconst (v := zI 5) hx hb dL_does_70 rfl ?_
            refine gz_icmp_ne (tgt := 83) hx hb (by decide) (by decide) dL_does_71 (by decide) (fun c_71 => ?_) (fun c_71 => ?_)
            · omega
            · refine lv_aload_n hx hb dL_does_74 rfl (lv_at hl 0 rfl) ?_
              refine lv_iload_n hx hb dL_does_75 rfl (lv_at hl 2 rfl) ?_
              refine lv_iload_n hx hb dL_does_76 rfl (lv_at hl 3 rfl) ?_
              refine g_go (vx_runV (As := [.int (zI z1), .int (zI z2)]) (rest := []) ⟨hx, hb, hml, hown, hts⟩ (x_link_e3 l G hlf A TA S W9 H hC hI z1 z2 i j hz1 hi hz2 hj hij htb) (cwV 2 hts gL_does_X4_link rfl rfl rfl hd_X4_link ⟨(Nat.le_of_ble_eq_true rfl), (Nat.le_of_ble_eq_true rfl)⟩) (g_preV hX hS (ci := 4) rfl hC.1) rfl rfl hl.1 rfl (lv_room (Nat.le_of_ble_eq_true rfl)) dL_does_77 ⟨(Nat.le_of_ble_eq_true rfl), (Nat.le_of_ble_eq_true rfl)⟩) hS (fun E ce q9 H_77 locs hp hS hce hcv hcl => ?_) (fun v H1 locs h hS => h.elim)
              obtain ⟨rfl, hE9⟩ := hp
              have hDX := DX.ext hC hE9
              refine g_catch hX hown [⟨0, 103, 104, 40⟩, ⟨0, 103, 109, 43⟩] ⟨0, 103, 114, 45⟩ [] hxt (List.forall_mem_cons.mpr ⟨⟨by decide, "java/lang/IndexOutOfBoundsException", (hts (.classLink RL 40 "java/lang/IndexOutOfBoundsException") (List.mem_cons_of_mem _ (List.mem_append_left _ (List.mem_append_left _ (List.mem_append_left _ (List.mem_append_left _ (List.mem_append_left _ (List.mem_append_left _ (List.mem_append_left _ (List.mem_append_left _ (List.mem_of_getElem? (i := 0) rfl))))))))))), by decide +kernel, by decide +kernel⟩, (List.forall_mem_cons.mpr ⟨⟨by decide, "java/lang/IllegalArgumentException", (hts (.classLink RL 43 "java/lang/IllegalArgumentException") (List.mem_cons_of_mem _ (List.mem_append_left _ (List.mem_append_left _ (List.mem_append_left _ (List.mem_append_left _ (List.mem_append_left _ (List.mem_append_left _ (List.mem_append_left _ (List.mem_append_left _ (List.mem_of_getElem? (i := 1) rfl))))))))))), by decide +kernel, by decide +kernel⟩, (fun _ h => absurd h List.not_mem_nil)⟩)⟩) (by decide +kernel) rfl (by decide) (hts (.classLink RL 45 "java/lang/IllegalStateException") (List.mem_cons_of_mem _ (List.mem_append_left _ (List.mem_append_left _ (List.mem_append_left _ (List.mem_append_left _ (List.mem_append_left _ (List.mem_append_left _ (List.mem_append_left _ (List.mem_append_left _ (List.mem_of_getElem? (i := 2) rfl))))))))))) (by decide +kernel) hce hcv hcl ?_
              refine W.eq (g2 := F0 m 114 ls [.ref q9]) rfl ?_
              refine lv_astore (lv' := [(5, .ref q9), (0, .ref (A 0)), (1, .int (zI 5)), (2, .int (zI z1)), (3, .int (zI z2)), (4, .int (zI zu))]) hx hb dL_does_114 hl (by decide) rfl (fun ls hl => ?_)
              refine lv_ldc (v := -99999) hx hb hown (hts (.constant RL 42 (-99999)) (List.mem_cons_of_mem _ (List.mem_append_left _ (List.mem_append_left _ (List.mem_append_left _ (List.mem_append_left _ (List.mem_append_left _ (List.mem_append_left _ (List.mem_append_left _ (List.mem_append_left _ (List.mem_of_getElem? (i := 3) rfl))))))))))) dL_does_116 ?_
              rw [k_far]
              exact g_reti hx hb hr hlocks hS rfl (⟨rfl, hDX⟩) (Nat.le_of_ble_eq_true rfl) (Nat.le_of_ble_eq_true rfl) dL_does_118
          · omega
        · omega
      · omega
    · omega
  · omega
set_option maxHeartbeats 4000000 in
set_option maxRecDepth 100000 in
theorem d_cut_ok (l : Launch) (G : gG) (A : Nat → Nat) (TA : Nat → Nat → Nat) (S : cS) (W9 : cWk) (H : Heap) (hC : Cat G A TA S W9 H) (hI : sInv S) (z1 : Int) (z2 : Int) (i : Nat) (j : Nat) (hz1 : z1 = i) (hi : i < sn S) (hz2 : z2 = j) (hj : j < sn S) (hlk2 : ∀ k, lkT (slk S) i j k < 65536) (hij : i ≠ j) (htb : (slk S i).testBit j = true) (zu : Int) : gM l yL_does wsL_does rm_L_does [.ref (A 0), .int (zI 6), .int (zI z1), .int (zI z2), .int (zI zu)] G H (gi (fun r H1 => zI ((famC (lkT (slk S) i j) (sn S) (sn S) : Nat) : Int) = r ∧ DX G A TA S (sLnk S i j) H H1)) (gNo) 12 900 := by
  refine g_startW (cc := cL_does) (maxL := 6) (ret := (some .int)) (hh := [(0, 103, 104, 40), (0, 103, 109, 43), (0, 103, 114, 45)]) (by decide +kernel) rfl (Nat.le_of_ble_eq_true rfl) ?_
  intro p e s m args below meth c F ls hl
  obtain ⟨hx, hb, hml, hr, hts, hown, hlocks, hxt, hH, hX, hin⟩ := F
  have hown : s.vm.findClass RL = some m.cls := hown
  have hS : va_S (gA G) s.heap H [] := by rw [hH]; exact va_S.rf
  have hl : lv_has ls 6 [(0, .ref (A 0)), (1, .int (zI 6)), (2, .int (zI z1)), (3, .int (zI z2)), (4, .int (zI zu))] := hl
  refine lv_iload_n hx hb dL_does_0 rfl (lv_at hl 1 rfl) ?_
  refine gz_if_ne (tgt := 13) hx hb (by decide) dL_does_1 (by decide) (fun c_1 => ?_) (fun c_1 => ?_)
  · refine lv_iload_n hx hb dL_does_13 rfl (lv_at hl 1 rfl) ?_
    refine lv_iconst (v := zI 1) hx hb dL_does_14 rfl ?_
    refine gz_icmp_ne (tgt := 29) hx hb (by decide) (by decide) dL_does_15 (by decide) (fun c_15 => ?_) (fun c_15 => ?_)
    · refine lv_iload_n hx hb dL_does_29 rfl (lv_at hl 1 rfl) ?_
      refine lv_iconst (v := zI 2) hx hb dL_does_30 rfl ?_
      refine gz_icmp_ne (tgt := 43) hx hb (by decide) (by decide) dL_does_31 (by decide) (fun c_31 => ?_) (fun c_31 => ?_)
      · refine lv_iload_n hx hb dL_does_43 rfl (lv_at hl 1 rfl) ?_
        refine lv_iconst (v := zI 3) hx hb dL_does_44 rfl ?_
        refine gz_icmp_ne (tgt := 56) hx hb (by decide) (by decide) dL_does_45 (by decide) (fun c_45 => ?_) (fun c_45 => ?_)
        · refine lv_iload_n hx hb dL_does_56 rfl (lv_at hl 1 rfl) ?_
          refine lv_iconst (v := zI 4) hx hb dL_does_57 rfl ?_
          refine gz_icmp_ne (tgt := 69) hx hb (by decide) (by decide) dL_does_58 (by decide) (fun c_58 => ?_) (fun c_58 => ?_)
          · refine lv_iload_n hx hb dL_does_69 rfl (lv_at hl 1 rfl) ?_
            refine lv_iconst (v := zI 5) hx hb dL_does_70 rfl ?_
            refine gz_icmp_ne (tgt := 83) hx hb (by decide) (by decide) dL_does_71 (by decide) (fun c_71 => ?_) (fun c_71 => ?_)
            · refine lv_iload_n hx hb dL_does_83 rfl (lv_at hl 1 rfl) ?_
              refine lv_bipush (v := zI 6) hx hb dL_does_84 (by decide +kernel) ?_
              refine gz_icmp_ne (tgt := 98) hx hb (by decide) (by decide) dL_does_86 (by decide) (fun c_86 => ?_) (fun c_86 => ?_)
              · omega
              · refine lv_aload_n hx hb dL_does_89 rfl (lv_at hl 0 rfl) ?_
                refine lv_iload_n hx hb dL_does_90 rfl (lv_at hl 2 rfl) ?_
                refine lv_iload_n hx hb dL_does_91 rfl (lv_at hl 3 rfl) ?_
                refine g_goi (vx_runV (As := [.int (zI z1), .int (zI z2)]) (rest := []) ⟨hx, hb, hml, hown, hts⟩ (x_cut_ok l G A TA S W9 H hC hI z1 z2 i j hz1 hi hz2 hj hlk2 hij htb) (cwV 2 hts gL_does_X4_cut rfl rfl rfl hd_X4_cut ⟨(Nat.le_of_ble_eq_true rfl), (Nat.le_of_ble_eq_true rfl)⟩) (g_preV hX hS (ci := 4) rfl hC.1) rfl rfl hl.1 rfl (lv_room (Nat.le_of_ble_eq_true rfl)) dL_does_92 ⟨(Nat.le_of_ble_eq_true rfl), (Nat.le_of_ble_eq_true rfl)⟩) hS (fun r_92 H_92 locs hp hS => ?_)
                obtain ⟨rfl, hxp⟩ := hp
                have hDX := DX.xp hxp rfl
                refine lv_goto (tgt := 103) hx hb dL_does_95 (by decide) ?_
                exact g_reti hx hb hr hlocks hS rfl (⟨rfl, hDX⟩) (Nat.le_of_ble_eq_true rfl) (Nat.le_of_ble_eq_true rfl) dL_does_103
            · omega
          · omega
        · omega
      · omega
    · omega
  · omega
set_option maxHeartbeats 4000000 in
set_option maxRecDepth 100000 in
theorem d_cut_e1 (l : Launch) (G : gG) (hlf : l.stackTraces = false) (A : Nat → Nat) (TA : Nat → Nat → Nat) (S : cS) (W9 : cWk) (H : Heap) (hC : Cat G A TA S W9 H) (hI : sInv S) (z1 : Int) (z2 : Int) (hz1 : rI z1) (hz2 : rI z2) (hno : ¬ ((0 ≤ z1 ∧ z1 < sn S) ∧ 0 ≤ z2 ∧ z2 < sn S)) (zu : Int) : gM l yL_does wsL_does rm_L_does [.ref (A 0), .int (zI 6), .int (zI z1), .int (zI z2), .int (zI zu)] G H (gi (fun r H1 => zI xE = r ∧ DX G A TA S S H H1)) (gNo) 12 900 := by
  refine g_startW (cc := cL_does) (maxL := 6) (ret := (some .int)) (hh := [(0, 103, 104, 40), (0, 103, 109, 43), (0, 103, 114, 45)]) (by decide +kernel) rfl (Nat.le_of_ble_eq_true rfl) ?_
  intro p e s m args below meth c F ls hl
  obtain ⟨hx, hb, hml, hr, hts, hown, hlocks, hxt, hH, hX, hin⟩ := F
  have hown : s.vm.findClass RL = some m.cls := hown
  have hS : va_S (gA G) s.heap H [] := by rw [hH]; exact va_S.rf
  have hl : lv_has ls 6 [(0, .ref (A 0)), (1, .int (zI 6)), (2, .int (zI z1)), (3, .int (zI z2)), (4, .int (zI zu))] := hl
  refine lv_iload_n hx hb dL_does_0 rfl (lv_at hl 1 rfl) ?_
  refine gz_if_ne (tgt := 13) hx hb (by decide) dL_does_1 (by decide) (fun c_1 => ?_) (fun c_1 => ?_)
  · refine lv_iload_n hx hb dL_does_13 rfl (lv_at hl 1 rfl) ?_
    refine lv_iconst (v := zI 1) hx hb dL_does_14 rfl ?_
    refine gz_icmp_ne (tgt := 29) hx hb (by decide) (by decide) dL_does_15 (by decide) (fun c_15 => ?_) (fun c_15 => ?_)
    · refine lv_iload_n hx hb dL_does_29 rfl (lv_at hl 1 rfl) ?_
      refine lv_iconst (v := zI 2) hx hb dL_does_30 rfl ?_
      refine gz_icmp_ne (tgt := 43) hx hb (by decide) (by decide) dL_does_31 (by decide) (fun c_31 => ?_) (fun c_31 => ?_)
      · refine lv_iload_n hx hb dL_does_43 rfl (lv_at hl 1 rfl) ?_
        refine lv_iconst (v := zI 3) hx hb dL_does_44 rfl ?_
        refine gz_icmp_ne (tgt := 56) hx hb (by decide) (by decide) dL_does_45 (by decide) (fun c_45 => ?_) (fun c_45 => ?_)
        · refine lv_iload_n hx hb dL_does_56 rfl (lv_at hl 1 rfl) ?_
          refine lv_iconst (v := zI 4) hx hb dL_does_57 rfl ?_
          refine gz_icmp_ne (tgt := 69) hx hb (by decide) (by decide) dL_does_58 (by decide) (fun c_58 => ?_) (fun c_58 => ?_)
          · refine lv_iload_n hx hb dL_does_69 rfl (lv_at hl 1 rfl) ?_
            refine lv_iconst (v := zI 5) hx hb dL_does_70 rfl ?_
            refine gz_icmp_ne (tgt := 83) hx hb (by decide) (by decide) dL_does_71 (by decide) (fun c_71 => ?_) (fun c_71 => ?_)
            · refine lv_iload_n hx hb dL_does_83 rfl (lv_at hl 1 rfl) ?_
              refine lv_bipush (v := zI 6) hx hb dL_does_84 (by decide +kernel) ?_
              refine gz_icmp_ne (tgt := 98) hx hb (by decide) (by decide) dL_does_86 (by decide) (fun c_86 => ?_) (fun c_86 => ?_)
              · omega
              · refine lv_aload_n hx hb dL_does_89 rfl (lv_at hl 0 rfl) ?_
                refine lv_iload_n hx hb dL_does_90 rfl (lv_at hl 2 rfl) ?_
                refine lv_iload_n hx hb dL_does_91 rfl (lv_at hl 3 rfl) ?_
                refine g_go (vx_runV (As := [.int (zI z1), .int (zI z2)]) (rest := []) ⟨hx, hb, hml, hown, hts⟩ (x_cut_e1 l G hlf A TA S W9 H hC hI z1 z2 hz1 hz2 hno) (cwV 2 hts gL_does_X4_cut rfl rfl rfl hd_X4_cut ⟨(Nat.le_of_ble_eq_true rfl), (Nat.le_of_ble_eq_true rfl)⟩) (g_preV hX hS (ci := 4) rfl hC.1) rfl rfl hl.1 rfl (lv_room (Nat.le_of_ble_eq_true rfl)) dL_does_92 ⟨(Nat.le_of_ble_eq_true rfl), (Nat.le_of_ble_eq_true rfl)⟩) hS (fun E ce q9 H_92 locs hp hS hce hcv hcl => ?_) (fun v H1 locs h hS => h.elim)
                obtain ⟨rfl, hE9⟩ := hp
                have hDX := DX.ext hC hE9
                refine g_catch hX hown [] ⟨0, 103, 104, 40⟩ [⟨0, 103, 109, 43⟩, ⟨0, 103, 114, 45⟩] hxt (fun _ h => absurd h List.not_mem_nil) (by decide +kernel) rfl (by decide) (hts (.classLink RL 40 "java/lang/IndexOutOfBoundsException") (List.mem_cons_of_mem _ (List.mem_append_left _ (List.mem_append_left _ (List.mem_append_left _ (List.mem_append_left _ (List.mem_append_left _ (List.mem_append_left _ (List.mem_append_left _ (List.mem_append_left _ (List.mem_of_getElem? (i := 0) rfl))))))))))) (by decide +kernel) hce hcv hcl ?_
                refine W.eq (g2 := F0 m 104 ls [.ref q9]) rfl ?_
                refine lv_astore (lv' := [(5, .ref q9), (0, .ref (A 0)), (1, .int (zI 6)), (2, .int (zI z1)), (3, .int (zI z2)), (4, .int (zI zu))]) hx hb dL_does_104 hl (by decide) rfl (fun ls hl => ?_)
                refine lv_ldc (v := -99999) hx hb hown (hts (.constant RL 42 (-99999)) (List.mem_cons_of_mem _ (List.mem_append_left _ (List.mem_append_left _ (List.mem_append_left _ (List.mem_append_left _ (List.mem_append_left _ (List.mem_append_left _ (List.mem_append_left _ (List.mem_append_left _ (List.mem_of_getElem? (i := 3) rfl))))))))))) dL_does_106 ?_
                rw [k_far]
                exact g_reti hx hb hr hlocks hS rfl (⟨rfl, hDX⟩) (Nat.le_of_ble_eq_true rfl) (Nat.le_of_ble_eq_true rfl) dL_does_108
            · omega
          · omega
        · omega
      · omega
    · omega
  · omega
set_option maxHeartbeats 4000000 in
set_option maxRecDepth 100000 in
theorem d_cut_e2 (l : Launch) (G : gG) (hlf : l.stackTraces = false) (A : Nat → Nat) (TA : Nat → Nat → Nat) (S : cS) (W9 : cWk) (H : Heap) (hC : Cat G A TA S W9 H) (hI : sInv S) (z1 : Int) (z2 : Int) (i : Nat) (j : Nat) (hz1 : z1 = i) (hi : i < sn S) (hz2 : z2 = j) (hj : j < sn S) (htb : (slk S i).testBit j = false) (zu : Int) : gM l yL_does wsL_does rm_L_does [.ref (A 0), .int (zI 6), .int (zI z1), .int (zI z2), .int (zI zu)] G H (gi (fun r H1 => zI xE = r ∧ DX G A TA S S H H1)) (gNo) 12 900 := by
  refine g_startW (cc := cL_does) (maxL := 6) (ret := (some .int)) (hh := [(0, 103, 104, 40), (0, 103, 109, 43), (0, 103, 114, 45)]) (by decide +kernel) rfl (Nat.le_of_ble_eq_true rfl) ?_
  intro p e s m args below meth c F ls hl
  obtain ⟨hx, hb, hml, hr, hts, hown, hlocks, hxt, hH, hX, hin⟩ := F
  have hown : s.vm.findClass RL = some m.cls := hown
  have hS : va_S (gA G) s.heap H [] := by rw [hH]; exact va_S.rf
  have hl : lv_has ls 6 [(0, .ref (A 0)), (1, .int (zI 6)), (2, .int (zI z1)), (3, .int (zI z2)), (4, .int (zI zu))] := hl
  refine lv_iload_n hx hb dL_does_0 rfl (lv_at hl 1 rfl) ?_
  refine gz_if_ne (tgt := 13) hx hb (by decide) dL_does_1 (by decide) (fun c_1 => ?_) (fun c_1 => ?_)
  · refine lv_iload_n hx hb dL_does_13 rfl (lv_at hl 1 rfl) ?_
    refine lv_iconst (v := zI 1) hx hb dL_does_14 rfl ?_
    refine gz_icmp_ne (tgt := 29) hx hb (by decide) (by decide) dL_does_15 (by decide) (fun c_15 => ?_) (fun c_15 => ?_)
    · refine lv_iload_n hx hb dL_does_29 rfl (lv_at hl 1 rfl) ?_
      refine lv_iconst (v := zI 2) hx hb dL_does_30 rfl ?_
      refine gz_icmp_ne (tgt := 43) hx hb (by decide) (by decide) dL_does_31 (by decide) (fun c_31 => ?_) (fun c_31 => ?_)
      · refine lv_iload_n hx hb dL_does_43 rfl (lv_at hl 1 rfl) ?_
        refine lv_iconst (v := zI 3) hx hb dL_does_44 rfl ?_
        refine gz_icmp_ne (tgt := 56) hx hb (by decide) (by decide) dL_does_45 (by decide) (fun c_45 => ?_) (fun c_45 => ?_)
        · refine lv_iload_n hx hb dL_does_56 rfl (lv_at hl 1 rfl) ?_
          refine lv_iconst (v := zI 4) hx hb dL_does_57 rfl ?_
          refine gz_icmp_ne (tgt := 69) hx hb (by decide) (by decide) dL_does_58 (by decide) (fun c_58 => ?_) (fun c_58 => ?_)
          · refine lv_iload_n hx hb dL_does_69 rfl (lv_at hl 1 rfl) ?_
            refine lv_iconst (v := zI 5) hx hb dL_does_70 rfl ?_
            refine gz_icmp_ne (tgt := 83) hx hb (by decide) (by decide) dL_does_71 (by decide) (fun c_71 => ?_) (fun c_71 => ?_)
            · refine lv_iload_n hx hb dL_does_83 rfl (lv_at hl 1 rfl) ?_
              refine lv_bipush (v := zI 6) hx hb dL_does_84 (by decide +kernel) ?_
              refine gz_icmp_ne (tgt := 98) hx hb (by decide) (by decide) dL_does_86 (by decide) (fun c_86 => ?_) (fun c_86 => ?_)
              · omega
              · refine lv_aload_n hx hb dL_does_89 rfl (lv_at hl 0 rfl) ?_
                refine lv_iload_n hx hb dL_does_90 rfl (lv_at hl 2 rfl) ?_
                refine lv_iload_n hx hb dL_does_91 rfl (lv_at hl 3 rfl) ?_
                refine g_go (vx_runV (As := [.int (zI z1), .int (zI z2)]) (rest := []) ⟨hx, hb, hml, hown, hts⟩ (x_cut_e2 l G hlf A TA S W9 H hC hI z1 z2 i j hz1 hi hz2 hj htb) (cwV 2 hts gL_does_X4_cut rfl rfl rfl hd_X4_cut ⟨(Nat.le_of_ble_eq_true rfl), (Nat.le_of_ble_eq_true rfl)⟩) (g_preV hX hS (ci := 4) rfl hC.1) rfl rfl hl.1 rfl (lv_room (Nat.le_of_ble_eq_true rfl)) dL_does_92 ⟨(Nat.le_of_ble_eq_true rfl), (Nat.le_of_ble_eq_true rfl)⟩) hS (fun E ce q9 H_92 locs hp hS hce hcv hcl => ?_) (fun v H1 locs h hS => h.elim)
                obtain ⟨rfl, hE9⟩ := hp
                have hDX := DX.ext hC hE9
                refine g_catch hX hown [⟨0, 103, 104, 40⟩, ⟨0, 103, 109, 43⟩] ⟨0, 103, 114, 45⟩ [] hxt (List.forall_mem_cons.mpr ⟨⟨by decide, "java/lang/IndexOutOfBoundsException", (hts (.classLink RL 40 "java/lang/IndexOutOfBoundsException") (List.mem_cons_of_mem _ (List.mem_append_left _ (List.mem_append_left _ (List.mem_append_left _ (List.mem_append_left _ (List.mem_append_left _ (List.mem_append_left _ (List.mem_append_left _ (List.mem_append_left _ (List.mem_of_getElem? (i := 0) rfl))))))))))), by decide +kernel, by decide +kernel⟩, (List.forall_mem_cons.mpr ⟨⟨by decide, "java/lang/IllegalArgumentException", (hts (.classLink RL 43 "java/lang/IllegalArgumentException") (List.mem_cons_of_mem _ (List.mem_append_left _ (List.mem_append_left _ (List.mem_append_left _ (List.mem_append_left _ (List.mem_append_left _ (List.mem_append_left _ (List.mem_append_left _ (List.mem_append_left _ (List.mem_of_getElem? (i := 1) rfl))))))))))), by decide +kernel, by decide +kernel⟩, (fun _ h => absurd h List.not_mem_nil)⟩)⟩) (by decide +kernel) rfl (by decide) (hts (.classLink RL 45 "java/lang/IllegalStateException") (List.mem_cons_of_mem _ (List.mem_append_left _ (List.mem_append_left _ (List.mem_append_left _ (List.mem_append_left _ (List.mem_append_left _ (List.mem_append_left _ (List.mem_append_left _ (List.mem_append_left _ (List.mem_of_getElem? (i := 2) rfl))))))))))) (by decide +kernel) hce hcv hcl ?_
                refine W.eq (g2 := F0 m 114 ls [.ref q9]) rfl ?_
                refine lv_astore (lv' := [(5, .ref q9), (0, .ref (A 0)), (1, .int (zI 6)), (2, .int (zI z1)), (3, .int (zI z2)), (4, .int (zI zu))]) hx hb dL_does_114 hl (by decide) rfl (fun ls hl => ?_)
                refine lv_ldc (v := -99999) hx hb hown (hts (.constant RL 42 (-99999)) (List.mem_cons_of_mem _ (List.mem_append_left _ (List.mem_append_left _ (List.mem_append_left _ (List.mem_append_left _ (List.mem_append_left _ (List.mem_append_left _ (List.mem_append_left _ (List.mem_append_left _ (List.mem_of_getElem? (i := 3) rfl))))))))))) dL_does_116 ?_
                rw [k_far]
                exact g_reti hx hb hr hlocks hS rfl (⟨rfl, hDX⟩) (Nat.le_of_ble_eq_true rfl) (Nat.le_of_ble_eq_true rfl) dL_does_118
            · omega
          · omega
        · omega
      · omega
    · omega
  · omega
set_option maxHeartbeats 4000000 in
set_option maxRecDepth 100000 in
theorem d_places_ok (l : Launch) (G : gG) (A : Nat → Nat) (TA : Nat → Nat → Nat) (S : cS) (W9 : cWk) (H : Heap) (hC : Cat G A TA S W9 H) (hI : sInv S) (zs : Int) (st0 : Nat) (hzs : zs = st0) (h14 : 1 ≤ st0 ∧ st0 ≤ 4) (hst : st0 + 1 ≤ shn S) (zu zv : Int) : gM l yL_does wsL_does rm_L_does [.ref (A 0), .int (zI 7), .int (zI zs), .int (zI zu), .int (zI zv)] G H (gi (fun r H1 => zI (((plA S st0 (sn S)).length : Nat) : Int) = r ∧ DX G A TA S S H H1)) (gNo) 12 900 := by
  refine g_startW (cc := cL_does) (maxL := 6) (ret := (some .int)) (hh := [(0, 103, 104, 40), (0, 103, 109, 43), (0, 103, 114, 45)]) (by decide +kernel) rfl (Nat.le_of_ble_eq_true rfl) ?_
  intro p e s m args below meth c F ls hl
  obtain ⟨hx, hb, hml, hr, hts, hown, hlocks, hxt, hH, hX, hin⟩ := F
  have hown : s.vm.findClass RL = some m.cls := hown
  have hS : va_S (gA G) s.heap H [] := by rw [hH]; exact va_S.rf
  have hl : lv_has ls 6 [(0, .ref (A 0)), (1, .int (zI 7)), (2, .int (zI zs)), (3, .int (zI zu)), (4, .int (zI zv))] := hl
  refine lv_iload_n hx hb dL_does_0 rfl (lv_at hl 1 rfl) ?_
  refine gz_if_ne (tgt := 13) hx hb (by decide) dL_does_1 (by decide) (fun c_1 => ?_) (fun c_1 => ?_)
  · refine lv_iload_n hx hb dL_does_13 rfl (lv_at hl 1 rfl) ?_
    refine lv_iconst (v := zI 1) hx hb dL_does_14 rfl ?_
    refine gz_icmp_ne (tgt := 29) hx hb (by decide) (by decide) dL_does_15 (by decide) (fun c_15 => ?_) (fun c_15 => ?_)
    · refine lv_iload_n hx hb dL_does_29 rfl (lv_at hl 1 rfl) ?_
      refine lv_iconst (v := zI 2) hx hb dL_does_30 rfl ?_
      refine gz_icmp_ne (tgt := 43) hx hb (by decide) (by decide) dL_does_31 (by decide) (fun c_31 => ?_) (fun c_31 => ?_)
      · refine lv_iload_n hx hb dL_does_43 rfl (lv_at hl 1 rfl) ?_
        refine lv_iconst (v := zI 3) hx hb dL_does_44 rfl ?_
        refine gz_icmp_ne (tgt := 56) hx hb (by decide) (by decide) dL_does_45 (by decide) (fun c_45 => ?_) (fun c_45 => ?_)
        · refine lv_iload_n hx hb dL_does_56 rfl (lv_at hl 1 rfl) ?_
          refine lv_iconst (v := zI 4) hx hb dL_does_57 rfl ?_
          refine gz_icmp_ne (tgt := 69) hx hb (by decide) (by decide) dL_does_58 (by decide) (fun c_58 => ?_) (fun c_58 => ?_)
          · refine lv_iload_n hx hb dL_does_69 rfl (lv_at hl 1 rfl) ?_
            refine lv_iconst (v := zI 5) hx hb dL_does_70 rfl ?_
            refine gz_icmp_ne (tgt := 83) hx hb (by decide) (by decide) dL_does_71 (by decide) (fun c_71 => ?_) (fun c_71 => ?_)
            · refine lv_iload_n hx hb dL_does_83 rfl (lv_at hl 1 rfl) ?_
              refine lv_bipush (v := zI 6) hx hb dL_does_84 (by decide +kernel) ?_
              refine gz_icmp_ne (tgt := 98) hx hb (by decide) (by decide) dL_does_86 (by decide) (fun c_86 => ?_) (fun c_86 => ?_)
              · refine lv_aload_n hx hb dL_does_98 rfl (lv_at hl 0 rfl) ?_
                refine lv_iload_n hx hb dL_does_99 rfl (lv_at hl 2 rfl) ?_
                refine g_goi (vx_runV (As := [.int (zI zs)]) (rest := []) ⟨hx, hb, hml, hown, hts⟩ (x_places_ok l G A TA S W9 H hC hI zs st0 hzs h14 hst) (cwV 1 hts gL_does_X4_places rfl rfl rfl hd_X4_places ⟨(Nat.le_of_ble_eq_true rfl), (Nat.le_of_ble_eq_true rfl)⟩) (g_preV hX hS (ci := 4) rfl hC.1) rfl rfl hl.1 rfl (lv_room (Nat.le_of_ble_eq_true rfl)) dL_does_100 ⟨(Nat.le_of_ble_eq_true rfl), (Nat.le_of_ble_eq_true rfl)⟩) hS (fun r_100 H_100 locs hp hS => ?_)
                obtain ⟨rfl, hxp⟩ := hp
                have hDX := DX.xp hxp rfl
                exact g_reti hx hb hr hlocks hS rfl (⟨rfl, hDX⟩) (Nat.le_of_ble_eq_true rfl) (Nat.le_of_ble_eq_true rfl) dL_does_103
              · omega
            · omega
          · omega
        · omega
      · omega
    · omega
  · omega
set_option maxHeartbeats 4000000 in
set_option maxRecDepth 100000 in
theorem d_places_e1 (l : Launch) (G : gG) (hlf : l.stackTraces = false) (A : Nat → Nat) (TA : Nat → Nat → Nat) (S : cS) (W9 : cWk) (H : Heap) (hC : Cat G A TA S W9 H) (hI : sInv S) (zs : Int) (hz : rI zs) (hno : ¬ (1 ≤ zs ∧ zs ≤ 4)) (zu zv : Int) : gM l yL_does wsL_does rm_L_does [.ref (A 0), .int (zI 7), .int (zI zs), .int (zI zu), .int (zI zv)] G H (gi (fun r H1 => zI xE = r ∧ DX G A TA S S H H1)) (gNo) 12 900 := by
  refine g_startW (cc := cL_does) (maxL := 6) (ret := (some .int)) (hh := [(0, 103, 104, 40), (0, 103, 109, 43), (0, 103, 114, 45)]) (by decide +kernel) rfl (Nat.le_of_ble_eq_true rfl) ?_
  intro p e s m args below meth c F ls hl
  obtain ⟨hx, hb, hml, hr, hts, hown, hlocks, hxt, hH, hX, hin⟩ := F
  have hown : s.vm.findClass RL = some m.cls := hown
  have hS : va_S (gA G) s.heap H [] := by rw [hH]; exact va_S.rf
  have hl : lv_has ls 6 [(0, .ref (A 0)), (1, .int (zI 7)), (2, .int (zI zs)), (3, .int (zI zu)), (4, .int (zI zv))] := hl
  refine lv_iload_n hx hb dL_does_0 rfl (lv_at hl 1 rfl) ?_
  refine gz_if_ne (tgt := 13) hx hb (by decide) dL_does_1 (by decide) (fun c_1 => ?_) (fun c_1 => ?_)
  · refine lv_iload_n hx hb dL_does_13 rfl (lv_at hl 1 rfl) ?_
    refine lv_iconst (v := zI 1) hx hb dL_does_14 rfl ?_
    refine gz_icmp_ne (tgt := 29) hx hb (by decide) (by decide) dL_does_15 (by decide) (fun c_15 => ?_) (fun c_15 => ?_)
    · refine lv_iload_n hx hb dL_does_29 rfl (lv_at hl 1 rfl) ?_
      refine lv_iconst (v := zI 2) hx hb dL_does_30 rfl ?_
      refine gz_icmp_ne (tgt := 43) hx hb (by decide) (by decide) dL_does_31 (by decide) (fun c_31 => ?_) (fun c_31 => ?_)
      · refine lv_iload_n hx hb dL_does_43 rfl (lv_at hl 1 rfl) ?_
        refine lv_iconst (v := zI 3) hx hb dL_does_44 rfl ?_
        refine gz_icmp_ne (tgt := 56) hx hb (by decide) (by decide) dL_does_45 (by decide) (fun c_45 => ?_) (fun c_45 => ?_)
        · refine lv_iload_n hx hb dL_does_56 rfl (lv_at hl 1 rfl) ?_
          refine lv_iconst (v := zI 4) hx hb dL_does_57 rfl ?_
          refine gz_icmp_ne (tgt := 69) hx hb (by decide) (by decide) dL_does_58 (by decide) (fun c_58 => ?_) (fun c_58 => ?_)
          · refine lv_iload_n hx hb dL_does_69 rfl (lv_at hl 1 rfl) ?_
            refine lv_iconst (v := zI 5) hx hb dL_does_70 rfl ?_
            refine gz_icmp_ne (tgt := 83) hx hb (by decide) (by decide) dL_does_71 (by decide) (fun c_71 => ?_) (fun c_71 => ?_)
            · refine lv_iload_n hx hb dL_does_83 rfl (lv_at hl 1 rfl) ?_
              refine lv_bipush (v := zI 6) hx hb dL_does_84 (by decide +kernel) ?_
              refine gz_icmp_ne (tgt := 98) hx hb (by decide) (by decide) dL_does_86 (by decide) (fun c_86 => ?_) (fun c_86 => ?_)
              · refine lv_aload_n hx hb dL_does_98 rfl (lv_at hl 0 rfl) ?_
                refine lv_iload_n hx hb dL_does_99 rfl (lv_at hl 2 rfl) ?_
                refine g_go (vx_runV (As := [.int (zI zs)]) (rest := []) ⟨hx, hb, hml, hown, hts⟩ (x_places_e1 l G hlf A TA S W9 H hC hI zs hz hno) (cwV 1 hts gL_does_X4_places rfl rfl rfl hd_X4_places ⟨(Nat.le_of_ble_eq_true rfl), (Nat.le_of_ble_eq_true rfl)⟩) (g_preV hX hS (ci := 4) rfl hC.1) rfl rfl hl.1 rfl (lv_room (Nat.le_of_ble_eq_true rfl)) dL_does_100 ⟨(Nat.le_of_ble_eq_true rfl), (Nat.le_of_ble_eq_true rfl)⟩) hS (fun E ce q9 H_100 locs hp hS hce hcv hcl => ?_) (fun v H1 locs h hS => h.elim)
                obtain ⟨rfl, hE9⟩ := hp
                have hDX := DX.ext hC hE9
                refine g_catch hX hown [⟨0, 103, 104, 40⟩] ⟨0, 103, 109, 43⟩ [⟨0, 103, 114, 45⟩] hxt (List.forall_mem_cons.mpr ⟨⟨by decide, "java/lang/IndexOutOfBoundsException", (hts (.classLink RL 40 "java/lang/IndexOutOfBoundsException") (List.mem_cons_of_mem _ (List.mem_append_left _ (List.mem_append_left _ (List.mem_append_left _ (List.mem_append_left _ (List.mem_append_left _ (List.mem_append_left _ (List.mem_append_left _ (List.mem_append_left _ (List.mem_of_getElem? (i := 0) rfl))))))))))), by decide +kernel, by decide +kernel⟩, (fun _ h => absurd h List.not_mem_nil)⟩) (by decide +kernel) rfl (by decide) (hts (.classLink RL 43 "java/lang/IllegalArgumentException") (List.mem_cons_of_mem _ (List.mem_append_left _ (List.mem_append_left _ (List.mem_append_left _ (List.mem_append_left _ (List.mem_append_left _ (List.mem_append_left _ (List.mem_append_left _ (List.mem_append_left _ (List.mem_of_getElem? (i := 1) rfl))))))))))) (by decide +kernel) hce hcv hcl ?_
                refine W.eq (g2 := F0 m 109 ls [.ref q9]) rfl ?_
                refine lv_astore (lv' := [(5, .ref q9), (0, .ref (A 0)), (1, .int (zI 7)), (2, .int (zI zs)), (3, .int (zI zu)), (4, .int (zI zv))]) hx hb dL_does_109 hl (by decide) rfl (fun ls hl => ?_)
                refine lv_ldc (v := -99999) hx hb hown (hts (.constant RL 42 (-99999)) (List.mem_cons_of_mem _ (List.mem_append_left _ (List.mem_append_left _ (List.mem_append_left _ (List.mem_append_left _ (List.mem_append_left _ (List.mem_append_left _ (List.mem_append_left _ (List.mem_append_left _ (List.mem_of_getElem? (i := 3) rfl))))))))))) dL_does_111 ?_
                rw [k_far]
                exact g_reti hx hb hr hlocks hS rfl (⟨rfl, hDX⟩) (Nat.le_of_ble_eq_true rfl) (Nat.le_of_ble_eq_true rfl) dL_does_113
              · omega
            · omega
          · omega
        · omega
      · omega
    · omega
  · omega
set_option maxHeartbeats 4000000 in
set_option maxRecDepth 100000 in
theorem d_places_e2 (l : Launch) (G : gG) (hlf : l.stackTraces = false) (A : Nat → Nat) (TA : Nat → Nat → Nat) (S : cS) (W9 : cWk) (H : Heap) (hC : Cat G A TA S W9 H) (hI : sInv S) (zs : Int) (hz : rI zs) (h14 : 1 ≤ zs ∧ zs ≤ 4) (hno : ¬ zs ≤ (shn S : Int) - 1) (zu zv : Int) : gM l yL_does wsL_does rm_L_does [.ref (A 0), .int (zI 7), .int (zI zs), .int (zI zu), .int (zI zv)] G H (gi (fun r H1 => zI xE = r ∧ DX G A TA S S H H1)) (gNo) 12 900 := by
  refine g_startW (cc := cL_does) (maxL := 6) (ret := (some .int)) (hh := [(0, 103, 104, 40), (0, 103, 109, 43), (0, 103, 114, 45)]) (by decide +kernel) rfl (Nat.le_of_ble_eq_true rfl) ?_
  intro p e s m args below meth c F ls hl
  obtain ⟨hx, hb, hml, hr, hts, hown, hlocks, hxt, hH, hX, hin⟩ := F
  have hown : s.vm.findClass RL = some m.cls := hown
  have hS : va_S (gA G) s.heap H [] := by rw [hH]; exact va_S.rf
  have hl : lv_has ls 6 [(0, .ref (A 0)), (1, .int (zI 7)), (2, .int (zI zs)), (3, .int (zI zu)), (4, .int (zI zv))] := hl
  refine lv_iload_n hx hb dL_does_0 rfl (lv_at hl 1 rfl) ?_
  refine gz_if_ne (tgt := 13) hx hb (by decide) dL_does_1 (by decide) (fun c_1 => ?_) (fun c_1 => ?_)
  · refine lv_iload_n hx hb dL_does_13 rfl (lv_at hl 1 rfl) ?_
    refine lv_iconst (v := zI 1) hx hb dL_does_14 rfl ?_
    refine gz_icmp_ne (tgt := 29) hx hb (by decide) (by decide) dL_does_15 (by decide) (fun c_15 => ?_) (fun c_15 => ?_)
    · refine lv_iload_n hx hb dL_does_29 rfl (lv_at hl 1 rfl) ?_
      refine lv_iconst (v := zI 2) hx hb dL_does_30 rfl ?_
      refine gz_icmp_ne (tgt := 43) hx hb (by decide) (by decide) dL_does_31 (by decide) (fun c_31 => ?_) (fun c_31 => ?_)
      · refine lv_iload_n hx hb dL_does_43 rfl (lv_at hl 1 rfl) ?_
        refine lv_iconst (v := zI 3) hx hb dL_does_44 rfl ?_
        refine gz_icmp_ne (tgt := 56) hx hb (by decide) (by decide) dL_does_45 (by decide) (fun c_45 => ?_) (fun c_45 => ?_)
        · refine lv_iload_n hx hb dL_does_56 rfl (lv_at hl 1 rfl) ?_
          refine lv_iconst (v := zI 4) hx hb dL_does_57 rfl ?_
          refine gz_icmp_ne (tgt := 69) hx hb (by decide) (by decide) dL_does_58 (by decide) (fun c_58 => ?_) (fun c_58 => ?_)
          · refine lv_iload_n hx hb dL_does_69 rfl (lv_at hl 1 rfl) ?_
            refine lv_iconst (v := zI 5) hx hb dL_does_70 rfl ?_
            refine gz_icmp_ne (tgt := 83) hx hb (by decide) (by decide) dL_does_71 (by decide) (fun c_71 => ?_) (fun c_71 => ?_)
            · refine lv_iload_n hx hb dL_does_83 rfl (lv_at hl 1 rfl) ?_
              refine lv_bipush (v := zI 6) hx hb dL_does_84 (by decide +kernel) ?_
              refine gz_icmp_ne (tgt := 98) hx hb (by decide) (by decide) dL_does_86 (by decide) (fun c_86 => ?_) (fun c_86 => ?_)
              · refine lv_aload_n hx hb dL_does_98 rfl (lv_at hl 0 rfl) ?_
                refine lv_iload_n hx hb dL_does_99 rfl (lv_at hl 2 rfl) ?_
                refine g_go (vx_runV (As := [.int (zI zs)]) (rest := []) ⟨hx, hb, hml, hown, hts⟩ (x_places_e2 l G hlf A TA S W9 H hC hI zs hz h14 hno) (cwV 1 hts gL_does_X4_places rfl rfl rfl hd_X4_places ⟨(Nat.le_of_ble_eq_true rfl), (Nat.le_of_ble_eq_true rfl)⟩) (g_preV hX hS (ci := 4) rfl hC.1) rfl rfl hl.1 rfl (lv_room (Nat.le_of_ble_eq_true rfl)) dL_does_100 ⟨(Nat.le_of_ble_eq_true rfl), (Nat.le_of_ble_eq_true rfl)⟩) hS (fun E ce q9 H_100 locs hp hS hce hcv hcl => ?_) (fun v H1 locs h hS => h.elim)
                obtain ⟨rfl, hE9⟩ := hp
                have hDX := DX.ext hC hE9
                refine g_catch hX hown [⟨0, 103, 104, 40⟩, ⟨0, 103, 109, 43⟩] ⟨0, 103, 114, 45⟩ [] hxt (List.forall_mem_cons.mpr ⟨⟨by decide, "java/lang/IndexOutOfBoundsException", (hts (.classLink RL 40 "java/lang/IndexOutOfBoundsException") (List.mem_cons_of_mem _ (List.mem_append_left _ (List.mem_append_left _ (List.mem_append_left _ (List.mem_append_left _ (List.mem_append_left _ (List.mem_append_left _ (List.mem_append_left _ (List.mem_append_left _ (List.mem_of_getElem? (i := 0) rfl))))))))))), by decide +kernel, by decide +kernel⟩, (List.forall_mem_cons.mpr ⟨⟨by decide, "java/lang/IllegalArgumentException", (hts (.classLink RL 43 "java/lang/IllegalArgumentException") (List.mem_cons_of_mem _ (List.mem_append_left _ (List.mem_append_left _ (List.mem_append_left _ (List.mem_append_left _ (List.mem_append_left _ (List.mem_append_left _ (List.mem_append_left _ (List.mem_append_left _ (List.mem_of_getElem? (i := 1) rfl))))))))))), by decide +kernel, by decide +kernel⟩, (fun _ h => absurd h List.not_mem_nil)⟩)⟩) (by decide +kernel) rfl (by decide) (hts (.classLink RL 45 "java/lang/IllegalStateException") (List.mem_cons_of_mem _ (List.mem_append_left _ (List.mem_append_left _ (List.mem_append_left _ (List.mem_append_left _ (List.mem_append_left _ (List.mem_append_left _ (List.mem_append_left _ (List.mem_append_left _ (List.mem_of_getElem? (i := 2) rfl))))))))))) (by decide +kernel) hce hcv hcl ?_
                refine W.eq (g2 := F0 m 114 ls [.ref q9]) rfl ?_
                refine lv_astore (lv' := [(5, .ref q9), (0, .ref (A 0)), (1, .int (zI 7)), (2, .int (zI zs)), (3, .int (zI zu)), (4, .int (zI zv))]) hx hb dL_does_114 hl (by decide) rfl (fun ls hl => ?_)
                refine lv_ldc (v := -99999) hx hb hown (hts (.constant RL 42 (-99999)) (List.mem_cons_of_mem _ (List.mem_append_left _ (List.mem_append_left _ (List.mem_append_left _ (List.mem_append_left _ (List.mem_append_left _ (List.mem_append_left _ (List.mem_append_left _ (List.mem_append_left _ (List.mem_of_getElem? (i := 3) rfl))))))))))) dL_does_116 ?_
                rw [k_far]
                exact g_reti hx hb hr hlocks hS rfl (⟨rfl, hDX⟩) (Nat.le_of_ble_eq_true rfl) (Nat.le_of_ble_eq_true rfl) dL_does_118
              · omega
            · omega
          · omega
        · omega
      · omega
    · omega
  · omega
set_option maxHeartbeats 4000000 in
set_option maxRecDepth 100000 in
theorem d_correct_ok (l : Launch) (G : gG) (A : Nat → Nat) (TA : Nat → Nat → Nat) (S : cS) (W9 : cWk) (H : Heap) (hC : Cat G A TA S W9 H) (hI : sInv S) (z : Int) (i : Nat) (hz : z = i) (hi : i < sn S) (hk : srt S i = false) (z2 : Int) (p1 : Int) (l1 : Int) (hz20 : rI z2) (hp0 : rI p1) (hl0 : rI l1) (k : Nat) (hz2 : z2 = k) (hk2 : k < stn S i) (hN : isN p1 l1) : gM l yL_sets wsL_sets rm_L_sets [.ref (A 0), .int (zI 0), .int (zI z), .int (zI z2), .int (zI p1), .int (zI l1)] G H (gi (fun r H1 => zI (stp S i k) = r ∧ DX G A TA S (sCorr S i k p1 l1) H H1)) (gNo) 6 60 := by
  refine g_startW (cc := cL_sets) (maxL := 7) (ret := (some .int)) (hh := [(0, 25, 26, 40), (0, 25, 31, 43)]) (by decide +kernel) rfl (Nat.le_of_ble_eq_true rfl) ?_
  intro p e s m args below meth c F ls hl
  obtain ⟨hx, hb, hml, hr, hts, hown, hlocks, hxt, hH, hX, hin⟩ := F
  have hown : s.vm.findClass RL = some m.cls := hown
  have hS : va_S (gA G) s.heap H [] := by rw [hH]; exact va_S.rf
  have hl : lv_has ls 7 [(0, .ref (A 0)), (1, .int (zI 0)), (2, .int (zI z)), (3, .int (zI z2)), (4, .int (zI p1)), (5, .int (zI l1))] := hl
  refine lv_iload_n hx hb dL_sets_0 rfl (lv_at hl 1 rfl) ?_
  refine gz_if_ne (tgt := 17) hx hb (by decide) dL_sets_1 (by decide) (fun c_1 => ?_) (fun c_1 => ?_)
  · omega
  · refine lv_aload_n hx hb dL_sets_4 rfl (lv_at hl 0 rfl) ?_
    refine lv_iload_n hx hb dL_sets_5 rfl (lv_at hl 2 rfl) ?_
    refine lv_iload_n hx hb dL_sets_6 rfl (lv_at hl 3 rfl) ?_
    refine lv_iload hx hb dL_sets_7 (lv_at hl 4 rfl) ?_
    refine lv_iload hx hb dL_sets_9 (lv_at hl 5 rfl) ?_
    refine g_goi (vx_runV (As := [.int (zI z), .int (zI z2), .int (zI p1), .int (zI l1)]) (rest := []) ⟨hx, hb, hml, hown, hts⟩ (x_correct_ok l G A TA S W9 H hC hI z i hz hi hk z2 p1 l1 hz20 hp0 hl0 k hz2 hk2 hN) (cwV 4 hts gL_sets_X4_correct rfl rfl rfl hd_X4_correct ⟨(Nat.le_of_ble_eq_true rfl), (Nat.le_of_ble_eq_true rfl)⟩) (g_preV hX hS (ci := 4) rfl hC.1) rfl rfl hl.1 rfl (lv_room (Nat.le_of_ble_eq_true rfl)) dL_sets_11 ⟨(Nat.le_of_ble_eq_true rfl), (Nat.le_of_ble_eq_true rfl)⟩) hS (fun r_11 H_11 locs hp hS => ?_)
    obtain ⟨rfl, hxp⟩ := hp
    have hDX := DX.xp hxp rfl
    refine lv_goto (tgt := 25) hx hb dL_sets_14 (by decide) ?_
    exact g_reti hx hb hr hlocks hS rfl (⟨rfl, hDX⟩) (Nat.le_of_ble_eq_true rfl) (Nat.le_of_ble_eq_true rfl) dL_sets_25
set_option maxHeartbeats 4000000 in
set_option maxRecDepth 100000 in
theorem d_correct_e1 (l : Launch) (G : gG) (hlf : l.stackTraces = false) (A : Nat → Nat) (TA : Nat → Nat → Nat) (S : cS) (W9 : cWk) (H : Heap) (hC : Cat G A TA S W9 H) (hI : sInv S) (z : Int) (hz : rI z) (hi : ¬ kwn S z) (z2 : Int) (p1 : Int) (l1 : Int) : gM l yL_sets wsL_sets rm_L_sets [.ref (A 0), .int (zI 0), .int (zI z), .int (zI z2), .int (zI p1), .int (zI l1)] G H (gi (fun r H1 => zI xE = r ∧ DX G A TA S S H H1)) (gNo) 6 60 := by
  refine g_startW (cc := cL_sets) (maxL := 7) (ret := (some .int)) (hh := [(0, 25, 26, 40), (0, 25, 31, 43)]) (by decide +kernel) rfl (Nat.le_of_ble_eq_true rfl) ?_
  intro p e s m args below meth c F ls hl
  obtain ⟨hx, hb, hml, hr, hts, hown, hlocks, hxt, hH, hX, hin⟩ := F
  have hown : s.vm.findClass RL = some m.cls := hown
  have hS : va_S (gA G) s.heap H [] := by rw [hH]; exact va_S.rf
  have hl : lv_has ls 7 [(0, .ref (A 0)), (1, .int (zI 0)), (2, .int (zI z)), (3, .int (zI z2)), (4, .int (zI p1)), (5, .int (zI l1))] := hl
  refine lv_iload_n hx hb dL_sets_0 rfl (lv_at hl 1 rfl) ?_
  refine gz_if_ne (tgt := 17) hx hb (by decide) dL_sets_1 (by decide) (fun c_1 => ?_) (fun c_1 => ?_)
  · omega
  · refine lv_aload_n hx hb dL_sets_4 rfl (lv_at hl 0 rfl) ?_
    refine lv_iload_n hx hb dL_sets_5 rfl (lv_at hl 2 rfl) ?_
    refine lv_iload_n hx hb dL_sets_6 rfl (lv_at hl 3 rfl) ?_
    refine lv_iload hx hb dL_sets_7 (lv_at hl 4 rfl) ?_
    refine lv_iload hx hb dL_sets_9 (lv_at hl 5 rfl) ?_
    refine g_go (vx_runV (As := [.int (zI z), .int (zI z2), .int (zI p1), .int (zI l1)]) (rest := []) ⟨hx, hb, hml, hown, hts⟩ (x_correct_e1 l G hlf A TA S W9 H hC hI z hz hi z2 p1 l1) (cwV 4 hts gL_sets_X4_correct rfl rfl rfl hd_X4_correct ⟨(Nat.le_of_ble_eq_true rfl), (Nat.le_of_ble_eq_true rfl)⟩) (g_preV hX hS (ci := 4) rfl hC.1) rfl rfl hl.1 rfl (lv_room (Nat.le_of_ble_eq_true rfl)) dL_sets_11 ⟨(Nat.le_of_ble_eq_true rfl), (Nat.le_of_ble_eq_true rfl)⟩) hS (fun E ce q9 H_11 locs hp hS hce hcv hcl => ?_) (fun v H1 locs h hS => h.elim)
    obtain ⟨rfl, hE9⟩ := hp
    have hDX := DX.ext hC hE9
    refine g_catch hX hown [] ⟨0, 25, 26, 40⟩ [⟨0, 25, 31, 43⟩] hxt (fun _ h => absurd h List.not_mem_nil) (by decide +kernel) rfl (by decide) (hts (.classLink RL 40 "java/lang/IndexOutOfBoundsException") (List.mem_cons_of_mem _ (List.mem_append_left _ (List.mem_append_left _ (List.mem_append_left _ (List.mem_append_left _ (List.mem_append_left _ (List.mem_append_left _ (List.mem_append_left _ (List.mem_of_getElem? (i := 0) rfl)))))))))) (by decide +kernel) hce hcv hcl ?_
    refine W.eq (g2 := F0 m 26 ls [.ref q9]) rfl ?_
    refine lv_astore (lv' := [(6, .ref q9), (0, .ref (A 0)), (1, .int (zI 0)), (2, .int (zI z)), (3, .int (zI z2)), (4, .int (zI p1)), (5, .int (zI l1))]) hx hb dL_sets_26 hl (by decide) rfl (fun ls hl => ?_)
    refine lv_ldc (v := -99999) hx hb hown (hts (.constant RL 42 (-99999)) (List.mem_cons_of_mem _ (List.mem_append_left _ (List.mem_append_left _ (List.mem_append_left _ (List.mem_append_left _ (List.mem_append_left _ (List.mem_append_left _ (List.mem_append_left _ (List.mem_of_getElem? (i := 2) rfl)))))))))) dL_sets_28 ?_
    rw [k_far]
    exact g_reti hx hb hr hlocks hS rfl (⟨rfl, hDX⟩) (Nat.le_of_ble_eq_true rfl) (Nat.le_of_ble_eq_true rfl) dL_sets_30
set_option maxHeartbeats 4000000 in
set_option maxRecDepth 100000 in
theorem d_correct_e2 (l : Launch) (G : gG) (hlf : l.stackTraces = false) (A : Nat → Nat) (TA : Nat → Nat → Nat) (S : cS) (W9 : cWk) (H : Heap) (hC : Cat G A TA S W9 H) (hI : sInv S) (z : Int) (i : Nat) (hz : z = i) (hi : i < sn S) (hk : srt S i = false) (z2 : Int) (p1 : Int) (l1 : Int) (hz20 : rI z2) (hp0 : rI p1) (hl0 : rI l1) (hk2 : ¬ (0 ≤ z2 ∧ z2 < stn S i)) : gM l yL_sets wsL_sets rm_L_sets [.ref (A 0), .int (zI 0), .int (zI z), .int (zI z2), .int (zI p1), .int (zI l1)] G H (gi (fun r H1 => zI xE = r ∧ DX G A TA S S H H1)) (gNo) 6 60 := by
  refine g_startW (cc := cL_sets) (maxL := 7) (ret := (some .int)) (hh := [(0, 25, 26, 40), (0, 25, 31, 43)]) (by decide +kernel) rfl (Nat.le_of_ble_eq_true rfl) ?_
  intro p e s m args below meth c F ls hl
  obtain ⟨hx, hb, hml, hr, hts, hown, hlocks, hxt, hH, hX, hin⟩ := F
  have hown : s.vm.findClass RL = some m.cls := hown
  have hS : va_S (gA G) s.heap H [] := by rw [hH]; exact va_S.rf
  have hl : lv_has ls 7 [(0, .ref (A 0)), (1, .int (zI 0)), (2, .int (zI z)), (3, .int (zI z2)), (4, .int (zI p1)), (5, .int (zI l1))] := hl
  refine lv_iload_n hx hb dL_sets_0 rfl (lv_at hl 1 rfl) ?_
  refine gz_if_ne (tgt := 17) hx hb (by decide) dL_sets_1 (by decide) (fun c_1 => ?_) (fun c_1 => ?_)
  · omega
  · refine lv_aload_n hx hb dL_sets_4 rfl (lv_at hl 0 rfl) ?_
    refine lv_iload_n hx hb dL_sets_5 rfl (lv_at hl 2 rfl) ?_
    refine lv_iload_n hx hb dL_sets_6 rfl (lv_at hl 3 rfl) ?_
    refine lv_iload hx hb dL_sets_7 (lv_at hl 4 rfl) ?_
    refine lv_iload hx hb dL_sets_9 (lv_at hl 5 rfl) ?_
    refine g_go (vx_runV (As := [.int (zI z), .int (zI z2), .int (zI p1), .int (zI l1)]) (rest := []) ⟨hx, hb, hml, hown, hts⟩ (x_correct_e2 l G hlf A TA S W9 H hC hI z i hz hi hk z2 p1 l1 hz20 hp0 hl0 hk2) (cwV 4 hts gL_sets_X4_correct rfl rfl rfl hd_X4_correct ⟨(Nat.le_of_ble_eq_true rfl), (Nat.le_of_ble_eq_true rfl)⟩) (g_preV hX hS (ci := 4) rfl hC.1) rfl rfl hl.1 rfl (lv_room (Nat.le_of_ble_eq_true rfl)) dL_sets_11 ⟨(Nat.le_of_ble_eq_true rfl), (Nat.le_of_ble_eq_true rfl)⟩) hS (fun E ce q9 H_11 locs hp hS hce hcv hcl => ?_) (fun v H1 locs h hS => h.elim)
    obtain ⟨rfl, hE9⟩ := hp
    have hDX := DX.ext hC hE9
    refine g_catch hX hown [] ⟨0, 25, 26, 40⟩ [⟨0, 25, 31, 43⟩] hxt (fun _ h => absurd h List.not_mem_nil) (by decide +kernel) rfl (by decide) (hts (.classLink RL 40 "java/lang/IndexOutOfBoundsException") (List.mem_cons_of_mem _ (List.mem_append_left _ (List.mem_append_left _ (List.mem_append_left _ (List.mem_append_left _ (List.mem_append_left _ (List.mem_append_left _ (List.mem_append_left _ (List.mem_of_getElem? (i := 0) rfl)))))))))) (by decide +kernel) hce hcv hcl ?_
    refine W.eq (g2 := F0 m 26 ls [.ref q9]) rfl ?_
    refine lv_astore (lv' := [(6, .ref q9), (0, .ref (A 0)), (1, .int (zI 0)), (2, .int (zI z)), (3, .int (zI z2)), (4, .int (zI p1)), (5, .int (zI l1))]) hx hb dL_sets_26 hl (by decide) rfl (fun ls hl => ?_)
    refine lv_ldc (v := -99999) hx hb hown (hts (.constant RL 42 (-99999)) (List.mem_cons_of_mem _ (List.mem_append_left _ (List.mem_append_left _ (List.mem_append_left _ (List.mem_append_left _ (List.mem_append_left _ (List.mem_append_left _ (List.mem_append_left _ (List.mem_of_getElem? (i := 2) rfl)))))))))) dL_sets_28 ?_
    rw [k_far]
    exact g_reti hx hb hr hlocks hS rfl (⟨rfl, hDX⟩) (Nat.le_of_ble_eq_true rfl) (Nat.le_of_ble_eq_true rfl) dL_sets_30
set_option maxHeartbeats 4000000 in
set_option maxRecDepth 100000 in
theorem d_correct_e3 (l : Launch) (G : gG) (hlf : l.stackTraces = false) (A : Nat → Nat) (TA : Nat → Nat → Nat) (S : cS) (W9 : cWk) (H : Heap) (hC : Cat G A TA S W9 H) (hI : sInv S) (z : Int) (i : Nat) (hz : z = i) (hi : i < sn S) (hk : srt S i = false) (z2 : Int) (p1 : Int) (l1 : Int) (hz20 : rI z2) (hp0 : rI p1) (hl0 : rI l1) (hk2 : 0 ≤ z2 ∧ z2 < stn S i) (hN : ¬ isN p1 l1) : gM l yL_sets wsL_sets rm_L_sets [.ref (A 0), .int (zI 0), .int (zI z), .int (zI z2), .int (zI p1), .int (zI l1)] G H (gi (fun r H1 => zI xE = r ∧ DX G A TA S S H H1)) (gNo) 6 60 := by
  refine g_startW (cc := cL_sets) (maxL := 7) (ret := (some .int)) (hh := [(0, 25, 26, 40), (0, 25, 31, 43)]) (by decide +kernel) rfl (Nat.le_of_ble_eq_true rfl) ?_
  intro p e s m args below meth c F ls hl
  obtain ⟨hx, hb, hml, hr, hts, hown, hlocks, hxt, hH, hX, hin⟩ := F
  have hown : s.vm.findClass RL = some m.cls := hown
  have hS : va_S (gA G) s.heap H [] := by rw [hH]; exact va_S.rf
  have hl : lv_has ls 7 [(0, .ref (A 0)), (1, .int (zI 0)), (2, .int (zI z)), (3, .int (zI z2)), (4, .int (zI p1)), (5, .int (zI l1))] := hl
  refine lv_iload_n hx hb dL_sets_0 rfl (lv_at hl 1 rfl) ?_
  refine gz_if_ne (tgt := 17) hx hb (by decide) dL_sets_1 (by decide) (fun c_1 => ?_) (fun c_1 => ?_)
  · omega
  · refine lv_aload_n hx hb dL_sets_4 rfl (lv_at hl 0 rfl) ?_
    refine lv_iload_n hx hb dL_sets_5 rfl (lv_at hl 2 rfl) ?_
    refine lv_iload_n hx hb dL_sets_6 rfl (lv_at hl 3 rfl) ?_
    refine lv_iload hx hb dL_sets_7 (lv_at hl 4 rfl) ?_
    refine lv_iload hx hb dL_sets_9 (lv_at hl 5 rfl) ?_
    refine g_go (vx_runV (As := [.int (zI z), .int (zI z2), .int (zI p1), .int (zI l1)]) (rest := []) ⟨hx, hb, hml, hown, hts⟩ (x_correct_e3 l G hlf A TA S W9 H hC hI z i hz hi hk z2 p1 l1 hz20 hp0 hl0 hk2 hN) (cwV 4 hts gL_sets_X4_correct rfl rfl rfl hd_X4_correct ⟨(Nat.le_of_ble_eq_true rfl), (Nat.le_of_ble_eq_true rfl)⟩) (g_preV hX hS (ci := 4) rfl hC.1) rfl rfl hl.1 rfl (lv_room (Nat.le_of_ble_eq_true rfl)) dL_sets_11 ⟨(Nat.le_of_ble_eq_true rfl), (Nat.le_of_ble_eq_true rfl)⟩) hS (fun E ce q9 H_11 locs hp hS hce hcv hcl => ?_) (fun v H1 locs h hS => h.elim)
    obtain ⟨rfl, hE9⟩ := hp
    have hDX := DX.ext hC hE9
    refine g_catch hX hown [⟨0, 25, 26, 40⟩] ⟨0, 25, 31, 43⟩ [] hxt (List.forall_mem_cons.mpr ⟨⟨by decide, "java/lang/IndexOutOfBoundsException", (hts (.classLink RL 40 "java/lang/IndexOutOfBoundsException") (List.mem_cons_of_mem _ (List.mem_append_left _ (List.mem_append_left _ (List.mem_append_left _ (List.mem_append_left _ (List.mem_append_left _ (List.mem_append_left _ (List.mem_append_left _ (List.mem_of_getElem? (i := 0) rfl)))))))))), by decide +kernel, by decide +kernel⟩, (fun _ h => absurd h List.not_mem_nil)⟩) (by decide +kernel) rfl (by decide) (hts (.classLink RL 43 "java/lang/IllegalArgumentException") (List.mem_cons_of_mem _ (List.mem_append_left _ (List.mem_append_left _ (List.mem_append_left _ (List.mem_append_left _ (List.mem_append_left _ (List.mem_append_left _ (List.mem_append_left _ (List.mem_of_getElem? (i := 1) rfl)))))))))) (by decide +kernel) hce hcv hcl ?_
    refine W.eq (g2 := F0 m 31 ls [.ref q9]) rfl ?_
    refine lv_astore (lv' := [(6, .ref q9), (0, .ref (A 0)), (1, .int (zI 0)), (2, .int (zI z)), (3, .int (zI z2)), (4, .int (zI p1)), (5, .int (zI l1))]) hx hb dL_sets_31 hl (by decide) rfl (fun ls hl => ?_)
    refine lv_ldc (v := -99999) hx hb hown (hts (.constant RL 42 (-99999)) (List.mem_cons_of_mem _ (List.mem_append_left _ (List.mem_append_left _ (List.mem_append_left _ (List.mem_append_left _ (List.mem_append_left _ (List.mem_append_left _ (List.mem_append_left _ (List.mem_of_getElem? (i := 2) rfl)))))))))) dL_sets_33 ?_
    rw [k_far]
    exact g_reti hx hb hr hlocks hS rfl (⟨rfl, hDX⟩) (Nat.le_of_ble_eq_true rfl) (Nat.le_of_ble_eq_true rfl) dL_sets_35
set_option maxHeartbeats 4000000 in
set_option maxRecDepth 100000 in
theorem d_setCosts_ok (l : Launch) (G : gG) (A : Nat → Nat) (TA : Nat → Nat → Nat) (S : cS) (W9 : cWk) (H : Heap) (hC : Cat G A TA S W9 H) (hI : sInv S) (c1 : Int) (c2 : Int) (c3 : Int) (hc1 : rI c1) (hc2 : rI c2) (hc3 : rI c3) (h : (0 ≤ c1 ∧ c1 ≤ 20) ∧ (0 ≤ c2 ∧ c2 ≤ 20) ∧ 0 ≤ c3 ∧ c3 ≤ 20) (zu : Int) : gM l yL_sets wsL_sets rm_L_sets [.ref (A 0), .int (zI 1), .int (zI c1), .int (zI c2), .int (zI c3), .int (zI zu)] G H (gi (fun r H1 => zI 0 = r ∧ DX G A TA S (sCost S c1 c2 c3) H H1)) (gNo) 6 60 := by
  refine g_startW (cc := cL_sets) (maxL := 7) (ret := (some .int)) (hh := [(0, 25, 26, 40), (0, 25, 31, 43)]) (by decide +kernel) rfl (Nat.le_of_ble_eq_true rfl) ?_
  intro p e s m args below meth c F ls hl
  obtain ⟨hx, hb, hml, hr, hts, hown, hlocks, hxt, hH, hX, hin⟩ := F
  have hown : s.vm.findClass RL = some m.cls := hown
  have hS : va_S (gA G) s.heap H [] := by rw [hH]; exact va_S.rf
  have hl : lv_has ls 7 [(0, .ref (A 0)), (1, .int (zI 1)), (2, .int (zI c1)), (3, .int (zI c2)), (4, .int (zI c3)), (5, .int (zI zu))] := hl
  refine lv_iload_n hx hb dL_sets_0 rfl (lv_at hl 1 rfl) ?_
  refine gz_if_ne (tgt := 17) hx hb (by decide) dL_sets_1 (by decide) (fun c_1 => ?_) (fun c_1 => ?_)
  · refine lv_aload_n hx hb dL_sets_17 rfl (lv_at hl 0 rfl) ?_
    refine lv_iload_n hx hb dL_sets_18 rfl (lv_at hl 2 rfl) ?_
    refine lv_iload_n hx hb dL_sets_19 rfl (lv_at hl 3 rfl) ?_
    refine lv_iload hx hb dL_sets_20 (lv_at hl 4 rfl) ?_
    refine g_goi (vx_runS (As := [.ref (A 0), .int (zI c1), .int (zI c2), .int (zI c3)]) (rest := []) ⟨hx, hb, hml, hown, hts⟩ (y_setCosts_ok l G A TA S W9 H hC hI c1 c2 c3 hc1 hc2 hc3 h) (va_cwS 4 hts gL_sets_L_costs rfl rfl rfl hd_L_costs.2 ⟨(Nat.le_of_ble_eq_true rfl), (Nat.le_of_ble_eq_true rfl)⟩) (g_pre hX hS) rfl rfl hl.1 rfl (lv_room (Nat.le_of_ble_eq_true rfl)) dL_sets_22 ⟨(Nat.le_of_ble_eq_true rfl), (Nat.le_of_ble_eq_true rfl)⟩) hS (fun r_22 H_22 locs hp hS => ?_)
    obtain ⟨rfl, hDX⟩ := hp
    exact g_reti hx hb hr hlocks hS rfl (⟨rfl, hDX⟩) (Nat.le_of_ble_eq_true rfl) (Nat.le_of_ble_eq_true rfl) dL_sets_25
  · omega
set_option maxHeartbeats 4000000 in
set_option maxRecDepth 100000 in
theorem d_setCosts_e1 (l : Launch) (G : gG) (hlf : l.stackTraces = false) (A : Nat → Nat) (TA : Nat → Nat → Nat) (S : cS) (W9 : cWk) (H : Heap) (hC : Cat G A TA S W9 H) (hI : sInv S) (c1 : Int) (c2 : Int) (c3 : Int) (hc1 : rI c1) (hc2 : rI c2) (hc3 : rI c3) (h : ¬ (0 ≤ c1 ∧ c1 ≤ 20)) (zu : Int) : gM l yL_sets wsL_sets rm_L_sets [.ref (A 0), .int (zI 1), .int (zI c1), .int (zI c2), .int (zI c3), .int (zI zu)] G H (gi (fun r H1 => zI xE = r ∧ DX G A TA S S H H1)) (gNo) 6 60 := by
  refine g_startW (cc := cL_sets) (maxL := 7) (ret := (some .int)) (hh := [(0, 25, 26, 40), (0, 25, 31, 43)]) (by decide +kernel) rfl (Nat.le_of_ble_eq_true rfl) ?_
  intro p e s m args below meth c F ls hl
  obtain ⟨hx, hb, hml, hr, hts, hown, hlocks, hxt, hH, hX, hin⟩ := F
  have hown : s.vm.findClass RL = some m.cls := hown
  have hS : va_S (gA G) s.heap H [] := by rw [hH]; exact va_S.rf
  have hl : lv_has ls 7 [(0, .ref (A 0)), (1, .int (zI 1)), (2, .int (zI c1)), (3, .int (zI c2)), (4, .int (zI c3)), (5, .int (zI zu))] := hl
  refine lv_iload_n hx hb dL_sets_0 rfl (lv_at hl 1 rfl) ?_
  refine gz_if_ne (tgt := 17) hx hb (by decide) dL_sets_1 (by decide) (fun c_1 => ?_) (fun c_1 => ?_)
  · refine lv_aload_n hx hb dL_sets_17 rfl (lv_at hl 0 rfl) ?_
    refine lv_iload_n hx hb dL_sets_18 rfl (lv_at hl 2 rfl) ?_
    refine lv_iload_n hx hb dL_sets_19 rfl (lv_at hl 3 rfl) ?_
    refine lv_iload hx hb dL_sets_20 (lv_at hl 4 rfl) ?_
    refine g_go (vx_runS (As := [.ref (A 0), .int (zI c1), .int (zI c2), .int (zI c3)]) (rest := []) ⟨hx, hb, hml, hown, hts⟩ (y_setCosts_e1 l G hlf A TA S W9 H hC hI c1 c2 c3 hc1 hc2 hc3 h) (va_cwS 4 hts gL_sets_L_costs rfl rfl rfl hd_L_costs.2 ⟨(Nat.le_of_ble_eq_true rfl), (Nat.le_of_ble_eq_true rfl)⟩) (g_pre hX hS) rfl rfl hl.1 rfl (lv_room (Nat.le_of_ble_eq_true rfl)) dL_sets_22 ⟨(Nat.le_of_ble_eq_true rfl), (Nat.le_of_ble_eq_true rfl)⟩) hS (fun E ce q9 H_22 locs hp hS hce hcv hcl => ?_) (fun v H1 locs h hS => h.elim)
    obtain ⟨rfl, hE9⟩ := hp
    have hDX := DX.ext hC hE9
    refine g_catch hX hown [⟨0, 25, 26, 40⟩] ⟨0, 25, 31, 43⟩ [] hxt (List.forall_mem_cons.mpr ⟨⟨by decide, "java/lang/IndexOutOfBoundsException", (hts (.classLink RL 40 "java/lang/IndexOutOfBoundsException") (List.mem_cons_of_mem _ (List.mem_append_left _ (List.mem_append_left _ (List.mem_append_left _ (List.mem_append_left _ (List.mem_append_left _ (List.mem_append_left _ (List.mem_append_left _ (List.mem_of_getElem? (i := 0) rfl)))))))))), by decide +kernel, by decide +kernel⟩, (fun _ h => absurd h List.not_mem_nil)⟩) (by decide +kernel) rfl (by decide) (hts (.classLink RL 43 "java/lang/IllegalArgumentException") (List.mem_cons_of_mem _ (List.mem_append_left _ (List.mem_append_left _ (List.mem_append_left _ (List.mem_append_left _ (List.mem_append_left _ (List.mem_append_left _ (List.mem_append_left _ (List.mem_of_getElem? (i := 1) rfl)))))))))) (by decide +kernel) hce hcv hcl ?_
    refine W.eq (g2 := F0 m 31 ls [.ref q9]) rfl ?_
    refine lv_astore (lv' := [(6, .ref q9), (0, .ref (A 0)), (1, .int (zI 1)), (2, .int (zI c1)), (3, .int (zI c2)), (4, .int (zI c3)), (5, .int (zI zu))]) hx hb dL_sets_31 hl (by decide) rfl (fun ls hl => ?_)
    refine lv_ldc (v := -99999) hx hb hown (hts (.constant RL 42 (-99999)) (List.mem_cons_of_mem _ (List.mem_append_left _ (List.mem_append_left _ (List.mem_append_left _ (List.mem_append_left _ (List.mem_append_left _ (List.mem_append_left _ (List.mem_append_left _ (List.mem_of_getElem? (i := 2) rfl)))))))))) dL_sets_33 ?_
    rw [k_far]
    exact g_reti hx hb hr hlocks hS rfl (⟨rfl, hDX⟩) (Nat.le_of_ble_eq_true rfl) (Nat.le_of_ble_eq_true rfl) dL_sets_35
  · omega
set_option maxHeartbeats 4000000 in
set_option maxRecDepth 100000 in
theorem d_setCosts_e2 (l : Launch) (G : gG) (hlf : l.stackTraces = false) (A : Nat → Nat) (TA : Nat → Nat → Nat) (S : cS) (W9 : cWk) (H : Heap) (hC : Cat G A TA S W9 H) (hI : sInv S) (c1 : Int) (c2 : Int) (c3 : Int) (hc1 : rI c1) (hc2 : rI c2) (hc3 : rI c3) (h1c : 0 ≤ c1 ∧ c1 ≤ 20) (h : ¬ (0 ≤ c2 ∧ c2 ≤ 20)) (zu : Int) : gM l yL_sets wsL_sets rm_L_sets [.ref (A 0), .int (zI 1), .int (zI c1), .int (zI c2), .int (zI c3), .int (zI zu)] G H (gi (fun r H1 => zI xE = r ∧ DX G A TA S S H H1)) (gNo) 6 60 := by
  refine g_startW (cc := cL_sets) (maxL := 7) (ret := (some .int)) (hh := [(0, 25, 26, 40), (0, 25, 31, 43)]) (by decide +kernel) rfl (Nat.le_of_ble_eq_true rfl) ?_
  intro p e s m args below meth c F ls hl
  obtain ⟨hx, hb, hml, hr, hts, hown, hlocks, hxt, hH, hX, hin⟩ := F
  have hown : s.vm.findClass RL = some m.cls := hown
  have hS : va_S (gA G) s.heap H [] := by rw [hH]; exact va_S.rf
  have hl : lv_has ls 7 [(0, .ref (A 0)), (1, .int (zI 1)), (2, .int (zI c1)), (3, .int (zI c2)), (4, .int (zI c3)), (5, .int (zI zu))] := hl
  refine lv_iload_n hx hb dL_sets_0 rfl (lv_at hl 1 rfl) ?_
  refine gz_if_ne (tgt := 17) hx hb (by decide) dL_sets_1 (by decide) (fun c_1 => ?_) (fun c_1 => ?_)
  · refine lv_aload_n hx hb dL_sets_17 rfl (lv_at hl 0 rfl) ?_
    refine lv_iload_n hx hb dL_sets_18 rfl (lv_at hl 2 rfl) ?_
    refine lv_iload_n hx hb dL_sets_19 rfl (lv_at hl 3 rfl) ?_
    refine lv_iload hx hb dL_sets_20 (lv_at hl 4 rfl) ?_
    refine g_go (vx_runS (As := [.ref (A 0), .int (zI c1), .int (zI c2), .int (zI c3)]) (rest := []) ⟨hx, hb, hml, hown, hts⟩ (y_setCosts_e2 l G hlf A TA S W9 H hC hI c1 c2 c3 hc1 hc2 hc3 h1c h) (va_cwS 4 hts gL_sets_L_costs rfl rfl rfl hd_L_costs.2 ⟨(Nat.le_of_ble_eq_true rfl), (Nat.le_of_ble_eq_true rfl)⟩) (g_pre hX hS) rfl rfl hl.1 rfl (lv_room (Nat.le_of_ble_eq_true rfl)) dL_sets_22 ⟨(Nat.le_of_ble_eq_true rfl), (Nat.le_of_ble_eq_true rfl)⟩) hS (fun E ce q9 H_22 locs hp hS hce hcv hcl => ?_) (fun v H1 locs h hS => h.elim)
    obtain ⟨rfl, hE9⟩ := hp
    have hDX := DX.ext hC hE9
    refine g_catch hX hown [⟨0, 25, 26, 40⟩] ⟨0, 25, 31, 43⟩ [] hxt (List.forall_mem_cons.mpr ⟨⟨by decide, "java/lang/IndexOutOfBoundsException", (hts (.classLink RL 40 "java/lang/IndexOutOfBoundsException") (List.mem_cons_of_mem _ (List.mem_append_left _ (List.mem_append_left _ (List.mem_append_left _ (List.mem_append_left _ (List.mem_append_left _ (List.mem_append_left _ (List.mem_append_left _ (List.mem_of_getElem? (i := 0) rfl)))))))))), by decide +kernel, by decide +kernel⟩, (fun _ h => absurd h List.not_mem_nil)⟩) (by decide +kernel) rfl (by decide) (hts (.classLink RL 43 "java/lang/IllegalArgumentException") (List.mem_cons_of_mem _ (List.mem_append_left _ (List.mem_append_left _ (List.mem_append_left _ (List.mem_append_left _ (List.mem_append_left _ (List.mem_append_left _ (List.mem_append_left _ (List.mem_of_getElem? (i := 1) rfl)))))))))) (by decide +kernel) hce hcv hcl ?_
    refine W.eq (g2 := F0 m 31 ls [.ref q9]) rfl ?_
    refine lv_astore (lv' := [(6, .ref q9), (0, .ref (A 0)), (1, .int (zI 1)), (2, .int (zI c1)), (3, .int (zI c2)), (4, .int (zI c3)), (5, .int (zI zu))]) hx hb dL_sets_31 hl (by decide) rfl (fun ls hl => ?_)
    refine lv_ldc (v := -99999) hx hb hown (hts (.constant RL 42 (-99999)) (List.mem_cons_of_mem _ (List.mem_append_left _ (List.mem_append_left _ (List.mem_append_left _ (List.mem_append_left _ (List.mem_append_left _ (List.mem_append_left _ (List.mem_append_left _ (List.mem_of_getElem? (i := 2) rfl)))))))))) dL_sets_33 ?_
    rw [k_far]
    exact g_reti hx hb hr hlocks hS rfl (⟨rfl, hDX⟩) (Nat.le_of_ble_eq_true rfl) (Nat.le_of_ble_eq_true rfl) dL_sets_35
  · omega
set_option maxHeartbeats 4000000 in
set_option maxRecDepth 100000 in
theorem d_setCosts_e3 (l : Launch) (G : gG) (hlf : l.stackTraces = false) (A : Nat → Nat) (TA : Nat → Nat → Nat) (S : cS) (W9 : cWk) (H : Heap) (hC : Cat G A TA S W9 H) (hI : sInv S) (c1 : Int) (c2 : Int) (c3 : Int) (hc1 : rI c1) (hc2 : rI c2) (hc3 : rI c3) (h1c : 0 ≤ c1 ∧ c1 ≤ 20) (h2c : 0 ≤ c2 ∧ c2 ≤ 20) (h : ¬ (0 ≤ c3 ∧ c3 ≤ 20)) (zu : Int) : gM l yL_sets wsL_sets rm_L_sets [.ref (A 0), .int (zI 1), .int (zI c1), .int (zI c2), .int (zI c3), .int (zI zu)] G H (gi (fun r H1 => zI xE = r ∧ DX G A TA S S H H1)) (gNo) 6 60 := by
  refine g_startW (cc := cL_sets) (maxL := 7) (ret := (some .int)) (hh := [(0, 25, 26, 40), (0, 25, 31, 43)]) (by decide +kernel) rfl (Nat.le_of_ble_eq_true rfl) ?_
  intro p e s m args below meth c F ls hl
  obtain ⟨hx, hb, hml, hr, hts, hown, hlocks, hxt, hH, hX, hin⟩ := F
  have hown : s.vm.findClass RL = some m.cls := hown
  have hS : va_S (gA G) s.heap H [] := by rw [hH]; exact va_S.rf
  have hl : lv_has ls 7 [(0, .ref (A 0)), (1, .int (zI 1)), (2, .int (zI c1)), (3, .int (zI c2)), (4, .int (zI c3)), (5, .int (zI zu))] := hl
  refine lv_iload_n hx hb dL_sets_0 rfl (lv_at hl 1 rfl) ?_
  refine gz_if_ne (tgt := 17) hx hb (by decide) dL_sets_1 (by decide) (fun c_1 => ?_) (fun c_1 => ?_)
  · refine lv_aload_n hx hb dL_sets_17 rfl (lv_at hl 0 rfl) ?_
    refine lv_iload_n hx hb dL_sets_18 rfl (lv_at hl 2 rfl) ?_
    refine lv_iload_n hx hb dL_sets_19 rfl (lv_at hl 3 rfl) ?_
    refine lv_iload hx hb dL_sets_20 (lv_at hl 4 rfl) ?_
    refine g_go (vx_runS (As := [.ref (A 0), .int (zI c1), .int (zI c2), .int (zI c3)]) (rest := []) ⟨hx, hb, hml, hown, hts⟩ (y_setCosts_e3 l G hlf A TA S W9 H hC hI c1 c2 c3 hc1 hc2 hc3 h1c h2c h) (va_cwS 4 hts gL_sets_L_costs rfl rfl rfl hd_L_costs.2 ⟨(Nat.le_of_ble_eq_true rfl), (Nat.le_of_ble_eq_true rfl)⟩) (g_pre hX hS) rfl rfl hl.1 rfl (lv_room (Nat.le_of_ble_eq_true rfl)) dL_sets_22 ⟨(Nat.le_of_ble_eq_true rfl), (Nat.le_of_ble_eq_true rfl)⟩) hS (fun E ce q9 H_22 locs hp hS hce hcv hcl => ?_) (fun v H1 locs h hS => h.elim)
    obtain ⟨rfl, hE9⟩ := hp
    have hDX := DX.ext hC hE9
    refine g_catch hX hown [⟨0, 25, 26, 40⟩] ⟨0, 25, 31, 43⟩ [] hxt (List.forall_mem_cons.mpr ⟨⟨by decide, "java/lang/IndexOutOfBoundsException", (hts (.classLink RL 40 "java/lang/IndexOutOfBoundsException") (List.mem_cons_of_mem _ (List.mem_append_left _ (List.mem_append_left _ (List.mem_append_left _ (List.mem_append_left _ (List.mem_append_left _ (List.mem_append_left _ (List.mem_append_left _ (List.mem_of_getElem? (i := 0) rfl)))))))))), by decide +kernel, by decide +kernel⟩, (fun _ h => absurd h List.not_mem_nil)⟩) (by decide +kernel) rfl (by decide) (hts (.classLink RL 43 "java/lang/IllegalArgumentException") (List.mem_cons_of_mem _ (List.mem_append_left _ (List.mem_append_left _ (List.mem_append_left _ (List.mem_append_left _ (List.mem_append_left _ (List.mem_append_left _ (List.mem_append_left _ (List.mem_of_getElem? (i := 1) rfl)))))))))) (by decide +kernel) hce hcv hcl ?_
    refine W.eq (g2 := F0 m 31 ls [.ref q9]) rfl ?_
    refine lv_astore (lv' := [(6, .ref q9), (0, .ref (A 0)), (1, .int (zI 1)), (2, .int (zI c1)), (3, .int (zI c2)), (4, .int (zI c3)), (5, .int (zI zu))]) hx hb dL_sets_31 hl (by decide) rfl (fun ls hl => ?_)
    refine lv_ldc (v := -99999) hx hb hown (hts (.constant RL 42 (-99999)) (List.mem_cons_of_mem _ (List.mem_append_left _ (List.mem_append_left _ (List.mem_append_left _ (List.mem_append_left _ (List.mem_append_left _ (List.mem_append_left _ (List.mem_append_left _ (List.mem_of_getElem? (i := 2) rfl)))))))))) dL_sets_33 ?_
    rw [k_far]
    exact g_reti hx hb hr hlocks hS rfl (⟨rfl, hDX⟩) (Nat.le_of_ble_eq_true rfl) (Nat.le_of_ble_eq_true rfl) dL_sets_35
  · omega
set_option maxHeartbeats 4000000 in
set_option maxRecDepth 100000 in
theorem d_cost_ok (l : Launch) (G : gG) (A : Nat → Nat) (TA : Nat → Nat → Nat) (S : cS) (W9 : cWk) (H : Heap) (hC : Cat G A TA S W9 H) (hI : sInv S) (z : Int) (i : Nat) (hz : z = i) (hi : i < sn S) (hk : srt S i = false) : gM l yL_cost wsL_cost rm_L_cost [.ref (A 0), .int (zI z)] G H (gi (fun r H1 => zI (costI (tX S i)) = r ∧ XP G A TA S S H H1)) (gNo) 6 60 := by
  refine g_startW (cc := cL_cost) (maxL := 3) (ret := (some .int)) (hh := [(0, 5, 6, 40)]) (by decide +kernel) rfl (Nat.le_of_ble_eq_true rfl) ?_
  intro p e s m args below meth c F ls hl
  obtain ⟨hx, hb, hml, hr, hts, hown, hlocks, hxt, hH, hX, hin⟩ := F
  have hown : s.vm.findClass RL = some m.cls := hown
  have hS : va_S (gA G) s.heap H [] := by rw [hH]; exact va_S.rf
  have hl : lv_has ls 3 [(0, .ref (A 0)), (1, .int (zI z))] := hl
  refine lv_aload_n hx hb dL_cost_0 rfl (lv_at hl 0 rfl) ?_
  refine lv_iload_n hx hb dL_cost_1 rfl (lv_at hl 1 rfl) ?_
  refine g_goi (vx_runV (As := [.int (zI z)]) (rest := []) ⟨hx, hb, hml, hown, hts⟩ (x_cost_ok l G A TA S W9 H hC hI z i hz hi hk) (cwV 1 hts gL_cost_X4_cost rfl rfl rfl hd_X4_cost ⟨(Nat.le_of_ble_eq_true rfl), (Nat.le_of_ble_eq_true rfl)⟩) (g_preV hX hS (ci := 4) rfl hC.1) rfl rfl hl.1 rfl (lv_room (Nat.le_of_ble_eq_true rfl)) dL_cost_2 ⟨(Nat.le_of_ble_eq_true rfl), (Nat.le_of_ble_eq_true rfl)⟩) hS (fun r_2 H_2 locs hp hS => ?_)
  obtain ⟨rfl, hxp⟩ := hp
  exact g_reti hx hb hr hlocks hS rfl (⟨rfl, hxp⟩) (Nat.le_of_ble_eq_true rfl) (Nat.le_of_ble_eq_true rfl) dL_cost_5
set_option maxHeartbeats 4000000 in
set_option maxRecDepth 100000 in
theorem d_cost_e1 (l : Launch) (G : gG) (hlf : l.stackTraces = false) (A : Nat → Nat) (TA : Nat → Nat → Nat) (S : cS) (W9 : cWk) (H : Heap) (hC : Cat G A TA S W9 H) (hI : sInv S) (z : Int) (hz : rI z) (hi : ¬ kwn S z) : gM l yL_cost wsL_cost rm_L_cost [.ref (A 0), .int (zI z)] G H (gi (fun r H1 => zI xE = r ∧ XP G A TA S S H H1)) (gNo) 6 60 := by
  refine g_startW (cc := cL_cost) (maxL := 3) (ret := (some .int)) (hh := [(0, 5, 6, 40)]) (by decide +kernel) rfl (Nat.le_of_ble_eq_true rfl) ?_
  intro p e s m args below meth c F ls hl
  obtain ⟨hx, hb, hml, hr, hts, hown, hlocks, hxt, hH, hX, hin⟩ := F
  have hown : s.vm.findClass RL = some m.cls := hown
  have hS : va_S (gA G) s.heap H [] := by rw [hH]; exact va_S.rf
  have hl : lv_has ls 3 [(0, .ref (A 0)), (1, .int (zI z))] := hl
  refine lv_aload_n hx hb dL_cost_0 rfl (lv_at hl 0 rfl) ?_
  refine lv_iload_n hx hb dL_cost_1 rfl (lv_at hl 1 rfl) ?_
  refine g_go (vx_runV (As := [.int (zI z)]) (rest := []) ⟨hx, hb, hml, hown, hts⟩ (x_cost_e1 l G hlf A TA S W9 H hC hI z hz hi) (cwV 1 hts gL_cost_X4_cost rfl rfl rfl hd_X4_cost ⟨(Nat.le_of_ble_eq_true rfl), (Nat.le_of_ble_eq_true rfl)⟩) (g_preV hX hS (ci := 4) rfl hC.1) rfl rfl hl.1 rfl (lv_room (Nat.le_of_ble_eq_true rfl)) dL_cost_2 ⟨(Nat.le_of_ble_eq_true rfl), (Nat.le_of_ble_eq_true rfl)⟩) hS (fun E ce q9 H_2 locs hp hS hce hcv hcl => ?_) (fun v H1 locs h hS => h.elim)
  obtain ⟨rfl, hE9⟩ := hp
  have hxp := XP.same hC hE9
  refine g_catch hX hown [] ⟨0, 5, 6, 40⟩ [] hxt (fun _ h => absurd h List.not_mem_nil) (by decide +kernel) rfl (by decide) (hts (.classLink RL 40 "java/lang/IndexOutOfBoundsException") (List.mem_cons_of_mem _ (List.mem_append_left _ (List.mem_append_left _ (List.mem_append_left _ (List.mem_append_left _ (List.mem_append_left _ (List.mem_append_left _ (List.mem_of_getElem? (i := 0) rfl))))))))) (by decide +kernel) hce hcv hcl ?_
  refine W.eq (g2 := F0 m 6 ls [.ref q9]) rfl ?_
  refine lv_astore_n (lv' := [(2, .ref q9), (0, .ref (A 0)), (1, .int (zI z))]) hx hb dL_cost_6 rfl hl (by decide) rfl (fun ls hl => ?_)
  refine lv_ldc (v := -99999) hx hb hown (hts (.constant RL 42 (-99999)) (List.mem_cons_of_mem _ (List.mem_append_left _ (List.mem_append_left _ (List.mem_append_left _ (List.mem_append_left _ (List.mem_append_left _ (List.mem_append_left _ (List.mem_of_getElem? (i := 1) rfl))))))))) dL_cost_7 ?_
  rw [k_far]
  exact g_reti hx hb hr hlocks hS rfl (⟨rfl, hxp⟩) (Nat.le_of_ble_eq_true rfl) (Nat.le_of_ble_eq_true rfl) dL_cost_9
