/-! ===== the law's own methods: each catches what its call throws ===== -/
set_option maxHeartbeats 4000000 in
set_option maxRecDepth 100000 in
theorem w_add_ok (l : Launch) (G : gG) (A : Nat → Nat) (TA : Nat → Nat → Nat) (S : cS) (W9 : cWk) (H : Heap) (hC : Cat G A TA S W9 H) (hI : sInv S) (p1 : Int) (l1 : Int) (hp0 : rI p1) (hl0 : rI l1) (hN : isN p1 l1) (h16 : sn S < 16) (o : Nat) (ho0 : LU G o H) (go : gB G ≤ o) (no : ¬ own A TA (sn S) o) : gM l yL_add wsL_add rm_L_add [.ref (A 0), .int (zI p1), .int (zI l1), .ref o] G H (gi (fun r H1 => zI 0 = r ∧ ∃ TA2, LX G A TA TA2 S (sAdd S p1 l1) o H H1 ∧ LO G o H1 (sn S : Int))) (gNo) 12 900 := by
  obtain ⟨fo, ho⟩ := ho0
  have hol := va_at.lt ho
  refine g_startW (cc := cL_add) (maxL := 5) (ret := (some .int)) (hh := [(0, 10, 13, 13), (0, 10, 17, 15)]) (by decide +kernel) rfl (Nat.le_of_ble_eq_true rfl) ?_
  intro p e s m args below meth c F ls hl
  obtain ⟨hx, hb, hml, hr, hts, hown, hlocks, hxt, hH, hX, hin⟩ := F
  have hown : s.vm.findClass RL = some m.cls := hown
  have hS : va_S (gA G) s.heap H [] := by rw [hH]; exact va_S.rf
  have hl : lv_has ls 5 [(0, .ref (A 0)), (1, .int (zI p1)), (2, .int (zI l1)), (3, .ref o)] := hl
  refine lv_aload_n hx hb dL_add_0 rfl (lv_at hl 3 rfl) ?_
  refine lv_iconst (v := zI 0) hx hb dL_add_1 rfl ?_
  refine lv_aload_n hx hb dL_add_2 rfl (lv_at hl 0 rfl) ?_
  refine lv_iload_n hx hb dL_add_3 rfl (lv_at hl 1 rfl) ?_
  refine lv_iload_n hx hb dL_add_4 rfl (lv_at hl 2 rfl) ?_
  refine g_goi (vx_runV (As := [.int (zI p1), .int (zI l1)]) (rest := [.int (zI 0), .ref o]) ⟨hx, hb, hml, hown, hts⟩ (x_add_ok l G A TA S W9 H hC hI p1 l1 hp0 hl0 hN h16) (cwV 2 hts gL_add_X4_add rfl rfl rfl hd_X4_add ⟨(Nat.le_of_ble_eq_true rfl), (Nat.le_of_ble_eq_true rfl)⟩) (g_preV hX hS (ci := 4) rfl hC.1) rfl rfl hl.1 rfl (lv_room (Nat.le_of_ble_eq_true rfl)) dL_add_5 ⟨(Nat.le_of_ble_eq_true rfl), (Nat.le_of_ble_eq_true rfl)⟩) hS (fun r_5 H_5 locs hp hS => ?_)
  obtain ⟨rfl, TA2, hc2, hkp, hta1, hta2⟩ := hp
  have hLX := LX.add o hc2 hkp hta1 hta2
  have ho := ho.kp hkp no
  refine lv_i2l hx hb dL_add_8 rfl ?_
  refine gz_last hx hb hX hS ho go 0 (by omega) (by omega) (by omega) dL_add_9 (fun H_9 locs h_n hO hS => ?_)
  have ho : gat G o (.inl (gJ G, 1, .inr (.inl (vp_updL fo 0 ((zI (sn S : Int)).toInt64))))) H_9 := h_n
  refine lv_goto (tgt := 21) hx hb dL_add_10 (by decide) ?_
  refine lv_iconst (v := zI 0) hx hb dL_add_21 rfl ?_
  exact g_reti hx hb hr hlocks hS rfl (⟨rfl, TA2, hLX.put hO hol no, ⟨_, ho, if_pos rfl⟩⟩) (Nat.le_of_ble_eq_true rfl) (Nat.le_of_ble_eq_true rfl) dL_add_22
set_option maxHeartbeats 4000000 in
set_option maxRecDepth 100000 in
theorem w_add_e1 (l : Launch) (G : gG) (hlf : l.stackTraces = false) (A : Nat → Nat) (TA : Nat → Nat → Nat) (S : cS) (W9 : cWk) (H : Heap) (hC : Cat G A TA S W9 H) (hI : sInv S) (p1 : Int) (l1 : Int) (hp0 : rI p1) (hl0 : rI l1) (hN : ¬ isN p1 l1) (o : Nat) (ho0 : LU G o H) (go : gB G ≤ o) (no : ¬ own A TA (sn S) o) : gM l yL_add wsL_add rm_L_add [.ref (A 0), .int (zI p1), .int (zI l1), .ref o] G H (gi (fun r H1 => zI 1 = r ∧ LX G A TA TA S S o H H1 ∧ LU G o H1)) (gNo) 12 900 := by
  obtain ⟨fo, ho⟩ := ho0
  have hol := va_at.lt ho
  refine g_startW (cc := cL_add) (maxL := 5) (ret := (some .int)) (hh := [(0, 10, 13, 13), (0, 10, 17, 15)]) (by decide +kernel) rfl (Nat.le_of_ble_eq_true rfl) ?_
  intro p e s m args below meth c F ls hl
  obtain ⟨hx, hb, hml, hr, hts, hown, hlocks, hxt, hH, hX, hin⟩ := F
  have hown : s.vm.findClass RL = some m.cls := hown
  have hS : va_S (gA G) s.heap H [] := by rw [hH]; exact va_S.rf
  have hl : lv_has ls 5 [(0, .ref (A 0)), (1, .int (zI p1)), (2, .int (zI l1)), (3, .ref o)] := hl
  refine lv_aload_n hx hb dL_add_0 rfl (lv_at hl 3 rfl) ?_
  refine lv_iconst (v := zI 0) hx hb dL_add_1 rfl ?_
  refine lv_aload_n hx hb dL_add_2 rfl (lv_at hl 0 rfl) ?_
  refine lv_iload_n hx hb dL_add_3 rfl (lv_at hl 1 rfl) ?_
  refine lv_iload_n hx hb dL_add_4 rfl (lv_at hl 2 rfl) ?_
  refine g_go (vx_runV (As := [.int (zI p1), .int (zI l1)]) (rest := [.int (zI 0), .ref o]) ⟨hx, hb, hml, hown, hts⟩ (x_add_e1 l G hlf A TA S W9 H hC hI p1 l1 hp0 hl0 hN) (cwV 2 hts gL_add_X4_add rfl rfl rfl hd_X4_add ⟨(Nat.le_of_ble_eq_true rfl), (Nat.le_of_ble_eq_true rfl)⟩) (g_preV hX hS (ci := 4) rfl hC.1) rfl rfl hl.1 rfl (lv_room (Nat.le_of_ble_eq_true rfl)) dL_add_5 ⟨(Nat.le_of_ble_eq_true rfl), (Nat.le_of_ble_eq_true rfl)⟩) hS (fun E ce q9 H_5 locs hp hS hce hcv hcl => ?_) (fun v H1 locs h hS => h.elim)
  obtain ⟨rfl, hE9⟩ := hp
  have hLX := LX.ext o hC hE9
  have ho := ho.ext hE9
  refine g_catch hX hown [] ⟨0, 10, 13, 13⟩ [⟨0, 10, 17, 15⟩] hxt (fun _ h => absurd h List.not_mem_nil) (by decide +kernel) rfl (by decide) (hts (.classLink RL 13 "java/lang/IllegalArgumentException") (List.mem_cons_of_mem _ (List.mem_append_left _ (List.mem_append_left _ (List.mem_append_left _ (List.mem_append_left _ (List.mem_append_left _ (List.mem_append_left _ (List.mem_append_left _ (List.mem_of_getElem? (i := 0) rfl)))))))))) (by decide +kernel) hce hcv hcl ?_
  refine W.eq (g2 := F0 m 13 ls [.ref q9]) rfl ?_
  refine lv_astore (lv' := [(4, .ref q9), (0, .ref (A 0)), (1, .int (zI p1)), (2, .int (zI l1)), (3, .ref o)]) hx hb dL_add_13 hl (by decide) rfl (fun ls hl => ?_)
  refine lv_iconst (v := zI 1) hx hb dL_add_15 rfl ?_
  exact g_reti hx hb hr hlocks hS rfl (⟨rfl, hLX, ⟨_, ho⟩⟩) (Nat.le_of_ble_eq_true rfl) (Nat.le_of_ble_eq_true rfl) dL_add_16
set_option maxHeartbeats 4000000 in
set_option maxRecDepth 100000 in
theorem w_add_e2 (l : Launch) (G : gG) (hlf : l.stackTraces = false) (A : Nat → Nat) (TA : Nat → Nat → Nat) (S : cS) (W9 : cWk) (H : Heap) (hC : Cat G A TA S W9 H) (hI : sInv S) (p1 : Int) (l1 : Int) (hp0 : rI p1) (hl0 : rI l1) (hN : isN p1 l1) (h16 : ¬ sn S < 16) (o : Nat) (ho0 : LU G o H) (go : gB G ≤ o) (no : ¬ own A TA (sn S) o) : gM l yL_add wsL_add rm_L_add [.ref (A 0), .int (zI p1), .int (zI l1), .ref o] G H (gi (fun r H1 => zI 2 = r ∧ LX G A TA TA S S o H H1 ∧ LU G o H1)) (gNo) 12 900 := by
  obtain ⟨fo, ho⟩ := ho0
  have hol := va_at.lt ho
  refine g_startW (cc := cL_add) (maxL := 5) (ret := (some .int)) (hh := [(0, 10, 13, 13), (0, 10, 17, 15)]) (by decide +kernel) rfl (Nat.le_of_ble_eq_true rfl) ?_
  intro p e s m args below meth c F ls hl
  obtain ⟨hx, hb, hml, hr, hts, hown, hlocks, hxt, hH, hX, hin⟩ := F
  have hown : s.vm.findClass RL = some m.cls := hown
  have hS : va_S (gA G) s.heap H [] := by rw [hH]; exact va_S.rf
  have hl : lv_has ls 5 [(0, .ref (A 0)), (1, .int (zI p1)), (2, .int (zI l1)), (3, .ref o)] := hl
  refine lv_aload_n hx hb dL_add_0 rfl (lv_at hl 3 rfl) ?_
  refine lv_iconst (v := zI 0) hx hb dL_add_1 rfl ?_
  refine lv_aload_n hx hb dL_add_2 rfl (lv_at hl 0 rfl) ?_
  refine lv_iload_n hx hb dL_add_3 rfl (lv_at hl 1 rfl) ?_
  refine lv_iload_n hx hb dL_add_4 rfl (lv_at hl 2 rfl) ?_
  refine g_go (vx_runV (As := [.int (zI p1), .int (zI l1)]) (rest := [.int (zI 0), .ref o]) ⟨hx, hb, hml, hown, hts⟩ (x_add_e2 l G hlf A TA S W9 H hC hI p1 l1 hp0 hl0 hN h16) (cwV 2 hts gL_add_X4_add rfl rfl rfl hd_X4_add ⟨(Nat.le_of_ble_eq_true rfl), (Nat.le_of_ble_eq_true rfl)⟩) (g_preV hX hS (ci := 4) rfl hC.1) rfl rfl hl.1 rfl (lv_room (Nat.le_of_ble_eq_true rfl)) dL_add_5 ⟨(Nat.le_of_ble_eq_true rfl), (Nat.le_of_ble_eq_true rfl)⟩) hS (fun E ce q9 H_5 locs hp hS hce hcv hcl => ?_) (fun v H1 locs h hS => h.elim)
  obtain ⟨rfl, hE9⟩ := hp
  have hLX := LX.ext o hC hE9
  have ho := ho.ext hE9
  refine g_catch hX hown [⟨0, 10, 13, 13⟩] ⟨0, 10, 17, 15⟩ [] hxt (List.forall_mem_cons.mpr ⟨⟨by decide, "java/lang/IllegalArgumentException", (hts (.classLink RL 13 "java/lang/IllegalArgumentException") (List.mem_cons_of_mem _ (List.mem_append_left _ (List.mem_append_left _ (List.mem_append_left _ (List.mem_append_left _ (List.mem_append_left _ (List.mem_append_left _ (List.mem_append_left _ (List.mem_of_getElem? (i := 0) rfl)))))))))), by decide +kernel, by decide +kernel⟩, (fun _ h => absurd h List.not_mem_nil)⟩) (by decide +kernel) rfl (by decide) (hts (.classLink RL 15 "java/lang/IllegalStateException") (List.mem_cons_of_mem _ (List.mem_append_left _ (List.mem_append_left _ (List.mem_append_left _ (List.mem_append_left _ (List.mem_append_left _ (List.mem_append_left _ (List.mem_append_left _ (List.mem_of_getElem? (i := 1) rfl)))))))))) (by decide +kernel) hce hcv hcl ?_
  refine W.eq (g2 := F0 m 17 ls [.ref q9]) rfl ?_
  refine lv_astore (lv' := [(4, .ref q9), (0, .ref (A 0)), (1, .int (zI p1)), (2, .int (zI l1)), (3, .ref o)]) hx hb dL_add_17 hl (by decide) rfl (fun ls hl => ?_)
  refine lv_iconst (v := zI 2) hx hb dL_add_19 rfl ?_
  exact g_reti hx hb hr hlocks hS rfl (⟨rfl, hLX, ⟨_, ho⟩⟩) (Nat.le_of_ble_eq_true rfl) (Nat.le_of_ble_eq_true rfl) dL_add_20
set_option maxHeartbeats 4000000 in
set_option maxRecDepth 100000 in
theorem w_note_ok (l : Launch) (G : gG) (A : Nat → Nat) (TA : Nat → Nat → Nat) (S : cS) (W9 : cWk) (H : Heap) (hC : Cat G A TA S W9 H) (hI : sInv S) (z : Int) (i : Nat) (hz : z = i) (hi : i < sn S) (hk : srt S i = false) (p1 : Int) (l1 : Int) (hp0 : rI p1) (hl0 : rI l1) (hN : isN p1 l1) (h24 : stn S i < 24) (o : Nat) (ho0 : LU G o H) (go : gB G ≤ o) (no : ¬ own A TA (sn S) o) : gM l yL_note wsL_note rm_L_note [.ref (A 0), .int (zI z), .int (zI p1), .int (zI l1), .ref o] G H (gi (fun r H1 => zI 0 = r ∧ LX G A TA TA S (sNote S i p1 l1) o H H1 ∧ LO G o H1 ((stn S i + 1 : Nat) : Int))) (gNo) 6 60 := by
  obtain ⟨fo, ho⟩ := ho0
  have hol := va_at.lt ho
  refine g_startW (cc := cL_note) (maxL := 6) (ret := (some .int)) (hh := [(0, 12, 15, 21), (0, 12, 19, 13), (0, 12, 23, 15)]) (by decide +kernel) rfl (Nat.le_of_ble_eq_true rfl) ?_
  intro p e s m args below meth c F ls hl
  obtain ⟨hx, hb, hml, hr, hts, hown, hlocks, hxt, hH, hX, hin⟩ := F
  have hown : s.vm.findClass RL = some m.cls := hown
  have hS : va_S (gA G) s.heap H [] := by rw [hH]; exact va_S.rf
  have hl : lv_has ls 6 [(0, .ref (A 0)), (1, .int (zI z)), (2, .int (zI p1)), (3, .int (zI l1)), (4, .ref o)] := hl
  refine lv_aload hx hb dL_note_0 (lv_at hl 4 rfl) ?_
  refine lv_iconst (v := zI 0) hx hb dL_note_2 rfl ?_
  refine lv_aload_n hx hb dL_note_3 rfl (lv_at hl 0 rfl) ?_
  refine lv_iload_n hx hb dL_note_4 rfl (lv_at hl 1 rfl) ?_
  refine lv_iload_n hx hb dL_note_5 rfl (lv_at hl 2 rfl) ?_
  refine lv_iload_n hx hb dL_note_6 rfl (lv_at hl 3 rfl) ?_
  refine g_goi (vx_runV (As := [.int (zI z), .int (zI p1), .int (zI l1)]) (rest := [.int (zI 0), .ref o]) ⟨hx, hb, hml, hown, hts⟩ (x_note_ok l G A TA S W9 H hC hI z i hz hi hk p1 l1 hp0 hl0 hN h24) (cwV 3 hts gL_note_X4_note rfl rfl rfl hd_X4_note ⟨(Nat.le_of_ble_eq_true rfl), (Nat.le_of_ble_eq_true rfl)⟩) (g_preV hX hS (ci := 4) rfl hC.1) rfl rfl hl.1 rfl (lv_room (Nat.le_of_ble_eq_true rfl)) dL_note_7 ⟨(Nat.le_of_ble_eq_true rfl), (Nat.le_of_ble_eq_true rfl)⟩) hS (fun r_7 H_7 locs hp hS => ?_)
  obtain ⟨rfl, hxp⟩ := hp
  have hLX := LX.xp o hxp rfl
  have ho := ho.kp hxp.2 no
  refine lv_i2l hx hb dL_note_10 rfl ?_
  refine gz_last hx hb hX hS ho go 0 (by omega) (by omega) (by omega) dL_note_11 (fun H_11 locs h_n hO hS => ?_)
  have ho : gat G o (.inl (gJ G, 1, .inr (.inl (vp_updL fo 0 ((zI ((stn S i + 1 : Nat) : Int)).toInt64))))) H_11 := h_n
  refine lv_goto (tgt := 27) hx hb dL_note_12 (by decide) ?_
  refine lv_iconst (v := zI 0) hx hb dL_note_27 rfl ?_
  exact g_reti hx hb hr hlocks hS rfl (⟨rfl, hLX.put hO hol no, ⟨_, ho, if_pos rfl⟩⟩) (Nat.le_of_ble_eq_true rfl) (Nat.le_of_ble_eq_true rfl) dL_note_28
set_option maxHeartbeats 4000000 in
set_option maxRecDepth 100000 in
theorem w_note_e1 (l : Launch) (G : gG) (hlf : l.stackTraces = false) (A : Nat → Nat) (TA : Nat → Nat → Nat) (S : cS) (W9 : cWk) (H : Heap) (hC : Cat G A TA S W9 H) (hI : sInv S) (z : Int) (hz : rI z) (hi : ¬ kwn S z) (p1 : Int) (l1 : Int) (o : Nat) (ho0 : LU G o H) (go : gB G ≤ o) (no : ¬ own A TA (sn S) o) : gM l yL_note wsL_note rm_L_note [.ref (A 0), .int (zI z), .int (zI p1), .int (zI l1), .ref o] G H (gi (fun r H1 => zI 1 = r ∧ LX G A TA TA S S o H H1 ∧ LU G o H1)) (gNo) 6 60 := by
  obtain ⟨fo, ho⟩ := ho0
  have hol := va_at.lt ho
  refine g_startW (cc := cL_note) (maxL := 6) (ret := (some .int)) (hh := [(0, 12, 15, 21), (0, 12, 19, 13), (0, 12, 23, 15)]) (by decide +kernel) rfl (Nat.le_of_ble_eq_true rfl) ?_
  intro p e s m args below meth c F ls hl
  obtain ⟨hx, hb, hml, hr, hts, hown, hlocks, hxt, hH, hX, hin⟩ := F
  have hown : s.vm.findClass RL = some m.cls := hown
  have hS : va_S (gA G) s.heap H [] := by rw [hH]; exact va_S.rf
  have hl : lv_has ls 6 [(0, .ref (A 0)), (1, .int (zI z)), (2, .int (zI p1)), (3, .int (zI l1)), (4, .ref o)] := hl
  refine lv_aload hx hb dL_note_0 (lv_at hl 4 rfl) ?_
  refine lv_iconst (v := zI 0) hx hb dL_note_2 rfl ?_
  refine lv_aload_n hx hb dL_note_3 rfl (lv_at hl 0 rfl) ?_
  refine lv_iload_n hx hb dL_note_4 rfl (lv_at hl 1 rfl) ?_
  refine lv_iload_n hx hb dL_note_5 rfl (lv_at hl 2 rfl) ?_
  refine lv_iload_n hx hb dL_note_6 rfl (lv_at hl 3 rfl) ?_
  refine g_go (vx_runV (As := [.int (zI z), .int (zI p1), .int (zI l1)]) (rest := [.int (zI 0), .ref o]) ⟨hx, hb, hml, hown, hts⟩ (x_note_e1 l G hlf A TA S W9 H hC hI z hz hi p1 l1) (cwV 3 hts gL_note_X4_note rfl rfl rfl hd_X4_note ⟨(Nat.le_of_ble_eq_true rfl), (Nat.le_of_ble_eq_true rfl)⟩) (g_preV hX hS (ci := 4) rfl hC.1) rfl rfl hl.1 rfl (lv_room (Nat.le_of_ble_eq_true rfl)) dL_note_7 ⟨(Nat.le_of_ble_eq_true rfl), (Nat.le_of_ble_eq_true rfl)⟩) hS (fun E ce q9 H_7 locs hp hS hce hcv hcl => ?_) (fun v H1 locs h hS => h.elim)
  obtain ⟨rfl, hE9⟩ := hp
  have hLX := LX.ext o hC hE9
  have ho := ho.ext hE9
  refine g_catch hX hown [] ⟨0, 12, 15, 21⟩ [⟨0, 12, 19, 13⟩, ⟨0, 12, 23, 15⟩] hxt (fun _ h => absurd h List.not_mem_nil) (by decide +kernel) rfl (by decide) (hts (.classLink RL 21 "java/lang/IndexOutOfBoundsException") (List.mem_cons_of_mem _ (List.mem_append_left _ (List.mem_append_left _ (List.mem_append_left _ (List.mem_append_left _ (List.mem_append_left _ (List.mem_append_left _ (List.mem_append_left _ (List.mem_of_getElem? (i := 0) rfl)))))))))) (by decide +kernel) hce hcv hcl ?_
  refine W.eq (g2 := F0 m 15 ls [.ref q9]) rfl ?_
  refine lv_astore (lv' := [(5, .ref q9), (0, .ref (A 0)), (1, .int (zI z)), (2, .int (zI p1)), (3, .int (zI l1)), (4, .ref o)]) hx hb dL_note_15 hl (by decide) rfl (fun ls hl => ?_)
  refine lv_iconst (v := zI 1) hx hb dL_note_17 rfl ?_
  exact g_reti hx hb hr hlocks hS rfl (⟨rfl, hLX, ⟨_, ho⟩⟩) (Nat.le_of_ble_eq_true rfl) (Nat.le_of_ble_eq_true rfl) dL_note_18
set_option maxHeartbeats 4000000 in
set_option maxRecDepth 100000 in
theorem w_note_e2 (l : Launch) (G : gG) (hlf : l.stackTraces = false) (A : Nat → Nat) (TA : Nat → Nat → Nat) (S : cS) (W9 : cWk) (H : Heap) (hC : Cat G A TA S W9 H) (hI : sInv S) (z : Int) (i : Nat) (hz : z = i) (hi : i < sn S) (hk : srt S i = false) (p1 : Int) (l1 : Int) (hp0 : rI p1) (hl0 : rI l1) (hN : ¬ isN p1 l1) (o : Nat) (ho0 : LU G o H) (go : gB G ≤ o) (no : ¬ own A TA (sn S) o) : gM l yL_note wsL_note rm_L_note [.ref (A 0), .int (zI z), .int (zI p1), .int (zI l1), .ref o] G H (gi (fun r H1 => zI 2 = r ∧ LX G A TA TA S S o H H1 ∧ LU G o H1)) (gNo) 6 60 := by
  obtain ⟨fo, ho⟩ := ho0
  have hol := va_at.lt ho
  refine g_startW (cc := cL_note) (maxL := 6) (ret := (some .int)) (hh := [(0, 12, 15, 21), (0, 12, 19, 13), (0, 12, 23, 15)]) (by decide +kernel) rfl (Nat.le_of_ble_eq_true rfl) ?_
  intro p e s m args below meth c F ls hl
  obtain ⟨hx, hb, hml, hr, hts, hown, hlocks, hxt, hH, hX, hin⟩ := F
  have hown : s.vm.findClass RL = some m.cls := hown
  have hS : va_S (gA G) s.heap H [] := by rw [hH]; exact va_S.rf
  have hl : lv_has ls 6 [(0, .ref (A 0)), (1, .int (zI z)), (2, .int (zI p1)), (3, .int (zI l1)), (4, .ref o)] := hl
  refine lv_aload hx hb dL_note_0 (lv_at hl 4 rfl) ?_
  refine lv_iconst (v := zI 0) hx hb dL_note_2 rfl ?_
  refine lv_aload_n hx hb dL_note_3 rfl (lv_at hl 0 rfl) ?_
  refine lv_iload_n hx hb dL_note_4 rfl (lv_at hl 1 rfl) ?_
  refine lv_iload_n hx hb dL_note_5 rfl (lv_at hl 2 rfl) ?_
  refine lv_iload_n hx hb dL_note_6 rfl (lv_at hl 3 rfl) ?_
  refine g_go (vx_runV (As := [.int (zI z), .int (zI p1), .int (zI l1)]) (rest := [.int (zI 0), .ref o]) ⟨hx, hb, hml, hown, hts⟩ (x_note_e2 l G hlf A TA S W9 H hC hI z i hz hi hk p1 l1 hp0 hl0 hN) (cwV 3 hts gL_note_X4_note rfl rfl rfl hd_X4_note ⟨(Nat.le_of_ble_eq_true rfl), (Nat.le_of_ble_eq_true rfl)⟩) (g_preV hX hS (ci := 4) rfl hC.1) rfl rfl hl.1 rfl (lv_room (Nat.le_of_ble_eq_true rfl)) dL_note_7 ⟨(Nat.le_of_ble_eq_true rfl), (Nat.le_of_ble_eq_true rfl)⟩) hS (fun E ce q9 H_7 locs hp hS hce hcv hcl => ?_) (fun v H1 locs h hS => h.elim)
  obtain ⟨rfl, hE9⟩ := hp
  have hLX := LX.ext o hC hE9
  have ho := ho.ext hE9
  refine g_catch hX hown [⟨0, 12, 15, 21⟩] ⟨0, 12, 19, 13⟩ [⟨0, 12, 23, 15⟩] hxt (List.forall_mem_cons.mpr ⟨⟨by decide, "java/lang/IndexOutOfBoundsException", (hts (.classLink RL 21 "java/lang/IndexOutOfBoundsException") (List.mem_cons_of_mem _ (List.mem_append_left _ (List.mem_append_left _ (List.mem_append_left _ (List.mem_append_left _ (List.mem_append_left _ (List.mem_append_left _ (List.mem_append_left _ (List.mem_of_getElem? (i := 0) rfl)))))))))), by decide +kernel, by decide +kernel⟩, (fun _ h => absurd h List.not_mem_nil)⟩) (by decide +kernel) rfl (by decide) (hts (.classLink RL 13 "java/lang/IllegalArgumentException") (List.mem_cons_of_mem _ (List.mem_append_left _ (List.mem_append_left _ (List.mem_append_left _ (List.mem_append_left _ (List.mem_append_left _ (List.mem_append_left _ (List.mem_append_left _ (List.mem_of_getElem? (i := 1) rfl)))))))))) (by decide +kernel) hce hcv hcl ?_
  refine W.eq (g2 := F0 m 19 ls [.ref q9]) rfl ?_
  refine lv_astore (lv' := [(5, .ref q9), (0, .ref (A 0)), (1, .int (zI z)), (2, .int (zI p1)), (3, .int (zI l1)), (4, .ref o)]) hx hb dL_note_19 hl (by decide) rfl (fun ls hl => ?_)
  refine lv_iconst (v := zI 2) hx hb dL_note_21 rfl ?_
  exact g_reti hx hb hr hlocks hS rfl (⟨rfl, hLX, ⟨_, ho⟩⟩) (Nat.le_of_ble_eq_true rfl) (Nat.le_of_ble_eq_true rfl) dL_note_22
set_option maxHeartbeats 4000000 in
set_option maxRecDepth 100000 in
theorem w_note_e3 (l : Launch) (G : gG) (hlf : l.stackTraces = false) (A : Nat → Nat) (TA : Nat → Nat → Nat) (S : cS) (W9 : cWk) (H : Heap) (hC : Cat G A TA S W9 H) (hI : sInv S) (z : Int) (i : Nat) (hz : z = i) (hi : i < sn S) (hk : srt S i = false) (p1 : Int) (l1 : Int) (hp0 : rI p1) (hl0 : rI l1) (hN : isN p1 l1) (h24 : ¬ stn S i < 24) (o : Nat) (ho0 : LU G o H) (go : gB G ≤ o) (no : ¬ own A TA (sn S) o) : gM l yL_note wsL_note rm_L_note [.ref (A 0), .int (zI z), .int (zI p1), .int (zI l1), .ref o] G H (gi (fun r H1 => zI 3 = r ∧ LX G A TA TA S S o H H1 ∧ LU G o H1)) (gNo) 6 60 := by
  obtain ⟨fo, ho⟩ := ho0
  have hol := va_at.lt ho
  refine g_startW (cc := cL_note) (maxL := 6) (ret := (some .int)) (hh := [(0, 12, 15, 21), (0, 12, 19, 13), (0, 12, 23, 15)]) (by decide +kernel) rfl (Nat.le_of_ble_eq_true rfl) ?_
  intro p e s m args below meth c F ls hl
  obtain ⟨hx, hb, hml, hr, hts, hown, hlocks, hxt, hH, hX, hin⟩ := F
  have hown : s.vm.findClass RL = some m.cls := hown
  have hS : va_S (gA G) s.heap H [] := by rw [hH]; exact va_S.rf
  have hl : lv_has ls 6 [(0, .ref (A 0)), (1, .int (zI z)), (2, .int (zI p1)), (3, .int (zI l1)), (4, .ref o)] := hl
  refine lv_aload hx hb dL_note_0 (lv_at hl 4 rfl) ?_
  refine lv_iconst (v := zI 0) hx hb dL_note_2 rfl ?_
  refine lv_aload_n hx hb dL_note_3 rfl (lv_at hl 0 rfl) ?_
  refine lv_iload_n hx hb dL_note_4 rfl (lv_at hl 1 rfl) ?_
  refine lv_iload_n hx hb dL_note_5 rfl (lv_at hl 2 rfl) ?_
  refine lv_iload_n hx hb dL_note_6 rfl (lv_at hl 3 rfl) ?_
  refine g_go (vx_runV (As := [.int (zI z), .int (zI p1), .int (zI l1)]) (rest := [.int (zI 0), .ref o]) ⟨hx, hb, hml, hown, hts⟩ (x_note_e3 l G hlf A TA S W9 H hC hI z i hz hi hk p1 l1 hp0 hl0 hN h24) (cwV 3 hts gL_note_X4_note rfl rfl rfl hd_X4_note ⟨(Nat.le_of_ble_eq_true rfl), (Nat.le_of_ble_eq_true rfl)⟩) (g_preV hX hS (ci := 4) rfl hC.1) rfl rfl hl.1 rfl (lv_room (Nat.le_of_ble_eq_true rfl)) dL_note_7 ⟨(Nat.le_of_ble_eq_true rfl), (Nat.le_of_ble_eq_true rfl)⟩) hS (fun E ce q9 H_7 locs hp hS hce hcv hcl => ?_) (fun v H1 locs h hS => h.elim)
  obtain ⟨rfl, hE9⟩ := hp
  have hLX := LX.ext o hC hE9
  have ho := ho.ext hE9
  refine g_catch hX hown [⟨0, 12, 15, 21⟩, ⟨0, 12, 19, 13⟩] ⟨0, 12, 23, 15⟩ [] hxt (List.forall_mem_cons.mpr ⟨⟨by decide, "java/lang/IndexOutOfBoundsException", (hts (.classLink RL 21 "java/lang/IndexOutOfBoundsException") (List.mem_cons_of_mem _ (List.mem_append_left _ (List.mem_append_left _ (List.mem_append_left _ (List.mem_append_left _ (List.mem_append_left _ (List.mem_append_left _ (List.mem_append_left _ (List.mem_of_getElem? (i := 0) rfl)))))))))), by decide +kernel, by decide +kernel⟩, (List.forall_mem_cons.mpr ⟨⟨by decide, "java/lang/IllegalArgumentException", (hts (.classLink RL 13 "java/lang/IllegalArgumentException") (List.mem_cons_of_mem _ (List.mem_append_left _ (List.mem_append_left _ (List.mem_append_left _ (List.mem_append_left _ (List.mem_append_left _ (List.mem_append_left _ (List.mem_append_left _ (List.mem_of_getElem? (i := 1) rfl)))))))))), by decide +kernel, by decide +kernel⟩, (fun _ h => absurd h List.not_mem_nil)⟩)⟩) (by decide +kernel) rfl (by decide) (hts (.classLink RL 15 "java/lang/IllegalStateException") (List.mem_cons_of_mem _ (List.mem_append_left _ (List.mem_append_left _ (List.mem_append_left _ (List.mem_append_left _ (List.mem_append_left _ (List.mem_append_left _ (List.mem_append_left _ (List.mem_of_getElem? (i := 2) rfl)))))))))) (by decide +kernel) hce hcv hcl ?_
  refine W.eq (g2 := F0 m 23 ls [.ref q9]) rfl ?_
  refine lv_astore (lv' := [(5, .ref q9), (0, .ref (A 0)), (1, .int (zI z)), (2, .int (zI p1)), (3, .int (zI l1)), (4, .ref o)]) hx hb dL_note_23 hl (by decide) rfl (fun ls hl => ?_)
  refine lv_iconst (v := zI 3) hx hb dL_note_25 rfl ?_
  exact g_reti hx hb hr hlocks hS rfl (⟨rfl, hLX, ⟨_, ho⟩⟩) (Nat.le_of_ble_eq_true rfl) (Nat.le_of_ble_eq_true rfl) dL_note_26
set_option maxHeartbeats 4000000 in
set_option maxRecDepth 100000 in
theorem w_correct_ok (l : Launch) (G : gG) (A : Nat → Nat) (TA : Nat → Nat → Nat) (S : cS) (W9 : cWk) (H : Heap) (hC : Cat G A TA S W9 H) (hI : sInv S) (z : Int) (i : Nat) (hz : z = i) (hi : i < sn S) (hk : srt S i = false) (z2 : Int) (p1 : Int) (l1 : Int) (hz20 : rI z2) (hp0 : rI p1) (hl0 : rI l1) (k : Nat) (hz2 : z2 = k) (hk2 : k < stn S i) (hN : isN p1 l1) (o : Nat) (ho0 : LU G o H) (go : gB G ≤ o) (no : ¬ own A TA (sn S) o) : gM l yL_correct wsL_correct rm_L_correct [.ref (A 0), .int (zI z), .int (zI z2), .int (zI p1), .int (zI l1), .ref o] G H (gi (fun r H1 => zI 0 = r ∧ LX G A TA TA S (sCorr S i k p1 l1) o H H1 ∧ LO G o H1 (stp S i k))) (gNo) 6 60 := by
  obtain ⟨fo, ho⟩ := ho0
  have hol := va_at.lt ho
  refine g_startW (cc := cL_correct) (maxL := 7) (ret := (some .int)) (hh := [(0, 14, 17, 21), (0, 14, 21, 13)]) (by decide +kernel) rfl (Nat.le_of_ble_eq_true rfl) ?_
  intro p e s m args below meth c F ls hl
  obtain ⟨hx, hb, hml, hr, hts, hown, hlocks, hxt, hH, hX, hin⟩ := F
  have hown : s.vm.findClass RL = some m.cls := hown
  have hS : va_S (gA G) s.heap H [] := by rw [hH]; exact va_S.rf
  have hl : lv_has ls 7 [(0, .ref (A 0)), (1, .int (zI z)), (2, .int (zI z2)), (3, .int (zI p1)), (4, .int (zI l1)), (5, .ref o)] := hl
  refine lv_aload hx hb dL_correct_0 (lv_at hl 5 rfl) ?_
  refine lv_iconst (v := zI 0) hx hb dL_correct_2 rfl ?_
  refine lv_aload_n hx hb dL_correct_3 rfl (lv_at hl 0 rfl) ?_
  refine lv_iload_n hx hb dL_correct_4 rfl (lv_at hl 1 rfl) ?_
  refine lv_iload_n hx hb dL_correct_5 rfl (lv_at hl 2 rfl) ?_
  refine lv_iload_n hx hb dL_correct_6 rfl (lv_at hl 3 rfl) ?_
  refine lv_iload hx hb dL_correct_7 (lv_at hl 4 rfl) ?_
  refine g_goi (vx_runV (As := [.int (zI z), .int (zI z2), .int (zI p1), .int (zI l1)]) (rest := [.int (zI 0), .ref o]) ⟨hx, hb, hml, hown, hts⟩ (x_correct_ok l G A TA S W9 H hC hI z i hz hi hk z2 p1 l1 hz20 hp0 hl0 k hz2 hk2 hN) (cwV 4 hts gL_correct_X4_correct rfl rfl rfl hd_X4_correct ⟨(Nat.le_of_ble_eq_true rfl), (Nat.le_of_ble_eq_true rfl)⟩) (g_preV hX hS (ci := 4) rfl hC.1) rfl rfl hl.1 rfl (lv_room (Nat.le_of_ble_eq_true rfl)) dL_correct_9 ⟨(Nat.le_of_ble_eq_true rfl), (Nat.le_of_ble_eq_true rfl)⟩) hS (fun r_9 H_9 locs hp hS => ?_)
  obtain ⟨rfl, hxp⟩ := hp
  have hLX := LX.xp o hxp rfl
  have ho := ho.kp hxp.2 no
  refine lv_i2l hx hb dL_correct_12 rfl ?_
  refine gz_last hx hb hX hS ho go 0 (by omega) (by omega) (by omega) dL_correct_13 (fun H_13 locs h_n hO hS => ?_)
  have ho : gat G o (.inl (gJ G, 1, .inr (.inl (vp_updL fo 0 ((zI (stp S i k)).toInt64))))) H_13 := h_n
  refine lv_goto (tgt := 25) hx hb dL_correct_14 (by decide) ?_
  refine lv_iconst (v := zI 0) hx hb dL_correct_25 rfl ?_
  exact g_reti hx hb hr hlocks hS rfl (⟨rfl, hLX.put hO hol no, ⟨_, ho, if_pos rfl⟩⟩) (Nat.le_of_ble_eq_true rfl) (Nat.le_of_ble_eq_true rfl) dL_correct_26
set_option maxHeartbeats 4000000 in
set_option maxRecDepth 100000 in
theorem w_correct_e1 (l : Launch) (G : gG) (hlf : l.stackTraces = false) (A : Nat → Nat) (TA : Nat → Nat → Nat) (S : cS) (W9 : cWk) (H : Heap) (hC : Cat G A TA S W9 H) (hI : sInv S) (z : Int) (hz : rI z) (hi : ¬ kwn S z) (z2 : Int) (p1 : Int) (l1 : Int) (o : Nat) (ho0 : LU G o H) (go : gB G ≤ o) (no : ¬ own A TA (sn S) o) : gM l yL_correct wsL_correct rm_L_correct [.ref (A 0), .int (zI z), .int (zI z2), .int (zI p1), .int (zI l1), .ref o] G H (gi (fun r H1 => zI 1 = r ∧ LX G A TA TA S S o H H1 ∧ LU G o H1)) (gNo) 6 60 := by
  obtain ⟨fo, ho⟩ := ho0
  have hol := va_at.lt ho
  refine g_startW (cc := cL_correct) (maxL := 7) (ret := (some .int)) (hh := [(0, 14, 17, 21), (0, 14, 21, 13)]) (by decide +kernel) rfl (Nat.le_of_ble_eq_true rfl) ?_
  intro p e s m args below meth c F ls hl
  obtain ⟨hx, hb, hml, hr, hts, hown, hlocks, hxt, hH, hX, hin⟩ := F
  have hown : s.vm.findClass RL = some m.cls := hown
  have hS : va_S (gA G) s.heap H [] := by rw [hH]; exact va_S.rf
  have hl : lv_has ls 7 [(0, .ref (A 0)), (1, .int (zI z)), (2, .int (zI z2)), (3, .int (zI p1)), (4, .int (zI l1)), (5, .ref o)] := hl
  refine lv_aload hx hb dL_correct_0 (lv_at hl 5 rfl) ?_
  refine lv_iconst (v := zI 0) hx hb dL_correct_2 rfl ?_
  refine lv_aload_n hx hb dL_correct_3 rfl (lv_at hl 0 rfl) ?_
  refine lv_iload_n hx hb dL_correct_4 rfl (lv_at hl 1 rfl) ?_
  refine lv_iload_n hx hb dL_correct_5 rfl (lv_at hl 2 rfl) ?_
  refine lv_iload_n hx hb dL_correct_6 rfl (lv_at hl 3 rfl) ?_
  refine lv_iload hx hb dL_correct_7 (lv_at hl 4 rfl) ?_
  refine g_go (vx_runV (As := [.int (zI z), .int (zI z2), .int (zI p1), .int (zI l1)]) (rest := [.int (zI 0), .ref o]) ⟨hx, hb, hml, hown, hts⟩ (x_correct_e1 l G hlf A TA S W9 H hC hI z hz hi z2 p1 l1) (cwV 4 hts gL_correct_X4_correct rfl rfl rfl hd_X4_correct ⟨(Nat.le_of_ble_eq_true rfl), (Nat.le_of_ble_eq_true rfl)⟩) (g_preV hX hS (ci := 4) rfl hC.1) rfl rfl hl.1 rfl (lv_room (Nat.le_of_ble_eq_true rfl)) dL_correct_9 ⟨(Nat.le_of_ble_eq_true rfl), (Nat.le_of_ble_eq_true rfl)⟩) hS (fun E ce q9 H_9 locs hp hS hce hcv hcl => ?_) (fun v H1 locs h hS => h.elim)
  obtain ⟨rfl, hE9⟩ := hp
  have hLX := LX.ext o hC hE9
  have ho := ho.ext hE9
  refine g_catch hX hown [] ⟨0, 14, 17, 21⟩ [⟨0, 14, 21, 13⟩] hxt (fun _ h => absurd h List.not_mem_nil) (by decide +kernel) rfl (by decide) (hts (.classLink RL 21 "java/lang/IndexOutOfBoundsException") (List.mem_cons_of_mem _ (List.mem_append_left _ (List.mem_append_left _ (List.mem_append_left _ (List.mem_append_left _ (List.mem_append_left _ (List.mem_append_left _ (List.mem_of_getElem? (i := 0) rfl))))))))) (by decide +kernel) hce hcv hcl ?_
  refine W.eq (g2 := F0 m 17 ls [.ref q9]) rfl ?_
  refine lv_astore (lv' := [(6, .ref q9), (0, .ref (A 0)), (1, .int (zI z)), (2, .int (zI z2)), (3, .int (zI p1)), (4, .int (zI l1)), (5, .ref o)]) hx hb dL_correct_17 hl (by decide) rfl (fun ls hl => ?_)
  refine lv_iconst (v := zI 1) hx hb dL_correct_19 rfl ?_
  exact g_reti hx hb hr hlocks hS rfl (⟨rfl, hLX, ⟨_, ho⟩⟩) (Nat.le_of_ble_eq_true rfl) (Nat.le_of_ble_eq_true rfl) dL_correct_20
set_option maxHeartbeats 4000000 in
set_option maxRecDepth 100000 in
theorem w_correct_e2 (l : Launch) (G : gG) (hlf : l.stackTraces = false) (A : Nat → Nat) (TA : Nat → Nat → Nat) (S : cS) (W9 : cWk) (H : Heap) (hC : Cat G A TA S W9 H) (hI : sInv S) (z : Int) (i : Nat) (hz : z = i) (hi : i < sn S) (hk : srt S i = false) (z2 : Int) (p1 : Int) (l1 : Int) (hz20 : rI z2) (hp0 : rI p1) (hl0 : rI l1) (hk2 : ¬ (0 ≤ z2 ∧ z2 < stn S i)) (o : Nat) (ho0 : LU G o H) (go : gB G ≤ o) (no : ¬ own A TA (sn S) o) : gM l yL_correct wsL_correct rm_L_correct [.ref (A 0), .int (zI z), .int (zI z2), .int (zI p1), .int (zI l1), .ref o] G H (gi (fun r H1 => zI 1 = r ∧ LX G A TA TA S S o H H1 ∧ LU G o H1)) (gNo) 6 60 := by
  obtain ⟨fo, ho⟩ := ho0
  have hol := va_at.lt ho
  refine g_startW (cc := cL_correct) (maxL := 7) (ret := (some .int)) (hh := [(0, 14, 17, 21), (0, 14, 21, 13)]) (by decide +kernel) rfl (Nat.le_of_ble_eq_true rfl) ?_
  intro p e s m args below meth c F ls hl
  obtain ⟨hx, hb, hml, hr, hts, hown, hlocks, hxt, hH, hX, hin⟩ := F
  have hown : s.vm.findClass RL = some m.cls := hown
  have hS : va_S (gA G) s.heap H [] := by rw [hH]; exact va_S.rf
  have hl : lv_has ls 7 [(0, .ref (A 0)), (1, .int (zI z)), (2, .int (zI z2)), (3, .int (zI p1)), (4, .int (zI l1)), (5, .ref o)] := hl
  refine lv_aload hx hb dL_correct_0 (lv_at hl 5 rfl) ?_
  refine lv_iconst (v := zI 0) hx hb dL_correct_2 rfl ?_
  refine lv_aload_n hx hb dL_correct_3 rfl (lv_at hl 0 rfl) ?_
  refine lv_iload_n hx hb dL_correct_4 rfl (lv_at hl 1 rfl) ?_
  refine lv_iload_n hx hb dL_correct_5 rfl (lv_at hl 2 rfl) ?_
  refine lv_iload_n hx hb dL_correct_6 rfl (lv_at hl 3 rfl) ?_
  refine lv_iload hx hb dL_correct_7 (lv_at hl 4 rfl) ?_
  refine g_go (vx_runV (As := [.int (zI z), .int (zI z2), .int (zI p1), .int (zI l1)]) (rest := [.int (zI 0), .ref o]) ⟨hx, hb, hml, hown, hts⟩ (x_correct_e2 l G hlf A TA S W9 H hC hI z i hz hi hk z2 p1 l1 hz20 hp0 hl0 hk2) (cwV 4 hts gL_correct_X4_correct rfl rfl rfl hd_X4_correct ⟨(Nat.le_of_ble_eq_true rfl), (Nat.le_of_ble_eq_true rfl)⟩) (g_preV hX hS (ci := 4) rfl hC.1) rfl rfl hl.1 rfl (lv_room (Nat.le_of_ble_eq_true rfl)) dL_correct_9 ⟨(Nat.le_of_ble_eq_true rfl), (Nat.le_of_ble_eq_true rfl)⟩) hS (fun E ce q9 H_9 locs hp hS hce hcv hcl => ?_) (fun v H1 locs h hS => h.elim)
  obtain ⟨rfl, hE9⟩ := hp
  have hLX := LX.ext o hC hE9
  have ho := ho.ext hE9
  refine g_catch hX hown [] ⟨0, 14, 17, 21⟩ [⟨0, 14, 21, 13⟩] hxt (fun _ h => absurd h List.not_mem_nil) (by decide +kernel) rfl (by decide) (hts (.classLink RL 21 "java/lang/IndexOutOfBoundsException") (List.mem_cons_of_mem _ (List.mem_append_left _ (List.mem_append_left _ (List.mem_append_left _ (List.mem_append_left _ (List.mem_append_left _ (List.mem_append_left _ (List.mem_of_getElem? (i := 0) rfl))))))))) (by decide +kernel) hce hcv hcl ?_
  refine W.eq (g2 := F0 m 17 ls [.ref q9]) rfl ?_
  refine lv_astore (lv' := [(6, .ref q9), (0, .ref (A 0)), (1, .int (zI z)), (2, .int (zI z2)), (3, .int (zI p1)), (4, .int (zI l1)), (5, .ref o)]) hx hb dL_correct_17 hl (by decide) rfl (fun ls hl => ?_)
  refine lv_iconst (v := zI 1) hx hb dL_correct_19 rfl ?_
  exact g_reti hx hb hr hlocks hS rfl (⟨rfl, hLX, ⟨_, ho⟩⟩) (Nat.le_of_ble_eq_true rfl) (Nat.le_of_ble_eq_true rfl) dL_correct_20
set_option maxHeartbeats 4000000 in
set_option maxRecDepth 100000 in
theorem w_correct_e3 (l : Launch) (G : gG) (hlf : l.stackTraces = false) (A : Nat → Nat) (TA : Nat → Nat → Nat) (S : cS) (W9 : cWk) (H : Heap) (hC : Cat G A TA S W9 H) (hI : sInv S) (z : Int) (i : Nat) (hz : z = i) (hi : i < sn S) (hk : srt S i = false) (z2 : Int) (p1 : Int) (l1 : Int) (hz20 : rI z2) (hp0 : rI p1) (hl0 : rI l1) (hk2 : 0 ≤ z2 ∧ z2 < stn S i) (hN : ¬ isN p1 l1) (o : Nat) (ho0 : LU G o H) (go : gB G ≤ o) (no : ¬ own A TA (sn S) o) : gM l yL_correct wsL_correct rm_L_correct [.ref (A 0), .int (zI z), .int (zI z2), .int (zI p1), .int (zI l1), .ref o] G H (gi (fun r H1 => zI 2 = r ∧ LX G A TA TA S S o H H1 ∧ LU G o H1)) (gNo) 6 60 := by
  obtain ⟨fo, ho⟩ := ho0
  have hol := va_at.lt ho
  refine g_startW (cc := cL_correct) (maxL := 7) (ret := (some .int)) (hh := [(0, 14, 17, 21), (0, 14, 21, 13)]) (by decide +kernel) rfl (Nat.le_of_ble_eq_true rfl) ?_
  intro p e s m args below meth c F ls hl
  obtain ⟨hx, hb, hml, hr, hts, hown, hlocks, hxt, hH, hX, hin⟩ := F
  have hown : s.vm.findClass RL = some m.cls := hown
  have hS : va_S (gA G) s.heap H [] := by rw [hH]; exact va_S.rf
  have hl : lv_has ls 7 [(0, .ref (A 0)), (1, .int (zI z)), (2, .int (zI z2)), (3, .int (zI p1)), (4, .int (zI l1)), (5, .ref o)] := hl
  refine lv_aload hx hb dL_correct_0 (lv_at hl 5 rfl) ?_
  refine lv_iconst (v := zI 0) hx hb dL_correct_2 rfl ?_
  refine lv_aload_n hx hb dL_correct_3 rfl (lv_at hl 0 rfl) ?_
  refine lv_iload_n hx hb dL_correct_4 rfl (lv_at hl 1 rfl) ?_
  refine lv_iload_n hx hb dL_correct_5 rfl (lv_at hl 2 rfl) ?_
  refine lv_iload_n hx hb dL_correct_6 rfl (lv_at hl 3 rfl) ?_
  refine lv_iload hx hb dL_correct_7 (lv_at hl 4 rfl) ?_
  refine g_go (vx_runV (As := [.int (zI z), .int (zI z2), .int (zI p1), .int (zI l1)]) (rest := [.int (zI 0), .ref o]) ⟨hx, hb, hml, hown, hts⟩ (x_correct_e3 l G hlf A TA S W9 H hC hI z i hz hi hk z2 p1 l1 hz20 hp0 hl0 hk2 hN) (cwV 4 hts gL_correct_X4_correct rfl rfl rfl hd_X4_correct ⟨(Nat.le_of_ble_eq_true rfl), (Nat.le_of_ble_eq_true rfl)⟩) (g_preV hX hS (ci := 4) rfl hC.1) rfl rfl hl.1 rfl (lv_room (Nat.le_of_ble_eq_true rfl)) dL_correct_9 ⟨(Nat.le_of_ble_eq_true rfl), (Nat.le_of_ble_eq_true rfl)⟩) hS (fun E ce q9 H_9 locs hp hS hce hcv hcl => ?_) (fun v H1 locs h hS => h.elim)
  obtain ⟨rfl, hE9⟩ := hp
  have hLX := LX.ext o hC hE9
  have ho := ho.ext hE9
  refine g_catch hX hown [⟨0, 14, 17, 21⟩] ⟨0, 14, 21, 13⟩ [] hxt (List.forall_mem_cons.mpr ⟨⟨by decide, "java/lang/IndexOutOfBoundsException", (hts (.classLink RL 21 "java/lang/IndexOutOfBoundsException") (List.mem_cons_of_mem _ (List.mem_append_left _ (List.mem_append_left _ (List.mem_append_left _ (List.mem_append_left _ (List.mem_append_left _ (List.mem_append_left _ (List.mem_of_getElem? (i := 0) rfl))))))))), by decide +kernel, by decide +kernel⟩, (fun _ h => absurd h List.not_mem_nil)⟩) (by decide +kernel) rfl (by decide) (hts (.classLink RL 13 "java/lang/IllegalArgumentException") (List.mem_cons_of_mem _ (List.mem_append_left _ (List.mem_append_left _ (List.mem_append_left _ (List.mem_append_left _ (List.mem_append_left _ (List.mem_append_left _ (List.mem_of_getElem? (i := 1) rfl))))))))) (by decide +kernel) hce hcv hcl ?_
  refine W.eq (g2 := F0 m 21 ls [.ref q9]) rfl ?_
  refine lv_astore (lv' := [(6, .ref q9), (0, .ref (A 0)), (1, .int (zI z)), (2, .int (zI z2)), (3, .int (zI p1)), (4, .int (zI l1)), (5, .ref o)]) hx hb dL_correct_21 hl (by decide) rfl (fun ls hl => ?_)
  refine lv_iconst (v := zI 2) hx hb dL_correct_23 rfl ?_
  exact g_reti hx hb hr hlocks hS rfl (⟨rfl, hLX, ⟨_, ho⟩⟩) (Nat.le_of_ble_eq_true rfl) (Nat.le_of_ble_eq_true rfl) dL_correct_24
set_option maxHeartbeats 4000000 in
set_option maxRecDepth 100000 in
theorem w_shift_ok (l : Launch) (G : gG) (A : Nat → Nat) (TA : Nat → Nat → Nat) (S : cS) (W9 : cWk) (H : Heap) (hC : Cat G A TA S W9 H) (hI : sInv S) (z : Int) (i : Nat) (hz : z = i) (hi : i < sn S) (hk : srt S i = false) (d : Int) (hd0 : rI d) (hd : -60 ≤ d ∧ d ≤ 60) (hall : ∀ k, k < stn S i → 0 ≤ stp S i k + d ∧ stp S i k + d ≤ 60) (o : Nat) (ho0 : LU G o H) (go : gB G ≤ o) (no : ¬ own A TA (sn S) o) : gM l yL_shift wsL_shift rm_L_shift [.ref (A 0), .int (zI z), .int (zI d)] G H (gi (fun r H1 => zI 0 = r ∧ LX G A TA TA S (sShift S i d) o H H1 ∧ LU G o H1)) (gNo) 6 60 := by
  obtain ⟨fo, ho⟩ := ho0
  have hol := va_at.lt ho
  refine g_startW (cc := cL_shift) (maxL := 4) (ret := (some .int)) (hh := [(0, 6, 9, 21), (0, 6, 12, 13), (0, 6, 15, 15)]) (by decide +kernel) rfl (Nat.le_of_ble_eq_true rfl) ?_
  intro p e s m args below meth c F ls hl
  obtain ⟨hx, hb, hml, hr, hts, hown, hlocks, hxt, hH, hX, hin⟩ := F
  have hown : s.vm.findClass RL = some m.cls := hown
  have hS : va_S (gA G) s.heap H [] := by rw [hH]; exact va_S.rf
  have hl : lv_has ls 4 [(0, .ref (A 0)), (1, .int (zI z)), (2, .int (zI d))] := hl
  refine lv_aload_n hx hb dL_shift_0 rfl (lv_at hl 0 rfl) ?_
  refine lv_iload_n hx hb dL_shift_1 rfl (lv_at hl 1 rfl) ?_
  refine lv_iload_n hx hb dL_shift_2 rfl (lv_at hl 2 rfl) ?_
  refine g_gov (vx_runV (As := [.int (zI z), .int (zI d)]) (rest := []) ⟨hx, hb, hml, hown, hts⟩ (x_shift_ok l G A TA S W9 H hC hI z i hz hi hk d hd0 hd hall) (cwV 2 hts gL_shift_X4_shift rfl rfl rfl hd_X4_shift ⟨(Nat.le_of_ble_eq_true rfl), (Nat.le_of_ble_eq_true rfl)⟩) (g_preV hX hS (ci := 4) rfl hC.1) rfl rfl hl.1 rfl (lv_room (Nat.le_of_ble_eq_true rfl)) dL_shift_3 ⟨(Nat.le_of_ble_eq_true rfl), (Nat.le_of_ble_eq_true rfl)⟩) hS (fun H_3 locs hp hS => ?_)
  have hxp := hp
  have hLX := LX.xp o hxp rfl
  have ho := ho.kp hxp.2 no
  refine lv_goto (tgt := 18) hx hb dL_shift_6 (by decide) ?_
  refine lv_iconst (v := zI 0) hx hb dL_shift_18 rfl ?_
  exact g_reti hx hb hr hlocks hS rfl (⟨rfl, hLX, ⟨_, ho⟩⟩) (Nat.le_of_ble_eq_true rfl) (Nat.le_of_ble_eq_true rfl) dL_shift_19
set_option maxHeartbeats 4000000 in
set_option maxRecDepth 100000 in
theorem w_shift_e1 (l : Launch) (G : gG) (hlf : l.stackTraces = false) (A : Nat → Nat) (TA : Nat → Nat → Nat) (S : cS) (W9 : cWk) (H : Heap) (hC : Cat G A TA S W9 H) (hI : sInv S) (z : Int) (hz : rI z) (hi : ¬ kwn S z) (d : Int) (o : Nat) (ho0 : LU G o H) (go : gB G ≤ o) (no : ¬ own A TA (sn S) o) : gM l yL_shift wsL_shift rm_L_shift [.ref (A 0), .int (zI z), .int (zI d)] G H (gi (fun r H1 => zI 1 = r ∧ LX G A TA TA S S o H H1 ∧ LU G o H1)) (gNo) 6 60 := by
  obtain ⟨fo, ho⟩ := ho0
  have hol := va_at.lt ho
  refine g_startW (cc := cL_shift) (maxL := 4) (ret := (some .int)) (hh := [(0, 6, 9, 21), (0, 6, 12, 13), (0, 6, 15, 15)]) (by decide +kernel) rfl (Nat.le_of_ble_eq_true rfl) ?_
  intro p e s m args below meth c F ls hl
  obtain ⟨hx, hb, hml, hr, hts, hown, hlocks, hxt, hH, hX, hin⟩ := F
  have hown : s.vm.findClass RL = some m.cls := hown
  have hS : va_S (gA G) s.heap H [] := by rw [hH]; exact va_S.rf
  have hl : lv_has ls 4 [(0, .ref (A 0)), (1, .int (zI z)), (2, .int (zI d))] := hl
  refine lv_aload_n hx hb dL_shift_0 rfl (lv_at hl 0 rfl) ?_
  refine lv_iload_n hx hb dL_shift_1 rfl (lv_at hl 1 rfl) ?_
  refine lv_iload_n hx hb dL_shift_2 rfl (lv_at hl 2 rfl) ?_
  refine g_go (vx_runV (As := [.int (zI z), .int (zI d)]) (rest := []) ⟨hx, hb, hml, hown, hts⟩ (x_shift_e1 l G hlf A TA S W9 H hC hI z hz hi d) (cwV 2 hts gL_shift_X4_shift rfl rfl rfl hd_X4_shift ⟨(Nat.le_of_ble_eq_true rfl), (Nat.le_of_ble_eq_true rfl)⟩) (g_preV hX hS (ci := 4) rfl hC.1) rfl rfl hl.1 rfl (lv_room (Nat.le_of_ble_eq_true rfl)) dL_shift_3 ⟨(Nat.le_of_ble_eq_true rfl), (Nat.le_of_ble_eq_true rfl)⟩) hS (fun E ce q9 H_3 locs hp hS hce hcv hcl => ?_) (fun v H1 locs h hS => h.elim)
  obtain ⟨rfl, hE9⟩ := hp
  have hLX := LX.ext o hC hE9
  have ho := ho.ext hE9
  refine g_catch hX hown [] ⟨0, 6, 9, 21⟩ [⟨0, 6, 12, 13⟩, ⟨0, 6, 15, 15⟩] hxt (fun _ h => absurd h List.not_mem_nil) (by decide +kernel) rfl (by decide) (hts (.classLink RL 21 "java/lang/IndexOutOfBoundsException") (List.mem_cons_of_mem _ (List.mem_append_left _ (List.mem_append_left _ (List.mem_append_left _ (List.mem_append_left _ (List.mem_append_left _ (List.mem_append_left _ (List.mem_append_left _ (List.mem_of_getElem? (i := 0) rfl)))))))))) (by decide +kernel) hce hcv hcl ?_
  refine W.eq (g2 := F0 m 9 ls [.ref q9]) rfl ?_
  refine lv_astore_n (lv' := [(3, .ref q9), (0, .ref (A 0)), (1, .int (zI z)), (2, .int (zI d))]) hx hb dL_shift_9 rfl hl (by decide) rfl (fun ls hl => ?_)
  refine lv_iconst (v := zI 1) hx hb dL_shift_10 rfl ?_
  exact g_reti hx hb hr hlocks hS rfl (⟨rfl, hLX, ⟨_, ho⟩⟩) (Nat.le_of_ble_eq_true rfl) (Nat.le_of_ble_eq_true rfl) dL_shift_11
set_option maxHeartbeats 4000000 in
set_option maxRecDepth 100000 in
theorem w_shift_e2 (l : Launch) (G : gG) (hlf : l.stackTraces = false) (A : Nat → Nat) (TA : Nat → Nat → Nat) (S : cS) (W9 : cWk) (H : Heap) (hC : Cat G A TA S W9 H) (hI : sInv S) (z : Int) (i : Nat) (hz : z = i) (hi : i < sn S) (hk : srt S i = false) (d : Int) (hd0 : rI d) (hd : ¬ (-60 ≤ d ∧ d ≤ 60)) (o : Nat) (ho0 : LU G o H) (go : gB G ≤ o) (no : ¬ own A TA (sn S) o) : gM l yL_shift wsL_shift rm_L_shift [.ref (A 0), .int (zI z), .int (zI d)] G H (gi (fun r H1 => zI 2 = r ∧ LX G A TA TA S S o H H1 ∧ LU G o H1)) (gNo) 6 60 := by
  obtain ⟨fo, ho⟩ := ho0
  have hol := va_at.lt ho
  refine g_startW (cc := cL_shift) (maxL := 4) (ret := (some .int)) (hh := [(0, 6, 9, 21), (0, 6, 12, 13), (0, 6, 15, 15)]) (by decide +kernel) rfl (Nat.le_of_ble_eq_true rfl) ?_
  intro p e s m args below meth c F ls hl
  obtain ⟨hx, hb, hml, hr, hts, hown, hlocks, hxt, hH, hX, hin⟩ := F
  have hown : s.vm.findClass RL = some m.cls := hown
  have hS : va_S (gA G) s.heap H [] := by rw [hH]; exact va_S.rf
  have hl : lv_has ls 4 [(0, .ref (A 0)), (1, .int (zI z)), (2, .int (zI d))] := hl
  refine lv_aload_n hx hb dL_shift_0 rfl (lv_at hl 0 rfl) ?_
  refine lv_iload_n hx hb dL_shift_1 rfl (lv_at hl 1 rfl) ?_
  refine lv_iload_n hx hb dL_shift_2 rfl (lv_at hl 2 rfl) ?_
  refine g_go (vx_runV (As := [.int (zI z), .int (zI d)]) (rest := []) ⟨hx, hb, hml, hown, hts⟩ (x_shift_e2 l G hlf A TA S W9 H hC hI z i hz hi hk d hd0 hd) (cwV 2 hts gL_shift_X4_shift rfl rfl rfl hd_X4_shift ⟨(Nat.le_of_ble_eq_true rfl), (Nat.le_of_ble_eq_true rfl)⟩) (g_preV hX hS (ci := 4) rfl hC.1) rfl rfl hl.1 rfl (lv_room (Nat.le_of_ble_eq_true rfl)) dL_shift_3 ⟨(Nat.le_of_ble_eq_true rfl), (Nat.le_of_ble_eq_true rfl)⟩) hS (fun E ce q9 H_3 locs hp hS hce hcv hcl => ?_) (fun v H1 locs h hS => h.elim)
  obtain ⟨rfl, hE9⟩ := hp
  have hLX := LX.ext o hC hE9
  have ho := ho.ext hE9
  refine g_catch hX hown [⟨0, 6, 9, 21⟩] ⟨0, 6, 12, 13⟩ [⟨0, 6, 15, 15⟩] hxt (List.forall_mem_cons.mpr ⟨⟨by decide, "java/lang/IndexOutOfBoundsException", (hts (.classLink RL 21 "java/lang/IndexOutOfBoundsException") (List.mem_cons_of_mem _ (List.mem_append_left _ (List.mem_append_left _ (List.mem_append_left _ (List.mem_append_left _ (List.mem_append_left _ (List.mem_append_left _ (List.mem_append_left _ (List.mem_of_getElem? (i := 0) rfl)))))))))), by decide +kernel, by decide +kernel⟩, (fun _ h => absurd h List.not_mem_nil)⟩) (by decide +kernel) rfl (by decide) (hts (.classLink RL 13 "java/lang/IllegalArgumentException") (List.mem_cons_of_mem _ (List.mem_append_left _ (List.mem_append_left _ (List.mem_append_left _ (List.mem_append_left _ (List.mem_append_left _ (List.mem_append_left _ (List.mem_append_left _ (List.mem_of_getElem? (i := 1) rfl)))))))))) (by decide +kernel) hce hcv hcl ?_
  refine W.eq (g2 := F0 m 12 ls [.ref q9]) rfl ?_
  refine lv_astore_n (lv' := [(3, .ref q9), (0, .ref (A 0)), (1, .int (zI z)), (2, .int (zI d))]) hx hb dL_shift_12 rfl hl (by decide) rfl (fun ls hl => ?_)
  refine lv_iconst (v := zI 2) hx hb dL_shift_13 rfl ?_
  exact g_reti hx hb hr hlocks hS rfl (⟨rfl, hLX, ⟨_, ho⟩⟩) (Nat.le_of_ble_eq_true rfl) (Nat.le_of_ble_eq_true rfl) dL_shift_14
set_option maxHeartbeats 4000000 in
set_option maxRecDepth 100000 in
theorem w_shift_e3 (l : Launch) (G : gG) (hlf : l.stackTraces = false) (A : Nat → Nat) (TA : Nat → Nat → Nat) (S : cS) (W9 : cWk) (H : Heap) (hC : Cat G A TA S W9 H) (hI : sInv S) (z : Int) (i : Nat) (hz : z = i) (hi : i < sn S) (hk : srt S i = false) (d : Int) (hd0 : rI d) (hd : -60 ≤ d ∧ d ≤ 60) (q0 : Nat) (hq0 : q0 < stn S i) (hbad : ¬ (0 ≤ stp S i q0 + d ∧ stp S i q0 + d ≤ 60)) (o : Nat) (ho0 : LU G o H) (go : gB G ≤ o) (no : ¬ own A TA (sn S) o) : gM l yL_shift wsL_shift rm_L_shift [.ref (A 0), .int (zI z), .int (zI d)] G H (gi (fun r H1 => zI 3 = r ∧ LX G A TA TA S S o H H1 ∧ LU G o H1)) (gNo) 6 60 := by
  obtain ⟨fo, ho⟩ := ho0
  have hol := va_at.lt ho
  refine g_startW (cc := cL_shift) (maxL := 4) (ret := (some .int)) (hh := [(0, 6, 9, 21), (0, 6, 12, 13), (0, 6, 15, 15)]) (by decide +kernel) rfl (Nat.le_of_ble_eq_true rfl) ?_
  intro p e s m args below meth c F ls hl
  obtain ⟨hx, hb, hml, hr, hts, hown, hlocks, hxt, hH, hX, hin⟩ := F
  have hown : s.vm.findClass RL = some m.cls := hown
  have hS : va_S (gA G) s.heap H [] := by rw [hH]; exact va_S.rf
  have hl : lv_has ls 4 [(0, .ref (A 0)), (1, .int (zI z)), (2, .int (zI d))] := hl
  refine lv_aload_n hx hb dL_shift_0 rfl (lv_at hl 0 rfl) ?_
  refine lv_iload_n hx hb dL_shift_1 rfl (lv_at hl 1 rfl) ?_
  refine lv_iload_n hx hb dL_shift_2 rfl (lv_at hl 2 rfl) ?_
  refine g_go (vx_runV (As := [.int (zI z), .int (zI d)]) (rest := []) ⟨hx, hb, hml, hown, hts⟩ (x_shift_e3 l G hlf A TA S W9 H hC hI z i hz hi hk d hd0 hd q0 hq0 hbad) (cwV 2 hts gL_shift_X4_shift rfl rfl rfl hd_X4_shift ⟨(Nat.le_of_ble_eq_true rfl), (Nat.le_of_ble_eq_true rfl)⟩) (g_preV hX hS (ci := 4) rfl hC.1) rfl rfl hl.1 rfl (lv_room (Nat.le_of_ble_eq_true rfl)) dL_shift_3 ⟨(Nat.le_of_ble_eq_true rfl), (Nat.le_of_ble_eq_true rfl)⟩) hS (fun E ce q9 H_3 locs hp hS hce hcv hcl => ?_) (fun v H1 locs h hS => h.elim)
  obtain ⟨rfl, hE9⟩ := hp
  have hLX := LX.ext o hC hE9
  have ho := ho.ext hE9
  refine g_catch hX hown [⟨0, 6, 9, 21⟩, ⟨0, 6, 12, 13⟩] ⟨0, 6, 15, 15⟩ [] hxt (List.forall_mem_cons.mpr ⟨⟨by decide, "java/lang/IndexOutOfBoundsException", (hts (.classLink RL 21 "java/lang/IndexOutOfBoundsException") (List.mem_cons_of_mem _ (List.mem_append_left _ (List.mem_append_left _ (List.mem_append_left _ (List.mem_append_left _ (List.mem_append_left _ (List.mem_append_left _ (List.mem_append_left _ (List.mem_of_getElem? (i := 0) rfl)))))))))), by decide +kernel, by decide +kernel⟩, (List.forall_mem_cons.mpr ⟨⟨by decide, "java/lang/IllegalArgumentException", (hts (.classLink RL 13 "java/lang/IllegalArgumentException") (List.mem_cons_of_mem _ (List.mem_append_left _ (List.mem_append_left _ (List.mem_append_left _ (List.mem_append_left _ (List.mem_append_left _ (List.mem_append_left _ (List.mem_append_left _ (List.mem_of_getElem? (i := 1) rfl)))))))))), by decide +kernel, by decide +kernel⟩, (fun _ h => absurd h List.not_mem_nil)⟩)⟩) (by decide +kernel) rfl (by decide) (hts (.classLink RL 15 "java/lang/IllegalStateException") (List.mem_cons_of_mem _ (List.mem_append_left _ (List.mem_append_left _ (List.mem_append_left _ (List.mem_append_left _ (List.mem_append_left _ (List.mem_append_left _ (List.mem_append_left _ (List.mem_of_getElem? (i := 2) rfl)))))))))) (by decide +kernel) hce hcv hcl ?_
  refine W.eq (g2 := F0 m 15 ls [.ref q9]) rfl ?_
  refine lv_astore_n (lv' := [(3, .ref q9), (0, .ref (A 0)), (1, .int (zI z)), (2, .int (zI d))]) hx hb dL_shift_15 rfl hl (by decide) rfl (fun ls hl => ?_)
  refine lv_iconst (v := zI 3) hx hb dL_shift_16 rfl ?_
  exact g_reti hx hb hr hlocks hS rfl (⟨rfl, hLX, ⟨_, ho⟩⟩) (Nat.le_of_ble_eq_true rfl) (Nat.le_of_ble_eq_true rfl) dL_shift_17
set_option maxHeartbeats 4000000 in
set_option maxRecDepth 100000 in
theorem w_retire_ok (l : Launch) (G : gG) (A : Nat → Nat) (TA : Nat → Nat → Nat) (S : cS) (W9 : cWk) (H : Heap) (hC : Cat G A TA S W9 H) (hI : sInv S) (z : Int) (i : Nat) (hz : z = i) (hi : i < sn S) (hk : srt S i = false) (hI2 : sInv (sRet S i)) (o : Nat) (ho0 : LU G o H) (go : gB G ≤ o) (no : ¬ own A TA (sn S) o) : gM l yL_retire wsL_retire rm_L_retire [.ref (A 0), .int (zI z), .ref o] G H (gi (fun r H1 => zI 0 = r ∧ LX G A TA TA S (sRet S i) o H H1 ∧ LO G o H1 ((ctB (fun j => !(srt (sRet S i) j)) (sn S) : Nat) : Int))) (gNo) 6 60 := by
  obtain ⟨fo, ho⟩ := ho0
  have hol := va_at.lt ho
  refine g_startW (cc := cL_retire) (maxL := 4) (ret := (some .int)) (hh := [(0, 9, 12, 21)]) (by decide +kernel) rfl (Nat.le_of_ble_eq_true rfl) ?_
  intro p e s m args below meth c F ls hl
  obtain ⟨hx, hb, hml, hr, hts, hown, hlocks, hxt, hH, hX, hin⟩ := F
  have hown : s.vm.findClass RL = some m.cls := hown
  have hS : va_S (gA G) s.heap H [] := by rw [hH]; exact va_S.rf
  have hl : lv_has ls 4 [(0, .ref (A 0)), (1, .int (zI z)), (2, .ref o)] := hl
  refine lv_aload_n hx hb dL_retire_0 rfl (lv_at hl 2 rfl) ?_
  refine lv_iconst (v := zI 0) hx hb dL_retire_1 rfl ?_
  refine lv_aload_n hx hb dL_retire_2 rfl (lv_at hl 0 rfl) ?_
  refine lv_iload_n hx hb dL_retire_3 rfl (lv_at hl 1 rfl) ?_
  refine g_goi (vx_runV (As := [.int (zI z)]) (rest := [.int (zI 0), .ref o]) ⟨hx, hb, hml, hown, hts⟩ (x_retire_ok l G A TA S W9 H hC hI z i hz hi hk hI2) (cwV 1 hts gL_retire_X4_retire rfl rfl rfl hd_X4_retire ⟨(Nat.le_of_ble_eq_true rfl), (Nat.le_of_ble_eq_true rfl)⟩) (g_preV hX hS (ci := 4) rfl hC.1) rfl rfl hl.1 rfl (lv_room (Nat.le_of_ble_eq_true rfl)) dL_retire_4 ⟨(Nat.le_of_ble_eq_true rfl), (Nat.le_of_ble_eq_true rfl)⟩) hS (fun r_4 H_4 locs hp hS => ?_)
  obtain ⟨rfl, hxp⟩ := hp
  have hLX := LX.xp o hxp rfl
  have ho := ho.kp hxp.2 no
  refine lv_i2l hx hb dL_retire_7 rfl ?_
  refine gz_last hx hb hX hS ho go 0 (by omega) (by omega) (by omega) dL_retire_8 (fun H_8 locs h_n hO hS => ?_)
  have ho : gat G o (.inl (gJ G, 1, .inr (.inl (vp_updL fo 0 ((zI ((ctB (fun j => !(srt (sRet S i) j)) (sn S) : Nat) : Int)).toInt64))))) H_8 := h_n
  refine lv_goto (tgt := 15) hx hb dL_retire_9 (by decide) ?_
  refine lv_iconst (v := zI 0) hx hb dL_retire_15 rfl ?_
  exact g_reti hx hb hr hlocks hS rfl (⟨rfl, hLX.put hO hol no, ⟨_, ho, if_pos rfl⟩⟩) (Nat.le_of_ble_eq_true rfl) (Nat.le_of_ble_eq_true rfl) dL_retire_16
set_option maxHeartbeats 4000000 in
set_option maxRecDepth 100000 in
theorem w_retire_e1 (l : Launch) (G : gG) (hlf : l.stackTraces = false) (A : Nat → Nat) (TA : Nat → Nat → Nat) (S : cS) (W9 : cWk) (H : Heap) (hC : Cat G A TA S W9 H) (hI : sInv S) (z : Int) (hz : rI z) (hi : ¬ kwn S z) (o : Nat) (ho0 : LU G o H) (go : gB G ≤ o) (no : ¬ own A TA (sn S) o) : gM l yL_retire wsL_retire rm_L_retire [.ref (A 0), .int (zI z), .ref o] G H (gi (fun r H1 => zI 1 = r ∧ LX G A TA TA S S o H H1 ∧ LU G o H1)) (gNo) 6 60 := by
  obtain ⟨fo, ho⟩ := ho0
  have hol := va_at.lt ho
  refine g_startW (cc := cL_retire) (maxL := 4) (ret := (some .int)) (hh := [(0, 9, 12, 21)]) (by decide +kernel) rfl (Nat.le_of_ble_eq_true rfl) ?_
  intro p e s m args below meth c F ls hl
  obtain ⟨hx, hb, hml, hr, hts, hown, hlocks, hxt, hH, hX, hin⟩ := F
  have hown : s.vm.findClass RL = some m.cls := hown
  have hS : va_S (gA G) s.heap H [] := by rw [hH]; exact va_S.rf
  have hl : lv_has ls 4 [(0, .ref (A 0)), (1, .int (zI z)), (2, .ref o)] := hl
  refine lv_aload_n hx hb dL_retire_0 rfl (lv_at hl 2 rfl) ?_
  refine lv_iconst (v := zI 0) hx hb dL_retire_1 rfl ?_
  refine lv_aload_n hx hb dL_retire_2 rfl (lv_at hl 0 rfl) ?_
  refine lv_iload_n hx hb dL_retire_3 rfl (lv_at hl 1 rfl) ?_
  refine g_go (vx_runV (As := [.int (zI z)]) (rest := [.int (zI 0), .ref o]) ⟨hx, hb, hml, hown, hts⟩ (x_retire_e1 l G hlf A TA S W9 H hC hI z hz hi) (cwV 1 hts gL_retire_X4_retire rfl rfl rfl hd_X4_retire ⟨(Nat.le_of_ble_eq_true rfl), (Nat.le_of_ble_eq_true rfl)⟩) (g_preV hX hS (ci := 4) rfl hC.1) rfl rfl hl.1 rfl (lv_room (Nat.le_of_ble_eq_true rfl)) dL_retire_4 ⟨(Nat.le_of_ble_eq_true rfl), (Nat.le_of_ble_eq_true rfl)⟩) hS (fun E ce q9 H_4 locs hp hS hce hcv hcl => ?_) (fun v H1 locs h hS => h.elim)
  obtain ⟨rfl, hE9⟩ := hp
  have hLX := LX.ext o hC hE9
  have ho := ho.ext hE9
  refine g_catch hX hown [] ⟨0, 9, 12, 21⟩ [] hxt (fun _ h => absurd h List.not_mem_nil) (by decide +kernel) rfl (by decide) (hts (.classLink RL 21 "java/lang/IndexOutOfBoundsException") (List.mem_cons_of_mem _ (List.mem_append_left _ (List.mem_append_left _ (List.mem_append_left _ (List.mem_of_getElem? (i := 0) rfl)))))) (by decide +kernel) hce hcv hcl ?_
  refine W.eq (g2 := F0 m 12 ls [.ref q9]) rfl ?_
  refine lv_astore_n (lv' := [(3, .ref q9), (0, .ref (A 0)), (1, .int (zI z)), (2, .ref o)]) hx hb dL_retire_12 rfl hl (by decide) rfl (fun ls hl => ?_)
  refine lv_iconst (v := zI 1) hx hb dL_retire_13 rfl ?_
  exact g_reti hx hb hr hlocks hS rfl (⟨rfl, hLX, ⟨_, ho⟩⟩) (Nat.le_of_ble_eq_true rfl) (Nat.le_of_ble_eq_true rfl) dL_retire_14
set_option maxHeartbeats 4000000 in
set_option maxRecDepth 100000 in
theorem w_notes_ok (l : Launch) (G : gG) (A : Nat → Nat) (TA : Nat → Nat → Nat) (S : cS) (W9 : cWk) (H : Heap) (hC : Cat G A TA S W9 H) (hI : sInv S) (z : Int) (i : Nat) (hz : z = i) (hi : i < sn S) (o : Nat) (ho0 : LU G o H) (go : gB G ≤ o) (no : ¬ own A TA (sn S) o) : gM l yL_notes wsL_notes rm_L_notes [.ref (A 0), .int (zI z), .ref o] G H (gi (fun r H1 => zI 0 = r ∧ LX G A TA TA S S o H H1 ∧ LO G o H1 (stn S i : Int))) (gNo) 6 60 := by
  obtain ⟨fo, ho⟩ := ho0
  have hol := va_at.lt ho
  refine g_startW (cc := cL_notes) (maxL := 4) (ret := (some .int)) (hh := [(0, 9, 12, 21)]) (by decide +kernel) rfl (Nat.le_of_ble_eq_true rfl) ?_
  intro p e s m args below meth c F ls hl
  obtain ⟨hx, hb, hml, hr, hts, hown, hlocks, hxt, hH, hX, hin⟩ := F
  have hown : s.vm.findClass RL = some m.cls := hown
  have hS : va_S (gA G) s.heap H [] := by rw [hH]; exact va_S.rf
  have hl : lv_has ls 4 [(0, .ref (A 0)), (1, .int (zI z)), (2, .ref o)] := hl
  refine lv_aload_n hx hb dL_notes_0 rfl (lv_at hl 2 rfl) ?_
  refine lv_iconst (v := zI 0) hx hb dL_notes_1 rfl ?_
  refine lv_aload_n hx hb dL_notes_2 rfl (lv_at hl 0 rfl) ?_
  refine lv_iload_n hx hb dL_notes_3 rfl (lv_at hl 1 rfl) ?_
  refine g_goi (vx_runV (As := [.int (zI z)]) (rest := [.int (zI 0), .ref o]) ⟨hx, hb, hml, hown, hts⟩ (x_notes_ok l G A TA S W9 H hC hI z i hz hi) (cwV 1 hts gL_notes_X4_notes rfl rfl rfl hd_X4_notes ⟨(Nat.le_of_ble_eq_true rfl), (Nat.le_of_ble_eq_true rfl)⟩) (g_preV hX hS (ci := 4) rfl hC.1) rfl rfl hl.1 rfl (lv_room (Nat.le_of_ble_eq_true rfl)) dL_notes_4 ⟨(Nat.le_of_ble_eq_true rfl), (Nat.le_of_ble_eq_true rfl)⟩) hS (fun r_4 H_4 locs hp hS => ?_)
  obtain ⟨rfl, rfl⟩ := hp
  have hLX := LX.same o hC
  refine lv_i2l hx hb dL_notes_7 rfl ?_
  refine gz_last hx hb hX hS ho go 0 (by omega) (by omega) (by omega) dL_notes_8 (fun H_8 locs h_n hO hS => ?_)
  have ho : gat G o (.inl (gJ G, 1, .inr (.inl (vp_updL fo 0 ((zI (stn S i : Int)).toInt64))))) H_8 := h_n
  refine lv_goto (tgt := 15) hx hb dL_notes_9 (by decide) ?_
  refine lv_iconst (v := zI 0) hx hb dL_notes_15 rfl ?_
  exact g_reti hx hb hr hlocks hS rfl (⟨rfl, hLX.put hO hol no, ⟨_, ho, if_pos rfl⟩⟩) (Nat.le_of_ble_eq_true rfl) (Nat.le_of_ble_eq_true rfl) dL_notes_16
set_option maxHeartbeats 4000000 in
set_option maxRecDepth 100000 in
theorem w_notes_e1 (l : Launch) (G : gG) (hlf : l.stackTraces = false) (A : Nat → Nat) (TA : Nat → Nat → Nat) (S : cS) (W9 : cWk) (H : Heap) (hC : Cat G A TA S W9 H) (hI : sInv S) (z : Int) (hz : rI z) (hi : ¬ (0 ≤ z ∧ z < sn S)) (o : Nat) (ho0 : LU G o H) (go : gB G ≤ o) (no : ¬ own A TA (sn S) o) : gM l yL_notes wsL_notes rm_L_notes [.ref (A 0), .int (zI z), .ref o] G H (gi (fun r H1 => zI 1 = r ∧ LX G A TA TA S S o H H1 ∧ LU G o H1)) (gNo) 6 60 := by
  obtain ⟨fo, ho⟩ := ho0
  have hol := va_at.lt ho
  refine g_startW (cc := cL_notes) (maxL := 4) (ret := (some .int)) (hh := [(0, 9, 12, 21)]) (by decide +kernel) rfl (Nat.le_of_ble_eq_true rfl) ?_
  intro p e s m args below meth c F ls hl
  obtain ⟨hx, hb, hml, hr, hts, hown, hlocks, hxt, hH, hX, hin⟩ := F
  have hown : s.vm.findClass RL = some m.cls := hown
  have hS : va_S (gA G) s.heap H [] := by rw [hH]; exact va_S.rf
  have hl : lv_has ls 4 [(0, .ref (A 0)), (1, .int (zI z)), (2, .ref o)] := hl
  refine lv_aload_n hx hb dL_notes_0 rfl (lv_at hl 2 rfl) ?_
  refine lv_iconst (v := zI 0) hx hb dL_notes_1 rfl ?_
  refine lv_aload_n hx hb dL_notes_2 rfl (lv_at hl 0 rfl) ?_
  refine lv_iload_n hx hb dL_notes_3 rfl (lv_at hl 1 rfl) ?_
  refine g_go (vx_runV (As := [.int (zI z)]) (rest := [.int (zI 0), .ref o]) ⟨hx, hb, hml, hown, hts⟩ (x_notes_e1 l G hlf A TA S W9 H hC hI z hz hi) (cwV 1 hts gL_notes_X4_notes rfl rfl rfl hd_X4_notes ⟨(Nat.le_of_ble_eq_true rfl), (Nat.le_of_ble_eq_true rfl)⟩) (g_preV hX hS (ci := 4) rfl hC.1) rfl rfl hl.1 rfl (lv_room (Nat.le_of_ble_eq_true rfl)) dL_notes_4 ⟨(Nat.le_of_ble_eq_true rfl), (Nat.le_of_ble_eq_true rfl)⟩) hS (fun E ce q9 H_4 locs hp hS hce hcv hcl => ?_) (fun v H1 locs h hS => h.elim)
  obtain ⟨rfl, hE9⟩ := hp
  have hLX := LX.ext o hC hE9
  have ho := ho.ext hE9
  refine g_catch hX hown [] ⟨0, 9, 12, 21⟩ [] hxt (fun _ h => absurd h List.not_mem_nil) (by decide +kernel) rfl (by decide) (hts (.classLink RL 21 "java/lang/IndexOutOfBoundsException") (List.mem_cons_of_mem _ (List.mem_append_left _ (List.mem_append_left _ (List.mem_append_left _ (List.mem_append_left _ (List.mem_append_left _ (List.mem_of_getElem? (i := 0) rfl)))))))) (by decide +kernel) hce hcv hcl ?_
  refine W.eq (g2 := F0 m 12 ls [.ref q9]) rfl ?_
  refine lv_astore_n (lv' := [(3, .ref q9), (0, .ref (A 0)), (1, .int (zI z)), (2, .ref o)]) hx hb dL_notes_12 rfl hl (by decide) rfl (fun ls hl => ?_)
  refine lv_iconst (v := zI 1) hx hb dL_notes_13 rfl ?_
  exact g_reti hx hb hr hlocks hS rfl (⟨rfl, hLX, ⟨_, ho⟩⟩) (Nat.le_of_ble_eq_true rfl) (Nat.le_of_ble_eq_true rfl) dL_notes_14
set_option maxHeartbeats 4000000 in
set_option maxRecDepth 100000 in
theorem w_step_ok (l : Launch) (G : gG) (A : Nat → Nat) (TA : Nat → Nat → Nat) (S : cS) (W9 : cWk) (H : Heap) (hC : Cat G A TA S W9 H) (hI : sInv S) (z : Int) (i : Nat) (hz : z = i) (hi : i < sn S) (z2 : Int) (k : Nat) (hz2 : z2 = k) (hk : k + 1 < stn S i) (o : Nat) (ho0 : LU G o H) (go : gB G ≤ o) (no : ¬ own A TA (sn S) o) : gM l yL_step wsL_step rm_L_step [.ref (A 0), .int (zI z), .int (zI z2), .ref o] G H (gi (fun r H1 => zI 0 = r ∧ LX G A TA TA S S o H H1 ∧ LO G o H1 (stp S i (k + 1) - stp S i k))) (gNo) 6 60 := by
  obtain ⟨fo, ho⟩ := ho0
  have hol := va_at.lt ho
  refine g_startW (cc := cL_step) (maxL := 5) (ret := (some .int)) (hh := [(0, 10, 13, 21)]) (by decide +kernel) rfl (Nat.le_of_ble_eq_true rfl) ?_
  intro p e s m args below meth c F ls hl
  obtain ⟨hx, hb, hml, hr, hts, hown, hlocks, hxt, hH, hX, hin⟩ := F
  have hown : s.vm.findClass RL = some m.cls := hown
  have hS : va_S (gA G) s.heap H [] := by rw [hH]; exact va_S.rf
  have hl : lv_has ls 5 [(0, .ref (A 0)), (1, .int (zI z)), (2, .int (zI z2)), (3, .ref o)] := hl
  refine lv_aload_n hx hb dL_step_0 rfl (lv_at hl 3 rfl) ?_
  refine lv_iconst (v := zI 0) hx hb dL_step_1 rfl ?_
  refine lv_aload_n hx hb dL_step_2 rfl (lv_at hl 0 rfl) ?_
  refine lv_iload_n hx hb dL_step_3 rfl (lv_at hl 1 rfl) ?_
  refine lv_iload_n hx hb dL_step_4 rfl (lv_at hl 2 rfl) ?_
  refine g_goi (vx_runV (As := [.int (zI z), .int (zI z2)]) (rest := [.int (zI 0), .ref o]) ⟨hx, hb, hml, hown, hts⟩ (x_step_ok l G A TA S W9 H hC hI z i hz hi z2 k hz2 hk) (cwV 2 hts gL_step_X4_step rfl rfl rfl hd_X4_step ⟨(Nat.le_of_ble_eq_true rfl), (Nat.le_of_ble_eq_true rfl)⟩) (g_preV hX hS (ci := 4) rfl hC.1) rfl rfl hl.1 rfl (lv_room (Nat.le_of_ble_eq_true rfl)) dL_step_5 ⟨(Nat.le_of_ble_eq_true rfl), (Nat.le_of_ble_eq_true rfl)⟩) hS (fun r_5 H_5 locs hp hS => ?_)
  obtain ⟨rfl, rfl⟩ := hp
  have hLX := LX.same o hC
  refine lv_i2l hx hb dL_step_8 rfl ?_
  refine gz_last hx hb hX hS ho go 0 (by omega) (by omega) (by omega) dL_step_9 (fun H_9 locs h_n hO hS => ?_)
  have ho : gat G o (.inl (gJ G, 1, .inr (.inl (vp_updL fo 0 ((zI (stp S i (k + 1) - stp S i k)).toInt64))))) H_9 := h_n
  refine lv_goto (tgt := 17) hx hb dL_step_10 (by decide) ?_
  refine lv_iconst (v := zI 0) hx hb dL_step_17 rfl ?_
  exact g_reti hx hb hr hlocks hS rfl (⟨rfl, hLX.put hO hol no, ⟨_, ho, if_pos rfl⟩⟩) (Nat.le_of_ble_eq_true rfl) (Nat.le_of_ble_eq_true rfl) dL_step_18
set_option maxHeartbeats 4000000 in
set_option maxRecDepth 100000 in
theorem w_step_e1 (l : Launch) (G : gG) (hlf : l.stackTraces = false) (A : Nat → Nat) (TA : Nat → Nat → Nat) (S : cS) (W9 : cWk) (H : Heap) (hC : Cat G A TA S W9 H) (hI : sInv S) (z : Int) (hz : rI z) (hi : ¬ (0 ≤ z ∧ z < sn S)) (z2 : Int) (hz2 : rI z2) (o : Nat) (ho0 : LU G o H) (go : gB G ≤ o) (no : ¬ own A TA (sn S) o) : gM l yL_step wsL_step rm_L_step [.ref (A 0), .int (zI z), .int (zI z2), .ref o] G H (gi (fun r H1 => zI 1 = r ∧ LX G A TA TA S S o H H1 ∧ LU G o H1)) (gNo) 6 60 := by
  obtain ⟨fo, ho⟩ := ho0
  have hol := va_at.lt ho
  refine g_startW (cc := cL_step) (maxL := 5) (ret := (some .int)) (hh := [(0, 10, 13, 21)]) (by decide +kernel) rfl (Nat.le_of_ble_eq_true rfl) ?_
  intro p e s m args below meth c F ls hl
  obtain ⟨hx, hb, hml, hr, hts, hown, hlocks, hxt, hH, hX, hin⟩ := F
  have hown : s.vm.findClass RL = some m.cls := hown
  have hS : va_S (gA G) s.heap H [] := by rw [hH]; exact va_S.rf
  have hl : lv_has ls 5 [(0, .ref (A 0)), (1, .int (zI z)), (2, .int (zI z2)), (3, .ref o)] := hl
  refine lv_aload_n hx hb dL_step_0 rfl (lv_at hl 3 rfl) ?_
  refine lv_iconst (v := zI 0) hx hb dL_step_1 rfl ?_
  refine lv_aload_n hx hb dL_step_2 rfl (lv_at hl 0 rfl) ?_
  refine lv_iload_n hx hb dL_step_3 rfl (lv_at hl 1 rfl) ?_
  refine lv_iload_n hx hb dL_step_4 rfl (lv_at hl 2 rfl) ?_
  refine g_go (vx_runV (As := [.int (zI z), .int (zI z2)]) (rest := [.int (zI 0), .ref o]) ⟨hx, hb, hml, hown, hts⟩ (x_step_e1 l G hlf A TA S W9 H hC hI z hz hi z2 hz2) (cwV 2 hts gL_step_X4_step rfl rfl rfl hd_X4_step ⟨(Nat.le_of_ble_eq_true rfl), (Nat.le_of_ble_eq_true rfl)⟩) (g_preV hX hS (ci := 4) rfl hC.1) rfl rfl hl.1 rfl (lv_room (Nat.le_of_ble_eq_true rfl)) dL_step_5 ⟨(Nat.le_of_ble_eq_true rfl), (Nat.le_of_ble_eq_true rfl)⟩) hS (fun E ce q9 H_5 locs hp hS hce hcv hcl => ?_) (fun v H1 locs h hS => h.elim)
  obtain ⟨rfl, hE9⟩ := hp
  have hLX := LX.ext o hC hE9
  have ho := ho.ext hE9
  refine g_catch hX hown [] ⟨0, 10, 13, 21⟩ [] hxt (fun _ h => absurd h List.not_mem_nil) (by decide +kernel) rfl (by decide) (hts (.classLink RL 21 "java/lang/IndexOutOfBoundsException") (List.mem_cons_of_mem _ (List.mem_append_left _ (List.mem_append_left _ (List.mem_append_left _ (List.mem_append_left _ (List.mem_append_left _ (List.mem_of_getElem? (i := 0) rfl)))))))) (by decide +kernel) hce hcv hcl ?_
  refine W.eq (g2 := F0 m 13 ls [.ref q9]) rfl ?_
  refine lv_astore (lv' := [(4, .ref q9), (0, .ref (A 0)), (1, .int (zI z)), (2, .int (zI z2)), (3, .ref o)]) hx hb dL_step_13 hl (by decide) rfl (fun ls hl => ?_)
  refine lv_iconst (v := zI 1) hx hb dL_step_15 rfl ?_
  exact g_reti hx hb hr hlocks hS rfl (⟨rfl, hLX, ⟨_, ho⟩⟩) (Nat.le_of_ble_eq_true rfl) (Nat.le_of_ble_eq_true rfl) dL_step_16
set_option maxHeartbeats 4000000 in
set_option maxRecDepth 100000 in
theorem w_step_e2 (l : Launch) (G : gG) (hlf : l.stackTraces = false) (A : Nat → Nat) (TA : Nat → Nat → Nat) (S : cS) (W9 : cWk) (H : Heap) (hC : Cat G A TA S W9 H) (hI : sInv S) (z : Int) (i : Nat) (hz : z = i) (hi : i < sn S) (z2 : Int) (hz2 : rI z2) (hk : ¬ (0 ≤ z2 ∧ z2 < (stn S i : Int) - 1)) (o : Nat) (ho0 : LU G o H) (go : gB G ≤ o) (no : ¬ own A TA (sn S) o) : gM l yL_step wsL_step rm_L_step [.ref (A 0), .int (zI z), .int (zI z2), .ref o] G H (gi (fun r H1 => zI 1 = r ∧ LX G A TA TA S S o H H1 ∧ LU G o H1)) (gNo) 6 60 := by
  obtain ⟨fo, ho⟩ := ho0
  have hol := va_at.lt ho
  refine g_startW (cc := cL_step) (maxL := 5) (ret := (some .int)) (hh := [(0, 10, 13, 21)]) (by decide +kernel) rfl (Nat.le_of_ble_eq_true rfl) ?_
  intro p e s m args below meth c F ls hl
  obtain ⟨hx, hb, hml, hr, hts, hown, hlocks, hxt, hH, hX, hin⟩ := F
  have hown : s.vm.findClass RL = some m.cls := hown
  have hS : va_S (gA G) s.heap H [] := by rw [hH]; exact va_S.rf
  have hl : lv_has ls 5 [(0, .ref (A 0)), (1, .int (zI z)), (2, .int (zI z2)), (3, .ref o)] := hl
  refine lv_aload_n hx hb dL_step_0 rfl (lv_at hl 3 rfl) ?_
  refine lv_iconst (v := zI 0) hx hb dL_step_1 rfl ?_
  refine lv_aload_n hx hb dL_step_2 rfl (lv_at hl 0 rfl) ?_
  refine lv_iload_n hx hb dL_step_3 rfl (lv_at hl 1 rfl) ?_
  refine lv_iload_n hx hb dL_step_4 rfl (lv_at hl 2 rfl) ?_
  refine g_go (vx_runV (As := [.int (zI z), .int (zI z2)]) (rest := [.int (zI 0), .ref o]) ⟨hx, hb, hml, hown, hts⟩ (x_step_e2 l G hlf A TA S W9 H hC hI z i hz hi z2 hz2 hk) (cwV 2 hts gL_step_X4_step rfl rfl rfl hd_X4_step ⟨(Nat.le_of_ble_eq_true rfl), (Nat.le_of_ble_eq_true rfl)⟩) (g_preV hX hS (ci := 4) rfl hC.1) rfl rfl hl.1 rfl (lv_room (Nat.le_of_ble_eq_true rfl)) dL_step_5 ⟨(Nat.le_of_ble_eq_true rfl), (Nat.le_of_ble_eq_true rfl)⟩) hS (fun E ce q9 H_5 locs hp hS hce hcv hcl => ?_) (fun v H1 locs h hS => h.elim)
  obtain ⟨rfl, hE9⟩ := hp
  have hLX := LX.ext o hC hE9
  have ho := ho.ext hE9
  refine g_catch hX hown [] ⟨0, 10, 13, 21⟩ [] hxt (fun _ h => absurd h List.not_mem_nil) (by decide +kernel) rfl (by decide) (hts (.classLink RL 21 "java/lang/IndexOutOfBoundsException") (List.mem_cons_of_mem _ (List.mem_append_left _ (List.mem_append_left _ (List.mem_append_left _ (List.mem_append_left _ (List.mem_append_left _ (List.mem_of_getElem? (i := 0) rfl)))))))) (by decide +kernel) hce hcv hcl ?_
  refine W.eq (g2 := F0 m 13 ls [.ref q9]) rfl ?_
  refine lv_astore (lv' := [(4, .ref q9), (0, .ref (A 0)), (1, .int (zI z)), (2, .int (zI z2)), (3, .ref o)]) hx hb dL_step_13 hl (by decide) rfl (fun ls hl => ?_)
  refine lv_iconst (v := zI 1) hx hb dL_step_15 rfl ?_
  exact g_reti hx hb hr hlocks hS rfl (⟨rfl, hLX, ⟨_, ho⟩⟩) (Nat.le_of_ble_eq_true rfl) (Nat.le_of_ble_eq_true rfl) dL_step_16
set_option maxHeartbeats 4000000 in
set_option maxRecDepth 100000 in
theorem w_shared_ok (l : Launch) (G : gG) (A : Nat → Nat) (TA : Nat → Nat → Nat) (S : cS) (W9 : cWk) (H : Heap) (hC : Cat G A TA S W9 H) (hI : sInv S) (z1 : Int) (z2 : Int) (i : Nat) (j : Nat) (hz1 : z1 = i) (hi : i < sn S) (hz2 : z2 = j) (hj : j < sn S) (o : Nat) (ho0 : LU G o H) (go : gB G ≤ o) (no : ¬ own A TA (sn S) o) : gM l yL_shared wsL_shared rm_L_shared [.ref (A 0), .int (zI z1), .int (zI z2), .ref o] G H (gi (fun r H1 => zI 0 = r ∧ LX G A TA TA S S o H H1 ∧ LO G o H1 ((sharedF S i j : Nat) : Int))) (gNo) 6 60 := by
  obtain ⟨fo, ho⟩ := ho0
  have hol := va_at.lt ho
  refine g_startW (cc := cL_shared) (maxL := 5) (ret := (some .int)) (hh := [(0, 10, 13, 21)]) (by decide +kernel) rfl (Nat.le_of_ble_eq_true rfl) ?_
  intro p e s m args below meth c F ls hl
  obtain ⟨hx, hb, hml, hr, hts, hown, hlocks, hxt, hH, hX, hin⟩ := F
  have hown : s.vm.findClass RL = some m.cls := hown
  have hS : va_S (gA G) s.heap H [] := by rw [hH]; exact va_S.rf
  have hl : lv_has ls 5 [(0, .ref (A 0)), (1, .int (zI z1)), (2, .int (zI z2)), (3, .ref o)] := hl
  refine lv_aload_n hx hb dL_shared_0 rfl (lv_at hl 3 rfl) ?_
  refine lv_iconst (v := zI 0) hx hb dL_shared_1 rfl ?_
  refine lv_aload_n hx hb dL_shared_2 rfl (lv_at hl 0 rfl) ?_
  refine lv_iload_n hx hb dL_shared_3 rfl (lv_at hl 1 rfl) ?_
  refine lv_iload_n hx hb dL_shared_4 rfl (lv_at hl 2 rfl) ?_
  refine g_goi (vx_runV (As := [.int (zI z1), .int (zI z2)]) (rest := [.int (zI 0), .ref o]) ⟨hx, hb, hml, hown, hts⟩ (x_shared_ok l G A TA S W9 H hC hI z1 z2 i j hz1 hi hz2 hj) (cwV 2 hts gL_shared_X4_shared rfl rfl rfl hd_X4_shared ⟨(Nat.le_of_ble_eq_true rfl), (Nat.le_of_ble_eq_true rfl)⟩) (g_preV hX hS (ci := 4) rfl hC.1) rfl rfl hl.1 rfl (lv_room (Nat.le_of_ble_eq_true rfl)) dL_shared_5 ⟨(Nat.le_of_ble_eq_true rfl), (Nat.le_of_ble_eq_true rfl)⟩) hS (fun r_5 H_5 locs hp hS => ?_)
  obtain ⟨rfl, rfl⟩ := hp
  have hLX := LX.same o hC
  refine lv_i2l hx hb dL_shared_8 rfl ?_
  refine gz_last hx hb hX hS ho go 0 (by omega) (by omega) (by omega) dL_shared_9 (fun H_9 locs h_n hO hS => ?_)
  have ho : gat G o (.inl (gJ G, 1, .inr (.inl (vp_updL fo 0 ((zI ((sharedF S i j : Nat) : Int)).toInt64))))) H_9 := h_n
  refine lv_goto (tgt := 17) hx hb dL_shared_10 (by decide) ?_
  refine lv_iconst (v := zI 0) hx hb dL_shared_17 rfl ?_
  exact g_reti hx hb hr hlocks hS rfl (⟨rfl, hLX.put hO hol no, ⟨_, ho, if_pos rfl⟩⟩) (Nat.le_of_ble_eq_true rfl) (Nat.le_of_ble_eq_true rfl) dL_shared_18
set_option maxHeartbeats 4000000 in
set_option maxRecDepth 100000 in
theorem w_shared_e1 (l : Launch) (G : gG) (hlf : l.stackTraces = false) (A : Nat → Nat) (TA : Nat → Nat → Nat) (S : cS) (W9 : cWk) (H : Heap) (hC : Cat G A TA S W9 H) (hI : sInv S) (z1 : Int) (z2 : Int) (hz1 : rI z1) (hz2 : rI z2) (hi : ¬ (0 ≤ z1 ∧ z1 < sn S)) (o : Nat) (ho0 : LU G o H) (go : gB G ≤ o) (no : ¬ own A TA (sn S) o) : gM l yL_shared wsL_shared rm_L_shared [.ref (A 0), .int (zI z1), .int (zI z2), .ref o] G H (gi (fun r H1 => zI 1 = r ∧ LX G A TA TA S S o H H1 ∧ LU G o H1)) (gNo) 6 60 := by
  obtain ⟨fo, ho⟩ := ho0
  have hol := va_at.lt ho
  refine g_startW (cc := cL_shared) (maxL := 5) (ret := (some .int)) (hh := [(0, 10, 13, 21)]) (by decide +kernel) rfl (Nat.le_of_ble_eq_true rfl) ?_
  intro p e s m args below meth c F ls hl
  obtain ⟨hx, hb, hml, hr, hts, hown, hlocks, hxt, hH, hX, hin⟩ := F
  have hown : s.vm.findClass RL = some m.cls := hown
  have hS : va_S (gA G) s.heap H [] := by rw [hH]; exact va_S.rf
  have hl : lv_has ls 5 [(0, .ref (A 0)), (1, .int (zI z1)), (2, .int (zI z2)), (3, .ref o)] := hl
  refine lv_aload_n hx hb dL_shared_0 rfl (lv_at hl 3 rfl) ?_
  refine lv_iconst (v := zI 0) hx hb dL_shared_1 rfl ?_
  refine lv_aload_n hx hb dL_shared_2 rfl (lv_at hl 0 rfl) ?_
  refine lv_iload_n hx hb dL_shared_3 rfl (lv_at hl 1 rfl) ?_
  refine lv_iload_n hx hb dL_shared_4 rfl (lv_at hl 2 rfl) ?_
  refine g_go (vx_runV (As := [.int (zI z1), .int (zI z2)]) (rest := [.int (zI 0), .ref o]) ⟨hx, hb, hml, hown, hts⟩ (x_shared_e1 l G hlf A TA S W9 H hC hI z1 z2 hz1 hz2 hi) (cwV 2 hts gL_shared_X4_shared rfl rfl rfl hd_X4_shared ⟨(Nat.le_of_ble_eq_true rfl), (Nat.le_of_ble_eq_true rfl)⟩) (g_preV hX hS (ci := 4) rfl hC.1) rfl rfl hl.1 rfl (lv_room (Nat.le_of_ble_eq_true rfl)) dL_shared_5 ⟨(Nat.le_of_ble_eq_true rfl), (Nat.le_of_ble_eq_true rfl)⟩) hS (fun E ce q9 H_5 locs hp hS hce hcv hcl => ?_) (fun v H1 locs h hS => h.elim)
  obtain ⟨rfl, hE9⟩ := hp
  have hLX := LX.ext o hC hE9
  have ho := ho.ext hE9
  refine g_catch hX hown [] ⟨0, 10, 13, 21⟩ [] hxt (fun _ h => absurd h List.not_mem_nil) (by decide +kernel) rfl (by decide) (hts (.classLink RL 21 "java/lang/IndexOutOfBoundsException") (List.mem_cons_of_mem _ (List.mem_append_left _ (List.mem_append_left _ (List.mem_append_left _ (List.mem_append_left _ (List.mem_append_left _ (List.mem_of_getElem? (i := 0) rfl)))))))) (by decide +kernel) hce hcv hcl ?_
  refine W.eq (g2 := F0 m 13 ls [.ref q9]) rfl ?_
  refine lv_astore (lv' := [(4, .ref q9), (0, .ref (A 0)), (1, .int (zI z1)), (2, .int (zI z2)), (3, .ref o)]) hx hb dL_shared_13 hl (by decide) rfl (fun ls hl => ?_)
  refine lv_iconst (v := zI 1) hx hb dL_shared_15 rfl ?_
  exact g_reti hx hb hr hlocks hS rfl (⟨rfl, hLX, ⟨_, ho⟩⟩) (Nat.le_of_ble_eq_true rfl) (Nat.le_of_ble_eq_true rfl) dL_shared_16
set_option maxHeartbeats 4000000 in
set_option maxRecDepth 100000 in
theorem w_shared_e2 (l : Launch) (G : gG) (hlf : l.stackTraces = false) (A : Nat → Nat) (TA : Nat → Nat → Nat) (S : cS) (W9 : cWk) (H : Heap) (hC : Cat G A TA S W9 H) (hI : sInv S) (z1 : Int) (z2 : Int) (i : Nat) (hz1 : z1 = i) (hi : i < sn S) (hz2 : rI z2) (hj : ¬ (0 ≤ z2 ∧ z2 < sn S)) (o : Nat) (ho0 : LU G o H) (go : gB G ≤ o) (no : ¬ own A TA (sn S) o) : gM l yL_shared wsL_shared rm_L_shared [.ref (A 0), .int (zI z1), .int (zI z2), .ref o] G H (gi (fun r H1 => zI 1 = r ∧ LX G A TA TA S S o H H1 ∧ LU G o H1)) (gNo) 6 60 := by
  obtain ⟨fo, ho⟩ := ho0
  have hol := va_at.lt ho
  refine g_startW (cc := cL_shared) (maxL := 5) (ret := (some .int)) (hh := [(0, 10, 13, 21)]) (by decide +kernel) rfl (Nat.le_of_ble_eq_true rfl) ?_
  intro p e s m args below meth c F ls hl
  obtain ⟨hx, hb, hml, hr, hts, hown, hlocks, hxt, hH, hX, hin⟩ := F
  have hown : s.vm.findClass RL = some m.cls := hown
  have hS : va_S (gA G) s.heap H [] := by rw [hH]; exact va_S.rf
  have hl : lv_has ls 5 [(0, .ref (A 0)), (1, .int (zI z1)), (2, .int (zI z2)), (3, .ref o)] := hl
  refine lv_aload_n hx hb dL_shared_0 rfl (lv_at hl 3 rfl) ?_
  refine lv_iconst (v := zI 0) hx hb dL_shared_1 rfl ?_
  refine lv_aload_n hx hb dL_shared_2 rfl (lv_at hl 0 rfl) ?_
  refine lv_iload_n hx hb dL_shared_3 rfl (lv_at hl 1 rfl) ?_
  refine lv_iload_n hx hb dL_shared_4 rfl (lv_at hl 2 rfl) ?_
  refine g_go (vx_runV (As := [.int (zI z1), .int (zI z2)]) (rest := [.int (zI 0), .ref o]) ⟨hx, hb, hml, hown, hts⟩ (x_shared_e2 l G hlf A TA S W9 H hC hI z1 z2 i hz1 hi hz2 hj) (cwV 2 hts gL_shared_X4_shared rfl rfl rfl hd_X4_shared ⟨(Nat.le_of_ble_eq_true rfl), (Nat.le_of_ble_eq_true rfl)⟩) (g_preV hX hS (ci := 4) rfl hC.1) rfl rfl hl.1 rfl (lv_room (Nat.le_of_ble_eq_true rfl)) dL_shared_5 ⟨(Nat.le_of_ble_eq_true rfl), (Nat.le_of_ble_eq_true rfl)⟩) hS (fun E ce q9 H_5 locs hp hS hce hcv hcl => ?_) (fun v H1 locs h hS => h.elim)
  obtain ⟨rfl, hE9⟩ := hp
  have hLX := LX.ext o hC hE9
  have ho := ho.ext hE9
  refine g_catch hX hown [] ⟨0, 10, 13, 21⟩ [] hxt (fun _ h => absurd h List.not_mem_nil) (by decide +kernel) rfl (by decide) (hts (.classLink RL 21 "java/lang/IndexOutOfBoundsException") (List.mem_cons_of_mem _ (List.mem_append_left _ (List.mem_append_left _ (List.mem_append_left _ (List.mem_append_left _ (List.mem_append_left _ (List.mem_of_getElem? (i := 0) rfl)))))))) (by decide +kernel) hce hcv hcl ?_
  refine W.eq (g2 := F0 m 13 ls [.ref q9]) rfl ?_
  refine lv_astore (lv' := [(4, .ref q9), (0, .ref (A 0)), (1, .int (zI z1)), (2, .int (zI z2)), (3, .ref o)]) hx hb dL_shared_13 hl (by decide) rfl (fun ls hl => ?_)
  refine lv_iconst (v := zI 1) hx hb dL_shared_15 rfl ?_
  exact g_reti hx hb hr hlocks hS rfl (⟨rfl, hLX, ⟨_, ho⟩⟩) (Nat.le_of_ble_eq_true rfl) (Nat.le_of_ble_eq_true rfl) dL_shared_16
set_option maxHeartbeats 4000000 in
set_option maxRecDepth 100000 in
theorem w_hum_ok (l : Launch) (G : gG) (A : Nat → Nat) (TA : Nat → Nat → Nat) (S : cS) (W9 : cWk) (H : Heap) (hC : Cat G A TA S W9 H) (hI : sInv S) (p1 : Int) (hp0 : rI p1) (h60 : 0 ≤ p1 ∧ p1 ≤ 60) (h12 : shn S < 12) (o : Nat) (ho0 : LU G o H) (go : gB G ≤ o) (no : ¬ own A TA (sn S) o) : gM l yL_hum wsL_hum rm_L_hum [.ref (A 0), .int (zI p1), .ref o] G H (gi (fun r H1 => zI 0 = r ∧ LX G A TA TA S (sHum S p1) o H H1 ∧ LO G o H1 ((shn S + 1 : Nat) : Int))) (gNo) 6 60 := by
  obtain ⟨fo, ho⟩ := ho0
  have hol := va_at.lt ho
  refine g_startW (cc := cL_hum) (maxL := 4) (ret := (some .int)) (hh := [(0, 9, 12, 13), (0, 9, 15, 15)]) (by decide +kernel) rfl (Nat.le_of_ble_eq_true rfl) ?_
  intro p e s m args below meth c F ls hl
  obtain ⟨hx, hb, hml, hr, hts, hown, hlocks, hxt, hH, hX, hin⟩ := F
  have hown : s.vm.findClass RL = some m.cls := hown
  have hS : va_S (gA G) s.heap H [] := by rw [hH]; exact va_S.rf
  have hl : lv_has ls 4 [(0, .ref (A 0)), (1, .int (zI p1)), (2, .ref o)] := hl
  refine lv_aload_n hx hb dL_hum_0 rfl (lv_at hl 2 rfl) ?_
  refine lv_iconst (v := zI 0) hx hb dL_hum_1 rfl ?_
  refine lv_aload_n hx hb dL_hum_2 rfl (lv_at hl 0 rfl) ?_
  refine lv_iload_n hx hb dL_hum_3 rfl (lv_at hl 1 rfl) ?_
  refine g_goi (vx_runV (As := [.int (zI p1)]) (rest := [.int (zI 0), .ref o]) ⟨hx, hb, hml, hown, hts⟩ (x_hum_ok l G A TA S W9 H hC hI p1 hp0 h60 h12) (cwV 1 hts gL_hum_X4_hum rfl rfl rfl hd_X4_hum ⟨(Nat.le_of_ble_eq_true rfl), (Nat.le_of_ble_eq_true rfl)⟩) (g_preV hX hS (ci := 4) rfl hC.1) rfl rfl hl.1 rfl (lv_room (Nat.le_of_ble_eq_true rfl)) dL_hum_4 ⟨(Nat.le_of_ble_eq_true rfl), (Nat.le_of_ble_eq_true rfl)⟩) hS (fun r_4 H_4 locs hp hS => ?_)
  obtain ⟨rfl, hxp⟩ := hp
  have hLX := LX.xp o hxp rfl
  have ho := ho.kp hxp.2 no
  refine lv_i2l hx hb dL_hum_7 rfl ?_
  refine gz_last hx hb hX hS ho go 0 (by omega) (by omega) (by omega) dL_hum_8 (fun H_8 locs h_n hO hS => ?_)
  have ho : gat G o (.inl (gJ G, 1, .inr (.inl (vp_updL fo 0 ((zI ((shn S + 1 : Nat) : Int)).toInt64))))) H_8 := h_n
  refine lv_goto (tgt := 18) hx hb dL_hum_9 (by decide) ?_
  refine lv_iconst (v := zI 0) hx hb dL_hum_18 rfl ?_
  exact g_reti hx hb hr hlocks hS rfl (⟨rfl, hLX.put hO hol no, ⟨_, ho, if_pos rfl⟩⟩) (Nat.le_of_ble_eq_true rfl) (Nat.le_of_ble_eq_true rfl) dL_hum_19
set_option maxHeartbeats 4000000 in
set_option maxRecDepth 100000 in
theorem w_hum_e1 (l : Launch) (G : gG) (hlf : l.stackTraces = false) (A : Nat → Nat) (TA : Nat → Nat → Nat) (S : cS) (W9 : cWk) (H : Heap) (hC : Cat G A TA S W9 H) (hI : sInv S) (p1 : Int) (hp0 : rI p1) (h60 : ¬ (0 ≤ p1 ∧ p1 ≤ 60)) (o : Nat) (ho0 : LU G o H) (go : gB G ≤ o) (no : ¬ own A TA (sn S) o) : gM l yL_hum wsL_hum rm_L_hum [.ref (A 0), .int (zI p1), .ref o] G H (gi (fun r H1 => zI 1 = r ∧ LX G A TA TA S S o H H1 ∧ LU G o H1)) (gNo) 6 60 := by
  obtain ⟨fo, ho⟩ := ho0
  have hol := va_at.lt ho
  refine g_startW (cc := cL_hum) (maxL := 4) (ret := (some .int)) (hh := [(0, 9, 12, 13), (0, 9, 15, 15)]) (by decide +kernel) rfl (Nat.le_of_ble_eq_true rfl) ?_
  intro p e s m args below meth c F ls hl
  obtain ⟨hx, hb, hml, hr, hts, hown, hlocks, hxt, hH, hX, hin⟩ := F
  have hown : s.vm.findClass RL = some m.cls := hown
  have hS : va_S (gA G) s.heap H [] := by rw [hH]; exact va_S.rf
  have hl : lv_has ls 4 [(0, .ref (A 0)), (1, .int (zI p1)), (2, .ref o)] := hl
  refine lv_aload_n hx hb dL_hum_0 rfl (lv_at hl 2 rfl) ?_
  refine lv_iconst (v := zI 0) hx hb dL_hum_1 rfl ?_
  refine lv_aload_n hx hb dL_hum_2 rfl (lv_at hl 0 rfl) ?_
  refine lv_iload_n hx hb dL_hum_3 rfl (lv_at hl 1 rfl) ?_
  refine g_go (vx_runV (As := [.int (zI p1)]) (rest := [.int (zI 0), .ref o]) ⟨hx, hb, hml, hown, hts⟩ (x_hum_e1 l G hlf A TA S W9 H hC hI p1 hp0 h60) (cwV 1 hts gL_hum_X4_hum rfl rfl rfl hd_X4_hum ⟨(Nat.le_of_ble_eq_true rfl), (Nat.le_of_ble_eq_true rfl)⟩) (g_preV hX hS (ci := 4) rfl hC.1) rfl rfl hl.1 rfl (lv_room (Nat.le_of_ble_eq_true rfl)) dL_hum_4 ⟨(Nat.le_of_ble_eq_true rfl), (Nat.le_of_ble_eq_true rfl)⟩) hS (fun E ce q9 H_4 locs hp hS hce hcv hcl => ?_) (fun v H1 locs h hS => h.elim)
  obtain ⟨rfl, hE9⟩ := hp
  have hLX := LX.ext o hC hE9
  have ho := ho.ext hE9
  refine g_catch hX hown [] ⟨0, 9, 12, 13⟩ [⟨0, 9, 15, 15⟩] hxt (fun _ h => absurd h List.not_mem_nil) (by decide +kernel) rfl (by decide) (hts (.classLink RL 13 "java/lang/IllegalArgumentException") (List.mem_cons_of_mem _ (List.mem_append_left _ (List.mem_append_left _ (List.mem_append_left _ (List.mem_append_left _ (List.mem_append_left _ (List.mem_of_getElem? (i := 0) rfl)))))))) (by decide +kernel) hce hcv hcl ?_
  refine W.eq (g2 := F0 m 12 ls [.ref q9]) rfl ?_
  refine lv_astore_n (lv' := [(3, .ref q9), (0, .ref (A 0)), (1, .int (zI p1)), (2, .ref o)]) hx hb dL_hum_12 rfl hl (by decide) rfl (fun ls hl => ?_)
  refine lv_iconst (v := zI 1) hx hb dL_hum_13 rfl ?_
  exact g_reti hx hb hr hlocks hS rfl (⟨rfl, hLX, ⟨_, ho⟩⟩) (Nat.le_of_ble_eq_true rfl) (Nat.le_of_ble_eq_true rfl) dL_hum_14
set_option maxHeartbeats 4000000 in
set_option maxRecDepth 100000 in
theorem w_hum_e2 (l : Launch) (G : gG) (hlf : l.stackTraces = false) (A : Nat → Nat) (TA : Nat → Nat → Nat) (S : cS) (W9 : cWk) (H : Heap) (hC : Cat G A TA S W9 H) (hI : sInv S) (p1 : Int) (hp0 : rI p1) (h60 : 0 ≤ p1 ∧ p1 ≤ 60) (h12 : ¬ shn S < 12) (o : Nat) (ho0 : LU G o H) (go : gB G ≤ o) (no : ¬ own A TA (sn S) o) : gM l yL_hum wsL_hum rm_L_hum [.ref (A 0), .int (zI p1), .ref o] G H (gi (fun r H1 => zI 2 = r ∧ LX G A TA TA S S o H H1 ∧ LU G o H1)) (gNo) 6 60 := by
  obtain ⟨fo, ho⟩ := ho0
  have hol := va_at.lt ho
  refine g_startW (cc := cL_hum) (maxL := 4) (ret := (some .int)) (hh := [(0, 9, 12, 13), (0, 9, 15, 15)]) (by decide +kernel) rfl (Nat.le_of_ble_eq_true rfl) ?_
  intro p e s m args below meth c F ls hl
  obtain ⟨hx, hb, hml, hr, hts, hown, hlocks, hxt, hH, hX, hin⟩ := F
  have hown : s.vm.findClass RL = some m.cls := hown
  have hS : va_S (gA G) s.heap H [] := by rw [hH]; exact va_S.rf
  have hl : lv_has ls 4 [(0, .ref (A 0)), (1, .int (zI p1)), (2, .ref o)] := hl
  refine lv_aload_n hx hb dL_hum_0 rfl (lv_at hl 2 rfl) ?_
  refine lv_iconst (v := zI 0) hx hb dL_hum_1 rfl ?_
  refine lv_aload_n hx hb dL_hum_2 rfl (lv_at hl 0 rfl) ?_
  refine lv_iload_n hx hb dL_hum_3 rfl (lv_at hl 1 rfl) ?_
  refine g_go (vx_runV (As := [.int (zI p1)]) (rest := [.int (zI 0), .ref o]) ⟨hx, hb, hml, hown, hts⟩ (x_hum_e2 l G hlf A TA S W9 H hC hI p1 hp0 h60 h12) (cwV 1 hts gL_hum_X4_hum rfl rfl rfl hd_X4_hum ⟨(Nat.le_of_ble_eq_true rfl), (Nat.le_of_ble_eq_true rfl)⟩) (g_preV hX hS (ci := 4) rfl hC.1) rfl rfl hl.1 rfl (lv_room (Nat.le_of_ble_eq_true rfl)) dL_hum_4 ⟨(Nat.le_of_ble_eq_true rfl), (Nat.le_of_ble_eq_true rfl)⟩) hS (fun E ce q9 H_4 locs hp hS hce hcv hcl => ?_) (fun v H1 locs h hS => h.elim)
  obtain ⟨rfl, hE9⟩ := hp
  have hLX := LX.ext o hC hE9
  have ho := ho.ext hE9
  refine g_catch hX hown [⟨0, 9, 12, 13⟩] ⟨0, 9, 15, 15⟩ [] hxt (List.forall_mem_cons.mpr ⟨⟨by decide, "java/lang/IllegalArgumentException", (hts (.classLink RL 13 "java/lang/IllegalArgumentException") (List.mem_cons_of_mem _ (List.mem_append_left _ (List.mem_append_left _ (List.mem_append_left _ (List.mem_append_left _ (List.mem_append_left _ (List.mem_of_getElem? (i := 0) rfl)))))))), by decide +kernel, by decide +kernel⟩, (fun _ h => absurd h List.not_mem_nil)⟩) (by decide +kernel) rfl (by decide) (hts (.classLink RL 15 "java/lang/IllegalStateException") (List.mem_cons_of_mem _ (List.mem_append_left _ (List.mem_append_left _ (List.mem_append_left _ (List.mem_append_left _ (List.mem_append_left _ (List.mem_of_getElem? (i := 1) rfl)))))))) (by decide +kernel) hce hcv hcl ?_
  refine W.eq (g2 := F0 m 15 ls [.ref q9]) rfl ?_
  refine lv_astore_n (lv' := [(3, .ref q9), (0, .ref (A 0)), (1, .int (zI p1)), (2, .ref o)]) hx hb dL_hum_15 rfl hl (by decide) rfl (fun ls hl => ?_)
  refine lv_iconst (v := zI 2) hx hb dL_hum_16 rfl ?_
  exact g_reti hx hb hr hlocks hS rfl (⟨rfl, hLX, ⟨_, ho⟩⟩) (Nat.le_of_ble_eq_true rfl) (Nat.le_of_ble_eq_true rfl) dL_hum_17
set_option maxHeartbeats 4000000 in
set_option maxRecDepth 100000 in
theorem w_setCosts_ok (l : Launch) (G : gG) (A : Nat → Nat) (TA : Nat → Nat → Nat) (S : cS) (W9 : cWk) (H : Heap) (hC : Cat G A TA S W9 H) (hI : sInv S) (c1 : Int) (c2 : Int) (c3 : Int) (hc1 : rI c1) (hc2 : rI c2) (hc3 : rI c3) (h : (0 ≤ c1 ∧ c1 ≤ 20) ∧ (0 ≤ c2 ∧ c2 ≤ 20) ∧ 0 ≤ c3 ∧ c3 ≤ 20) (o : Nat) (ho0 : LU G o H) (go : gB G ≤ o) (no : ¬ own A TA (sn S) o) : gM l yL_setCosts wsL_setCosts rm_L_setCosts [.ref (A 0), .int (zI c1), .int (zI c2), .int (zI c3)] G H (gi (fun r H1 => zI 0 = r ∧ LX G A TA TA S (sCost S c1 c2 c3) o H H1 ∧ LU G o H1)) (gNo) 6 60 := by
  obtain ⟨fo, ho⟩ := ho0
  have hol := va_at.lt ho
  refine g_startW (cc := cL_setCosts) (maxL := 5) (ret := (some .int)) (hh := [(0, 7, 10, 13)]) (by decide +kernel) rfl (Nat.le_of_ble_eq_true rfl) ?_
  intro p e s m args below meth c F ls hl
  obtain ⟨hx, hb, hml, hr, hts, hown, hlocks, hxt, hH, hX, hin⟩ := F
  have hown : s.vm.findClass RL = some m.cls := hown
  have hS : va_S (gA G) s.heap H [] := by rw [hH]; exact va_S.rf
  have hl : lv_has ls 5 [(0, .ref (A 0)), (1, .int (zI c1)), (2, .int (zI c2)), (3, .int (zI c3))] := hl
  refine lv_aload_n hx hb dL_setCosts_0 rfl (lv_at hl 0 rfl) ?_
  refine lv_iload_n hx hb dL_setCosts_1 rfl (lv_at hl 1 rfl) ?_
  refine lv_iload_n hx hb dL_setCosts_2 rfl (lv_at hl 2 rfl) ?_
  refine lv_iload_n hx hb dL_setCosts_3 rfl (lv_at hl 3 rfl) ?_
  refine g_gov (vx_runV (As := [.int (zI c1), .int (zI c2), .int (zI c3)]) (rest := []) ⟨hx, hb, hml, hown, hts⟩ (x_setCosts_ok l G A TA S W9 H hC hI c1 c2 c3 hc1 hc2 hc3 h) (cwV 3 hts gL_setCosts_X4_setCosts rfl rfl rfl hd_X4_setCosts ⟨(Nat.le_of_ble_eq_true rfl), (Nat.le_of_ble_eq_true rfl)⟩) (g_preV hX hS (ci := 4) rfl hC.1) rfl rfl hl.1 rfl (lv_room (Nat.le_of_ble_eq_true rfl)) dL_setCosts_4 ⟨(Nat.le_of_ble_eq_true rfl), (Nat.le_of_ble_eq_true rfl)⟩) hS (fun H_4 locs hp hS => ?_)
  have hxp := hp
  have hLX := LX.xp o hxp rfl
  have ho := ho.kp hxp.2 no
  refine lv_goto (tgt := 14) hx hb dL_setCosts_7 (by decide) ?_
  refine lv_iconst (v := zI 0) hx hb dL_setCosts_14 rfl ?_
  exact g_reti hx hb hr hlocks hS rfl (⟨rfl, hLX, ⟨_, ho⟩⟩) (Nat.le_of_ble_eq_true rfl) (Nat.le_of_ble_eq_true rfl) dL_setCosts_15
set_option maxHeartbeats 4000000 in
set_option maxRecDepth 100000 in
theorem w_setCosts_e1 (l : Launch) (G : gG) (hlf : l.stackTraces = false) (A : Nat → Nat) (TA : Nat → Nat → Nat) (S : cS) (W9 : cWk) (H : Heap) (hC : Cat G A TA S W9 H) (hI : sInv S) (c1 : Int) (c2 : Int) (c3 : Int) (hc1 : rI c1) (hc2 : rI c2) (hc3 : rI c3) (h : ¬ (0 ≤ c1 ∧ c1 ≤ 20)) (o : Nat) (ho0 : LU G o H) (go : gB G ≤ o) (no : ¬ own A TA (sn S) o) : gM l yL_setCosts wsL_setCosts rm_L_setCosts [.ref (A 0), .int (zI c1), .int (zI c2), .int (zI c3)] G H (gi (fun r H1 => zI 1 = r ∧ LX G A TA TA S S o H H1 ∧ LU G o H1)) (gNo) 6 60 := by
  obtain ⟨fo, ho⟩ := ho0
  have hol := va_at.lt ho
  refine g_startW (cc := cL_setCosts) (maxL := 5) (ret := (some .int)) (hh := [(0, 7, 10, 13)]) (by decide +kernel) rfl (Nat.le_of_ble_eq_true rfl) ?_
  intro p e s m args below meth c F ls hl
  obtain ⟨hx, hb, hml, hr, hts, hown, hlocks, hxt, hH, hX, hin⟩ := F
  have hown : s.vm.findClass RL = some m.cls := hown
  have hS : va_S (gA G) s.heap H [] := by rw [hH]; exact va_S.rf
  have hl : lv_has ls 5 [(0, .ref (A 0)), (1, .int (zI c1)), (2, .int (zI c2)), (3, .int (zI c3))] := hl
  refine lv_aload_n hx hb dL_setCosts_0 rfl (lv_at hl 0 rfl) ?_
  refine lv_iload_n hx hb dL_setCosts_1 rfl (lv_at hl 1 rfl) ?_
  refine lv_iload_n hx hb dL_setCosts_2 rfl (lv_at hl 2 rfl) ?_
  refine lv_iload_n hx hb dL_setCosts_3 rfl (lv_at hl 3 rfl) ?_
  refine g_go (vx_runV (As := [.int (zI c1), .int (zI c2), .int (zI c3)]) (rest := []) ⟨hx, hb, hml, hown, hts⟩ (x_setCosts_1 l G hlf A TA S W9 H hC hI c1 c2 c3 hc1 hc2 hc3 h) (cwV 3 hts gL_setCosts_X4_setCosts rfl rfl rfl hd_X4_setCosts ⟨(Nat.le_of_ble_eq_true rfl), (Nat.le_of_ble_eq_true rfl)⟩) (g_preV hX hS (ci := 4) rfl hC.1) rfl rfl hl.1 rfl (lv_room (Nat.le_of_ble_eq_true rfl)) dL_setCosts_4 ⟨(Nat.le_of_ble_eq_true rfl), (Nat.le_of_ble_eq_true rfl)⟩) hS (fun E ce q9 H_4 locs hp hS hce hcv hcl => ?_) (fun v H1 locs h hS => h.elim)
  obtain ⟨rfl, hE9⟩ := hp
  have hLX := LX.ext o hC hE9
  have ho := ho.ext hE9
  refine g_catch hX hown [] ⟨0, 7, 10, 13⟩ [] hxt (fun _ h => absurd h List.not_mem_nil) (by decide +kernel) rfl (by decide) (hts (.classLink RL 13 "java/lang/IllegalArgumentException") (List.mem_cons_of_mem _ (List.mem_append_left _ (List.mem_append_left _ (List.mem_append_left _ (List.mem_of_getElem? (i := 0) rfl)))))) (by decide +kernel) hce hcv hcl ?_
  refine W.eq (g2 := F0 m 10 ls [.ref q9]) rfl ?_
  refine lv_astore (lv' := [(4, .ref q9), (0, .ref (A 0)), (1, .int (zI c1)), (2, .int (zI c2)), (3, .int (zI c3))]) hx hb dL_setCosts_10 hl (by decide) rfl (fun ls hl => ?_)
  refine lv_iconst (v := zI 1) hx hb dL_setCosts_12 rfl ?_
  exact g_reti hx hb hr hlocks hS rfl (⟨rfl, hLX, ⟨_, ho⟩⟩) (Nat.le_of_ble_eq_true rfl) (Nat.le_of_ble_eq_true rfl) dL_setCosts_13
set_option maxHeartbeats 4000000 in
set_option maxRecDepth 100000 in
theorem w_setCosts_e2 (l : Launch) (G : gG) (hlf : l.stackTraces = false) (A : Nat → Nat) (TA : Nat → Nat → Nat) (S : cS) (W9 : cWk) (H : Heap) (hC : Cat G A TA S W9 H) (hI : sInv S) (c1 : Int) (c2 : Int) (c3 : Int) (hc1 : rI c1) (hc2 : rI c2) (hc3 : rI c3) (h1c : 0 ≤ c1 ∧ c1 ≤ 20) (h : ¬ (0 ≤ c2 ∧ c2 ≤ 20)) (o : Nat) (ho0 : LU G o H) (go : gB G ≤ o) (no : ¬ own A TA (sn S) o) : gM l yL_setCosts wsL_setCosts rm_L_setCosts [.ref (A 0), .int (zI c1), .int (zI c2), .int (zI c3)] G H (gi (fun r H1 => zI 1 = r ∧ LX G A TA TA S S o H H1 ∧ LU G o H1)) (gNo) 6 60 := by
  obtain ⟨fo, ho⟩ := ho0
  have hol := va_at.lt ho
  refine g_startW (cc := cL_setCosts) (maxL := 5) (ret := (some .int)) (hh := [(0, 7, 10, 13)]) (by decide +kernel) rfl (Nat.le_of_ble_eq_true rfl) ?_
  intro p e s m args below meth c F ls hl
  obtain ⟨hx, hb, hml, hr, hts, hown, hlocks, hxt, hH, hX, hin⟩ := F
  have hown : s.vm.findClass RL = some m.cls := hown
  have hS : va_S (gA G) s.heap H [] := by rw [hH]; exact va_S.rf
  have hl : lv_has ls 5 [(0, .ref (A 0)), (1, .int (zI c1)), (2, .int (zI c2)), (3, .int (zI c3))] := hl
  refine lv_aload_n hx hb dL_setCosts_0 rfl (lv_at hl 0 rfl) ?_
  refine lv_iload_n hx hb dL_setCosts_1 rfl (lv_at hl 1 rfl) ?_
  refine lv_iload_n hx hb dL_setCosts_2 rfl (lv_at hl 2 rfl) ?_
  refine lv_iload_n hx hb dL_setCosts_3 rfl (lv_at hl 3 rfl) ?_
  refine g_go (vx_runV (As := [.int (zI c1), .int (zI c2), .int (zI c3)]) (rest := []) ⟨hx, hb, hml, hown, hts⟩ (x_setCosts_2 l G hlf A TA S W9 H hC hI c1 c2 c3 hc1 hc2 hc3 h1c h) (cwV 3 hts gL_setCosts_X4_setCosts rfl rfl rfl hd_X4_setCosts ⟨(Nat.le_of_ble_eq_true rfl), (Nat.le_of_ble_eq_true rfl)⟩) (g_preV hX hS (ci := 4) rfl hC.1) rfl rfl hl.1 rfl (lv_room (Nat.le_of_ble_eq_true rfl)) dL_setCosts_4 ⟨(Nat.le_of_ble_eq_true rfl), (Nat.le_of_ble_eq_true rfl)⟩) hS (fun E ce q9 H_4 locs hp hS hce hcv hcl => ?_) (fun v H1 locs h hS => h.elim)
  obtain ⟨rfl, hE9⟩ := hp
  have hLX := LX.ext o hC hE9
  have ho := ho.ext hE9
  refine g_catch hX hown [] ⟨0, 7, 10, 13⟩ [] hxt (fun _ h => absurd h List.not_mem_nil) (by decide +kernel) rfl (by decide) (hts (.classLink RL 13 "java/lang/IllegalArgumentException") (List.mem_cons_of_mem _ (List.mem_append_left _ (List.mem_append_left _ (List.mem_append_left _ (List.mem_of_getElem? (i := 0) rfl)))))) (by decide +kernel) hce hcv hcl ?_
  refine W.eq (g2 := F0 m 10 ls [.ref q9]) rfl ?_
  refine lv_astore (lv' := [(4, .ref q9), (0, .ref (A 0)), (1, .int (zI c1)), (2, .int (zI c2)), (3, .int (zI c3))]) hx hb dL_setCosts_10 hl (by decide) rfl (fun ls hl => ?_)
  refine lv_iconst (v := zI 1) hx hb dL_setCosts_12 rfl ?_
  exact g_reti hx hb hr hlocks hS rfl (⟨rfl, hLX, ⟨_, ho⟩⟩) (Nat.le_of_ble_eq_true rfl) (Nat.le_of_ble_eq_true rfl) dL_setCosts_13
set_option maxHeartbeats 4000000 in
set_option maxRecDepth 100000 in
theorem w_setCosts_e3 (l : Launch) (G : gG) (hlf : l.stackTraces = false) (A : Nat → Nat) (TA : Nat → Nat → Nat) (S : cS) (W9 : cWk) (H : Heap) (hC : Cat G A TA S W9 H) (hI : sInv S) (c1 : Int) (c2 : Int) (c3 : Int) (hc1 : rI c1) (hc2 : rI c2) (hc3 : rI c3) (h1c : 0 ≤ c1 ∧ c1 ≤ 20) (h2c : 0 ≤ c2 ∧ c2 ≤ 20) (h : ¬ (0 ≤ c3 ∧ c3 ≤ 20)) (o : Nat) (ho0 : LU G o H) (go : gB G ≤ o) (no : ¬ own A TA (sn S) o) : gM l yL_setCosts wsL_setCosts rm_L_setCosts [.ref (A 0), .int (zI c1), .int (zI c2), .int (zI c3)] G H (gi (fun r H1 => zI 1 = r ∧ LX G A TA TA S S o H H1 ∧ LU G o H1)) (gNo) 6 60 := by
  obtain ⟨fo, ho⟩ := ho0
  have hol := va_at.lt ho
  refine g_startW (cc := cL_setCosts) (maxL := 5) (ret := (some .int)) (hh := [(0, 7, 10, 13)]) (by decide +kernel) rfl (Nat.le_of_ble_eq_true rfl) ?_
  intro p e s m args below meth c F ls hl
  obtain ⟨hx, hb, hml, hr, hts, hown, hlocks, hxt, hH, hX, hin⟩ := F
  have hown : s.vm.findClass RL = some m.cls := hown
  have hS : va_S (gA G) s.heap H [] := by rw [hH]; exact va_S.rf
  have hl : lv_has ls 5 [(0, .ref (A 0)), (1, .int (zI c1)), (2, .int (zI c2)), (3, .int (zI c3))] := hl
  refine lv_aload_n hx hb dL_setCosts_0 rfl (lv_at hl 0 rfl) ?_
  refine lv_iload_n hx hb dL_setCosts_1 rfl (lv_at hl 1 rfl) ?_
  refine lv_iload_n hx hb dL_setCosts_2 rfl (lv_at hl 2 rfl) ?_
  refine lv_iload_n hx hb dL_setCosts_3 rfl (lv_at hl 3 rfl) ?_
  refine g_go (vx_runV (As := [.int (zI c1), .int (zI c2), .int (zI c3)]) (rest := []) ⟨hx, hb, hml, hown, hts⟩ (x_setCosts_3 l G hlf A TA S W9 H hC hI c1 c2 c3 hc1 hc2 hc3 h1c h2c h) (cwV 3 hts gL_setCosts_X4_setCosts rfl rfl rfl hd_X4_setCosts ⟨(Nat.le_of_ble_eq_true rfl), (Nat.le_of_ble_eq_true rfl)⟩) (g_preV hX hS (ci := 4) rfl hC.1) rfl rfl hl.1 rfl (lv_room (Nat.le_of_ble_eq_true rfl)) dL_setCosts_4 ⟨(Nat.le_of_ble_eq_true rfl), (Nat.le_of_ble_eq_true rfl)⟩) hS (fun E ce q9 H_4 locs hp hS hce hcv hcl => ?_) (fun v H1 locs h hS => h.elim)
  obtain ⟨rfl, hE9⟩ := hp
  have hLX := LX.ext o hC hE9
  have ho := ho.ext hE9
  refine g_catch hX hown [] ⟨0, 7, 10, 13⟩ [] hxt (fun _ h => absurd h List.not_mem_nil) (by decide +kernel) rfl (by decide) (hts (.classLink RL 13 "java/lang/IllegalArgumentException") (List.mem_cons_of_mem _ (List.mem_append_left _ (List.mem_append_left _ (List.mem_append_left _ (List.mem_of_getElem? (i := 0) rfl)))))) (by decide +kernel) hce hcv hcl ?_
  refine W.eq (g2 := F0 m 10 ls [.ref q9]) rfl ?_
  refine lv_astore (lv' := [(4, .ref q9), (0, .ref (A 0)), (1, .int (zI c1)), (2, .int (zI c2)), (3, .int (zI c3))]) hx hb dL_setCosts_10 hl (by decide) rfl (fun ls hl => ?_)
  refine lv_iconst (v := zI 1) hx hb dL_setCosts_12 rfl ?_
  exact g_reti hx hb hr hlocks hS rfl (⟨rfl, hLX, ⟨_, ho⟩⟩) (Nat.le_of_ble_eq_true rfl) (Nat.le_of_ble_eq_true rfl) dL_setCosts_13
set_option maxHeartbeats 4000000 in
set_option maxRecDepth 100000 in
theorem w_cost_ok (l : Launch) (G : gG) (A : Nat → Nat) (TA : Nat → Nat → Nat) (S : cS) (W9 : cWk) (H : Heap) (hC : Cat G A TA S W9 H) (hI : sInv S) (z : Int) (i : Nat) (hz : z = i) (hi : i < sn S) (hk : srt S i = false) (o : Nat) (ho0 : LU G o H) (go : gB G ≤ o) (no : ¬ own A TA (sn S) o) : gM l yL_cost wsL_cost rm_L_cost [.ref (A 0), .int (zI z), .ref o] G H (gi (fun r H1 => zI 0 = r ∧ LX G A TA TA S S o H H1 ∧ LO G o H1 (costI (tX S i)))) (gNo) 6 60 := by
  obtain ⟨fo, ho⟩ := ho0
  have hol := va_at.lt ho
  refine g_startW (cc := cL_cost) (maxL := 4) (ret := (some .int)) (hh := [(0, 9, 12, 21)]) (by decide +kernel) rfl (Nat.le_of_ble_eq_true rfl) ?_
  intro p e s m args below meth c F ls hl
  obtain ⟨hx, hb, hml, hr, hts, hown, hlocks, hxt, hH, hX, hin⟩ := F
  have hown : s.vm.findClass RL = some m.cls := hown
  have hS : va_S (gA G) s.heap H [] := by rw [hH]; exact va_S.rf
  have hl : lv_has ls 4 [(0, .ref (A 0)), (1, .int (zI z)), (2, .ref o)] := hl
  refine lv_aload_n hx hb dL_cost_0 rfl (lv_at hl 2 rfl) ?_
  refine lv_iconst (v := zI 0) hx hb dL_cost_1 rfl ?_
  refine lv_aload_n hx hb dL_cost_2 rfl (lv_at hl 0 rfl) ?_
  refine lv_iload_n hx hb dL_cost_3 rfl (lv_at hl 1 rfl) ?_
  refine g_goi (vx_runV (As := [.int (zI z)]) (rest := [.int (zI 0), .ref o]) ⟨hx, hb, hml, hown, hts⟩ (x_cost_ok l G A TA S W9 H hC hI z i hz hi hk) (cwV 1 hts gL_cost_X4_cost rfl rfl rfl hd_X4_cost ⟨(Nat.le_of_ble_eq_true rfl), (Nat.le_of_ble_eq_true rfl)⟩) (g_preV hX hS (ci := 4) rfl hC.1) rfl rfl hl.1 rfl (lv_room (Nat.le_of_ble_eq_true rfl)) dL_cost_4 ⟨(Nat.le_of_ble_eq_true rfl), (Nat.le_of_ble_eq_true rfl)⟩) hS (fun r_4 H_4 locs hp hS => ?_)
  obtain ⟨rfl, hxp⟩ := hp
  have hLX := LX.xp o hxp rfl
  have ho := ho.kp hxp.2 no
  refine lv_i2l hx hb dL_cost_7 rfl ?_
  refine gz_last hx hb hX hS ho go 0 (by omega) (by omega) (by omega) dL_cost_8 (fun H_8 locs h_n hO hS => ?_)
  have ho : gat G o (.inl (gJ G, 1, .inr (.inl (vp_updL fo 0 ((zI (costI (tX S i))).toInt64))))) H_8 := h_n
  refine lv_goto (tgt := 15) hx hb dL_cost_9 (by decide) ?_
  refine lv_iconst (v := zI 0) hx hb dL_cost_15 rfl ?_
  exact g_reti hx hb hr hlocks hS rfl (⟨rfl, hLX.put hO hol no, ⟨_, ho, if_pos rfl⟩⟩) (Nat.le_of_ble_eq_true rfl) (Nat.le_of_ble_eq_true rfl) dL_cost_16
set_option maxHeartbeats 4000000 in
set_option maxRecDepth 100000 in
theorem w_cost_e1 (l : Launch) (G : gG) (hlf : l.stackTraces = false) (A : Nat → Nat) (TA : Nat → Nat → Nat) (S : cS) (W9 : cWk) (H : Heap) (hC : Cat G A TA S W9 H) (hI : sInv S) (z : Int) (hz : rI z) (hi : ¬ kwn S z) (o : Nat) (ho0 : LU G o H) (go : gB G ≤ o) (no : ¬ own A TA (sn S) o) : gM l yL_cost wsL_cost rm_L_cost [.ref (A 0), .int (zI z), .ref o] G H (gi (fun r H1 => zI 1 = r ∧ LX G A TA TA S S o H H1 ∧ LU G o H1)) (gNo) 6 60 := by
  obtain ⟨fo, ho⟩ := ho0
  have hol := va_at.lt ho
  refine g_startW (cc := cL_cost) (maxL := 4) (ret := (some .int)) (hh := [(0, 9, 12, 21)]) (by decide +kernel) rfl (Nat.le_of_ble_eq_true rfl) ?_
  intro p e s m args below meth c F ls hl
  obtain ⟨hx, hb, hml, hr, hts, hown, hlocks, hxt, hH, hX, hin⟩ := F
  have hown : s.vm.findClass RL = some m.cls := hown
  have hS : va_S (gA G) s.heap H [] := by rw [hH]; exact va_S.rf
  have hl : lv_has ls 4 [(0, .ref (A 0)), (1, .int (zI z)), (2, .ref o)] := hl
  refine lv_aload_n hx hb dL_cost_0 rfl (lv_at hl 2 rfl) ?_
  refine lv_iconst (v := zI 0) hx hb dL_cost_1 rfl ?_
  refine lv_aload_n hx hb dL_cost_2 rfl (lv_at hl 0 rfl) ?_
  refine lv_iload_n hx hb dL_cost_3 rfl (lv_at hl 1 rfl) ?_
  refine g_go (vx_runV (As := [.int (zI z)]) (rest := [.int (zI 0), .ref o]) ⟨hx, hb, hml, hown, hts⟩ (x_cost_e1 l G hlf A TA S W9 H hC hI z hz hi) (cwV 1 hts gL_cost_X4_cost rfl rfl rfl hd_X4_cost ⟨(Nat.le_of_ble_eq_true rfl), (Nat.le_of_ble_eq_true rfl)⟩) (g_preV hX hS (ci := 4) rfl hC.1) rfl rfl hl.1 rfl (lv_room (Nat.le_of_ble_eq_true rfl)) dL_cost_4 ⟨(Nat.le_of_ble_eq_true rfl), (Nat.le_of_ble_eq_true rfl)⟩) hS (fun E ce q9 H_4 locs hp hS hce hcv hcl => ?_) (fun v H1 locs h hS => h.elim)
  obtain ⟨rfl, hE9⟩ := hp
  have hLX := LX.ext o hC hE9
  have ho := ho.ext hE9
  refine g_catch hX hown [] ⟨0, 9, 12, 21⟩ [] hxt (fun _ h => absurd h List.not_mem_nil) (by decide +kernel) rfl (by decide) (hts (.classLink RL 21 "java/lang/IndexOutOfBoundsException") (List.mem_cons_of_mem _ (List.mem_append_left _ (List.mem_append_left _ (List.mem_append_left _ (List.mem_append_left _ (List.mem_append_left _ (List.mem_append_left _ (List.mem_of_getElem? (i := 0) rfl))))))))) (by decide +kernel) hce hcv hcl ?_
  refine W.eq (g2 := F0 m 12 ls [.ref q9]) rfl ?_
  refine lv_astore_n (lv' := [(3, .ref q9), (0, .ref (A 0)), (1, .int (zI z)), (2, .ref o)]) hx hb dL_cost_12 rfl hl (by decide) rfl (fun ls hl => ?_)
  refine lv_iconst (v := zI 1) hx hb dL_cost_13 rfl ?_
  exact g_reti hx hb hr hlocks hS rfl (⟨rfl, hLX, ⟨_, ho⟩⟩) (Nat.le_of_ble_eq_true rfl) (Nat.le_of_ble_eq_true rfl) dL_cost_14
set_option maxHeartbeats 4000000 in
set_option maxRecDepth 100000 in
theorem w_costByAll_ok (l : Launch) (G : gG) (A : Nat → Nat) (TA : Nat → Nat → Nat) (S : cS) (W9 : cWk) (H : Heap) (hC : Cat G A TA S W9 H) (hI : sInv S) (z : Int) (i : Nat) (hz : z = i) (hi : i < sn S) (hk : srt S i = false) (h8 : shn S ≤ 8) (o : Nat) (ho0 : LU G o H) (go : gB G ≤ o) (no : ¬ own A TA (sn S) o) : gM l yL_costByAll wsL_costByAll rm_L_costByAll [.ref (A 0), .int (zI z), .ref o] G H (gi (fun r H1 => zI 0 = r ∧ LX G A TA TA S S o H H1 ∧ LO G o H1 (costI (tX S i)))) (gNo) 6 60 := by
  obtain ⟨fo, ho⟩ := ho0
  have hol := va_at.lt ho
  refine g_startW (cc := cL_costByAll) (maxL := 4) (ret := (some .int)) (hh := [(0, 9, 12, 21), (0, 9, 15, 15)]) (by decide +kernel) rfl (Nat.le_of_ble_eq_true rfl) ?_
  intro p e s m args below meth c F ls hl
  obtain ⟨hx, hb, hml, hr, hts, hown, hlocks, hxt, hH, hX, hin⟩ := F
  have hown : s.vm.findClass RL = some m.cls := hown
  have hS : va_S (gA G) s.heap H [] := by rw [hH]; exact va_S.rf
  have hl : lv_has ls 4 [(0, .ref (A 0)), (1, .int (zI z)), (2, .ref o)] := hl
  refine lv_aload_n hx hb dL_costByAll_0 rfl (lv_at hl 2 rfl) ?_
  refine lv_iconst (v := zI 0) hx hb dL_costByAll_1 rfl ?_
  refine lv_aload_n hx hb dL_costByAll_2 rfl (lv_at hl 0 rfl) ?_
  refine lv_iload_n hx hb dL_costByAll_3 rfl (lv_at hl 1 rfl) ?_
  refine g_goi (vx_runV (As := [.int (zI z)]) (rest := [.int (zI 0), .ref o]) ⟨hx, hb, hml, hown, hts⟩ (x_costByAll_ok l G A TA S W9 H hC hI z i hz hi hk h8) (cwV 1 hts gL_costByAll_X4_costByAll rfl rfl rfl hd_X4_costByAll ⟨(Nat.le_of_ble_eq_true rfl), (Nat.le_of_ble_eq_true rfl)⟩) (g_preV hX hS (ci := 4) rfl hC.1) rfl rfl hl.1 rfl (lv_room (Nat.le_of_ble_eq_true rfl)) dL_costByAll_4 ⟨(Nat.le_of_ble_eq_true rfl), (Nat.le_of_ble_eq_true rfl)⟩) hS (fun r_4 H_4 locs hp hS => ?_)
  rw [try_cost (tX_ok hI i) (hI.2.1 i hi).1] at hp
  obtain ⟨rfl, rfl⟩ := hp
  have hLX := LX.same o hC
  refine lv_i2l hx hb dL_costByAll_7 rfl ?_
  refine gz_last hx hb hX hS ho go 0 (by omega) (by omega) (by omega) dL_costByAll_8 (fun H_8 locs h_n hO hS => ?_)
  have ho : gat G o (.inl (gJ G, 1, .inr (.inl (vp_updL fo 0 ((zI (costI (tX S i))).toInt64))))) H_8 := h_n
  refine lv_goto (tgt := 18) hx hb dL_costByAll_9 (by decide) ?_
  refine lv_iconst (v := zI 0) hx hb dL_costByAll_18 rfl ?_
  exact g_reti hx hb hr hlocks hS rfl (⟨rfl, hLX.put hO hol no, ⟨_, ho, if_pos rfl⟩⟩) (Nat.le_of_ble_eq_true rfl) (Nat.le_of_ble_eq_true rfl) dL_costByAll_19
set_option maxHeartbeats 4000000 in
set_option maxRecDepth 100000 in
theorem w_costByAll_e1 (l : Launch) (G : gG) (hlf : l.stackTraces = false) (A : Nat → Nat) (TA : Nat → Nat → Nat) (S : cS) (W9 : cWk) (H : Heap) (hC : Cat G A TA S W9 H) (hI : sInv S) (z : Int) (hz : rI z) (hi : ¬ kwn S z) (o : Nat) (ho0 : LU G o H) (go : gB G ≤ o) (no : ¬ own A TA (sn S) o) : gM l yL_costByAll wsL_costByAll rm_L_costByAll [.ref (A 0), .int (zI z), .ref o] G H (gi (fun r H1 => zI 1 = r ∧ LX G A TA TA S S o H H1 ∧ LU G o H1)) (gNo) 6 60 := by
  obtain ⟨fo, ho⟩ := ho0
  have hol := va_at.lt ho
  refine g_startW (cc := cL_costByAll) (maxL := 4) (ret := (some .int)) (hh := [(0, 9, 12, 21), (0, 9, 15, 15)]) (by decide +kernel) rfl (Nat.le_of_ble_eq_true rfl) ?_
  intro p e s m args below meth c F ls hl
  obtain ⟨hx, hb, hml, hr, hts, hown, hlocks, hxt, hH, hX, hin⟩ := F
  have hown : s.vm.findClass RL = some m.cls := hown
  have hS : va_S (gA G) s.heap H [] := by rw [hH]; exact va_S.rf
  have hl : lv_has ls 4 [(0, .ref (A 0)), (1, .int (zI z)), (2, .ref o)] := hl
  refine lv_aload_n hx hb dL_costByAll_0 rfl (lv_at hl 2 rfl) ?_
  refine lv_iconst (v := zI 0) hx hb dL_costByAll_1 rfl ?_
  refine lv_aload_n hx hb dL_costByAll_2 rfl (lv_at hl 0 rfl) ?_
  refine lv_iload_n hx hb dL_costByAll_3 rfl (lv_at hl 1 rfl) ?_
  refine g_go (vx_runV (As := [.int (zI z)]) (rest := [.int (zI 0), .ref o]) ⟨hx, hb, hml, hown, hts⟩ (x_costByAll_e1 l G hlf A TA S W9 H hC hI z hz hi) (cwV 1 hts gL_costByAll_X4_costByAll rfl rfl rfl hd_X4_costByAll ⟨(Nat.le_of_ble_eq_true rfl), (Nat.le_of_ble_eq_true rfl)⟩) (g_preV hX hS (ci := 4) rfl hC.1) rfl rfl hl.1 rfl (lv_room (Nat.le_of_ble_eq_true rfl)) dL_costByAll_4 ⟨(Nat.le_of_ble_eq_true rfl), (Nat.le_of_ble_eq_true rfl)⟩) hS (fun E ce q9 H_4 locs hp hS hce hcv hcl => ?_) (fun v H1 locs h hS => h.elim)
  obtain ⟨rfl, hE9⟩ := hp
  have hLX := LX.ext o hC hE9
  have ho := ho.ext hE9
  refine g_catch hX hown [] ⟨0, 9, 12, 21⟩ [⟨0, 9, 15, 15⟩] hxt (fun _ h => absurd h List.not_mem_nil) (by decide +kernel) rfl (by decide) (hts (.classLink RL 21 "java/lang/IndexOutOfBoundsException") (List.mem_cons_of_mem _ (List.mem_append_left _ (List.mem_append_left _ (List.mem_append_left _ (List.mem_append_left _ (List.mem_append_left _ (List.mem_append_left _ (List.mem_append_left _ (List.mem_of_getElem? (i := 0) rfl)))))))))) (by decide +kernel) hce hcv hcl ?_
  refine W.eq (g2 := F0 m 12 ls [.ref q9]) rfl ?_
  refine lv_astore_n (lv' := [(3, .ref q9), (0, .ref (A 0)), (1, .int (zI z)), (2, .ref o)]) hx hb dL_costByAll_12 rfl hl (by decide) rfl (fun ls hl => ?_)
  refine lv_iconst (v := zI 1) hx hb dL_costByAll_13 rfl ?_
  exact g_reti hx hb hr hlocks hS rfl (⟨rfl, hLX, ⟨_, ho⟩⟩) (Nat.le_of_ble_eq_true rfl) (Nat.le_of_ble_eq_true rfl) dL_costByAll_14
set_option maxHeartbeats 4000000 in
set_option maxRecDepth 100000 in
theorem w_costByAll_e2 (l : Launch) (G : gG) (hlf : l.stackTraces = false) (A : Nat → Nat) (TA : Nat → Nat → Nat) (S : cS) (W9 : cWk) (H : Heap) (hC : Cat G A TA S W9 H) (hI : sInv S) (z : Int) (i : Nat) (hz : z = i) (hi : i < sn S) (hk : srt S i = false) (h8 : ¬ shn S ≤ 8) (o : Nat) (ho0 : LU G o H) (go : gB G ≤ o) (no : ¬ own A TA (sn S) o) : gM l yL_costByAll wsL_costByAll rm_L_costByAll [.ref (A 0), .int (zI z), .ref o] G H (gi (fun r H1 => zI 2 = r ∧ LX G A TA TA S S o H H1 ∧ LU G o H1)) (gNo) 6 60 := by
  obtain ⟨fo, ho⟩ := ho0
  have hol := va_at.lt ho
  refine g_startW (cc := cL_costByAll) (maxL := 4) (ret := (some .int)) (hh := [(0, 9, 12, 21), (0, 9, 15, 15)]) (by decide +kernel) rfl (Nat.le_of_ble_eq_true rfl) ?_
  intro p e s m args below meth c F ls hl
  obtain ⟨hx, hb, hml, hr, hts, hown, hlocks, hxt, hH, hX, hin⟩ := F
  have hown : s.vm.findClass RL = some m.cls := hown
  have hS : va_S (gA G) s.heap H [] := by rw [hH]; exact va_S.rf
  have hl : lv_has ls 4 [(0, .ref (A 0)), (1, .int (zI z)), (2, .ref o)] := hl
  refine lv_aload_n hx hb dL_costByAll_0 rfl (lv_at hl 2 rfl) ?_
  refine lv_iconst (v := zI 0) hx hb dL_costByAll_1 rfl ?_
  refine lv_aload_n hx hb dL_costByAll_2 rfl (lv_at hl 0 rfl) ?_
  refine lv_iload_n hx hb dL_costByAll_3 rfl (lv_at hl 1 rfl) ?_
  refine g_go (vx_runV (As := [.int (zI z)]) (rest := [.int (zI 0), .ref o]) ⟨hx, hb, hml, hown, hts⟩ (x_costByAll_e2 l G hlf A TA S W9 H hC hI z i hz hi hk h8) (cwV 1 hts gL_costByAll_X4_costByAll rfl rfl rfl hd_X4_costByAll ⟨(Nat.le_of_ble_eq_true rfl), (Nat.le_of_ble_eq_true rfl)⟩) (g_preV hX hS (ci := 4) rfl hC.1) rfl rfl hl.1 rfl (lv_room (Nat.le_of_ble_eq_true rfl)) dL_costByAll_4 ⟨(Nat.le_of_ble_eq_true rfl), (Nat.le_of_ble_eq_true rfl)⟩) hS (fun E ce q9 H_4 locs hp hS hce hcv hcl => ?_) (fun v H1 locs h hS => h.elim)
  obtain ⟨rfl, hE9⟩ := hp
  have hLX := LX.ext o hC hE9
  have ho := ho.ext hE9
  refine g_catch hX hown [⟨0, 9, 12, 21⟩] ⟨0, 9, 15, 15⟩ [] hxt (List.forall_mem_cons.mpr ⟨⟨by decide, "java/lang/IndexOutOfBoundsException", (hts (.classLink RL 21 "java/lang/IndexOutOfBoundsException") (List.mem_cons_of_mem _ (List.mem_append_left _ (List.mem_append_left _ (List.mem_append_left _ (List.mem_append_left _ (List.mem_append_left _ (List.mem_append_left _ (List.mem_append_left _ (List.mem_of_getElem? (i := 0) rfl)))))))))), by decide +kernel, by decide +kernel⟩, (fun _ h => absurd h List.not_mem_nil)⟩) (by decide +kernel) rfl (by decide) (hts (.classLink RL 15 "java/lang/IllegalStateException") (List.mem_cons_of_mem _ (List.mem_append_left _ (List.mem_append_left _ (List.mem_append_left _ (List.mem_append_left _ (List.mem_append_left _ (List.mem_append_left _ (List.mem_append_left _ (List.mem_of_getElem? (i := 1) rfl)))))))))) (by decide +kernel) hce hcv hcl ?_
  refine W.eq (g2 := F0 m 15 ls [.ref q9]) rfl ?_
  refine lv_astore_n (lv' := [(3, .ref q9), (0, .ref (A 0)), (1, .int (zI z)), (2, .ref o)]) hx hb dL_costByAll_15 rfl hl (by decide) rfl (fun ls hl => ?_)
  refine lv_iconst (v := zI 2) hx hb dL_costByAll_16 rfl ?_
  exact g_reti hx hb hr hlocks hS rfl (⟨rfl, hLX, ⟨_, ho⟩⟩) (Nat.le_of_ble_eq_true rfl) (Nat.le_of_ble_eq_true rfl) dL_costByAll_17
set_option maxHeartbeats 4000000 in
set_option maxRecDepth 100000 in
theorem w_found_ok (l : Launch) (G : gG) (A : Nat → Nat) (TA : Nat → Nat → Nat) (S : cS) (W9 : cWk) (H : Heap) (hC : Cat G A TA S W9 H) (hI : sInv S) (z : Int) (hz : rI z) (k0 : Nat) (hfd0 : fdF S z 0 (sn S) = some k0) (o : Nat) (ho0 : LU G o H) (go : gB G ≤ o) (no : ¬ own A TA (sn S) o) : gM l yL_found wsL_found rm_L_found [.ref (A 0), .int (zI z), .ref o] G H (gi (fun r H1 => zI 0 = r ∧ LX G A TA TA S S o H H1 ∧ LO G o H1 (k0 : Int))) (gNo) 6 60 := by
  obtain ⟨fo, ho⟩ := ho0
  have hol := va_at.lt ho
  refine g_startW (cc := cL_found) (maxL := 4) (ret := (some .int)) (hh := [(0, 9, 12, 21)]) (by decide +kernel) rfl (Nat.le_of_ble_eq_true rfl) ?_
  intro p e s m args below meth c F ls hl
  obtain ⟨hx, hb, hml, hr, hts, hown, hlocks, hxt, hH, hX, hin⟩ := F
  have hown : s.vm.findClass RL = some m.cls := hown
  have hS : va_S (gA G) s.heap H [] := by rw [hH]; exact va_S.rf
  have hl : lv_has ls 4 [(0, .ref (A 0)), (1, .int (zI z)), (2, .ref o)] := hl
  refine lv_aload_n hx hb dL_found_0 rfl (lv_at hl 2 rfl) ?_
  refine lv_iconst (v := zI 0) hx hb dL_found_1 rfl ?_
  refine lv_aload_n hx hb dL_found_2 rfl (lv_at hl 0 rfl) ?_
  refine lv_iload_n hx hb dL_found_3 rfl (lv_at hl 1 rfl) ?_
  refine g_goi (vx_runV (As := [.int (zI z)]) (rest := [.int (zI 0), .ref o]) ⟨hx, hb, hml, hown, hts⟩ (x_found_ok l G A TA S W9 H hC hI z hz k0 hfd0) (cwV 1 hts gL_found_X4_found rfl rfl rfl hd_X4_found ⟨(Nat.le_of_ble_eq_true rfl), (Nat.le_of_ble_eq_true rfl)⟩) (g_preV hX hS (ci := 4) rfl hC.1) rfl rfl hl.1 rfl (lv_room (Nat.le_of_ble_eq_true rfl)) dL_found_4 ⟨(Nat.le_of_ble_eq_true rfl), (Nat.le_of_ble_eq_true rfl)⟩) hS (fun r_4 H_4 locs hp hS => ?_)
  obtain ⟨rfl, hxp⟩ := hp
  have hLX := LX.xp o hxp rfl
  have ho := ho.kp hxp.2 no
  refine lv_i2l hx hb dL_found_7 rfl ?_
  refine gz_last hx hb hX hS ho go 0 (by omega) (by omega) (by omega) dL_found_8 (fun H_8 locs h_n hO hS => ?_)
  have ho : gat G o (.inl (gJ G, 1, .inr (.inl (vp_updL fo 0 ((zI (k0 : Int)).toInt64))))) H_8 := h_n
  refine lv_goto (tgt := 15) hx hb dL_found_9 (by decide) ?_
  refine lv_iconst (v := zI 0) hx hb dL_found_15 rfl ?_
  exact g_reti hx hb hr hlocks hS rfl (⟨rfl, hLX.put hO hol no, ⟨_, ho, if_pos rfl⟩⟩) (Nat.le_of_ble_eq_true rfl) (Nat.le_of_ble_eq_true rfl) dL_found_16
set_option maxHeartbeats 4000000 in
set_option maxRecDepth 100000 in
theorem w_found_e1 (l : Launch) (G : gG) (hlf : l.stackTraces = false) (A : Nat → Nat) (TA : Nat → Nat → Nat) (S : cS) (W9 : cWk) (H : Heap) (hC : Cat G A TA S W9 H) (hI : sInv S) (z : Int) (hz : rI z) (hfd0 : fdF S z 0 (sn S) = none) (o : Nat) (ho0 : LU G o H) (go : gB G ≤ o) (no : ¬ own A TA (sn S) o) : gM l yL_found wsL_found rm_L_found [.ref (A 0), .int (zI z), .ref o] G H (gi (fun r H1 => zI 1 = r ∧ LX G A TA TA S S o H H1 ∧ LU G o H1)) (gNo) 6 60 := by
  obtain ⟨fo, ho⟩ := ho0
  have hol := va_at.lt ho
  refine g_startW (cc := cL_found) (maxL := 4) (ret := (some .int)) (hh := [(0, 9, 12, 21)]) (by decide +kernel) rfl (Nat.le_of_ble_eq_true rfl) ?_
  intro p e s m args below meth c F ls hl
  obtain ⟨hx, hb, hml, hr, hts, hown, hlocks, hxt, hH, hX, hin⟩ := F
  have hown : s.vm.findClass RL = some m.cls := hown
  have hS : va_S (gA G) s.heap H [] := by rw [hH]; exact va_S.rf
  have hl : lv_has ls 4 [(0, .ref (A 0)), (1, .int (zI z)), (2, .ref o)] := hl
  refine lv_aload_n hx hb dL_found_0 rfl (lv_at hl 2 rfl) ?_
  refine lv_iconst (v := zI 0) hx hb dL_found_1 rfl ?_
  refine lv_aload_n hx hb dL_found_2 rfl (lv_at hl 0 rfl) ?_
  refine lv_iload_n hx hb dL_found_3 rfl (lv_at hl 1 rfl) ?_
  refine g_go (vx_runV (As := [.int (zI z)]) (rest := [.int (zI 0), .ref o]) ⟨hx, hb, hml, hown, hts⟩ (x_found_e1 l G hlf A TA S W9 H hC hI z hz hfd0) (cwV 1 hts gL_found_X4_found rfl rfl rfl hd_X4_found ⟨(Nat.le_of_ble_eq_true rfl), (Nat.le_of_ble_eq_true rfl)⟩) (g_preV hX hS (ci := 4) rfl hC.1) rfl rfl hl.1 rfl (lv_room (Nat.le_of_ble_eq_true rfl)) dL_found_4 ⟨(Nat.le_of_ble_eq_true rfl), (Nat.le_of_ble_eq_true rfl)⟩) hS (fun E ce q9 H_4 locs hp hS hce hcv hcl => ?_) (fun v H1 locs h hS => h.elim)
  obtain ⟨rfl, hxp⟩ := hp
  have hLX := LX.xp o hxp rfl
  have ho := ho.kp hxp.2 no
  refine g_catch hX hown [] ⟨0, 9, 12, 21⟩ [] hxt (fun _ h => absurd h List.not_mem_nil) (by decide +kernel) rfl (by decide) (hts (.classLink RL 21 "java/lang/IndexOutOfBoundsException") (List.mem_cons_of_mem _ (List.mem_append_left _ (List.mem_append_left _ (List.mem_append_left _ (List.mem_append_left _ (List.mem_append_left _ (List.mem_append_left _ (List.mem_of_getElem? (i := 0) rfl))))))))) (by decide +kernel) hce hcv hcl ?_
  refine W.eq (g2 := F0 m 12 ls [.ref q9]) rfl ?_
  refine lv_astore_n (lv' := [(3, .ref q9), (0, .ref (A 0)), (1, .int (zI z)), (2, .ref o)]) hx hb dL_found_12 rfl hl (by decide) rfl (fun ls hl => ?_)
  refine lv_iconst (v := zI 1) hx hb dL_found_13 rfl ?_
  exact g_reti hx hb hr hlocks hS rfl (⟨rfl, hLX, ⟨_, ho⟩⟩) (Nat.le_of_ble_eq_true rfl) (Nat.le_of_ble_eq_true rfl) dL_found_14
set_option maxHeartbeats 4000000 in
set_option maxRecDepth 100000 in
theorem w_places_ok (l : Launch) (G : gG) (A : Nat → Nat) (TA : Nat → Nat → Nat) (S : cS) (W9 : cWk) (H : Heap) (hC : Cat G A TA S W9 H) (hI : sInv S) (zs : Int) (st0 : Nat) (hzs : zs = st0) (h14 : 1 ≤ st0 ∧ st0 ≤ 4) (hst : st0 + 1 ≤ shn S) (o : Nat) (ho0 : LU G o H) (go : gB G ≤ o) (no : ¬ own A TA (sn S) o) : gM l yL_places wsL_places rm_L_places [.ref (A 0), .int (zI zs), .ref o] G H (gi (fun r H1 => zI 0 = r ∧ LX G A TA TA S S o H H1 ∧ LO G o H1 (((plA S st0 (sn S)).length : Nat) : Int))) (gNo) 6 60 := by
  obtain ⟨fo, ho⟩ := ho0
  have hol := va_at.lt ho
  refine g_startW (cc := cL_places) (maxL := 4) (ret := (some .int)) (hh := [(0, 9, 12, 13), (0, 9, 15, 15)]) (by decide +kernel) rfl (Nat.le_of_ble_eq_true rfl) ?_
  intro p e s m args below meth c F ls hl
  obtain ⟨hx, hb, hml, hr, hts, hown, hlocks, hxt, hH, hX, hin⟩ := F
  have hown : s.vm.findClass RL = some m.cls := hown
  have hS : va_S (gA G) s.heap H [] := by rw [hH]; exact va_S.rf
  have hl : lv_has ls 4 [(0, .ref (A 0)), (1, .int (zI zs)), (2, .ref o)] := hl
  refine lv_aload_n hx hb dL_places_0 rfl (lv_at hl 2 rfl) ?_
  refine lv_iconst (v := zI 0) hx hb dL_places_1 rfl ?_
  refine lv_aload_n hx hb dL_places_2 rfl (lv_at hl 0 rfl) ?_
  refine lv_iload_n hx hb dL_places_3 rfl (lv_at hl 1 rfl) ?_
  refine g_goi (vx_runV (As := [.int (zI zs)]) (rest := [.int (zI 0), .ref o]) ⟨hx, hb, hml, hown, hts⟩ (x_places_ok l G A TA S W9 H hC hI zs st0 hzs h14 hst) (cwV 1 hts gL_places_X4_places rfl rfl rfl hd_X4_places ⟨(Nat.le_of_ble_eq_true rfl), (Nat.le_of_ble_eq_true rfl)⟩) (g_preV hX hS (ci := 4) rfl hC.1) rfl rfl hl.1 rfl (lv_room (Nat.le_of_ble_eq_true rfl)) dL_places_4 ⟨(Nat.le_of_ble_eq_true rfl), (Nat.le_of_ble_eq_true rfl)⟩) hS (fun r_4 H_4 locs hp hS => ?_)
  obtain ⟨rfl, hxp⟩ := hp
  have hLX := LX.xp o hxp rfl
  have ho := ho.kp hxp.2 no
  refine lv_i2l hx hb dL_places_7 rfl ?_
  refine gz_last hx hb hX hS ho go 0 (by omega) (by omega) (by omega) dL_places_8 (fun H_8 locs h_n hO hS => ?_)
  have ho : gat G o (.inl (gJ G, 1, .inr (.inl (vp_updL fo 0 ((zI (((plA S st0 (sn S)).length : Nat) : Int)).toInt64))))) H_8 := h_n
  refine lv_goto (tgt := 18) hx hb dL_places_9 (by decide) ?_
  refine lv_iconst (v := zI 0) hx hb dL_places_18 rfl ?_
  exact g_reti hx hb hr hlocks hS rfl (⟨rfl, hLX.put hO hol no, ⟨_, ho, if_pos rfl⟩⟩) (Nat.le_of_ble_eq_true rfl) (Nat.le_of_ble_eq_true rfl) dL_places_19
set_option maxHeartbeats 4000000 in
set_option maxRecDepth 100000 in
theorem w_places_e1 (l : Launch) (G : gG) (hlf : l.stackTraces = false) (A : Nat → Nat) (TA : Nat → Nat → Nat) (S : cS) (W9 : cWk) (H : Heap) (hC : Cat G A TA S W9 H) (hI : sInv S) (zs : Int) (hz : rI zs) (hno : ¬ (1 ≤ zs ∧ zs ≤ 4)) (o : Nat) (ho0 : LU G o H) (go : gB G ≤ o) (no : ¬ own A TA (sn S) o) : gM l yL_places wsL_places rm_L_places [.ref (A 0), .int (zI zs), .ref o] G H (gi (fun r H1 => zI 1 = r ∧ LX G A TA TA S S o H H1 ∧ LU G o H1)) (gNo) 6 60 := by
  obtain ⟨fo, ho⟩ := ho0
  have hol := va_at.lt ho
  refine g_startW (cc := cL_places) (maxL := 4) (ret := (some .int)) (hh := [(0, 9, 12, 13), (0, 9, 15, 15)]) (by decide +kernel) rfl (Nat.le_of_ble_eq_true rfl) ?_
  intro p e s m args below meth c F ls hl
  obtain ⟨hx, hb, hml, hr, hts, hown, hlocks, hxt, hH, hX, hin⟩ := F
  have hown : s.vm.findClass RL = some m.cls := hown
  have hS : va_S (gA G) s.heap H [] := by rw [hH]; exact va_S.rf
  have hl : lv_has ls 4 [(0, .ref (A 0)), (1, .int (zI zs)), (2, .ref o)] := hl
  refine lv_aload_n hx hb dL_places_0 rfl (lv_at hl 2 rfl) ?_
  refine lv_iconst (v := zI 0) hx hb dL_places_1 rfl ?_
  refine lv_aload_n hx hb dL_places_2 rfl (lv_at hl 0 rfl) ?_
  refine lv_iload_n hx hb dL_places_3 rfl (lv_at hl 1 rfl) ?_
  refine g_go (vx_runV (As := [.int (zI zs)]) (rest := [.int (zI 0), .ref o]) ⟨hx, hb, hml, hown, hts⟩ (x_places_e1 l G hlf A TA S W9 H hC hI zs hz hno) (cwV 1 hts gL_places_X4_places rfl rfl rfl hd_X4_places ⟨(Nat.le_of_ble_eq_true rfl), (Nat.le_of_ble_eq_true rfl)⟩) (g_preV hX hS (ci := 4) rfl hC.1) rfl rfl hl.1 rfl (lv_room (Nat.le_of_ble_eq_true rfl)) dL_places_4 ⟨(Nat.le_of_ble_eq_true rfl), (Nat.le_of_ble_eq_true rfl)⟩) hS (fun E ce q9 H_4 locs hp hS hce hcv hcl => ?_) (fun v H1 locs h hS => h.elim)
  obtain ⟨rfl, hE9⟩ := hp
  have hLX := LX.ext o hC hE9
  have ho := ho.ext hE9
  refine g_catch hX hown [] ⟨0, 9, 12, 13⟩ [⟨0, 9, 15, 15⟩] hxt (fun _ h => absurd h List.not_mem_nil) (by decide +kernel) rfl (by decide) (hts (.classLink RL 13 "java/lang/IllegalArgumentException") (List.mem_cons_of_mem _ (List.mem_append_left _ (List.mem_append_left _ (List.mem_append_left _ (List.mem_append_left _ (List.mem_append_left _ (List.mem_append_left _ (List.mem_of_getElem? (i := 0) rfl))))))))) (by decide +kernel) hce hcv hcl ?_
  refine W.eq (g2 := F0 m 12 ls [.ref q9]) rfl ?_
  refine lv_astore_n (lv' := [(3, .ref q9), (0, .ref (A 0)), (1, .int (zI zs)), (2, .ref o)]) hx hb dL_places_12 rfl hl (by decide) rfl (fun ls hl => ?_)
  refine lv_iconst (v := zI 1) hx hb dL_places_13 rfl ?_
  exact g_reti hx hb hr hlocks hS rfl (⟨rfl, hLX, ⟨_, ho⟩⟩) (Nat.le_of_ble_eq_true rfl) (Nat.le_of_ble_eq_true rfl) dL_places_14
set_option maxHeartbeats 4000000 in
set_option maxRecDepth 100000 in
theorem w_places_e2 (l : Launch) (G : gG) (hlf : l.stackTraces = false) (A : Nat → Nat) (TA : Nat → Nat → Nat) (S : cS) (W9 : cWk) (H : Heap) (hC : Cat G A TA S W9 H) (hI : sInv S) (zs : Int) (hz : rI zs) (h14 : 1 ≤ zs ∧ zs ≤ 4) (hno : ¬ zs ≤ (shn S : Int) - 1) (o : Nat) (ho0 : LU G o H) (go : gB G ≤ o) (no : ¬ own A TA (sn S) o) : gM l yL_places wsL_places rm_L_places [.ref (A 0), .int (zI zs), .ref o] G H (gi (fun r H1 => zI 2 = r ∧ LX G A TA TA S S o H H1 ∧ LU G o H1)) (gNo) 6 60 := by
  obtain ⟨fo, ho⟩ := ho0
  have hol := va_at.lt ho
  refine g_startW (cc := cL_places) (maxL := 4) (ret := (some .int)) (hh := [(0, 9, 12, 13), (0, 9, 15, 15)]) (by decide +kernel) rfl (Nat.le_of_ble_eq_true rfl) ?_
  intro p e s m args below meth c F ls hl
  obtain ⟨hx, hb, hml, hr, hts, hown, hlocks, hxt, hH, hX, hin⟩ := F
  have hown : s.vm.findClass RL = some m.cls := hown
  have hS : va_S (gA G) s.heap H [] := by rw [hH]; exact va_S.rf
  have hl : lv_has ls 4 [(0, .ref (A 0)), (1, .int (zI zs)), (2, .ref o)] := hl
  refine lv_aload_n hx hb dL_places_0 rfl (lv_at hl 2 rfl) ?_
  refine lv_iconst (v := zI 0) hx hb dL_places_1 rfl ?_
  refine lv_aload_n hx hb dL_places_2 rfl (lv_at hl 0 rfl) ?_
  refine lv_iload_n hx hb dL_places_3 rfl (lv_at hl 1 rfl) ?_
  refine g_go (vx_runV (As := [.int (zI zs)]) (rest := [.int (zI 0), .ref o]) ⟨hx, hb, hml, hown, hts⟩ (x_places_e2 l G hlf A TA S W9 H hC hI zs hz h14 hno) (cwV 1 hts gL_places_X4_places rfl rfl rfl hd_X4_places ⟨(Nat.le_of_ble_eq_true rfl), (Nat.le_of_ble_eq_true rfl)⟩) (g_preV hX hS (ci := 4) rfl hC.1) rfl rfl hl.1 rfl (lv_room (Nat.le_of_ble_eq_true rfl)) dL_places_4 ⟨(Nat.le_of_ble_eq_true rfl), (Nat.le_of_ble_eq_true rfl)⟩) hS (fun E ce q9 H_4 locs hp hS hce hcv hcl => ?_) (fun v H1 locs h hS => h.elim)
  obtain ⟨rfl, hE9⟩ := hp
  have hLX := LX.ext o hC hE9
  have ho := ho.ext hE9
  refine g_catch hX hown [⟨0, 9, 12, 13⟩] ⟨0, 9, 15, 15⟩ [] hxt (List.forall_mem_cons.mpr ⟨⟨by decide, "java/lang/IllegalArgumentException", (hts (.classLink RL 13 "java/lang/IllegalArgumentException") (List.mem_cons_of_mem _ (List.mem_append_left _ (List.mem_append_left _ (List.mem_append_left _ (List.mem_append_left _ (List.mem_append_left _ (List.mem_append_left _ (List.mem_of_getElem? (i := 0) rfl))))))))), by decide +kernel, by decide +kernel⟩, (fun _ h => absurd h List.not_mem_nil)⟩) (by decide +kernel) rfl (by decide) (hts (.classLink RL 15 "java/lang/IllegalStateException") (List.mem_cons_of_mem _ (List.mem_append_left _ (List.mem_append_left _ (List.mem_append_left _ (List.mem_append_left _ (List.mem_append_left _ (List.mem_append_left _ (List.mem_of_getElem? (i := 1) rfl))))))))) (by decide +kernel) hce hcv hcl ?_
  refine W.eq (g2 := F0 m 15 ls [.ref q9]) rfl ?_
  refine lv_astore_n (lv' := [(3, .ref q9), (0, .ref (A 0)), (1, .int (zI zs)), (2, .ref o)]) hx hb dL_places_15 rfl hl (by decide) rfl (fun ls hl => ?_)
  refine lv_iconst (v := zI 2) hx hb dL_places_16 rfl ?_
  exact g_reti hx hb hr hlocks hS rfl (⟨rfl, hLX, ⟨_, ho⟩⟩) (Nat.le_of_ble_eq_true rfl) (Nat.le_of_ble_eq_true rfl) dL_places_17
set_option maxHeartbeats 4000000 in
set_option maxRecDepth 100000 in
theorem w_place_ok (l : Launch) (G : gG) (A : Nat → Nat) (TA : Nat → Nat → Nat) (S : cS) (W9 : cWk) (H : Heap) (hC : Cat G A TA S W9 H) (hI : sInv S) (zs : Int) (st0 : Nat) (hzs : zs = st0) (h14 : 1 ≤ st0 ∧ st0 ≤ 4) (hst : st0 + 1 ≤ shn S) (zp : Int) (p0 : Nat) (hzp : zp = p0) (hp0 : p0 < (plA S st0 (sn S)).length) (o : Nat) (ho0 : LU G o H) (go : gB G ≤ o) (no : ¬ own A TA (sn S) o) : gM l yL_place wsL_place rm_L_place [.ref (A 0), .int (zI zs), .int (zI zp), .ref o] G H (gi (fun r H1 => zI 0 = r ∧ LX G A TA TA S S o H H1 ∧ LO G o H1 (((plA S st0 (sn S)).getD p0 0 : Nat) : Int))) (gNo) 6 60 := by
  obtain ⟨fo, ho⟩ := ho0
  have hol := va_at.lt ho
  refine g_startW (cc := cL_place) (maxL := 5) (ret := (some .int)) (hh := [(0, 10, 13, 13), (0, 10, 17, 15), (0, 10, 21, 21)]) (by decide +kernel) rfl (Nat.le_of_ble_eq_true rfl) ?_
  intro p e s m args below meth c F ls hl
  obtain ⟨hx, hb, hml, hr, hts, hown, hlocks, hxt, hH, hX, hin⟩ := F
  have hown : s.vm.findClass RL = some m.cls := hown
  have hS : va_S (gA G) s.heap H [] := by rw [hH]; exact va_S.rf
  have hl : lv_has ls 5 [(0, .ref (A 0)), (1, .int (zI zs)), (2, .int (zI zp)), (3, .ref o)] := hl
  refine lv_aload_n hx hb dL_place_0 rfl (lv_at hl 3 rfl) ?_
  refine lv_iconst (v := zI 0) hx hb dL_place_1 rfl ?_
  refine lv_aload_n hx hb dL_place_2 rfl (lv_at hl 0 rfl) ?_
  refine lv_iload_n hx hb dL_place_3 rfl (lv_at hl 1 rfl) ?_
  refine lv_iload_n hx hb dL_place_4 rfl (lv_at hl 2 rfl) ?_
  refine g_goi (vx_runV (As := [.int (zI zs), .int (zI zp)]) (rest := [.int (zI 0), .ref o]) ⟨hx, hb, hml, hown, hts⟩ (x_place_ok l G A TA S W9 H hC hI zs st0 hzs h14 hst zp p0 hzp hp0) (cwV 2 hts gL_place_X4_place rfl rfl rfl hd_X4_place ⟨(Nat.le_of_ble_eq_true rfl), (Nat.le_of_ble_eq_true rfl)⟩) (g_preV hX hS (ci := 4) rfl hC.1) rfl rfl hl.1 rfl (lv_room (Nat.le_of_ble_eq_true rfl)) dL_place_5 ⟨(Nat.le_of_ble_eq_true rfl), (Nat.le_of_ble_eq_true rfl)⟩) hS (fun r_5 H_5 locs hp hS => ?_)
  obtain ⟨rfl, hxp⟩ := hp
  have hLX := LX.xp o hxp rfl
  have ho := ho.kp hxp.2 no
  refine lv_i2l hx hb dL_place_8 rfl ?_
  refine gz_last hx hb hX hS ho go 0 (by omega) (by omega) (by omega) dL_place_9 (fun H_9 locs h_n hO hS => ?_)
  have ho : gat G o (.inl (gJ G, 1, .inr (.inl (vp_updL fo 0 ((zI (((plA S st0 (sn S)).getD p0 0 : Nat) : Int)).toInt64))))) H_9 := h_n
  refine lv_goto (tgt := 25) hx hb dL_place_10 (by decide) ?_
  refine lv_iconst (v := zI 0) hx hb dL_place_25 rfl ?_
  exact g_reti hx hb hr hlocks hS rfl (⟨rfl, hLX.put hO hol no, ⟨_, ho, if_pos rfl⟩⟩) (Nat.le_of_ble_eq_true rfl) (Nat.le_of_ble_eq_true rfl) dL_place_26
set_option maxHeartbeats 4000000 in
set_option maxRecDepth 100000 in
theorem w_place_e1 (l : Launch) (G : gG) (hlf : l.stackTraces = false) (A : Nat → Nat) (TA : Nat → Nat → Nat) (S : cS) (W9 : cWk) (H : Heap) (hC : Cat G A TA S W9 H) (hI : sInv S) (zs : Int) (hz : rI zs) (hno : ¬ (1 ≤ zs ∧ zs ≤ 4)) (zp : Int) (o : Nat) (ho0 : LU G o H) (go : gB G ≤ o) (no : ¬ own A TA (sn S) o) : gM l yL_place wsL_place rm_L_place [.ref (A 0), .int (zI zs), .int (zI zp), .ref o] G H (gi (fun r H1 => zI 1 = r ∧ LX G A TA TA S S o H H1 ∧ LU G o H1)) (gNo) 6 60 := by
  obtain ⟨fo, ho⟩ := ho0
  have hol := va_at.lt ho
  refine g_startW (cc := cL_place) (maxL := 5) (ret := (some .int)) (hh := [(0, 10, 13, 13), (0, 10, 17, 15), (0, 10, 21, 21)]) (by decide +kernel) rfl (Nat.le_of_ble_eq_true rfl) ?_
  intro p e s m args below meth c F ls hl
  obtain ⟨hx, hb, hml, hr, hts, hown, hlocks, hxt, hH, hX, hin⟩ := F
  have hown : s.vm.findClass RL = some m.cls := hown
  have hS : va_S (gA G) s.heap H [] := by rw [hH]; exact va_S.rf
  have hl : lv_has ls 5 [(0, .ref (A 0)), (1, .int (zI zs)), (2, .int (zI zp)), (3, .ref o)] := hl
  refine lv_aload_n hx hb dL_place_0 rfl (lv_at hl 3 rfl) ?_
  refine lv_iconst (v := zI 0) hx hb dL_place_1 rfl ?_
  refine lv_aload_n hx hb dL_place_2 rfl (lv_at hl 0 rfl) ?_
  refine lv_iload_n hx hb dL_place_3 rfl (lv_at hl 1 rfl) ?_
  refine lv_iload_n hx hb dL_place_4 rfl (lv_at hl 2 rfl) ?_
  refine g_go (vx_runV (As := [.int (zI zs), .int (zI zp)]) (rest := [.int (zI 0), .ref o]) ⟨hx, hb, hml, hown, hts⟩ (x_place_e1 l G hlf A TA S W9 H hC hI zs hz hno zp) (cwV 2 hts gL_place_X4_place rfl rfl rfl hd_X4_place ⟨(Nat.le_of_ble_eq_true rfl), (Nat.le_of_ble_eq_true rfl)⟩) (g_preV hX hS (ci := 4) rfl hC.1) rfl rfl hl.1 rfl (lv_room (Nat.le_of_ble_eq_true rfl)) dL_place_5 ⟨(Nat.le_of_ble_eq_true rfl), (Nat.le_of_ble_eq_true rfl)⟩) hS (fun E ce q9 H_5 locs hp hS hce hcv hcl => ?_) (fun v H1 locs h hS => h.elim)
  obtain ⟨rfl, hE9⟩ := hp
  have hLX := LX.ext o hC hE9
  have ho := ho.ext hE9
  refine g_catch hX hown [] ⟨0, 10, 13, 13⟩ [⟨0, 10, 17, 15⟩, ⟨0, 10, 21, 21⟩] hxt (fun _ h => absurd h List.not_mem_nil) (by decide +kernel) rfl (by decide) (hts (.classLink RL 13 "java/lang/IllegalArgumentException") (List.mem_cons_of_mem _ (List.mem_append_left _ (List.mem_append_left _ (List.mem_append_left _ (List.mem_append_left _ (List.mem_append_left _ (List.mem_append_left _ (List.mem_append_left _ (List.mem_of_getElem? (i := 0) rfl)))))))))) (by decide +kernel) hce hcv hcl ?_
  refine W.eq (g2 := F0 m 13 ls [.ref q9]) rfl ?_
  refine lv_astore (lv' := [(4, .ref q9), (0, .ref (A 0)), (1, .int (zI zs)), (2, .int (zI zp)), (3, .ref o)]) hx hb dL_place_13 hl (by decide) rfl (fun ls hl => ?_)
  refine lv_iconst (v := zI 1) hx hb dL_place_15 rfl ?_
  exact g_reti hx hb hr hlocks hS rfl (⟨rfl, hLX, ⟨_, ho⟩⟩) (Nat.le_of_ble_eq_true rfl) (Nat.le_of_ble_eq_true rfl) dL_place_16
set_option maxHeartbeats 4000000 in
set_option maxRecDepth 100000 in
theorem w_place_e2 (l : Launch) (G : gG) (hlf : l.stackTraces = false) (A : Nat → Nat) (TA : Nat → Nat → Nat) (S : cS) (W9 : cWk) (H : Heap) (hC : Cat G A TA S W9 H) (hI : sInv S) (zs : Int) (hz : rI zs) (h14 : 1 ≤ zs ∧ zs ≤ 4) (hno : ¬ zs ≤ (shn S : Int) - 1) (zp : Int) (o : Nat) (ho0 : LU G o H) (go : gB G ≤ o) (no : ¬ own A TA (sn S) o) : gM l yL_place wsL_place rm_L_place [.ref (A 0), .int (zI zs), .int (zI zp), .ref o] G H (gi (fun r H1 => zI 2 = r ∧ LX G A TA TA S S o H H1 ∧ LU G o H1)) (gNo) 6 60 := by
  obtain ⟨fo, ho⟩ := ho0
  have hol := va_at.lt ho
  refine g_startW (cc := cL_place) (maxL := 5) (ret := (some .int)) (hh := [(0, 10, 13, 13), (0, 10, 17, 15), (0, 10, 21, 21)]) (by decide +kernel) rfl (Nat.le_of_ble_eq_true rfl) ?_
  intro p e s m args below meth c F ls hl
  obtain ⟨hx, hb, hml, hr, hts, hown, hlocks, hxt, hH, hX, hin⟩ := F
  have hown : s.vm.findClass RL = some m.cls := hown
  have hS : va_S (gA G) s.heap H [] := by rw [hH]; exact va_S.rf
  have hl : lv_has ls 5 [(0, .ref (A 0)), (1, .int (zI zs)), (2, .int (zI zp)), (3, .ref o)] := hl
  refine lv_aload_n hx hb dL_place_0 rfl (lv_at hl 3 rfl) ?_
  refine lv_iconst (v := zI 0) hx hb dL_place_1 rfl ?_
  refine lv_aload_n hx hb dL_place_2 rfl (lv_at hl 0 rfl) ?_
  refine lv_iload_n hx hb dL_place_3 rfl (lv_at hl 1 rfl) ?_
  refine lv_iload_n hx hb dL_place_4 rfl (lv_at hl 2 rfl) ?_
  refine g_go (vx_runV (As := [.int (zI zs), .int (zI zp)]) (rest := [.int (zI 0), .ref o]) ⟨hx, hb, hml, hown, hts⟩ (x_place_e2 l G hlf A TA S W9 H hC hI zs hz h14 hno zp) (cwV 2 hts gL_place_X4_place rfl rfl rfl hd_X4_place ⟨(Nat.le_of_ble_eq_true rfl), (Nat.le_of_ble_eq_true rfl)⟩) (g_preV hX hS (ci := 4) rfl hC.1) rfl rfl hl.1 rfl (lv_room (Nat.le_of_ble_eq_true rfl)) dL_place_5 ⟨(Nat.le_of_ble_eq_true rfl), (Nat.le_of_ble_eq_true rfl)⟩) hS (fun E ce q9 H_5 locs hp hS hce hcv hcl => ?_) (fun v H1 locs h hS => h.elim)
  obtain ⟨rfl, hE9⟩ := hp
  have hLX := LX.ext o hC hE9
  have ho := ho.ext hE9
  refine g_catch hX hown [⟨0, 10, 13, 13⟩] ⟨0, 10, 17, 15⟩ [⟨0, 10, 21, 21⟩] hxt (List.forall_mem_cons.mpr ⟨⟨by decide, "java/lang/IllegalArgumentException", (hts (.classLink RL 13 "java/lang/IllegalArgumentException") (List.mem_cons_of_mem _ (List.mem_append_left _ (List.mem_append_left _ (List.mem_append_left _ (List.mem_append_left _ (List.mem_append_left _ (List.mem_append_left _ (List.mem_append_left _ (List.mem_of_getElem? (i := 0) rfl)))))))))), by decide +kernel, by decide +kernel⟩, (fun _ h => absurd h List.not_mem_nil)⟩) (by decide +kernel) rfl (by decide) (hts (.classLink RL 15 "java/lang/IllegalStateException") (List.mem_cons_of_mem _ (List.mem_append_left _ (List.mem_append_left _ (List.mem_append_left _ (List.mem_append_left _ (List.mem_append_left _ (List.mem_append_left _ (List.mem_append_left _ (List.mem_of_getElem? (i := 1) rfl)))))))))) (by decide +kernel) hce hcv hcl ?_
  refine W.eq (g2 := F0 m 17 ls [.ref q9]) rfl ?_
  refine lv_astore (lv' := [(4, .ref q9), (0, .ref (A 0)), (1, .int (zI zs)), (2, .int (zI zp)), (3, .ref o)]) hx hb dL_place_17 hl (by decide) rfl (fun ls hl => ?_)
  refine lv_iconst (v := zI 2) hx hb dL_place_19 rfl ?_
  exact g_reti hx hb hr hlocks hS rfl (⟨rfl, hLX, ⟨_, ho⟩⟩) (Nat.le_of_ble_eq_true rfl) (Nat.le_of_ble_eq_true rfl) dL_place_20
set_option maxHeartbeats 4000000 in
set_option maxRecDepth 100000 in
theorem w_place_e3 (l : Launch) (G : gG) (hlf : l.stackTraces = false) (A : Nat → Nat) (TA : Nat → Nat → Nat) (S : cS) (W9 : cWk) (H : Heap) (hC : Cat G A TA S W9 H) (hI : sInv S) (zs : Int) (st0 : Nat) (hzs : zs = st0) (h14 : 1 ≤ st0 ∧ st0 ≤ 4) (hst : st0 + 1 ≤ shn S) (zp : Int) (hzp : rI zp) (hno : ¬ (0 ≤ zp ∧ zp < (plA S st0 (sn S)).length)) (o : Nat) (ho0 : LU G o H) (go : gB G ≤ o) (no : ¬ own A TA (sn S) o) : gM l yL_place wsL_place rm_L_place [.ref (A 0), .int (zI zs), .int (zI zp), .ref o] G H (gi (fun r H1 => zI 3 = r ∧ LX G A TA TA S S o H H1 ∧ LU G o H1)) (gNo) 6 60 := by
  obtain ⟨fo, ho⟩ := ho0
  have hol := va_at.lt ho
  refine g_startW (cc := cL_place) (maxL := 5) (ret := (some .int)) (hh := [(0, 10, 13, 13), (0, 10, 17, 15), (0, 10, 21, 21)]) (by decide +kernel) rfl (Nat.le_of_ble_eq_true rfl) ?_
  intro p e s m args below meth c F ls hl
  obtain ⟨hx, hb, hml, hr, hts, hown, hlocks, hxt, hH, hX, hin⟩ := F
  have hown : s.vm.findClass RL = some m.cls := hown
  have hS : va_S (gA G) s.heap H [] := by rw [hH]; exact va_S.rf
  have hl : lv_has ls 5 [(0, .ref (A 0)), (1, .int (zI zs)), (2, .int (zI zp)), (3, .ref o)] := hl
  refine lv_aload_n hx hb dL_place_0 rfl (lv_at hl 3 rfl) ?_
  refine lv_iconst (v := zI 0) hx hb dL_place_1 rfl ?_
  refine lv_aload_n hx hb dL_place_2 rfl (lv_at hl 0 rfl) ?_
  refine lv_iload_n hx hb dL_place_3 rfl (lv_at hl 1 rfl) ?_
  refine lv_iload_n hx hb dL_place_4 rfl (lv_at hl 2 rfl) ?_
  refine g_go (vx_runV (As := [.int (zI zs), .int (zI zp)]) (rest := [.int (zI 0), .ref o]) ⟨hx, hb, hml, hown, hts⟩ (x_place_e3 l G hlf A TA S W9 H hC hI zs st0 hzs h14 hst zp hzp hno) (cwV 2 hts gL_place_X4_place rfl rfl rfl hd_X4_place ⟨(Nat.le_of_ble_eq_true rfl), (Nat.le_of_ble_eq_true rfl)⟩) (g_preV hX hS (ci := 4) rfl hC.1) rfl rfl hl.1 rfl (lv_room (Nat.le_of_ble_eq_true rfl)) dL_place_5 ⟨(Nat.le_of_ble_eq_true rfl), (Nat.le_of_ble_eq_true rfl)⟩) hS (fun E ce q9 H_5 locs hp hS hce hcv hcl => ?_) (fun v H1 locs h hS => h.elim)
  obtain ⟨rfl, hxp⟩ := hp
  have hLX := LX.xp o hxp rfl
  have ho := ho.kp hxp.2 no
  refine g_catch hX hown [⟨0, 10, 13, 13⟩, ⟨0, 10, 17, 15⟩] ⟨0, 10, 21, 21⟩ [] hxt (List.forall_mem_cons.mpr ⟨⟨by decide, "java/lang/IllegalArgumentException", (hts (.classLink RL 13 "java/lang/IllegalArgumentException") (List.mem_cons_of_mem _ (List.mem_append_left _ (List.mem_append_left _ (List.mem_append_left _ (List.mem_append_left _ (List.mem_append_left _ (List.mem_append_left _ (List.mem_append_left _ (List.mem_of_getElem? (i := 0) rfl)))))))))), by decide +kernel, by decide +kernel⟩, (List.forall_mem_cons.mpr ⟨⟨by decide, "java/lang/IllegalStateException", (hts (.classLink RL 15 "java/lang/IllegalStateException") (List.mem_cons_of_mem _ (List.mem_append_left _ (List.mem_append_left _ (List.mem_append_left _ (List.mem_append_left _ (List.mem_append_left _ (List.mem_append_left _ (List.mem_append_left _ (List.mem_of_getElem? (i := 1) rfl)))))))))), by decide +kernel, by decide +kernel⟩, (fun _ h => absurd h List.not_mem_nil)⟩)⟩) (by decide +kernel) rfl (by decide) (hts (.classLink RL 21 "java/lang/IndexOutOfBoundsException") (List.mem_cons_of_mem _ (List.mem_append_left _ (List.mem_append_left _ (List.mem_append_left _ (List.mem_append_left _ (List.mem_append_left _ (List.mem_append_left _ (List.mem_append_left _ (List.mem_of_getElem? (i := 2) rfl)))))))))) (by decide +kernel) hce hcv hcl ?_
  refine W.eq (g2 := F0 m 21 ls [.ref q9]) rfl ?_
  refine lv_astore (lv' := [(4, .ref q9), (0, .ref (A 0)), (1, .int (zI zs)), (2, .int (zI zp)), (3, .ref o)]) hx hb dL_place_21 hl (by decide) rfl (fun ls hl => ?_)
  refine lv_iconst (v := zI 3) hx hb dL_place_23 rfl ?_
  exact g_reti hx hb hr hlocks hS rfl (⟨rfl, hLX, ⟨_, ho⟩⟩) (Nat.le_of_ble_eq_true rfl) (Nat.le_of_ble_eq_true rfl) dL_place_24
set_option maxHeartbeats 4000000 in
set_option maxRecDepth 100000 in
theorem w_link_ok (l : Launch) (G : gG) (A : Nat → Nat) (TA : Nat → Nat → Nat) (S : cS) (W9 : cWk) (H : Heap) (hC : Cat G A TA S W9 H) (hI : sInv S) (z1 : Int) (z2 : Int) (i : Nat) (j : Nat) (hz1 : z1 = i) (hi : i < sn S) (hz2 : z2 = j) (hj : j < sn S) (hlk2 : ∀ k, lkT (slk S) i j k < 65536) (hij : i ≠ j) (htb : (slk S i).testBit j = false) (o : Nat) (ho0 : LU G o H) (go : gB G ≤ o) (no : ¬ own A TA (sn S) o) : gM l yL_link wsL_link rm_L_link [.ref (A 0), .int (zI z1), .int (zI z2), .ref o] G H (gi (fun r H1 => zI 0 = r ∧ LX G A TA TA S (sLnk S i j) o H H1 ∧ LO G o H1 ((famC (lkT (slk S) i j) (sn S) (sn S) : Nat) : Int))) (gNo) 6 60 := by
  obtain ⟨fo, ho⟩ := ho0
  have hol := va_at.lt ho
  refine g_startW (cc := cL_link) (maxL := 5) (ret := (some .int)) (hh := [(0, 10, 13, 21), (0, 10, 17, 13), (0, 10, 21, 15)]) (by decide +kernel) rfl (Nat.le_of_ble_eq_true rfl) ?_
  intro p e s m args below meth c F ls hl
  obtain ⟨hx, hb, hml, hr, hts, hown, hlocks, hxt, hH, hX, hin⟩ := F
  have hown : s.vm.findClass RL = some m.cls := hown
  have hS : va_S (gA G) s.heap H [] := by rw [hH]; exact va_S.rf
  have hl : lv_has ls 5 [(0, .ref (A 0)), (1, .int (zI z1)), (2, .int (zI z2)), (3, .ref o)] := hl
  refine lv_aload_n hx hb dL_link_0 rfl (lv_at hl 3 rfl) ?_
  refine lv_iconst (v := zI 0) hx hb dL_link_1 rfl ?_
  refine lv_aload_n hx hb dL_link_2 rfl (lv_at hl 0 rfl) ?_
  refine lv_iload_n hx hb dL_link_3 rfl (lv_at hl 1 rfl) ?_
  refine lv_iload_n hx hb dL_link_4 rfl (lv_at hl 2 rfl) ?_
  refine g_goi (vx_runV (As := [.int (zI z1), .int (zI z2)]) (rest := [.int (zI 0), .ref o]) ⟨hx, hb, hml, hown, hts⟩ (x_link_ok l G A TA S W9 H hC hI z1 z2 i j hz1 hi hz2 hj hlk2 hij htb) (cwV 2 hts gL_link_X4_link rfl rfl rfl hd_X4_link ⟨(Nat.le_of_ble_eq_true rfl), (Nat.le_of_ble_eq_true rfl)⟩) (g_preV hX hS (ci := 4) rfl hC.1) rfl rfl hl.1 rfl (lv_room (Nat.le_of_ble_eq_true rfl)) dL_link_5 ⟨(Nat.le_of_ble_eq_true rfl), (Nat.le_of_ble_eq_true rfl)⟩) hS (fun r_5 H_5 locs hp hS => ?_)
  obtain ⟨rfl, hxp⟩ := hp
  have hLX := LX.xp o hxp rfl
  have ho := ho.kp hxp.2 no
  refine lv_i2l hx hb dL_link_8 rfl ?_
  refine gz_last hx hb hX hS ho go 0 (by omega) (by omega) (by omega) dL_link_9 (fun H_9 locs h_n hO hS => ?_)
  have ho : gat G o (.inl (gJ G, 1, .inr (.inl (vp_updL fo 0 ((zI ((famC (lkT (slk S) i j) (sn S) (sn S) : Nat) : Int)).toInt64))))) H_9 := h_n
  refine lv_goto (tgt := 25) hx hb dL_link_10 (by decide) ?_
  refine lv_iconst (v := zI 0) hx hb dL_link_25 rfl ?_
  exact g_reti hx hb hr hlocks hS rfl (⟨rfl, hLX.put hO hol no, ⟨_, ho, if_pos rfl⟩⟩) (Nat.le_of_ble_eq_true rfl) (Nat.le_of_ble_eq_true rfl) dL_link_26
set_option maxHeartbeats 4000000 in
set_option maxRecDepth 100000 in
theorem w_link_e1 (l : Launch) (G : gG) (hlf : l.stackTraces = false) (A : Nat → Nat) (TA : Nat → Nat → Nat) (S : cS) (W9 : cWk) (H : Heap) (hC : Cat G A TA S W9 H) (hI : sInv S) (z1 : Int) (z2 : Int) (hz1 : rI z1) (hz2 : rI z2) (hno : ¬ ((0 ≤ z1 ∧ z1 < sn S) ∧ 0 ≤ z2 ∧ z2 < sn S)) (o : Nat) (ho0 : LU G o H) (go : gB G ≤ o) (no : ¬ own A TA (sn S) o) : gM l yL_link wsL_link rm_L_link [.ref (A 0), .int (zI z1), .int (zI z2), .ref o] G H (gi (fun r H1 => zI 1 = r ∧ LX G A TA TA S S o H H1 ∧ LU G o H1)) (gNo) 6 60 := by
  obtain ⟨fo, ho⟩ := ho0
  have hol := va_at.lt ho
  refine g_startW (cc := cL_link) (maxL := 5) (ret := (some .int)) (hh := [(0, 10, 13, 21), (0, 10, 17, 13), (0, 10, 21, 15)]) (by decide +kernel) rfl (Nat.le_of_ble_eq_true rfl) ?_
  intro p e s m args below meth c F ls hl
  obtain ⟨hx, hb, hml, hr, hts, hown, hlocks, hxt, hH, hX, hin⟩ := F
  have hown : s.vm.findClass RL = some m.cls := hown
  have hS : va_S (gA G) s.heap H [] := by rw [hH]; exact va_S.rf
  have hl : lv_has ls 5 [(0, .ref (A 0)), (1, .int (zI z1)), (2, .int (zI z2)), (3, .ref o)] := hl
  refine lv_aload_n hx hb dL_link_0 rfl (lv_at hl 3 rfl) ?_
  refine lv_iconst (v := zI 0) hx hb dL_link_1 rfl ?_
  refine lv_aload_n hx hb dL_link_2 rfl (lv_at hl 0 rfl) ?_
  refine lv_iload_n hx hb dL_link_3 rfl (lv_at hl 1 rfl) ?_
  refine lv_iload_n hx hb dL_link_4 rfl (lv_at hl 2 rfl) ?_
  refine g_go (vx_runV (As := [.int (zI z1), .int (zI z2)]) (rest := [.int (zI 0), .ref o]) ⟨hx, hb, hml, hown, hts⟩ (x_link_e1 l G hlf A TA S W9 H hC hI z1 z2 hz1 hz2 hno) (cwV 2 hts gL_link_X4_link rfl rfl rfl hd_X4_link ⟨(Nat.le_of_ble_eq_true rfl), (Nat.le_of_ble_eq_true rfl)⟩) (g_preV hX hS (ci := 4) rfl hC.1) rfl rfl hl.1 rfl (lv_room (Nat.le_of_ble_eq_true rfl)) dL_link_5 ⟨(Nat.le_of_ble_eq_true rfl), (Nat.le_of_ble_eq_true rfl)⟩) hS (fun E ce q9 H_5 locs hp hS hce hcv hcl => ?_) (fun v H1 locs h hS => h.elim)
  obtain ⟨rfl, hE9⟩ := hp
  have hLX := LX.ext o hC hE9
  have ho := ho.ext hE9
  refine g_catch hX hown [] ⟨0, 10, 13, 21⟩ [⟨0, 10, 17, 13⟩, ⟨0, 10, 21, 15⟩] hxt (fun _ h => absurd h List.not_mem_nil) (by decide +kernel) rfl (by decide) (hts (.classLink RL 21 "java/lang/IndexOutOfBoundsException") (List.mem_cons_of_mem _ (List.mem_append_left _ (List.mem_append_left _ (List.mem_append_left _ (List.mem_append_left _ (List.mem_append_left _ (List.mem_append_left _ (List.mem_append_left _ (List.mem_of_getElem? (i := 0) rfl)))))))))) (by decide +kernel) hce hcv hcl ?_
  refine W.eq (g2 := F0 m 13 ls [.ref q9]) rfl ?_
  refine lv_astore (lv' := [(4, .ref q9), (0, .ref (A 0)), (1, .int (zI z1)), (2, .int (zI z2)), (3, .ref o)]) hx hb dL_link_13 hl (by decide) rfl (fun ls hl => ?_)
  refine lv_iconst (v := zI 1) hx hb dL_link_15 rfl ?_
  exact g_reti hx hb hr hlocks hS rfl (⟨rfl, hLX, ⟨_, ho⟩⟩) (Nat.le_of_ble_eq_true rfl) (Nat.le_of_ble_eq_true rfl) dL_link_16
set_option maxHeartbeats 4000000 in
set_option maxRecDepth 100000 in
theorem w_link_e2 (l : Launch) (G : gG) (hlf : l.stackTraces = false) (A : Nat → Nat) (TA : Nat → Nat → Nat) (S : cS) (W9 : cWk) (H : Heap) (hC : Cat G A TA S W9 H) (hI : sInv S) (z1 : Int) (z2 : Int) (i : Nat) (j : Nat) (hz1 : z1 = i) (hi : i < sn S) (hz2 : z2 = j) (hj : j < sn S) (hij : i = j) (o : Nat) (ho0 : LU G o H) (go : gB G ≤ o) (no : ¬ own A TA (sn S) o) : gM l yL_link wsL_link rm_L_link [.ref (A 0), .int (zI z1), .int (zI z2), .ref o] G H (gi (fun r H1 => zI 2 = r ∧ LX G A TA TA S S o H H1 ∧ LU G o H1)) (gNo) 6 60 := by
  obtain ⟨fo, ho⟩ := ho0
  have hol := va_at.lt ho
  refine g_startW (cc := cL_link) (maxL := 5) (ret := (some .int)) (hh := [(0, 10, 13, 21), (0, 10, 17, 13), (0, 10, 21, 15)]) (by decide +kernel) rfl (Nat.le_of_ble_eq_true rfl) ?_
  intro p e s m args below meth c F ls hl
  obtain ⟨hx, hb, hml, hr, hts, hown, hlocks, hxt, hH, hX, hin⟩ := F
  have hown : s.vm.findClass RL = some m.cls := hown
  have hS : va_S (gA G) s.heap H [] := by rw [hH]; exact va_S.rf
  have hl : lv_has ls 5 [(0, .ref (A 0)), (1, .int (zI z1)), (2, .int (zI z2)), (3, .ref o)] := hl
  refine lv_aload_n hx hb dL_link_0 rfl (lv_at hl 3 rfl) ?_
  refine lv_iconst (v := zI 0) hx hb dL_link_1 rfl ?_
  refine lv_aload_n hx hb dL_link_2 rfl (lv_at hl 0 rfl) ?_
  refine lv_iload_n hx hb dL_link_3 rfl (lv_at hl 1 rfl) ?_
  refine lv_iload_n hx hb dL_link_4 rfl (lv_at hl 2 rfl) ?_
  refine g_go (vx_runV (As := [.int (zI z1), .int (zI z2)]) (rest := [.int (zI 0), .ref o]) ⟨hx, hb, hml, hown, hts⟩ (x_link_e2 l G hlf A TA S W9 H hC hI z1 z2 i j hz1 hi hz2 hj hij) (cwV 2 hts gL_link_X4_link rfl rfl rfl hd_X4_link ⟨(Nat.le_of_ble_eq_true rfl), (Nat.le_of_ble_eq_true rfl)⟩) (g_preV hX hS (ci := 4) rfl hC.1) rfl rfl hl.1 rfl (lv_room (Nat.le_of_ble_eq_true rfl)) dL_link_5 ⟨(Nat.le_of_ble_eq_true rfl), (Nat.le_of_ble_eq_true rfl)⟩) hS (fun E ce q9 H_5 locs hp hS hce hcv hcl => ?_) (fun v H1 locs h hS => h.elim)
  obtain ⟨rfl, hE9⟩ := hp
  have hLX := LX.ext o hC hE9
  have ho := ho.ext hE9
  refine g_catch hX hown [⟨0, 10, 13, 21⟩] ⟨0, 10, 17, 13⟩ [⟨0, 10, 21, 15⟩] hxt (List.forall_mem_cons.mpr ⟨⟨by decide, "java/lang/IndexOutOfBoundsException", (hts (.classLink RL 21 "java/lang/IndexOutOfBoundsException") (List.mem_cons_of_mem _ (List.mem_append_left _ (List.mem_append_left _ (List.mem_append_left _ (List.mem_append_left _ (List.mem_append_left _ (List.mem_append_left _ (List.mem_append_left _ (List.mem_of_getElem? (i := 0) rfl)))))))))), by decide +kernel, by decide +kernel⟩, (fun _ h => absurd h List.not_mem_nil)⟩) (by decide +kernel) rfl (by decide) (hts (.classLink RL 13 "java/lang/IllegalArgumentException") (List.mem_cons_of_mem _ (List.mem_append_left _ (List.mem_append_left _ (List.mem_append_left _ (List.mem_append_left _ (List.mem_append_left _ (List.mem_append_left _ (List.mem_append_left _ (List.mem_of_getElem? (i := 1) rfl)))))))))) (by decide +kernel) hce hcv hcl ?_
  refine W.eq (g2 := F0 m 17 ls [.ref q9]) rfl ?_
  refine lv_astore (lv' := [(4, .ref q9), (0, .ref (A 0)), (1, .int (zI z1)), (2, .int (zI z2)), (3, .ref o)]) hx hb dL_link_17 hl (by decide) rfl (fun ls hl => ?_)
  refine lv_iconst (v := zI 2) hx hb dL_link_19 rfl ?_
  exact g_reti hx hb hr hlocks hS rfl (⟨rfl, hLX, ⟨_, ho⟩⟩) (Nat.le_of_ble_eq_true rfl) (Nat.le_of_ble_eq_true rfl) dL_link_20
set_option maxHeartbeats 4000000 in
set_option maxRecDepth 100000 in
theorem w_link_e3 (l : Launch) (G : gG) (hlf : l.stackTraces = false) (A : Nat → Nat) (TA : Nat → Nat → Nat) (S : cS) (W9 : cWk) (H : Heap) (hC : Cat G A TA S W9 H) (hI : sInv S) (z1 : Int) (z2 : Int) (i : Nat) (j : Nat) (hz1 : z1 = i) (hi : i < sn S) (hz2 : z2 = j) (hj : j < sn S) (hij : i ≠ j) (htb : (slk S i).testBit j = true) (o : Nat) (ho0 : LU G o H) (go : gB G ≤ o) (no : ¬ own A TA (sn S) o) : gM l yL_link wsL_link rm_L_link [.ref (A 0), .int (zI z1), .int (zI z2), .ref o] G H (gi (fun r H1 => zI 3 = r ∧ LX G A TA TA S S o H H1 ∧ LU G o H1)) (gNo) 6 60 := by
  obtain ⟨fo, ho⟩ := ho0
  have hol := va_at.lt ho
  refine g_startW (cc := cL_link) (maxL := 5) (ret := (some .int)) (hh := [(0, 10, 13, 21), (0, 10, 17, 13), (0, 10, 21, 15)]) (by decide +kernel) rfl (Nat.le_of_ble_eq_true rfl) ?_
  intro p e s m args below meth c F ls hl
  obtain ⟨hx, hb, hml, hr, hts, hown, hlocks, hxt, hH, hX, hin⟩ := F
  have hown : s.vm.findClass RL = some m.cls := hown
  have hS : va_S (gA G) s.heap H [] := by rw [hH]; exact va_S.rf
  have hl : lv_has ls 5 [(0, .ref (A 0)), (1, .int (zI z1)), (2, .int (zI z2)), (3, .ref o)] := hl
  refine lv_aload_n hx hb dL_link_0 rfl (lv_at hl 3 rfl) ?_
  refine lv_iconst (v := zI 0) hx hb dL_link_1 rfl ?_
  refine lv_aload_n hx hb dL_link_2 rfl (lv_at hl 0 rfl) ?_
  refine lv_iload_n hx hb dL_link_3 rfl (lv_at hl 1 rfl) ?_
  refine lv_iload_n hx hb dL_link_4 rfl (lv_at hl 2 rfl) ?_
  refine g_go (vx_runV (As := [.int (zI z1), .int (zI z2)]) (rest := [.int (zI 0), .ref o]) ⟨hx, hb, hml, hown, hts⟩ (x_link_e3 l G hlf A TA S W9 H hC hI z1 z2 i j hz1 hi hz2 hj hij htb) (cwV 2 hts gL_link_X4_link rfl rfl rfl hd_X4_link ⟨(Nat.le_of_ble_eq_true rfl), (Nat.le_of_ble_eq_true rfl)⟩) (g_preV hX hS (ci := 4) rfl hC.1) rfl rfl hl.1 rfl (lv_room (Nat.le_of_ble_eq_true rfl)) dL_link_5 ⟨(Nat.le_of_ble_eq_true rfl), (Nat.le_of_ble_eq_true rfl)⟩) hS (fun E ce q9 H_5 locs hp hS hce hcv hcl => ?_) (fun v H1 locs h hS => h.elim)
  obtain ⟨rfl, hE9⟩ := hp
  have hLX := LX.ext o hC hE9
  have ho := ho.ext hE9
  refine g_catch hX hown [⟨0, 10, 13, 21⟩, ⟨0, 10, 17, 13⟩] ⟨0, 10, 21, 15⟩ [] hxt (List.forall_mem_cons.mpr ⟨⟨by decide, "java/lang/IndexOutOfBoundsException", (hts (.classLink RL 21 "java/lang/IndexOutOfBoundsException") (List.mem_cons_of_mem _ (List.mem_append_left _ (List.mem_append_left _ (List.mem_append_left _ (List.mem_append_left _ (List.mem_append_left _ (List.mem_append_left _ (List.mem_append_left _ (List.mem_of_getElem? (i := 0) rfl)))))))))), by decide +kernel, by decide +kernel⟩, (List.forall_mem_cons.mpr ⟨⟨by decide, "java/lang/IllegalArgumentException", (hts (.classLink RL 13 "java/lang/IllegalArgumentException") (List.mem_cons_of_mem _ (List.mem_append_left _ (List.mem_append_left _ (List.mem_append_left _ (List.mem_append_left _ (List.mem_append_left _ (List.mem_append_left _ (List.mem_append_left _ (List.mem_of_getElem? (i := 1) rfl)))))))))), by decide +kernel, by decide +kernel⟩, (fun _ h => absurd h List.not_mem_nil)⟩)⟩) (by decide +kernel) rfl (by decide) (hts (.classLink RL 15 "java/lang/IllegalStateException") (List.mem_cons_of_mem _ (List.mem_append_left _ (List.mem_append_left _ (List.mem_append_left _ (List.mem_append_left _ (List.mem_append_left _ (List.mem_append_left _ (List.mem_append_left _ (List.mem_of_getElem? (i := 2) rfl)))))))))) (by decide +kernel) hce hcv hcl ?_
  refine W.eq (g2 := F0 m 21 ls [.ref q9]) rfl ?_
  refine lv_astore (lv' := [(4, .ref q9), (0, .ref (A 0)), (1, .int (zI z1)), (2, .int (zI z2)), (3, .ref o)]) hx hb dL_link_21 hl (by decide) rfl (fun ls hl => ?_)
  refine lv_iconst (v := zI 3) hx hb dL_link_23 rfl ?_
  exact g_reti hx hb hr hlocks hS rfl (⟨rfl, hLX, ⟨_, ho⟩⟩) (Nat.le_of_ble_eq_true rfl) (Nat.le_of_ble_eq_true rfl) dL_link_24
set_option maxHeartbeats 4000000 in
set_option maxRecDepth 100000 in
theorem w_cut_ok (l : Launch) (G : gG) (A : Nat → Nat) (TA : Nat → Nat → Nat) (S : cS) (W9 : cWk) (H : Heap) (hC : Cat G A TA S W9 H) (hI : sInv S) (z1 : Int) (z2 : Int) (i : Nat) (j : Nat) (hz1 : z1 = i) (hi : i < sn S) (hz2 : z2 = j) (hj : j < sn S) (hlk2 : ∀ k, lkT (slk S) i j k < 65536) (hij : i ≠ j) (htb : (slk S i).testBit j = true) (o : Nat) (ho0 : LU G o H) (go : gB G ≤ o) (no : ¬ own A TA (sn S) o) : gM l yL_cut wsL_cut rm_L_cut [.ref (A 0), .int (zI z1), .int (zI z2), .ref o] G H (gi (fun r H1 => zI 0 = r ∧ LX G A TA TA S (sLnk S i j) o H H1 ∧ LO G o H1 ((famC (lkT (slk S) i j) (sn S) (sn S) : Nat) : Int))) (gNo) 6 60 := by
  obtain ⟨fo, ho⟩ := ho0
  have hol := va_at.lt ho
  refine g_startW (cc := cL_cut) (maxL := 5) (ret := (some .int)) (hh := [(0, 10, 13, 21), (0, 10, 17, 15)]) (by decide +kernel) rfl (Nat.le_of_ble_eq_true rfl) ?_
  intro p e s m args below meth c F ls hl
  obtain ⟨hx, hb, hml, hr, hts, hown, hlocks, hxt, hH, hX, hin⟩ := F
  have hown : s.vm.findClass RL = some m.cls := hown
  have hS : va_S (gA G) s.heap H [] := by rw [hH]; exact va_S.rf
  have hl : lv_has ls 5 [(0, .ref (A 0)), (1, .int (zI z1)), (2, .int (zI z2)), (3, .ref o)] := hl
  refine lv_aload_n hx hb dL_cut_0 rfl (lv_at hl 3 rfl) ?_
  refine lv_iconst (v := zI 0) hx hb dL_cut_1 rfl ?_
  refine lv_aload_n hx hb dL_cut_2 rfl (lv_at hl 0 rfl) ?_
  refine lv_iload_n hx hb dL_cut_3 rfl (lv_at hl 1 rfl) ?_
  refine lv_iload_n hx hb dL_cut_4 rfl (lv_at hl 2 rfl) ?_
  refine g_goi (vx_runV (As := [.int (zI z1), .int (zI z2)]) (rest := [.int (zI 0), .ref o]) ⟨hx, hb, hml, hown, hts⟩ (x_cut_ok l G A TA S W9 H hC hI z1 z2 i j hz1 hi hz2 hj hlk2 hij htb) (cwV 2 hts gL_cut_X4_cut rfl rfl rfl hd_X4_cut ⟨(Nat.le_of_ble_eq_true rfl), (Nat.le_of_ble_eq_true rfl)⟩) (g_preV hX hS (ci := 4) rfl hC.1) rfl rfl hl.1 rfl (lv_room (Nat.le_of_ble_eq_true rfl)) dL_cut_5 ⟨(Nat.le_of_ble_eq_true rfl), (Nat.le_of_ble_eq_true rfl)⟩) hS (fun r_5 H_5 locs hp hS => ?_)
  obtain ⟨rfl, hxp⟩ := hp
  have hLX := LX.xp o hxp rfl
  have ho := ho.kp hxp.2 no
  refine lv_i2l hx hb dL_cut_8 rfl ?_
  refine gz_last hx hb hX hS ho go 0 (by omega) (by omega) (by omega) dL_cut_9 (fun H_9 locs h_n hO hS => ?_)
  have ho : gat G o (.inl (gJ G, 1, .inr (.inl (vp_updL fo 0 ((zI ((famC (lkT (slk S) i j) (sn S) (sn S) : Nat) : Int)).toInt64))))) H_9 := h_n
  refine lv_goto (tgt := 21) hx hb dL_cut_10 (by decide) ?_
  refine lv_iconst (v := zI 0) hx hb dL_cut_21 rfl ?_
  exact g_reti hx hb hr hlocks hS rfl (⟨rfl, hLX.put hO hol no, ⟨_, ho, if_pos rfl⟩⟩) (Nat.le_of_ble_eq_true rfl) (Nat.le_of_ble_eq_true rfl) dL_cut_22
set_option maxHeartbeats 4000000 in
set_option maxRecDepth 100000 in
theorem w_cut_e1 (l : Launch) (G : gG) (hlf : l.stackTraces = false) (A : Nat → Nat) (TA : Nat → Nat → Nat) (S : cS) (W9 : cWk) (H : Heap) (hC : Cat G A TA S W9 H) (hI : sInv S) (z1 : Int) (z2 : Int) (hz1 : rI z1) (hz2 : rI z2) (hno : ¬ ((0 ≤ z1 ∧ z1 < sn S) ∧ 0 ≤ z2 ∧ z2 < sn S)) (o : Nat) (ho0 : LU G o H) (go : gB G ≤ o) (no : ¬ own A TA (sn S) o) : gM l yL_cut wsL_cut rm_L_cut [.ref (A 0), .int (zI z1), .int (zI z2), .ref o] G H (gi (fun r H1 => zI 1 = r ∧ LX G A TA TA S S o H H1 ∧ LU G o H1)) (gNo) 6 60 := by
  obtain ⟨fo, ho⟩ := ho0
  have hol := va_at.lt ho
  refine g_startW (cc := cL_cut) (maxL := 5) (ret := (some .int)) (hh := [(0, 10, 13, 21), (0, 10, 17, 15)]) (by decide +kernel) rfl (Nat.le_of_ble_eq_true rfl) ?_
  intro p e s m args below meth c F ls hl
  obtain ⟨hx, hb, hml, hr, hts, hown, hlocks, hxt, hH, hX, hin⟩ := F
  have hown : s.vm.findClass RL = some m.cls := hown
  have hS : va_S (gA G) s.heap H [] := by rw [hH]; exact va_S.rf
  have hl : lv_has ls 5 [(0, .ref (A 0)), (1, .int (zI z1)), (2, .int (zI z2)), (3, .ref o)] := hl
  refine lv_aload_n hx hb dL_cut_0 rfl (lv_at hl 3 rfl) ?_
  refine lv_iconst (v := zI 0) hx hb dL_cut_1 rfl ?_
  refine lv_aload_n hx hb dL_cut_2 rfl (lv_at hl 0 rfl) ?_
  refine lv_iload_n hx hb dL_cut_3 rfl (lv_at hl 1 rfl) ?_
  refine lv_iload_n hx hb dL_cut_4 rfl (lv_at hl 2 rfl) ?_
  refine g_go (vx_runV (As := [.int (zI z1), .int (zI z2)]) (rest := [.int (zI 0), .ref o]) ⟨hx, hb, hml, hown, hts⟩ (x_cut_e1 l G hlf A TA S W9 H hC hI z1 z2 hz1 hz2 hno) (cwV 2 hts gL_cut_X4_cut rfl rfl rfl hd_X4_cut ⟨(Nat.le_of_ble_eq_true rfl), (Nat.le_of_ble_eq_true rfl)⟩) (g_preV hX hS (ci := 4) rfl hC.1) rfl rfl hl.1 rfl (lv_room (Nat.le_of_ble_eq_true rfl)) dL_cut_5 ⟨(Nat.le_of_ble_eq_true rfl), (Nat.le_of_ble_eq_true rfl)⟩) hS (fun E ce q9 H_5 locs hp hS hce hcv hcl => ?_) (fun v H1 locs h hS => h.elim)
  obtain ⟨rfl, hE9⟩ := hp
  have hLX := LX.ext o hC hE9
  have ho := ho.ext hE9
  refine g_catch hX hown [] ⟨0, 10, 13, 21⟩ [⟨0, 10, 17, 15⟩] hxt (fun _ h => absurd h List.not_mem_nil) (by decide +kernel) rfl (by decide) (hts (.classLink RL 21 "java/lang/IndexOutOfBoundsException") (List.mem_cons_of_mem _ (List.mem_append_left _ (List.mem_append_left _ (List.mem_append_left _ (List.mem_append_left _ (List.mem_append_left _ (List.mem_append_left _ (List.mem_of_getElem? (i := 0) rfl))))))))) (by decide +kernel) hce hcv hcl ?_
  refine W.eq (g2 := F0 m 13 ls [.ref q9]) rfl ?_
  refine lv_astore (lv' := [(4, .ref q9), (0, .ref (A 0)), (1, .int (zI z1)), (2, .int (zI z2)), (3, .ref o)]) hx hb dL_cut_13 hl (by decide) rfl (fun ls hl => ?_)
  refine lv_iconst (v := zI 1) hx hb dL_cut_15 rfl ?_
  exact g_reti hx hb hr hlocks hS rfl (⟨rfl, hLX, ⟨_, ho⟩⟩) (Nat.le_of_ble_eq_true rfl) (Nat.le_of_ble_eq_true rfl) dL_cut_16
set_option maxHeartbeats 4000000 in
set_option maxRecDepth 100000 in
theorem w_cut_e2 (l : Launch) (G : gG) (hlf : l.stackTraces = false) (A : Nat → Nat) (TA : Nat → Nat → Nat) (S : cS) (W9 : cWk) (H : Heap) (hC : Cat G A TA S W9 H) (hI : sInv S) (z1 : Int) (z2 : Int) (i : Nat) (j : Nat) (hz1 : z1 = i) (hi : i < sn S) (hz2 : z2 = j) (hj : j < sn S) (htb : (slk S i).testBit j = false) (o : Nat) (ho0 : LU G o H) (go : gB G ≤ o) (no : ¬ own A TA (sn S) o) : gM l yL_cut wsL_cut rm_L_cut [.ref (A 0), .int (zI z1), .int (zI z2), .ref o] G H (gi (fun r H1 => zI 2 = r ∧ LX G A TA TA S S o H H1 ∧ LU G o H1)) (gNo) 6 60 := by
  obtain ⟨fo, ho⟩ := ho0
  have hol := va_at.lt ho
  refine g_startW (cc := cL_cut) (maxL := 5) (ret := (some .int)) (hh := [(0, 10, 13, 21), (0, 10, 17, 15)]) (by decide +kernel) rfl (Nat.le_of_ble_eq_true rfl) ?_
  intro p e s m args below meth c F ls hl
  obtain ⟨hx, hb, hml, hr, hts, hown, hlocks, hxt, hH, hX, hin⟩ := F
  have hown : s.vm.findClass RL = some m.cls := hown
  have hS : va_S (gA G) s.heap H [] := by rw [hH]; exact va_S.rf
  have hl : lv_has ls 5 [(0, .ref (A 0)), (1, .int (zI z1)), (2, .int (zI z2)), (3, .ref o)] := hl
  refine lv_aload_n hx hb dL_cut_0 rfl (lv_at hl 3 rfl) ?_
  refine lv_iconst (v := zI 0) hx hb dL_cut_1 rfl ?_
  refine lv_aload_n hx hb dL_cut_2 rfl (lv_at hl 0 rfl) ?_
  refine lv_iload_n hx hb dL_cut_3 rfl (lv_at hl 1 rfl) ?_
  refine lv_iload_n hx hb dL_cut_4 rfl (lv_at hl 2 rfl) ?_
  refine g_go (vx_runV (As := [.int (zI z1), .int (zI z2)]) (rest := [.int (zI 0), .ref o]) ⟨hx, hb, hml, hown, hts⟩ (x_cut_e2 l G hlf A TA S W9 H hC hI z1 z2 i j hz1 hi hz2 hj htb) (cwV 2 hts gL_cut_X4_cut rfl rfl rfl hd_X4_cut ⟨(Nat.le_of_ble_eq_true rfl), (Nat.le_of_ble_eq_true rfl)⟩) (g_preV hX hS (ci := 4) rfl hC.1) rfl rfl hl.1 rfl (lv_room (Nat.le_of_ble_eq_true rfl)) dL_cut_5 ⟨(Nat.le_of_ble_eq_true rfl), (Nat.le_of_ble_eq_true rfl)⟩) hS (fun E ce q9 H_5 locs hp hS hce hcv hcl => ?_) (fun v H1 locs h hS => h.elim)
  obtain ⟨rfl, hE9⟩ := hp
  have hLX := LX.ext o hC hE9
  have ho := ho.ext hE9
  refine g_catch hX hown [⟨0, 10, 13, 21⟩] ⟨0, 10, 17, 15⟩ [] hxt (List.forall_mem_cons.mpr ⟨⟨by decide, "java/lang/IndexOutOfBoundsException", (hts (.classLink RL 21 "java/lang/IndexOutOfBoundsException") (List.mem_cons_of_mem _ (List.mem_append_left _ (List.mem_append_left _ (List.mem_append_left _ (List.mem_append_left _ (List.mem_append_left _ (List.mem_append_left _ (List.mem_of_getElem? (i := 0) rfl))))))))), by decide +kernel, by decide +kernel⟩, (fun _ h => absurd h List.not_mem_nil)⟩) (by decide +kernel) rfl (by decide) (hts (.classLink RL 15 "java/lang/IllegalStateException") (List.mem_cons_of_mem _ (List.mem_append_left _ (List.mem_append_left _ (List.mem_append_left _ (List.mem_append_left _ (List.mem_append_left _ (List.mem_append_left _ (List.mem_of_getElem? (i := 1) rfl))))))))) (by decide +kernel) hce hcv hcl ?_
  refine W.eq (g2 := F0 m 17 ls [.ref q9]) rfl ?_
  refine lv_astore (lv' := [(4, .ref q9), (0, .ref (A 0)), (1, .int (zI z1)), (2, .int (zI z2)), (3, .ref o)]) hx hb dL_cut_17 hl (by decide) rfl (fun ls hl => ?_)
  refine lv_iconst (v := zI 2) hx hb dL_cut_19 rfl ?_
  exact g_reti hx hb hr hlocks hS rfl (⟨rfl, hLX, ⟨_, ho⟩⟩) (Nat.le_of_ble_eq_true rfl) (Nat.le_of_ble_eq_true rfl) dL_cut_20
set_option maxHeartbeats 4000000 in
set_option maxRecDepth 100000 in
theorem w_family_ok (l : Launch) (G : gG) (A : Nat → Nat) (TA : Nat → Nat → Nat) (S : cS) (W9 : cWk) (H : Heap) (hC : Cat G A TA S W9 H) (hI : sInv S) (z : Int) (i : Nat) (hz : z = i) (hi : i < sn S) (o : Nat) (ho0 : LU G o H) (go : gB G ≤ o) (no : ¬ own A TA (sn S) o) : gM l yL_family wsL_family rm_L_family [.ref (A 0), .int (zI z), .ref o] G H (gi (fun r H1 => zI 0 = r ∧ LX G A TA TA S S o H H1 ∧ LO G o H1 ((famL (slk S) (sn S) i : Nat) : Int))) (gNo) 6 60 := by
  obtain ⟨fo, ho⟩ := ho0
  have hol := va_at.lt ho
  refine g_startW (cc := cL_family) (maxL := 4) (ret := (some .int)) (hh := [(0, 9, 12, 21)]) (by decide +kernel) rfl (Nat.le_of_ble_eq_true rfl) ?_
  intro p e s m args below meth c F ls hl
  obtain ⟨hx, hb, hml, hr, hts, hown, hlocks, hxt, hH, hX, hin⟩ := F
  have hown : s.vm.findClass RL = some m.cls := hown
  have hS : va_S (gA G) s.heap H [] := by rw [hH]; exact va_S.rf
  have hl : lv_has ls 4 [(0, .ref (A 0)), (1, .int (zI z)), (2, .ref o)] := hl
  refine lv_aload_n hx hb dL_family_0 rfl (lv_at hl 2 rfl) ?_
  refine lv_iconst (v := zI 0) hx hb dL_family_1 rfl ?_
  refine lv_aload_n hx hb dL_family_2 rfl (lv_at hl 0 rfl) ?_
  refine lv_iload_n hx hb dL_family_3 rfl (lv_at hl 1 rfl) ?_
  refine g_goi (vx_runV (As := [.int (zI z)]) (rest := [.int (zI 0), .ref o]) ⟨hx, hb, hml, hown, hts⟩ (x_family_ok l G A TA S W9 H hC hI z i hz hi) (cwV 1 hts gL_family_X4_family rfl rfl rfl hd_X4_family ⟨(Nat.le_of_ble_eq_true rfl), (Nat.le_of_ble_eq_true rfl)⟩) (g_preV hX hS (ci := 4) rfl hC.1) rfl rfl hl.1 rfl (lv_room (Nat.le_of_ble_eq_true rfl)) dL_family_4 ⟨(Nat.le_of_ble_eq_true rfl), (Nat.le_of_ble_eq_true rfl)⟩) hS (fun r_4 H_4 locs hp hS => ?_)
  obtain ⟨rfl, rfl⟩ := hp
  have hLX := LX.same o hC
  refine lv_i2l hx hb dL_family_7 rfl ?_
  refine gz_last hx hb hX hS ho go 0 (by omega) (by omega) (by omega) dL_family_8 (fun H_8 locs h_n hO hS => ?_)
  have ho : gat G o (.inl (gJ G, 1, .inr (.inl (vp_updL fo 0 ((zI ((famL (slk S) (sn S) i : Nat) : Int)).toInt64))))) H_8 := h_n
  refine lv_goto (tgt := 15) hx hb dL_family_9 (by decide) ?_
  refine lv_iconst (v := zI 0) hx hb dL_family_15 rfl ?_
  exact g_reti hx hb hr hlocks hS rfl (⟨rfl, hLX.put hO hol no, ⟨_, ho, if_pos rfl⟩⟩) (Nat.le_of_ble_eq_true rfl) (Nat.le_of_ble_eq_true rfl) dL_family_16
set_option maxHeartbeats 4000000 in
set_option maxRecDepth 100000 in
theorem w_family_e1 (l : Launch) (G : gG) (hlf : l.stackTraces = false) (A : Nat → Nat) (TA : Nat → Nat → Nat) (S : cS) (W9 : cWk) (H : Heap) (hC : Cat G A TA S W9 H) (hI : sInv S) (z : Int) (hz : rI z) (hi : ¬ (0 ≤ z ∧ z < sn S)) (o : Nat) (ho0 : LU G o H) (go : gB G ≤ o) (no : ¬ own A TA (sn S) o) : gM l yL_family wsL_family rm_L_family [.ref (A 0), .int (zI z), .ref o] G H (gi (fun r H1 => zI 1 = r ∧ LX G A TA TA S S o H H1 ∧ LU G o H1)) (gNo) 6 60 := by
  obtain ⟨fo, ho⟩ := ho0
  have hol := va_at.lt ho
  refine g_startW (cc := cL_family) (maxL := 4) (ret := (some .int)) (hh := [(0, 9, 12, 21)]) (by decide +kernel) rfl (Nat.le_of_ble_eq_true rfl) ?_
  intro p e s m args below meth c F ls hl
  obtain ⟨hx, hb, hml, hr, hts, hown, hlocks, hxt, hH, hX, hin⟩ := F
  have hown : s.vm.findClass RL = some m.cls := hown
  have hS : va_S (gA G) s.heap H [] := by rw [hH]; exact va_S.rf
  have hl : lv_has ls 4 [(0, .ref (A 0)), (1, .int (zI z)), (2, .ref o)] := hl
  refine lv_aload_n hx hb dL_family_0 rfl (lv_at hl 2 rfl) ?_
  refine lv_iconst (v := zI 0) hx hb dL_family_1 rfl ?_
  refine lv_aload_n hx hb dL_family_2 rfl (lv_at hl 0 rfl) ?_
  refine lv_iload_n hx hb dL_family_3 rfl (lv_at hl 1 rfl) ?_
  refine g_go (vx_runV (As := [.int (zI z)]) (rest := [.int (zI 0), .ref o]) ⟨hx, hb, hml, hown, hts⟩ (x_family_e1 l G hlf A TA S W9 H hC hI z hz hi) (cwV 1 hts gL_family_X4_family rfl rfl rfl hd_X4_family ⟨(Nat.le_of_ble_eq_true rfl), (Nat.le_of_ble_eq_true rfl)⟩) (g_preV hX hS (ci := 4) rfl hC.1) rfl rfl hl.1 rfl (lv_room (Nat.le_of_ble_eq_true rfl)) dL_family_4 ⟨(Nat.le_of_ble_eq_true rfl), (Nat.le_of_ble_eq_true rfl)⟩) hS (fun E ce q9 H_4 locs hp hS hce hcv hcl => ?_) (fun v H1 locs h hS => h.elim)
  obtain ⟨rfl, hE9⟩ := hp
  have hLX := LX.ext o hC hE9
  have ho := ho.ext hE9
  refine g_catch hX hown [] ⟨0, 9, 12, 21⟩ [] hxt (fun _ h => absurd h List.not_mem_nil) (by decide +kernel) rfl (by decide) (hts (.classLink RL 21 "java/lang/IndexOutOfBoundsException") (List.mem_cons_of_mem _ (List.mem_append_left _ (List.mem_append_left _ (List.mem_append_left _ (List.mem_append_left _ (List.mem_append_left _ (List.mem_of_getElem? (i := 0) rfl)))))))) (by decide +kernel) hce hcv hcl ?_
  refine W.eq (g2 := F0 m 12 ls [.ref q9]) rfl ?_
  refine lv_astore_n (lv' := [(3, .ref q9), (0, .ref (A 0)), (1, .int (zI z)), (2, .ref o)]) hx hb dL_family_12 rfl hl (by decide) rfl (fun ls hl => ?_)
  refine lv_iconst (v := zI 1) hx hb dL_family_13 rfl ?_
  exact g_reti hx hb hr hlocks hS rfl (⟨rfl, hLX, ⟨_, ho⟩⟩) (Nat.le_of_ble_eq_true rfl) (Nat.le_of_ble_eq_true rfl) dL_family_14
