/-! ===== the law: both objects alike ===== -/
theorem costV_r {S : cS} (hI : sInv S) (k : Nat) : -99999 ≤ costV S k ∧ costV S k ≤ 36000 := by
  rcases costV_rng hI k with h | h
  · rw [h]; exact ⟨Int.le_refl _, by show (-99999 : Int) ≤ 36000; omega⟩
  · omega
theorem placesF_r {S : cS} (hI : sInv S) (z : Int) : -99999 ≤ (placesF S z).1 ∧ (placesF S z).1 ≤ 1000000 := (placesF_ok hI z).2.2.1
set_option maxHeartbeats 4000000 in
set_option maxRecDepth 100000 in
theorem k_areAlike (l : Launch) (G : gG) (hlf : l.stackTraces = false) (A : Nat → Nat) (TA : Nat → Nat → Nat) (S : cS) (B : Nat → Nat) (TB : Nat → Nat → Nat) (H : Heap) (hPR : PR G A TA S B TB S H) : gM l yL_areAlike wsL_areAlike rm_L_areAlike [.ref (A 0), .ref (B 0)] G H (gi (fun r H1 => zI 1 = r ∧ ∃ TA TB, PR G A TA S B TB S H1)) (gNo) 2000 30000 := by
  obtain ⟨hI, -⟩ := id hPR
  have h16 := hI.1
  have hmF : manyF S ≤ sn S := ctB_le _ _
  have hlc := lcF_lt S (sn S) h16
  have hfc := famC_le (slk S) (sn S) (sn S)
  have hh12 := hI.2.2.2.2.2.1
  refine g_start (cc := cL_areAlike) (maxL := 4) (ret := (some .boolean)) (by decide +kernel) rfl (Nat.le_of_ble_eq_true rfl) ?_
  intro p e s m args below meth c F ls hl
  obtain ⟨hx, hb, hml, hr, hts, hown, hlocks, hxt, hH, hX, hin⟩ := F
  have hown : s.vm.findClass RL = some m.cls := hown
  have hS : va_S (gA G) s.heap H [] := by rw [hH]; exact va_S.rf
  have hl : lv_has ls 4 [(0, .ref (A 0)), (1, .ref (B 0))] := hl
  refine lv_aload_n hx hb dL_areAlike_0 rfl (lv_at hl 0 rfl) ?_
  obtain ⟨hIa, hIb, ⟨Wa, hCa⟩, ⟨Wb, hCb⟩, hdd⟩ := id hPR
  refine g_goi (vx_runV (As := []) (rest := []) ⟨hx, hb, hml, hown, hts⟩ (x_tunes l G A TA S Wa H hCa hIa ) (cwV 0 hts gL_areAlike_X4_tunes rfl rfl rfl hd_X4_tunes ⟨(Nat.le_of_ble_eq_true rfl), (Nat.le_of_ble_eq_true rfl)⟩) (g_preV hX hS (ci := 4) rfl hCa.1) rfl rfl hl.1 rfl (lv_room (Nat.le_of_ble_eq_true rfl)) dL_areAlike_1 (⟨by show _ ≤ 2000; omega, by show _ ≤ 30000; omega⟩)) hS (fun r_1 H_1 locs hp hS => ?_)
  obtain ⟨rfl, rfl⟩ := hp
  refine lv_aload_n hx hb dL_areAlike_4 rfl (lv_at hl 1 rfl) ?_
  obtain ⟨hIa, hIb, ⟨Wa, hCa⟩, ⟨Wb, hCb⟩, hdd⟩ := id hPR
  refine g_goi (vx_runV (As := []) (rest := [.int (zI (sn S : Int))]) ⟨hx, hb, hml, hown, hts⟩ (x_tunes l G B TB S Wb H hCb hIb ) (cwV 0 hts gL_areAlike_X4_tunes rfl rfl rfl hd_X4_tunes ⟨(Nat.le_of_ble_eq_true rfl), (Nat.le_of_ble_eq_true rfl)⟩) (g_preV hX hS (ci := 4) rfl hCb.1) rfl rfl hl.1 rfl (lv_room (Nat.le_of_ble_eq_true rfl)) dL_areAlike_5 (⟨by show _ ≤ 2000; omega, by show _ ≤ 30000; omega⟩)) hS (fun r_5 H_5 locs hp hS => ?_)
  obtain ⟨rfl, rfl⟩ := hp
  refine gz_icmp_ne (tgt := 59) hx hb ⟨by omega, by omega⟩ ⟨by omega, by omega⟩ dL_areAlike_8 (by decide) (fun c_8 => ?_) (fun c_8 => ?_)
  · omega
  · refine lv_aload_n hx hb dL_areAlike_11 rfl (lv_at hl 0 rfl) ?_
    obtain ⟨hIa, hIb, ⟨Wa, hCa⟩, ⟨Wb, hCb⟩, hdd⟩ := id hPR
    refine g_goi (vx_runV (As := []) (rest := []) ⟨hx, hb, hml, hown, hts⟩ (x_hummed l G A TA S Wa H hCa hIa ) (cwV 0 hts gL_areAlike_X4_hummed rfl rfl rfl hd_X4_hummed ⟨(Nat.le_of_ble_eq_true rfl), (Nat.le_of_ble_eq_true rfl)⟩) (g_preV hX hS (ci := 4) rfl hCa.1) rfl rfl hl.1 rfl (lv_room (Nat.le_of_ble_eq_true rfl)) dL_areAlike_12 (⟨by show _ ≤ 2000; omega, by show _ ≤ 30000; omega⟩)) hS (fun r_12 H_12 locs hp hS => ?_)
    obtain ⟨rfl, rfl⟩ := hp
    refine lv_aload_n hx hb dL_areAlike_15 rfl (lv_at hl 1 rfl) ?_
    obtain ⟨hIa, hIb, ⟨Wa, hCa⟩, ⟨Wb, hCb⟩, hdd⟩ := id hPR
    refine g_goi (vx_runV (As := []) (rest := [.int (zI (shn S : Int))]) ⟨hx, hb, hml, hown, hts⟩ (x_hummed l G B TB S Wb H hCb hIb ) (cwV 0 hts gL_areAlike_X4_hummed rfl rfl rfl hd_X4_hummed ⟨(Nat.le_of_ble_eq_true rfl), (Nat.le_of_ble_eq_true rfl)⟩) (g_preV hX hS (ci := 4) rfl hCb.1) rfl rfl hl.1 rfl (lv_room (Nat.le_of_ble_eq_true rfl)) dL_areAlike_16 (⟨by show _ ≤ 2000; omega, by show _ ≤ 30000; omega⟩)) hS (fun r_16 H_16 locs hp hS => ?_)
    obtain ⟨rfl, rfl⟩ := hp
    refine gz_icmp_ne (tgt := 59) hx hb ⟨by omega, by omega⟩ ⟨by omega, by omega⟩ dL_areAlike_19 (by decide) (fun c_19 => ?_) (fun c_19 => ?_)
    · omega
    · refine lv_aload_n hx hb dL_areAlike_22 rfl (lv_at hl 0 rfl) ?_
      obtain ⟨hIa, hIb, ⟨Wa, hCa⟩, ⟨Wb, hCb⟩, hdd⟩ := id hPR
      refine g_goi (vx_runV (As := []) (rest := []) ⟨hx, hb, hml, hown, hts⟩ (x_matches l G A TA S Wa H hCa hIa ) (cwV 0 hts gL_areAlike_X4_matches rfl rfl rfl hd_X4_matches ⟨(Nat.le_of_ble_eq_true rfl), (Nat.le_of_ble_eq_true rfl)⟩) (g_preV hX hS (ci := 4) rfl hCa.1) rfl rfl hl.1 rfl (lv_room (Nat.le_of_ble_eq_true rfl)) dL_areAlike_23 (⟨by show _ ≤ 2000; omega, by show _ ≤ 30000; omega⟩)) hS (fun r_23 H_23 locs hp hS => ?_)
      obtain ⟨rfl, hxp⟩ := hp
      have hPR := hPR.x0 hxp
      refine lv_aload_n hx hb dL_areAlike_26 rfl (lv_at hl 1 rfl) ?_
      obtain ⟨hIa, hIb, ⟨Wa, hCa⟩, ⟨Wb, hCb⟩, hdd⟩ := id hPR
      refine g_goi (vx_runV (As := []) (rest := [.int (zI ((manyF S : Nat) : Int))]) ⟨hx, hb, hml, hown, hts⟩ (x_matches l G B TB S Wb H_23 hCb hIb ) (cwV 0 hts gL_areAlike_X4_matches rfl rfl rfl hd_X4_matches ⟨(Nat.le_of_ble_eq_true rfl), (Nat.le_of_ble_eq_true rfl)⟩) (g_preV hX hS (ci := 4) rfl hCb.1) rfl rfl hl.1 rfl (lv_room (Nat.le_of_ble_eq_true rfl)) dL_areAlike_27 (⟨by show _ ≤ 2000; omega, by show _ ≤ 30000; omega⟩)) hS (fun r_27 H_27 locs hp hS => ?_)
      obtain ⟨rfl, hxp⟩ := hp
      have hPR := hPR.y0 hxp
      refine gz_icmp_ne (tgt := 59) hx hb ⟨by omega, by omega⟩ ⟨by omega, by omega⟩ dL_areAlike_30 (by decide) (fun c_30 => ?_) (fun c_30 => ?_)
      · omega
      · refine lv_aload_n hx hb dL_areAlike_33 rfl (lv_at hl 0 rfl) ?_
        obtain ⟨hIa, hIb, ⟨Wa, hCa⟩, ⟨Wb, hCb⟩, hdd⟩ := id hPR
        refine g_goi (vx_runV (As := []) (rest := []) ⟨hx, hb, hml, hown, hts⟩ (x_likeContour l G A TA S Wa H_27 hCa hIa ) (cwV 0 hts gL_areAlike_X4_likeContour rfl rfl rfl hd_X4_likeContour ⟨(Nat.le_of_ble_eq_true rfl), (Nat.le_of_ble_eq_true rfl)⟩) (g_preV hX hS (ci := 4) rfl hCa.1) rfl rfl hl.1 rfl (lv_room (Nat.le_of_ble_eq_true rfl)) dL_areAlike_34 (⟨by show _ ≤ 2000; omega, by show _ ≤ 30000; omega⟩)) hS (fun r_34 H_34 locs hp hS => ?_)
        obtain ⟨rfl, rfl⟩ := hp
        refine lv_aload_n hx hb dL_areAlike_37 rfl (lv_at hl 1 rfl) ?_
        obtain ⟨hIa, hIb, ⟨Wa, hCa⟩, ⟨Wb, hCb⟩, hdd⟩ := id hPR
        refine g_goi (vx_runV (As := []) (rest := [.int (zI ((lcF S (sn S) : Nat) : Int))]) ⟨hx, hb, hml, hown, hts⟩ (x_likeContour l G B TB S Wb H_27 hCb hIb ) (cwV 0 hts gL_areAlike_X4_likeContour rfl rfl rfl hd_X4_likeContour ⟨(Nat.le_of_ble_eq_true rfl), (Nat.le_of_ble_eq_true rfl)⟩) (g_preV hX hS (ci := 4) rfl hCb.1) rfl rfl hl.1 rfl (lv_room (Nat.le_of_ble_eq_true rfl)) dL_areAlike_38 (⟨by show _ ≤ 2000; omega, by show _ ≤ 30000; omega⟩)) hS (fun r_38 H_38 locs hp hS => ?_)
        obtain ⟨rfl, rfl⟩ := hp
        refine gz_icmp_ne (tgt := 59) hx hb ⟨by omega, by omega⟩ ⟨by omega, by omega⟩ dL_areAlike_41 (by decide) (fun c_41 => ?_) (fun c_41 => ?_)
        · omega
        · refine lv_aload_n hx hb dL_areAlike_44 rfl (lv_at hl 0 rfl) ?_
          obtain ⟨hIa, hIb, ⟨Wa, hCa⟩, ⟨Wb, hCb⟩, hdd⟩ := id hPR
          refine g_goi (vx_runV (As := []) (rest := []) ⟨hx, hb, hml, hown, hts⟩ (x_families l G A TA S Wa H_27 hCa hIa ) (cwV 0 hts gL_areAlike_X4_families rfl rfl rfl hd_X4_families ⟨(Nat.le_of_ble_eq_true rfl), (Nat.le_of_ble_eq_true rfl)⟩) (g_preV hX hS (ci := 4) rfl hCa.1) rfl rfl hl.1 rfl (lv_room (Nat.le_of_ble_eq_true rfl)) dL_areAlike_45 (⟨by show _ ≤ 2000; omega, by show _ ≤ 30000; omega⟩)) hS (fun r_45 H_45 locs hp hS => ?_)
          obtain ⟨rfl, rfl⟩ := hp
          refine lv_aload_n hx hb dL_areAlike_48 rfl (lv_at hl 1 rfl) ?_
          obtain ⟨hIa, hIb, ⟨Wa, hCa⟩, ⟨Wb, hCb⟩, hdd⟩ := id hPR
          refine g_goi (vx_runV (As := []) (rest := [.int (zI ((famC (slk S) (sn S) (sn S) : Nat) : Int))]) ⟨hx, hb, hml, hown, hts⟩ (x_families l G B TB S Wb H_27 hCb hIb ) (cwV 0 hts gL_areAlike_X4_families rfl rfl rfl hd_X4_families ⟨(Nat.le_of_ble_eq_true rfl), (Nat.le_of_ble_eq_true rfl)⟩) (g_preV hX hS (ci := 4) rfl hCb.1) rfl rfl hl.1 rfl (lv_room (Nat.le_of_ble_eq_true rfl)) dL_areAlike_49 (⟨by show _ ≤ 2000; omega, by show _ ≤ 30000; omega⟩)) hS (fun r_49 H_49 locs hp hS => ?_)
          obtain ⟨rfl, rfl⟩ := hp
          refine gz_icmp_ne (tgt := 59) hx hb ⟨by omega, by omega⟩ ⟨by omega, by omega⟩ dL_areAlike_52 (by decide) (fun c_52 => ?_) (fun c_52 => ?_)
          · omega
          · refine lv_iconst (v := zI 1) hx hb dL_areAlike_55 rfl ?_
            refine lv_goto (tgt := 60) hx hb dL_areAlike_56 (by decide) ?_
            refine lv_istore_n (lv' := [(2, .int (zI 1)), (0, .ref (A 0)), (1, .ref (B 0))]) hx hb dL_areAlike_60 rfl hl (by decide) rfl (fun ls hl => ?_)
            refine lv_iconst (v := zI 0) hx hb dL_areAlike_61 rfl ?_
            refine lv_istore_n (lv' := [(3, .int (zI 0)), (2, .int (zI 1)), (0, .ref (A 0)), (1, .ref (B 0))]) hx hb dL_areAlike_62 rfl hl (by decide) rfl (fun ls hl => ?_)
            have loop_63 : ∀ (M_ : Nat) (y : Int) (k : Nat) (H_L63 : Heap) (locs : List Loc), sn S - k < M_ → (y = k) → (k ≤ sn S) → (PR G A TA S B TB S H_L63) → va_S (gA G) s.heap H_L63 locs → ∀ (ls : Array Slot), lv_has ls 4 [(3, .int (zI y)), (2, .int (zI 1)), (0, .ref (A 0)), (1, .ref (B 0))] → W p l e rm_L_areAlike s m args below meth c H_L63 locs (60 * k) (600 * k) (vx_MQ below (gQ G (gi (fun r H1 => zI 1 = r ∧ ∃ TA TB, PR G A TA S B TB S H1))) (gXC G (gNo)) args s 2000 30000 (gA G)) (F0 m 63 ls []) := by
              intro M_
              induction M_ with
              | zero => intro y k H_0 locs_0 h_0; exact absurd h_0 (Nat.not_lt_zero _)
              | succ M_ ih_63 =>
                intro y k H_L63 locs hM_63 hy hkn hPR hS ls hl
                refine lv_iload_n hx hb dL_areAlike_63 rfl (lv_at hl 0 rfl) ?_
                refine lv_aload_n hx hb dL_areAlike_64 rfl (lv_at hl 2 rfl) ?_
                obtain ⟨hIa, hIb, ⟨Wa, hCa⟩, ⟨Wb, hCb⟩, hdd⟩ := id hPR
                refine g_goi (vx_runV (As := []) (rest := [.int (zI y)]) ⟨hx, hb, hml, hown, hts⟩ (x_tunes l G A TA S Wa H_L63 hCa hIa ) (cwV 0 hts gL_areAlike_X4_tunes rfl rfl rfl hd_X4_tunes ⟨(Nat.le_of_ble_eq_true rfl), (Nat.le_of_ble_eq_true rfl)⟩) (g_preV hX hS (ci := 4) rfl hCa.1) rfl rfl hl.1 rfl (lv_room (Nat.le_of_ble_eq_true rfl)) dL_areAlike_65 (⟨by show _ ≤ 2000; omega, by show _ ≤ 30000; omega⟩)) hS (fun r_65 H_65 locs hp hS => ?_)
                obtain ⟨rfl, rfl⟩ := hp
                refine gz_icmp_ge (tgt := 150) hx hb ⟨by omega, by omega⟩ ⟨by omega, by omega⟩ dL_areAlike_68 (by decide) (fun c_68 => ?_) (fun c_68 => ?_)
                · refine lv_iconst (v := zI 1) hx hb dL_areAlike_150 rfl ?_
                  refine lv_istore_n (lv' := [(3, .int (zI 1)), (2, .int (zI 1)), (0, .ref (A 0)), (1, .ref (B 0))]) hx hb dL_areAlike_151 rfl hl (by decide) rfl (fun ls hl => ?_)
                  have loop_152 : ∀ (M_ : Nat) (y : Int) (j : Nat) (H_L152 : Heap) (locs : List Loc), 5 - j < M_ → (y = j) → (1 ≤ j) → (j ≤ 5) → (∃ TA TB, PR G A TA S B TB S H_L152) → va_S (gA G) s.heap H_L152 locs → ∀ (ls : Array Slot), lv_has ls 4 [(3, .int (zI y)), (2, .int (zI 1)), (0, .ref (A 0)), (1, .ref (B 0))] → W p l e rm_L_areAlike s m args below meth c H_L152 locs (1000 + 24 * j) (20000 + 1800 * j) (vx_MQ below (gQ G (gi (fun r H1 => zI 1 = r ∧ ∃ TA TB, PR G A TA S B TB S H1))) (gXC G (gNo)) args s 2000 30000 (gA G)) (F0 m 152 ls []) := by
                    intro M_
                    induction M_ with
                    | zero => intro y j H_0 locs_0 h_0; exact absurd h_0 (Nat.not_lt_zero _)
                    | succ M_ ih_152 =>
                      intro y j H_L152 locs hM_152 hy hj1 hj5 hPR hS ls hl
                      obtain ⟨TA, TB, hPR⟩ := hPR
                      refine lv_iload_n hx hb dL_areAlike_152 rfl (lv_at hl 0 rfl) ?_
                      refine lv_iconst (v := zI 5) hx hb dL_areAlike_153 rfl ?_
                      refine gz_icmp_ge (tgt := 194) hx hb ⟨by omega, by omega⟩ (by decide) dL_areAlike_154 (by decide) (fun c_154 => ?_) (fun c_154 => ?_)
                      · refine lv_iload_n hx hb dL_areAlike_194 rfl (lv_at hl 1 rfl) ?_
                        exact g_reti hx hb hr hlocks hS rfl (⟨rfl, _, _, hPR⟩) (by omega) (by omega) dL_areAlike_195
                      · refine lv_iload_n hx hb dL_areAlike_157 rfl (lv_at hl 1 rfl) ?_
                        refine gz_if_eq (tgt := 194) hx hb (by decide) dL_areAlike_158 (by decide) (fun c_158 => ?_) (fun c_158 => ?_)
                        · omega
                        · refine lv_aload_n hx hb dL_areAlike_161 rfl (lv_at hl 2 rfl) ?_
                          refine lv_bipush (v := zI 7) hx hb dL_areAlike_162 (by decide +kernel) ?_
                          refine lv_iload_n hx hb dL_areAlike_164 rfl (lv_at hl 0 rfl) ?_
                          refine lv_iconst (v := zI 0) hx hb dL_areAlike_165 rfl ?_
                          refine lv_iconst (v := zI 0) hx hb dL_areAlike_166 rfl ?_
                          obtain ⟨hIa, hIb, ⟨Wa, hCa⟩, ⟨Wb, hCb⟩, hdd⟩ := id hPR
                          refine g_goi (vx_runSX (As := [.ref (A 0), .int (zI 7), .int (zI y), .int (zI 0), .int (zI 0)]) (rest := []) ⟨hx, hb, hml, hown, hts⟩ (k_places l G hlf A TA S Wa H_L152 hCa hIa y 0 0 ⟨by omega, by omega⟩) (vx_cwSW 5 hts gL_areAlike_L_does rfl rfl rfl hd_L_does.2 ⟨(Nat.le_of_ble_eq_true rfl), (Nat.le_of_ble_eq_true rfl)⟩) (g_pre hX hS) rfl rfl hl.1 rfl (lv_room (Nat.le_of_ble_eq_true rfl)) dL_areAlike_167 (⟨by show _ ≤ 2000; omega, by show _ ≤ 30000; omega⟩)) hS (fun r_167 H_167 locs hp hS => ?_)
                          obtain ⟨rfl, hDX⟩ := hp
                          rw [placesF_S] at hDX
                          obtain ⟨TA, hPR⟩ := hPR.d0 hDX
                          have hpr_167 := placesF_r hI y
                          refine lv_aload_n hx hb dL_areAlike_170 rfl (lv_at hl 3 rfl) ?_
                          refine lv_bipush (v := zI 7) hx hb dL_areAlike_171 (by decide +kernel) ?_
                          refine lv_iload_n hx hb dL_areAlike_173 rfl (lv_at hl 0 rfl) ?_
                          refine lv_iconst (v := zI 0) hx hb dL_areAlike_174 rfl ?_
                          refine lv_iconst (v := zI 0) hx hb dL_areAlike_175 rfl ?_
                          obtain ⟨hIa, hIb, ⟨Wa, hCa⟩, ⟨Wb, hCb⟩, hdd⟩ := id hPR
                          refine g_goi (vx_runSX (As := [.ref (B 0), .int (zI 7), .int (zI y), .int (zI 0), .int (zI 0)]) (rest := [.int (zI ((placesF S y).1))]) ⟨hx, hb, hml, hown, hts⟩ (k_places l G hlf B TB S Wb H_167 hCb hIb y 0 0 ⟨by omega, by omega⟩) (vx_cwSW 5 hts gL_areAlike_L_does rfl rfl rfl hd_L_does.2 ⟨(Nat.le_of_ble_eq_true rfl), (Nat.le_of_ble_eq_true rfl)⟩) (g_pre hX hS) rfl rfl hl.1 rfl (lv_room (Nat.le_of_ble_eq_true rfl)) dL_areAlike_176 (⟨by show _ ≤ 2000; omega, by show _ ≤ 30000; omega⟩)) hS (fun r_176 H_176 locs hp hS => ?_)
                          obtain ⟨rfl, hDX⟩ := hp
                          rw [placesF_S] at hDX
                          obtain ⟨TB, hPR⟩ := hPR.symm.d0 hDX
                          have hPR := hPR.symm
                          have hpr_176 := placesF_r hI y
                          refine gz_icmp_ne (tgt := 186) hx hb ⟨by omega, by omega⟩ ⟨by omega, by omega⟩ dL_areAlike_179 (by decide) (fun c_179 => ?_) (fun c_179 => ?_)
                          · omega
                          · refine lv_iconst (v := zI 1) hx hb dL_areAlike_182 rfl ?_
                            refine lv_goto (tgt := 187) hx hb dL_areAlike_183 (by decide) ?_
                            refine lv_istore_n (lv' := [(2, .int (zI 1)), (3, .int (zI y)), (0, .ref (A 0)), (1, .ref (B 0))]) hx hb dL_areAlike_187 rfl hl (by decide) rfl (fun ls hl => ?_)
                            refine lv_iinc (v := zI (y + 1)) (lv' := [(3, .int (zI (y + 1))), (2, .int (zI 1)), (0, .ref (A 0)), (1, .ref (B 0))]) hx hb dL_areAlike_188 hl (k := 1) rfl (zI_add _ _) (by decide) rfl (fun ls hl => ?_)
                            refine lv_goto (tgt := 152) hx hb dL_areAlike_191 (by decide) ?_
                            refine W.widen (k := 1000 + 24 * (j + 1)) (n := 20000 + 1800 * (j + 1)) (by omega) (by omega) ?_
                            exact ih_152 (y + 1) (j + 1) H_176 _ (by omega) (by omega) (by omega) (by omega) ⟨_, _, hPR⟩ hS ls (lv_sub hl [0, 1, 2, 3] rfl)
                  refine W.widen (k := 1000 + 24 * 1) (n := 20000 + 1800 * 1) (by omega) (by omega) ?_
                  exact loop_152 _ 1 1 H_L63 _ (Nat.lt_succ_self _) rfl (Nat.le_refl _) (by omega) ⟨_, _, hPR⟩ hS ls (lv_sub hl [0, 1, 2, 3] rfl)
                · refine lv_iload_n hx hb dL_areAlike_71 rfl (lv_at hl 1 rfl) ?_
                  refine gz_if_eq (tgt := 150) hx hb (by decide) dL_areAlike_72 (by decide) (fun c_72 => ?_) (fun c_72 => ?_)
                  · omega
                  · refine lv_aload_n hx hb dL_areAlike_75 rfl (lv_at hl 2 rfl) ?_
                    refine lv_iload_n hx hb dL_areAlike_76 rfl (lv_at hl 0 rfl) ?_
                    obtain ⟨hIa, hIb, ⟨Wa, hCa⟩, ⟨Wb, hCb⟩, hdd⟩ := id hPR
                    have hk24 := (hI.2.1 k (by omega)).2
                    refine g_goi (vx_runV (As := [.int (zI y)]) (rest := []) ⟨hx, hb, hml, hown, hts⟩ (x_notes_ok l G A TA S Wa H_L63 hCa hIa y k (by omega) (by omega)) (cwV 1 hts gL_areAlike_X4_notes rfl rfl rfl hd_X4_notes ⟨(Nat.le_of_ble_eq_true rfl), (Nat.le_of_ble_eq_true rfl)⟩) (g_preV hX hS (ci := 4) rfl hCa.1) rfl rfl hl.1 rfl (lv_room (Nat.le_of_ble_eq_true rfl)) dL_areAlike_77 (⟨by show _ ≤ 2000; omega, by show _ ≤ 30000; omega⟩)) hS (fun r_77 H_77 locs hp hS => ?_)
                    obtain ⟨rfl, rfl⟩ := hp
                    refine lv_aload_n hx hb dL_areAlike_80 rfl (lv_at hl 3 rfl) ?_
                    refine lv_iload_n hx hb dL_areAlike_81 rfl (lv_at hl 0 rfl) ?_
                    obtain ⟨hIa, hIb, ⟨Wa, hCa⟩, ⟨Wb, hCb⟩, hdd⟩ := id hPR
                    refine g_goi (vx_runV (As := [.int (zI y)]) (rest := [.int (zI (stn S k : Int))]) ⟨hx, hb, hml, hown, hts⟩ (x_notes_ok l G B TB S Wb H_L63 hCb hIb y k (by omega) (by omega)) (cwV 1 hts gL_areAlike_X4_notes rfl rfl rfl hd_X4_notes ⟨(Nat.le_of_ble_eq_true rfl), (Nat.le_of_ble_eq_true rfl)⟩) (g_preV hX hS (ci := 4) rfl hCb.1) rfl rfl hl.1 rfl (lv_room (Nat.le_of_ble_eq_true rfl)) dL_areAlike_82 (⟨by show _ ≤ 2000; omega, by show _ ≤ 30000; omega⟩)) hS (fun r_82 H_82 locs hp hS => ?_)
                    obtain ⟨rfl, rfl⟩ := hp
                    refine gz_icmp_ne (tgt := 142) hx hb ⟨by omega, by omega⟩ ⟨by omega, by omega⟩ dL_areAlike_85 (by decide) (fun c_85 => ?_) (fun c_85 => ?_)
                    · omega
                    · refine lv_aload_n hx hb dL_areAlike_88 rfl (lv_at hl 2 rfl) ?_
                      refine lv_iload_n hx hb dL_areAlike_89 rfl (lv_at hl 0 rfl) ?_
                      obtain ⟨hIa, hIb, ⟨Wa, hCa⟩, ⟨Wb, hCb⟩, hdd⟩ := id hPR
                      refine g_goi (vx_runSX (As := [.ref (A 0), .int (zI y)]) (rest := []) ⟨hx, hb, hml, hown, hts⟩ (k_cost l G hlf A TA S Wa H_L63 hCa hIa y k (by omega) (by omega)) (vx_cwSW 2 hts gL_areAlike_L_cost rfl rfl rfl hd_L_cost.2 ⟨(Nat.le_of_ble_eq_true rfl), (Nat.le_of_ble_eq_true rfl)⟩) (g_pre hX hS) rfl rfl hl.1 rfl (lv_room (Nat.le_of_ble_eq_true rfl)) dL_areAlike_90 (⟨by show _ ≤ 2000; omega, by show _ ≤ 30000; omega⟩)) hS (fun r_90 H_90 locs hp hS => ?_)
                      obtain ⟨rfl, hxp⟩ := hp
                      have hPR := hPR.x0 hxp
                      have hcr_90 := costV_r hIa k
                      refine lv_aload_n hx hb dL_areAlike_93 rfl (lv_at hl 3 rfl) ?_
                      refine lv_iload_n hx hb dL_areAlike_94 rfl (lv_at hl 0 rfl) ?_
                      obtain ⟨hIa, hIb, ⟨Wa, hCa⟩, ⟨Wb, hCb⟩, hdd⟩ := id hPR
                      refine g_goi (vx_runSX (As := [.ref (B 0), .int (zI y)]) (rest := [.int (zI (costV S k))]) ⟨hx, hb, hml, hown, hts⟩ (k_cost l G hlf B TB S Wb H_90 hCb hIb y k (by omega) (by omega)) (vx_cwSW 2 hts gL_areAlike_L_cost rfl rfl rfl hd_L_cost.2 ⟨(Nat.le_of_ble_eq_true rfl), (Nat.le_of_ble_eq_true rfl)⟩) (g_pre hX hS) rfl rfl hl.1 rfl (lv_room (Nat.le_of_ble_eq_true rfl)) dL_areAlike_95 (⟨by show _ ≤ 2000; omega, by show _ ≤ 30000; omega⟩)) hS (fun r_95 H_95 locs hp hS => ?_)
                      obtain ⟨rfl, hxp⟩ := hp
                      have hPR := hPR.y0 hxp
                      have hcr_95 := costV_r hIb k
                      refine gz_icmp_ne (tgt := 142) hx hb ⟨by omega, by omega⟩ ⟨by omega, by omega⟩ dL_areAlike_98 (by decide) (fun c_98 => ?_) (fun c_98 => ?_)
                      · omega
                      · refine lv_aload_n hx hb dL_areAlike_101 rfl (lv_at hl 2 rfl) ?_
                        refine lv_iload_n hx hb dL_areAlike_102 rfl (lv_at hl 0 rfl) ?_
                        obtain ⟨hIa, hIb, ⟨Wa, hCa⟩, ⟨Wb, hCb⟩, hdd⟩ := id hPR
                        refine g_goi (vx_runV (As := [.int (zI y)]) (rest := []) ⟨hx, hb, hml, hown, hts⟩ (x_family_ok l G A TA S Wa H_95 hCa hIa y k (by omega) (by omega)) (cwV 1 hts gL_areAlike_X4_family rfl rfl rfl hd_X4_family ⟨(Nat.le_of_ble_eq_true rfl), (Nat.le_of_ble_eq_true rfl)⟩) (g_preV hX hS (ci := 4) rfl hCa.1) rfl rfl hl.1 rfl (lv_room (Nat.le_of_ble_eq_true rfl)) dL_areAlike_103 (⟨by show _ ≤ 2000; omega, by show _ ≤ 30000; omega⟩)) hS (fun r_103 H_103 locs hp hS => ?_)
                        obtain ⟨rfl, rfl⟩ := hp
                        have hfl_103 := famL_le (slk S) (sn S) k
                        refine lv_aload_n hx hb dL_areAlike_106 rfl (lv_at hl 3 rfl) ?_
                        refine lv_iload_n hx hb dL_areAlike_107 rfl (lv_at hl 0 rfl) ?_
                        obtain ⟨hIa, hIb, ⟨Wa, hCa⟩, ⟨Wb, hCb⟩, hdd⟩ := id hPR
                        refine g_goi (vx_runV (As := [.int (zI y)]) (rest := [.int (zI ((famL (slk S) (sn S) k : Nat) : Int))]) ⟨hx, hb, hml, hown, hts⟩ (x_family_ok l G B TB S Wb H_95 hCb hIb y k (by omega) (by omega)) (cwV 1 hts gL_areAlike_X4_family rfl rfl rfl hd_X4_family ⟨(Nat.le_of_ble_eq_true rfl), (Nat.le_of_ble_eq_true rfl)⟩) (g_preV hX hS (ci := 4) rfl hCb.1) rfl rfl hl.1 rfl (lv_room (Nat.le_of_ble_eq_true rfl)) dL_areAlike_108 (⟨by show _ ≤ 2000; omega, by show _ ≤ 30000; omega⟩)) hS (fun r_108 H_108 locs hp hS => ?_)
                        obtain ⟨rfl, rfl⟩ := hp
                        have hfl_108 := famL_le (slk S) (sn S) k
                        refine gz_icmp_ne (tgt := 142) hx hb ⟨by omega, by omega⟩ ⟨by omega, by omega⟩ dL_areAlike_111 (by decide) (fun c_111 => ?_) (fun c_111 => ?_)
                        · omega
                        · refine lv_aload_n hx hb dL_areAlike_114 rfl (lv_at hl 2 rfl) ?_
                          refine lv_iload_n hx hb dL_areAlike_115 rfl (lv_at hl 0 rfl) ?_
                          obtain ⟨hIa, hIb, ⟨Wa, hCa⟩, ⟨Wb, hCb⟩, hdd⟩ := id hPR
                          refine g_goi (vx_runV (As := [.int (zI y)]) (rest := []) ⟨hx, hb, hml, hown, hts⟩ (x_notes_ok l G A TA S Wa H_95 hCa hIa y k (by omega) (by omega)) (cwV 1 hts gL_areAlike_X4_notes rfl rfl rfl hd_X4_notes ⟨(Nat.le_of_ble_eq_true rfl), (Nat.le_of_ble_eq_true rfl)⟩) (g_preV hX hS (ci := 4) rfl hCa.1) rfl rfl hl.1 rfl (lv_room (Nat.le_of_ble_eq_true rfl)) dL_areAlike_116 (⟨by show _ ≤ 2000; omega, by show _ ≤ 30000; omega⟩)) hS (fun r_116 H_116 locs hp hS => ?_)
                          obtain ⟨rfl, rfl⟩ := hp
                          refine lv_iconst (v := zI 2) hx hb dL_areAlike_119 rfl ?_
                          refine gz_icmp_lt (tgt := 138) hx hb ⟨by omega, by omega⟩ (by decide) dL_areAlike_120 (by decide) (fun c_120 => ?_) (fun c_120 => ?_)
                          · refine lv_iconst (v := zI 1) hx hb dL_areAlike_138 rfl ?_
                            refine lv_goto (tgt := 143) hx hb dL_areAlike_139 (by decide) ?_
                            refine lv_istore_n (lv' := [(2, .int (zI 1)), (3, .int (zI y)), (0, .ref (A 0)), (1, .ref (B 0))]) hx hb dL_areAlike_143 rfl hl (by decide) rfl (fun ls hl => ?_)
                            refine lv_iinc (v := zI (y + 1)) (lv' := [(3, .int (zI (y + 1))), (2, .int (zI 1)), (0, .ref (A 0)), (1, .ref (B 0))]) hx hb dL_areAlike_144 hl (k := 1) rfl (zI_add _ _) (by decide) rfl (fun ls hl => ?_)
                            refine lv_goto (tgt := 63) hx hb dL_areAlike_147 (by decide) ?_
                            refine W.widen (k := 60 * (k + 1)) (n := 600 * (k + 1)) (by omega) (by omega) ?_
                            exact ih_63 (y + 1) (k + 1) H_95 _ (by omega) (by omega) (by omega) hPR hS ls (lv_sub hl [0, 1, 2, 3] rfl)
                          · refine lv_aload_n hx hb dL_areAlike_123 rfl (lv_at hl 2 rfl) ?_
                            refine lv_iload_n hx hb dL_areAlike_124 rfl (lv_at hl 0 rfl) ?_
                            refine lv_iconst (v := zI 0) hx hb dL_areAlike_125 rfl ?_
                            obtain ⟨hIa, hIb, ⟨Wa, hCa⟩, ⟨Wb, hCb⟩, hdd⟩ := id hPR
                            refine g_goi (vx_runV (As := [.int (zI y), .int (zI 0)]) (rest := []) ⟨hx, hb, hml, hown, hts⟩ (x_step_ok l G A TA S Wa H_95 hCa hIa y k (by omega) (by omega) 0 0 rfl (by omega)) (cwV 2 hts gL_areAlike_X4_step rfl rfl rfl hd_X4_step ⟨(Nat.le_of_ble_eq_true rfl), (Nat.le_of_ble_eq_true rfl)⟩) (g_preV hX hS (ci := 4) rfl hCa.1) rfl rfl hl.1 rfl (lv_room (Nat.le_of_ble_eq_true rfl)) dL_areAlike_126 (⟨by show _ ≤ 2000; omega, by show _ ≤ 30000; omega⟩)) hS (fun r_126 H_126 locs hp hS => ?_)
                            obtain ⟨rfl, rfl⟩ := hp
                            have hs1_126 := hI.2.2.2.1 k (0 + 1)
                            have hs0_126 := hI.2.2.2.1 k 0
                            refine lv_aload_n hx hb dL_areAlike_129 rfl (lv_at hl 3 rfl) ?_
                            refine lv_iload_n hx hb dL_areAlike_130 rfl (lv_at hl 0 rfl) ?_
                            refine lv_iconst (v := zI 0) hx hb dL_areAlike_131 rfl ?_
                            obtain ⟨hIa, hIb, ⟨Wa, hCa⟩, ⟨Wb, hCb⟩, hdd⟩ := id hPR
                            refine g_goi (vx_runV (As := [.int (zI y), .int (zI 0)]) (rest := [.int (zI (stp S k (0 + 1) - stp S k 0))]) ⟨hx, hb, hml, hown, hts⟩ (x_step_ok l G B TB S Wb H_95 hCb hIb y k (by omega) (by omega) 0 0 rfl (by omega)) (cwV 2 hts gL_areAlike_X4_step rfl rfl rfl hd_X4_step ⟨(Nat.le_of_ble_eq_true rfl), (Nat.le_of_ble_eq_true rfl)⟩) (g_preV hX hS (ci := 4) rfl hCb.1) rfl rfl hl.1 rfl (lv_room (Nat.le_of_ble_eq_true rfl)) dL_areAlike_132 (⟨by show _ ≤ 2000; omega, by show _ ≤ 30000; omega⟩)) hS (fun r_132 H_132 locs hp hS => ?_)
                            obtain ⟨rfl, rfl⟩ := hp
                            have hs1_132 := hI.2.2.2.1 k (0 + 1)
                            have hs0_132 := hI.2.2.2.1 k 0
                            refine gz_icmp_ne (tgt := 142) hx hb ⟨by omega, by omega⟩ ⟨by omega, by omega⟩ dL_areAlike_135 (by decide) (fun c_135 => ?_) (fun c_135 => ?_)
                            · omega
                            · refine lv_iconst (v := zI 1) hx hb dL_areAlike_138 rfl ?_
                              refine lv_goto (tgt := 143) hx hb dL_areAlike_139 (by decide) ?_
                              refine lv_istore_n (lv' := [(2, .int (zI 1)), (3, .int (zI y)), (0, .ref (A 0)), (1, .ref (B 0))]) hx hb dL_areAlike_143 rfl hl (by decide) rfl (fun ls hl => ?_)
                              refine lv_iinc (v := zI (y + 1)) (lv' := [(3, .int (zI (y + 1))), (2, .int (zI 1)), (0, .ref (A 0)), (1, .ref (B 0))]) hx hb dL_areAlike_144 hl (k := 1) rfl (zI_add _ _) (by decide) rfl (fun ls hl => ?_)
                              refine lv_goto (tgt := 63) hx hb dL_areAlike_147 (by decide) ?_
                              refine W.widen (k := 60 * (k + 1)) (n := 600 * (k + 1)) (by omega) (by omega) ?_
                              exact ih_63 (y + 1) (k + 1) H_95 _ (by omega) (by omega) (by omega) hPR hS ls (lv_sub hl [0, 1, 2, 3] rfl)
            refine W.widen (k := 60 * 0) (n := 600 * 0) (by omega) (by omega) ?_
            exact loop_63 _ 0 0 H_27 _ (Nat.lt_succ_self _) rfl (Nat.zero_le _) hPR hS ls (lv_sub hl [0, 1, 2, 3] rfl)
