/-! ===== the law: a tune that is hummed ===== -/
theorem PR.xs {G : gG} {A : Nat → Nat} {TA : Nat → Nat → Nat} {S S2 : cS} {B : Nat → Nat} {TB : Nat → Nat → Nat} {T : cS} {H H1 : Heap} (h : PR G A TA S B TB T H) (hI2 : sInv S2) (e : sn S2 = sn S) (x : XP G A TA S S2 H H1) : PR G A TA S2 B TB T H1 := h.xp hI2 e x
theorem PR.ys {G : gG} {A : Nat → Nat} {TA : Nat → Nat → Nat} {S : cS} {B : Nat → Nat} {TB : Nat → Nat → Nat} {T T2 : cS} {H H1 : Heap} (h : PR G A TA S B TB T H) (hI2 : sInv T2) (e : sn T2 = sn T) (x : XP G B TB T T2 H H1) : PR G A TA S B TB T2 H1 := (h.symm.xp hI2 e x).symm
theorem lc_one {S : cS} {n k : Nat} (h : (lcF S n).testBit k = true) : lcF S n / 2 ^ k &&& 1 = 1 := by rw [lc_bit, h, if_pos rfl]
set_option maxHeartbeats 4000000 in
set_option maxRecDepth 100000 in
theorem k_isHummedSo (l : Launch) (G : gG) (hlf : l.stackTraces = false) (A : Nat → Nat) (TA : Nat → Nat → Nat) (S : cS) (B : Nat → Nat) (TB : Nat → Nat → Nat) (H : Heap) (hPR : PR G A TA S B TB S H) (z : Int) (q : Nat) (hz : z = q) (hq : q < sn S) : gM l yL_isHummedSo wsL_isHummedSo rm_L_isHummedSo [.ref (A 0), .ref (B 0), .int (zI z)] G H (gi (fun r H1 => zI 1 = r ∧ ∃ S2, sn S2 = sn S ∧ PR G A TA S2 B TB S2 H1)) (gNo) 600 6000 := by
  obtain ⟨hI, -⟩ := id hPR
  have h16 := hI.1
  have hmF : manyF S ≤ sn S := ctB_le _ _
  have hlc := lcF_lt S (sn S) h16
  have hfc := famC_le (slk S) (sn S) (sn S)
  have hh12 := hI.2.2.2.2.2.1
  have hxE : xE = -99999 := rfl
  refine g_start (cc := cL_isHummedSo) (maxL := 8) (ret := (some .boolean)) (by decide +kernel) rfl (Nat.le_of_ble_eq_true rfl) ?_
  intro p e s m args below meth c F ls hl
  obtain ⟨hx, hb, hml, hr, hts, hown, hlocks, hxt, hH, hX, hin⟩ := F
  have hown : s.vm.findClass RL = some m.cls := hown
  have hS : va_S (gA G) s.heap H [] := by rw [hH]; exact va_S.rf
  have hl : lv_has ls 8 [(0, .ref (A 0)), (1, .ref (B 0)), (2, .int (zI z))] := hl
  refine lv_aload_n hx hb dL_isHummedSo_0 rfl (lv_at hl 0 rfl) ?_
  refine lv_iload_n hx hb dL_isHummedSo_1 rfl (lv_at hl 2 rfl) ?_
  obtain ⟨hIa, hIb, ⟨Wa, hCa⟩, ⟨Wb, hCb⟩, hdd⟩ := id hPR
  refine g_goi (vx_runSX (As := [.ref (A 0), .int (zI z)]) (rest := []) ⟨hx, hb, hml, hown, hts⟩ (k_cost l G hlf A TA S Wa H hCa hIa z q (by omega) (by omega)) (vx_cwSW 2 hts gL_isHummedSo_L_cost rfl rfl rfl hd_L_cost.2 ⟨(Nat.le_of_ble_eq_true rfl), (Nat.le_of_ble_eq_true rfl)⟩) (g_pre hX hS) rfl rfl hl.1 rfl (lv_room (Nat.le_of_ble_eq_true rfl)) dL_isHummedSo_2 (⟨by show _ ≤ 600; omega, by show _ ≤ 6000; omega⟩)) hS (fun r_2 H_2 locs hp hS => ?_)
  obtain ⟨rfl, hxp⟩ := hp
  have hPR := hPR.x0 hxp
  have hcr_2 := costV_r hIa q
  refine lv_ldc (v := -99999) hx hb hown (hts (.constant RL 42 (-99999)) (List.mem_cons_of_mem _ (List.mem_append_left _ (List.mem_append_left _ (List.mem_append_left _ (List.mem_append_left _ (List.mem_append_left _ (List.mem_append_left _ (List.mem_append_left _ (List.mem_append_left _ (List.mem_of_getElem? (i := 0) rfl))))))))))) dL_isHummedSo_5 ?_
  rw [k_far]
  refine gz_icmp_ne (tgt := 26) hx hb ⟨by omega, by omega⟩ ⟨by omega, by omega⟩ dL_isHummedSo_7 (by decide) (fun c_7 => ?_) (fun c_7 => ?_)
  · have hrt : srt S q = false := by
      cases e9 : srt S q
      · rfl
      · exact absurd (by unfold costV; rw [e9, if_pos rfl]) c_7
    have hq24 := hI.2.1 q (by omega)
    refine lv_bipush (v := zI 30) hx hb dL_isHummedSo_26 (by decide +kernel) ?_
    refine lv_istore_n (lv' := [(3, .int (zI 30)), (0, .ref (A 0)), (1, .ref (B 0)), (2, .int (zI z))]) hx hb dL_isHummedSo_28 rfl hl (by decide) rfl (fun ls hl => ?_)
    have seg_51 : ∀ (my : Int) (mn : Nat) (locs : List Loc), (my = mn) → (1 ≤ mn) → (mn ≤ 12) → (mn ≤ stn S q) → va_S (gA G) s.heap H_2 locs → ∀ (ls : Array Slot), lv_has ls 8 [(4, .int (zI my)), (3, .int (zI 30)), (0, .ref (A 0)), (1, .ref (B 0)), (2, .int (zI z))] → W p l e rm_L_isHummedSo s m args below meth c H_2 locs (100) (1000) (vx_MQ below (gQ G (gi (fun r H1 => zI 1 = r ∧ ∃ S2, sn S2 = sn S ∧ PR G A TA S2 B TB S2 H1))) (gXC G (gNo)) args s 600 6000 (gA G)) (F0 m 51 ls []) := by
      intro my mn locs hmy hm1 hm12 hms hS ls hl
      refine lv_aload_n hx hb dL_isHummedSo_51 rfl (lv_at hl 2 rfl) ?_
      obtain ⟨hIa, hIb, ⟨Wa, hCa⟩, ⟨Wb, hCb⟩, hdd⟩ := id hPR
      refine g_goi (vx_runV (As := []) (rest := []) ⟨hx, hb, hml, hown, hts⟩ (x_hush l G A TA S Wa H_2 hCa hIa ) (cwV 0 hts gL_isHummedSo_X4_hush rfl rfl rfl hd_X4_hush ⟨(Nat.le_of_ble_eq_true rfl), (Nat.le_of_ble_eq_true rfl)⟩) (g_preV hX hS (ci := 4) rfl hCa.1) rfl rfl hl.1 rfl (lv_room (Nat.le_of_ble_eq_true rfl)) dL_isHummedSo_52 (⟨by show _ ≤ 600; omega, by show _ ≤ 6000; omega⟩)) hS (fun r_52 H_52 locs hp hS => ?_)
      obtain ⟨rfl, hxp⟩ := hp
      have hPR := hPR.xs (sI_hush hI) rfl hxp
      refine lv_pop hx hb dL_isHummedSo_55 rfl ?_
      refine lv_aload_n hx hb dL_isHummedSo_56 rfl (lv_at hl 3 rfl) ?_
      obtain ⟨hIa, hIb, ⟨Wa, hCa⟩, ⟨Wb, hCb⟩, hdd⟩ := id hPR
      refine g_goi (vx_runV (As := []) (rest := []) ⟨hx, hb, hml, hown, hts⟩ (x_hush l G B TB S Wb H_52 hCb hIb ) (cwV 0 hts gL_isHummedSo_X4_hush rfl rfl rfl hd_X4_hush ⟨(Nat.le_of_ble_eq_true rfl), (Nat.le_of_ble_eq_true rfl)⟩) (g_preV hX hS (ci := 4) rfl hCb.1) rfl rfl hl.1 rfl (lv_room (Nat.le_of_ble_eq_true rfl)) dL_isHummedSo_57 (⟨by show _ ≤ 600; omega, by show _ ≤ 6000; omega⟩)) hS (fun r_57 H_57 locs hp hS => ?_)
      obtain ⟨rfl, hxp⟩ := hp
      have hPR := hPR.ys (sI_hush hI) rfl hxp
      refine lv_pop hx hb dL_isHummedSo_60 rfl ?_
      have hTh := humT_0 hI q
      have hh0 : shn (sHush S) = 0 := rfl
      refine lv_aload_n hx hb dL_isHummedSo_61 rfl (lv_at hl 2 rfl) ?_
      refine lv_iload_n hx hb dL_isHummedSo_62 rfl (lv_at hl 1 rfl) ?_
      obtain ⟨hIa, hIb, ⟨Wa, hCa⟩, ⟨Wb, hCb⟩, hdd⟩ := id hPR
      refine g_goi (vx_runV (As := [.int (zI 30)]) (rest := []) ⟨hx, hb, hml, hown, hts⟩ (x_hum_ok l G A TA (sHush S) Wa H_57 hCa hIa 30 ⟨by omega, by omega⟩ ⟨by omega, by omega⟩ (by omega)) (cwV 1 hts gL_isHummedSo_X4_hum rfl rfl rfl hd_X4_hum ⟨(Nat.le_of_ble_eq_true rfl), (Nat.le_of_ble_eq_true rfl)⟩) (g_preV hX hS (ci := 4) rfl hCa.1) rfl rfl hl.1 rfl (lv_room (Nat.le_of_ble_eq_true rfl)) dL_isHummedSo_63 (⟨by show _ ≤ 600; omega, by show _ ≤ 6000; omega⟩)) hS (fun r_63 H_63 locs hp hS => ?_)
      obtain ⟨rfl, hxp⟩ := hp
      have hPR := hPR.xs (sI_hum hIa ⟨by omega, by omega⟩ (by omega)) rfl hxp
      refine lv_iconst (v := zI 1) hx hb dL_isHummedSo_66 rfl ?_
      refine gz_icmp_ne (tgt := 83) hx hb ⟨by omega, by omega⟩ (by decide) dL_isHummedSo_67 (by decide) (fun c_67 => ?_) (fun c_67 => ?_)
      · omega
      · refine lv_aload_n hx hb dL_isHummedSo_70 rfl (lv_at hl 3 rfl) ?_
        refine lv_iload_n hx hb dL_isHummedSo_71 rfl (lv_at hl 1 rfl) ?_
        obtain ⟨hIa, hIb, ⟨Wa, hCa⟩, ⟨Wb, hCb⟩, hdd⟩ := id hPR
        refine g_goi (vx_runV (As := [.int (zI 30)]) (rest := []) ⟨hx, hb, hml, hown, hts⟩ (x_hum_ok l G B TB (sHush S) Wb H_63 hCb hIb 30 ⟨by omega, by omega⟩ ⟨by omega, by omega⟩ (by omega)) (cwV 1 hts gL_isHummedSo_X4_hum rfl rfl rfl hd_X4_hum ⟨(Nat.le_of_ble_eq_true rfl), (Nat.le_of_ble_eq_true rfl)⟩) (g_preV hX hS (ci := 4) rfl hCb.1) rfl rfl hl.1 rfl (lv_room (Nat.le_of_ble_eq_true rfl)) dL_isHummedSo_72 (⟨by show _ ≤ 600; omega, by show _ ≤ 6000; omega⟩)) hS (fun r_72 H_72 locs hp hS => ?_)
        obtain ⟨rfl, hxp⟩ := hp
        have hPR := hPR.ys (sI_hum hIb ⟨by omega, by omega⟩ (by omega)) rfl hxp
        refine lv_iconst (v := zI 1) hx hb dL_isHummedSo_75 rfl ?_
        refine gz_icmp_ne (tgt := 83) hx hb ⟨by omega, by omega⟩ (by decide) dL_isHummedSo_76 (by decide) (fun c_76 => ?_) (fun c_76 => ?_)
        · omega
        · refine lv_iconst (v := zI 1) hx hb dL_isHummedSo_79 rfl ?_
          refine lv_goto (tgt := 84) hx hb dL_isHummedSo_80 (by decide) ?_
          have hT1 := humT_s hTh (p := 30) (by omega) (by omega) ⟨by omega, by omega⟩
          refine lv_istore (lv' := [(5, .int (zI 1)), (4, .int (zI my)), (3, .int (zI 30)), (0, .ref (A 0)), (1, .ref (B 0)), (2, .int (zI z))]) hx hb dL_isHummedSo_84 hl (by decide) rfl (fun ls hl => ?_)
          refine lv_iconst (v := zI 1) hx hb dL_isHummedSo_86 rfl ?_
          refine lv_istore (lv' := [(6, .int (zI 1)), (5, .int (zI 1)), (4, .int (zI my)), (3, .int (zI 30)), (0, .ref (A 0)), (1, .ref (B 0)), (2, .int (zI z))]) hx hb dL_isHummedSo_87 hl (by decide) rfl (fun ls hl => ?_)
          refine lv_iconst (v := zI 1) hx hb dL_isHummedSo_89 rfl ?_
          refine lv_istore (lv' := [(7, .int (zI 1)), (6, .int (zI 1)), (5, .int (zI 1)), (4, .int (zI my)), (3, .int (zI 30)), (0, .ref (A 0)), (1, .ref (B 0)), (2, .int (zI z))]) hx hb dL_isHummedSo_90 hl (by decide) rfl (fun ls hl => ?_)
          have loop_92 : ∀ (M_ : Nat) (y : Int) (k : Nat) (w : Int) (n : Nat) (pt : Int) (S2 : cS) (H_L92 : Heap) (locs : List Loc), mn + 1 - k < M_ → (y = k) → (w = n) → (1 ≤ n) → (n ≤ k) → (k ≤ mn) → (humT S S2 q n) → ((n = k ∧ pt = 30 + (stp S q (k - 1) - stp S q 0)) ∨ n < k) → (PR G A TA S2 B TB S2 H_L92) → va_S (gA G) s.heap H_L92 locs → ∀ (ls : Array Slot), lv_has ls 8 [(7, .int (zI y)), (6, .int (zI w)), (5, .int (zI 1)), (4, .int (zI my)), (3, .int (zI pt)), (0, .ref (A 0)), (1, .ref (B 0)), (2, .int (zI z))] → W p l e rm_L_isHummedSo s m args below meth c H_L92 locs (120 + 20 * k) (1200 + 200 * k) (vx_MQ below (gQ G (gi (fun r H1 => zI 1 = r ∧ ∃ S2, sn S2 = sn S ∧ PR G A TA S2 B TB S2 H1))) (gXC G (gNo)) args s 600 6000 (gA G)) (F0 m 92 ls []) := by
            intro M_
            induction M_ with
            | zero => intro y k w n pt S2 H_0 locs_0 h_0; exact absurd h_0 (Nat.not_lt_zero _)
            | succ M_ ih_92 =>
              intro y k w n pt S2 H_L92 locs hM_92 hy hw hn1 hnk hkm hT hpt hPR hS ls hl
              refine lv_iload hx hb dL_isHummedSo_92 (lv_at hl 0 rfl) ?_
              have hT0 := id hT
              obtain ⟨hI2, ⟨e1, e2, e3, e4, e5⟩, hn2, hf2⟩ := hT0
              have hst2 : stn S2 q = stn S q := by rw [e2]
              have hh2 := hI2.2.2.2.2.2.1
              have hr2 : srt S2 q = false := by rw [e5]; exact hrt
              have seg_173 : ∀  (locs : List Loc), va_S (gA G) s.heap H_L92 locs → ∀ (ls : Array Slot), lv_has ls 8 [(6, .int (zI w)), (5, .int (zI 1)), (0, .ref (A 0)), (1, .ref (B 0)), (2, .int (zI z))] → W p l e rm_L_isHummedSo s m args below meth c H_L92 locs (120 + 20 * k) (1200 + 200 * k) (vx_MQ below (gQ G (gi (fun r H1 => zI 1 = r ∧ ∃ S2, sn S2 = sn S ∧ PR G A TA S2 B TB S2 H1))) (gXC G (gNo)) args s 600 6000 (gA G)) (F0 m 173 ls []) := by
                intro  locs  hS ls hl
                refine lv_iload hx hb dL_isHummedSo_173 (lv_at hl 1 rfl) ?_
                refine gz_if_eq (tgt := 229) hx hb (by decide) dL_isHummedSo_175 (by decide) (fun c_175 => ?_) (fun c_175 => ?_)
                · omega
                · have hc0 := humT_cost hT (by omega) (by omega)
                  have hlc2 := humT_lc hT (by omega) hrt (by omega)
                  have hlo := lc_one hlc2
                  have hmy0 := humT_many hT (by omega) (by omega) (by omega) hrt
                  have hlc3 := lcF_lt S2 (sn S2) (by omega)
                  have hmF2 : manyF S2 ≤ sn S2 := ctB_le _ _
                  have hdv := Nat.div_le_self (lcF S2 (sn S2)) (2 ^ q)
                  refine lv_aload_n hx hb dL_isHummedSo_178 rfl (lv_at hl 2 rfl) ?_
                  refine lv_iload_n hx hb dL_isHummedSo_179 rfl (lv_at hl 4 rfl) ?_
                  obtain ⟨hIa, hIb, ⟨Wa, hCa⟩, ⟨Wb, hCb⟩, hdd⟩ := id hPR
                  refine g_goi (vx_runV (As := [.int (zI z)]) (rest := []) ⟨hx, hb, hml, hown, hts⟩ (x_cost_ok l G A TA S2 Wa H_L92 hCa hIa z q (by omega) (by omega) hr2) (cwV 1 hts gL_isHummedSo_X4_cost rfl rfl rfl hd_X4_cost ⟨(Nat.le_of_ble_eq_true rfl), (Nat.le_of_ble_eq_true rfl)⟩) (g_preV hX hS (ci := 4) rfl hCa.1) rfl rfl hl.1 rfl (lv_room (Nat.le_of_ble_eq_true rfl)) dL_isHummedSo_180 (⟨by show _ ≤ 600; omega, by show _ ≤ 6000; omega⟩)) hS (fun r_180 H_180 locs hp hS => ?_)
                  obtain ⟨rfl, hxp⟩ := hp
                  have hPR := hPR.x0 hxp
                  refine gz_if_ne (tgt := 229) hx hb ⟨by omega, by omega⟩ dL_isHummedSo_183 (by decide) (fun c_183 => ?_) (fun c_183 => ?_)
                  · omega
                  · refine lv_aload_n hx hb dL_isHummedSo_186 rfl (lv_at hl 3 rfl) ?_
                    refine lv_iload_n hx hb dL_isHummedSo_187 rfl (lv_at hl 4 rfl) ?_
                    obtain ⟨hIa, hIb, ⟨Wa, hCa⟩, ⟨Wb, hCb⟩, hdd⟩ := id hPR
                    refine g_goi (vx_runV (As := [.int (zI z)]) (rest := []) ⟨hx, hb, hml, hown, hts⟩ (x_cost_ok l G B TB S2 Wb H_180 hCb hIb z q (by omega) (by omega) hr2) (cwV 1 hts gL_isHummedSo_X4_cost rfl rfl rfl hd_X4_cost ⟨(Nat.le_of_ble_eq_true rfl), (Nat.le_of_ble_eq_true rfl)⟩) (g_preV hX hS (ci := 4) rfl hCb.1) rfl rfl hl.1 rfl (lv_room (Nat.le_of_ble_eq_true rfl)) dL_isHummedSo_188 (⟨by show _ ≤ 600; omega, by show _ ≤ 6000; omega⟩)) hS (fun r_188 H_188 locs hp hS => ?_)
                    obtain ⟨rfl, hxp⟩ := hp
                    have hPR := hPR.y0 hxp
                    refine gz_if_ne (tgt := 229) hx hb ⟨by omega, by omega⟩ dL_isHummedSo_191 (by decide) (fun c_191 => ?_) (fun c_191 => ?_)
                    · omega
                    · refine lv_aload_n hx hb dL_isHummedSo_194 rfl (lv_at hl 2 rfl) ?_
                      obtain ⟨hIa, hIb, ⟨Wa, hCa⟩, ⟨Wb, hCb⟩, hdd⟩ := id hPR
                      refine g_goi (vx_runV (As := []) (rest := []) ⟨hx, hb, hml, hown, hts⟩ (x_likeContour l G A TA S2 Wa H_188 hCa hIa ) (cwV 0 hts gL_isHummedSo_X4_likeContour rfl rfl rfl hd_X4_likeContour ⟨(Nat.le_of_ble_eq_true rfl), (Nat.le_of_ble_eq_true rfl)⟩) (g_preV hX hS (ci := 4) rfl hCa.1) rfl rfl hl.1 rfl (lv_room (Nat.le_of_ble_eq_true rfl)) dL_isHummedSo_195 (⟨by show _ ≤ 600; omega, by show _ ≤ 6000; omega⟩)) hS (fun r_195 H_195 locs hp hS => ?_)
                      obtain ⟨rfl, rfl⟩ := hp
                      refine lv_iload_n hx hb dL_isHummedSo_198 rfl (lv_at hl 4 rfl) ?_
                      refine gz_ishr hx hb (lcF S2 (sn S2)) q (by omega) (by omega) (by omega) (by omega) dL_isHummedSo_199 ?_
                      refine lv_iconst (v := zI 1) hx hb dL_isHummedSo_200 rfl ?_
                      refine gz_iand hx hb ((lcF S2 (sn S2)) / 2 ^ q) 1 (by omega) (by omega) dL_isHummedSo_201 ?_
                      refine lv_iconst (v := zI 1) hx hb dL_isHummedSo_202 rfl ?_
                      refine gz_icmp_ne (tgt := 229) hx hb ⟨by omega, by omega⟩ (by decide) dL_isHummedSo_203 (by decide) (fun c_203 => ?_) (fun c_203 => ?_)
                      · omega
                      · refine lv_aload_n hx hb dL_isHummedSo_206 rfl (lv_at hl 2 rfl) ?_
                        obtain ⟨hIa, hIb, ⟨Wa, hCa⟩, ⟨Wb, hCb⟩, hdd⟩ := id hPR
                        refine g_goi (vx_runV (As := []) (rest := []) ⟨hx, hb, hml, hown, hts⟩ (x_matches l G A TA S2 Wa H_188 hCa hIa ) (cwV 0 hts gL_isHummedSo_X4_matches rfl rfl rfl hd_X4_matches ⟨(Nat.le_of_ble_eq_true rfl), (Nat.le_of_ble_eq_true rfl)⟩) (g_preV hX hS (ci := 4) rfl hCa.1) rfl rfl hl.1 rfl (lv_room (Nat.le_of_ble_eq_true rfl)) dL_isHummedSo_207 (⟨by show _ ≤ 600; omega, by show _ ≤ 6000; omega⟩)) hS (fun r_207 H_207 locs hp hS => ?_)
                        obtain ⟨rfl, hxp⟩ := hp
                        have hPR := hPR.x0 hxp
                        refine gz_if_le (tgt := 229) hx hb ⟨by omega, by omega⟩ dL_isHummedSo_210 (by decide) (fun c_210 => ?_) (fun c_210 => ?_)
                        · omega
                        · refine lv_aload_n hx hb dL_isHummedSo_213 rfl (lv_at hl 2 rfl) ?_
                          refine lv_aload_n hx hb dL_isHummedSo_214 rfl (lv_at hl 2 rfl) ?_
                          refine lv_iconst (v := zI 0) hx hb dL_isHummedSo_215 rfl ?_
                          obtain ⟨hIa, hIb, ⟨Wa, hCa⟩, ⟨Wb, hCb⟩, hdd⟩ := id hPR
                          obtain ⟨k0, hk0⟩ := fdF_yes (S := S2) (z := 0) ⟨by omega, by omega⟩
                          obtain ⟨hk0n, hk0c⟩ := humT_first hT (by omega) (by omega) (by omega) hrt hk0
                          refine g_goi (vx_runV (As := [.int (zI 0)]) (rest := [.ref (A 0)]) ⟨hx, hb, hml, hown, hts⟩ (x_found_ok l G A TA S2 Wa H_207 hCa hIa 0 ⟨by omega, by omega⟩ k0 hk0) (cwV 1 hts gL_isHummedSo_X4_found rfl rfl rfl hd_X4_found ⟨(Nat.le_of_ble_eq_true rfl), (Nat.le_of_ble_eq_true rfl)⟩) (g_preV hX hS (ci := 4) rfl hCa.1) rfl rfl hl.1 rfl (lv_room (Nat.le_of_ble_eq_true rfl)) dL_isHummedSo_216 (⟨by show _ ≤ 600; omega, by show _ ≤ 6000; omega⟩)) hS (fun r_216 H_216 locs hp hS => ?_)
                          obtain ⟨rfl, hxp⟩ := hp
                          have hPR := hPR.x0 hxp
                          obtain ⟨hIa, hIb, ⟨Wa, hCa⟩, ⟨Wb, hCb⟩, hdd⟩ := id hPR
                          refine g_goi (vx_runSX (As := [.ref (A 0), .int (zI (k0 : Int))]) (rest := []) ⟨hx, hb, hml, hown, hts⟩ (k_cost l G hlf A TA S2 Wa H_216 hCa hIa (k0 : Int) k0 (by omega) (by omega)) (vx_cwSW 2 hts gL_isHummedSo_L_cost rfl rfl rfl hd_L_cost.2 ⟨(Nat.le_of_ble_eq_true rfl), (Nat.le_of_ble_eq_true rfl)⟩) (g_pre hX hS) rfl rfl hl.1 rfl (lv_room (Nat.le_of_ble_eq_true rfl)) dL_isHummedSo_219 (⟨by show _ ≤ 600; omega, by show _ ≤ 6000; omega⟩)) hS (fun r_219 H_219 locs hp hS => ?_)
                          obtain ⟨rfl, hxp⟩ := hp
                          have hPR := hPR.x0 hxp
                          have hcr_219 := costV_r hIa k0
                          refine gz_if_ne (tgt := 229) hx hb ⟨by omega, by omega⟩ dL_isHummedSo_222 (by decide) (fun c_222 => ?_) (fun c_222 => ?_)
                          · omega
                          · refine lv_iconst (v := zI 1) hx hb dL_isHummedSo_225 rfl ?_
                            refine lv_goto (tgt := 230) hx hb dL_isHummedSo_226 (by decide) ?_
                            refine lv_istore (lv' := [(5, .int (zI 1)), (6, .int (zI w)), (0, .ref (A 0)), (1, .ref (B 0)), (2, .int (zI z))]) hx hb dL_isHummedSo_230 hl (by decide) rfl (fun ls hl => ?_)
                            refine lv_iload hx hb dL_isHummedSo_232 (lv_at hl 1 rfl) ?_
                            refine lv_iconst (v := zI 1) hx hb dL_isHummedSo_234 rfl ?_
                            refine gz_isub hx hb dL_isHummedSo_235 ?_
                            refine lv_iconst (v := zI 4) hx hb dL_isHummedSo_236 rfl ?_
                            refine gz_icmp_ge (tgt := 247) hx hb ⟨by omega, by omega⟩ (by decide) dL_isHummedSo_237 (by decide) (fun c_237 => ?_) (fun c_237 => ?_)
                            · refine lv_iconst (v := zI 4) hx hb dL_isHummedSo_247 rfl ?_
                              refine lv_istore (lv' := [(7, .int (zI 4)), (5, .int (zI 1)), (6, .int (zI w)), (0, .ref (A 0)), (1, .ref (B 0)), (2, .int (zI z))]) hx hb dL_isHummedSo_248 hl (by decide) rfl (fun ls hl => ?_)
                              refine lv_iload hx hb dL_isHummedSo_250 (lv_at hl 1 rfl) ?_
                              refine gz_if_eq (tgt := 288) hx hb (by decide) dL_isHummedSo_252 (by decide) (fun c_252 => ?_) (fun c_252 => ?_)
                              · omega
                              · refine lv_iload hx hb dL_isHummedSo_255 (lv_at hl 0 rfl) ?_
                                refine gz_if_eq (tgt := 284) hx hb (by decide) dL_isHummedSo_257 (by decide) (fun c_257 => ?_) (fun c_257 => ?_)
                                · omega
                                · refine lv_aload_n hx hb dL_isHummedSo_260 rfl (lv_at hl 3 rfl) ?_
                                  refine lv_iload hx hb dL_isHummedSo_261 (lv_at hl 0 rfl) ?_
                                  obtain ⟨hIa, hIb, ⟨Wa, hCa⟩, ⟨Wb, hCb⟩, hdd⟩ := id hPR
                                  have hpl := humT_places hT (by omega) (by omega) hrt (st := 4) (by omega) (by omega)
                                  have hpl2 := plA_len hI2 4 (sn S2) (Nat.le_refl _)
                                  refine g_goi (vx_runV (As := [.int (zI 4)]) (rest := []) ⟨hx, hb, hml, hown, hts⟩ (x_places_ok l G A TA S2 Wa H_219 hCa hIa 4 4 (by omega) ⟨by omega, by omega⟩ (by omega)) (cwV 1 hts gL_isHummedSo_X4_places rfl rfl rfl hd_X4_places ⟨(Nat.le_of_ble_eq_true rfl), (Nat.le_of_ble_eq_true rfl)⟩) (g_preV hX hS (ci := 4) rfl hCa.1) rfl rfl hl.1 rfl (lv_room (Nat.le_of_ble_eq_true rfl)) dL_isHummedSo_263 (⟨by show _ ≤ 600; omega, by show _ ≤ 6000; omega⟩)) hS (fun r_263 H_263 locs hp hS => ?_)
                                  obtain ⟨rfl, hxp⟩ := hp
                                  have hPR := hPR.x0 hxp
                                  refine gz_if_le (tgt := 288) hx hb ⟨by omega, by omega⟩ dL_isHummedSo_266 (by decide) (fun c_266 => ?_) (fun c_266 => ?_)
                                  · omega
                                  · refine lv_aload_n hx hb dL_isHummedSo_269 rfl (lv_at hl 3 rfl) ?_
                                    refine lv_iload hx hb dL_isHummedSo_270 (lv_at hl 0 rfl) ?_
                                    obtain ⟨hIa, hIb, ⟨Wa, hCa⟩, ⟨Wb, hCb⟩, hdd⟩ := id hPR
                                    refine g_goi (vx_runV (As := [.int (zI 4)]) (rest := []) ⟨hx, hb, hml, hown, hts⟩ (x_places_ok l G A TA S2 Wa H_263 hCa hIa 4 4 (by omega) ⟨by omega, by omega⟩ (by omega)) (cwV 1 hts gL_isHummedSo_X4_places rfl rfl rfl hd_X4_places ⟨(Nat.le_of_ble_eq_true rfl), (Nat.le_of_ble_eq_true rfl)⟩) (g_preV hX hS (ci := 4) rfl hCa.1) rfl rfl hl.1 rfl (lv_room (Nat.le_of_ble_eq_true rfl)) dL_isHummedSo_272 (⟨by show _ ≤ 600; omega, by show _ ≤ 6000; omega⟩)) hS (fun r_272 H_272 locs hp hS => ?_)
                                    obtain ⟨rfl, hxp⟩ := hp
                                    have hPR := hPR.x0 hxp
                                    refine lv_aload_n hx hb dL_isHummedSo_275 rfl (lv_at hl 4 rfl) ?_
                                    refine lv_iload hx hb dL_isHummedSo_276 (lv_at hl 0 rfl) ?_
                                    obtain ⟨hIa, hIb, ⟨Wa, hCa⟩, ⟨Wb, hCb⟩, hdd⟩ := id hPR
                                    refine g_goi (vx_runV (As := [.int (zI 4)]) (rest := [.int (zI (((plA S2 4 (sn S2)).length : Nat) : Int))]) ⟨hx, hb, hml, hown, hts⟩ (x_places_ok l G B TB S2 Wb H_272 hCb hIb 4 4 (by omega) ⟨by omega, by omega⟩ (by omega)) (cwV 1 hts gL_isHummedSo_X4_places rfl rfl rfl hd_X4_places ⟨(Nat.le_of_ble_eq_true rfl), (Nat.le_of_ble_eq_true rfl)⟩) (g_preV hX hS (ci := 4) rfl hCb.1) rfl rfl hl.1 rfl (lv_room (Nat.le_of_ble_eq_true rfl)) dL_isHummedSo_278 (⟨by show _ ≤ 600; omega, by show _ ≤ 6000; omega⟩)) hS (fun r_278 H_278 locs hp hS => ?_)
                                    obtain ⟨rfl, hxp⟩ := hp
                                    have hPR := hPR.y0 hxp
                                    refine gz_icmp_ne (tgt := 288) hx hb ⟨by omega, by omega⟩ ⟨by omega, by omega⟩ dL_isHummedSo_281 (by decide) (fun c_281 => ?_) (fun c_281 => ?_)
                                    · omega
                                    · refine lv_iconst (v := zI 1) hx hb dL_isHummedSo_284 rfl ?_
                                      refine lv_goto (tgt := 289) hx hb dL_isHummedSo_285 (by decide) ?_
                                      exact g_reti hx hb hr hlocks hS rfl (⟨rfl, S2, e1, hPR⟩) (by omega) (by omega) dL_isHummedSo_289
                            · refine lv_iload hx hb dL_isHummedSo_240 (lv_at hl 1 rfl) ?_
                              refine lv_iconst (v := zI 1) hx hb dL_isHummedSo_242 rfl ?_
                              refine gz_isub hx hb dL_isHummedSo_243 ?_
                              refine lv_goto (tgt := 248) hx hb dL_isHummedSo_244 (by decide) ?_
                              refine lv_istore (lv' := [(7, .int (zI (w - 1))), (5, .int (zI 1)), (6, .int (zI w)), (0, .ref (A 0)), (1, .ref (B 0)), (2, .int (zI z))]) hx hb dL_isHummedSo_248 hl (by decide) rfl (fun ls hl => ?_)
                              refine lv_iload hx hb dL_isHummedSo_250 (lv_at hl 1 rfl) ?_
                              refine gz_if_eq (tgt := 288) hx hb (by decide) dL_isHummedSo_252 (by decide) (fun c_252 => ?_) (fun c_252 => ?_)
                              · omega
                              · refine lv_iload hx hb dL_isHummedSo_255 (lv_at hl 0 rfl) ?_
                                refine gz_if_eq (tgt := 284) hx hb ⟨by omega, by omega⟩ dL_isHummedSo_257 (by decide) (fun c_257 => ?_) (fun c_257 => ?_)
                                · refine lv_iconst (v := zI 1) hx hb dL_isHummedSo_284 rfl ?_
                                  refine lv_goto (tgt := 289) hx hb dL_isHummedSo_285 (by decide) ?_
                                  exact g_reti hx hb hr hlocks hS rfl (⟨rfl, S2, e1, hPR⟩) (by omega) (by omega) dL_isHummedSo_289
                                · refine lv_aload_n hx hb dL_isHummedSo_260 rfl (lv_at hl 3 rfl) ?_
                                  refine lv_iload hx hb dL_isHummedSo_261 (lv_at hl 0 rfl) ?_
                                  obtain ⟨hIa, hIb, ⟨Wa, hCa⟩, ⟨Wb, hCb⟩, hdd⟩ := id hPR
                                  have hpl := humT_places hT (by omega) (by omega) hrt (st := (n - 1)) (by omega) (by omega)
                                  have hpl2 := plA_len hI2 (n - 1) (sn S2) (Nat.le_refl _)
                                  refine g_goi (vx_runV (As := [.int (zI (w - 1))]) (rest := []) ⟨hx, hb, hml, hown, hts⟩ (x_places_ok l G A TA S2 Wa H_219 hCa hIa (w - 1) (n - 1) (by omega) ⟨by omega, by omega⟩ (by omega)) (cwV 1 hts gL_isHummedSo_X4_places rfl rfl rfl hd_X4_places ⟨(Nat.le_of_ble_eq_true rfl), (Nat.le_of_ble_eq_true rfl)⟩) (g_preV hX hS (ci := 4) rfl hCa.1) rfl rfl hl.1 rfl (lv_room (Nat.le_of_ble_eq_true rfl)) dL_isHummedSo_263 (⟨by show _ ≤ 600; omega, by show _ ≤ 6000; omega⟩)) hS (fun r_263 H_263 locs hp hS => ?_)
                                  obtain ⟨rfl, hxp⟩ := hp
                                  have hPR := hPR.x0 hxp
                                  refine gz_if_le (tgt := 288) hx hb ⟨by omega, by omega⟩ dL_isHummedSo_266 (by decide) (fun c_266 => ?_) (fun c_266 => ?_)
                                  · omega
                                  · refine lv_aload_n hx hb dL_isHummedSo_269 rfl (lv_at hl 3 rfl) ?_
                                    refine lv_iload hx hb dL_isHummedSo_270 (lv_at hl 0 rfl) ?_
                                    obtain ⟨hIa, hIb, ⟨Wa, hCa⟩, ⟨Wb, hCb⟩, hdd⟩ := id hPR
                                    refine g_goi (vx_runV (As := [.int (zI (w - 1))]) (rest := []) ⟨hx, hb, hml, hown, hts⟩ (x_places_ok l G A TA S2 Wa H_263 hCa hIa (w - 1) (n - 1) (by omega) ⟨by omega, by omega⟩ (by omega)) (cwV 1 hts gL_isHummedSo_X4_places rfl rfl rfl hd_X4_places ⟨(Nat.le_of_ble_eq_true rfl), (Nat.le_of_ble_eq_true rfl)⟩) (g_preV hX hS (ci := 4) rfl hCa.1) rfl rfl hl.1 rfl (lv_room (Nat.le_of_ble_eq_true rfl)) dL_isHummedSo_272 (⟨by show _ ≤ 600; omega, by show _ ≤ 6000; omega⟩)) hS (fun r_272 H_272 locs hp hS => ?_)
                                    obtain ⟨rfl, hxp⟩ := hp
                                    have hPR := hPR.x0 hxp
                                    refine lv_aload_n hx hb dL_isHummedSo_275 rfl (lv_at hl 4 rfl) ?_
                                    refine lv_iload hx hb dL_isHummedSo_276 (lv_at hl 0 rfl) ?_
                                    obtain ⟨hIa, hIb, ⟨Wa, hCa⟩, ⟨Wb, hCb⟩, hdd⟩ := id hPR
                                    refine g_goi (vx_runV (As := [.int (zI (w - 1))]) (rest := [.int (zI (((plA S2 (n - 1) (sn S2)).length : Nat) : Int))]) ⟨hx, hb, hml, hown, hts⟩ (x_places_ok l G B TB S2 Wb H_272 hCb hIb (w - 1) (n - 1) (by omega) ⟨by omega, by omega⟩ (by omega)) (cwV 1 hts gL_isHummedSo_X4_places rfl rfl rfl hd_X4_places ⟨(Nat.le_of_ble_eq_true rfl), (Nat.le_of_ble_eq_true rfl)⟩) (g_preV hX hS (ci := 4) rfl hCb.1) rfl rfl hl.1 rfl (lv_room (Nat.le_of_ble_eq_true rfl)) dL_isHummedSo_278 (⟨by show _ ≤ 600; omega, by show _ ≤ 6000; omega⟩)) hS (fun r_278 H_278 locs hp hS => ?_)
                                    obtain ⟨rfl, hxp⟩ := hp
                                    have hPR := hPR.y0 hxp
                                    refine gz_icmp_ne (tgt := 288) hx hb ⟨by omega, by omega⟩ ⟨by omega, by omega⟩ dL_isHummedSo_281 (by decide) (fun c_281 => ?_) (fun c_281 => ?_)
                                    · omega
                                    · refine lv_iconst (v := zI 1) hx hb dL_isHummedSo_284 rfl ?_
                                      refine lv_goto (tgt := 289) hx hb dL_isHummedSo_285 (by decide) ?_
                                      exact g_reti hx hb hr hlocks hS rfl (⟨rfl, S2, e1, hPR⟩) (by omega) (by omega) dL_isHummedSo_289
              refine lv_iload hx hb dL_isHummedSo_94 (lv_at hl 3 rfl) ?_
              refine gz_icmp_ge (tgt := 173) hx hb ⟨by omega, by omega⟩ ⟨by omega, by omega⟩ dL_isHummedSo_96 (by decide) (fun c_96 => ?_) (fun c_96 => ?_)
              · exact seg_173  _  hS ls (lv_sub hl [1, 2, 5, 6, 7] rfl)
              · refine lv_iload hx hb dL_isHummedSo_99 (lv_at hl 2 rfl) ?_
                refine gz_if_eq (tgt := 173) hx hb (by decide) dL_isHummedSo_101 (by decide) (fun c_101 => ?_) (fun c_101 => ?_)
                · omega
                · refine lv_iload hx hb dL_isHummedSo_104 (lv_at hl 1 rfl) ?_
                  refine lv_iload hx hb dL_isHummedSo_106 (lv_at hl 0 rfl) ?_
                  refine gz_icmp_ne (tgt := 173) hx hb ⟨by omega, by omega⟩ ⟨by omega, by omega⟩ dL_isHummedSo_108 (by decide) (fun c_108 => ?_) (fun c_108 => ?_)
                  · exact seg_173  _  hS ls (lv_sub hl [1, 2, 5, 6, 7] rfl)
                  · have hkn9 : n = k := by omega
                    have hpt9 : pt = 30 + (stp S q (k - 1) - stp S q 0) := hpt.elim (fun h => h.2) (fun h => absurd hkn9 (by omega))
                    have ek : k - 1 + 1 = k := by omega
                    have es1 : stp S2 q (k - 1 + 1) = stp S q n := by rw [e3, ek, hkn9]
                    have es0 : stp S2 q (k - 1) = stp S q (k - 1) := by rw [e3]
                    have hs1 := hI.2.2.2.1 q n
                    have hs0 := hI.2.2.2.1 q (k - 1)
                    have hs00 := hI.2.2.2.1 q 0
                    have hpn : (pt + (stp S2 q (k - 1 + 1) - stp S2 q (k - 1))) = 30 + (stp S q n - stp S q 0) := by rw [es1, es0, hpt9]; omega
                    refine lv_iload_n hx hb dL_isHummedSo_111 rfl (lv_at hl 4 rfl) ?_
                    refine lv_aload_n hx hb dL_isHummedSo_112 rfl (lv_at hl 5 rfl) ?_
                    refine lv_iload_n hx hb dL_isHummedSo_113 rfl (lv_at hl 7 rfl) ?_
                    refine lv_iload hx hb dL_isHummedSo_114 (lv_at hl 0 rfl) ?_
                    refine lv_iconst (v := zI 1) hx hb dL_isHummedSo_116 rfl ?_
                    refine gz_isub hx hb dL_isHummedSo_117 ?_
                    obtain ⟨hIa, hIb, ⟨Wa, hCa⟩, ⟨Wb, hCb⟩, hdd⟩ := id hPR
                    refine g_goi (vx_runV (As := [.int (zI z), .int (zI (y - 1))]) (rest := [.int (zI pt)]) ⟨hx, hb, hml, hown, hts⟩ (x_step_ok l G A TA S2 Wa H_L92 hCa hIa z q (by omega) (by omega) (y - 1) (k - 1) (by omega) (by omega)) (cwV 2 hts gL_isHummedSo_X4_step rfl rfl rfl hd_X4_step ⟨(Nat.le_of_ble_eq_true rfl), (Nat.le_of_ble_eq_true rfl)⟩) (g_preV hX hS (ci := 4) rfl hCa.1) rfl rfl hl.1 rfl (lv_room (Nat.le_of_ble_eq_true rfl)) dL_isHummedSo_118 (⟨by show _ ≤ 600; omega, by show _ ≤ 6000; omega⟩)) hS (fun r_118 H_118 locs hp hS => ?_)
                    obtain ⟨rfl, rfl⟩ := hp
                    refine gz_iadd hx hb dL_isHummedSo_121 ?_
                    refine lv_istore_n (lv' := [(3, .int (zI (pt + (stp S2 q (k - 1 + 1) - stp S2 q (k - 1))))), (7, .int (zI y)), (6, .int (zI w)), (5, .int (zI 1)), (4, .int (zI my)), (0, .ref (A 0)), (1, .ref (B 0)), (2, .int (zI z))]) hx hb dL_isHummedSo_122 rfl hl (by decide) rfl (fun ls hl => ?_)
                    refine lv_iload_n hx hb dL_isHummedSo_123 rfl (lv_at hl 0 rfl) ?_
                    refine gz_if_lt (tgt := 167) hx hb ⟨by omega, by omega⟩ dL_isHummedSo_124 (by decide) (fun c_124 => ?_) (fun c_124 => ?_)
                    · refine lv_iinc (v := zI (y + 1)) (lv' := [(7, .int (zI (y + 1))), (3, .int (zI (pt + (stp S2 q (k - 1 + 1) - stp S2 q (k - 1))))), (6, .int (zI w)), (5, .int (zI 1)), (4, .int (zI my)), (0, .ref (A 0)), (1, .ref (B 0)), (2, .int (zI z))]) hx hb dL_isHummedSo_167 hl (k := 1) rfl (zI_add _ _) (by decide) rfl (fun ls hl => ?_)
                      refine lv_goto (tgt := 92) hx hb dL_isHummedSo_170 (by decide) ?_
                      refine W.widen (k := 120 + 20 * (k + 1)) (n := 1200 + 200 * (k + 1)) (by omega) (by omega) ?_
                      exact ih_92 (y + 1) (k + 1) w n (pt + (stp S2 q (k - 1 + 1) - stp S2 q (k - 1))) S2 H_L92 _ (by omega) (by omega) (by omega) (by omega) (by omega) (by omega) hT (Or.inr (by omega)) hPR hS ls (lv_sub hl [0, 2, 3, 4, 1, 5, 6, 7] rfl)
                    · refine lv_iload_n hx hb dL_isHummedSo_127 rfl (lv_at hl 0 rfl) ?_
                      refine lv_bipush (v := zI 60) hx hb dL_isHummedSo_128 (by decide +kernel) ?_
                      refine gz_icmp_gt (tgt := 167) hx hb ⟨by omega, by omega⟩ (by decide) dL_isHummedSo_130 (by decide) (fun c_130 => ?_) (fun c_130 => ?_)
                      · refine lv_iinc (v := zI (y + 1)) (lv' := [(7, .int (zI (y + 1))), (3, .int (zI (pt + (stp S2 q (k - 1 + 1) - stp S2 q (k - 1))))), (6, .int (zI w)), (5, .int (zI 1)), (4, .int (zI my)), (0, .ref (A 0)), (1, .ref (B 0)), (2, .int (zI z))]) hx hb dL_isHummedSo_167 hl (k := 1) rfl (zI_add _ _) (by decide) rfl (fun ls hl => ?_)
                        refine lv_goto (tgt := 92) hx hb dL_isHummedSo_170 (by decide) ?_
                        refine W.widen (k := 120 + 20 * (k + 1)) (n := 1200 + 200 * (k + 1)) (by omega) (by omega) ?_
                        exact ih_92 (y + 1) (k + 1) w n (pt + (stp S2 q (k - 1 + 1) - stp S2 q (k - 1))) S2 H_L92 _ (by omega) (by omega) (by omega) (by omega) (by omega) (by omega) hT (Or.inr (by omega)) hPR hS ls (lv_sub hl [0, 2, 3, 4, 1, 5, 6, 7] rfl)
                      · refine lv_aload_n hx hb dL_isHummedSo_133 rfl (lv_at hl 5 rfl) ?_
                        refine lv_iload_n hx hb dL_isHummedSo_134 rfl (lv_at hl 0 rfl) ?_
                        obtain ⟨hIa, hIb, ⟨Wa, hCa⟩, ⟨Wb, hCb⟩, hdd⟩ := id hPR
                        refine g_goi (vx_runV (As := [.int (zI (pt + (stp S2 q (k - 1 + 1) - stp S2 q (k - 1))))]) (rest := []) ⟨hx, hb, hml, hown, hts⟩ (x_hum_ok l G A TA S2 Wa H_L92 hCa hIa (pt + (stp S2 q (k - 1 + 1) - stp S2 q (k - 1))) ⟨by omega, by omega⟩ ⟨by omega, by omega⟩ (by omega)) (cwV 1 hts gL_isHummedSo_X4_hum rfl rfl rfl hd_X4_hum ⟨(Nat.le_of_ble_eq_true rfl), (Nat.le_of_ble_eq_true rfl)⟩) (g_preV hX hS (ci := 4) rfl hCa.1) rfl rfl hl.1 rfl (lv_room (Nat.le_of_ble_eq_true rfl)) dL_isHummedSo_135 (⟨by show _ ≤ 600; omega, by show _ ≤ 6000; omega⟩)) hS (fun r_135 H_135 locs hp hS => ?_)
                        obtain ⟨rfl, hxp⟩ := hp
                        have hPR := hPR.xs (sI_hum hIa ⟨by omega, by omega⟩ (by omega)) rfl hxp
                        refine lv_iload hx hb dL_isHummedSo_138 (lv_at hl 1 rfl) ?_
                        refine lv_iconst (v := zI 1) hx hb dL_isHummedSo_140 rfl ?_
                        refine gz_iadd hx hb dL_isHummedSo_141 ?_
                        refine gz_icmp_ne (tgt := 161) hx hb ⟨by omega, by omega⟩ ⟨by omega, by omega⟩ dL_isHummedSo_142 (by decide) (fun c_142 => ?_) (fun c_142 => ?_)
                        · omega
                        · refine lv_aload_n hx hb dL_isHummedSo_145 rfl (lv_at hl 6 rfl) ?_
                          refine lv_iload_n hx hb dL_isHummedSo_146 rfl (lv_at hl 0 rfl) ?_
                          obtain ⟨hIa, hIb, ⟨Wa, hCa⟩, ⟨Wb, hCb⟩, hdd⟩ := id hPR
                          refine g_goi (vx_runV (As := [.int (zI (pt + (stp S2 q (k - 1 + 1) - stp S2 q (k - 1))))]) (rest := []) ⟨hx, hb, hml, hown, hts⟩ (x_hum_ok l G B TB S2 Wb H_135 hCb hIb (pt + (stp S2 q (k - 1 + 1) - stp S2 q (k - 1))) ⟨by omega, by omega⟩ ⟨by omega, by omega⟩ (by omega)) (cwV 1 hts gL_isHummedSo_X4_hum rfl rfl rfl hd_X4_hum ⟨(Nat.le_of_ble_eq_true rfl), (Nat.le_of_ble_eq_true rfl)⟩) (g_preV hX hS (ci := 4) rfl hCb.1) rfl rfl hl.1 rfl (lv_room (Nat.le_of_ble_eq_true rfl)) dL_isHummedSo_147 (⟨by show _ ≤ 600; omega, by show _ ≤ 6000; omega⟩)) hS (fun r_147 H_147 locs hp hS => ?_)
                          obtain ⟨rfl, hxp⟩ := hp
                          have hPR := hPR.ys (sI_hum hIb ⟨by omega, by omega⟩ (by omega)) rfl hxp
                          refine lv_iload hx hb dL_isHummedSo_150 (lv_at hl 1 rfl) ?_
                          refine lv_iconst (v := zI 1) hx hb dL_isHummedSo_152 rfl ?_
                          refine gz_iadd hx hb dL_isHummedSo_153 ?_
                          refine gz_icmp_ne (tgt := 161) hx hb ⟨by omega, by omega⟩ ⟨by omega, by omega⟩ dL_isHummedSo_154 (by decide) (fun c_154 => ?_) (fun c_154 => ?_)
                          · omega
                          · have hTn := humT_s hT (p := (pt + (stp S2 q (k - 1 + 1) - stp S2 q (k - 1)))) (by omega) hpn ⟨by omega, by omega⟩
                            refine lv_iconst (v := zI 1) hx hb dL_isHummedSo_157 rfl ?_
                            refine lv_goto (tgt := 162) hx hb dL_isHummedSo_158 (by decide) ?_
                            refine lv_istore (lv' := [(5, .int (zI 1)), (3, .int (zI (pt + (stp S2 q (k - 1 + 1) - stp S2 q (k - 1))))), (7, .int (zI y)), (6, .int (zI w)), (4, .int (zI my)), (0, .ref (A 0)), (1, .ref (B 0)), (2, .int (zI z))]) hx hb dL_isHummedSo_162 hl (by decide) rfl (fun ls hl => ?_)
                            refine lv_iinc (v := zI (w + 1)) (lv' := [(6, .int (zI (w + 1))), (5, .int (zI 1)), (3, .int (zI (pt + (stp S2 q (k - 1 + 1) - stp S2 q (k - 1))))), (7, .int (zI y)), (4, .int (zI my)), (0, .ref (A 0)), (1, .ref (B 0)), (2, .int (zI z))]) hx hb dL_isHummedSo_164 hl (k := 3) rfl (zI_add _ _) (by decide) rfl (fun ls hl => ?_)
                            refine lv_iinc (v := zI (y + 1)) (lv' := [(7, .int (zI (y + 1))), (6, .int (zI (w + 1))), (5, .int (zI 1)), (3, .int (zI (pt + (stp S2 q (k - 1 + 1) - stp S2 q (k - 1))))), (4, .int (zI my)), (0, .ref (A 0)), (1, .ref (B 0)), (2, .int (zI z))]) hx hb dL_isHummedSo_167 hl (k := 3) rfl (zI_add _ _) (by decide) rfl (fun ls hl => ?_)
                            refine lv_goto (tgt := 92) hx hb dL_isHummedSo_170 (by decide) ?_
                            refine W.widen (k := 120 + 20 * (k + 1)) (n := 1200 + 200 * (k + 1)) (by omega) (by omega) ?_
                            exact ih_92 (y + 1) (k + 1) (w + 1) (n + 1) (pt + (stp S2 q (k - 1 + 1) - stp S2 q (k - 1))) (sHum S2 (pt + (stp S2 q (k - 1 + 1) - stp S2 q (k - 1)))) H_147 _ (by omega) (by omega) (by omega) (by omega) (by omega) (by omega) hTn (Or.inl ⟨by omega, by rw [hpn, hkn9, Nat.add_sub_cancel]⟩) hPR hS ls (lv_sub hl [0, 1, 2, 4, 3, 5, 6, 7] rfl)
          refine W.widen (k := 120 + 20 * 1) (n := 1200 + 200 * 1) (by omega) (by omega) ?_
          exact loop_92 _ 1 1 1 1 30 (sHum (sHush S) 30) H_72 _ (Nat.lt_succ_self _) rfl rfl (Nat.le_refl _) (Nat.le_refl _) hm1 hT1 (Or.inl ⟨rfl, by show _ = 30 + (stp S q 0 - stp S q 0); omega⟩) hPR hS ls (lv_sub hl [0, 1, 2, 3, 4, 5, 6, 7] rfl)
    refine lv_aload_n hx hb dL_isHummedSo_29 rfl (lv_at hl 1 rfl) ?_
    refine lv_iload_n hx hb dL_isHummedSo_30 rfl (lv_at hl 3 rfl) ?_
    obtain ⟨hIa, hIb, ⟨Wa, hCa⟩, ⟨Wb, hCb⟩, hdd⟩ := id hPR
    refine g_goi (vx_runV (As := [.int (zI z)]) (rest := []) ⟨hx, hb, hml, hown, hts⟩ (x_notes_ok l G A TA S Wa H_2 hCa hIa z q (by omega) (by omega)) (cwV 1 hts gL_isHummedSo_X4_notes rfl rfl rfl hd_X4_notes ⟨(Nat.le_of_ble_eq_true rfl), (Nat.le_of_ble_eq_true rfl)⟩) (g_preV hX hS (ci := 4) rfl hCa.1) rfl rfl hl.1 rfl (lv_room (Nat.le_of_ble_eq_true rfl)) dL_isHummedSo_31 (⟨by show _ ≤ 600; omega, by show _ ≤ 6000; omega⟩)) hS (fun r_31 H_31 locs hp hS => ?_)
    obtain ⟨rfl, rfl⟩ := hp
    refine lv_bipush (v := zI 12) hx hb dL_isHummedSo_34 (by decide +kernel) ?_
    refine gz_icmp_ge (tgt := 47) hx hb ⟨by omega, by omega⟩ (by decide) dL_isHummedSo_36 (by decide) (fun c_36 => ?_) (fun c_36 => ?_)
    · refine lv_bipush (v := zI 12) hx hb dL_isHummedSo_47 (by decide +kernel) ?_
      refine lv_istore (lv' := [(4, .int (zI 12)), (3, .int (zI 30)), (0, .ref (A 0)), (1, .ref (B 0)), (2, .int (zI z))]) hx hb dL_isHummedSo_49 hl (by decide) rfl (fun ls hl => ?_)
      refine W.widen (k := 100) (n := 1000) (by omega) (by omega) ?_
      exact seg_51 12 12 _ (by omega) (by omega) (by omega) (by omega) hS ls (lv_sub hl [0, 1, 2, 3, 4] rfl)
    · refine lv_aload_n hx hb dL_isHummedSo_39 rfl (lv_at hl 1 rfl) ?_
      refine lv_iload_n hx hb dL_isHummedSo_40 rfl (lv_at hl 3 rfl) ?_
      obtain ⟨hIa, hIb, ⟨Wa, hCa⟩, ⟨Wb, hCb⟩, hdd⟩ := id hPR
      refine g_goi (vx_runV (As := [.int (zI z)]) (rest := []) ⟨hx, hb, hml, hown, hts⟩ (x_notes_ok l G A TA S Wa H_2 hCa hIa z q (by omega) (by omega)) (cwV 1 hts gL_isHummedSo_X4_notes rfl rfl rfl hd_X4_notes ⟨(Nat.le_of_ble_eq_true rfl), (Nat.le_of_ble_eq_true rfl)⟩) (g_preV hX hS (ci := 4) rfl hCa.1) rfl rfl hl.1 rfl (lv_room (Nat.le_of_ble_eq_true rfl)) dL_isHummedSo_41 (⟨by show _ ≤ 600; omega, by show _ ≤ 6000; omega⟩)) hS (fun r_41 H_41 locs hp hS => ?_)
      obtain ⟨rfl, rfl⟩ := hp
      refine lv_goto (tgt := 49) hx hb dL_isHummedSo_44 (by decide) ?_
      refine lv_istore (lv' := [(4, .int (zI (stn S q : Int))), (3, .int (zI 30)), (0, .ref (A 0)), (1, .ref (B 0)), (2, .int (zI z))]) hx hb dL_isHummedSo_49 hl (by decide) rfl (fun ls hl => ?_)
      refine W.widen (k := 100) (n := 1000) (by omega) (by omega) ?_
      exact seg_51 (stn S q : Int) (stn S q) _ (by omega) (by omega) (by omega) (by omega) hS ls (lv_sub hl [0, 1, 2, 3, 4] rfl)
  · refine lv_aload_n hx hb dL_isHummedSo_10 rfl (lv_at hl 1 rfl) ?_
    refine lv_iload_n hx hb dL_isHummedSo_11 rfl (lv_at hl 2 rfl) ?_
    obtain ⟨hIa, hIb, ⟨Wa, hCa⟩, ⟨Wb, hCb⟩, hdd⟩ := id hPR
    refine g_goi (vx_runSX (As := [.ref (B 0), .int (zI z)]) (rest := []) ⟨hx, hb, hml, hown, hts⟩ (k_cost l G hlf B TB S Wb H_2 hCb hIb z q (by omega) (by omega)) (vx_cwSW 2 hts gL_isHummedSo_L_cost rfl rfl rfl hd_L_cost.2 ⟨(Nat.le_of_ble_eq_true rfl), (Nat.le_of_ble_eq_true rfl)⟩) (g_pre hX hS) rfl rfl hl.1 rfl (lv_room (Nat.le_of_ble_eq_true rfl)) dL_isHummedSo_12 (⟨by show _ ≤ 600; omega, by show _ ≤ 6000; omega⟩)) hS (fun r_12 H_12 locs hp hS => ?_)
    obtain ⟨rfl, hxp⟩ := hp
    have hPR := hPR.y0 hxp
    have hcr_12 := costV_r hIa q
    refine lv_ldc (v := -99999) hx hb hown (hts (.constant RL 42 (-99999)) (List.mem_cons_of_mem _ (List.mem_append_left _ (List.mem_append_left _ (List.mem_append_left _ (List.mem_append_left _ (List.mem_append_left _ (List.mem_append_left _ (List.mem_append_left _ (List.mem_append_left _ (List.mem_of_getElem? (i := 0) rfl))))))))))) dL_isHummedSo_15 ?_
    rw [k_far]
    refine gz_icmp_ne (tgt := 24) hx hb ⟨by omega, by omega⟩ ⟨by omega, by omega⟩ dL_isHummedSo_17 (by decide) (fun c_17 => ?_) (fun c_17 => ?_)
    · omega
    · refine lv_iconst (v := zI 1) hx hb dL_isHummedSo_20 rfl ?_
      refine lv_goto (tgt := 25) hx hb dL_isHummedSo_21 (by decide) ?_
      exact g_reti hx hb hr hlocks hS rfl (⟨rfl, S, rfl, hPR⟩) (by omega) (by omega) dL_isHummedSo_25
