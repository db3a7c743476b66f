/-! ===== the law: what holds of the tunes ===== -/
theorem famC_s (lk : Nat → Nat) (n k : Nat) : famC lk n (k + 1) = famC lk n k + if famL lk n k = k then 1 else 0 := rfl
theorem manyF_eq (S : cS) : manyF S = ctB (mtB S) (sn S) := rfl
theorem mt_s {S : cS} (hI : sInv S) (k : Nat) : ((ctB (mtB S) (k + 1) : Nat) : Int) = (ctB (mtB S) k : Nat) + (if 0 ≤ costV S k then 1 else 0) := by
  have h := costV_ge hI k
  show ((ctB (mtB S) k + (if mtB S k = true then 1 else 0) : Nat) : Int) = _
  by_cases e : 0 ≤ costV S k
  · rw [if_pos e, if_pos (h.mp e)]; omega
  · rw [if_neg e, if_neg (fun z => e (h.mpr z))]; omega
theorem fd_bit {S : cS} (hI : sInv S) {M k : Nat} (h : fdM S M (manyF S)) (hk : k < sn S) : ((M / 2 ^ k &&& 1 : Nat) : Int) = if 0 ≤ costV S k then 1 else 0 := by
  have h1 := costV_ge hI k
  rw [tb_and, fdM_end h hk]
  by_cases e : 0 ≤ costV S k
  · rw [if_pos e, if_pos (h1.mp e)]; rfl
  · rw [if_neg e, if_neg (fun z => e (h1.mpr z))]; rfl
theorem lc_bit (S : cS) (n k : Nat) : lcF S n / 2 ^ k &&& 1 = if (lcF S n).testBit k then 1 else 0 := tb_and _ _
set_option maxHeartbeats 4000000 in
set_option maxRecDepth 100000 in
theorem k_areTunesSo (l : Launch) (G : gG) (hlf : l.stackTraces = false) (A : Nat → Nat) (TA : Nat → Nat → Nat) (S : cS) (B : Nat → Nat) (TB : Nat → Nat → Nat) (T : cS) (H : Heap) (hPR : PR G A TA S B TB T H) (z : Int) (q : Nat) (hz : z = q) (hq : q < sn S) : gM l yL_areTunesSo wsL_areTunesSo rm_L_areTunesSo [.ref (A 0), .int (zI z)] G H (gi (fun r H1 => zI 1 = r ∧ PR G A TA S B TB T H1)) (gNo) 2000 20000 := by
  obtain ⟨hI, -⟩ := id hPR
  have h16 := hI.1
  have hmF : manyF S ≤ sn S := ctB_le _ _
  have hlc := lcF_lt S (sn S) h16
  have hfc := famC_le (slk S) (sn S) (sn S)
  have hh12 := hI.2.2.2.2.2.1
  have hlk : lkOK (slk S) (sn S) := fun i j h => ⟨(hI.2.2.2.2.2.2.2.2.2.2.1 i j h).1, (hI.2.2.2.2.2.2.2.2.2.2.1 i j h).2.1⟩
  refine g_start (cc := cL_areTunesSo) (maxL := 10) (ret := (some .boolean)) (by decide +kernel) rfl (Nat.le_of_ble_eq_true rfl) ?_
  intro p e s m args below meth c F ls hl
  obtain ⟨hx, hb, hml, hr, hts, hown, hlocks, hxt, hH, hX, hin⟩ := F
  have hown : s.vm.findClass RL = some m.cls := hown
  have hS : va_S (gA G) s.heap H [] := by rw [hH]; exact va_S.rf
  have hl : lv_has ls 10 [(0, .ref (A 0)), (1, .int (zI z))] := hl
  refine lv_iconst (v := zI 0) hx hb dL_areTunesSo_0 rfl ?_
  refine lv_istore_n (lv' := [(2, .int (zI 0)), (0, .ref (A 0)), (1, .int (zI z))]) hx hb dL_areTunesSo_1 rfl hl (by decide) rfl (fun ls hl => ?_)
  refine lv_iconst (v := zI 0) hx hb dL_areTunesSo_2 rfl ?_
  refine lv_istore_n (lv' := [(3, .int (zI 0)), (2, .int (zI 0)), (0, .ref (A 0)), (1, .int (zI z))]) hx hb dL_areTunesSo_3 rfl hl (by decide) rfl (fun ls hl => ?_)
  refine lv_iconst (v := zI 0) hx hb dL_areTunesSo_4 rfl ?_
  refine lv_istore (lv' := [(4, .int (zI 0)), (3, .int (zI 0)), (2, .int (zI 0)), (0, .ref (A 0)), (1, .int (zI z))]) hx hb dL_areTunesSo_5 hl (by decide) rfl (fun ls hl => ?_)
  refine lv_aload_n hx hb dL_areTunesSo_7 rfl (lv_at hl 3 rfl) ?_
  obtain ⟨hIa, hIb, ⟨Wa, hCa⟩, ⟨Wb, hCb⟩, hdd⟩ := id hPR
  refine g_goi (vx_runV (As := []) (rest := []) ⟨hx, hb, hml, hown, hts⟩ (x_hummed l G A TA S Wa H hCa hIa ) (cwV 0 hts gL_areTunesSo_X4_hummed rfl rfl rfl hd_X4_hummed ⟨(Nat.le_of_ble_eq_true rfl), (Nat.le_of_ble_eq_true rfl)⟩) (g_preV hX hS (ci := 4) rfl hCa.1) rfl rfl hl.1 rfl (lv_room (Nat.le_of_ble_eq_true rfl)) dL_areTunesSo_8 (⟨by show _ ≤ 2000; omega, by show _ ≤ 20000; omega⟩)) hS (fun r_8 H_8 locs hp hS => ?_)
  obtain ⟨rfl, rfl⟩ := hp
  refine gz_if_lt (tgt := 27) hx hb ⟨by omega, by omega⟩ dL_areTunesSo_11 (by decide) (fun c_11 => ?_) (fun c_11 => ?_)
  · omega
  · refine lv_aload_n hx hb dL_areTunesSo_14 rfl (lv_at hl 3 rfl) ?_
    obtain ⟨hIa, hIb, ⟨Wa, hCa⟩, ⟨Wb, hCb⟩, hdd⟩ := id hPR
    refine g_goi (vx_runV (As := []) (rest := []) ⟨hx, hb, hml, hown, hts⟩ (x_hummed l G A TA S Wa H hCa hIa ) (cwV 0 hts gL_areTunesSo_X4_hummed rfl rfl rfl hd_X4_hummed ⟨(Nat.le_of_ble_eq_true rfl), (Nat.le_of_ble_eq_true rfl)⟩) (g_preV hX hS (ci := 4) rfl hCa.1) rfl rfl hl.1 rfl (lv_room (Nat.le_of_ble_eq_true rfl)) dL_areTunesSo_15 (⟨by show _ ≤ 2000; omega, by show _ ≤ 20000; omega⟩)) hS (fun r_15 H_15 locs hp hS => ?_)
    obtain ⟨rfl, rfl⟩ := hp
    refine lv_bipush (v := zI 12) hx hb dL_areTunesSo_18 (by decide +kernel) ?_
    refine gz_icmp_gt (tgt := 27) hx hb ⟨by omega, by omega⟩ (by decide) dL_areTunesSo_20 (by decide) (fun c_20 => ?_) (fun c_20 => ?_)
    · omega
    · refine lv_iconst (v := zI 1) hx hb dL_areTunesSo_23 rfl ?_
      refine lv_goto (tgt := 28) hx hb dL_areTunesSo_24 (by decide) ?_
      refine lv_istore (lv' := [(5, .int (zI 1)), (4, .int (zI 0)), (3, .int (zI 0)), (2, .int (zI 0)), (0, .ref (A 0)), (1, .int (zI z))]) hx hb dL_areTunesSo_28 hl (by decide) rfl (fun ls hl => ?_)
      refine lv_iconst (v := zI 0) hx hb dL_areTunesSo_30 rfl ?_
      refine lv_istore (lv' := [(6, .int (zI 0)), (5, .int (zI 1)), (4, .int (zI 0)), (3, .int (zI 0)), (2, .int (zI 0)), (0, .ref (A 0)), (1, .int (zI z))]) hx hb dL_areTunesSo_31 hl (by decide) rfl (fun ls hl => ?_)
      have loop_33 : ∀ (M_ : Nat) (y : Int) (k : Nat) (ff : Int) (mm : Int) (H_L33 : Heap) (locs : List Loc), sn S - k < M_ → (y = k) → (k ≤ sn S) → (ff = (famC (slk S) (sn S) k : Nat)) → (mm = (ctB (mtB S) k : Nat)) → (PR G A TA S B TB T H_L33) → va_S (gA G) s.heap H_L33 locs → ∀ (ls : Array Slot), lv_has ls 10 [(6, .int (zI y)), (5, .int (zI 1)), (2, .int (zI ff)), (3, .int (zI mm)), (4, .int (zI ((0 : Nat) : Int))), (0, .ref (A 0)), (1, .int (zI z))] → W p l e rm_L_areTunesSo s m args below meth c H_L33 locs (90 * k) (900 * k) (vx_MQ below (gQ G (gi (fun r H1 => zI 1 = r ∧ PR G A TA S B TB T H1))) (gXC G (gNo)) args s 2000 20000 (gA G)) (F0 m 33 ls []) := by
        intro M_
        induction M_ with
        | zero => intro y k ff mm H_0 locs_0 h_0; exact absurd h_0 (Nat.not_lt_zero _)
        | succ M_ ih_33 =>
          intro y k ff mm H_L33 locs hM_33 hy hkn hf hm hPR hS ls hl
          refine lv_iload hx hb dL_areTunesSo_33 (lv_at hl 0 rfl) ?_
          refine lv_aload_n hx hb dL_areTunesSo_35 rfl (lv_at hl 5 rfl) ?_
          obtain ⟨hIa, hIb, ⟨Wa, hCa⟩, ⟨Wb, hCb⟩, hdd⟩ := id hPR
          refine g_goi (vx_runV (As := []) (rest := [.int (zI y)]) ⟨hx, hb, hml, hown, hts⟩ (x_tunes l G A TA S Wa H_L33 hCa hIa ) (cwV 0 hts gL_areTunesSo_X4_tunes rfl rfl rfl hd_X4_tunes ⟨(Nat.le_of_ble_eq_true rfl), (Nat.le_of_ble_eq_true rfl)⟩) (g_preV hX hS (ci := 4) rfl hCa.1) rfl rfl hl.1 rfl (lv_room (Nat.le_of_ble_eq_true rfl)) dL_areTunesSo_36 (⟨by show _ ≤ 2000; omega, by show _ ≤ 20000; omega⟩)) hS (fun r_36 H_36 locs hp hS => ?_)
          obtain ⟨rfl, rfl⟩ := hp
          refine gz_icmp_ge (tgt := 296) hx hb ⟨by omega, by omega⟩ ⟨by omega, by omega⟩ dL_areTunesSo_39 (by decide) (fun c_39 => ?_) (fun c_39 => ?_)
          · refine lv_iconst (v := zI 0) hx hb dL_areTunesSo_296 rfl ?_
            refine lv_istore (lv' := [(6, .int (zI 0)), (5, .int (zI 1)), (2, .int (zI ff)), (3, .int (zI mm)), (4, .int (zI ((0 : Nat) : Int))), (0, .ref (A 0)), (1, .int (zI z))]) hx hb dL_areTunesSo_297 hl (by decide) rfl (fun ls hl => ?_)
            have hfN : ff = (famC (slk S) (sn S) (sn S) : Nat) := by rw [hf, show k = sn S by omega]
            have hmN : mm = (manyF S : Nat) := by rw [hm, manyF_eq, show k = sn S by omega]
            have loop_299 : ∀ (M_ : Nat) (y : Int) (r : Nat) (M : Nat) (H_L299 : Heap) (locs : List Loc), manyF S - r < M_ → (y = r) → (r ≤ manyF S) → (fdM S M r) → (PR G A TA S B TB T H_L299) → va_S (gA G) s.heap H_L299 locs → ∀ (ls : Array Slot), lv_has ls 10 [(6, .int (zI y)), (5, .int (zI 1)), (4, .int (zI ((M : Nat) : Int))), (2, .int (zI ff)), (3, .int (zI mm)), (0, .ref (A 0)), (1, .int (zI z))] → W p l e rm_L_areTunesSo s m args below meth c H_L299 locs (1450 + 6 * r) (14500 + 60 * r) (vx_MQ below (gQ G (gi (fun r H1 => zI 1 = r ∧ PR G A TA S B TB T H1))) (gXC G (gNo)) args s 2000 20000 (gA G)) (F0 m 299 ls []) := by
              intro M_
              induction M_ with
              | zero => intro y r M H_0 locs_0 h_0; exact absurd h_0 (Nat.not_lt_zero _)
              | succ M_ ih_299 =>
                intro y r M H_L299 locs hM_299 hy hrn hM hPR hS ls hl
                refine lv_iload hx hb dL_areTunesSo_299 (lv_at hl 0 rfl) ?_
                refine lv_iload_n hx hb dL_areTunesSo_301 rfl (lv_at hl 4 rfl) ?_
                refine gz_icmp_ge (tgt := 329) hx hb ⟨by omega, by omega⟩ ⟨by omega, by omega⟩ dL_areTunesSo_302 (by decide) (fun c_302 => ?_) (fun c_302 => ?_)
                · refine lv_iconst (v := zI 0) hx hb dL_areTunesSo_329 rfl ?_
                  refine lv_istore (lv' := [(6, .int (zI 0)), (5, .int (zI 1)), (4, .int (zI ((M : Nat) : Int))), (2, .int (zI ff)), (3, .int (zI mm)), (0, .ref (A 0)), (1, .int (zI z))]) hx hb dL_areTunesSo_330 hl (by decide) rfl (fun ls hl => ?_)
                  have hMe : fdM S M (manyF S) := by rw [show manyF S = r by omega]; exact hM
                  have loop_332 : ∀ (M_ : Nat) (y : Int) (k : Nat) (H_L332 : Heap) (locs : List Loc), sn S - k < M_ → (y = k) → (k ≤ sn S) → (PR G A TA S B TB T H_L332) → va_S (gA G) s.heap H_L332 locs → ∀ (ls : Array Slot), lv_has ls 10 [(6, .int (zI y)), (5, .int (zI 1)), (4, .int (zI ((M : Nat) : Int))), (2, .int (zI ff)), (3, .int (zI mm)), (0, .ref (A 0)), (1, .int (zI z))] → W p l e rm_L_areTunesSo s m args below meth c H_L332 locs (1600 + 6 * k) (16000 + 60 * k) (vx_MQ below (gQ G (gi (fun r H1 => zI 1 = r ∧ PR G A TA S B TB T H1))) (gXC G (gNo)) args s 2000 20000 (gA G)) (F0 m 332 ls []) := by
                    intro M_
                    induction M_ with
                    | zero => intro y k H_0 locs_0 h_0; exact absurd h_0 (Nat.not_lt_zero _)
                    | succ M_ ih_332 =>
                      intro y k H_L332 locs hM_332 hy hkn hPR hS ls hl
                      refine lv_iload hx hb dL_areTunesSo_332 (lv_at hl 0 rfl) ?_
                      refine lv_aload_n hx hb dL_areTunesSo_334 rfl (lv_at hl 5 rfl) ?_
                      obtain ⟨hIa, hIb, ⟨Wa, hCa⟩, ⟨Wb, hCb⟩, hdd⟩ := id hPR
                      refine g_goi (vx_runV (As := []) (rest := [.int (zI y)]) ⟨hx, hb, hml, hown, hts⟩ (x_tunes l G A TA S Wa H_L332 hCa hIa ) (cwV 0 hts gL_areTunesSo_X4_tunes rfl rfl rfl hd_X4_tunes ⟨(Nat.le_of_ble_eq_true rfl), (Nat.le_of_ble_eq_true rfl)⟩) (g_preV hX hS (ci := 4) rfl hCa.1) rfl rfl hl.1 rfl (lv_room (Nat.le_of_ble_eq_true rfl)) dL_areTunesSo_335 (⟨by show _ ≤ 2000; omega, by show _ ≤ 20000; omega⟩)) hS (fun r_335 H_335 locs hp hS => ?_)
                      obtain ⟨rfl, rfl⟩ := hp
                      refine gz_icmp_ge (tgt := 383) hx hb ⟨by omega, by omega⟩ ⟨by omega, by omega⟩ dL_areTunesSo_338 (by decide) (fun c_338 => ?_) (fun c_338 => ?_)
                      · refine lv_iload hx hb dL_areTunesSo_383 (lv_at hl 1 rfl) ?_
                        refine gz_if_eq (tgt := 408) hx hb (by decide) dL_areTunesSo_385 (by decide) (fun c_385 => ?_) (fun c_385 => ?_)
                        · omega
                        · refine lv_aload_n hx hb dL_areTunesSo_388 rfl (lv_at hl 5 rfl) ?_
                          obtain ⟨hIa, hIb, ⟨Wa, hCa⟩, ⟨Wb, hCb⟩, hdd⟩ := id hPR
                          refine g_goi (vx_runV (As := []) (rest := []) ⟨hx, hb, hml, hown, hts⟩ (x_families l G A TA S Wa H_L332 hCa hIa ) (cwV 0 hts gL_areTunesSo_X4_families rfl rfl rfl hd_X4_families ⟨(Nat.le_of_ble_eq_true rfl), (Nat.le_of_ble_eq_true rfl)⟩) (g_preV hX hS (ci := 4) rfl hCa.1) rfl rfl hl.1 rfl (lv_room (Nat.le_of_ble_eq_true rfl)) dL_areTunesSo_389 (⟨by show _ ≤ 2000; omega, by show _ ≤ 20000; omega⟩)) hS (fun r_389 H_389 locs hp hS => ?_)
                          obtain ⟨rfl, rfl⟩ := hp
                          refine lv_iload_n hx hb dL_areTunesSo_392 rfl (lv_at hl 3 rfl) ?_
                          refine gz_icmp_ne (tgt := 408) hx hb ⟨by omega, by omega⟩ ⟨by omega, by omega⟩ dL_areTunesSo_393 (by decide) (fun c_393 => ?_) (fun c_393 => ?_)
                          · omega
                          · refine lv_aload_n hx hb dL_areTunesSo_396 rfl (lv_at hl 5 rfl) ?_
                            obtain ⟨hIa, hIb, ⟨Wa, hCa⟩, ⟨Wb, hCb⟩, hdd⟩ := id hPR
                            refine g_goi (vx_runV (As := []) (rest := []) ⟨hx, hb, hml, hown, hts⟩ (x_matches l G A TA S Wa H_L332 hCa hIa ) (cwV 0 hts gL_areTunesSo_X4_matches rfl rfl rfl hd_X4_matches ⟨(Nat.le_of_ble_eq_true rfl), (Nat.le_of_ble_eq_true rfl)⟩) (g_preV hX hS (ci := 4) rfl hCa.1) rfl rfl hl.1 rfl (lv_room (Nat.le_of_ble_eq_true rfl)) dL_areTunesSo_397 (⟨by show _ ≤ 2000; omega, by show _ ≤ 20000; omega⟩)) hS (fun r_397 H_397 locs hp hS => ?_)
                            obtain ⟨rfl, hxp⟩ := hp
                            have hPR := hPR.x0 hxp
                            refine lv_iload_n hx hb dL_areTunesSo_400 rfl (lv_at hl 4 rfl) ?_
                            refine gz_icmp_ne (tgt := 408) hx hb ⟨by omega, by omega⟩ ⟨by omega, by omega⟩ dL_areTunesSo_401 (by decide) (fun c_401 => ?_) (fun c_401 => ?_)
                            · omega
                            · refine lv_iconst (v := zI 1) hx hb dL_areTunesSo_404 rfl ?_
                              refine lv_goto (tgt := 409) hx hb dL_areTunesSo_405 (by decide) ?_
                              exact g_reti hx hb hr hlocks hS rfl (⟨rfl, hPR⟩) (by omega) (by omega) dL_areTunesSo_409
                      · refine lv_iload hx hb dL_areTunesSo_341 (lv_at hl 1 rfl) ?_
                        refine gz_if_eq (tgt := 383) hx hb (by decide) dL_areTunesSo_343 (by decide) (fun c_343 => ?_) (fun c_343 => ?_)
                        · omega
                        · have hdv := Nat.div_le_self M (2 ^ k)
                          have hM6 := hMe.1
                          have hbit := fd_bit hI hMe (k := k) (by omega)
                          refine lv_iload hx hb dL_areTunesSo_346 (lv_at hl 2 rfl) ?_
                          refine lv_iload hx hb dL_areTunesSo_348 (lv_at hl 0 rfl) ?_
                          refine gz_ishr hx hb M k (by omega) (by omega) (by omega) (by omega) dL_areTunesSo_350 ?_
                          refine lv_iconst (v := zI 1) hx hb dL_areTunesSo_351 rfl ?_
                          refine gz_iand hx hb (M / 2 ^ k) 1 (by omega) (by omega) dL_areTunesSo_352 ?_
                          refine lv_aload_n hx hb dL_areTunesSo_353 rfl (lv_at hl 5 rfl) ?_
                          refine lv_iload hx hb dL_areTunesSo_354 (lv_at hl 0 rfl) ?_
                          obtain ⟨hIa, hIb, ⟨Wa, hCa⟩, ⟨Wb, hCb⟩, hdd⟩ := id hPR
                          refine g_goi (vx_runSX (As := [.ref (A 0), .int (zI y)]) (rest := [.int (zI (((M / 2 ^ k) &&& 1 : Nat) : Int))]) ⟨hx, hb, hml, hown, hts⟩ (k_cost l G hlf A TA S Wa H_L332 hCa hIa y k (by omega) (by omega)) (vx_cwSW 2 hts gL_areTunesSo_L_cost rfl rfl rfl hd_L_cost.2 ⟨(Nat.le_of_ble_eq_true rfl), (Nat.le_of_ble_eq_true rfl)⟩) (g_pre hX hS) rfl rfl hl.1 rfl (lv_room (Nat.le_of_ble_eq_true rfl)) dL_areTunesSo_356 (⟨by show _ ≤ 2000; omega, by show _ ≤ 20000; omega⟩)) hS (fun r_356 H_356 locs hp hS => ?_)
                          obtain ⟨rfl, hxp⟩ := hp
                          have hPR := hPR.x0 hxp
                          have hcr_356 := costV_r hIa k
                          refine gz_if_lt (tgt := 366) hx hb ⟨by omega, by omega⟩ dL_areTunesSo_359 (by decide) (fun c_359 => ?_) (fun c_359 => ?_)
                          · refine lv_iconst (v := zI 0) hx hb dL_areTunesSo_366 rfl ?_
                            refine gz_icmp_ne (tgt := 374) hx hb ⟨by omega, by omega⟩ (by decide) dL_areTunesSo_367 (by decide) (fun c_367 => ?_) (fun c_367 => ?_)
                            · split at hbit <;> omega
                            · refine lv_iconst (v := zI 1) hx hb dL_areTunesSo_370 rfl ?_
                              refine lv_goto (tgt := 375) hx hb dL_areTunesSo_371 (by decide) ?_
                              refine lv_istore (lv' := [(5, .int (zI 1)), (6, .int (zI y)), (4, .int (zI ((M : Nat) : Int))), (2, .int (zI ff)), (3, .int (zI mm)), (0, .ref (A 0)), (1, .int (zI z))]) hx hb dL_areTunesSo_375 hl (by decide) rfl (fun ls hl => ?_)
                              refine lv_iinc (v := zI (y + 1)) (lv' := [(6, .int (zI (y + 1))), (5, .int (zI 1)), (4, .int (zI ((M : Nat) : Int))), (2, .int (zI ff)), (3, .int (zI mm)), (0, .ref (A 0)), (1, .int (zI z))]) hx hb dL_areTunesSo_377 hl (k := 1) rfl (zI_add _ _) (by decide) rfl (fun ls hl => ?_)
                              refine lv_goto (tgt := 332) hx hb dL_areTunesSo_380 (by decide) ?_
                              refine W.widen (k := 1600 + 6 * (k + 1)) (n := 16000 + 60 * (k + 1)) (by omega) (by omega) ?_
                              exact ih_332 (y + 1) (k + 1) H_356 _ (by omega) (by omega) (by omega) hPR hS ls (lv_sub hl [0, 1, 2, 3, 4, 5, 6] rfl)
                          · refine lv_iconst (v := zI 1) hx hb dL_areTunesSo_362 rfl ?_
                            refine lv_goto (tgt := 367) hx hb dL_areTunesSo_363 (by decide) ?_
                            refine gz_icmp_ne (tgt := 374) hx hb ⟨by omega, by omega⟩ (by decide) dL_areTunesSo_367 (by decide) (fun c_367 => ?_) (fun c_367 => ?_)
                            · split at hbit <;> omega
                            · refine lv_iconst (v := zI 1) hx hb dL_areTunesSo_370 rfl ?_
                              refine lv_goto (tgt := 375) hx hb dL_areTunesSo_371 (by decide) ?_
                              refine lv_istore (lv' := [(5, .int (zI 1)), (6, .int (zI y)), (4, .int (zI ((M : Nat) : Int))), (2, .int (zI ff)), (3, .int (zI mm)), (0, .ref (A 0)), (1, .int (zI z))]) hx hb dL_areTunesSo_375 hl (by decide) rfl (fun ls hl => ?_)
                              refine lv_iinc (v := zI (y + 1)) (lv' := [(6, .int (zI (y + 1))), (5, .int (zI 1)), (4, .int (zI ((M : Nat) : Int))), (2, .int (zI ff)), (3, .int (zI mm)), (0, .ref (A 0)), (1, .int (zI z))]) hx hb dL_areTunesSo_377 hl (k := 1) rfl (zI_add _ _) (by decide) rfl (fun ls hl => ?_)
                              refine lv_goto (tgt := 332) hx hb dL_areTunesSo_380 (by decide) ?_
                              refine W.widen (k := 1600 + 6 * (k + 1)) (n := 16000 + 60 * (k + 1)) (by omega) (by omega) ?_
                              exact ih_332 (y + 1) (k + 1) H_356 _ (by omega) (by omega) (by omega) hPR hS ls (lv_sub hl [0, 1, 2, 3, 4, 5, 6] rfl)
                  refine W.widen (k := 1600 + 6 * 0) (n := 16000 + 60 * 0) (by omega) (by omega) ?_
                  exact loop_332 _ 0 0 H_L299 _ (Nat.lt_succ_self _) rfl (Nat.zero_le _) hPR hS ls (lv_sub hl [0, 1, 2, 3, 4, 5, 6] rfl)
                · refine lv_iload hx hb dL_areTunesSo_305 (lv_at hl 1 rfl) ?_
                  refine gz_if_eq (tgt := 329) hx hb (by decide) dL_areTunesSo_307 (by decide) (fun c_307 => ?_) (fun c_307 => ?_)
                  · omega
                  · refine lv_iload hx hb dL_areTunesSo_310 (lv_at hl 2 rfl) ?_
                    refine lv_iconst (v := zI 1) hx hb dL_areTunesSo_312 rfl ?_
                    refine lv_aload_n hx hb dL_areTunesSo_313 rfl (lv_at hl 5 rfl) ?_
                    refine lv_iload hx hb dL_areTunesSo_314 (lv_at hl 0 rfl) ?_
                    obtain ⟨hIa, hIb, ⟨Wa, hCa⟩, ⟨Wb, hCb⟩, hdd⟩ := id hPR
                    obtain ⟨k0, hk0⟩ := fdF_yes (S := S) (z := y) ⟨by omega, by omega⟩
                    obtain ⟨hk0n, hM2⟩ := fdM_s (k0 := k0) hI hM (by rw [← hy]; exact hk0)
                    refine g_goi (vx_runV (As := [.int (zI y)]) (rest := [.int (zI 1), .int (zI ((M : Nat) : Int))]) ⟨hx, hb, hml, hown, hts⟩ (x_found_ok l G A TA S Wa H_L299 hCa hIa y ⟨by omega, by omega⟩ k0 hk0) (cwV 1 hts gL_areTunesSo_X4_found rfl rfl rfl hd_X4_found ⟨(Nat.le_of_ble_eq_true rfl), (Nat.le_of_ble_eq_true rfl)⟩) (g_preV hX hS (ci := 4) rfl hCa.1) rfl rfl hl.1 rfl (lv_room (Nat.le_of_ble_eq_true rfl)) dL_areTunesSo_316 (⟨by show _ ≤ 2000; omega, by show _ ≤ 20000; omega⟩)) hS (fun r_316 H_316 locs hp hS => ?_)
                    obtain ⟨rfl, hxp⟩ := hp
                    have hPR := hPR.x0 hxp
                    refine gz_ishl hx hb k0 rfl (by omega) (by omega) dL_areTunesSo_319 ?_
                    refine gz_ior hx hb M (2 ^ k0) (by omega) (by omega) dL_areTunesSo_320 ?_
                    refine lv_istore (lv' := [(4, .int (zI ((M ||| (2 ^ k0) : Nat) : Int))), (6, .int (zI y)), (5, .int (zI 1)), (2, .int (zI ff)), (3, .int (zI mm)), (0, .ref (A 0)), (1, .int (zI z))]) hx hb dL_areTunesSo_321 hl (by decide) rfl (fun ls hl => ?_)
                    refine lv_iinc (v := zI (y + 1)) (lv' := [(6, .int (zI (y + 1))), (4, .int (zI ((M ||| (2 ^ k0) : Nat) : Int))), (5, .int (zI 1)), (2, .int (zI ff)), (3, .int (zI mm)), (0, .ref (A 0)), (1, .int (zI z))]) hx hb dL_areTunesSo_323 hl (k := 1) rfl (zI_add _ _) (by decide) rfl (fun ls hl => ?_)
                    refine lv_goto (tgt := 299) hx hb dL_areTunesSo_326 (by decide) ?_
                    refine W.widen (k := 1450 + 6 * (r + 1)) (n := 14500 + 60 * (r + 1)) (by omega) (by omega) ?_
                    exact ih_299 (y + 1) (r + 1) (M ||| 2 ^ k0) H_316 _ (by omega) (by omega) (by omega) hM2 hPR hS ls (lv_sub hl [0, 2, 1, 3, 4, 5, 6] rfl)
            refine W.widen (k := 1450 + 6 * 0) (n := 14500 + 60 * 0) (by omega) (by omega) ?_
            exact loop_299 _ 0 0 0 H_L33 _ (Nat.lt_succ_self _) rfl (Nat.zero_le _) (fdM_0 S) hPR hS ls (lv_sub hl [0, 1, 4, 2, 3, 5, 6] rfl)
          · refine lv_iload hx hb dL_areTunesSo_42 (lv_at hl 1 rfl) ?_
            refine gz_if_eq (tgt := 296) hx hb (by decide) dL_areTunesSo_44 (by decide) (fun c_44 => ?_) (fun c_44 => ?_)
            · omega
            · have hk24 := hI.2.1 k (by omega)
              have hq24 := hI.2.1 q (by omega)
              have hs1 := shared_le S k q
              have hs2 := shared_symm S k q
              have hs3 := shared_le S q k
              have hs4 := shared_self (S := S) (k := k) (by omega)
              have hcr := costV_r hI k
              have hcr2 := costV_rng hI k
              have hxE : xE = -99999 := rfl
              have hid := famL_idem (lk := slk S) (n := sn S) (t := k) hlk (by omega)
              have hfl0 := famL_le (slk S) (sn S) k
              refine lv_aload_n hx hb dL_areTunesSo_47 rfl (lv_at hl 5 rfl) ?_
              refine lv_iload hx hb dL_areTunesSo_48 (lv_at hl 0 rfl) ?_
              obtain ⟨hIa, hIb, ⟨Wa, hCa⟩, ⟨Wb, hCb⟩, hdd⟩ := id hPR
              refine g_goi (vx_runSX (As := [.ref (A 0), .int (zI y)]) (rest := []) ⟨hx, hb, hml, hown, hts⟩ (k_cost l G hlf A TA S Wa H_L33 hCa hIa y k (by omega) (by omega)) (vx_cwSW 2 hts gL_areTunesSo_L_cost rfl rfl rfl hd_L_cost.2 ⟨(Nat.le_of_ble_eq_true rfl), (Nat.le_of_ble_eq_true rfl)⟩) (g_pre hX hS) rfl rfl hl.1 rfl (lv_room (Nat.le_of_ble_eq_true rfl)) dL_areTunesSo_50 (⟨by show _ ≤ 2000; omega, by show _ ≤ 20000; omega⟩)) hS (fun r_50 H_50 locs hp hS => ?_)
              obtain ⟨rfl, hxp⟩ := hp
              have hPR := hPR.x0 hxp
              have hcr_50 := costV_r hIa k
              refine lv_istore (lv' := [(7, .int (zI (costV S k))), (6, .int (zI y)), (5, .int (zI 1)), (2, .int (zI ff)), (3, .int (zI mm)), (4, .int (zI ((0 : Nat) : Int))), (0, .ref (A 0)), (1, .int (zI z))]) hx hb dL_areTunesSo_53 hl (by decide) rfl (fun ls hl => ?_)
              refine lv_aload_n hx hb dL_areTunesSo_55 rfl (lv_at hl 6 rfl) ?_
              refine lv_iload hx hb dL_areTunesSo_56 (lv_at hl 1 rfl) ?_
              obtain ⟨hIa, hIb, ⟨Wa, hCa⟩, ⟨Wb, hCb⟩, hdd⟩ := id hPR
              refine g_goi (vx_runV (As := [.int (zI y)]) (rest := []) ⟨hx, hb, hml, hown, hts⟩ (x_family_ok l G A TA S Wa H_50 hCa hIa y k (by omega) (by omega)) (cwV 1 hts gL_areTunesSo_X4_family rfl rfl rfl hd_X4_family ⟨(Nat.le_of_ble_eq_true rfl), (Nat.le_of_ble_eq_true rfl)⟩) (g_preV hX hS (ci := 4) rfl hCa.1) rfl rfl hl.1 rfl (lv_room (Nat.le_of_ble_eq_true rfl)) dL_areTunesSo_58 (⟨by show _ ≤ 2000; omega, by show _ ≤ 20000; omega⟩)) hS (fun r_58 H_58 locs hp hS => ?_)
              obtain ⟨rfl, rfl⟩ := hp
              have hfl_a := famL_le (slk S) (sn S) k
              refine lv_istore (lv' := [(8, .int (zI ((famL (slk S) (sn S) k : Nat) : Int))), (7, .int (zI (costV S k))), (6, .int (zI y)), (5, .int (zI 1)), (2, .int (zI ff)), (3, .int (zI mm)), (4, .int (zI ((0 : Nat) : Int))), (0, .ref (A 0)), (1, .int (zI z))]) hx hb dL_areTunesSo_61 hl (by decide) rfl (fun ls hl => ?_)
              refine lv_aload_n hx hb dL_areTunesSo_63 rfl (lv_at hl 7 rfl) ?_
              refine lv_iload hx hb dL_areTunesSo_64 (lv_at hl 2 rfl) ?_
              refine lv_iload_n hx hb dL_areTunesSo_66 rfl (lv_at hl 8 rfl) ?_
              obtain ⟨hIa, hIb, ⟨Wa, hCa⟩, ⟨Wb, hCb⟩, hdd⟩ := id hPR
              refine g_goi (vx_runV (As := [.int (zI y), .int (zI z)]) (rest := []) ⟨hx, hb, hml, hown, hts⟩ (x_shared_ok l G A TA S Wa H_50 hCa hIa y z k q (by omega) (by omega) (by omega) (by omega)) (cwV 2 hts gL_areTunesSo_X4_shared rfl rfl rfl hd_X4_shared ⟨(Nat.le_of_ble_eq_true rfl), (Nat.le_of_ble_eq_true rfl)⟩) (g_preV hX hS (ci := 4) rfl hCa.1) rfl rfl hl.1 rfl (lv_room (Nat.le_of_ble_eq_true rfl)) dL_areTunesSo_67 (⟨by show _ ≤ 2000; omega, by show _ ≤ 20000; omega⟩)) hS (fun r_67 H_67 locs hp hS => ?_)
              obtain ⟨rfl, rfl⟩ := hp
              refine lv_istore (lv' := [(9, .int (zI ((sharedF S k q : Nat) : Int))), (8, .int (zI ((famL (slk S) (sn S) k : Nat) : Int))), (7, .int (zI (costV S k))), (6, .int (zI y)), (5, .int (zI 1)), (2, .int (zI ff)), (3, .int (zI mm)), (4, .int (zI ((0 : Nat) : Int))), (0, .ref (A 0)), (1, .int (zI z))]) hx hb dL_areTunesSo_70 hl (by decide) rfl (fun ls hl => ?_)
              have seg_87 : ∀ (f2 : Int) (locs : List Loc), (f2 = (famC (slk S) (sn S) (k + 1) : Nat)) → va_S (gA G) s.heap H_50 locs → ∀ (ls : Array Slot), lv_has ls 10 [(2, .int (zI f2)), (3, .int (zI mm)), (4, .int (zI ((0 : Nat) : Int))), (5, .int (zI 1)), (6, .int (zI y)), (7, .int (zI (costV S k))), (8, .int (zI ((famL (slk S) (sn S) k : Nat) : Int))), (9, .int (zI ((sharedF S k q : Nat) : Int))), (0, .ref (A 0)), (1, .int (zI z))] → W p l e rm_L_areTunesSo s m args below meth c H_50 locs (90 * k + 6 + 6 + 6) (900 * k + 60 + 60 + 60) (vx_MQ below (gQ G (gi (fun r H1 => zI 1 = r ∧ PR G A TA S B TB T H1))) (gXC G (gNo)) args s 2000 20000 (gA G)) (F0 m 87 ls []) := by
                intro f2 locs hf2 hS ls hl
                have seg_100 : ∀ (m2 : Int) (locs : List Loc), (m2 = (ctB (mtB S) (k + 1) : Nat)) → va_S (gA G) s.heap H_50 locs → ∀ (ls : Array Slot), lv_has ls 10 [(2, .int (zI f2)), (3, .int (zI m2)), (4, .int (zI ((0 : Nat) : Int))), (5, .int (zI 1)), (6, .int (zI y)), (7, .int (zI (costV S k))), (8, .int (zI ((famL (slk S) (sn S) k : Nat) : Int))), (9, .int (zI ((sharedF S k q : Nat) : Int))), (0, .ref (A 0)), (1, .int (zI z))] → W p l e rm_L_areTunesSo s m args below meth c H_50 locs (90 * k + 6 + 6 + 6) (900 * k + 60 + 60 + 60) (vx_MQ below (gQ G (gi (fun r H1 => zI 1 = r ∧ PR G A TA S B TB T H1))) (gXC G (gNo)) args s 2000 20000 (gA G)) (F0 m 100 ls []) := by
                  intro m2 locs hm2 hS ls hl
                  have seg_120 : ∀  (locs : List Loc), va_S (gA G) s.heap H_50 locs → ∀ (ls : Array Slot), lv_has ls 10 [(2, .int (zI f2)), (3, .int (zI m2)), (4, .int (zI ((0 : Nat) : Int))), (5, .int (zI 1)), (6, .int (zI y)), (7, .int (zI (costV S k))), (8, .int (zI ((famL (slk S) (sn S) k : Nat) : Int))), (9, .int (zI ((sharedF S k q : Nat) : Int))), (0, .ref (A 0)), (1, .int (zI z))] → W p l e rm_L_areTunesSo s m args below meth c H_50 locs (90 * k + 6 + 6 + 6) (900 * k + 60 + 60 + 60) (vx_MQ below (gQ G (gi (fun r H1 => zI 1 = r ∧ PR G A TA S B TB T H1))) (gXC G (gNo)) args s 2000 20000 (gA G)) (F0 m 120 ls []) := by
                    intro  locs  hS ls hl
                    refine lv_iload hx hb dL_areTunesSo_120 (lv_at hl 3 rfl) ?_
                    refine gz_if_eq (tgt := 287) hx hb (by decide) dL_areTunesSo_122 (by decide) (fun c_122 => ?_) (fun c_122 => ?_)
                    · omega
                    · refine lv_iload hx hb dL_areTunesSo_125 (lv_at hl 6 rfl) ?_
                      refine lv_iload hx hb dL_areTunesSo_127 (lv_at hl 4 rfl) ?_
                      refine gz_icmp_gt (tgt := 287) hx hb ⟨by omega, by omega⟩ ⟨by omega, by omega⟩ dL_areTunesSo_129 (by decide) (fun c_129 => ?_) (fun c_129 => ?_)
                      · omega
                      · refine lv_aload_n hx hb dL_areTunesSo_132 rfl (lv_at hl 8 rfl) ?_
                        refine lv_iload hx hb dL_areTunesSo_133 (lv_at hl 6 rfl) ?_
                        obtain ⟨hIa, hIb, ⟨Wa, hCa⟩, ⟨Wb, hCb⟩, hdd⟩ := id hPR
                        refine g_goi (vx_runV (As := [.int (zI ((famL (slk S) (sn S) k : Nat) : Int))]) (rest := []) ⟨hx, hb, hml, hown, hts⟩ (x_family_ok l G A TA S Wa H_50 hCa hIa ((famL (slk S) (sn S) k : Nat) : Int) (famL (slk S) (sn S) k) (by omega) (by omega)) (cwV 1 hts gL_areTunesSo_X4_family rfl rfl rfl hd_X4_family ⟨(Nat.le_of_ble_eq_true rfl), (Nat.le_of_ble_eq_true rfl)⟩) (g_preV hX hS (ci := 4) rfl hCa.1) rfl rfl hl.1 rfl (lv_room (Nat.le_of_ble_eq_true rfl)) dL_areTunesSo_135 (⟨by show _ ≤ 2000; omega, by show _ ≤ 20000; omega⟩)) hS (fun r_135 H_135 locs hp hS => ?_)
                        obtain ⟨rfl, rfl⟩ := hp
                        have hfl_b := famL_le (slk S) (sn S) k
                        refine lv_iload hx hb dL_areTunesSo_138 (lv_at hl 6 rfl) ?_
                        refine gz_icmp_ne (tgt := 287) hx hb ⟨by omega, by omega⟩ ⟨by omega, by omega⟩ dL_areTunesSo_140 (by decide) (fun c_140 => ?_) (fun c_140 => ?_)
                        · omega
                        · refine lv_iload hx hb dL_areTunesSo_143 (lv_at hl 7 rfl) ?_
                          refine gz_if_lt (tgt := 287) hx hb ⟨by omega, by omega⟩ dL_areTunesSo_145 (by decide) (fun c_145 => ?_) (fun c_145 => ?_)
                          · omega
                          · refine lv_iload hx hb dL_areTunesSo_148 (lv_at hl 7 rfl) ?_
                            refine lv_aload_n hx hb dL_areTunesSo_150 rfl (lv_at hl 8 rfl) ?_
                            refine lv_iload hx hb dL_areTunesSo_151 (lv_at hl 4 rfl) ?_
                            obtain ⟨hIa, hIb, ⟨Wa, hCa⟩, ⟨Wb, hCb⟩, hdd⟩ := id hPR
                            refine g_goi (vx_runV (As := [.int (zI y)]) (rest := [.int (zI ((sharedF S k q : Nat) : Int))]) ⟨hx, hb, hml, hown, hts⟩ (x_notes_ok l G A TA S Wa H_50 hCa hIa y k (by omega) (by omega)) (cwV 1 hts gL_areTunesSo_X4_notes rfl rfl rfl hd_X4_notes ⟨(Nat.le_of_ble_eq_true rfl), (Nat.le_of_ble_eq_true rfl)⟩) (g_preV hX hS (ci := 4) rfl hCa.1) rfl rfl hl.1 rfl (lv_room (Nat.le_of_ble_eq_true rfl)) dL_areTunesSo_153 (⟨by show _ ≤ 2000; omega, by show _ ≤ 20000; omega⟩)) hS (fun r_153 H_153 locs hp hS => ?_)
                            obtain ⟨rfl, rfl⟩ := hp
                            refine gz_icmp_ge (tgt := 287) hx hb ⟨by omega, by omega⟩ ⟨by omega, by omega⟩ dL_areTunesSo_156 (by decide) (fun c_156 => ?_) (fun c_156 => ?_)
                            · omega
                            · refine lv_iload hx hb dL_areTunesSo_159 (lv_at hl 7 rfl) ?_
                              refine lv_aload_n hx hb dL_areTunesSo_161 rfl (lv_at hl 8 rfl) ?_
                              refine lv_iload_n hx hb dL_areTunesSo_162 rfl (lv_at hl 9 rfl) ?_
                              obtain ⟨hIa, hIb, ⟨Wa, hCa⟩, ⟨Wb, hCb⟩, hdd⟩ := id hPR
                              refine g_goi (vx_runV (As := [.int (zI z)]) (rest := [.int (zI ((sharedF S k q : Nat) : Int))]) ⟨hx, hb, hml, hown, hts⟩ (x_notes_ok l G A TA S Wa H_50 hCa hIa z q (by omega) (by omega)) (cwV 1 hts gL_areTunesSo_X4_notes rfl rfl rfl hd_X4_notes ⟨(Nat.le_of_ble_eq_true rfl), (Nat.le_of_ble_eq_true rfl)⟩) (g_preV hX hS (ci := 4) rfl hCa.1) rfl rfl hl.1 rfl (lv_room (Nat.le_of_ble_eq_true rfl)) dL_areTunesSo_163 (⟨by show _ ≤ 2000; omega, by show _ ≤ 20000; omega⟩)) hS (fun r_163 H_163 locs hp hS => ?_)
                              obtain ⟨rfl, rfl⟩ := hp
                              refine gz_icmp_ge (tgt := 287) hx hb ⟨by omega, by omega⟩ ⟨by omega, by omega⟩ dL_areTunesSo_166 (by decide) (fun c_166 => ?_) (fun c_166 => ?_)
                              · omega
                              · refine lv_aload_n hx hb dL_areTunesSo_169 rfl (lv_at hl 8 rfl) ?_
                                refine lv_iload_n hx hb dL_areTunesSo_170 rfl (lv_at hl 9 rfl) ?_
                                refine lv_iload hx hb dL_areTunesSo_171 (lv_at hl 4 rfl) ?_
                                obtain ⟨hIa, hIb, ⟨Wa, hCa⟩, ⟨Wb, hCb⟩, hdd⟩ := id hPR
                                refine g_goi (vx_runV (As := [.int (zI z), .int (zI y)]) (rest := []) ⟨hx, hb, hml, hown, hts⟩ (x_shared_ok l G A TA S Wa H_50 hCa hIa z y q k (by omega) (by omega) (by omega) (by omega)) (cwV 2 hts gL_areTunesSo_X4_shared rfl rfl rfl hd_X4_shared ⟨(Nat.le_of_ble_eq_true rfl), (Nat.le_of_ble_eq_true rfl)⟩) (g_preV hX hS (ci := 4) rfl hCa.1) rfl rfl hl.1 rfl (lv_room (Nat.le_of_ble_eq_true rfl)) dL_areTunesSo_173 (⟨by show _ ≤ 2000; omega, by show _ ≤ 20000; omega⟩)) hS (fun r_173 H_173 locs hp hS => ?_)
                                obtain ⟨rfl, rfl⟩ := hp
                                refine lv_iload hx hb dL_areTunesSo_176 (lv_at hl 7 rfl) ?_
                                refine gz_icmp_ne (tgt := 287) hx hb ⟨by omega, by omega⟩ ⟨by omega, by omega⟩ dL_areTunesSo_178 (by decide) (fun c_178 => ?_) (fun c_178 => ?_)
                                · omega
                                · refine lv_aload_n hx hb dL_areTunesSo_181 rfl (lv_at hl 8 rfl) ?_
                                  refine lv_iload hx hb dL_areTunesSo_182 (lv_at hl 4 rfl) ?_
                                  refine lv_iload hx hb dL_areTunesSo_184 (lv_at hl 4 rfl) ?_
                                  obtain ⟨hIa, hIb, ⟨Wa, hCa⟩, ⟨Wb, hCb⟩, hdd⟩ := id hPR
                                  refine g_goi (vx_runV (As := [.int (zI y), .int (zI y)]) (rest := []) ⟨hx, hb, hml, hown, hts⟩ (x_shared_ok l G A TA S Wa H_50 hCa hIa y y k k (by omega) (by omega) (by omega) (by omega)) (cwV 2 hts gL_areTunesSo_X4_shared rfl rfl rfl hd_X4_shared ⟨(Nat.le_of_ble_eq_true rfl), (Nat.le_of_ble_eq_true rfl)⟩) (g_preV hX hS (ci := 4) rfl hCa.1) rfl rfl hl.1 rfl (lv_room (Nat.le_of_ble_eq_true rfl)) dL_areTunesSo_186 (⟨by show _ ≤ 2000; omega, by show _ ≤ 20000; omega⟩)) hS (fun r_186 H_186 locs hp hS => ?_)
                                  obtain ⟨rfl, rfl⟩ := hp
                                  refine lv_aload_n hx hb dL_areTunesSo_189 rfl (lv_at hl 8 rfl) ?_
                                  refine lv_iload hx hb dL_areTunesSo_190 (lv_at hl 4 rfl) ?_
                                  obtain ⟨hIa, hIb, ⟨Wa, hCa⟩, ⟨Wb, hCb⟩, hdd⟩ := id hPR
                                  refine g_goi (vx_runV (As := [.int (zI y)]) (rest := [.int (zI ((sharedF S k k : Nat) : Int))]) ⟨hx, hb, hml, hown, hts⟩ (x_notes_ok l G A TA S Wa H_50 hCa hIa y k (by omega) (by omega)) (cwV 1 hts gL_areTunesSo_X4_notes rfl rfl rfl hd_X4_notes ⟨(Nat.le_of_ble_eq_true rfl), (Nat.le_of_ble_eq_true rfl)⟩) (g_preV hX hS (ci := 4) rfl hCa.1) rfl rfl hl.1 rfl (lv_room (Nat.le_of_ble_eq_true rfl)) dL_areTunesSo_192 (⟨by show _ ≤ 2000; omega, by show _ ≤ 20000; omega⟩)) hS (fun r_192 H_192 locs hp hS => ?_)
                                  obtain ⟨rfl, rfl⟩ := hp
                                  refine lv_iconst (v := zI 1) hx hb dL_areTunesSo_195 rfl ?_
                                  refine gz_isub hx hb dL_areTunesSo_196 ?_
                                  refine gz_icmp_ne (tgt := 287) hx hb ⟨by omega, by omega⟩ ⟨by omega, by omega⟩ dL_areTunesSo_197 (by decide) (fun c_197 => ?_) (fun c_197 => ?_)
                                  · omega
                                  · refine lv_aload_n hx hb dL_areTunesSo_200 rfl (lv_at hl 8 rfl) ?_
                                    refine lv_iload hx hb dL_areTunesSo_201 (lv_at hl 4 rfl) ?_
                                    obtain ⟨hIa, hIb, ⟨Wa, hCa⟩, ⟨Wb, hCb⟩, hdd⟩ := id hPR
                                    refine g_goi (vx_runV (As := [.int (zI y)]) (rest := []) ⟨hx, hb, hml, hown, hts⟩ (x_notes_ok l G A TA S Wa H_50 hCa hIa y k (by omega) (by omega)) (cwV 1 hts gL_areTunesSo_X4_notes rfl rfl rfl hd_X4_notes ⟨(Nat.le_of_ble_eq_true rfl), (Nat.le_of_ble_eq_true rfl)⟩) (g_preV hX hS (ci := 4) rfl hCa.1) rfl rfl hl.1 rfl (lv_room (Nat.le_of_ble_eq_true rfl)) dL_areTunesSo_203 (⟨by show _ ≤ 2000; omega, by show _ ≤ 20000; omega⟩)) hS (fun r_203 H_203 locs hp hS => ?_)
                                    obtain ⟨rfl, rfl⟩ := hp
                                    refine lv_bipush (v := zI 24) hx hb dL_areTunesSo_206 (by decide +kernel) ?_
                                    refine gz_icmp_gt (tgt := 287) hx hb ⟨by omega, by omega⟩ (by decide) dL_areTunesSo_208 (by decide) (fun c_208 => ?_) (fun c_208 => ?_)
                                    · omega
                                    · have seg_225 : ∀  (locs : List Loc), va_S (gA G) s.heap H_50 locs → ∀ (ls : Array Slot), lv_has ls 10 [(2, .int (zI f2)), (3, .int (zI m2)), (4, .int (zI ((0 : Nat) : Int))), (6, .int (zI y)), (7, .int (zI (costV S k))), (8, .int (zI ((famL (slk S) (sn S) k : Nat) : Int))), (9, .int (zI ((sharedF S k q : Nat) : Int))), (0, .ref (A 0)), (1, .int (zI z))] → W p l e rm_L_areTunesSo s m args below meth c H_50 locs (90 * k + 6 + 6 + 6 + 6 + 6 + 6 + 6 + 6 + 6 + 6) (900 * k + 60 + 60 + 60 + 60 + 60 + 60 + 60 + 60 + 60 + 60) (vx_MQ below (gQ G (gi (fun r H1 => zI 1 = r ∧ PR G A TA S B TB T H1))) (gXC G (gNo)) args s 2000 20000 (gA G)) (F0 m 225 ls []) := by
                                        intro  locs  hS ls hl
                                        have seg_237 : ∀  (locs : List Loc), va_S (gA G) s.heap H_50 locs → ∀ (ls : Array Slot), lv_has ls 10 [(2, .int (zI f2)), (3, .int (zI m2)), (4, .int (zI ((0 : Nat) : Int))), (6, .int (zI y)), (7, .int (zI (costV S k))), (8, .int (zI ((famL (slk S) (sn S) k : Nat) : Int))), (9, .int (zI ((sharedF S k q : Nat) : Int))), (0, .ref (A 0)), (1, .int (zI z))] → W p l e rm_L_areTunesSo s m args below meth c H_50 locs (90 * k + 6 + 6 + 6 + 6 + 6 + 6 + 6 + 6 + 6 + 6) (900 * k + 60 + 60 + 60 + 60 + 60 + 60 + 60 + 60 + 60 + 60) (vx_MQ below (gQ G (gi (fun r H1 => zI 1 = r ∧ PR G A TA S B TB T H1))) (gXC G (gNo)) args s 2000 20000 (gA G)) (F0 m 237 ls []) := by
                                          intro  locs  hS ls hl
                                          have seg_256 : ∀  (locs : List Loc), va_S (gA G) s.heap H_50 locs → ∀ (ls : Array Slot), lv_has ls 10 [(2, .int (zI f2)), (3, .int (zI m2)), (4, .int (zI ((0 : Nat) : Int))), (6, .int (zI y)), (7, .int (zI (costV S k))), (8, .int (zI ((famL (slk S) (sn S) k : Nat) : Int))), (9, .int (zI ((sharedF S k q : Nat) : Int))), (0, .ref (A 0)), (1, .int (zI z))] → W p l e rm_L_areTunesSo s m args below meth c H_50 locs (90 * k + 6 + 6 + 6 + 6 + 6 + 6 + 6 + 6 + 6 + 6) (900 * k + 60 + 60 + 60 + 60 + 60 + 60 + 60 + 60 + 60 + 60) (vx_MQ below (gQ G (gi (fun r H1 => zI 1 = r ∧ PR G A TA S B TB T H1))) (gXC G (gNo)) args s 2000 20000 (gA G)) (F0 m 256 ls []) := by
                                            intro  locs  hS ls hl
                                            refine lv_iload hx hb dL_areTunesSo_256 (lv_at hl 4 rfl) ?_
                                            refine gz_if_lt (tgt := 283) hx hb ⟨by omega, by omega⟩ dL_areTunesSo_258 (by decide) (fun c_258 => ?_) (fun c_258 => ?_)
                                            · refine lv_iconst (v := zI 1) hx hb dL_areTunesSo_283 rfl ?_
                                              refine lv_goto (tgt := 288) hx hb dL_areTunesSo_284 (by decide) ?_
                                              refine lv_istore (lv' := [(5, .int (zI 1)), (2, .int (zI f2)), (3, .int (zI m2)), (4, .int (zI ((0 : Nat) : Int))), (6, .int (zI y)), (7, .int (zI (costV S k))), (8, .int (zI ((famL (slk S) (sn S) k : Nat) : Int))), (9, .int (zI ((sharedF S k q : Nat) : Int))), (0, .ref (A 0)), (1, .int (zI z))]) hx hb dL_areTunesSo_288 hl (by decide) rfl (fun ls hl => ?_)
                                              refine lv_iinc (v := zI (y + 1)) (lv' := [(6, .int (zI (y + 1))), (5, .int (zI 1)), (2, .int (zI f2)), (3, .int (zI m2)), (4, .int (zI ((0 : Nat) : Int))), (7, .int (zI (costV S k))), (8, .int (zI ((famL (slk S) (sn S) k : Nat) : Int))), (9, .int (zI ((sharedF S k q : Nat) : Int))), (0, .ref (A 0)), (1, .int (zI z))]) hx hb dL_areTunesSo_290 hl (k := 4) rfl (zI_add _ _) (by decide) rfl (fun ls hl => ?_)
                                              refine lv_goto (tgt := 33) hx hb dL_areTunesSo_293 (by decide) ?_
                                              refine W.widen (k := 90 * (k + 1)) (n := 900 * (k + 1)) (by omega) (by omega) ?_
                                              exact ih_33 (y + 1) (k + 1) f2 m2 H_50 _ (by omega) (by omega) (by omega) hf2 hm2 hPR hS ls (lv_sub hl [0, 1, 2, 3, 4, 8, 9] rfl)
                                            · refine lv_aload_n hx hb dL_areTunesSo_261 rfl (lv_at hl 7 rfl) ?_
                                              refine lv_iload hx hb dL_areTunesSo_262 (lv_at hl 3 rfl) ?_
                                              obtain ⟨hIa, hIb, ⟨Wa, hCa⟩, ⟨Wb, hCb⟩, hdd⟩ := id hPR
                                              refine g_goi (vx_runV (As := [.int (zI y)]) (rest := []) ⟨hx, hb, hml, hown, hts⟩ (x_notes_ok l G A TA S Wa H_50 hCa hIa y k (by omega) (by omega)) (cwV 1 hts gL_areTunesSo_X4_notes rfl rfl rfl hd_X4_notes ⟨(Nat.le_of_ble_eq_true rfl), (Nat.le_of_ble_eq_true rfl)⟩) (g_preV hX hS (ci := 4) rfl hCa.1) rfl rfl hl.1 rfl (lv_room (Nat.le_of_ble_eq_true rfl)) dL_areTunesSo_264 (⟨by show _ ≤ 2000; omega, by show _ ≤ 20000; omega⟩)) hS (fun r_264 H_264 locs hp hS => ?_)
                                              obtain ⟨rfl, rfl⟩ := hp
                                              refine lv_iconst (v := zI 2) hx hb dL_areTunesSo_267 rfl ?_
                                              refine lv_aload_n hx hb dL_areTunesSo_268 rfl (lv_at hl 7 rfl) ?_
                                              refine lv_iload hx hb dL_areTunesSo_269 (lv_at hl 3 rfl) ?_
                                              obtain ⟨hIa, hIb, ⟨Wa, hCa⟩, ⟨Wb, hCb⟩, hdd⟩ := id hPR
                                              refine g_goi (vx_runV (As := [.int (zI y)]) (rest := [.int (zI 2), .int (zI (stn S k : Int))]) ⟨hx, hb, hml, hown, hts⟩ (x_notes_ok l G A TA S Wa H_50 hCa hIa y k (by omega) (by omega)) (cwV 1 hts gL_areTunesSo_X4_notes rfl rfl rfl hd_X4_notes ⟨(Nat.le_of_ble_eq_true rfl), (Nat.le_of_ble_eq_true rfl)⟩) (g_preV hX hS (ci := 4) rfl hCa.1) rfl rfl hl.1 rfl (lv_room (Nat.le_of_ble_eq_true rfl)) dL_areTunesSo_271 (⟨by show _ ≤ 2000; omega, by show _ ≤ 20000; omega⟩)) hS (fun r_271 H_271 locs hp hS => ?_)
                                              obtain ⟨rfl, rfl⟩ := hp
                                              refine gz_imul hx hb dL_areTunesSo_274 ?_
                                              refine gz_iadd hx hb dL_areTunesSo_275 ?_
                                              refine lv_aload_n hx hb dL_areTunesSo_276 rfl (lv_at hl 7 rfl) ?_
                                              obtain ⟨hIa, hIb, ⟨Wa, hCa⟩, ⟨Wb, hCb⟩, hdd⟩ := id hPR
                                              refine g_goi (vx_runV (As := []) (rest := [.int (zI ((stn S k : Int) + (2 * (stn S k : Int))))]) ⟨hx, hb, hml, hown, hts⟩ (x_hummed l G A TA S Wa H_50 hCa hIa ) (cwV 0 hts gL_areTunesSo_X4_hummed rfl rfl rfl hd_X4_hummed ⟨(Nat.le_of_ble_eq_true rfl), (Nat.le_of_ble_eq_true rfl)⟩) (g_preV hX hS (ci := 4) rfl hCa.1) rfl rfl hl.1 rfl (lv_room (Nat.le_of_ble_eq_true rfl)) dL_areTunesSo_277 (⟨by show _ ≤ 2000; omega, by show _ ≤ 20000; omega⟩)) hS (fun r_277 H_277 locs hp hS => ?_)
                                              obtain ⟨rfl, rfl⟩ := hp
                                              refine gz_icmp_lt (tgt := 287) hx hb ⟨by omega, by omega⟩ ⟨by omega, by omega⟩ dL_areTunesSo_280 (by decide) (fun c_280 => ?_) (fun c_280 => ?_)
                                              · have hc1 := costV_far hI (k := k) (by omega)
                                                omega
                                              · refine lv_iconst (v := zI 1) hx hb dL_areTunesSo_283 rfl ?_
                                                refine lv_goto (tgt := 288) hx hb dL_areTunesSo_284 (by decide) ?_
                                                refine lv_istore (lv' := [(5, .int (zI 1)), (2, .int (zI f2)), (3, .int (zI m2)), (4, .int (zI ((0 : Nat) : Int))), (6, .int (zI y)), (7, .int (zI (costV S k))), (8, .int (zI ((famL (slk S) (sn S) k : Nat) : Int))), (9, .int (zI ((sharedF S k q : Nat) : Int))), (0, .ref (A 0)), (1, .int (zI z))]) hx hb dL_areTunesSo_288 hl (by decide) rfl (fun ls hl => ?_)
                                                refine lv_iinc (v := zI (y + 1)) (lv' := [(6, .int (zI (y + 1))), (5, .int (zI 1)), (2, .int (zI f2)), (3, .int (zI m2)), (4, .int (zI ((0 : Nat) : Int))), (7, .int (zI (costV S k))), (8, .int (zI ((famL (slk S) (sn S) k : Nat) : Int))), (9, .int (zI ((sharedF S k q : Nat) : Int))), (0, .ref (A 0)), (1, .int (zI z))]) hx hb dL_areTunesSo_290 hl (k := 4) rfl (zI_add _ _) (by decide) rfl (fun ls hl => ?_)
                                                refine lv_goto (tgt := 33) hx hb dL_areTunesSo_293 (by decide) ?_
                                                refine W.widen (k := 90 * (k + 1)) (n := 900 * (k + 1)) (by omega) (by omega) ?_
                                                exact ih_33 (y + 1) (k + 1) f2 m2 H_50 _ (by omega) (by omega) (by omega) hf2 hm2 hPR hS ls (lv_sub hl [0, 1, 2, 3, 4, 8, 9] rfl)
                                          refine lv_aload_n hx hb dL_areTunesSo_237 rfl (lv_at hl 7 rfl) ?_
                                          obtain ⟨hIa, hIb, ⟨Wa, hCa⟩, ⟨Wb, hCb⟩, hdd⟩ := id hPR
                                          refine g_goi (vx_runV (As := []) (rest := []) ⟨hx, hb, hml, hown, hts⟩ (x_likeContour l G A TA S Wa H_50 hCa hIa ) (cwV 0 hts gL_areTunesSo_X4_likeContour rfl rfl rfl hd_X4_likeContour ⟨(Nat.le_of_ble_eq_true rfl), (Nat.le_of_ble_eq_true rfl)⟩) (g_preV hX hS (ci := 4) rfl hCa.1) rfl rfl hl.1 rfl (lv_room (Nat.le_of_ble_eq_true rfl)) dL_areTunesSo_238 (⟨by show _ ≤ 2000; omega, by show _ ≤ 20000; omega⟩)) hS (fun r_238 H_238 locs hp hS => ?_)
                                          obtain ⟨rfl, rfl⟩ := hp
                                          refine lv_iload hx hb dL_areTunesSo_241 (lv_at hl 3 rfl) ?_
                                          refine gz_ishr hx hb (lcF S (sn S)) k (by omega) (by omega) (by omega) (by omega) dL_areTunesSo_243 ?_
                                          refine lv_iconst (v := zI 1) hx hb dL_areTunesSo_244 rfl ?_
                                          refine gz_iand hx hb ((lcF S (sn S)) / 2 ^ k) 1 (by omega) (by omega) dL_areTunesSo_245 ?_
                                          have hlb : lcF S (sn S) / 2 ^ k &&& 1 < 2 := by rw [lc_bit]; split <;> omega
                                          refine gz_if_eq (tgt := 256) hx hb ⟨by omega, by omega⟩ dL_areTunesSo_246 (by decide) (fun c_246 => ?_) (fun c_246 => ?_)
                                          · exact seg_256  _  hS ls (lv_sub hl [0, 1, 2, 3, 4, 5, 6, 7, 8] rfl)
                                          · have hbt : (lcF S (sn S)).testBit k = true := by
                                              cases e9 : (lcF S (sn S)).testBit k
                                              · rw [lc_bit, e9] at c_246; exact absurd rfl c_246
                                              · rfl
                                            refine lv_iload hx hb dL_areTunesSo_249 (lv_at hl 4 rfl) ?_
                                            refine lv_ldc (v := -99999) hx hb hown (hts (.constant RL 42 (-99999)) (List.mem_cons_of_mem _ (List.mem_append_left _ (List.mem_append_left _ (List.mem_append_left _ (List.mem_append_left _ (List.mem_append_left _ (List.mem_append_left _ (List.mem_append_left _ (List.mem_of_getElem? (i := 0) rfl)))))))))) dL_areTunesSo_251 ?_
                                            rw [k_far]
                                            refine gz_icmp_eq (tgt := 287) hx hb ⟨by omega, by omega⟩ ⟨by omega, by omega⟩ dL_areTunesSo_253 (by decide) (fun c_253 => ?_) (fun c_253 => ?_)
                                            · exact ((costV_lc hI (k := k) (n := sn S) hbt) (by omega)).elim
                                            · exact seg_256  _  hS ls (lv_sub hl [0, 1, 2, 3, 4, 5, 6, 7, 8] rfl)
                                        refine lv_aload_n hx hb dL_areTunesSo_225 rfl (lv_at hl 7 rfl) ?_
                                        obtain ⟨hIa, hIb, ⟨Wa, hCa⟩, ⟨Wb, hCb⟩, hdd⟩ := id hPR
                                        refine g_goi (vx_runV (As := []) (rest := []) ⟨hx, hb, hml, hown, hts⟩ (x_hummed l G A TA S Wa H_50 hCa hIa ) (cwV 0 hts gL_areTunesSo_X4_hummed rfl rfl rfl hd_X4_hummed ⟨(Nat.le_of_ble_eq_true rfl), (Nat.le_of_ble_eq_true rfl)⟩) (g_preV hX hS (ci := 4) rfl hCa.1) rfl rfl hl.1 rfl (lv_room (Nat.le_of_ble_eq_true rfl)) dL_areTunesSo_226 (⟨by show _ ≤ 2000; omega, by show _ ≤ 20000; omega⟩)) hS (fun r_226 H_226 locs hp hS => ?_)
                                        obtain ⟨rfl, rfl⟩ := hp
                                        refine gz_if_gt (tgt := 237) hx hb ⟨by omega, by omega⟩ dL_areTunesSo_229 (by decide) (fun c_229 => ?_) (fun c_229 => ?_)
                                        · exact seg_237  _  hS ls (lv_sub hl [0, 1, 2, 3, 4, 5, 6, 7, 8] rfl)
                                        · refine lv_iload hx hb dL_areTunesSo_232 (lv_at hl 4 rfl) ?_
                                          refine gz_if_ge (tgt := 287) hx hb ⟨by omega, by omega⟩ dL_areTunesSo_234 (by decide) (fun c_234 => ?_) (fun c_234 => ?_)
                                          · have hc0 := costV_h0 (S := S) k (by omega)
                                            omega
                                          · exact seg_237  _  hS ls (lv_sub hl [0, 1, 2, 3, 4, 5, 6, 7, 8] rfl)
                                      refine lv_iload hx hb dL_areTunesSo_211 (lv_at hl 5 rfl) ?_
                                      refine lv_iconst (v := zI (-1)) hx hb dL_areTunesSo_213 rfl ?_
                                      refine gz_icmp_ne (tgt := 225) hx hb ⟨by omega, by omega⟩ (by decide) dL_areTunesSo_214 (by decide) (fun c_214 => ?_) (fun c_214 => ?_)
                                      · exact seg_225  _  hS ls (lv_sub hl [0, 1, 2, 4, 5, 6, 7, 8, 9] rfl)
                                      · refine lv_aload_n hx hb dL_areTunesSo_217 rfl (lv_at hl 8 rfl) ?_
                                        obtain ⟨hIa, hIb, ⟨Wa, hCa⟩, ⟨Wb, hCb⟩, hdd⟩ := id hPR
                                        refine g_goi (vx_runV (As := []) (rest := []) ⟨hx, hb, hml, hown, hts⟩ (x_hummed l G A TA S Wa H_50 hCa hIa ) (cwV 0 hts gL_areTunesSo_X4_hummed rfl rfl rfl hd_X4_hummed ⟨(Nat.le_of_ble_eq_true rfl), (Nat.le_of_ble_eq_true rfl)⟩) (g_preV hX hS (ci := 4) rfl hCa.1) rfl rfl hl.1 rfl (lv_room (Nat.le_of_ble_eq_true rfl)) dL_areTunesSo_218 (⟨by show _ ≤ 2000; omega, by show _ ≤ 20000; omega⟩)) hS (fun r_218 H_218 locs hp hS => ?_)
                                        obtain ⟨rfl, rfl⟩ := hp
                                        refine lv_iconst (v := zI 1) hx hb dL_areTunesSo_221 rfl ?_
                                        refine gz_icmp_eq (tgt := 287) hx hb ⟨by omega, by omega⟩ (by decide) dL_areTunesSo_222 (by decide) (fun c_222 => ?_) (fun c_222 => ?_)
                                        · exact ((costV_1 hI (k := k) (by omega) (by omega)) (by omega)).elim
                                        · exact seg_225  _  hS ls (lv_sub hl [0, 1, 2, 4, 5, 6, 7, 8, 9] rfl)
                  refine lv_iload hx hb dL_areTunesSo_100 (lv_at hl 5 rfl) ?_
                  refine lv_iconst (v := zI (-1)) hx hb dL_areTunesSo_102 rfl ?_
                  refine gz_icmp_ge (tgt := 113) hx hb ⟨by omega, by omega⟩ (by decide) dL_areTunesSo_103 (by decide) (fun c_103 => ?_) (fun c_103 => ?_)
                  · refine lv_iconst (v := zI 1) hx hb dL_areTunesSo_113 rfl ?_
                    refine lv_goto (tgt := 118) hx hb dL_areTunesSo_114 (by decide) ?_
                    refine lv_istore (lv' := [(5, .int (zI 1)), (2, .int (zI f2)), (3, .int (zI m2)), (4, .int (zI ((0 : Nat) : Int))), (6, .int (zI y)), (7, .int (zI (costV S k))), (8, .int (zI ((famL (slk S) (sn S) k : Nat) : Int))), (9, .int (zI ((sharedF S k q : Nat) : Int))), (0, .ref (A 0)), (1, .int (zI z))]) hx hb dL_areTunesSo_118 hl (by decide) rfl (fun ls hl => ?_)
                    exact seg_120  _  hS ls (lv_sub hl [1, 2, 3, 0, 4, 5, 6, 7, 8, 9] rfl)
                  · refine lv_iload hx hb dL_areTunesSo_106 (lv_at hl 5 rfl) ?_
                    refine lv_ldc (v := -99999) hx hb hown (hts (.constant RL 42 (-99999)) (List.mem_cons_of_mem _ (List.mem_append_left _ (List.mem_append_left _ (List.mem_append_left _ (List.mem_append_left _ (List.mem_append_left _ (List.mem_append_left _ (List.mem_append_left _ (List.mem_of_getElem? (i := 0) rfl)))))))))) dL_areTunesSo_108 ?_
                    rw [k_far]
                    refine gz_icmp_ne (tgt := 117) hx hb ⟨by omega, by omega⟩ ⟨by omega, by omega⟩ dL_areTunesSo_110 (by decide) (fun c_110 => ?_) (fun c_110 => ?_)
                    · omega
                    · refine lv_iconst (v := zI 1) hx hb dL_areTunesSo_113 rfl ?_
                      refine lv_goto (tgt := 118) hx hb dL_areTunesSo_114 (by decide) ?_
                      refine lv_istore (lv' := [(5, .int (zI 1)), (2, .int (zI f2)), (3, .int (zI m2)), (4, .int (zI ((0 : Nat) : Int))), (6, .int (zI y)), (7, .int (zI (costV S k))), (8, .int (zI ((famL (slk S) (sn S) k : Nat) : Int))), (9, .int (zI ((sharedF S k q : Nat) : Int))), (0, .ref (A 0)), (1, .int (zI z))]) hx hb dL_areTunesSo_118 hl (by decide) rfl (fun ls hl => ?_)
                      exact seg_120  _  hS ls (lv_sub hl [1, 2, 3, 0, 4, 5, 6, 7, 8, 9] rfl)
                refine lv_iload_n hx hb dL_areTunesSo_87 rfl (lv_at hl 1 rfl) ?_
                refine lv_iload hx hb dL_areTunesSo_88 (lv_at hl 5 rfl) ?_
                refine gz_if_lt (tgt := 97) hx hb ⟨by omega, by omega⟩ dL_areTunesSo_90 (by decide) (fun c_90 => ?_) (fun c_90 => ?_)
                · refine lv_iconst (v := zI 0) hx hb dL_areTunesSo_97 rfl ?_
                  refine gz_iadd hx hb dL_areTunesSo_98 ?_
                  refine lv_istore_n (lv' := [(3, .int (zI (mm + 0))), (2, .int (zI f2)), (4, .int (zI ((0 : Nat) : Int))), (5, .int (zI 1)), (6, .int (zI y)), (7, .int (zI (costV S k))), (8, .int (zI ((famL (slk S) (sn S) k : Nat) : Int))), (9, .int (zI ((sharedF S k q : Nat) : Int))), (0, .ref (A 0)), (1, .int (zI z))]) hx hb dL_areTunesSo_99 rfl hl (by decide) rfl (fun ls hl => ?_)
                  exact seg_100 (mm + 0) _ (by rw [mt_s hI]; split <;> omega) hS ls (lv_sub hl [1, 0, 2, 3, 4, 5, 6, 7, 8, 9] rfl)
                · refine lv_iconst (v := zI 1) hx hb dL_areTunesSo_93 rfl ?_
                  refine lv_goto (tgt := 98) hx hb dL_areTunesSo_94 (by decide) ?_
                  refine gz_iadd hx hb dL_areTunesSo_98 ?_
                  refine lv_istore_n (lv' := [(3, .int (zI (mm + 1))), (2, .int (zI f2)), (4, .int (zI ((0 : Nat) : Int))), (5, .int (zI 1)), (6, .int (zI y)), (7, .int (zI (costV S k))), (8, .int (zI ((famL (slk S) (sn S) k : Nat) : Int))), (9, .int (zI ((sharedF S k q : Nat) : Int))), (0, .ref (A 0)), (1, .int (zI z))]) hx hb dL_areTunesSo_99 rfl hl (by decide) rfl (fun ls hl => ?_)
                  exact seg_100 (mm + 1) _ (by rw [mt_s hI]; split <;> omega) hS ls (lv_sub hl [1, 0, 2, 3, 4, 5, 6, 7, 8, 9] rfl)
              refine lv_iload_n hx hb dL_areTunesSo_72 rfl (lv_at hl 5 rfl) ?_
              refine lv_iload hx hb dL_areTunesSo_73 (lv_at hl 1 rfl) ?_
              refine lv_iload hx hb dL_areTunesSo_75 (lv_at hl 3 rfl) ?_
              refine gz_icmp_ne (tgt := 84) hx hb ⟨by omega, by omega⟩ ⟨by omega, by omega⟩ dL_areTunesSo_77 (by decide) (fun c_77 => ?_) (fun c_77 => ?_)
              · refine lv_iconst (v := zI 0) hx hb dL_areTunesSo_84 rfl ?_
                refine gz_iadd hx hb dL_areTunesSo_85 ?_
                refine lv_istore_n (lv' := [(2, .int (zI (ff + 0))), (9, .int (zI ((sharedF S k q : Nat) : Int))), (8, .int (zI ((famL (slk S) (sn S) k : Nat) : Int))), (7, .int (zI (costV S k))), (6, .int (zI y)), (5, .int (zI 1)), (3, .int (zI mm)), (4, .int (zI ((0 : Nat) : Int))), (0, .ref (A 0)), (1, .int (zI z))]) hx hb dL_areTunesSo_86 rfl hl (by decide) rfl (fun ls hl => ?_)
                exact seg_87 (ff + 0) _ (by rw [famC_s]; split <;> omega) hS ls (lv_sub hl [0, 6, 7, 5, 4, 3, 2, 1, 8, 9] rfl)
              · refine lv_iconst (v := zI 1) hx hb dL_areTunesSo_80 rfl ?_
                refine lv_goto (tgt := 85) hx hb dL_areTunesSo_81 (by decide) ?_
                refine gz_iadd hx hb dL_areTunesSo_85 ?_
                refine lv_istore_n (lv' := [(2, .int (zI (ff + 1))), (9, .int (zI ((sharedF S k q : Nat) : Int))), (8, .int (zI ((famL (slk S) (sn S) k : Nat) : Int))), (7, .int (zI (costV S k))), (6, .int (zI y)), (5, .int (zI 1)), (3, .int (zI mm)), (4, .int (zI ((0 : Nat) : Int))), (0, .ref (A 0)), (1, .int (zI z))]) hx hb dL_areTunesSo_86 rfl hl (by decide) rfl (fun ls hl => ?_)
                exact seg_87 (ff + 1) _ (by rw [famC_s]; split <;> omega) hS ls (lv_sub hl [0, 6, 7, 5, 4, 3, 2, 1, 8, 9] rfl)
      refine W.widen (k := 90 * 0) (n := 900 * 0) (by omega) (by omega) ?_
      exact loop_33 _ 0 0 0 0 H _ (Nat.lt_succ_self _) rfl (Nat.zero_le _) rfl rfl hPR hS ls (lv_sub hl [0, 1, 4, 3, 2, 5, 6] rfl)
