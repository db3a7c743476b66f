/-! ===== one act of the law ===== -/
def aOdd (v : Int32) : Int := if lowN (v >>> ((zI 24) &&& 31)) 8 = 0 then 1 else 0
theorem aOdd_01 (v : Int32) : aOdd v = 0 ∨ aOdd v = 1 := by unfold aOdd; split <;> omega
def aTune (S : cS) (v : Int32) : Int := ((lowN (v >>> ((zI 4) &&& 31)) (if aOdd v = 1 then 20 else sn S + 1) : Nat) : Int)
def aPitch (v : Int32) : Int := if aOdd v = 1 then ((lowN (v >>> ((zI 7) &&& 31)) 66 : Nat) : Int) else if two (v >>> ((zI 15) &&& 31)) = 0 then ((lowN (v >>> ((zI 7) &&& 31)) 61 : Nat) : Int) else 20 + ((lowN (v >>> ((zI 7) &&& 31)) 9 : Nat) : Int)
def aLen (v : Int32) : Int := if aOdd v = 1 then ((lowN (v >>> ((zI 10) &&& 31)) 11 : Nat) : Int) else 1 + ((lowN (v >>> ((zI 10) &&& 31)) 8 : Nat) : Int)
theorem aTune_rng {S : cS} (h16 : sn S ≤ 16) (v : Int32) : 0 ≤ aTune S v ∧ aTune S v ≤ 20 := by
  unfold aTune
  split
  · have := lowN_lt (v >>> ((zI 4) &&& 31)) (n := 20) (by omega); omega
  · have := lowN_lt (v >>> ((zI 4) &&& 31)) (n := sn S + 1) (by omega); omega
theorem aPitch_rng (v : Int32) : 0 ≤ aPitch v ∧ aPitch v ≤ 70 := by
  unfold aPitch
  have h1 := lowN_lt (v >>> ((zI 7) &&& 31)) (n := 66) (by omega)
  have h2 := lowN_lt (v >>> ((zI 7) &&& 31)) (n := 61) (by omega)
  have h3 := lowN_lt (v >>> ((zI 7) &&& 31)) (n := 9) (by omega)
  split
  · omega
  · split <;> omega
theorem aLen_rng (v : Int32) : 0 ≤ aLen v ∧ aLen v ≤ 12 := by
  unfold aLen
  have h1 := lowN_lt (v >>> ((zI 10) &&& 31)) (n := 11) (by omega)
  have h2 := lowN_lt (v >>> ((zI 10) &&& 31)) (n := 8) (by omega)
  split <;> omega
noncomputable def actF (S : cS) (v : Int32) : Int × cS :=
  if lowN v 32 < 14 then (if lowN v 32 < 3 then addF S (aPitch v) (aLen v) else noteF S (aTune S v) (aPitch v) (aLen v))
  else if lowN v 32 < 17 then (if lowN v 32 = 14 then shiftF S (aTune S v) (if aOdd v = 1 then ((lowN (v >>> ((zI 6) &&& 31)) 140 : Nat) : Int) - 70 else ((lowN (v >>> ((zI 6) &&& 31)) 13 : Nat) : Int) - 6) else corrF S (aTune S v) ((lowN (v >>> ((zI 11) &&& 31)) (if aOdd v = 1 then 30 else 9) : Nat) : Int) (aPitch v) (aLen v))
  else if lowN v 32 < 24 then humF S (aPitch v)
  else if lowN v 32 < 26 then (if two (v >>> ((zI 9) &&& 31)) = 0 then hushF S else humF S (20 + ((lowN (v >>> ((zI 8) &&& 31)) 5 : Nat) : Int)))
  else if lowN v 32 < 28 then costsF S ((lowN (v >>> ((zI 3) &&& 31)) (if aOdd v = 1 then 23 else 21) : Nat) : Int) ((lowN (v >>> ((zI 6) &&& 31)) 21 : Nat) : Int) ((lowN (v >>> ((zI 9) &&& 31)) 21 : Nat) : Int)
  else if lowN v 32 = 28 ∧ two (v >>> ((zI 12) &&& 31)) = 0 then retireF S (aTune S v)
  else if lowN v 32 < 31 then linkF S (aTune S v) ((lowN (v >>> ((zI 8) &&& 31)) (if aOdd v = 1 then 20 else sn S + 1) : Nat) : Int)
  else cutF S (aTune S v) ((lowN (v >>> ((zI 8) &&& 31)) (if aOdd v = 1 then 20 else sn S + 1) : Nat) : Int)
theorem actF_ok {S : cS} (hI : sInv S) (v : Int32) : okR S (actF S v) := by
  unfold actF
  split
  · split
    · exact addF_ok hI _ _
    · exact noteF_ok hI _ _ _
  · split
    · split
      · exact shiftF_ok hI _ _
      · exact corrF_ok hI _ _ _ _
    · split
      · exact humF_ok hI _
      · split
        · split
          · exact hushF_ok hI
          · exact humF_ok hI _
        · split
          · exact costsF_ok hI _ _ _
          · split
            · exact retireF_ok hI _
            · split
              · exact linkF_ok hI _ _
              · exact cutF_ok hI _ _
set_option maxHeartbeats 4000000 in
set_option maxRecDepth 100000 in
theorem k_act (l : Launch) (G : gG) (hlf : l.stackTraces = false) (A : Nat → Nat) (TA : Nat → Nat → Nat) (S : cS) (W9 : cWk) (H : Heap) (hC : Cat G A TA S W9 H) (hI : sInv S) (v : Int32) : gM l yL_act wsL_act rm_L_act [.ref (A 0), .int v] G H (gi (fun r H1 => zI (actF S v).1 = r ∧ DX G A TA S (actF S v).2 H H1)) (gNo) 12 900 := by
  refine g_start (cc := cL_act) (maxL := 7) (ret := (some .int)) (by decide +kernel) rfl (Nat.le_of_ble_eq_true rfl) ?_
  intro p e s m args below meth c F ls hl
  obtain ⟨hx, hb, hml, hr, hts, hown, hlocks, hxt, hH, hX, hin⟩ := F
  have hown : s.vm.findClass RL = some m.cls := hown
  have hS : va_S (gA G) s.heap H [] := by rw [hH]; exact va_S.rf
  have hl : lv_has ls 7 [(0, .ref (A 0)), (1, .int v)] := hl
  have hao := aOdd_01 v
  have hh32 := lowN_lt v (n := 32) (by omega)
  have r1 := aTune_rng hI.1 v
  have r2 := aPitch_rng v
  have r3 := aLen_rng v
  have h16 := hI.1
  have seg128 : ∀ (od : Int) (h_od : od = aOdd v) (tn : Int) (h_tn : tn = aTune S v) (pt : Int) (h_pt : pt = aPitch v) (ln : Int) (h_ln : ln = aLen v) (locs : List Loc), va_S (gA G) s.heap H locs → ∀ (ls : Array Slot), lv_has ls 7 [(6, .int (zI ln)), (5, .int (zI pt)), (4, .int (zI tn)), (3, .int (zI ((lowN v 32 : Nat) : Int))), (2, .int (zI od)), (0, .ref (A 0)), (1, .int v)] → W p l e rm_L_act s m args below meth c H locs (0) (0) (vx_MQ below (gQ G (gi (fun r H1 => zI (actF S v).1 = r ∧ DX G A TA S (actF S v).2 H H1))) (gXC G (gNo)) args s 12 900 (gA G)) (F0 m 128 ls []) := by
    intro od h_od tn h_tn pt h_pt ln h_ln locs hS ls hl
    subst h_od h_tn h_pt h_ln
    refine lv_iload_n hx hb dL_act_128 rfl (lv_at hl 3 rfl) ?_
    refine lv_bipush (v := zI 14) hx hb dL_act_129 (by decide +kernel) ?_
    refine gz_icmp_ge (tgt := 164) hx hb ⟨by omega, by omega⟩ (by decide) dL_act_131 (by decide) (fun c_131 => ?_) (fun c_131 => ?_)
    · refine lv_iload_n hx hb dL_act_164 rfl (lv_at hl 3 rfl) ?_
      refine lv_bipush (v := zI 17) hx hb dL_act_165 (by decide +kernel) ?_
      refine gz_icmp_ge (tgt := 249) hx hb ⟨by omega, by omega⟩ (by decide) dL_act_167 (by decide) (fun c_167 => ?_) (fun c_167 => ?_)
      · refine lv_iload_n hx hb dL_act_249 rfl (lv_at hl 3 rfl) ?_
        refine lv_bipush (v := zI 24) hx hb dL_act_250 (by decide +kernel) ?_
        refine gz_icmp_ge (tgt := 265) hx hb ⟨by omega, by omega⟩ (by decide) dL_act_252 (by decide) (fun c_252 => ?_) (fun c_252 => ?_)
        · refine lv_iload_n hx hb dL_act_265 rfl (lv_at hl 3 rfl) ?_
          refine lv_bipush (v := zI 26) hx hb dL_act_266 (by decide +kernel) ?_
          refine gz_icmp_ge (tgt := 306) hx hb ⟨by omega, by omega⟩ (by decide) dL_act_268 (by decide) (fun c_268 => ?_) (fun c_268 => ?_)
          · refine lv_iload_n hx hb dL_act_306 rfl (lv_at hl 3 rfl) ?_
            refine lv_bipush (v := zI 28) hx hb dL_act_307 (by decide +kernel) ?_
            refine gz_icmp_ge (tgt := 354) hx hb ⟨by omega, by omega⟩ (by decide) dL_act_309 (by decide) (fun c_309 => ?_) (fun c_309 => ?_)
            · refine lv_iload_n hx hb dL_act_354 rfl (lv_at hl 3 rfl) ?_
              refine lv_bipush (v := zI 28) hx hb dL_act_355 (by decide +kernel) ?_
              refine gz_icmp_ne (tgt := 379) hx hb ⟨by omega, by omega⟩ (by decide) dL_act_357 (by decide) (fun c_357 => ?_) (fun c_357 => ?_)
              · refine lv_aload_n hx hb dL_act_379 rfl (lv_at hl 5 rfl) ?_
                refine lv_iload_n hx hb dL_act_380 rfl (lv_at hl 3 rfl) ?_
                refine lv_bipush (v := zI 31) hx hb dL_act_381 (by decide +kernel) ?_
                refine gz_icmp_ge (tgt := 390) hx hb ⟨by omega, by omega⟩ (by decide) dL_act_383 (by decide) (fun c_383 => ?_) (fun c_383 => ?_)
                · refine lv_bipush (v := zI 6) hx hb dL_act_390 (by decide +kernel) ?_
                  refine lv_iload hx hb dL_act_392 (lv_at hl 2 rfl) ?_
                  refine lv_iload_n hx hb dL_act_394 rfl (lv_at hl 6 rfl) ?_
                  refine lv_bipush (v := zI 8) hx hb dL_act_395 (by decide +kernel) ?_
                  refine lv_ishr hx hb dL_act_397 ?_
                  refine lv_iload_n hx hb dL_act_398 rfl (lv_at hl 4 rfl) ?_
                  refine gz_if_eq (tgt := 407) hx hb ⟨by omega, by omega⟩ dL_act_399 (by decide) (fun c_399 => ?_) (fun c_399 => ?_)
                  · refine lv_aload_n hx hb dL_act_407 rfl (lv_at hl 5 rfl) ?_
                    refine g_goi (vx_runV (As := []) (rest := [.int (v >>> ((zI 8) &&& 31)), .int (zI (aTune S v)), .int (zI 6), .ref (A 0)]) ⟨hx, hb, hml, hown, hts⟩ (x_tunes l G A TA S W9 H hC hI) (cwV 0 hts gL_act_X4_tunes rfl rfl rfl hd_X4_tunes ⟨(Nat.le_of_ble_eq_true rfl), (Nat.le_of_ble_eq_true rfl)⟩) (g_preV hX hS (ci := 4) rfl hC.1) rfl rfl hl.1 rfl (lv_room (Nat.le_of_ble_eq_true rfl)) dL_act_408 ⟨(Nat.le_of_ble_eq_true rfl), (Nat.le_of_ble_eq_true rfl)⟩) hS (fun r_408 H_408 locs hp hS => ?_)
                    obtain ⟨rfl, rfl⟩ := hp
                    refine lv_iconst (v := zI 1) hx hb dL_act_411 rfl ?_
                    refine gz_iadd hx hb dL_act_412 ?_
                    refine g_goi (vx_runS (As := [.int (v >>> ((zI 8) &&& 31)), .int (zI ((sn S : Int) + 1))]) (rest := [.int (zI (aTune S v)), .int (zI 6), .ref (A 0)]) ⟨hx, hb, hml, hown, hts⟩ (k_low l G H (v >>> ((zI 8) &&& 31)) ((sn S : Int) + 1) (sn S + 1) (by omega) (by omega) (by omega)) (va_cwS 2 hts gL_act_L_low rfl rfl rfl hd_L_low.2 ⟨(Nat.le_of_ble_eq_true rfl), (Nat.le_of_ble_eq_true rfl)⟩) (g_pre hX hS) rfl rfl hl.1 rfl (lv_room (Nat.le_of_ble_eq_true rfl)) dL_act_413 ⟨(Nat.le_of_ble_eq_true rfl), (Nat.le_of_ble_eq_true rfl)⟩) hS (fun r_413 H_413 locs hp hS => ?_)
                    obtain ⟨rfl, rfl⟩ := hp
                    have hlt_413 := lowN_lt (v >>> ((zI 8) &&& 31)) (n := (sn S + 1)) (by omega)
                    refine lv_iconst (v := zI 0) hx hb dL_act_416 rfl ?_
                    refine g_goi (vx_runSX (As := [.ref (A 0), .int (zI 6), .int (zI (aTune S v)), .int (zI ((lowN (v >>> ((zI 8) &&& 31)) (sn S + 1) : Nat) : Int)), .int (zI 0)]) (rest := []) ⟨hx, hb, hml, hown, hts⟩ (k_cut l G hlf A TA S W9 H hC hI (aTune S v) ((lowN (v >>> ((zI 8) &&& 31)) (sn S + 1) : Nat) : Int) 0 ⟨by omega, by omega⟩ ⟨by omega, by omega⟩) (vx_cwSW 5 hts gL_act_L_does rfl rfl rfl hd_L_does.2 ⟨(Nat.le_of_ble_eq_true rfl), (Nat.le_of_ble_eq_true rfl)⟩) (g_pre hX hS) rfl rfl hl.1 rfl (lv_room (Nat.le_of_ble_eq_true rfl)) dL_act_417 ⟨(Nat.le_of_ble_eq_true rfl), (Nat.le_of_ble_eq_true rfl)⟩) hS (fun r_417 H_417 locs hp hS => ?_)
                    obtain ⟨rfl, hDX⟩ := hp
                    have ea : actF S v = cutF S (aTune S v) ((lowN (v >>> ((zI 8) &&& 31)) (sn S + 1) : Nat) : Int) := by
                      unfold actF
                      rw [if_neg (by omega), if_neg (by omega), if_neg (by omega), if_neg (by omega), if_neg (by omega), if_neg (fun h => by omega), if_neg (by omega), if_neg (by omega)]
                    exact g_reti hx hb hr hlocks hS rfl ((by rw [ea]; exact ⟨rfl, hDX⟩)) (Nat.le_of_ble_eq_true rfl) (Nat.le_of_ble_eq_true rfl) dL_act_420
                  · refine lv_bipush (v := zI 20) hx hb dL_act_402 (by decide +kernel) ?_
                    refine lv_goto (tgt := 413) hx hb dL_act_404 (by decide) ?_
                    refine g_goi (vx_runS (As := [.int (v >>> ((zI 8) &&& 31)), .int (zI 20)]) (rest := [.int (zI (aTune S v)), .int (zI 6), .ref (A 0)]) ⟨hx, hb, hml, hown, hts⟩ (k_low l G H (v >>> ((zI 8) &&& 31)) 20 20 (by omega) (by omega) (by omega)) (va_cwS 2 hts gL_act_L_low rfl rfl rfl hd_L_low.2 ⟨(Nat.le_of_ble_eq_true rfl), (Nat.le_of_ble_eq_true rfl)⟩) (g_pre hX hS) rfl rfl hl.1 rfl (lv_room (Nat.le_of_ble_eq_true rfl)) dL_act_413 ⟨(Nat.le_of_ble_eq_true rfl), (Nat.le_of_ble_eq_true rfl)⟩) hS (fun r_413 H_413 locs hp hS => ?_)
                    obtain ⟨rfl, rfl⟩ := hp
                    have hlt_413 := lowN_lt (v >>> ((zI 8) &&& 31)) (n := 20) (by omega)
                    refine lv_iconst (v := zI 0) hx hb dL_act_416 rfl ?_
                    refine g_goi (vx_runSX (As := [.ref (A 0), .int (zI 6), .int (zI (aTune S v)), .int (zI ((lowN (v >>> ((zI 8) &&& 31)) 20 : Nat) : Int)), .int (zI 0)]) (rest := []) ⟨hx, hb, hml, hown, hts⟩ (k_cut l G hlf A TA S W9 H hC hI (aTune S v) ((lowN (v >>> ((zI 8) &&& 31)) 20 : Nat) : Int) 0 ⟨by omega, by omega⟩ ⟨by omega, by omega⟩) (vx_cwSW 5 hts gL_act_L_does rfl rfl rfl hd_L_does.2 ⟨(Nat.le_of_ble_eq_true rfl), (Nat.le_of_ble_eq_true rfl)⟩) (g_pre hX hS) rfl rfl hl.1 rfl (lv_room (Nat.le_of_ble_eq_true rfl)) dL_act_417 ⟨(Nat.le_of_ble_eq_true rfl), (Nat.le_of_ble_eq_true rfl)⟩) hS (fun r_417 H_417 locs hp hS => ?_)
                    obtain ⟨rfl, hDX⟩ := hp
                    have ea : actF S v = cutF S (aTune S v) ((lowN (v >>> ((zI 8) &&& 31)) 20 : Nat) : Int) := by
                      unfold actF
                      rw [if_neg (by omega), if_neg (by omega), if_neg (by omega), if_neg (by omega), if_neg (by omega), if_neg (fun h => by omega), if_neg (by omega), if_pos (by omega)]
                    exact g_reti hx hb hr hlocks hS rfl ((by rw [ea]; exact ⟨rfl, hDX⟩)) (Nat.le_of_ble_eq_true rfl) (Nat.le_of_ble_eq_true rfl) dL_act_420
                · refine lv_iconst (v := zI 5) hx hb dL_act_386 rfl ?_
                  refine lv_goto (tgt := 392) hx hb dL_act_387 (by decide) ?_
                  refine lv_iload hx hb dL_act_392 (lv_at hl 2 rfl) ?_
                  refine lv_iload_n hx hb dL_act_394 rfl (lv_at hl 6 rfl) ?_
                  refine lv_bipush (v := zI 8) hx hb dL_act_395 (by decide +kernel) ?_
                  refine lv_ishr hx hb dL_act_397 ?_
                  refine lv_iload_n hx hb dL_act_398 rfl (lv_at hl 4 rfl) ?_
                  refine gz_if_eq (tgt := 407) hx hb ⟨by omega, by omega⟩ dL_act_399 (by decide) (fun c_399 => ?_) (fun c_399 => ?_)
                  · refine lv_aload_n hx hb dL_act_407 rfl (lv_at hl 5 rfl) ?_
                    refine g_goi (vx_runV (As := []) (rest := [.int (v >>> ((zI 8) &&& 31)), .int (zI (aTune S v)), .int (zI 5), .ref (A 0)]) ⟨hx, hb, hml, hown, hts⟩ (x_tunes l G A TA S W9 H hC hI) (cwV 0 hts gL_act_X4_tunes rfl rfl rfl hd_X4_tunes ⟨(Nat.le_of_ble_eq_true rfl), (Nat.le_of_ble_eq_true rfl)⟩) (g_preV hX hS (ci := 4) rfl hC.1) rfl rfl hl.1 rfl (lv_room (Nat.le_of_ble_eq_true rfl)) dL_act_408 ⟨(Nat.le_of_ble_eq_true rfl), (Nat.le_of_ble_eq_true rfl)⟩) hS (fun r_408 H_408 locs hp hS => ?_)
                    obtain ⟨rfl, rfl⟩ := hp
                    refine lv_iconst (v := zI 1) hx hb dL_act_411 rfl ?_
                    refine gz_iadd hx hb dL_act_412 ?_
                    refine g_goi (vx_runS (As := [.int (v >>> ((zI 8) &&& 31)), .int (zI ((sn S : Int) + 1))]) (rest := [.int (zI (aTune S v)), .int (zI 5), .ref (A 0)]) ⟨hx, hb, hml, hown, hts⟩ (k_low l G H (v >>> ((zI 8) &&& 31)) ((sn S : Int) + 1) (sn S + 1) (by omega) (by omega) (by omega)) (va_cwS 2 hts gL_act_L_low rfl rfl rfl hd_L_low.2 ⟨(Nat.le_of_ble_eq_true rfl), (Nat.le_of_ble_eq_true rfl)⟩) (g_pre hX hS) rfl rfl hl.1 rfl (lv_room (Nat.le_of_ble_eq_true rfl)) dL_act_413 ⟨(Nat.le_of_ble_eq_true rfl), (Nat.le_of_ble_eq_true rfl)⟩) hS (fun r_413 H_413 locs hp hS => ?_)
                    obtain ⟨rfl, rfl⟩ := hp
                    have hlt_413 := lowN_lt (v >>> ((zI 8) &&& 31)) (n := (sn S + 1)) (by omega)
                    refine lv_iconst (v := zI 0) hx hb dL_act_416 rfl ?_
                    refine g_goi (vx_runSX (As := [.ref (A 0), .int (zI 5), .int (zI (aTune S v)), .int (zI ((lowN (v >>> ((zI 8) &&& 31)) (sn S + 1) : Nat) : Int)), .int (zI 0)]) (rest := []) ⟨hx, hb, hml, hown, hts⟩ (k_link l G hlf A TA S W9 H hC hI (aTune S v) ((lowN (v >>> ((zI 8) &&& 31)) (sn S + 1) : Nat) : Int) 0 ⟨by omega, by omega⟩ ⟨by omega, by omega⟩) (vx_cwSW 5 hts gL_act_L_does rfl rfl rfl hd_L_does.2 ⟨(Nat.le_of_ble_eq_true rfl), (Nat.le_of_ble_eq_true rfl)⟩) (g_pre hX hS) rfl rfl hl.1 rfl (lv_room (Nat.le_of_ble_eq_true rfl)) dL_act_417 ⟨(Nat.le_of_ble_eq_true rfl), (Nat.le_of_ble_eq_true rfl)⟩) hS (fun r_417 H_417 locs hp hS => ?_)
                    obtain ⟨rfl, hDX⟩ := hp
                    have ea : actF S v = linkF S (aTune S v) ((lowN (v >>> ((zI 8) &&& 31)) (sn S + 1) : Nat) : Int) := by
                      unfold actF
                      rw [if_neg (by omega), if_neg (by omega), if_neg (by omega), if_neg (by omega), if_neg (by omega), if_neg (fun h => by omega), if_pos (by omega), if_neg (by omega)]
                    exact g_reti hx hb hr hlocks hS rfl ((by rw [ea]; exact ⟨rfl, hDX⟩)) (Nat.le_of_ble_eq_true rfl) (Nat.le_of_ble_eq_true rfl) dL_act_420
                  · refine lv_bipush (v := zI 20) hx hb dL_act_402 (by decide +kernel) ?_
                    refine lv_goto (tgt := 413) hx hb dL_act_404 (by decide) ?_
                    refine g_goi (vx_runS (As := [.int (v >>> ((zI 8) &&& 31)), .int (zI 20)]) (rest := [.int (zI (aTune S v)), .int (zI 5), .ref (A 0)]) ⟨hx, hb, hml, hown, hts⟩ (k_low l G H (v >>> ((zI 8) &&& 31)) 20 20 (by omega) (by omega) (by omega)) (va_cwS 2 hts gL_act_L_low rfl rfl rfl hd_L_low.2 ⟨(Nat.le_of_ble_eq_true rfl), (Nat.le_of_ble_eq_true rfl)⟩) (g_pre hX hS) rfl rfl hl.1 rfl (lv_room (Nat.le_of_ble_eq_true rfl)) dL_act_413 ⟨(Nat.le_of_ble_eq_true rfl), (Nat.le_of_ble_eq_true rfl)⟩) hS (fun r_413 H_413 locs hp hS => ?_)
                    obtain ⟨rfl, rfl⟩ := hp
                    have hlt_413 := lowN_lt (v >>> ((zI 8) &&& 31)) (n := 20) (by omega)
                    refine lv_iconst (v := zI 0) hx hb dL_act_416 rfl ?_
                    refine g_goi (vx_runSX (As := [.ref (A 0), .int (zI 5), .int (zI (aTune S v)), .int (zI ((lowN (v >>> ((zI 8) &&& 31)) 20 : Nat) : Int)), .int (zI 0)]) (rest := []) ⟨hx, hb, hml, hown, hts⟩ (k_link l G hlf A TA S W9 H hC hI (aTune S v) ((lowN (v >>> ((zI 8) &&& 31)) 20 : Nat) : Int) 0 ⟨by omega, by omega⟩ ⟨by omega, by omega⟩) (vx_cwSW 5 hts gL_act_L_does rfl rfl rfl hd_L_does.2 ⟨(Nat.le_of_ble_eq_true rfl), (Nat.le_of_ble_eq_true rfl)⟩) (g_pre hX hS) rfl rfl hl.1 rfl (lv_room (Nat.le_of_ble_eq_true rfl)) dL_act_417 ⟨(Nat.le_of_ble_eq_true rfl), (Nat.le_of_ble_eq_true rfl)⟩) hS (fun r_417 H_417 locs hp hS => ?_)
                    obtain ⟨rfl, hDX⟩ := hp
                    have ea : actF S v = linkF S (aTune S v) ((lowN (v >>> ((zI 8) &&& 31)) 20 : Nat) : Int) := by
                      unfold actF
                      rw [if_neg (by omega), if_neg (by omega), if_neg (by omega), if_neg (by omega), if_neg (by omega), if_neg (fun h => by omega), if_pos (by omega), if_pos (by omega)]
                    exact g_reti hx hb hr hlocks hS rfl ((by rw [ea]; exact ⟨rfl, hDX⟩)) (Nat.le_of_ble_eq_true rfl) (Nat.le_of_ble_eq_true rfl) dL_act_420
              · refine lv_iload_n hx hb dL_act_360 rfl (lv_at hl 6 rfl) ?_
                refine lv_bipush (v := zI 12) hx hb dL_act_361 (by decide +kernel) ?_
                refine lv_ishr hx hb dL_act_363 ?_
                refine lv_iconst (v := zI 3) hx hb dL_act_364 rfl ?_
                refine lv_iand hx hb dL_act_365 ?_
                rw [and2]
                have htw_366 := two_lt (v >>> ((zI 12) &&& 31))
                refine gz_if_ne (tgt := 379) hx hb ⟨by omega, by omega⟩ dL_act_366 (by decide) (fun c_366 => ?_) (fun c_366 => ?_)
                · refine lv_aload_n hx hb dL_act_379 rfl (lv_at hl 5 rfl) ?_
                  refine lv_iload_n hx hb dL_act_380 rfl (lv_at hl 3 rfl) ?_
                  refine lv_bipush (v := zI 31) hx hb dL_act_381 (by decide +kernel) ?_
                  refine gz_icmp_ge (tgt := 390) hx hb ⟨by omega, by omega⟩ (by decide) dL_act_383 (by decide) (fun c_383 => ?_) (fun c_383 => ?_)
                  · refine lv_bipush (v := zI 6) hx hb dL_act_390 (by decide +kernel) ?_
                    refine lv_iload hx hb dL_act_392 (lv_at hl 2 rfl) ?_
                    refine lv_iload_n hx hb dL_act_394 rfl (lv_at hl 6 rfl) ?_
                    refine lv_bipush (v := zI 8) hx hb dL_act_395 (by decide +kernel) ?_
                    refine lv_ishr hx hb dL_act_397 ?_
                    refine lv_iload_n hx hb dL_act_398 rfl (lv_at hl 4 rfl) ?_
                    refine gz_if_eq (tgt := 407) hx hb ⟨by omega, by omega⟩ dL_act_399 (by decide) (fun c_399 => ?_) (fun c_399 => ?_)
                    · refine lv_aload_n hx hb dL_act_407 rfl (lv_at hl 5 rfl) ?_
                      refine g_goi (vx_runV (As := []) (rest := [.int (v >>> ((zI 8) &&& 31)), .int (zI (aTune S v)), .int (zI 6), .ref (A 0)]) ⟨hx, hb, hml, hown, hts⟩ (x_tunes l G A TA S W9 H hC hI) (cwV 0 hts gL_act_X4_tunes rfl rfl rfl hd_X4_tunes ⟨(Nat.le_of_ble_eq_true rfl), (Nat.le_of_ble_eq_true rfl)⟩) (g_preV hX hS (ci := 4) rfl hC.1) rfl rfl hl.1 rfl (lv_room (Nat.le_of_ble_eq_true rfl)) dL_act_408 ⟨(Nat.le_of_ble_eq_true rfl), (Nat.le_of_ble_eq_true rfl)⟩) hS (fun r_408 H_408 locs hp hS => ?_)
                      obtain ⟨rfl, rfl⟩ := hp
                      refine lv_iconst (v := zI 1) hx hb dL_act_411 rfl ?_
                      refine gz_iadd hx hb dL_act_412 ?_
                      refine g_goi (vx_runS (As := [.int (v >>> ((zI 8) &&& 31)), .int (zI ((sn S : Int) + 1))]) (rest := [.int (zI (aTune S v)), .int (zI 6), .ref (A 0)]) ⟨hx, hb, hml, hown, hts⟩ (k_low l G H (v >>> ((zI 8) &&& 31)) ((sn S : Int) + 1) (sn S + 1) (by omega) (by omega) (by omega)) (va_cwS 2 hts gL_act_L_low rfl rfl rfl hd_L_low.2 ⟨(Nat.le_of_ble_eq_true rfl), (Nat.le_of_ble_eq_true rfl)⟩) (g_pre hX hS) rfl rfl hl.1 rfl (lv_room (Nat.le_of_ble_eq_true rfl)) dL_act_413 ⟨(Nat.le_of_ble_eq_true rfl), (Nat.le_of_ble_eq_true rfl)⟩) hS (fun r_413 H_413 locs hp hS => ?_)
                      obtain ⟨rfl, rfl⟩ := hp
                      have hlt_413 := lowN_lt (v >>> ((zI 8) &&& 31)) (n := (sn S + 1)) (by omega)
                      refine lv_iconst (v := zI 0) hx hb dL_act_416 rfl ?_
                      refine g_goi (vx_runSX (As := [.ref (A 0), .int (zI 6), .int (zI (aTune S v)), .int (zI ((lowN (v >>> ((zI 8) &&& 31)) (sn S + 1) : Nat) : Int)), .int (zI 0)]) (rest := []) ⟨hx, hb, hml, hown, hts⟩ (k_cut l G hlf A TA S W9 H hC hI (aTune S v) ((lowN (v >>> ((zI 8) &&& 31)) (sn S + 1) : Nat) : Int) 0 ⟨by omega, by omega⟩ ⟨by omega, by omega⟩) (vx_cwSW 5 hts gL_act_L_does rfl rfl rfl hd_L_does.2 ⟨(Nat.le_of_ble_eq_true rfl), (Nat.le_of_ble_eq_true rfl)⟩) (g_pre hX hS) rfl rfl hl.1 rfl (lv_room (Nat.le_of_ble_eq_true rfl)) dL_act_417 ⟨(Nat.le_of_ble_eq_true rfl), (Nat.le_of_ble_eq_true rfl)⟩) hS (fun r_417 H_417 locs hp hS => ?_)
                      obtain ⟨rfl, hDX⟩ := hp
                      have ea : actF S v = cutF S (aTune S v) ((lowN (v >>> ((zI 8) &&& 31)) (sn S + 1) : Nat) : Int) := by
                        unfold actF
                        rw [if_neg (by omega), if_neg (by omega), if_neg (by omega), if_neg (by omega), if_neg (by omega), if_neg (fun h => by omega), if_neg (by omega), if_neg (by omega)]
                      exact g_reti hx hb hr hlocks hS rfl ((by rw [ea]; exact ⟨rfl, hDX⟩)) (Nat.le_of_ble_eq_true rfl) (Nat.le_of_ble_eq_true rfl) dL_act_420
                    · refine lv_bipush (v := zI 20) hx hb dL_act_402 (by decide +kernel) ?_
                      refine lv_goto (tgt := 413) hx hb dL_act_404 (by decide) ?_
                      refine g_goi (vx_runS (As := [.int (v >>> ((zI 8) &&& 31)), .int (zI 20)]) (rest := [.int (zI (aTune S v)), .int (zI 6), .ref (A 0)]) ⟨hx, hb, hml, hown, hts⟩ (k_low l G H (v >>> ((zI 8) &&& 31)) 20 20 (by omega) (by omega) (by omega)) (va_cwS 2 hts gL_act_L_low rfl rfl rfl hd_L_low.2 ⟨(Nat.le_of_ble_eq_true rfl), (Nat.le_of_ble_eq_true rfl)⟩) (g_pre hX hS) rfl rfl hl.1 rfl (lv_room (Nat.le_of_ble_eq_true rfl)) dL_act_413 ⟨(Nat.le_of_ble_eq_true rfl), (Nat.le_of_ble_eq_true rfl)⟩) hS (fun r_413 H_413 locs hp hS => ?_)
                      obtain ⟨rfl, rfl⟩ := hp
                      have hlt_413 := lowN_lt (v >>> ((zI 8) &&& 31)) (n := 20) (by omega)
                      refine lv_iconst (v := zI 0) hx hb dL_act_416 rfl ?_
                      refine g_goi (vx_runSX (As := [.ref (A 0), .int (zI 6), .int (zI (aTune S v)), .int (zI ((lowN (v >>> ((zI 8) &&& 31)) 20 : Nat) : Int)), .int (zI 0)]) (rest := []) ⟨hx, hb, hml, hown, hts⟩ (k_cut l G hlf A TA S W9 H hC hI (aTune S v) ((lowN (v >>> ((zI 8) &&& 31)) 20 : Nat) : Int) 0 ⟨by omega, by omega⟩ ⟨by omega, by omega⟩) (vx_cwSW 5 hts gL_act_L_does rfl rfl rfl hd_L_does.2 ⟨(Nat.le_of_ble_eq_true rfl), (Nat.le_of_ble_eq_true rfl)⟩) (g_pre hX hS) rfl rfl hl.1 rfl (lv_room (Nat.le_of_ble_eq_true rfl)) dL_act_417 ⟨(Nat.le_of_ble_eq_true rfl), (Nat.le_of_ble_eq_true rfl)⟩) hS (fun r_417 H_417 locs hp hS => ?_)
                      obtain ⟨rfl, hDX⟩ := hp
                      have ea : actF S v = cutF S (aTune S v) ((lowN (v >>> ((zI 8) &&& 31)) 20 : Nat) : Int) := by
                        unfold actF
                        rw [if_neg (by omega), if_neg (by omega), if_neg (by omega), if_neg (by omega), if_neg (by omega), if_neg (fun h => by omega), if_neg (by omega), if_pos (by omega)]
                      exact g_reti hx hb hr hlocks hS rfl ((by rw [ea]; exact ⟨rfl, hDX⟩)) (Nat.le_of_ble_eq_true rfl) (Nat.le_of_ble_eq_true rfl) dL_act_420
                  · refine lv_iconst (v := zI 5) hx hb dL_act_386 rfl ?_
                    refine lv_goto (tgt := 392) hx hb dL_act_387 (by decide) ?_
                    refine lv_iload hx hb dL_act_392 (lv_at hl 2 rfl) ?_
                    refine lv_iload_n hx hb dL_act_394 rfl (lv_at hl 6 rfl) ?_
                    refine lv_bipush (v := zI 8) hx hb dL_act_395 (by decide +kernel) ?_
                    refine lv_ishr hx hb dL_act_397 ?_
                    refine lv_iload_n hx hb dL_act_398 rfl (lv_at hl 4 rfl) ?_
                    refine gz_if_eq (tgt := 407) hx hb ⟨by omega, by omega⟩ dL_act_399 (by decide) (fun c_399 => ?_) (fun c_399 => ?_)
                    · refine lv_aload_n hx hb dL_act_407 rfl (lv_at hl 5 rfl) ?_
                      refine g_goi (vx_runV (As := []) (rest := [.int (v >>> ((zI 8) &&& 31)), .int (zI (aTune S v)), .int (zI 5), .ref (A 0)]) ⟨hx, hb, hml, hown, hts⟩ (x_tunes l G A TA S W9 H hC hI) (cwV 0 hts gL_act_X4_tunes rfl rfl rfl hd_X4_tunes ⟨(Nat.le_of_ble_eq_true rfl), (Nat.le_of_ble_eq_true rfl)⟩) (g_preV hX hS (ci := 4) rfl hC.1) rfl rfl hl.1 rfl (lv_room (Nat.le_of_ble_eq_true rfl)) dL_act_408 ⟨(Nat.le_of_ble_eq_true rfl), (Nat.le_of_ble_eq_true rfl)⟩) hS (fun r_408 H_408 locs hp hS => ?_)
                      obtain ⟨rfl, rfl⟩ := hp
                      refine lv_iconst (v := zI 1) hx hb dL_act_411 rfl ?_
                      refine gz_iadd hx hb dL_act_412 ?_
                      refine g_goi (vx_runS (As := [.int (v >>> ((zI 8) &&& 31)), .int (zI ((sn S : Int) + 1))]) (rest := [.int (zI (aTune S v)), .int (zI 5), .ref (A 0)]) ⟨hx, hb, hml, hown, hts⟩ (k_low l G H (v >>> ((zI 8) &&& 31)) ((sn S : Int) + 1) (sn S + 1) (by omega) (by omega) (by omega)) (va_cwS 2 hts gL_act_L_low rfl rfl rfl hd_L_low.2 ⟨(Nat.le_of_ble_eq_true rfl), (Nat.le_of_ble_eq_true rfl)⟩) (g_pre hX hS) rfl rfl hl.1 rfl (lv_room (Nat.le_of_ble_eq_true rfl)) dL_act_413 ⟨(Nat.le_of_ble_eq_true rfl), (Nat.le_of_ble_eq_true rfl)⟩) hS (fun r_413 H_413 locs hp hS => ?_)
                      obtain ⟨rfl, rfl⟩ := hp
                      have hlt_413 := lowN_lt (v >>> ((zI 8) &&& 31)) (n := (sn S + 1)) (by omega)
                      refine lv_iconst (v := zI 0) hx hb dL_act_416 rfl ?_
                      refine g_goi (vx_runSX (As := [.ref (A 0), .int (zI 5), .int (zI (aTune S v)), .int (zI ((lowN (v >>> ((zI 8) &&& 31)) (sn S + 1) : Nat) : Int)), .int (zI 0)]) (rest := []) ⟨hx, hb, hml, hown, hts⟩ (k_link l G hlf A TA S W9 H hC hI (aTune S v) ((lowN (v >>> ((zI 8) &&& 31)) (sn S + 1) : Nat) : Int) 0 ⟨by omega, by omega⟩ ⟨by omega, by omega⟩) (vx_cwSW 5 hts gL_act_L_does rfl rfl rfl hd_L_does.2 ⟨(Nat.le_of_ble_eq_true rfl), (Nat.le_of_ble_eq_true rfl)⟩) (g_pre hX hS) rfl rfl hl.1 rfl (lv_room (Nat.le_of_ble_eq_true rfl)) dL_act_417 ⟨(Nat.le_of_ble_eq_true rfl), (Nat.le_of_ble_eq_true rfl)⟩) hS (fun r_417 H_417 locs hp hS => ?_)
                      obtain ⟨rfl, hDX⟩ := hp
                      have ea : actF S v = linkF S (aTune S v) ((lowN (v >>> ((zI 8) &&& 31)) (sn S + 1) : Nat) : Int) := by
                        unfold actF
                        rw [if_neg (by omega), if_neg (by omega), if_neg (by omega), if_neg (by omega), if_neg (by omega), if_neg (fun h => by omega), if_pos (by omega), if_neg (by omega)]
                      exact g_reti hx hb hr hlocks hS rfl ((by rw [ea]; exact ⟨rfl, hDX⟩)) (Nat.le_of_ble_eq_true rfl) (Nat.le_of_ble_eq_true rfl) dL_act_420
                    · refine lv_bipush (v := zI 20) hx hb dL_act_402 (by decide +kernel) ?_
                      refine lv_goto (tgt := 413) hx hb dL_act_404 (by decide) ?_
                      refine g_goi (vx_runS (As := [.int (v >>> ((zI 8) &&& 31)), .int (zI 20)]) (rest := [.int (zI (aTune S v)), .int (zI 5), .ref (A 0)]) ⟨hx, hb, hml, hown, hts⟩ (k_low l G H (v >>> ((zI 8) &&& 31)) 20 20 (by omega) (by omega) (by omega)) (va_cwS 2 hts gL_act_L_low rfl rfl rfl hd_L_low.2 ⟨(Nat.le_of_ble_eq_true rfl), (Nat.le_of_ble_eq_true rfl)⟩) (g_pre hX hS) rfl rfl hl.1 rfl (lv_room (Nat.le_of_ble_eq_true rfl)) dL_act_413 ⟨(Nat.le_of_ble_eq_true rfl), (Nat.le_of_ble_eq_true rfl)⟩) hS (fun r_413 H_413 locs hp hS => ?_)
                      obtain ⟨rfl, rfl⟩ := hp
                      have hlt_413 := lowN_lt (v >>> ((zI 8) &&& 31)) (n := 20) (by omega)
                      refine lv_iconst (v := zI 0) hx hb dL_act_416 rfl ?_
                      refine g_goi (vx_runSX (As := [.ref (A 0), .int (zI 5), .int (zI (aTune S v)), .int (zI ((lowN (v >>> ((zI 8) &&& 31)) 20 : Nat) : Int)), .int (zI 0)]) (rest := []) ⟨hx, hb, hml, hown, hts⟩ (k_link l G hlf A TA S W9 H hC hI (aTune S v) ((lowN (v >>> ((zI 8) &&& 31)) 20 : Nat) : Int) 0 ⟨by omega, by omega⟩ ⟨by omega, by omega⟩) (vx_cwSW 5 hts gL_act_L_does rfl rfl rfl hd_L_does.2 ⟨(Nat.le_of_ble_eq_true rfl), (Nat.le_of_ble_eq_true rfl)⟩) (g_pre hX hS) rfl rfl hl.1 rfl (lv_room (Nat.le_of_ble_eq_true rfl)) dL_act_417 ⟨(Nat.le_of_ble_eq_true rfl), (Nat.le_of_ble_eq_true rfl)⟩) hS (fun r_417 H_417 locs hp hS => ?_)
                      obtain ⟨rfl, hDX⟩ := hp
                      have ea : actF S v = linkF S (aTune S v) ((lowN (v >>> ((zI 8) &&& 31)) 20 : Nat) : Int) := by
                        unfold actF
                        rw [if_neg (by omega), if_neg (by omega), if_neg (by omega), if_neg (by omega), if_neg (by omega), if_neg (fun h => by omega), if_pos (by omega), if_pos (by omega)]
                      exact g_reti hx hb hr hlocks hS rfl ((by rw [ea]; exact ⟨rfl, hDX⟩)) (Nat.le_of_ble_eq_true rfl) (Nat.le_of_ble_eq_true rfl) dL_act_420
                · refine lv_aload_n hx hb dL_act_369 rfl (lv_at hl 5 rfl) ?_
                  refine lv_iconst (v := zI 3) hx hb dL_act_370 rfl ?_
                  refine lv_iload hx hb dL_act_371 (lv_at hl 2 rfl) ?_
                  refine lv_iconst (v := zI 0) hx hb dL_act_373 rfl ?_
                  refine lv_iconst (v := zI 0) hx hb dL_act_374 rfl ?_
                  refine g_goi (vx_runSX (As := [.ref (A 0), .int (zI 3), .int (zI (aTune S v)), .int (zI 0), .int (zI 0)]) (rest := []) ⟨hx, hb, hml, hown, hts⟩ (k_retire l G hlf A TA S W9 H hC hI (aTune S v) 0 0 ⟨by omega, by omega⟩) (vx_cwSW 5 hts gL_act_L_does rfl rfl rfl hd_L_does.2 ⟨(Nat.le_of_ble_eq_true rfl), (Nat.le_of_ble_eq_true rfl)⟩) (g_pre hX hS) rfl rfl hl.1 rfl (lv_room (Nat.le_of_ble_eq_true rfl)) dL_act_375 ⟨(Nat.le_of_ble_eq_true rfl), (Nat.le_of_ble_eq_true rfl)⟩) hS (fun r_375 H_375 locs hp hS => ?_)
                  obtain ⟨rfl, hDX⟩ := hp
                  have ea : actF S v = retireF S (aTune S v) := by
                    unfold actF
                    rw [if_neg (by omega), if_neg (by omega), if_neg (by omega), if_neg (by omega), if_neg (by omega), if_pos ⟨by omega, by omega⟩]
                  exact g_reti hx hb hr hlocks hS rfl ((by rw [ea]; exact ⟨rfl, hDX⟩)) (Nat.le_of_ble_eq_true rfl) (Nat.le_of_ble_eq_true rfl) dL_act_378
            · refine lv_aload_n hx hb dL_act_312 rfl (lv_at hl 5 rfl) ?_
              refine lv_iconst (v := zI 1) hx hb dL_act_313 rfl ?_
              refine lv_iload_n hx hb dL_act_314 rfl (lv_at hl 6 rfl) ?_
              refine lv_iconst (v := zI 3) hx hb dL_act_315 rfl ?_
              refine lv_ishr hx hb dL_act_316 ?_
              refine lv_iload_n hx hb dL_act_317 rfl (lv_at hl 4 rfl) ?_
              refine gz_if_eq (tgt := 326) hx hb ⟨by omega, by omega⟩ dL_act_318 (by decide) (fun c_318 => ?_) (fun c_318 => ?_)
              · refine lv_bipush (v := zI 21) hx hb dL_act_326 (by decide +kernel) ?_
                refine g_goi (vx_runS (As := [.int (v >>> ((zI 3) &&& 31)), .int (zI 21)]) (rest := [.int (zI 1), .ref (A 0)]) ⟨hx, hb, hml, hown, hts⟩ (k_low l G H (v >>> ((zI 3) &&& 31)) 21 21 (by omega) (by omega) (by omega)) (va_cwS 2 hts gL_act_L_low rfl rfl rfl hd_L_low.2 ⟨(Nat.le_of_ble_eq_true rfl), (Nat.le_of_ble_eq_true rfl)⟩) (g_pre hX hS) rfl rfl hl.1 rfl (lv_room (Nat.le_of_ble_eq_true rfl)) dL_act_328 ⟨(Nat.le_of_ble_eq_true rfl), (Nat.le_of_ble_eq_true rfl)⟩) hS (fun r_328 H_328 locs hp hS => ?_)
                obtain ⟨rfl, rfl⟩ := hp
                have hlt_328 := lowN_lt (v >>> ((zI 3) &&& 31)) (n := 21) (by omega)
                refine lv_iload_n hx hb dL_act_331 rfl (lv_at hl 6 rfl) ?_
                refine lv_bipush (v := zI 6) hx hb dL_act_332 (by decide +kernel) ?_
                refine lv_ishr hx hb dL_act_334 ?_
                refine lv_bipush (v := zI 21) hx hb dL_act_335 (by decide +kernel) ?_
                refine g_goi (vx_runS (As := [.int (v >>> ((zI 6) &&& 31)), .int (zI 21)]) (rest := [.int (zI ((lowN (v >>> ((zI 3) &&& 31)) 21 : Nat) : Int)), .int (zI 1), .ref (A 0)]) ⟨hx, hb, hml, hown, hts⟩ (k_low l G H (v >>> ((zI 6) &&& 31)) 21 21 (by omega) (by omega) (by omega)) (va_cwS 2 hts gL_act_L_low rfl rfl rfl hd_L_low.2 ⟨(Nat.le_of_ble_eq_true rfl), (Nat.le_of_ble_eq_true rfl)⟩) (g_pre hX hS) rfl rfl hl.1 rfl (lv_room (Nat.le_of_ble_eq_true rfl)) dL_act_337 ⟨(Nat.le_of_ble_eq_true rfl), (Nat.le_of_ble_eq_true rfl)⟩) hS (fun r_337 H_337 locs hp hS => ?_)
                obtain ⟨rfl, rfl⟩ := hp
                have hlt_337 := lowN_lt (v >>> ((zI 6) &&& 31)) (n := 21) (by omega)
                refine lv_iload_n hx hb dL_act_340 rfl (lv_at hl 6 rfl) ?_
                refine lv_bipush (v := zI 9) hx hb dL_act_341 (by decide +kernel) ?_
                refine lv_ishr hx hb dL_act_343 ?_
                refine lv_bipush (v := zI 21) hx hb dL_act_344 (by decide +kernel) ?_
                refine g_goi (vx_runS (As := [.int (v >>> ((zI 9) &&& 31)), .int (zI 21)]) (rest := [.int (zI ((lowN (v >>> ((zI 6) &&& 31)) 21 : Nat) : Int)), .int (zI ((lowN (v >>> ((zI 3) &&& 31)) 21 : Nat) : Int)), .int (zI 1), .ref (A 0)]) ⟨hx, hb, hml, hown, hts⟩ (k_low l G H (v >>> ((zI 9) &&& 31)) 21 21 (by omega) (by omega) (by omega)) (va_cwS 2 hts gL_act_L_low rfl rfl rfl hd_L_low.2 ⟨(Nat.le_of_ble_eq_true rfl), (Nat.le_of_ble_eq_true rfl)⟩) (g_pre hX hS) rfl rfl hl.1 rfl (lv_room (Nat.le_of_ble_eq_true rfl)) dL_act_346 ⟨(Nat.le_of_ble_eq_true rfl), (Nat.le_of_ble_eq_true rfl)⟩) hS (fun r_346 H_346 locs hp hS => ?_)
                obtain ⟨rfl, rfl⟩ := hp
                have hlt_346 := lowN_lt (v >>> ((zI 9) &&& 31)) (n := 21) (by omega)
                refine lv_iconst (v := zI 0) hx hb dL_act_349 rfl ?_
                refine g_goi (vx_runSX (As := [.ref (A 0), .int (zI 1), .int (zI ((lowN (v >>> ((zI 3) &&& 31)) 21 : Nat) : Int)), .int (zI ((lowN (v >>> ((zI 6) &&& 31)) 21 : Nat) : Int)), .int (zI ((lowN (v >>> ((zI 9) &&& 31)) 21 : Nat) : Int)), .int (zI 0)]) (rest := []) ⟨hx, hb, hml, hown, hts⟩ (k_setCosts l G hlf A TA S W9 H hC hI ((lowN (v >>> ((zI 3) &&& 31)) 21 : Nat) : Int) ((lowN (v >>> ((zI 6) &&& 31)) 21 : Nat) : Int) ((lowN (v >>> ((zI 9) &&& 31)) 21 : Nat) : Int) 0 ⟨by omega, by omega⟩ ⟨by omega, by omega⟩ ⟨by omega, by omega⟩) (vx_cwSW 6 hts gL_act_L_sets rfl rfl rfl hd_L_sets.2 ⟨(Nat.le_of_ble_eq_true rfl), (Nat.le_of_ble_eq_true rfl)⟩) (g_pre hX hS) rfl rfl hl.1 rfl (lv_room (Nat.le_of_ble_eq_true rfl)) dL_act_350 ⟨(Nat.le_of_ble_eq_true rfl), (Nat.le_of_ble_eq_true rfl)⟩) hS (fun r_350 H_350 locs hp hS => ?_)
                obtain ⟨rfl, hDX⟩ := hp
                have ea : actF S v = costsF S ((lowN (v >>> ((zI 3) &&& 31)) 21 : Nat) : Int) ((lowN (v >>> ((zI 6) &&& 31)) 21 : Nat) : Int) ((lowN (v >>> ((zI 9) &&& 31)) 21 : Nat) : Int) := by
                  unfold actF
                  rw [if_neg (by omega), if_neg (by omega), if_neg (by omega), if_neg (by omega), if_pos (by omega), if_neg (by omega)]
                exact g_reti hx hb hr hlocks hS rfl ((by rw [ea]; exact ⟨rfl, hDX⟩)) (Nat.le_of_ble_eq_true rfl) (Nat.le_of_ble_eq_true rfl) dL_act_353
              · refine lv_bipush (v := zI 23) hx hb dL_act_321 (by decide +kernel) ?_
                refine lv_goto (tgt := 328) hx hb dL_act_323 (by decide) ?_
                refine g_goi (vx_runS (As := [.int (v >>> ((zI 3) &&& 31)), .int (zI 23)]) (rest := [.int (zI 1), .ref (A 0)]) ⟨hx, hb, hml, hown, hts⟩ (k_low l G H (v >>> ((zI 3) &&& 31)) 23 23 (by omega) (by omega) (by omega)) (va_cwS 2 hts gL_act_L_low rfl rfl rfl hd_L_low.2 ⟨(Nat.le_of_ble_eq_true rfl), (Nat.le_of_ble_eq_true rfl)⟩) (g_pre hX hS) rfl rfl hl.1 rfl (lv_room (Nat.le_of_ble_eq_true rfl)) dL_act_328 ⟨(Nat.le_of_ble_eq_true rfl), (Nat.le_of_ble_eq_true rfl)⟩) hS (fun r_328 H_328 locs hp hS => ?_)
                obtain ⟨rfl, rfl⟩ := hp
                have hlt_328 := lowN_lt (v >>> ((zI 3) &&& 31)) (n := 23) (by omega)
                refine lv_iload_n hx hb dL_act_331 rfl (lv_at hl 6 rfl) ?_
                refine lv_bipush (v := zI 6) hx hb dL_act_332 (by decide +kernel) ?_
                refine lv_ishr hx hb dL_act_334 ?_
                refine lv_bipush (v := zI 21) hx hb dL_act_335 (by decide +kernel) ?_
                refine g_goi (vx_runS (As := [.int (v >>> ((zI 6) &&& 31)), .int (zI 21)]) (rest := [.int (zI ((lowN (v >>> ((zI 3) &&& 31)) 23 : Nat) : Int)), .int (zI 1), .ref (A 0)]) ⟨hx, hb, hml, hown, hts⟩ (k_low l G H (v >>> ((zI 6) &&& 31)) 21 21 (by omega) (by omega) (by omega)) (va_cwS 2 hts gL_act_L_low rfl rfl rfl hd_L_low.2 ⟨(Nat.le_of_ble_eq_true rfl), (Nat.le_of_ble_eq_true rfl)⟩) (g_pre hX hS) rfl rfl hl.1 rfl (lv_room (Nat.le_of_ble_eq_true rfl)) dL_act_337 ⟨(Nat.le_of_ble_eq_true rfl), (Nat.le_of_ble_eq_true rfl)⟩) hS (fun r_337 H_337 locs hp hS => ?_)
                obtain ⟨rfl, rfl⟩ := hp
                have hlt_337 := lowN_lt (v >>> ((zI 6) &&& 31)) (n := 21) (by omega)
                refine lv_iload_n hx hb dL_act_340 rfl (lv_at hl 6 rfl) ?_
                refine lv_bipush (v := zI 9) hx hb dL_act_341 (by decide +kernel) ?_
                refine lv_ishr hx hb dL_act_343 ?_
                refine lv_bipush (v := zI 21) hx hb dL_act_344 (by decide +kernel) ?_
                refine g_goi (vx_runS (As := [.int (v >>> ((zI 9) &&& 31)), .int (zI 21)]) (rest := [.int (zI ((lowN (v >>> ((zI 6) &&& 31)) 21 : Nat) : Int)), .int (zI ((lowN (v >>> ((zI 3) &&& 31)) 23 : Nat) : Int)), .int (zI 1), .ref (A 0)]) ⟨hx, hb, hml, hown, hts⟩ (k_low l G H (v >>> ((zI 9) &&& 31)) 21 21 (by omega) (by omega) (by omega)) (va_cwS 2 hts gL_act_L_low rfl rfl rfl hd_L_low.2 ⟨(Nat.le_of_ble_eq_true rfl), (Nat.le_of_ble_eq_true rfl)⟩) (g_pre hX hS) rfl rfl hl.1 rfl (lv_room (Nat.le_of_ble_eq_true rfl)) dL_act_346 ⟨(Nat.le_of_ble_eq_true rfl), (Nat.le_of_ble_eq_true rfl)⟩) hS (fun r_346 H_346 locs hp hS => ?_)
                obtain ⟨rfl, rfl⟩ := hp
                have hlt_346 := lowN_lt (v >>> ((zI 9) &&& 31)) (n := 21) (by omega)
                refine lv_iconst (v := zI 0) hx hb dL_act_349 rfl ?_
                refine g_goi (vx_runSX (As := [.ref (A 0), .int (zI 1), .int (zI ((lowN (v >>> ((zI 3) &&& 31)) 23 : Nat) : Int)), .int (zI ((lowN (v >>> ((zI 6) &&& 31)) 21 : Nat) : Int)), .int (zI ((lowN (v >>> ((zI 9) &&& 31)) 21 : Nat) : Int)), .int (zI 0)]) (rest := []) ⟨hx, hb, hml, hown, hts⟩ (k_setCosts l G hlf A TA S W9 H hC hI ((lowN (v >>> ((zI 3) &&& 31)) 23 : Nat) : Int) ((lowN (v >>> ((zI 6) &&& 31)) 21 : Nat) : Int) ((lowN (v >>> ((zI 9) &&& 31)) 21 : Nat) : Int) 0 ⟨by omega, by omega⟩ ⟨by omega, by omega⟩ ⟨by omega, by omega⟩) (vx_cwSW 6 hts gL_act_L_sets rfl rfl rfl hd_L_sets.2 ⟨(Nat.le_of_ble_eq_true rfl), (Nat.le_of_ble_eq_true rfl)⟩) (g_pre hX hS) rfl rfl hl.1 rfl (lv_room (Nat.le_of_ble_eq_true rfl)) dL_act_350 ⟨(Nat.le_of_ble_eq_true rfl), (Nat.le_of_ble_eq_true rfl)⟩) hS (fun r_350 H_350 locs hp hS => ?_)
                obtain ⟨rfl, hDX⟩ := hp
                have ea : actF S v = costsF S ((lowN (v >>> ((zI 3) &&& 31)) 23 : Nat) : Int) ((lowN (v >>> ((zI 6) &&& 31)) 21 : Nat) : Int) ((lowN (v >>> ((zI 9) &&& 31)) 21 : Nat) : Int) := by
                  unfold actF
                  rw [if_neg (by omega), if_neg (by omega), if_neg (by omega), if_neg (by omega), if_pos (by omega), if_pos (by omega)]
                exact g_reti hx hb hr hlocks hS rfl ((by rw [ea]; exact ⟨rfl, hDX⟩)) (Nat.le_of_ble_eq_true rfl) (Nat.le_of_ble_eq_true rfl) dL_act_353
          · refine lv_iload_n hx hb dL_act_271 rfl (lv_at hl 6 rfl) ?_
            refine lv_bipush (v := zI 9) hx hb dL_act_272 (by decide +kernel) ?_
            refine lv_ishr hx hb dL_act_274 ?_
            refine lv_iconst (v := zI 3) hx hb dL_act_275 rfl ?_
            refine lv_iand hx hb dL_act_276 ?_
            rw [and2]
            have htw_277 := two_lt (v >>> ((zI 9) &&& 31))
            refine gz_if_ne (tgt := 287) hx hb ⟨by omega, by omega⟩ dL_act_277 (by decide) (fun c_277 => ?_) (fun c_277 => ?_)
            · refine lv_aload_n hx hb dL_act_287 rfl (lv_at hl 5 rfl) ?_
              refine lv_iconst (v := zI 4) hx hb dL_act_288 rfl ?_
              refine lv_bipush (v := zI 20) hx hb dL_act_289 (by decide +kernel) ?_
              refine lv_iload_n hx hb dL_act_291 rfl (lv_at hl 6 rfl) ?_
              refine lv_bipush (v := zI 8) hx hb dL_act_292 (by decide +kernel) ?_
              refine lv_ishr hx hb dL_act_294 ?_
              refine lv_iconst (v := zI 5) hx hb dL_act_295 rfl ?_
              refine g_goi (vx_runS (As := [.int (v >>> ((zI 8) &&& 31)), .int (zI 5)]) (rest := [.int (zI 20), .int (zI 4), .ref (A 0)]) ⟨hx, hb, hml, hown, hts⟩ (k_low l G H (v >>> ((zI 8) &&& 31)) 5 5 (by omega) (by omega) (by omega)) (va_cwS 2 hts gL_act_L_low rfl rfl rfl hd_L_low.2 ⟨(Nat.le_of_ble_eq_true rfl), (Nat.le_of_ble_eq_true rfl)⟩) (g_pre hX hS) rfl rfl hl.1 rfl (lv_room (Nat.le_of_ble_eq_true rfl)) dL_act_296 ⟨(Nat.le_of_ble_eq_true rfl), (Nat.le_of_ble_eq_true rfl)⟩) hS (fun r_296 H_296 locs hp hS => ?_)
              obtain ⟨rfl, rfl⟩ := hp
              have hlt_296 := lowN_lt (v >>> ((zI 8) &&& 31)) (n := 5) (by omega)
              refine gz_iadd hx hb dL_act_299 ?_
              refine lv_iconst (v := zI 0) hx hb dL_act_300 rfl ?_
              refine lv_iconst (v := zI 0) hx hb dL_act_301 rfl ?_
              refine g_goi (vx_runSX (As := [.ref (A 0), .int (zI 4), .int (zI (20 + ((lowN (v >>> ((zI 8) &&& 31)) 5 : Nat) : Int))), .int (zI 0), .int (zI 0)]) (rest := []) ⟨hx, hb, hml, hown, hts⟩ (k_hum l G hlf A TA S W9 H hC hI (20 + ((lowN (v >>> ((zI 8) &&& 31)) 5 : Nat) : Int)) 0 0 ⟨by omega, by omega⟩) (vx_cwSW 5 hts gL_act_L_does rfl rfl rfl hd_L_does.2 ⟨(Nat.le_of_ble_eq_true rfl), (Nat.le_of_ble_eq_true rfl)⟩) (g_pre hX hS) rfl rfl hl.1 rfl (lv_room (Nat.le_of_ble_eq_true rfl)) dL_act_302 ⟨(Nat.le_of_ble_eq_true rfl), (Nat.le_of_ble_eq_true rfl)⟩) hS (fun r_302 H_302 locs hp hS => ?_)
              obtain ⟨rfl, hDX⟩ := hp
              have ea : actF S v = humF S (20 + ((lowN (v >>> ((zI 8) &&& 31)) 5 : Nat) : Int)) := by
                unfold actF
                rw [if_neg (by omega), if_neg (by omega), if_neg (by omega), if_pos (by omega), if_neg (by omega)]
              exact g_reti hx hb hr hlocks hS rfl ((by rw [ea]; exact ⟨rfl, hDX⟩)) (Nat.le_of_ble_eq_true rfl) (Nat.le_of_ble_eq_true rfl) dL_act_305
            · refine lv_aload_n hx hb dL_act_280 rfl (lv_at hl 5 rfl) ?_
              refine g_goi (vx_runV (As := []) (rest := []) ⟨hx, hb, hml, hown, hts⟩ (x_hush l G A TA S W9 H hC hI) (cwV 0 hts gL_act_X4_hush rfl rfl rfl hd_X4_hush ⟨(Nat.le_of_ble_eq_true rfl), (Nat.le_of_ble_eq_true rfl)⟩) (g_preV hX hS (ci := 4) rfl hC.1) rfl rfl hl.1 rfl (lv_room (Nat.le_of_ble_eq_true rfl)) dL_act_281 ⟨(Nat.le_of_ble_eq_true rfl), (Nat.le_of_ble_eq_true rfl)⟩) hS (fun r_281 H_281 locs hp hS => ?_)
              obtain ⟨rfl, hxp⟩ := hp
              have hDX := DX.xp hxp rfl
              refine W.eq (g2 := F0 m 284 ls [.int (zI ((hushF S).1))]) rfl ?_
              refine lv_goto (tgt := 305) hx hb dL_act_284 (by decide) ?_
              have ea : actF S v = hushF S := by
                unfold actF
                rw [if_neg (by omega), if_neg (by omega), if_neg (by omega), if_pos (by omega), if_pos (by omega)]
              exact g_reti hx hb hr hlocks hS rfl ((by rw [ea]; exact ⟨rfl, hDX⟩)) (Nat.le_of_ble_eq_true rfl) (Nat.le_of_ble_eq_true rfl) dL_act_305
        · refine lv_aload_n hx hb dL_act_255 rfl (lv_at hl 5 rfl) ?_
          refine lv_iconst (v := zI 4) hx hb dL_act_256 rfl ?_
          refine lv_iload hx hb dL_act_257 (lv_at hl 1 rfl) ?_
          refine lv_iconst (v := zI 0) hx hb dL_act_259 rfl ?_
          refine lv_iconst (v := zI 0) hx hb dL_act_260 rfl ?_
          refine g_goi (vx_runSX (As := [.ref (A 0), .int (zI 4), .int (zI (aPitch v)), .int (zI 0), .int (zI 0)]) (rest := []) ⟨hx, hb, hml, hown, hts⟩ (k_hum l G hlf A TA S W9 H hC hI (aPitch v) 0 0 ⟨by omega, by omega⟩) (vx_cwSW 5 hts gL_act_L_does rfl rfl rfl hd_L_does.2 ⟨(Nat.le_of_ble_eq_true rfl), (Nat.le_of_ble_eq_true rfl)⟩) (g_pre hX hS) rfl rfl hl.1 rfl (lv_room (Nat.le_of_ble_eq_true rfl)) dL_act_261 ⟨(Nat.le_of_ble_eq_true rfl), (Nat.le_of_ble_eq_true rfl)⟩) hS (fun r_261 H_261 locs hp hS => ?_)
          obtain ⟨rfl, hDX⟩ := hp
          have ea : actF S v = humF S (aPitch v) := by
            unfold actF
            rw [if_neg (by omega), if_neg (by omega), if_pos (by omega)]
          exact g_reti hx hb hr hlocks hS rfl ((by rw [ea]; exact ⟨rfl, hDX⟩)) (Nat.le_of_ble_eq_true rfl) (Nat.le_of_ble_eq_true rfl) dL_act_264
      · refine lv_iload_n hx hb dL_act_170 rfl (lv_at hl 3 rfl) ?_
        refine lv_bipush (v := zI 14) hx hb dL_act_171 (by decide +kernel) ?_
        refine gz_icmp_ne (tgt := 219) hx hb ⟨by omega, by omega⟩ (by decide) dL_act_173 (by decide) (fun c_173 => ?_) (fun c_173 => ?_)
        · refine lv_aload_n hx hb dL_act_219 rfl (lv_at hl 5 rfl) ?_
          refine lv_iconst (v := zI 0) hx hb dL_act_220 rfl ?_
          refine lv_iload hx hb dL_act_221 (lv_at hl 2 rfl) ?_
          refine lv_iload_n hx hb dL_act_223 rfl (lv_at hl 6 rfl) ?_
          refine lv_bipush (v := zI 11) hx hb dL_act_224 (by decide +kernel) ?_
          refine lv_ishr hx hb dL_act_226 ?_
          refine lv_iload_n hx hb dL_act_227 rfl (lv_at hl 4 rfl) ?_
          refine gz_if_eq (tgt := 236) hx hb ⟨by omega, by omega⟩ dL_act_228 (by decide) (fun c_228 => ?_) (fun c_228 => ?_)
          · refine lv_bipush (v := zI 9) hx hb dL_act_236 (by decide +kernel) ?_
            refine g_goi (vx_runS (As := [.int (v >>> ((zI 11) &&& 31)), .int (zI 9)]) (rest := [.int (zI (aTune S v)), .int (zI 0), .ref (A 0)]) ⟨hx, hb, hml, hown, hts⟩ (k_low l G H (v >>> ((zI 11) &&& 31)) 9 9 (by omega) (by omega) (by omega)) (va_cwS 2 hts gL_act_L_low rfl rfl rfl hd_L_low.2 ⟨(Nat.le_of_ble_eq_true rfl), (Nat.le_of_ble_eq_true rfl)⟩) (g_pre hX hS) rfl rfl hl.1 rfl (lv_room (Nat.le_of_ble_eq_true rfl)) dL_act_238 ⟨(Nat.le_of_ble_eq_true rfl), (Nat.le_of_ble_eq_true rfl)⟩) hS (fun r_238 H_238 locs hp hS => ?_)
            obtain ⟨rfl, rfl⟩ := hp
            have hlt_238 := lowN_lt (v >>> ((zI 11) &&& 31)) (n := 9) (by omega)
            refine lv_iload hx hb dL_act_241 (lv_at hl 1 rfl) ?_
            refine lv_iload hx hb dL_act_243 (lv_at hl 0 rfl) ?_
            refine g_goi (vx_runSX (As := [.ref (A 0), .int (zI 0), .int (zI (aTune S v)), .int (zI ((lowN (v >>> ((zI 11) &&& 31)) 9 : Nat) : Int)), .int (zI (aPitch v)), .int (zI (aLen v))]) (rest := []) ⟨hx, hb, hml, hown, hts⟩ (k_correct l G hlf A TA S W9 H hC hI (aTune S v) ((lowN (v >>> ((zI 11) &&& 31)) 9 : Nat) : Int) (aPitch v) (aLen v) ⟨by omega, by omega⟩ ⟨by omega, by omega⟩ ⟨by omega, by omega⟩ ⟨by omega, by omega⟩) (vx_cwSW 6 hts gL_act_L_sets rfl rfl rfl hd_L_sets.2 ⟨(Nat.le_of_ble_eq_true rfl), (Nat.le_of_ble_eq_true rfl)⟩) (g_pre hX hS) rfl rfl hl.1 rfl (lv_room (Nat.le_of_ble_eq_true rfl)) dL_act_245 ⟨(Nat.le_of_ble_eq_true rfl), (Nat.le_of_ble_eq_true rfl)⟩) hS (fun r_245 H_245 locs hp hS => ?_)
            obtain ⟨rfl, hDX⟩ := hp
            have ea : actF S v = corrF S (aTune S v) ((lowN (v >>> ((zI 11) &&& 31)) 9 : Nat) : Int) (aPitch v) (aLen v) := by
              unfold actF
              rw [if_neg (by omega), if_pos (by omega), if_neg (by omega), if_neg (by omega)]
            exact g_reti hx hb hr hlocks hS rfl ((by rw [ea]; exact ⟨rfl, hDX⟩)) (Nat.le_of_ble_eq_true rfl) (Nat.le_of_ble_eq_true rfl) dL_act_248
          · refine lv_bipush (v := zI 30) hx hb dL_act_231 (by decide +kernel) ?_
            refine lv_goto (tgt := 238) hx hb dL_act_233 (by decide) ?_
            refine g_goi (vx_runS (As := [.int (v >>> ((zI 11) &&& 31)), .int (zI 30)]) (rest := [.int (zI (aTune S v)), .int (zI 0), .ref (A 0)]) ⟨hx, hb, hml, hown, hts⟩ (k_low l G H (v >>> ((zI 11) &&& 31)) 30 30 (by omega) (by omega) (by omega)) (va_cwS 2 hts gL_act_L_low rfl rfl rfl hd_L_low.2 ⟨(Nat.le_of_ble_eq_true rfl), (Nat.le_of_ble_eq_true rfl)⟩) (g_pre hX hS) rfl rfl hl.1 rfl (lv_room (Nat.le_of_ble_eq_true rfl)) dL_act_238 ⟨(Nat.le_of_ble_eq_true rfl), (Nat.le_of_ble_eq_true rfl)⟩) hS (fun r_238 H_238 locs hp hS => ?_)
            obtain ⟨rfl, rfl⟩ := hp
            have hlt_238 := lowN_lt (v >>> ((zI 11) &&& 31)) (n := 30) (by omega)
            refine lv_iload hx hb dL_act_241 (lv_at hl 1 rfl) ?_
            refine lv_iload hx hb dL_act_243 (lv_at hl 0 rfl) ?_
            refine g_goi (vx_runSX (As := [.ref (A 0), .int (zI 0), .int (zI (aTune S v)), .int (zI ((lowN (v >>> ((zI 11) &&& 31)) 30 : Nat) : Int)), .int (zI (aPitch v)), .int (zI (aLen v))]) (rest := []) ⟨hx, hb, hml, hown, hts⟩ (k_correct l G hlf A TA S W9 H hC hI (aTune S v) ((lowN (v >>> ((zI 11) &&& 31)) 30 : Nat) : Int) (aPitch v) (aLen v) ⟨by omega, by omega⟩ ⟨by omega, by omega⟩ ⟨by omega, by omega⟩ ⟨by omega, by omega⟩) (vx_cwSW 6 hts gL_act_L_sets rfl rfl rfl hd_L_sets.2 ⟨(Nat.le_of_ble_eq_true rfl), (Nat.le_of_ble_eq_true rfl)⟩) (g_pre hX hS) rfl rfl hl.1 rfl (lv_room (Nat.le_of_ble_eq_true rfl)) dL_act_245 ⟨(Nat.le_of_ble_eq_true rfl), (Nat.le_of_ble_eq_true rfl)⟩) hS (fun r_245 H_245 locs hp hS => ?_)
            obtain ⟨rfl, hDX⟩ := hp
            have ea : actF S v = corrF S (aTune S v) ((lowN (v >>> ((zI 11) &&& 31)) 30 : Nat) : Int) (aPitch v) (aLen v) := by
              unfold actF
              rw [if_neg (by omega), if_pos (by omega), if_neg (by omega), if_pos (by omega)]
            exact g_reti hx hb hr hlocks hS rfl ((by rw [ea]; exact ⟨rfl, hDX⟩)) (Nat.le_of_ble_eq_true rfl) (Nat.le_of_ble_eq_true rfl) dL_act_248
        · refine lv_aload_n hx hb dL_act_176 rfl (lv_at hl 5 rfl) ?_
          refine lv_iconst (v := zI 2) hx hb dL_act_177 rfl ?_
          refine lv_iload hx hb dL_act_178 (lv_at hl 2 rfl) ?_
          refine lv_iload_n hx hb dL_act_180 rfl (lv_at hl 4 rfl) ?_
          refine gz_if_eq (tgt := 200) hx hb ⟨by omega, by omega⟩ dL_act_181 (by decide) (fun c_181 => ?_) (fun c_181 => ?_)
          · refine lv_iload_n hx hb dL_act_200 rfl (lv_at hl 6 rfl) ?_
            refine lv_bipush (v := zI 6) hx hb dL_act_201 (by decide +kernel) ?_
            refine lv_ishr hx hb dL_act_203 ?_
            refine lv_bipush (v := zI 13) hx hb dL_act_204 (by decide +kernel) ?_
            refine g_goi (vx_runS (As := [.int (v >>> ((zI 6) &&& 31)), .int (zI 13)]) (rest := [.int (zI (aTune S v)), .int (zI 2), .ref (A 0)]) ⟨hx, hb, hml, hown, hts⟩ (k_low l G H (v >>> ((zI 6) &&& 31)) 13 13 (by omega) (by omega) (by omega)) (va_cwS 2 hts gL_act_L_low rfl rfl rfl hd_L_low.2 ⟨(Nat.le_of_ble_eq_true rfl), (Nat.le_of_ble_eq_true rfl)⟩) (g_pre hX hS) rfl rfl hl.1 rfl (lv_room (Nat.le_of_ble_eq_true rfl)) dL_act_206 ⟨(Nat.le_of_ble_eq_true rfl), (Nat.le_of_ble_eq_true rfl)⟩) hS (fun r_206 H_206 locs hp hS => ?_)
            obtain ⟨rfl, rfl⟩ := hp
            have hlt_206 := lowN_lt (v >>> ((zI 6) &&& 31)) (n := 13) (by omega)
            refine lv_bipush (v := zI 6) hx hb dL_act_209 (by decide +kernel) ?_
            refine gz_isub hx hb dL_act_211 ?_
            refine lv_iconst (v := zI 0) hx hb dL_act_212 rfl ?_
            refine g_goi (vx_runSX (As := [.ref (A 0), .int (zI 2), .int (zI (aTune S v)), .int (zI (((lowN (v >>> ((zI 6) &&& 31)) 13 : Nat) : Int) - 6)), .int (zI 0)]) (rest := []) ⟨hx, hb, hml, hown, hts⟩ (k_shift l G hlf A TA S W9 H hC hI (aTune S v) (((lowN (v >>> ((zI 6) &&& 31)) 13 : Nat) : Int) - 6) 0 ⟨by omega, by omega⟩ ⟨by omega, by omega⟩) (vx_cwSW 5 hts gL_act_L_does rfl rfl rfl hd_L_does.2 ⟨(Nat.le_of_ble_eq_true rfl), (Nat.le_of_ble_eq_true rfl)⟩) (g_pre hX hS) rfl rfl hl.1 rfl (lv_room (Nat.le_of_ble_eq_true rfl)) dL_act_213 ⟨(Nat.le_of_ble_eq_true rfl), (Nat.le_of_ble_eq_true rfl)⟩) hS (fun r_213 H_213 locs hp hS => ?_)
            obtain ⟨rfl, hDX⟩ := hp
            refine lv_goto (tgt := 248) hx hb dL_act_216 (by decide) ?_
            have ea : actF S v = shiftF S (aTune S v) (((lowN (v >>> ((zI 6) &&& 31)) 13 : Nat) : Int) - 6) := by
              unfold actF
              rw [if_neg (by omega), if_pos (by omega), if_pos (by omega), if_neg (by omega)]
            exact g_reti hx hb hr hlocks hS rfl ((by rw [ea]; exact ⟨rfl, hDX⟩)) (Nat.le_of_ble_eq_true rfl) (Nat.le_of_ble_eq_true rfl) dL_act_248
          · refine lv_iload_n hx hb dL_act_184 rfl (lv_at hl 6 rfl) ?_
            refine lv_bipush (v := zI 6) hx hb dL_act_185 (by decide +kernel) ?_
            refine lv_ishr hx hb dL_act_187 ?_
            refine lv_sipush (v := zI 140) hx hb dL_act_188 (by decide +kernel) ?_
            refine g_goi (vx_runS (As := [.int (v >>> ((zI 6) &&& 31)), .int (zI 140)]) (rest := [.int (zI (aTune S v)), .int (zI 2), .ref (A 0)]) ⟨hx, hb, hml, hown, hts⟩ (k_low l G H (v >>> ((zI 6) &&& 31)) 140 140 (by omega) (by omega) (by omega)) (va_cwS 2 hts gL_act_L_low rfl rfl rfl hd_L_low.2 ⟨(Nat.le_of_ble_eq_true rfl), (Nat.le_of_ble_eq_true rfl)⟩) (g_pre hX hS) rfl rfl hl.1 rfl (lv_room (Nat.le_of_ble_eq_true rfl)) dL_act_191 ⟨(Nat.le_of_ble_eq_true rfl), (Nat.le_of_ble_eq_true rfl)⟩) hS (fun r_191 H_191 locs hp hS => ?_)
            obtain ⟨rfl, rfl⟩ := hp
            have hlt_191 := lowN_lt (v >>> ((zI 6) &&& 31)) (n := 140) (by omega)
            refine lv_bipush (v := zI 70) hx hb dL_act_194 (by decide +kernel) ?_
            refine gz_isub hx hb dL_act_196 ?_
            refine lv_goto (tgt := 212) hx hb dL_act_197 (by decide) ?_
            refine lv_iconst (v := zI 0) hx hb dL_act_212 rfl ?_
            refine g_goi (vx_runSX (As := [.ref (A 0), .int (zI 2), .int (zI (aTune S v)), .int (zI (((lowN (v >>> ((zI 6) &&& 31)) 140 : Nat) : Int) - 70)), .int (zI 0)]) (rest := []) ⟨hx, hb, hml, hown, hts⟩ (k_shift l G hlf A TA S W9 H hC hI (aTune S v) (((lowN (v >>> ((zI 6) &&& 31)) 140 : Nat) : Int) - 70) 0 ⟨by omega, by omega⟩ ⟨by omega, by omega⟩) (vx_cwSW 5 hts gL_act_L_does rfl rfl rfl hd_L_does.2 ⟨(Nat.le_of_ble_eq_true rfl), (Nat.le_of_ble_eq_true rfl)⟩) (g_pre hX hS) rfl rfl hl.1 rfl (lv_room (Nat.le_of_ble_eq_true rfl)) dL_act_213 ⟨(Nat.le_of_ble_eq_true rfl), (Nat.le_of_ble_eq_true rfl)⟩) hS (fun r_213 H_213 locs hp hS => ?_)
            obtain ⟨rfl, hDX⟩ := hp
            refine lv_goto (tgt := 248) hx hb dL_act_216 (by decide) ?_
            have ea : actF S v = shiftF S (aTune S v) (((lowN (v >>> ((zI 6) &&& 31)) 140 : Nat) : Int) - 70) := by
              unfold actF
              rw [if_neg (by omega), if_pos (by omega), if_pos (by omega), if_pos (by omega)]
            exact g_reti hx hb hr hlocks hS rfl ((by rw [ea]; exact ⟨rfl, hDX⟩)) (Nat.le_of_ble_eq_true rfl) (Nat.le_of_ble_eq_true rfl) dL_act_248
    · refine lv_iload_n hx hb dL_act_134 rfl (lv_at hl 3 rfl) ?_
      refine lv_iconst (v := zI 3) hx hb dL_act_135 rfl ?_
      refine gz_icmp_ge (tgt := 152) hx hb ⟨by omega, by omega⟩ (by decide) dL_act_136 (by decide) (fun c_136 => ?_) (fun c_136 => ?_)
      · refine lv_aload_n hx hb dL_act_152 rfl (lv_at hl 5 rfl) ?_
        refine lv_iconst (v := zI 1) hx hb dL_act_153 rfl ?_
        refine lv_iload hx hb dL_act_154 (lv_at hl 2 rfl) ?_
        refine lv_iload hx hb dL_act_156 (lv_at hl 1 rfl) ?_
        refine lv_iload hx hb dL_act_158 (lv_at hl 0 rfl) ?_
        refine g_goi (vx_runSX (As := [.ref (A 0), .int (zI 1), .int (zI (aTune S v)), .int (zI (aPitch v)), .int (zI (aLen v))]) (rest := []) ⟨hx, hb, hml, hown, hts⟩ (k_note l G hlf A TA S W9 H hC hI (aTune S v) (aPitch v) (aLen v) ⟨by omega, by omega⟩ ⟨by omega, by omega⟩ ⟨by omega, by omega⟩) (vx_cwSW 5 hts gL_act_L_does rfl rfl rfl hd_L_does.2 ⟨(Nat.le_of_ble_eq_true rfl), (Nat.le_of_ble_eq_true rfl)⟩) (g_pre hX hS) rfl rfl hl.1 rfl (lv_room (Nat.le_of_ble_eq_true rfl)) dL_act_160 ⟨(Nat.le_of_ble_eq_true rfl), (Nat.le_of_ble_eq_true rfl)⟩) hS (fun r_160 H_160 locs hp hS => ?_)
        obtain ⟨rfl, hDX⟩ := hp
        have ea : actF S v = noteF S (aTune S v) (aPitch v) (aLen v) := by
          unfold actF
          rw [if_pos (by omega), if_neg (by omega)]
        exact g_reti hx hb hr hlocks hS rfl ((by rw [ea]; exact ⟨rfl, hDX⟩)) (Nat.le_of_ble_eq_true rfl) (Nat.le_of_ble_eq_true rfl) dL_act_163
      · refine lv_aload_n hx hb dL_act_139 rfl (lv_at hl 5 rfl) ?_
        refine lv_iconst (v := zI 0) hx hb dL_act_140 rfl ?_
        refine lv_iload hx hb dL_act_141 (lv_at hl 1 rfl) ?_
        refine lv_iload hx hb dL_act_143 (lv_at hl 0 rfl) ?_
        refine lv_iconst (v := zI 0) hx hb dL_act_145 rfl ?_
        refine g_goi (vx_runSX (As := [.ref (A 0), .int (zI 0), .int (zI (aPitch v)), .int (zI (aLen v)), .int (zI 0)]) (rest := []) ⟨hx, hb, hml, hown, hts⟩ (k_add l G hlf A TA S W9 H hC hI (aPitch v) (aLen v) 0 ⟨by omega, by omega⟩ ⟨by omega, by omega⟩) (vx_cwSW 5 hts gL_act_L_does rfl rfl rfl hd_L_does.2 ⟨(Nat.le_of_ble_eq_true rfl), (Nat.le_of_ble_eq_true rfl)⟩) (g_pre hX hS) rfl rfl hl.1 rfl (lv_room (Nat.le_of_ble_eq_true rfl)) dL_act_146 ⟨(Nat.le_of_ble_eq_true rfl), (Nat.le_of_ble_eq_true rfl)⟩) hS (fun r_146 H_146 locs hp hS => ?_)
        obtain ⟨rfl, hDX⟩ := hp
        refine lv_goto (tgt := 163) hx hb dL_act_149 (by decide) ?_
        have ea : actF S v = addF S (aPitch v) (aLen v) := by
          unfold actF
          rw [if_pos (by omega), if_pos (by omega)]
        exact g_reti hx hb hr hlocks hS rfl ((by rw [ea]; exact ⟨rfl, hDX⟩)) (Nat.le_of_ble_eq_true rfl) (Nat.le_of_ble_eq_true rfl) dL_act_163
  have seg99 : ∀ (od : Int) (h_od : od = aOdd v) (tn : Int) (h_tn : tn = aTune S v) (pt : Int) (h_pt : pt = aPitch v) (locs : List Loc), va_S (gA G) s.heap H locs → ∀ (ls : Array Slot), lv_has ls 7 [(5, .int (zI pt)), (4, .int (zI tn)), (3, .int (zI ((lowN v 32 : Nat) : Int))), (2, .int (zI od)), (0, .ref (A 0)), (1, .int v)] → W p l e rm_L_act s m args below meth c H locs (0) (0) (vx_MQ below (gQ G (gi (fun r H1 => zI (actF S v).1 = r ∧ DX G A TA S (actF S v).2 H H1))) (gXC G (gNo)) args s 12 900 (gA G)) (F0 m 99 ls []) := by
    intro od h_od tn h_tn pt h_pt locs hS ls hl
    refine lv_iload_n hx hb dL_act_99 rfl (lv_at hl 3 rfl) ?_
    refine gz_if_eq (tgt := 115) hx hb ⟨by omega, by omega⟩ dL_act_100 (by decide) (fun c_100 => ?_) (fun c_100 => ?_)
    · refine lv_iconst (v := zI 1) hx hb dL_act_115 rfl ?_
      refine lv_iload_n hx hb dL_act_116 rfl (lv_at hl 5 rfl) ?_
      refine lv_bipush (v := zI 10) hx hb dL_act_117 (by decide +kernel) ?_
      refine lv_ishr hx hb dL_act_119 ?_
      refine lv_bipush (v := zI 8) hx hb dL_act_120 (by decide +kernel) ?_
      refine g_goi (vx_runS (As := [.int (v >>> ((zI 10) &&& 31)), .int (zI 8)]) (rest := [.int (zI 1)]) ⟨hx, hb, hml, hown, hts⟩ (k_low l G H (v >>> ((zI 10) &&& 31)) 8 8 (by omega) (by omega) (by omega)) (va_cwS 2 hts gL_act_L_low rfl rfl rfl hd_L_low.2 ⟨(Nat.le_of_ble_eq_true rfl), (Nat.le_of_ble_eq_true rfl)⟩) (g_pre hX hS) rfl rfl hl.1 rfl (lv_room (Nat.le_of_ble_eq_true rfl)) dL_act_122 ⟨(Nat.le_of_ble_eq_true rfl), (Nat.le_of_ble_eq_true rfl)⟩) hS (fun r_122 H_122 locs hp hS => ?_)
      obtain ⟨rfl, rfl⟩ := hp
      have hlt_122 := lowN_lt (v >>> ((zI 10) &&& 31)) (n := 8) (by omega)
      refine gz_iadd hx hb dL_act_125 ?_
      refine lv_istore (lv' := [(6, .int (zI (1 + ((lowN (v >>> ((zI 10) &&& 31)) 8 : Nat) : Int)))), (5, .int (zI pt)), (4, .int (zI tn)), (3, .int (zI ((lowN v 32 : Nat) : Int))), (2, .int (zI od)), (0, .ref (A 0)), (1, .int v)]) hx hb dL_act_126 hl (by decide) rfl (fun ls hl => ?_)
      exact seg128 od h_od tn h_tn pt h_pt (1 + ((lowN (v >>> ((zI 10) &&& 31)) 8 : Nat) : Int)) (by unfold aLen; first | rw [if_pos (by omega)] | rw [if_neg (by omega)]) _ hS ls (lv_sub hl [0, 1, 2, 3, 4, 5, 6] rfl)
    · refine lv_iload_n hx hb dL_act_103 rfl (lv_at hl 5 rfl) ?_
      refine lv_bipush (v := zI 10) hx hb dL_act_104 (by decide +kernel) ?_
      refine lv_ishr hx hb dL_act_106 ?_
      refine lv_bipush (v := zI 11) hx hb dL_act_107 (by decide +kernel) ?_
      refine g_goi (vx_runS (As := [.int (v >>> ((zI 10) &&& 31)), .int (zI 11)]) (rest := []) ⟨hx, hb, hml, hown, hts⟩ (k_low l G H (v >>> ((zI 10) &&& 31)) 11 11 (by omega) (by omega) (by omega)) (va_cwS 2 hts gL_act_L_low rfl rfl rfl hd_L_low.2 ⟨(Nat.le_of_ble_eq_true rfl), (Nat.le_of_ble_eq_true rfl)⟩) (g_pre hX hS) rfl rfl hl.1 rfl (lv_room (Nat.le_of_ble_eq_true rfl)) dL_act_109 ⟨(Nat.le_of_ble_eq_true rfl), (Nat.le_of_ble_eq_true rfl)⟩) hS (fun r_109 H_109 locs hp hS => ?_)
      obtain ⟨rfl, rfl⟩ := hp
      have hlt_109 := lowN_lt (v >>> ((zI 10) &&& 31)) (n := 11) (by omega)
      refine lv_goto (tgt := 126) hx hb dL_act_112 (by decide) ?_
      refine lv_istore (lv' := [(6, .int (zI ((lowN (v >>> ((zI 10) &&& 31)) 11 : Nat) : Int))), (5, .int (zI pt)), (4, .int (zI tn)), (3, .int (zI ((lowN v 32 : Nat) : Int))), (2, .int (zI od)), (0, .ref (A 0)), (1, .int v)]) hx hb dL_act_126 hl (by decide) rfl (fun ls hl => ?_)
      exact seg128 od h_od tn h_tn pt h_pt ((lowN (v >>> ((zI 10) &&& 31)) 11 : Nat) : Int) (by unfold aLen; first | rw [if_pos (by omega)] | rw [if_neg (by omega)]) _ hS ls (lv_sub hl [0, 1, 2, 3, 4, 5, 6] rfl)
  have seg48 : ∀ (od : Int) (h_od : od = aOdd v) (tn : Int) (h_tn : tn = aTune S v) (locs : List Loc), va_S (gA G) s.heap H locs → ∀ (ls : Array Slot), lv_has ls 7 [(4, .int (zI tn)), (3, .int (zI ((lowN v 32 : Nat) : Int))), (2, .int (zI od)), (0, .ref (A 0)), (1, .int v)] → W p l e rm_L_act s m args below meth c H locs (0) (0) (vx_MQ below (gQ G (gi (fun r H1 => zI (actF S v).1 = r ∧ DX G A TA S (actF S v).2 H H1))) (gXC G (gNo)) args s 12 900 (gA G)) (F0 m 48 ls []) := by
    intro od h_od tn h_tn locs hS ls hl
    refine lv_iload_n hx hb dL_act_48 rfl (lv_at hl 2 rfl) ?_
    refine gz_if_eq (tgt := 64) hx hb ⟨by omega, by omega⟩ dL_act_49 (by decide) (fun c_49 => ?_) (fun c_49 => ?_)
    · refine lv_iload_n hx hb dL_act_64 rfl (lv_at hl 4 rfl) ?_
      refine lv_bipush (v := zI 15) hx hb dL_act_65 (by decide +kernel) ?_
      refine lv_ishr hx hb dL_act_67 ?_
      refine lv_iconst (v := zI 3) hx hb dL_act_68 rfl ?_
      refine lv_iand hx hb dL_act_69 ?_
      rw [and2]
      have htw_70 := two_lt (v >>> ((zI 15) &&& 31))
      refine gz_if_ne (tgt := 85) hx hb ⟨by omega, by omega⟩ dL_act_70 (by decide) (fun c_70 => ?_) (fun c_70 => ?_)
      · refine lv_bipush (v := zI 20) hx hb dL_act_85 (by decide +kernel) ?_
        refine lv_iload_n hx hb dL_act_87 rfl (lv_at hl 4 rfl) ?_
        refine lv_bipush (v := zI 7) hx hb dL_act_88 (by decide +kernel) ?_
        refine lv_ishr hx hb dL_act_90 ?_
        refine lv_bipush (v := zI 9) hx hb dL_act_91 (by decide +kernel) ?_
        refine g_goi (vx_runS (As := [.int (v >>> ((zI 7) &&& 31)), .int (zI 9)]) (rest := [.int (zI 20)]) ⟨hx, hb, hml, hown, hts⟩ (k_low l G H (v >>> ((zI 7) &&& 31)) 9 9 (by omega) (by omega) (by omega)) (va_cwS 2 hts gL_act_L_low rfl rfl rfl hd_L_low.2 ⟨(Nat.le_of_ble_eq_true rfl), (Nat.le_of_ble_eq_true rfl)⟩) (g_pre hX hS) rfl rfl hl.1 rfl (lv_room (Nat.le_of_ble_eq_true rfl)) dL_act_93 ⟨(Nat.le_of_ble_eq_true rfl), (Nat.le_of_ble_eq_true rfl)⟩) hS (fun r_93 H_93 locs hp hS => ?_)
        obtain ⟨rfl, rfl⟩ := hp
        have hlt_93 := lowN_lt (v >>> ((zI 7) &&& 31)) (n := 9) (by omega)
        refine gz_iadd hx hb dL_act_96 ?_
        refine lv_istore (lv' := [(5, .int (zI (20 + ((lowN (v >>> ((zI 7) &&& 31)) 9 : Nat) : Int)))), (4, .int (zI tn)), (3, .int (zI ((lowN v 32 : Nat) : Int))), (2, .int (zI od)), (0, .ref (A 0)), (1, .int v)]) hx hb dL_act_97 hl (by decide) rfl (fun ls hl => ?_)
        exact seg99 od h_od tn h_tn (20 + ((lowN (v >>> ((zI 7) &&& 31)) 9 : Nat) : Int)) (by unfold aPitch; first | rw [if_pos (by omega)] | rw [if_neg (by omega), if_pos (by omega)] | rw [if_neg (by omega), if_neg (by omega)]) _ hS ls (lv_sub hl [0, 1, 2, 3, 4, 5] rfl)
      · refine lv_iload_n hx hb dL_act_73 rfl (lv_at hl 4 rfl) ?_
        refine lv_bipush (v := zI 7) hx hb dL_act_74 (by decide +kernel) ?_
        refine lv_ishr hx hb dL_act_76 ?_
        refine lv_bipush (v := zI 61) hx hb dL_act_77 (by decide +kernel) ?_
        refine g_goi (vx_runS (As := [.int (v >>> ((zI 7) &&& 31)), .int (zI 61)]) (rest := []) ⟨hx, hb, hml, hown, hts⟩ (k_low l G H (v >>> ((zI 7) &&& 31)) 61 61 (by omega) (by omega) (by omega)) (va_cwS 2 hts gL_act_L_low rfl rfl rfl hd_L_low.2 ⟨(Nat.le_of_ble_eq_true rfl), (Nat.le_of_ble_eq_true rfl)⟩) (g_pre hX hS) rfl rfl hl.1 rfl (lv_room (Nat.le_of_ble_eq_true rfl)) dL_act_79 ⟨(Nat.le_of_ble_eq_true rfl), (Nat.le_of_ble_eq_true rfl)⟩) hS (fun r_79 H_79 locs hp hS => ?_)
        obtain ⟨rfl, rfl⟩ := hp
        have hlt_79 := lowN_lt (v >>> ((zI 7) &&& 31)) (n := 61) (by omega)
        refine lv_goto (tgt := 97) hx hb dL_act_82 (by decide) ?_
        refine lv_istore (lv' := [(5, .int (zI ((lowN (v >>> ((zI 7) &&& 31)) 61 : Nat) : Int))), (4, .int (zI tn)), (3, .int (zI ((lowN v 32 : Nat) : Int))), (2, .int (zI od)), (0, .ref (A 0)), (1, .int v)]) hx hb dL_act_97 hl (by decide) rfl (fun ls hl => ?_)
        exact seg99 od h_od tn h_tn ((lowN (v >>> ((zI 7) &&& 31)) 61 : Nat) : Int) (by unfold aPitch; first | rw [if_pos (by omega)] | rw [if_neg (by omega), if_pos (by omega)] | rw [if_neg (by omega), if_neg (by omega)]) _ hS ls (lv_sub hl [0, 1, 2, 3, 4, 5] rfl)
    · refine lv_iload_n hx hb dL_act_52 rfl (lv_at hl 4 rfl) ?_
      refine lv_bipush (v := zI 7) hx hb dL_act_53 (by decide +kernel) ?_
      refine lv_ishr hx hb dL_act_55 ?_
      refine lv_bipush (v := zI 66) hx hb dL_act_56 (by decide +kernel) ?_
      refine g_goi (vx_runS (As := [.int (v >>> ((zI 7) &&& 31)), .int (zI 66)]) (rest := []) ⟨hx, hb, hml, hown, hts⟩ (k_low l G H (v >>> ((zI 7) &&& 31)) 66 66 (by omega) (by omega) (by omega)) (va_cwS 2 hts gL_act_L_low rfl rfl rfl hd_L_low.2 ⟨(Nat.le_of_ble_eq_true rfl), (Nat.le_of_ble_eq_true rfl)⟩) (g_pre hX hS) rfl rfl hl.1 rfl (lv_room (Nat.le_of_ble_eq_true rfl)) dL_act_58 ⟨(Nat.le_of_ble_eq_true rfl), (Nat.le_of_ble_eq_true rfl)⟩) hS (fun r_58 H_58 locs hp hS => ?_)
      obtain ⟨rfl, rfl⟩ := hp
      have hlt_58 := lowN_lt (v >>> ((zI 7) &&& 31)) (n := 66) (by omega)
      refine lv_goto (tgt := 97) hx hb dL_act_61 (by decide) ?_
      refine lv_istore (lv' := [(5, .int (zI ((lowN (v >>> ((zI 7) &&& 31)) 66 : Nat) : Int))), (4, .int (zI tn)), (3, .int (zI ((lowN v 32 : Nat) : Int))), (2, .int (zI od)), (0, .ref (A 0)), (1, .int v)]) hx hb dL_act_97 hl (by decide) rfl (fun ls hl => ?_)
      exact seg99 od h_od tn h_tn ((lowN (v >>> ((zI 7) &&& 31)) 66 : Nat) : Int) (by unfold aPitch; first | rw [if_pos (by omega)] | rw [if_neg (by omega), if_pos (by omega)] | rw [if_neg (by omega), if_neg (by omega)]) _ hS ls (lv_sub hl [0, 1, 2, 3, 4, 5] rfl)
  have seg18 : ∀ (od : Int) (h_od : od = aOdd v) (locs : List Loc), va_S (gA G) s.heap H locs → ∀ (ls : Array Slot), lv_has ls 7 [(2, .int (zI od)), (0, .ref (A 0)), (1, .int v)] → W p l e rm_L_act s m args below meth c H locs (0) (0) (vx_MQ below (gQ G (gi (fun r H1 => zI (actF S v).1 = r ∧ DX G A TA S (actF S v).2 H H1))) (gXC G (gNo)) args s 12 900 (gA G)) (F0 m 18 ls []) := by
    intro od h_od locs hS ls hl
    refine lv_iload_n hx hb dL_act_18 rfl (lv_at hl 2 rfl) ?_
    refine lv_bipush (v := zI 32) hx hb dL_act_19 (by decide +kernel) ?_
    refine g_goi (vx_runS (As := [.int v, .int (zI 32)]) (rest := []) ⟨hx, hb, hml, hown, hts⟩ (k_low l G H v 32 32 (by omega) (by omega) (by omega)) (va_cwS 2 hts gL_act_L_low rfl rfl rfl hd_L_low.2 ⟨(Nat.le_of_ble_eq_true rfl), (Nat.le_of_ble_eq_true rfl)⟩) (g_pre hX hS) rfl rfl hl.1 rfl (lv_room (Nat.le_of_ble_eq_true rfl)) dL_act_21 ⟨(Nat.le_of_ble_eq_true rfl), (Nat.le_of_ble_eq_true rfl)⟩) hS (fun r_21 H_21 locs hp hS => ?_)
    obtain ⟨rfl, rfl⟩ := hp
    have hlt_21 := lowN_lt v (n := 32) (by omega)
    refine lv_istore_n (lv' := [(3, .int (zI ((lowN v 32 : Nat) : Int))), (2, .int (zI od)), (0, .ref (A 0)), (1, .int v)]) hx hb dL_act_24 rfl hl (by decide) rfl (fun ls hl => ?_)
    refine lv_iload_n hx hb dL_act_25 rfl (lv_at hl 3 rfl) ?_
    refine lv_iconst (v := zI 4) hx hb dL_act_26 rfl ?_
    refine lv_ishr hx hb dL_act_27 ?_
    refine lv_iload_n hx hb dL_act_28 rfl (lv_at hl 1 rfl) ?_
    refine gz_if_eq (tgt := 37) hx hb ⟨by omega, by omega⟩ dL_act_29 (by decide) (fun c_29 => ?_) (fun c_29 => ?_)
    · refine lv_aload_n hx hb dL_act_37 rfl (lv_at hl 2 rfl) ?_
      refine g_goi (vx_runV (As := []) (rest := [.int (v >>> ((zI 4) &&& 31))]) ⟨hx, hb, hml, hown, hts⟩ (x_tunes l G A TA S W9 H hC hI) (cwV 0 hts gL_act_X4_tunes rfl rfl rfl hd_X4_tunes ⟨(Nat.le_of_ble_eq_true rfl), (Nat.le_of_ble_eq_true rfl)⟩) (g_preV hX hS (ci := 4) rfl hC.1) rfl rfl hl.1 rfl (lv_room (Nat.le_of_ble_eq_true rfl)) dL_act_38 ⟨(Nat.le_of_ble_eq_true rfl), (Nat.le_of_ble_eq_true rfl)⟩) hS (fun r_38 H_38 locs hp hS => ?_)
      obtain ⟨rfl, rfl⟩ := hp
      refine lv_iconst (v := zI 1) hx hb dL_act_41 rfl ?_
      refine gz_iadd hx hb dL_act_42 ?_
      refine g_goi (vx_runS (As := [.int (v >>> ((zI 4) &&& 31)), .int (zI ((sn S : Int) + 1))]) (rest := []) ⟨hx, hb, hml, hown, hts⟩ (k_low l G H (v >>> ((zI 4) &&& 31)) ((sn S : Int) + 1) (sn S + 1) (by omega) (by omega) (by omega)) (va_cwS 2 hts gL_act_L_low rfl rfl rfl hd_L_low.2 ⟨(Nat.le_of_ble_eq_true rfl), (Nat.le_of_ble_eq_true rfl)⟩) (g_pre hX hS) rfl rfl hl.1 rfl (lv_room (Nat.le_of_ble_eq_true rfl)) dL_act_43 ⟨(Nat.le_of_ble_eq_true rfl), (Nat.le_of_ble_eq_true rfl)⟩) hS (fun r_43 H_43 locs hp hS => ?_)
      obtain ⟨rfl, rfl⟩ := hp
      have hlt_43 := lowN_lt (v >>> ((zI 4) &&& 31)) (n := (sn S + 1)) (by omega)
      refine lv_istore (lv' := [(4, .int (zI ((lowN (v >>> ((zI 4) &&& 31)) (sn S + 1) : Nat) : Int))), (3, .int (zI ((lowN v 32 : Nat) : Int))), (2, .int (zI od)), (0, .ref (A 0)), (1, .int v)]) hx hb dL_act_46 hl (by decide) rfl (fun ls hl => ?_)
      exact seg48 od h_od ((lowN (v >>> ((zI 4) &&& 31)) (sn S + 1) : Nat) : Int) (by unfold aTune; first | rw [if_pos (by omega)] | rw [if_neg (by omega)]) _ hS ls (lv_sub hl [0, 1, 2, 3, 4] rfl)
    · refine lv_bipush (v := zI 20) hx hb dL_act_32 (by decide +kernel) ?_
      refine lv_goto (tgt := 43) hx hb dL_act_34 (by decide) ?_
      refine g_goi (vx_runS (As := [.int (v >>> ((zI 4) &&& 31)), .int (zI 20)]) (rest := []) ⟨hx, hb, hml, hown, hts⟩ (k_low l G H (v >>> ((zI 4) &&& 31)) 20 20 (by omega) (by omega) (by omega)) (va_cwS 2 hts gL_act_L_low rfl rfl rfl hd_L_low.2 ⟨(Nat.le_of_ble_eq_true rfl), (Nat.le_of_ble_eq_true rfl)⟩) (g_pre hX hS) rfl rfl hl.1 rfl (lv_room (Nat.le_of_ble_eq_true rfl)) dL_act_43 ⟨(Nat.le_of_ble_eq_true rfl), (Nat.le_of_ble_eq_true rfl)⟩) hS (fun r_43 H_43 locs hp hS => ?_)
      obtain ⟨rfl, rfl⟩ := hp
      have hlt_43 := lowN_lt (v >>> ((zI 4) &&& 31)) (n := 20) (by omega)
      refine lv_istore (lv' := [(4, .int (zI ((lowN (v >>> ((zI 4) &&& 31)) 20 : Nat) : Int))), (3, .int (zI ((lowN v 32 : Nat) : Int))), (2, .int (zI od)), (0, .ref (A 0)), (1, .int v)]) hx hb dL_act_46 hl (by decide) rfl (fun ls hl => ?_)
      exact seg48 od h_od ((lowN (v >>> ((zI 4) &&& 31)) 20 : Nat) : Int) (by unfold aTune; first | rw [if_pos (by omega)] | rw [if_neg (by omega)]) _ hS ls (lv_sub hl [0, 1, 2, 3, 4] rfl)
  refine lv_iload_n hx hb dL_act_0 rfl (lv_at hl 1 rfl) ?_
  refine lv_bipush (v := zI 24) hx hb dL_act_1 (by decide +kernel) ?_
  refine lv_ishr hx hb dL_act_3 ?_
  refine lv_bipush (v := zI 8) hx hb dL_act_4 (by decide +kernel) ?_
  refine g_goi (vx_runS (As := [.int (v >>> ((zI 24) &&& 31)), .int (zI 8)]) (rest := []) ⟨hx, hb, hml, hown, hts⟩ (k_low l G H (v >>> ((zI 24) &&& 31)) 8 8 (by omega) (by omega) (by omega)) (va_cwS 2 hts gL_act_L_low rfl rfl rfl hd_L_low.2 ⟨(Nat.le_of_ble_eq_true rfl), (Nat.le_of_ble_eq_true rfl)⟩) (g_pre hX hS) rfl rfl hl.1 rfl (lv_room (Nat.le_of_ble_eq_true rfl)) dL_act_6 ⟨(Nat.le_of_ble_eq_true rfl), (Nat.le_of_ble_eq_true rfl)⟩) hS (fun r_6 H_6 locs hp hS => ?_)
  obtain ⟨rfl, rfl⟩ := hp
  have hlt_6 := lowN_lt (v >>> ((zI 24) &&& 31)) (n := 8) (by omega)
  refine gz_if_ne (tgt := 16) hx hb ⟨by omega, by omega⟩ dL_act_9 (by decide) (fun c_9 => ?_) (fun c_9 => ?_)
  · refine lv_iconst (v := zI 0) hx hb dL_act_16 rfl ?_
    refine lv_istore_n (lv' := [(2, .int (zI 0)), (0, .ref (A 0)), (1, .int v)]) hx hb dL_act_17 rfl hl (by decide) rfl (fun ls hl => ?_)
    exact seg18 0 (by unfold aOdd; first | rw [if_neg (by omega)] | rw [if_pos (by omega)]) _ hS ls (lv_sub hl [0, 1, 2] rfl)
  · refine lv_iconst (v := zI 1) hx hb dL_act_12 rfl ?_
    refine lv_goto (tgt := 17) hx hb dL_act_13 (by decide) ?_
    refine lv_istore_n (lv' := [(2, .int (zI 1)), (0, .ref (A 0)), (1, .int v)]) hx hb dL_act_17 rfl hl (by decide) rfl (fun ls hl => ?_)
    exact seg18 1 (by unfold aOdd; first | rw [if_neg (by omega)] | rw [if_pos (by omega)]) _ hS ls (lv_sub hl [0, 1, 2] rfl)
