set_option maxHeartbeats 4000000 in
set_option maxRecDepth 100000 in
theorem k_costOfMove (l : Launch) (G : gG) (mt ra rb ta : Nat) (X : cX) (tb : Nat → Int32) (H : Heap) (hM : Mat G mt ra rb ta X tb H) (hX1 : xOK X) (t : Nat → Nat) (rr : Bool) (hT : Tun G t (xn X) (xf X) (xg X) rr H) (zq zj zq2 zj2 : Int) (q j q2 j2 : Nat) (hq : zq = q) (hj : zj = j) (hq2 : zq2 = q2) (hj2 : zj2 = j2) (hqq : q < q2) (hqh : q2 < xh X) (hjj : j < j2) (hjn : j2 < xn X) : gM l yX1_costOfMove wsX1_costOfMove rm_X1_costOfMove [.ref mt, .ref (t 0), .int (zI zq), .int (zI zj), .int (zI zq2), .int (zI zj2)] G H (gi (fun r H1 => zI (mv X q j q2 j2) = r ∧ H = H1)) (gNo) 0 0 := by
  obtain ⟨hm, hhr, hta, gta, na1, na2, na3⟩ := id hM
  obtain ⟨hxn, hxf, hxg, hxh, hxhf, hxsl, hxor, hxrp⟩ := id hX1
  obtain ⟨ht, hp1, hl1, gt, htd⟩ := id hT
  have hf1 := hxf j
  have hf2 := hxf j2
  have hh1 := hxhf q
  have hh2 := hxhf q2
  refine g_start (cc := cX1_costOfMove) (maxL := 11) (ret := (some .int)) (by decide +kernel) rfl (Nat.le_of_ble_eq_true rfl) ?_
  intro p e s m args below meth c F ls hl
  obtain ⟨hx, hb, hml, hr, hts, hown, hlocks, hxt, hH, hX, hin⟩ := F
  have hown : s.vm.findClass RX1 = some m.cls := hown
  have hS : va_S (gA G) s.heap H [] := by rw [hH]; exact va_S.rf
  have hl : lv_has ls 11 [(0, .ref mt), (1, .ref (t 0)), (2, .int (zI zq)), (3, .int (zI zj)), (4, .int (zI zq2)), (5, .int (zI zj2))] := hl
  refine lv_aload_n hx hb dX1_costOfMove_0 rfl (lv_at hl 1 rfl) ?_
  refine g_getN hx hb hX hts (fun w h => (List.mem_cons_of_mem _ (List.mem_append_left _ (List.mem_append_left _ (List.mem_append_right _ h))))) hown ht rfl 0 (by decide) (by decide +kernel : Cond.fieldLinkNest RX1 75 "TuneCatalogue$Tune" "pitches" "LTuneCatalogue$Row;" RX4 ∈ gNW) rfl dX1_costOfMove_1 ?_
  refine lv_iload hx hb dX1_costOfMove_4 (lv_at hl 5 rfl) ?_
  refine g_goi (vx_runV (As := [.int (zI zj2)]) (rest := []) ⟨hx, hb, hml, hown, hts⟩ (k_at l G (t 1) (t 2) 24 (xn X) _ H hp1 zj2 j2 (by omega) (by omega)) (cwV 1 hts gX1_costOfMove_X2_at rfl rfl rfl hd_X2_at ⟨(Nat.le_of_ble_eq_true rfl), (Nat.le_of_ble_eq_true rfl)⟩) (g_preV hX hS (ci := 2) rfl hp1.1) rfl rfl hl.1 rfl (lv_room (Nat.le_of_ble_eq_true rfl)) dX1_costOfMove_6 ⟨(Nat.le_of_ble_eq_true rfl), (Nat.le_of_ble_eq_true rfl)⟩) hS (fun r_6 H_6 locs hp hS => ?_)
  obtain ⟨rfl, rfl⟩ := hp
  refine lv_aload_n hx hb dX1_costOfMove_9 rfl (lv_at hl 1 rfl) ?_
  refine g_getN hx hb hX hts (fun w h => (List.mem_cons_of_mem _ (List.mem_append_left _ (List.mem_append_left _ (List.mem_append_right _ h))))) hown ht rfl 0 (by decide) (by decide +kernel : Cond.fieldLinkNest RX1 75 "TuneCatalogue$Tune" "pitches" "LTuneCatalogue$Row;" RX4 ∈ gNW) rfl dX1_costOfMove_10 ?_
  refine lv_iload_n hx hb dX1_costOfMove_13 rfl (lv_at hl 3 rfl) ?_
  refine g_goi (vx_runV (As := [.int (zI zj)]) (rest := [.int (zI (xf X j2))]) ⟨hx, hb, hml, hown, hts⟩ (k_at l G (t 1) (t 2) 24 (xn X) _ H hp1 zj j (by omega) (by omega)) (cwV 1 hts gX1_costOfMove_X2_at rfl rfl rfl hd_X2_at ⟨(Nat.le_of_ble_eq_true rfl), (Nat.le_of_ble_eq_true rfl)⟩) (g_preV hX hS (ci := 2) rfl hp1.1) rfl rfl hl.1 rfl (lv_room (Nat.le_of_ble_eq_true rfl)) dX1_costOfMove_14 ⟨(Nat.le_of_ble_eq_true rfl), (Nat.le_of_ble_eq_true rfl)⟩) hS (fun r_14 H_14 locs hp hS => ?_)
  obtain ⟨rfl, rfl⟩ := hp
  refine gz_isub hx hb dX1_costOfMove_17 ?_
  refine lv_istore (lv' := [(6, .int (zI ((xf X j2) - (xf X j)))), (0, .ref mt), (1, .ref (t 0)), (2, .int (zI zq)), (3, .int (zI zj)), (4, .int (zI zq2)), (5, .int (zI zj2))]) hx hb dX1_costOfMove_18 hl (by decide) rfl (fun ls hl => ?_)
  refine lv_aload_n hx hb dX1_costOfMove_20 rfl (lv_at hl 1 rfl) ?_
  refine g_get hx hb hX hts (fun w h => (List.mem_cons_of_mem _ (List.mem_append_left _ (List.mem_append_right _ h)))) hown hm rfl 0 (by decide) (hts (.fieldLink RX1 14 "TuneCatalogue$Matching" "hum" "LTuneCatalogue$Row;") (List.mem_cons_of_mem _ (List.mem_append_left _ (List.mem_append_left _ (List.mem_append_left _ (List.mem_of_getElem? (i := 0) rfl)))))) rfl dX1_costOfMove_21 ?_
  refine lv_iload hx hb dX1_costOfMove_24 (lv_at hl 5 rfl) ?_
  refine g_goi (vx_runV (As := [.int (zI zq2)]) (rest := []) ⟨hx, hb, hml, hown, hts⟩ (k_at l G ra rb 12 (xh X) _ H hhr zq2 q2 (by omega) (by omega)) (cwV 1 hts gX1_costOfMove_X2_at rfl rfl rfl hd_X2_at ⟨(Nat.le_of_ble_eq_true rfl), (Nat.le_of_ble_eq_true rfl)⟩) (g_preV hX hS (ci := 2) rfl hhr.1) rfl rfl hl.1 rfl (lv_room (Nat.le_of_ble_eq_true rfl)) dX1_costOfMove_26 ⟨(Nat.le_of_ble_eq_true rfl), (Nat.le_of_ble_eq_true rfl)⟩) hS (fun r_26 H_26 locs hp hS => ?_)
  obtain ⟨rfl, rfl⟩ := hp
  refine lv_aload_n hx hb dX1_costOfMove_29 rfl (lv_at hl 1 rfl) ?_
  refine g_get hx hb hX hts (fun w h => (List.mem_cons_of_mem _ (List.mem_append_left _ (List.mem_append_right _ h)))) hown hm rfl 0 (by decide) (hts (.fieldLink RX1 14 "TuneCatalogue$Matching" "hum" "LTuneCatalogue$Row;") (List.mem_cons_of_mem _ (List.mem_append_left _ (List.mem_append_left _ (List.mem_append_left _ (List.mem_of_getElem? (i := 0) rfl)))))) rfl dX1_costOfMove_30 ?_
  refine lv_iload_n hx hb dX1_costOfMove_33 rfl (lv_at hl 3 rfl) ?_
  refine g_goi (vx_runV (As := [.int (zI zq)]) (rest := [.int (zI (xhf X q2))]) ⟨hx, hb, hml, hown, hts⟩ (k_at l G ra rb 12 (xh X) _ H hhr zq q (by omega) (by omega)) (cwV 1 hts gX1_costOfMove_X2_at rfl rfl rfl hd_X2_at ⟨(Nat.le_of_ble_eq_true rfl), (Nat.le_of_ble_eq_true rfl)⟩) (g_preV hX hS (ci := 2) rfl hhr.1) rfl rfl hl.1 rfl (lv_room (Nat.le_of_ble_eq_true rfl)) dX1_costOfMove_34 ⟨(Nat.le_of_ble_eq_true rfl), (Nat.le_of_ble_eq_true rfl)⟩) hS (fun r_34 H_34 locs hp hS => ?_)
  obtain ⟨rfl, rfl⟩ := hp
  refine gz_isub hx hb dX1_costOfMove_37 ?_
  refine lv_istore (lv' := [(7, .int (zI ((xhf X q2) - (xhf X q)))), (6, .int (zI ((xf X j2) - (xf X j)))), (0, .ref mt), (1, .ref (t 0)), (2, .int (zI zq)), (3, .int (zI zj)), (4, .int (zI zq2)), (5, .int (zI zj2))]) hx hb dX1_costOfMove_38 hl (by decide) rfl (fun ls hl => ?_)
  refine lv_aload_n hx hb dX1_costOfMove_40 rfl (lv_at hl 2 rfl) ?_
  refine g_get hx hb hX hts (fun w h => (List.mem_cons_of_mem _ (List.mem_append_left _ (List.mem_append_right _ h)))) hown hm rfl 1 (by decide) (hts (.fieldLink RX1 20 "TuneCatalogue$Matching" "slip" "I") (List.mem_cons_of_mem _ (List.mem_append_left _ (List.mem_append_left _ (List.mem_append_left _ (List.mem_of_getElem? (i := 1) rfl)))))) rfl dX1_costOfMove_41 ?_
  refine lv_iload hx hb dX1_costOfMove_44 (lv_at hl 1 rfl) ?_
  refine lv_iload hx hb dX1_costOfMove_46 (lv_at hl 0 rfl) ?_
  refine gz_isub hx hb dX1_costOfMove_48 ?_
  refine gz_mabs hx hb (hml.trans hl.1.symm) hown (hts (.methodLink RX1 82 Lib.Math.abs.name) (List.mem_cons_of_mem _ (List.mem_append_left _ (List.mem_append_left _ (List.mem_append_left _ (List.mem_of_getElem? (i := 2) rfl)))))) (hts (.static Lib.Math.abs.name) (List.mem_cons_of_mem _ (List.mem_append_left _ (List.mem_append_left _ (List.mem_append_left _ (List.mem_of_getElem? (i := 3) rfl)))))) (hts (.initialized "java/lang/Math") (List.mem_cons_of_mem _ (List.mem_append_left _ (List.mem_append_left _ (List.mem_append_left _ (List.mem_of_getElem? (i := 4) rfl)))))) (hts (.code Lib.Math.abs.name Lib.Math.abs.code 1 (some .int)) (List.mem_cons_of_mem _ (List.mem_append_left _ (List.mem_append_left _ (List.mem_append_left _ (List.mem_of_getElem? (i := 5) rfl)))))) (Nat.le_of_ble_eq_true rfl) (Nat.le_of_ble_eq_true rfl) (Nat.le_of_ble_eq_true rfl) (Nat.le_of_ble_eq_true rfl) ⟨by omega, by omega⟩ dX1_costOfMove_49 ?_
  refine gz_imul hx hb dX1_costOfMove_52 ?_
  refine lv_istore (lv' := [(8, .int (zI ((xsl X) * (if 0 ≤ (((xf X j2) - (xf X j)) - ((xhf X q2) - (xhf X q))) then (((xf X j2) - (xf X j)) - ((xhf X q2) - (xhf X q))) else -(((xf X j2) - (xf X j)) - ((xhf X q2) - (xhf X q))))))), (7, .int (zI ((xhf X q2) - (xhf X q)))), (6, .int (zI ((xf X j2) - (xf X j)))), (0, .ref mt), (1, .ref (t 0)), (2, .int (zI zq)), (3, .int (zI zj)), (4, .int (zI zq2)), (5, .int (zI zj2))]) hx hb dX1_costOfMove_53 hl (by decide) rfl (fun ls hl => ?_)
  obtain ⟨A0, hA0⟩ : ∃ y : Int, y = xsl X * absI ((xf X j2 - xf X j) - (xhf X q2 - xhf X q)) := ⟨_, rfl⟩
  have hl : lv_has ls 11 [(8, .int (zI A0)), (7, .int (zI ((xhf X q2) - (xhf X q)))), (6, .int (zI ((xf X j2) - (xf X j)))), (0, .ref mt), (1, .ref (t 0)), (2, .int (zI zq)), (3, .int (zI zj)), (4, .int (zI zq2)), (5, .int (zI zj2))] := by rw [hA0]; exact hl
  clear hf1 hf2 hh1 hh2
  refine lv_iload_n hx hb dX1_costOfMove_55 rfl (lv_at hl 6 rfl) ?_
  refine lv_iconst (v := zI 1) hx hb dX1_costOfMove_56 rfl ?_
  refine gz_iadd hx hb dX1_costOfMove_57 ?_
  refine lv_istore (lv' := [(9, .int (zI (zj + 1))), (8, .int (zI A0)), (7, .int (zI ((xhf X q2) - (xhf X q)))), (6, .int (zI ((xf X j2) - (xf X j)))), (0, .ref mt), (1, .ref (t 0)), (2, .int (zI zq)), (3, .int (zI zj)), (4, .int (zI zq2)), (5, .int (zI zj2))]) hx hb dX1_costOfMove_58 hl (by decide) rfl (fun ls hl => ?_)
  have loop_60 : ∀ (M_ : Nat) (y : Int) (d : Nat) (x : Int) (locs : List Loc), j2 - (j + 1) - d < M_ → (y = j + 1 + d) → (d ≤ j2 - (j + 1)) → (x = A0 + sN (onF X) (j + 1) d) → va_S (gA G) s.heap H locs → ∀ (ls : Array Slot), lv_has ls 11 [(9, .int (zI y)), (8, .int (zI x)), (0, .ref mt), (1, .ref (t 0)), (2, .int (zI zq)), (3, .int (zI zj)), (4, .int (zI zq2)), (5, .int (zI zj2))] → W p l e rm_X1_costOfMove s m args below meth c H locs (0) (0) (vx_MQ below (gQ G (gi (fun r H1 => zI (mv X q j q2 j2) = r ∧ H = H1))) (gXC G (gNo)) args s 0 0 (gA G)) (F0 m 60 ls []) := by
    intro M_
    induction M_ with
    | zero => intro y d x locs_0 h_0; exact absurd h_0 (Nat.not_lt_zero _)
    | succ M_ ih_60 =>
      intro y d x locs hM_60 hy hd hx1 hS ls hl
      refine lv_iload hx hb dX1_costOfMove_60 (lv_at hl 0 rfl) ?_
      refine lv_iload hx hb dX1_costOfMove_62 (lv_at hl 7 rfl) ?_
      refine gz_icmp_ge (tgt := 92) hx hb ⟨by omega, by omega⟩ ⟨by omega, by omega⟩ dX1_costOfMove_64 (by decide) (fun c_64 => ?_) (fun c_64 => ?_)
      · refine lv_iload_n hx hb dX1_costOfMove_92 rfl (lv_at hl 4 rfl) ?_
        refine lv_iconst (v := zI 1) hx hb dX1_costOfMove_93 rfl ?_
        refine gz_iadd hx hb dX1_costOfMove_94 ?_
        refine lv_istore (lv' := [(9, .int (zI (zq + 1))), (8, .int (zI x)), (0, .ref mt), (1, .ref (t 0)), (2, .int (zI zq)), (3, .int (zI zj)), (4, .int (zI zq2)), (5, .int (zI zj2))]) hx hb dX1_costOfMove_95 hl (by decide) rfl (fun ls hl => ?_)
        have hxm : x = A0 + sN (onF X) (j + 1) (j2 - (j + 1)) := by rw [hx1, show d = j2 - (j + 1) by omega]
        clear hx1 hy hd
        have loop_97 : ∀ (M_ : Nat) (y : Int) (d : Nat) (z : Int) (locs : List Loc), q2 - (q + 1) - d < M_ → (y = q + 1 + d) → (d ≤ q2 - (q + 1)) → (z = x + sN (rpF X) (q + 1) d) → va_S (gA G) s.heap H locs → ∀ (ls : Array Slot), lv_has ls 11 [(9, .int (zI y)), (8, .int (zI z)), (0, .ref mt), (1, .ref (t 0)), (2, .int (zI zq)), (3, .int (zI zj)), (4, .int (zI zq2)), (5, .int (zI zj2))] → W p l e rm_X1_costOfMove s m args below meth c H locs (0) (0) (vx_MQ below (gQ G (gi (fun r H1 => zI (mv X q j q2 j2) = r ∧ H = H1))) (gXC G (gNo)) args s 0 0 (gA G)) (F0 m 97 ls []) := by
          intro M_
          induction M_ with
          | zero => intro y d z locs_0 h_0; exact absurd h_0 (Nat.not_lt_zero _)
          | succ M_ ih_97 =>
            intro y d z locs hM_97 hy hd hz1 hS ls hl
            refine lv_iload hx hb dX1_costOfMove_97 (lv_at hl 0 rfl) ?_
            refine lv_iload hx hb dX1_costOfMove_99 (lv_at hl 6 rfl) ?_
            refine gz_icmp_ge (tgt := 163) hx hb ⟨by omega, by omega⟩ ⟨by omega, by omega⟩ dX1_costOfMove_101 (by decide) (fun c_101 => ?_) (fun c_101 => ?_)
            · refine lv_iload hx hb dX1_costOfMove_163 (lv_at hl 1 rfl) ?_
              exact g_reti hx hb hr hlocks hS rfl (⟨by rw [hz1, show d = q2 - (q + 1) by omega, hxm, hA0]; rfl, rfl⟩) (Nat.le_of_ble_eq_true rfl) (Nat.le_of_ble_eq_true rfl) dX1_costOfMove_165
            · refine lv_aload_n hx hb dX1_costOfMove_104 rfl (lv_at hl 2 rfl) ?_
              refine g_get hx hb hX hts (fun w h => (List.mem_cons_of_mem _ (List.mem_append_left _ (List.mem_append_right _ h)))) hown hm rfl 0 (by decide) (hts (.fieldLink RX1 14 "TuneCatalogue$Matching" "hum" "LTuneCatalogue$Row;") (List.mem_cons_of_mem _ (List.mem_append_left _ (List.mem_append_left _ (List.mem_append_left _ (List.mem_of_getElem? (i := 0) rfl)))))) rfl dX1_costOfMove_105 ?_
              refine lv_iload hx hb dX1_costOfMove_108 (lv_at hl 0 rfl) ?_
              refine g_goi (vx_runV (As := [.int (zI y)]) (rest := []) ⟨hx, hb, hml, hown, hts⟩ (k_at l G ra rb 12 (xh X) _ H hhr y (q + 1 + d) (by omega) (by omega)) (cwV 1 hts gX1_costOfMove_X2_at rfl rfl rfl hd_X2_at ⟨(Nat.le_of_ble_eq_true rfl), (Nat.le_of_ble_eq_true rfl)⟩) (g_preV hX hS (ci := 2) rfl hhr.1) rfl rfl hl.1 rfl (lv_room (Nat.le_of_ble_eq_true rfl)) dX1_costOfMove_110 ⟨(Nat.le_of_ble_eq_true rfl), (Nat.le_of_ble_eq_true rfl)⟩) hS (fun r_110 H_110 locs hp hS => ?_)
              obtain ⟨rfl, rfl⟩ := hp
              refine lv_aload_n hx hb dX1_costOfMove_113 rfl (lv_at hl 2 rfl) ?_
              refine g_get hx hb hX hts (fun w h => (List.mem_cons_of_mem _ (List.mem_append_left _ (List.mem_append_right _ h)))) hown hm rfl 0 (by decide) (hts (.fieldLink RX1 14 "TuneCatalogue$Matching" "hum" "LTuneCatalogue$Row;") (List.mem_cons_of_mem _ (List.mem_append_left _ (List.mem_append_left _ (List.mem_append_left _ (List.mem_of_getElem? (i := 0) rfl)))))) rfl dX1_costOfMove_114 ?_
              refine lv_iload hx hb dX1_costOfMove_117 (lv_at hl 0 rfl) ?_
              refine lv_iconst (v := zI 1) hx hb dX1_costOfMove_119 rfl ?_
              refine gz_isub hx hb dX1_costOfMove_120 ?_
              refine g_goi (vx_runV (As := [.int (zI (y - 1))]) (rest := [.int (zI (xhf X (q + 1 + d)))]) ⟨hx, hb, hml, hown, hts⟩ (k_at l G ra rb 12 (xh X) _ H hhr (y - 1) (q + 1 + d - 1) (by omega) (by omega)) (cwV 1 hts gX1_costOfMove_X2_at rfl rfl rfl hd_X2_at ⟨(Nat.le_of_ble_eq_true rfl), (Nat.le_of_ble_eq_true rfl)⟩) (g_preV hX hS (ci := 2) rfl hhr.1) rfl rfl hl.1 rfl (lv_room (Nat.le_of_ble_eq_true rfl)) dX1_costOfMove_121 ⟨(Nat.le_of_ble_eq_true rfl), (Nat.le_of_ble_eq_true rfl)⟩) hS (fun r_121 H_121 locs hp hS => ?_)
              obtain ⟨rfl, rfl⟩ := hp
              refine gz_icmp_ne (tgt := 131) hx hb (by have h1 := hxhf (q + 1 + d); have h2 := hxhf (q + 1 + d - 1); exact ⟨by omega, by omega⟩) (by have h1 := hxhf (q + 1 + d); have h2 := hxhf (q + 1 + d - 1); exact ⟨by omega, by omega⟩) dX1_costOfMove_124 (by decide) (fun c_124 => ?_) (fun c_124 => ?_)
              · refine lv_iconst (v := zI 0) hx hb dX1_costOfMove_131 rfl ?_
                refine lv_istore (lv' := [(10, .int (zI 0)), (9, .int (zI y)), (8, .int (zI z)), (0, .ref mt), (1, .ref (t 0)), (2, .int (zI zq)), (3, .int (zI zj)), (4, .int (zI zq2)), (5, .int (zI zj2))]) hx hb dX1_costOfMove_132 hl (by decide) rfl (fun ls hl => ?_)
                refine lv_iload hx hb dX1_costOfMove_134 (lv_at hl 2 rfl) ?_
                refine lv_iload hx hb dX1_costOfMove_136 (lv_at hl 0 rfl) ?_
                refine gz_if_eq (tgt := 148) hx hb (by decide) dX1_costOfMove_138 (by decide) (fun c_138 => ?_) (fun c_138 => ?_)
                · refine lv_iconst (v := zI 3) hx hb dX1_costOfMove_148 rfl ?_
                  refine lv_aload_n hx hb dX1_costOfMove_149 rfl (lv_at hl 3 rfl) ?_
                  refine g_get hx hb hX hts (fun w h => (List.mem_cons_of_mem _ (List.mem_append_left _ (List.mem_append_right _ h)))) hown hm rfl 3 (by decide) (hts (.fieldLink RX1 27 "TuneCatalogue$Matching" "repeat" "I") (List.mem_cons_of_mem _ (List.mem_append_left _ (List.mem_append_left _ (List.mem_append_left _ (List.mem_of_getElem? (i := 7) rfl)))))) rfl dX1_costOfMove_150 ?_
                  refine gz_imul hx hb dX1_costOfMove_153 ?_
                  refine gz_iadd hx hb dX1_costOfMove_154 ?_
                  refine lv_istore (lv' := [(8, .int (zI (z + (3 * (xrp X))))), (10, .int (zI 0)), (9, .int (zI y)), (0, .ref mt), (1, .ref (t 0)), (2, .int (zI zq)), (3, .int (zI zj)), (4, .int (zI zq2)), (5, .int (zI zj2))]) hx hb dX1_costOfMove_155 hl (by decide) rfl (fun ls hl => ?_)
                  have hz2 : z + (3 * (xrp X)) = x + sN (rpF X) (q + 1) (d + 1) := by
                    rw [sN, hz1, rpF]
                    first
                    | (rw [if_pos (Classical.not_not.mp c_124)]; omega)
                    | (rw [if_neg c_124]; omega)
                  refine lv_iinc (v := zI (y + 1)) (lv' := [(9, .int (zI (y + 1))), (8, .int (zI (z + (3 * (xrp X))))), (10, .int (zI 0)), (0, .ref mt), (1, .ref (t 0)), (2, .int (zI zq)), (3, .int (zI zj)), (4, .int (zI zq2)), (5, .int (zI zj2))]) hx hb dX1_costOfMove_157 hl (k := 2) rfl (zI_add _ _) (by decide) rfl (fun ls hl => ?_)
                  refine lv_goto (tgt := 97) hx hb dX1_costOfMove_160 (by decide) ?_
                  exact ih_97 (y + 1) (d + 1) _ _ (by omega) (by omega) (by omega) hz2 hS ls (lv_sub hl [0, 1, 3, 4, 5, 6, 7, 8] rfl)
                · omega
              · refine lv_iconst (v := zI 1) hx hb dX1_costOfMove_127 rfl ?_
                refine lv_goto (tgt := 132) hx hb dX1_costOfMove_128 (by decide) ?_
                refine lv_istore (lv' := [(10, .int (zI 1)), (9, .int (zI y)), (8, .int (zI z)), (0, .ref mt), (1, .ref (t 0)), (2, .int (zI zq)), (3, .int (zI zj)), (4, .int (zI zq2)), (5, .int (zI zj2))]) hx hb dX1_costOfMove_132 hl (by decide) rfl (fun ls hl => ?_)
                refine lv_iload hx hb dX1_costOfMove_134 (lv_at hl 2 rfl) ?_
                refine lv_iload hx hb dX1_costOfMove_136 (lv_at hl 0 rfl) ?_
                refine gz_if_eq (tgt := 148) hx hb (by decide) dX1_costOfMove_138 (by decide) (fun c_138 => ?_) (fun c_138 => ?_)
                · omega
                · refine lv_aload_n hx hb dX1_costOfMove_141 rfl (lv_at hl 3 rfl) ?_
                  refine g_get hx hb hX hts (fun w h => (List.mem_cons_of_mem _ (List.mem_append_left _ (List.mem_append_right _ h)))) hown hm rfl 3 (by decide) (hts (.fieldLink RX1 27 "TuneCatalogue$Matching" "repeat" "I") (List.mem_cons_of_mem _ (List.mem_append_left _ (List.mem_append_left _ (List.mem_append_left _ (List.mem_of_getElem? (i := 7) rfl)))))) rfl dX1_costOfMove_142 ?_
                  refine lv_goto (tgt := 154) hx hb dX1_costOfMove_145 (by decide) ?_
                  refine gz_iadd hx hb dX1_costOfMove_154 ?_
                  refine lv_istore (lv' := [(8, .int (zI (z + (xrp X)))), (10, .int (zI 1)), (9, .int (zI y)), (0, .ref mt), (1, .ref (t 0)), (2, .int (zI zq)), (3, .int (zI zj)), (4, .int (zI zq2)), (5, .int (zI zj2))]) hx hb dX1_costOfMove_155 hl (by decide) rfl (fun ls hl => ?_)
                  have hz2 : z + (xrp X) = x + sN (rpF X) (q + 1) (d + 1) := by
                    rw [sN, hz1, rpF]
                    first
                    | (rw [if_pos (Classical.not_not.mp c_124)]; omega)
                    | (rw [if_neg c_124]; omega)
                  refine lv_iinc (v := zI (y + 1)) (lv' := [(9, .int (zI (y + 1))), (8, .int (zI (z + (xrp X)))), (10, .int (zI 1)), (0, .ref mt), (1, .ref (t 0)), (2, .int (zI zq)), (3, .int (zI zj)), (4, .int (zI zq2)), (5, .int (zI zj2))]) hx hb dX1_costOfMove_157 hl (k := 2) rfl (zI_add _ _) (by decide) rfl (fun ls hl => ?_)
                  refine lv_goto (tgt := 97) hx hb dX1_costOfMove_160 (by decide) ?_
                  exact ih_97 (y + 1) (d + 1) _ _ (by omega) (by omega) (by omega) hz2 hS ls (lv_sub hl [0, 1, 3, 4, 5, 6, 7, 8] rfl)
        exact loop_97 _ (zq + 1) 0 x _ (Nat.lt_succ_self _) (by omega) (Nat.zero_le _) (by rw [sN]; omega) hS ls (lv_sub hl [0, 1, 2, 3, 4, 5, 6, 7] rfl)
      · refine lv_iload hx hb dX1_costOfMove_67 (lv_at hl 1 rfl) ?_
        refine lv_aload_n hx hb dX1_costOfMove_69 rfl (lv_at hl 2 rfl) ?_
        refine g_get hx hb hX hts (fun w h => (List.mem_cons_of_mem _ (List.mem_append_left _ (List.mem_append_right _ h)))) hown hm rfl 2 (by decide) (hts (.fieldLink RX1 24 "TuneCatalogue$Matching" "ornament" "I") (List.mem_cons_of_mem _ (List.mem_append_left _ (List.mem_append_left _ (List.mem_append_left _ (List.mem_of_getElem? (i := 6) rfl)))))) rfl dX1_costOfMove_70 ?_
        refine lv_aload_n hx hb dX1_costOfMove_73 rfl (lv_at hl 3 rfl) ?_
        refine g_getN hx hb hX hts (fun w h => (List.mem_cons_of_mem _ (List.mem_append_left _ (List.mem_append_left _ (List.mem_append_right _ h))))) hown ht rfl 1 (by decide) (by decide +kernel : Cond.fieldLinkNest RX1 87 "TuneCatalogue$Tune" "lengths" "LTuneCatalogue$Row;" RX4 ∈ gNW) rfl dX1_costOfMove_74 ?_
        refine lv_iload hx hb dX1_costOfMove_77 (lv_at hl 0 rfl) ?_
        refine g_goi (vx_runV (As := [.int (zI y)]) (rest := [.int (zI (xor' X)), .int (zI x)]) ⟨hx, hb, hml, hown, hts⟩ (k_at l G (t 3) (t 4) 24 (xn X) _ H hl1 y (j + 1 + d) (by omega) (by omega)) (cwV 1 hts gX1_costOfMove_X2_at rfl rfl rfl hd_X2_at ⟨(Nat.le_of_ble_eq_true rfl), (Nat.le_of_ble_eq_true rfl)⟩) (g_preV hX hS (ci := 2) rfl hl1.1) rfl rfl hl.1 rfl (lv_room (Nat.le_of_ble_eq_true rfl)) dX1_costOfMove_79 ⟨(Nat.le_of_ble_eq_true rfl), (Nat.le_of_ble_eq_true rfl)⟩) hS (fun r_79 H_79 locs hp hS => ?_)
        obtain ⟨rfl, rfl⟩ := hp
        refine gz_imul hx hb dX1_costOfMove_82 ?_
        refine gz_iadd hx hb dX1_costOfMove_83 ?_
        refine lv_istore (lv' := [(8, .int (zI (x + ((xor' X) * (xg X (j + 1 + d)))))), (9, .int (zI y)), (0, .ref mt), (1, .ref (t 0)), (2, .int (zI zq)), (3, .int (zI zj)), (4, .int (zI zq2)), (5, .int (zI zj2))]) hx hb dX1_costOfMove_84 hl (by decide) rfl (fun ls hl => ?_)
        refine lv_iinc (v := zI (y + 1)) (lv' := [(9, .int (zI (y + 1))), (8, .int (zI (x + ((xor' X) * (xg X (j + 1 + d)))))), (0, .ref mt), (1, .ref (t 0)), (2, .int (zI zq)), (3, .int (zI zj)), (4, .int (zI zq2)), (5, .int (zI zj2))]) hx hb dX1_costOfMove_86 hl (k := 1) rfl (zI_add _ _) (by decide) rfl (fun ls hl => ?_)
        refine lv_goto (tgt := 60) hx hb dX1_costOfMove_89 (by decide) ?_
        exact ih_60 (y + 1) (d + 1) _ _ (by omega) (by omega) (by omega) (by rw [sN, hx1]; show _ = A0 + (sN (onF X) (j + 1) d + xor' X * xg X (j + 1 + d)); omega) hS ls (lv_sub hl [0, 1, 2, 3, 4, 5, 6, 7] rfl)
  exact loop_60 _ (zj + 1) 0 A0 _ (Nat.lt_succ_self _) (by omega) (Nat.zero_le _) (by rw [sN]; omega) hS ls (lv_sub hl [0, 1, 4, 5, 6, 7, 8, 9] rfl)
set_option maxHeartbeats 4000000 in
set_option maxRecDepth 100000 in
theorem k_costBy (l : Launch) (G : gG) (mt ra rb ta : Nat) (X : cX) (tb : Nat → Int32) (H : Heap) (hM : Mat G mt ra rb ta X tb H) (hX1 : xOK X) (t : Nat → Nat) (rr : Bool) (hT : Tun G t (xn X) (xf X) (xg X) rr H) (zq zj zq2 zj2 : Int) (q2 j2 : Nat) (hq2 : zq2 = q2) (hj2 : zj2 = j2) (hqh : q2 < xh X) (hjn : j2 < xn X) (hzq : -4 ≤ zq ∧ zq < q2 ∧ q2 ≤ zq + 3) (hzj : -4 ≤ zj ∧ zj < j2 ∧ j2 ≤ zj + 3) (hTb : ∀ a b : Nat, a < q2 → b < xn X → tb (24 * a + b) = zI (dp X a b)) : gM l yX1_costBy wsX1_costBy rm_X1_costBy [.ref mt, .ref (t 0), .int (zI zq), .int (zI zj), .int (zI zq2), .int (zI zj2)] G H (gi (fun r H1 => zI (viaT (dp X) X zq zj q2 j2) = r ∧ H = H1)) (gNo) 0 0 := by
  obtain ⟨hm, hhr, hta, gta, na1, na2, na3⟩ := id hM
  obtain ⟨hxn, hxf, hxg, hxh, hxhf, hxsl, hxor, hxrp⟩ := id hX1
  have hV : -1 ≤ (if zq < 0 ∨ zj < 0 then -1 else dp X zq.toNat zj.toNat) ∧ (if zq < 0 ∨ zj < 0 then -1 else dp X zq.toNat zj.toNat) ≤ 36000 := by
    by_cases hc : zq < 0 ∨ zj < 0
    · rw [if_pos hc]; omega
    · rw [if_neg hc]; exact dp_rI hX1 _ (by omega)
  refine g_start (cc := cX1_costBy) (maxL := 7) (ret := (some .int)) (by decide +kernel) rfl (Nat.le_of_ble_eq_true rfl) ?_
  intro p e s m args below meth c F ls hl
  obtain ⟨hx, hb, hml, hr, hts, hown, hlocks, hxt, hH, hX, hin⟩ := F
  have hown : s.vm.findClass RX1 = some m.cls := hown
  have hS : va_S (gA G) s.heap H [] := by rw [hH]; exact va_S.rf
  have hl : lv_has ls 7 [(0, .ref mt), (1, .ref (t 0)), (2, .int (zI zq)), (3, .int (zI zj)), (4, .int (zI zq2)), (5, .int (zI zj2))] := hl
  refine lv_aload_n hx hb dX1_costBy_0 rfl (lv_at hl 0 rfl) ?_
  refine lv_iload_n hx hb dX1_costBy_1 rfl (lv_at hl 2 rfl) ?_
  refine lv_iload_n hx hb dX1_costBy_2 rfl (lv_at hl 3 rfl) ?_
  refine g_goi (vx_runV (As := [.int (zI zq), .int (zI zj)]) (rest := []) ⟨hx, hb, hml, hown, hts⟩ (k_tableAt l G mt ra rb ta X tb H hM hX1 zq zj (by omega) (by omega) (if zq < 0 ∨ zj < 0 then -1 else dp X zq.toNat zj.toNat) (fun h => if_pos h) (fun a b ha hb2 => by rw [hTb a b (by omega) (by omega), if_neg (by omega), ha, hb2, Int.toNat_natCast, Int.toNat_natCast])) (cwV 2 hts gX1_costBy_X1_tableAt rfl rfl rfl hd_X1_tableAt ⟨(Nat.le_of_ble_eq_true rfl), (Nat.le_of_ble_eq_true rfl)⟩) (g_preV hX hS (ci := 1) rfl hm) rfl rfl hl.1 rfl (lv_room (Nat.le_of_ble_eq_true rfl)) dX1_costBy_3 ⟨(Nat.le_of_ble_eq_true rfl), (Nat.le_of_ble_eq_true rfl)⟩) hS (fun r_3 H_3 locs hp hS => ?_)
  obtain ⟨rfl, rfl⟩ := hp
  refine lv_istore (lv' := [(6, .int (zI (if zq < 0 ∨ zj < 0 then -1 else dp X zq.toNat zj.toNat))), (0, .ref mt), (1, .ref (t 0)), (2, .int (zI zq)), (3, .int (zI zj)), (4, .int (zI zq2)), (5, .int (zI zj2))]) hx hb dX1_costBy_6 hl (by decide) rfl (fun ls hl => ?_)
  obtain ⟨v0, hv0⟩ : ∃ y : Int, y = (if zq < 0 ∨ zj < 0 then -1 else dp X zq.toNat zj.toNat) := ⟨_, rfl⟩
  have hl : lv_has ls 7 [(6, .int (zI v0)), (0, .ref mt), (1, .ref (t 0)), (2, .int (zI zq)), (3, .int (zI zj)), (4, .int (zI zq2)), (5, .int (zI zj2))] := by rw [hv0]; exact hl
  refine lv_iload hx hb dX1_costBy_8 (lv_at hl 0 rfl) ?_
  refine lv_iconst (v := zI (-1)) hx hb dX1_costBy_10 rfl ?_
  refine gz_icmp_ne (tgt := 18) hx hb (by rw [← hv0] at hV; exact ⟨by omega, by omega⟩) (by decide) dX1_costBy_11 (by decide) (fun c_11 => ?_) (fun c_11 => ?_)
  · have hnc : ¬ (zq < 0 ∨ zj < 0) := fun h => by rw [if_pos h] at hv0; omega
    refine lv_iload hx hb dX1_costBy_18 (lv_at hl 0 rfl) ?_
    refine lv_aload_n hx hb dX1_costBy_20 rfl (lv_at hl 1 rfl) ?_
    refine lv_aload_n hx hb dX1_costBy_21 rfl (lv_at hl 2 rfl) ?_
    refine lv_iload_n hx hb dX1_costBy_22 rfl (lv_at hl 3 rfl) ?_
    refine lv_iload_n hx hb dX1_costBy_23 rfl (lv_at hl 4 rfl) ?_
    refine lv_iload hx hb dX1_costBy_24 (lv_at hl 5 rfl) ?_
    refine lv_iload hx hb dX1_costBy_26 (lv_at hl 6 rfl) ?_
    refine g_goi (vx_runV (As := [.ref (t 0), .int (zI zq), .int (zI zj), .int (zI zq2), .int (zI zj2)]) (rest := [.int (zI v0)]) ⟨hx, hb, hml, hown, hts⟩ (k_costOfMove l G mt ra rb ta X tb H hM hX1 t rr hT zq zj zq2 zj2 zq.toNat zj.toNat q2 j2 (by omega) (by omega) hq2 hj2 (by omega) hqh (by omega) hjn) (cwV 5 hts gX1_costBy_X1_costOfMove rfl rfl rfl hd_X1_costOfMove ⟨(Nat.le_of_ble_eq_true rfl), (Nat.le_of_ble_eq_true rfl)⟩) (g_preV hX hS (ci := 1) rfl hm) rfl rfl hl.1 rfl (lv_room (Nat.le_of_ble_eq_true rfl)) dX1_costBy_28 ⟨(Nat.le_of_ble_eq_true rfl), (Nat.le_of_ble_eq_true rfl)⟩) hS (fun r_28 H_28 locs hp hS => ?_)
    obtain ⟨rfl, rfl⟩ := hp
    refine gz_iadd hx hb dX1_costBy_31 ?_
    have hfin : (v0 + (mv X zq.toNat zj.toNat q2 j2)) = viaT (dp X) X zq zj q2 j2 := by
      unfold viaT
      by_cases hc : zq < 0 ∨ zj < 0
      · first | exact absurd hc hnc | (rw [if_pos hc])
      · rw [if_neg hc] at hv0 ⊢
        rw [← hv0]
        first
        | (rw [if_pos (by omega)]; done)
        | (rw [if_neg (by omega)]; done)
    exact g_reti hx hb hr hlocks hS rfl (⟨by rw [hfin], rfl⟩) (Nat.le_of_ble_eq_true rfl) (Nat.le_of_ble_eq_true rfl) dX1_costBy_32
  · refine lv_iconst (v := zI (-1)) hx hb dX1_costBy_14 rfl ?_
    refine lv_goto (tgt := 32) hx hb dX1_costBy_15 (by decide) ?_
    have hfin : (-1) = viaT (dp X) X zq zj q2 j2 := by
      unfold viaT
      by_cases hc : zq < 0 ∨ zj < 0
      · first | exact absurd hc hnc | (rw [if_pos hc])
      · rw [if_neg hc] at hv0 ⊢
        rw [← hv0]
        first
        | (rw [if_pos (by omega)]; done)
        | (rw [if_neg (by omega)]; done)
    exact g_reti hx hb hr hlocks hS rfl (⟨by rw [hfin], rfl⟩) (Nat.le_of_ble_eq_true rfl) (Nat.le_of_ble_eq_true rfl) dX1_costBy_32
set_option maxHeartbeats 4000000 in
set_option maxRecDepth 100000 in
theorem k_cheapestTo (l : Launch) (G : gG) (mt ra rb ta : Nat) (X : cX) (tb : Nat → Int32) (H : Heap) (hM : Mat G mt ra rb ta X tb H) (hX1 : xOK X) (t : Nat → Nat) (rr : Bool) (hT : Tun G t (xn X) (xf X) (xg X) rr H) (zq zj : Int) (q j : Nat) (hq : zq = q) (hj : zj = j) (hqh : q < xh X) (hjn : j < xn X) (hTb : ∀ a b : Nat, a < q → b < xn X → tb (24 * a + b) = zI (dp X a b)) : gM l yX1_cheapestTo wsX1_cheapestTo rm_X1_cheapestTo [.ref mt, .ref (t 0), .int (zI zq), .int (zI zj)] G H (gi (fun r H1 => zI (dp X q j) = r ∧ H = H1)) (gNo) 0 0 := by
  obtain ⟨hm, hhr, hta, gta, na1, na2, na3⟩ := id hM
  obtain ⟨hxn, hxf, hxg, hxh, hxhf, hxsl, hxor, hxrp⟩ := id hX1
  refine g_start (cc := cX1_cheapestTo) (maxL := 6) (ret := (some .int)) (by decide +kernel) rfl (Nat.le_of_ble_eq_true rfl) ?_
  intro p e s m args below meth c F ls hl
  obtain ⟨hx, hb, hml, hr, hts, hown, hlocks, hxt, hH, hX, hin⟩ := F
  have hown : s.vm.findClass RX1 = some m.cls := hown
  have hS : va_S (gA G) s.heap H [] := by rw [hH]; exact va_S.rf
  have hl : lv_has ls 6 [(0, .ref mt), (1, .ref (t 0)), (2, .int (zI zq)), (3, .int (zI zj))] := hl
  subst hq
  subst hj
  refine lv_iload_n hx hb dX1_cheapestTo_0 rfl (lv_at hl 2 rfl) ?_
  refine gz_if_ne (tgt := 14) hx hb ⟨by omega, by omega⟩ dX1_cheapestTo_1 (by decide) (fun c_1 => ?_) (fun c_1 => ?_)
  · refine lv_iconst (v := zI (-1)) hx hb dX1_cheapestTo_14 rfl ?_
    refine lv_istore (lv' := [(4, .int (zI (-1))), (0, .ref mt), (1, .ref (t 0)), (2, .int (zI (q : Int))), (3, .int (zI (j : Int)))]) hx hb dX1_cheapestTo_15 hl (by decide) rfl (fun ls hl => ?_)
    refine lv_iconst (v := zI 0) hx hb dX1_cheapestTo_17 rfl ?_
    refine lv_istore (lv' := [(5, .int (zI 0)), (4, .int (zI (-1))), (0, .ref mt), (1, .ref (t 0)), (2, .int (zI (q : Int))), (3, .int (zI (j : Int)))]) hx hb dX1_cheapestTo_18 hl (by decide) rfl (fun ls hl => ?_)
    refine lv_iload hx hb dX1_cheapestTo_20 (lv_at hl 0 rfl) ?_
    refine lv_iconst (v := zI 2) hx hb dX1_cheapestTo_22 rfl ?_
    refine gz_icmp_gt (tgt := 55) hx hb (by decide) (by decide) dX1_cheapestTo_23 (by decide) (fun c_23 => ?_) (fun c_23 => ?_)
    · omega
    · refine lv_iload hx hb dX1_cheapestTo_26 (lv_at hl 1 rfl) ?_
      refine lv_aload_n hx hb dX1_cheapestTo_28 rfl (lv_at hl 2 rfl) ?_
      refine lv_aload_n hx hb dX1_cheapestTo_29 rfl (lv_at hl 3 rfl) ?_
      refine lv_iload_n hx hb dX1_cheapestTo_30 rfl (lv_at hl 4 rfl) ?_
      refine lv_iconst (v := zI 1) hx hb dX1_cheapestTo_31 rfl ?_
      refine gz_isub hx hb dX1_cheapestTo_32 ?_
      refine lv_iload_n hx hb dX1_cheapestTo_33 rfl (lv_at hl 5 rfl) ?_
      refine lv_iconst (v := zI 1) hx hb dX1_cheapestTo_34 rfl ?_
      refine gz_isub hx hb dX1_cheapestTo_35 ?_
      refine lv_iload hx hb dX1_cheapestTo_36 (lv_at hl 0 rfl) ?_
      refine gz_isub hx hb dX1_cheapestTo_38 ?_
      refine lv_iload_n hx hb dX1_cheapestTo_39 rfl (lv_at hl 4 rfl) ?_
      refine lv_iload_n hx hb dX1_cheapestTo_40 rfl (lv_at hl 5 rfl) ?_
      refine g_goi (vx_runV (As := [.ref (t 0), .int (zI ((q : Int) - 1)), .int (zI (((j : Int) - 1) - 0)), .int (zI (q : Int)), .int (zI (j : Int))]) (rest := [.int (zI (-1))]) ⟨hx, hb, hml, hown, hts⟩ (k_costBy l G mt ra rb ta X tb H hM hX1 t rr hT ((q : Int) - 1) (((j : Int) - 1) - 0) (q : Int) (j : Int) q j rfl rfl hqh hjn (by omega) (by omega) hTb) (cwV 5 hts gX1_cheapestTo_X1_costBy rfl rfl rfl hd_X1_costBy ⟨(Nat.le_of_ble_eq_true rfl), (Nat.le_of_ble_eq_true rfl)⟩) (g_preV hX hS (ci := 1) rfl hm) rfl rfl hl.1 rfl (lv_room (Nat.le_of_ble_eq_true rfl)) dX1_cheapestTo_41 ⟨(Nat.le_of_ble_eq_true rfl), (Nat.le_of_ble_eq_true rfl)⟩) hS (fun r_41 H_41 locs hp hS => ?_)
      obtain ⟨rfl, rfl⟩ := hp
      have hv_41 : -1 ≤ viaT (dp X) X ((q : Int) - 1) (((j : Int) - 1) - 0) q j ∧ viaT (dp X) X ((q : Int) - 1) (((j : Int) - 1) - 0) q j ≤ 36000 := by
        have := viaT_rng hX1 (T := dp X) (zq := (q : Int) - 1) (zj := ((j : Int) - 1) - 0) (q2 := q) (j2 := j) (fun a b ha => dp_rng hX1 (a + 1) a b (by omega)) (by omega) (by omega) (by omega)
        omega
      refine g_goi (vx_runS (As := [.int (zI (-1)), .int (zI (viaT (dp X) X ((q : Int) - 1) (((j : Int) - 1) - 0) q j))]) (rest := []) ⟨hx, hb, hml, hown, hts⟩ (k_cheaper l G H (-1) (viaT (dp X) X ((q : Int) - 1) (((j : Int) - 1) - 0) q j) (by omega) (by omega)) (va_cwS 2 hts gX1_cheapestTo_X1_cheaper rfl rfl rfl hd_X1_cheaper.2 ⟨(Nat.le_of_ble_eq_true rfl), (Nat.le_of_ble_eq_true rfl)⟩) (g_pre hX hS) rfl rfl hl.1 rfl (lv_room (Nat.le_of_ble_eq_true rfl)) dX1_cheapestTo_44 ⟨(Nat.le_of_ble_eq_true rfl), (Nat.le_of_ble_eq_true rfl)⟩) hS (fun r_44 H_44 locs hp hS => ?_)
      obtain ⟨rfl, rfl⟩ := hp
      obtain ⟨a_1, ea_1⟩ : ∃ y : Int, y = chp (-1) (viaT (dp X) X ((q : Int) - 1) (((j : Int) - 1) - 0) q j) := ⟨_, rfl⟩
      rw [← ea_1]
      have ha_1 : -1 ≤ a_1 ∧ a_1 ≤ 36000 := by rw [ea_1]; exact chp_rng (by omega) (by omega)
      refine lv_istore (lv' := [(4, .int (zI a_1)), (5, .int (zI 0)), (0, .ref mt), (1, .ref (t 0)), (2, .int (zI (q : Int))), (3, .int (zI (j : Int)))]) hx hb dX1_cheapestTo_47 hl (by decide) rfl (fun ls hl => ?_)
      refine lv_iinc (v := zI 1) (lv' := [(5, .int (zI 1)), (4, .int (zI a_1)), (0, .ref mt), (1, .ref (t 0)), (2, .int (zI (q : Int))), (3, .int (zI (j : Int)))]) hx hb dX1_cheapestTo_49 hl (k := 1) rfl (by decide +kernel) (by decide) rfl (fun ls hl => ?_)
      refine lv_goto (tgt := 20) hx hb dX1_cheapestTo_52 (by decide) ?_
      refine lv_iload hx hb dX1_cheapestTo_20 (lv_at hl 0 rfl) ?_
      refine lv_iconst (v := zI 2) hx hb dX1_cheapestTo_22 rfl ?_
      refine gz_icmp_gt (tgt := 55) hx hb (by decide) (by decide) dX1_cheapestTo_23 (by decide) (fun c_23 => ?_) (fun c_23 => ?_)
      · omega
      · refine lv_iload hx hb dX1_cheapestTo_26 (lv_at hl 1 rfl) ?_
        refine lv_aload_n hx hb dX1_cheapestTo_28 rfl (lv_at hl 2 rfl) ?_
        refine lv_aload_n hx hb dX1_cheapestTo_29 rfl (lv_at hl 3 rfl) ?_
        refine lv_iload_n hx hb dX1_cheapestTo_30 rfl (lv_at hl 4 rfl) ?_
        refine lv_iconst (v := zI 1) hx hb dX1_cheapestTo_31 rfl ?_
        refine gz_isub hx hb dX1_cheapestTo_32 ?_
        refine lv_iload_n hx hb dX1_cheapestTo_33 rfl (lv_at hl 5 rfl) ?_
        refine lv_iconst (v := zI 1) hx hb dX1_cheapestTo_34 rfl ?_
        refine gz_isub hx hb dX1_cheapestTo_35 ?_
        refine lv_iload hx hb dX1_cheapestTo_36 (lv_at hl 0 rfl) ?_
        refine gz_isub hx hb dX1_cheapestTo_38 ?_
        refine lv_iload_n hx hb dX1_cheapestTo_39 rfl (lv_at hl 4 rfl) ?_
        refine lv_iload_n hx hb dX1_cheapestTo_40 rfl (lv_at hl 5 rfl) ?_
        refine g_goi (vx_runV (As := [.ref (t 0), .int (zI ((q : Int) - 1)), .int (zI (((j : Int) - 1) - 1)), .int (zI (q : Int)), .int (zI (j : Int))]) (rest := [.int (zI a_1)]) ⟨hx, hb, hml, hown, hts⟩ (k_costBy l G mt ra rb ta X tb H hM hX1 t rr hT ((q : Int) - 1) (((j : Int) - 1) - 1) (q : Int) (j : Int) q j rfl rfl hqh hjn (by omega) (by omega) hTb) (cwV 5 hts gX1_cheapestTo_X1_costBy rfl rfl rfl hd_X1_costBy ⟨(Nat.le_of_ble_eq_true rfl), (Nat.le_of_ble_eq_true rfl)⟩) (g_preV hX hS (ci := 1) rfl hm) rfl rfl hl.1 rfl (lv_room (Nat.le_of_ble_eq_true rfl)) dX1_cheapestTo_41 ⟨(Nat.le_of_ble_eq_true rfl), (Nat.le_of_ble_eq_true rfl)⟩) hS (fun r_41 H_41 locs hp hS => ?_)
        obtain ⟨rfl, rfl⟩ := hp
        have hv_41 : -1 ≤ viaT (dp X) X ((q : Int) - 1) (((j : Int) - 1) - 1) q j ∧ viaT (dp X) X ((q : Int) - 1) (((j : Int) - 1) - 1) q j ≤ 36000 := by
          have := viaT_rng hX1 (T := dp X) (zq := (q : Int) - 1) (zj := ((j : Int) - 1) - 1) (q2 := q) (j2 := j) (fun a b ha => dp_rng hX1 (a + 1) a b (by omega)) (by omega) (by omega) (by omega)
          omega
        refine g_goi (vx_runS (As := [.int (zI a_1), .int (zI (viaT (dp X) X ((q : Int) - 1) (((j : Int) - 1) - 1) q j))]) (rest := []) ⟨hx, hb, hml, hown, hts⟩ (k_cheaper l G H a_1 (viaT (dp X) X ((q : Int) - 1) (((j : Int) - 1) - 1) q j) (by omega) (by omega)) (va_cwS 2 hts gX1_cheapestTo_X1_cheaper rfl rfl rfl hd_X1_cheaper.2 ⟨(Nat.le_of_ble_eq_true rfl), (Nat.le_of_ble_eq_true rfl)⟩) (g_pre hX hS) rfl rfl hl.1 rfl (lv_room (Nat.le_of_ble_eq_true rfl)) dX1_cheapestTo_44 ⟨(Nat.le_of_ble_eq_true rfl), (Nat.le_of_ble_eq_true rfl)⟩) hS (fun r_44 H_44 locs hp hS => ?_)
        obtain ⟨rfl, rfl⟩ := hp
        obtain ⟨a_2, ea_2⟩ : ∃ y : Int, y = chp a_1 (viaT (dp X) X ((q : Int) - 1) (((j : Int) - 1) - 1) q j) := ⟨_, rfl⟩
        rw [← ea_2]
        have ha_2 : -1 ≤ a_2 ∧ a_2 ≤ 36000 := by rw [ea_2]; exact chp_rng (by omega) (by omega)
        refine lv_istore (lv' := [(4, .int (zI a_2)), (5, .int (zI 1)), (0, .ref mt), (1, .ref (t 0)), (2, .int (zI (q : Int))), (3, .int (zI (j : Int)))]) hx hb dX1_cheapestTo_47 hl (by decide) rfl (fun ls hl => ?_)
        refine lv_iinc (v := zI 2) (lv' := [(5, .int (zI 2)), (4, .int (zI a_2)), (0, .ref mt), (1, .ref (t 0)), (2, .int (zI (q : Int))), (3, .int (zI (j : Int)))]) hx hb dX1_cheapestTo_49 hl (k := 1) rfl (by decide +kernel) (by decide) rfl (fun ls hl => ?_)
        refine lv_goto (tgt := 20) hx hb dX1_cheapestTo_52 (by decide) ?_
        refine lv_iload hx hb dX1_cheapestTo_20 (lv_at hl 0 rfl) ?_
        refine lv_iconst (v := zI 2) hx hb dX1_cheapestTo_22 rfl ?_
        refine gz_icmp_gt (tgt := 55) hx hb (by decide) (by decide) dX1_cheapestTo_23 (by decide) (fun c_23 => ?_) (fun c_23 => ?_)
        · omega
        · refine lv_iload hx hb dX1_cheapestTo_26 (lv_at hl 1 rfl) ?_
          refine lv_aload_n hx hb dX1_cheapestTo_28 rfl (lv_at hl 2 rfl) ?_
          refine lv_aload_n hx hb dX1_cheapestTo_29 rfl (lv_at hl 3 rfl) ?_
          refine lv_iload_n hx hb dX1_cheapestTo_30 rfl (lv_at hl 4 rfl) ?_
          refine lv_iconst (v := zI 1) hx hb dX1_cheapestTo_31 rfl ?_
          refine gz_isub hx hb dX1_cheapestTo_32 ?_
          refine lv_iload_n hx hb dX1_cheapestTo_33 rfl (lv_at hl 5 rfl) ?_
          refine lv_iconst (v := zI 1) hx hb dX1_cheapestTo_34 rfl ?_
          refine gz_isub hx hb dX1_cheapestTo_35 ?_
          refine lv_iload hx hb dX1_cheapestTo_36 (lv_at hl 0 rfl) ?_
          refine gz_isub hx hb dX1_cheapestTo_38 ?_
          refine lv_iload_n hx hb dX1_cheapestTo_39 rfl (lv_at hl 4 rfl) ?_
          refine lv_iload_n hx hb dX1_cheapestTo_40 rfl (lv_at hl 5 rfl) ?_
          refine g_goi (vx_runV (As := [.ref (t 0), .int (zI ((q : Int) - 1)), .int (zI (((j : Int) - 1) - 2)), .int (zI (q : Int)), .int (zI (j : Int))]) (rest := [.int (zI a_2)]) ⟨hx, hb, hml, hown, hts⟩ (k_costBy l G mt ra rb ta X tb H hM hX1 t rr hT ((q : Int) - 1) (((j : Int) - 1) - 2) (q : Int) (j : Int) q j rfl rfl hqh hjn (by omega) (by omega) hTb) (cwV 5 hts gX1_cheapestTo_X1_costBy rfl rfl rfl hd_X1_costBy ⟨(Nat.le_of_ble_eq_true rfl), (Nat.le_of_ble_eq_true rfl)⟩) (g_preV hX hS (ci := 1) rfl hm) rfl rfl hl.1 rfl (lv_room (Nat.le_of_ble_eq_true rfl)) dX1_cheapestTo_41 ⟨(Nat.le_of_ble_eq_true rfl), (Nat.le_of_ble_eq_true rfl)⟩) hS (fun r_41 H_41 locs hp hS => ?_)
          obtain ⟨rfl, rfl⟩ := hp
          have hv_41 : -1 ≤ viaT (dp X) X ((q : Int) - 1) (((j : Int) - 1) - 2) q j ∧ viaT (dp X) X ((q : Int) - 1) (((j : Int) - 1) - 2) q j ≤ 36000 := by
            have := viaT_rng hX1 (T := dp X) (zq := (q : Int) - 1) (zj := ((j : Int) - 1) - 2) (q2 := q) (j2 := j) (fun a b ha => dp_rng hX1 (a + 1) a b (by omega)) (by omega) (by omega) (by omega)
            omega
          refine g_goi (vx_runS (As := [.int (zI a_2), .int (zI (viaT (dp X) X ((q : Int) - 1) (((j : Int) - 1) - 2) q j))]) (rest := []) ⟨hx, hb, hml, hown, hts⟩ (k_cheaper l G H a_2 (viaT (dp X) X ((q : Int) - 1) (((j : Int) - 1) - 2) q j) (by omega) (by omega)) (va_cwS 2 hts gX1_cheapestTo_X1_cheaper rfl rfl rfl hd_X1_cheaper.2 ⟨(Nat.le_of_ble_eq_true rfl), (Nat.le_of_ble_eq_true rfl)⟩) (g_pre hX hS) rfl rfl hl.1 rfl (lv_room (Nat.le_of_ble_eq_true rfl)) dX1_cheapestTo_44 ⟨(Nat.le_of_ble_eq_true rfl), (Nat.le_of_ble_eq_true rfl)⟩) hS (fun r_44 H_44 locs hp hS => ?_)
          obtain ⟨rfl, rfl⟩ := hp
          obtain ⟨a_3, ea_3⟩ : ∃ y : Int, y = chp a_2 (viaT (dp X) X ((q : Int) - 1) (((j : Int) - 1) - 2) q j) := ⟨_, rfl⟩
          rw [← ea_3]
          have ha_3 : -1 ≤ a_3 ∧ a_3 ≤ 36000 := by rw [ea_3]; exact chp_rng (by omega) (by omega)
          refine lv_istore (lv' := [(4, .int (zI a_3)), (5, .int (zI 2)), (0, .ref mt), (1, .ref (t 0)), (2, .int (zI (q : Int))), (3, .int (zI (j : Int)))]) hx hb dX1_cheapestTo_47 hl (by decide) rfl (fun ls hl => ?_)
          refine lv_iinc (v := zI 3) (lv' := [(5, .int (zI 3)), (4, .int (zI a_3)), (0, .ref mt), (1, .ref (t 0)), (2, .int (zI (q : Int))), (3, .int (zI (j : Int)))]) hx hb dX1_cheapestTo_49 hl (k := 1) rfl (by decide +kernel) (by decide) rfl (fun ls hl => ?_)
          refine lv_goto (tgt := 20) hx hb dX1_cheapestTo_52 (by decide) ?_
          refine lv_iload hx hb dX1_cheapestTo_20 (lv_at hl 0 rfl) ?_
          refine lv_iconst (v := zI 2) hx hb dX1_cheapestTo_22 rfl ?_
          refine gz_icmp_gt (tgt := 55) hx hb (by decide) (by decide) dX1_cheapestTo_23 (by decide) (fun c_23 => ?_) (fun c_23 => ?_)
          · refine lv_iconst (v := zI 1) hx hb dX1_cheapestTo_55 rfl ?_
            refine lv_istore (lv' := [(5, .int (zI 1)), (4, .int (zI a_3)), (0, .ref mt), (1, .ref (t 0)), (2, .int (zI (q : Int))), (3, .int (zI (j : Int)))]) hx hb dX1_cheapestTo_56 hl (by decide) rfl (fun ls hl => ?_)
            refine lv_iload hx hb dX1_cheapestTo_58 (lv_at hl 0 rfl) ?_
            refine lv_iconst (v := zI 2) hx hb dX1_cheapestTo_60 rfl ?_
            refine gz_icmp_gt (tgt := 93) hx hb (by decide) (by decide) dX1_cheapestTo_61 (by decide) (fun c_61 => ?_) (fun c_61 => ?_)
            · omega
            · refine lv_iload hx hb dX1_cheapestTo_64 (lv_at hl 1 rfl) ?_
              refine lv_aload_n hx hb dX1_cheapestTo_66 rfl (lv_at hl 2 rfl) ?_
              refine lv_aload_n hx hb dX1_cheapestTo_67 rfl (lv_at hl 3 rfl) ?_
              refine lv_iload_n hx hb dX1_cheapestTo_68 rfl (lv_at hl 4 rfl) ?_
              refine lv_iconst (v := zI 1) hx hb dX1_cheapestTo_69 rfl ?_
              refine gz_isub hx hb dX1_cheapestTo_70 ?_
              refine lv_iload hx hb dX1_cheapestTo_71 (lv_at hl 0 rfl) ?_
              refine gz_isub hx hb dX1_cheapestTo_73 ?_
              refine lv_iload_n hx hb dX1_cheapestTo_74 rfl (lv_at hl 5 rfl) ?_
              refine lv_iconst (v := zI 1) hx hb dX1_cheapestTo_75 rfl ?_
              refine gz_isub hx hb dX1_cheapestTo_76 ?_
              refine lv_iload_n hx hb dX1_cheapestTo_77 rfl (lv_at hl 4 rfl) ?_
              refine lv_iload_n hx hb dX1_cheapestTo_78 rfl (lv_at hl 5 rfl) ?_
              refine g_goi (vx_runV (As := [.ref (t 0), .int (zI (((q : Int) - 1) - 1)), .int (zI ((j : Int) - 1)), .int (zI (q : Int)), .int (zI (j : Int))]) (rest := [.int (zI a_3)]) ⟨hx, hb, hml, hown, hts⟩ (k_costBy l G mt ra rb ta X tb H hM hX1 t rr hT (((q : Int) - 1) - 1) ((j : Int) - 1) (q : Int) (j : Int) q j rfl rfl hqh hjn (by omega) (by omega) hTb) (cwV 5 hts gX1_cheapestTo_X1_costBy rfl rfl rfl hd_X1_costBy ⟨(Nat.le_of_ble_eq_true rfl), (Nat.le_of_ble_eq_true rfl)⟩) (g_preV hX hS (ci := 1) rfl hm) rfl rfl hl.1 rfl (lv_room (Nat.le_of_ble_eq_true rfl)) dX1_cheapestTo_79 ⟨(Nat.le_of_ble_eq_true rfl), (Nat.le_of_ble_eq_true rfl)⟩) hS (fun r_79 H_79 locs hp hS => ?_)
              obtain ⟨rfl, rfl⟩ := hp
              have hv_79 : -1 ≤ viaT (dp X) X (((q : Int) - 1) - 1) ((j : Int) - 1) q j ∧ viaT (dp X) X (((q : Int) - 1) - 1) ((j : Int) - 1) q j ≤ 36000 := by
                have := viaT_rng hX1 (T := dp X) (zq := ((q : Int) - 1) - 1) (zj := (j : Int) - 1) (q2 := q) (j2 := j) (fun a b ha => dp_rng hX1 (a + 1) a b (by omega)) (by omega) (by omega) (by omega)
                omega
              refine g_goi (vx_runS (As := [.int (zI a_3), .int (zI (viaT (dp X) X (((q : Int) - 1) - 1) ((j : Int) - 1) q j))]) (rest := []) ⟨hx, hb, hml, hown, hts⟩ (k_cheaper l G H a_3 (viaT (dp X) X (((q : Int) - 1) - 1) ((j : Int) - 1) q j) (by omega) (by omega)) (va_cwS 2 hts gX1_cheapestTo_X1_cheaper rfl rfl rfl hd_X1_cheaper.2 ⟨(Nat.le_of_ble_eq_true rfl), (Nat.le_of_ble_eq_true rfl)⟩) (g_pre hX hS) rfl rfl hl.1 rfl (lv_room (Nat.le_of_ble_eq_true rfl)) dX1_cheapestTo_82 ⟨(Nat.le_of_ble_eq_true rfl), (Nat.le_of_ble_eq_true rfl)⟩) hS (fun r_82 H_82 locs hp hS => ?_)
              obtain ⟨rfl, rfl⟩ := hp
              obtain ⟨a_4, ea_4⟩ : ∃ y : Int, y = chp a_3 (viaT (dp X) X (((q : Int) - 1) - 1) ((j : Int) - 1) q j) := ⟨_, rfl⟩
              rw [← ea_4]
              have ha_4 : -1 ≤ a_4 ∧ a_4 ≤ 36000 := by rw [ea_4]; exact chp_rng (by omega) (by omega)
              refine lv_istore (lv' := [(4, .int (zI a_4)), (5, .int (zI 1)), (0, .ref mt), (1, .ref (t 0)), (2, .int (zI (q : Int))), (3, .int (zI (j : Int)))]) hx hb dX1_cheapestTo_85 hl (by decide) rfl (fun ls hl => ?_)
              refine lv_iinc (v := zI 2) (lv' := [(5, .int (zI 2)), (4, .int (zI a_4)), (0, .ref mt), (1, .ref (t 0)), (2, .int (zI (q : Int))), (3, .int (zI (j : Int)))]) hx hb dX1_cheapestTo_87 hl (k := 1) rfl (by decide +kernel) (by decide) rfl (fun ls hl => ?_)
              refine lv_goto (tgt := 58) hx hb dX1_cheapestTo_90 (by decide) ?_
              refine lv_iload hx hb dX1_cheapestTo_58 (lv_at hl 0 rfl) ?_
              refine lv_iconst (v := zI 2) hx hb dX1_cheapestTo_60 rfl ?_
              refine gz_icmp_gt (tgt := 93) hx hb (by decide) (by decide) dX1_cheapestTo_61 (by decide) (fun c_61 => ?_) (fun c_61 => ?_)
              · omega
              · refine lv_iload hx hb dX1_cheapestTo_64 (lv_at hl 1 rfl) ?_
                refine lv_aload_n hx hb dX1_cheapestTo_66 rfl (lv_at hl 2 rfl) ?_
                refine lv_aload_n hx hb dX1_cheapestTo_67 rfl (lv_at hl 3 rfl) ?_
                refine lv_iload_n hx hb dX1_cheapestTo_68 rfl (lv_at hl 4 rfl) ?_
                refine lv_iconst (v := zI 1) hx hb dX1_cheapestTo_69 rfl ?_
                refine gz_isub hx hb dX1_cheapestTo_70 ?_
                refine lv_iload hx hb dX1_cheapestTo_71 (lv_at hl 0 rfl) ?_
                refine gz_isub hx hb dX1_cheapestTo_73 ?_
                refine lv_iload_n hx hb dX1_cheapestTo_74 rfl (lv_at hl 5 rfl) ?_
                refine lv_iconst (v := zI 1) hx hb dX1_cheapestTo_75 rfl ?_
                refine gz_isub hx hb dX1_cheapestTo_76 ?_
                refine lv_iload_n hx hb dX1_cheapestTo_77 rfl (lv_at hl 4 rfl) ?_
                refine lv_iload_n hx hb dX1_cheapestTo_78 rfl (lv_at hl 5 rfl) ?_
                refine g_goi (vx_runV (As := [.ref (t 0), .int (zI (((q : Int) - 1) - 2)), .int (zI ((j : Int) - 1)), .int (zI (q : Int)), .int (zI (j : Int))]) (rest := [.int (zI a_4)]) ⟨hx, hb, hml, hown, hts⟩ (k_costBy l G mt ra rb ta X tb H hM hX1 t rr hT (((q : Int) - 1) - 2) ((j : Int) - 1) (q : Int) (j : Int) q j rfl rfl hqh hjn (by omega) (by omega) hTb) (cwV 5 hts gX1_cheapestTo_X1_costBy rfl rfl rfl hd_X1_costBy ⟨(Nat.le_of_ble_eq_true rfl), (Nat.le_of_ble_eq_true rfl)⟩) (g_preV hX hS (ci := 1) rfl hm) rfl rfl hl.1 rfl (lv_room (Nat.le_of_ble_eq_true rfl)) dX1_cheapestTo_79 ⟨(Nat.le_of_ble_eq_true rfl), (Nat.le_of_ble_eq_true rfl)⟩) hS (fun r_79 H_79 locs hp hS => ?_)
                obtain ⟨rfl, rfl⟩ := hp
                have hv_79 : -1 ≤ viaT (dp X) X (((q : Int) - 1) - 2) ((j : Int) - 1) q j ∧ viaT (dp X) X (((q : Int) - 1) - 2) ((j : Int) - 1) q j ≤ 36000 := by
                  have := viaT_rng hX1 (T := dp X) (zq := ((q : Int) - 1) - 2) (zj := (j : Int) - 1) (q2 := q) (j2 := j) (fun a b ha => dp_rng hX1 (a + 1) a b (by omega)) (by omega) (by omega) (by omega)
                  omega
                refine g_goi (vx_runS (As := [.int (zI a_4), .int (zI (viaT (dp X) X (((q : Int) - 1) - 2) ((j : Int) - 1) q j))]) (rest := []) ⟨hx, hb, hml, hown, hts⟩ (k_cheaper l G H a_4 (viaT (dp X) X (((q : Int) - 1) - 2) ((j : Int) - 1) q j) (by omega) (by omega)) (va_cwS 2 hts gX1_cheapestTo_X1_cheaper rfl rfl rfl hd_X1_cheaper.2 ⟨(Nat.le_of_ble_eq_true rfl), (Nat.le_of_ble_eq_true rfl)⟩) (g_pre hX hS) rfl rfl hl.1 rfl (lv_room (Nat.le_of_ble_eq_true rfl)) dX1_cheapestTo_82 ⟨(Nat.le_of_ble_eq_true rfl), (Nat.le_of_ble_eq_true rfl)⟩) hS (fun r_82 H_82 locs hp hS => ?_)
                obtain ⟨rfl, rfl⟩ := hp
                obtain ⟨a_5, ea_5⟩ : ∃ y : Int, y = chp a_4 (viaT (dp X) X (((q : Int) - 1) - 2) ((j : Int) - 1) q j) := ⟨_, rfl⟩
                rw [← ea_5]
                have ha_5 : -1 ≤ a_5 ∧ a_5 ≤ 36000 := by rw [ea_5]; exact chp_rng (by omega) (by omega)
                refine lv_istore (lv' := [(4, .int (zI a_5)), (5, .int (zI 2)), (0, .ref mt), (1, .ref (t 0)), (2, .int (zI (q : Int))), (3, .int (zI (j : Int)))]) hx hb dX1_cheapestTo_85 hl (by decide) rfl (fun ls hl => ?_)
                refine lv_iinc (v := zI 3) (lv' := [(5, .int (zI 3)), (4, .int (zI a_5)), (0, .ref mt), (1, .ref (t 0)), (2, .int (zI (q : Int))), (3, .int (zI (j : Int)))]) hx hb dX1_cheapestTo_87 hl (k := 1) rfl (by decide +kernel) (by decide) rfl (fun ls hl => ?_)
                refine lv_goto (tgt := 58) hx hb dX1_cheapestTo_90 (by decide) ?_
                refine lv_iload hx hb dX1_cheapestTo_58 (lv_at hl 0 rfl) ?_
                refine lv_iconst (v := zI 2) hx hb dX1_cheapestTo_60 rfl ?_
                refine gz_icmp_gt (tgt := 93) hx hb (by decide) (by decide) dX1_cheapestTo_61 (by decide) (fun c_61 => ?_) (fun c_61 => ?_)
                · refine lv_iload hx hb dX1_cheapestTo_93 (lv_at hl 1 rfl) ?_
                  have hfin : a_5 = dp X q j := by
                    rw [dp_eq, toT]
                    first
                    | (rw [if_pos (by omega), if_pos (by omega)])
                    | (rw [if_pos (by omega), if_neg (by omega)])
                    | (rw [if_neg (by omega), ← ea_1, ← ea_2, ← ea_3, ← ea_4, ← ea_5])
                  exact g_reti hx hb hr hlocks hS rfl (⟨by rw [hfin], rfl⟩) (Nat.le_of_ble_eq_true rfl) (Nat.le_of_ble_eq_true rfl) dX1_cheapestTo_95
                · omega
          · omega
  · refine lv_iload_n hx hb dX1_cheapestTo_4 rfl (lv_at hl 3 rfl) ?_
    refine gz_if_ne (tgt := 12) hx hb ⟨by omega, by omega⟩ dX1_cheapestTo_5 (by decide) (fun c_5 => ?_) (fun c_5 => ?_)
    · refine lv_iconst (v := zI (-1)) hx hb dX1_cheapestTo_12 rfl ?_
      have hfin : -1 = dp X q j := by
        rw [dp_eq, toT]
        first
        | (rw [if_pos (by omega), if_pos (by omega)])
        | (rw [if_pos (by omega), if_neg (by omega)])
        | (rw [if_neg (by omega), ← ea_1, ← ea_2, ← ea_3, ← ea_4, ← ea_5])
      exact g_reti hx hb hr hlocks hS rfl (⟨by rw [hfin], rfl⟩) (Nat.le_of_ble_eq_true rfl) (Nat.le_of_ble_eq_true rfl) dX1_cheapestTo_13
    · refine lv_iconst (v := zI 0) hx hb dX1_cheapestTo_8 rfl ?_
      refine lv_goto (tgt := 13) hx hb dX1_cheapestTo_9 (by decide) ?_
      have hfin : 0 = dp X q j := by
        rw [dp_eq, toT]
        first
        | (rw [if_pos (by omega), if_pos (by omega)])
        | (rw [if_pos (by omega), if_neg (by omega)])
        | (rw [if_neg (by omega), ← ea_1, ← ea_2, ← ea_3, ← ea_4, ← ea_5])
      exact g_reti hx hb hr hlocks hS rfl (⟨by rw [hfin], rfl⟩) (Nat.le_of_ble_eq_true rfl) (Nat.le_of_ble_eq_true rfl) dX1_cheapestTo_13
set_option maxHeartbeats 4000000 in
set_option maxRecDepth 100000 in
theorem k_cheapestByTable (l : Launch) (G : gG) (mt ra rb ta : Nat) (X : cX) (tb : Nat → Int32) (H : Heap) (hM : Mat G mt ra rb ta X tb H) (hX1 : xOK X) (t : Nat → Nat) (rr : Bool) (hT : Tun G t (xn X) (xf X) (xg X) rr H) (hnt : ∀ j, j < 5 → ta ≠ t j) : gM l yX1_cheapestByTable wsX1_cheapestByTable rm_X1_cheapestByTable [.ref mt, .ref (t 0)] G H (gi (fun r H1 => zI (costI X) = r ∧ gOnly [ta] H H1 ∧ ∃ tb2, Mat G mt ra rb ta X tb2 H1)) (gNo) 0 0 := by
  obtain ⟨hm, hhr, hta, gta, na1, na2, na3⟩ := id hM
  obtain ⟨hxn, hxf, hxg, hxh, hxhf, hxsl, hxor, hxrp⟩ := id hX1
  obtain ⟨ht, hp1, hl1, gt, htd⟩ := id hT
  refine g_start (cc := cX1_cheapestByTable) (maxL := 4) (ret := (some .int)) (by decide +kernel) rfl (Nat.le_of_ble_eq_true rfl) ?_
  intro p e s m args below meth c F ls hl
  obtain ⟨hx, hb, hml, hr, hts, hown, hlocks, hxt, hH, hX, hin⟩ := F
  have hown : s.vm.findClass RX1 = some m.cls := hown
  have hS : va_S (gA G) s.heap H [] := by rw [hH]; exact va_S.rf
  have hl : lv_has ls 4 [(0, .ref mt), (1, .ref (t 0))] := hl
  refine lv_iconst (v := zI 0) hx hb dX1_cheapestByTable_0 rfl ?_
  refine lv_istore_n (lv' := [(2, .int (zI 0)), (0, .ref mt), (1, .ref (t 0))]) hx hb dX1_cheapestByTable_1 rfl hl (by decide) rfl (fun ls hl => ?_)
  have loop_2 : ∀ (M_ : Nat) (y : Int) (q : Nat) (tq : Nat → Int32) (H_L2 : Heap) (locs : List Loc), xh X - q < M_ → (y = q) → (q ≤ xh X) → (Mat G mt ra rb ta X tq H_L2) → (Tun G t (xn X) (xf X) (xg X) rr H_L2) → (gOnly [ta] H H_L2) → (∀ a b : Nat, a < q → b < xn X → tq (24 * a + b) = zI (dp X a b)) → va_S (gA G) s.heap H_L2 locs → ∀ (ls : Array Slot), lv_has ls 4 [(2, .int (zI y)), (0, .ref mt), (1, .ref (t 0))] → W p l e rm_X1_cheapestByTable s m args below meth c H_L2 locs (0) (0) (vx_MQ below (gQ G (gi (fun r H1 => zI (costI X) = r ∧ gOnly [ta] H H1 ∧ ∃ tb2, Mat G mt ra rb ta X tb2 H1))) (gXC G (gNo)) args s 0 0 (gA G)) (F0 m 2 ls []) := by
    intro M_
    induction M_ with
    | zero => intro y q tq H_0 locs_0 h_0; exact absurd h_0 (Nat.not_lt_zero _)
    | succ M_ ih_2 =>
      intro y q tq H_L2 locs hM_2 hy hqh hM hT hOq hTq hS ls hl
      obtain ⟨hm, hhr, hta, gta, na1, na2, na3⟩ := id hM
      obtain ⟨ht, hp1, hl1, gt, htd⟩ := id hT
      refine lv_iload_n hx hb dX1_cheapestByTable_2 rfl (lv_at hl 0 rfl) ?_
      refine lv_aload_n hx hb dX1_cheapestByTable_3 rfl (lv_at hl 1 rfl) ?_
      refine g_get hx hb hX hts (fun w h => (List.mem_cons_of_mem _ (List.mem_append_left _ (List.mem_append_left _ (List.mem_append_right _ h))))) hown hm rfl 0 (by decide) (hts (.fieldLink RX1 14 "TuneCatalogue$Matching" "hum" "LTuneCatalogue$Row;") (List.mem_cons_of_mem _ (List.mem_append_left _ (List.mem_append_left _ (List.mem_append_left _ (List.mem_append_left _ (List.mem_of_getElem? (i := 0) rfl))))))) rfl dX1_cheapestByTable_4 ?_
      refine g_goi (vx_runV (As := []) (rest := [.int (zI y)]) ⟨hx, hb, hml, hown, hts⟩ (k_size l G ra rb 12 (xh X) _ H_L2 hhr) (cwV 0 hts gX1_cheapestByTable_X2_size rfl rfl rfl hd_X2_size ⟨(Nat.le_of_ble_eq_true rfl), (Nat.le_of_ble_eq_true rfl)⟩) (g_preV hX hS (ci := 2) rfl hhr.1) rfl rfl hl.1 rfl (lv_room (Nat.le_of_ble_eq_true rfl)) dX1_cheapestByTable_7 ⟨(Nat.le_of_ble_eq_true rfl), (Nat.le_of_ble_eq_true rfl)⟩) hS (fun r_7 H_7 locs hp hS => ?_)
      obtain ⟨rfl, rfl⟩ := hp
      refine gz_icmp_ge (tgt := 48) hx hb ⟨by omega, by omega⟩ ⟨by omega, by omega⟩ dX1_cheapestByTable_10 (by decide) (fun c_10 => ?_) (fun c_10 => ?_)
      · refine lv_iconst (v := zI (-1)) hx hb dX1_cheapestByTable_48 rfl ?_
        refine lv_istore_n (lv' := [(2, .int (zI (-1))), (0, .ref mt), (1, .ref (t 0))]) hx hb dX1_cheapestByTable_49 rfl hl (by decide) rfl (fun ls hl => ?_)
        refine lv_iconst (v := zI 0) hx hb dX1_cheapestByTable_50 rfl ?_
        refine lv_istore_n (lv' := [(3, .int (zI 0)), (2, .int (zI (-1))), (0, .ref mt), (1, .ref (t 0))]) hx hb dX1_cheapestByTable_51 rfl hl (by decide) rfl (fun ls hl => ?_)
        have loop_52 : ∀ (M_ : Nat) (y2 : Int) (j : Nat) (x : Int) (locs : List Loc), xn X - j < M_ → (y2 = j) → (j ≤ xn X) → (x = lastC X j) → va_S (gA G) s.heap H_L2 locs → ∀ (ls : Array Slot), lv_has ls 4 [(3, .int (zI y2)), (2, .int (zI x)), (0, .ref mt), (1, .ref (t 0))] → W p l e rm_X1_cheapestByTable s m args below meth c H_L2 locs (0) (0) (vx_MQ below (gQ G (gi (fun r H1 => zI (costI X) = r ∧ gOnly [ta] H H1 ∧ ∃ tb2, Mat G mt ra rb ta X tb2 H1))) (gXC G (gNo)) args s 0 0 (gA G)) (F0 m 52 ls []) := by
          intro M_
          induction M_ with
          | zero => intro y2 j x locs_0 h_0; exact absurd h_0 (Nat.not_lt_zero _)
          | succ M_ ih_52 =>
            intro y2 j x locs hM_52 hy2 hjn hxl hS ls hl
            have hlr := lastC_rng hX1 j
            have hvr : -1 ≤ (if xh X = 0 then -1 else dp X (xh X - 1) j) ∧ (if xh X = 0 then -1 else dp X (xh X - 1) j) ≤ 36000 := by
              split
              · omega
              · exact dp_rI hX1 j (by omega)
            refine lv_iload_n hx hb dX1_cheapestByTable_52 rfl (lv_at hl 0 rfl) ?_
            refine lv_aload_n hx hb dX1_cheapestByTable_53 rfl (lv_at hl 3 rfl) ?_
            refine g_goi (vx_runV (As := []) (rest := [.int (zI y2)]) ⟨hx, hb, hml, hown, hts⟩ (k_Tune_size l G t (xn X) (xf X) (xg X) rr H_L2 hT) (cwV 0 hts gX1_cheapestByTable_X3_size rfl rfl rfl hd_X3_size ⟨(Nat.le_of_ble_eq_true rfl), (Nat.le_of_ble_eq_true rfl)⟩) (g_preV hX hS (ci := 3) rfl ht) rfl rfl hl.1 rfl (lv_room (Nat.le_of_ble_eq_true rfl)) dX1_cheapestByTable_54 ⟨(Nat.le_of_ble_eq_true rfl), (Nat.le_of_ble_eq_true rfl)⟩) hS (fun r_54 H_54 locs hp hS => ?_)
            obtain ⟨rfl, rfl⟩ := hp
            refine gz_icmp_ge (tgt := 85) hx hb ⟨by omega, by omega⟩ ⟨by omega, by omega⟩ dX1_cheapestByTable_57 (by decide) (fun c_57 => ?_) (fun c_57 => ?_)
            · refine lv_iload_n hx hb dX1_cheapestByTable_85 rfl (lv_at hl 1 rfl) ?_
              exact g_reti hx hb hr hlocks hS rfl (⟨by rw [hxl, show j = xn X by omega]; rfl, hOq, tq, hM⟩) (Nat.le_of_ble_eq_true rfl) (Nat.le_of_ble_eq_true rfl) dX1_cheapestByTable_86
            · refine lv_iload_n hx hb dX1_cheapestByTable_60 rfl (lv_at hl 1 rfl) ?_
              refine lv_aload_n hx hb dX1_cheapestByTable_61 rfl (lv_at hl 2 rfl) ?_
              refine lv_aload_n hx hb dX1_cheapestByTable_62 rfl (lv_at hl 2 rfl) ?_
              refine g_get hx hb hX hts (fun w h => (List.mem_cons_of_mem _ (List.mem_append_left _ (List.mem_append_left _ (List.mem_append_right _ h))))) hown hm rfl 0 (by decide) (hts (.fieldLink RX1 14 "TuneCatalogue$Matching" "hum" "LTuneCatalogue$Row;") (List.mem_cons_of_mem _ (List.mem_append_left _ (List.mem_append_left _ (List.mem_append_left _ (List.mem_append_left _ (List.mem_of_getElem? (i := 0) rfl))))))) rfl dX1_cheapestByTable_63 ?_
              refine g_goi (vx_runV (As := []) (rest := [.ref mt, .int (zI x)]) ⟨hx, hb, hml, hown, hts⟩ (k_size l G ra rb 12 (xh X) _ H_L2 hhr) (cwV 0 hts gX1_cheapestByTable_X2_size rfl rfl rfl hd_X2_size ⟨(Nat.le_of_ble_eq_true rfl), (Nat.le_of_ble_eq_true rfl)⟩) (g_preV hX hS (ci := 2) rfl hhr.1) rfl rfl hl.1 rfl (lv_room (Nat.le_of_ble_eq_true rfl)) dX1_cheapestByTable_66 ⟨(Nat.le_of_ble_eq_true rfl), (Nat.le_of_ble_eq_true rfl)⟩) hS (fun r_66 H_66 locs hp hS => ?_)
              obtain ⟨rfl, rfl⟩ := hp
              refine lv_iconst (v := zI 1) hx hb dX1_cheapestByTable_69 rfl ?_
              refine gz_isub hx hb dX1_cheapestByTable_70 ?_
              refine lv_iload_n hx hb dX1_cheapestByTable_71 rfl (lv_at hl 0 rfl) ?_
              refine g_goi (vx_runV (As := [.int (zI ((xh X : Int) - 1)), .int (zI y2)]) (rest := [.int (zI x)]) ⟨hx, hb, hml, hown, hts⟩ (k_tableAt l G mt ra rb ta X tq H_L2 hM hX1 ((xh X : Int) - 1) y2 (by omega) (by omega) (if xh X = 0 then -1 else dp X (xh X - 1) j) (fun h => if_pos (by omega)) (fun a b ha hb2 => by rw [hTq a b (by omega) (by omega), if_neg (by omega), show a = xh X - 1 by omega, show b = j by omega])) (cwV 2 hts gX1_cheapestByTable_X1_tableAt rfl rfl rfl hd_X1_tableAt ⟨(Nat.le_of_ble_eq_true rfl), (Nat.le_of_ble_eq_true rfl)⟩) (g_preV hX hS (ci := 1) rfl hm) rfl rfl hl.1 rfl (lv_room (Nat.le_of_ble_eq_true rfl)) dX1_cheapestByTable_72 ⟨(Nat.le_of_ble_eq_true rfl), (Nat.le_of_ble_eq_true rfl)⟩) hS (fun r_72 H_72 locs hp hS => ?_)
              obtain ⟨rfl, rfl⟩ := hp
              refine g_goi (vx_runS (As := [.int (zI x), .int (zI (if xh X = 0 then -1 else dp X (xh X - 1) j))]) (rest := []) ⟨hx, hb, hml, hown, hts⟩ (k_cheaper l G H_L2 x (if xh X = 0 then -1 else dp X (xh X - 1) j) (by omega) (by omega)) (va_cwS 2 hts gX1_cheapestByTable_X1_cheaper rfl rfl rfl hd_X1_cheaper.2 ⟨(Nat.le_of_ble_eq_true rfl), (Nat.le_of_ble_eq_true rfl)⟩) (g_pre hX hS) rfl rfl hl.1 rfl (lv_room (Nat.le_of_ble_eq_true rfl)) dX1_cheapestByTable_75 ⟨(Nat.le_of_ble_eq_true rfl), (Nat.le_of_ble_eq_true rfl)⟩) hS (fun r_75 H_75 locs hp hS => ?_)
              obtain ⟨rfl, rfl⟩ := hp
              refine lv_istore_n (lv' := [(2, .int (zI (chp x (if xh X = 0 then -1 else dp X (xh X - 1) j)))), (3, .int (zI y2)), (0, .ref mt), (1, .ref (t 0))]) hx hb dX1_cheapestByTable_78 rfl hl (by decide) rfl (fun ls hl => ?_)
              refine lv_iinc (v := zI (y2 + 1)) (lv' := [(3, .int (zI (y2 + 1))), (2, .int (zI (chp x (if xh X = 0 then -1 else dp X (xh X - 1) j)))), (0, .ref mt), (1, .ref (t 0))]) hx hb dX1_cheapestByTable_79 hl (k := 1) rfl (zI_add _ _) (by decide) rfl (fun ls hl => ?_)
              refine lv_goto (tgt := 52) hx hb dX1_cheapestByTable_82 (by decide) ?_
              exact ih_52 (y2 + 1) (j + 1) _ _ (by omega) (by omega) (by omega) (by rw [lastC, hxl]) hS ls (lv_sub hl [0, 1, 2, 3] rfl)
        exact loop_52 _ 0 0 (-1) _ (Nat.lt_succ_self _) rfl (Nat.zero_le _) rfl hS ls (lv_sub hl [0, 1, 2, 3] rfl)
      · refine lv_iconst (v := zI 0) hx hb dX1_cheapestByTable_13 rfl ?_
        refine lv_istore_n (lv' := [(3, .int (zI 0)), (2, .int (zI y)), (0, .ref mt), (1, .ref (t 0))]) hx hb dX1_cheapestByTable_14 rfl hl (by decide) rfl (fun ls hl => ?_)
        have loop_15 : ∀ (M_ : Nat) (y2 : Int) (j : Nat) (tj : Nat → Int32) (H_L15 : Heap) (locs : List Loc), xn X - j < M_ → (y2 = j) → (j ≤ xn X) → (Mat G mt ra rb ta X tj H_L15) → (Tun G t (xn X) (xf X) (xg X) rr H_L15) → (gOnly [ta] H H_L15) → (∀ a b : Nat, a < q → b < xn X → tj (24 * a + b) = zI (dp X a b)) → (∀ b : Nat, b < j → tj (24 * q + b) = zI (dp X q b)) → va_S (gA G) s.heap H_L15 locs → ∀ (ls : Array Slot), lv_has ls 4 [(3, .int (zI y2)), (2, .int (zI y)), (0, .ref mt), (1, .ref (t 0))] → W p l e rm_X1_cheapestByTable s m args below meth c H_L15 locs (0) (0) (vx_MQ below (gQ G (gi (fun r H1 => zI (costI X) = r ∧ gOnly [ta] H H1 ∧ ∃ tb2, Mat G mt ra rb ta X tb2 H1))) (gXC G (gNo)) args s 0 0 (gA G)) (F0 m 15 ls []) := by
          intro M_
          induction M_ with
          | zero => intro y2 j tj H_0 locs_0 h_0; exact absurd h_0 (Nat.not_lt_zero _)
          | succ M_ ih_15 =>
            intro y2 j tj H_L15 locs hM_15 hy2 hjn hM hT hOj hTj hTr hS ls hl
            obtain ⟨hm, hhr, hta, gta, na1, na2, na3⟩ := id hM
            obtain ⟨ht, hp1, hl1, gt, htd⟩ := id hT
            refine lv_iload_n hx hb dX1_cheapestByTable_15 rfl (lv_at hl 0 rfl) ?_
            refine lv_aload_n hx hb dX1_cheapestByTable_16 rfl (lv_at hl 3 rfl) ?_
            refine g_goi (vx_runV (As := []) (rest := [.int (zI y2)]) ⟨hx, hb, hml, hown, hts⟩ (k_Tune_size l G t (xn X) (xf X) (xg X) rr H_L15 hT) (cwV 0 hts gX1_cheapestByTable_X3_size rfl rfl rfl hd_X3_size ⟨(Nat.le_of_ble_eq_true rfl), (Nat.le_of_ble_eq_true rfl)⟩) (g_preV hX hS (ci := 3) rfl ht) rfl rfl hl.1 rfl (lv_room (Nat.le_of_ble_eq_true rfl)) dX1_cheapestByTable_17 ⟨(Nat.le_of_ble_eq_true rfl), (Nat.le_of_ble_eq_true rfl)⟩) hS (fun r_17 H_17 locs hp hS => ?_)
            obtain ⟨rfl, rfl⟩ := hp
            refine gz_icmp_ge (tgt := 42) hx hb ⟨by omega, by omega⟩ ⟨by omega, by omega⟩ dX1_cheapestByTable_20 (by decide) (fun c_20 => ?_) (fun c_20 => ?_)
            · refine lv_iinc (v := zI (y + 1)) (lv' := [(2, .int (zI (y + 1))), (3, .int (zI y2)), (0, .ref mt), (1, .ref (t 0))]) hx hb dX1_cheapestByTable_42 hl (k := 1) rfl (zI_add _ _) (by decide) rfl (fun ls hl => ?_)
              refine lv_goto (tgt := 2) hx hb dX1_cheapestByTable_45 (by decide) ?_
              exact ih_2 (y + 1) (q + 1) tj H_L15 _ (by omega) (by omega) (by omega) hM hT hOj (fun a b ha hb2 => by rcases Nat.lt_or_ge a q with g | g; exact hTj a b g hb2; rw [show a = q by omega]; exact hTr b (by omega)) hS ls (lv_sub hl [0, 2, 3] rfl)
            · refine lv_aload_n hx hb dX1_cheapestByTable_23 rfl (lv_at hl 2 rfl) ?_
              refine lv_iload_n hx hb dX1_cheapestByTable_24 rfl (lv_at hl 1 rfl) ?_
              refine lv_iload_n hx hb dX1_cheapestByTable_25 rfl (lv_at hl 0 rfl) ?_
              refine lv_aload_n hx hb dX1_cheapestByTable_26 rfl (lv_at hl 2 rfl) ?_
              refine lv_aload_n hx hb dX1_cheapestByTable_27 rfl (lv_at hl 3 rfl) ?_
              refine lv_iload_n hx hb dX1_cheapestByTable_28 rfl (lv_at hl 1 rfl) ?_
              refine lv_iload_n hx hb dX1_cheapestByTable_29 rfl (lv_at hl 0 rfl) ?_
              refine g_goi (vx_runV (As := [.ref (t 0), .int (zI y), .int (zI y2)]) (rest := [.int (zI y2), .int (zI y), .ref mt]) ⟨hx, hb, hml, hown, hts⟩ (k_cheapestTo l G mt ra rb ta X tj H_L15 hM hX1 t rr hT y y2 q j (by omega) (by omega) (by omega) (by omega) hTj) (cwV 3 hts gX1_cheapestByTable_X1_cheapestTo rfl rfl rfl hd_X1_cheapestTo ⟨(Nat.le_of_ble_eq_true rfl), (Nat.le_of_ble_eq_true rfl)⟩) (g_preV hX hS (ci := 1) rfl hm) rfl rfl hl.1 rfl (lv_room (Nat.le_of_ble_eq_true rfl)) dX1_cheapestByTable_30 ⟨(Nat.le_of_ble_eq_true rfl), (Nat.le_of_ble_eq_true rfl)⟩) hS (fun r_30 H_30 locs hp hS => ?_)
              obtain ⟨rfl, rfl⟩ := hp
              refine g_gov (vx_runV (As := [.int (zI y), .int (zI y2), .int (zI (dp X q j))]) (rest := []) ⟨hx, hb, hml, hown, hts⟩ (k_setTableAt l G mt ra rb ta X tj H_L15 hM hX1 y y2 q j (by omega) (by omega) (by omega) (by omega) (zI (dp X q j))) (cwV 3 hts gX1_cheapestByTable_X1_setTableAt rfl rfl rfl hd_X1_setTableAt ⟨(Nat.le_of_ble_eq_true rfl), (Nat.le_of_ble_eq_true rfl)⟩) (g_preV hX hS (ci := 1) rfl hm) rfl rfl hl.1 rfl (lv_room (Nat.le_of_ble_eq_true rfl)) dX1_cheapestByTable_33 ⟨(Nat.le_of_ble_eq_true rfl), (Nat.le_of_ble_eq_true rfl)⟩) hS (fun H_33 locs hp hS => ?_)
              obtain ⟨hM2, hO2⟩ := hp
              refine lv_iinc (v := zI (y2 + 1)) (lv' := [(3, .int (zI (y2 + 1))), (2, .int (zI y)), (0, .ref mt), (1, .ref (t 0))]) hx hb dX1_cheapestByTable_36 hl (k := 0) rfl (zI_add _ _) (by decide) rfl (fun ls hl => ?_)
              refine lv_goto (tgt := 15) hx hb dX1_cheapestByTable_39 (by decide) ?_
              exact ih_15 (y2 + 1) (j + 1) (upd tj (24 * q + j) (zI (dp X q j))) H_33 _ (by omega) (by omega) (by omega) hM2 (hT.grow hO2.grow (fun j5 hj5 => nm1 (Ne.symm (hnt j5 hj5)))) (hOj.trans hO2 (fun _ h => h) (fun _ h => h)) (fun a b ha hb2 => by rw [upd, if_neg (by omega)]; exact hTj a b ha hb2) (fun b hb2 => by rcases Nat.lt_or_ge b j with g | g; rw [upd, if_neg (by omega)]; exact hTr b g; rw [show b = j by omega, upd, if_pos rfl]) hS ls (lv_sub hl [0, 1, 2, 3] rfl)
        exact loop_15 _ 0 0 tq H_L2 _ (Nat.lt_succ_self _) rfl (Nat.zero_le _) hM hT hOq hTq (fun b h => absurd h (Nat.not_lt_zero _)) hS ls (lv_sub hl [0, 1, 2, 3] rfl)
  exact loop_2 _ 0 0 tb H _ (Nat.lt_succ_self _) rfl (Nat.zero_le _) hM hT ⟨rfl, fun _ _ => rfl⟩ (fun a b h => absurd h (Nat.not_lt_zero _)) hS ls (lv_sub hl [0, 1, 2] rfl)
theorem Mat.only {G : gG} {mt ra rb ta : Nat} {X : cX} {tb : Nat → Int32} {L : List Nat} {H H1 : Heap} (h : Mat G mt ra rb ta X tb H) (x : gOnly L H H1) (n1 : mt ∉ L) (n2 : ra ∉ L) (n3 : rb ∉ L) (n4 : ta ∉ L) : Mat G mt ra rb ta X tb H1 := ⟨h.1.only x n1, h.2.1.only x n2 n3, h.2.2.1.only x n4, h.2.2.2⟩
set_option maxHeartbeats 4000000 in
set_option maxRecDepth 100000 in
theorem k_Matching_init (l : Launch) (G : gG) (a : Nat) (H : Heap) (ho : gat G a (.inr (1, [.null, .int (zI 0), .int (zI 0), .int (zI 0), .null])) H) (ga : gB G ≤ a) : gM l yX1_init wsX1_init rm_X1_init [.ref a] G H (gv (fun H1 => ∃ hr hb ta, H.size ≤ hr ∧ hr < hb ∧ hb < ta ∧ ta < H1.size ∧ gat G a (.inr (1, [.ref hr, .int (zI 2), .int (zI 3), .int (zI 1), .ref ta])) H1 ∧ gRow G hr hb 12 0 (fun _ => 0) H1 ∧ gat G ta (.inl (gI G, 288, .inl (fun _ => 0))) H1 ∧ gB G ≤ ta ∧ gGrow [a] H H1)) (gNo) 3 674 := by
  have ha_lt : a < H.size := va_at.lt ho
  have hG : gGrow [a] H H := gGrow.rf _ _
  refine g_start (cc := cX1_init) (maxL := 1) (ret := none) (by decide +kernel) rfl (Nat.le_of_ble_eq_true rfl) ?_
  intro p e s m args below meth c F ls hl
  obtain ⟨hx, hb, hml, hr, hts, hown, hlocks, hxt, hH, hX, hin⟩ := F
  have hown : s.vm.findClass RX1 = some m.cls := hown
  have hS : va_S (gA G) s.heap H [] := by rw [hH]; exact va_S.rf
  have hl : lv_has ls 1 [(0, .ref a)] := hl
  refine lv_aload_n hx hb dX1_init_0 rfl (lv_at hl 0 rfl) ?_
  refine W.objInit hx hb hown (hts (.methodLink RX1 3 objectInit) (List.mem_cons_of_mem _ (List.mem_append_left _ (List.mem_append_left _ (List.mem_of_getElem? (i := 0) rfl))))) (hts (.instanceMethod objectInit) (List.mem_cons_of_mem _ (List.mem_append_left _ (List.mem_append_left _ (List.mem_of_getElem? (i := 1) rfl))))) (hts _ (List.mem_cons_of_mem _ (List.mem_append_left _ (List.mem_append_left _ (List.mem_of_getElem? (i := 2) rfl))))) rfl (by rw [hml]; exact hl.1) rfl dX1_init_1 (Nat.le_of_ble_eq_true rfl) (Nat.le_of_ble_eq_true rfl) ?_
  refine W.eq (g2 := F0 m 4 ls []) rfl ?_
  refine lv_aload_n hx hb dX1_init_4 rfl (lv_at hl 0 rfl) ?_
  refine g_new hx hb hX hts (fun w h => (List.mem_cons_of_mem _ (List.mem_append_left _ (List.mem_append_right _ h)))) tyX2 tyX2_ok hown (hts (.classLink RX1 9 RX2) (List.mem_cons_of_mem _ (List.mem_append_left _ (List.mem_append_left _ (List.mem_of_getElem? (i := 3) rfl))))) (hts (.instantiable RX2 2) (List.mem_cons_of_mem _ (List.mem_append_left _ (List.mem_append_left _ (List.mem_of_getElem? (i := 4) rfl))))) (hts (.initialized RX2) (List.mem_cons_of_mem _ (List.mem_append_left _ (List.mem_append_left _ (List.mem_of_getElem? (i := 5) rfl))))) hS (ci := 2) rfl (fs := [.null, .int (zI 0)]) (fun j hj => by rcases (show j = 0 ∨ j = 1 by omega) with rfl | rfl <;> rfl) (Nat.le_of_ble_eq_true rfl) (Nat.le_of_ble_eq_true rfl) dX1_init_5 (fun H_5 q_5 eq_5 hq_5 gq_5 zq_5 hE hS => ?_)
  have ho := gat.ext ho hE
  have hG := gGrow.trans hG (hE.grow (L := [])) (by intro x hx1 hx2; first | exact hx2 | exact absurd hx2 List.not_mem_nil | (simp only [List.mem_cons, List.not_mem_nil, or_false] at hx2 ⊢; omega))
  refine lv_dup hx hb dX1_init_8 rfl ?_
  refine lv_bipush (v := zI 12) hx hb dX1_init_9 (by decide +kernel) ?_
  refine g_gov (vx_runI (As := [.int (zI 12)]) (rest := [.ref q_5, .ref a]) ⟨hx, hb, hml, hown, hts⟩ (k_Row_init l G q_5 12 (12 : Int) H_5 hq_5 gq_5 rfl (by decide)) (cwI 1 hts gX1_init_X2_init rfl rfl rfl (hts (.initialized RX2) (List.mem_cons_of_mem _ (List.mem_append_left _ (List.mem_append_left _ (List.mem_of_getElem? (i := 5) rfl))))) (hts (.methodLink RX1 11 yX2_init) (List.mem_cons_of_mem _ (List.mem_append_left _ (List.mem_append_left _ (List.mem_of_getElem? (i := 12) rfl))))) (hts (.instanceMethod yX2_init) (List.mem_cons_of_mem _ (List.mem_append_left _ (List.mem_append_left _ (List.mem_of_getElem? (i := 13) rfl))))) rfl hd_X2_init.2 ⟨(Nat.le_of_ble_eq_true rfl), (Nat.le_of_ble_eq_true rfl)⟩) (g_pre hX hS) rfl rfl hl.1 rfl (lv_room (Nat.le_of_ble_eq_true rfl)) dX1_init_11 ⟨(Nat.le_of_ble_eq_true rfl), (Nat.le_of_ble_eq_true rfl)⟩) hS (fun H_11 locs hp hS => ?_)
  obtain ⟨b1, hb1, hb1s, hr1, hg1⟩ := hp
  have ho := ho.grow hg1 (nm1 (by omega))
  have hG := gGrow.trans hG hg1 (by intro x hx1 hx2; first | exact hx2 | exact absurd hx2 List.not_mem_nil | (simp only [List.mem_cons, List.not_mem_nil, or_false] at hx2 ⊢; omega))
  refine g_putF hx hb hX hts (fun w h => (List.mem_cons_of_mem _ (List.mem_append_right _ h))) tyX1 tyX1_ok nmX1 hown hS ho ga rfl 0 (by decide) (hts (.fieldLink RX1 14 "TuneCatalogue$Matching" "hum" "LTuneCatalogue$Row;") (List.mem_cons_of_mem _ (List.mem_append_left _ (List.mem_append_left _ (List.mem_of_getElem? (i := 6) rfl))))) rfl hin rfl (ty := tyX1 0) rfl rfl rfl (Nat.le_of_ble_eq_true rfl) dX1_init_14 (fun H_14 locs h_n hO hS => ?_)
  have hr1 := hr1.only hO (nm1 (by omega)) (nm1 (by omega))
  have ho : gat G a (.inr (1, [.ref q_5, .int (zI 0), .int (zI 0), .int (zI 0), .null])) H_14 := h_n
  have hG := gGrow.trans hG hO.grow (by intro x hx1 hx2; first | exact hx2 | exact absurd hx2 List.not_mem_nil | (simp only [List.mem_cons, List.not_mem_nil, or_false] at hx2 ⊢; omega))
  have s14 := hO.1
  refine lv_aload_n hx hb dX1_init_17 rfl (lv_at hl 0 rfl) ?_
  refine lv_iconst (v := zI 2) hx hb dX1_init_18 rfl ?_
  refine g_put hx hb hX hts (fun w h => (List.mem_cons_of_mem _ (List.mem_append_right _ h))) tyX1 tyX1_ok nmX1 hown hS ho ga rfl 1 (by decide) (hts (.fieldLink RX1 20 "TuneCatalogue$Matching" "slip" "I") (List.mem_cons_of_mem _ (List.mem_append_left _ (List.mem_append_left _ (List.mem_of_getElem? (i := 7) rfl))))) rfl (ty := tyX1 1) rfl rfl rfl (Nat.le_of_ble_eq_true rfl) dX1_init_19 (fun H_19 locs h_n hO hS => ?_)
  have hr1 := hr1.only hO (nm1 (by omega)) (nm1 (by omega))
  have ho : gat G a (.inr (1, [.ref q_5, .int (zI 2), .int (zI 0), .int (zI 0), .null])) H_19 := h_n
  have hG := gGrow.trans hG hO.grow (by intro x hx1 hx2; first | exact hx2 | exact absurd hx2 List.not_mem_nil | (simp only [List.mem_cons, List.not_mem_nil, or_false] at hx2 ⊢; omega))
  have s19 := hO.1
  refine lv_aload_n hx hb dX1_init_22 rfl (lv_at hl 0 rfl) ?_
  refine lv_iconst (v := zI 3) hx hb dX1_init_23 rfl ?_
  refine g_put hx hb hX hts (fun w h => (List.mem_cons_of_mem _ (List.mem_append_right _ h))) tyX1 tyX1_ok nmX1 hown hS ho ga rfl 2 (by decide) (hts (.fieldLink RX1 24 "TuneCatalogue$Matching" "ornament" "I") (List.mem_cons_of_mem _ (List.mem_append_left _ (List.mem_append_left _ (List.mem_of_getElem? (i := 8) rfl))))) rfl (ty := tyX1 2) rfl rfl rfl (Nat.le_of_ble_eq_true rfl) dX1_init_24 (fun H_24 locs h_n hO hS => ?_)
  have hr1 := hr1.only hO (nm1 (by omega)) (nm1 (by omega))
  have ho : gat G a (.inr (1, [.ref q_5, .int (zI 2), .int (zI 3), .int (zI 0), .null])) H_24 := h_n
  have hG := gGrow.trans hG hO.grow (by intro x hx1 hx2; first | exact hx2 | exact absurd hx2 List.not_mem_nil | (simp only [List.mem_cons, List.not_mem_nil, or_false] at hx2 ⊢; omega))
  have s24 := hO.1
  refine lv_aload_n hx hb dX1_init_27 rfl (lv_at hl 0 rfl) ?_
  refine lv_iconst (v := zI 1) hx hb dX1_init_28 rfl ?_
  refine g_put hx hb hX hts (fun w h => (List.mem_cons_of_mem _ (List.mem_append_right _ h))) tyX1 tyX1_ok nmX1 hown hS ho ga rfl 3 (by decide) (hts (.fieldLink RX1 27 "TuneCatalogue$Matching" "repeat" "I") (List.mem_cons_of_mem _ (List.mem_append_left _ (List.mem_append_left _ (List.mem_of_getElem? (i := 9) rfl))))) rfl (ty := tyX1 3) rfl rfl rfl (Nat.le_of_ble_eq_true rfl) dX1_init_29 (fun H_29 locs h_n hO hS => ?_)
  have hr1 := hr1.only hO (nm1 (by omega)) (nm1 (by omega))
  have ho : gat G a (.inr (1, [.ref q_5, .int (zI 2), .int (zI 3), .int (zI 1), .null])) H_29 := h_n
  have hG := gGrow.trans hG hO.grow (by intro x hx1 hx2; first | exact hx2 | exact absurd hx2 List.not_mem_nil | (simp only [List.mem_cons, List.not_mem_nil, or_false] at hx2 ⊢; omega))
  have s29 := hO.1
  refine lv_aload_n hx hb dX1_init_32 rfl (lv_at hl 0 rfl) ?_
  refine lv_sipush (v := zI 288) hx hb dX1_init_33 (by decide +kernel) ?_
  refine g_newa (atype := .int) hx hb hX (hts (.arrayClass .int) (List.mem_cons_of_mem _ (List.mem_append_left _ (List.mem_append_left _ (List.mem_of_getElem? (i := 10) rfl))))) (cX := gI G) (hX.1.1.2 0 _ rfl).2 hS (N' := 288) (a0 := (288, .inl (fun _ => 0))) (by rw [vp_cell_i]; rfl) (by decide +kernel) (by decide +kernel) (Nat.le_of_ble_eq_true rfl) (Nat.le_of_ble_eq_true rfl) (Nat.le_of_ble_eq_true rfl) dX1_init_36 (fun H_36 q_36 eq_36 hq_36 gq_36 zq_36 hE hS => ?_)
  have ho := gat.ext ho hE
  have hr1 := hr1.ext hE
  have hG := gGrow.trans hG (hE.grow (L := [])) (by intro x hx1 hx2; first | exact hx2 | exact absurd hx2 List.not_mem_nil | (simp only [List.mem_cons, List.not_mem_nil, or_false] at hx2 ⊢; omega))
  refine g_putF hx hb hX hts (fun w h => (List.mem_cons_of_mem _ (List.mem_append_right _ h))) tyX1 tyX1_ok nmX1 hown hS ho ga rfl 4 (by decide) (hts (.fieldLink RX1 30 "TuneCatalogue$Matching" "table" "[I") (List.mem_cons_of_mem _ (List.mem_append_left _ (List.mem_append_left _ (List.mem_of_getElem? (i := 11) rfl))))) rfl hin rfl (ty := tyX1 4) rfl rfl rfl (Nat.le_of_ble_eq_true rfl) dX1_init_38 (fun H_38 locs h_n hO hS => ?_)
  have hq_36 := gat.only1 hq_36 hO (by omega)
  have hr1 := hr1.only hO (nm1 (by omega)) (nm1 (by omega))
  have ho : gat G a (.inr (1, [.ref q_5, .int (zI 2), .int (zI 3), .int (zI 1), .ref q_36])) H_38 := h_n
  have hG := gGrow.trans hG hO.grow (by intro x hx1 hx2; first | exact hx2 | exact absurd hx2 List.not_mem_nil | (simp only [List.mem_cons, List.not_mem_nil, or_false] at hx2 ⊢; omega))
  have s38 := hO.1
  exact g_retv hx hb hr hlocks hS (⟨q_5, b1, q_36, by omega, by omega, by omega, by omega, ho, hr1, hq_36, gq_36, hG⟩) (Nat.le_of_ble_eq_true rfl) (Nat.le_of_ble_eq_true rfl) dX1_init_41
