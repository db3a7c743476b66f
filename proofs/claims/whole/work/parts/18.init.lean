theorem list13 {a0 a1 a2 a3 a4 a5 a6 a7 a8 a9 a10 a11 a12 : Nat} (h0 : a0 < a1) (h1 : a1 < a2) (h2 : a2 < a3) (h3 : a3 < a4) (h4 : a4 < a5) (h5 : a5 < a6) (h6 : a6 < a7) (h7 : a7 < a8) (h8 : a8 < a9) (h9 : a9 < a10) (h10 : a10 < a11) (h11 : a11 < a12) : ∀ k, k + 1 < 13 → [a0, a1, a2, a3, a4, a5, a6, a7, a8, a9, a10, a11, a12].getD k 0 < [a0, a1, a2, a3, a4, a5, a6, a7, a8, a9, a10, a11, a12].getD (k + 1) 0 := by
  intro k hk
  rcases (show k = 0 ∨ k = 1 ∨ k = 2 ∨ k = 3 ∨ k = 4 ∨ k = 5 ∨ k = 6 ∨ k = 7 ∨ k = 8 ∨ k = 9 ∨ k = 10 ∨ k = 11 by omega) with rfl | rfl | rfl | rfl | rfl | rfl | rfl | rfl | rfl | rfl | rfl | rfl <;> assumption
set_option maxHeartbeats 4000000 in
set_option maxRecDepth 100000 in
theorem k_Cat_init (l : Launch) (G : gG) (a : Nat) (H : Heap) (ho : gat G a (.inr (4, [.null, .int (zI 0), .null, .null, .null, .null, .null])) H) (ga : gB G ≤ a) : gM l yX4_init wsX4_init rm_X4_init [.ref a] G H (gv (fun H1 => ∃ A : Nat → Nat, A 0 = a ∧ (∃ W, Cat G A (fun _ _ => 0) S00 W H1) ∧ gGrow [a] H H1 ∧ ∀ k, 1 ≤ k → k < 13 → H.size ≤ A k)) (gNo) 16 2000 := by
  have ha_lt : a < H.size := va_at.lt ho
  have hG : gGrow [a] H H := gGrow.rf _ _
  refine g_start (cc := cX4_init) (maxL := 1) (ret := none) (by decide +kernel) rfl (Nat.le_of_ble_eq_true rfl) ?_
  intro p e s m args below meth c F ls hl
  obtain ⟨hx, hb, hml, hr, hts, hown, hlocks, hxt, hH, hX, hin⟩ := F
  have hown : s.vm.findClass RX4 = some m.cls := hown
  have hS : va_S (gA G) s.heap H [] := by rw [hH]; exact va_S.rf
  have hl : lv_has ls 1 [(0, .ref a)] := hl
  refine lv_aload_n hx hb dX4_init_0 rfl (lv_at hl 0 rfl) ?_
  refine W.objInit hx hb hown (hts (.methodLink RX4 1 objectInit) (List.mem_cons_of_mem _ (List.mem_append_left _ (List.mem_append_left _ (List.mem_append_left _ (List.mem_append_left _ (List.mem_append_left _ (List.mem_of_getElem? (i := 0) rfl)))))))) (hts (.instanceMethod objectInit) (List.mem_cons_of_mem _ (List.mem_append_left _ (List.mem_append_left _ (List.mem_append_left _ (List.mem_append_left _ (List.mem_append_left _ (List.mem_of_getElem? (i := 1) rfl)))))))) (hts _ (List.mem_cons_of_mem _ (List.mem_append_left _ (List.mem_append_left _ (List.mem_append_left _ (List.mem_append_left _ (List.mem_append_left _ (List.mem_of_getElem? (i := 2) rfl)))))))) rfl (by rw [hml]; exact hl.1) rfl dX4_init_1 (Nat.le_of_ble_eq_true rfl) (Nat.le_of_ble_eq_true rfl) ?_
  refine W.eq (g2 := F0 m 4 ls []) rfl ?_
  refine lv_aload_n hx hb dX4_init_4 rfl (lv_at hl 0 rfl) ?_
  refine lv_bipush (v := zI 16) hx hb dX4_init_5 (by decide +kernel) ?_
  refine g_newT hx hb hX hown (hts (.classLink RX4 9 "TuneCatalogue$Tune") (List.mem_cons_of_mem _ (List.mem_append_left _ (List.mem_append_left _ (List.mem_append_left _ (List.mem_append_left _ (List.mem_append_left _ (List.mem_of_getElem? (i := 3) rfl)))))))) hS (N' := 16) (by decide) (by decide) (Nat.le_of_ble_eq_true rfl) (Nat.le_of_ble_eq_true rfl) (Nat.le_of_ble_eq_true rfl) dX4_init_7 (fun H_7 q_7 eq_7 hq_7 gq_7 zq_7 hE hS => ?_)
  have ho := gat.ext ho hE
  have hG := gGrow.trans hG (hE.grow (L := [])) (by intro x hx1 hx2; first | exact hx2 | exact absurd hx2 List.not_mem_nil | (simp only [List.mem_cons, List.not_mem_nil, or_false] at hx2 ⊢; omega))
  refine g_putF hx hb hX hts (fun w h => (List.mem_cons_of_mem _ (List.mem_append_left _ (List.mem_append_left _ (List.mem_append_left _ (List.mem_append_right _ h)))))) tyX4 tyX4_ok nmX4 hown hS ho ga rfl 0 (by decide) (hts (.fieldLink RX4 11 "TuneCatalogue" "entries" "[LTuneCatalogue$Tune;") (List.mem_cons_of_mem _ (List.mem_append_left _ (List.mem_append_left _ (List.mem_append_left _ (List.mem_append_left _ (List.mem_append_left _ (List.mem_of_getElem? (i := 4) rfl)))))))) rfl hin rfl (ty := tyX4 0) rfl rfl rfl (Nat.le_of_ble_eq_true rfl) dX4_init_10 (fun H_10 locs h_n hO hS => ?_)
  have hq_7 := gat.only1 hq_7 hO (by omega)
  have ho : gat G a (.inr (4, [.ref q_7, .int (zI 0), .null, .null, .null, .null, .null])) H_10 := h_n
  have hG := gGrow.trans hG hO.grow (by intro x hx1 hx2; first | exact hx2 | exact absurd hx2 List.not_mem_nil | (simp only [List.mem_cons, List.not_mem_nil, or_false] at hx2 ⊢; omega))
  have s10 := hO.1
  refine lv_aload_n hx hb dX4_init_13 rfl (lv_at hl 0 rfl) ?_
  refine g_new hx hb hX hts (fun w h => (List.mem_cons_of_mem _ (List.mem_append_left _ (List.mem_append_left _ (List.mem_append_right _ h))))) tyX2 tyX2_ok hown (hts (.classLink RX4 15 RX2) (List.mem_cons_of_mem _ (List.mem_append_left _ (List.mem_append_left _ (List.mem_append_left _ (List.mem_append_left _ (List.mem_append_left _ (List.mem_of_getElem? (i := 5) rfl)))))))) (hts (.instantiable RX2 2) (List.mem_cons_of_mem _ (List.mem_append_left _ (List.mem_append_left _ (List.mem_append_left _ (List.mem_append_left _ (List.mem_append_left _ (List.mem_of_getElem? (i := 6) rfl)))))))) (hts (.initialized RX2) (List.mem_cons_of_mem _ (List.mem_append_left _ (List.mem_append_left _ (List.mem_append_left _ (List.mem_append_left _ (List.mem_append_left _ (List.mem_of_getElem? (i := 7) rfl)))))))) hS (ci := 2) rfl (fs := [.null, .int (zI 0)]) (fun j hj => by rcases (show j = 0 ∨ j = 1 by omega) with rfl | rfl <;> rfl) (Nat.le_of_ble_eq_true rfl) (Nat.le_of_ble_eq_true rfl) dX4_init_14 (fun H_14 q_14 eq_14 hq_14 gq_14 zq_14 hE hS => ?_)
  have ho := gat.ext ho hE
  have hq_7 := gat.ext hq_7 hE
  have hG := gGrow.trans hG (hE.grow (L := [])) (by intro x hx1 hx2; first | exact hx2 | exact absurd hx2 List.not_mem_nil | (simp only [List.mem_cons, List.not_mem_nil, or_false] at hx2 ⊢; omega))
  refine lv_dup hx hb dX4_init_17 rfl ?_
  refine lv_bipush (v := zI 12) hx hb dX4_init_18 (by decide +kernel) ?_
  refine g_gov (vx_runI (As := [.int (zI 12)]) (rest := [.ref q_14, .ref a]) ⟨hx, hb, hml, hown, hts⟩ (k_Row_init l G q_14 12 (12 : Int) H_14 hq_14 gq_14 rfl (by decide)) (cwI 1 hts gX4_init_X2_init rfl rfl rfl (hts (.initialized RX2) (List.mem_cons_of_mem _ (List.mem_append_left _ (List.mem_append_left _ (List.mem_append_left _ (List.mem_append_left _ (List.mem_append_left _ (List.mem_of_getElem? (i := 7) rfl)))))))) (hts (.methodLink RX4 17 yX2_init) (List.mem_cons_of_mem _ (List.mem_append_left _ (List.mem_append_left _ (List.mem_append_left _ (List.mem_append_left _ (List.mem_append_left _ (List.mem_of_getElem? (i := 19) rfl)))))))) (hts (.instanceMethod yX2_init) (List.mem_cons_of_mem _ (List.mem_append_left _ (List.mem_append_left _ (List.mem_append_left _ (List.mem_append_left _ (List.mem_append_left _ (List.mem_of_getElem? (i := 20) rfl)))))))) rfl hd_X2_init.2 ⟨(Nat.le_of_ble_eq_true rfl), (Nat.le_of_ble_eq_true rfl)⟩) (g_pre hX hS) rfl rfl hl.1 rfl (lv_room (Nat.le_of_ble_eq_true rfl)) dX4_init_20 ⟨(Nat.le_of_ble_eq_true rfl), (Nat.le_of_ble_eq_true rfl)⟩) hS (fun H_20 locs hp hS => ?_)
  obtain ⟨b1, hb1, hb1s, hr1, hg1⟩ := hp
  have ho := ho.grow hg1 (nm1 (by omega))
  have hq_7 := hq_7.grow hg1 (nm1 (by omega))
  have hG := gGrow.trans hG hg1 (by intro x hx1 hx2; first | exact hx2 | exact absurd hx2 List.not_mem_nil | (simp only [List.mem_cons, List.not_mem_nil, or_false] at hx2 ⊢; omega))
  refine g_putF hx hb hX hts (fun w h => (List.mem_cons_of_mem _ (List.mem_append_left _ (List.mem_append_left _ (List.mem_append_left _ (List.mem_append_right _ h)))))) tyX4 tyX4_ok nmX4 hown hS ho ga rfl 2 (by decide) (hts (.fieldLink RX4 20 "TuneCatalogue" "humRow" "LTuneCatalogue$Row;") (List.mem_cons_of_mem _ (List.mem_append_left _ (List.mem_append_left _ (List.mem_append_left _ (List.mem_append_left _ (List.mem_append_left _ (List.mem_of_getElem? (i := 8) rfl)))))))) rfl hin rfl (ty := tyX4 2) rfl rfl rfl (Nat.le_of_ble_eq_true rfl) dX4_init_23 (fun H_23 locs h_n hO hS => ?_)
  have hq_7 := gat.only1 hq_7 hO (by omega)
  have hr1 := hr1.only hO (nm1 (by omega)) (nm1 (by omega))
  have ho : gat G a (.inr (4, [.ref q_7, .int (zI 0), .ref q_14, .null, .null, .null, .null])) H_23 := h_n
  have hG := gGrow.trans hG hO.grow (by intro x hx1 hx2; first | exact hx2 | exact absurd hx2 List.not_mem_nil | (simp only [List.mem_cons, List.not_mem_nil, or_false] at hx2 ⊢; omega))
  have s23 := hO.1
  refine lv_aload_n hx hb dX4_init_26 rfl (lv_at hl 0 rfl) ?_
  refine g_new hx hb hX hts (fun w h => (List.mem_cons_of_mem _ (List.mem_append_left _ (List.mem_append_right _ h)))) tyX1 tyX1_ok hown (hts (.classLink RX4 24 RX1) (List.mem_cons_of_mem _ (List.mem_append_left _ (List.mem_append_left _ (List.mem_append_left _ (List.mem_append_left _ (List.mem_append_left _ (List.mem_of_getElem? (i := 9) rfl)))))))) (hts (.instantiable RX1 5) (List.mem_cons_of_mem _ (List.mem_append_left _ (List.mem_append_left _ (List.mem_append_left _ (List.mem_append_left _ (List.mem_append_left _ (List.mem_of_getElem? (i := 10) rfl)))))))) (hts (.initialized RX1) (List.mem_cons_of_mem _ (List.mem_append_left _ (List.mem_append_left _ (List.mem_append_left _ (List.mem_append_left _ (List.mem_append_left _ (List.mem_of_getElem? (i := 11) rfl)))))))) hS (ci := 1) rfl (fs := [.null, .int (zI 0), .int (zI 0), .int (zI 0), .null]) (fun j hj => by rcases (show j = 0 ∨ j = 1 ∨ j = 2 ∨ j = 3 ∨ j = 4 by omega) with rfl | rfl | rfl | rfl | rfl <;> rfl) (Nat.le_of_ble_eq_true rfl) (Nat.le_of_ble_eq_true rfl) dX4_init_27 (fun H_27 q_27 eq_27 hq_27 gq_27 zq_27 hE hS => ?_)
  have ho := gat.ext ho hE
  have hq_7 := gat.ext hq_7 hE
  have hr1 := hr1.ext hE
  have hG := gGrow.trans hG (hE.grow (L := [])) (by intro x hx1 hx2; first | exact hx2 | exact absurd hx2 List.not_mem_nil | (simp only [List.mem_cons, List.not_mem_nil, or_false] at hx2 ⊢; omega))
  refine lv_dup hx hb dX4_init_30 rfl ?_
  refine lv_aload_n hx hb dX4_init_31 rfl (lv_at hl 0 rfl) ?_
  refine g_get hx hb hX hts (fun w h => (List.mem_cons_of_mem _ (List.mem_append_left _ (List.mem_append_left _ (List.mem_append_left _ (List.mem_append_right _ h)))))) hown ho rfl 2 (by decide) (hts (.fieldLink RX4 20 "TuneCatalogue" "humRow" "LTuneCatalogue$Row;") (List.mem_cons_of_mem _ (List.mem_append_left _ (List.mem_append_left _ (List.mem_append_left _ (List.mem_append_left _ (List.mem_append_left _ (List.mem_of_getElem? (i := 8) rfl)))))))) rfl dX4_init_32 ?_
  refine g_gov (vx_runI (As := [.ref q_14]) (rest := [.ref q_27, .ref a]) ⟨hx, hb, hml, hown, hts⟩ (k_Matching_init l G q_27 q_14 H_27 hq_27 gq_27) (cwI 1 hts gX4_init_X1_init rfl rfl rfl (hts (.initialized RX1) (List.mem_cons_of_mem _ (List.mem_append_left _ (List.mem_append_left _ (List.mem_append_left _ (List.mem_append_left _ (List.mem_append_left _ (List.mem_of_getElem? (i := 11) rfl)))))))) (hts (.methodLink RX4 26 yX1_init) (List.mem_cons_of_mem _ (List.mem_append_left _ (List.mem_append_left _ (List.mem_append_left _ (List.mem_append_left _ (List.mem_append_right _ (List.mem_of_getElem? (i := 5) rfl)))))))) (hts (.instanceMethod yX1_init) (List.mem_cons_of_mem _ (List.mem_append_left _ (List.mem_append_left _ (List.mem_append_left _ (List.mem_append_left _ (List.mem_append_right _ (List.mem_of_getElem? (i := 6) rfl)))))))) rfl hd_X1_init.2 ⟨(Nat.le_of_ble_eq_true rfl), (Nat.le_of_ble_eq_true rfl)⟩) (g_pre hX hS) rfl rfl hl.1 rfl (lv_room (Nat.le_of_ble_eq_true rfl)) dX4_init_35 ⟨(Nat.le_of_ble_eq_true rfl), (Nat.le_of_ble_eq_true rfl)⟩) hS (fun H_35 locs hp hS => ?_)
  obtain ⟨ta, hta1, hta2, hmt, htb, gta, hgm⟩ := hp
  have ho := ho.grow hgm (nm1 (by omega))
  have hq_7 := hq_7.grow hgm (nm1 (by omega))
  have hr1 := hr1.grow hgm (nm1 (by omega)) (nm1 (by omega))
  have hG := gGrow.trans hG hgm (by intro x hx1 hx2; first | exact hx2 | exact absurd hx2 List.not_mem_nil | (simp only [List.mem_cons, List.not_mem_nil, or_false] at hx2 ⊢; omega))
  refine g_putF hx hb hX hts (fun w h => (List.mem_cons_of_mem _ (List.mem_append_left _ (List.mem_append_left _ (List.mem_append_left _ (List.mem_append_right _ h)))))) tyX4 tyX4_ok nmX4 hown hS ho ga rfl 3 (by decide) (hts (.fieldLink RX4 29 "TuneCatalogue" "matching" "LTuneCatalogue$Matching;") (List.mem_cons_of_mem _ (List.mem_append_left _ (List.mem_append_left _ (List.mem_append_left _ (List.mem_append_left _ (List.mem_append_left _ (List.mem_of_getElem? (i := 12) rfl)))))))) rfl hin rfl (ty := tyX4 3) rfl rfl rfl (Nat.le_of_ble_eq_true rfl) dX4_init_38 (fun H_38 locs h_n hO hS => ?_)
  have hq_7 := gat.only1 hq_7 hO (by omega)
  have hmt := gat.only1 hmt hO (by omega)
  have htb := gat.only1 htb hO (by omega)
  have hr1 := hr1.only hO (nm1 (by omega)) (nm1 (by omega))
  have ho : gat G a (.inr (4, [.ref q_7, .int (zI 0), .ref q_14, .ref q_27, .null, .null, .null])) H_38 := h_n
  have hG := gGrow.trans hG hO.grow (by intro x hx1 hx2; first | exact hx2 | exact absurd hx2 List.not_mem_nil | (simp only [List.mem_cons, List.not_mem_nil, or_false] at hx2 ⊢; omega))
  have s38 := hO.1
  refine lv_aload_n hx hb dX4_init_41 rfl (lv_at hl 0 rfl) ?_
  refine g_new hx hb hX hts (fun w h => (List.mem_cons_of_mem _ (List.mem_append_right _ h))) tyX0 tyX0_ok hown (hts (.classLink RX4 33 RX0) (List.mem_cons_of_mem _ (List.mem_append_left _ (List.mem_append_left _ (List.mem_append_left _ (List.mem_append_left _ (List.mem_append_left _ (List.mem_of_getElem? (i := 13) rfl)))))))) (hts (.instantiable RX0 1) (List.mem_cons_of_mem _ (List.mem_append_left _ (List.mem_append_left _ (List.mem_append_left _ (List.mem_append_left _ (List.mem_append_left _ (List.mem_of_getElem? (i := 14) rfl)))))))) (hts (.initialized RX0) (List.mem_cons_of_mem _ (List.mem_append_left _ (List.mem_append_left _ (List.mem_append_left _ (List.mem_append_left _ (List.mem_append_left _ (List.mem_of_getElem? (i := 15) rfl)))))))) hS (ci := 0) rfl (fs := [.null]) (fun j hj => by rcases (show j = 0 by omega) with rfl <;> rfl) (Nat.le_of_ble_eq_true rfl) (Nat.le_of_ble_eq_true rfl) dX4_init_42 (fun H_42 q_42 eq_42 hq_42 gq_42 zq_42 hE hS => ?_)
  have ho := gat.ext ho hE
  have hq_7 := gat.ext hq_7 hE
  have hmt := gat.ext hmt hE
  have htb := gat.ext htb hE
  have hr1 := hr1.ext hE
  have hG := gGrow.trans hG (hE.grow (L := [])) (by intro x hx1 hx2; first | exact hx2 | exact absurd hx2 List.not_mem_nil | (simp only [List.mem_cons, List.not_mem_nil, or_false] at hx2 ⊢; omega))
  refine lv_dup hx hb dX4_init_45 rfl ?_
  refine g_gov (vx_runIN (As := []) (rest := [.ref q_42, .ref a]) ⟨hx, hb, hml, hown, hts⟩ (k_Links_init l G q_42 H_42 hq_42 gq_42) ⟨va_cnB 0 hts gX4_init_X0_init_n35 rfl rfl rfl (hX.1.2.2.1 _ (by decide +kernel : Cond.methodLinkNest RX4 35 yX0_init RX4 ∈ gNM)) (hts (.initialized RX0) (List.mem_cons_of_mem _ (List.mem_append_left _ (List.mem_append_left _ (List.mem_append_left _ (List.mem_append_left _ (List.mem_append_left _ (List.mem_of_getElem? (i := 15) rfl)))))))) hd_X0_init.2 ⟨(Nat.le_of_ble_eq_true rfl), (Nat.le_of_ble_eq_true rfl)⟩, rfl, hts (.instanceMethod yX0_init) (List.mem_cons_of_mem _ (List.mem_append_left _ (List.mem_append_left _ (List.mem_append_left _ (List.mem_append_left _ (List.mem_append_right _ (List.mem_of_getElem? (i := 14) rfl)))))))⟩ (g_pre hX hS) rfl rfl hl.1 rfl (lv_room (Nat.le_of_ble_eq_true rfl)) dX4_init_46 ⟨(Nat.le_of_ble_eq_true rfl), (Nat.le_of_ble_eq_true rfl)⟩) hS (fun H_46 locs hp hS => ?_)
  obtain ⟨lr, lb, hlr1, hlr2, hlr3, hlk, hgl⟩ := hp
  have ho := ho.grow hgl (nm1 (by omega))
  have hq_7 := hq_7.grow hgl (nm1 (by omega))
  have hmt := hmt.grow hgl (nm1 (by omega))
  have htb := htb.grow hgl (nm1 (by omega))
  have hr1 := hr1.grow hgl (nm1 (by omega)) (nm1 (by omega))
  have hG := gGrow.trans hG hgl (by intro x hx1 hx2; first | exact hx2 | exact absurd hx2 List.not_mem_nil | (simp only [List.mem_cons, List.not_mem_nil, or_false] at hx2 ⊢; omega))
  refine g_putF hx hb hX hts (fun w h => (List.mem_cons_of_mem _ (List.mem_append_left _ (List.mem_append_left _ (List.mem_append_left _ (List.mem_append_right _ h)))))) tyX4 tyX4_ok nmX4 hown hS ho ga rfl 4 (by decide) (hts (.fieldLink RX4 36 "TuneCatalogue" "links" "LTuneCatalogue$Links;") (List.mem_cons_of_mem _ (List.mem_append_left _ (List.mem_append_left _ (List.mem_append_left _ (List.mem_append_left _ (List.mem_append_left _ (List.mem_of_getElem? (i := 16) rfl)))))))) rfl hin rfl (ty := tyX4 4) rfl rfl rfl (Nat.le_of_ble_eq_true rfl) dX4_init_49 (fun H_49 locs h_n hO hS => ?_)
  have hq_7 := gat.only1 hq_7 hO (by omega)
  have hmt := gat.only1 hmt hO (by omega)
  have htb := gat.only1 htb hO (by omega)
  have hr1 := hr1.only hO (nm1 (by omega)) (nm1 (by omega))
  have hlk := hlk.only hO (nm1 (by omega)) (nm1 (by omega)) (nm1 (by omega))
  have ho : gat G a (.inr (4, [.ref q_7, .int (zI 0), .ref q_14, .ref q_27, .ref q_42, .null, .null])) H_49 := h_n
  have hG := gGrow.trans hG hO.grow (by intro x hx1 hx2; first | exact hx2 | exact absurd hx2 List.not_mem_nil | (simp only [List.mem_cons, List.not_mem_nil, or_false] at hx2 ⊢; omega))
  have s49 := hO.1
  refine lv_aload_n hx hb dX4_init_52 rfl (lv_at hl 0 rfl) ?_
  refine g_new hx hb hX hts (fun w h => (List.mem_cons_of_mem _ (List.mem_append_left _ (List.mem_append_left _ (List.mem_append_right _ h))))) tyX2 tyX2_ok hown (hts (.classLink RX4 15 RX2) (List.mem_cons_of_mem _ (List.mem_append_left _ (List.mem_append_left _ (List.mem_append_left _ (List.mem_append_left _ (List.mem_append_left _ (List.mem_of_getElem? (i := 5) rfl)))))))) (hts (.instantiable RX2 2) (List.mem_cons_of_mem _ (List.mem_append_left _ (List.mem_append_left _ (List.mem_append_left _ (List.mem_append_left _ (List.mem_append_left _ (List.mem_of_getElem? (i := 6) rfl)))))))) (hts (.initialized RX2) (List.mem_cons_of_mem _ (List.mem_append_left _ (List.mem_append_left _ (List.mem_append_left _ (List.mem_append_left _ (List.mem_append_left _ (List.mem_of_getElem? (i := 7) rfl)))))))) hS (ci := 2) rfl (fs := [.null, .int (zI 0)]) (fun j hj => by rcases (show j = 0 ∨ j = 1 by omega) with rfl | rfl <;> rfl) (Nat.le_of_ble_eq_true rfl) (Nat.le_of_ble_eq_true rfl) dX4_init_53 (fun H_53 q_53 eq_53 hq_53 gq_53 zq_53 hE hS => ?_)
  have ho := gat.ext ho hE
  have hq_7 := gat.ext hq_7 hE
  have hmt := gat.ext hmt hE
  have htb := gat.ext htb hE
  have hr1 := hr1.ext hE
  have hlk := hlk.ext hE
  have hG := gGrow.trans hG (hE.grow (L := [])) (by intro x hx1 hx2; first | exact hx2 | exact absurd hx2 List.not_mem_nil | (simp only [List.mem_cons, List.not_mem_nil, or_false] at hx2 ⊢; omega))
  refine lv_dup hx hb dX4_init_56 rfl ?_
  refine lv_bipush (v := zI 16) hx hb dX4_init_57 (by decide +kernel) ?_
  refine g_gov (vx_runI (As := [.int (zI 16)]) (rest := [.ref q_53, .ref a]) ⟨hx, hb, hml, hown, hts⟩ (k_Row_init l G q_53 16 (16 : Int) H_53 hq_53 gq_53 rfl (by decide)) (cwI 1 hts gX4_init_X2_init rfl rfl rfl (hts (.initialized RX2) (List.mem_cons_of_mem _ (List.mem_append_left _ (List.mem_append_left _ (List.mem_append_left _ (List.mem_append_left _ (List.mem_append_left _ (List.mem_of_getElem? (i := 7) rfl)))))))) (hts (.methodLink RX4 17 yX2_init) (List.mem_cons_of_mem _ (List.mem_append_left _ (List.mem_append_left _ (List.mem_append_left _ (List.mem_append_left _ (List.mem_append_left _ (List.mem_of_getElem? (i := 19) rfl)))))))) (hts (.instanceMethod yX2_init) (List.mem_cons_of_mem _ (List.mem_append_left _ (List.mem_append_left _ (List.mem_append_left _ (List.mem_append_left _ (List.mem_append_left _ (List.mem_of_getElem? (i := 20) rfl)))))))) rfl hd_X2_init.2 ⟨(Nat.le_of_ble_eq_true rfl), (Nat.le_of_ble_eq_true rfl)⟩) (g_pre hX hS) rfl rfl hl.1 rfl (lv_room (Nat.le_of_ble_eq_true rfl)) dX4_init_59 ⟨(Nat.le_of_ble_eq_true rfl), (Nat.le_of_ble_eq_true rfl)⟩) hS (fun H_59 locs hp hS => ?_)
  obtain ⟨b2, hb2, hb2s, hr2, hg2⟩ := hp
  have ho := ho.grow hg2 (nm1 (by omega))
  have hq_7 := hq_7.grow hg2 (nm1 (by omega))
  have hmt := hmt.grow hg2 (nm1 (by omega))
  have htb := htb.grow hg2 (nm1 (by omega))
  have hr1 := hr1.grow hg2 (nm1 (by omega)) (nm1 (by omega))
  have hlk := hlk.grow hg2 (nm1 (by omega)) (nm1 (by omega)) (nm1 (by omega))
  have hG := gGrow.trans hG hg2 (by intro x hx1 hx2; first | exact hx2 | exact absurd hx2 List.not_mem_nil | (simp only [List.mem_cons, List.not_mem_nil, or_false] at hx2 ⊢; omega))
  refine g_putF hx hb hX hts (fun w h => (List.mem_cons_of_mem _ (List.mem_append_left _ (List.mem_append_left _ (List.mem_append_left _ (List.mem_append_right _ h)))))) tyX4 tyX4_ok nmX4 hown hS ho ga rfl 5 (by decide) (hts (.fieldLink RX4 40 "TuneCatalogue" "priceRow" "LTuneCatalogue$Row;") (List.mem_cons_of_mem _ (List.mem_append_left _ (List.mem_append_left _ (List.mem_append_left _ (List.mem_append_left _ (List.mem_append_left _ (List.mem_of_getElem? (i := 17) rfl)))))))) rfl hin rfl (ty := tyX4 5) rfl rfl rfl (Nat.le_of_ble_eq_true rfl) dX4_init_62 (fun H_62 locs h_n hO hS => ?_)
  have hq_7 := gat.only1 hq_7 hO (by omega)
  have hmt := gat.only1 hmt hO (by omega)
  have htb := gat.only1 htb hO (by omega)
  have hr1 := hr1.only hO (nm1 (by omega)) (nm1 (by omega))
  have hlk := hlk.only hO (nm1 (by omega)) (nm1 (by omega)) (nm1 (by omega))
  have hr2 := hr2.only hO (nm1 (by omega)) (nm1 (by omega))
  have ho : gat G a (.inr (4, [.ref q_7, .int (zI 0), .ref q_14, .ref q_27, .ref q_42, .ref q_53, .null])) H_62 := h_n
  have hG := gGrow.trans hG hO.grow (by intro x hx1 hx2; first | exact hx2 | exact absurd hx2 List.not_mem_nil | (simp only [List.mem_cons, List.not_mem_nil, or_false] at hx2 ⊢; omega))
  have s62 := hO.1
  refine lv_aload_n hx hb dX4_init_65 rfl (lv_at hl 0 rfl) ?_
  refine g_new hx hb hX hts (fun w h => (List.mem_cons_of_mem _ (List.mem_append_left _ (List.mem_append_left _ (List.mem_append_right _ h))))) tyX2 tyX2_ok hown (hts (.classLink RX4 15 RX2) (List.mem_cons_of_mem _ (List.mem_append_left _ (List.mem_append_left _ (List.mem_append_left _ (List.mem_append_left _ (List.mem_append_left _ (List.mem_of_getElem? (i := 5) rfl)))))))) (hts (.instantiable RX2 2) (List.mem_cons_of_mem _ (List.mem_append_left _ (List.mem_append_left _ (List.mem_append_left _ (List.mem_append_left _ (List.mem_append_left _ (List.mem_of_getElem? (i := 6) rfl)))))))) (hts (.initialized RX2) (List.mem_cons_of_mem _ (List.mem_append_left _ (List.mem_append_left _ (List.mem_append_left _ (List.mem_append_left _ (List.mem_append_left _ (List.mem_of_getElem? (i := 7) rfl)))))))) hS (ci := 2) rfl (fs := [.null, .int (zI 0)]) (fun j hj => by rcases (show j = 0 ∨ j = 1 by omega) with rfl | rfl <;> rfl) (Nat.le_of_ble_eq_true rfl) (Nat.le_of_ble_eq_true rfl) dX4_init_66 (fun H_66 q_66 eq_66 hq_66 gq_66 zq_66 hE hS => ?_)
  have ho := gat.ext ho hE
  have hq_7 := gat.ext hq_7 hE
  have hmt := gat.ext hmt hE
  have htb := gat.ext htb hE
  have hr1 := hr1.ext hE
  have hlk := hlk.ext hE
  have hr2 := hr2.ext hE
  have hG := gGrow.trans hG (hE.grow (L := [])) (by intro x hx1 hx2; first | exact hx2 | exact absurd hx2 List.not_mem_nil | (simp only [List.mem_cons, List.not_mem_nil, or_false] at hx2 ⊢; omega))
  refine lv_dup hx hb dX4_init_69 rfl ?_
  refine lv_sipush (v := zI 384) hx hb dX4_init_70 (by decide +kernel) ?_
  refine g_gov (vx_runI (As := [.int (zI 384)]) (rest := [.ref q_66, .ref a]) ⟨hx, hb, hml, hown, hts⟩ (k_Row_init l G q_66 384 (384 : Int) H_66 hq_66 gq_66 rfl (by decide)) (cwI 1 hts gX4_init_X2_init rfl rfl rfl (hts (.initialized RX2) (List.mem_cons_of_mem _ (List.mem_append_left _ (List.mem_append_left _ (List.mem_append_left _ (List.mem_append_left _ (List.mem_append_left _ (List.mem_of_getElem? (i := 7) rfl)))))))) (hts (.methodLink RX4 17 yX2_init) (List.mem_cons_of_mem _ (List.mem_append_left _ (List.mem_append_left _ (List.mem_append_left _ (List.mem_append_left _ (List.mem_append_left _ (List.mem_of_getElem? (i := 19) rfl)))))))) (hts (.instanceMethod yX2_init) (List.mem_cons_of_mem _ (List.mem_append_left _ (List.mem_append_left _ (List.mem_append_left _ (List.mem_append_left _ (List.mem_append_left _ (List.mem_of_getElem? (i := 20) rfl)))))))) rfl hd_X2_init.2 ⟨(Nat.le_of_ble_eq_true rfl), (Nat.le_of_ble_eq_true rfl)⟩) (g_pre hX hS) rfl rfl hl.1 rfl (lv_room (Nat.le_of_ble_eq_true rfl)) dX4_init_73 ⟨(Nat.le_of_ble_eq_true rfl), (Nat.le_of_ble_eq_true rfl)⟩) hS (fun H_73 locs hp hS => ?_)
  obtain ⟨b3, hb3, hb3s, hr3, hg3⟩ := hp
  have ho := ho.grow hg3 (nm1 (by omega))
  have hq_7 := hq_7.grow hg3 (nm1 (by omega))
  have hmt := hmt.grow hg3 (nm1 (by omega))
  have htb := htb.grow hg3 (nm1 (by omega))
  have hr1 := hr1.grow hg3 (nm1 (by omega)) (nm1 (by omega))
  have hlk := hlk.grow hg3 (nm1 (by omega)) (nm1 (by omega)) (nm1 (by omega))
  have hr2 := hr2.grow hg3 (nm1 (by omega)) (nm1 (by omega))
  have hG := gGrow.trans hG hg3 (by intro x hx1 hx2; first | exact hx2 | exact absurd hx2 List.not_mem_nil | (simp only [List.mem_cons, List.not_mem_nil, or_false] at hx2 ⊢; omega))
  refine g_putF hx hb hX hts (fun w h => (List.mem_cons_of_mem _ (List.mem_append_left _ (List.mem_append_left _ (List.mem_append_left _ (List.mem_append_right _ h)))))) tyX4 tyX4_ok nmX4 hown hS ho ga rfl 6 (by decide) (hts (.fieldLink RX4 43 "TuneCatalogue" "placeRow" "LTuneCatalogue$Row;") (List.mem_cons_of_mem _ (List.mem_append_left _ (List.mem_append_left _ (List.mem_append_left _ (List.mem_append_left _ (List.mem_append_left _ (List.mem_of_getElem? (i := 18) rfl)))))))) rfl hin rfl (ty := tyX4 6) rfl rfl rfl (Nat.le_of_ble_eq_true rfl) dX4_init_76 (fun H_76 locs h_n hO hS => ?_)
  have hq_7 := gat.only1 hq_7 hO (by omega)
  have hmt := gat.only1 hmt hO (by omega)
  have htb := gat.only1 htb hO (by omega)
  have hr1 := hr1.only hO (nm1 (by omega)) (nm1 (by omega))
  have hlk := hlk.only hO (nm1 (by omega)) (nm1 (by omega)) (nm1 (by omega))
  have hr2 := hr2.only hO (nm1 (by omega)) (nm1 (by omega))
  have hr3 := hr3.only hO (nm1 (by omega)) (nm1 (by omega))
  have ho : gat G a (.inr (4, [.ref q_7, .int (zI 0), .ref q_14, .ref q_27, .ref q_42, .ref q_53, .ref q_66])) H_76 := h_n
  have hG := gGrow.trans hG hO.grow (by intro x hx1 hx2; first | exact hx2 | exact absurd hx2 List.not_mem_nil | (simp only [List.mem_cons, List.not_mem_nil, or_false] at hx2 ⊢; omega))
  have s76 := hO.1
  have hlt := list13 (a0 := a) (a1 := q_7) (a2 := q_14) (a3 := b1) (a4 := q_27) (a5 := ta) (a6 := q_42) (a7 := lr) (a8 := lb) (a9 := q_53) (a10 := b2) (a11 := q_66) (a12 := b3) (by omega) (by omega) (by omega) (by omega) (by omega) (by omega) (by omega) (by omega) (by omega) (by omega) (by omega) (by omega)
  have hap := mono_inj (A := fun k => [a, q_7, q_14, b1, q_27, ta, q_42, lr, lb, q_53, b2, q_66, b3].getD k 0) (N := 13) hlt
  have hinc : ∀ k, 1 ≤ k → k < 13 → H.size ≤ [a, q_7, q_14, b1, q_27, ta, q_42, lr, lb, q_53, b2, q_66, b3].getD k 0 := fun k h1 h2 => by
    rcases (show k = 1 ∨ k = 2 ∨ k = 3 ∨ k = 4 ∨ k = 5 ∨ k = 6 ∨ k = 7 ∨ k = 8 ∨ k = 9 ∨ k = 10 ∨ k = 11 ∨ k = 12 by omega) with rfl | rfl | rfl | rfl | rfl | rfl | rfl | rfl | rfl | rfl | rfl | rfl <;> simp <;> omega
  have hbs : gB G ≤ H.size := by have := hX.2.2.2; rw [hH] at this; exact this
  have hcat : Cat G (fun k => [a, q_7, q_14, b1, q_27, ta, q_42, lr, lb, q_53, b2, q_66, b3].getD k 0) (fun _ _ => 0) S00 ((fun _ => 0), 0, (fun _ => 0), 0, (fun _ => 0)) H_76 := by
    refine ⟨ho, ?_, ⟨hmt, hr1, htb, gta, hap 5 4 (by omega) (by omega) (by omega), hap 5 2 (by omega) (by omega) (by omega), hap 5 3 (by omega) (by omega) (by omega)⟩, hlk, hr2, hr3, fun i hi => absurd hi (Nat.not_lt_zero _), hap, fun i j k hi => absurd hi (Nat.not_lt_zero _), fun i i2 j j2 hi => absurd hi (Nat.not_lt_zero _), fun k hk => ?_⟩
    · have e : (fun i : Nat => if i < sn S00 then some ((fun _ _ => 0 : Nat → Nat → Nat) i 0) else none) = fun _ => none := by
        funext i; exact if_neg (Nat.not_lt_zero _)
      rw [e]; exact hq_7
    · rcases Nat.eq_zero_or_pos k with e | e
      · rw [e]; exact ga
      · exact Nat.le_trans hbs (hinc k e hk)
  exact g_retv hx hb hr hlocks hS (⟨_, rfl, ⟨_, hcat⟩, hG, hinc⟩) (Nat.le_of_ble_eq_true rfl) (Nat.le_of_ble_eq_true rfl) dX4_init_79
