theorem list13 {a0 a1 a2 a3 a4 a5 a6 a7 a8 a9 a10 a11 a12 : Nat} (h0 : a0 < a1) (h1 : a1 < a2) (h2 : a2 < a3) (h3 : a3 < a4) (h4 : a4 < a5) (h5 : a5 < a6) (h6 : a6 < a7) (h7 : a7 < a8) (h8 : a8 < a9) (h9 : a9 < a10) (h10 : a10 < a11) (h11 : a11 < a12) : ∀ k, k + 1 < 13 → [a0, a1, a2, a3, a4, a5, a6, a7, a8, a9, a10, a11, a12].getD k 0 < [a0, a1, a2, a3, a4, a5, a6, a7, a8, a9, a10, a11, a12].getD (k + 1) 0 := by
  intro k hk
  rcases (show k = 0 ∨ k = 1 ∨ k = 2 ∨ k = 3 ∨ k = 4 ∨ k = 5 ∨ k = 6 ∨ k = 7 ∨ k = 8 ∨ k = 9 ∨ k = 10 ∨ k = 11 by omega) with rfl | rfl | rfl | rfl | rfl | rfl | rfl | rfl | rfl | rfl | rfl | rfl <;> assumption
def perm13 (k : Nat) : Nat := if k = 2 then 3 else if k = 3 then 4 else if k = 4 then 2 else k
theorem perm13_lt : ∀ k, k < 13 → perm13 k < 13 := by decide +kernel
theorem perm13_inj : ∀ i, i < 13 → ∀ j, j < 13 → i ≠ j → perm13 i ≠ perm13 j := by decide +kernel
set_option maxHeartbeats 4000000 in
set_option maxRecDepth 100000 in
theorem k_Cat_init (l : Launch) (G : gG) (a : Nat) (H : Heap) (ho : gat G a (.inr (4, [.null, .int (zI 0), .null, .null, .null, .null, .null])) H) (ga : gB G ≤ a) : gM l yX4_init wsX4_init rm_X4_init [.ref a] G H (gv (fun H1 => ∃ A : Nat → Nat, A 0 = a ∧ (∃ W, Cat G A (fun _ _ => 0) S00 W H1) ∧ gGrow [a] H H1 ∧ ∀ k, 1 ≤ k → k < 13 → H.size ≤ A k)) (gNo) 16 2000 := by
  have ha_lt : a < H.size := va_at.lt ho
  have hG : gGrow [a] H H := gGrow.rf _ _
  refine g_start (cc := cX4_init) (maxL := 1) (ret := none) (by decide +kernel) rfl (Nat.le_of_ble_eq_true rfl) ?_
  intro p e s m args below meth c F ls hl
  obtain ⟨hx, hb, hml, hr, hts, hown, hlocks, hxt, hH, hX, hin⟩ := F
  have hown : s.vm.findClass RX4 = some m.cls := hown
  have hS : va_S (gA G) s.heap H [] := by rw [hH]; exact va_S.rf
  have hl : lv_has ls 1 [(0, .ref a)] := hl
  refine lv_aload_n hx hb dX4_init_0 rfl (lv_at hl 0 rfl) ?_
  refine W.objInit hx hb hown (hts (.methodLink RX4 1 objectInit) (List.mem_cons_of_mem _ (List.mem_append_left _ (List.mem_append_left _ (List.mem_append_left _ (List.mem_append_left _ (List.mem_append_left _ (List.mem_of_getElem? (i := 0) rfl)))))))) (hts (.instanceMethod objectInit) (List.mem_cons_of_mem _ (List.mem_append_left _ (List.mem_append_left _ (List.mem_append_left _ (List.mem_append_left _ (List.mem_append_left _ (List.mem_of_getElem? (i := 1) rfl)))))))) (hts _ (List.mem_cons_of_mem _ (List.mem_append_left _ (List.mem_append_left _ (List.mem_append_left _ (List.mem_append_left _ (List.mem_append_left _ (List.mem_of_getElem? (i := 2) rfl)))))))) rfl (by rw [hml]; exact hl.1) rfl dX4_init_1 (Nat.le_of_ble_eq_true rfl) (Nat.le_of_ble_eq_true rfl) ?_
  refine W.eq (g2 := F0 m 4 ls []) rfl ?_
  refine lv_aload_n hx hb dX4_init_4 rfl (lv_at hl 0 rfl) ?_
  refine lv_bipush (v := zI 16) hx hb dX4_init_5 (by decide +kernel) ?_
  refine g_newT hx hb hX hown (hts (.classLink RX4 9 "TuneCatalogue$Tune") (List.mem_cons_of_mem _ (List.mem_append_left _ (List.mem_append_left _ (List.mem_append_left _ (List.mem_append_left _ (List.mem_append_left _ (List.mem_of_getElem? (i := 3) rfl)))))))) hS (N' := 16) (by decide) (by decide) (Nat.le_of_ble_eq_true rfl) (Nat.le_of_ble_eq_true rfl) (Nat.le_of_ble_eq_true rfl) dX4_init_7 (fun H_7 q_7 eq_7 hq_7 gq_7 zq_7 hE hS => ?_)
  have ho := gat.ext ho hE
  have hG := gGrow.trans hG (hE.grow (L := [])) (by intro x hx1 hx2; first | exact hx2 | exact absurd hx2 List.not_mem_nil | (simp only [List.mem_cons, List.not_mem_nil, or_false] at hx2 ⊢; omega))
  refine g_putF hx hb hX hts (fun w h => (List.mem_cons_of_mem _ (List.mem_append_left _ (List.mem_append_left _ (List.mem_append_left _ (List.mem_append_right _ h)))))) tyX4 tyX4_ok nmX4 hown hS ho ga rfl 0 (by decide) (hts (.fieldLink RX4 11 "TuneCatalogue" "entries" "[LTuneCatalogue$Tune;") (List.mem_cons_of_mem _ (List.mem_append_left _ (List.mem_append_left _ (List.mem_append_left _ (List.mem_append_left _ (List.mem_append_left _ (List.mem_of_getElem? (i := 4) rfl)))))))) rfl hin rfl (ty := tyX4 0) rfl rfl rfl (Nat.le_of_ble_eq_true rfl) dX4_init_10 (fun H_10 locs h_n hO hS => ?_)
  have hq_7 := gat.only1 hq_7 hO (by omega)
  have ho : gat G a (.inr (4, [.ref q_7, .int (zI 0), .null, .null, .null, .null, .null])) H_10 := h_n
  have hG := gGrow.trans hG hO.grow (by intro x hx1 hx2; first | exact hx2 | exact absurd hx2 List.not_mem_nil | (simp only [List.mem_cons, List.not_mem_nil, or_false] at hx2 ⊢; omega))
  have s10 := hO.1
  refine lv_aload_n hx hb dX4_init_13 rfl (lv_at hl 0 rfl) ?_
  refine g_new hx hb hX hts (fun w h => (List.mem_cons_of_mem _ (List.mem_append_left _ (List.mem_append_left _ (List.mem_append_right _ h))))) tyX1 tyX1_ok hown (hts (.classLink RX4 15 RX1) (List.mem_cons_of_mem _ (List.mem_append_left _ (List.mem_append_left _ (List.mem_append_left _ (List.mem_append_left _ (List.mem_append_left _ (List.mem_of_getElem? (i := 5) rfl)))))))) (hts (.instantiable RX1 5) (List.mem_cons_of_mem _ (List.mem_append_left _ (List.mem_append_left _ (List.mem_append_left _ (List.mem_append_left _ (List.mem_append_left _ (List.mem_of_getElem? (i := 6) rfl)))))))) (hts (.initialized RX1) (List.mem_cons_of_mem _ (List.mem_append_left _ (List.mem_append_left _ (List.mem_append_left _ (List.mem_append_left _ (List.mem_append_left _ (List.mem_of_getElem? (i := 7) rfl)))))))) hS (ci := 1) rfl (fs := [.null, .int (zI 0), .int (zI 0), .int (zI 0), .null]) (fun j hj => by rcases (show j = 0 ∨ j = 1 ∨ j = 2 ∨ j = 3 ∨ j = 4 by omega) with rfl | rfl | rfl | rfl | rfl <;> rfl) (Nat.le_of_ble_eq_true rfl) (Nat.le_of_ble_eq_true rfl) dX4_init_14 (fun H_14 q_14 eq_14 hq_14 gq_14 zq_14 hE hS => ?_)
  have ho := gat.ext ho hE
  have hq_7 := gat.ext hq_7 hE
  have hG := gGrow.trans hG (hE.grow (L := [])) (by intro x hx1 hx2; first | exact hx2 | exact absurd hx2 List.not_mem_nil | (simp only [List.mem_cons, List.not_mem_nil, or_false] at hx2 ⊢; omega))
  refine lv_dup hx hb dX4_init_17 rfl ?_
  refine g_gov (vx_runIN (As := []) (rest := [.ref q_14, .ref a]) ⟨hx, hb, hml, hown, hts⟩ (k_Matching_init l G q_14 H_14 hq_14 gq_14) ⟨va_cnB 0 hts gX4_init_X1_init_n17 rfl rfl rfl (hX.1.2.2.1 _ (by decide +kernel : Cond.methodLinkNest RX4 17 yX1_init RX4 ∈ gNM)) (hts (.initialized RX1) (List.mem_cons_of_mem _ (List.mem_append_left _ (List.mem_append_left _ (List.mem_append_left _ (List.mem_append_left _ (List.mem_append_left _ (List.mem_of_getElem? (i := 7) rfl)))))))) hd_X1_init.2 ⟨(Nat.le_of_ble_eq_true rfl), (Nat.le_of_ble_eq_true rfl)⟩, rfl, hts (.instanceMethod yX1_init) (List.mem_cons_of_mem _ (List.mem_append_left _ (List.mem_append_left _ (List.mem_append_left _ (List.mem_append_left _ (List.mem_append_left _ (List.mem_of_getElem? (i := 19) rfl)))))))⟩ (g_pre hX hS) rfl rfl hl.1 rfl (lv_room (Nat.le_of_ble_eq_true rfl)) dX4_init_18 ⟨(Nat.le_of_ble_eq_true rfl), (Nat.le_of_ble_eq_true rfl)⟩) hS (fun H_18 locs hp hS => ?_)
  obtain ⟨rwA, rwB, ta, hta0, hta1, hta2, hta3, hmt, hrh, htb, gta, hgm⟩ := hp
  have ho := ho.grow hgm (nm1 (by omega))
  have hq_7 := hq_7.grow hgm (nm1 (by omega))
  have hG := gGrow.trans hG hgm (by intro x hx1 hx2; first | exact hx2 | exact absurd hx2 List.not_mem_nil | (simp only [List.mem_cons, List.not_mem_nil, or_false] at hx2 ⊢; omega))
  refine g_putF hx hb hX hts (fun w h => (List.mem_cons_of_mem _ (List.mem_append_left _ (List.mem_append_left _ (List.mem_append_left _ (List.mem_append_right _ h)))))) tyX4 tyX4_ok nmX4 hown hS ho ga rfl 2 (by decide) (hts (.fieldLink RX4 18 "TuneCatalogue" "matching" "LTuneCatalogue$Matching;") (List.mem_cons_of_mem _ (List.mem_append_left _ (List.mem_append_left _ (List.mem_append_left _ (List.mem_append_left _ (List.mem_append_left _ (List.mem_of_getElem? (i := 8) rfl)))))))) rfl hin rfl (ty := tyX4 2) rfl rfl rfl (Nat.le_of_ble_eq_true rfl) dX4_init_21 (fun H_21 locs h_n hO hS => ?_)
  have hq_7 := gat.only1 hq_7 hO (by omega)
  have hmt := gat.only1 hmt hO (by omega)
  have htb := gat.only1 htb hO (by omega)
  have hrh := hrh.only hO (nm1 (by omega)) (nm1 (by omega))
  have ho : gat G a (.inr (4, [.ref q_7, .int (zI 0), .ref q_14, .null, .null, .null, .null])) H_21 := h_n
  have hG := gGrow.trans hG hO.grow (by intro x hx1 hx2; first | exact hx2 | exact absurd hx2 List.not_mem_nil | (simp only [List.mem_cons, List.not_mem_nil, or_false] at hx2 ⊢; omega))
  have s21 := hO.1
  refine lv_aload_n hx hb dX4_init_24 rfl (lv_at hl 0 rfl) ?_
  refine lv_aload_n hx hb dX4_init_25 rfl (lv_at hl 0 rfl) ?_
  refine g_get hx hb hX hts (fun w h => (List.mem_cons_of_mem _ (List.mem_append_left _ (List.mem_append_left _ (List.mem_append_left _ (List.mem_append_right _ h)))))) hown ho rfl 2 (by decide) (hts (.fieldLink RX4 18 "TuneCatalogue" "matching" "LTuneCatalogue$Matching;") (List.mem_cons_of_mem _ (List.mem_append_left _ (List.mem_append_left _ (List.mem_append_left _ (List.mem_append_left _ (List.mem_append_left _ (List.mem_of_getElem? (i := 8) rfl)))))))) rfl dX4_init_26 ?_
  refine g_getN hx hb hX hts (fun w h => (List.mem_cons_of_mem _ (List.mem_append_left _ (List.mem_append_left _ (List.mem_append_right _ h))))) hown hmt rfl 0 (by decide) (by decide +kernel : Cond.fieldLinkNest RX4 22 "TuneCatalogue$Matching" "hum" "LTuneCatalogue$Row;" RX4 ∈ gNW) rfl dX4_init_29 ?_
  refine g_putF hx hb hX hts (fun w h => (List.mem_cons_of_mem _ (List.mem_append_left _ (List.mem_append_left _ (List.mem_append_left _ (List.mem_append_right _ h)))))) tyX4 tyX4_ok nmX4 hown hS ho ga rfl 3 (by decide) (hts (.fieldLink RX4 26 "TuneCatalogue" "humRow" "LTuneCatalogue$Row;") (List.mem_cons_of_mem _ (List.mem_append_left _ (List.mem_append_left _ (List.mem_append_left _ (List.mem_append_left _ (List.mem_append_left _ (List.mem_of_getElem? (i := 9) rfl)))))))) rfl hin rfl (ty := tyX4 3) rfl rfl rfl (Nat.le_of_ble_eq_true rfl) dX4_init_32 (fun H_32 locs h_n hO hS => ?_)
  have hq_7 := gat.only1 hq_7 hO (by omega)
  have hmt := gat.only1 hmt hO (by omega)
  have htb := gat.only1 htb hO (by omega)
  have hrh := hrh.only hO (nm1 (by omega)) (nm1 (by omega))
  have ho : gat G a (.inr (4, [.ref q_7, .int (zI 0), .ref q_14, .ref rwA, .null, .null, .null])) H_32 := h_n
  have hG := gGrow.trans hG hO.grow (by intro x hx1 hx2; first | exact hx2 | exact absurd hx2 List.not_mem_nil | (simp only [List.mem_cons, List.not_mem_nil, or_false] at hx2 ⊢; omega))
  have s32 := hO.1
  refine lv_aload_n hx hb dX4_init_35 rfl (lv_at hl 0 rfl) ?_
  refine g_new hx hb hX hts (fun w h => (List.mem_cons_of_mem _ (List.mem_append_left _ (List.mem_append_right _ h)))) tyX0 tyX0_ok hown (hts (.classLink RX4 29 RX0) (List.mem_cons_of_mem _ (List.mem_append_left _ (List.mem_append_left _ (List.mem_append_left _ (List.mem_append_left _ (List.mem_append_left _ (List.mem_of_getElem? (i := 10) rfl)))))))) (hts (.instantiable RX0 1) (List.mem_cons_of_mem _ (List.mem_append_left _ (List.mem_append_left _ (List.mem_append_left _ (List.mem_append_left _ (List.mem_append_left _ (List.mem_of_getElem? (i := 11) rfl)))))))) (hts (.initialized RX0) (List.mem_cons_of_mem _ (List.mem_append_left _ (List.mem_append_left _ (List.mem_append_left _ (List.mem_append_left _ (List.mem_append_left _ (List.mem_of_getElem? (i := 12) rfl)))))))) hS (ci := 0) rfl (fs := [.null]) (fun j hj => by rcases (show j = 0 by omega) with rfl <;> rfl) (Nat.le_of_ble_eq_true rfl) (Nat.le_of_ble_eq_true rfl) dX4_init_36 (fun H_36 q_36 eq_36 hq_36 gq_36 zq_36 hE hS => ?_)
  have ho := gat.ext ho hE
  have hq_7 := gat.ext hq_7 hE
  have hmt := gat.ext hmt hE
  have htb := gat.ext htb hE
  have hrh := hrh.ext hE
  have hG := gGrow.trans hG (hE.grow (L := [])) (by intro x hx1 hx2; first | exact hx2 | exact absurd hx2 List.not_mem_nil | (simp only [List.mem_cons, List.not_mem_nil, or_false] at hx2 ⊢; omega))
  refine lv_dup hx hb dX4_init_39 rfl ?_
  refine g_gov (vx_runIN (As := []) (rest := [.ref q_36, .ref a]) ⟨hx, hb, hml, hown, hts⟩ (k_Links_init l G q_36 H_36 hq_36 gq_36) ⟨va_cnB 0 hts gX4_init_X0_init_n31 rfl rfl rfl (hX.1.2.2.1 _ (by decide +kernel : Cond.methodLinkNest RX4 31 yX0_init RX4 ∈ gNM)) (hts (.initialized RX0) (List.mem_cons_of_mem _ (List.mem_append_left _ (List.mem_append_left _ (List.mem_append_left _ (List.mem_append_left _ (List.mem_append_left _ (List.mem_of_getElem? (i := 12) rfl)))))))) hd_X0_init.2 ⟨(Nat.le_of_ble_eq_true rfl), (Nat.le_of_ble_eq_true rfl)⟩, rfl, hts (.instanceMethod yX0_init) (List.mem_cons_of_mem _ (List.mem_append_left _ (List.mem_append_left _ (List.mem_append_left _ (List.mem_append_left _ (List.mem_append_right _ (List.mem_of_getElem? (i := 14) rfl)))))))⟩ (g_pre hX hS) rfl rfl hl.1 rfl (lv_room (Nat.le_of_ble_eq_true rfl)) dX4_init_40 ⟨(Nat.le_of_ble_eq_true rfl), (Nat.le_of_ble_eq_true rfl)⟩) hS (fun H_40 locs hp hS => ?_)
  obtain ⟨lr, lb, hlr1, hlr2, hlr3, hlk, hgl⟩ := hp
  have ho := ho.grow hgl (nm1 (by omega))
  have hq_7 := hq_7.grow hgl (nm1 (by omega))
  have hmt := hmt.grow hgl (nm1 (by omega))
  have htb := htb.grow hgl (nm1 (by omega))
  have hrh := hrh.grow hgl (nm1 (by omega)) (nm1 (by omega))
  have hG := gGrow.trans hG hgl (by intro x hx1 hx2; first | exact hx2 | exact absurd hx2 List.not_mem_nil | (simp only [List.mem_cons, List.not_mem_nil, or_false] at hx2 ⊢; omega))
  refine g_putF hx hb hX hts (fun w h => (List.mem_cons_of_mem _ (List.mem_append_left _ (List.mem_append_left _ (List.mem_append_left _ (List.mem_append_right _ h)))))) tyX4 tyX4_ok nmX4 hown hS ho ga rfl 4 (by decide) (hts (.fieldLink RX4 32 "TuneCatalogue" "links" "LTuneCatalogue$Links;") (List.mem_cons_of_mem _ (List.mem_append_left _ (List.mem_append_left _ (List.mem_append_left _ (List.mem_append_left _ (List.mem_append_left _ (List.mem_of_getElem? (i := 13) rfl)))))))) rfl hin rfl (ty := tyX4 4) rfl rfl rfl (Nat.le_of_ble_eq_true rfl) dX4_init_43 (fun H_43 locs h_n hO hS => ?_)
  have hq_7 := gat.only1 hq_7 hO (by omega)
  have hmt := gat.only1 hmt hO (by omega)
  have htb := gat.only1 htb hO (by omega)
  have hrh := hrh.only hO (nm1 (by omega)) (nm1 (by omega))
  have hlk := hlk.only hO (nm1 (by omega)) (nm1 (by omega)) (nm1 (by omega))
  have ho : gat G a (.inr (4, [.ref q_7, .int (zI 0), .ref q_14, .ref rwA, .ref q_36, .null, .null])) H_43 := h_n
  have hG := gGrow.trans hG hO.grow (by intro x hx1 hx2; first | exact hx2 | exact absurd hx2 List.not_mem_nil | (simp only [List.mem_cons, List.not_mem_nil, or_false] at hx2 ⊢; omega))
  have s43 := hO.1
  refine lv_aload_n hx hb dX4_init_46 rfl (lv_at hl 0 rfl) ?_
  refine g_new hx hb hX hts (fun w h => (List.mem_cons_of_mem _ (List.mem_append_right _ h))) tyX2 tyX2_ok hown (hts (.classLink RX4 36 RX2) (List.mem_cons_of_mem _ (List.mem_append_left _ (List.mem_append_left _ (List.mem_append_left _ (List.mem_append_left _ (List.mem_append_left _ (List.mem_of_getElem? (i := 14) rfl)))))))) (hts (.instantiable RX2 2) (List.mem_cons_of_mem _ (List.mem_append_left _ (List.mem_append_left _ (List.mem_append_left _ (List.mem_append_left _ (List.mem_append_left _ (List.mem_of_getElem? (i := 15) rfl)))))))) (hts (.initialized RX2) (List.mem_cons_of_mem _ (List.mem_append_left _ (List.mem_append_left _ (List.mem_append_left _ (List.mem_append_left _ (List.mem_append_left _ (List.mem_of_getElem? (i := 16) rfl)))))))) hS (ci := 2) rfl (fs := [.null, .int (zI 0)]) (fun j hj => by rcases (show j = 0 ∨ j = 1 by omega) with rfl | rfl <;> rfl) (Nat.le_of_ble_eq_true rfl) (Nat.le_of_ble_eq_true rfl) dX4_init_47 (fun H_47 q_47 eq_47 hq_47 gq_47 zq_47 hE hS => ?_)
  have ho := gat.ext ho hE
  have hq_7 := gat.ext hq_7 hE
  have hmt := gat.ext hmt hE
  have htb := gat.ext htb hE
  have hrh := hrh.ext hE
  have hlk := hlk.ext hE
  have hG := gGrow.trans hG (hE.grow (L := [])) (by intro x hx1 hx2; first | exact hx2 | exact absurd hx2 List.not_mem_nil | (simp only [List.mem_cons, List.not_mem_nil, or_false] at hx2 ⊢; omega))
  refine lv_dup hx hb dX4_init_50 rfl ?_
  refine lv_bipush (v := zI 16) hx hb dX4_init_51 (by decide +kernel) ?_
  refine g_gov (vx_runI (As := [.int (zI 16)]) (rest := [.ref q_47, .ref a]) ⟨hx, hb, hml, hown, hts⟩ (k_Row_init l G q_47 16 (16 : Int) H_47 hq_47 gq_47 rfl (by decide)) (cwI 1 hts gX4_init_X2_init rfl rfl rfl (hts (.initialized RX2) (List.mem_cons_of_mem _ (List.mem_append_left _ (List.mem_append_left _ (List.mem_append_left _ (List.mem_append_left _ (List.mem_append_left _ (List.mem_of_getElem? (i := 16) rfl)))))))) (hts (.methodLink RX4 38 yX2_init) (List.mem_cons_of_mem _ (List.mem_append_left _ (List.mem_append_left _ (List.mem_append_left _ (List.mem_append_left _ (List.mem_append_right _ (List.mem_of_getElem? (i := 20) rfl)))))))) (hts (.instanceMethod yX2_init) (List.mem_cons_of_mem _ (List.mem_append_left _ (List.mem_append_left _ (List.mem_append_left _ (List.mem_append_left _ (List.mem_append_right _ (List.mem_of_getElem? (i := 6) rfl)))))))) rfl hd_X2_init.2 ⟨(Nat.le_of_ble_eq_true rfl), (Nat.le_of_ble_eq_true rfl)⟩) (g_pre hX hS) rfl rfl hl.1 rfl (lv_room (Nat.le_of_ble_eq_true rfl)) dX4_init_53 ⟨(Nat.le_of_ble_eq_true rfl), (Nat.le_of_ble_eq_true rfl)⟩) hS (fun H_53 locs hp hS => ?_)
  obtain ⟨b2, hb2, hb2s, hr2, hg2⟩ := hp
  have ho := ho.grow hg2 (nm1 (by omega))
  have hq_7 := hq_7.grow hg2 (nm1 (by omega))
  have hmt := hmt.grow hg2 (nm1 (by omega))
  have htb := htb.grow hg2 (nm1 (by omega))
  have hrh := hrh.grow hg2 (nm1 (by omega)) (nm1 (by omega))
  have hlk := hlk.grow hg2 (nm1 (by omega)) (nm1 (by omega)) (nm1 (by omega))
  have hG := gGrow.trans hG hg2 (by intro x hx1 hx2; first | exact hx2 | exact absurd hx2 List.not_mem_nil | (simp only [List.mem_cons, List.not_mem_nil, or_false] at hx2 ⊢; omega))
  refine g_putF hx hb hX hts (fun w h => (List.mem_cons_of_mem _ (List.mem_append_left _ (List.mem_append_left _ (List.mem_append_left _ (List.mem_append_right _ h)))))) tyX4 tyX4_ok nmX4 hown hS ho ga rfl 5 (by decide) (hts (.fieldLink RX4 41 "TuneCatalogue" "priceRow" "LTuneCatalogue$Row;") (List.mem_cons_of_mem _ (List.mem_append_left _ (List.mem_append_left _ (List.mem_append_left _ (List.mem_append_left _ (List.mem_append_left _ (List.mem_of_getElem? (i := 17) rfl)))))))) rfl hin rfl (ty := tyX4 5) rfl rfl rfl (Nat.le_of_ble_eq_true rfl) dX4_init_56 (fun H_56 locs h_n hO hS => ?_)
  have hq_7 := gat.only1 hq_7 hO (by omega)
  have hmt := gat.only1 hmt hO (by omega)
  have htb := gat.only1 htb hO (by omega)
  have hrh := hrh.only hO (nm1 (by omega)) (nm1 (by omega))
  have hlk := hlk.only hO (nm1 (by omega)) (nm1 (by omega)) (nm1 (by omega))
  have hr2 := hr2.only hO (nm1 (by omega)) (nm1 (by omega))
  have ho : gat G a (.inr (4, [.ref q_7, .int (zI 0), .ref q_14, .ref rwA, .ref q_36, .ref q_47, .null])) H_56 := h_n
  have hG := gGrow.trans hG hO.grow (by intro x hx1 hx2; first | exact hx2 | exact absurd hx2 List.not_mem_nil | (simp only [List.mem_cons, List.not_mem_nil, or_false] at hx2 ⊢; omega))
  have s56 := hO.1
  refine lv_aload_n hx hb dX4_init_59 rfl (lv_at hl 0 rfl) ?_
  refine g_new hx hb hX hts (fun w h => (List.mem_cons_of_mem _ (List.mem_append_right _ h))) tyX2 tyX2_ok hown (hts (.classLink RX4 36 RX2) (List.mem_cons_of_mem _ (List.mem_append_left _ (List.mem_append_left _ (List.mem_append_left _ (List.mem_append_left _ (List.mem_append_left _ (List.mem_of_getElem? (i := 14) rfl)))))))) (hts (.instantiable RX2 2) (List.mem_cons_of_mem _ (List.mem_append_left _ (List.mem_append_left _ (List.mem_append_left _ (List.mem_append_left _ (List.mem_append_left _ (List.mem_of_getElem? (i := 15) rfl)))))))) (hts (.initialized RX2) (List.mem_cons_of_mem _ (List.mem_append_left _ (List.mem_append_left _ (List.mem_append_left _ (List.mem_append_left _ (List.mem_append_left _ (List.mem_of_getElem? (i := 16) rfl)))))))) hS (ci := 2) rfl (fs := [.null, .int (zI 0)]) (fun j hj => by rcases (show j = 0 ∨ j = 1 by omega) with rfl | rfl <;> rfl) (Nat.le_of_ble_eq_true rfl) (Nat.le_of_ble_eq_true rfl) dX4_init_60 (fun H_60 q_60 eq_60 hq_60 gq_60 zq_60 hE hS => ?_)
  have ho := gat.ext ho hE
  have hq_7 := gat.ext hq_7 hE
  have hmt := gat.ext hmt hE
  have htb := gat.ext htb hE
  have hrh := hrh.ext hE
  have hlk := hlk.ext hE
  have hr2 := hr2.ext hE
  have hG := gGrow.trans hG (hE.grow (L := [])) (by intro x hx1 hx2; first | exact hx2 | exact absurd hx2 List.not_mem_nil | (simp only [List.mem_cons, List.not_mem_nil, or_false] at hx2 ⊢; omega))
  refine lv_dup hx hb dX4_init_63 rfl ?_
  refine lv_sipush (v := zI 384) hx hb dX4_init_64 (by decide +kernel) ?_
  refine g_gov (vx_runI (As := [.int (zI 384)]) (rest := [.ref q_60, .ref a]) ⟨hx, hb, hml, hown, hts⟩ (k_Row_init l G q_60 384 (384 : Int) H_60 hq_60 gq_60 rfl (by decide)) (cwI 1 hts gX4_init_X2_init rfl rfl rfl (hts (.initialized RX2) (List.mem_cons_of_mem _ (List.mem_append_left _ (List.mem_append_left _ (List.mem_append_left _ (List.mem_append_left _ (List.mem_append_left _ (List.mem_of_getElem? (i := 16) rfl)))))))) (hts (.methodLink RX4 38 yX2_init) (List.mem_cons_of_mem _ (List.mem_append_left _ (List.mem_append_left _ (List.mem_append_left _ (List.mem_append_left _ (List.mem_append_right _ (List.mem_of_getElem? (i := 20) rfl)))))))) (hts (.instanceMethod yX2_init) (List.mem_cons_of_mem _ (List.mem_append_left _ (List.mem_append_left _ (List.mem_append_left _ (List.mem_append_left _ (List.mem_append_right _ (List.mem_of_getElem? (i := 6) rfl)))))))) rfl hd_X2_init.2 ⟨(Nat.le_of_ble_eq_true rfl), (Nat.le_of_ble_eq_true rfl)⟩) (g_pre hX hS) rfl rfl hl.1 rfl (lv_room (Nat.le_of_ble_eq_true rfl)) dX4_init_67 ⟨(Nat.le_of_ble_eq_true rfl), (Nat.le_of_ble_eq_true rfl)⟩) hS (fun H_67 locs hp hS => ?_)
  obtain ⟨b3, hb3, hb3s, hr3, hg3⟩ := hp
  have ho := ho.grow hg3 (nm1 (by omega))
  have hq_7 := hq_7.grow hg3 (nm1 (by omega))
  have hmt := hmt.grow hg3 (nm1 (by omega))
  have htb := htb.grow hg3 (nm1 (by omega))
  have hrh := hrh.grow hg3 (nm1 (by omega)) (nm1 (by omega))
  have hlk := hlk.grow hg3 (nm1 (by omega)) (nm1 (by omega)) (nm1 (by omega))
  have hr2 := hr2.grow hg3 (nm1 (by omega)) (nm1 (by omega))
  have hG := gGrow.trans hG hg3 (by intro x hx1 hx2; first | exact hx2 | exact absurd hx2 List.not_mem_nil | (simp only [List.mem_cons, List.not_mem_nil, or_false] at hx2 ⊢; omega))
  refine g_putF hx hb hX hts (fun w h => (List.mem_cons_of_mem _ (List.mem_append_left _ (List.mem_append_left _ (List.mem_append_left _ (List.mem_append_right _ h)))))) tyX4 tyX4_ok nmX4 hown hS ho ga rfl 6 (by decide) (hts (.fieldLink RX4 44 "TuneCatalogue" "placeRow" "LTuneCatalogue$Row;") (List.mem_cons_of_mem _ (List.mem_append_left _ (List.mem_append_left _ (List.mem_append_left _ (List.mem_append_left _ (List.mem_append_left _ (List.mem_of_getElem? (i := 18) rfl)))))))) rfl hin rfl (ty := tyX4 6) rfl rfl rfl (Nat.le_of_ble_eq_true rfl) dX4_init_70 (fun H_70 locs h_n hO hS => ?_)
  have hq_7 := gat.only1 hq_7 hO (by omega)
  have hmt := gat.only1 hmt hO (by omega)
  have htb := gat.only1 htb hO (by omega)
  have hrh := hrh.only hO (nm1 (by omega)) (nm1 (by omega))
  have hlk := hlk.only hO (nm1 (by omega)) (nm1 (by omega)) (nm1 (by omega))
  have hr2 := hr2.only hO (nm1 (by omega)) (nm1 (by omega))
  have hr3 := hr3.only hO (nm1 (by omega)) (nm1 (by omega))
  have ho : gat G a (.inr (4, [.ref q_7, .int (zI 0), .ref q_14, .ref rwA, .ref q_36, .ref q_47, .ref q_60])) H_70 := h_n
  have hG := gGrow.trans hG hO.grow (by intro x hx1 hx2; first | exact hx2 | exact absurd hx2 List.not_mem_nil | (simp only [List.mem_cons, List.not_mem_nil, or_false] at hx2 ⊢; omega))
  have s70 := hO.1
  have hlt := list13 (a0 := a) (a1 := q_7) (a2 := q_14) (a3 := rwA) (a4 := rwB) (a5 := ta) (a6 := q_36) (a7 := lr) (a8 := lb) (a9 := q_47) (a10 := b2) (a11 := q_60) (a12 := b3) (by omega) (by omega) (by omega) (by omega) (by omega) (by omega) (by omega) (by omega) (by omega) (by omega) (by omega) (by omega)
  have hap0 := mono_inj (A := fun k => [a, q_7, q_14, rwA, rwB, ta, q_36, lr, lb, q_47, b2, q_60, b3].getD k 0) (N := 13) hlt
  have hpe : ∀ k, k < 13 → [a, q_7, rwA, rwB, q_14, ta, q_36, lr, lb, q_47, b2, q_60, b3].getD k 0 = [a, q_7, q_14, rwA, rwB, ta, q_36, lr, lb, q_47, b2, q_60, b3].getD (perm13 k) 0 := fun k hk => by
    rcases (show k = 0 ∨ k = 1 ∨ k = 2 ∨ k = 3 ∨ k = 4 ∨ k = 5 ∨ k = 6 ∨ k = 7 ∨ k = 8 ∨ k = 9 ∨ k = 10 ∨ k = 11 ∨ k = 12 by omega) with rfl | rfl | rfl | rfl | rfl | rfl | rfl | rfl | rfl | rfl | rfl | rfl | rfl <;> rfl
  have hap : ∀ i j, i < 13 → j < 13 → i ≠ j → [a, q_7, rwA, rwB, q_14, ta, q_36, lr, lb, q_47, b2, q_60, b3].getD i 0 ≠ [a, q_7, rwA, rwB, q_14, ta, q_36, lr, lb, q_47, b2, q_60, b3].getD j 0 := fun i j hi hj hij => by
    rw [hpe i hi, hpe j hj]
    exact hap0 _ _ (perm13_lt i hi) (perm13_lt j hj) (perm13_inj i hi j hj hij)
  have hinc : ∀ k, 1 ≤ k → k < 13 → H.size ≤ [a, q_7, rwA, rwB, q_14, ta, q_36, lr, lb, q_47, b2, q_60, b3].getD k 0 := fun k h1 h2 => by
    rcases (show k = 1 ∨ k = 2 ∨ k = 3 ∨ k = 4 ∨ k = 5 ∨ k = 6 ∨ k = 7 ∨ k = 8 ∨ k = 9 ∨ k = 10 ∨ k = 11 ∨ k = 12 by omega) with rfl | rfl | rfl | rfl | rfl | rfl | rfl | rfl | rfl | rfl | rfl | rfl <;> simp <;> omega
  have hbs : gB G ≤ H.size := by have := hX.2.2.2.1; rw [hH] at this; exact this
  have hcat : Cat G (fun k => [a, q_7, rwA, rwB, q_14, ta, q_36, lr, lb, q_47, b2, q_60, b3].getD k 0) (fun _ _ => 0) S00 ((fun _ => 0), 0, (fun _ => 0), 0, (fun _ => 0)) H_70 := by
    refine ⟨ho, ?_, ⟨hmt, hrh, htb, gta, hap 5 4 (by omega) (by omega) (by omega), hap 5 2 (by omega) (by omega) (by omega), hap 5 3 (by omega) (by omega) (by omega)⟩, hlk, hr2, hr3, fun i hi => absurd hi (Nat.not_lt_zero _), hap, fun i j k hi => absurd hi (Nat.not_lt_zero _), fun i i2 j j2 hi => absurd hi (Nat.not_lt_zero _), fun k hk => ?_⟩
    · have e : (fun i : Nat => if i < sn S00 then some ((fun _ _ => 0 : Nat → Nat → Nat) i 0) else none) = fun _ => none := by
        funext i; exact if_neg (Nat.not_lt_zero _)
      rw [e]; exact hq_7
    · rcases Nat.eq_zero_or_pos k with e | e
      · rw [e]; exact ga
      · exact Nat.le_trans hbs (hinc k e hk)
  exact g_retv hx hb hr hlocks hS (⟨_, rfl, ⟨_, hcat⟩, hG, hinc⟩) (Nat.le_of_ble_eq_true rfl) (Nat.le_of_ble_eq_true rfl) dX4_init_73
