/-! ===== the search by trying ===== -/
def byT (T : Nat → Nat → Int) (X : cX) (q j : Nat) (q2 j2 : Nat) : Int := if q2 < xh X ∧ j2 < xn X then (if T q2 j2 = -1 then -1 else T q2 j2 + mv X q j q2 j2) else -1
def onw (X : cX) : Nat → Nat → Nat → Int
  | 0, _, _ => -1
  | d + 1, q, j => if q + 1 = xh X then 0 else
    chp (chp (chp (chp (chp (-1) (byT (onw X d) X q j (q + 1) (j + 1 + 0))) (byT (onw X d) X q j (q + 1) (j + 1 + 1))) (byT (onw X d) X q j (q + 1) (j + 1 + 2))) (byT (onw X d) X q j (q + 1 + 1) (j + 1))) (byT (onw X d) X q j (q + 1 + 2) (j + 1))
theorem byT_rng {T : Nat → Nat → Int} {X : cX} (hX : xOK X) {q j q2 j2 : Nat} (hT : q2 < xh X → -1 ≤ T q2 j2 ∧ T q2 j2 ≤ 3000 * ((xh X - q2 : Nat) : Int)) (h1 : q < q2) (h2 : q2 ≤ q + 3) (h3 : j2 ≤ j + 3) : -1 ≤ byT T X q j q2 j2 ∧ byT T X q j q2 j2 ≤ 3000 * ((xh X - q : Nat) : Int) := by
  unfold byT
  by_cases hc : q2 < xh X ∧ j2 < xn X
  · rw [if_pos hc]
    have t := hT hc.1
    have mm := mv_rng hX (q := q) (j := j) (q2 := q2) (j2 := j2) h2 h3
    split <;> omega
  · rw [if_neg hc]; omega
theorem onw_rng {X : cX} (hX : xOK X) : ∀ (d q j : Nat), -1 ≤ onw X d q j ∧ onw X d q j ≤ 3000 * ((xh X - q : Nat) : Int)
  | 0, _, _ => by unfold onw; omega
  | d + 1, q, j => by
    have ih := onw_rng hX d
    unfold onw
    split
    · omega
    · refine chp_rng (chp_rng (chp_rng (chp_rng (chp_rng ⟨by omega, by omega⟩ ?_) ?_) ?_) ?_) ?_ <;> exact byT_rng hX (fun _ => ih _ _) (by omega) (by omega) (by omega)
abbrev rmOn (d : Nat) : Room := { frames := 20 + 2 * d, cells := 0, slots := 0, locals := 600 + 60 * d }
abbrev rmOB (d : Nat) : Room := { frames := 21 + 2 * d, cells := 0, slots := 0, locals := 628 + 60 * d }
def OnC (l : Launch) (G : gG) (mt ra rb ta : Nat) (X : cX) (tb : Nat → Int32) (H : Heap) (t : Nat → Nat) (rr : Bool) (d : Nat) : Prop :=
  ∀ (zq zj zl : Int) (q j : Nat), zq = q → zj = j → q < xh X → j < xn X → xh X - q ≤ d → 0 ≤ zl → zl ≤ q + 1 → gM l yX1_cheapestOnward wsX1_cheapestOnward (rmOn d) [.ref mt, .ref (t 0), .int (zI zq), .int (zI zj), .int (zI zl)] G H (gi (fun r H1 => zI (onw X d q j) = r ∧ H = H1)) gNo 0 0
def OBC (l : Launch) (G : gG) (mt ra rb ta : Nat) (X : cX) (tb : Nat → Int32) (H : Heap) (t : Nat → Nat) (rr : Bool) (d : Nat) : Prop :=
  ∀ (zq zj zq2 zj2 zl : Int) (q j q2 j2 : Nat), zq = q → zj = j → zq2 = q2 → zj2 = j2 → q < q2 → q2 ≤ q + 3 → j < j2 → j2 ≤ j + 3 → q < xh X → j < xn X → xh X - q ≤ d + 1 → 0 ≤ zl → zl ≤ q + 1 → gM l yX1_costOnwardBy wsX1_costOnwardBy (rmOB d) [.ref mt, .ref (t 0), .int (zI zq), .int (zI zj), .int (zI zq2), .int (zI zj2), .int (zI zl)] G H (gi (fun r H1 => zI (byT (onw X d) X q j q2 j2) = r ∧ H = H1)) gNo 0 0
set_option maxHeartbeats 4000000 in
set_option maxRecDepth 100000 in
theorem k_costOnwardBy (l : Launch) (G : gG) (mt ra rb ta : Nat) (X : cX) (tb : Nat → Int32) (H : Heap) (hM : Mat G mt ra rb ta X tb H) (hX1 : xOK X) (t : Nat → Nat) (rr : Bool) (hT : Tun G t (xn X) (xf X) (xg X) rr H) (h8 : xh X ≤ 8) (d : Nat) (ih : OnC l G mt ra rb ta X tb H t rr d) (zq zj zq2 zj2 zl : Int) (q j q2 j2 : Nat) (hq : zq = q) (hj : zj = j) (hq2 : zq2 = q2) (hj2 : zj2 = j2) (hqq : q < q2) (hqq3 : q2 ≤ q + 3) (hjj : j < j2) (hjj3 : j2 ≤ j + 3) (hqh : q < xh X) (hjn : j < xn X) (hd : xh X - q ≤ d + 1) (hl0 : 0 ≤ zl) (hlq : zl ≤ q + 1) : gM l yX1_costOnwardBy wsX1_costOnwardBy (rmOB d) [.ref mt, .ref (t 0), .int (zI zq), .int (zI zj), .int (zI zq2), .int (zI zj2), .int (zI zl)] G H (gi (fun r H1 => zI (byT (onw X d) X q j q2 j2) = r ∧ H = H1)) (gNo) 0 0 := by
  obtain ⟨hm, hhr, hta, gta, na1, na2, na3⟩ := id hM
  obtain ⟨hxn, hxf, hxg, hxh, hxhf, hxsl, hxor, hxrp⟩ := id hX1
  obtain ⟨ht, hp1, hl1, gt, htd⟩ := id hT
  have hrn := onw_rng hX1 d q2 j2
  refine g_start (cc := cX1_costOnwardBy) (maxL := 9) (ret := (some .int)) (by decide +kernel) rfl (Nat.le_of_ble_eq_true rfl) ?_
  intro p e s m args below meth c F ls hl
  obtain ⟨hx, hb, hml, hr, hts, hown, hlocks, hxt, hH, hX, hin⟩ := F
  have hown : s.vm.findClass RX1 = some m.cls := hown
  have hS : va_S (gA G) s.heap H [] := by rw [hH]; exact va_S.rf
  have hl : lv_has ls 9 [(0, .ref mt), (1, .ref (t 0)), (2, .int (zI zq)), (3, .int (zI zj)), (4, .int (zI zq2)), (5, .int (zI zj2)), (6, .int (zI zl))] := hl
  refine lv_iload hx hb dX1_costOnwardBy_0 (lv_at hl 4 rfl) ?_
  refine lv_aload_n hx hb dX1_costOnwardBy_2 rfl (lv_at hl 0 rfl) ?_
  refine g_get hx hb hX hts (fun w h => (List.mem_cons_of_mem _ (List.mem_append_left _ (List.mem_append_left _ (List.mem_append_right _ h))))) hown hm rfl 0 (by decide) (hts (.fieldLink RX1 14 "TuneCatalogue$Matching" "hum" "LTuneCatalogue$Row;") (List.mem_cons_of_mem _ (List.mem_append_left _ (List.mem_append_left _ (List.mem_append_left _ (List.mem_append_left _ (List.mem_of_getElem? (i := 0) rfl))))))) rfl dX1_costOnwardBy_3 ?_
  refine g_goi (vx_runV (As := []) (rest := [.int (zI zq2)]) ⟨hx, hb, hml, hown, hts⟩ (k_size l G ra rb 12 (xh X) _ H hhr) (cwV 0 hts gX1_costOnwardBy_X2_size rfl rfl rfl hd_X2_size ⟨(by dsimp only [rmOn, rmOB, rm_X2_size]; omega), (by dsimp only [rmOn, rmOB, rm_X2_size]; omega)⟩) (g_preV hX hS (ci := 2) rfl hhr.1) rfl rfl hl.1 rfl (lv_room (Nat.le_of_ble_eq_true rfl)) dX1_costOnwardBy_6 ⟨(Nat.le_of_ble_eq_true rfl), (Nat.le_of_ble_eq_true rfl)⟩) hS (fun r_6 H_6 locs hp hS => ?_)
  obtain ⟨rfl, rfl⟩ := hp
  refine gz_icmp_ge (tgt := 25) hx hb ⟨by omega, by omega⟩ ⟨by omega, by omega⟩ dX1_costOnwardBy_9 (by decide) (fun c_9 => ?_) (fun c_9 => ?_)
  · refine lv_iconst (v := zI 0) hx hb dX1_costOnwardBy_25 rfl ?_
    refine lv_istore (lv' := [(7, .int (zI 0)), (0, .ref mt), (1, .ref (t 0)), (2, .int (zI zq)), (3, .int (zI zj)), (4, .int (zI zq2)), (5, .int (zI zj2)), (6, .int (zI zl))]) hx hb dX1_costOnwardBy_26 hl (by decide) rfl (fun ls hl => ?_)
    refine lv_iload hx hb dX1_costOnwardBy_28 (lv_at hl 0 rfl) ?_
    refine gz_if_eq (tgt := 40) hx hb (by decide) dX1_costOnwardBy_30 (by decide) (fun c_30 => ?_) (fun c_30 => ?_)
    · refine lv_iconst (v := zI (-1)) hx hb dX1_costOnwardBy_40 rfl ?_
      exact g_reti hx hb hr hlocks hS rfl (⟨by unfold byT; first | (rw [if_neg (by omega)]; done) | (rw [if_pos (by omega), if_pos (by omega)]; done) | (rw [if_pos (by omega), if_neg (by omega)]; done), rfl⟩) (Nat.le_of_ble_eq_true rfl) (Nat.le_of_ble_eq_true rfl) dX1_costOnwardBy_41
    · omega
  · refine lv_iload hx hb dX1_costOnwardBy_12 (lv_at hl 5 rfl) ?_
    refine lv_aload_n hx hb dX1_costOnwardBy_14 rfl (lv_at hl 1 rfl) ?_
    refine g_goi (vx_runV (As := []) (rest := [.int (zI zj2)]) ⟨hx, hb, hml, hown, hts⟩ (k_Tune_size l G t (xn X) (xf X) (xg X) rr H hT) (cwV 0 hts gX1_costOnwardBy_X3_size rfl rfl rfl hd_X3_size ⟨(by dsimp only [rmOn, rmOB, rm_X3_size]; omega), (by dsimp only [rmOn, rmOB, rm_X3_size]; omega)⟩) (g_preV hX hS (ci := 3) rfl ht) rfl rfl hl.1 rfl (lv_room (Nat.le_of_ble_eq_true rfl)) dX1_costOnwardBy_15 ⟨(Nat.le_of_ble_eq_true rfl), (Nat.le_of_ble_eq_true rfl)⟩) hS (fun r_15 H_15 locs hp hS => ?_)
    obtain ⟨rfl, rfl⟩ := hp
    refine gz_icmp_ge (tgt := 25) hx hb ⟨by omega, by omega⟩ ⟨by omega, by omega⟩ dX1_costOnwardBy_18 (by decide) (fun c_18 => ?_) (fun c_18 => ?_)
    · refine lv_iconst (v := zI 0) hx hb dX1_costOnwardBy_25 rfl ?_
      refine lv_istore (lv' := [(7, .int (zI 0)), (0, .ref mt), (1, .ref (t 0)), (2, .int (zI zq)), (3, .int (zI zj)), (4, .int (zI zq2)), (5, .int (zI zj2)), (6, .int (zI zl))]) hx hb dX1_costOnwardBy_26 hl (by decide) rfl (fun ls hl => ?_)
      refine lv_iload hx hb dX1_costOnwardBy_28 (lv_at hl 0 rfl) ?_
      refine gz_if_eq (tgt := 40) hx hb (by decide) dX1_costOnwardBy_30 (by decide) (fun c_30 => ?_) (fun c_30 => ?_)
      · refine lv_iconst (v := zI (-1)) hx hb dX1_costOnwardBy_40 rfl ?_
        exact g_reti hx hb hr hlocks hS rfl (⟨by unfold byT; first | (rw [if_neg (by omega)]; done) | (rw [if_pos (by omega), if_pos (by omega)]; done) | (rw [if_pos (by omega), if_neg (by omega)]; done), rfl⟩) (Nat.le_of_ble_eq_true rfl) (Nat.le_of_ble_eq_true rfl) dX1_costOnwardBy_41
      · omega
    · refine lv_iconst (v := zI 1) hx hb dX1_costOnwardBy_21 rfl ?_
      refine lv_goto (tgt := 26) hx hb dX1_costOnwardBy_22 (by decide) ?_
      refine lv_istore (lv' := [(7, .int (zI 1)), (0, .ref mt), (1, .ref (t 0)), (2, .int (zI zq)), (3, .int (zI zj)), (4, .int (zI zq2)), (5, .int (zI zj2)), (6, .int (zI zl))]) hx hb dX1_costOnwardBy_26 hl (by decide) rfl (fun ls hl => ?_)
      refine lv_iload hx hb dX1_costOnwardBy_28 (lv_at hl 0 rfl) ?_
      refine gz_if_eq (tgt := 40) hx hb (by decide) dX1_costOnwardBy_30 (by decide) (fun c_30 => ?_) (fun c_30 => ?_)
      · omega
      · refine lv_iload hx hb dX1_costOnwardBy_33 (lv_at hl 7 rfl) ?_
        refine lv_bipush (v := zI 8) hx hb dX1_costOnwardBy_35 (by decide +kernel) ?_
        refine gz_icmp_lt (tgt := 42) hx hb ⟨by omega, by omega⟩ (by decide) dX1_costOnwardBy_37 (by decide) (fun c_37 => ?_) (fun c_37 => ?_)
        · refine lv_aload_n hx hb dX1_costOnwardBy_42 rfl (lv_at hl 1 rfl) ?_
          refine lv_aload_n hx hb dX1_costOnwardBy_43 rfl (lv_at hl 2 rfl) ?_
          refine lv_iload hx hb dX1_costOnwardBy_44 (lv_at hl 5 rfl) ?_
          refine lv_iload hx hb dX1_costOnwardBy_46 (lv_at hl 6 rfl) ?_
          refine lv_iload hx hb dX1_costOnwardBy_48 (lv_at hl 7 rfl) ?_
          refine lv_iconst (v := zI 1) hx hb dX1_costOnwardBy_50 rfl ?_
          refine gz_iadd hx hb dX1_costOnwardBy_51 ?_
          refine g_goi (vx_runV (As := [.ref (t 0), .int (zI zq2), .int (zI zj2), .int (zI (zl + 1))]) (rest := []) ⟨hx, hb, hml, hown, hts⟩ (ih zq2 zj2 (zl + 1) q2 j2 hq2 hj2 (by omega) (by omega) (by omega) (by omega) (by omega)) (cwV 4 hts gX1_costOnwardBy_X1_cheapestOnward rfl rfl rfl hd_X1_cheapestOnward ⟨(by dsimp only [rmOn, rmOB]; omega), (by dsimp only [rmOn, rmOB]; omega)⟩) (g_preV hX hS (ci := 1) rfl hm) rfl rfl hl.1 rfl (lv_room (Nat.le_of_ble_eq_true rfl)) dX1_costOnwardBy_52 ⟨(Nat.le_of_ble_eq_true rfl), (Nat.le_of_ble_eq_true rfl)⟩) hS (fun r_52 H_52 locs hp hS => ?_)
          obtain ⟨rfl, rfl⟩ := hp
          refine lv_istore (lv' := [(8, .int (zI (onw X d q2 j2))), (7, .int (zI 1)), (0, .ref mt), (1, .ref (t 0)), (2, .int (zI zq)), (3, .int (zI zj)), (4, .int (zI zq2)), (5, .int (zI zj2)), (6, .int (zI zl))]) hx hb dX1_costOnwardBy_55 hl (by decide) rfl (fun ls hl => ?_)
          refine lv_iload hx hb dX1_costOnwardBy_57 (lv_at hl 0 rfl) ?_
          refine lv_iconst (v := zI (-1)) hx hb dX1_costOnwardBy_59 rfl ?_
          refine gz_icmp_ne (tgt := 67) hx hb ⟨by omega, by omega⟩ (by decide) dX1_costOnwardBy_60 (by decide) (fun c_60 => ?_) (fun c_60 => ?_)
          · refine lv_iload hx hb dX1_costOnwardBy_67 (lv_at hl 0 rfl) ?_
            refine lv_aload_n hx hb dX1_costOnwardBy_69 rfl (lv_at hl 2 rfl) ?_
            refine lv_aload_n hx hb dX1_costOnwardBy_70 rfl (lv_at hl 3 rfl) ?_
            refine lv_iload_n hx hb dX1_costOnwardBy_71 rfl (lv_at hl 4 rfl) ?_
            refine lv_iload_n hx hb dX1_costOnwardBy_72 rfl (lv_at hl 5 rfl) ?_
            refine lv_iload hx hb dX1_costOnwardBy_73 (lv_at hl 6 rfl) ?_
            refine lv_iload hx hb dX1_costOnwardBy_75 (lv_at hl 7 rfl) ?_
            refine g_goi (vx_runV (As := [.ref (t 0), .int (zI zq), .int (zI zj), .int (zI zq2), .int (zI zj2)]) (rest := [.int (zI (onw X d q2 j2))]) ⟨hx, hb, hml, hown, hts⟩ (k_costOfMove l G mt ra rb ta X tb H hM hX1 t rr hT zq zj zq2 zj2 q j q2 j2 hq hj hq2 hj2 hqq (by omega) hjj (by omega)) (cwV 5 hts gX1_costOnwardBy_X1_costOfMove rfl rfl rfl hd_X1_costOfMove ⟨(by dsimp only [rmOn, rmOB, rm_X1_costOfMove]; omega), (by dsimp only [rmOn, rmOB, rm_X1_costOfMove]; omega)⟩) (g_preV hX hS (ci := 1) rfl hm) rfl rfl hl.1 rfl (lv_room (Nat.le_of_ble_eq_true rfl)) dX1_costOnwardBy_77 ⟨(Nat.le_of_ble_eq_true rfl), (Nat.le_of_ble_eq_true rfl)⟩) hS (fun r_77 H_77 locs hp hS => ?_)
            obtain ⟨rfl, rfl⟩ := hp
            refine gz_iadd hx hb dX1_costOnwardBy_80 ?_
            exact g_reti hx hb hr hlocks hS rfl (⟨by unfold byT; first | (rw [if_neg (by omega)]; done) | (rw [if_pos (by omega), if_pos (by omega)]; done) | (rw [if_pos (by omega), if_neg (by omega)]; done), rfl⟩) (Nat.le_of_ble_eq_true rfl) (Nat.le_of_ble_eq_true rfl) dX1_costOnwardBy_81
          · refine lv_iconst (v := zI (-1)) hx hb dX1_costOnwardBy_63 rfl ?_
            refine lv_goto (tgt := 81) hx hb dX1_costOnwardBy_64 (by decide) ?_
            exact g_reti hx hb hr hlocks hS rfl (⟨by unfold byT; first | (rw [if_neg (by omega)]; done) | (rw [if_pos (by omega), if_pos (by omega)]; done) | (rw [if_pos (by omega), if_neg (by omega)]; done), rfl⟩) (Nat.le_of_ble_eq_true rfl) (Nat.le_of_ble_eq_true rfl) dX1_costOnwardBy_81
        · omega
set_option maxHeartbeats 4000000 in
set_option maxRecDepth 100000 in
theorem k_cheapestOnward (l : Launch) (G : gG) (mt ra rb ta : Nat) (X : cX) (tb : Nat → Int32) (H : Heap) (hM : Mat G mt ra rb ta X tb H) (hX1 : xOK X) (t : Nat → Nat) (rr : Bool) (hT : Tun G t (xn X) (xf X) (xg X) rr H) (h8 : xh X ≤ 8) (d : Nat) (ih : OBC l G mt ra rb ta X tb H t rr d) (zq zj zl : Int) (q j : Nat) (hq : zq = q) (hj : zj = j) (hqh : q < xh X) (hjn : j < xn X) (hd : xh X - q ≤ d + 1) (hl0 : 0 ≤ zl) (hlq : zl ≤ q + 1) : gM l yX1_cheapestOnward wsX1_cheapestOnward (rmOn (d + 1)) [.ref mt, .ref (t 0), .int (zI zq), .int (zI zj), .int (zI zl)] G H (gi (fun r H1 => zI (onw X (d + 1) q j) = r ∧ H = H1)) (gNo) 0 0 := by
  obtain ⟨hm, hhr, hta, gta, na1, na2, na3⟩ := id hM
  obtain ⟨hxn, hxf, hxg, hxh, hxhf, hxsl, hxor, hxrp⟩ := id hX1
  obtain ⟨ht, hp1, hl1, gt, htd⟩ := id hT
  refine g_start (cc := cX1_cheapestOnward) (maxL := 7) (ret := (some .int)) (by decide +kernel) rfl (Nat.le_of_ble_eq_true rfl) ?_
  intro p e s m args below meth c F ls hl
  obtain ⟨hx, hb, hml, hr, hts, hown, hlocks, hxt, hH, hX, hin⟩ := F
  have hown : s.vm.findClass RX1 = some m.cls := hown
  have hS : va_S (gA G) s.heap H [] := by rw [hH]; exact va_S.rf
  have hl : lv_has ls 7 [(0, .ref mt), (1, .ref (t 0)), (2, .int (zI zq)), (3, .int (zI zj)), (4, .int (zI zl))] := hl
  refine lv_iload_n hx hb dX1_cheapestOnward_0 rfl (lv_at hl 2 rfl) ?_
  refine lv_aload_n hx hb dX1_cheapestOnward_1 rfl (lv_at hl 0 rfl) ?_
  refine g_get hx hb hX hts (fun w h => (List.mem_cons_of_mem _ (List.mem_append_left _ (List.mem_append_left _ (List.mem_append_right _ h))))) hown hm rfl 0 (by decide) (hts (.fieldLink RX1 14 "TuneCatalogue$Matching" "hum" "LTuneCatalogue$Row;") (List.mem_cons_of_mem _ (List.mem_append_left _ (List.mem_append_left _ (List.mem_append_left _ (List.mem_append_left _ (List.mem_of_getElem? (i := 0) rfl))))))) rfl dX1_cheapestOnward_2 ?_
  refine g_goi (vx_runV (As := []) (rest := [.int (zI zq)]) ⟨hx, hb, hml, hown, hts⟩ (k_size l G ra rb 12 (xh X) _ H hhr) (cwV 0 hts gX1_cheapestOnward_X2_size rfl rfl rfl hd_X2_size ⟨(by dsimp only [rmOn, rmOB, rm_X2_size]; omega), (by dsimp only [rmOn, rmOB, rm_X2_size]; omega)⟩) (g_preV hX hS (ci := 2) rfl hhr.1) rfl rfl hl.1 rfl (lv_room (Nat.le_of_ble_eq_true rfl)) dX1_cheapestOnward_5 ⟨(Nat.le_of_ble_eq_true rfl), (Nat.le_of_ble_eq_true rfl)⟩) hS (fun r_5 H_5 locs hp hS => ?_)
  obtain ⟨rfl, rfl⟩ := hp
  refine lv_iconst (v := zI 1) hx hb dX1_cheapestOnward_8 rfl ?_
  refine gz_isub hx hb dX1_cheapestOnward_9 ?_
  refine gz_icmp_ne (tgt := 15) hx hb ⟨by omega, by omega⟩ ⟨by omega, by omega⟩ dX1_cheapestOnward_10 (by decide) (fun c_10 => ?_) (fun c_10 => ?_)
  · refine lv_iconst (v := zI (-1)) hx hb dX1_cheapestOnward_15 rfl ?_
    refine lv_istore (lv' := [(5, .int (zI (-1))), (0, .ref mt), (1, .ref (t 0)), (2, .int (zI zq)), (3, .int (zI zj)), (4, .int (zI zl))]) hx hb dX1_cheapestOnward_16 hl (by decide) rfl (fun ls hl => ?_)
    refine lv_iconst (v := zI 0) hx hb dX1_cheapestOnward_18 rfl ?_
    refine lv_istore (lv' := [(6, .int (zI 0)), (5, .int (zI (-1))), (0, .ref mt), (1, .ref (t 0)), (2, .int (zI zq)), (3, .int (zI zj)), (4, .int (zI zl))]) hx hb dX1_cheapestOnward_19 hl (by decide) rfl (fun ls hl => ?_)
    refine lv_iload hx hb dX1_cheapestOnward_21 (lv_at hl 0 rfl) ?_
    refine lv_iconst (v := zI 2) hx hb dX1_cheapestOnward_23 rfl ?_
    refine gz_icmp_gt (tgt := 58) hx hb (by decide) (by decide) dX1_cheapestOnward_24 (by decide) (fun c_24 => ?_) (fun c_24 => ?_)
    · omega
    · refine lv_iload hx hb dX1_cheapestOnward_27 (lv_at hl 1 rfl) ?_
      refine lv_aload_n hx hb dX1_cheapestOnward_29 rfl (lv_at hl 2 rfl) ?_
      refine lv_aload_n hx hb dX1_cheapestOnward_30 rfl (lv_at hl 3 rfl) ?_
      refine lv_iload_n hx hb dX1_cheapestOnward_31 rfl (lv_at hl 4 rfl) ?_
      refine lv_iload_n hx hb dX1_cheapestOnward_32 rfl (lv_at hl 5 rfl) ?_
      refine lv_iload_n hx hb dX1_cheapestOnward_33 rfl (lv_at hl 4 rfl) ?_
      refine lv_iconst (v := zI 1) hx hb dX1_cheapestOnward_34 rfl ?_
      refine gz_iadd hx hb dX1_cheapestOnward_35 ?_
      refine lv_iload_n hx hb dX1_cheapestOnward_36 rfl (lv_at hl 5 rfl) ?_
      refine lv_iconst (v := zI 1) hx hb dX1_cheapestOnward_37 rfl ?_
      refine gz_iadd hx hb dX1_cheapestOnward_38 ?_
      refine lv_iload hx hb dX1_cheapestOnward_39 (lv_at hl 0 rfl) ?_
      refine gz_iadd hx hb dX1_cheapestOnward_41 ?_
      refine lv_iload hx hb dX1_cheapestOnward_42 (lv_at hl 6 rfl) ?_
      refine g_goi (vx_runV (As := [.ref (t 0), .int (zI zq), .int (zI zj), .int (zI (zq + 1)), .int (zI ((zj + 1) + 0)), .int (zI zl)]) (rest := [.int (zI (-1))]) ⟨hx, hb, hml, hown, hts⟩ (ih zq zj (zq + 1) ((zj + 1) + 0) zl q j (q + 1) (j + 1 + 0) hq hj (by omega) (by omega) (by omega) (by omega) (by omega) (by omega) hqh hjn hd hl0 hlq) (cwV 6 hts gX1_cheapestOnward_X1_costOnwardBy rfl rfl rfl hd_X1_costOnwardBy ⟨(by dsimp only [rmOn, rmOB]; omega), (by dsimp only [rmOn, rmOB]; omega)⟩) (g_preV hX hS (ci := 1) rfl hm) rfl rfl hl.1 rfl (lv_room (Nat.le_of_ble_eq_true rfl)) dX1_cheapestOnward_44 ⟨(Nat.le_of_ble_eq_true rfl), (Nat.le_of_ble_eq_true rfl)⟩) hS (fun r_44 H_44 locs hp hS => ?_)
      obtain ⟨rfl, rfl⟩ := hp
      have hv_44_0 : -1 ≤ byT (onw X d) X q j (q + 1) (j + 1 + 0) ∧ byT (onw X d) X q j (q + 1) (j + 1 + 0) ≤ 36000 := by
        have := byT_rng hX1 (T := onw X d) (q := q) (j := j) (q2 := q + 1) (j2 := j + 1 + 0) (fun _ => onw_rng hX1 d _ _) (by omega) (by omega) (by omega)
        omega
      refine g_goi (vx_runS (As := [.int (zI (-1)), .int (zI (byT (onw X d) X q j (q + 1) (j + 1 + 0)))]) (rest := []) ⟨hx, hb, hml, hown, hts⟩ (k_cheaper l G H (-1) (byT (onw X d) X q j (q + 1) (j + 1 + 0)) (by omega) (by omega)) (va_cwS 2 hts gX1_cheapestOnward_X1_cheaper rfl rfl rfl hd_X1_cheaper.2 ⟨(by dsimp only [rmOn, rmOB, rm_X1_cheaper]; omega), (by dsimp only [rmOn, rmOB, rm_X1_cheaper]; omega)⟩) (g_pre hX hS) rfl rfl hl.1 rfl (lv_room (Nat.le_of_ble_eq_true rfl)) dX1_cheapestOnward_47 ⟨(Nat.le_of_ble_eq_true rfl), (Nat.le_of_ble_eq_true rfl)⟩) hS (fun r_47 H_47 locs hp hS => ?_)
      obtain ⟨rfl, rfl⟩ := hp
      obtain ⟨a_1, ea_1⟩ : ∃ y : Int, y = chp (-1) (byT (onw X d) X q j (q + 1) (j + 1 + 0)) := ⟨_, rfl⟩
      rw [← ea_1]
      have ha_1 : -1 ≤ a_1 ∧ a_1 ≤ 36000 := by rw [ea_1]; exact chp_rng (by omega) (by omega)
      refine lv_istore (lv' := [(5, .int (zI a_1)), (6, .int (zI 0)), (0, .ref mt), (1, .ref (t 0)), (2, .int (zI zq)), (3, .int (zI zj)), (4, .int (zI zl))]) hx hb dX1_cheapestOnward_50 hl (by decide) rfl (fun ls hl => ?_)
      refine lv_iinc (v := zI 1) (lv' := [(6, .int (zI 1)), (5, .int (zI a_1)), (0, .ref mt), (1, .ref (t 0)), (2, .int (zI zq)), (3, .int (zI zj)), (4, .int (zI zl))]) hx hb dX1_cheapestOnward_52 hl (k := 1) rfl (by decide +kernel) (by decide) rfl (fun ls hl => ?_)
      refine lv_goto (tgt := 21) hx hb dX1_cheapestOnward_55 (by decide) ?_
      refine lv_iload hx hb dX1_cheapestOnward_21 (lv_at hl 0 rfl) ?_
      refine lv_iconst (v := zI 2) hx hb dX1_cheapestOnward_23 rfl ?_
      refine gz_icmp_gt (tgt := 58) hx hb (by decide) (by decide) dX1_cheapestOnward_24 (by decide) (fun c_24 => ?_) (fun c_24 => ?_)
      · omega
      · refine lv_iload hx hb dX1_cheapestOnward_27 (lv_at hl 1 rfl) ?_
        refine lv_aload_n hx hb dX1_cheapestOnward_29 rfl (lv_at hl 2 rfl) ?_
        refine lv_aload_n hx hb dX1_cheapestOnward_30 rfl (lv_at hl 3 rfl) ?_
        refine lv_iload_n hx hb dX1_cheapestOnward_31 rfl (lv_at hl 4 rfl) ?_
        refine lv_iload_n hx hb dX1_cheapestOnward_32 rfl (lv_at hl 5 rfl) ?_
        refine lv_iload_n hx hb dX1_cheapestOnward_33 rfl (lv_at hl 4 rfl) ?_
        refine lv_iconst (v := zI 1) hx hb dX1_cheapestOnward_34 rfl ?_
        refine gz_iadd hx hb dX1_cheapestOnward_35 ?_
        refine lv_iload_n hx hb dX1_cheapestOnward_36 rfl (lv_at hl 5 rfl) ?_
        refine lv_iconst (v := zI 1) hx hb dX1_cheapestOnward_37 rfl ?_
        refine gz_iadd hx hb dX1_cheapestOnward_38 ?_
        refine lv_iload hx hb dX1_cheapestOnward_39 (lv_at hl 0 rfl) ?_
        refine gz_iadd hx hb dX1_cheapestOnward_41 ?_
        refine lv_iload hx hb dX1_cheapestOnward_42 (lv_at hl 6 rfl) ?_
        refine g_goi (vx_runV (As := [.ref (t 0), .int (zI zq), .int (zI zj), .int (zI (zq + 1)), .int (zI ((zj + 1) + 1)), .int (zI zl)]) (rest := [.int (zI a_1)]) ⟨hx, hb, hml, hown, hts⟩ (ih zq zj (zq + 1) ((zj + 1) + 1) zl q j (q + 1) (j + 1 + 1) hq hj (by omega) (by omega) (by omega) (by omega) (by omega) (by omega) hqh hjn hd hl0 hlq) (cwV 6 hts gX1_cheapestOnward_X1_costOnwardBy rfl rfl rfl hd_X1_costOnwardBy ⟨(by dsimp only [rmOn, rmOB]; omega), (by dsimp only [rmOn, rmOB]; omega)⟩) (g_preV hX hS (ci := 1) rfl hm) rfl rfl hl.1 rfl (lv_room (Nat.le_of_ble_eq_true rfl)) dX1_cheapestOnward_44 ⟨(Nat.le_of_ble_eq_true rfl), (Nat.le_of_ble_eq_true rfl)⟩) hS (fun r_44 H_44 locs hp hS => ?_)
        obtain ⟨rfl, rfl⟩ := hp
        have hv_44_1 : -1 ≤ byT (onw X d) X q j (q + 1) (j + 1 + 1) ∧ byT (onw X d) X q j (q + 1) (j + 1 + 1) ≤ 36000 := by
          have := byT_rng hX1 (T := onw X d) (q := q) (j := j) (q2 := q + 1) (j2 := j + 1 + 1) (fun _ => onw_rng hX1 d _ _) (by omega) (by omega) (by omega)
          omega
        refine g_goi (vx_runS (As := [.int (zI a_1), .int (zI (byT (onw X d) X q j (q + 1) (j + 1 + 1)))]) (rest := []) ⟨hx, hb, hml, hown, hts⟩ (k_cheaper l G H a_1 (byT (onw X d) X q j (q + 1) (j + 1 + 1)) (by omega) (by omega)) (va_cwS 2 hts gX1_cheapestOnward_X1_cheaper rfl rfl rfl hd_X1_cheaper.2 ⟨(by dsimp only [rmOn, rmOB, rm_X1_cheaper]; omega), (by dsimp only [rmOn, rmOB, rm_X1_cheaper]; omega)⟩) (g_pre hX hS) rfl rfl hl.1 rfl (lv_room (Nat.le_of_ble_eq_true rfl)) dX1_cheapestOnward_47 ⟨(Nat.le_of_ble_eq_true rfl), (Nat.le_of_ble_eq_true rfl)⟩) hS (fun r_47 H_47 locs hp hS => ?_)
        obtain ⟨rfl, rfl⟩ := hp
        obtain ⟨a_2, ea_2⟩ : ∃ y : Int, y = chp a_1 (byT (onw X d) X q j (q + 1) (j + 1 + 1)) := ⟨_, rfl⟩
        rw [← ea_2]
        have ha_2 : -1 ≤ a_2 ∧ a_2 ≤ 36000 := by rw [ea_2]; exact chp_rng (by omega) (by omega)
        refine lv_istore (lv' := [(5, .int (zI a_2)), (6, .int (zI 1)), (0, .ref mt), (1, .ref (t 0)), (2, .int (zI zq)), (3, .int (zI zj)), (4, .int (zI zl))]) hx hb dX1_cheapestOnward_50 hl (by decide) rfl (fun ls hl => ?_)
        refine lv_iinc (v := zI 2) (lv' := [(6, .int (zI 2)), (5, .int (zI a_2)), (0, .ref mt), (1, .ref (t 0)), (2, .int (zI zq)), (3, .int (zI zj)), (4, .int (zI zl))]) hx hb dX1_cheapestOnward_52 hl (k := 1) rfl (by decide +kernel) (by decide) rfl (fun ls hl => ?_)
        refine lv_goto (tgt := 21) hx hb dX1_cheapestOnward_55 (by decide) ?_
        refine lv_iload hx hb dX1_cheapestOnward_21 (lv_at hl 0 rfl) ?_
        refine lv_iconst (v := zI 2) hx hb dX1_cheapestOnward_23 rfl ?_
        refine gz_icmp_gt (tgt := 58) hx hb (by decide) (by decide) dX1_cheapestOnward_24 (by decide) (fun c_24 => ?_) (fun c_24 => ?_)
        · omega
        · refine lv_iload hx hb dX1_cheapestOnward_27 (lv_at hl 1 rfl) ?_
          refine lv_aload_n hx hb dX1_cheapestOnward_29 rfl (lv_at hl 2 rfl) ?_
          refine lv_aload_n hx hb dX1_cheapestOnward_30 rfl (lv_at hl 3 rfl) ?_
          refine lv_iload_n hx hb dX1_cheapestOnward_31 rfl (lv_at hl 4 rfl) ?_
          refine lv_iload_n hx hb dX1_cheapestOnward_32 rfl (lv_at hl 5 rfl) ?_
          refine lv_iload_n hx hb dX1_cheapestOnward_33 rfl (lv_at hl 4 rfl) ?_
          refine lv_iconst (v := zI 1) hx hb dX1_cheapestOnward_34 rfl ?_
          refine gz_iadd hx hb dX1_cheapestOnward_35 ?_
          refine lv_iload_n hx hb dX1_cheapestOnward_36 rfl (lv_at hl 5 rfl) ?_
          refine lv_iconst (v := zI 1) hx hb dX1_cheapestOnward_37 rfl ?_
          refine gz_iadd hx hb dX1_cheapestOnward_38 ?_
          refine lv_iload hx hb dX1_cheapestOnward_39 (lv_at hl 0 rfl) ?_
          refine gz_iadd hx hb dX1_cheapestOnward_41 ?_
          refine lv_iload hx hb dX1_cheapestOnward_42 (lv_at hl 6 rfl) ?_
          refine g_goi (vx_runV (As := [.ref (t 0), .int (zI zq), .int (zI zj), .int (zI (zq + 1)), .int (zI ((zj + 1) + 2)), .int (zI zl)]) (rest := [.int (zI a_2)]) ⟨hx, hb, hml, hown, hts⟩ (ih zq zj (zq + 1) ((zj + 1) + 2) zl q j (q + 1) (j + 1 + 2) hq hj (by omega) (by omega) (by omega) (by omega) (by omega) (by omega) hqh hjn hd hl0 hlq) (cwV 6 hts gX1_cheapestOnward_X1_costOnwardBy rfl rfl rfl hd_X1_costOnwardBy ⟨(by dsimp only [rmOn, rmOB]; omega), (by dsimp only [rmOn, rmOB]; omega)⟩) (g_preV hX hS (ci := 1) rfl hm) rfl rfl hl.1 rfl (lv_room (Nat.le_of_ble_eq_true rfl)) dX1_cheapestOnward_44 ⟨(Nat.le_of_ble_eq_true rfl), (Nat.le_of_ble_eq_true rfl)⟩) hS (fun r_44 H_44 locs hp hS => ?_)
          obtain ⟨rfl, rfl⟩ := hp
          have hv_44_2 : -1 ≤ byT (onw X d) X q j (q + 1) (j + 1 + 2) ∧ byT (onw X d) X q j (q + 1) (j + 1 + 2) ≤ 36000 := by
            have := byT_rng hX1 (T := onw X d) (q := q) (j := j) (q2 := q + 1) (j2 := j + 1 + 2) (fun _ => onw_rng hX1 d _ _) (by omega) (by omega) (by omega)
            omega
          refine g_goi (vx_runS (As := [.int (zI a_2), .int (zI (byT (onw X d) X q j (q + 1) (j + 1 + 2)))]) (rest := []) ⟨hx, hb, hml, hown, hts⟩ (k_cheaper l G H a_2 (byT (onw X d) X q j (q + 1) (j + 1 + 2)) (by omega) (by omega)) (va_cwS 2 hts gX1_cheapestOnward_X1_cheaper rfl rfl rfl hd_X1_cheaper.2 ⟨(by dsimp only [rmOn, rmOB, rm_X1_cheaper]; omega), (by dsimp only [rmOn, rmOB, rm_X1_cheaper]; omega)⟩) (g_pre hX hS) rfl rfl hl.1 rfl (lv_room (Nat.le_of_ble_eq_true rfl)) dX1_cheapestOnward_47 ⟨(Nat.le_of_ble_eq_true rfl), (Nat.le_of_ble_eq_true rfl)⟩) hS (fun r_47 H_47 locs hp hS => ?_)
          obtain ⟨rfl, rfl⟩ := hp
          obtain ⟨a_3, ea_3⟩ : ∃ y : Int, y = chp a_2 (byT (onw X d) X q j (q + 1) (j + 1 + 2)) := ⟨_, rfl⟩
          rw [← ea_3]
          have ha_3 : -1 ≤ a_3 ∧ a_3 ≤ 36000 := by rw [ea_3]; exact chp_rng (by omega) (by omega)
          refine lv_istore (lv' := [(5, .int (zI a_3)), (6, .int (zI 2)), (0, .ref mt), (1, .ref (t 0)), (2, .int (zI zq)), (3, .int (zI zj)), (4, .int (zI zl))]) hx hb dX1_cheapestOnward_50 hl (by decide) rfl (fun ls hl => ?_)
          refine lv_iinc (v := zI 3) (lv' := [(6, .int (zI 3)), (5, .int (zI a_3)), (0, .ref mt), (1, .ref (t 0)), (2, .int (zI zq)), (3, .int (zI zj)), (4, .int (zI zl))]) hx hb dX1_cheapestOnward_52 hl (k := 1) rfl (by decide +kernel) (by decide) rfl (fun ls hl => ?_)
          refine lv_goto (tgt := 21) hx hb dX1_cheapestOnward_55 (by decide) ?_
          refine lv_iload hx hb dX1_cheapestOnward_21 (lv_at hl 0 rfl) ?_
          refine lv_iconst (v := zI 2) hx hb dX1_cheapestOnward_23 rfl ?_
          refine gz_icmp_gt (tgt := 58) hx hb (by decide) (by decide) dX1_cheapestOnward_24 (by decide) (fun c_24 => ?_) (fun c_24 => ?_)
          · refine lv_iconst (v := zI 1) hx hb dX1_cheapestOnward_58 rfl ?_
            refine lv_istore (lv' := [(6, .int (zI 1)), (5, .int (zI a_3)), (0, .ref mt), (1, .ref (t 0)), (2, .int (zI zq)), (3, .int (zI zj)), (4, .int (zI zl))]) hx hb dX1_cheapestOnward_59 hl (by decide) rfl (fun ls hl => ?_)
            refine lv_iload hx hb dX1_cheapestOnward_61 (lv_at hl 0 rfl) ?_
            refine lv_iconst (v := zI 2) hx hb dX1_cheapestOnward_63 rfl ?_
            refine gz_icmp_gt (tgt := 98) hx hb (by decide) (by decide) dX1_cheapestOnward_64 (by decide) (fun c_64 => ?_) (fun c_64 => ?_)
            · omega
            · refine lv_iload hx hb dX1_cheapestOnward_67 (lv_at hl 1 rfl) ?_
              refine lv_aload_n hx hb dX1_cheapestOnward_69 rfl (lv_at hl 2 rfl) ?_
              refine lv_aload_n hx hb dX1_cheapestOnward_70 rfl (lv_at hl 3 rfl) ?_
              refine lv_iload_n hx hb dX1_cheapestOnward_71 rfl (lv_at hl 4 rfl) ?_
              refine lv_iload_n hx hb dX1_cheapestOnward_72 rfl (lv_at hl 5 rfl) ?_
              refine lv_iload_n hx hb dX1_cheapestOnward_73 rfl (lv_at hl 4 rfl) ?_
              refine lv_iconst (v := zI 1) hx hb dX1_cheapestOnward_74 rfl ?_
              refine gz_iadd hx hb dX1_cheapestOnward_75 ?_
              refine lv_iload hx hb dX1_cheapestOnward_76 (lv_at hl 0 rfl) ?_
              refine gz_iadd hx hb dX1_cheapestOnward_78 ?_
              refine lv_iload_n hx hb dX1_cheapestOnward_79 rfl (lv_at hl 5 rfl) ?_
              refine lv_iconst (v := zI 1) hx hb dX1_cheapestOnward_80 rfl ?_
              refine gz_iadd hx hb dX1_cheapestOnward_81 ?_
              refine lv_iload hx hb dX1_cheapestOnward_82 (lv_at hl 6 rfl) ?_
              refine g_goi (vx_runV (As := [.ref (t 0), .int (zI zq), .int (zI zj), .int (zI ((zq + 1) + 1)), .int (zI (zj + 1)), .int (zI zl)]) (rest := [.int (zI a_3)]) ⟨hx, hb, hml, hown, hts⟩ (ih zq zj ((zq + 1) + 1) (zj + 1) zl q j (q + 1 + 1) (j + 1) hq hj (by omega) (by omega) (by omega) (by omega) (by omega) (by omega) hqh hjn hd hl0 hlq) (cwV 6 hts gX1_cheapestOnward_X1_costOnwardBy rfl rfl rfl hd_X1_costOnwardBy ⟨(by dsimp only [rmOn, rmOB]; omega), (by dsimp only [rmOn, rmOB]; omega)⟩) (g_preV hX hS (ci := 1) rfl hm) rfl rfl hl.1 rfl (lv_room (Nat.le_of_ble_eq_true rfl)) dX1_cheapestOnward_84 ⟨(Nat.le_of_ble_eq_true rfl), (Nat.le_of_ble_eq_true rfl)⟩) hS (fun r_84 H_84 locs hp hS => ?_)
              obtain ⟨rfl, rfl⟩ := hp
              have hv_84_3 : -1 ≤ byT (onw X d) X q j (q + 1 + 1) (j + 1) ∧ byT (onw X d) X q j (q + 1 + 1) (j + 1) ≤ 36000 := by
                have := byT_rng hX1 (T := onw X d) (q := q) (j := j) (q2 := q + 1 + 1) (j2 := j + 1) (fun _ => onw_rng hX1 d _ _) (by omega) (by omega) (by omega)
                omega
              refine g_goi (vx_runS (As := [.int (zI a_3), .int (zI (byT (onw X d) X q j (q + 1 + 1) (j + 1)))]) (rest := []) ⟨hx, hb, hml, hown, hts⟩ (k_cheaper l G H a_3 (byT (onw X d) X q j (q + 1 + 1) (j + 1)) (by omega) (by omega)) (va_cwS 2 hts gX1_cheapestOnward_X1_cheaper rfl rfl rfl hd_X1_cheaper.2 ⟨(by dsimp only [rmOn, rmOB, rm_X1_cheaper]; omega), (by dsimp only [rmOn, rmOB, rm_X1_cheaper]; omega)⟩) (g_pre hX hS) rfl rfl hl.1 rfl (lv_room (Nat.le_of_ble_eq_true rfl)) dX1_cheapestOnward_87 ⟨(Nat.le_of_ble_eq_true rfl), (Nat.le_of_ble_eq_true rfl)⟩) hS (fun r_87 H_87 locs hp hS => ?_)
              obtain ⟨rfl, rfl⟩ := hp
              obtain ⟨a_4, ea_4⟩ : ∃ y : Int, y = chp a_3 (byT (onw X d) X q j (q + 1 + 1) (j + 1)) := ⟨_, rfl⟩
              rw [← ea_4]
              have ha_4 : -1 ≤ a_4 ∧ a_4 ≤ 36000 := by rw [ea_4]; exact chp_rng (by omega) (by omega)
              refine lv_istore (lv' := [(5, .int (zI a_4)), (6, .int (zI 1)), (0, .ref mt), (1, .ref (t 0)), (2, .int (zI zq)), (3, .int (zI zj)), (4, .int (zI zl))]) hx hb dX1_cheapestOnward_90 hl (by decide) rfl (fun ls hl => ?_)
              refine lv_iinc (v := zI 2) (lv' := [(6, .int (zI 2)), (5, .int (zI a_4)), (0, .ref mt), (1, .ref (t 0)), (2, .int (zI zq)), (3, .int (zI zj)), (4, .int (zI zl))]) hx hb dX1_cheapestOnward_92 hl (k := 1) rfl (by decide +kernel) (by decide) rfl (fun ls hl => ?_)
              refine lv_goto (tgt := 61) hx hb dX1_cheapestOnward_95 (by decide) ?_
              refine lv_iload hx hb dX1_cheapestOnward_61 (lv_at hl 0 rfl) ?_
              refine lv_iconst (v := zI 2) hx hb dX1_cheapestOnward_63 rfl ?_
              refine gz_icmp_gt (tgt := 98) hx hb (by decide) (by decide) dX1_cheapestOnward_64 (by decide) (fun c_64 => ?_) (fun c_64 => ?_)
              · omega
              · refine lv_iload hx hb dX1_cheapestOnward_67 (lv_at hl 1 rfl) ?_
                refine lv_aload_n hx hb dX1_cheapestOnward_69 rfl (lv_at hl 2 rfl) ?_
                refine lv_aload_n hx hb dX1_cheapestOnward_70 rfl (lv_at hl 3 rfl) ?_
                refine lv_iload_n hx hb dX1_cheapestOnward_71 rfl (lv_at hl 4 rfl) ?_
                refine lv_iload_n hx hb dX1_cheapestOnward_72 rfl (lv_at hl 5 rfl) ?_
                refine lv_iload_n hx hb dX1_cheapestOnward_73 rfl (lv_at hl 4 rfl) ?_
                refine lv_iconst (v := zI 1) hx hb dX1_cheapestOnward_74 rfl ?_
                refine gz_iadd hx hb dX1_cheapestOnward_75 ?_
                refine lv_iload hx hb dX1_cheapestOnward_76 (lv_at hl 0 rfl) ?_
                refine gz_iadd hx hb dX1_cheapestOnward_78 ?_
                refine lv_iload_n hx hb dX1_cheapestOnward_79 rfl (lv_at hl 5 rfl) ?_
                refine lv_iconst (v := zI 1) hx hb dX1_cheapestOnward_80 rfl ?_
                refine gz_iadd hx hb dX1_cheapestOnward_81 ?_
                refine lv_iload hx hb dX1_cheapestOnward_82 (lv_at hl 6 rfl) ?_
                refine g_goi (vx_runV (As := [.ref (t 0), .int (zI zq), .int (zI zj), .int (zI ((zq + 1) + 2)), .int (zI (zj + 1)), .int (zI zl)]) (rest := [.int (zI a_4)]) ⟨hx, hb, hml, hown, hts⟩ (ih zq zj ((zq + 1) + 2) (zj + 1) zl q j (q + 1 + 2) (j + 1) hq hj (by omega) (by omega) (by omega) (by omega) (by omega) (by omega) hqh hjn hd hl0 hlq) (cwV 6 hts gX1_cheapestOnward_X1_costOnwardBy rfl rfl rfl hd_X1_costOnwardBy ⟨(by dsimp only [rmOn, rmOB]; omega), (by dsimp only [rmOn, rmOB]; omega)⟩) (g_preV hX hS (ci := 1) rfl hm) rfl rfl hl.1 rfl (lv_room (Nat.le_of_ble_eq_true rfl)) dX1_cheapestOnward_84 ⟨(Nat.le_of_ble_eq_true rfl), (Nat.le_of_ble_eq_true rfl)⟩) hS (fun r_84 H_84 locs hp hS => ?_)
                obtain ⟨rfl, rfl⟩ := hp
                have hv_84_4 : -1 ≤ byT (onw X d) X q j (q + 1 + 2) (j + 1) ∧ byT (onw X d) X q j (q + 1 + 2) (j + 1) ≤ 36000 := by
                  have := byT_rng hX1 (T := onw X d) (q := q) (j := j) (q2 := q + 1 + 2) (j2 := j + 1) (fun _ => onw_rng hX1 d _ _) (by omega) (by omega) (by omega)
                  omega
                refine g_goi (vx_runS (As := [.int (zI a_4), .int (zI (byT (onw X d) X q j (q + 1 + 2) (j + 1)))]) (rest := []) ⟨hx, hb, hml, hown, hts⟩ (k_cheaper l G H a_4 (byT (onw X d) X q j (q + 1 + 2) (j + 1)) (by omega) (by omega)) (va_cwS 2 hts gX1_cheapestOnward_X1_cheaper rfl rfl rfl hd_X1_cheaper.2 ⟨(by dsimp only [rmOn, rmOB, rm_X1_cheaper]; omega), (by dsimp only [rmOn, rmOB, rm_X1_cheaper]; omega)⟩) (g_pre hX hS) rfl rfl hl.1 rfl (lv_room (Nat.le_of_ble_eq_true rfl)) dX1_cheapestOnward_87 ⟨(Nat.le_of_ble_eq_true rfl), (Nat.le_of_ble_eq_true rfl)⟩) hS (fun r_87 H_87 locs hp hS => ?_)
                obtain ⟨rfl, rfl⟩ := hp
                obtain ⟨a_5, ea_5⟩ : ∃ y : Int, y = chp a_4 (byT (onw X d) X q j (q + 1 + 2) (j + 1)) := ⟨_, rfl⟩
                rw [← ea_5]
                have ha_5 : -1 ≤ a_5 ∧ a_5 ≤ 36000 := by rw [ea_5]; exact chp_rng (by omega) (by omega)
                refine lv_istore (lv' := [(5, .int (zI a_5)), (6, .int (zI 2)), (0, .ref mt), (1, .ref (t 0)), (2, .int (zI zq)), (3, .int (zI zj)), (4, .int (zI zl))]) hx hb dX1_cheapestOnward_90 hl (by decide) rfl (fun ls hl => ?_)
                refine lv_iinc (v := zI 3) (lv' := [(6, .int (zI 3)), (5, .int (zI a_5)), (0, .ref mt), (1, .ref (t 0)), (2, .int (zI zq)), (3, .int (zI zj)), (4, .int (zI zl))]) hx hb dX1_cheapestOnward_92 hl (k := 1) rfl (by decide +kernel) (by decide) rfl (fun ls hl => ?_)
                refine lv_goto (tgt := 61) hx hb dX1_cheapestOnward_95 (by decide) ?_
                refine lv_iload hx hb dX1_cheapestOnward_61 (lv_at hl 0 rfl) ?_
                refine lv_iconst (v := zI 2) hx hb dX1_cheapestOnward_63 rfl ?_
                refine gz_icmp_gt (tgt := 98) hx hb (by decide) (by decide) dX1_cheapestOnward_64 (by decide) (fun c_64 => ?_) (fun c_64 => ?_)
                · refine lv_iload hx hb dX1_cheapestOnward_98 (lv_at hl 1 rfl) ?_
                  have hfin : a_5 = onw X (d + 1) q j := by
                    rw [onw]
                    first
                    | (rw [if_pos (by omega)])
                    | (rw [if_neg (by omega), ← ea_1, ← ea_2, ← ea_3, ← ea_4, ← ea_5])
                  exact g_reti hx hb hr hlocks hS rfl (⟨by rw [hfin], rfl⟩) (Nat.le_of_ble_eq_true rfl) (Nat.le_of_ble_eq_true rfl) dX1_cheapestOnward_100
                · omega
          · omega
  · refine lv_iconst (v := zI 0) hx hb dX1_cheapestOnward_13 rfl ?_
    have hfin : 0 = onw X (d + 1) q j := by
      rw [onw]
      first
      | (rw [if_pos (by omega)])
      | (rw [if_neg (by omega), ← ea_1, ← ea_2, ← ea_3, ← ea_4, ← ea_5])
    exact g_reti hx hb hr hlocks hS rfl (⟨by rw [hfin], rfl⟩) (Nat.le_of_ble_eq_true rfl) (Nat.le_of_ble_eq_true rfl) dX1_cheapestOnward_14
theorem on_all (l : Launch) (G : gG) (mt ra rb ta : Nat) (X : cX) (tb : Nat → Int32) (H : Heap) (hM : Mat G mt ra rb ta X tb H) (hX1 : xOK X) (t : Nat → Nat) (rr : Bool) (hT : Tun G t (xn X) (xf X) (xg X) rr H) (h8 : xh X ≤ 8) : ∀ d, OnC l G mt ra rb ta X tb H t rr d
  | 0 => fun zq zj zl q j hq hj hqh hjn hd hl0 hlq => absurd hd (by omega)
  | d + 1 => fun zq zj zl q j hq hj hqh hjn hd hl0 hlq =>
    k_cheapestOnward l G mt ra rb ta X tb H hM hX1 t rr hT h8 d (fun zq zj zq2 zj2 zl q j q2 j2 a1 a2 a3 a4 a5 a6 a7 a8 a9 a10 a11 a12 a13 => k_costOnwardBy l G mt ra rb ta X tb H hM hX1 t rr hT h8 d (on_all l G mt ra rb ta X tb H hM hX1 t rr hT h8 d) zq zj zq2 zj2 zl q j q2 j2 a1 a2 a3 a4 a5 a6 a7 a8 a9 a10 a11 a12 a13) zq zj zl q j hq hj hqh hjn hd hl0 hlq
def tryI (X : cX) : Int := if xh X = 0 then -1 else onw X (xh X) 0 0
set_option maxHeartbeats 4000000 in
set_option maxRecDepth 100000 in
theorem k_cheapestByTrying (l : Launch) (G : gG) (mt ra rb ta : Nat) (X : cX) (tb : Nat → Int32) (H : Heap) (hM : Mat G mt ra rb ta X tb H) (hX1 : xOK X) (t : Nat → Nat) (rr : Bool) (hT : Tun G t (xn X) (xf X) (xg X) rr H) (h8 : xh X ≤ 8) (hn1 : 1 ≤ xn X) : gM l yX1_cheapestByTrying wsX1_cheapestByTrying rm_X1_cheapestByTrying [.ref mt, .ref (t 0)] G H (gi (fun r H1 => zI (tryI X) = r ∧ H = H1)) (gNo) 0 0 := by
  obtain ⟨hm, hhr, hta, gta, na1, na2, na3⟩ := id hM
  obtain ⟨hxn, hxf, hxg, hxh, hxhf, hxsl, hxor, hxrp⟩ := id hX1
  obtain ⟨ht, hp1, hl1, gt, htd⟩ := id hT
  refine g_start (cc := cX1_cheapestByTrying) (maxL := 2) (ret := (some .int)) (by decide +kernel) rfl (Nat.le_of_ble_eq_true rfl) ?_
  intro p e s m args below meth c F ls hl
  obtain ⟨hx, hb, hml, hr, hts, hown, hlocks, hxt, hH, hX, hin⟩ := F
  have hown : s.vm.findClass RX1 = some m.cls := hown
  have hS : va_S (gA G) s.heap H [] := by rw [hH]; exact va_S.rf
  have hl : lv_has ls 2 [(0, .ref mt), (1, .ref (t 0))] := hl
  refine lv_aload_n hx hb dX1_cheapestByTrying_0 rfl (lv_at hl 0 rfl) ?_
  refine g_get hx hb hX hts (fun w h => (List.mem_cons_of_mem _ (List.mem_append_left _ (List.mem_append_left _ (List.mem_append_right _ h))))) hown hm rfl 0 (by decide) (hts (.fieldLink RX1 14 "TuneCatalogue$Matching" "hum" "LTuneCatalogue$Row;") (List.mem_cons_of_mem _ (List.mem_append_left _ (List.mem_append_left _ (List.mem_append_left _ (List.mem_append_left _ (List.mem_of_getElem? (i := 0) rfl))))))) rfl dX1_cheapestByTrying_1 ?_
  refine g_goi (vx_runV (As := []) (rest := []) ⟨hx, hb, hml, hown, hts⟩ (k_size l G ra rb 12 (xh X) _ H hhr) (cwV 0 hts gX1_cheapestByTrying_X2_size rfl rfl rfl hd_X2_size ⟨(by dsimp only [rmOn, rm_X1_cheapestByTrying, rm_X2_size]; omega), (by dsimp only [rmOn, rm_X1_cheapestByTrying, rm_X2_size]; omega)⟩) (g_preV hX hS (ci := 2) rfl hhr.1) rfl rfl hl.1 rfl (lv_room (Nat.le_of_ble_eq_true rfl)) dX1_cheapestByTrying_4 ⟨(Nat.le_of_ble_eq_true rfl), (Nat.le_of_ble_eq_true rfl)⟩) hS (fun r_4 H_4 locs hp hS => ?_)
  obtain ⟨rfl, rfl⟩ := hp
  refine gz_if_ne (tgt := 14) hx hb ⟨by omega, by omega⟩ dX1_cheapestByTrying_7 (by decide) (fun c_7 => ?_) (fun c_7 => ?_)
  · refine lv_aload_n hx hb dX1_cheapestByTrying_14 rfl (lv_at hl 0 rfl) ?_
    refine lv_aload_n hx hb dX1_cheapestByTrying_15 rfl (lv_at hl 1 rfl) ?_
    refine lv_iconst (v := zI 0) hx hb dX1_cheapestByTrying_16 rfl ?_
    refine lv_iconst (v := zI 0) hx hb dX1_cheapestByTrying_17 rfl ?_
    refine lv_iconst (v := zI 1) hx hb dX1_cheapestByTrying_18 rfl ?_
    refine g_goi (vx_runV (As := [.ref (t 0), .int (zI 0), .int (zI 0), .int (zI 1)]) (rest := []) ⟨hx, hb, hml, hown, hts⟩ (on_all l G mt ra rb ta X tb H hM hX1 t rr hT h8 (xh X) 0 0 1 0 0 rfl rfl (by omega) (by omega) (by omega) (by omega) (by omega)) (cwV 4 hts gX1_cheapestByTrying_X1_cheapestOnward rfl rfl rfl hd_X1_cheapestOnward ⟨(by dsimp only [rmOn, rm_X1_cheapestByTrying]; omega), (by dsimp only [rmOn, rm_X1_cheapestByTrying]; omega)⟩) (g_preV hX hS (ci := 1) rfl hm) rfl rfl hl.1 rfl (lv_room (Nat.le_of_ble_eq_true rfl)) dX1_cheapestByTrying_19 ⟨(Nat.le_of_ble_eq_true rfl), (Nat.le_of_ble_eq_true rfl)⟩) hS (fun r_19 H_19 locs hp hS => ?_)
    obtain ⟨rfl, rfl⟩ := hp
    exact g_reti hx hb hr hlocks hS rfl (⟨by unfold tryI; first | (rw [if_pos (by omega)]; done) | (rw [if_neg (by omega)]; done), rfl⟩) (Nat.le_of_ble_eq_true rfl) (Nat.le_of_ble_eq_true rfl) dX1_cheapestByTrying_22
  · refine lv_iconst (v := zI (-1)) hx hb dX1_cheapestByTrying_10 rfl ?_
    refine lv_goto (tgt := 22) hx hb dX1_cheapestByTrying_11 (by decide) ?_
    exact g_reti hx hb hr hlocks hS rfl (⟨by unfold tryI; first | (rw [if_pos (by omega)]; done) | (rw [if_neg (by omega)]; done), rfl⟩) (Nat.le_of_ble_eq_true rfl) (Nat.le_of_ble_eq_true rfl) dX1_cheapestByTrying_22
