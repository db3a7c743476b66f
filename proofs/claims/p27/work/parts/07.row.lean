/-! ===== TuneCatalogue.Row: a row of numbers in a room that does not grow ===== -/
def gRow (G : gG) (a b cap n : Nat) (f : Nat → Int32) (H : Heap) : Prop := gat G a (.inr (2, [.ref b, .int (zI n)])) H ∧ gat G b (.inl (gI G, cap, .inl f)) H ∧ n ≤ cap ∧ cap ≤ 384 ∧ gB G ≤ a ∧ gB G ≤ b ∧ a ≠ b
theorem gRow.ext {G : gG} {a b cap n : Nat} {f : Nat → Int32} {H H1 : Heap} (h : gRow G a b cap n f H) (x : gExt H H1) : gRow G a b cap n f H1 := ⟨h.1.ext x, h.2.1.ext x, h.2.2⟩
theorem gRow.only {G : gG} {a b cap n : Nat} {f : Nat → Int32} {L : List Nat} {H H1 : Heap} (h : gRow G a b cap n f H) (x : gOnly L H H1) (n1 : a ∉ L) (n2 : b ∉ L) : gRow G a b cap n f H1 := ⟨h.1.only x n1, h.2.1.only x n2, h.2.2⟩
/-- how many steps are the same from i of f and from j of g on, of at most L -/
def cmn (f g : Nat → Int32) : Nat → Nat → Nat → Nat
  | _, _, 0 => 0
  | i, j, L + 1 => if f (i + 1) - f i = g (j + 1) - g j then cmn f g (i + 1) (j + 1) L + 1 else 0
def dirI (x : Int32) : Int := if 0 < x then 1 else if x < 0 then -1 else 0
theorem dirI_rng (x : Int32) : -1 ≤ dirI x ∧ dirI x ≤ 1 := by unfold dirI; split <;> (try split) <;> omega
set_option maxHeartbeats 4000000 in
set_option maxRecDepth 100000 in
theorem k_size (l : Launch) (G : gG) (a b cap n : Nat) (f : Nat → Int32) (H : Heap) (hR : gRow G a b cap n f H) : gM l yX2_size wsX2_size rm_X2_size [.ref a] G H (gi (fun r H1 => zI n = r ∧ H = H1)) (gNo) 0 0 := by
  obtain ⟨ho, hq, hn, hc, ga, gb, hab⟩ := hR
  refine g_start (cc := cX2_size) (maxL := 1) (ret := (some .int)) (by decide +kernel) rfl (Nat.le_of_ble_eq_true rfl) ?_
  intro p e s m args below meth c F ls hl
  obtain ⟨hx, hb, hml, hr, hts, hown, hlocks, hxt, hH, hX, hin⟩ := F
  have hown : s.vm.findClass RX2 = some m.cls := hown
  have hS : va_S (gA G) s.heap H [] := by rw [hH]; exact va_S.rf
  have hl : lv_has ls 1 [(0, .ref a)] := hl
  refine lv_aload_n hx hb dX2_size_0 rfl (lv_at hl 0 rfl) ?_
  refine g_get hx hb hX hts (fun w h => (List.mem_cons_of_mem _ (List.mem_append_right _ h))) hown ho rfl 1 (by decide) (hts (.fieldLink RX2 19 "TuneCatalogue$Row" "size" "I") (List.mem_cons_of_mem _ (List.mem_append_left _ (List.mem_of_getElem? (i := 0) rfl)))) rfl dX2_size_1 ?_
  exact g_reti hx hb hr hlocks hS rfl (⟨rfl, rfl⟩) (Nat.le_of_ble_eq_true rfl) (Nat.le_of_ble_eq_true rfl) dX2_size_4
set_option maxHeartbeats 4000000 in
set_option maxRecDepth 100000 in
theorem k_isFull (l : Launch) (G : gG) (a b cap n : Nat) (f : Nat → Int32) (H : Heap) (hR : gRow G a b cap n f H) : gM l yX2_isFull wsX2_isFull rm_X2_isFull [.ref a] G H (gi (fun r H1 => (if cap ≤ n then (1 : Int32) else 0) = r ∧ H = H1)) (gNo) 0 0 := by
  obtain ⟨ho, hq, hn, hc, ga, gb, hab⟩ := hR
  refine g_start (cc := cX2_isFull) (maxL := 1) (ret := (some .boolean)) (by decide +kernel) rfl (Nat.le_of_ble_eq_true rfl) ?_
  intro p e s m args below meth c F ls hl
  obtain ⟨hx, hb, hml, hr, hts, hown, hlocks, hxt, hH, hX, hin⟩ := F
  have hown : s.vm.findClass RX2 = some m.cls := hown
  have hS : va_S (gA G) s.heap H [] := by rw [hH]; exact va_S.rf
  have hl : lv_has ls 1 [(0, .ref a)] := hl
  refine lv_aload_n hx hb dX2_isFull_0 rfl (lv_at hl 0 rfl) ?_
  refine g_get hx hb hX hts (fun w h => (List.mem_cons_of_mem _ (List.mem_append_right _ h))) hown ho rfl 1 (by decide) (hts (.fieldLink RX2 19 "TuneCatalogue$Row" "size" "I") (List.mem_cons_of_mem _ (List.mem_append_left _ (List.mem_of_getElem? (i := 0) rfl)))) rfl dX2_isFull_1 ?_
  refine lv_aload_n hx hb dX2_isFull_4 rfl (lv_at hl 0 rfl) ?_
  refine g_get hx hb hX hts (fun w h => (List.mem_cons_of_mem _ (List.mem_append_right _ h))) hown ho rfl 0 (by decide) (hts (.fieldLink RX2 13 "TuneCatalogue$Row" "numbers" "[I") (List.mem_cons_of_mem _ (List.mem_append_left _ (List.mem_of_getElem? (i := 1) rfl)))) rfl dX2_isFull_5 ?_
  refine gz_alenI hx hb hX hq dX2_isFull_8 ?_
  refine gz_icmp_lt (tgt := 16) hx hb ⟨by omega, by omega⟩ ⟨by omega, by omega⟩ dX2_isFull_9 (by decide) (fun c_9 => ?_) (fun c_9 => ?_)
  · refine lv_iconst (v := zI 0) hx hb dX2_isFull_16 rfl ?_
    exact g_reti hx hb hr hlocks hS rfl (⟨by first | (rw [if_pos (by omega)]; rfl) | (rw [if_neg (by omega)]; rfl), rfl⟩) (Nat.le_of_ble_eq_true rfl) (Nat.le_of_ble_eq_true rfl) dX2_isFull_17
  · refine lv_iconst (v := zI 1) hx hb dX2_isFull_12 rfl ?_
    refine lv_goto (tgt := 17) hx hb dX2_isFull_13 (by decide) ?_
    exact g_reti hx hb hr hlocks hS rfl (⟨by first | (rw [if_pos (by omega)]; rfl) | (rw [if_neg (by omega)]; rfl), rfl⟩) (Nat.le_of_ble_eq_true rfl) (Nat.le_of_ble_eq_true rfl) dX2_isFull_17
set_option maxHeartbeats 4000000 in
set_option maxRecDepth 100000 in
theorem k_at (l : Launch) (G : gG) (a b cap n : Nat) (f : Nat → Int32) (H : Heap) (hR : gRow G a b cap n f H) (z : Int) (k : Nat) (hz : z = k) (hk : k < n) : gM l yX2_at wsX2_at rm_X2_at [.ref a, .int (zI z)] G H (gi (fun r H1 => f k = r ∧ H = H1)) (gNo) 0 0 := by
  obtain ⟨ho, hq, hn, hc, ga, gb, hab⟩ := hR
  refine g_start (cc := cX2_at) (maxL := 2) (ret := (some .int)) (by decide +kernel) rfl (Nat.le_of_ble_eq_true rfl) ?_
  intro p e s m args below meth c F ls hl
  obtain ⟨hx, hb, hml, hr, hts, hown, hlocks, hxt, hH, hX, hin⟩ := F
  have hown : s.vm.findClass RX2 = some m.cls := hown
  have hS : va_S (gA G) s.heap H [] := by rw [hH]; exact va_S.rf
  have hl : lv_has ls 2 [(0, .ref a), (1, .int (zI z))] := hl
  refine lv_iload_n hx hb dX2_at_0 rfl (lv_at hl 1 rfl) ?_
  refine gz_if_lt (tgt := 30) hx hb ⟨by omega, by omega⟩ dX2_at_1 (by decide) (fun c_1 => ?_) (fun c_1 => ?_)
  · omega
  · refine lv_iload_n hx hb dX2_at_4 rfl (lv_at hl 1 rfl) ?_
    refine lv_aload_n hx hb dX2_at_5 rfl (lv_at hl 0 rfl) ?_
    refine g_get hx hb hX hts (fun w h => (List.mem_cons_of_mem _ (List.mem_append_right _ h))) hown ho rfl 1 (by decide) (hts (.fieldLink RX2 19 "TuneCatalogue$Row" "size" "I") (List.mem_cons_of_mem _ (List.mem_append_left _ (List.mem_of_getElem? (i := 0) rfl)))) rfl dX2_at_6 ?_
    refine gz_icmp_ge (tgt := 30) hx hb ⟨by omega, by omega⟩ ⟨by omega, by omega⟩ dX2_at_9 (by decide) (fun c_9 => ?_) (fun c_9 => ?_)
    · omega
    · refine lv_iload_n hx hb dX2_at_12 rfl (lv_at hl 1 rfl) ?_
      refine lv_aload_n hx hb dX2_at_13 rfl (lv_at hl 0 rfl) ?_
      refine g_get hx hb hX hts (fun w h => (List.mem_cons_of_mem _ (List.mem_append_right _ h))) hown ho rfl 0 (by decide) (hts (.fieldLink RX2 13 "TuneCatalogue$Row" "numbers" "[I") (List.mem_cons_of_mem _ (List.mem_append_left _ (List.mem_of_getElem? (i := 1) rfl)))) rfl dX2_at_14 ?_
      refine gz_alenI hx hb hX hq dX2_at_17 ?_
      refine gz_icmp_ge (tgt := 30) hx hb ⟨by omega, by omega⟩ ⟨by omega, by omega⟩ dX2_at_18 (by decide) (fun c_18 => ?_) (fun c_18 => ?_)
      · omega
      · refine lv_aload_n hx hb dX2_at_21 rfl (lv_at hl 0 rfl) ?_
        refine g_get hx hb hX hts (fun w h => (List.mem_cons_of_mem _ (List.mem_append_right _ h))) hown ho rfl 0 (by decide) (hts (.fieldLink RX2 13 "TuneCatalogue$Row" "numbers" "[I") (List.mem_cons_of_mem _ (List.mem_append_left _ (List.mem_of_getElem? (i := 1) rfl)))) rfl dX2_at_22 ?_
        refine lv_iload_n hx hb dX2_at_25 rfl (lv_at hl 1 rfl) ?_
        refine gz_iald hx hb hX hq k (by omega) (by omega) (by omega) dX2_at_26 ?_
        refine lv_goto (tgt := 31) hx hb dX2_at_27 (by decide) ?_
        exact g_reti hx hb hr hlocks hS rfl (⟨rfl, rfl⟩) (Nat.le_of_ble_eq_true rfl) (Nat.le_of_ble_eq_true rfl) dX2_at_31
set_option maxHeartbeats 4000000 in
set_option maxRecDepth 100000 in
theorem k_put (l : Launch) (G : gG) (a b cap n : Nat) (f : Nat → Int32) (H : Heap) (hR : gRow G a b cap n f H) (z : Int) (k : Nat) (x : Int32) (hz : z = k) (hk : k < n) : gM l yX2_put wsX2_put rm_X2_put [.ref a, .int (zI z), .int x] G H (gv (fun H1 => gRow G a b cap n (upd f k x) H1 ∧ gOnly [b] H H1)) (gNo) 0 0 := by
  obtain ⟨ho, hq, hn, hc, ga, gb, hab⟩ := hR
  refine g_start (cc := cX2_put) (maxL := 3) (ret := none) (by decide +kernel) rfl (Nat.le_of_ble_eq_true rfl) ?_
  intro p e s m args below meth c F ls hl
  obtain ⟨hx, hb, hml, hr, hts, hown, hlocks, hxt, hH, hX, hin⟩ := F
  have hown : s.vm.findClass RX2 = some m.cls := hown
  have hS : va_S (gA G) s.heap H [] := by rw [hH]; exact va_S.rf
  have hl : lv_has ls 3 [(0, .ref a), (1, .int (zI z)), (2, .int x)] := hl
  refine lv_iload_n hx hb dX2_put_0 rfl (lv_at hl 1 rfl) ?_
  refine gz_if_lt (tgt := 28) hx hb ⟨by omega, by omega⟩ dX2_put_1 (by decide) (fun c_1 => ?_) (fun c_1 => ?_)
  · omega
  · refine lv_iload_n hx hb dX2_put_4 rfl (lv_at hl 1 rfl) ?_
    refine lv_aload_n hx hb dX2_put_5 rfl (lv_at hl 0 rfl) ?_
    refine g_get hx hb hX hts (fun w h => (List.mem_cons_of_mem _ (List.mem_append_right _ h))) hown ho rfl 1 (by decide) (hts (.fieldLink RX2 19 "TuneCatalogue$Row" "size" "I") (List.mem_cons_of_mem _ (List.mem_append_left _ (List.mem_of_getElem? (i := 0) rfl)))) rfl dX2_put_6 ?_
    refine gz_icmp_ge (tgt := 28) hx hb ⟨by omega, by omega⟩ ⟨by omega, by omega⟩ dX2_put_9 (by decide) (fun c_9 => ?_) (fun c_9 => ?_)
    · omega
    · refine lv_iload_n hx hb dX2_put_12 rfl (lv_at hl 1 rfl) ?_
      refine lv_aload_n hx hb dX2_put_13 rfl (lv_at hl 0 rfl) ?_
      refine g_get hx hb hX hts (fun w h => (List.mem_cons_of_mem _ (List.mem_append_right _ h))) hown ho rfl 0 (by decide) (hts (.fieldLink RX2 13 "TuneCatalogue$Row" "numbers" "[I") (List.mem_cons_of_mem _ (List.mem_append_left _ (List.mem_of_getElem? (i := 1) rfl)))) rfl dX2_put_14 ?_
      refine gz_alenI hx hb hX hq dX2_put_17 ?_
      refine gz_icmp_ge (tgt := 28) hx hb ⟨by omega, by omega⟩ ⟨by omega, by omega⟩ dX2_put_18 (by decide) (fun c_18 => ?_) (fun c_18 => ?_)
      · omega
      · refine lv_aload_n hx hb dX2_put_21 rfl (lv_at hl 0 rfl) ?_
        refine g_get hx hb hX hts (fun w h => (List.mem_cons_of_mem _ (List.mem_append_right _ h))) hown ho rfl 0 (by decide) (hts (.fieldLink RX2 13 "TuneCatalogue$Row" "numbers" "[I") (List.mem_cons_of_mem _ (List.mem_append_left _ (List.mem_of_getElem? (i := 1) rfl)))) rfl dX2_put_22 ?_
        refine lv_iload_n hx hb dX2_put_25 rfl (lv_at hl 1 rfl) ?_
        refine lv_iload_n hx hb dX2_put_26 rfl (lv_at hl 2 rfl) ?_
        refine gz_iast hx hb hX hS hq gb k (by omega) (by omega) (by omega) dX2_put_27 (fun H_27 locs h_n hO hS => ?_)
        have ho := gat.only1 ho hO hab
        have hq : gat G b (.inl (gI G, cap, .inl (upd f k x))) H_27 := h_n
        exact g_retv hx hb hr hlocks hS (⟨⟨ho, hq, hn, hc, ga, gb, hab⟩, hO⟩) (Nat.le_of_ble_eq_true rfl) (Nat.le_of_ble_eq_true rfl) dX2_put_28
set_option maxHeartbeats 4000000 in
set_option maxRecDepth 100000 in
theorem k_append (l : Launch) (G : gG) (a b cap n : Nat) (f : Nat → Int32) (H : Heap) (hR : gRow G a b cap n f H) (x : Int32) (hk : n < cap) : gM l yX2_append wsX2_append rm_X2_append [.ref a, .int x] G H (gv (fun H1 => gRow G a b cap (n + 1) (upd f n x) H1 ∧ gOnly [a, b] H H1)) (gNo) 0 0 := by
  obtain ⟨ho, hq, hn, hc, ga, gb, hab⟩ := hR
  refine g_start (cc := cX2_append) (maxL := 2) (ret := none) (by decide +kernel) rfl (Nat.le_of_ble_eq_true rfl) ?_
  intro p e s m args below meth c F ls hl
  obtain ⟨hx, hb, hml, hr, hts, hown, hlocks, hxt, hH, hX, hin⟩ := F
  have hown : s.vm.findClass RX2 = some m.cls := hown
  have hS : va_S (gA G) s.heap H [] := by rw [hH]; exact va_S.rf
  have hl : lv_has ls 2 [(0, .ref a), (1, .int x)] := hl
  refine lv_aload_n hx hb dX2_append_0 rfl (lv_at hl 0 rfl) ?_
  refine g_get hx hb hX hts (fun w h => (List.mem_cons_of_mem _ (List.mem_append_right _ h))) hown ho rfl 1 (by decide) (hts (.fieldLink RX2 19 "TuneCatalogue$Row" "size" "I") (List.mem_cons_of_mem _ (List.mem_append_left _ (List.mem_of_getElem? (i := 0) rfl)))) rfl dX2_append_1 ?_
  refine gz_if_lt (tgt := 39) hx hb ⟨by omega, by omega⟩ dX2_append_4 (by decide) (fun c_4 => ?_) (fun c_4 => ?_)
  · omega
  · refine lv_aload_n hx hb dX2_append_7 rfl (lv_at hl 0 rfl) ?_
    refine g_get hx hb hX hts (fun w h => (List.mem_cons_of_mem _ (List.mem_append_right _ h))) hown ho rfl 1 (by decide) (hts (.fieldLink RX2 19 "TuneCatalogue$Row" "size" "I") (List.mem_cons_of_mem _ (List.mem_append_left _ (List.mem_of_getElem? (i := 0) rfl)))) rfl dX2_append_8 ?_
    refine lv_aload_n hx hb dX2_append_11 rfl (lv_at hl 0 rfl) ?_
    refine g_get hx hb hX hts (fun w h => (List.mem_cons_of_mem _ (List.mem_append_right _ h))) hown ho rfl 0 (by decide) (hts (.fieldLink RX2 13 "TuneCatalogue$Row" "numbers" "[I") (List.mem_cons_of_mem _ (List.mem_append_left _ (List.mem_of_getElem? (i := 1) rfl)))) rfl dX2_append_12 ?_
    refine gz_alenI hx hb hX hq dX2_append_15 ?_
    refine gz_icmp_ge (tgt := 39) hx hb ⟨by omega, by omega⟩ ⟨by omega, by omega⟩ dX2_append_16 (by decide) (fun c_16 => ?_) (fun c_16 => ?_)
    · omega
    · refine lv_aload_n hx hb dX2_append_19 rfl (lv_at hl 0 rfl) ?_
      refine g_get hx hb hX hts (fun w h => (List.mem_cons_of_mem _ (List.mem_append_right _ h))) hown ho rfl 0 (by decide) (hts (.fieldLink RX2 13 "TuneCatalogue$Row" "numbers" "[I") (List.mem_cons_of_mem _ (List.mem_append_left _ (List.mem_of_getElem? (i := 1) rfl)))) rfl dX2_append_20 ?_
      refine lv_aload_n hx hb dX2_append_23 rfl (lv_at hl 0 rfl) ?_
      refine g_get hx hb hX hts (fun w h => (List.mem_cons_of_mem _ (List.mem_append_right _ h))) hown ho rfl 1 (by decide) (hts (.fieldLink RX2 19 "TuneCatalogue$Row" "size" "I") (List.mem_cons_of_mem _ (List.mem_append_left _ (List.mem_of_getElem? (i := 0) rfl)))) rfl dX2_append_24 ?_
      refine lv_iload_n hx hb dX2_append_27 rfl (lv_at hl 1 rfl) ?_
      refine gz_iast hx hb hX hS hq gb n rfl (by omega) (by omega) dX2_append_28 (fun H_28 locs h_n hO hS => ?_)
      have ho := gat.only1 ho hO hab
      have hq : gat G b (.inl (gI G, cap, .inl (upd f n x))) H_28 := h_n
      have hO1 := hO
      refine lv_aload_n hx hb dX2_append_29 rfl (lv_at hl 0 rfl) ?_
      refine lv_dup hx hb dX2_append_30 rfl ?_
      refine g_get hx hb hX hts (fun w h => (List.mem_cons_of_mem _ (List.mem_append_right _ h))) hown ho rfl 1 (by decide) (hts (.fieldLink RX2 19 "TuneCatalogue$Row" "size" "I") (List.mem_cons_of_mem _ (List.mem_append_left _ (List.mem_of_getElem? (i := 0) rfl)))) rfl dX2_append_31 ?_
      refine lv_iconst (v := zI 1) hx hb dX2_append_34 rfl ?_
      refine gz_iadd hx hb dX2_append_35 ?_
      refine g_put hx hb hX hts (fun w h => (List.mem_cons_of_mem _ (List.mem_append_right _ h))) tyX2 tyX2_ok nmX2 hown hS ho ga rfl 1 (by decide) (hts (.fieldLink RX2 19 "TuneCatalogue$Row" "size" "I") (List.mem_cons_of_mem _ (List.mem_append_left _ (List.mem_of_getElem? (i := 0) rfl)))) rfl (ty := tyX2 1) rfl rfl rfl (Nat.le_of_ble_eq_true rfl) dX2_append_36 (fun H_36 locs h_n hO hS => ?_)
      have hq := gat.only1 hq hO hab.symm
      have ho : gat G a (.inr (2, [.ref b, .int (zI ((n : Int) + 1))])) H_36 := h_n
      exact g_retv hx hb hr hlocks hS (⟨⟨ho, hq, by omega, hc, ga, gb, hab⟩, hO.1.trans hO1.1, fun q hq2 => by
          simp only [List.mem_cons, List.not_mem_nil, or_false, not_or] at hq2
          exact (hO.2 q (by simp [hq2.1])).trans (hO1.2 q (by simp [hq2.2]))⟩) (Nat.le_of_ble_eq_true rfl) (Nat.le_of_ble_eq_true rfl) dX2_append_39
set_option maxHeartbeats 4000000 in
set_option maxRecDepth 100000 in
theorem k_clear (l : Launch) (G : gG) (a b cap n : Nat) (f : Nat → Int32) (H : Heap) (hR : gRow G a b cap n f H) : gM l yX2_clear wsX2_clear rm_X2_clear [.ref a] G H (gv (fun H1 => gRow G a b cap 0 f H1 ∧ gOnly [a] H H1)) (gNo) 0 0 := by
  obtain ⟨ho, hq, hn, hc, ga, gb, hab⟩ := hR
  refine g_start (cc := cX2_clear) (maxL := 1) (ret := none) (by decide +kernel) rfl (Nat.le_of_ble_eq_true rfl) ?_
  intro p e s m args below meth c F ls hl
  obtain ⟨hx, hb, hml, hr, hts, hown, hlocks, hxt, hH, hX, hin⟩ := F
  have hown : s.vm.findClass RX2 = some m.cls := hown
  have hS : va_S (gA G) s.heap H [] := by rw [hH]; exact va_S.rf
  have hl : lv_has ls 1 [(0, .ref a)] := hl
  refine lv_aload_n hx hb dX2_clear_0 rfl (lv_at hl 0 rfl) ?_
  refine lv_iconst (v := zI 0) hx hb dX2_clear_1 rfl ?_
  refine g_put hx hb hX hts (fun w h => (List.mem_cons_of_mem _ (List.mem_append_right _ h))) tyX2 tyX2_ok nmX2 hown hS ho ga rfl 1 (by decide) (hts (.fieldLink RX2 19 "TuneCatalogue$Row" "size" "I") (List.mem_cons_of_mem _ (List.mem_append_left _ (List.mem_of_getElem? (i := 0) rfl)))) rfl (ty := tyX2 1) rfl rfl rfl (Nat.le_of_ble_eq_true rfl) dX2_clear_2 (fun H_2 locs h_n hO hS => ?_)
  have hq := gat.only1 hq hO hab.symm
  have ho : gat G a (.inr (2, [.ref b, .int (zI 0)])) H_2 := h_n
  exact g_retv hx hb hr hlocks hS (⟨⟨ho, hq, by omega, hc, ga, gb, hab⟩, hO⟩) (Nat.le_of_ble_eq_true rfl) (Nat.le_of_ble_eq_true rfl) dX2_clear_5
set_option maxHeartbeats 4000000 in
set_option maxRecDepth 100000 in
theorem k_stepFrom (l : Launch) (G : gG) (a b cap n : Nat) (f : Nat → Int32) (H : Heap) (hR : gRow G a b cap n f H) (z : Int) (k : Nat) (hz : z = k) (hk : k + 1 < n) : gM l yX2_stepFrom wsX2_stepFrom rm_X2_stepFrom [.ref a, .int (zI z)] G H (gi (fun r H1 => f (k + 1) - f k = r ∧ H = H1)) (gNo) 0 0 := by
  obtain ⟨ho, hq, hn, hc, ga, gb, hab⟩ := hR
  refine g_start (cc := cX2_stepFrom) (maxL := 2) (ret := (some .int)) (by decide +kernel) rfl (Nat.le_of_ble_eq_true rfl) ?_
  intro p e s m args below meth c F ls hl
  obtain ⟨hx, hb, hml, hr, hts, hown, hlocks, hxt, hH, hX, hin⟩ := F
  have hown : s.vm.findClass RX2 = some m.cls := hown
  have hS : va_S (gA G) s.heap H [] := by rw [hH]; exact va_S.rf
  have hl : lv_has ls 2 [(0, .ref a), (1, .int (zI z))] := hl
  refine lv_aload_n hx hb dX2_stepFrom_0 rfl (lv_at hl 0 rfl) ?_
  refine lv_iload_n hx hb dX2_stepFrom_1 rfl (lv_at hl 1 rfl) ?_
  refine lv_iconst (v := zI 1) hx hb dX2_stepFrom_2 rfl ?_
  refine gz_iadd hx hb dX2_stepFrom_3 ?_
  refine g_goi (vx_runV (As := [.int (zI (z + 1))]) (rest := []) ⟨hx, hb, hml, hown, hts⟩ (k_at l G a b cap n f H ⟨ho, hq, hn, hc, ga, gb, hab⟩ (z + 1) (k + 1) (by omega) (by omega)) (cwV 1 hts gX2_stepFrom_X2_at rfl rfl rfl hd_X2_at ⟨(Nat.le_of_ble_eq_true rfl), (Nat.le_of_ble_eq_true rfl)⟩) (g_preV hX hS (ci := 2) rfl ho) rfl rfl hl.1 rfl (lv_room (Nat.le_of_ble_eq_true rfl)) dX2_stepFrom_4 ⟨(Nat.le_of_ble_eq_true rfl), (Nat.le_of_ble_eq_true rfl)⟩) hS (fun r_4 H_4 locs hp hS => ?_)
  obtain ⟨rfl, rfl⟩ := hp
  refine lv_aload_n hx hb dX2_stepFrom_7 rfl (lv_at hl 0 rfl) ?_
  refine lv_iload_n hx hb dX2_stepFrom_8 rfl (lv_at hl 1 rfl) ?_
  refine g_goi (vx_runV (As := [.int (zI z)]) (rest := [.int (f (k + 1))]) ⟨hx, hb, hml, hown, hts⟩ (k_at l G a b cap n f H ⟨ho, hq, hn, hc, ga, gb, hab⟩ z k (by omega) (by omega)) (cwV 1 hts gX2_stepFrom_X2_at rfl rfl rfl hd_X2_at ⟨(Nat.le_of_ble_eq_true rfl), (Nat.le_of_ble_eq_true rfl)⟩) (g_preV hX hS (ci := 2) rfl ho) rfl rfl hl.1 rfl (lv_room (Nat.le_of_ble_eq_true rfl)) dX2_stepFrom_9 ⟨(Nat.le_of_ble_eq_true rfl), (Nat.le_of_ble_eq_true rfl)⟩) hS (fun r_9 H_9 locs hp hS => ?_)
  obtain ⟨rfl, rfl⟩ := hp
  refine lv_isub hx hb dX2_stepFrom_12 ?_
  exact g_reti hx hb hr hlocks hS rfl (⟨rfl, rfl⟩) (Nat.le_of_ble_eq_true rfl) (Nat.le_of_ble_eq_true rfl) dX2_stepFrom_13
set_option maxHeartbeats 4000000 in
set_option maxRecDepth 100000 in
theorem k_direction (l : Launch) (G : gG) (H : Heap) (x : Int32) : gM l yX2_direction wsX2_direction rm_X2_direction [.int x] G H (gi (fun r H1 => zI (dirI x) = r ∧ H = H1)) (gNo) 0 0 := by
  refine g_start (cc := cX2_direction) (maxL := 1) (ret := (some .int)) (by decide +kernel) rfl (Nat.le_of_ble_eq_true rfl) ?_
  intro p e s m args below meth c F ls hl
  obtain ⟨hx, hb, hml, hr, hts, hown, hlocks, hxt, hH, hX, hin⟩ := F
  have hown : s.vm.findClass RX2 = some m.cls := hown
  have hS : va_S (gA G) s.heap H [] := by rw [hH]; exact va_S.rf
  have hl : lv_has ls 1 [(0, .int x)] := hl
  refine lv_iload_n hx hb dX2_direction_0 rfl (lv_at hl 0 rfl) ?_
  refine lv_if_le (tgt := 8) hx hb dX2_direction_1 (by decide) (fun c_1 => ?_) (fun c_1 => ?_)
  · refine lv_iload_n hx hb dX2_direction_8 rfl (lv_at hl 0 rfl) ?_
    refine lv_if_ge (tgt := 16) hx hb dX2_direction_9 (by decide) (fun c_9 => ?_) (fun c_9 => ?_)
    · refine lv_iconst (v := zI 0) hx hb dX2_direction_16 rfl ?_
      exact g_reti hx hb hr hlocks hS rfl (⟨by unfold dirI; first | (rw [if_pos (Int32.not_le.mp c_1)]) | (rw [if_neg (Int32.not_lt.mpr c_1)]; first | rw [if_pos (Int32.not_le.mp c_9)] | rw [if_neg (Int32.not_lt.mpr c_9)]), rfl⟩) (Nat.le_of_ble_eq_true rfl) (Nat.le_of_ble_eq_true rfl) dX2_direction_17
    · refine lv_iconst (v := zI (-1)) hx hb dX2_direction_12 rfl ?_
      refine lv_goto (tgt := 17) hx hb dX2_direction_13 (by decide) ?_
      exact g_reti hx hb hr hlocks hS rfl (⟨by unfold dirI; first | (rw [if_pos (Int32.not_le.mp c_1)]) | (rw [if_neg (Int32.not_lt.mpr c_1)]; first | rw [if_pos (Int32.not_le.mp c_9)] | rw [if_neg (Int32.not_lt.mpr c_9)]), rfl⟩) (Nat.le_of_ble_eq_true rfl) (Nat.le_of_ble_eq_true rfl) dX2_direction_17
  · refine lv_iconst (v := zI 1) hx hb dX2_direction_4 rfl ?_
    refine lv_goto (tgt := 17) hx hb dX2_direction_5 (by decide) ?_
    exact g_reti hx hb hr hlocks hS rfl (⟨by unfold dirI; first | (rw [if_pos (Int32.not_le.mp c_1)]) | (rw [if_neg (Int32.not_lt.mpr c_1)]; first | rw [if_pos (Int32.not_le.mp c_9)] | rw [if_neg (Int32.not_lt.mpr c_9)]), rfl⟩) (Nat.le_of_ble_eq_true rfl) (Nat.le_of_ble_eq_true rfl) dX2_direction_17
theorem cmn_le (f g : Nat → Int32) : ∀ (L i j : Nat), cmn f g i j L ≤ L
  | 0, _, _ => Nat.le_refl _
  | L + 1, i, j => by
    unfold cmn
    have := cmn_le f g L (i + 1) (j + 1)
    split <;> omega
set_option maxHeartbeats 4000000 in
set_option maxRecDepth 100000 in
theorem k_stepsInCommon (l : Launch) (G : gG) (a b cap n : Nat) (f : Nat → Int32) (H : Heap) (hR : gRow G a b cap n f H) (a2 b2 cap2 n2 : Nat) (f2 : Nat → Int32) (hR2 : gRow G a2 b2 cap2 n2 f2 H) (zi zj : Int) (i j : Nat) (hi : zi = i) (hj : zj = j) (hin0 : i < n) (hjn : j < n2) : gM l yX2_stepsInCommon wsX2_stepsInCommon rm_X2_stepsInCommon [.ref a, .int (zI zi), .ref a2, .int (zI zj)] G H (gi (fun r H1 => zI (cmn f f2 i j (Nat.min (n - i) (n2 - j) - 1) : Nat) = r ∧ H = H1)) (gNo) 0 0 := by
  have hR0 := hR
  have hR20 := hR2
  obtain ⟨ho, hq, hn, hc, ga, gb, hab⟩ := hR
  obtain ⟨ho2, hq2, hn2, hc2, ga2, gb2, hab2⟩ := hR2
  refine g_start (cc := cX2_stepsInCommon) (maxL := 6) (ret := (some .int)) (by decide +kernel) rfl (Nat.le_of_ble_eq_true rfl) ?_
  intro p e s m args below meth c F ls hl
  obtain ⟨hx, hb, hml, hr, hts, hown, hlocks, hxt, hH, hX, hin⟩ := F
  have hown : s.vm.findClass RX2 = some m.cls := hown
  have hS : va_S (gA G) s.heap H [] := by rw [hH]; exact va_S.rf
  have hl : lv_has ls 6 [(0, .ref a), (1, .int (zI zi)), (2, .ref a2), (3, .int (zI zj))] := hl
  refine lv_aload_n hx hb dX2_stepsInCommon_0 rfl (lv_at hl 0 rfl) ?_
  refine g_get hx hb hX hts (fun w h => (List.mem_cons_of_mem _ (List.mem_append_right _ h))) hown ho rfl 1 (by decide) (hts (.fieldLink RX2 19 "TuneCatalogue$Row" "size" "I") (List.mem_cons_of_mem _ (List.mem_append_left _ (List.mem_of_getElem? (i := 0) rfl)))) rfl dX2_stepsInCommon_1 ?_
  refine lv_iload_n hx hb dX2_stepsInCommon_4 rfl (lv_at hl 1 rfl) ?_
  refine gz_isub hx hb dX2_stepsInCommon_5 ?_
  refine lv_aload_n hx hb dX2_stepsInCommon_6 rfl (lv_at hl 2 rfl) ?_
  refine g_get hx hb hX hts (fun w h => (List.mem_cons_of_mem _ (List.mem_append_right _ h))) hown ho2 rfl 1 (by decide) (hts (.fieldLink RX2 19 "TuneCatalogue$Row" "size" "I") (List.mem_cons_of_mem _ (List.mem_append_left _ (List.mem_of_getElem? (i := 0) rfl)))) rfl dX2_stepsInCommon_7 ?_
  refine lv_iload_n hx hb dX2_stepsInCommon_10 rfl (lv_at hl 3 rfl) ?_
  refine gz_isub hx hb dX2_stepsInCommon_11 ?_
  refine gz_mmin hx hb (hml.trans hl.1.symm) hown (hts (.methodLink RX2 27 Lib.Math.min.name) (List.mem_cons_of_mem _ (List.mem_append_left _ (List.mem_of_getElem? (i := 1) rfl)))) (hts (.static Lib.Math.min.name) (List.mem_cons_of_mem _ (List.mem_append_left _ (List.mem_of_getElem? (i := 2) rfl)))) (hts (.initialized "java/lang/Math") (List.mem_cons_of_mem _ (List.mem_append_left _ (List.mem_of_getElem? (i := 3) rfl)))) (hts (.code Lib.Math.min.name Lib.Math.min.code 2 (some .int)) (List.mem_cons_of_mem _ (List.mem_append_left _ (List.mem_of_getElem? (i := 4) rfl)))) (Nat.le_of_ble_eq_true rfl) (Nat.le_of_ble_eq_true rfl) (Nat.le_of_ble_eq_true rfl) (Nat.le_of_ble_eq_true rfl) ⟨by omega, by omega⟩ ⟨by omega, by omega⟩ dX2_stepsInCommon_12 ?_
  refine lv_iconst (v := zI 1) hx hb dX2_stepsInCommon_15 rfl ?_
  refine gz_isub hx hb dX2_stepsInCommon_16 ?_
  refine lv_istore (lv' := [(4, .int (zI ((min ((n : Int) - zi) ((n2 : Int) - zj)) - 1))), (0, .ref a), (1, .int (zI zi)), (2, .ref a2), (3, .int (zI zj))]) hx hb dX2_stepsInCommon_17 hl (by decide) rfl (fun ls hl => ?_)
  refine lv_iconst (v := zI 0) hx hb dX2_stepsInCommon_19 rfl ?_
  refine lv_istore (lv' := [(5, .int (zI 0)), (4, .int (zI ((min ((n : Int) - zi) ((n2 : Int) - zj)) - 1))), (0, .ref a), (1, .int (zI zi)), (2, .ref a2), (3, .int (zI zj))]) hx hb dX2_stepsInCommon_20 hl (by decide) rfl (fun ls hl => ?_)
  obtain ⟨zL, hzL⟩ : ∃ zL : Int, zL = min ((n : Int) - zi) ((n2 : Int) - zj) - 1 := ⟨_, rfl⟩
  rw [← hzL] at hl
  have hL0 : zL = ((Nat.min (n - i) (n2 - j) - 1) : Nat) := by rw [hzL]; have : Nat.min (n - i) (n2 - j) = min (n - i) (n2 - j) := rfl; omega
  have loop_22 : ∀ (M_ : Nat) (y : Int) (k : Nat) (locs : List Loc), (Nat.min (n - i) (n2 - j) - 1) - k < M_ → (y = k) → (k ≤ (Nat.min (n - i) (n2 - j) - 1)) → (cmn f f2 i j (Nat.min (n - i) (n2 - j) - 1) = k + cmn f f2 (i + k) (j + k) ((Nat.min (n - i) (n2 - j) - 1) - k)) → va_S (gA G) s.heap H locs → ∀ (ls : Array Slot), lv_has ls 6 [(5, .int (zI y)), (4, .int (zI zL)), (0, .ref a), (1, .int (zI zi)), (2, .ref a2), (3, .int (zI zj))] → W p l e rm_X2_stepsInCommon s m args below meth c H locs (0) (0) (vx_MQ below (gQ G (gi (fun r H1 => zI (cmn f f2 i j (Nat.min (n - i) (n2 - j) - 1) : Nat) = r ∧ H = H1))) (gXC G (gNo)) args s 0 0 (gA G)) (F0 m 22 ls []) := by
    intro M_
    induction M_ with
    | zero => intro y k locs_0 h_0; exact absurd h_0 (Nat.not_lt_zero _)
    | succ M_ ih_22 =>
      intro y k locs hM_22 hy hkL hc9 hS ls hl
      refine lv_iload hx hb dX2_stepsInCommon_22 (lv_at hl 0 rfl) ?_
      refine lv_iload hx hb dX2_stepsInCommon_24 (lv_at hl 1 rfl) ?_
      refine gz_icmp_ge (tgt := 54) hx hb ⟨by omega, by omega⟩ ⟨by omega, by omega⟩ dX2_stepsInCommon_26 (by decide) (fun c_26 => ?_) (fun c_26 => ?_)
      · refine lv_iload hx hb dX2_stepsInCommon_54 (lv_at hl 0 rfl) ?_
        exact g_reti hx hb hr hlocks hS rfl (⟨by
            rw [hc9]
            first
            | (rw [show (Nat.min (n - i) (n2 - j) - 1) - k = 0 by omega, cmn]; congr 1; omega)
            | (rw [show (Nat.min (n - i) (n2 - j) - 1) - k = ((Nat.min (n - i) (n2 - j) - 1) - (k + 1)) + 1 by omega, cmn, if_neg c_45]; congr 1; omega), rfl⟩) (Nat.le_of_ble_eq_true rfl) (Nat.le_of_ble_eq_true rfl) dX2_stepsInCommon_56
      · refine lv_aload_n hx hb dX2_stepsInCommon_29 rfl (lv_at hl 2 rfl) ?_
        refine lv_iload_n hx hb dX2_stepsInCommon_30 rfl (lv_at hl 3 rfl) ?_
        refine lv_iload hx hb dX2_stepsInCommon_31 (lv_at hl 0 rfl) ?_
        refine gz_iadd hx hb dX2_stepsInCommon_33 ?_
        refine g_goi (vx_runV (As := [.int (zI (zi + y))]) (rest := []) ⟨hx, hb, hml, hown, hts⟩ (k_stepFrom l G a b cap n f H hR0 (zi + y) (i + k) (by omega) (by omega)) (cwV 1 hts gX2_stepsInCommon_X2_stepFrom rfl rfl rfl hd_X2_stepFrom ⟨(Nat.le_of_ble_eq_true rfl), (Nat.le_of_ble_eq_true rfl)⟩) (g_preV hX hS (ci := 2) rfl ho) rfl rfl hl.1 rfl (lv_room (Nat.le_of_ble_eq_true rfl)) dX2_stepsInCommon_34 ⟨(Nat.le_of_ble_eq_true rfl), (Nat.le_of_ble_eq_true rfl)⟩) hS (fun r_34 H_34 locs hp hS => ?_)
        obtain ⟨rfl, rfl⟩ := hp
        refine lv_aload_n hx hb dX2_stepsInCommon_37 rfl (lv_at hl 4 rfl) ?_
        refine lv_iload_n hx hb dX2_stepsInCommon_38 rfl (lv_at hl 5 rfl) ?_
        refine lv_iload hx hb dX2_stepsInCommon_39 (lv_at hl 0 rfl) ?_
        refine gz_iadd hx hb dX2_stepsInCommon_41 ?_
        refine g_goi (vx_runV (As := [.int (zI (zj + y))]) (rest := [.int (f ((i + k) + 1) - f (i + k))]) ⟨hx, hb, hml, hown, hts⟩ (k_stepFrom l G a2 b2 cap2 n2 f2 H hR20 (zj + y) (j + k) (by omega) (by omega)) (cwV 1 hts gX2_stepsInCommon_X2_stepFrom rfl rfl rfl hd_X2_stepFrom ⟨(Nat.le_of_ble_eq_true rfl), (Nat.le_of_ble_eq_true rfl)⟩) (g_preV hX hS (ci := 2) rfl ho2) rfl rfl hl.1 rfl (lv_room (Nat.le_of_ble_eq_true rfl)) dX2_stepsInCommon_42 ⟨(Nat.le_of_ble_eq_true rfl), (Nat.le_of_ble_eq_true rfl)⟩) hS (fun r_42 H_42 locs hp hS => ?_)
        obtain ⟨rfl, rfl⟩ := hp
        refine lv_icmp_ne (tgt := 54) hx hb dX2_stepsInCommon_45 (by decide) (fun c_45 => ?_) (fun c_45 => ?_)
        · refine lv_iload hx hb dX2_stepsInCommon_54 (lv_at hl 0 rfl) ?_
          exact g_reti hx hb hr hlocks hS rfl (⟨by
              rw [hc9]
              first
              | (rw [show (Nat.min (n - i) (n2 - j) - 1) - k = 0 by omega, cmn]; congr 1; omega)
              | (rw [show (Nat.min (n - i) (n2 - j) - 1) - k = ((Nat.min (n - i) (n2 - j) - 1) - (k + 1)) + 1 by omega, cmn, if_neg c_45]; congr 1; omega), rfl⟩) (Nat.le_of_ble_eq_true rfl) (Nat.le_of_ble_eq_true rfl) dX2_stepsInCommon_56
        · have hc10 : cmn f f2 i j (Nat.min (n - i) (n2 - j) - 1) = (k + 1) + cmn f f2 (i + (k + 1)) (j + (k + 1)) ((Nat.min (n - i) (n2 - j) - 1) - (k + 1)) := by
            rw [hc9, show (Nat.min (n - i) (n2 - j) - 1) - k = ((Nat.min (n - i) (n2 - j) - 1) - (k + 1)) + 1 by omega]
            rw [cmn, if_pos (by first | exact Classical.not_not.mp c_45 | exact c_45), show i + k + 1 = i + (k + 1) by omega, show j + k + 1 = j + (k + 1) by omega]; omega
          refine lv_iinc (v := zI (y + 1)) (lv' := [(5, .int (zI (y + 1))), (4, .int (zI zL)), (0, .ref a), (1, .int (zI zi)), (2, .ref a2), (3, .int (zI zj))]) hx hb dX2_stepsInCommon_48 hl (k := 0) rfl (zI_add _ _) (by decide) rfl (fun ls hl => ?_)
          refine lv_goto (tgt := 22) hx hb dX2_stepsInCommon_51 (by decide) ?_
          exact ih_22 (y + 1) (k + 1) _ (by omega) (by omega) (by omega) hc10 hS ls (lv_sub hl [0, 1, 2, 3, 4, 5] rfl)
  exact loop_22 _ 0 0 _ (Nat.lt_succ_self _) rfl (Nat.zero_le _) (by rw [Nat.zero_add]; rfl) hS ls (lv_sub hl [0, 1, 2, 3, 4, 5] rfl)
def bwc (n : Nat) (f : Nat → Int32) (n2 : Nat) (f2 : Nat → Int32) : Prop := n2 ≤ n ∧ ∀ q, q + 1 < n2 → dirI (f (q + 1) - f q) = dirI (f2 (q + 1) - f2 q)
set_option maxHeartbeats 4000000 in
set_option maxRecDepth 100000 in
theorem k_beginsWithContourOf (l : Launch) (G : gG) (a b cap n : Nat) (f : Nat → Int32) (H : Heap) (hR : gRow G a b cap n f H) (a2 b2 cap2 n2 : Nat) (f2 : Nat → Int32) (hR2 : gRow G a2 b2 cap2 n2 f2 H) : gM l yX2_beginsWithContourOf wsX2_beginsWithContourOf rm_X2_beginsWithContourOf [.ref a, .ref a2] G H (gi (fun r H1 => ((bwc n f n2 f2 ∧ r = zI 1) ∨ (¬ bwc n f n2 f2 ∧ r = zI 0)) ∧ H = H1)) (gNo) 0 0 := by
  have hR0 := hR
  have hR20 := hR2
  obtain ⟨ho, hq, hn, hc, ga, gb, hab⟩ := hR
  obtain ⟨ho2, hq2, hn2, hc2, ga2, gb2, hab2⟩ := hR2
  refine g_start (cc := cX2_beginsWithContourOf) (maxL := 3) (ret := (some .boolean)) (by decide +kernel) rfl (Nat.le_of_ble_eq_true rfl) ?_
  intro p e s m args below meth c F ls hl
  obtain ⟨hx, hb, hml, hr, hts, hown, hlocks, hxt, hH, hX, hin⟩ := F
  have hown : s.vm.findClass RX2 = some m.cls := hown
  have hS : va_S (gA G) s.heap H [] := by rw [hH]; exact va_S.rf
  have hl : lv_has ls 3 [(0, .ref a), (1, .ref a2)] := hl
  refine lv_aload_n hx hb dX2_beginsWithContourOf_0 rfl (lv_at hl 1 rfl) ?_
  refine g_get hx hb hX hts (fun w h => (List.mem_cons_of_mem _ (List.mem_append_right _ h))) hown ho2 rfl 1 (by decide) (hts (.fieldLink RX2 19 "TuneCatalogue$Row" "size" "I") (List.mem_cons_of_mem _ (List.mem_append_left _ (List.mem_of_getElem? (i := 0) rfl)))) rfl dX2_beginsWithContourOf_1 ?_
  refine lv_aload_n hx hb dX2_beginsWithContourOf_4 rfl (lv_at hl 0 rfl) ?_
  refine g_get hx hb hX hts (fun w h => (List.mem_cons_of_mem _ (List.mem_append_right _ h))) hown ho rfl 1 (by decide) (hts (.fieldLink RX2 19 "TuneCatalogue$Row" "size" "I") (List.mem_cons_of_mem _ (List.mem_append_left _ (List.mem_of_getElem? (i := 0) rfl)))) rfl dX2_beginsWithContourOf_5 ?_
  refine gz_icmp_le (tgt := 13) hx hb ⟨by omega, by omega⟩ ⟨by omega, by omega⟩ dX2_beginsWithContourOf_8 (by decide) (fun c_8 => ?_) (fun c_8 => ?_)
  · refine lv_iconst (v := zI 0) hx hb dX2_beginsWithContourOf_13 rfl ?_
    refine lv_istore_n (lv' := [(2, .int (zI 0)), (0, .ref a), (1, .ref a2)]) hx hb dX2_beginsWithContourOf_14 rfl hl (by decide) rfl (fun ls hl => ?_)
    have loop_15 : ∀ (M_ : Nat) (y : Int) (k : Nat) (locs : List Loc), n2 - k < M_ → (y = k) → (k ≤ n2) → (∀ q, q < k → q + 1 < n2 → dirI (f (q + 1) - f q) = dirI (f2 (q + 1) - f2 q)) → va_S (gA G) s.heap H locs → ∀ (ls : Array Slot), lv_has ls 3 [(2, .int (zI y)), (0, .ref a), (1, .ref a2)] → W p l e rm_X2_beginsWithContourOf s m args below meth c H locs (0) (0) (vx_MQ below (gQ G (gi (fun r H1 => ((bwc n f n2 f2 ∧ r = zI 1) ∨ (¬ bwc n f n2 f2 ∧ r = zI 0)) ∧ H = H1))) (gXC G (gNo)) args s 0 0 (gA G)) (F0 m 15 ls []) := by
      intro M_
      induction M_ with
      | zero => intro y k locs_0 h_0; exact absurd h_0 (Nat.not_lt_zero _)
      | succ M_ ih_15 =>
        intro y k locs hM_15 hy hkn hbf hS ls hl
        refine lv_iload_n hx hb dX2_beginsWithContourOf_15 rfl (lv_at hl 0 rfl) ?_
        refine lv_aload_n hx hb dX2_beginsWithContourOf_16 rfl (lv_at hl 2 rfl) ?_
        refine g_get hx hb hX hts (fun w h => (List.mem_cons_of_mem _ (List.mem_append_right _ h))) hown ho2 rfl 1 (by decide) (hts (.fieldLink RX2 19 "TuneCatalogue$Row" "size" "I") (List.mem_cons_of_mem _ (List.mem_append_left _ (List.mem_of_getElem? (i := 0) rfl)))) rfl dX2_beginsWithContourOf_17 ?_
        refine lv_iconst (v := zI 1) hx hb dX2_beginsWithContourOf_20 rfl ?_
        refine gz_isub hx hb dX2_beginsWithContourOf_21 ?_
        refine gz_icmp_ge (tgt := 52) hx hb ⟨by omega, by omega⟩ ⟨by omega, by omega⟩ dX2_beginsWithContourOf_22 (by decide) (fun c_22 => ?_) (fun c_22 => ?_)
        · refine lv_iconst (v := zI 1) hx hb dX2_beginsWithContourOf_52 rfl ?_
          exact g_reti hx hb hr hlocks hS rfl (⟨Or.inl ⟨⟨by omega, fun q h => hbf q (by omega) h⟩, rfl⟩, rfl⟩) (Nat.le_of_ble_eq_true rfl) (Nat.le_of_ble_eq_true rfl) dX2_beginsWithContourOf_53
        · refine lv_aload_n hx hb dX2_beginsWithContourOf_25 rfl (lv_at hl 1 rfl) ?_
          refine lv_iload_n hx hb dX2_beginsWithContourOf_26 rfl (lv_at hl 0 rfl) ?_
          refine g_goi (vx_runV (As := [.int (zI y)]) (rest := []) ⟨hx, hb, hml, hown, hts⟩ (k_stepFrom l G a b cap n f H hR0 y k (by omega) (by omega)) (cwV 1 hts gX2_beginsWithContourOf_X2_stepFrom rfl rfl rfl hd_X2_stepFrom ⟨(Nat.le_of_ble_eq_true rfl), (Nat.le_of_ble_eq_true rfl)⟩) (g_preV hX hS (ci := 2) rfl ho) rfl rfl hl.1 rfl (lv_room (Nat.le_of_ble_eq_true rfl)) dX2_beginsWithContourOf_27 ⟨(Nat.le_of_ble_eq_true rfl), (Nat.le_of_ble_eq_true rfl)⟩) hS (fun r_27 H_27 locs hp hS => ?_)
          obtain ⟨rfl, rfl⟩ := hp
          refine g_goi (vx_runS (As := [.int (f (k + 1) - f k)]) (rest := []) ⟨hx, hb, hml, hown, hts⟩ (k_direction l G H (f (k + 1) - f k)) (va_cwS 1 hts gX2_beginsWithContourOf_X2_direction rfl rfl rfl hd_X2_direction.2 ⟨(Nat.le_of_ble_eq_true rfl), (Nat.le_of_ble_eq_true rfl)⟩) (g_pre hX hS) rfl rfl hl.1 rfl (lv_room (Nat.le_of_ble_eq_true rfl)) dX2_beginsWithContourOf_30 ⟨(Nat.le_of_ble_eq_true rfl), (Nat.le_of_ble_eq_true rfl)⟩) hS (fun r_30 H_30 locs hp hS => ?_)
          obtain ⟨rfl, rfl⟩ := hp
          refine lv_aload_n hx hb dX2_beginsWithContourOf_33 rfl (lv_at hl 2 rfl) ?_
          refine lv_iload_n hx hb dX2_beginsWithContourOf_34 rfl (lv_at hl 0 rfl) ?_
          refine g_goi (vx_runV (As := [.int (zI y)]) (rest := [.int (zI (dirI (f (k + 1) - f k)))]) ⟨hx, hb, hml, hown, hts⟩ (k_stepFrom l G a2 b2 cap2 n2 f2 H hR20 y k (by omega) (by omega)) (cwV 1 hts gX2_beginsWithContourOf_X2_stepFrom rfl rfl rfl hd_X2_stepFrom ⟨(Nat.le_of_ble_eq_true rfl), (Nat.le_of_ble_eq_true rfl)⟩) (g_preV hX hS (ci := 2) rfl ho2) rfl rfl hl.1 rfl (lv_room (Nat.le_of_ble_eq_true rfl)) dX2_beginsWithContourOf_35 ⟨(Nat.le_of_ble_eq_true rfl), (Nat.le_of_ble_eq_true rfl)⟩) hS (fun r_35 H_35 locs hp hS => ?_)
          obtain ⟨rfl, rfl⟩ := hp
          refine g_goi (vx_runS (As := [.int (f2 (k + 1) - f2 k)]) (rest := [.int (zI (dirI (f (k + 1) - f k)))]) ⟨hx, hb, hml, hown, hts⟩ (k_direction l G H (f2 (k + 1) - f2 k)) (va_cwS 1 hts gX2_beginsWithContourOf_X2_direction rfl rfl rfl hd_X2_direction.2 ⟨(Nat.le_of_ble_eq_true rfl), (Nat.le_of_ble_eq_true rfl)⟩) (g_pre hX hS) rfl rfl hl.1 rfl (lv_room (Nat.le_of_ble_eq_true rfl)) dX2_beginsWithContourOf_38 ⟨(Nat.le_of_ble_eq_true rfl), (Nat.le_of_ble_eq_true rfl)⟩) hS (fun r_38 H_38 locs hp hS => ?_)
          obtain ⟨rfl, rfl⟩ := hp
          refine gz_icmp_eq (tgt := 46) hx hb (by have h1 := dirI_rng (f (k + 1) - f k); have h2 := dirI_rng (f2 (k + 1) - f2 k); exact ⟨by omega, by omega⟩) (by have h1 := dirI_rng (f (k + 1) - f k); have h2 := dirI_rng (f2 (k + 1) - f2 k); exact ⟨by omega, by omega⟩) dX2_beginsWithContourOf_41 (by decide) (fun c_41 => ?_) (fun c_41 => ?_)
          · refine lv_iinc (v := zI (y + 1)) (lv' := [(2, .int (zI (y + 1))), (0, .ref a), (1, .ref a2)]) hx hb dX2_beginsWithContourOf_46 hl (k := 0) rfl (zI_add _ _) (by decide) rfl (fun ls hl => ?_)
            refine lv_goto (tgt := 15) hx hb dX2_beginsWithContourOf_49 (by decide) ?_
            exact ih_15 (y + 1) (k + 1) _ (by omega) (by omega) (by omega) (fun q h h1 => by rcases Nat.lt_or_ge q k with g | g; exact hbf q g h1; rw [show q = k by omega]; exact c_41) hS ls (lv_sub hl [0, 1, 2] rfl)
          · refine lv_iconst (v := zI 0) hx hb dX2_beginsWithContourOf_44 rfl ?_
            exact g_reti hx hb hr hlocks hS rfl (⟨Or.inr ⟨fun h => by first | exact absurd h.1 (by omega) | exact c_41 (h.2 k (by omega)), rfl⟩, rfl⟩) (Nat.le_of_ble_eq_true rfl) (Nat.le_of_ble_eq_true rfl) dX2_beginsWithContourOf_45
    exact loop_15 _ 0 0 _ (Nat.lt_succ_self _) rfl (Nat.zero_le _) (fun q h => absurd h (Nat.not_lt_zero _)) hS ls (lv_sub hl [0, 1, 2] rfl)
  · refine lv_iconst (v := zI 0) hx hb dX2_beginsWithContourOf_11 rfl ?_
    exact g_reti hx hb hr hlocks hS rfl (⟨Or.inr ⟨fun h => by first | exact absurd h.1 (by omega) | exact c_41 (h.2 k (by omega)), rfl⟩, rfl⟩) (Nat.le_of_ble_eq_true rfl) (Nat.le_of_ble_eq_true rfl) dX2_beginsWithContourOf_12
theorem gRow.grow {G : gG} {a b cap n : Nat} {f : Nat → Int32} {L : List Nat} {H H1 : Heap} (h : gRow G a b cap n f H) (x : gGrow L H H1) (n1 : a ∉ L) (n2 : b ∉ L) : gRow G a b cap n f H1 := ⟨h.1.grow x n1, h.2.1.grow x n2, h.2.2⟩
theorem zI_nlt0 {z : Int} (h : 0 ≤ z) (hr : rI z) : ¬ zI z < 0 := fun q => by
  have := (zI_lt hr (by decide : rI 0)).mp q
  omega
set_option maxHeartbeats 4000000 in
set_option maxRecDepth 100000 in
theorem k_Row_init (l : Launch) (G : gG) (a cap : Nat) (z : Int) (H : Heap) (ho : gat G a (.inr (2, [.null, .int (zI 0)])) H) (ga : gB G ≤ a) (hz : z = cap) (hc : cap ≤ 384) : gM l yX2_init wsX2_init rm_X2_init [.ref a, .int (zI z)] G H (gv (fun H1 => ∃ b, H.size ≤ b ∧ b < H1.size ∧ gRow G a b cap 0 (fun _ => 0) H1 ∧ gGrow [a] H H1)) (gNo) 1 384 := by
  have ha_lt : a < H.size := va_at.lt ho
  refine g_start (cc := cX2_init) (maxL := 2) (ret := none) (by decide +kernel) rfl (Nat.le_of_ble_eq_true rfl) ?_
  intro p e s m args below meth c F ls hl
  obtain ⟨hx, hb, hml, hr, hts, hown, hlocks, hxt, hH, hX, hin⟩ := F
  have hown : s.vm.findClass RX2 = some m.cls := hown
  have hS : va_S (gA G) s.heap H [] := by rw [hH]; exact va_S.rf
  have hl : lv_has ls 2 [(0, .ref a), (1, .int (zI z))] := hl
  refine lv_aload_n hx hb dX2_init_0 rfl (lv_at hl 0 rfl) ?_
  refine W.objInit hx hb hown (hts (.methodLink RX2 1 objectInit) (List.mem_cons_of_mem _ (List.mem_append_left _ (List.mem_of_getElem? (i := 0) rfl)))) (hts (.instanceMethod objectInit) (List.mem_cons_of_mem _ (List.mem_append_left _ (List.mem_of_getElem? (i := 1) rfl)))) (hts _ (List.mem_cons_of_mem _ (List.mem_append_left _ (List.mem_of_getElem? (i := 2) rfl)))) rfl (by rw [hml]; exact hl.1) rfl dX2_init_1 (Nat.le_of_ble_eq_true rfl) (Nat.le_of_ble_eq_true rfl) ?_
  refine W.eq (g2 := F0 m 4 ls []) rfl ?_
  refine lv_aload_n hx hb dX2_init_4 rfl (lv_at hl 0 rfl) ?_
  refine lv_iload_n hx hb dX2_init_5 rfl (lv_at hl 1 rfl) ?_
  refine lv_iconst (v := zI 0) hx hb dX2_init_6 rfl ?_
  refine gz_mmax hx hb (hml.trans hl.1.symm) hown (hts (.methodLink RX2 7 Lib.Math.max.name) (List.mem_cons_of_mem _ (List.mem_append_left _ (List.mem_of_getElem? (i := 3) rfl)))) (hts (.static Lib.Math.max.name) (List.mem_cons_of_mem _ (List.mem_append_left _ (List.mem_of_getElem? (i := 4) rfl)))) (hts (.initialized "java/lang/Math") (List.mem_cons_of_mem _ (List.mem_append_left _ (List.mem_of_getElem? (i := 5) rfl)))) (hts (.code Lib.Math.max.name Lib.Math.max.code 2 (some .int)) (List.mem_cons_of_mem _ (List.mem_append_left _ (List.mem_of_getElem? (i := 6) rfl)))) (Nat.le_of_ble_eq_true rfl) (Nat.le_of_ble_eq_true rfl) (Nat.le_of_ble_eq_true rfl) (Nat.le_of_ble_eq_true rfl) ⟨by omega, by omega⟩ (by decide) dX2_init_7 ?_
  rw [show max z 0 = z by omega]
  refine g_newa (atype := .int) hx hb hX (hts (.arrayClass .int) (List.mem_cons_of_mem _ (List.mem_append_left _ (List.mem_of_getElem? (i := 7) rfl)))) (cX := gI G) (hX.1.1.2 0 _ rfl).2 hS (N' := cap) (a0 := (cap, .inl (fun _ => 0))) (by rw [vp_cell_i]; rfl) (zI_nlt0 (by omega) ⟨by omega, by omega⟩) (zI_clamp hz (by omega)) (by show cap * 4 ≤ 536870912; omega) (Nat.le_of_ble_eq_true rfl) (by show 0 + cap ≤ 384; omega) dX2_init_10 (fun H_10 q_10 eq_10 hq_10 gq_10 zq_10 hE hS => ?_)
  have ho := gat.ext ho hE
  have hE1 := hE
  refine g_putF hx hb hX hts (fun w h => (List.mem_cons_of_mem _ (List.mem_append_right _ h))) tyX2 tyX2_ok nmX2 hown hS ho ga rfl 0 (by decide) (hts (.fieldLink RX2 13 "TuneCatalogue$Row" "numbers" "[I") (List.mem_cons_of_mem _ (List.mem_append_left _ (List.mem_of_getElem? (i := 8) rfl)))) rfl hin rfl (ty := tyX2 0) rfl rfl rfl (Nat.le_of_ble_eq_true rfl) dX2_init_12 (fun H_12 locs h_n hO hS => ?_)
  have hq_10 := gat.only1 hq_10 hO (by omega)
  have ho : gat G a (.inr (2, [.ref q_10, .int (zI 0)])) H_12 := h_n
  exact g_retv hx hb hr hlocks hS (⟨q_10, by omega, by rw [hO.1]; omega, ⟨ho, hq_10, Nat.zero_le _, hc, ga, gq_10, by omega⟩, by rw [hO.1]; exact hE1.1, fun q h1 h2 => (hO.2 q h2).trans (hE1.2 q h1)⟩) (by show _ ≤ _; omega) (by show _ ≤ _; omega) dX2_init_15
