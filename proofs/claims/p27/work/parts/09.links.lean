/-! ===== TuneCatalogue.Links ===== -/
theorem and2_0 (n j : Nat) : n &&& 2 ^ j = 0 ↔ n.testBit j = false := by
  constructor
  · intro h
    have h1 : (n &&& 2 ^ j).testBit j = false := by rw [h]; simp
    rw [Nat.testBit_and] at h1
    simpa using h1
  · intro h
    apply Nat.eq_of_testBit_eq
    intro i
    rw [Nat.testBit_and, Nat.testBit_two_pow, Nat.zero_testBit]
    by_cases g : j = i
    · subst g; simp [h]
    · simp [g]
def wpF (lk : Nat → Nat) (set : Nat) : Nat → Nat
  | 0 => set
  | k + 1 => if set.testBit k then wpF lk set k ||| lk k else wpF lk set k
def itW (lk : Nat → Nat) (n : Nat) : Nat → Nat → Nat
  | 0, R => R
  | k + 1, R => wpF lk (itW lk n k R) n
def loB (R : Nat) : Nat → Nat → Nat
  | _, 0 => 0
  | k, d + 1 => if R.testBit k then 0 else loB R (k + 1) d + 1
def famL (lk : Nat → Nat) (n t : Nat) : Nat := loB (itW lk n (n - 1) (2 ^ t)) 0 t
def famC (lk : Nat → Nat) (n : Nat) : Nat → Nat
  | 0 => 0
  | k + 1 => famC lk n k + if famL lk n k = k then 1 else 0
theorem or_lt {a b k : Nat} (ha : a < 2 ^ k) (hb : b < 2 ^ k) : a ||| b < 2 ^ k := Nat.or_lt_two_pow ha hb
theorem wpF_lt {lk : Nat → Nat} (hlk : ∀ k, lk k < 65536) {set : Nat} (hs : set < 65536) : ∀ k, wpF lk set k < 65536
  | 0 => hs
  | k + 1 => by
    unfold wpF
    split
    · exact or_lt (k := 16) (wpF_lt hlk hs k) (hlk k)
    · exact wpF_lt hlk hs k
theorem itW_lt {lk : Nat → Nat} (hlk : ∀ k, lk k < 65536) (n : Nat) {R : Nat} (hs : R < 65536) : ∀ k, itW lk n k R < 65536
  | 0 => hs
  | k + 1 => wpF_lt hlk (itW_lt hlk n hs k) n
theorem loB_le (R : Nat) : ∀ d k, loB R k d ≤ d
  | 0, _ => Nat.le_refl _
  | d + 1, k => by
    have := loB_le R d (k + 1)
    unfold loB; split <;> omega
theorem famC_le (lk : Nat → Nat) (n : Nat) : ∀ k, famC lk n k ≤ k
  | 0 => Nat.le_refl _
  | k + 1 => by
    have := famC_le lk n k
    unfold famC; split <;> omega
theorem p2_lt {k : Nat} (h : k < 16) : 2 ^ k < 65536 := Nat.pow_lt_pow_right (a := 2) (n := 16) (by omega) h
def Lnk (G : gG) (a r b n : Nat) (lk : Nat → Nat) (H : Heap) : Prop := gat G a (.inr (0, [.ref r])) H ∧ gRow G r b 16 n (fun k => zI ((lk k : Nat) : Int)) H ∧ a ≠ r ∧ a ≠ b
set_option maxHeartbeats 4000000 in
set_option maxRecDepth 100000 in
theorem k_setOf (l : Launch) (G : gG) (H : Heap) (z : Int) (k : Nat) (hz : z = k) (hk : k < 31) : gM l yX0_setOf wsX0_setOf rm_X0_setOf [.int (zI z)] G H (gi (fun r H1 => zI ((2 ^ k : Nat) : Int) = r ∧ H = H1)) (gNo) 0 0 := by
  refine g_start (cc := cX0_setOf) (maxL := 1) (ret := (some .int)) (by decide +kernel) rfl (Nat.le_of_ble_eq_true rfl) ?_
  intro p e s m args below meth c F ls hl
  obtain ⟨hx, hb, hml, hr, hts, hown, hlocks, hxt, hH, hX, hin⟩ := F
  have hown : s.vm.findClass RX0 = some m.cls := hown
  have hS : va_S (gA G) s.heap H [] := by rw [hH]; exact va_S.rf
  have hl : lv_has ls 1 [(0, .int (zI z))] := hl
  refine lv_iconst (v := zI 1) hx hb dX0_setOf_0 rfl ?_
  refine lv_iload_n hx hb dX0_setOf_1 rfl (lv_at hl 0 rfl) ?_
  refine gz_ishl hx hb k rfl (by omega) (by omega) dX0_setOf_2 ?_
  exact g_reti hx hb hr hlocks hS rfl (⟨rfl, rfl⟩) (Nat.le_of_ble_eq_true rfl) (Nat.le_of_ble_eq_true rfl) dX0_setOf_3
set_option maxHeartbeats 4000000 in
set_option maxRecDepth 100000 in
theorem k_admitTune (l : Launch) (G : gG) (a r b n : Nat) (lk : Nat → Nat) (H : Heap) (hL : Lnk G a r b n lk H) (hk : n < 16) : gM l yX0_admitTune wsX0_admitTune rm_X0_admitTune [.ref a] G H (gv (fun H1 => Lnk G a r b (n + 1) (va_up lk n 0) H1 ∧ gOnly [r, b] H H1)) (gNo) 0 0 := by
  obtain ⟨ho, hr1, har, hab⟩ := id hL
  have hn16 : n ≤ 16 := hr1.2.2.1
  refine g_start (cc := cX0_admitTune) (maxL := 1) (ret := none) (by decide +kernel) rfl (Nat.le_of_ble_eq_true rfl) ?_
  intro p e s m args below meth c F ls hl
  obtain ⟨hx, hb, hml, hr, hts, hown, hlocks, hxt, hH, hX, hin⟩ := F
  have hown : s.vm.findClass RX0 = some m.cls := hown
  have hS : va_S (gA G) s.heap H [] := by rw [hH]; exact va_S.rf
  have hl : lv_has ls 1 [(0, .ref a)] := hl
  refine lv_aload_n hx hb dX0_admitTune_0 rfl (lv_at hl 0 rfl) ?_
  refine g_get hx hb hX hts (fun w h => (List.mem_cons_of_mem _ (List.mem_append_left _ (List.mem_append_right _ h)))) hown ho rfl 0 (by decide) (hts (.fieldLink RX0 14 "TuneCatalogue$Links" "partners" "LTuneCatalogue$Row;") (List.mem_cons_of_mem _ (List.mem_append_left _ (List.mem_append_left _ (List.mem_of_getElem? (i := 0) rfl))))) rfl dX0_admitTune_1 ?_
  refine lv_iconst (v := zI 0) hx hb dX0_admitTune_4 rfl ?_
  refine g_gov (vx_runV (As := [.int (zI 0)]) (rest := []) ⟨hx, hb, hml, hown, hts⟩ (k_append l G r b 16 n _ H hr1 (zI 0) hk) (cwV 1 hts gX0_admitTune_X2_append rfl rfl rfl hd_X2_append ⟨(Nat.le_of_ble_eq_true rfl), (Nat.le_of_ble_eq_true rfl)⟩) (g_preV hX hS (ci := 2) rfl hr1.1) rfl rfl hl.1 rfl (lv_room (Nat.le_of_ble_eq_true rfl)) dX0_admitTune_5 ⟨(Nat.le_of_ble_eq_true rfl), (Nat.le_of_ble_eq_true rfl)⟩) hS (fun H_5 locs hp hS => ?_)
  obtain ⟨hr2, hO1⟩ := hp
  have ho := ho.only hO1 (nm2 har hab)
  rw [show zI 0 = zI ((0 : Nat) : Int) from rfl, zupN] at hr2
  exact g_retv hx hb hr hlocks hS (⟨⟨ho, hr2, har, hab⟩, hO1⟩) (Nat.le_of_ble_eq_true rfl) (Nat.le_of_ble_eq_true rfl) dX0_admitTune_8
set_option maxHeartbeats 4000000 in
set_option maxRecDepth 100000 in
theorem k_areLinked (l : Launch) (G : gG) (a r b n : Nat) (lk : Nat → Nat) (H : Heap) (hL : Lnk G a r b n lk H) (hlk : ∀ k, lk k < 65536) (zi zj : Int) (i j : Nat) (hi : zi = i) (hj : zj = j) (hin0 : i < n) (hjn : j < n) : gM l yX0_areLinked wsX0_areLinked rm_X0_areLinked [.ref a, .int (zI zi), .int (zI zj)] G H (gi (fun r1 H1 => zI (zB ((lk i).testBit j)) = r1 ∧ H = H1)) (gNo) 0 0 := by
  obtain ⟨ho, hr1, har, hab⟩ := id hL
  have hn16 : n ≤ 16 := hr1.2.2.1
  have hand : lk i &&& 2 ^ j ≤ lk i := Nat.and_le_left
  have hlki := hlk i
  refine g_start (cc := cX0_areLinked) (maxL := 3) (ret := (some .boolean)) (by decide +kernel) rfl (Nat.le_of_ble_eq_true rfl) ?_
  intro p e s m args below meth c F ls hl
  obtain ⟨hx, hb, hml, hr, hts, hown, hlocks, hxt, hH, hX, hin⟩ := F
  have hown : s.vm.findClass RX0 = some m.cls := hown
  have hS : va_S (gA G) s.heap H [] := by rw [hH]; exact va_S.rf
  have hl : lv_has ls 3 [(0, .ref a), (1, .int (zI zi)), (2, .int (zI zj))] := hl
  refine lv_aload_n hx hb dX0_areLinked_0 rfl (lv_at hl 0 rfl) ?_
  refine g_get hx hb hX hts (fun w h => (List.mem_cons_of_mem _ (List.mem_append_left _ (List.mem_append_right _ h)))) hown ho rfl 0 (by decide) (hts (.fieldLink RX0 14 "TuneCatalogue$Links" "partners" "LTuneCatalogue$Row;") (List.mem_cons_of_mem _ (List.mem_append_left _ (List.mem_append_left _ (List.mem_of_getElem? (i := 0) rfl))))) rfl dX0_areLinked_1 ?_
  refine lv_iload_n hx hb dX0_areLinked_4 rfl (lv_at hl 1 rfl) ?_
  refine g_goi (vx_runV (As := [.int (zI zi)]) (rest := []) ⟨hx, hb, hml, hown, hts⟩ (k_at l G r b 16 n _ H hr1 zi i (by omega) (by omega)) (cwV 1 hts gX0_areLinked_X2_at rfl rfl rfl hd_X2_at ⟨(Nat.le_of_ble_eq_true rfl), (Nat.le_of_ble_eq_true rfl)⟩) (g_preV hX hS (ci := 2) rfl hr1.1) rfl rfl hl.1 rfl (lv_room (Nat.le_of_ble_eq_true rfl)) dX0_areLinked_5 ⟨(Nat.le_of_ble_eq_true rfl), (Nat.le_of_ble_eq_true rfl)⟩) hS (fun r_5 H_5 locs hp hS => ?_)
  obtain ⟨rfl, rfl⟩ := hp
  refine lv_iload_n hx hb dX0_areLinked_8 rfl (lv_at hl 2 rfl) ?_
  refine g_goi (vx_runS (As := [.int (zI zj)]) (rest := [.int (zI ((lk i : Nat) : Int))]) ⟨hx, hb, hml, hown, hts⟩ (k_setOf l G H zj j (by omega) (by omega)) (va_cwS 1 hts gX0_areLinked_X0_setOf rfl rfl rfl hd_X0_setOf.2 ⟨(Nat.le_of_ble_eq_true rfl), (Nat.le_of_ble_eq_true rfl)⟩) (g_pre hX hS) rfl rfl hl.1 rfl (lv_room (Nat.le_of_ble_eq_true rfl)) dX0_areLinked_9 ⟨(Nat.le_of_ble_eq_true rfl), (Nat.le_of_ble_eq_true rfl)⟩) hS (fun r_9 H_9 locs hp hS => ?_)
  obtain ⟨rfl, rfl⟩ := hp
  refine gz_iand hx hb (lk i) (2 ^ j) (by omega) (by omega) dX0_areLinked_12 ?_
  refine gz_if_eq (tgt := 20) hx hb ⟨by omega, by omega⟩ dX0_areLinked_13 (by decide) (fun c_13 => ?_) (fun c_13 => ?_)
  · refine lv_iconst (v := zI 0) hx hb dX0_areLinked_20 rfl ?_
    exact g_reti hx hb hr hlocks hS rfl (⟨by
        rw [(and2_0 (lk i) j).mp (Int.ofNat.inj c_13)]; rfl, rfl⟩) (Nat.le_of_ble_eq_true rfl) (Nat.le_of_ble_eq_true rfl) dX0_areLinked_21
  · refine lv_iconst (v := zI 1) hx hb dX0_areLinked_16 rfl ?_
    refine lv_goto (tgt := 21) hx hb dX0_areLinked_17 (by decide) ?_
    exact g_reti hx hb hr hlocks hS rfl (⟨by
        cases h : (lk i).testBit j
        · exact absurd (congrArg Int.ofNat ((and2_0 _ _).mpr h)) c_13
        · rfl, rfl⟩) (Nat.le_of_ble_eq_true rfl) (Nat.le_of_ble_eq_true rfl) dX0_areLinked_21
set_option maxHeartbeats 4000000 in
set_option maxRecDepth 100000 in
theorem k_toggle (l : Launch) (G : gG) (a r b n : Nat) (lk : Nat → Nat) (H : Heap) (hL : Lnk G a r b n lk H) (zi zj : Int) (i j : Nat) (hi : zi = i) (hj : zj = j) (hin0 : i < n) (hjn : j < n) (hij : i ≠ j) : gM l yX0_toggle wsX0_toggle rm_X0_toggle [.ref a, .int (zI zi), .int (zI zj)] G H (gv (fun H1 => Lnk G a r b n (va_up (va_up lk i (lk i ^^^ 2 ^ j)) j (lk j ^^^ 2 ^ i)) H1 ∧ gOnly [r, b] H H1)) (gNo) 0 0 := by
  obtain ⟨ho, hr1, har, hab⟩ := id hL
  have hn16 : n ≤ 16 := hr1.2.2.1
  refine g_start (cc := cX0_toggle) (maxL := 3) (ret := none) (by decide +kernel) rfl (Nat.le_of_ble_eq_true rfl) ?_
  intro p e s m args below meth c F ls hl
  obtain ⟨hx, hb, hml, hr, hts, hown, hlocks, hxt, hH, hX, hin⟩ := F
  have hown : s.vm.findClass RX0 = some m.cls := hown
  have hS : va_S (gA G) s.heap H [] := by rw [hH]; exact va_S.rf
  have hl : lv_has ls 3 [(0, .ref a), (1, .int (zI zi)), (2, .int (zI zj))] := hl
  refine lv_aload_n hx hb dX0_toggle_0 rfl (lv_at hl 0 rfl) ?_
  refine g_get hx hb hX hts (fun w h => (List.mem_cons_of_mem _ (List.mem_append_left _ (List.mem_append_right _ h)))) hown ho rfl 0 (by decide) (hts (.fieldLink RX0 14 "TuneCatalogue$Links" "partners" "LTuneCatalogue$Row;") (List.mem_cons_of_mem _ (List.mem_append_left _ (List.mem_append_left _ (List.mem_of_getElem? (i := 0) rfl))))) rfl dX0_toggle_1 ?_
  refine lv_iload_n hx hb dX0_toggle_4 rfl (lv_at hl 1 rfl) ?_
  refine lv_aload_n hx hb dX0_toggle_5 rfl (lv_at hl 0 rfl) ?_
  refine g_get hx hb hX hts (fun w h => (List.mem_cons_of_mem _ (List.mem_append_left _ (List.mem_append_right _ h)))) hown ho rfl 0 (by decide) (hts (.fieldLink RX0 14 "TuneCatalogue$Links" "partners" "LTuneCatalogue$Row;") (List.mem_cons_of_mem _ (List.mem_append_left _ (List.mem_append_left _ (List.mem_of_getElem? (i := 0) rfl))))) rfl dX0_toggle_6 ?_
  refine lv_iload_n hx hb dX0_toggle_9 rfl (lv_at hl 1 rfl) ?_
  refine g_goi (vx_runV (As := [.int (zI zi)]) (rest := [.int (zI zi), .ref r]) ⟨hx, hb, hml, hown, hts⟩ (k_at l G r b 16 n _ H hr1 zi i (by omega) (by omega)) (cwV 1 hts gX0_toggle_X2_at rfl rfl rfl hd_X2_at ⟨(Nat.le_of_ble_eq_true rfl), (Nat.le_of_ble_eq_true rfl)⟩) (g_preV hX hS (ci := 2) rfl hr1.1) rfl rfl hl.1 rfl (lv_room (Nat.le_of_ble_eq_true rfl)) dX0_toggle_10 ⟨(Nat.le_of_ble_eq_true rfl), (Nat.le_of_ble_eq_true rfl)⟩) hS (fun r_10 H_10 locs hp hS => ?_)
  obtain ⟨rfl, rfl⟩ := hp
  refine lv_iload_n hx hb dX0_toggle_13 rfl (lv_at hl 2 rfl) ?_
  refine g_goi (vx_runS (As := [.int (zI zj)]) (rest := [.int (zI ((lk i : Nat) : Int)), .int (zI zi), .ref r]) ⟨hx, hb, hml, hown, hts⟩ (k_setOf l G H zj j (by omega) (by omega)) (va_cwS 1 hts gX0_toggle_X0_setOf rfl rfl rfl hd_X0_setOf.2 ⟨(Nat.le_of_ble_eq_true rfl), (Nat.le_of_ble_eq_true rfl)⟩) (g_pre hX hS) rfl rfl hl.1 rfl (lv_room (Nat.le_of_ble_eq_true rfl)) dX0_toggle_14 ⟨(Nat.le_of_ble_eq_true rfl), (Nat.le_of_ble_eq_true rfl)⟩) hS (fun r_14 H_14 locs hp hS => ?_)
  obtain ⟨rfl, rfl⟩ := hp
  refine gz_ixor hx hb (lk i) (2 ^ j) (by omega) (by omega) dX0_toggle_17 ?_
  refine g_gov (vx_runV (As := [.int (zI zi), .int (zI (((lk i) ^^^ (2 ^ j) : Nat) : Int))]) (rest := []) ⟨hx, hb, hml, hown, hts⟩ (k_put l G r b 16 n _ H hr1 zi i (zI (((lk i) ^^^ (2 ^ j) : Nat) : Int)) (by omega) (by omega)) (cwV 2 hts gX0_toggle_X2_put rfl rfl rfl hd_X2_put ⟨(Nat.le_of_ble_eq_true rfl), (Nat.le_of_ble_eq_true rfl)⟩) (g_preV hX hS (ci := 2) rfl hr1.1) rfl rfl hl.1 rfl (lv_room (Nat.le_of_ble_eq_true rfl)) dX0_toggle_18 ⟨(Nat.le_of_ble_eq_true rfl), (Nat.le_of_ble_eq_true rfl)⟩) hS (fun H_18 locs hp hS => ?_)
  obtain ⟨hr2, hO1⟩ := hp
  have ho := ho.only1 hO1 hab
  rw [zupN] at hr2
  refine lv_aload_n hx hb dX0_toggle_21 rfl (lv_at hl 0 rfl) ?_
  refine g_get hx hb hX hts (fun w h => (List.mem_cons_of_mem _ (List.mem_append_left _ (List.mem_append_right _ h)))) hown ho rfl 0 (by decide) (hts (.fieldLink RX0 14 "TuneCatalogue$Links" "partners" "LTuneCatalogue$Row;") (List.mem_cons_of_mem _ (List.mem_append_left _ (List.mem_append_left _ (List.mem_of_getElem? (i := 0) rfl))))) rfl dX0_toggle_22 ?_
  refine lv_iload_n hx hb dX0_toggle_25 rfl (lv_at hl 2 rfl) ?_
  refine lv_aload_n hx hb dX0_toggle_26 rfl (lv_at hl 0 rfl) ?_
  refine g_get hx hb hX hts (fun w h => (List.mem_cons_of_mem _ (List.mem_append_left _ (List.mem_append_right _ h)))) hown ho rfl 0 (by decide) (hts (.fieldLink RX0 14 "TuneCatalogue$Links" "partners" "LTuneCatalogue$Row;") (List.mem_cons_of_mem _ (List.mem_append_left _ (List.mem_append_left _ (List.mem_of_getElem? (i := 0) rfl))))) rfl dX0_toggle_27 ?_
  refine lv_iload_n hx hb dX0_toggle_30 rfl (lv_at hl 2 rfl) ?_
  refine g_goi (vx_runV (As := [.int (zI zj)]) (rest := [.int (zI zj), .ref r]) ⟨hx, hb, hml, hown, hts⟩ (k_at l G r b 16 n _ H_18 hr2 zj j (by omega) (by omega)) (cwV 1 hts gX0_toggle_X2_at rfl rfl rfl hd_X2_at ⟨(Nat.le_of_ble_eq_true rfl), (Nat.le_of_ble_eq_true rfl)⟩) (g_preV hX hS (ci := 2) rfl hr2.1) rfl rfl hl.1 rfl (lv_room (Nat.le_of_ble_eq_true rfl)) dX0_toggle_31 ⟨(Nat.le_of_ble_eq_true rfl), (Nat.le_of_ble_eq_true rfl)⟩) hS (fun r_31 H_31 locs hp hS => ?_)
  obtain ⟨hv, rfl⟩ := hp
  rw [show va_up lk i (lk i ^^^ 2 ^ j) j = lk j from if_neg (Ne.symm hij)] at hv
  subst hv
  refine lv_iload_n hx hb dX0_toggle_34 rfl (lv_at hl 1 rfl) ?_
  refine g_goi (vx_runS (As := [.int (zI zi)]) (rest := [.int (zI ((lk j : Nat) : Int)), .int (zI zj), .ref r]) ⟨hx, hb, hml, hown, hts⟩ (k_setOf l G H_18 zi i (by omega) (by omega)) (va_cwS 1 hts gX0_toggle_X0_setOf rfl rfl rfl hd_X0_setOf.2 ⟨(Nat.le_of_ble_eq_true rfl), (Nat.le_of_ble_eq_true rfl)⟩) (g_pre hX hS) rfl rfl hl.1 rfl (lv_room (Nat.le_of_ble_eq_true rfl)) dX0_toggle_35 ⟨(Nat.le_of_ble_eq_true rfl), (Nat.le_of_ble_eq_true rfl)⟩) hS (fun r_35 H_35 locs hp hS => ?_)
  obtain ⟨rfl, rfl⟩ := hp
  refine gz_ixor hx hb (lk j) (2 ^ i) (by omega) (by omega) dX0_toggle_38 ?_
  refine g_gov (vx_runV (As := [.int (zI zj), .int (zI (((lk j) ^^^ (2 ^ i) : Nat) : Int))]) (rest := []) ⟨hx, hb, hml, hown, hts⟩ (k_put l G r b 16 n _ H_18 hr2 zj j (zI (((lk j) ^^^ (2 ^ i) : Nat) : Int)) (by omega) (by omega)) (cwV 2 hts gX0_toggle_X2_put rfl rfl rfl hd_X2_put ⟨(Nat.le_of_ble_eq_true rfl), (Nat.le_of_ble_eq_true rfl)⟩) (g_preV hX hS (ci := 2) rfl hr2.1) rfl rfl hl.1 rfl (lv_room (Nat.le_of_ble_eq_true rfl)) dX0_toggle_39 ⟨(Nat.le_of_ble_eq_true rfl), (Nat.le_of_ble_eq_true rfl)⟩) hS (fun H_39 locs hp hS => ?_)
  obtain ⟨hr3, hO2⟩ := hp
  have ho := ho.only1 hO2 hab
  rw [zupN] at hr3
  exact g_retv hx hb hr hlocks hS (⟨⟨ho, hr3, har, hab⟩, hO1.trans hO2 (by intro q h; simp only [List.mem_cons, List.not_mem_nil, or_false] at h ⊢; omega) (by intro q h; simp only [List.mem_cons, List.not_mem_nil, or_false] at h ⊢; omega)⟩) (Nat.le_of_ble_eq_true rfl) (Nat.le_of_ble_eq_true rfl) dX0_toggle_42
set_option maxHeartbeats 4000000 in
set_option maxRecDepth 100000 in
theorem k_withPartners (l : Launch) (G : gG) (a r b n : Nat) (lk : Nat → Nat) (H : Heap) (hL : Lnk G a r b n lk H) (hlk : ∀ k, lk k < 65536) (zs : Int) (set : Nat) (hs : zs = set) (hset : set < 65536) : gM l yX0_withPartners wsX0_withPartners rm_X0_withPartners [.ref a, .int (zI zs)] G H (gi (fun r1 H1 => zI ((wpF lk set n : Nat) : Int) = r1 ∧ H = H1)) (gNo) 0 0 := by
  obtain ⟨ho, hr1, har, hab⟩ := id hL
  have hn16 : n ≤ 16 := hr1.2.2.1
  refine g_start (cc := cX0_withPartners) (maxL := 4) (ret := (some .int)) (by decide +kernel) rfl (Nat.le_of_ble_eq_true rfl) ?_
  intro p e s m args below meth c F ls hl
  obtain ⟨hx, hb, hml, hr, hts, hown, hlocks, hxt, hH, hX, hin⟩ := F
  have hown : s.vm.findClass RX0 = some m.cls := hown
  have hS : va_S (gA G) s.heap H [] := by rw [hH]; exact va_S.rf
  have hl : lv_has ls 4 [(0, .ref a), (1, .int (zI zs))] := hl
  refine lv_iload_n hx hb dX0_withPartners_0 rfl (lv_at hl 1 rfl) ?_
  refine lv_istore_n (lv' := [(2, .int (zI zs)), (0, .ref a), (1, .int (zI zs))]) hx hb dX0_withPartners_1 rfl hl (by decide) rfl (fun ls hl => ?_)
  refine lv_iconst (v := zI 0) hx hb dX0_withPartners_2 rfl ?_
  refine lv_istore_n (lv' := [(3, .int (zI 0)), (2, .int (zI zs)), (0, .ref a), (1, .int (zI zs))]) hx hb dX0_withPartners_3 rfl hl (by decide) rfl (fun ls hl => ?_)
  have loop_4 : ∀ (M_ : Nat) (y : Int) (k : Nat) (x : Int) (locs : List Loc), n - k < M_ → (y = k) → (k ≤ n) → (x = (wpF lk set k : Nat)) → va_S (gA G) s.heap H locs → ∀ (ls : Array Slot), lv_has ls 4 [(3, .int (zI y)), (2, .int (zI x)), (0, .ref a), (1, .int (zI zs))] → W p l e rm_X0_withPartners s m args below meth c H locs (0) (0) (vx_MQ below (gQ G (gi (fun r1 H1 => zI ((wpF lk set n : Nat) : Int) = r1 ∧ H = H1))) (gXC G (gNo)) args s 0 0 (gA G)) (F0 m 4 ls []) := by
    intro M_
    induction M_ with
    | zero => intro y k x locs_0 h_0; exact absurd h_0 (Nat.not_lt_zero _)
    | succ M_ ih_4 =>
      intro y k x locs hM_4 hy hkn hxw hS ls hl
      refine lv_iload_n hx hb dX0_withPartners_4 rfl (lv_at hl 0 rfl) ?_
      refine lv_aload_n hx hb dX0_withPartners_5 rfl (lv_at hl 2 rfl) ?_
      refine g_get hx hb hX hts (fun w h => (List.mem_cons_of_mem _ (List.mem_append_left _ (List.mem_append_right _ h)))) hown ho rfl 0 (by decide) (hts (.fieldLink RX0 14 "TuneCatalogue$Links" "partners" "LTuneCatalogue$Row;") (List.mem_cons_of_mem _ (List.mem_append_left _ (List.mem_append_left _ (List.mem_of_getElem? (i := 0) rfl))))) rfl dX0_withPartners_6 ?_
      refine g_goi (vx_runV (As := []) (rest := [.int (zI y)]) ⟨hx, hb, hml, hown, hts⟩ (k_size l G r b 16 n _ H hr1) (cwV 0 hts gX0_withPartners_X2_size rfl rfl rfl hd_X2_size ⟨(Nat.le_of_ble_eq_true rfl), (Nat.le_of_ble_eq_true rfl)⟩) (g_preV hX hS (ci := 2) rfl hr1.1) rfl rfl hl.1 rfl (lv_room (Nat.le_of_ble_eq_true rfl)) dX0_withPartners_9 ⟨(Nat.le_of_ble_eq_true rfl), (Nat.le_of_ble_eq_true rfl)⟩) hS (fun r_9 H_9 locs hp hS => ?_)
      obtain ⟨rfl, rfl⟩ := hp
      refine gz_icmp_ge (tgt := 41) hx hb ⟨by omega, by omega⟩ ⟨by omega, by omega⟩ dX0_withPartners_12 (by decide) (fun c_12 => ?_) (fun c_12 => ?_)
      · refine lv_iload_n hx hb dX0_withPartners_41 rfl (lv_at hl 1 rfl) ?_
        exact g_reti hx hb hr hlocks hS rfl (⟨by rw [hxw, show k = n by omega], rfl⟩) (Nat.le_of_ble_eq_true rfl) (Nat.le_of_ble_eq_true rfl) dX0_withPartners_42
      · refine lv_iload_n hx hb dX0_withPartners_15 rfl (lv_at hl 3 rfl) ?_
        refine lv_iload_n hx hb dX0_withPartners_16 rfl (lv_at hl 0 rfl) ?_
        refine g_goi (vx_runS (As := [.int (zI y)]) (rest := [.int (zI zs)]) ⟨hx, hb, hml, hown, hts⟩ (k_setOf l G H y k (by omega) (by omega)) (va_cwS 1 hts gX0_withPartners_X0_setOf rfl rfl rfl hd_X0_setOf.2 ⟨(Nat.le_of_ble_eq_true rfl), (Nat.le_of_ble_eq_true rfl)⟩) (g_pre hX hS) rfl rfl hl.1 rfl (lv_room (Nat.le_of_ble_eq_true rfl)) dX0_withPartners_17 ⟨(Nat.le_of_ble_eq_true rfl), (Nat.le_of_ble_eq_true rfl)⟩) hS (fun r_17 H_17 locs hp hS => ?_)
        obtain ⟨rfl, rfl⟩ := hp
        refine gz_iand hx hb set (2 ^ k) (by omega) (by omega) dX0_withPartners_20 ?_
        refine gz_if_eq (tgt := 35) hx hb (by have h1 : set &&& 2 ^ k ≤ set := Nat.and_le_left; exact ⟨by omega, by omega⟩) dX0_withPartners_21 (by decide) (fun c_21 => ?_) (fun c_21 => ?_)
        · have hx2 : x = (wpF lk set (k + 1) : Nat) := by
            rw [wpF]
            first
            | (rw [if_pos (by cases h : set.testBit k; exact absurd (congrArg Int.ofNat ((and2_0 _ _).mpr h)) c_21; rfl)]; done)
            | (rw [if_neg (by rw [(and2_0 set k).mp (Int.ofNat.inj c_21)]; decide)]; exact hxw)
          refine lv_iinc (v := zI (y + 1)) (lv' := [(3, .int (zI (y + 1))), (2, .int (zI x)), (0, .ref a), (1, .int (zI zs))]) hx hb dX0_withPartners_35 hl (k := 0) rfl (zI_add _ _) (by decide) rfl (fun ls hl => ?_)
          refine lv_goto (tgt := 4) hx hb dX0_withPartners_38 (by decide) ?_
          exact ih_4 (y + 1) (k + 1) x _ (by omega) (by omega) (by omega) hx2 hS ls (lv_sub hl [0, 1, 2, 3] rfl)
        · refine lv_iload_n hx hb dX0_withPartners_24 rfl (lv_at hl 1 rfl) ?_
          refine lv_aload_n hx hb dX0_withPartners_25 rfl (lv_at hl 2 rfl) ?_
          refine g_get hx hb hX hts (fun w h => (List.mem_cons_of_mem _ (List.mem_append_left _ (List.mem_append_right _ h)))) hown ho rfl 0 (by decide) (hts (.fieldLink RX0 14 "TuneCatalogue$Links" "partners" "LTuneCatalogue$Row;") (List.mem_cons_of_mem _ (List.mem_append_left _ (List.mem_append_left _ (List.mem_of_getElem? (i := 0) rfl))))) rfl dX0_withPartners_26 ?_
          refine lv_iload_n hx hb dX0_withPartners_29 rfl (lv_at hl 0 rfl) ?_
          refine g_goi (vx_runV (As := [.int (zI y)]) (rest := [.int (zI x)]) ⟨hx, hb, hml, hown, hts⟩ (k_at l G r b 16 n _ H hr1 y k (by omega) (by omega)) (cwV 1 hts gX0_withPartners_X2_at rfl rfl rfl hd_X2_at ⟨(Nat.le_of_ble_eq_true rfl), (Nat.le_of_ble_eq_true rfl)⟩) (g_preV hX hS (ci := 2) rfl hr1.1) rfl rfl hl.1 rfl (lv_room (Nat.le_of_ble_eq_true rfl)) dX0_withPartners_30 ⟨(Nat.le_of_ble_eq_true rfl), (Nat.le_of_ble_eq_true rfl)⟩) hS (fun r_30 H_30 locs hp hS => ?_)
          obtain ⟨rfl, rfl⟩ := hp
          refine gz_ior hx hb (wpF lk set k) (lk k) (by omega) (by omega) dX0_withPartners_33 ?_
          refine lv_istore_n (lv' := [(2, .int (zI (((wpF lk set k) ||| (lk k) : Nat) : Int))), (3, .int (zI y)), (0, .ref a), (1, .int (zI zs))]) hx hb dX0_withPartners_34 rfl hl (by decide) rfl (fun ls hl => ?_)
          have hx2 : (((wpF lk set k) ||| (lk k) : Nat) : Int) = (wpF lk set (k + 1) : Nat) := by
            rw [wpF]
            first
            | (rw [if_pos (by cases h : set.testBit k; exact absurd (congrArg Int.ofNat ((and2_0 _ _).mpr h)) c_21; rfl)]; done)
            | (rw [if_neg (by rw [(and2_0 set k).mp (Int.ofNat.inj c_21)]; decide)]; exact hxw)
          refine lv_iinc (v := zI (y + 1)) (lv' := [(3, .int (zI (y + 1))), (2, .int (zI (((wpF lk set k) ||| (lk k) : Nat) : Int))), (0, .ref a), (1, .int (zI zs))]) hx hb dX0_withPartners_35 hl (k := 1) rfl (zI_add _ _) (by decide) rfl (fun ls hl => ?_)
          refine lv_goto (tgt := 4) hx hb dX0_withPartners_38 (by decide) ?_
          exact ih_4 (y + 1) (k + 1) (((wpF lk set k) ||| (lk k) : Nat) : Int) _ (by omega) (by omega) (by omega) hx2 hS ls (lv_sub hl [0, 1, 2, 3] rfl)
  exact loop_4 _ 0 0 zs _ (Nat.lt_succ_self _) rfl (Nat.zero_le _) hs hS ls (lv_sub hl [0, 1, 2, 3] rfl)
set_option maxHeartbeats 4000000 in
set_option maxRecDepth 100000 in
theorem k_lowestOfFamily (l : Launch) (G : gG) (a r b n : Nat) (lk : Nat → Nat) (H : Heap) (hL : Lnk G a r b n lk H) (hlk : ∀ k, lk k < 65536) (zt : Int) (t : Nat) (ht : zt = t) (htn : t < n) : gM l yX0_lowestOfFamily wsX0_lowestOfFamily rm_X0_lowestOfFamily [.ref a, .int (zI zt)] G H (gi (fun r1 H1 => zI ((famL lk n t : Nat) : Int) = r1 ∧ H = H1)) (gNo) 0 0 := by
  obtain ⟨ho, hr1, har, hab⟩ := id hL
  have hn16 : n ≤ 16 := hr1.2.2.1
  refine g_start (cc := cX0_lowestOfFamily) (maxL := 4) (ret := (some .int)) (by decide +kernel) rfl (Nat.le_of_ble_eq_true rfl) ?_
  intro p e s m args below meth c F ls hl
  obtain ⟨hx, hb, hml, hr, hts, hown, hlocks, hxt, hH, hX, hin⟩ := F
  have hown : s.vm.findClass RX0 = some m.cls := hown
  have hS : va_S (gA G) s.heap H [] := by rw [hH]; exact va_S.rf
  have hl : lv_has ls 4 [(0, .ref a), (1, .int (zI zt))] := hl
  refine lv_iload_n hx hb dX0_lowestOfFamily_0 rfl (lv_at hl 1 rfl) ?_
  refine g_goi (vx_runS (As := [.int (zI zt)]) (rest := []) ⟨hx, hb, hml, hown, hts⟩ (k_setOf l G H zt t (by omega) (by omega)) (va_cwS 1 hts gX0_lowestOfFamily_X0_setOf rfl rfl rfl hd_X0_setOf.2 ⟨(Nat.le_of_ble_eq_true rfl), (Nat.le_of_ble_eq_true rfl)⟩) (g_pre hX hS) rfl rfl hl.1 rfl (lv_room (Nat.le_of_ble_eq_true rfl)) dX0_lowestOfFamily_1 ⟨(Nat.le_of_ble_eq_true rfl), (Nat.le_of_ble_eq_true rfl)⟩) hS (fun r_1 H_1 locs hp hS => ?_)
  obtain ⟨rfl, rfl⟩ := hp
  refine lv_istore_n (lv' := [(2, .int (zI ((2 ^ t : Nat) : Int))), (0, .ref a), (1, .int (zI zt))]) hx hb dX0_lowestOfFamily_4 rfl hl (by decide) rfl (fun ls hl => ?_)
  refine lv_iconst (v := zI 1) hx hb dX0_lowestOfFamily_5 rfl ?_
  refine lv_istore_n (lv' := [(3, .int (zI 1)), (2, .int (zI ((2 ^ t : Nat) : Int))), (0, .ref a), (1, .int (zI zt))]) hx hb dX0_lowestOfFamily_6 rfl hl (by decide) rfl (fun ls hl => ?_)
  have loop_7 : ∀ (M_ : Nat) (y : Int) (k : Nat) (x : Int) (locs : List Loc), n - k < M_ → (y = k) → (1 ≤ k ∧ (k ≤ n ∨ k = 1)) → (x = (itW lk n (k - 1) (2 ^ t) : Nat)) → va_S (gA G) s.heap H locs → ∀ (ls : Array Slot), lv_has ls 4 [(3, .int (zI y)), (2, .int (zI x)), (0, .ref a), (1, .int (zI zt))] → W p l e rm_X0_lowestOfFamily s m args below meth c H locs (0) (0) (vx_MQ below (gQ G (gi (fun r1 H1 => zI ((famL lk n t : Nat) : Int) = r1 ∧ H = H1))) (gXC G (gNo)) args s 0 0 (gA G)) (F0 m 7 ls []) := by
    intro M_
    induction M_ with
    | zero => intro y k x locs_0 h_0; exact absurd h_0 (Nat.not_lt_zero _)
    | succ M_ ih_7 =>
      intro y k x locs hM_7 hy hk1 hxR hS ls hl
      refine lv_iload_n hx hb dX0_lowestOfFamily_7 rfl (lv_at hl 0 rfl) ?_
      refine lv_aload_n hx hb dX0_lowestOfFamily_8 rfl (lv_at hl 2 rfl) ?_
      refine g_get hx hb hX hts (fun w h => (List.mem_cons_of_mem _ (List.mem_append_left _ (List.mem_append_right _ h)))) hown ho rfl 0 (by decide) (hts (.fieldLink RX0 14 "TuneCatalogue$Links" "partners" "LTuneCatalogue$Row;") (List.mem_cons_of_mem _ (List.mem_append_left _ (List.mem_append_left _ (List.mem_of_getElem? (i := 0) rfl))))) rfl dX0_lowestOfFamily_9 ?_
      refine g_goi (vx_runV (As := []) (rest := [.int (zI y)]) ⟨hx, hb, hml, hown, hts⟩ (k_size l G r b 16 n _ H hr1) (cwV 0 hts gX0_lowestOfFamily_X2_size rfl rfl rfl hd_X2_size ⟨(Nat.le_of_ble_eq_true rfl), (Nat.le_of_ble_eq_true rfl)⟩) (g_preV hX hS (ci := 2) rfl hr1.1) rfl rfl hl.1 rfl (lv_room (Nat.le_of_ble_eq_true rfl)) dX0_lowestOfFamily_12 ⟨(Nat.le_of_ble_eq_true rfl), (Nat.le_of_ble_eq_true rfl)⟩) hS (fun r_12 H_12 locs hp hS => ?_)
      obtain ⟨rfl, rfl⟩ := hp
      refine gz_icmp_ge (tgt := 30) hx hb ⟨by omega, by omega⟩ ⟨by omega, by omega⟩ dX0_lowestOfFamily_15 (by decide) (fun c_15 => ?_) (fun c_15 => ?_)
      · refine lv_iconst (v := zI 0) hx hb dX0_lowestOfFamily_30 rfl ?_
        refine lv_istore_n (lv' := [(3, .int (zI 0)), (2, .int (zI x)), (0, .ref a), (1, .int (zI zt))]) hx hb dX0_lowestOfFamily_31 rfl hl (by decide) rfl (fun ls hl => ?_)
        have hxR : x = (itW lk n (n - 1) (2 ^ t) : Nat) := by
          rw [hxR]
          rcases hk1.2 with h | h
          · rw [show k = n by omega]
          · rw [h, show n - 1 = 1 - 1 by omega]
        have hRlt : itW lk n (n - 1) (2 ^ t) < 65536 := itW_lt hlk n (p2_lt (by omega)) _
        have loop_32 : ∀ (M_ : Nat) (y : Int) (j : Nat) (locs : List Loc), t - j < M_ → (y = j) → (j ≤ t) → (loB (itW lk n (n - 1) (2 ^ t)) 0 t = j + loB (itW lk n (n - 1) (2 ^ t)) j (t - j)) → va_S (gA G) s.heap H locs → ∀ (ls : Array Slot), lv_has ls 4 [(3, .int (zI y)), (2, .int (zI x)), (0, .ref a), (1, .int (zI zt))] → W p l e rm_X0_lowestOfFamily s m args below meth c H locs (0) (0) (vx_MQ below (gQ G (gi (fun r1 H1 => zI ((famL lk n t : Nat) : Int) = r1 ∧ H = H1))) (gXC G (gNo)) args s 0 0 (gA G)) (F0 m 32 ls []) := by
          intro M_
          induction M_ with
          | zero => intro y j locs_0 h_0; exact absurd h_0 (Nat.not_lt_zero _)
          | succ M_ ih_32 =>
            intro y j locs hM_32 hy hjt hlo hS ls hl
            refine lv_iload_n hx hb dX0_lowestOfFamily_32 rfl (lv_at hl 0 rfl) ?_
            refine lv_iload_n hx hb dX0_lowestOfFamily_33 rfl (lv_at hl 3 rfl) ?_
            refine gz_icmp_ge (tgt := 52) hx hb ⟨by omega, by omega⟩ ⟨by omega, by omega⟩ dX0_lowestOfFamily_34 (by decide) (fun c_34 => ?_) (fun c_34 => ?_)
            · refine lv_iload_n hx hb dX0_lowestOfFamily_52 rfl (lv_at hl 0 rfl) ?_
              exact g_reti hx hb hr hlocks hS rfl (⟨by
                  unfold famL
                  rw [hlo]
                  first
                  | (rw [show t - j = 0 by omega, loB, hy]; rfl)
                  | (rw [show t - j = (t - (j + 1)) + 1 by omega, loB, if_pos (by cases h : (itW lk n (n - 1) (2 ^ t)).testBit j; exact absurd (congrArg Int.ofNat ((and2_0 _ _).mpr h)) c_43; rfl), hy]; rfl), rfl⟩) (Nat.le_of_ble_eq_true rfl) (Nat.le_of_ble_eq_true rfl) dX0_lowestOfFamily_53
            · refine lv_iload_n hx hb dX0_lowestOfFamily_37 rfl (lv_at hl 1 rfl) ?_
              refine lv_iload_n hx hb dX0_lowestOfFamily_38 rfl (lv_at hl 0 rfl) ?_
              refine g_goi (vx_runS (As := [.int (zI y)]) (rest := [.int (zI x)]) ⟨hx, hb, hml, hown, hts⟩ (k_setOf l G H y j (by omega) (by omega)) (va_cwS 1 hts gX0_lowestOfFamily_X0_setOf rfl rfl rfl hd_X0_setOf.2 ⟨(Nat.le_of_ble_eq_true rfl), (Nat.le_of_ble_eq_true rfl)⟩) (g_pre hX hS) rfl rfl hl.1 rfl (lv_room (Nat.le_of_ble_eq_true rfl)) dX0_lowestOfFamily_39 ⟨(Nat.le_of_ble_eq_true rfl), (Nat.le_of_ble_eq_true rfl)⟩) hS (fun r_39 H_39 locs hp hS => ?_)
              obtain ⟨rfl, rfl⟩ := hp
              refine gz_iand hx hb (itW lk n (n - 1) (2 ^ t)) (2 ^ j) (by omega) (by omega) dX0_lowestOfFamily_42 ?_
              refine gz_if_ne (tgt := 52) hx hb (by have h1 : itW lk n (n - 1) (2 ^ t) &&& 2 ^ j ≤ itW lk n (n - 1) (2 ^ t) := Nat.and_le_left; exact ⟨by omega, by omega⟩) dX0_lowestOfFamily_43 (by decide) (fun c_43 => ?_) (fun c_43 => ?_)
              · refine lv_iload_n hx hb dX0_lowestOfFamily_52 rfl (lv_at hl 0 rfl) ?_
                exact g_reti hx hb hr hlocks hS rfl (⟨by
                    unfold famL
                    rw [hlo]
                    first
                    | (rw [show t - j = 0 by omega, loB, hy]; rfl)
                    | (rw [show t - j = (t - (j + 1)) + 1 by omega, loB, if_pos (by cases h : (itW lk n (n - 1) (2 ^ t)).testBit j; exact absurd (congrArg Int.ofNat ((and2_0 _ _).mpr h)) c_43; rfl), hy]; rfl), rfl⟩) (Nat.le_of_ble_eq_true rfl) (Nat.le_of_ble_eq_true rfl) dX0_lowestOfFamily_53
              · have hlo2 : loB (itW lk n (n - 1) (2 ^ t)) 0 t = (j + 1) + loB (itW lk n (n - 1) (2 ^ t)) (j + 1) (t - (j + 1)) := by
                  rw [hlo, show t - j = (t - (j + 1)) + 1 by omega, loB, if_neg (by rw [(and2_0 _ j).mp (Int.ofNat.inj (Classical.not_not.mp c_43))]; decide)]; omega
                refine lv_iinc (v := zI (y + 1)) (lv' := [(3, .int (zI (y + 1))), (2, .int (zI x)), (0, .ref a), (1, .int (zI zt))]) hx hb dX0_lowestOfFamily_46 hl (k := 0) rfl (zI_add _ _) (by decide) rfl (fun ls hl => ?_)
                refine lv_goto (tgt := 32) hx hb dX0_lowestOfFamily_49 (by decide) ?_
                exact ih_32 (y + 1) (j + 1) _ (by omega) (by omega) (by omega) hlo2 hS ls (lv_sub hl [0, 1, 2, 3] rfl)
        exact loop_32 _ 0 0 _ (Nat.lt_succ_self _) rfl (Nat.zero_le _) (by rw [Nat.zero_add, Nat.sub_zero]) hS ls (lv_sub hl [0, 1, 2, 3] rfl)
      · refine lv_aload_n hx hb dX0_lowestOfFamily_18 rfl (lv_at hl 2 rfl) ?_
        refine lv_iload_n hx hb dX0_lowestOfFamily_19 rfl (lv_at hl 1 rfl) ?_
        refine g_goi (vx_runV (As := [.int (zI x)]) (rest := []) ⟨hx, hb, hml, hown, hts⟩ (k_withPartners l G a r b n lk H hL hlk x (itW lk n (k - 1) (2 ^ t)) hxR (itW_lt hlk n (p2_lt (by omega)) _)) (cwV 1 hts gX0_lowestOfFamily_X0_withPartners rfl rfl rfl hd_X0_withPartners ⟨(Nat.le_of_ble_eq_true rfl), (Nat.le_of_ble_eq_true rfl)⟩) (g_preV hX hS (ci := 0) rfl ho) rfl rfl hl.1 rfl (lv_room (Nat.le_of_ble_eq_true rfl)) dX0_lowestOfFamily_20 ⟨(Nat.le_of_ble_eq_true rfl), (Nat.le_of_ble_eq_true rfl)⟩) hS (fun r_20 H_20 locs hp hS => ?_)
        obtain ⟨rfl, rfl⟩ := hp
        refine lv_istore_n (lv' := [(2, .int (zI ((wpF lk (itW lk n (k - 1) (2 ^ t)) n : Nat) : Int))), (3, .int (zI y)), (0, .ref a), (1, .int (zI zt))]) hx hb dX0_lowestOfFamily_23 rfl hl (by decide) rfl (fun ls hl => ?_)
        refine lv_iinc (v := zI (y + 1)) (lv' := [(3, .int (zI (y + 1))), (2, .int (zI ((wpF lk (itW lk n (k - 1) (2 ^ t)) n : Nat) : Int))), (0, .ref a), (1, .int (zI zt))]) hx hb dX0_lowestOfFamily_24 hl (k := 1) rfl (zI_add _ _) (by decide) rfl (fun ls hl => ?_)
        refine lv_goto (tgt := 7) hx hb dX0_lowestOfFamily_27 (by decide) ?_
        exact ih_7 (y + 1) (k + 1) _ _ (by omega) (by omega) ⟨by omega, Or.inl (by omega)⟩ (by rw [show k + 1 - 1 = (k - 1) + 1 by omega, itW]) hS ls (lv_sub hl [0, 1, 2, 3] rfl)
  exact loop_7 _ 1 1 ((2 ^ t : Nat) : Int) _ (Nat.lt_succ_self _) rfl ⟨Nat.le_refl _, Or.inr rfl⟩ rfl hS ls (lv_sub hl [0, 1, 2, 3] rfl)
set_option maxHeartbeats 4000000 in
set_option maxRecDepth 100000 in
theorem k_countFamilies (l : Launch) (G : gG) (a r b n : Nat) (lk : Nat → Nat) (H : Heap) (hL : Lnk G a r b n lk H) (hlk : ∀ k, lk k < 65536) : gM l yX0_countFamilies wsX0_countFamilies rm_X0_countFamilies [.ref a] G H (gi (fun r1 H1 => zI ((famC lk n n : Nat) : Int) = r1 ∧ H = H1)) (gNo) 0 0 := by
  obtain ⟨ho, hr1, har, hab⟩ := id hL
  have hn16 : n ≤ 16 := hr1.2.2.1
  refine g_start (cc := cX0_countFamilies) (maxL := 3) (ret := (some .int)) (by decide +kernel) rfl (Nat.le_of_ble_eq_true rfl) ?_
  intro p e s m args below meth c F ls hl
  obtain ⟨hx, hb, hml, hr, hts, hown, hlocks, hxt, hH, hX, hin⟩ := F
  have hown : s.vm.findClass RX0 = some m.cls := hown
  have hS : va_S (gA G) s.heap H [] := by rw [hH]; exact va_S.rf
  have hl : lv_has ls 3 [(0, .ref a)] := hl
  refine lv_iconst (v := zI 0) hx hb dX0_countFamilies_0 rfl ?_
  refine lv_istore_n (lv' := [(1, .int (zI 0)), (0, .ref a)]) hx hb dX0_countFamilies_1 rfl hl (by decide) rfl (fun ls hl => ?_)
  refine lv_iconst (v := zI 0) hx hb dX0_countFamilies_2 rfl ?_
  refine lv_istore_n (lv' := [(2, .int (zI 0)), (1, .int (zI 0)), (0, .ref a)]) hx hb dX0_countFamilies_3 rfl hl (by decide) rfl (fun ls hl => ?_)
  have loop_4 : ∀ (M_ : Nat) (y : Int) (k : Nat) (x : Int) (locs : List Loc), n - k < M_ → (y = k) → (k ≤ n) → (x = (famC lk n k : Nat)) → va_S (gA G) s.heap H locs → ∀ (ls : Array Slot), lv_has ls 3 [(2, .int (zI y)), (1, .int (zI x)), (0, .ref a)] → W p l e rm_X0_countFamilies s m args below meth c H locs (0) (0) (vx_MQ below (gQ G (gi (fun r1 H1 => zI ((famC lk n n : Nat) : Int) = r1 ∧ H = H1))) (gXC G (gNo)) args s 0 0 (gA G)) (F0 m 4 ls []) := by
    intro M_
    induction M_ with
    | zero => intro y k x locs_0 h_0; exact absurd h_0 (Nat.not_lt_zero _)
    | succ M_ ih_4 =>
      intro y k x locs hM_4 hy hkn hxw hS ls hl
      have hfl := famC_le lk n k
      have hll : famL lk n k ≤ k := loB_le _ _ _
      refine lv_iload_n hx hb dX0_countFamilies_4 rfl (lv_at hl 0 rfl) ?_
      refine lv_aload_n hx hb dX0_countFamilies_5 rfl (lv_at hl 2 rfl) ?_
      refine g_get hx hb hX hts (fun w h => (List.mem_cons_of_mem _ (List.mem_append_left _ (List.mem_append_right _ h)))) hown ho rfl 0 (by decide) (hts (.fieldLink RX0 14 "TuneCatalogue$Links" "partners" "LTuneCatalogue$Row;") (List.mem_cons_of_mem _ (List.mem_append_left _ (List.mem_append_left _ (List.mem_of_getElem? (i := 0) rfl))))) rfl dX0_countFamilies_6 ?_
      refine g_goi (vx_runV (As := []) (rest := [.int (zI y)]) ⟨hx, hb, hml, hown, hts⟩ (k_size l G r b 16 n _ H hr1) (cwV 0 hts gX0_countFamilies_X2_size rfl rfl rfl hd_X2_size ⟨(Nat.le_of_ble_eq_true rfl), (Nat.le_of_ble_eq_true rfl)⟩) (g_preV hX hS (ci := 2) rfl hr1.1) rfl rfl hl.1 rfl (lv_room (Nat.le_of_ble_eq_true rfl)) dX0_countFamilies_9 ⟨(Nat.le_of_ble_eq_true rfl), (Nat.le_of_ble_eq_true rfl)⟩) hS (fun r_9 H_9 locs hp hS => ?_)
      obtain ⟨rfl, rfl⟩ := hp
      refine gz_icmp_ge (tgt := 33) hx hb ⟨by omega, by omega⟩ ⟨by omega, by omega⟩ dX0_countFamilies_12 (by decide) (fun c_12 => ?_) (fun c_12 => ?_)
      · refine lv_iload_n hx hb dX0_countFamilies_33 rfl (lv_at hl 1 rfl) ?_
        exact g_reti hx hb hr hlocks hS rfl (⟨by rw [hxw, show k = n by omega], rfl⟩) (Nat.le_of_ble_eq_true rfl) (Nat.le_of_ble_eq_true rfl) dX0_countFamilies_34
      · refine lv_aload_n hx hb dX0_countFamilies_15 rfl (lv_at hl 2 rfl) ?_
        refine lv_iload_n hx hb dX0_countFamilies_16 rfl (lv_at hl 0 rfl) ?_
        refine g_goi (vx_runV (As := [.int (zI y)]) (rest := []) ⟨hx, hb, hml, hown, hts⟩ (k_lowestOfFamily l G a r b n lk H hL hlk y k (by omega) (by omega)) (cwV 1 hts gX0_countFamilies_X0_lowestOfFamily rfl rfl rfl hd_X0_lowestOfFamily ⟨(Nat.le_of_ble_eq_true rfl), (Nat.le_of_ble_eq_true rfl)⟩) (g_preV hX hS (ci := 0) rfl ho) rfl rfl hl.1 rfl (lv_room (Nat.le_of_ble_eq_true rfl)) dX0_countFamilies_17 ⟨(Nat.le_of_ble_eq_true rfl), (Nat.le_of_ble_eq_true rfl)⟩) hS (fun r_17 H_17 locs hp hS => ?_)
        obtain ⟨rfl, rfl⟩ := hp
        refine lv_iload_n hx hb dX0_countFamilies_20 rfl (lv_at hl 0 rfl) ?_
        refine gz_icmp_ne (tgt := 27) hx hb ⟨by omega, by omega⟩ ⟨by omega, by omega⟩ dX0_countFamilies_21 (by decide) (fun c_21 => ?_) (fun c_21 => ?_)
        · have hx2 : x = (famC lk n (k + 1) : Nat) := by
            rw [famC]
            first | (rw [if_pos (by omega)]; omega) | (rw [if_neg (by omega)]; omega)
          refine lv_iinc (v := zI (y + 1)) (lv' := [(2, .int (zI (y + 1))), (1, .int (zI x)), (0, .ref a)]) hx hb dX0_countFamilies_27 hl (k := 0) rfl (zI_add _ _) (by decide) rfl (fun ls hl => ?_)
          refine lv_goto (tgt := 4) hx hb dX0_countFamilies_30 (by decide) ?_
          exact ih_4 (y + 1) (k + 1) x _ (by omega) (by omega) (by omega) hx2 hS ls (lv_sub hl [0, 1, 2] rfl)
        · refine lv_iinc (v := zI (x + 1)) (lv' := [(1, .int (zI (x + 1))), (2, .int (zI y)), (0, .ref a)]) hx hb dX0_countFamilies_24 hl (k := 1) rfl (zI_add _ _) (by decide) rfl (fun ls hl => ?_)
          have hx2 : x + 1 = (famC lk n (k + 1) : Nat) := by
            rw [famC]
            first | (rw [if_pos (by omega)]; omega) | (rw [if_neg (by omega)]; omega)
          refine lv_iinc (v := zI (y + 1)) (lv' := [(2, .int (zI (y + 1))), (1, .int (zI (x + 1))), (0, .ref a)]) hx hb dX0_countFamilies_27 hl (k := 1) rfl (zI_add _ _) (by decide) rfl (fun ls hl => ?_)
          refine lv_goto (tgt := 4) hx hb dX0_countFamilies_30 (by decide) ?_
          exact ih_4 (y + 1) (k + 1) (x + 1) _ (by omega) (by omega) (by omega) hx2 hS ls (lv_sub hl [0, 1, 2] rfl)
  exact loop_4 _ 0 0 0 _ (Nat.lt_succ_self _) rfl (Nat.zero_le _) rfl hS ls (lv_sub hl [0, 1, 2] rfl)
set_option maxHeartbeats 4000000 in
set_option maxRecDepth 100000 in
theorem k_Links_init (l : Launch) (G : gG) (a : Nat) (H : Heap) (ho : gat G a (.inr (0, [.null])) H) (ga : gB G ≤ a) : gM l yX0_init wsX0_init rm_X0_init [.ref a] G H (gv (fun H1 => ∃ r b, H.size ≤ r ∧ r < b ∧ b < H1.size ∧ Lnk G a r b 0 (fun _ => 0) H1 ∧ gGrow [a] H H1)) (gNo) 2 386 := by
  have ha_lt : a < H.size := va_at.lt ho
  refine g_start (cc := cX0_init) (maxL := 1) (ret := none) (by decide +kernel) rfl (Nat.le_of_ble_eq_true rfl) ?_
  intro p e s m args below meth c F ls hl
  obtain ⟨hx, hb, hml, hr, hts, hown, hlocks, hxt, hH, hX, hin⟩ := F
  have hown : s.vm.findClass RX0 = some m.cls := hown
  have hS : va_S (gA G) s.heap H [] := by rw [hH]; exact va_S.rf
  have hl : lv_has ls 1 [(0, .ref a)] := hl
  refine lv_aload_n hx hb dX0_init_0 rfl (lv_at hl 0 rfl) ?_
  refine W.objInit hx hb hown (hts (.methodLink RX0 3 objectInit) (List.mem_cons_of_mem _ (List.mem_append_left _ (List.mem_append_left _ (List.mem_of_getElem? (i := 0) rfl))))) (hts (.instanceMethod objectInit) (List.mem_cons_of_mem _ (List.mem_append_left _ (List.mem_append_left _ (List.mem_of_getElem? (i := 1) rfl))))) (hts _ (List.mem_cons_of_mem _ (List.mem_append_left _ (List.mem_append_left _ (List.mem_of_getElem? (i := 2) rfl))))) rfl (by rw [hml]; exact hl.1) rfl dX0_init_1 (Nat.le_of_ble_eq_true rfl) (Nat.le_of_ble_eq_true rfl) ?_
  refine W.eq (g2 := F0 m 4 ls []) rfl ?_
  refine lv_aload_n hx hb dX0_init_4 rfl (lv_at hl 0 rfl) ?_
  refine g_new hx hb hX hts (fun w h => (List.mem_cons_of_mem _ (List.mem_append_left _ (List.mem_append_right _ h)))) tyX2 tyX2_ok hown (hts (.classLink RX0 9 RX2) (List.mem_cons_of_mem _ (List.mem_append_left _ (List.mem_append_left _ (List.mem_of_getElem? (i := 3) rfl))))) (hts (.instantiable RX2 2) (List.mem_cons_of_mem _ (List.mem_append_left _ (List.mem_append_left _ (List.mem_of_getElem? (i := 4) rfl))))) (hts (.initialized RX2) (List.mem_cons_of_mem _ (List.mem_append_left _ (List.mem_append_left _ (List.mem_of_getElem? (i := 5) rfl))))) hS (ci := 2) rfl (fs := [.null, .int (zI 0)]) (fun j hj => by rcases (show j = 0 ∨ j = 1 by omega) with rfl | rfl <;> rfl) (Nat.le_of_ble_eq_true rfl) (Nat.le_of_ble_eq_true rfl) dX0_init_5 (fun H_5 q_5 eq_5 hq_5 gq_5 zq_5 hE hS => ?_)
  have ho := gat.ext ho hE
  have hE5 := hE
  refine lv_dup hx hb dX0_init_8 rfl ?_
  refine lv_bipush (v := zI 16) hx hb dX0_init_9 (by decide +kernel) ?_
  refine g_gov (vx_runI (As := [.int (zI 16)]) (rest := [.ref q_5, .ref a]) ⟨hx, hb, hml, hown, hts⟩ (k_Row_init l G q_5 16 (16 : Int) H_5 hq_5 gq_5 rfl (by decide)) (cwI 1 hts gX0_init_X2_init rfl rfl rfl (hts (.initialized RX2) (List.mem_cons_of_mem _ (List.mem_append_left _ (List.mem_append_left _ (List.mem_of_getElem? (i := 5) rfl))))) (hts (.methodLink RX0 11 yX2_init) (List.mem_cons_of_mem _ (List.mem_append_left _ (List.mem_append_left _ (List.mem_of_getElem? (i := 7) rfl))))) (hts (.instanceMethod yX2_init) (List.mem_cons_of_mem _ (List.mem_append_left _ (List.mem_append_left _ (List.mem_of_getElem? (i := 8) rfl))))) rfl hd_X2_init.2 ⟨(Nat.le_of_ble_eq_true rfl), (Nat.le_of_ble_eq_true rfl)⟩) (g_pre hX hS) rfl rfl hl.1 rfl (lv_room (Nat.le_of_ble_eq_true rfl)) dX0_init_11 ⟨(Nat.le_of_ble_eq_true rfl), (Nat.le_of_ble_eq_true rfl)⟩) hS (fun H_11 locs hp hS => ?_)
  obtain ⟨b1, hb1, hb1s, hr1, hg1⟩ := hp
  have ho := ho.grow hg1 (nm1 (by omega))
  refine g_putF hx hb hX hts (fun w h => (List.mem_cons_of_mem _ (List.mem_append_right _ h))) tyX0 tyX0_ok nmX0 hown hS ho ga rfl 0 (by decide) (hts (.fieldLink RX0 14 "TuneCatalogue$Links" "partners" "LTuneCatalogue$Row;") (List.mem_cons_of_mem _ (List.mem_append_left _ (List.mem_append_left _ (List.mem_of_getElem? (i := 6) rfl))))) rfl hin rfl (ty := tyX0 0) rfl rfl rfl (Nat.le_of_ble_eq_true rfl) dX0_init_14 (fun H_14 locs h_n hO hS => ?_)
  have hr1 := hr1.only hO (nm1 (by omega)) (nm1 (by omega))
  have ho : gat G a (.inr (0, [.ref q_5])) H_14 := h_n
  have hO14 := hO.1
  exact g_retv hx hb hr hlocks hS (⟨q_5, b1, by omega, by omega, by omega, ⟨ho, hr1, by omega, by omega⟩, by omega, fun q h1 h2 => ((hO.2 q h2).trans ((hg1.2 q (by omega) (nm1 (by omega))).trans (hE5.2 q h1)))⟩) (Nat.le_of_ble_eq_true rfl) (Nat.le_of_ble_eq_true rfl) dX0_init_17
