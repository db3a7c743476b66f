/-! ===== TuneCatalogue: add, and its constructor ===== -/
theorem Cat.lt {G : gG} {A : Nat → Nat} {TA : Nat → Nat → Nat} {S : cS} {W : cWk} {H : Heap} (h : Cat G A TA S W H) : (∀ k, k < 13 → A k < H.size) ∧ ∀ i j, i < sn S → j < 5 → TA i j < H.size := by
  obtain ⟨h0, h1, h2, h3, h4, h5, h6, -⟩ := h
  refine ⟨fun k hk => ?_, fun i j hi hj => ?_⟩
  · rcases (show k = 0 ∨ k = 1 ∨ k = 2 ∨ k = 3 ∨ k = 4 ∨ k = 5 ∨ k = 6 ∨ k = 7 ∨ k = 8 ∨ k = 9 ∨ k = 10 ∨ k = 11 ∨ k = 12 by omega) with rfl | rfl | rfl | rfl | rfl | rfl | rfl | rfl | rfl | rfl | rfl | rfl | rfl
    · exact va_at.lt h0
    · exact va_at.lt h1
    · exact va_at.lt h2.2.1.1
    · exact va_at.lt h2.2.1.2.1
    · exact va_at.lt h2.1
    · exact va_at.lt h2.2.2.1
    · exact va_at.lt h3.1
    · exact va_at.lt h3.2.1.1
    · exact va_at.lt h3.2.1.2.1
    · exact va_at.lt h4.1
    · exact va_at.lt h4.2.1
    · exact va_at.lt h5.1
    · exact va_at.lt h5.2.1
  · obtain ⟨t0, t1, t2, -⟩ := h6 i hi
    rcases (show j = 0 ∨ j = 1 ∨ j = 2 ∨ j = 3 ∨ j = 4 by omega) with rfl | rfl | rfl | rfl | rfl
    · exact va_at.lt t0
    · exact va_at.lt t1.1
    · exact va_at.lt t1.2.1
    · exact va_at.lt t2.1
    · exact va_at.lt t2.2.1
theorem mono_lt {A : Nat → Nat} {N : Nat} (h : ∀ k, k + 1 < N → A k < A (k + 1)) (i : Nat) : ∀ d, i + d + 1 < N → A i < A (i + d + 1)
  | 0, hd => h i hd
  | d + 1, hd => Nat.lt_trans (mono_lt h i d (by omega)) (h (i + d + 1) hd)
theorem mono_inj {A : Nat → Nat} {N : Nat} (h : ∀ k, k + 1 < N → A k < A (k + 1)) : ∀ i j, i < N → j < N → i ≠ j → A i ≠ A j := by
  intro i j hi hj hn e
  rcases Nat.lt_or_ge i j with g | g
  · have := mono_lt h i (j - i - 1) (by omega)
    rw [show i + (j - i - 1) + 1 = j by omega] at this
    omega
  · have := mono_lt h j (i - j - 1) (by omega)
    rw [show j + (i - j - 1) + 1 = i by omega] at this
    omega
theorem gRow.own1 {G : gG} {a b cap n : Nat} {f : Nat → Int32} {H H1 : Heap} {q : Nat} (h : gRow G a b cap n f H) (x : gOnly [q] H H1) (n1 : a ≠ q) (n2 : b ≠ q) : gRow G a b cap n f H1 := h.only x (nm1 n1) (nm1 n2)
def S00 : cS := (0, fun _ => 0, fun _ _ => 0, fun _ _ => 0, fun _ => false, 0, fun _ => 0, 2, 3, 1, fun _ => 0)
def taN (TA : Nat → Nat → Nat) (n : Nat) (t : Nat → Nat) : Nat → Nat → Nat := fun i => if i = n then t else TA i
theorem ent_add (TA : Nat → Nat → Nat) (n : Nat) (t : Nat → Nat) : va_up (fun i => if i < n then some (TA i 0) else none) n (some (t 0)) = fun i => if i < n + 1 then some (taN TA n t i 0) else none := by
  funext i
  unfold va_up taN
  by_cases h : i = n
  · rw [if_pos h, if_pos (by omega), if_pos h]
  · rw [if_neg h, if_neg h]
    show (if i < n then some (TA i 0) else none) = _
    by_cases g : i < n
    · rw [if_pos g, if_pos (by omega)]
    · rw [if_neg g, if_neg (by omega)]
theorem Lnk.only {G : gG} {a r b n : Nat} {lk : Nat → Nat} {L : List Nat} {H H1 : Heap} (h : Lnk G a r b n lk H) (x : gOnly L H H1) (n1 : a ∉ L) (n2 : r ∉ L) (n3 : b ∉ L) : Lnk G a r b n lk H1 := ⟨h.1.only x n1, h.2.1.only x n2 n3, h.2.2⟩
theorem Lnk.grow {G : gG} {a r b n : Nat} {lk : Nat → Nat} {L : List Nat} {H H1 : Heap} (h : Lnk G a r b n lk H) (x : gGrow L H H1) (n1 : a ∉ L) (n2 : r ∉ L) (n3 : b ∉ L) : Lnk G a r b n lk H1 := ⟨h.1.grow x n1, h.2.1.grow x n2 n3, h.2.2⟩
theorem Lnk.ext {G : gG} {a r b n : Nat} {lk : Nat → Nat} {H H1 : Heap} (h : Lnk G a r b n lk H) (x : gExt H H1) : Lnk G a r b n lk H1 := ⟨h.1.ext x, h.2.1.ext x, h.2.2⟩
theorem Tun.only {G : gG} {t : Nat → Nat} {n : Nat} {f g : Nat → Int} {r : Bool} {L : List Nat} {H H1 : Heap} (h : Tun G t n f g r H) (x : gOnly L H H1) (n1 : ∀ j, j < 5 → t j ∉ L) : Tun G t n f g r H1 := h.grow x.grow n1
set_option maxHeartbeats 4000000 in
set_option maxRecDepth 100000 in
theorem x_add_ok (l : Launch) (G : gG) (A : Nat → Nat) (TA : Nat → Nat → Nat) (S : cS) (W9 : cWk) (H : Heap) (hC : Cat G A TA S W9 H) (hI : sInv S) (p1 l1 : Int) (hp0 : rI p1) (hl0 : rI l1) (hN : isN p1 l1) (h16 : sn S < 16) : gM l yX4_add wsX4_add rm_X4_add [.ref (A 0), .int (zI p1), .int (zI l1)] G H (gi (fun r H1 => zI (sn S) = r ∧ ∃ TA2, (∃ W, Cat G A TA2 (sAdd S p1 l1) W H1) ∧ gKp (own A TA (sn S)) H H1 ∧ (∀ i, i < sn S → TA2 i = TA i) ∧ ∀ j, j < 5 → H.size ≤ TA2 (sn S) j)) (gNo) 12 900 := by
  obtain ⟨h0, h1, h2, h3, h4, h5, h6, hap⟩ := id hC
  have hn16 : sn S ≤ 16 := hI.1
  obtain ⟨hltA, hltT⟩ := hC.lt
  have lt0 := hltA 0 (by omega)
  have lt1 := hltA 1 (by omega)
  have lt6 := hltA 6 (by omega)
  have lt7 := hltA 7 (by omega)
  have lt8 := hltA 8 (by omega)
  have n01 := hap.1 0 1 (by omega) (by omega) (by omega)
  have n06 := hap.1 0 6 (by omega) (by omega) (by omega)
  have n07 := hap.1 0 7 (by omega) (by omega) (by omega)
  have n08 := hap.1 0 8 (by omega) (by omega) (by omega)
  have n16 := hap.1 1 6 (by omega) (by omega) (by omega)
  have n17 := hap.1 1 7 (by omega) (by omega) (by omega)
  have n18 := hap.1 1 8 (by omega) (by omega) (by omega)
  have gA0 := hap.2.2.2 0 (by omega)
  have gA1 := hap.2.2.2 1 (by omega)
  have hG : gGrow [A 1, A 0, A 7, A 8] H H := gGrow.rf _ _
  refine g_start (cc := cX4_add) (maxL := 4) (ret := (some .int)) (by decide +kernel) rfl (Nat.le_of_ble_eq_true rfl) ?_
  intro p e s m args below meth c F ls hl
  obtain ⟨hx, hb, hml, hr, hts, hown, hlocks, hxt, hH, hX, hin⟩ := F
  have hown : s.vm.findClass RX4 = some m.cls := hown
  have hS : va_S (gA G) s.heap H [] := by rw [hH]; exact va_S.rf
  have hl : lv_has ls 4 [(0, .ref (A 0)), (1, .int (zI p1)), (2, .int (zI l1))] := hl
  refine lv_iload_n hx hb dX4_add_0 rfl (lv_at hl 1 rfl) ?_
  refine lv_iload_n hx hb dX4_add_1 rfl (lv_at hl 2 rfl) ?_
  refine g_gov (vx_runS (As := [.int (zI p1), .int (zI l1)]) (rest := []) ⟨hx, hb, hml, hown, hts⟩ (k_rN_ok l G H p1 l1 (by assumption) (by assumption) hN) (va_cwS 2 hts gX4_add_X4_refuseUnlessNote rfl rfl rfl hd_X4_refuseUnlessNote.2 ⟨(Nat.le_of_ble_eq_true rfl), (Nat.le_of_ble_eq_true rfl)⟩) (g_pre hX hS) rfl rfl hl.1 rfl (lv_room (Nat.le_of_ble_eq_true rfl)) dX4_add_2 ⟨(Nat.le_of_ble_eq_true rfl), (Nat.le_of_ble_eq_true rfl)⟩) hS (fun H_2 locs hp hS => ?_)
  subst hp
  refine lv_aload_n hx hb dX4_add_5 rfl (lv_at hl 0 rfl) ?_
  refine g_get hx hb hX hts (fun w h => (List.mem_cons_of_mem _ (List.mem_append_left _ (List.mem_append_left _ (List.mem_append_left _ (List.mem_append_left _ (List.mem_append_left _ (List.mem_append_right _ h)))))))) hown h0 rfl 1 (by decide) (hts (.fieldLink RX4 51 "TuneCatalogue" "entered" "I") (List.mem_cons_of_mem _ (List.mem_append_left _ (List.mem_append_left _ (List.mem_append_left _ (List.mem_append_left _ (List.mem_append_left _ (List.mem_append_left _ (List.mem_append_left _ (List.mem_of_getElem? (i := 2) rfl)))))))))) rfl dX4_add_6 ?_
  refine lv_iconst (v := zI 0) hx hb dX4_add_9 rfl ?_
  refine lv_aload_n hx hb dX4_add_10 rfl (lv_at hl 0 rfl) ?_
  refine g_get hx hb hX hts (fun w h => (List.mem_cons_of_mem _ (List.mem_append_left _ (List.mem_append_left _ (List.mem_append_left _ (List.mem_append_left _ (List.mem_append_left _ (List.mem_append_right _ h)))))))) hown h0 rfl 0 (by decide) (hts (.fieldLink RX4 11 "TuneCatalogue" "entries" "[LTuneCatalogue$Tune;") (List.mem_cons_of_mem _ (List.mem_append_left _ (List.mem_append_left _ (List.mem_append_left _ (List.mem_append_left _ (List.mem_append_left _ (List.mem_append_left _ (List.mem_append_left _ (List.mem_of_getElem? (i := 3) rfl)))))))))) rfl dX4_add_11 ?_
  refine gz_alenT hx hb hX h1 dX4_add_14 ?_
  refine lv_iconst (v := zI 1) hx hb dX4_add_15 rfl ?_
  refine gz_isub hx hb dX4_add_16 ?_
  refine g_goi (vx_runS (As := [.int (zI (sn S : Int)), .int (zI 0), .int (zI (16 - 1))]) (rest := []) ⟨hx, hb, hml, hown, hts⟩ (k_isWithin_t l G H (sn S : Int) 0 (16 - 1) ⟨by omega, by omega⟩ (by decide) (by decide) (by omega)) (va_cwS 3 hts gX4_add_X4_isWithin rfl rfl rfl hd_X4_isWithin.2 ⟨(Nat.le_of_ble_eq_true rfl), (Nat.le_of_ble_eq_true rfl)⟩) (g_pre hX hS) rfl rfl hl.1 rfl (lv_room (Nat.le_of_ble_eq_true rfl)) dX4_add_17 ⟨(Nat.le_of_ble_eq_true rfl), (Nat.le_of_ble_eq_true rfl)⟩) hS (fun r_17 H_17 locs hp hS => ?_)
  obtain ⟨rfl, rfl⟩ := hp
  refine gz_if_ne (tgt := 33) hx hb (by decide) dX4_add_20 (by decide) (fun c_20 => ?_) (fun c_20 => ?_)
  · refine g_new hx hb hX hts (fun w h => (List.mem_cons_of_mem _ (List.mem_append_left _ (List.mem_append_left _ (List.mem_append_left _ (List.mem_append_left _ (List.mem_append_right _ h))))))) tyX3 tyX3_ok hown (hts (.classLink RX4 9 RX3) (List.mem_cons_of_mem _ (List.mem_append_left _ (List.mem_append_left _ (List.mem_append_left _ (List.mem_append_left _ (List.mem_append_left _ (List.mem_append_left _ (List.mem_append_left _ (List.mem_of_getElem? (i := 4) rfl)))))))))) (hts (.instantiable RX3 3) (List.mem_cons_of_mem _ (List.mem_append_left _ (List.mem_append_left _ (List.mem_append_left _ (List.mem_append_left _ (List.mem_append_left _ (List.mem_append_left _ (List.mem_append_left _ (List.mem_of_getElem? (i := 5) rfl)))))))))) (hts (.initialized RX3) (List.mem_cons_of_mem _ (List.mem_append_left _ (List.mem_append_left _ (List.mem_append_left _ (List.mem_append_left _ (List.mem_append_left _ (List.mem_append_left _ (List.mem_append_left _ (List.mem_of_getElem? (i := 6) rfl)))))))))) hS (ci := 3) rfl (fs := [.null, .null, .int (zI 0)]) (fun j hj => by rcases (show j = 0 ∨ j = 1 ∨ j = 2 by omega) with rfl | rfl | rfl <;> rfl) (Nat.le_of_ble_eq_true rfl) (Nat.le_of_ble_eq_true rfl) dX4_add_33 (fun H_33 q_33 eq_33 hq_33 gq_33 zq_33 hE hS => ?_)
    have h0 := gat.ext h0 hE
    have h1 := gat.ext h1 hE
    have h3 := h3.ext hE
    have hG := gGrow.trans hG (hE.grow (L := [])) (by intro x hx1 hx2; first | exact hx2 | exact absurd hx2 List.not_mem_nil | (simp only [List.mem_cons, List.not_mem_nil, or_false] at hx2 ⊢; omega))
    refine lv_dup hx hb dX4_add_36 rfl ?_
    have eqs := eq_33
    have hE33 := hE
    refine g_gov (vx_runIN (As := []) (rest := [.ref q_33]) ⟨hx, hb, hml, hown, hts⟩ (k_Tune_init l G q_33 H_33 hq_33 gq_33) ⟨va_cnB 0 hts gX4_add_X3_init_n66 rfl rfl rfl (hX.1.2.2.1 _ (by decide +kernel : Cond.methodLinkNest RX4 66 yX3_init RX4 ∈ gNM)) (hts (.initialized RX3) (List.mem_cons_of_mem _ (List.mem_append_left _ (List.mem_append_left _ (List.mem_append_left _ (List.mem_append_left _ (List.mem_append_left _ (List.mem_append_left _ (List.mem_append_left _ (List.mem_of_getElem? (i := 6) rfl)))))))))) hd_X3_init.2 ⟨(Nat.le_of_ble_eq_true rfl), (Nat.le_of_ble_eq_true rfl)⟩, rfl, hts (.instanceMethod yX3_init) (List.mem_cons_of_mem _ (List.mem_append_left _ (List.mem_append_left _ (List.mem_append_left _ (List.mem_append_left _ (List.mem_append_left _ (List.mem_append_left _ (List.mem_append_left _ (List.mem_of_getElem? (i := 20) rfl)))))))))⟩ (g_pre hX hS) rfl rfl hl.1 rfl (lv_room (Nat.le_of_ble_eq_true rfl)) dX4_add_37 ⟨(Nat.le_of_ble_eq_true rfl), (Nat.le_of_ble_eq_true rfl)⟩) hS (fun H_37 locs hp hS => ?_)
    obtain ⟨t, ht0, hTn, hg2, htb0⟩ := hp
    subst ht0
    have h0 := h0.grow hg2 (nm1 (by omega))
    have h1 := h1.grow hg2 (nm1 (by omega))
    have h3 := h3.grow hg2 (nm1 (by omega)) (nm1 (by omega)) (nm1 (by omega))
    have htb : ∀ j, j < 5 → H.size ≤ t j := fun j hj => by
      rcases Nat.eq_zero_or_pos j with e | e
      · rw [e]; omega
      · have := htb0 j e hj; omega
    have hG := gGrow.trans hG hg2 (by intro x hx1 hx2; first | exact hx2 | (simp only [List.mem_cons, List.not_mem_nil, or_false] at hx2 ⊢; omega))
    refine lv_astore_n (lv' := [(3, .ref (t 0)), (0, .ref (A 0)), (1, .int (zI p1)), (2, .int (zI l1))]) hx hb dX4_add_40 rfl hl (by decide) rfl (fun ls hl => ?_)
    refine lv_aload_n hx hb dX4_add_41 rfl (lv_at hl 0 rfl) ?_
    refine lv_iload_n hx hb dX4_add_42 rfl (lv_at hl 2 rfl) ?_
    refine lv_iload_n hx hb dX4_add_43 rfl (lv_at hl 3 rfl) ?_
    refine g_gov (vx_runV (As := [.int (zI p1), .int (zI l1)]) (rest := []) ⟨hx, hb, hml, hown, hts⟩ (k_Tune_append l G t 0 (fun _ => 0) (fun _ => 0) false H_37 hTn p1 l1 (by omega)) (cwV 2 hts gX4_add_X3_append rfl rfl rfl hd_X3_append ⟨(Nat.le_of_ble_eq_true rfl), (Nat.le_of_ble_eq_true rfl)⟩) (g_preV hX hS (ci := 3) rfl hTn.1) rfl rfl hl.1 rfl (lv_room (Nat.le_of_ble_eq_true rfl)) dX4_add_44 ⟨(Nat.le_of_ble_eq_true rfl), (Nat.le_of_ble_eq_true rfl)⟩) hS (fun H_44 locs hp hS => ?_)
    have b0 := htb 0 (by omega)
    have b1 := htb 1 (by omega)
    have b2 := htb 2 (by omega)
    have b3 := htb 3 (by omega)
    have b4 := htb 4 (by omega)
    obtain ⟨hTn2, hO4⟩ := hp
    have h0 := h0.only hO4 (by simp only [List.mem_cons, List.not_mem_nil, or_false]; omega)
    have h1 := h1.only hO4 (by simp only [List.mem_cons, List.not_mem_nil, or_false]; omega)
    have nn4 : ∀ x, x < H.size → x ∉ [t 1, t 2, t 3, t 4] := fun x hx => by simp only [List.mem_cons, List.not_mem_nil, or_false]; omega
    have h3 := h3.only hO4 (nn4 _ lt6) (nn4 _ lt7) (nn4 _ lt8)
    have hTn := hTn2
    have htn := hTn.1
    have hG := gGrow.trans hG hO4.grow (fun x hx1 hx2 => absurd hx2 (nn4 x hx1))
    refine lv_aload_n hx hb dX4_add_47 rfl (lv_at hl 1 rfl) ?_
    refine g_get hx hb hX hts (fun w h => (List.mem_cons_of_mem _ (List.mem_append_left _ (List.mem_append_left _ (List.mem_append_left _ (List.mem_append_left _ (List.mem_append_left _ (List.mem_append_right _ h)))))))) hown h0 rfl 0 (by decide) (hts (.fieldLink RX4 11 "TuneCatalogue" "entries" "[LTuneCatalogue$Tune;") (List.mem_cons_of_mem _ (List.mem_append_left _ (List.mem_append_left _ (List.mem_append_left _ (List.mem_append_left _ (List.mem_append_left _ (List.mem_append_left _ (List.mem_append_left _ (List.mem_of_getElem? (i := 3) rfl)))))))))) rfl dX4_add_48 ?_
    refine lv_aload_n hx hb dX4_add_51 rfl (lv_at hl 1 rfl) ?_
    refine g_get hx hb hX hts (fun w h => (List.mem_cons_of_mem _ (List.mem_append_left _ (List.mem_append_left _ (List.mem_append_left _ (List.mem_append_left _ (List.mem_append_left _ (List.mem_append_right _ h)))))))) hown h0 rfl 1 (by decide) (hts (.fieldLink RX4 51 "TuneCatalogue" "entered" "I") (List.mem_cons_of_mem _ (List.mem_append_left _ (List.mem_append_left _ (List.mem_append_left _ (List.mem_append_left _ (List.mem_append_left _ (List.mem_append_left _ (List.mem_append_left _ (List.mem_of_getElem? (i := 2) rfl)))))))))) rfl dX4_add_52 ?_
    refine lv_aload_n hx hb dX4_add_55 rfl (lv_at hl 0 rfl) ?_
    refine gz_aast hx hb hX hS h1 gA1 htn (sn S) rfl (by omega) (by omega) dX4_add_56 (fun H_56 locs h_n hO hS => ?_)
    have h0 := gat.only1 h0 hO (by omega)
    have htn := gat.only1 htn hO (by omega)
    have h3 := h3.only hO (nm1 (by omega)) (nm1 (by omega)) (nm1 (by omega))
    have h1 : gat G (A 1) (.inl (gT G, 16, .inr (.inr (.inr (.inr (va_up (fun i => if i < sn S then some (TA i 0) else none) (sn S) (some (t 0)))))))) H_56 := h_n
    have hG := gGrow.trans hG hO.grow (by intro x hx1 hx2; first | exact hx2 | exact absurd hx2 List.not_mem_nil | (simp only [List.mem_cons, List.not_mem_nil, or_false] at hx2 ⊢; omega))
    have hO56 := hO
    refine lv_aload_n hx hb dX4_add_57 rfl (lv_at hl 1 rfl) ?_
    refine lv_dup hx hb dX4_add_58 rfl ?_
    refine g_get hx hb hX hts (fun w h => (List.mem_cons_of_mem _ (List.mem_append_left _ (List.mem_append_left _ (List.mem_append_left _ (List.mem_append_left _ (List.mem_append_left _ (List.mem_append_right _ h)))))))) hown h0 rfl 1 (by decide) (hts (.fieldLink RX4 51 "TuneCatalogue" "entered" "I") (List.mem_cons_of_mem _ (List.mem_append_left _ (List.mem_append_left _ (List.mem_append_left _ (List.mem_append_left _ (List.mem_append_left _ (List.mem_append_left _ (List.mem_append_left _ (List.mem_of_getElem? (i := 2) rfl)))))))))) rfl dX4_add_59 ?_
    refine lv_iconst (v := zI 1) hx hb dX4_add_62 rfl ?_
    refine gz_iadd hx hb dX4_add_63 ?_
    refine g_put hx hb hX hts (fun w h => (List.mem_cons_of_mem _ (List.mem_append_left _ (List.mem_append_left _ (List.mem_append_left _ (List.mem_append_left _ (List.mem_append_left _ (List.mem_append_right _ h)))))))) tyX4 tyX4_ok nmX4 hown hS h0 gA0 rfl 1 (by decide) (hts (.fieldLink RX4 51 "TuneCatalogue" "entered" "I") (List.mem_cons_of_mem _ (List.mem_append_left _ (List.mem_append_left _ (List.mem_append_left _ (List.mem_append_left _ (List.mem_append_left _ (List.mem_append_left _ (List.mem_append_left _ (List.mem_of_getElem? (i := 2) rfl)))))))))) rfl (ty := tyX4 1) rfl rfl rfl (Nat.le_of_ble_eq_true rfl) dX4_add_64 (fun H_64 locs h_n hO hS => ?_)
    have h1 := gat.only1 h1 hO (by omega)
    have htn := gat.only1 htn hO (by omega)
    have h3 := h3.only hO (nm1 (by omega)) (nm1 (by omega)) (nm1 (by omega))
    have h0 : gat G (A 0) (.inr (4, [.ref (A 1), .int (zI ((sn S : Int) + 1)), .ref (A 4), .ref (A 2), .ref (A 6), .ref (A 9), .ref (A 11)])) H_64 := h_n
    have hG := gGrow.trans hG hO.grow (by intro x hx1 hx2; first | exact hx2 | exact absurd hx2 List.not_mem_nil | (simp only [List.mem_cons, List.not_mem_nil, or_false] at hx2 ⊢; omega))
    have hO64 := hO
    refine lv_aload_n hx hb dX4_add_67 rfl (lv_at hl 1 rfl) ?_
    refine g_get hx hb hX hts (fun w h => (List.mem_cons_of_mem _ (List.mem_append_left _ (List.mem_append_left _ (List.mem_append_left _ (List.mem_append_left _ (List.mem_append_left _ (List.mem_append_right _ h)))))))) hown h0 rfl 4 (by decide) (hts (.fieldLink RX4 32 "TuneCatalogue" "links" "LTuneCatalogue$Links;") (List.mem_cons_of_mem _ (List.mem_append_left _ (List.mem_append_left _ (List.mem_append_left _ (List.mem_append_left _ (List.mem_append_left _ (List.mem_append_left _ (List.mem_append_left _ (List.mem_of_getElem? (i := 7) rfl)))))))))) rfl dX4_add_68 ?_
    refine g_gov (vx_runV (As := []) (rest := []) ⟨hx, hb, hml, hown, hts⟩ (k_admitTune l G (A 6) (A 7) (A 8) (sn S) (slk S) H_64 h3 h16) (cwV 0 hts gX4_add_X0_admitTune rfl rfl rfl hd_X0_admitTune ⟨(Nat.le_of_ble_eq_true rfl), (Nat.le_of_ble_eq_true rfl)⟩) (g_preV hX hS (ci := 0) rfl h3.1) rfl rfl hl.1 rfl (lv_room (Nat.le_of_ble_eq_true rfl)) dX4_add_71 ⟨(Nat.le_of_ble_eq_true rfl), (Nat.le_of_ble_eq_true rfl)⟩) hS (fun H_71 locs hp hS => ?_)
    obtain ⟨h3c, hO71⟩ := hp
    have h0 := h0.only hO71 (nm2 n07 n08)
    have h1 := h1.only hO71 (nm2 n17 n18)
    refine lv_aload_n hx hb dX4_add_74 rfl (lv_at hl 1 rfl) ?_
    refine g_get hx hb hX hts (fun w h => (List.mem_cons_of_mem _ (List.mem_append_left _ (List.mem_append_left _ (List.mem_append_left _ (List.mem_append_left _ (List.mem_append_left _ (List.mem_append_right _ h)))))))) hown h0 rfl 1 (by decide) (hts (.fieldLink RX4 51 "TuneCatalogue" "entered" "I") (List.mem_cons_of_mem _ (List.mem_append_left _ (List.mem_append_left _ (List.mem_append_left _ (List.mem_append_left _ (List.mem_append_left _ (List.mem_append_left _ (List.mem_append_left _ (List.mem_of_getElem? (i := 2) rfl)))))))))) rfl dX4_add_75 ?_
    refine lv_iconst (v := zI 1) hx hb dX4_add_78 rfl ?_
    refine gz_isub hx hb dX4_add_79 ?_
    have hTn := (hTn.grow hO56.grow (fun j hj => nm1 (by have := htb j hj; omega))).grow hO64.grow (fun j hj => nm1 (by have := htb j hj; omega))
    have hTn := hTn.grow hO71.grow (fun j hj => nm2 (by have := htb j hj; omega) (by have := htb j hj; omega))
    have hG := gGrow.trans hG hO71.grow (by intro x hx1 hx2; first | exact hx2 | (simp only [List.mem_cons, List.not_mem_nil, or_false] at hx2 ⊢; omega))
    have hG : gGrow [A 1, A 0, A 7, A 8] H H_71 := hG
    obtain ⟨a0, a1, a2, a3, a4, a5, a6⟩ := hC.rest hG (fun k => k == 0 || k == 1 || k == 7 || k == 8) (fun q hq => by
        simp only [List.mem_cons, List.not_mem_nil, or_false] at hq
        rcases hq with e | e | e | e
        · exact ⟨1, by omega, rfl, e⟩
        · exact ⟨0, by omega, rfl, e⟩
        · exact ⟨7, by omega, rfl, e⟩
        · exact ⟨8, by omega, rfl, e⟩)
    rw [ent_add] at h1
    have hz0 := (hI.2.2.1 (sn S) (Nat.le_refl _))
    have hnew : Tun G (taN TA (sn S) t (sn S)) (stn (sAdd S p1 l1) (sn S)) (stp (sAdd S p1 l1) (sn S)) (stl (sAdd S p1 l1) (sn S)) (srt (sAdd S p1 l1) (sn S)) H_71 := by
      show Tun G (taN TA (sn S) t (sn S)) (va_up (stn S) (sn S) 1 (sn S)) (up2 (stp S) (sn S) 0 p1 (sn S)) (up2 (stl S) (sn S) 0 l1 (sn S)) (srt S (sn S)) H_71
      rw [up2_at, up2_at, show va_up (stn S) (sn S) 1 (sn S) = 1 from if_pos rfl, hz0.2.1, hz0.2.2.2.1, hz0.2.2.2.2, show taN TA (sn S) t (sn S) = t from if_pos rfl]
      exact hTn
    have hlk : va_up (slk S) (sn S) 0 = slk S := by
      funext j; unfold va_up; by_cases e : j = sn S
      · rw [if_pos e, e, hz0.2.2.1]
      · rw [if_neg e]
    rw [hlk] at h3c
    have hold : ∀ i, i < sn S → taN TA (sn S) t i = TA i := fun i hi => if_neg (by omega)
    have hcat : Cat G A (taN TA (sn S) t) (sAdd S p1 l1) W9 H_71 := by
      refine ⟨h0, h1, a2 rfl, h3c, a4 rfl, a5 rfl, fun i hi => ?_, hap.1, fun i j k hi hj hk => ?_, fun i i2 j j2 hi hi2 hj hj2 hne => ?_, hap.2.2.2⟩
      · by_cases e : i = sn S
        · rw [e]; exact hnew
        · have hi2 : i < sn S := by have : i < sn S + 1 := hi; omega
          rw [hold i hi2]
          show Tun G (TA i) (va_up (stn S) (sn S) 1 i) (up2 (stp S) (sn S) 0 p1 i) (up2 (stl S) (sn S) 0 l1 i) (srt S i) _
          rw [up2_ne _ _ _ e, up2_ne _ _ _ e, show va_up (stn S) (sn S) 1 i = stn S i from if_neg e]
          exact a6 i hi2
      · by_cases e : i = sn S
        · rw [e, show taN TA (sn S) t (sn S) = t from if_pos rfl]; have := htb j hj; have := hltA k hk; omega
        · have hi2 : i < sn S := by have : i < sn S + 1 := hi; omega
          rw [hold i hi2]; exact hap.2.1 i j k hi2 hj hk
      · have hb1 : i < sn S + 1 := hi
        have hb2 : i2 < sn S + 1 := hi2
        by_cases e : i = sn S
        · rw [e, show taN TA (sn S) t (sn S) = t from if_pos rfl, hold i2 (by omega)]; have := htb j hj; have := hltT i2 j2 (by omega) hj2; omega
        · by_cases e2 : i2 = sn S
          · rw [e2, show taN TA (sn S) t (sn S) = t from if_pos rfl, hold i (by omega)]; have := htb j2 hj2; have := hltT i j (by omega) hj; omega
          · rw [hold i (by omega), hold i2 (by omega)]; exact hap.2.2.1 i i2 j j2 (by omega) (by omega) hj hj2 hne
    exact g_reti hx hb hr hlocks hS rfl (⟨by rw [show (sn S : Int) + 1 - 1 = sn S by omega], taN TA (sn S) t, ⟨W9, hcat⟩, hG.kp (by intro q hq; simp only [List.mem_cons, List.not_mem_nil, or_false] at hq; rcases hq with e | e | e | e <;> rw [e] <;> exact own.A (by omega)), hold, fun j hj => by rw [show taN TA (sn S) t (sn S) = t from if_pos rfl]; exact htb j hj⟩) (Nat.le_of_ble_eq_true rfl) (Nat.le_of_ble_eq_true rfl) dX4_add_80
  · omega
set_option maxHeartbeats 4000000 in
set_option maxRecDepth 100000 in
theorem x_add_e1 (l : Launch) (G : gG) (hlf : l.stackTraces = false) (A : Nat → Nat) (TA : Nat → Nat → Nat) (S : cS) (W9 : cWk) (H : Heap) (hC : Cat G A TA S W9 H) (hI : sInv S) (p1 l1 : Int) (hp0 : rI p1) (hl0 : rI l1) (hN : ¬ isN p1 l1) : gM l yX4_add wsX4_add rm_X4_add [.ref (A 0), .int (zI p1), .int (zI l1)] G H (gF0) (gTh "java/lang/IllegalArgumentException" H) 12 900 := by
  obtain ⟨h0, h1, h2, h3, h4, h5, h6, hap⟩ := id hC
  have hn16 : sn S ≤ 16 := hI.1
  refine g_start (cc := cX4_add) (maxL := 4) (ret := (some .int)) (by decide +kernel) rfl (Nat.le_of_ble_eq_true rfl) ?_
  intro p e s m args below meth c F ls hl
  obtain ⟨hx, hb, hml, hr, hts, hown, hlocks, hxt, hH, hX, hin⟩ := F
  have hown : s.vm.findClass RX4 = some m.cls := hown
  have hS : va_S (gA G) s.heap H [] := by rw [hH]; exact va_S.rf
  have hl : lv_has ls 4 [(0, .ref (A 0)), (1, .int (zI p1)), (2, .int (zI l1))] := hl
  refine lv_iload_n hx hb dX4_add_0 rfl (lv_at hl 1 rfl) ?_
  refine lv_iload_n hx hb dX4_add_1 rfl (lv_at hl 2 rfl) ?_
  refine g_go (vx_runS (As := [.int (zI p1), .int (zI l1)]) (rest := []) ⟨hx, hb, hml, hown, hts⟩ (k_rN_no l G hlf H p1 l1 (by assumption) (by assumption) hN) (va_cwS 2 hts gX4_add_X4_refuseUnlessNote rfl rfl rfl hd_X4_refuseUnlessNote.2 ⟨(Nat.le_of_ble_eq_true rfl), (Nat.le_of_ble_eq_true rfl)⟩) (g_pre hX hS) rfl rfl hl.1 rfl (lv_room (Nat.le_of_ble_eq_true rfl)) dX4_add_2 ⟨(Nat.le_of_ble_eq_true rfl), (Nat.le_of_ble_eq_true rfl)⟩) hS (fun E ce q9 H_2 locs hp hS hce hcv hcl => ?_) (fun v H1 locs h hS => h.elim)
  exact g_out hxt hlocks hS hce hcv hcl (hp) (Nat.le_of_ble_eq_true rfl) (Nat.le_of_ble_eq_true rfl)
set_option maxHeartbeats 4000000 in
set_option maxRecDepth 100000 in
theorem x_add_e2 (l : Launch) (G : gG) (hlf : l.stackTraces = false) (A : Nat → Nat) (TA : Nat → Nat → Nat) (S : cS) (W9 : cWk) (H : Heap) (hC : Cat G A TA S W9 H) (hI : sInv S) (p1 l1 : Int) (hp0 : rI p1) (hl0 : rI l1) (hN : isN p1 l1) (h16 : ¬ sn S < 16) : gM l yX4_add wsX4_add rm_X4_add [.ref (A 0), .int (zI p1), .int (zI l1)] G H (gF0) (gTh "java/lang/IllegalStateException" H) 12 900 := by
  obtain ⟨h0, h1, h2, h3, h4, h5, h6, hap⟩ := id hC
  have hn16 : sn S ≤ 16 := hI.1
  refine g_start (cc := cX4_add) (maxL := 4) (ret := (some .int)) (by decide +kernel) rfl (Nat.le_of_ble_eq_true rfl) ?_
  intro p e s m args below meth c F ls hl
  obtain ⟨hx, hb, hml, hr, hts, hown, hlocks, hxt, hH, hX, hin⟩ := F
  have hown : s.vm.findClass RX4 = some m.cls := hown
  have hS : va_S (gA G) s.heap H [] := by rw [hH]; exact va_S.rf
  have hl : lv_has ls 4 [(0, .ref (A 0)), (1, .int (zI p1)), (2, .int (zI l1))] := hl
  refine lv_iload_n hx hb dX4_add_0 rfl (lv_at hl 1 rfl) ?_
  refine lv_iload_n hx hb dX4_add_1 rfl (lv_at hl 2 rfl) ?_
  refine g_gov (vx_runS (As := [.int (zI p1), .int (zI l1)]) (rest := []) ⟨hx, hb, hml, hown, hts⟩ (k_rN_ok l G H p1 l1 (by assumption) (by assumption) hN) (va_cwS 2 hts gX4_add_X4_refuseUnlessNote rfl rfl rfl hd_X4_refuseUnlessNote.2 ⟨(Nat.le_of_ble_eq_true rfl), (Nat.le_of_ble_eq_true rfl)⟩) (g_pre hX hS) rfl rfl hl.1 rfl (lv_room (Nat.le_of_ble_eq_true rfl)) dX4_add_2 ⟨(Nat.le_of_ble_eq_true rfl), (Nat.le_of_ble_eq_true rfl)⟩) hS (fun H_2 locs hp hS => ?_)
  subst hp
  refine lv_aload_n hx hb dX4_add_5 rfl (lv_at hl 0 rfl) ?_
  refine g_get hx hb hX hts (fun w h => (List.mem_cons_of_mem _ (List.mem_append_left _ (List.mem_append_left _ (List.mem_append_left _ (List.mem_append_left _ (List.mem_append_left _ (List.mem_append_right _ h)))))))) hown h0 rfl 1 (by decide) (hts (.fieldLink RX4 51 "TuneCatalogue" "entered" "I") (List.mem_cons_of_mem _ (List.mem_append_left _ (List.mem_append_left _ (List.mem_append_left _ (List.mem_append_left _ (List.mem_append_left _ (List.mem_append_left _ (List.mem_append_left _ (List.mem_of_getElem? (i := 2) rfl)))))))))) rfl dX4_add_6 ?_
  refine lv_iconst (v := zI 0) hx hb dX4_add_9 rfl ?_
  refine lv_aload_n hx hb dX4_add_10 rfl (lv_at hl 0 rfl) ?_
  refine g_get hx hb hX hts (fun w h => (List.mem_cons_of_mem _ (List.mem_append_left _ (List.mem_append_left _ (List.mem_append_left _ (List.mem_append_left _ (List.mem_append_left _ (List.mem_append_right _ h)))))))) hown h0 rfl 0 (by decide) (hts (.fieldLink RX4 11 "TuneCatalogue" "entries" "[LTuneCatalogue$Tune;") (List.mem_cons_of_mem _ (List.mem_append_left _ (List.mem_append_left _ (List.mem_append_left _ (List.mem_append_left _ (List.mem_append_left _ (List.mem_append_left _ (List.mem_append_left _ (List.mem_of_getElem? (i := 3) rfl)))))))))) rfl dX4_add_11 ?_
  refine gz_alenT hx hb hX h1 dX4_add_14 ?_
  refine lv_iconst (v := zI 1) hx hb dX4_add_15 rfl ?_
  refine gz_isub hx hb dX4_add_16 ?_
  refine g_goi (vx_runS (As := [.int (zI (sn S : Int)), .int (zI 0), .int (zI (16 - 1))]) (rest := []) ⟨hx, hb, hml, hown, hts⟩ (k_isWithin_f l G H (sn S : Int) 0 (16 - 1) ⟨by omega, by omega⟩ (by decide) (by decide) (by omega)) (va_cwS 3 hts gX4_add_X4_isWithin rfl rfl rfl hd_X4_isWithin.2 ⟨(Nat.le_of_ble_eq_true rfl), (Nat.le_of_ble_eq_true rfl)⟩) (g_pre hX hS) rfl rfl hl.1 rfl (lv_room (Nat.le_of_ble_eq_true rfl)) dX4_add_17 ⟨(Nat.le_of_ble_eq_true rfl), (Nat.le_of_ble_eq_true rfl)⟩) hS (fun r_17 H_17 locs hp hS => ?_)
  obtain ⟨rfl, rfl⟩ := hp
  refine gz_if_ne (tgt := 33) hx hb (by decide) dX4_add_20 (by decide) (fun c_20 => ?_) (fun c_20 => ?_)
  · omega
  · exact g_throw hx hb hlf hX hown (by decide +kernel) (by decide +kernel) (hts (.classLink RX4 59 "java/lang/IllegalStateException") (List.mem_cons_of_mem _ (List.mem_append_left _ (List.mem_append_left _ (List.mem_append_left _ (List.mem_append_left _ (List.mem_append_left _ (List.mem_append_left _ (List.mem_append_left _ (List.mem_of_getElem? (i := 0) rfl)))))))))) (hts (.initialized "java/lang/IllegalStateException") (List.mem_cons_of_mem _ (List.mem_append_left _ (List.mem_append_left _ (List.mem_append_left _ (List.mem_append_left _ (List.mem_append_left _ (List.mem_append_left _ (List.mem_append_left _ (List.mem_of_getElem? (i := 1) rfl)))))))))) (by decide +kernel : (61, "there are as many tunes as there may be") ∈ gStr) (ha_X4_add_63 hX hts) (by decide +kernel) hS (hl.1.trans hml.symm) dX4_add_23 dX4_add_26 dX4_add_27 dX4_add_29 dX4_add_32 hxt (Nat.le_of_ble_eq_true rfl) (Nat.le_of_ble_eq_true rfl) (Nat.le_of_ble_eq_true rfl) (Nat.le_of_ble_eq_true rfl) hlocks (fun H1 hE => ⟨rfl, hE⟩) (Nat.le_of_ble_eq_true rfl) (Nat.le_of_ble_eq_true rfl)
