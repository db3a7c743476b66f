/-! ===== TuneCatalogue: shared, shift, retire, likeContour, links ===== -/
noncomputable def bB (p : Prop) : Bool := @decide p (Classical.propDecidable p)
theorem bB_t {p : Prop} (h : p) : bB p = true := @decide_eq_true p (Classical.propDecidable p) h
theorem bB_f {p : Prop} (h : ¬ p) : bB p = false := @decide_eq_false p (Classical.propDecidable p) h
theorem bB_iff {p : Prop} : bB p = true ↔ p := ⟨fun h => Classical.byContradiction (fun n => by rw [bB_f n] at h; cases h), bB_t⟩
def ctB (p : Nat → Bool) : Nat → Nat
  | 0 => 0
  | k + 1 => ctB p k + if p k then 1 else 0
theorem ctB_le (p : Nat → Bool) : ∀ k, ctB p k ≤ k
  | 0 => Nat.le_refl _
  | k + 1 => by
    have := ctB_le p k
    unfold ctB; split <;> omega
def mx (F : Nat → Nat) (a : Nat) : Nat → Nat
  | 0 => a
  | k + 1 => max (mx F a k) (F k)
def mxx (F : Nat → Nat → Nat) (m : Nat) : Nat → Nat
  | 0 => 0
  | i + 1 => mx (F i) (mxx F m i) m
theorem mx_le {F : Nat → Nat} {a B : Nat} (ha : a ≤ B) (h : ∀ k, F k ≤ B) : ∀ k, mx F a k ≤ B
  | 0 => ha
  | k + 1 => by
    have h1 := mx_le ha h k
    have h2 := h k
    unfold mx; omega
theorem mxx_le {F : Nat → Nat → Nat} {m B : Nat} (h : ∀ i k, F i k ≤ B) : ∀ i, mxx F m i ≤ B
  | 0 => Nat.zero_le _
  | i + 1 => mx_le (mxx_le h i) (h i) m
abbrev zf (F : Nat → Int) : Nat → Int32 := fun k => zI (F k)
def cm2 (S : cS) (i j a b : Nat) : Nat := cmn (zf (stp S i)) (zf (stp S j)) a b (Nat.min (stn S i - a) (stn S j - b) - 1)
def sharedF (S : cS) (i j : Nat) : Nat := mxx (cm2 S i j) (stn S j) (stn S i)
theorem k_isWithin (l : Launch) (G : gG) (H : Heap) (a lo hi : Int) (ha : rI a) (hlo : rI lo) (hhi : rI hi) : gM l yX4_isWithin wsX4_isWithin rm_X4_isWithin [.int (zI a), .int (zI lo), .int (zI hi)] G H (gi (fun r H1 => zI (if lo ≤ a ∧ a ≤ hi then 1 else 0) = r ∧ H = H1)) gNo 0 0 := by
  by_cases h : lo ≤ a ∧ a ≤ hi
  · rw [if_pos h]; exact k_isWithin_t l G H a lo hi ha hlo hhi h
  · rw [if_neg h]; exact k_isWithin_f l G H a lo hi ha hlo hhi h
def lkc (S : cS) (k : Nat) : Prop := srt S k = false ∧ bwc (stn S k) (zf (stp S k)) (shn S) (zf (shf S))
noncomputable def lcF (S : cS) : Nat → Nat
  | 0 => 0
  | k + 1 => if bB (lkc S k) then lcF S k ||| 2 ^ k else lcF S k
theorem lcF_lt (S : cS) : ∀ k, k ≤ 16 → lcF S k < 65536
  | 0, _ => by unfold lcF; omega
  | k + 1, h => by
    have h1 := lcF_lt S k (by omega)
    unfold lcF; split
    · exact or_lt (k := 16) h1 (p2_lt (by omega))
    · exact h1
set_option maxHeartbeats 4000000 in
set_option maxRecDepth 100000 in
theorem x_shared_ok (l : Launch) (G : gG) (A : Nat → Nat) (TA : Nat → Nat → Nat) (S : cS) (W9 : cWk) (H : Heap) (hC : Cat G A TA S W9 H) (hI : sInv S) (z1 z2 : Int) (i j : Nat) (hz1 : z1 = i) (hi : i < sn S) (hz2 : z2 = j) (hj : j < sn S) : gM l yX4_shared wsX4_shared rm_X4_shared [.ref (A 0), .int (zI z1), .int (zI z2)] G H (gi (fun r H1 => zI (sharedF S i j : Nat) = r ∧ H = H1)) (gNo) 6 60 := by
  obtain ⟨h0, h1, h2, h3, h4, h5, h6, hap⟩ := id hC
  have hn16 : sn S ≤ 16 := hI.1
  obtain ⟨ht, hp1, hl1, gt, htd⟩ := id (h6 i hi)
  obtain ⟨ht2, hp2, hl2, gt2, htd2⟩ := id (h6 j hj)
  have hni := (hI.2.1 i hi).2
  have hnj := (hI.2.1 j hj).2
  have hcl : ∀ a b, cm2 S i j a b ≤ 24 := fun a b => by have := cmn_le (zf (stp S i)) (zf (stp S j)) (Nat.min (stn S i - a) (stn S j - b) - 1) a b; have h2 : Nat.min (stn S i - a) (stn S j - b) ≤ stn S i - a := Nat.min_le_left _ _; unfold cm2; omega
  refine g_start (cc := cX4_shared) (maxL := 8) (ret := (some .int)) (by decide +kernel) rfl (Nat.le_of_ble_eq_true rfl) ?_
  intro p e s m args below meth c F ls hl
  obtain ⟨hx, hb, hml, hr, hts, hown, hlocks, hxt, hH, hX, hin⟩ := F
  have hown : s.vm.findClass RX4 = some m.cls := hown
  have hS : va_S (gA G) s.heap H [] := by rw [hH]; exact va_S.rf
  have hl : lv_has ls 8 [(0, .ref (A 0)), (1, .int (zI z1)), (2, .int (zI z2))] := hl
  refine lv_aload_n hx hb dX4_shared_0 rfl (lv_at hl 0 rfl) ?_
  refine lv_iload_n hx hb dX4_shared_1 rfl (lv_at hl 1 rfl) ?_
  refine g_goq (vx_runV (As := [.int (zI z1)]) (rest := []) ⟨hx, hb, hml, hown, hts⟩ (k_eT_ok l G A TA S W9 H hC hI z1 i hz1 hi) (cwV 1 hts gX4_shared_X4_enteredOrThrow rfl rfl rfl hd_X4_enteredOrThrow ⟨(Nat.le_of_ble_eq_true rfl), (Nat.le_of_ble_eq_true rfl)⟩) (g_preV hX hS (ci := 4) rfl h0) rfl rfl hl.1 rfl (lv_room (Nat.le_of_ble_eq_true rfl)) dX4_shared_2 ⟨(Nat.le_of_ble_eq_true rfl), (Nat.le_of_ble_eq_true rfl)⟩) hS (fun r_2 H_2 locs hp hS => ?_)
  obtain ⟨rfl, rfl⟩ := hp
  refine W.eq (g2 := F0 m 5 ls [.ref (TA i 0)]) rfl ?_
  refine g_getN hx hb hX hts (fun w h => (List.mem_cons_of_mem _ (List.mem_append_left _ (List.mem_append_left _ (List.mem_append_left _ (List.mem_append_right _ h)))))) hown ht rfl 0 (by decide) (by decide +kernel : Cond.fieldLinkNest RX4 77 "TuneCatalogue$Tune" "pitches" "LTuneCatalogue$Row;" RX4 ∈ gNW) rfl dX4_shared_5 ?_
  refine lv_astore_n (lv' := [(3, .ref (TA i 1)), (0, .ref (A 0)), (1, .int (zI z1)), (2, .int (zI z2))]) hx hb dX4_shared_8 rfl hl (by decide) rfl (fun ls hl => ?_)
  refine lv_aload_n hx hb dX4_shared_9 rfl (lv_at hl 1 rfl) ?_
  refine lv_iload_n hx hb dX4_shared_10 rfl (lv_at hl 3 rfl) ?_
  refine g_goq (vx_runV (As := [.int (zI z2)]) (rest := []) ⟨hx, hb, hml, hown, hts⟩ (k_eT_ok l G A TA S W9 H hC hI z2 j hz2 hj) (cwV 1 hts gX4_shared_X4_enteredOrThrow rfl rfl rfl hd_X4_enteredOrThrow ⟨(Nat.le_of_ble_eq_true rfl), (Nat.le_of_ble_eq_true rfl)⟩) (g_preV hX hS (ci := 4) rfl h0) rfl rfl hl.1 rfl (lv_room (Nat.le_of_ble_eq_true rfl)) dX4_shared_11 ⟨(Nat.le_of_ble_eq_true rfl), (Nat.le_of_ble_eq_true rfl)⟩) hS (fun r_11 H_11 locs hp hS => ?_)
  obtain ⟨rfl, rfl⟩ := hp
  refine W.eq (g2 := F0 m 14 ls [.ref (TA j 0)]) rfl ?_
  refine g_getN hx hb hX hts (fun w h => (List.mem_cons_of_mem _ (List.mem_append_left _ (List.mem_append_left _ (List.mem_append_left _ (List.mem_append_right _ h)))))) hown ht2 rfl 0 (by decide) (by decide +kernel : Cond.fieldLinkNest RX4 77 "TuneCatalogue$Tune" "pitches" "LTuneCatalogue$Row;" RX4 ∈ gNW) rfl dX4_shared_14 ?_
  refine lv_astore (lv' := [(4, .ref (TA j 1)), (3, .ref (TA i 1)), (0, .ref (A 0)), (1, .int (zI z1)), (2, .int (zI z2))]) hx hb dX4_shared_17 hl (by decide) rfl (fun ls hl => ?_)
  refine lv_iconst (v := zI 0) hx hb dX4_shared_19 rfl ?_
  refine lv_istore (lv' := [(5, .int (zI 0)), (4, .ref (TA j 1)), (3, .ref (TA i 1)), (0, .ref (A 0)), (1, .int (zI z1)), (2, .int (zI z2))]) hx hb dX4_shared_20 hl (by decide) rfl (fun ls hl => ?_)
  refine lv_iconst (v := zI 0) hx hb dX4_shared_22 rfl ?_
  refine lv_istore (lv' := [(6, .int (zI 0)), (5, .int (zI 0)), (4, .ref (TA j 1)), (3, .ref (TA i 1)), (0, .ref (A 0)), (1, .int (zI z1)), (2, .int (zI z2))]) hx hb dX4_shared_23 hl (by decide) rfl (fun ls hl => ?_)
  have loop_25 : ∀ (M_ : Nat) (y : Int) (a : Nat) (x : Int) (locs : List Loc), stn S i - a < M_ → (y = a) → (a ≤ stn S i) → (x = (mxx (cm2 S i j) (stn S j) a : Nat)) → va_S (gA G) s.heap H locs → ∀ (ls : Array Slot), lv_has ls 8 [(6, .int (zI y)), (5, .int (zI x)), (0, .ref (A 0)), (1, .int (zI z1)), (2, .int (zI z2)), (3, .ref (TA i 1)), (4, .ref (TA j 1))] → W p l e rm_X4_shared s m args below meth c H locs (0 + 1 + 1) (0 + 6 + 6) (vx_MQ below (gQ G (gi (fun r H1 => zI (sharedF S i j : Nat) = r ∧ H = H1))) (gXC G (gNo)) args s 6 60 (gA G)) (F0 m 25 ls []) := by
    intro M_
    induction M_ with
    | zero => intro y a x locs_0 h_0; exact absurd h_0 (Nat.not_lt_zero _)
    | succ M_ ih_25 =>
      intro y a x locs hM_25 hy han hx1 hS ls hl
      refine lv_iload hx hb dX4_shared_25 (lv_at hl 0 rfl) ?_
      refine lv_aload_n hx hb dX4_shared_27 rfl (lv_at hl 5 rfl) ?_
      refine g_goi (vx_runV (As := []) (rest := [.int (zI y)]) ⟨hx, hb, hml, hown, hts⟩ (k_size l G (TA i 1) (TA i 2) 24 (stn S i) _ H hp1) (cwV 0 hts gX4_shared_X2_size rfl rfl rfl hd_X2_size ⟨(Nat.le_of_ble_eq_true rfl), (Nat.le_of_ble_eq_true rfl)⟩) (g_preV hX hS (ci := 2) rfl hp1.1) rfl rfl hl.1 rfl (lv_room (Nat.le_of_ble_eq_true rfl)) dX4_shared_28 ⟨(Nat.le_of_ble_eq_true rfl), (Nat.le_of_ble_eq_true rfl)⟩) hS (fun r_28 H_28 locs hp hS => ?_)
      obtain ⟨rfl, rfl⟩ := hp
      refine gz_icmp_ge (tgt := 76) hx hb ⟨by omega, by omega⟩ ⟨by omega, by omega⟩ dX4_shared_31 (by decide) (fun c_31 => ?_) (fun c_31 => ?_)
      · refine lv_iload hx hb dX4_shared_76 (lv_at hl 1 rfl) ?_
        exact g_reti hx hb hr hlocks hS rfl (⟨by rw [hx1, show a = stn S i by omega]; rfl, rfl⟩) (Nat.le_of_ble_eq_true rfl) (Nat.le_of_ble_eq_true rfl) dX4_shared_78
      · refine lv_iconst (v := zI 0) hx hb dX4_shared_34 rfl ?_
        refine lv_istore (lv' := [(7, .int (zI 0)), (6, .int (zI y)), (5, .int (zI x)), (0, .ref (A 0)), (1, .int (zI z1)), (2, .int (zI z2)), (3, .ref (TA i 1)), (4, .ref (TA j 1))]) hx hb dX4_shared_35 hl (by decide) rfl (fun ls hl => ?_)
        have loop_37 : ∀ (M_ : Nat) (y2 : Int) (b : Nat) (x2 : Int) (locs : List Loc), stn S j - b < M_ → (y2 = b) → (b ≤ stn S j) → (x2 = (mx (cm2 S i j a) (mxx (cm2 S i j) (stn S j) a) b : Nat)) → va_S (gA G) s.heap H locs → ∀ (ls : Array Slot), lv_has ls 8 [(7, .int (zI y2)), (5, .int (zI x2)), (6, .int (zI y)), (0, .ref (A 0)), (1, .int (zI z1)), (2, .int (zI z2)), (3, .ref (TA i 1)), (4, .ref (TA j 1))] → W p l e rm_X4_shared s m args below meth c H locs (0 + 1 + 1) (0 + 6 + 6) (vx_MQ below (gQ G (gi (fun r H1 => zI (sharedF S i j : Nat) = r ∧ H = H1))) (gXC G (gNo)) args s 6 60 (gA G)) (F0 m 37 ls []) := by
          intro M_
          induction M_ with
          | zero => intro y2 b x2 locs_0 h_0; exact absurd h_0 (Nat.not_lt_zero _)
          | succ M_ ih_37 =>
            intro y2 b x2 locs hM_37 hy2 hbn hx2 hS ls hl
            have hmb := mx_le (mxx_le (m := stn S j) hcl a) (hcl a) b
            refine lv_iload hx hb dX4_shared_37 (lv_at hl 0 rfl) ?_
            refine lv_aload hx hb dX4_shared_39 (lv_at hl 7 rfl) ?_
            refine g_goi (vx_runV (As := []) (rest := [.int (zI y2)]) ⟨hx, hb, hml, hown, hts⟩ (k_size l G (TA j 1) (TA j 2) 24 (stn S j) _ H hp2) (cwV 0 hts gX4_shared_X2_size rfl rfl rfl hd_X2_size ⟨(Nat.le_of_ble_eq_true rfl), (Nat.le_of_ble_eq_true rfl)⟩) (g_preV hX hS (ci := 2) rfl hp2.1) rfl rfl hl.1 rfl (lv_room (Nat.le_of_ble_eq_true rfl)) dX4_shared_41 ⟨(Nat.le_of_ble_eq_true rfl), (Nat.le_of_ble_eq_true rfl)⟩) hS (fun r_41 H_41 locs hp hS => ?_)
            obtain ⟨rfl, rfl⟩ := hp
            refine gz_icmp_ge (tgt := 70) hx hb ⟨by omega, by omega⟩ ⟨by omega, by omega⟩ dX4_shared_44 (by decide) (fun c_44 => ?_) (fun c_44 => ?_)
            · refine lv_iinc (v := zI (y + 1)) (lv' := [(6, .int (zI (y + 1))), (7, .int (zI y2)), (5, .int (zI x2)), (0, .ref (A 0)), (1, .int (zI z1)), (2, .int (zI z2)), (3, .ref (TA i 1)), (4, .ref (TA j 1))]) hx hb dX4_shared_70 hl (k := 2) rfl (zI_add _ _) (by decide) rfl (fun ls hl => ?_)
              refine lv_goto (tgt := 25) hx hb dX4_shared_73 (by decide) ?_
              exact ih_25 (y + 1) (a + 1) x2 _ (by omega) (by omega) (by omega) (by rw [hx2, show b = stn S j by omega]; rfl) hS ls (lv_sub hl [0, 2, 3, 4, 5, 6, 7] rfl)
            · refine lv_iload hx hb dX4_shared_47 (lv_at hl 1 rfl) ?_
              refine lv_aload_n hx hb dX4_shared_49 rfl (lv_at hl 6 rfl) ?_
              refine lv_iload hx hb dX4_shared_50 (lv_at hl 2 rfl) ?_
              refine lv_aload hx hb dX4_shared_52 (lv_at hl 7 rfl) ?_
              refine lv_iload hx hb dX4_shared_54 (lv_at hl 0 rfl) ?_
              refine g_goi (vx_runV (As := [.int (zI y), .ref (TA j 1), .int (zI y2)]) (rest := [.int (zI x2)]) ⟨hx, hb, hml, hown, hts⟩ (k_stepsInCommon l G (TA i 1) (TA i 2) 24 (stn S i) _ H hp1 (TA j 1) (TA j 2) 24 (stn S j) _ hp2 y y2 a b (by omega) (by omega) (by omega) (by omega)) (cwV 3 hts gX4_shared_X2_stepsInCommon rfl rfl rfl hd_X2_stepsInCommon ⟨(Nat.le_of_ble_eq_true rfl), (Nat.le_of_ble_eq_true rfl)⟩) (g_preV hX hS (ci := 2) rfl hp1.1) rfl rfl hl.1 rfl (lv_room (Nat.le_of_ble_eq_true rfl)) dX4_shared_56 ⟨(Nat.le_of_ble_eq_true rfl), (Nat.le_of_ble_eq_true rfl)⟩) hS (fun r_56 H_56 locs hp hS => ?_)
              obtain ⟨rfl, rfl⟩ := hp
              refine W.eq (g2 := F0 m 59 ls [.int (zI ((cm2 S i j a b : Nat) : Int)), .int (zI x2)]) rfl ?_
              refine gz_mmax hx hb (hml.trans hl.1.symm) hown (hts (.methodLink RX4 131 Lib.Math.max.name) (List.mem_cons_of_mem _ (List.mem_append_left _ (List.mem_append_left _ (List.mem_append_left _ (List.mem_append_left _ (List.mem_append_left _ (List.mem_of_getElem? (i := 0) rfl)))))))) (hts (.static Lib.Math.max.name) (List.mem_cons_of_mem _ (List.mem_append_left _ (List.mem_append_left _ (List.mem_append_left _ (List.mem_append_left _ (List.mem_append_left _ (List.mem_of_getElem? (i := 1) rfl)))))))) (hts (.initialized "java/lang/Math") (List.mem_cons_of_mem _ (List.mem_append_left _ (List.mem_append_left _ (List.mem_append_left _ (List.mem_append_left _ (List.mem_append_left _ (List.mem_of_getElem? (i := 2) rfl)))))))) (hts (.code Lib.Math.max.name Lib.Math.max.code 2 (some .int)) (List.mem_cons_of_mem _ (List.mem_append_left _ (List.mem_append_left _ (List.mem_append_left _ (List.mem_append_left _ (List.mem_append_left _ (List.mem_of_getElem? (i := 3) rfl)))))))) (Nat.le_of_ble_eq_true rfl) (Nat.le_of_ble_eq_true rfl) (Nat.le_of_ble_eq_true rfl) (Nat.le_of_ble_eq_true rfl) (by have := hcl a b; exact ⟨by omega, by omega⟩) (by have := hcl a b; exact ⟨by omega, by omega⟩) dX4_shared_59 ?_
              refine lv_istore (lv' := [(5, .int (zI (max x2 ((cm2 S i j a b : Nat) : Int)))), (7, .int (zI y2)), (6, .int (zI y)), (0, .ref (A 0)), (1, .int (zI z1)), (2, .int (zI z2)), (3, .ref (TA i 1)), (4, .ref (TA j 1))]) hx hb dX4_shared_62 hl (by decide) rfl (fun ls hl => ?_)
              refine lv_iinc (v := zI (y2 + 1)) (lv' := [(7, .int (zI (y2 + 1))), (5, .int (zI (max x2 ((cm2 S i j a b : Nat) : Int)))), (6, .int (zI y)), (0, .ref (A 0)), (1, .int (zI z1)), (2, .int (zI z2)), (3, .ref (TA i 1)), (4, .ref (TA j 1))]) hx hb dX4_shared_64 hl (k := 1) rfl (zI_add _ _) (by decide) rfl (fun ls hl => ?_)
              refine lv_goto (tgt := 37) hx hb dX4_shared_67 (by decide) ?_
              exact ih_37 (y2 + 1) (b + 1) _ _ (by omega) (by omega) (by omega) (by rw [hx2, mx]; omega) hS ls (lv_sub hl [0, 1, 2, 3, 4, 5, 6, 7] rfl)
        exact loop_37 _ 0 0 x _ (Nat.lt_succ_self _) rfl (Nat.zero_le _) hx1 hS ls (lv_sub hl [0, 2, 1, 3, 4, 5, 6, 7] rfl)
  exact loop_25 _ 0 0 0 _ (Nat.lt_succ_self _) rfl (Nat.zero_le _) rfl hS ls (lv_sub hl [0, 1, 4, 5, 6, 3, 2] rfl)
set_option maxHeartbeats 4000000 in
set_option maxRecDepth 100000 in
theorem x_shared_e1 (l : Launch) (G : gG) (hlf : l.stackTraces = false) (A : Nat → Nat) (TA : Nat → Nat → Nat) (S : cS) (W9 : cWk) (H : Heap) (hC : Cat G A TA S W9 H) (hI : sInv S) (z1 z2 : Int) (hz1 : rI z1) (hz2 : rI z2) (hi : ¬ (0 ≤ z1 ∧ z1 < sn S)) : gM l yX4_shared wsX4_shared rm_X4_shared [.ref (A 0), .int (zI z1), .int (zI z2)] G H (gF0) (gTh "java/lang/IndexOutOfBoundsException" H) 6 60 := by
  obtain ⟨h0, h1, h2, h3, h4, h5, h6, hap⟩ := id hC
  have hn16 : sn S ≤ 16 := hI.1
  refine g_start (cc := cX4_shared) (maxL := 8) (ret := (some .int)) (by decide +kernel) rfl (Nat.le_of_ble_eq_true rfl) ?_
  intro p e s m args below meth c F ls hl
  obtain ⟨hx, hb, hml, hr, hts, hown, hlocks, hxt, hH, hX, hin⟩ := F
  have hown : s.vm.findClass RX4 = some m.cls := hown
  have hS : va_S (gA G) s.heap H [] := by rw [hH]; exact va_S.rf
  have hl : lv_has ls 8 [(0, .ref (A 0)), (1, .int (zI z1)), (2, .int (zI z2))] := hl
  refine lv_aload_n hx hb dX4_shared_0 rfl (lv_at hl 0 rfl) ?_
  refine lv_iload_n hx hb dX4_shared_1 rfl (lv_at hl 1 rfl) ?_
  refine g_go (vx_runV (As := [.int (zI z1)]) (rest := []) ⟨hx, hb, hml, hown, hts⟩ (k_eT_no l G hlf A TA S W9 H hC hI z1 hz1 hi) (cwV 1 hts gX4_shared_X4_enteredOrThrow rfl rfl rfl hd_X4_enteredOrThrow ⟨(Nat.le_of_ble_eq_true rfl), (Nat.le_of_ble_eq_true rfl)⟩) (g_preV hX hS (ci := 4) rfl h0) rfl rfl hl.1 rfl (lv_room (Nat.le_of_ble_eq_true rfl)) dX4_shared_2 ⟨(Nat.le_of_ble_eq_true rfl), (Nat.le_of_ble_eq_true rfl)⟩) hS (fun E ce q9 H_2 locs hp hS hce hcv hcl => ?_) (fun v H1 locs h hS => h.elim)
  exact g_out hxt hlocks hS hce hcv hcl (hp) (Nat.le_of_ble_eq_true rfl) (Nat.le_of_ble_eq_true rfl)
set_option maxHeartbeats 4000000 in
set_option maxRecDepth 100000 in
theorem x_shared_e2 (l : Launch) (G : gG) (hlf : l.stackTraces = false) (A : Nat → Nat) (TA : Nat → Nat → Nat) (S : cS) (W9 : cWk) (H : Heap) (hC : Cat G A TA S W9 H) (hI : sInv S) (z1 z2 : Int) (i : Nat) (hz1 : z1 = i) (hi : i < sn S) (hz2 : rI z2) (hj : ¬ (0 ≤ z2 ∧ z2 < sn S)) : gM l yX4_shared wsX4_shared rm_X4_shared [.ref (A 0), .int (zI z1), .int (zI z2)] G H (gF0) (gTh "java/lang/IndexOutOfBoundsException" H) 6 60 := by
  obtain ⟨h0, h1, h2, h3, h4, h5, h6, hap⟩ := id hC
  have hn16 : sn S ≤ 16 := hI.1
  obtain ⟨ht, hp1, hl1, gt, htd⟩ := id (h6 i hi)
  have hT := h6 i hi
  refine g_start (cc := cX4_shared) (maxL := 8) (ret := (some .int)) (by decide +kernel) rfl (Nat.le_of_ble_eq_true rfl) ?_
  intro p e s m args below meth c F ls hl
  obtain ⟨hx, hb, hml, hr, hts, hown, hlocks, hxt, hH, hX, hin⟩ := F
  have hown : s.vm.findClass RX4 = some m.cls := hown
  have hS : va_S (gA G) s.heap H [] := by rw [hH]; exact va_S.rf
  have hl : lv_has ls 8 [(0, .ref (A 0)), (1, .int (zI z1)), (2, .int (zI z2))] := hl
  refine lv_aload_n hx hb dX4_shared_0 rfl (lv_at hl 0 rfl) ?_
  refine lv_iload_n hx hb dX4_shared_1 rfl (lv_at hl 1 rfl) ?_
  refine g_goq (vx_runV (As := [.int (zI z1)]) (rest := []) ⟨hx, hb, hml, hown, hts⟩ (k_eT_ok l G A TA S W9 H hC hI z1 i hz1 hi) (cwV 1 hts gX4_shared_X4_enteredOrThrow rfl rfl rfl hd_X4_enteredOrThrow ⟨(Nat.le_of_ble_eq_true rfl), (Nat.le_of_ble_eq_true rfl)⟩) (g_preV hX hS (ci := 4) rfl h0) rfl rfl hl.1 rfl (lv_room (Nat.le_of_ble_eq_true rfl)) dX4_shared_2 ⟨(Nat.le_of_ble_eq_true rfl), (Nat.le_of_ble_eq_true rfl)⟩) hS (fun r_2 H_2 locs hp hS => ?_)
  obtain ⟨rfl, rfl⟩ := hp
  refine W.eq (g2 := F0 m 5 ls [.ref (TA i 0)]) rfl ?_
  refine g_getN hx hb hX hts (fun w h => (List.mem_cons_of_mem _ (List.mem_append_left _ (List.mem_append_left _ (List.mem_append_left _ (List.mem_append_right _ h)))))) hown ht rfl 0 (by decide) (by decide +kernel : Cond.fieldLinkNest RX4 77 "TuneCatalogue$Tune" "pitches" "LTuneCatalogue$Row;" RX4 ∈ gNW) rfl dX4_shared_5 ?_
  refine lv_astore_n (lv' := [(3, .ref (TA i 1)), (0, .ref (A 0)), (1, .int (zI z1)), (2, .int (zI z2))]) hx hb dX4_shared_8 rfl hl (by decide) rfl (fun ls hl => ?_)
  refine lv_aload_n hx hb dX4_shared_9 rfl (lv_at hl 1 rfl) ?_
  refine lv_iload_n hx hb dX4_shared_10 rfl (lv_at hl 3 rfl) ?_
  refine g_go (vx_runV (As := [.int (zI z2)]) (rest := []) ⟨hx, hb, hml, hown, hts⟩ (k_eT_no l G hlf A TA S W9 H hC hI z2 hz2 hj) (cwV 1 hts gX4_shared_X4_enteredOrThrow rfl rfl rfl hd_X4_enteredOrThrow ⟨(Nat.le_of_ble_eq_true rfl), (Nat.le_of_ble_eq_true rfl)⟩) (g_preV hX hS (ci := 4) rfl h0) rfl rfl hl.1 rfl (lv_room (Nat.le_of_ble_eq_true rfl)) dX4_shared_11 ⟨(Nat.le_of_ble_eq_true rfl), (Nat.le_of_ble_eq_true rfl)⟩) hS (fun E ce q9 H_11 locs hp hS hce hcv hcl => ?_) (fun v H1 locs h hS => h.elim)
  exact g_out hxt hlocks hS hce hcv hcl (hp) (Nat.le_of_ble_eq_true rfl) (Nat.le_of_ble_eq_true rfl)
theorem k_kN (l : Launch) (G : gG) (A : Nat → Nat) (TA : Nat → Nat → Nat) (S : cS) (W9 : cWk) (H : Heap) (hC : Cat G A TA S W9 H) (hI : sInv S) (z : Int) (i : Nat) (hz : z = i) (hi : i < sn S) : gM l yX4_knownOrNull wsX4_knownOrNull rm_X4_knownOrNull [.ref (A 0), .int (zI z)] G H (gq (fun r H1 => (if srt S i then none else some (TA i 0)) = r ∧ H = H1)) gNo 0 0 := by
  cases e : srt S i
  · exact k_kN_some l G A TA S W9 H hC hI z i hz hi e
  · exact k_kN_none2 l G A TA S W9 H hC hI z i hz hi e
set_option maxHeartbeats 4000000 in
set_option maxRecDepth 100000 in
theorem x_retire_ok (l : Launch) (G : gG) (A : Nat → Nat) (TA : Nat → Nat → Nat) (S : cS) (W9 : cWk) (H : Heap) (hC : Cat G A TA S W9 H) (hI : sInv S) (z : Int) (i : Nat) (hz : z = i) (hi : i < sn S)(hk : srt S i = false) (hI2 : sInv (sRet S i)) : gM l yX4_retire wsX4_retire rm_X4_retire [.ref (A 0), .int (zI z)] G H (gi (fun r H1 => zI (ctB (fun j => !(srt (sRet S i) j)) (sn S) : Nat) = r ∧ XP G A TA S (sRet S i) H H1)) (gNo) 6 60 := by
  obtain ⟨h0, h1, h2, h3, h4, h5, h6, hap⟩ := id hC
  have hn16 : sn S ≤ 16 := hI.1
  obtain ⟨ht, hp1, hl1, gt, htd⟩ := id (h6 i hi)
  have hT := h6 i hi
  refine g_start (cc := cX4_retire) (maxL := 4) (ret := (some .int)) (by decide +kernel) rfl (Nat.le_of_ble_eq_true rfl) ?_
  intro p e s m args below meth c F ls hl
  obtain ⟨hx, hb, hml, hr, hts, hown, hlocks, hxt, hH, hX, hin⟩ := F
  have hown : s.vm.findClass RX4 = some m.cls := hown
  have hS : va_S (gA G) s.heap H [] := by rw [hH]; exact va_S.rf
  have hl : lv_has ls 4 [(0, .ref (A 0)), (1, .int (zI z))] := hl
  refine lv_aload_n hx hb dX4_retire_0 rfl (lv_at hl 0 rfl) ?_
  refine lv_iload_n hx hb dX4_retire_1 rfl (lv_at hl 1 rfl) ?_
  refine g_goq (vx_runV (As := [.int (zI z)]) (rest := []) ⟨hx, hb, hml, hown, hts⟩ (k_kT_ok l G A TA S W9 H hC hI z i hz hi hk) (cwV 1 hts gX4_retire_X4_knownOrThrow rfl rfl rfl hd_X4_knownOrThrow ⟨(Nat.le_of_ble_eq_true rfl), (Nat.le_of_ble_eq_true rfl)⟩) (g_preV hX hS (ci := 4) rfl h0) rfl rfl hl.1 rfl (lv_room (Nat.le_of_ble_eq_true rfl)) dX4_retire_2 ⟨(Nat.le_of_ble_eq_true rfl), (Nat.le_of_ble_eq_true rfl)⟩) hS (fun r_2 H_2 locs hp hS => ?_)
  obtain ⟨rfl, rfl⟩ := hp
  refine W.eq (g2 := F0 m 5 ls [.ref (TA i 0)]) rfl ?_
  refine lv_iconst (v := zI 1) hx hb dX4_retire_5 rfl ?_
  refine g_putN hx hb hX hts (fun w h => (List.mem_cons_of_mem _ (List.mem_append_left _ (List.mem_append_left _ (List.mem_append_right _ h))))) tyX3 tyX3_ok nmX3 hown hS ht gt rfl 2 (by decide) (by decide +kernel : Cond.fieldLinkNest RX4 111 "TuneCatalogue$Tune" "retired" "Z" RX4 ∈ gNW) rfl (ty := tyX3 2) rfl rfl rfl (Nat.le_of_ble_eq_true rfl) dX4_retire_6 (fun H_6 locs h_n hO hS => ?_)
  have h0 := gat.only1 h0 hO (Ne.symm (hap.2.1 i 0 0 hi (by omega) (by omega)))
  have h1 := gat.only1 h1 hO (Ne.symm (hap.2.1 i 0 1 hi (by omega) (by omega)))
  have ht : gat G (TA i 0) (.inr (3, [.ref (TA i 1), .ref (TA i 3), .int (zI 1)])) H_6 := h_n
  have hX2 := hC.tun (S2 := sRet S i) hi hO (by intro q hq; exact ⟨0, by omega, List.mem_singleton.mp hq⟩) (by show Tun G (TA i) (stn S i) (stp S i) (stl S i) (va_up (srt S) i true i) _; rw [show va_up (srt S) i true i = true from if_pos rfl]; exact ⟨ht, hp1.only hO (nm1 (htd 1 0 (by omega) (by omega) (by omega))) (nm1 (htd 2 0 (by omega) (by omega) (by omega))), hl1.only hO (nm1 (htd 3 0 (by omega) (by omega) (by omega))) (nm1 (htd 4 0 (by omega) (by omega) (by omega))), gt, htd⟩) rfl (fun k hk => ⟨rfl, rfl, rfl, if_neg hk⟩) rfl
  obtain ⟨W2, hC2⟩ := hX2.1
  refine lv_iconst (v := zI 0) hx hb dX4_retire_9 rfl ?_
  refine lv_istore_n (lv' := [(2, .int (zI 0)), (0, .ref (A 0)), (1, .int (zI z))]) hx hb dX4_retire_10 rfl hl (by decide) rfl (fun ls hl => ?_)
  refine lv_iconst (v := zI 0) hx hb dX4_retire_11 rfl ?_
  refine lv_istore_n (lv' := [(3, .int (zI 0)), (2, .int (zI 0)), (0, .ref (A 0)), (1, .int (zI z))]) hx hb dX4_retire_12 rfl hl (by decide) rfl (fun ls hl => ?_)
  have loop_13 : ∀ (M_ : Nat) (y : Int) (k : Nat) (x : Int) (locs : List Loc), sn S - k < M_ → (y = k) → (k ≤ sn S) → (x = (ctB (fun j => !(srt (sRet S i) j)) k : Nat)) → va_S (gA G) s.heap H_6 locs → ∀ (ls : Array Slot), lv_has ls 4 [(3, .int (zI y)), (2, .int (zI x)), (0, .ref (A 0)), (1, .int (zI z))] → W p l e rm_X4_retire s m args below meth c H_6 locs (0 + 1) (0 + 6) (vx_MQ below (gQ G (gi (fun r H1 => zI (ctB (fun j => !(srt (sRet S i) j)) (sn S) : Nat) = r ∧ XP G A TA S (sRet S i) H H1))) (gXC G (gNo)) args s 6 60 (gA G)) (F0 m 13 ls []) := by
    intro M_
    induction M_ with
    | zero => intro y k x locs_0 h_0; exact absurd h_0 (Nat.not_lt_zero _)
    | succ M_ ih_13 =>
      intro y k x locs hM_13 hy hkn hx1 hS ls hl
      have hcb := ctB_le (fun j => !(srt (sRet S i) j)) k
      refine lv_iload_n hx hb dX4_retire_13 rfl (lv_at hl 0 rfl) ?_
      refine lv_aload_n hx hb dX4_retire_14 rfl (lv_at hl 2 rfl) ?_
      refine g_get hx hb hX hts (fun w h => (List.mem_cons_of_mem _ (List.mem_append_left _ (List.mem_append_right _ h)))) hown h0 rfl 1 (by decide) (hts (.fieldLink RX4 51 "TuneCatalogue" "entered" "I") (List.mem_cons_of_mem _ (List.mem_append_left _ (List.mem_append_left _ (List.mem_append_left _ (List.mem_of_getElem? (i := 0) rfl)))))) rfl dX4_retire_15 ?_
      refine gz_icmp_ge (tgt := 38) hx hb ⟨by omega, by omega⟩ ⟨by omega, by omega⟩ dX4_retire_18 (by decide) (fun c_18 => ?_) (fun c_18 => ?_)
      · refine lv_iload_n hx hb dX4_retire_38 rfl (lv_at hl 1 rfl) ?_
        exact g_reti hx hb hr hlocks hS rfl (⟨by rw [hx1, show k = sn S by omega], hX2⟩) (Nat.le_of_ble_eq_true rfl) (Nat.le_of_ble_eq_true rfl) dX4_retire_39
      · refine lv_aload_n hx hb dX4_retire_21 rfl (lv_at hl 2 rfl) ?_
        refine lv_iload_n hx hb dX4_retire_22 rfl (lv_at hl 0 rfl) ?_
        refine g_goq (vx_runV (As := [.int (zI y)]) (rest := []) ⟨hx, hb, hml, hown, hts⟩ (k_kN l G A TA (sRet S i) W2 H_6 hC2 hI2 y k (by omega) (by show k < sn S; omega)) (cwV 1 hts gX4_retire_X4_knownOrNull rfl rfl rfl hd_X4_knownOrNull ⟨(Nat.le_of_ble_eq_true rfl), (Nat.le_of_ble_eq_true rfl)⟩) (g_preV hX hS (ci := 4) rfl h0) rfl rfl hl.1 rfl (lv_room (Nat.le_of_ble_eq_true rfl)) dX4_retire_23 ⟨(Nat.le_of_ble_eq_true rfl), (Nat.le_of_ble_eq_true rfl)⟩) hS (fun r_23 H_23 locs hp hS => ?_)
        obtain ⟨hv, rfl⟩ := hp
        cases hsk : srt (sRet S i) k
        · rw [hsk] at hv
          replace hv : some (TA k 0) = r_23 := hv
          subst hv
          refine W.eq (g2 := F0 m 26 ls [.ref (TA k 0)]) rfl ?_
          refine lv_ifnull hx hb dX4_retire_26 ?_
          refine lv_iinc (v := zI (x + 1)) (lv' := [(2, .int (zI (x + 1))), (3, .int (zI y)), (0, .ref (A 0)), (1, .int (zI z))]) hx hb dX4_retire_29 hl (k := 1) rfl (zI_add _ _) (by decide) rfl (fun ls hl => ?_)
          refine lv_iinc (v := zI (y + 1)) (lv' := [(3, .int (zI (y + 1))), (2, .int (zI (x + 1))), (0, .ref (A 0)), (1, .int (zI z))]) hx hb dX4_retire_32 hl (k := 1) rfl (zI_add _ _) (by decide) rfl (fun ls hl => ?_)
          refine lv_goto (tgt := 13) hx hb dX4_retire_35 (by decide) ?_
          exact ih_13 (y + 1) (k + 1) _ _ (by omega) (by omega) (by omega) (by rw [ctB]; rw [hsk]; simp; omega) hS ls (lv_sub hl [0, 1, 2, 3] rfl)
        · rw [hsk] at hv
          replace hv : none = r_23 := hv
          subst hv
          refine W.eq (g2 := F0 m 26 ls [.null]) rfl ?_
          refine lv_ifnullN (tgt := 32) hx hb dX4_retire_26 (by decide) ?_
          refine lv_iinc (v := zI (y + 1)) (lv' := [(3, .int (zI (y + 1))), (2, .int (zI x)), (0, .ref (A 0)), (1, .int (zI z))]) hx hb dX4_retire_32 hl (k := 0) rfl (zI_add _ _) (by decide) rfl (fun ls hl => ?_)
          refine lv_goto (tgt := 13) hx hb dX4_retire_35 (by decide) ?_
          exact ih_13 (y + 1) (k + 1) _ _ (by omega) (by omega) (by omega) (by rw [ctB]; rw [hsk]; simp; omega) hS ls (lv_sub hl [0, 1, 2, 3] rfl)
  exact loop_13 _ 0 0 0 _ (Nat.lt_succ_self _) rfl (Nat.zero_le _) rfl hS ls (lv_sub hl [0, 1, 2, 3] rfl)
set_option maxHeartbeats 4000000 in
set_option maxRecDepth 100000 in
theorem x_retire_e1 (l : Launch) (G : gG) (hlf : l.stackTraces = false) (A : Nat → Nat) (TA : Nat → Nat → Nat) (S : cS) (W9 : cWk) (H : Heap) (hC : Cat G A TA S W9 H) (hI : sInv S) (z : Int) (hz : rI z) (hi : ¬ kwn S z) : gM l yX4_retire wsX4_retire rm_X4_retire [.ref (A 0), .int (zI z)] G H (gF0) (gTh "java/lang/IndexOutOfBoundsException" H) 6 60 := by
  obtain ⟨h0, h1, h2, h3, h4, h5, h6, hap⟩ := id hC
  have hn16 : sn S ≤ 16 := hI.1
  refine g_start (cc := cX4_retire) (maxL := 4) (ret := (some .int)) (by decide +kernel) rfl (Nat.le_of_ble_eq_true rfl) ?_
  intro p e s m args below meth c F ls hl
  obtain ⟨hx, hb, hml, hr, hts, hown, hlocks, hxt, hH, hX, hin⟩ := F
  have hown : s.vm.findClass RX4 = some m.cls := hown
  have hS : va_S (gA G) s.heap H [] := by rw [hH]; exact va_S.rf
  have hl : lv_has ls 4 [(0, .ref (A 0)), (1, .int (zI z))] := hl
  refine lv_aload_n hx hb dX4_retire_0 rfl (lv_at hl 0 rfl) ?_
  refine lv_iload_n hx hb dX4_retire_1 rfl (lv_at hl 1 rfl) ?_
  refine g_go (vx_runV (As := [.int (zI z)]) (rest := []) ⟨hx, hb, hml, hown, hts⟩ (k_kT_no l G hlf A TA S W9 H hC hI z hz hi) (cwV 1 hts gX4_retire_X4_knownOrThrow rfl rfl rfl hd_X4_knownOrThrow ⟨(Nat.le_of_ble_eq_true rfl), (Nat.le_of_ble_eq_true rfl)⟩) (g_preV hX hS (ci := 4) rfl h0) rfl rfl hl.1 rfl (lv_room (Nat.le_of_ble_eq_true rfl)) dX4_retire_2 ⟨(Nat.le_of_ble_eq_true rfl), (Nat.le_of_ble_eq_true rfl)⟩) hS (fun E ce q9 H_2 locs hp hS hce hcv hcl => ?_) (fun v H1 locs h hS => h.elim)
  exact g_out hxt hlocks hS hce hcv hcl (hp) (Nat.le_of_ble_eq_true rfl) (Nat.le_of_ble_eq_true rfl)
set_option maxHeartbeats 4000000 in
set_option maxRecDepth 100000 in
theorem x_likeContour (l : Launch) (G : gG) (A : Nat → Nat) (TA : Nat → Nat → Nat) (S : cS) (W9 : cWk) (H : Heap) (hC : Cat G A TA S W9 H) (hI : sInv S)  : gM l yX4_likeContour wsX4_likeContour rm_X4_likeContour [.ref (A 0)] G H (gi (fun r H1 => zI (lcF S (sn S) : Nat) = r ∧ H = H1)) (gNo) 0 0 := by
  obtain ⟨h0, h1, h2, h3, h4, h5, h6, hap⟩ := id hC
  have hn16 : sn S ≤ 16 := hI.1
  refine g_start (cc := cX4_likeContour) (maxL := 4) (ret := (some .int)) (by decide +kernel) rfl (Nat.le_of_ble_eq_true rfl) ?_
  intro p e s m args below meth c F ls hl
  obtain ⟨hx, hb, hml, hr, hts, hown, hlocks, hxt, hH, hX, hin⟩ := F
  have hown : s.vm.findClass RX4 = some m.cls := hown
  have hS : va_S (gA G) s.heap H [] := by rw [hH]; exact va_S.rf
  have hl : lv_has ls 4 [(0, .ref (A 0))] := hl
  refine lv_iconst (v := zI 0) hx hb dX4_likeContour_0 rfl ?_
  refine lv_istore_n (lv' := [(1, .int (zI 0)), (0, .ref (A 0))]) hx hb dX4_likeContour_1 rfl hl (by decide) rfl (fun ls hl => ?_)
  refine lv_iconst (v := zI 0) hx hb dX4_likeContour_2 rfl ?_
  refine lv_istore_n (lv' := [(2, .int (zI 0)), (1, .int (zI 0)), (0, .ref (A 0))]) hx hb dX4_likeContour_3 rfl hl (by decide) rfl (fun ls hl => ?_)
  have loop_4 : ∀ (M_ : Nat) (y : Int) (k : Nat) (x : Int) (locs : List Loc), sn S - k < M_ → (y = k) → (k ≤ sn S) → (x = (lcF S k : Nat)) → va_S (gA G) s.heap H locs → ∀ (ls : Array Slot), lv_has ls 4 [(2, .int (zI y)), (1, .int (zI x)), (0, .ref (A 0))] → W p l e rm_X4_likeContour s m args below meth c H locs (0) (0) (vx_MQ below (gQ G (gi (fun r H1 => zI (lcF S (sn S) : Nat) = r ∧ H = H1))) (gXC G (gNo)) args s 0 0 (gA G)) (F0 m 4 ls []) := by
    intro M_
    induction M_ with
    | zero => intro y k x locs_0 h_0; exact absurd h_0 (Nat.not_lt_zero _)
    | succ M_ ih_4 =>
      intro y k x locs hM_4 hy hkn hx1 hS ls hl
      refine lv_iload_n hx hb dX4_likeContour_4 rfl (lv_at hl 0 rfl) ?_
      refine lv_aload_n hx hb dX4_likeContour_5 rfl (lv_at hl 2 rfl) ?_
      refine g_get hx hb hX hts (fun w h => (List.mem_cons_of_mem _ (List.mem_append_left _ (List.mem_append_left _ (List.mem_append_right _ h))))) hown h0 rfl 1 (by decide) (hts (.fieldLink RX4 51 "TuneCatalogue" "entered" "I") (List.mem_cons_of_mem _ (List.mem_append_left _ (List.mem_append_left _ (List.mem_append_left _ (List.mem_append_left _ (List.mem_of_getElem? (i := 0) rfl))))))) rfl dX4_likeContour_6 ?_
      refine gz_icmp_ge (tgt := 48) hx hb ⟨by omega, by omega⟩ ⟨by omega, by omega⟩ dX4_likeContour_9 (by decide) (fun c_9 => ?_) (fun c_9 => ?_)
      · refine lv_iload_n hx hb dX4_likeContour_48 rfl (lv_at hl 1 rfl) ?_
        exact g_reti hx hb hr hlocks hS rfl (⟨by rw [hx1, show k = sn S by omega], rfl⟩) (Nat.le_of_ble_eq_true rfl) (Nat.le_of_ble_eq_true rfl) dX4_likeContour_49
      · refine lv_aload_n hx hb dX4_likeContour_12 rfl (lv_at hl 2 rfl) ?_
        refine lv_iload_n hx hb dX4_likeContour_13 rfl (lv_at hl 0 rfl) ?_
        refine g_goq (vx_runV (As := [.int (zI y)]) (rest := []) ⟨hx, hb, hml, hown, hts⟩ (k_kN l G A TA S W9 H hC hI y k (by omega) (by omega)) (cwV 1 hts gX4_likeContour_X4_knownOrNull rfl rfl rfl hd_X4_knownOrNull ⟨(Nat.le_of_ble_eq_true rfl), (Nat.le_of_ble_eq_true rfl)⟩) (g_preV hX hS (ci := 4) rfl h0) rfl rfl hl.1 rfl (lv_room (Nat.le_of_ble_eq_true rfl)) dX4_likeContour_14 ⟨(Nat.le_of_ble_eq_true rfl), (Nat.le_of_ble_eq_true rfl)⟩) hS (fun r_14 H_14 locs hp hS => ?_)
        obtain ⟨hv, rfl⟩ := hp
        cases hsk : srt S k
        · rw [hsk] at hv
          replace hv : some (TA k 0) = r_14 := hv
          subst hv
          refine W.eq (g2 := F0 m 17 ls [.ref (TA k 0)]) rfl ?_
          obtain ⟨htk, hpk, hlk, gtk, htdk⟩ := id (h6 k (by omega))
          refine lv_astore_n (lv' := [(3, .ref (TA k 0)), (2, .int (zI y)), (1, .int (zI x)), (0, .ref (A 0))]) hx hb dX4_likeContour_17 rfl hl (by decide) rfl (fun ls hl => ?_)
          refine lv_aload_n hx hb dX4_likeContour_18 rfl (lv_at hl 0 rfl) ?_
          refine lv_ifnull hx hb dX4_likeContour_19 ?_
          refine lv_aload_n hx hb dX4_likeContour_22 rfl (lv_at hl 0 rfl) ?_
          refine g_getN hx hb hX hts (fun w h => (List.mem_cons_of_mem _ (List.mem_append_left _ (List.mem_append_right _ h)))) hown htk rfl 0 (by decide) (by decide +kernel : Cond.fieldLinkNest RX4 77 "TuneCatalogue$Tune" "pitches" "LTuneCatalogue$Row;" RX4 ∈ gNW) rfl dX4_likeContour_23 ?_
          refine lv_aload_n hx hb dX4_likeContour_26 rfl (lv_at hl 3 rfl) ?_
          refine g_get hx hb hX hts (fun w h => (List.mem_cons_of_mem _ (List.mem_append_left _ (List.mem_append_left _ (List.mem_append_right _ h))))) hown h0 rfl 3 (by decide) (hts (.fieldLink RX4 26 "TuneCatalogue" "humRow" "LTuneCatalogue$Row;") (List.mem_cons_of_mem _ (List.mem_append_left _ (List.mem_append_left _ (List.mem_append_left _ (List.mem_append_left _ (List.mem_of_getElem? (i := 1) rfl))))))) rfl dX4_likeContour_27 ?_
          refine g_goi (vx_runV (As := [.ref (A 2)]) (rest := []) ⟨hx, hb, hml, hown, hts⟩ (k_beginsWithContourOf l G (TA k 1) (TA k 2) 24 (stn S k) _ H hpk (A 2) (A 3) 12 (shn S) _ h2.2.1) (cwV 1 hts gX4_likeContour_X2_beginsWithContourOf rfl rfl rfl hd_X2_beginsWithContourOf ⟨(Nat.le_of_ble_eq_true rfl), (Nat.le_of_ble_eq_true rfl)⟩) (g_preV hX hS (ci := 2) rfl hpk.1) rfl rfl hl.1 rfl (lv_room (Nat.le_of_ble_eq_true rfl)) dX4_likeContour_30 ⟨(Nat.le_of_ble_eq_true rfl), (Nat.le_of_ble_eq_true rfl)⟩) hS (fun r_30 H_30 locs hp hS => ?_)
          obtain ⟨hbw, rfl⟩ := hp
          obtain ⟨zbw, hzb, hzr⟩ : ∃ y : Int, ((bwc (stn S k) (zf (stp S k)) (shn S) (zf (shf S)) ∧ y = 1) ∨ (¬ bwc (stn S k) (zf (stp S k)) (shn S) (zf (shf S)) ∧ y = 0)) ∧ r_30 = zI y := by
            rcases hbw with ⟨h, e⟩ | ⟨h, e⟩
            · exact ⟨1, Or.inl ⟨h, rfl⟩, e⟩
            · exact ⟨0, Or.inr ⟨h, rfl⟩, e⟩
          subst hzr
          refine gz_if_eq (tgt := 42) hx hb (by rcases hzb with h | h <;> exact ⟨by omega, by omega⟩) dX4_likeContour_33 (by decide) (fun c_33 => ?_) (fun c_33 => ?_)
          · have hx2 : x = (lcF S (k + 1) : Nat) := by
              rw [lcF]
              first
              | (rw [bB_t (show lkc S k from ⟨hsk, by rcases hzb with h | h; exact h.1; exact absurd h.2 c_33⟩), if_pos rfl]; done)
              | (rw [bB_f (fun h : lkc S k => by first | (rw [h.1] at hsk; cases hsk; done) | (rcases hzb with g | g; omega; exact g.1 h.2))]; exact hx1)
            refine lv_iinc (v := zI (y + 1)) (lv' := [(2, .int (zI (y + 1))), (3, .ref (TA k 0)), (1, .int (zI x)), (0, .ref (A 0))]) hx hb dX4_likeContour_42 hl (k := 1) rfl (zI_add _ _) (by decide) rfl (fun ls hl => ?_)
            refine lv_goto (tgt := 4) hx hb dX4_likeContour_45 (by decide) ?_
            exact ih_4 (y + 1) (k + 1) x _ (by omega) (by omega) (by omega) hx2 hS ls (lv_sub hl [0, 2, 3] rfl)
          · refine lv_iload_n hx hb dX4_likeContour_36 rfl (lv_at hl 2 rfl) ?_
            refine lv_iconst (v := zI 1) hx hb dX4_likeContour_37 rfl ?_
            refine lv_iload_n hx hb dX4_likeContour_38 rfl (lv_at hl 1 rfl) ?_
            refine gz_ishl hx hb k rfl (by omega) (by omega) dX4_likeContour_39 ?_
            refine gz_ior hx hb (lcF S k) (2 ^ k) (by omega) (by omega) dX4_likeContour_40 ?_
            refine lv_istore_n (lv' := [(1, .int (zI (((lcF S k) ||| (2 ^ k) : Nat) : Int))), (3, .ref (TA k 0)), (2, .int (zI y)), (0, .ref (A 0))]) hx hb dX4_likeContour_41 rfl hl (by decide) rfl (fun ls hl => ?_)
            have hx2 : (((lcF S k) ||| (2 ^ k) : Nat) : Int) = (lcF S (k + 1) : Nat) := by
              rw [lcF]
              first
              | (rw [bB_t (show lkc S k from ⟨hsk, by rcases hzb with h | h; exact h.1; exact absurd h.2 c_33⟩), if_pos rfl]; done)
              | (rw [bB_f (fun h : lkc S k => by first | (rw [h.1] at hsk; cases hsk; done) | (rcases hzb with g | g; omega; exact g.1 h.2))]; exact hx1)
            refine lv_iinc (v := zI (y + 1)) (lv' := [(2, .int (zI (y + 1))), (1, .int (zI (((lcF S k) ||| (2 ^ k) : Nat) : Int))), (3, .ref (TA k 0)), (0, .ref (A 0))]) hx hb dX4_likeContour_42 hl (k := 2) rfl (zI_add _ _) (by decide) rfl (fun ls hl => ?_)
            refine lv_goto (tgt := 4) hx hb dX4_likeContour_45 (by decide) ?_
            exact ih_4 (y + 1) (k + 1) (((lcF S k) ||| (2 ^ k) : Nat) : Int) _ (by omega) (by omega) (by omega) hx2 hS ls (lv_sub hl [0, 1, 3] rfl)
        · rw [hsk] at hv
          replace hv : none = r_14 := hv
          subst hv
          refine W.eq (g2 := F0 m 17 ls [.null]) rfl ?_
          refine lv_astore_nN (lv' := [(3, .null), (2, .int (zI y)), (1, .int (zI x)), (0, .ref (A 0))]) hx hb dX4_likeContour_17 rfl hl (by decide) rfl (fun ls hl => ?_)
          refine lv_aload_nN hx hb dX4_likeContour_18 rfl (lv_at hl 0 rfl) ?_
          refine lv_ifnullN (tgt := 42) hx hb dX4_likeContour_19 (by decide) ?_
          have hx2 : x = (lcF S (k + 1) : Nat) := by
            rw [lcF]
            first
            | (rw [bB_t (show lkc S k from ⟨hsk, by rcases hzb with h | h; exact h.1; exact absurd h.2 c_33⟩), if_pos rfl]; done)
            | (rw [bB_f (fun h : lkc S k => by first | (rw [h.1] at hsk; cases hsk; done) | (rcases hzb with g | g; omega; exact g.1 h.2))]; exact hx1)
          refine lv_iinc (v := zI (y + 1)) (lv' := [(2, .int (zI (y + 1))), (3, .null), (1, .int (zI x)), (0, .ref (A 0))]) hx hb dX4_likeContour_42 hl (k := 1) rfl (zI_add _ _) (by decide) rfl (fun ls hl => ?_)
          refine lv_goto (tgt := 4) hx hb dX4_likeContour_45 (by decide) ?_
          exact ih_4 (y + 1) (k + 1) x _ (by omega) (by omega) (by omega) hx2 hS ls (lv_sub hl [0, 2, 3] rfl)
  exact loop_4 _ 0 0 0 _ (Nat.lt_succ_self _) rfl (Nat.zero_le _) rfl hS ls (lv_sub hl [0, 1, 2] rfl)
set_option maxHeartbeats 4000000 in
set_option maxRecDepth 100000 in
theorem x_link_ok (l : Launch) (G : gG) (A : Nat → Nat) (TA : Nat → Nat → Nat) (S : cS) (W9 : cWk) (H : Heap) (hC : Cat G A TA S W9 H) (hI : sInv S) (z1 z2 : Int) (i j : Nat) (hz1 : z1 = i) (hi : i < sn S) (hz2 : z2 = j) (hj : j < sn S)(hlk2 : ∀ k, lkT (slk S) i j k < 65536) (hij : i ≠ j) (htb : (slk S i).testBit j = false) : gM l yX4_link wsX4_link rm_X4_link [.ref (A 0), .int (zI z1), .int (zI z2)] G H (gi (fun r H1 => zI (famC (lkT (slk S) i j) (sn S) (sn S) : Nat) = r ∧ XP G A TA S (sLnk S i j) H H1)) (gNo) 6 60 := by
  obtain ⟨h0, h1, h2, h3, h4, h5, h6, hap⟩ := id hC
  have hn16 : sn S ≤ 16 := hI.1
  refine g_start (cc := cX4_link) (maxL := 3) (ret := (some .int)) (by decide +kernel) rfl (Nat.le_of_ble_eq_true rfl) ?_
  intro p e s m args below meth c F ls hl
  obtain ⟨hx, hb, hml, hr, hts, hown, hlocks, hxt, hH, hX, hin⟩ := F
  have hown : s.vm.findClass RX4 = some m.cls := hown
  have hS : va_S (gA G) s.heap H [] := by rw [hH]; exact va_S.rf
  have hl : lv_has ls 3 [(0, .ref (A 0)), (1, .int (zI z1)), (2, .int (zI z2))] := hl
  refine lv_aload_n hx hb dX4_link_0 rfl (lv_at hl 0 rfl) ?_
  refine lv_iload_n hx hb dX4_link_1 rfl (lv_at hl 1 rfl) ?_
  refine lv_iload_n hx hb dX4_link_2 rfl (lv_at hl 2 rfl) ?_
  refine g_gov (vx_runV (As := [.int (zI z1), .int (zI z2)]) (rest := []) ⟨hx, hb, hml, hown, hts⟩ (k_rE_ok l G A TA S W9 H hC hI z1 z2 i j hz1 hi hz2 hj) (cwV 2 hts gX4_link_X4_refuseUnlessEntered rfl rfl rfl hd_X4_refuseUnlessEntered ⟨(Nat.le_of_ble_eq_true rfl), (Nat.le_of_ble_eq_true rfl)⟩) (g_preV hX hS (ci := 4) rfl h0) rfl rfl hl.1 rfl (lv_room (Nat.le_of_ble_eq_true rfl)) dX4_link_3 ⟨(Nat.le_of_ble_eq_true rfl), (Nat.le_of_ble_eq_true rfl)⟩) hS (fun H_3 locs hp hS => ?_)
  subst hp
  refine lv_iload_n hx hb dX4_link_6 rfl (lv_at hl 1 rfl) ?_
  refine lv_iload_n hx hb dX4_link_7 rfl (lv_at hl 2 rfl) ?_
  refine gz_icmp_ne (tgt := 21) hx hb ⟨by omega, by omega⟩ ⟨by omega, by omega⟩ dX4_link_8 (by decide) (fun c_8 => ?_) (fun c_8 => ?_)
  · refine lv_aload_n hx hb dX4_link_21 rfl (lv_at hl 0 rfl) ?_
    refine g_get hx hb hX hts (fun w h => (List.mem_cons_of_mem _ (List.mem_append_left _ (List.mem_append_left _ (List.mem_append_left _ (List.mem_append_left _ (List.mem_append_left _ (List.mem_append_right _ h)))))))) hown h0 rfl 4 (by decide) (hts (.fieldLink RX4 32 "TuneCatalogue" "links" "LTuneCatalogue$Links;") (List.mem_cons_of_mem _ (List.mem_append_left _ (List.mem_append_left _ (List.mem_append_left _ (List.mem_append_left _ (List.mem_append_left _ (List.mem_append_left _ (List.mem_append_left _ (List.mem_of_getElem? (i := 4) rfl)))))))))) rfl dX4_link_22 ?_
    refine lv_iload_n hx hb dX4_link_25 rfl (lv_at hl 1 rfl) ?_
    refine lv_iload_n hx hb dX4_link_26 rfl (lv_at hl 2 rfl) ?_
    refine g_goi (vx_runV (As := [.int (zI z1), .int (zI z2)]) (rest := []) ⟨hx, hb, hml, hown, hts⟩ (k_areLinked l G (A 6) (A 7) (A 8) (sn S) (slk S) H h3 (slk_lt hI) z1 z2 i j hz1 hz2 hi hj) (cwV 2 hts gX4_link_X0_areLinked rfl rfl rfl hd_X0_areLinked ⟨(Nat.le_of_ble_eq_true rfl), (Nat.le_of_ble_eq_true rfl)⟩) (g_preV hX hS (ci := 0) rfl h3.1) rfl rfl hl.1 rfl (lv_room (Nat.le_of_ble_eq_true rfl)) dX4_link_27 ⟨(Nat.le_of_ble_eq_true rfl), (Nat.le_of_ble_eq_true rfl)⟩) hS (fun r_27 H_27 locs hp hS => ?_)
    obtain ⟨hv, rfl⟩ := hp
    rw [htb] at hv
    subst hv
    refine W.eq (g2 := F0 m 30 ls [.int (zI 0)]) rfl ?_
    refine gz_if_eq (tgt := 43) hx hb (by decide) dX4_link_30 (by decide) (fun c_30 => ?_) (fun c_30 => ?_)
    · refine lv_aload_n hx hb dX4_link_43 rfl (lv_at hl 0 rfl) ?_
      refine g_get hx hb hX hts (fun w h => (List.mem_cons_of_mem _ (List.mem_append_left _ (List.mem_append_left _ (List.mem_append_left _ (List.mem_append_left _ (List.mem_append_left _ (List.mem_append_right _ h)))))))) hown h0 rfl 4 (by decide) (hts (.fieldLink RX4 32 "TuneCatalogue" "links" "LTuneCatalogue$Links;") (List.mem_cons_of_mem _ (List.mem_append_left _ (List.mem_append_left _ (List.mem_append_left _ (List.mem_append_left _ (List.mem_append_left _ (List.mem_append_left _ (List.mem_append_left _ (List.mem_of_getElem? (i := 4) rfl)))))))))) rfl dX4_link_44 ?_
      refine lv_iload_n hx hb dX4_link_47 rfl (lv_at hl 1 rfl) ?_
      refine lv_iload_n hx hb dX4_link_48 rfl (lv_at hl 2 rfl) ?_
      refine g_gov (vx_runV (As := [.int (zI z1), .int (zI z2)]) (rest := []) ⟨hx, hb, hml, hown, hts⟩ (k_toggle l G (A 6) (A 7) (A 8) (sn S) (slk S) H h3 z1 z2 i j hz1 hz2 hi hj hij) (cwV 2 hts gX4_link_X0_toggle rfl rfl rfl hd_X0_toggle ⟨(Nat.le_of_ble_eq_true rfl), (Nat.le_of_ble_eq_true rfl)⟩) (g_preV hX hS (ci := 0) rfl h3.1) rfl rfl hl.1 rfl (lv_room (Nat.le_of_ble_eq_true rfl)) dX4_link_49 ⟨(Nat.le_of_ble_eq_true rfl), (Nat.le_of_ble_eq_true rfl)⟩) hS (fun H_49 locs hp hS => ?_)
      obtain ⟨h3b, hO1⟩ := hp
      have h0 := h0.only hO1 (nm2 (hap.1 0 7 (by omega) (by omega) (by omega)) (hap.1 0 8 (by omega) (by omega) (by omega)))
      refine lv_aload_n hx hb dX4_link_52 rfl (lv_at hl 0 rfl) ?_
      refine g_get hx hb hX hts (fun w h => (List.mem_cons_of_mem _ (List.mem_append_left _ (List.mem_append_left _ (List.mem_append_left _ (List.mem_append_left _ (List.mem_append_left _ (List.mem_append_right _ h)))))))) hown h0 rfl 4 (by decide) (hts (.fieldLink RX4 32 "TuneCatalogue" "links" "LTuneCatalogue$Links;") (List.mem_cons_of_mem _ (List.mem_append_left _ (List.mem_append_left _ (List.mem_append_left _ (List.mem_append_left _ (List.mem_append_left _ (List.mem_append_left _ (List.mem_append_left _ (List.mem_of_getElem? (i := 4) rfl)))))))))) rfl dX4_link_53 ?_
      refine g_goi (vx_runV (As := []) (rest := []) ⟨hx, hb, hml, hown, hts⟩ (k_countFamilies l G (A 6) (A 7) (A 8) (sn S) (lkT (slk S) i j) H_49 h3b hlk2) (cwV 0 hts gX4_link_X0_countFamilies rfl rfl rfl hd_X0_countFamilies ⟨(Nat.le_of_ble_eq_true rfl), (Nat.le_of_ble_eq_true rfl)⟩) (g_preV hX hS (ci := 0) rfl h3b.1) rfl rfl hl.1 rfl (lv_room (Nat.le_of_ble_eq_true rfl)) dX4_link_56 ⟨(Nat.le_of_ble_eq_true rfl), (Nat.le_of_ble_eq_true rfl)⟩) hS (fun r_56 H_56 locs hp hS => ?_)
      obtain ⟨rfl, rfl⟩ := hp
      exact g_reti hx hb hr hlocks hS rfl (⟨rfl, hC.links hO1 h3b⟩) (Nat.le_of_ble_eq_true rfl) (Nat.le_of_ble_eq_true rfl) dX4_link_59
    · omega
  · omega
set_option maxHeartbeats 4000000 in
set_option maxRecDepth 100000 in
theorem x_link_e1 (l : Launch) (G : gG) (hlf : l.stackTraces = false) (A : Nat → Nat) (TA : Nat → Nat → Nat) (S : cS) (W9 : cWk) (H : Heap) (hC : Cat G A TA S W9 H) (hI : sInv S) (z1 z2 : Int) (hz1 : rI z1) (hz2 : rI z2) (hno : ¬ ((0 ≤ z1 ∧ z1 < sn S) ∧ 0 ≤ z2 ∧ z2 < sn S)) : gM l yX4_link wsX4_link rm_X4_link [.ref (A 0), .int (zI z1), .int (zI z2)] G H (gF0) (gTh "java/lang/IndexOutOfBoundsException" H) 6 60 := by
  obtain ⟨h0, h1, h2, h3, h4, h5, h6, hap⟩ := id hC
  have hn16 : sn S ≤ 16 := hI.1
  refine g_start (cc := cX4_link) (maxL := 3) (ret := (some .int)) (by decide +kernel) rfl (Nat.le_of_ble_eq_true rfl) ?_
  intro p e s m args below meth c F ls hl
  obtain ⟨hx, hb, hml, hr, hts, hown, hlocks, hxt, hH, hX, hin⟩ := F
  have hown : s.vm.findClass RX4 = some m.cls := hown
  have hS : va_S (gA G) s.heap H [] := by rw [hH]; exact va_S.rf
  have hl : lv_has ls 3 [(0, .ref (A 0)), (1, .int (zI z1)), (2, .int (zI z2))] := hl
  refine lv_aload_n hx hb dX4_link_0 rfl (lv_at hl 0 rfl) ?_
  refine lv_iload_n hx hb dX4_link_1 rfl (lv_at hl 1 rfl) ?_
  refine lv_iload_n hx hb dX4_link_2 rfl (lv_at hl 2 rfl) ?_
  refine g_go (vx_runV (As := [.int (zI z1), .int (zI z2)]) (rest := []) ⟨hx, hb, hml, hown, hts⟩ (k_rE_no l G hlf A TA S W9 H hC hI z1 z2 hz1 hz2 hno) (cwV 2 hts gX4_link_X4_refuseUnlessEntered rfl rfl rfl hd_X4_refuseUnlessEntered ⟨(Nat.le_of_ble_eq_true rfl), (Nat.le_of_ble_eq_true rfl)⟩) (g_preV hX hS (ci := 4) rfl h0) rfl rfl hl.1 rfl (lv_room (Nat.le_of_ble_eq_true rfl)) dX4_link_3 ⟨(Nat.le_of_ble_eq_true rfl), (Nat.le_of_ble_eq_true rfl)⟩) hS (fun E ce q9 H_3 locs hp hS hce hcv hcl => ?_) (fun v H1 locs h hS => h.elim)
  exact g_out hxt hlocks hS hce hcv hcl (hp) (Nat.le_of_ble_eq_true rfl) (Nat.le_of_ble_eq_true rfl)
set_option maxHeartbeats 4000000 in
set_option maxRecDepth 100000 in
theorem x_link_e2 (l : Launch) (G : gG) (hlf : l.stackTraces = false) (A : Nat → Nat) (TA : Nat → Nat → Nat) (S : cS) (W9 : cWk) (H : Heap) (hC : Cat G A TA S W9 H) (hI : sInv S) (z1 z2 : Int) (i j : Nat) (hz1 : z1 = i) (hi : i < sn S) (hz2 : z2 = j) (hj : j < sn S)(hij : i = j) : gM l yX4_link wsX4_link rm_X4_link [.ref (A 0), .int (zI z1), .int (zI z2)] G H (gF0) (gTh "java/lang/IllegalArgumentException" H) 6 60 := by
  obtain ⟨h0, h1, h2, h3, h4, h5, h6, hap⟩ := id hC
  have hn16 : sn S ≤ 16 := hI.1
  refine g_start (cc := cX4_link) (maxL := 3) (ret := (some .int)) (by decide +kernel) rfl (Nat.le_of_ble_eq_true rfl) ?_
  intro p e s m args below meth c F ls hl
  obtain ⟨hx, hb, hml, hr, hts, hown, hlocks, hxt, hH, hX, hin⟩ := F
  have hown : s.vm.findClass RX4 = some m.cls := hown
  have hS : va_S (gA G) s.heap H [] := by rw [hH]; exact va_S.rf
  have hl : lv_has ls 3 [(0, .ref (A 0)), (1, .int (zI z1)), (2, .int (zI z2))] := hl
  refine lv_aload_n hx hb dX4_link_0 rfl (lv_at hl 0 rfl) ?_
  refine lv_iload_n hx hb dX4_link_1 rfl (lv_at hl 1 rfl) ?_
  refine lv_iload_n hx hb dX4_link_2 rfl (lv_at hl 2 rfl) ?_
  refine g_gov (vx_runV (As := [.int (zI z1), .int (zI z2)]) (rest := []) ⟨hx, hb, hml, hown, hts⟩ (k_rE_ok l G A TA S W9 H hC hI z1 z2 i j hz1 hi hz2 hj) (cwV 2 hts gX4_link_X4_refuseUnlessEntered rfl rfl rfl hd_X4_refuseUnlessEntered ⟨(Nat.le_of_ble_eq_true rfl), (Nat.le_of_ble_eq_true rfl)⟩) (g_preV hX hS (ci := 4) rfl h0) rfl rfl hl.1 rfl (lv_room (Nat.le_of_ble_eq_true rfl)) dX4_link_3 ⟨(Nat.le_of_ble_eq_true rfl), (Nat.le_of_ble_eq_true rfl)⟩) hS (fun H_3 locs hp hS => ?_)
  subst hp
  refine lv_iload_n hx hb dX4_link_6 rfl (lv_at hl 1 rfl) ?_
  refine lv_iload_n hx hb dX4_link_7 rfl (lv_at hl 2 rfl) ?_
  refine gz_icmp_ne (tgt := 21) hx hb ⟨by omega, by omega⟩ ⟨by omega, by omega⟩ dX4_link_8 (by decide) (fun c_8 => ?_) (fun c_8 => ?_)
  · omega
  · exact g_throw hx hb hlf hX hown (by decide +kernel) (by decide +kernel) (hts (.classLink RX4 185 "java/lang/IllegalArgumentException") (List.mem_cons_of_mem _ (List.mem_append_left _ (List.mem_append_left _ (List.mem_append_left _ (List.mem_append_left _ (List.mem_append_left _ (List.mem_append_left _ (List.mem_append_left _ (List.mem_of_getElem? (i := 0) rfl)))))))))) (hts (.initialized "java/lang/IllegalArgumentException") (List.mem_cons_of_mem _ (List.mem_append_left _ (List.mem_append_left _ (List.mem_append_left _ (List.mem_append_left _ (List.mem_append_left _ (List.mem_append_left _ (List.mem_append_left _ (List.mem_of_getElem? (i := 1) rfl)))))))))) (by decide +kernel : (187, "a link joins two unlike tunes") ∈ gStr) (ha_X4_link_189 hX hts) (by decide +kernel) hS (hl.1.trans hml.symm) dX4_link_11 dX4_link_14 dX4_link_15 dX4_link_17 dX4_link_20 hxt (Nat.le_of_ble_eq_true rfl) (Nat.le_of_ble_eq_true rfl) (Nat.le_of_ble_eq_true rfl) (Nat.le_of_ble_eq_true rfl) hlocks (fun H1 hE => ⟨rfl, hE⟩) (Nat.le_of_ble_eq_true rfl) (Nat.le_of_ble_eq_true rfl)
set_option maxHeartbeats 4000000 in
set_option maxRecDepth 100000 in
theorem x_link_e3 (l : Launch) (G : gG) (hlf : l.stackTraces = false) (A : Nat → Nat) (TA : Nat → Nat → Nat) (S : cS) (W9 : cWk) (H : Heap) (hC : Cat G A TA S W9 H) (hI : sInv S) (z1 z2 : Int) (i j : Nat) (hz1 : z1 = i) (hi : i < sn S) (hz2 : z2 = j) (hj : j < sn S)(hij : i ≠ j) (htb : (slk S i).testBit j = true) : gM l yX4_link wsX4_link rm_X4_link [.ref (A 0), .int (zI z1), .int (zI z2)] G H (gF0) (gTh "java/lang/IllegalStateException" H) 6 60 := by
  obtain ⟨h0, h1, h2, h3, h4, h5, h6, hap⟩ := id hC
  have hn16 : sn S ≤ 16 := hI.1
  refine g_start (cc := cX4_link) (maxL := 3) (ret := (some .int)) (by decide +kernel) rfl (Nat.le_of_ble_eq_true rfl) ?_
  intro p e s m args below meth c F ls hl
  obtain ⟨hx, hb, hml, hr, hts, hown, hlocks, hxt, hH, hX, hin⟩ := F
  have hown : s.vm.findClass RX4 = some m.cls := hown
  have hS : va_S (gA G) s.heap H [] := by rw [hH]; exact va_S.rf
  have hl : lv_has ls 3 [(0, .ref (A 0)), (1, .int (zI z1)), (2, .int (zI z2))] := hl
  refine lv_aload_n hx hb dX4_link_0 rfl (lv_at hl 0 rfl) ?_
  refine lv_iload_n hx hb dX4_link_1 rfl (lv_at hl 1 rfl) ?_
  refine lv_iload_n hx hb dX4_link_2 rfl (lv_at hl 2 rfl) ?_
  refine g_gov (vx_runV (As := [.int (zI z1), .int (zI z2)]) (rest := []) ⟨hx, hb, hml, hown, hts⟩ (k_rE_ok l G A TA S W9 H hC hI z1 z2 i j hz1 hi hz2 hj) (cwV 2 hts gX4_link_X4_refuseUnlessEntered rfl rfl rfl hd_X4_refuseUnlessEntered ⟨(Nat.le_of_ble_eq_true rfl), (Nat.le_of_ble_eq_true rfl)⟩) (g_preV hX hS (ci := 4) rfl h0) rfl rfl hl.1 rfl (lv_room (Nat.le_of_ble_eq_true rfl)) dX4_link_3 ⟨(Nat.le_of_ble_eq_true rfl), (Nat.le_of_ble_eq_true rfl)⟩) hS (fun H_3 locs hp hS => ?_)
  subst hp
  refine lv_iload_n hx hb dX4_link_6 rfl (lv_at hl 1 rfl) ?_
  refine lv_iload_n hx hb dX4_link_7 rfl (lv_at hl 2 rfl) ?_
  refine gz_icmp_ne (tgt := 21) hx hb ⟨by omega, by omega⟩ ⟨by omega, by omega⟩ dX4_link_8 (by decide) (fun c_8 => ?_) (fun c_8 => ?_)
  · refine lv_aload_n hx hb dX4_link_21 rfl (lv_at hl 0 rfl) ?_
    refine g_get hx hb hX hts (fun w h => (List.mem_cons_of_mem _ (List.mem_append_left _ (List.mem_append_left _ (List.mem_append_left _ (List.mem_append_left _ (List.mem_append_left _ (List.mem_append_right _ h)))))))) hown h0 rfl 4 (by decide) (hts (.fieldLink RX4 32 "TuneCatalogue" "links" "LTuneCatalogue$Links;") (List.mem_cons_of_mem _ (List.mem_append_left _ (List.mem_append_left _ (List.mem_append_left _ (List.mem_append_left _ (List.mem_append_left _ (List.mem_append_left _ (List.mem_append_left _ (List.mem_of_getElem? (i := 4) rfl)))))))))) rfl dX4_link_22 ?_
    refine lv_iload_n hx hb dX4_link_25 rfl (lv_at hl 1 rfl) ?_
    refine lv_iload_n hx hb dX4_link_26 rfl (lv_at hl 2 rfl) ?_
    refine g_goi (vx_runV (As := [.int (zI z1), .int (zI z2)]) (rest := []) ⟨hx, hb, hml, hown, hts⟩ (k_areLinked l G (A 6) (A 7) (A 8) (sn S) (slk S) H h3 (slk_lt hI) z1 z2 i j hz1 hz2 hi hj) (cwV 2 hts gX4_link_X0_areLinked rfl rfl rfl hd_X0_areLinked ⟨(Nat.le_of_ble_eq_true rfl), (Nat.le_of_ble_eq_true rfl)⟩) (g_preV hX hS (ci := 0) rfl h3.1) rfl rfl hl.1 rfl (lv_room (Nat.le_of_ble_eq_true rfl)) dX4_link_27 ⟨(Nat.le_of_ble_eq_true rfl), (Nat.le_of_ble_eq_true rfl)⟩) hS (fun r_27 H_27 locs hp hS => ?_)
    obtain ⟨hv, rfl⟩ := hp
    rw [htb] at hv
    subst hv
    refine W.eq (g2 := F0 m 30 ls [.int (zI 1)]) rfl ?_
    refine gz_if_eq (tgt := 43) hx hb (by decide) dX4_link_30 (by decide) (fun c_30 => ?_) (fun c_30 => ?_)
    · omega
    · exact g_throw hx hb hlf hX hown (by decide +kernel) (by decide +kernel) (hts (.classLink RX4 59 "java/lang/IllegalStateException") (List.mem_cons_of_mem _ (List.mem_append_left _ (List.mem_append_left _ (List.mem_append_left _ (List.mem_append_left _ (List.mem_append_left _ (List.mem_append_left _ (List.mem_append_left _ (List.mem_of_getElem? (i := 2) rfl)))))))))) (hts (.initialized "java/lang/IllegalStateException") (List.mem_cons_of_mem _ (List.mem_append_left _ (List.mem_append_left _ (List.mem_append_left _ (List.mem_append_left _ (List.mem_append_left _ (List.mem_append_left _ (List.mem_append_left _ (List.mem_of_getElem? (i := 3) rfl)))))))))) (by decide +kernel : (194, "there is a link of both") ∈ gStr) (ha_X4_link_63 hX hts) (by decide +kernel) hS (hl.1.trans hml.symm) dX4_link_33 dX4_link_36 dX4_link_37 dX4_link_39 dX4_link_42 hxt (Nat.le_of_ble_eq_true rfl) (Nat.le_of_ble_eq_true rfl) (Nat.le_of_ble_eq_true rfl) (Nat.le_of_ble_eq_true rfl) hlocks (fun H1 hE => ⟨rfl, hE⟩) (Nat.le_of_ble_eq_true rfl) (Nat.le_of_ble_eq_true rfl)
  · omega
set_option maxHeartbeats 4000000 in
set_option maxRecDepth 100000 in
theorem x_cut_ok (l : Launch) (G : gG) (A : Nat → Nat) (TA : Nat → Nat → Nat) (S : cS) (W9 : cWk) (H : Heap) (hC : Cat G A TA S W9 H) (hI : sInv S) (z1 z2 : Int) (i j : Nat) (hz1 : z1 = i) (hi : i < sn S) (hz2 : z2 = j) (hj : j < sn S)(hlk2 : ∀ k, lkT (slk S) i j k < 65536) (hij : i ≠ j) (htb : (slk S i).testBit j = true) : gM l yX4_cut wsX4_cut rm_X4_cut [.ref (A 0), .int (zI z1), .int (zI z2)] G H (gi (fun r H1 => zI (famC (lkT (slk S) i j) (sn S) (sn S) : Nat) = r ∧ XP G A TA S (sLnk S i j) H H1)) (gNo) 6 60 := by
  obtain ⟨h0, h1, h2, h3, h4, h5, h6, hap⟩ := id hC
  have hn16 : sn S ≤ 16 := hI.1
  refine g_start (cc := cX4_cut) (maxL := 3) (ret := (some .int)) (by decide +kernel) rfl (Nat.le_of_ble_eq_true rfl) ?_
  intro p e s m args below meth c F ls hl
  obtain ⟨hx, hb, hml, hr, hts, hown, hlocks, hxt, hH, hX, hin⟩ := F
  have hown : s.vm.findClass RX4 = some m.cls := hown
  have hS : va_S (gA G) s.heap H [] := by rw [hH]; exact va_S.rf
  have hl : lv_has ls 3 [(0, .ref (A 0)), (1, .int (zI z1)), (2, .int (zI z2))] := hl
  refine lv_aload_n hx hb dX4_cut_0 rfl (lv_at hl 0 rfl) ?_
  refine lv_iload_n hx hb dX4_cut_1 rfl (lv_at hl 1 rfl) ?_
  refine lv_iload_n hx hb dX4_cut_2 rfl (lv_at hl 2 rfl) ?_
  refine g_gov (vx_runV (As := [.int (zI z1), .int (zI z2)]) (rest := []) ⟨hx, hb, hml, hown, hts⟩ (k_rE_ok l G A TA S W9 H hC hI z1 z2 i j hz1 hi hz2 hj) (cwV 2 hts gX4_cut_X4_refuseUnlessEntered rfl rfl rfl hd_X4_refuseUnlessEntered ⟨(Nat.le_of_ble_eq_true rfl), (Nat.le_of_ble_eq_true rfl)⟩) (g_preV hX hS (ci := 4) rfl h0) rfl rfl hl.1 rfl (lv_room (Nat.le_of_ble_eq_true rfl)) dX4_cut_3 ⟨(Nat.le_of_ble_eq_true rfl), (Nat.le_of_ble_eq_true rfl)⟩) hS (fun H_3 locs hp hS => ?_)
  subst hp
  refine lv_aload_n hx hb dX4_cut_6 rfl (lv_at hl 0 rfl) ?_
  refine g_get hx hb hX hts (fun w h => (List.mem_cons_of_mem _ (List.mem_append_left _ (List.mem_append_left _ (List.mem_append_left _ (List.mem_append_left _ (List.mem_append_right _ h))))))) hown h0 rfl 4 (by decide) (hts (.fieldLink RX4 32 "TuneCatalogue" "links" "LTuneCatalogue$Links;") (List.mem_cons_of_mem _ (List.mem_append_left _ (List.mem_append_left _ (List.mem_append_left _ (List.mem_append_left _ (List.mem_append_left _ (List.mem_append_left _ (List.mem_of_getElem? (i := 2) rfl))))))))) rfl dX4_cut_7 ?_
  refine lv_iload_n hx hb dX4_cut_10 rfl (lv_at hl 1 rfl) ?_
  refine lv_iload_n hx hb dX4_cut_11 rfl (lv_at hl 2 rfl) ?_
  refine g_goi (vx_runV (As := [.int (zI z1), .int (zI z2)]) (rest := []) ⟨hx, hb, hml, hown, hts⟩ (k_areLinked l G (A 6) (A 7) (A 8) (sn S) (slk S) H h3 (slk_lt hI) z1 z2 i j hz1 hz2 hi hj) (cwV 2 hts gX4_cut_X0_areLinked rfl rfl rfl hd_X0_areLinked ⟨(Nat.le_of_ble_eq_true rfl), (Nat.le_of_ble_eq_true rfl)⟩) (g_preV hX hS (ci := 0) rfl h3.1) rfl rfl hl.1 rfl (lv_room (Nat.le_of_ble_eq_true rfl)) dX4_cut_12 ⟨(Nat.le_of_ble_eq_true rfl), (Nat.le_of_ble_eq_true rfl)⟩) hS (fun r_12 H_12 locs hp hS => ?_)
  obtain ⟨hv, rfl⟩ := hp
  rw [htb] at hv
  subst hv
  refine W.eq (g2 := F0 m 15 ls [.int (zI 1)]) rfl ?_
  refine gz_if_ne (tgt := 28) hx hb (by decide) dX4_cut_15 (by decide) (fun c_15 => ?_) (fun c_15 => ?_)
  · refine lv_aload_n hx hb dX4_cut_28 rfl (lv_at hl 0 rfl) ?_
    refine g_get hx hb hX hts (fun w h => (List.mem_cons_of_mem _ (List.mem_append_left _ (List.mem_append_left _ (List.mem_append_left _ (List.mem_append_left _ (List.mem_append_right _ h))))))) hown h0 rfl 4 (by decide) (hts (.fieldLink RX4 32 "TuneCatalogue" "links" "LTuneCatalogue$Links;") (List.mem_cons_of_mem _ (List.mem_append_left _ (List.mem_append_left _ (List.mem_append_left _ (List.mem_append_left _ (List.mem_append_left _ (List.mem_append_left _ (List.mem_of_getElem? (i := 2) rfl))))))))) rfl dX4_cut_29 ?_
    refine lv_iload_n hx hb dX4_cut_32 rfl (lv_at hl 1 rfl) ?_
    refine lv_iload_n hx hb dX4_cut_33 rfl (lv_at hl 2 rfl) ?_
    refine g_gov (vx_runV (As := [.int (zI z1), .int (zI z2)]) (rest := []) ⟨hx, hb, hml, hown, hts⟩ (k_toggle l G (A 6) (A 7) (A 8) (sn S) (slk S) H h3 z1 z2 i j hz1 hz2 hi hj hij) (cwV 2 hts gX4_cut_X0_toggle rfl rfl rfl hd_X0_toggle ⟨(Nat.le_of_ble_eq_true rfl), (Nat.le_of_ble_eq_true rfl)⟩) (g_preV hX hS (ci := 0) rfl h3.1) rfl rfl hl.1 rfl (lv_room (Nat.le_of_ble_eq_true rfl)) dX4_cut_34 ⟨(Nat.le_of_ble_eq_true rfl), (Nat.le_of_ble_eq_true rfl)⟩) hS (fun H_34 locs hp hS => ?_)
    obtain ⟨h3b, hO1⟩ := hp
    have h0 := h0.only hO1 (nm2 (hap.1 0 7 (by omega) (by omega) (by omega)) (hap.1 0 8 (by omega) (by omega) (by omega)))
    refine lv_aload_n hx hb dX4_cut_37 rfl (lv_at hl 0 rfl) ?_
    refine g_get hx hb hX hts (fun w h => (List.mem_cons_of_mem _ (List.mem_append_left _ (List.mem_append_left _ (List.mem_append_left _ (List.mem_append_left _ (List.mem_append_right _ h))))))) hown h0 rfl 4 (by decide) (hts (.fieldLink RX4 32 "TuneCatalogue" "links" "LTuneCatalogue$Links;") (List.mem_cons_of_mem _ (List.mem_append_left _ (List.mem_append_left _ (List.mem_append_left _ (List.mem_append_left _ (List.mem_append_left _ (List.mem_append_left _ (List.mem_of_getElem? (i := 2) rfl))))))))) rfl dX4_cut_38 ?_
    refine g_goi (vx_runV (As := []) (rest := []) ⟨hx, hb, hml, hown, hts⟩ (k_countFamilies l G (A 6) (A 7) (A 8) (sn S) (lkT (slk S) i j) H_34 h3b hlk2) (cwV 0 hts gX4_cut_X0_countFamilies rfl rfl rfl hd_X0_countFamilies ⟨(Nat.le_of_ble_eq_true rfl), (Nat.le_of_ble_eq_true rfl)⟩) (g_preV hX hS (ci := 0) rfl h3b.1) rfl rfl hl.1 rfl (lv_room (Nat.le_of_ble_eq_true rfl)) dX4_cut_41 ⟨(Nat.le_of_ble_eq_true rfl), (Nat.le_of_ble_eq_true rfl)⟩) hS (fun r_41 H_41 locs hp hS => ?_)
    obtain ⟨rfl, rfl⟩ := hp
    exact g_reti hx hb hr hlocks hS rfl (⟨rfl, hC.links hO1 h3b⟩) (Nat.le_of_ble_eq_true rfl) (Nat.le_of_ble_eq_true rfl) dX4_cut_44
  · omega
set_option maxHeartbeats 4000000 in
set_option maxRecDepth 100000 in
theorem x_cut_e1 (l : Launch) (G : gG) (hlf : l.stackTraces = false) (A : Nat → Nat) (TA : Nat → Nat → Nat) (S : cS) (W9 : cWk) (H : Heap) (hC : Cat G A TA S W9 H) (hI : sInv S) (z1 z2 : Int) (hz1 : rI z1) (hz2 : rI z2) (hno : ¬ ((0 ≤ z1 ∧ z1 < sn S) ∧ 0 ≤ z2 ∧ z2 < sn S)) : gM l yX4_cut wsX4_cut rm_X4_cut [.ref (A 0), .int (zI z1), .int (zI z2)] G H (gF0) (gTh "java/lang/IndexOutOfBoundsException" H) 6 60 := by
  obtain ⟨h0, h1, h2, h3, h4, h5, h6, hap⟩ := id hC
  have hn16 : sn S ≤ 16 := hI.1
  refine g_start (cc := cX4_cut) (maxL := 3) (ret := (some .int)) (by decide +kernel) rfl (Nat.le_of_ble_eq_true rfl) ?_
  intro p e s m args below meth c F ls hl
  obtain ⟨hx, hb, hml, hr, hts, hown, hlocks, hxt, hH, hX, hin⟩ := F
  have hown : s.vm.findClass RX4 = some m.cls := hown
  have hS : va_S (gA G) s.heap H [] := by rw [hH]; exact va_S.rf
  have hl : lv_has ls 3 [(0, .ref (A 0)), (1, .int (zI z1)), (2, .int (zI z2))] := hl
  refine lv_aload_n hx hb dX4_cut_0 rfl (lv_at hl 0 rfl) ?_
  refine lv_iload_n hx hb dX4_cut_1 rfl (lv_at hl 1 rfl) ?_
  refine lv_iload_n hx hb dX4_cut_2 rfl (lv_at hl 2 rfl) ?_
  refine g_go (vx_runV (As := [.int (zI z1), .int (zI z2)]) (rest := []) ⟨hx, hb, hml, hown, hts⟩ (k_rE_no l G hlf A TA S W9 H hC hI z1 z2 hz1 hz2 hno) (cwV 2 hts gX4_cut_X4_refuseUnlessEntered rfl rfl rfl hd_X4_refuseUnlessEntered ⟨(Nat.le_of_ble_eq_true rfl), (Nat.le_of_ble_eq_true rfl)⟩) (g_preV hX hS (ci := 4) rfl h0) rfl rfl hl.1 rfl (lv_room (Nat.le_of_ble_eq_true rfl)) dX4_cut_3 ⟨(Nat.le_of_ble_eq_true rfl), (Nat.le_of_ble_eq_true rfl)⟩) hS (fun E ce q9 H_3 locs hp hS hce hcv hcl => ?_) (fun v H1 locs h hS => h.elim)
  exact g_out hxt hlocks hS hce hcv hcl (hp) (Nat.le_of_ble_eq_true rfl) (Nat.le_of_ble_eq_true rfl)
set_option maxHeartbeats 4000000 in
set_option maxRecDepth 100000 in
theorem x_cut_e2 (l : Launch) (G : gG) (hlf : l.stackTraces = false) (A : Nat → Nat) (TA : Nat → Nat → Nat) (S : cS) (W9 : cWk) (H : Heap) (hC : Cat G A TA S W9 H) (hI : sInv S) (z1 z2 : Int) (i j : Nat) (hz1 : z1 = i) (hi : i < sn S) (hz2 : z2 = j) (hj : j < sn S)(htb : (slk S i).testBit j = false) : gM l yX4_cut wsX4_cut rm_X4_cut [.ref (A 0), .int (zI z1), .int (zI z2)] G H (gF0) (gTh "java/lang/IllegalStateException" H) 6 60 := by
  obtain ⟨h0, h1, h2, h3, h4, h5, h6, hap⟩ := id hC
  have hn16 : sn S ≤ 16 := hI.1
  refine g_start (cc := cX4_cut) (maxL := 3) (ret := (some .int)) (by decide +kernel) rfl (Nat.le_of_ble_eq_true rfl) ?_
  intro p e s m args below meth c F ls hl
  obtain ⟨hx, hb, hml, hr, hts, hown, hlocks, hxt, hH, hX, hin⟩ := F
  have hown : s.vm.findClass RX4 = some m.cls := hown
  have hS : va_S (gA G) s.heap H [] := by rw [hH]; exact va_S.rf
  have hl : lv_has ls 3 [(0, .ref (A 0)), (1, .int (zI z1)), (2, .int (zI z2))] := hl
  refine lv_aload_n hx hb dX4_cut_0 rfl (lv_at hl 0 rfl) ?_
  refine lv_iload_n hx hb dX4_cut_1 rfl (lv_at hl 1 rfl) ?_
  refine lv_iload_n hx hb dX4_cut_2 rfl (lv_at hl 2 rfl) ?_
  refine g_gov (vx_runV (As := [.int (zI z1), .int (zI z2)]) (rest := []) ⟨hx, hb, hml, hown, hts⟩ (k_rE_ok l G A TA S W9 H hC hI z1 z2 i j hz1 hi hz2 hj) (cwV 2 hts gX4_cut_X4_refuseUnlessEntered rfl rfl rfl hd_X4_refuseUnlessEntered ⟨(Nat.le_of_ble_eq_true rfl), (Nat.le_of_ble_eq_true rfl)⟩) (g_preV hX hS (ci := 4) rfl h0) rfl rfl hl.1 rfl (lv_room (Nat.le_of_ble_eq_true rfl)) dX4_cut_3 ⟨(Nat.le_of_ble_eq_true rfl), (Nat.le_of_ble_eq_true rfl)⟩) hS (fun H_3 locs hp hS => ?_)
  subst hp
  refine lv_aload_n hx hb dX4_cut_6 rfl (lv_at hl 0 rfl) ?_
  refine g_get hx hb hX hts (fun w h => (List.mem_cons_of_mem _ (List.mem_append_left _ (List.mem_append_left _ (List.mem_append_left _ (List.mem_append_left _ (List.mem_append_right _ h))))))) hown h0 rfl 4 (by decide) (hts (.fieldLink RX4 32 "TuneCatalogue" "links" "LTuneCatalogue$Links;") (List.mem_cons_of_mem _ (List.mem_append_left _ (List.mem_append_left _ (List.mem_append_left _ (List.mem_append_left _ (List.mem_append_left _ (List.mem_append_left _ (List.mem_of_getElem? (i := 2) rfl))))))))) rfl dX4_cut_7 ?_
  refine lv_iload_n hx hb dX4_cut_10 rfl (lv_at hl 1 rfl) ?_
  refine lv_iload_n hx hb dX4_cut_11 rfl (lv_at hl 2 rfl) ?_
  refine g_goi (vx_runV (As := [.int (zI z1), .int (zI z2)]) (rest := []) ⟨hx, hb, hml, hown, hts⟩ (k_areLinked l G (A 6) (A 7) (A 8) (sn S) (slk S) H h3 (slk_lt hI) z1 z2 i j hz1 hz2 hi hj) (cwV 2 hts gX4_cut_X0_areLinked rfl rfl rfl hd_X0_areLinked ⟨(Nat.le_of_ble_eq_true rfl), (Nat.le_of_ble_eq_true rfl)⟩) (g_preV hX hS (ci := 0) rfl h3.1) rfl rfl hl.1 rfl (lv_room (Nat.le_of_ble_eq_true rfl)) dX4_cut_12 ⟨(Nat.le_of_ble_eq_true rfl), (Nat.le_of_ble_eq_true rfl)⟩) hS (fun r_12 H_12 locs hp hS => ?_)
  obtain ⟨hv, rfl⟩ := hp
  rw [htb] at hv
  subst hv
  refine W.eq (g2 := F0 m 15 ls [.int (zI 0)]) rfl ?_
  refine gz_if_ne (tgt := 28) hx hb (by decide) dX4_cut_15 (by decide) (fun c_15 => ?_) (fun c_15 => ?_)
  · omega
  · exact g_throw hx hb hlf hX hown (by decide +kernel) (by decide +kernel) (hts (.classLink RX4 59 "java/lang/IllegalStateException") (List.mem_cons_of_mem _ (List.mem_append_left _ (List.mem_append_left _ (List.mem_append_left _ (List.mem_append_left _ (List.mem_append_left _ (List.mem_append_left _ (List.mem_of_getElem? (i := 0) rfl))))))))) (hts (.initialized "java/lang/IllegalStateException") (List.mem_cons_of_mem _ (List.mem_append_left _ (List.mem_append_left _ (List.mem_append_left _ (List.mem_append_left _ (List.mem_append_left _ (List.mem_append_left _ (List.mem_of_getElem? (i := 1) rfl))))))))) (by decide +kernel : (202, "there is no link of both") ∈ gStr) (ha_X4_cut_63 hX hts) (by decide +kernel) hS (hl.1.trans hml.symm) dX4_cut_18 dX4_cut_21 dX4_cut_22 dX4_cut_24 dX4_cut_27 hxt (Nat.le_of_ble_eq_true rfl) (Nat.le_of_ble_eq_true rfl) (Nat.le_of_ble_eq_true rfl) (Nat.le_of_ble_eq_true rfl) hlocks (fun H1 hE => ⟨rfl, hE⟩) (Nat.le_of_ble_eq_true rfl) (Nat.le_of_ble_eq_true rfl)
set_option maxHeartbeats 4000000 in
set_option maxRecDepth 100000 in
theorem x_family_ok (l : Launch) (G : gG) (A : Nat → Nat) (TA : Nat → Nat → Nat) (S : cS) (W9 : cWk) (H : Heap) (hC : Cat G A TA S W9 H) (hI : sInv S) (z : Int) (i : Nat) (hz : z = i) (hi : i < sn S) : gM l yX4_family wsX4_family rm_X4_family [.ref (A 0), .int (zI z)] G H (gi (fun r H1 => zI (famL (slk S) (sn S) i : Nat) = r ∧ H = H1)) (gNo) 6 60 := by
  obtain ⟨h0, h1, h2, h3, h4, h5, h6, hap⟩ := id hC
  have hn16 : sn S ≤ 16 := hI.1
  refine g_start (cc := cX4_family) (maxL := 2) (ret := (some .int)) (by decide +kernel) rfl (Nat.le_of_ble_eq_true rfl) ?_
  intro p e s m args below meth c F ls hl
  obtain ⟨hx, hb, hml, hr, hts, hown, hlocks, hxt, hH, hX, hin⟩ := F
  have hown : s.vm.findClass RX4 = some m.cls := hown
  have hS : va_S (gA G) s.heap H [] := by rw [hH]; exact va_S.rf
  have hl : lv_has ls 2 [(0, .ref (A 0)), (1, .int (zI z))] := hl
  refine lv_aload_n hx hb dX4_family_0 rfl (lv_at hl 0 rfl) ?_
  refine lv_iload_n hx hb dX4_family_1 rfl (lv_at hl 1 rfl) ?_
  refine g_goq (vx_runV (As := [.int (zI z)]) (rest := []) ⟨hx, hb, hml, hown, hts⟩ (k_eT_ok l G A TA S W9 H hC hI z i hz hi) (cwV 1 hts gX4_family_X4_enteredOrThrow rfl rfl rfl hd_X4_enteredOrThrow ⟨(Nat.le_of_ble_eq_true rfl), (Nat.le_of_ble_eq_true rfl)⟩) (g_preV hX hS (ci := 4) rfl h0) rfl rfl hl.1 rfl (lv_room (Nat.le_of_ble_eq_true rfl)) dX4_family_2 ⟨(Nat.le_of_ble_eq_true rfl), (Nat.le_of_ble_eq_true rfl)⟩) hS (fun r_2 H_2 locs hp hS => ?_)
  obtain ⟨rfl, rfl⟩ := hp
  refine W.eq (g2 := F0 m 5 ls [.ref (TA i 0)]) rfl ?_
  refine lv_pop hx hb dX4_family_5 rfl ?_
  refine lv_aload_n hx hb dX4_family_6 rfl (lv_at hl 0 rfl) ?_
  refine g_get hx hb hX hts (fun w h => (List.mem_cons_of_mem _ (List.mem_append_left _ (List.mem_append_left _ (List.mem_append_left _ (List.mem_append_right _ h)))))) hown h0 rfl 4 (by decide) (hts (.fieldLink RX4 32 "TuneCatalogue" "links" "LTuneCatalogue$Links;") (List.mem_cons_of_mem _ (List.mem_append_left _ (List.mem_append_left _ (List.mem_append_left _ (List.mem_append_left _ (List.mem_append_left _ (List.mem_of_getElem? (i := 0) rfl)))))))) rfl dX4_family_7 ?_
  refine lv_iload_n hx hb dX4_family_10 rfl (lv_at hl 1 rfl) ?_
  refine g_goi (vx_runV (As := [.int (zI z)]) (rest := []) ⟨hx, hb, hml, hown, hts⟩ (k_lowestOfFamily l G (A 6) (A 7) (A 8) (sn S) (slk S) H h3 (slk_lt hI) z i hz hi) (cwV 1 hts gX4_family_X0_lowestOfFamily rfl rfl rfl hd_X0_lowestOfFamily ⟨(Nat.le_of_ble_eq_true rfl), (Nat.le_of_ble_eq_true rfl)⟩) (g_preV hX hS (ci := 0) rfl h3.1) rfl rfl hl.1 rfl (lv_room (Nat.le_of_ble_eq_true rfl)) dX4_family_11 ⟨(Nat.le_of_ble_eq_true rfl), (Nat.le_of_ble_eq_true rfl)⟩) hS (fun r_11 H_11 locs hp hS => ?_)
  obtain ⟨rfl, rfl⟩ := hp
  exact g_reti hx hb hr hlocks hS rfl (⟨rfl, rfl⟩) (Nat.le_of_ble_eq_true rfl) (Nat.le_of_ble_eq_true rfl) dX4_family_14
set_option maxHeartbeats 4000000 in
set_option maxRecDepth 100000 in
theorem x_family_e1 (l : Launch) (G : gG) (hlf : l.stackTraces = false) (A : Nat → Nat) (TA : Nat → Nat → Nat) (S : cS) (W9 : cWk) (H : Heap) (hC : Cat G A TA S W9 H) (hI : sInv S) (z : Int) (hz : rI z) (hi : ¬ (0 ≤ z ∧ z < sn S)) : gM l yX4_family wsX4_family rm_X4_family [.ref (A 0), .int (zI z)] G H (gF0) (gTh "java/lang/IndexOutOfBoundsException" H) 6 60 := by
  obtain ⟨h0, h1, h2, h3, h4, h5, h6, hap⟩ := id hC
  have hn16 : sn S ≤ 16 := hI.1
  refine g_start (cc := cX4_family) (maxL := 2) (ret := (some .int)) (by decide +kernel) rfl (Nat.le_of_ble_eq_true rfl) ?_
  intro p e s m args below meth c F ls hl
  obtain ⟨hx, hb, hml, hr, hts, hown, hlocks, hxt, hH, hX, hin⟩ := F
  have hown : s.vm.findClass RX4 = some m.cls := hown
  have hS : va_S (gA G) s.heap H [] := by rw [hH]; exact va_S.rf
  have hl : lv_has ls 2 [(0, .ref (A 0)), (1, .int (zI z))] := hl
  refine lv_aload_n hx hb dX4_family_0 rfl (lv_at hl 0 rfl) ?_
  refine lv_iload_n hx hb dX4_family_1 rfl (lv_at hl 1 rfl) ?_
  refine g_go (vx_runV (As := [.int (zI z)]) (rest := []) ⟨hx, hb, hml, hown, hts⟩ (k_eT_no l G hlf A TA S W9 H hC hI z hz hi) (cwV 1 hts gX4_family_X4_enteredOrThrow rfl rfl rfl hd_X4_enteredOrThrow ⟨(Nat.le_of_ble_eq_true rfl), (Nat.le_of_ble_eq_true rfl)⟩) (g_preV hX hS (ci := 4) rfl h0) rfl rfl hl.1 rfl (lv_room (Nat.le_of_ble_eq_true rfl)) dX4_family_2 ⟨(Nat.le_of_ble_eq_true rfl), (Nat.le_of_ble_eq_true rfl)⟩) hS (fun E ce q9 H_2 locs hp hS hce hcv hcl => ?_) (fun v H1 locs h hS => h.elim)
  exact g_out hxt hlocks hS hce hcv hcl (hp) (Nat.le_of_ble_eq_true rfl) (Nat.le_of_ble_eq_true rfl)
set_option maxHeartbeats 4000000 in
set_option maxRecDepth 100000 in
theorem x_families (l : Launch) (G : gG) (A : Nat → Nat) (TA : Nat → Nat → Nat) (S : cS) (W9 : cWk) (H : Heap) (hC : Cat G A TA S W9 H) (hI : sInv S)  : gM l yX4_families wsX4_families rm_X4_families [.ref (A 0)] G H (gi (fun r H1 => zI (famC (slk S) (sn S) (sn S) : Nat) = r ∧ H = H1)) (gNo) 0 0 := by
  obtain ⟨h0, h1, h2, h3, h4, h5, h6, hap⟩ := id hC
  have hn16 : sn S ≤ 16 := hI.1
  refine g_start (cc := cX4_families) (maxL := 1) (ret := (some .int)) (by decide +kernel) rfl (Nat.le_of_ble_eq_true rfl) ?_
  intro p e s m args below meth c F ls hl
  obtain ⟨hx, hb, hml, hr, hts, hown, hlocks, hxt, hH, hX, hin⟩ := F
  have hown : s.vm.findClass RX4 = some m.cls := hown
  have hS : va_S (gA G) s.heap H [] := by rw [hH]; exact va_S.rf
  have hl : lv_has ls 1 [(0, .ref (A 0))] := hl
  refine lv_aload_n hx hb dX4_families_0 rfl (lv_at hl 0 rfl) ?_
  refine g_get hx hb hX hts (fun w h => (List.mem_cons_of_mem _ (List.mem_append_left _ (List.mem_append_left _ (List.mem_append_right _ h))))) hown h0 rfl 4 (by decide) (hts (.fieldLink RX4 32 "TuneCatalogue" "links" "LTuneCatalogue$Links;") (List.mem_cons_of_mem _ (List.mem_append_left _ (List.mem_append_left _ (List.mem_append_left _ (List.mem_append_left _ (List.mem_of_getElem? (i := 0) rfl))))))) rfl dX4_families_1 ?_
  refine g_goi (vx_runV (As := []) (rest := []) ⟨hx, hb, hml, hown, hts⟩ (k_countFamilies l G (A 6) (A 7) (A 8) (sn S) (slk S) H h3 (slk_lt hI)) (cwV 0 hts gX4_families_X0_countFamilies rfl rfl rfl hd_X0_countFamilies ⟨(Nat.le_of_ble_eq_true rfl), (Nat.le_of_ble_eq_true rfl)⟩) (g_preV hX hS (ci := 0) rfl h3.1) rfl rfl hl.1 rfl (lv_room (Nat.le_of_ble_eq_true rfl)) dX4_families_4 ⟨(Nat.le_of_ble_eq_true rfl), (Nat.le_of_ble_eq_true rfl)⟩) hS (fun r_4 H_4 locs hp hS => ?_)
  obtain ⟨rfl, rfl⟩ := hp
  exact g_reti hx hb hr hlocks hS rfl (⟨rfl, rfl⟩) (Nat.le_of_ble_eq_true rfl) (Nat.le_of_ble_eq_true rfl) dX4_families_7
