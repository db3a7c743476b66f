/-! ===== the reference's calls: runs, contours, places, links ===== -/
theorem clo_one {lk : Nat → Nat} {n t s : Nat} (h1 : s.testBit t = true) (h2 : ∀ Q, Q.testBit t = true → Cls lk n Q → ∀ j, s.testBit j = true → Q.testBit j = true) (h3 : Cls lk n s) (hlk : lkOK lk n) (ht : t < n) : s = itW lk n (n - 1) (2 ^ t) :=
  Clo.one (lk := lk) (n := n) (t := t) ⟨h1, h3, h2⟩ (clo_itW hlk ht)
theorem lk_ok {S : cS} (hI : sInv S) : lkOK (slk S) (sn S) := fun i j h => ⟨(hI.2.2.2.2.2.2.2.2.2.2.1 i j h).1, (hI.2.2.2.2.2.2.2.2.2.2.1 i j h).2.1⟩
theorem bwc_ok {S : cS} {i q : Nat} (h1 : 1 ≤ stn S i) (h : q = 0 ∨ (q + 1 ≤ shn S ∧ q + 1 ≤ stn S i)) (hq : shn S ≤ q + 1) (hbf : ∀ p, p < q → dirI (zf (stp S i) (p + 1) - zf (stp S i) p) = dirI (zf (shf S) (p + 1) - zf (shf S) p)) : bwc (stn S i) (zf (stp S i)) (shn S) (zf (shf S)) :=
  ⟨by omega, fun p hp => hbf p (by omega)⟩
set_option maxHeartbeats 4000000 in
set_option maxRecDepth 100000 in
theorem m_alike (l : Launch) (G : gG) (B : Nat → Nat) (S : cS) (th : Int) (ct : Nat → Int32) (H : Heap) (hM : Mod G B S th ct H) (hI : sInv S) (z1 za z2 zb : Int) (i a j b : Nat) (hz1 : z1 = i) (hza : za = a) (hz2 : z2 = j) (hzb : zb = b) (hi : i < sn S) (hj : j < sn S) (ha24 : a < 24) (hb24 : b < 24)  : gM l yX5_alike wsX5_alike rm_X5_alike [.ref (B 0), .int (zI z1), .int (zI za), .int (zI z2), .int (zI zb)] G H (gi (fun r H1 => zI (cm2 S i j a b : Nat) = r ∧ H = H1)) (gNo) 0 0 := by
  obtain ⟨m0, m1, m2, m3, m4, m5, m6, m7, hB, gBs⟩ := id hM
  have hn16 : sn S ≤ 16 := hI.1
  have gB0 := gBs 0 (by omega)
  have gB1 := gBs 1 (by omega)
  have gB2 := gBs 2 (by omega)
  have gB3 := gBs 3 (by omega)
  have gB4 := gBs 4 (by omega)
  have gB5 := gBs 5 (by omega)
  have gB6 := gBs 6 (by omega)
  have gB7 := gBs 7 (by omega)
  have hni := hI.2.1 i hi
  have hnj := hI.2.1 j hj
  obtain ⟨L, hLd⟩ : ∃ L, L = Nat.min (stn S i - a) (stn S j - b) - 1 := ⟨_, rfl⟩
  have hLm : L = min (stn S i - a) (stn S j - b) - 1 := hLd
  refine g_start (cc := cX5_alike) (maxL := 6) (ret := (some .int)) (by decide +kernel) rfl (Nat.le_of_ble_eq_true rfl) ?_
  intro p e s m args below meth c F ls hl
  obtain ⟨hx, hb, hml, hr, hts, hown, hlocks, hxt, hH, hX, hin⟩ := F
  have hown : s.vm.findClass RX5 = some m.cls := hown
  have hS : va_S (gA G) s.heap H [] := by rw [hH]; exact va_S.rf
  have hl : lv_has ls 6 [(0, .ref (B 0)), (1, .int (zI z1)), (2, .int (zI za)), (3, .int (zI z2)), (4, .int (zI zb))] := hl
  refine lv_iconst (v := zI 0) hx hb dX5_alike_0 rfl ?_
  refine lv_istore (lv' := [(5, .int (zI 0)), (0, .ref (B 0)), (1, .int (zI z1)), (2, .int (zI za)), (3, .int (zI z2)), (4, .int (zI zb))]) hx hb dX5_alike_1 hl (by decide) rfl (fun ls hl => ?_)
  have loop_3 : ∀ (M_ : Nat) (y : Int) (q : Nat) (locs : List Loc), L - q < M_ → (y = q) → (q ≤ L) → (cmn (zf (stp S i)) (zf (stp S j)) a b L = q + cmn (zf (stp S i)) (zf (stp S j)) (a + q) (b + q) (L - q)) → va_S (gA G) s.heap H locs → ∀ (ls : Array Slot), lv_has ls 6 [(5, .int (zI y)), (0, .ref (B 0)), (1, .int (zI z1)), (2, .int (zI za)), (3, .int (zI z2)), (4, .int (zI zb))] → W p l e rm_X5_alike s m args below meth c H locs (0) (0) (vx_MQ below (gQ G (gi (fun r H1 => zI (cm2 S i j a b : Nat) = r ∧ H = H1))) (gXC G (gNo)) args s 0 0 (gA G)) (F0 m 3 ls []) := by
    intro M_
    induction M_ with
    | zero => intro y q locs_0 h_0; exact absurd h_0 (Nat.not_lt_zero _)
    | succ M_ ih_3 =>
      intro y q locs hM_3 hy hqL hc9 hS ls hl
      refine lv_iload_n hx hb dX5_alike_3 rfl (lv_at hl 3 rfl) ?_
      refine lv_iload hx hb dX5_alike_4 (lv_at hl 0 rfl) ?_
      refine gz_iadd hx hb dX5_alike_6 ?_
      refine lv_aload_n hx hb dX5_alike_7 rfl (lv_at hl 1 rfl) ?_
      refine g_get hx hb hX hts (fun w h => (List.mem_cons_of_mem _ (List.mem_append_right _ h))) hown m0 rfl 4 (by decide) (hts (.fieldLink RX5 16 "TuneCatalogueModel" "sizes" "[I") (List.mem_cons_of_mem _ (List.mem_append_left _ (List.mem_of_getElem? (i := 0) rfl)))) rfl dX5_alike_8 ?_
      refine lv_iload_n hx hb dX5_alike_11 rfl (lv_at hl 2 rfl) ?_
      refine gz_iald hx hb hX m3 i (by omega) (by omega) (by omega) dX5_alike_12 ?_
      refine lv_iconst (v := zI 1) hx hb dX5_alike_13 rfl ?_
      refine gz_isub hx hb dX5_alike_14 ?_
      refine gz_icmp_ge (tgt := 62) hx hb ⟨by omega, by omega⟩ ⟨by omega, by omega⟩ dX5_alike_15 (by decide) (fun c_15 => ?_) (fun c_15 => ?_)
      · refine lv_iload hx hb dX5_alike_62 (lv_at hl 0 rfl) ?_
        exact g_reti hx hb hr hlocks hS rfl (⟨by
            rw [show cm2 S i j a b = cmn (zf (stp S i)) (zf (stp S j)) a b L by unfold cm2; rw [hLd], hc9, hy]
            first
            | (rw [show L - q = 0 by omega, cmn]; congr 1; done)
            | (rw [show L - q = (L - (q + 1)) + 1 by omega, cmn, if_neg c_53]; congr 1; done), rfl⟩) (Nat.le_of_ble_eq_true rfl) (Nat.le_of_ble_eq_true rfl) dX5_alike_64
      · refine lv_iload hx hb dX5_alike_18 (lv_at hl 5 rfl) ?_
        refine lv_iload hx hb dX5_alike_20 (lv_at hl 0 rfl) ?_
        refine gz_iadd hx hb dX5_alike_22 ?_
        refine lv_aload_n hx hb dX5_alike_23 rfl (lv_at hl 1 rfl) ?_
        refine g_get hx hb hX hts (fun w h => (List.mem_cons_of_mem _ (List.mem_append_right _ h))) hown m0 rfl 4 (by decide) (hts (.fieldLink RX5 16 "TuneCatalogueModel" "sizes" "[I") (List.mem_cons_of_mem _ (List.mem_append_left _ (List.mem_of_getElem? (i := 0) rfl)))) rfl dX5_alike_24 ?_
        refine lv_iload_n hx hb dX5_alike_27 rfl (lv_at hl 4 rfl) ?_
        refine gz_iald hx hb hX m3 j (by omega) (by omega) (by omega) dX5_alike_28 ?_
        refine lv_iconst (v := zI 1) hx hb dX5_alike_29 rfl ?_
        refine gz_isub hx hb dX5_alike_30 ?_
        refine gz_icmp_ge (tgt := 62) hx hb ⟨by omega, by omega⟩ ⟨by omega, by omega⟩ dX5_alike_31 (by decide) (fun c_31 => ?_) (fun c_31 => ?_)
        · refine lv_iload hx hb dX5_alike_62 (lv_at hl 0 rfl) ?_
          exact g_reti hx hb hr hlocks hS rfl (⟨by
              rw [show cm2 S i j a b = cmn (zf (stp S i)) (zf (stp S j)) a b L by unfold cm2; rw [hLd], hc9, hy]
              first
              | (rw [show L - q = 0 by omega, cmn]; congr 1; done)
              | (rw [show L - q = (L - (q + 1)) + 1 by omega, cmn, if_neg c_53]; congr 1; done), rfl⟩) (Nat.le_of_ble_eq_true rfl) (Nat.le_of_ble_eq_true rfl) dX5_alike_64
        · refine lv_aload_n hx hb dX5_alike_34 rfl (lv_at hl 1 rfl) ?_
          refine lv_iload_n hx hb dX5_alike_35 rfl (lv_at hl 2 rfl) ?_
          refine lv_iload_n hx hb dX5_alike_36 rfl (lv_at hl 3 rfl) ?_
          refine lv_iload hx hb dX5_alike_37 (lv_at hl 0 rfl) ?_
          refine gz_iadd hx hb dX5_alike_39 ?_
          refine g_goi (vx_runV (As := [.int (zI z1), .int (zI (za + y))]) (rest := []) ⟨hx, hb, hml, hown, hts⟩ (m_stepOf l G B S th ct H hM hI z1 (za + y) i (a + q) (by omega) (by omega) (by omega) (by omega)) (cwV 2 hts gX5_alike_X5_stepOf rfl rfl rfl hd_X5_stepOf ⟨(Nat.le_of_ble_eq_true rfl), (Nat.le_of_ble_eq_true rfl)⟩) (g_preV hX hS (ci := 5) rfl m0) rfl rfl hl.1 rfl (lv_room (Nat.le_of_ble_eq_true rfl)) dX5_alike_40 ⟨(Nat.le_of_ble_eq_true rfl), (Nat.le_of_ble_eq_true rfl)⟩) hS (fun r_40 H_40 locs hp hS => ?_)
          obtain ⟨rfl, rfl⟩ := hp
          refine lv_aload_n hx hb dX5_alike_43 rfl (lv_at hl 1 rfl) ?_
          refine lv_iload_n hx hb dX5_alike_44 rfl (lv_at hl 4 rfl) ?_
          refine lv_iload hx hb dX5_alike_45 (lv_at hl 5 rfl) ?_
          refine lv_iload hx hb dX5_alike_47 (lv_at hl 0 rfl) ?_
          refine gz_iadd hx hb dX5_alike_49 ?_
          refine g_goi (vx_runV (As := [.int (zI z2), .int (zI (zb + y))]) (rest := [.int (zI (stp S i ((a + q) + 1)) - zI (stp S i (a + q)))]) ⟨hx, hb, hml, hown, hts⟩ (m_stepOf l G B S th ct H hM hI z2 (zb + y) j (b + q) (by omega) (by omega) (by omega) (by omega)) (cwV 2 hts gX5_alike_X5_stepOf rfl rfl rfl hd_X5_stepOf ⟨(Nat.le_of_ble_eq_true rfl), (Nat.le_of_ble_eq_true rfl)⟩) (g_preV hX hS (ci := 5) rfl m0) rfl rfl hl.1 rfl (lv_room (Nat.le_of_ble_eq_true rfl)) dX5_alike_50 ⟨(Nat.le_of_ble_eq_true rfl), (Nat.le_of_ble_eq_true rfl)⟩) hS (fun r_50 H_50 locs hp hS => ?_)
          obtain ⟨rfl, rfl⟩ := hp
          refine lv_icmp_ne (tgt := 62) hx hb dX5_alike_53 (by decide) (fun c_53 => ?_) (fun c_53 => ?_)
          · refine lv_iload hx hb dX5_alike_62 (lv_at hl 0 rfl) ?_
            exact g_reti hx hb hr hlocks hS rfl (⟨by
                rw [show cm2 S i j a b = cmn (zf (stp S i)) (zf (stp S j)) a b L by unfold cm2; rw [hLd], hc9, hy]
                first
                | (rw [show L - q = 0 by omega, cmn]; congr 1; done)
                | (rw [show L - q = (L - (q + 1)) + 1 by omega, cmn, if_neg c_53]; congr 1; done), rfl⟩) (Nat.le_of_ble_eq_true rfl) (Nat.le_of_ble_eq_true rfl) dX5_alike_64
          · have hc10 : cmn (zf (stp S i)) (zf (stp S j)) a b L = (q + 1) + cmn (zf (stp S i)) (zf (stp S j)) (a + (q + 1)) (b + (q + 1)) (L - (q + 1)) := by
              rw [hc9, show L - q = (L - (q + 1)) + 1 by omega]
              rw [cmn, if_pos (by first | exact Classical.not_not.mp c_53 | exact c_53), show a + q + 1 = a + (q + 1) by omega, show b + q + 1 = b + (q + 1) by omega]; omega
            refine lv_iinc (v := zI (y + 1)) (lv' := [(5, .int (zI (y + 1))), (0, .ref (B 0)), (1, .int (zI z1)), (2, .int (zI za)), (3, .int (zI z2)), (4, .int (zI zb))]) hx hb dX5_alike_56 hl (k := 0) rfl (zI_add _ _) (by decide) rfl (fun ls hl => ?_)
            refine lv_goto (tgt := 3) hx hb dX5_alike_59 (by decide) ?_
            exact ih_3 (y + 1) (q + 1) _ (by omega) (by omega) (by omega) hc10 hS ls (lv_sub hl [0, 1, 2, 3, 4, 5] rfl)
  exact loop_3 _ 0 0 _ (Nat.lt_succ_self _) rfl (Nat.zero_le _) (by rw [Nat.zero_add]; rfl) hS ls (lv_sub hl [0, 1, 2, 3, 4, 5] rfl)
set_option maxHeartbeats 4000000 in
set_option maxRecDepth 100000 in
theorem m_shared_ok (l : Launch) (G : gG) (B : Nat → Nat) (S : cS) (th : Int) (ct : Nat → Int32) (H : Heap) (hM : Mod G B S th ct H) (hI : sInv S) (z1 z2 : Int) (i j : Nat) (hz1 : z1 = i) (hi : i < sn S) (hz2 : z2 = j) (hj : j < sn S)  : gM l yX5_shared wsX5_shared rm_X5_shared [.ref (B 0), .int (zI z1), .int (zI z2)] G H (gi (fun r H1 => zI ((sharedF S i j : Nat) : Int) = r ∧ MP G B S 0 H H1)) (gNo) 0 0 := by
  obtain ⟨m0, m1, m2, m3, m4, m5, m6, m7, hB, gBs⟩ := id hM
  have hn16 : sn S ≤ 16 := hI.1
  have gB0 := gBs 0 (by omega)
  have gB1 := gBs 1 (by omega)
  have gB2 := gBs 2 (by omega)
  have gB3 := gBs 3 (by omega)
  have gB4 := gBs 4 (by omega)
  have gB5 := gBs 5 (by omega)
  have gB6 := gBs 6 (by omega)
  have gB7 := gBs 7 (by omega)
  have hK : gKp (oB B) H H := gKp.rf _ _
  refine g_start (cc := cX5_shared) (maxL := 6) (ret := (some .int)) (by decide +kernel) rfl (Nat.le_of_ble_eq_true rfl) ?_
  intro p e s m args below meth c F ls hl
  obtain ⟨hx, hb, hml, hr, hts, hown, hlocks, hxt, hH, hX, hin⟩ := F
  have hown : s.vm.findClass RX5 = some m.cls := hown
  have hS : va_S (gA G) s.heap H [] := by rw [hH]; exact va_S.rf
  have hl : lv_has ls 6 [(0, .ref (B 0)), (1, .int (zI z1)), (2, .int (zI z2))] := hl
  refine lv_aload_n hx hb dX5_shared_0 rfl (lv_at hl 0 rfl) ?_
  refine lv_aload_n hx hb dX5_shared_1 rfl (lv_at hl 0 rfl) ?_
  refine lv_iload_n hx hb dX5_shared_2 rfl (lv_at hl 1 rfl) ?_
  refine g_goi (vx_runV (As := [.int (zI z1)]) (rest := [.ref (B 0)]) ⟨hx, hb, hml, hown, hts⟩ (m_isTune_t l G B S th ct H hM hI z1 i hz1 hi) (cwV 1 hts gX5_shared_X5_isTune rfl rfl rfl hd_X5_isTune ⟨(Nat.le_of_ble_eq_true rfl), (Nat.le_of_ble_eq_true rfl)⟩) (g_preV hX hS (ci := 5) rfl m0) rfl rfl hl.1 rfl (lv_room (Nat.le_of_ble_eq_true rfl)) dX5_shared_3 ⟨(Nat.le_of_ble_eq_true rfl), (Nat.le_of_ble_eq_true rfl)⟩) hS (fun r_3 H_3 locs hp hS => ?_)
  obtain ⟨rfl, rfl⟩ := hp
  refine gz_if_eq (tgt := 21) hx hb (by decide) dX5_shared_6 (by decide) (fun c_6 => ?_) (fun c_6 => ?_)
  · omega
  · refine lv_aload_n hx hb dX5_shared_9 rfl (lv_at hl 0 rfl) ?_
    refine lv_iload_n hx hb dX5_shared_10 rfl (lv_at hl 2 rfl) ?_
    refine g_goi (vx_runV (As := [.int (zI z2)]) (rest := [.ref (B 0)]) ⟨hx, hb, hml, hown, hts⟩ (m_isTune_t l G B S th ct H hM hI z2 j hz2 hj) (cwV 1 hts gX5_shared_X5_isTune rfl rfl rfl hd_X5_isTune ⟨(Nat.le_of_ble_eq_true rfl), (Nat.le_of_ble_eq_true rfl)⟩) (g_preV hX hS (ci := 5) rfl m0) rfl rfl hl.1 rfl (lv_room (Nat.le_of_ble_eq_true rfl)) dX5_shared_11 ⟨(Nat.le_of_ble_eq_true rfl), (Nat.le_of_ble_eq_true rfl)⟩) hS (fun r_11 H_11 locs hp hS => ?_)
    obtain ⟨rfl, rfl⟩ := hp
    refine gz_if_eq (tgt := 21) hx hb (by decide) dX5_shared_14 (by decide) (fun c_14 => ?_) (fun c_14 => ?_)
    · omega
    · refine lv_iconst (v := zI 0) hx hb dX5_shared_17 rfl ?_
      refine lv_goto (tgt := 22) hx hb dX5_shared_18 (by decide) ?_
      refine g_goi (vx_runV (As := [.int (zI 0)]) (rest := []) ⟨hx, hb, hml, hown, hts⟩ (m_holds_0 l G B S th ct H hM hI 0 rfl) (cwV 1 hts gX5_shared_X5_holds rfl rfl rfl hd_X5_holds ⟨(Nat.le_of_ble_eq_true rfl), (Nat.le_of_ble_eq_true rfl)⟩) (g_preV hX hS (ci := 5) rfl m0) rfl rfl hl.1 rfl (lv_room (Nat.le_of_ble_eq_true rfl)) dX5_shared_22 ⟨(Nat.le_of_ble_eq_true rfl), (Nat.le_of_ble_eq_true rfl)⟩) hS (fun r_22 H_22 locs hp hS => ?_)
      obtain ⟨rfl, hM, hOh⟩ := hp
      obtain ⟨m0, m1, m2, m3, m4, m5, m6, m7, hB, gBs⟩ := id hM
      have hK := hK.trans (hOh.kp1 (oB.k (k := 0) (by omega)))
      refine gz_if_ne (tgt := 30) hx hb (by decide) dX5_shared_25 (by decide) (fun c_25 => ?_) (fun c_25 => ?_)
      · refine lv_iconst (v := zI 0) hx hb dX5_shared_30 rfl ?_
        refine lv_istore_n (lv' := [(3, .int (zI 0)), (0, .ref (B 0)), (1, .int (zI z1)), (2, .int (zI z2))]) hx hb dX5_shared_31 rfl hl (by decide) rfl (fun ls hl => ?_)
        refine lv_iconst (v := zI 0) hx hb dX5_shared_32 rfl ?_
        refine lv_istore (lv' := [(4, .int (zI 0)), (3, .int (zI 0)), (0, .ref (B 0)), (1, .int (zI z1)), (2, .int (zI z2))]) hx hb dX5_shared_33 hl (by decide) rfl (fun ls hl => ?_)
        have loop_35 : ∀ (M_ : Nat) (y : Int) (g : Nat) (x : Int) (locs : List Loc), 576 - g < M_ → (y = g) → (g ≤ 576) → (x = (msh S i j g : Nat)) → va_S (gA G) s.heap H_22 locs → ∀ (ls : Array Slot), lv_has ls 6 [(4, .int (zI y)), (3, .int (zI x)), (0, .ref (B 0)), (1, .int (zI z1)), (2, .int (zI z2))] → W p l e rm_X5_shared s m args below meth c H_22 locs (0) (0) (vx_MQ below (gQ G (gi (fun r H1 => zI ((sharedF S i j : Nat) : Int) = r ∧ MP G B S 0 H H1))) (gXC G (gNo)) args s 0 0 (gA G)) (F0 m 35 ls []) := by
          intro M_
          induction M_ with
          | zero => intro y g x locs_0 h_0; exact absurd h_0 (Nat.not_lt_zero _)
          | succ M_ ih_35 =>
            intro y g x locs hM_35 hy hg hx1 hS ls hl
            have hmb : msh S i j g ≤ 24 := msh_lub (fun a b => by have := cmn_le (zf (stp S i)) (zf (stp S j)) (Nat.min (stn S i - a) (stn S j - b) - 1) a b; have h2 : Nat.min (stn S i - a) (stn S j - b) ≤ stn S i - a := Nat.min_le_left _ _; have := (hI.2.1 i hi).2; unfold cm2; omega) g
            have hcb : cm2 S i j (g / 24) (g % 24) ≤ 24 := by have := cmn_le (zf (stp S i)) (zf (stp S j)) (Nat.min (stn S i - g / 24) (stn S j - g % 24) - 1) (g / 24) (g % 24); have h2 : Nat.min (stn S i - g / 24) (stn S j - g % 24) ≤ stn S i - g / 24 := Nat.min_le_left _ _; have := (hI.2.1 i hi).2; unfold cm2; omega
            refine lv_iload hx hb dX5_shared_35 (lv_at hl 0 rfl) ?_
            refine lv_sipush (v := zI 576) hx hb dX5_shared_37 (by decide +kernel) ?_
            refine gz_icmp_ge (tgt := 80) hx hb ⟨by omega, by omega⟩ (by decide) dX5_shared_40 (by decide) (fun c_40 => ?_) (fun c_40 => ?_)
            · refine lv_iload_n hx hb dX5_shared_80 rfl (lv_at hl 1 rfl) ?_
              exact g_reti hx hb hr hlocks hS rfl (⟨by rw [hx1, show g = 576 by omega, msh_eq (hI.2.1 i hi).2 (hI.2.1 j hj).2], ⟨ct, ⟨m0, m1, m2, m3, m4, m5, m6, m7, hB, gBs⟩⟩, hK⟩) (Nat.le_of_ble_eq_true rfl) (Nat.le_of_ble_eq_true rfl) dX5_shared_81
            · refine lv_aload_n hx hb dX5_shared_43 rfl (lv_at hl 2 rfl) ?_
              refine lv_iload_n hx hb dX5_shared_44 rfl (lv_at hl 3 rfl) ?_
              refine lv_iload hx hb dX5_shared_45 (lv_at hl 0 rfl) ?_
              refine lv_bipush (v := zI 24) hx hb dX5_shared_47 (by decide +kernel) ?_
              refine gz_idiv hx hb g 24 (by omega) (by omega) (by omega) (by omega) dX5_shared_49 ?_
              refine lv_iload_n hx hb dX5_shared_50 rfl (lv_at hl 4 rfl) ?_
              refine lv_iload hx hb dX5_shared_51 (lv_at hl 0 rfl) ?_
              refine lv_bipush (v := zI 24) hx hb dX5_shared_53 (by decide +kernel) ?_
              refine gz_irem hx hb g 24 (by omega) (by omega) (by omega) (by omega) dX5_shared_55 ?_
              refine g_goi (vx_runV (As := [.int (zI z1), .int (zI ((g / 24 : Nat) : Int)), .int (zI z2), .int (zI ((g % 24 : Nat) : Int))]) (rest := []) ⟨hx, hb, hml, hown, hts⟩ (m_alike l G B S 0 ct H_22 hM hI z1 ((g / 24 : Nat) : Int) z2 ((g % 24 : Nat) : Int) i (g / 24) j (g % 24) hz1 (by omega) hz2 (by omega) hi hj (by omega) (by omega)) (cwV 4 hts gX5_shared_X5_alike rfl rfl rfl hd_X5_alike ⟨(Nat.le_of_ble_eq_true rfl), (Nat.le_of_ble_eq_true rfl)⟩) (g_preV hX hS (ci := 5) rfl m0) rfl rfl hl.1 rfl (lv_room (Nat.le_of_ble_eq_true rfl)) dX5_shared_56 ⟨(Nat.le_of_ble_eq_true rfl), (Nat.le_of_ble_eq_true rfl)⟩) hS (fun r_56 H_56 locs hp hS => ?_)
              obtain ⟨rfl, rfl⟩ := hp
              refine lv_istore (lv' := [(5, .int (zI ((cm2 S i j (g / 24) (g % 24) : Nat) : Int))), (4, .int (zI y)), (3, .int (zI x)), (0, .ref (B 0)), (1, .int (zI z1)), (2, .int (zI z2))]) hx hb dX5_shared_59 hl (by decide) rfl (fun ls hl => ?_)
              refine lv_iload hx hb dX5_shared_61 (lv_at hl 0 rfl) ?_
              refine lv_iload_n hx hb dX5_shared_63 rfl (lv_at hl 2 rfl) ?_
              refine gz_icmp_le (tgt := 72) hx hb ⟨by omega, by omega⟩ ⟨by omega, by omega⟩ dX5_shared_64 (by decide) (fun c_64 => ?_) (fun c_64 => ?_)
              · refine lv_iload_n hx hb dX5_shared_72 rfl (lv_at hl 2 rfl) ?_
                refine lv_istore_n (lv' := [(3, .int (zI x)), (5, .int (zI ((cm2 S i j (g / 24) (g % 24) : Nat) : Int))), (4, .int (zI y)), (0, .ref (B 0)), (1, .int (zI z1)), (2, .int (zI z2))]) hx hb dX5_shared_73 rfl hl (by decide) rfl (fun ls hl => ?_)
                refine lv_iinc (v := zI (y + 1)) (lv' := [(4, .int (zI (y + 1))), (3, .int (zI x)), (5, .int (zI ((cm2 S i j (g / 24) (g % 24) : Nat) : Int))), (0, .ref (B 0)), (1, .int (zI z1)), (2, .int (zI z2))]) hx hb dX5_shared_74 hl (k := 2) rfl (zI_add _ _) (by decide) rfl (fun ls hl => ?_)
                refine lv_goto (tgt := 35) hx hb dX5_shared_77 (by decide) ?_
                exact ih_35 (y + 1) (g + 1) x _ (by omega) (by omega) (by omega) (by rw [msh]; omega) hS ls (lv_sub hl [0, 1, 3, 4, 5] rfl)
              · refine lv_iload hx hb dX5_shared_67 (lv_at hl 0 rfl) ?_
                refine lv_goto (tgt := 73) hx hb dX5_shared_69 (by decide) ?_
                refine lv_istore_n (lv' := [(3, .int (zI ((cm2 S i j (g / 24) (g % 24) : Nat) : Int))), (5, .int (zI ((cm2 S i j (g / 24) (g % 24) : Nat) : Int))), (4, .int (zI y)), (0, .ref (B 0)), (1, .int (zI z1)), (2, .int (zI z2))]) hx hb dX5_shared_73 rfl hl (by decide) rfl (fun ls hl => ?_)
                refine lv_iinc (v := zI (y + 1)) (lv' := [(4, .int (zI (y + 1))), (3, .int (zI ((cm2 S i j (g / 24) (g % 24) : Nat) : Int))), (5, .int (zI ((cm2 S i j (g / 24) (g % 24) : Nat) : Int))), (0, .ref (B 0)), (1, .int (zI z1)), (2, .int (zI z2))]) hx hb dX5_shared_74 hl (k := 2) rfl (zI_add _ _) (by decide) rfl (fun ls hl => ?_)
                refine lv_goto (tgt := 35) hx hb dX5_shared_77 (by decide) ?_
                exact ih_35 (y + 1) (g + 1) ((cm2 S i j (g / 24) (g % 24) : Nat) : Int) _ (by omega) (by omega) (by omega) (by rw [msh]; omega) hS ls (lv_sub hl [0, 1, 3, 4, 5] rfl)
        exact loop_35 _ 0 0 0 _ (Nat.lt_succ_self _) rfl (Nat.zero_le _) rfl hS ls (lv_sub hl [0, 1, 2, 3, 4] rfl)
      · omega
set_option maxHeartbeats 4000000 in
set_option maxRecDepth 100000 in
theorem m_shared_e1 (l : Launch) (G : gG) (B : Nat → Nat) (S : cS) (th : Int) (ct : Nat → Int32) (H : Heap) (hM : Mod G B S th ct H) (hI : sInv S) (z1 z2 : Int) (hz1 : rI z1) (hz2 : rI z2) (hi : ¬ (0 ≤ z1 ∧ z1 < sn S)) : gM l yX5_shared wsX5_shared rm_X5_shared [.ref (B 0), .int (zI z1), .int (zI z2)] G H (gi (fun r H1 => zI 0 = r ∧ MP G B S 1 H H1)) (gNo) 0 0 := by
  obtain ⟨m0, m1, m2, m3, m4, m5, m6, m7, hB, gBs⟩ := id hM
  have hn16 : sn S ≤ 16 := hI.1
  have gB0 := gBs 0 (by omega)
  have gB1 := gBs 1 (by omega)
  have gB2 := gBs 2 (by omega)
  have gB3 := gBs 3 (by omega)
  have gB4 := gBs 4 (by omega)
  have gB5 := gBs 5 (by omega)
  have gB6 := gBs 6 (by omega)
  have gB7 := gBs 7 (by omega)
  have hK : gKp (oB B) H H := gKp.rf _ _
  refine g_start (cc := cX5_shared) (maxL := 6) (ret := (some .int)) (by decide +kernel) rfl (Nat.le_of_ble_eq_true rfl) ?_
  intro p e s m args below meth c F ls hl
  obtain ⟨hx, hb, hml, hr, hts, hown, hlocks, hxt, hH, hX, hin⟩ := F
  have hown : s.vm.findClass RX5 = some m.cls := hown
  have hS : va_S (gA G) s.heap H [] := by rw [hH]; exact va_S.rf
  have hl : lv_has ls 6 [(0, .ref (B 0)), (1, .int (zI z1)), (2, .int (zI z2))] := hl
  refine lv_aload_n hx hb dX5_shared_0 rfl (lv_at hl 0 rfl) ?_
  refine lv_aload_n hx hb dX5_shared_1 rfl (lv_at hl 0 rfl) ?_
  refine lv_iload_n hx hb dX5_shared_2 rfl (lv_at hl 1 rfl) ?_
  refine g_goi (vx_runV (As := [.int (zI z1)]) (rest := [.ref (B 0)]) ⟨hx, hb, hml, hown, hts⟩ (m_isTune_f l G B S th ct H hM hI z1 hz1 hi) (cwV 1 hts gX5_shared_X5_isTune rfl rfl rfl hd_X5_isTune ⟨(Nat.le_of_ble_eq_true rfl), (Nat.le_of_ble_eq_true rfl)⟩) (g_preV hX hS (ci := 5) rfl m0) rfl rfl hl.1 rfl (lv_room (Nat.le_of_ble_eq_true rfl)) dX5_shared_3 ⟨(Nat.le_of_ble_eq_true rfl), (Nat.le_of_ble_eq_true rfl)⟩) hS (fun r_3 H_3 locs hp hS => ?_)
  obtain ⟨rfl, rfl⟩ := hp
  refine gz_if_eq (tgt := 21) hx hb (by decide) dX5_shared_6 (by decide) (fun c_6 => ?_) (fun c_6 => ?_)
  · refine lv_iconst (v := zI 1) hx hb dX5_shared_21 rfl ?_
    refine g_goi (vx_runV (As := [.int (zI 1)]) (rest := []) ⟨hx, hb, hml, hown, hts⟩ (m_holds_k l G B S th ct H hM hI 1 (by decide) (by decide)) (cwV 1 hts gX5_shared_X5_holds rfl rfl rfl hd_X5_holds ⟨(Nat.le_of_ble_eq_true rfl), (Nat.le_of_ble_eq_true rfl)⟩) (g_preV hX hS (ci := 5) rfl m0) rfl rfl hl.1 rfl (lv_room (Nat.le_of_ble_eq_true rfl)) dX5_shared_22 ⟨(Nat.le_of_ble_eq_true rfl), (Nat.le_of_ble_eq_true rfl)⟩) hS (fun r_22 H_22 locs hp hS => ?_)
    obtain ⟨rfl, hM, hOh⟩ := hp
    obtain ⟨m0, m1, m2, m3, m4, m5, m6, m7, hB, gBs⟩ := id hM
    have hK := hK.trans (hOh.kp1 (oB.k (k := 0) (by omega)))
    refine gz_if_ne (tgt := 30) hx hb (by decide) dX5_shared_25 (by decide) (fun c_25 => ?_) (fun c_25 => ?_)
    · omega
    · refine lv_iconst (v := zI 0) hx hb dX5_shared_28 rfl ?_
      exact g_reti hx hb hr hlocks hS rfl (⟨rfl, ⟨ct, ⟨m0, m1, m2, m3, m4, m5, m6, m7, hB, gBs⟩⟩, hK⟩) (Nat.le_of_ble_eq_true rfl) (Nat.le_of_ble_eq_true rfl) dX5_shared_29
  · omega
set_option maxHeartbeats 4000000 in
set_option maxRecDepth 100000 in
theorem m_shared_e2 (l : Launch) (G : gG) (B : Nat → Nat) (S : cS) (th : Int) (ct : Nat → Int32) (H : Heap) (hM : Mod G B S th ct H) (hI : sInv S) (z1 z2 : Int) (i : Nat) (hz1 : z1 = i) (hi : i < sn S) (hz2 : rI z2) (hj : ¬ (0 ≤ z2 ∧ z2 < sn S)) : gM l yX5_shared wsX5_shared rm_X5_shared [.ref (B 0), .int (zI z1), .int (zI z2)] G H (gi (fun r H1 => zI 0 = r ∧ MP G B S 1 H H1)) (gNo) 0 0 := by
  obtain ⟨m0, m1, m2, m3, m4, m5, m6, m7, hB, gBs⟩ := id hM
  have hn16 : sn S ≤ 16 := hI.1
  have gB0 := gBs 0 (by omega)
  have gB1 := gBs 1 (by omega)
  have gB2 := gBs 2 (by omega)
  have gB3 := gBs 3 (by omega)
  have gB4 := gBs 4 (by omega)
  have gB5 := gBs 5 (by omega)
  have gB6 := gBs 6 (by omega)
  have gB7 := gBs 7 (by omega)
  have hK : gKp (oB B) H H := gKp.rf _ _
  refine g_start (cc := cX5_shared) (maxL := 6) (ret := (some .int)) (by decide +kernel) rfl (Nat.le_of_ble_eq_true rfl) ?_
  intro p e s m args below meth c F ls hl
  obtain ⟨hx, hb, hml, hr, hts, hown, hlocks, hxt, hH, hX, hin⟩ := F
  have hown : s.vm.findClass RX5 = some m.cls := hown
  have hS : va_S (gA G) s.heap H [] := by rw [hH]; exact va_S.rf
  have hl : lv_has ls 6 [(0, .ref (B 0)), (1, .int (zI z1)), (2, .int (zI z2))] := hl
  refine lv_aload_n hx hb dX5_shared_0 rfl (lv_at hl 0 rfl) ?_
  refine lv_aload_n hx hb dX5_shared_1 rfl (lv_at hl 0 rfl) ?_
  refine lv_iload_n hx hb dX5_shared_2 rfl (lv_at hl 1 rfl) ?_
  refine g_goi (vx_runV (As := [.int (zI z1)]) (rest := [.ref (B 0)]) ⟨hx, hb, hml, hown, hts⟩ (m_isTune_t l G B S th ct H hM hI z1 i hz1 hi) (cwV 1 hts gX5_shared_X5_isTune rfl rfl rfl hd_X5_isTune ⟨(Nat.le_of_ble_eq_true rfl), (Nat.le_of_ble_eq_true rfl)⟩) (g_preV hX hS (ci := 5) rfl m0) rfl rfl hl.1 rfl (lv_room (Nat.le_of_ble_eq_true rfl)) dX5_shared_3 ⟨(Nat.le_of_ble_eq_true rfl), (Nat.le_of_ble_eq_true rfl)⟩) hS (fun r_3 H_3 locs hp hS => ?_)
  obtain ⟨rfl, rfl⟩ := hp
  refine gz_if_eq (tgt := 21) hx hb (by decide) dX5_shared_6 (by decide) (fun c_6 => ?_) (fun c_6 => ?_)
  · omega
  · refine lv_aload_n hx hb dX5_shared_9 rfl (lv_at hl 0 rfl) ?_
    refine lv_iload_n hx hb dX5_shared_10 rfl (lv_at hl 2 rfl) ?_
    refine g_goi (vx_runV (As := [.int (zI z2)]) (rest := [.ref (B 0)]) ⟨hx, hb, hml, hown, hts⟩ (m_isTune_f l G B S th ct H hM hI z2 hz2 hj) (cwV 1 hts gX5_shared_X5_isTune rfl rfl rfl hd_X5_isTune ⟨(Nat.le_of_ble_eq_true rfl), (Nat.le_of_ble_eq_true rfl)⟩) (g_preV hX hS (ci := 5) rfl m0) rfl rfl hl.1 rfl (lv_room (Nat.le_of_ble_eq_true rfl)) dX5_shared_11 ⟨(Nat.le_of_ble_eq_true rfl), (Nat.le_of_ble_eq_true rfl)⟩) hS (fun r_11 H_11 locs hp hS => ?_)
    obtain ⟨rfl, rfl⟩ := hp
    refine gz_if_eq (tgt := 21) hx hb (by decide) dX5_shared_14 (by decide) (fun c_14 => ?_) (fun c_14 => ?_)
    · refine lv_iconst (v := zI 1) hx hb dX5_shared_21 rfl ?_
      refine g_goi (vx_runV (As := [.int (zI 1)]) (rest := []) ⟨hx, hb, hml, hown, hts⟩ (m_holds_k l G B S th ct H hM hI 1 (by decide) (by decide)) (cwV 1 hts gX5_shared_X5_holds rfl rfl rfl hd_X5_holds ⟨(Nat.le_of_ble_eq_true rfl), (Nat.le_of_ble_eq_true rfl)⟩) (g_preV hX hS (ci := 5) rfl m0) rfl rfl hl.1 rfl (lv_room (Nat.le_of_ble_eq_true rfl)) dX5_shared_22 ⟨(Nat.le_of_ble_eq_true rfl), (Nat.le_of_ble_eq_true rfl)⟩) hS (fun r_22 H_22 locs hp hS => ?_)
      obtain ⟨rfl, hM, hOh⟩ := hp
      obtain ⟨m0, m1, m2, m3, m4, m5, m6, m7, hB, gBs⟩ := id hM
      have hK := hK.trans (hOh.kp1 (oB.k (k := 0) (by omega)))
      refine gz_if_ne (tgt := 30) hx hb (by decide) dX5_shared_25 (by decide) (fun c_25 => ?_) (fun c_25 => ?_)
      · omega
      · refine lv_iconst (v := zI 0) hx hb dX5_shared_28 rfl ?_
        exact g_reti hx hb hr hlocks hS rfl (⟨rfl, ⟨ct, ⟨m0, m1, m2, m3, m4, m5, m6, m7, hB, gBs⟩⟩, hK⟩) (Nat.le_of_ble_eq_true rfl) (Nat.le_of_ble_eq_true rfl) dX5_shared_29
    · omega
set_option maxHeartbeats 4000000 in
set_option maxRecDepth 100000 in
theorem m_sign (l : Launch) (G : gG) (H : Heap) (x : Int32) : gM l yX5_sign wsX5_sign rm_X5_sign [.int x] G H (gi (fun r H1 => zI (dirI x) = r ∧ H = H1)) (gNo) 0 0 := by
  refine g_start (cc := cX5_sign) (maxL := 1) (ret := (some .int)) (by decide +kernel) rfl (Nat.le_of_ble_eq_true rfl) ?_
  intro p e s m args below meth c F ls hl
  obtain ⟨hx, hb, hml, hr, hts, hown, hlocks, hxt, hH, hX, hin⟩ := F
  have hown : s.vm.findClass RX5 = some m.cls := hown
  have hS : va_S (gA G) s.heap H [] := by rw [hH]; exact va_S.rf
  have hl : lv_has ls 1 [(0, .int x)] := hl
  refine lv_iload_n hx hb dX5_sign_0 rfl (lv_at hl 0 rfl) ?_
  refine lv_if_le (tgt := 8) hx hb dX5_sign_1 (by decide) (fun c_1 => ?_) (fun c_1 => ?_)
  · refine lv_iload_n hx hb dX5_sign_8 rfl (lv_at hl 0 rfl) ?_
    refine lv_if_ge (tgt := 16) hx hb dX5_sign_9 (by decide) (fun c_9 => ?_) (fun c_9 => ?_)
    · refine lv_iconst (v := zI 0) hx hb dX5_sign_16 rfl ?_
      exact g_reti hx hb hr hlocks hS rfl (⟨by unfold dirI; first | (rw [if_pos (Int32.not_le.mp c_1)]) | (rw [if_neg (Int32.not_lt.mpr c_1)]; first | rw [if_pos (Int32.not_le.mp c_9)] | rw [if_neg (Int32.not_lt.mpr c_9)]), rfl⟩) (Nat.le_of_ble_eq_true rfl) (Nat.le_of_ble_eq_true rfl) dX5_sign_17
    · refine lv_iconst (v := zI (-1)) hx hb dX5_sign_12 rfl ?_
      refine lv_goto (tgt := 17) hx hb dX5_sign_13 (by decide) ?_
      exact g_reti hx hb hr hlocks hS rfl (⟨by unfold dirI; first | (rw [if_pos (Int32.not_le.mp c_1)]) | (rw [if_neg (Int32.not_lt.mpr c_1)]; first | rw [if_pos (Int32.not_le.mp c_9)] | rw [if_neg (Int32.not_lt.mpr c_9)]), rfl⟩) (Nat.le_of_ble_eq_true rfl) (Nat.le_of_ble_eq_true rfl) dX5_sign_17
  · refine lv_iconst (v := zI 1) hx hb dX5_sign_4 rfl ?_
    refine lv_goto (tgt := 17) hx hb dX5_sign_5 (by decide) ?_
    exact g_reti hx hb hr hlocks hS rfl (⟨by unfold dirI; first | (rw [if_pos (Int32.not_le.mp c_1)]) | (rw [if_neg (Int32.not_lt.mpr c_1)]; first | rw [if_pos (Int32.not_le.mp c_9)] | rw [if_neg (Int32.not_lt.mpr c_9)]), rfl⟩) (Nat.le_of_ble_eq_true rfl) (Nat.le_of_ble_eq_true rfl) dX5_sign_17
set_option maxHeartbeats 4000000 in
set_option maxRecDepth 100000 in
theorem m_isLike (l : Launch) (G : gG) (B : Nat → Nat) (S : cS) (th : Int) (ct : Nat → Int32) (H : Heap) (hM : Mod G B S th ct H) (hI : sInv S) (z : Int) (i : Nat) (hz : z = i) (hi : i < sn S)  : gM l yX5_isLike wsX5_isLike rm_X5_isLike [.ref (B 0), .int (zI z)] G H (gi (fun r H1 => ((bwc (stn S i) (zf (stp S i)) (shn S) (zf (shf S)) ∧ r = zI 1) ∨ (¬ bwc (stn S i) (zf (stp S i)) (shn S) (zf (shf S)) ∧ r = zI 0)) ∧ H = H1)) (gNo) 0 0 := by
  obtain ⟨m0, m1, m2, m3, m4, m5, m6, m7, hB, gBs⟩ := id hM
  have hn16 : sn S ≤ 16 := hI.1
  have gB0 := gBs 0 (by omega)
  have gB1 := gBs 1 (by omega)
  have gB2 := gBs 2 (by omega)
  have gB3 := gBs 3 (by omega)
  have gB4 := gBs 4 (by omega)
  have gB5 := gBs 5 (by omega)
  have gB6 := gBs 6 (by omega)
  have gB7 := gBs 7 (by omega)
  have ht24 := (hI.2.1 i hi).2
  have ht1 := (hI.2.1 i hi).1
  have hh12 : shn S ≤ 12 := hI.2.2.2.2.2.1
  refine g_start (cc := cX5_isLike) (maxL := 3) (ret := (some .boolean)) (by decide +kernel) rfl (Nat.le_of_ble_eq_true rfl) ?_
  intro p e s m args below meth c F ls hl
  obtain ⟨hx, hb, hml, hr, hts, hown, hlocks, hxt, hH, hX, hin⟩ := F
  have hown : s.vm.findClass RX5 = some m.cls := hown
  have hS : va_S (gA G) s.heap H [] := by rw [hH]; exact va_S.rf
  have hl : lv_has ls 3 [(0, .ref (B 0)), (1, .int (zI z))] := hl
  refine lv_iconst (v := zI 0) hx hb dX5_isLike_0 rfl ?_
  refine lv_istore_n (lv' := [(2, .int (zI 0)), (0, .ref (B 0)), (1, .int (zI z))]) hx hb dX5_isLike_1 rfl hl (by decide) rfl (fun ls hl => ?_)
  have loop_2 : ∀ (M_ : Nat) (y : Int) (q : Nat) (locs : List Loc), shn S - q < M_ → (y = q) → (q = 0 ∨ (q + 1 ≤ shn S ∧ q + 1 ≤ stn S i)) → (∀ p, p < q → dirI (zf (stp S i) (p + 1) - zf (stp S i) p) = dirI (zf (shf S) (p + 1) - zf (shf S) p)) → va_S (gA G) s.heap H locs → ∀ (ls : Array Slot), lv_has ls 3 [(2, .int (zI y)), (0, .ref (B 0)), (1, .int (zI z))] → W p l e rm_X5_isLike s m args below meth c H locs (0) (0) (vx_MQ below (gQ G (gi (fun r H1 => ((bwc (stn S i) (zf (stp S i)) (shn S) (zf (shf S)) ∧ r = zI 1) ∨ (¬ bwc (stn S i) (zf (stp S i)) (shn S) (zf (shf S)) ∧ r = zI 0)) ∧ H = H1))) (gXC G (gNo)) args s 0 0 (gA G)) (F0 m 2 ls []) := by
    intro M_
    induction M_ with
    | zero => intro y q locs_0 h_0; exact absurd h_0 (Nat.not_lt_zero _)
    | succ M_ ih_2 =>
      intro y q locs hM_2 hy hq9 hbf hS ls hl
      refine lv_iload_n hx hb dX5_isLike_2 rfl (lv_at hl 0 rfl) ?_
      refine lv_aload_n hx hb dX5_isLike_3 rfl (lv_at hl 1 rfl) ?_
      refine g_get hx hb hX hts (fun w h => (List.mem_cons_of_mem _ (List.mem_append_right _ h))) hown m0 rfl 7 (by decide) (hts (.fieldLink RX5 81 "TuneCatalogueModel" "hummed" "I") (List.mem_cons_of_mem _ (List.mem_append_left _ (List.mem_of_getElem? (i := 0) rfl)))) rfl dX5_isLike_4 ?_
      refine lv_iconst (v := zI 1) hx hb dX5_isLike_7 rfl ?_
      refine gz_isub hx hb dX5_isLike_8 ?_
      refine gz_icmp_ge (tgt := 62) hx hb ⟨by omega, by omega⟩ ⟨by omega, by omega⟩ dX5_isLike_9 (by decide) (fun c_9 => ?_) (fun c_9 => ?_)
      · refine lv_iconst (v := zI 1) hx hb dX5_isLike_62 rfl ?_
        exact g_reti hx hb hr hlocks hS rfl (⟨Or.inl ⟨bwc_ok ht1 hq9 (by omega) hbf, rfl⟩, rfl⟩) (Nat.le_of_ble_eq_true rfl) (Nat.le_of_ble_eq_true rfl) dX5_isLike_63
      · refine lv_iload_n hx hb dX5_isLike_12 rfl (lv_at hl 0 rfl) ?_
        refine lv_aload_n hx hb dX5_isLike_13 rfl (lv_at hl 1 rfl) ?_
        refine g_get hx hb hX hts (fun w h => (List.mem_cons_of_mem _ (List.mem_append_right _ h))) hown m0 rfl 4 (by decide) (hts (.fieldLink RX5 16 "TuneCatalogueModel" "sizes" "[I") (List.mem_cons_of_mem _ (List.mem_append_left _ (List.mem_of_getElem? (i := 1) rfl)))) rfl dX5_isLike_14 ?_
        refine lv_iload_n hx hb dX5_isLike_17 rfl (lv_at hl 2 rfl) ?_
        refine gz_iald hx hb hX m3 i (by omega) (by omega) (by omega) dX5_isLike_18 ?_
        refine lv_iconst (v := zI 1) hx hb dX5_isLike_19 rfl ?_
        refine gz_isub hx hb dX5_isLike_20 ?_
        refine gz_icmp_ge (tgt := 54) hx hb ⟨by omega, by omega⟩ ⟨by omega, by omega⟩ dX5_isLike_21 (by decide) (fun c_21 => ?_) (fun c_21 => ?_)
        · refine lv_iconst (v := zI 0) hx hb dX5_isLike_54 rfl ?_
          exact g_reti hx hb hr hlocks hS rfl (⟨Or.inr ⟨fun h => by first | exact absurd h.1 (by omega) | exact c_51 (by have h2 := h.2 q (by omega); rw [show zf (shf S) (q + 1) - zf (shf S) q = zI (shf S (q + 1) - shf S q) from zI_sub _ _] at h2; exact h2), rfl⟩, rfl⟩) (Nat.le_of_ble_eq_true rfl) (Nat.le_of_ble_eq_true rfl) dX5_isLike_55
        · refine lv_aload_n hx hb dX5_isLike_24 rfl (lv_at hl 1 rfl) ?_
          refine lv_iload_n hx hb dX5_isLike_25 rfl (lv_at hl 2 rfl) ?_
          refine lv_iload_n hx hb dX5_isLike_26 rfl (lv_at hl 0 rfl) ?_
          refine g_goi (vx_runV (As := [.int (zI z), .int (zI y)]) (rest := []) ⟨hx, hb, hml, hown, hts⟩ (m_stepOf l G B S th ct H hM hI z y i q (by omega) (by omega) (by omega) (by omega)) (cwV 2 hts gX5_isLike_X5_stepOf rfl rfl rfl hd_X5_stepOf ⟨(Nat.le_of_ble_eq_true rfl), (Nat.le_of_ble_eq_true rfl)⟩) (g_preV hX hS (ci := 5) rfl m0) rfl rfl hl.1 rfl (lv_room (Nat.le_of_ble_eq_true rfl)) dX5_isLike_27 ⟨(Nat.le_of_ble_eq_true rfl), (Nat.le_of_ble_eq_true rfl)⟩) hS (fun r_27 H_27 locs hp hS => ?_)
          obtain ⟨rfl, rfl⟩ := hp
          refine g_goi (vx_runS (As := [.int (zI (stp S i (q + 1)) - zI (stp S i q))]) (rest := []) ⟨hx, hb, hml, hown, hts⟩ (m_sign l G H (zI (stp S i (q + 1)) - zI (stp S i q))) (va_cwS 1 hts gX5_isLike_X5_sign rfl rfl rfl hd_X5_sign.2 ⟨(Nat.le_of_ble_eq_true rfl), (Nat.le_of_ble_eq_true rfl)⟩) (g_pre hX hS) rfl rfl hl.1 rfl (lv_room (Nat.le_of_ble_eq_true rfl)) dX5_isLike_30 ⟨(Nat.le_of_ble_eq_true rfl), (Nat.le_of_ble_eq_true rfl)⟩) hS (fun r_30 H_30 locs hp hS => ?_)
          obtain ⟨rfl, rfl⟩ := hp
          refine lv_aload_n hx hb dX5_isLike_33 rfl (lv_at hl 1 rfl) ?_
          refine g_get hx hb hX hts (fun w h => (List.mem_cons_of_mem _ (List.mem_append_right _ h))) hown m0 rfl 6 (by decide) (hts (.fieldLink RX5 23 "TuneCatalogueModel" "hum" "[I") (List.mem_cons_of_mem _ (List.mem_append_left _ (List.mem_of_getElem? (i := 2) rfl)))) rfl dX5_isLike_34 ?_
          refine lv_iload_n hx hb dX5_isLike_37 rfl (lv_at hl 0 rfl) ?_
          refine lv_iconst (v := zI 1) hx hb dX5_isLike_38 rfl ?_
          refine gz_iadd hx hb dX5_isLike_39 ?_
          refine gz_iald hx hb hX m5 (q + 1) (by omega) (by omega) (by omega) dX5_isLike_40 ?_
          refine lv_aload_n hx hb dX5_isLike_41 rfl (lv_at hl 1 rfl) ?_
          refine g_get hx hb hX hts (fun w h => (List.mem_cons_of_mem _ (List.mem_append_right _ h))) hown m0 rfl 6 (by decide) (hts (.fieldLink RX5 23 "TuneCatalogueModel" "hum" "[I") (List.mem_cons_of_mem _ (List.mem_append_left _ (List.mem_of_getElem? (i := 2) rfl)))) rfl dX5_isLike_42 ?_
          refine lv_iload_n hx hb dX5_isLike_45 rfl (lv_at hl 0 rfl) ?_
          refine gz_iald hx hb hX m5 q (by omega) (by omega) (by omega) dX5_isLike_46 ?_
          refine gz_isub hx hb dX5_isLike_47 ?_
          refine g_goi (vx_runS (As := [.int (zI ((shf S (q + 1)) - (shf S q)))]) (rest := [.int (zI (dirI (zI (stp S i (q + 1)) - zI (stp S i q))))]) ⟨hx, hb, hml, hown, hts⟩ (m_sign l G H (zI ((shf S (q + 1)) - (shf S q)))) (va_cwS 1 hts gX5_isLike_X5_sign rfl rfl rfl hd_X5_sign.2 ⟨(Nat.le_of_ble_eq_true rfl), (Nat.le_of_ble_eq_true rfl)⟩) (g_pre hX hS) rfl rfl hl.1 rfl (lv_room (Nat.le_of_ble_eq_true rfl)) dX5_isLike_48 ⟨(Nat.le_of_ble_eq_true rfl), (Nat.le_of_ble_eq_true rfl)⟩) hS (fun r_48 H_48 locs hp hS => ?_)
          obtain ⟨rfl, rfl⟩ := hp
          refine gz_icmp_eq (tgt := 56) hx hb (by have h1 := dirI_rng (zI (stp S i (q + 1)) - zI (stp S i q)); have h2 := dirI_rng (zI (shf S (q + 1) - shf S q)); exact ⟨by omega, by omega⟩) (by have h1 := dirI_rng (zI (stp S i (q + 1)) - zI (stp S i q)); have h2 := dirI_rng (zI (shf S (q + 1) - shf S q)); exact ⟨by omega, by omega⟩) dX5_isLike_51 (by decide) (fun c_51 => ?_) (fun c_51 => ?_)
          · have hds : dirI (zf (stp S i) (q + 1) - zf (stp S i) q) = dirI (zf (shf S) (q + 1) - zf (shf S) q) := by
              show dirI (zI (stp S i (q + 1)) - zI (stp S i q)) = dirI (zI (shf S (q + 1)) - zI (shf S q))
              rw [zI_sub (shf S (q + 1))]; first | exact c_51 | exact Classical.not_not.mp c_51
            refine lv_iinc (v := zI (y + 1)) (lv' := [(2, .int (zI (y + 1))), (0, .ref (B 0)), (1, .int (zI z))]) hx hb dX5_isLike_56 hl (k := 0) rfl (zI_add _ _) (by decide) rfl (fun ls hl => ?_)
            refine lv_goto (tgt := 2) hx hb dX5_isLike_59 (by decide) ?_
            exact ih_2 (y + 1) (q + 1) _ (by omega) (by omega) (by omega) (fun p h => by rcases Nat.lt_or_ge p q with g | g; exact hbf p g; rw [show p = q by omega]; exact hds) hS ls (lv_sub hl [0, 1, 2] rfl)
          · refine lv_iconst (v := zI 0) hx hb dX5_isLike_54 rfl ?_
            exact g_reti hx hb hr hlocks hS rfl (⟨Or.inr ⟨fun h => by first | exact absurd h.1 (by omega) | exact c_51 (by have h2 := h.2 q (by omega); rw [show zf (shf S) (q + 1) - zf (shf S) q = zI (shf S (q + 1) - shf S q) from zI_sub _ _] at h2; exact h2), rfl⟩, rfl⟩) (Nat.le_of_ble_eq_true rfl) (Nat.le_of_ble_eq_true rfl) dX5_isLike_55
  exact loop_2 _ 0 0 _ (Nat.lt_succ_self _) rfl (Or.inl rfl) (fun p h => absurd h (Nat.not_lt_zero _)) hS ls (lv_sub hl [0, 1, 2] rfl)
set_option maxHeartbeats 4000000 in
set_option maxRecDepth 100000 in
theorem m_likeContour (l : Launch) (G : gG) (B : Nat → Nat) (S : cS) (th : Int) (ct : Nat → Int32) (H : Heap) (hM : Mod G B S th ct H) (hI : sInv S)  : gM l yX5_likeContour wsX5_likeContour rm_X5_likeContour [.ref (B 0)] G H (gi (fun r H1 => zI ((lcF S (sn S) : Nat) : Int) = r ∧ MP G B S 0 H H1)) (gNo) 0 0 := by
  obtain ⟨m0, m1, m2, m3, m4, m5, m6, m7, hB, gBs⟩ := id hM
  have hn16 : sn S ≤ 16 := hI.1
  have gB0 := gBs 0 (by omega)
  have gB1 := gBs 1 (by omega)
  have gB2 := gBs 2 (by omega)
  have gB3 := gBs 3 (by omega)
  have gB4 := gBs 4 (by omega)
  have gB5 := gBs 5 (by omega)
  have gB6 := gBs 6 (by omega)
  have gB7 := gBs 7 (by omega)
  have hK : gKp (oB B) H H := gKp.rf _ _
  refine g_start (cc := cX5_likeContour) (maxL := 3) (ret := (some .int)) (by decide +kernel) rfl (Nat.le_of_ble_eq_true rfl) ?_
  intro p e s m args below meth c F ls hl
  obtain ⟨hx, hb, hml, hr, hts, hown, hlocks, hxt, hH, hX, hin⟩ := F
  have hown : s.vm.findClass RX5 = some m.cls := hown
  have hS : va_S (gA G) s.heap H [] := by rw [hH]; exact va_S.rf
  have hl : lv_has ls 3 [(0, .ref (B 0))] := hl
  refine lv_aload_n hx hb dX5_likeContour_0 rfl (lv_at hl 0 rfl) ?_
  refine lv_iconst (v := zI 0) hx hb dX5_likeContour_1 rfl ?_
  refine g_put hx hb hX hts (fun w h => (List.mem_cons_of_mem _ (List.mem_append_right _ h))) tyX5 tyX5_ok nmX5 hown hS m0 gB0 rfl 0 (by decide) (hts (.fieldLink RX5 42 "TuneCatalogueModel" "thrown" "I") (List.mem_cons_of_mem _ (List.mem_append_left _ (List.mem_append_left _ (List.mem_of_getElem? (i := 0) rfl))))) rfl (ty := tyX5 0) rfl rfl rfl (Nat.le_of_ble_eq_true rfl) dX5_likeContour_2 (fun H_2 locs h_n hO hS => ?_)
  have m1 := gat.only1 m1 hO (hB 1 0 (by omega) (by omega) (by omega))
  have m2 := gat.only1 m2 hO (hB 2 0 (by omega) (by omega) (by omega))
  have m3 := gat.only1 m3 hO (hB 3 0 (by omega) (by omega) (by omega))
  have m4 := gat.only1 m4 hO (hB 4 0 (by omega) (by omega) (by omega))
  have m5 := gat.only1 m5 hO (hB 5 0 (by omega) (by omega) (by omega))
  have m6 := gat.only1 m6 hO (hB 6 0 (by omega) (by omega) (by omega))
  have m7 := gat.only1 m7 hO (hB 7 0 (by omega) (by omega) (by omega))
  have m0 : gat G (B 0) (.inr (5, [.int (zI 0), .int (zI (sn S : Int)), .ref (B 1), .ref (B 2), .ref (B 3), .ref (B 4), .ref (B 5), .int (zI (shn S : Int)), .int (zI (ssl S)), .int (zI (sor S)), .int (zI (srp S)), .ref (B 6), .ref (B 7)])) H_2 := h_n
  have hK := hK.trans (hO.kp1 (oB.k (k := 0) (by omega)))
  have hM : Mod G B S 0 ct H_2 := ⟨m0, m1, m2, m3, m4, m5, m6, m7, hB, gBs⟩
  refine lv_iconst (v := zI 0) hx hb dX5_likeContour_5 rfl ?_
  refine lv_istore_n (lv' := [(1, .int (zI 0)), (0, .ref (B 0))]) hx hb dX5_likeContour_6 rfl hl (by decide) rfl (fun ls hl => ?_)
  refine lv_iconst (v := zI 0) hx hb dX5_likeContour_7 rfl ?_
  refine lv_istore_n (lv' := [(2, .int (zI 0)), (1, .int (zI 0)), (0, .ref (B 0))]) hx hb dX5_likeContour_8 rfl hl (by decide) rfl (fun ls hl => ?_)
  have loop_9 : ∀ (M_ : Nat) (y : Int) (k : Nat) (x : Int) (locs : List Loc), sn S - k < M_ → (y = k) → (k ≤ sn S) → (x = (lcF S k : Nat)) → va_S (gA G) s.heap H_2 locs → ∀ (ls : Array Slot), lv_has ls 3 [(2, .int (zI y)), (1, .int (zI x)), (0, .ref (B 0))] → W p l e rm_X5_likeContour s m args below meth c H_2 locs (0) (0) (vx_MQ below (gQ G (gi (fun r H1 => zI ((lcF S (sn S) : Nat) : Int) = r ∧ MP G B S 0 H H1))) (gXC G (gNo)) args s 0 0 (gA G)) (F0 m 9 ls []) := by
    intro M_
    induction M_ with
    | zero => intro y k x locs_0 h_0; exact absurd h_0 (Nat.not_lt_zero _)
    | succ M_ ih_9 =>
      intro y k x locs hM_9 hy hkn hx1 hS ls hl
      refine lv_iload_n hx hb dX5_likeContour_9 rfl (lv_at hl 0 rfl) ?_
      refine lv_aload_n hx hb dX5_likeContour_10 rfl (lv_at hl 2 rfl) ?_
      refine g_get hx hb hX hts (fun w h => (List.mem_cons_of_mem _ (List.mem_append_right _ h))) hown m0 rfl 1 (by decide) (hts (.fieldLink RX5 45 "TuneCatalogueModel" "tunes" "I") (List.mem_cons_of_mem _ (List.mem_append_left _ (List.mem_append_left _ (List.mem_of_getElem? (i := 1) rfl))))) rfl dX5_likeContour_11 ?_
      refine gz_icmp_ge (tgt := 49) hx hb ⟨by omega, by omega⟩ ⟨by omega, by omega⟩ dX5_likeContour_14 (by decide) (fun c_14 => ?_) (fun c_14 => ?_)
      · refine lv_iload_n hx hb dX5_likeContour_49 rfl (lv_at hl 1 rfl) ?_
        exact g_reti hx hb hr hlocks hS rfl (⟨by rw [hx1, show k = sn S by omega], ⟨ct, ⟨m0, m1, m2, m3, m4, m5, m6, m7, hB, gBs⟩⟩, hK⟩) (Nat.le_of_ble_eq_true rfl) (Nat.le_of_ble_eq_true rfl) dX5_likeContour_50
      · refine lv_iload_n hx hb dX5_likeContour_17 rfl (lv_at hl 1 rfl) ?_
        refine lv_aload_n hx hb dX5_likeContour_18 rfl (lv_at hl 2 rfl) ?_
        refine lv_iload_n hx hb dX5_likeContour_19 rfl (lv_at hl 0 rfl) ?_
        refine g_goi (vx_runV (As := [.int (zI y)]) (rest := [.int (zI x)]) ⟨hx, hb, hml, hown, hts⟩ (m_isKnown l G B S 0 ct H_2 hM hI y k (by omega) (by omega)) (cwV 1 hts gX5_likeContour_X5_isKnown rfl rfl rfl hd_X5_isKnown ⟨(Nat.le_of_ble_eq_true rfl), (Nat.le_of_ble_eq_true rfl)⟩) (g_preV hX hS (ci := 5) rfl m0) rfl rfl hl.1 rfl (lv_room (Nat.le_of_ble_eq_true rfl)) dX5_likeContour_20 ⟨(Nat.le_of_ble_eq_true rfl), (Nat.le_of_ble_eq_true rfl)⟩) hS (fun r_20 H_20 locs hp hS => ?_)
        obtain ⟨rfl, rfl⟩ := hp
        refine gz_if_eq (tgt := 40) hx hb (by cases srt S k <;> decide) dX5_likeContour_23 (by decide) (fun c_23 => ?_) (fun c_23 => ?_)
        · refine lv_iconst (v := zI 0) hx hb dX5_likeContour_40 rfl ?_
          refine gz_ior hx hb (lcF S k) 0 (by omega) (by omega) dX5_likeContour_41 ?_
          have hx2 : (((lcF S k) ||| 0 : Nat) : Int) = (lcF S (k + 1) : Nat) := by
            rw [lcF]
            first
            | (rw [bB_t (show lkc S k from ⟨by cases e : srt S k; rfl; rw [e] at c_23; exact absurd rfl c_23, by rcases hzb with h | h; exact h.1; exact absurd h.2 c_31⟩), if_pos rfl]; done)
            | (rw [bB_f (fun h : lkc S k => by first | (rw [h.1] at c_23; exact absurd c_23 (by decide)) | (rcases hzb with g | g; omega; exact g.1 h.2)), if_neg (by decide), Nat.or_zero]; done)
          refine lv_istore_n (lv' := [(1, .int (zI (((lcF S k) ||| 0 : Nat) : Int))), (2, .int (zI y)), (0, .ref (B 0))]) hx hb dX5_likeContour_42 rfl hl (by decide) rfl (fun ls hl => ?_)
          refine lv_iinc (v := zI (y + 1)) (lv' := [(2, .int (zI (y + 1))), (1, .int (zI (((lcF S k) ||| 0 : Nat) : Int))), (0, .ref (B 0))]) hx hb dX5_likeContour_43 hl (k := 1) rfl (zI_add _ _) (by decide) rfl (fun ls hl => ?_)
          refine lv_goto (tgt := 9) hx hb dX5_likeContour_46 (by decide) ?_
          exact ih_9 (y + 1) (k + 1) (((lcF S k) ||| 0 : Nat) : Int) _ (by omega) (by omega) (by omega) hx2 hS ls (lv_sub hl [0, 1, 2] rfl)
        · refine lv_aload_n hx hb dX5_likeContour_26 rfl (lv_at hl 2 rfl) ?_
          refine lv_iload_n hx hb dX5_likeContour_27 rfl (lv_at hl 0 rfl) ?_
          refine g_goi (vx_runV (As := [.int (zI y)]) (rest := [.int (zI x)]) ⟨hx, hb, hml, hown, hts⟩ (m_isLike l G B S 0 ct H_2 hM hI y k (by omega) (by omega)) (cwV 1 hts gX5_likeContour_X5_isLike rfl rfl rfl hd_X5_isLike ⟨(Nat.le_of_ble_eq_true rfl), (Nat.le_of_ble_eq_true rfl)⟩) (g_preV hX hS (ci := 5) rfl m0) rfl rfl hl.1 rfl (lv_room (Nat.le_of_ble_eq_true rfl)) dX5_likeContour_28 ⟨(Nat.le_of_ble_eq_true rfl), (Nat.le_of_ble_eq_true rfl)⟩) hS (fun r_28 H_28 locs hp hS => ?_)
          obtain ⟨hbw, rfl⟩ := hp
          obtain ⟨zbw, hzb, hzr⟩ : ∃ y : Int, ((bwc (stn S k) (zf (stp S k)) (shn S) (zf (shf S)) ∧ y = 1) ∨ (¬ bwc (stn S k) (zf (stp S k)) (shn S) (zf (shf S)) ∧ y = 0)) ∧ r_28 = zI y := by
            rcases hbw with ⟨h, e⟩ | ⟨h, e⟩
            · exact ⟨1, Or.inl ⟨h, rfl⟩, e⟩
            · exact ⟨0, Or.inr ⟨h, rfl⟩, e⟩
          subst hzr
          refine gz_if_eq (tgt := 40) hx hb (by rcases hzb with h | h <;> exact ⟨by omega, by omega⟩) dX5_likeContour_31 (by decide) (fun c_31 => ?_) (fun c_31 => ?_)
          · refine lv_iconst (v := zI 0) hx hb dX5_likeContour_40 rfl ?_
            refine gz_ior hx hb (lcF S k) 0 (by omega) (by omega) dX5_likeContour_41 ?_
            have hx2 : (((lcF S k) ||| 0 : Nat) : Int) = (lcF S (k + 1) : Nat) := by
              rw [lcF]
              first
              | (rw [bB_t (show lkc S k from ⟨by cases e : srt S k; rfl; rw [e] at c_23; exact absurd rfl c_23, by rcases hzb with h | h; exact h.1; exact absurd h.2 c_31⟩), if_pos rfl]; done)
              | (rw [bB_f (fun h : lkc S k => by first | (rw [h.1] at c_23; exact absurd c_23 (by decide)) | (rcases hzb with g | g; omega; exact g.1 h.2)), if_neg (by decide), Nat.or_zero]; done)
            refine lv_istore_n (lv' := [(1, .int (zI (((lcF S k) ||| 0 : Nat) : Int))), (2, .int (zI y)), (0, .ref (B 0))]) hx hb dX5_likeContour_42 rfl hl (by decide) rfl (fun ls hl => ?_)
            refine lv_iinc (v := zI (y + 1)) (lv' := [(2, .int (zI (y + 1))), (1, .int (zI (((lcF S k) ||| 0 : Nat) : Int))), (0, .ref (B 0))]) hx hb dX5_likeContour_43 hl (k := 1) rfl (zI_add _ _) (by decide) rfl (fun ls hl => ?_)
            refine lv_goto (tgt := 9) hx hb dX5_likeContour_46 (by decide) ?_
            exact ih_9 (y + 1) (k + 1) (((lcF S k) ||| 0 : Nat) : Int) _ (by omega) (by omega) (by omega) hx2 hS ls (lv_sub hl [0, 1, 2] rfl)
          · refine lv_iconst (v := zI 1) hx hb dX5_likeContour_34 rfl ?_
            refine lv_iload_n hx hb dX5_likeContour_35 rfl (lv_at hl 0 rfl) ?_
            refine gz_ishl hx hb k rfl (by omega) (by omega) dX5_likeContour_36 ?_
            refine lv_goto (tgt := 41) hx hb dX5_likeContour_37 (by decide) ?_
            refine gz_ior hx hb (lcF S k) (2 ^ k) (by omega) (by omega) dX5_likeContour_41 ?_
            have hx2 : (((lcF S k) ||| (2 ^ k) : Nat) : Int) = (lcF S (k + 1) : Nat) := by
              rw [lcF]
              first
              | (rw [bB_t (show lkc S k from ⟨by cases e : srt S k; rfl; rw [e] at c_23; exact absurd rfl c_23, by rcases hzb with h | h; exact h.1; exact absurd h.2 c_31⟩), if_pos rfl]; done)
              | (rw [bB_f (fun h : lkc S k => by first | (rw [h.1] at c_23; exact absurd c_23 (by decide)) | (rcases hzb with g | g; omega; exact g.1 h.2)), if_neg (by decide), Nat.or_zero]; done)
            refine lv_istore_n (lv' := [(1, .int (zI (((lcF S k) ||| (2 ^ k) : Nat) : Int))), (2, .int (zI y)), (0, .ref (B 0))]) hx hb dX5_likeContour_42 rfl hl (by decide) rfl (fun ls hl => ?_)
            refine lv_iinc (v := zI (y + 1)) (lv' := [(2, .int (zI (y + 1))), (1, .int (zI (((lcF S k) ||| (2 ^ k) : Nat) : Int))), (0, .ref (B 0))]) hx hb dX5_likeContour_43 hl (k := 1) rfl (zI_add _ _) (by decide) rfl (fun ls hl => ?_)
            refine lv_goto (tgt := 9) hx hb dX5_likeContour_46 (by decide) ?_
            exact ih_9 (y + 1) (k + 1) (((lcF S k) ||| (2 ^ k) : Nat) : Int) _ (by omega) (by omega) (by omega) hx2 hS ls (lv_sub hl [0, 1, 2] rfl)
  exact loop_9 _ 0 0 0 _ (Nat.lt_succ_self _) rfl (Nat.zero_le _) rfl hS ls (lv_sub hl [0, 1, 2] rfl)
set_option maxHeartbeats 4000000 in
set_option maxRecDepth 100000 in
theorem m_isRun (l : Launch) (G : gG) (B : Nat → Nat) (S : cS) (th : Int) (ct : Nat → Int32) (H : Heap) (hM : Mod G B S th ct H) (hI : sInv S) (z zk zs : Int) (i k st0 : Nat) (hz : z = i) (hzk : zk = k) (hzs : zs = st0) (hi : i < sn S) (hk24 : k < stn S i) (h14 : 1 ≤ st0 ∧ st0 ≤ 4) (hst : st0 + 1 ≤ shn S)  : gM l yX5_isRun wsX5_isRun rm_X5_isRun [.ref (B 0), .int (zI z), .int (zI zk), .int (zI zs)] G H (gi (fun r H1 => zI (zB (pcd S st0 i k && !srt S i)) = r ∧ H = H1)) (gNo) 0 0 := by
  obtain ⟨m0, m1, m2, m3, m4, m5, m6, m7, hB, gBs⟩ := id hM
  have hn16 : sn S ≤ 16 := hI.1
  have gB0 := gBs 0 (by omega)
  have gB1 := gBs 1 (by omega)
  have gB2 := gBs 2 (by omega)
  have gB3 := gBs 3 (by omega)
  have gB4 := gBs 4 (by omega)
  have gB5 := gBs 5 (by omega)
  have gB6 := gBs 6 (by omega)
  have gB7 := gBs 7 (by omega)
  have ht24 := (hI.2.1 i hi).2
  have ht1 := (hI.2.1 i hi).1
  have hh12 : shn S ≤ 12 := hI.2.2.2.2.2.1
  refine g_start (cc := cX5_isRun) (maxL := 6) (ret := (some .boolean)) (by decide +kernel) rfl (Nat.le_of_ble_eq_true rfl) ?_
  intro p e s m args below meth c F ls hl
  obtain ⟨hx, hb, hml, hr, hts, hown, hlocks, hxt, hH, hX, hin⟩ := F
  have hown : s.vm.findClass RX5 = some m.cls := hown
  have hS : va_S (gA G) s.heap H [] := by rw [hH]; exact va_S.rf
  have hl : lv_has ls 6 [(0, .ref (B 0)), (1, .int (zI z)), (2, .int (zI zk)), (3, .int (zI zs))] := hl
  refine lv_iconst (v := zI 0) hx hb dX5_isRun_0 rfl ?_
  refine lv_istore (lv' := [(4, .int (zI 0)), (0, .ref (B 0)), (1, .int (zI z)), (2, .int (zI zk)), (3, .int (zI zs))]) hx hb dX5_isRun_1 hl (by decide) rfl (fun ls hl => ?_)
  have loop_3 : ∀ (M_ : Nat) (y : Int) (q : Nat) (locs : List Loc), st0 - q < M_ → (y = q) → (q ≤ st0) → (k + q < stn S i) → (∀ p, p < q → zf (stp S i) (k + p + 1) - zf (stp S i) (k + p) = zf (shf S) (shn S - 1 - st0 + p + 1) - zf (shf S) (shn S - 1 - st0 + p)) → va_S (gA G) s.heap H locs → ∀ (ls : Array Slot), lv_has ls 6 [(4, .int (zI y)), (0, .ref (B 0)), (1, .int (zI z)), (2, .int (zI zk)), (3, .int (zI zs))] → W p l e rm_X5_isRun s m args below meth c H locs (0) (0) (vx_MQ below (gQ G (gi (fun r H1 => zI (zB (pcd S st0 i k && !srt S i)) = r ∧ H = H1))) (gXC G (gNo)) args s 0 0 (gA G)) (F0 m 3 ls []) := by
    intro M_
    induction M_ with
    | zero => intro y q locs_0 h_0; exact absurd h_0 (Nat.not_lt_zero _)
    | succ M_ ih_3 =>
      intro y q locs hM_3 hy hqs hkq hbf hS ls hl
      refine lv_iload hx hb dX5_isRun_3 (lv_at hl 0 rfl) ?_
      refine lv_iload_n hx hb dX5_isRun_5 rfl (lv_at hl 4 rfl) ?_
      refine gz_icmp_ge (tgt := 74) hx hb ⟨by omega, by omega⟩ ⟨by omega, by omega⟩ dX5_isRun_6 (by decide) (fun c_6 => ?_) (fun c_6 => ?_)
      · refine lv_aload_n hx hb dX5_isRun_74 rfl (lv_at hl 1 rfl) ?_
        refine g_get hx hb hX hts (fun w h => (List.mem_cons_of_mem _ (List.mem_append_right _ h))) hown m0 rfl 5 (by decide) (hts (.fieldLink RX5 19 "TuneCatalogueModel" "areRetired" "[Z") (List.mem_cons_of_mem _ (List.mem_append_left _ (List.mem_of_getElem? (i := 3) rfl)))) rfl dX5_isRun_75 ?_
        refine lv_iload_n hx hb dX5_isRun_78 rfl (lv_at hl 2 rfl) ?_
        refine gz_zald hx hb hX m4 i (by omega) (by omega) (by omega) dX5_isRun_79 ?_
        refine gz_if_ne (tgt := 87) hx hb (by cases srt S i <;> decide) dX5_isRun_80 (by decide) (fun c_80 => ?_) (fun c_80 => ?_)
        · refine lv_iconst (v := zI 0) hx hb dX5_isRun_87 rfl ?_
          exact g_reti hx hb hr hlocks hS rfl (⟨by rw [show pcd S st0 i k = true from (pcd_iff hst h14.1).mpr ⟨by omega, fun p hp => hbf p (by omega)⟩]; cases e : srt S i <;> rw [e] at c_80 <;> first | rfl | exact absurd rfl c_80 | exact absurd c_80 (by decide), rfl⟩) (Nat.le_of_ble_eq_true rfl) (Nat.le_of_ble_eq_true rfl) dX5_isRun_88
        · refine lv_iconst (v := zI 1) hx hb dX5_isRun_83 rfl ?_
          refine lv_goto (tgt := 88) hx hb dX5_isRun_84 (by decide) ?_
          exact g_reti hx hb hr hlocks hS rfl (⟨by rw [show pcd S st0 i k = true from (pcd_iff hst h14.1).mpr ⟨by omega, fun p hp => hbf p (by omega)⟩]; cases e : srt S i <;> rw [e] at c_80 <;> first | rfl | exact absurd rfl c_80 | exact absurd c_80 (by decide), rfl⟩) (Nat.le_of_ble_eq_true rfl) (Nat.le_of_ble_eq_true rfl) dX5_isRun_88
      · refine lv_aload_n hx hb dX5_isRun_9 rfl (lv_at hl 1 rfl) ?_
        refine g_get hx hb hX hts (fun w h => (List.mem_cons_of_mem _ (List.mem_append_right _ h))) hown m0 rfl 7 (by decide) (hts (.fieldLink RX5 81 "TuneCatalogueModel" "hummed" "I") (List.mem_cons_of_mem _ (List.mem_append_left _ (List.mem_of_getElem? (i := 0) rfl)))) rfl dX5_isRun_10 ?_
        refine lv_iconst (v := zI 1) hx hb dX5_isRun_13 rfl ?_
        refine gz_isub hx hb dX5_isRun_14 ?_
        refine lv_iload_n hx hb dX5_isRun_15 rfl (lv_at hl 4 rfl) ?_
        refine gz_isub hx hb dX5_isRun_16 ?_
        refine lv_iload hx hb dX5_isRun_17 (lv_at hl 0 rfl) ?_
        refine gz_iadd hx hb dX5_isRun_19 ?_
        refine lv_istore (lv' := [(5, .int (zI ((((shn S : Int) - 1) - zs) + y))), (4, .int (zI y)), (0, .ref (B 0)), (1, .int (zI z)), (2, .int (zI zk)), (3, .int (zI zs))]) hx hb dX5_isRun_20 hl (by decide) rfl (fun ls hl => ?_)
        refine lv_iload_n hx hb dX5_isRun_22 rfl (lv_at hl 4 rfl) ?_
        refine lv_iload hx hb dX5_isRun_23 (lv_at hl 1 rfl) ?_
        refine gz_iadd hx hb dX5_isRun_25 ?_
        refine lv_aload_n hx hb dX5_isRun_26 rfl (lv_at hl 2 rfl) ?_
        refine g_get hx hb hX hts (fun w h => (List.mem_cons_of_mem _ (List.mem_append_right _ h))) hown m0 rfl 4 (by decide) (hts (.fieldLink RX5 16 "TuneCatalogueModel" "sizes" "[I") (List.mem_cons_of_mem _ (List.mem_append_left _ (List.mem_of_getElem? (i := 1) rfl)))) rfl dX5_isRun_27 ?_
        refine lv_iload_n hx hb dX5_isRun_30 rfl (lv_at hl 3 rfl) ?_
        refine gz_iald hx hb hX m3 i (by omega) (by omega) (by omega) dX5_isRun_31 ?_
        refine lv_iconst (v := zI 1) hx hb dX5_isRun_32 rfl ?_
        refine gz_isub hx hb dX5_isRun_33 ?_
        refine gz_icmp_ge (tgt := 66) hx hb ⟨by omega, by omega⟩ ⟨by omega, by omega⟩ dX5_isRun_34 (by decide) (fun c_34 => ?_) (fun c_34 => ?_)
        · refine lv_iconst (v := zI 0) hx hb dX5_isRun_66 rfl ?_
          exact g_reti hx hb hr hlocks hS rfl (⟨by rw [show pcd S st0 i k = false from by cases e : pcd S st0 i k; rfl; exact absurd ((pcd_iff hst h14.1).mp e) (fun g => by first | omega | exact c_63 (by have h2 := g.2 q (by omega); rw [show zf (shf S) (shn S - 1 - st0 + q + 1) - zf (shf S) (shn S - 1 - st0 + q) = zI (shf S (shn S - 1 - st0 + q + 1) - shf S (shn S - 1 - st0 + q)) from zI_sub _ _] at h2; exact h2))]; rfl, rfl⟩) (Nat.le_of_ble_eq_true rfl) (Nat.le_of_ble_eq_true rfl) dX5_isRun_67
        · refine lv_aload_n hx hb dX5_isRun_37 rfl (lv_at hl 2 rfl) ?_
          refine lv_iload_n hx hb dX5_isRun_38 rfl (lv_at hl 3 rfl) ?_
          refine lv_iload_n hx hb dX5_isRun_39 rfl (lv_at hl 4 rfl) ?_
          refine lv_iload hx hb dX5_isRun_40 (lv_at hl 1 rfl) ?_
          refine gz_iadd hx hb dX5_isRun_42 ?_
          refine g_goi (vx_runV (As := [.int (zI z), .int (zI (zk + y))]) (rest := []) ⟨hx, hb, hml, hown, hts⟩ (m_stepOf l G B S th ct H hM hI z (zk + y) i (k + q) (by omega) (by omega) (by omega) (by omega)) (cwV 2 hts gX5_isRun_X5_stepOf rfl rfl rfl hd_X5_stepOf ⟨(Nat.le_of_ble_eq_true rfl), (Nat.le_of_ble_eq_true rfl)⟩) (g_preV hX hS (ci := 5) rfl m0) rfl rfl hl.1 rfl (lv_room (Nat.le_of_ble_eq_true rfl)) dX5_isRun_43 ⟨(Nat.le_of_ble_eq_true rfl), (Nat.le_of_ble_eq_true rfl)⟩) hS (fun r_43 H_43 locs hp hS => ?_)
          obtain ⟨rfl, rfl⟩ := hp
          refine lv_aload_n hx hb dX5_isRun_46 rfl (lv_at hl 2 rfl) ?_
          refine g_get hx hb hX hts (fun w h => (List.mem_cons_of_mem _ (List.mem_append_right _ h))) hown m0 rfl 6 (by decide) (hts (.fieldLink RX5 23 "TuneCatalogueModel" "hum" "[I") (List.mem_cons_of_mem _ (List.mem_append_left _ (List.mem_of_getElem? (i := 2) rfl)))) rfl dX5_isRun_47 ?_
          refine lv_iload hx hb dX5_isRun_50 (lv_at hl 0 rfl) ?_
          refine lv_iconst (v := zI 1) hx hb dX5_isRun_52 rfl ?_
          refine gz_iadd hx hb dX5_isRun_53 ?_
          refine gz_iald hx hb hX m5 (shn S - 1 - st0 + q + 1) (by omega) (by omega) (by omega) dX5_isRun_54 ?_
          refine lv_aload_n hx hb dX5_isRun_55 rfl (lv_at hl 2 rfl) ?_
          refine g_get hx hb hX hts (fun w h => (List.mem_cons_of_mem _ (List.mem_append_right _ h))) hown m0 rfl 6 (by decide) (hts (.fieldLink RX5 23 "TuneCatalogueModel" "hum" "[I") (List.mem_cons_of_mem _ (List.mem_append_left _ (List.mem_of_getElem? (i := 2) rfl)))) rfl dX5_isRun_56 ?_
          refine lv_iload hx hb dX5_isRun_59 (lv_at hl 0 rfl) ?_
          refine gz_iald hx hb hX m5 (shn S - 1 - st0 + q) (by omega) (by omega) (by omega) dX5_isRun_61 ?_
          refine gz_isub hx hb dX5_isRun_62 ?_
          refine lv_icmp_eq (tgt := 68) hx hb dX5_isRun_63 (by decide) (fun c_63 => ?_) (fun c_63 => ?_)
          · have hds : zf (stp S i) (k + q + 1) - zf (stp S i) (k + q) = zf (shf S) (shn S - 1 - st0 + q + 1) - zf (shf S) (shn S - 1 - st0 + q) := by
              show zI (stp S i (k + q + 1)) - zI (stp S i (k + q)) = zI (shf S (shn S - 1 - st0 + q + 1)) - zI (shf S (shn S - 1 - st0 + q))
              rw [zI_sub (shf S (shn S - 1 - st0 + q + 1))]; first | exact c_63 | exact Classical.not_not.mp c_63
            refine lv_iinc (v := zI (y + 1)) (lv' := [(4, .int (zI (y + 1))), (5, .int (zI ((((shn S : Int) - 1) - zs) + y))), (0, .ref (B 0)), (1, .int (zI z)), (2, .int (zI zk)), (3, .int (zI zs))]) hx hb dX5_isRun_68 hl (k := 1) rfl (zI_add _ _) (by decide) rfl (fun ls hl => ?_)
            refine lv_goto (tgt := 3) hx hb dX5_isRun_71 (by decide) ?_
            exact ih_3 (y + 1) (q + 1) _ (by omega) (by omega) (by omega) (by omega) (fun p h => by rcases Nat.lt_or_ge p q with g | g; exact hbf p g; rw [show p = q by omega]; exact hds) hS ls (lv_sub hl [0, 2, 3, 4, 5] rfl)
          · refine lv_iconst (v := zI 0) hx hb dX5_isRun_66 rfl ?_
            exact g_reti hx hb hr hlocks hS rfl (⟨by rw [show pcd S st0 i k = false from by cases e : pcd S st0 i k; rfl; exact absurd ((pcd_iff hst h14.1).mp e) (fun g => by first | omega | exact c_63 (by have h2 := g.2 q (by omega); rw [show zf (shf S) (shn S - 1 - st0 + q + 1) - zf (shf S) (shn S - 1 - st0 + q) = zI (shf S (shn S - 1 - st0 + q + 1) - shf S (shn S - 1 - st0 + q)) from zI_sub _ _] at h2; exact h2))]; rfl, rfl⟩) (Nat.le_of_ble_eq_true rfl) (Nat.le_of_ble_eq_true rfl) dX5_isRun_67
  exact loop_3 _ 0 0 _ (Nat.lt_succ_self _) rfl (Nat.zero_le _) hk24 (fun p h => absurd h (Nat.not_lt_zero _)) hS ls (lv_sub hl [0, 1, 2, 3, 4] rfl)
set_option maxHeartbeats 4000000 in
set_option maxRecDepth 100000 in
theorem m_err_1 (l : Launch) (G : gG) (B : Nat → Nat) (S : cS) (th : Int) (ct : Nat → Int32) (H : Heap) (hM : Mod G B S th ct H) (hI : sInv S) (zs : Int) (hzr : rI zs) (h : ¬ (1 ≤ zs ∧ zs ≤ 4)) : gM l yX5_errorOfRun wsX5_errorOfRun rm_X5_errorOfRun [.ref (B 0), .int (zI zs)] G H (gi (fun r H1 => zI 1 = r ∧ H = H1)) (gNo) 0 0 := by
  obtain ⟨m0, m1, m2, m3, m4, m5, m6, m7, hB, gBs⟩ := id hM
  have hn16 : sn S ≤ 16 := hI.1
  have gB0 := gBs 0 (by omega)
  have gB1 := gBs 1 (by omega)
  have gB2 := gBs 2 (by omega)
  have gB3 := gBs 3 (by omega)
  have gB4 := gBs 4 (by omega)
  have gB5 := gBs 5 (by omega)
  have gB6 := gBs 6 (by omega)
  have gB7 := gBs 7 (by omega)
  refine g_start (cc := cX5_errorOfRun) (maxL := 2) (ret := (some .int)) (by decide +kernel) rfl (Nat.le_of_ble_eq_true rfl) ?_
  intro p e s m args below meth c F ls hl
  obtain ⟨hx, hb, hml, hr, hts, hown, hlocks, hxt, hH, hX, hin⟩ := F
  have hown : s.vm.findClass RX5 = some m.cls := hown
  have hS : va_S (gA G) s.heap H [] := by rw [hH]; exact va_S.rf
  have hl : lv_has ls 2 [(0, .ref (B 0)), (1, .int (zI zs))] := hl
  refine lv_iload_n hx hb dX5_errorOfRun_0 rfl (lv_at hl 1 rfl) ?_
  refine lv_iconst (v := zI 1) hx hb dX5_errorOfRun_1 rfl ?_
  refine lv_iconst (v := zI 4) hx hb dX5_errorOfRun_2 rfl ?_
  refine g_goi (vx_runS (As := [.int (zI zs), .int (zI 1), .int (zI 4)]) (rest := []) ⟨hx, hb, hml, hown, hts⟩ (m_in_f l G H zs 1 4 (by first | assumption | exact ⟨by omega, by omega⟩) ⟨by omega, by omega⟩ ⟨by omega, by omega⟩ (by omega)) (va_cwS 3 hts gX5_errorOfRun_X5_in rfl rfl rfl hd_X5_in.2 ⟨(Nat.le_of_ble_eq_true rfl), (Nat.le_of_ble_eq_true rfl)⟩) (g_pre hX hS) rfl rfl hl.1 rfl (lv_room (Nat.le_of_ble_eq_true rfl)) dX5_errorOfRun_3 ⟨(Nat.le_of_ble_eq_true rfl), (Nat.le_of_ble_eq_true rfl)⟩) hS (fun r_3 H_3 locs hp hS => ?_)
  obtain ⟨rfl, rfl⟩ := hp
  refine gz_if_ne (tgt := 13) hx hb (by decide) dX5_errorOfRun_6 (by decide) (fun c_6 => ?_) (fun c_6 => ?_)
  · omega
  · refine lv_iconst (v := zI 1) hx hb dX5_errorOfRun_9 rfl ?_
    refine lv_goto (tgt := 28) hx hb dX5_errorOfRun_10 (by decide) ?_
    exact g_reti hx hb hr hlocks hS rfl (⟨rfl, rfl⟩) (Nat.le_of_ble_eq_true rfl) (Nat.le_of_ble_eq_true rfl) dX5_errorOfRun_28
set_option maxHeartbeats 4000000 in
set_option maxRecDepth 100000 in
theorem m_err_2 (l : Launch) (G : gG) (B : Nat → Nat) (S : cS) (th : Int) (ct : Nat → Int32) (H : Heap) (hM : Mod G B S th ct H) (hI : sInv S) (zs : Int) (hzr : rI zs) (h : 1 ≤ zs ∧ zs ≤ 4) (h2 : ¬ zs ≤ (shn S : Int) - 1) : gM l yX5_errorOfRun wsX5_errorOfRun rm_X5_errorOfRun [.ref (B 0), .int (zI zs)] G H (gi (fun r H1 => zI 2 = r ∧ H = H1)) (gNo) 0 0 := by
  obtain ⟨m0, m1, m2, m3, m4, m5, m6, m7, hB, gBs⟩ := id hM
  have hn16 : sn S ≤ 16 := hI.1
  have gB0 := gBs 0 (by omega)
  have gB1 := gBs 1 (by omega)
  have gB2 := gBs 2 (by omega)
  have gB3 := gBs 3 (by omega)
  have gB4 := gBs 4 (by omega)
  have gB5 := gBs 5 (by omega)
  have gB6 := gBs 6 (by omega)
  have gB7 := gBs 7 (by omega)
  have hh12 : shn S ≤ 12 := hI.2.2.2.2.2.1
  refine g_start (cc := cX5_errorOfRun) (maxL := 2) (ret := (some .int)) (by decide +kernel) rfl (Nat.le_of_ble_eq_true rfl) ?_
  intro p e s m args below meth c F ls hl
  obtain ⟨hx, hb, hml, hr, hts, hown, hlocks, hxt, hH, hX, hin⟩ := F
  have hown : s.vm.findClass RX5 = some m.cls := hown
  have hS : va_S (gA G) s.heap H [] := by rw [hH]; exact va_S.rf
  have hl : lv_has ls 2 [(0, .ref (B 0)), (1, .int (zI zs))] := hl
  refine lv_iload_n hx hb dX5_errorOfRun_0 rfl (lv_at hl 1 rfl) ?_
  refine lv_iconst (v := zI 1) hx hb dX5_errorOfRun_1 rfl ?_
  refine lv_iconst (v := zI 4) hx hb dX5_errorOfRun_2 rfl ?_
  refine g_goi (vx_runS (As := [.int (zI zs), .int (zI 1), .int (zI 4)]) (rest := []) ⟨hx, hb, hml, hown, hts⟩ (m_in_t l G H zs 1 4 (by first | assumption | exact ⟨by omega, by omega⟩) ⟨by omega, by omega⟩ ⟨by omega, by omega⟩ (by omega)) (va_cwS 3 hts gX5_errorOfRun_X5_in rfl rfl rfl hd_X5_in.2 ⟨(Nat.le_of_ble_eq_true rfl), (Nat.le_of_ble_eq_true rfl)⟩) (g_pre hX hS) rfl rfl hl.1 rfl (lv_room (Nat.le_of_ble_eq_true rfl)) dX5_errorOfRun_3 ⟨(Nat.le_of_ble_eq_true rfl), (Nat.le_of_ble_eq_true rfl)⟩) hS (fun r_3 H_3 locs hp hS => ?_)
  obtain ⟨rfl, rfl⟩ := hp
  refine gz_if_ne (tgt := 13) hx hb (by decide) dX5_errorOfRun_6 (by decide) (fun c_6 => ?_) (fun c_6 => ?_)
  · refine lv_aload_n hx hb dX5_errorOfRun_13 rfl (lv_at hl 0 rfl) ?_
    refine g_get hx hb hX hts (fun w h => (List.mem_cons_of_mem _ (List.mem_append_right _ h))) hown m0 rfl 7 (by decide) (hts (.fieldLink RX5 81 "TuneCatalogueModel" "hummed" "I") (List.mem_cons_of_mem _ (List.mem_append_left _ (List.mem_of_getElem? (i := 0) rfl)))) rfl dX5_errorOfRun_14 ?_
    refine lv_iconst (v := zI 1) hx hb dX5_errorOfRun_17 rfl ?_
    refine gz_isub hx hb dX5_errorOfRun_18 ?_
    refine lv_iload_n hx hb dX5_errorOfRun_19 rfl (lv_at hl 1 rfl) ?_
    refine gz_icmp_ge (tgt := 27) hx hb ⟨by omega, by omega⟩ ⟨by omega, by omega⟩ dX5_errorOfRun_20 (by decide) (fun c_20 => ?_) (fun c_20 => ?_)
    · omega
    · refine lv_iconst (v := zI 2) hx hb dX5_errorOfRun_23 rfl ?_
      refine lv_goto (tgt := 28) hx hb dX5_errorOfRun_24 (by decide) ?_
      exact g_reti hx hb hr hlocks hS rfl (⟨rfl, rfl⟩) (Nat.le_of_ble_eq_true rfl) (Nat.le_of_ble_eq_true rfl) dX5_errorOfRun_28
  · omega
set_option maxHeartbeats 4000000 in
set_option maxRecDepth 100000 in
theorem m_err_0 (l : Launch) (G : gG) (B : Nat → Nat) (S : cS) (th : Int) (ct : Nat → Int32) (H : Heap) (hM : Mod G B S th ct H) (hI : sInv S) (zs : Int) (hzr : rI zs) (h : 1 ≤ zs ∧ zs ≤ 4) (h2 : zs ≤ (shn S : Int) - 1) : gM l yX5_errorOfRun wsX5_errorOfRun rm_X5_errorOfRun [.ref (B 0), .int (zI zs)] G H (gi (fun r H1 => zI 0 = r ∧ H = H1)) (gNo) 0 0 := by
  obtain ⟨m0, m1, m2, m3, m4, m5, m6, m7, hB, gBs⟩ := id hM
  have hn16 : sn S ≤ 16 := hI.1
  have gB0 := gBs 0 (by omega)
  have gB1 := gBs 1 (by omega)
  have gB2 := gBs 2 (by omega)
  have gB3 := gBs 3 (by omega)
  have gB4 := gBs 4 (by omega)
  have gB5 := gBs 5 (by omega)
  have gB6 := gBs 6 (by omega)
  have gB7 := gBs 7 (by omega)
  have hh12 : shn S ≤ 12 := hI.2.2.2.2.2.1
  refine g_start (cc := cX5_errorOfRun) (maxL := 2) (ret := (some .int)) (by decide +kernel) rfl (Nat.le_of_ble_eq_true rfl) ?_
  intro p e s m args below meth c F ls hl
  obtain ⟨hx, hb, hml, hr, hts, hown, hlocks, hxt, hH, hX, hin⟩ := F
  have hown : s.vm.findClass RX5 = some m.cls := hown
  have hS : va_S (gA G) s.heap H [] := by rw [hH]; exact va_S.rf
  have hl : lv_has ls 2 [(0, .ref (B 0)), (1, .int (zI zs))] := hl
  refine lv_iload_n hx hb dX5_errorOfRun_0 rfl (lv_at hl 1 rfl) ?_
  refine lv_iconst (v := zI 1) hx hb dX5_errorOfRun_1 rfl ?_
  refine lv_iconst (v := zI 4) hx hb dX5_errorOfRun_2 rfl ?_
  refine g_goi (vx_runS (As := [.int (zI zs), .int (zI 1), .int (zI 4)]) (rest := []) ⟨hx, hb, hml, hown, hts⟩ (m_in_t l G H zs 1 4 (by first | assumption | exact ⟨by omega, by omega⟩) ⟨by omega, by omega⟩ ⟨by omega, by omega⟩ (by omega)) (va_cwS 3 hts gX5_errorOfRun_X5_in rfl rfl rfl hd_X5_in.2 ⟨(Nat.le_of_ble_eq_true rfl), (Nat.le_of_ble_eq_true rfl)⟩) (g_pre hX hS) rfl rfl hl.1 rfl (lv_room (Nat.le_of_ble_eq_true rfl)) dX5_errorOfRun_3 ⟨(Nat.le_of_ble_eq_true rfl), (Nat.le_of_ble_eq_true rfl)⟩) hS (fun r_3 H_3 locs hp hS => ?_)
  obtain ⟨rfl, rfl⟩ := hp
  refine gz_if_ne (tgt := 13) hx hb (by decide) dX5_errorOfRun_6 (by decide) (fun c_6 => ?_) (fun c_6 => ?_)
  · refine lv_aload_n hx hb dX5_errorOfRun_13 rfl (lv_at hl 0 rfl) ?_
    refine g_get hx hb hX hts (fun w h => (List.mem_cons_of_mem _ (List.mem_append_right _ h))) hown m0 rfl 7 (by decide) (hts (.fieldLink RX5 81 "TuneCatalogueModel" "hummed" "I") (List.mem_cons_of_mem _ (List.mem_append_left _ (List.mem_of_getElem? (i := 0) rfl)))) rfl dX5_errorOfRun_14 ?_
    refine lv_iconst (v := zI 1) hx hb dX5_errorOfRun_17 rfl ?_
    refine gz_isub hx hb dX5_errorOfRun_18 ?_
    refine lv_iload_n hx hb dX5_errorOfRun_19 rfl (lv_at hl 1 rfl) ?_
    refine gz_icmp_ge (tgt := 27) hx hb ⟨by omega, by omega⟩ ⟨by omega, by omega⟩ dX5_errorOfRun_20 (by decide) (fun c_20 => ?_) (fun c_20 => ?_)
    · refine lv_iconst (v := zI 0) hx hb dX5_errorOfRun_27 rfl ?_
      exact g_reti hx hb hr hlocks hS rfl (⟨rfl, rfl⟩) (Nat.le_of_ble_eq_true rfl) (Nat.le_of_ble_eq_true rfl) dX5_errorOfRun_28
    · omega
  · omega
set_option maxHeartbeats 4000000 in
set_option maxRecDepth 100000 in
theorem m_placesOf (l : Launch) (G : gG) (B : Nat → Nat) (S : cS) (th : Int) (ct : Nat → Int32) (H : Heap) (hM : Mod G B S th ct H) (hI : sInv S) (zs : Int) (st0 : Nat) (hzs : zs = st0) (h14 : 1 ≤ st0 ∧ st0 ≤ 4) (hst : st0 + 1 ≤ shn S)  : gM l yX5_placesOf wsX5_placesOf rm_X5_placesOf [.ref (B 0), .int (zI zs)] G H (gi (fun r H1 => zI (ctB (pB S st0) (24 * sn S) : Nat) = r ∧ H = H1)) (gNo) 0 0 := by
  obtain ⟨m0, m1, m2, m3, m4, m5, m6, m7, hB, gBs⟩ := id hM
  have hn16 : sn S ≤ 16 := hI.1
  have gB0 := gBs 0 (by omega)
  have gB1 := gBs 1 (by omega)
  have gB2 := gBs 2 (by omega)
  have gB3 := gBs 3 (by omega)
  have gB4 := gBs 4 (by omega)
  have gB5 := gBs 5 (by omega)
  have gB6 := gBs 6 (by omega)
  have gB7 := gBs 7 (by omega)
  refine g_start (cc := cX5_placesOf) (maxL := 4) (ret := (some .int)) (by decide +kernel) rfl (Nat.le_of_ble_eq_true rfl) ?_
  intro p e s m args below meth c F ls hl
  obtain ⟨hx, hb, hml, hr, hts, hown, hlocks, hxt, hH, hX, hin⟩ := F
  have hown : s.vm.findClass RX5 = some m.cls := hown
  have hS : va_S (gA G) s.heap H [] := by rw [hH]; exact va_S.rf
  have hl : lv_has ls 4 [(0, .ref (B 0)), (1, .int (zI zs))] := hl
  refine lv_iconst (v := zI 0) hx hb dX5_placesOf_0 rfl ?_
  refine lv_istore_n (lv' := [(2, .int (zI 0)), (0, .ref (B 0)), (1, .int (zI zs))]) hx hb dX5_placesOf_1 rfl hl (by decide) rfl (fun ls hl => ?_)
  refine lv_iconst (v := zI 0) hx hb dX5_placesOf_2 rfl ?_
  refine lv_istore_n (lv' := [(3, .int (zI 0)), (2, .int (zI 0)), (0, .ref (B 0)), (1, .int (zI zs))]) hx hb dX5_placesOf_3 rfl hl (by decide) rfl (fun ls hl => ?_)
  have loop_4 : ∀ (M_ : Nat) (y : Int) (g : Nat) (x : Int) (locs : List Loc), 24 * sn S - g < M_ → (y = g) → (g ≤ 24 * sn S) → (x = (ctB (pB S st0) g : Nat)) → va_S (gA G) s.heap H locs → ∀ (ls : Array Slot), lv_has ls 4 [(3, .int (zI y)), (2, .int (zI x)), (0, .ref (B 0)), (1, .int (zI zs))] → W p l e rm_X5_placesOf s m args below meth c H locs (0) (0) (vx_MQ below (gQ G (gi (fun r H1 => zI (ctB (pB S st0) (24 * sn S) : Nat) = r ∧ H = H1))) (gXC G (gNo)) args s 0 0 (gA G)) (F0 m 4 ls []) := by
    intro M_
    induction M_ with
    | zero => intro y g x locs_0 h_0; exact absurd h_0 (Nat.not_lt_zero _)
    | succ M_ ih_4 =>
      intro y g x locs hM_4 hy hg hx1 hS ls hl
      have hsg : ∀ h : g < 24 * sn S, stn S (g / 24) ≤ 24 := fun h => (hI.2.1 (g / 24) (by omega)).2
      refine lv_iload_n hx hb dX5_placesOf_4 rfl (lv_at hl 0 rfl) ?_
      refine lv_bipush (v := zI 24) hx hb dX5_placesOf_5 (by decide +kernel) ?_
      refine lv_aload_n hx hb dX5_placesOf_7 rfl (lv_at hl 2 rfl) ?_
      refine g_get hx hb hX hts (fun w h => (List.mem_cons_of_mem _ (List.mem_append_right _ h))) hown m0 rfl 1 (by decide) (hts (.fieldLink RX5 45 "TuneCatalogueModel" "tunes" "I") (List.mem_cons_of_mem _ (List.mem_append_left _ (List.mem_of_getElem? (i := 0) rfl)))) rfl dX5_placesOf_8 ?_
      refine gz_imul hx hb dX5_placesOf_11 ?_
      refine gz_icmp_ge (tgt := 61) hx hb ⟨by omega, by omega⟩ ⟨by omega, by omega⟩ dX5_placesOf_12 (by decide) (fun c_12 => ?_) (fun c_12 => ?_)
      · refine lv_iload_n hx hb dX5_placesOf_61 rfl (lv_at hl 1 rfl) ?_
        exact g_reti hx hb hr hlocks hS rfl (⟨by rw [hx1, show g = 24 * sn S by omega], rfl⟩) (Nat.le_of_ble_eq_true rfl) (Nat.le_of_ble_eq_true rfl) dX5_placesOf_62
      · have hsg := hsg (by omega)
        refine lv_iload_n hx hb dX5_placesOf_15 rfl (lv_at hl 1 rfl) ?_
        refine lv_iload_n hx hb dX5_placesOf_16 rfl (lv_at hl 0 rfl) ?_
        refine lv_bipush (v := zI 24) hx hb dX5_placesOf_17 (by decide +kernel) ?_
        refine gz_irem hx hb g 24 (by omega) (by omega) (by omega) (by omega) dX5_placesOf_19 ?_
        refine lv_aload_n hx hb dX5_placesOf_20 rfl (lv_at hl 2 rfl) ?_
        refine g_get hx hb hX hts (fun w h => (List.mem_cons_of_mem _ (List.mem_append_right _ h))) hown m0 rfl 4 (by decide) (hts (.fieldLink RX5 16 "TuneCatalogueModel" "sizes" "[I") (List.mem_cons_of_mem _ (List.mem_append_left _ (List.mem_of_getElem? (i := 1) rfl)))) rfl dX5_placesOf_21 ?_
        refine lv_iload_n hx hb dX5_placesOf_24 rfl (lv_at hl 0 rfl) ?_
        refine lv_bipush (v := zI 24) hx hb dX5_placesOf_25 (by decide +kernel) ?_
        refine gz_idiv hx hb g 24 (by omega) (by omega) (by omega) (by omega) dX5_placesOf_27 ?_
        refine gz_iald hx hb hX m3 (g / 24) (by omega) (by omega) (by omega) dX5_placesOf_28 ?_
        refine gz_icmp_ge (tgt := 52) hx hb ⟨by omega, by omega⟩ ⟨by omega, by omega⟩ dX5_placesOf_29 (by decide) (fun c_29 => ?_) (fun c_29 => ?_)
        · refine lv_iconst (v := zI 0) hx hb dX5_placesOf_52 rfl ?_
          refine gz_iadd hx hb dX5_placesOf_53 ?_
          have hx2 : x + 0 = (ctB (pB S st0) (g + 1) : Nat) := by
            rw [ctB]
            first
            | (rw [show pB S st0 g = true from by unfold pB; rw [decide_eq_true (show g % 24 < stn S (g / 24) by omega)]; cases e : pcd S st0 (g / 24) (g % 24) && !srt S (g / 24); rw [e] at c_45; exact absurd rfl c_45; simpa using e, if_pos rfl]; omega)
            | (rw [show pB S st0 g = false from by unfold pB; cases e : pcd S st0 (g / 24) (g % 24) && !srt S (g / 24); rw [Bool.and_assoc, e, Bool.and_false]; rw [e] at c_45; exact absurd c_45 (by decide), if_neg (by decide)]; omega)
            | (rw [show pB S st0 g = false from by unfold pB; rw [decide_eq_false (show ¬ g % 24 < stn S (g / 24) by omega)]; rfl, if_neg (by decide)]; omega)
          refine lv_istore_n (lv' := [(2, .int (zI (x + 0))), (3, .int (zI y)), (0, .ref (B 0)), (1, .int (zI zs))]) hx hb dX5_placesOf_54 rfl hl (by decide) rfl (fun ls hl => ?_)
          refine lv_iinc (v := zI (y + 1)) (lv' := [(3, .int (zI (y + 1))), (2, .int (zI (x + 0))), (0, .ref (B 0)), (1, .int (zI zs))]) hx hb dX5_placesOf_55 hl (k := 1) rfl (zI_add _ _) (by decide) rfl (fun ls hl => ?_)
          refine lv_goto (tgt := 4) hx hb dX5_placesOf_58 (by decide) ?_
          exact ih_4 (y + 1) (g + 1) (x + 0) _ (by omega) (by omega) (by omega) hx2 hS ls (lv_sub hl [0, 1, 2, 3] rfl)
        · refine lv_aload_n hx hb dX5_placesOf_32 rfl (lv_at hl 2 rfl) ?_
          refine lv_iload_n hx hb dX5_placesOf_33 rfl (lv_at hl 0 rfl) ?_
          refine lv_bipush (v := zI 24) hx hb dX5_placesOf_34 (by decide +kernel) ?_
          refine gz_idiv hx hb g 24 (by omega) (by omega) (by omega) (by omega) dX5_placesOf_36 ?_
          refine lv_iload_n hx hb dX5_placesOf_37 rfl (lv_at hl 0 rfl) ?_
          refine lv_bipush (v := zI 24) hx hb dX5_placesOf_38 (by decide +kernel) ?_
          refine gz_irem hx hb g 24 (by omega) (by omega) (by omega) (by omega) dX5_placesOf_40 ?_
          refine lv_iload_n hx hb dX5_placesOf_41 rfl (lv_at hl 3 rfl) ?_
          refine g_goi (vx_runV (As := [.int (zI ((g / 24 : Nat) : Int)), .int (zI ((g % 24 : Nat) : Int)), .int (zI zs)]) (rest := [.int (zI x)]) ⟨hx, hb, hml, hown, hts⟩ (m_isRun l G B S th ct H hM hI ((g / 24 : Nat) : Int) ((g % 24 : Nat) : Int) zs (g / 24) (g % 24) st0 (by omega) (by omega) hzs (by omega) (by omega) h14 hst) (cwV 3 hts gX5_placesOf_X5_isRun rfl rfl rfl hd_X5_isRun ⟨(Nat.le_of_ble_eq_true rfl), (Nat.le_of_ble_eq_true rfl)⟩) (g_preV hX hS (ci := 5) rfl m0) rfl rfl hl.1 rfl (lv_room (Nat.le_of_ble_eq_true rfl)) dX5_placesOf_42 ⟨(Nat.le_of_ble_eq_true rfl), (Nat.le_of_ble_eq_true rfl)⟩) hS (fun r_42 H_42 locs hp hS => ?_)
          obtain ⟨rfl, rfl⟩ := hp
          refine gz_if_eq (tgt := 52) hx hb (by cases (pcd S st0 (g / 24) (g % 24) && !srt S (g / 24)) <;> decide) dX5_placesOf_45 (by decide) (fun c_45 => ?_) (fun c_45 => ?_)
          · refine lv_iconst (v := zI 0) hx hb dX5_placesOf_52 rfl ?_
            refine gz_iadd hx hb dX5_placesOf_53 ?_
            have hx2 : x + 0 = (ctB (pB S st0) (g + 1) : Nat) := by
              rw [ctB]
              first
              | (rw [show pB S st0 g = true from by unfold pB; rw [decide_eq_true (show g % 24 < stn S (g / 24) by omega)]; cases e : pcd S st0 (g / 24) (g % 24) && !srt S (g / 24); rw [e] at c_45; exact absurd rfl c_45; simpa using e, if_pos rfl]; omega)
              | (rw [show pB S st0 g = false from by unfold pB; cases e : pcd S st0 (g / 24) (g % 24) && !srt S (g / 24); rw [Bool.and_assoc, e, Bool.and_false]; rw [e] at c_45; exact absurd c_45 (by decide), if_neg (by decide)]; omega)
              | (rw [show pB S st0 g = false from by unfold pB; rw [decide_eq_false (show ¬ g % 24 < stn S (g / 24) by omega)]; rfl, if_neg (by decide)]; omega)
            refine lv_istore_n (lv' := [(2, .int (zI (x + 0))), (3, .int (zI y)), (0, .ref (B 0)), (1, .int (zI zs))]) hx hb dX5_placesOf_54 rfl hl (by decide) rfl (fun ls hl => ?_)
            refine lv_iinc (v := zI (y + 1)) (lv' := [(3, .int (zI (y + 1))), (2, .int (zI (x + 0))), (0, .ref (B 0)), (1, .int (zI zs))]) hx hb dX5_placesOf_55 hl (k := 1) rfl (zI_add _ _) (by decide) rfl (fun ls hl => ?_)
            refine lv_goto (tgt := 4) hx hb dX5_placesOf_58 (by decide) ?_
            exact ih_4 (y + 1) (g + 1) (x + 0) _ (by omega) (by omega) (by omega) hx2 hS ls (lv_sub hl [0, 1, 2, 3] rfl)
          · refine lv_iconst (v := zI 1) hx hb dX5_placesOf_48 rfl ?_
            refine lv_goto (tgt := 53) hx hb dX5_placesOf_49 (by decide) ?_
            refine gz_iadd hx hb dX5_placesOf_53 ?_
            have hx2 : x + 1 = (ctB (pB S st0) (g + 1) : Nat) := by
              rw [ctB]
              first
              | (rw [show pB S st0 g = true from by unfold pB; rw [decide_eq_true (show g % 24 < stn S (g / 24) by omega)]; cases e : pcd S st0 (g / 24) (g % 24) && !srt S (g / 24); rw [e] at c_45; exact absurd rfl c_45; simpa using e, if_pos rfl]; omega)
              | (rw [show pB S st0 g = false from by unfold pB; cases e : pcd S st0 (g / 24) (g % 24) && !srt S (g / 24); rw [Bool.and_assoc, e, Bool.and_false]; rw [e] at c_45; exact absurd c_45 (by decide), if_neg (by decide)]; omega)
              | (rw [show pB S st0 g = false from by unfold pB; rw [decide_eq_false (show ¬ g % 24 < stn S (g / 24) by omega)]; rfl, if_neg (by decide)]; omega)
            refine lv_istore_n (lv' := [(2, .int (zI (x + 1))), (3, .int (zI y)), (0, .ref (B 0)), (1, .int (zI zs))]) hx hb dX5_placesOf_54 rfl hl (by decide) rfl (fun ls hl => ?_)
            refine lv_iinc (v := zI (y + 1)) (lv' := [(3, .int (zI (y + 1))), (2, .int (zI (x + 1))), (0, .ref (B 0)), (1, .int (zI zs))]) hx hb dX5_placesOf_55 hl (k := 1) rfl (zI_add _ _) (by decide) rfl (fun ls hl => ?_)
            refine lv_goto (tgt := 4) hx hb dX5_placesOf_58 (by decide) ?_
            exact ih_4 (y + 1) (g + 1) (x + 1) _ (by omega) (by omega) (by omega) hx2 hS ls (lv_sub hl [0, 1, 2, 3] rfl)
  exact loop_4 _ 0 0 0 _ (Nat.lt_succ_self _) rfl (Nat.zero_le _) rfl hS ls (lv_sub hl [0, 1, 2, 3] rfl)
theorem ctB_pl {S : cS} (hI : sInv S) (st0 : Nat) : ctB (pB S st0) (24 * sn S) = (plA S st0 (sn S)).length := by
  rw [← plG_plA hI st0 (sn S) (Nat.le_refl _), plG_len]
theorem ctB_up (p : Nat → Bool) : ∀ d g, ctB p g ≤ ctB p (g + d)
  | 0, _ => Nat.le_refl _
  | d + 1, g => by
    have := ctB_up p d g
    show _ ≤ ctB p (g + d) + if p (g + d) then 1 else 0
    omega
theorem plA_at {S : cS} (hI : sInv S) {st0 g : Nat} (hg : g < 24 * sn S) (h : pB S st0 g = true) : (plA S st0 (sn S)).getD (ctB (pB S st0) g) 0 = 100 * (g / 24) + g % 24 := by
  rw [← plG_plA hI st0 (sn S) (Nat.le_refl _), show 24 * sn S = g + 1 + (24 * sn S - (g + 1)) by omega]
  exact plG_get h _
set_option maxHeartbeats 4000000 in
set_option maxRecDepth 100000 in
theorem m_places_ok (l : Launch) (G : gG) (B : Nat → Nat) (S : cS) (th : Int) (ct : Nat → Int32) (H : Heap) (hM : Mod G B S th ct H) (hI : sInv S) (zs : Int) (st0 : Nat) (hzs : zs = st0) (h14 : 1 ≤ st0 ∧ st0 ≤ 4) (hst : st0 + 1 ≤ shn S)  : gM l yX5_places wsX5_places rm_X5_places [.ref (B 0), .int (zI zs)] G H (gi (fun r H1 => zI (((plA S st0 (sn S)).length : Nat) : Int) = r ∧ MP G B S 0 H H1)) (gNo) 0 0 := by
  obtain ⟨m0, m1, m2, m3, m4, m5, m6, m7, hB, gBs⟩ := id hM
  have hn16 : sn S ≤ 16 := hI.1
  have gB0 := gBs 0 (by omega)
  have gB1 := gBs 1 (by omega)
  have gB2 := gBs 2 (by omega)
  have gB3 := gBs 3 (by omega)
  have gB4 := gBs 4 (by omega)
  have gB5 := gBs 5 (by omega)
  have gB6 := gBs 6 (by omega)
  have gB7 := gBs 7 (by omega)
  have hK : gKp (oB B) H H := gKp.rf _ _
  have hzr : rI zs := ⟨by omega, by omega⟩
  refine g_start (cc := cX5_places) (maxL := 2) (ret := (some .int)) (by decide +kernel) rfl (Nat.le_of_ble_eq_true rfl) ?_
  intro p e s m args below meth c F ls hl
  obtain ⟨hx, hb, hml, hr, hts, hown, hlocks, hxt, hH, hX, hin⟩ := F
  have hown : s.vm.findClass RX5 = some m.cls := hown
  have hS : va_S (gA G) s.heap H [] := by rw [hH]; exact va_S.rf
  have hl : lv_has ls 2 [(0, .ref (B 0)), (1, .int (zI zs))] := hl
  refine lv_aload_n hx hb dX5_places_0 rfl (lv_at hl 0 rfl) ?_
  refine lv_aload_n hx hb dX5_places_1 rfl (lv_at hl 0 rfl) ?_
  refine lv_iload_n hx hb dX5_places_2 rfl (lv_at hl 1 rfl) ?_
  refine g_goi (vx_runV (As := [.int (zI zs)]) (rest := [.ref (B 0)]) ⟨hx, hb, hml, hown, hts⟩ (m_err_0 l G B S th ct H hM hI zs (by first | assumption | exact ⟨by omega, by omega⟩) (by omega) (by omega) ) (cwV 1 hts gX5_places_X5_errorOfRun rfl rfl rfl hd_X5_errorOfRun ⟨(Nat.le_of_ble_eq_true rfl), (Nat.le_of_ble_eq_true rfl)⟩) (g_preV hX hS (ci := 5) rfl m0) rfl rfl hl.1 rfl (lv_room (Nat.le_of_ble_eq_true rfl)) dX5_places_3 ⟨(Nat.le_of_ble_eq_true rfl), (Nat.le_of_ble_eq_true rfl)⟩) hS (fun r_3 H_3 locs hp hS => ?_)
  obtain ⟨rfl, rfl⟩ := hp
  refine g_goi (vx_runV (As := [.int (zI 0)]) (rest := []) ⟨hx, hb, hml, hown, hts⟩ (m_holds_0 l G B S th ct H hM hI 0 rfl) (cwV 1 hts gX5_places_X5_holds rfl rfl rfl hd_X5_holds ⟨(Nat.le_of_ble_eq_true rfl), (Nat.le_of_ble_eq_true rfl)⟩) (g_preV hX hS (ci := 5) rfl m0) rfl rfl hl.1 rfl (lv_room (Nat.le_of_ble_eq_true rfl)) dX5_places_6 ⟨(Nat.le_of_ble_eq_true rfl), (Nat.le_of_ble_eq_true rfl)⟩) hS (fun r_6 H_6 locs hp hS => ?_)
  obtain ⟨rfl, hM, hOh⟩ := hp
  obtain ⟨m0, m1, m2, m3, m4, m5, m6, m7, hB, gBs⟩ := id hM
  have hK := hK.trans (hOh.kp1 (oB.k (k := 0) (by omega)))
  refine gz_if_eq (tgt := 20) hx hb (by decide) dX5_places_9 (by decide) (fun c_9 => ?_) (fun c_9 => ?_)
  · omega
  · refine lv_aload_n hx hb dX5_places_12 rfl (lv_at hl 0 rfl) ?_
    refine lv_iload_n hx hb dX5_places_13 rfl (lv_at hl 1 rfl) ?_
    refine g_goi (vx_runV (As := [.int (zI zs)]) (rest := []) ⟨hx, hb, hml, hown, hts⟩ (m_placesOf l G B S 0 ct H_6 hM hI zs st0 hzs h14 hst) (cwV 1 hts gX5_places_X5_placesOf rfl rfl rfl hd_X5_placesOf ⟨(Nat.le_of_ble_eq_true rfl), (Nat.le_of_ble_eq_true rfl)⟩) (g_preV hX hS (ci := 5) rfl m0) rfl rfl hl.1 rfl (lv_room (Nat.le_of_ble_eq_true rfl)) dX5_places_14 ⟨(Nat.le_of_ble_eq_true rfl), (Nat.le_of_ble_eq_true rfl)⟩) hS (fun r_14 H_14 locs hp hS => ?_)
    obtain ⟨rfl, rfl⟩ := hp
    refine lv_goto (tgt := 21) hx hb dX5_places_17 (by decide) ?_
    exact g_reti hx hb hr hlocks hS rfl (⟨by rw [ctB_pl hI], ⟨ct, ⟨m0, m1, m2, m3, m4, m5, m6, m7, hB, gBs⟩⟩, hK⟩) (Nat.le_of_ble_eq_true rfl) (Nat.le_of_ble_eq_true rfl) dX5_places_21
set_option maxHeartbeats 4000000 in
set_option maxRecDepth 100000 in
theorem m_places_e1 (l : Launch) (G : gG) (B : Nat → Nat) (S : cS) (th : Int) (ct : Nat → Int32) (H : Heap) (hM : Mod G B S th ct H) (hI : sInv S) (zs : Int) (hz : rI zs) (hno : ¬ (1 ≤ zs ∧ zs ≤ 4))  : gM l yX5_places wsX5_places rm_X5_places [.ref (B 0), .int (zI zs)] G H (gi (fun r H1 => zI 0 = r ∧ MP G B S 1 H H1)) (gNo) 0 0 := by
  obtain ⟨m0, m1, m2, m3, m4, m5, m6, m7, hB, gBs⟩ := id hM
  have hn16 : sn S ≤ 16 := hI.1
  have gB0 := gBs 0 (by omega)
  have gB1 := gBs 1 (by omega)
  have gB2 := gBs 2 (by omega)
  have gB3 := gBs 3 (by omega)
  have gB4 := gBs 4 (by omega)
  have gB5 := gBs 5 (by omega)
  have gB6 := gBs 6 (by omega)
  have gB7 := gBs 7 (by omega)
  have hK : gKp (oB B) H H := gKp.rf _ _
  refine g_start (cc := cX5_places) (maxL := 2) (ret := (some .int)) (by decide +kernel) rfl (Nat.le_of_ble_eq_true rfl) ?_
  intro p e s m args below meth c F ls hl
  obtain ⟨hx, hb, hml, hr, hts, hown, hlocks, hxt, hH, hX, hin⟩ := F
  have hown : s.vm.findClass RX5 = some m.cls := hown
  have hS : va_S (gA G) s.heap H [] := by rw [hH]; exact va_S.rf
  have hl : lv_has ls 2 [(0, .ref (B 0)), (1, .int (zI zs))] := hl
  refine lv_aload_n hx hb dX5_places_0 rfl (lv_at hl 0 rfl) ?_
  refine lv_aload_n hx hb dX5_places_1 rfl (lv_at hl 0 rfl) ?_
  refine lv_iload_n hx hb dX5_places_2 rfl (lv_at hl 1 rfl) ?_
  refine g_goi (vx_runV (As := [.int (zI zs)]) (rest := [.ref (B 0)]) ⟨hx, hb, hml, hown, hts⟩ (m_err_1 l G B S th ct H hM hI zs hz hno ) (cwV 1 hts gX5_places_X5_errorOfRun rfl rfl rfl hd_X5_errorOfRun ⟨(Nat.le_of_ble_eq_true rfl), (Nat.le_of_ble_eq_true rfl)⟩) (g_preV hX hS (ci := 5) rfl m0) rfl rfl hl.1 rfl (lv_room (Nat.le_of_ble_eq_true rfl)) dX5_places_3 ⟨(Nat.le_of_ble_eq_true rfl), (Nat.le_of_ble_eq_true rfl)⟩) hS (fun r_3 H_3 locs hp hS => ?_)
  obtain ⟨rfl, rfl⟩ := hp
  refine g_goi (vx_runV (As := [.int (zI 1)]) (rest := []) ⟨hx, hb, hml, hown, hts⟩ (m_holds_k l G B S th ct H hM hI 1 (by decide) (by decide)) (cwV 1 hts gX5_places_X5_holds rfl rfl rfl hd_X5_holds ⟨(Nat.le_of_ble_eq_true rfl), (Nat.le_of_ble_eq_true rfl)⟩) (g_preV hX hS (ci := 5) rfl m0) rfl rfl hl.1 rfl (lv_room (Nat.le_of_ble_eq_true rfl)) dX5_places_6 ⟨(Nat.le_of_ble_eq_true rfl), (Nat.le_of_ble_eq_true rfl)⟩) hS (fun r_6 H_6 locs hp hS => ?_)
  obtain ⟨rfl, hM, hOh⟩ := hp
  obtain ⟨m0, m1, m2, m3, m4, m5, m6, m7, hB, gBs⟩ := id hM
  have hK := hK.trans (hOh.kp1 (oB.k (k := 0) (by omega)))
  refine gz_if_eq (tgt := 20) hx hb (by decide) dX5_places_9 (by decide) (fun c_9 => ?_) (fun c_9 => ?_)
  · refine lv_iconst (v := zI 0) hx hb dX5_places_20 rfl ?_
    exact g_reti hx hb hr hlocks hS rfl (⟨rfl, ⟨ct, ⟨m0, m1, m2, m3, m4, m5, m6, m7, hB, gBs⟩⟩, hK⟩) (Nat.le_of_ble_eq_true rfl) (Nat.le_of_ble_eq_true rfl) dX5_places_21
  · omega
set_option maxHeartbeats 4000000 in
set_option maxRecDepth 100000 in
theorem m_places_e2 (l : Launch) (G : gG) (B : Nat → Nat) (S : cS) (th : Int) (ct : Nat → Int32) (H : Heap) (hM : Mod G B S th ct H) (hI : sInv S) (zs : Int) (hz : rI zs) (h14 : 1 ≤ zs ∧ zs ≤ 4) (hno : ¬ zs ≤ (shn S : Int) - 1)  : gM l yX5_places wsX5_places rm_X5_places [.ref (B 0), .int (zI zs)] G H (gi (fun r H1 => zI 0 = r ∧ MP G B S 2 H H1)) (gNo) 0 0 := by
  obtain ⟨m0, m1, m2, m3, m4, m5, m6, m7, hB, gBs⟩ := id hM
  have hn16 : sn S ≤ 16 := hI.1
  have gB0 := gBs 0 (by omega)
  have gB1 := gBs 1 (by omega)
  have gB2 := gBs 2 (by omega)
  have gB3 := gBs 3 (by omega)
  have gB4 := gBs 4 (by omega)
  have gB5 := gBs 5 (by omega)
  have gB6 := gBs 6 (by omega)
  have gB7 := gBs 7 (by omega)
  have hK : gKp (oB B) H H := gKp.rf _ _
  refine g_start (cc := cX5_places) (maxL := 2) (ret := (some .int)) (by decide +kernel) rfl (Nat.le_of_ble_eq_true rfl) ?_
  intro p e s m args below meth c F ls hl
  obtain ⟨hx, hb, hml, hr, hts, hown, hlocks, hxt, hH, hX, hin⟩ := F
  have hown : s.vm.findClass RX5 = some m.cls := hown
  have hS : va_S (gA G) s.heap H [] := by rw [hH]; exact va_S.rf
  have hl : lv_has ls 2 [(0, .ref (B 0)), (1, .int (zI zs))] := hl
  refine lv_aload_n hx hb dX5_places_0 rfl (lv_at hl 0 rfl) ?_
  refine lv_aload_n hx hb dX5_places_1 rfl (lv_at hl 0 rfl) ?_
  refine lv_iload_n hx hb dX5_places_2 rfl (lv_at hl 1 rfl) ?_
  refine g_goi (vx_runV (As := [.int (zI zs)]) (rest := [.ref (B 0)]) ⟨hx, hb, hml, hown, hts⟩ (m_err_2 l G B S th ct H hM hI zs hz h14 hno ) (cwV 1 hts gX5_places_X5_errorOfRun rfl rfl rfl hd_X5_errorOfRun ⟨(Nat.le_of_ble_eq_true rfl), (Nat.le_of_ble_eq_true rfl)⟩) (g_preV hX hS (ci := 5) rfl m0) rfl rfl hl.1 rfl (lv_room (Nat.le_of_ble_eq_true rfl)) dX5_places_3 ⟨(Nat.le_of_ble_eq_true rfl), (Nat.le_of_ble_eq_true rfl)⟩) hS (fun r_3 H_3 locs hp hS => ?_)
  obtain ⟨rfl, rfl⟩ := hp
  refine g_goi (vx_runV (As := [.int (zI 2)]) (rest := []) ⟨hx, hb, hml, hown, hts⟩ (m_holds_k l G B S th ct H hM hI 2 (by decide) (by decide)) (cwV 1 hts gX5_places_X5_holds rfl rfl rfl hd_X5_holds ⟨(Nat.le_of_ble_eq_true rfl), (Nat.le_of_ble_eq_true rfl)⟩) (g_preV hX hS (ci := 5) rfl m0) rfl rfl hl.1 rfl (lv_room (Nat.le_of_ble_eq_true rfl)) dX5_places_6 ⟨(Nat.le_of_ble_eq_true rfl), (Nat.le_of_ble_eq_true rfl)⟩) hS (fun r_6 H_6 locs hp hS => ?_)
  obtain ⟨rfl, hM, hOh⟩ := hp
  obtain ⟨m0, m1, m2, m3, m4, m5, m6, m7, hB, gBs⟩ := id hM
  have hK := hK.trans (hOh.kp1 (oB.k (k := 0) (by omega)))
  refine gz_if_eq (tgt := 20) hx hb (by decide) dX5_places_9 (by decide) (fun c_9 => ?_) (fun c_9 => ?_)
  · refine lv_iconst (v := zI 0) hx hb dX5_places_20 rfl ?_
    exact g_reti hx hb hr hlocks hS rfl (⟨rfl, ⟨ct, ⟨m0, m1, m2, m3, m4, m5, m6, m7, hB, gBs⟩⟩, hK⟩) (Nat.le_of_ble_eq_true rfl) (Nat.le_of_ble_eq_true rfl) dX5_places_21
  · omega
set_option maxHeartbeats 4000000 in
set_option maxRecDepth 100000 in
theorem m_place_ok (l : Launch) (G : gG) (B : Nat → Nat) (S : cS) (th : Int) (ct : Nat → Int32) (H : Heap) (hM : Mod G B S th ct H) (hI : sInv S) (zs : Int) (st0 : Nat) (hzs : zs = st0) (h14 : 1 ≤ st0 ∧ st0 ≤ 4) (hst : st0 + 1 ≤ shn S) (zp : Int) (p0 : Nat) (hzp : zp = p0) (hp0 : p0 < (plA S st0 (sn S)).length) : gM l yX5_place wsX5_place rm_X5_place [.ref (B 0), .int (zI zs), .int (zI zp)] G H (gi (fun r H1 => zI (((plA S st0 (sn S)).getD p0 0 : Nat) : Int) = r ∧ MP G B S 0 H H1)) (gNo) 0 0 := by
  obtain ⟨m0, m1, m2, m3, m4, m5, m6, m7, hB, gBs⟩ := id hM
  have hn16 : sn S ≤ 16 := hI.1
  have gB0 := gBs 0 (by omega)
  have gB1 := gBs 1 (by omega)
  have gB2 := gBs 2 (by omega)
  have gB3 := gBs 3 (by omega)
  have gB4 := gBs 4 (by omega)
  have gB5 := gBs 5 (by omega)
  have gB6 := gBs 6 (by omega)
  have gB7 := gBs 7 (by omega)
  have hK : gKp (oB B) H H := gKp.rf _ _
  rw [← ctB_pl hI] at hp0
  have hct0 := ctB_le (pB S st0) (24 * sn S)
  have hzr : rI zs := ⟨by omega, by omega⟩
  refine g_start (cc := cX5_place) (maxL := 6) (ret := (some .int)) (by decide +kernel) rfl (Nat.le_of_ble_eq_true rfl) ?_
  intro p e s m args below meth c F ls hl
  obtain ⟨hx, hb, hml, hr, hts, hown, hlocks, hxt, hH, hX, hin⟩ := F
  have hown : s.vm.findClass RX5 = some m.cls := hown
  have hS : va_S (gA G) s.heap H [] := by rw [hH]; exact va_S.rf
  have hl : lv_has ls 6 [(0, .ref (B 0)), (1, .int (zI zs)), (2, .int (zI zp))] := hl
  refine lv_aload_n hx hb dX5_place_0 rfl (lv_at hl 0 rfl) ?_
  refine lv_iload_n hx hb dX5_place_1 rfl (lv_at hl 1 rfl) ?_
  refine g_goi (vx_runV (As := [.int (zI zs)]) (rest := []) ⟨hx, hb, hml, hown, hts⟩ (m_err_0 l G B S th ct H hM hI zs (by first | assumption | exact ⟨by omega, by omega⟩) (by omega) (by omega) ) (cwV 1 hts gX5_place_X5_errorOfRun rfl rfl rfl hd_X5_errorOfRun ⟨(Nat.le_of_ble_eq_true rfl), (Nat.le_of_ble_eq_true rfl)⟩) (g_preV hX hS (ci := 5) rfl m0) rfl rfl hl.1 rfl (lv_room (Nat.le_of_ble_eq_true rfl)) dX5_place_2 ⟨(Nat.le_of_ble_eq_true rfl), (Nat.le_of_ble_eq_true rfl)⟩) hS (fun r_2 H_2 locs hp hS => ?_)
  obtain ⟨rfl, rfl⟩ := hp
  refine lv_istore_n (lv' := [(3, .int (zI 0)), (0, .ref (B 0)), (1, .int (zI zs)), (2, .int (zI zp))]) hx hb dX5_place_5 rfl hl (by decide) rfl (fun ls hl => ?_)
  refine lv_aload_n hx hb dX5_place_6 rfl (lv_at hl 1 rfl) ?_
  refine lv_iload_n hx hb dX5_place_7 rfl (lv_at hl 0 rfl) ?_
  refine gz_if_le (tgt := 15) hx hb (by decide) dX5_place_8 (by decide) (fun c_8 => ?_) (fun c_8 => ?_)
  · refine lv_iload_n hx hb dX5_place_15 rfl (lv_at hl 3 rfl) ?_
    refine lv_iconst (v := zI 0) hx hb dX5_place_16 rfl ?_
    refine lv_aload_n hx hb dX5_place_17 rfl (lv_at hl 1 rfl) ?_
    refine lv_iload_n hx hb dX5_place_18 rfl (lv_at hl 2 rfl) ?_
    refine g_goi (vx_runV (As := [.int (zI zs)]) (rest := [.int (zI 0), .int (zI zp), .ref (B 0)]) ⟨hx, hb, hml, hown, hts⟩ (m_placesOf l G B S th ct H hM hI zs st0 hzs h14 hst) (cwV 1 hts gX5_place_X5_placesOf rfl rfl rfl hd_X5_placesOf ⟨(Nat.le_of_ble_eq_true rfl), (Nat.le_of_ble_eq_true rfl)⟩) (g_preV hX hS (ci := 5) rfl m0) rfl rfl hl.1 rfl (lv_room (Nat.le_of_ble_eq_true rfl)) dX5_place_19 ⟨(Nat.le_of_ble_eq_true rfl), (Nat.le_of_ble_eq_true rfl)⟩) hS (fun r_19 H_19 locs hp hS => ?_)
    obtain ⟨rfl, rfl⟩ := hp
    refine lv_iconst (v := zI 1) hx hb dX5_place_22 rfl ?_
    refine gz_isub hx hb dX5_place_23 ?_
    refine g_goi (vx_runS (As := [.int (zI zp), .int (zI 0), .int (zI (((ctB (pB S st0) (24 * sn S) : Nat) : Int) - 1))]) (rest := [.ref (B 0)]) ⟨hx, hb, hml, hown, hts⟩ (m_in_t l G H zp 0 (((ctB (pB S st0) (24 * sn S) : Nat) : Int) - 1) (by first | assumption | exact ⟨by omega, by omega⟩) ⟨by omega, by omega⟩ ⟨by omega, by omega⟩ (by omega)) (va_cwS 3 hts gX5_place_X5_in rfl rfl rfl hd_X5_in.2 ⟨(Nat.le_of_ble_eq_true rfl), (Nat.le_of_ble_eq_true rfl)⟩) (g_pre hX hS) rfl rfl hl.1 rfl (lv_room (Nat.le_of_ble_eq_true rfl)) dX5_place_24 ⟨(Nat.le_of_ble_eq_true rfl), (Nat.le_of_ble_eq_true rfl)⟩) hS (fun r_24 H_24 locs hp hS => ?_)
    obtain ⟨rfl, rfl⟩ := hp
    refine gz_if_eq (tgt := 34) hx hb (by decide) dX5_place_27 (by decide) (fun c_27 => ?_) (fun c_27 => ?_)
    · omega
    · refine lv_iconst (v := zI 0) hx hb dX5_place_30 rfl ?_
      refine lv_goto (tgt := 35) hx hb dX5_place_31 (by decide) ?_
      refine g_goi (vx_runV (As := [.int (zI 0)]) (rest := []) ⟨hx, hb, hml, hown, hts⟩ (m_holds_0 l G B S th ct H hM hI 0 rfl) (cwV 1 hts gX5_place_X5_holds rfl rfl rfl hd_X5_holds ⟨(Nat.le_of_ble_eq_true rfl), (Nat.le_of_ble_eq_true rfl)⟩) (g_preV hX hS (ci := 5) rfl m0) rfl rfl hl.1 rfl (lv_room (Nat.le_of_ble_eq_true rfl)) dX5_place_35 ⟨(Nat.le_of_ble_eq_true rfl), (Nat.le_of_ble_eq_true rfl)⟩) hS (fun r_35 H_35 locs hp hS => ?_)
      obtain ⟨rfl, hM, hOh⟩ := hp
      obtain ⟨m0, m1, m2, m3, m4, m5, m6, m7, hB, gBs⟩ := id hM
      have hK := hK.trans (hOh.kp1 (oB.k (k := 0) (by omega)))
      refine gz_if_ne (tgt := 43) hx hb (by decide) dX5_place_38 (by decide) (fun c_38 => ?_) (fun c_38 => ?_)
      · refine lv_iload_n hx hb dX5_place_43 rfl (lv_at hl 3 rfl) ?_
        refine lv_istore (lv' := [(4, .int (zI zp)), (3, .int (zI 0)), (0, .ref (B 0)), (1, .int (zI zs)), (2, .int (zI zp))]) hx hb dX5_place_44 hl (by decide) rfl (fun ls hl => ?_)
        refine lv_iconst (v := zI 0) hx hb dX5_place_46 rfl ?_
        refine lv_istore (lv' := [(5, .int (zI 0)), (4, .int (zI zp)), (3, .int (zI 0)), (0, .ref (B 0)), (1, .int (zI zs)), (2, .int (zI zp))]) hx hb dX5_place_47 hl (by decide) rfl (fun ls hl => ?_)
        have loop_49 : ∀ (M_ : Nat) (y : Int) (g : Nat) (x : Int) (locs : List Loc), 24 * sn S - g < M_ → (y = g) → (g ≤ 24 * sn S) → (ctB (pB S st0) g ≤ p0) → (x = (p0 : Int) - (ctB (pB S st0) g : Nat)) → va_S (gA G) s.heap H_35 locs → ∀ (ls : Array Slot), lv_has ls 6 [(5, .int (zI y)), (4, .int (zI x)), (0, .ref (B 0)), (1, .int (zI zs)), (2, .int (zI zp))] → W p l e rm_X5_place s m args below meth c H_35 locs (0) (0) (vx_MQ below (gQ G (gi (fun r H1 => zI (((plA S st0 (sn S)).getD p0 0 : Nat) : Int) = r ∧ MP G B S 0 H H1))) (gXC G (gNo)) args s 0 0 (gA G)) (F0 m 49 ls []) := by
          intro M_
          induction M_ with
          | zero => intro y g x locs_0 h_0; exact absurd h_0 (Nat.not_lt_zero _)
          | succ M_ ih_49 =>
            intro y g x locs hM_49 hy hg hc1 hx1 hS ls hl
            have hg2 : g < 24 * sn S := by
              rcases Nat.lt_or_ge g (24 * sn S) with h | h
              · exact h
              · rw [show g = 24 * sn S by omega] at hc1; omega
            have hsg : stn S (g / 24) ≤ 24 := (hI.2.1 (g / 24) (by omega)).2
            have hcu : ctB (pB S st0) (g + 1) = ctB (pB S st0) g + if pB S st0 g then 1 else 0 := rfl
            have hct : ctB (pB S st0) (24 * sn S) ≤ 24 * sn S := ctB_le _ _
            refine lv_iload hx hb dX5_place_49 (lv_at hl 1 rfl) ?_
            refine gz_if_gt (tgt := 90) hx hb ⟨by omega, by omega⟩ dX5_place_51 (by decide) (fun c_51 => ?_) (fun c_51 => ?_)
            · refine lv_iload hx hb dX5_place_90 (lv_at hl 1 rfl) ?_
              refine lv_iload hx hb dX5_place_92 (lv_at hl 0 rfl) ?_
              refine lv_bipush (v := zI 24) hx hb dX5_place_94 (by decide +kernel) ?_
              refine gz_irem hx hb g 24 (by omega) (by omega) (by omega) (by omega) dX5_place_96 ?_
              refine lv_aload_n hx hb dX5_place_97 rfl (lv_at hl 2 rfl) ?_
              refine g_get hx hb hX hts (fun w h => (List.mem_cons_of_mem _ (List.mem_append_right _ h))) hown m0 rfl 4 (by decide) (hts (.fieldLink RX5 16 "TuneCatalogueModel" "sizes" "[I") (List.mem_cons_of_mem _ (List.mem_append_left _ (List.mem_append_left _ (List.mem_of_getElem? (i := 0) rfl))))) rfl dX5_place_98 ?_
              refine lv_iload hx hb dX5_place_101 (lv_at hl 0 rfl) ?_
              refine lv_bipush (v := zI 24) hx hb dX5_place_103 (by decide +kernel) ?_
              refine gz_idiv hx hb g 24 (by omega) (by omega) (by omega) (by omega) dX5_place_105 ?_
              refine gz_iald hx hb hX m3 (g / 24) (by omega) (by omega) (by omega) dX5_place_106 ?_
              refine gz_icmp_ge (tgt := 132) hx hb ⟨by omega, by omega⟩ ⟨by omega, by omega⟩ dX5_place_107 (by decide) (fun c_107 => ?_) (fun c_107 => ?_)
              · refine lv_iconst (v := zI 0) hx hb dX5_place_132 rfl ?_
                refine gz_isub hx hb dX5_place_133 ?_
                obtain ⟨hx2, hx3⟩ : x - 0 = (p0 : Int) - (ctB (pB S st0) (g + 1) : Nat) ∧ ctB (pB S st0) (g + 1) ≤ p0 := by
                  rw [hcu]
                  first
                  | (rw [show pB S st0 g = true from by unfold pB; rw [decide_eq_true (show g % 24 < stn S (g / 24) by omega)]; cases e : pcd S st0 (g / 24) (g % 24) && !srt S (g / 24); rw [e] at c_125; exact absurd rfl c_125; simpa using e, if_pos rfl]; exact ⟨by omega, by omega⟩)
                  | (rw [show pB S st0 g = false from by unfold pB; cases e : pcd S st0 (g / 24) (g % 24) && !srt S (g / 24); rw [Bool.and_assoc, e, Bool.and_false]; rw [e] at c_125; exact absurd c_125 (by decide), if_neg (by decide)]; exact ⟨by omega, by omega⟩)
                  | (rw [show pB S st0 g = false from by unfold pB; rw [decide_eq_false (show ¬ g % 24 < stn S (g / 24) by omega)]; rfl, if_neg (by decide)]; exact ⟨by omega, by omega⟩)
                refine lv_istore (lv' := [(4, .int (zI (x - 0))), (5, .int (zI y)), (0, .ref (B 0)), (1, .int (zI zs)), (2, .int (zI zp))]) hx hb dX5_place_134 hl (by decide) rfl (fun ls hl => ?_)
                refine lv_iinc (v := zI (y + 1)) (lv' := [(5, .int (zI (y + 1))), (4, .int (zI (x - 0))), (0, .ref (B 0)), (1, .int (zI zs)), (2, .int (zI zp))]) hx hb dX5_place_136 hl (k := 1) rfl (zI_add _ _) (by decide) rfl (fun ls hl => ?_)
                refine lv_goto (tgt := 49) hx hb dX5_place_139 (by decide) ?_
                exact ih_49 (y + 1) (g + 1) (x - 0) _ (by omega) (by omega) (by omega) hx3 hx2 hS ls (lv_sub hl [0, 1, 2, 3, 4] rfl)
              · refine lv_aload_n hx hb dX5_place_110 rfl (lv_at hl 2 rfl) ?_
                refine lv_iload hx hb dX5_place_111 (lv_at hl 0 rfl) ?_
                refine lv_bipush (v := zI 24) hx hb dX5_place_113 (by decide +kernel) ?_
                refine gz_idiv hx hb g 24 (by omega) (by omega) (by omega) (by omega) dX5_place_115 ?_
                refine lv_iload hx hb dX5_place_116 (lv_at hl 0 rfl) ?_
                refine lv_bipush (v := zI 24) hx hb dX5_place_118 (by decide +kernel) ?_
                refine gz_irem hx hb g 24 (by omega) (by omega) (by omega) (by omega) dX5_place_120 ?_
                refine lv_iload_n hx hb dX5_place_121 rfl (lv_at hl 3 rfl) ?_
                refine g_goi (vx_runV (As := [.int (zI ((g / 24 : Nat) : Int)), .int (zI ((g % 24 : Nat) : Int)), .int (zI zs)]) (rest := [.int (zI x)]) ⟨hx, hb, hml, hown, hts⟩ (m_isRun l G B S 0 ct H_35 hM hI ((g / 24 : Nat) : Int) ((g % 24 : Nat) : Int) zs (g / 24) (g % 24) st0 (by omega) (by omega) hzs (by omega) (by omega) h14 hst) (cwV 3 hts gX5_place_X5_isRun rfl rfl rfl hd_X5_isRun ⟨(Nat.le_of_ble_eq_true rfl), (Nat.le_of_ble_eq_true rfl)⟩) (g_preV hX hS (ci := 5) rfl m0) rfl rfl hl.1 rfl (lv_room (Nat.le_of_ble_eq_true rfl)) dX5_place_122 ⟨(Nat.le_of_ble_eq_true rfl), (Nat.le_of_ble_eq_true rfl)⟩) hS (fun r_122 H_122 locs hp hS => ?_)
                obtain ⟨rfl, rfl⟩ := hp
                refine gz_if_eq (tgt := 132) hx hb (by cases (pcd S st0 (g / 24) (g % 24) && !srt S (g / 24)) <;> decide) dX5_place_125 (by decide) (fun c_125 => ?_) (fun c_125 => ?_)
                · refine lv_iconst (v := zI 0) hx hb dX5_place_132 rfl ?_
                  refine gz_isub hx hb dX5_place_133 ?_
                  obtain ⟨hx2, hx3⟩ : x - 0 = (p0 : Int) - (ctB (pB S st0) (g + 1) : Nat) ∧ ctB (pB S st0) (g + 1) ≤ p0 := by
                    rw [hcu]
                    first
                    | (rw [show pB S st0 g = true from by unfold pB; rw [decide_eq_true (show g % 24 < stn S (g / 24) by omega)]; cases e : pcd S st0 (g / 24) (g % 24) && !srt S (g / 24); rw [e] at c_125; exact absurd rfl c_125; simpa using e, if_pos rfl]; exact ⟨by omega, by omega⟩)
                    | (rw [show pB S st0 g = false from by unfold pB; cases e : pcd S st0 (g / 24) (g % 24) && !srt S (g / 24); rw [Bool.and_assoc, e, Bool.and_false]; rw [e] at c_125; exact absurd c_125 (by decide), if_neg (by decide)]; exact ⟨by omega, by omega⟩)
                    | (rw [show pB S st0 g = false from by unfold pB; rw [decide_eq_false (show ¬ g % 24 < stn S (g / 24) by omega)]; rfl, if_neg (by decide)]; exact ⟨by omega, by omega⟩)
                  refine lv_istore (lv' := [(4, .int (zI (x - 0))), (5, .int (zI y)), (0, .ref (B 0)), (1, .int (zI zs)), (2, .int (zI zp))]) hx hb dX5_place_134 hl (by decide) rfl (fun ls hl => ?_)
                  refine lv_iinc (v := zI (y + 1)) (lv' := [(5, .int (zI (y + 1))), (4, .int (zI (x - 0))), (0, .ref (B 0)), (1, .int (zI zs)), (2, .int (zI zp))]) hx hb dX5_place_136 hl (k := 1) rfl (zI_add _ _) (by decide) rfl (fun ls hl => ?_)
                  refine lv_goto (tgt := 49) hx hb dX5_place_139 (by decide) ?_
                  exact ih_49 (y + 1) (g + 1) (x - 0) _ (by omega) (by omega) (by omega) hx3 hx2 hS ls (lv_sub hl [0, 1, 2, 3, 4] rfl)
                · refine lv_iconst (v := zI 1) hx hb dX5_place_128 rfl ?_
                  refine lv_goto (tgt := 133) hx hb dX5_place_129 (by decide) ?_
                  refine gz_isub hx hb dX5_place_133 ?_
                  obtain ⟨hx2, hx3⟩ : x - 1 = (p0 : Int) - (ctB (pB S st0) (g + 1) : Nat) ∧ ctB (pB S st0) (g + 1) ≤ p0 := by
                    rw [hcu]
                    first
                    | (rw [show pB S st0 g = true from by unfold pB; rw [decide_eq_true (show g % 24 < stn S (g / 24) by omega)]; cases e : pcd S st0 (g / 24) (g % 24) && !srt S (g / 24); rw [e] at c_125; exact absurd rfl c_125; simpa using e, if_pos rfl]; exact ⟨by omega, by omega⟩)
                    | (rw [show pB S st0 g = false from by unfold pB; cases e : pcd S st0 (g / 24) (g % 24) && !srt S (g / 24); rw [Bool.and_assoc, e, Bool.and_false]; rw [e] at c_125; exact absurd c_125 (by decide), if_neg (by decide)]; exact ⟨by omega, by omega⟩)
                    | (rw [show pB S st0 g = false from by unfold pB; rw [decide_eq_false (show ¬ g % 24 < stn S (g / 24) by omega)]; rfl, if_neg (by decide)]; exact ⟨by omega, by omega⟩)
                  refine lv_istore (lv' := [(4, .int (zI (x - 1))), (5, .int (zI y)), (0, .ref (B 0)), (1, .int (zI zs)), (2, .int (zI zp))]) hx hb dX5_place_134 hl (by decide) rfl (fun ls hl => ?_)
                  refine lv_iinc (v := zI (y + 1)) (lv' := [(5, .int (zI (y + 1))), (4, .int (zI (x - 1))), (0, .ref (B 0)), (1, .int (zI zs)), (2, .int (zI zp))]) hx hb dX5_place_136 hl (k := 1) rfl (zI_add _ _) (by decide) rfl (fun ls hl => ?_)
                  refine lv_goto (tgt := 49) hx hb dX5_place_139 (by decide) ?_
                  exact ih_49 (y + 1) (g + 1) (x - 1) _ (by omega) (by omega) (by omega) hx3 hx2 hS ls (lv_sub hl [0, 1, 2, 3, 4] rfl)
            · refine lv_iload hx hb dX5_place_54 (lv_at hl 0 rfl) ?_
              refine lv_bipush (v := zI 24) hx hb dX5_place_56 (by decide +kernel) ?_
              refine gz_irem hx hb g 24 (by omega) (by omega) (by omega) (by omega) dX5_place_58 ?_
              refine lv_aload_n hx hb dX5_place_59 rfl (lv_at hl 2 rfl) ?_
              refine g_get hx hb hX hts (fun w h => (List.mem_cons_of_mem _ (List.mem_append_right _ h))) hown m0 rfl 4 (by decide) (hts (.fieldLink RX5 16 "TuneCatalogueModel" "sizes" "[I") (List.mem_cons_of_mem _ (List.mem_append_left _ (List.mem_append_left _ (List.mem_of_getElem? (i := 0) rfl))))) rfl dX5_place_60 ?_
              refine lv_iload hx hb dX5_place_63 (lv_at hl 0 rfl) ?_
              refine lv_bipush (v := zI 24) hx hb dX5_place_65 (by decide +kernel) ?_
              refine gz_idiv hx hb g 24 (by omega) (by omega) (by omega) (by omega) dX5_place_67 ?_
              refine gz_iald hx hb hX m3 (g / 24) (by omega) (by omega) (by omega) dX5_place_68 ?_
              refine gz_icmp_ge (tgt := 90) hx hb ⟨by omega, by omega⟩ ⟨by omega, by omega⟩ dX5_place_69 (by decide) (fun c_69 => ?_) (fun c_69 => ?_)
              · refine lv_iload hx hb dX5_place_90 (lv_at hl 1 rfl) ?_
                refine lv_iload hx hb dX5_place_92 (lv_at hl 0 rfl) ?_
                refine lv_bipush (v := zI 24) hx hb dX5_place_94 (by decide +kernel) ?_
                refine gz_irem hx hb g 24 (by omega) (by omega) (by omega) (by omega) dX5_place_96 ?_
                refine lv_aload_n hx hb dX5_place_97 rfl (lv_at hl 2 rfl) ?_
                refine g_get hx hb hX hts (fun w h => (List.mem_cons_of_mem _ (List.mem_append_right _ h))) hown m0 rfl 4 (by decide) (hts (.fieldLink RX5 16 "TuneCatalogueModel" "sizes" "[I") (List.mem_cons_of_mem _ (List.mem_append_left _ (List.mem_append_left _ (List.mem_of_getElem? (i := 0) rfl))))) rfl dX5_place_98 ?_
                refine lv_iload hx hb dX5_place_101 (lv_at hl 0 rfl) ?_
                refine lv_bipush (v := zI 24) hx hb dX5_place_103 (by decide +kernel) ?_
                refine gz_idiv hx hb g 24 (by omega) (by omega) (by omega) (by omega) dX5_place_105 ?_
                refine gz_iald hx hb hX m3 (g / 24) (by omega) (by omega) (by omega) dX5_place_106 ?_
                refine gz_icmp_ge (tgt := 132) hx hb ⟨by omega, by omega⟩ ⟨by omega, by omega⟩ dX5_place_107 (by decide) (fun c_107 => ?_) (fun c_107 => ?_)
                · refine lv_iconst (v := zI 0) hx hb dX5_place_132 rfl ?_
                  refine gz_isub hx hb dX5_place_133 ?_
                  obtain ⟨hx2, hx3⟩ : x - 0 = (p0 : Int) - (ctB (pB S st0) (g + 1) : Nat) ∧ ctB (pB S st0) (g + 1) ≤ p0 := by
                    rw [hcu]
                    first
                    | (rw [show pB S st0 g = true from by unfold pB; rw [decide_eq_true (show g % 24 < stn S (g / 24) by omega)]; cases e : pcd S st0 (g / 24) (g % 24) && !srt S (g / 24); rw [e] at c_125; exact absurd rfl c_125; simpa using e, if_pos rfl]; exact ⟨by omega, by omega⟩)
                    | (rw [show pB S st0 g = false from by unfold pB; cases e : pcd S st0 (g / 24) (g % 24) && !srt S (g / 24); rw [Bool.and_assoc, e, Bool.and_false]; rw [e] at c_125; exact absurd c_125 (by decide), if_neg (by decide)]; exact ⟨by omega, by omega⟩)
                    | (rw [show pB S st0 g = false from by unfold pB; rw [decide_eq_false (show ¬ g % 24 < stn S (g / 24) by omega)]; rfl, if_neg (by decide)]; exact ⟨by omega, by omega⟩)
                  refine lv_istore (lv' := [(4, .int (zI (x - 0))), (5, .int (zI y)), (0, .ref (B 0)), (1, .int (zI zs)), (2, .int (zI zp))]) hx hb dX5_place_134 hl (by decide) rfl (fun ls hl => ?_)
                  refine lv_iinc (v := zI (y + 1)) (lv' := [(5, .int (zI (y + 1))), (4, .int (zI (x - 0))), (0, .ref (B 0)), (1, .int (zI zs)), (2, .int (zI zp))]) hx hb dX5_place_136 hl (k := 1) rfl (zI_add _ _) (by decide) rfl (fun ls hl => ?_)
                  refine lv_goto (tgt := 49) hx hb dX5_place_139 (by decide) ?_
                  exact ih_49 (y + 1) (g + 1) (x - 0) _ (by omega) (by omega) (by omega) hx3 hx2 hS ls (lv_sub hl [0, 1, 2, 3, 4] rfl)
                · refine lv_aload_n hx hb dX5_place_110 rfl (lv_at hl 2 rfl) ?_
                  refine lv_iload hx hb dX5_place_111 (lv_at hl 0 rfl) ?_
                  refine lv_bipush (v := zI 24) hx hb dX5_place_113 (by decide +kernel) ?_
                  refine gz_idiv hx hb g 24 (by omega) (by omega) (by omega) (by omega) dX5_place_115 ?_
                  refine lv_iload hx hb dX5_place_116 (lv_at hl 0 rfl) ?_
                  refine lv_bipush (v := zI 24) hx hb dX5_place_118 (by decide +kernel) ?_
                  refine gz_irem hx hb g 24 (by omega) (by omega) (by omega) (by omega) dX5_place_120 ?_
                  refine lv_iload_n hx hb dX5_place_121 rfl (lv_at hl 3 rfl) ?_
                  refine g_goi (vx_runV (As := [.int (zI ((g / 24 : Nat) : Int)), .int (zI ((g % 24 : Nat) : Int)), .int (zI zs)]) (rest := [.int (zI x)]) ⟨hx, hb, hml, hown, hts⟩ (m_isRun l G B S 0 ct H_35 hM hI ((g / 24 : Nat) : Int) ((g % 24 : Nat) : Int) zs (g / 24) (g % 24) st0 (by omega) (by omega) hzs (by omega) (by omega) h14 hst) (cwV 3 hts gX5_place_X5_isRun rfl rfl rfl hd_X5_isRun ⟨(Nat.le_of_ble_eq_true rfl), (Nat.le_of_ble_eq_true rfl)⟩) (g_preV hX hS (ci := 5) rfl m0) rfl rfl hl.1 rfl (lv_room (Nat.le_of_ble_eq_true rfl)) dX5_place_122 ⟨(Nat.le_of_ble_eq_true rfl), (Nat.le_of_ble_eq_true rfl)⟩) hS (fun r_122 H_122 locs hp hS => ?_)
                  obtain ⟨rfl, rfl⟩ := hp
                  refine gz_if_eq (tgt := 132) hx hb (by cases (pcd S st0 (g / 24) (g % 24) && !srt S (g / 24)) <;> decide) dX5_place_125 (by decide) (fun c_125 => ?_) (fun c_125 => ?_)
                  · refine lv_iconst (v := zI 0) hx hb dX5_place_132 rfl ?_
                    refine gz_isub hx hb dX5_place_133 ?_
                    obtain ⟨hx2, hx3⟩ : x - 0 = (p0 : Int) - (ctB (pB S st0) (g + 1) : Nat) ∧ ctB (pB S st0) (g + 1) ≤ p0 := by
                      rw [hcu]
                      first
                      | (rw [show pB S st0 g = true from by unfold pB; rw [decide_eq_true (show g % 24 < stn S (g / 24) by omega)]; cases e : pcd S st0 (g / 24) (g % 24) && !srt S (g / 24); rw [e] at c_125; exact absurd rfl c_125; simpa using e, if_pos rfl]; exact ⟨by omega, by omega⟩)
                      | (rw [show pB S st0 g = false from by unfold pB; cases e : pcd S st0 (g / 24) (g % 24) && !srt S (g / 24); rw [Bool.and_assoc, e, Bool.and_false]; rw [e] at c_125; exact absurd c_125 (by decide), if_neg (by decide)]; exact ⟨by omega, by omega⟩)
                      | (rw [show pB S st0 g = false from by unfold pB; rw [decide_eq_false (show ¬ g % 24 < stn S (g / 24) by omega)]; rfl, if_neg (by decide)]; exact ⟨by omega, by omega⟩)
                    refine lv_istore (lv' := [(4, .int (zI (x - 0))), (5, .int (zI y)), (0, .ref (B 0)), (1, .int (zI zs)), (2, .int (zI zp))]) hx hb dX5_place_134 hl (by decide) rfl (fun ls hl => ?_)
                    refine lv_iinc (v := zI (y + 1)) (lv' := [(5, .int (zI (y + 1))), (4, .int (zI (x - 0))), (0, .ref (B 0)), (1, .int (zI zs)), (2, .int (zI zp))]) hx hb dX5_place_136 hl (k := 1) rfl (zI_add _ _) (by decide) rfl (fun ls hl => ?_)
                    refine lv_goto (tgt := 49) hx hb dX5_place_139 (by decide) ?_
                    exact ih_49 (y + 1) (g + 1) (x - 0) _ (by omega) (by omega) (by omega) hx3 hx2 hS ls (lv_sub hl [0, 1, 2, 3, 4] rfl)
                  · refine lv_iconst (v := zI 1) hx hb dX5_place_128 rfl ?_
                    refine lv_goto (tgt := 133) hx hb dX5_place_129 (by decide) ?_
                    refine gz_isub hx hb dX5_place_133 ?_
                    obtain ⟨hx2, hx3⟩ : x - 1 = (p0 : Int) - (ctB (pB S st0) (g + 1) : Nat) ∧ ctB (pB S st0) (g + 1) ≤ p0 := by
                      rw [hcu]
                      first
                      | (rw [show pB S st0 g = true from by unfold pB; rw [decide_eq_true (show g % 24 < stn S (g / 24) by omega)]; cases e : pcd S st0 (g / 24) (g % 24) && !srt S (g / 24); rw [e] at c_125; exact absurd rfl c_125; simpa using e, if_pos rfl]; exact ⟨by omega, by omega⟩)
                      | (rw [show pB S st0 g = false from by unfold pB; cases e : pcd S st0 (g / 24) (g % 24) && !srt S (g / 24); rw [Bool.and_assoc, e, Bool.and_false]; rw [e] at c_125; exact absurd c_125 (by decide), if_neg (by decide)]; exact ⟨by omega, by omega⟩)
                      | (rw [show pB S st0 g = false from by unfold pB; rw [decide_eq_false (show ¬ g % 24 < stn S (g / 24) by omega)]; rfl, if_neg (by decide)]; exact ⟨by omega, by omega⟩)
                    refine lv_istore (lv' := [(4, .int (zI (x - 1))), (5, .int (zI y)), (0, .ref (B 0)), (1, .int (zI zs)), (2, .int (zI zp))]) hx hb dX5_place_134 hl (by decide) rfl (fun ls hl => ?_)
                    refine lv_iinc (v := zI (y + 1)) (lv' := [(5, .int (zI (y + 1))), (4, .int (zI (x - 1))), (0, .ref (B 0)), (1, .int (zI zs)), (2, .int (zI zp))]) hx hb dX5_place_136 hl (k := 1) rfl (zI_add _ _) (by decide) rfl (fun ls hl => ?_)
                    refine lv_goto (tgt := 49) hx hb dX5_place_139 (by decide) ?_
                    exact ih_49 (y + 1) (g + 1) (x - 1) _ (by omega) (by omega) (by omega) hx3 hx2 hS ls (lv_sub hl [0, 1, 2, 3, 4] rfl)
              · refine lv_aload_n hx hb dX5_place_72 rfl (lv_at hl 2 rfl) ?_
                refine lv_iload hx hb dX5_place_73 (lv_at hl 0 rfl) ?_
                refine lv_bipush (v := zI 24) hx hb dX5_place_75 (by decide +kernel) ?_
                refine gz_idiv hx hb g 24 (by omega) (by omega) (by omega) (by omega) dX5_place_77 ?_
                refine lv_iload hx hb dX5_place_78 (lv_at hl 0 rfl) ?_
                refine lv_bipush (v := zI 24) hx hb dX5_place_80 (by decide +kernel) ?_
                refine gz_irem hx hb g 24 (by omega) (by omega) (by omega) (by omega) dX5_place_82 ?_
                refine lv_iload_n hx hb dX5_place_83 rfl (lv_at hl 3 rfl) ?_
                refine g_goi (vx_runV (As := [.int (zI ((g / 24 : Nat) : Int)), .int (zI ((g % 24 : Nat) : Int)), .int (zI zs)]) (rest := []) ⟨hx, hb, hml, hown, hts⟩ (m_isRun l G B S 0 ct H_35 hM hI ((g / 24 : Nat) : Int) ((g % 24 : Nat) : Int) zs (g / 24) (g % 24) st0 (by omega) (by omega) hzs (by omega) (by omega) h14 hst) (cwV 3 hts gX5_place_X5_isRun rfl rfl rfl hd_X5_isRun ⟨(Nat.le_of_ble_eq_true rfl), (Nat.le_of_ble_eq_true rfl)⟩) (g_preV hX hS (ci := 5) rfl m0) rfl rfl hl.1 rfl (lv_room (Nat.le_of_ble_eq_true rfl)) dX5_place_84 ⟨(Nat.le_of_ble_eq_true rfl), (Nat.le_of_ble_eq_true rfl)⟩) hS (fun r_84 H_84 locs hp hS => ?_)
                obtain ⟨rfl, rfl⟩ := hp
                refine gz_if_ne (tgt := 142) hx hb (by cases (pcd S st0 (g / 24) (g % 24) && !srt S (g / 24)) <;> decide) dX5_place_87 (by decide) (fun c_87 => ?_) (fun c_87 => ?_)
                · have hpb : pB S st0 g = true := by
                    unfold pB
                    rw [decide_eq_true (show g % 24 < stn S (g / 24) by omega)]
                    cases e : pcd S st0 (g / 24) (g % 24) && !srt S (g / 24)
                    · rw [e] at c_87; exact absurd rfl c_87
                    · simpa using e
                  have hfin := plA_at hI (st0 := st0) hg2 hpb
                  rw [show ctB (pB S st0) g = p0 by omega] at hfin
                  refine lv_bipush (v := zI 100) hx hb dX5_place_142 (by decide +kernel) ?_
                  refine lv_iload hx hb dX5_place_144 (lv_at hl 0 rfl) ?_
                  refine lv_bipush (v := zI 24) hx hb dX5_place_146 (by decide +kernel) ?_
                  refine gz_idiv hx hb g 24 (by omega) (by omega) (by omega) (by omega) dX5_place_148 ?_
                  refine gz_imul hx hb dX5_place_149 ?_
                  refine lv_iload hx hb dX5_place_150 (lv_at hl 0 rfl) ?_
                  refine lv_bipush (v := zI 24) hx hb dX5_place_152 (by decide +kernel) ?_
                  refine gz_irem hx hb g 24 (by omega) (by omega) (by omega) (by omega) dX5_place_154 ?_
                  refine gz_iadd hx hb dX5_place_155 ?_
                  exact g_reti hx hb hr hlocks hS rfl (⟨by rw [hfin]; first | (congr 1; done) | (congr 1; omega), ⟨ct, ⟨m0, m1, m2, m3, m4, m5, m6, m7, hB, gBs⟩⟩, hK⟩) (Nat.le_of_ble_eq_true rfl) (Nat.le_of_ble_eq_true rfl) dX5_place_156
                · refine lv_iload hx hb dX5_place_90 (lv_at hl 1 rfl) ?_
                  refine lv_iload hx hb dX5_place_92 (lv_at hl 0 rfl) ?_
                  refine lv_bipush (v := zI 24) hx hb dX5_place_94 (by decide +kernel) ?_
                  refine gz_irem hx hb g 24 (by omega) (by omega) (by omega) (by omega) dX5_place_96 ?_
                  refine lv_aload_n hx hb dX5_place_97 rfl (lv_at hl 2 rfl) ?_
                  refine g_get hx hb hX hts (fun w h => (List.mem_cons_of_mem _ (List.mem_append_right _ h))) hown m0 rfl 4 (by decide) (hts (.fieldLink RX5 16 "TuneCatalogueModel" "sizes" "[I") (List.mem_cons_of_mem _ (List.mem_append_left _ (List.mem_append_left _ (List.mem_of_getElem? (i := 0) rfl))))) rfl dX5_place_98 ?_
                  refine lv_iload hx hb dX5_place_101 (lv_at hl 0 rfl) ?_
                  refine lv_bipush (v := zI 24) hx hb dX5_place_103 (by decide +kernel) ?_
                  refine gz_idiv hx hb g 24 (by omega) (by omega) (by omega) (by omega) dX5_place_105 ?_
                  refine gz_iald hx hb hX m3 (g / 24) (by omega) (by omega) (by omega) dX5_place_106 ?_
                  refine gz_icmp_ge (tgt := 132) hx hb ⟨by omega, by omega⟩ ⟨by omega, by omega⟩ dX5_place_107 (by decide) (fun c_107 => ?_) (fun c_107 => ?_)
                  · refine lv_iconst (v := zI 0) hx hb dX5_place_132 rfl ?_
                    refine gz_isub hx hb dX5_place_133 ?_
                    obtain ⟨hx2, hx3⟩ : x - 0 = (p0 : Int) - (ctB (pB S st0) (g + 1) : Nat) ∧ ctB (pB S st0) (g + 1) ≤ p0 := by
                      rw [hcu]
                      first
                      | (rw [show pB S st0 g = true from by unfold pB; rw [decide_eq_true (show g % 24 < stn S (g / 24) by omega)]; cases e : pcd S st0 (g / 24) (g % 24) && !srt S (g / 24); rw [e] at c_125; exact absurd rfl c_125; simpa using e, if_pos rfl]; exact ⟨by omega, by omega⟩)
                      | (rw [show pB S st0 g = false from by unfold pB; cases e : pcd S st0 (g / 24) (g % 24) && !srt S (g / 24); rw [Bool.and_assoc, e, Bool.and_false]; rw [e] at c_125; exact absurd c_125 (by decide), if_neg (by decide)]; exact ⟨by omega, by omega⟩)
                      | (rw [show pB S st0 g = false from by unfold pB; rw [decide_eq_false (show ¬ g % 24 < stn S (g / 24) by omega)]; rfl, if_neg (by decide)]; exact ⟨by omega, by omega⟩)
                    refine lv_istore (lv' := [(4, .int (zI (x - 0))), (5, .int (zI y)), (0, .ref (B 0)), (1, .int (zI zs)), (2, .int (zI zp))]) hx hb dX5_place_134 hl (by decide) rfl (fun ls hl => ?_)
                    refine lv_iinc (v := zI (y + 1)) (lv' := [(5, .int (zI (y + 1))), (4, .int (zI (x - 0))), (0, .ref (B 0)), (1, .int (zI zs)), (2, .int (zI zp))]) hx hb dX5_place_136 hl (k := 1) rfl (zI_add _ _) (by decide) rfl (fun ls hl => ?_)
                    refine lv_goto (tgt := 49) hx hb dX5_place_139 (by decide) ?_
                    exact ih_49 (y + 1) (g + 1) (x - 0) _ (by omega) (by omega) (by omega) hx3 hx2 hS ls (lv_sub hl [0, 1, 2, 3, 4] rfl)
                  · refine lv_aload_n hx hb dX5_place_110 rfl (lv_at hl 2 rfl) ?_
                    refine lv_iload hx hb dX5_place_111 (lv_at hl 0 rfl) ?_
                    refine lv_bipush (v := zI 24) hx hb dX5_place_113 (by decide +kernel) ?_
                    refine gz_idiv hx hb g 24 (by omega) (by omega) (by omega) (by omega) dX5_place_115 ?_
                    refine lv_iload hx hb dX5_place_116 (lv_at hl 0 rfl) ?_
                    refine lv_bipush (v := zI 24) hx hb dX5_place_118 (by decide +kernel) ?_
                    refine gz_irem hx hb g 24 (by omega) (by omega) (by omega) (by omega) dX5_place_120 ?_
                    refine lv_iload_n hx hb dX5_place_121 rfl (lv_at hl 3 rfl) ?_
                    refine g_goi (vx_runV (As := [.int (zI ((g / 24 : Nat) : Int)), .int (zI ((g % 24 : Nat) : Int)), .int (zI zs)]) (rest := [.int (zI x)]) ⟨hx, hb, hml, hown, hts⟩ (m_isRun l G B S 0 ct H_35 hM hI ((g / 24 : Nat) : Int) ((g % 24 : Nat) : Int) zs (g / 24) (g % 24) st0 (by omega) (by omega) hzs (by omega) (by omega) h14 hst) (cwV 3 hts gX5_place_X5_isRun rfl rfl rfl hd_X5_isRun ⟨(Nat.le_of_ble_eq_true rfl), (Nat.le_of_ble_eq_true rfl)⟩) (g_preV hX hS (ci := 5) rfl m0) rfl rfl hl.1 rfl (lv_room (Nat.le_of_ble_eq_true rfl)) dX5_place_122 ⟨(Nat.le_of_ble_eq_true rfl), (Nat.le_of_ble_eq_true rfl)⟩) hS (fun r_122 H_122 locs hp hS => ?_)
                    obtain ⟨rfl, rfl⟩ := hp
                    refine gz_if_eq (tgt := 132) hx hb (by cases (pcd S st0 (g / 24) (g % 24) && !srt S (g / 24)) <;> decide) dX5_place_125 (by decide) (fun c_125 => ?_) (fun c_125 => ?_)
                    · refine lv_iconst (v := zI 0) hx hb dX5_place_132 rfl ?_
                      refine gz_isub hx hb dX5_place_133 ?_
                      obtain ⟨hx2, hx3⟩ : x - 0 = (p0 : Int) - (ctB (pB S st0) (g + 1) : Nat) ∧ ctB (pB S st0) (g + 1) ≤ p0 := by
                        rw [hcu]
                        first
                        | (rw [show pB S st0 g = true from by unfold pB; rw [decide_eq_true (show g % 24 < stn S (g / 24) by omega)]; cases e : pcd S st0 (g / 24) (g % 24) && !srt S (g / 24); rw [e] at c_125; exact absurd rfl c_125; simpa using e, if_pos rfl]; exact ⟨by omega, by omega⟩)
                        | (rw [show pB S st0 g = false from by unfold pB; cases e : pcd S st0 (g / 24) (g % 24) && !srt S (g / 24); rw [Bool.and_assoc, e, Bool.and_false]; rw [e] at c_125; exact absurd c_125 (by decide), if_neg (by decide)]; exact ⟨by omega, by omega⟩)
                        | (rw [show pB S st0 g = false from by unfold pB; rw [decide_eq_false (show ¬ g % 24 < stn S (g / 24) by omega)]; rfl, if_neg (by decide)]; exact ⟨by omega, by omega⟩)
                      refine lv_istore (lv' := [(4, .int (zI (x - 0))), (5, .int (zI y)), (0, .ref (B 0)), (1, .int (zI zs)), (2, .int (zI zp))]) hx hb dX5_place_134 hl (by decide) rfl (fun ls hl => ?_)
                      refine lv_iinc (v := zI (y + 1)) (lv' := [(5, .int (zI (y + 1))), (4, .int (zI (x - 0))), (0, .ref (B 0)), (1, .int (zI zs)), (2, .int (zI zp))]) hx hb dX5_place_136 hl (k := 1) rfl (zI_add _ _) (by decide) rfl (fun ls hl => ?_)
                      refine lv_goto (tgt := 49) hx hb dX5_place_139 (by decide) ?_
                      exact ih_49 (y + 1) (g + 1) (x - 0) _ (by omega) (by omega) (by omega) hx3 hx2 hS ls (lv_sub hl [0, 1, 2, 3, 4] rfl)
                    · refine lv_iconst (v := zI 1) hx hb dX5_place_128 rfl ?_
                      refine lv_goto (tgt := 133) hx hb dX5_place_129 (by decide) ?_
                      refine gz_isub hx hb dX5_place_133 ?_
                      obtain ⟨hx2, hx3⟩ : x - 1 = (p0 : Int) - (ctB (pB S st0) (g + 1) : Nat) ∧ ctB (pB S st0) (g + 1) ≤ p0 := by
                        rw [hcu]
                        first
                        | (rw [show pB S st0 g = true from by unfold pB; rw [decide_eq_true (show g % 24 < stn S (g / 24) by omega)]; cases e : pcd S st0 (g / 24) (g % 24) && !srt S (g / 24); rw [e] at c_125; exact absurd rfl c_125; simpa using e, if_pos rfl]; exact ⟨by omega, by omega⟩)
                        | (rw [show pB S st0 g = false from by unfold pB; cases e : pcd S st0 (g / 24) (g % 24) && !srt S (g / 24); rw [Bool.and_assoc, e, Bool.and_false]; rw [e] at c_125; exact absurd c_125 (by decide), if_neg (by decide)]; exact ⟨by omega, by omega⟩)
                        | (rw [show pB S st0 g = false from by unfold pB; rw [decide_eq_false (show ¬ g % 24 < stn S (g / 24) by omega)]; rfl, if_neg (by decide)]; exact ⟨by omega, by omega⟩)
                      refine lv_istore (lv' := [(4, .int (zI (x - 1))), (5, .int (zI y)), (0, .ref (B 0)), (1, .int (zI zs)), (2, .int (zI zp))]) hx hb dX5_place_134 hl (by decide) rfl (fun ls hl => ?_)
                      refine lv_iinc (v := zI (y + 1)) (lv' := [(5, .int (zI (y + 1))), (4, .int (zI (x - 1))), (0, .ref (B 0)), (1, .int (zI zs)), (2, .int (zI zp))]) hx hb dX5_place_136 hl (k := 1) rfl (zI_add _ _) (by decide) rfl (fun ls hl => ?_)
                      refine lv_goto (tgt := 49) hx hb dX5_place_139 (by decide) ?_
                      exact ih_49 (y + 1) (g + 1) (x - 1) _ (by omega) (by omega) (by omega) hx3 hx2 hS ls (lv_sub hl [0, 1, 2, 3, 4] rfl)
        exact loop_49 _ 0 0 zp _ (Nat.lt_succ_self _) rfl (Nat.zero_le _) (Nat.zero_le _) (by rw [hzp, ctB]; omega) hS ls (lv_sub hl [0, 1, 3, 4, 5] rfl)
      · omega
  · omega
set_option maxHeartbeats 4000000 in
set_option maxRecDepth 100000 in
theorem m_place_e1 (l : Launch) (G : gG) (B : Nat → Nat) (S : cS) (th : Int) (ct : Nat → Int32) (H : Heap) (hM : Mod G B S th ct H) (hI : sInv S) (zs : Int) (hz : rI zs) (hno : ¬ (1 ≤ zs ∧ zs ≤ 4)) (zp : Int)  : gM l yX5_place wsX5_place rm_X5_place [.ref (B 0), .int (zI zs), .int (zI zp)] G H (gi (fun r H1 => zI 0 = r ∧ MP G B S 1 H H1)) (gNo) 0 0 := by
  obtain ⟨m0, m1, m2, m3, m4, m5, m6, m7, hB, gBs⟩ := id hM
  have hn16 : sn S ≤ 16 := hI.1
  have gB0 := gBs 0 (by omega)
  have gB1 := gBs 1 (by omega)
  have gB2 := gBs 2 (by omega)
  have gB3 := gBs 3 (by omega)
  have gB4 := gBs 4 (by omega)
  have gB5 := gBs 5 (by omega)
  have gB6 := gBs 6 (by omega)
  have gB7 := gBs 7 (by omega)
  have hK : gKp (oB B) H H := gKp.rf _ _
  refine g_start (cc := cX5_place) (maxL := 6) (ret := (some .int)) (by decide +kernel) rfl (Nat.le_of_ble_eq_true rfl) ?_
  intro p e s m args below meth c F ls hl
  obtain ⟨hx, hb, hml, hr, hts, hown, hlocks, hxt, hH, hX, hin⟩ := F
  have hown : s.vm.findClass RX5 = some m.cls := hown
  have hS : va_S (gA G) s.heap H [] := by rw [hH]; exact va_S.rf
  have hl : lv_has ls 6 [(0, .ref (B 0)), (1, .int (zI zs)), (2, .int (zI zp))] := hl
  refine lv_aload_n hx hb dX5_place_0 rfl (lv_at hl 0 rfl) ?_
  refine lv_iload_n hx hb dX5_place_1 rfl (lv_at hl 1 rfl) ?_
  refine g_goi (vx_runV (As := [.int (zI zs)]) (rest := []) ⟨hx, hb, hml, hown, hts⟩ (m_err_1 l G B S th ct H hM hI zs hz hno ) (cwV 1 hts gX5_place_X5_errorOfRun rfl rfl rfl hd_X5_errorOfRun ⟨(Nat.le_of_ble_eq_true rfl), (Nat.le_of_ble_eq_true rfl)⟩) (g_preV hX hS (ci := 5) rfl m0) rfl rfl hl.1 rfl (lv_room (Nat.le_of_ble_eq_true rfl)) dX5_place_2 ⟨(Nat.le_of_ble_eq_true rfl), (Nat.le_of_ble_eq_true rfl)⟩) hS (fun r_2 H_2 locs hp hS => ?_)
  obtain ⟨rfl, rfl⟩ := hp
  refine lv_istore_n (lv' := [(3, .int (zI 1)), (0, .ref (B 0)), (1, .int (zI zs)), (2, .int (zI zp))]) hx hb dX5_place_5 rfl hl (by decide) rfl (fun ls hl => ?_)
  refine lv_aload_n hx hb dX5_place_6 rfl (lv_at hl 1 rfl) ?_
  refine lv_iload_n hx hb dX5_place_7 rfl (lv_at hl 0 rfl) ?_
  refine gz_if_le (tgt := 15) hx hb (by decide) dX5_place_8 (by decide) (fun c_8 => ?_) (fun c_8 => ?_)
  · omega
  · refine lv_iload_n hx hb dX5_place_11 rfl (lv_at hl 0 rfl) ?_
    refine lv_goto (tgt := 35) hx hb dX5_place_12 (by decide) ?_
    refine g_goi (vx_runV (As := [.int (zI 1)]) (rest := []) ⟨hx, hb, hml, hown, hts⟩ (m_holds_k l G B S th ct H hM hI 1 (by decide) (by decide)) (cwV 1 hts gX5_place_X5_holds rfl rfl rfl hd_X5_holds ⟨(Nat.le_of_ble_eq_true rfl), (Nat.le_of_ble_eq_true rfl)⟩) (g_preV hX hS (ci := 5) rfl m0) rfl rfl hl.1 rfl (lv_room (Nat.le_of_ble_eq_true rfl)) dX5_place_35 ⟨(Nat.le_of_ble_eq_true rfl), (Nat.le_of_ble_eq_true rfl)⟩) hS (fun r_35 H_35 locs hp hS => ?_)
    obtain ⟨rfl, hM, hOh⟩ := hp
    obtain ⟨m0, m1, m2, m3, m4, m5, m6, m7, hB, gBs⟩ := id hM
    have hK := hK.trans (hOh.kp1 (oB.k (k := 0) (by omega)))
    refine gz_if_ne (tgt := 43) hx hb (by decide) dX5_place_38 (by decide) (fun c_38 => ?_) (fun c_38 => ?_)
    · omega
    · refine lv_iconst (v := zI 0) hx hb dX5_place_41 rfl ?_
      exact g_reti hx hb hr hlocks hS rfl (⟨rfl, ⟨ct, ⟨m0, m1, m2, m3, m4, m5, m6, m7, hB, gBs⟩⟩, hK⟩) (Nat.le_of_ble_eq_true rfl) (Nat.le_of_ble_eq_true rfl) dX5_place_42
set_option maxHeartbeats 4000000 in
set_option maxRecDepth 100000 in
theorem m_place_e2 (l : Launch) (G : gG) (B : Nat → Nat) (S : cS) (th : Int) (ct : Nat → Int32) (H : Heap) (hM : Mod G B S th ct H) (hI : sInv S) (zs : Int) (hz : rI zs) (h14 : 1 ≤ zs ∧ zs ≤ 4) (hno : ¬ zs ≤ (shn S : Int) - 1) (zp : Int)  : gM l yX5_place wsX5_place rm_X5_place [.ref (B 0), .int (zI zs), .int (zI zp)] G H (gi (fun r H1 => zI 0 = r ∧ MP G B S 2 H H1)) (gNo) 0 0 := by
  obtain ⟨m0, m1, m2, m3, m4, m5, m6, m7, hB, gBs⟩ := id hM
  have hn16 : sn S ≤ 16 := hI.1
  have gB0 := gBs 0 (by omega)
  have gB1 := gBs 1 (by omega)
  have gB2 := gBs 2 (by omega)
  have gB3 := gBs 3 (by omega)
  have gB4 := gBs 4 (by omega)
  have gB5 := gBs 5 (by omega)
  have gB6 := gBs 6 (by omega)
  have gB7 := gBs 7 (by omega)
  have hK : gKp (oB B) H H := gKp.rf _ _
  refine g_start (cc := cX5_place) (maxL := 6) (ret := (some .int)) (by decide +kernel) rfl (Nat.le_of_ble_eq_true rfl) ?_
  intro p e s m args below meth c F ls hl
  obtain ⟨hx, hb, hml, hr, hts, hown, hlocks, hxt, hH, hX, hin⟩ := F
  have hown : s.vm.findClass RX5 = some m.cls := hown
  have hS : va_S (gA G) s.heap H [] := by rw [hH]; exact va_S.rf
  have hl : lv_has ls 6 [(0, .ref (B 0)), (1, .int (zI zs)), (2, .int (zI zp))] := hl
  refine lv_aload_n hx hb dX5_place_0 rfl (lv_at hl 0 rfl) ?_
  refine lv_iload_n hx hb dX5_place_1 rfl (lv_at hl 1 rfl) ?_
  refine g_goi (vx_runV (As := [.int (zI zs)]) (rest := []) ⟨hx, hb, hml, hown, hts⟩ (m_err_2 l G B S th ct H hM hI zs hz h14 hno ) (cwV 1 hts gX5_place_X5_errorOfRun rfl rfl rfl hd_X5_errorOfRun ⟨(Nat.le_of_ble_eq_true rfl), (Nat.le_of_ble_eq_true rfl)⟩) (g_preV hX hS (ci := 5) rfl m0) rfl rfl hl.1 rfl (lv_room (Nat.le_of_ble_eq_true rfl)) dX5_place_2 ⟨(Nat.le_of_ble_eq_true rfl), (Nat.le_of_ble_eq_true rfl)⟩) hS (fun r_2 H_2 locs hp hS => ?_)
  obtain ⟨rfl, rfl⟩ := hp
  refine lv_istore_n (lv' := [(3, .int (zI 2)), (0, .ref (B 0)), (1, .int (zI zs)), (2, .int (zI zp))]) hx hb dX5_place_5 rfl hl (by decide) rfl (fun ls hl => ?_)
  refine lv_aload_n hx hb dX5_place_6 rfl (lv_at hl 1 rfl) ?_
  refine lv_iload_n hx hb dX5_place_7 rfl (lv_at hl 0 rfl) ?_
  refine gz_if_le (tgt := 15) hx hb (by decide) dX5_place_8 (by decide) (fun c_8 => ?_) (fun c_8 => ?_)
  · omega
  · refine lv_iload_n hx hb dX5_place_11 rfl (lv_at hl 0 rfl) ?_
    refine lv_goto (tgt := 35) hx hb dX5_place_12 (by decide) ?_
    refine g_goi (vx_runV (As := [.int (zI 2)]) (rest := []) ⟨hx, hb, hml, hown, hts⟩ (m_holds_k l G B S th ct H hM hI 2 (by decide) (by decide)) (cwV 1 hts gX5_place_X5_holds rfl rfl rfl hd_X5_holds ⟨(Nat.le_of_ble_eq_true rfl), (Nat.le_of_ble_eq_true rfl)⟩) (g_preV hX hS (ci := 5) rfl m0) rfl rfl hl.1 rfl (lv_room (Nat.le_of_ble_eq_true rfl)) dX5_place_35 ⟨(Nat.le_of_ble_eq_true rfl), (Nat.le_of_ble_eq_true rfl)⟩) hS (fun r_35 H_35 locs hp hS => ?_)
    obtain ⟨rfl, hM, hOh⟩ := hp
    obtain ⟨m0, m1, m2, m3, m4, m5, m6, m7, hB, gBs⟩ := id hM
    have hK := hK.trans (hOh.kp1 (oB.k (k := 0) (by omega)))
    refine gz_if_ne (tgt := 43) hx hb (by decide) dX5_place_38 (by decide) (fun c_38 => ?_) (fun c_38 => ?_)
    · omega
    · refine lv_iconst (v := zI 0) hx hb dX5_place_41 rfl ?_
      exact g_reti hx hb hr hlocks hS rfl (⟨rfl, ⟨ct, ⟨m0, m1, m2, m3, m4, m5, m6, m7, hB, gBs⟩⟩, hK⟩) (Nat.le_of_ble_eq_true rfl) (Nat.le_of_ble_eq_true rfl) dX5_place_42
set_option maxHeartbeats 4000000 in
set_option maxRecDepth 100000 in
theorem m_place_e3 (l : Launch) (G : gG) (B : Nat → Nat) (S : cS) (th : Int) (ct : Nat → Int32) (H : Heap) (hM : Mod G B S th ct H) (hI : sInv S) (zs : Int) (st0 : Nat) (hzs : zs = st0) (h14 : 1 ≤ st0 ∧ st0 ≤ 4) (hst : st0 + 1 ≤ shn S) (zp : Int) (hzp : rI zp) (hno : ¬ (0 ≤ zp ∧ zp < (plA S st0 (sn S)).length)) : gM l yX5_place wsX5_place rm_X5_place [.ref (B 0), .int (zI zs), .int (zI zp)] G H (gi (fun r H1 => zI 0 = r ∧ MP G B S 3 H H1)) (gNo) 0 0 := by
  obtain ⟨m0, m1, m2, m3, m4, m5, m6, m7, hB, gBs⟩ := id hM
  have hn16 : sn S ≤ 16 := hI.1
  have gB0 := gBs 0 (by omega)
  have gB1 := gBs 1 (by omega)
  have gB2 := gBs 2 (by omega)
  have gB3 := gBs 3 (by omega)
  have gB4 := gBs 4 (by omega)
  have gB5 := gBs 5 (by omega)
  have gB6 := gBs 6 (by omega)
  have gB7 := gBs 7 (by omega)
  have hK : gKp (oB B) H H := gKp.rf _ _
  rw [← ctB_pl hI] at hno
  have hct0 := ctB_le (pB S st0) (24 * sn S)
  have hzr : rI zs := ⟨by omega, by omega⟩
  refine g_start (cc := cX5_place) (maxL := 6) (ret := (some .int)) (by decide +kernel) rfl (Nat.le_of_ble_eq_true rfl) ?_
  intro p e s m args below meth c F ls hl
  obtain ⟨hx, hb, hml, hr, hts, hown, hlocks, hxt, hH, hX, hin⟩ := F
  have hown : s.vm.findClass RX5 = some m.cls := hown
  have hS : va_S (gA G) s.heap H [] := by rw [hH]; exact va_S.rf
  have hl : lv_has ls 6 [(0, .ref (B 0)), (1, .int (zI zs)), (2, .int (zI zp))] := hl
  refine lv_aload_n hx hb dX5_place_0 rfl (lv_at hl 0 rfl) ?_
  refine lv_iload_n hx hb dX5_place_1 rfl (lv_at hl 1 rfl) ?_
  refine g_goi (vx_runV (As := [.int (zI zs)]) (rest := []) ⟨hx, hb, hml, hown, hts⟩ (m_err_0 l G B S th ct H hM hI zs (by first | assumption | exact ⟨by omega, by omega⟩) (by omega) (by omega) ) (cwV 1 hts gX5_place_X5_errorOfRun rfl rfl rfl hd_X5_errorOfRun ⟨(Nat.le_of_ble_eq_true rfl), (Nat.le_of_ble_eq_true rfl)⟩) (g_preV hX hS (ci := 5) rfl m0) rfl rfl hl.1 rfl (lv_room (Nat.le_of_ble_eq_true rfl)) dX5_place_2 ⟨(Nat.le_of_ble_eq_true rfl), (Nat.le_of_ble_eq_true rfl)⟩) hS (fun r_2 H_2 locs hp hS => ?_)
  obtain ⟨rfl, rfl⟩ := hp
  refine lv_istore_n (lv' := [(3, .int (zI 0)), (0, .ref (B 0)), (1, .int (zI zs)), (2, .int (zI zp))]) hx hb dX5_place_5 rfl hl (by decide) rfl (fun ls hl => ?_)
  refine lv_aload_n hx hb dX5_place_6 rfl (lv_at hl 1 rfl) ?_
  refine lv_iload_n hx hb dX5_place_7 rfl (lv_at hl 0 rfl) ?_
  refine gz_if_le (tgt := 15) hx hb (by decide) dX5_place_8 (by decide) (fun c_8 => ?_) (fun c_8 => ?_)
  · refine lv_iload_n hx hb dX5_place_15 rfl (lv_at hl 3 rfl) ?_
    refine lv_iconst (v := zI 0) hx hb dX5_place_16 rfl ?_
    refine lv_aload_n hx hb dX5_place_17 rfl (lv_at hl 1 rfl) ?_
    refine lv_iload_n hx hb dX5_place_18 rfl (lv_at hl 2 rfl) ?_
    refine g_goi (vx_runV (As := [.int (zI zs)]) (rest := [.int (zI 0), .int (zI zp), .ref (B 0)]) ⟨hx, hb, hml, hown, hts⟩ (m_placesOf l G B S th ct H hM hI zs st0 hzs h14 hst) (cwV 1 hts gX5_place_X5_placesOf rfl rfl rfl hd_X5_placesOf ⟨(Nat.le_of_ble_eq_true rfl), (Nat.le_of_ble_eq_true rfl)⟩) (g_preV hX hS (ci := 5) rfl m0) rfl rfl hl.1 rfl (lv_room (Nat.le_of_ble_eq_true rfl)) dX5_place_19 ⟨(Nat.le_of_ble_eq_true rfl), (Nat.le_of_ble_eq_true rfl)⟩) hS (fun r_19 H_19 locs hp hS => ?_)
    obtain ⟨rfl, rfl⟩ := hp
    refine lv_iconst (v := zI 1) hx hb dX5_place_22 rfl ?_
    refine gz_isub hx hb dX5_place_23 ?_
    refine g_goi (vx_runS (As := [.int (zI zp), .int (zI 0), .int (zI (((ctB (pB S st0) (24 * sn S) : Nat) : Int) - 1))]) (rest := [.ref (B 0)]) ⟨hx, hb, hml, hown, hts⟩ (m_in_f l G H zp 0 (((ctB (pB S st0) (24 * sn S) : Nat) : Int) - 1) (by first | assumption | exact ⟨by omega, by omega⟩) ⟨by omega, by omega⟩ ⟨by omega, by omega⟩ (by omega)) (va_cwS 3 hts gX5_place_X5_in rfl rfl rfl hd_X5_in.2 ⟨(Nat.le_of_ble_eq_true rfl), (Nat.le_of_ble_eq_true rfl)⟩) (g_pre hX hS) rfl rfl hl.1 rfl (lv_room (Nat.le_of_ble_eq_true rfl)) dX5_place_24 ⟨(Nat.le_of_ble_eq_true rfl), (Nat.le_of_ble_eq_true rfl)⟩) hS (fun r_24 H_24 locs hp hS => ?_)
    obtain ⟨rfl, rfl⟩ := hp
    refine gz_if_eq (tgt := 34) hx hb (by decide) dX5_place_27 (by decide) (fun c_27 => ?_) (fun c_27 => ?_)
    · refine lv_iconst (v := zI 3) hx hb dX5_place_34 rfl ?_
      refine g_goi (vx_runV (As := [.int (zI 3)]) (rest := []) ⟨hx, hb, hml, hown, hts⟩ (m_holds_k l G B S th ct H hM hI 3 (by decide) (by decide)) (cwV 1 hts gX5_place_X5_holds rfl rfl rfl hd_X5_holds ⟨(Nat.le_of_ble_eq_true rfl), (Nat.le_of_ble_eq_true rfl)⟩) (g_preV hX hS (ci := 5) rfl m0) rfl rfl hl.1 rfl (lv_room (Nat.le_of_ble_eq_true rfl)) dX5_place_35 ⟨(Nat.le_of_ble_eq_true rfl), (Nat.le_of_ble_eq_true rfl)⟩) hS (fun r_35 H_35 locs hp hS => ?_)
      obtain ⟨rfl, hM, hOh⟩ := hp
      obtain ⟨m0, m1, m2, m3, m4, m5, m6, m7, hB, gBs⟩ := id hM
      have hK := hK.trans (hOh.kp1 (oB.k (k := 0) (by omega)))
      refine gz_if_ne (tgt := 43) hx hb (by decide) dX5_place_38 (by decide) (fun c_38 => ?_) (fun c_38 => ?_)
      · omega
      · refine lv_iconst (v := zI 0) hx hb dX5_place_41 rfl ?_
        exact g_reti hx hb hr hlocks hS rfl (⟨rfl, ⟨ct, ⟨m0, m1, m2, m3, m4, m5, m6, m7, hB, gBs⟩⟩, hK⟩) (Nat.le_of_ble_eq_true rfl) (Nat.le_of_ble_eq_true rfl) dX5_place_42
    · omega
  · omega
set_option maxHeartbeats 4000000 in
set_option maxRecDepth 100000 in
theorem m_areLinked_t (l : Launch) (G : gG) (B : Nat → Nat) (S : cS) (th : Int) (ct : Nat → Int32) (H : Heap) (hM : Mod G B S th ct H) (hI : sInv S) (z1 z2 : Int) (i j : Nat) (hz1 : z1 = i) (hi : i < sn S) (hz2 : z2 = j) (hj : j < sn S) (htb : (slk S i).testBit j = true) : gM l yX5_areLinked wsX5_areLinked rm_X5_areLinked [.ref (B 0), .int (zI z1), .int (zI z2)] G H (gi (fun r H1 => zI 1 = r ∧ H = H1)) (gNo) 0 0 := by
  obtain ⟨m0, m1, m2, m3, m4, m5, m6, m7, hB, gBs⟩ := id hM
  have hn16 : sn S ≤ 16 := hI.1
  have gB0 := gBs 0 (by omega)
  have gB1 := gBs 1 (by omega)
  have gB2 := gBs 2 (by omega)
  have gB3 := gBs 3 (by omega)
  have gB4 := gBs 4 (by omega)
  have gB5 := gBs 5 (by omega)
  have gB6 := gBs 6 (by omega)
  have gB7 := gBs 7 (by omega)
  have hs16 := slk_lt hI i
  refine g_start (cc := cX5_areLinked) (maxL := 3) (ret := (some .boolean)) (by decide +kernel) rfl (Nat.le_of_ble_eq_true rfl) ?_
  intro p e s m args below meth c F ls hl
  obtain ⟨hx, hb, hml, hr, hts, hown, hlocks, hxt, hH, hX, hin⟩ := F
  have hown : s.vm.findClass RX5 = some m.cls := hown
  have hS : va_S (gA G) s.heap H [] := by rw [hH]; exact va_S.rf
  have hl : lv_has ls 3 [(0, .ref (B 0)), (1, .int (zI z1)), (2, .int (zI z2))] := hl
  refine lv_aload_n hx hb dX5_areLinked_0 rfl (lv_at hl 0 rfl) ?_
  refine g_get hx hb hX hts (fun w h => (List.mem_cons_of_mem _ (List.mem_append_right _ h))) hown m0 rfl 12 (by decide) (hts (.fieldLink RX5 39 "TuneCatalogueModel" "links" "[I") (List.mem_cons_of_mem _ (List.mem_append_left _ (List.mem_of_getElem? (i := 0) rfl)))) rfl dX5_areLinked_1 ?_
  refine lv_iload_n hx hb dX5_areLinked_4 rfl (lv_at hl 1 rfl) ?_
  refine gz_iald hx hb hX m7 i (by omega) (by omega) (by omega) dX5_areLinked_5 ?_
  refine lv_iload_n hx hb dX5_areLinked_6 rfl (lv_at hl 2 rfl) ?_
  refine gz_ishr hx hb (slk S i) j (by omega) (by omega) (by omega) (by omega) dX5_areLinked_7 ?_
  refine lv_iconst (v := zI 1) hx hb dX5_areLinked_8 rfl ?_
  refine gz_iand hx hb ((slk S i) / 2 ^ j) 1 (by omega) (by omega) dX5_areLinked_9 ?_
  rw [show slk S i / 2 ^ j &&& 1 = 1 by rw [tb_and, htb]; rfl]
  refine lv_iconst (v := zI 1) hx hb dX5_areLinked_10 rfl ?_
  refine gz_icmp_ne (tgt := 18) hx hb ⟨by omega, by omega⟩ (by decide) dX5_areLinked_11 (by decide) (fun c_11 => ?_) (fun c_11 => ?_)
  · omega
  · refine lv_iconst (v := zI 1) hx hb dX5_areLinked_14 rfl ?_
    refine lv_goto (tgt := 19) hx hb dX5_areLinked_15 (by decide) ?_
    exact g_reti hx hb hr hlocks hS rfl (⟨rfl, rfl⟩) (Nat.le_of_ble_eq_true rfl) (Nat.le_of_ble_eq_true rfl) dX5_areLinked_19
set_option maxHeartbeats 4000000 in
set_option maxRecDepth 100000 in
theorem m_areLinked_f (l : Launch) (G : gG) (B : Nat → Nat) (S : cS) (th : Int) (ct : Nat → Int32) (H : Heap) (hM : Mod G B S th ct H) (hI : sInv S) (z1 z2 : Int) (i j : Nat) (hz1 : z1 = i) (hi : i < sn S) (hz2 : z2 = j) (hj : j < sn S) (htb : (slk S i).testBit j = false) : gM l yX5_areLinked wsX5_areLinked rm_X5_areLinked [.ref (B 0), .int (zI z1), .int (zI z2)] G H (gi (fun r H1 => zI 0 = r ∧ H = H1)) (gNo) 0 0 := by
  obtain ⟨m0, m1, m2, m3, m4, m5, m6, m7, hB, gBs⟩ := id hM
  have hn16 : sn S ≤ 16 := hI.1
  have gB0 := gBs 0 (by omega)
  have gB1 := gBs 1 (by omega)
  have gB2 := gBs 2 (by omega)
  have gB3 := gBs 3 (by omega)
  have gB4 := gBs 4 (by omega)
  have gB5 := gBs 5 (by omega)
  have gB6 := gBs 6 (by omega)
  have gB7 := gBs 7 (by omega)
  have hs16 := slk_lt hI i
  refine g_start (cc := cX5_areLinked) (maxL := 3) (ret := (some .boolean)) (by decide +kernel) rfl (Nat.le_of_ble_eq_true rfl) ?_
  intro p e s m args below meth c F ls hl
  obtain ⟨hx, hb, hml, hr, hts, hown, hlocks, hxt, hH, hX, hin⟩ := F
  have hown : s.vm.findClass RX5 = some m.cls := hown
  have hS : va_S (gA G) s.heap H [] := by rw [hH]; exact va_S.rf
  have hl : lv_has ls 3 [(0, .ref (B 0)), (1, .int (zI z1)), (2, .int (zI z2))] := hl
  refine lv_aload_n hx hb dX5_areLinked_0 rfl (lv_at hl 0 rfl) ?_
  refine g_get hx hb hX hts (fun w h => (List.mem_cons_of_mem _ (List.mem_append_right _ h))) hown m0 rfl 12 (by decide) (hts (.fieldLink RX5 39 "TuneCatalogueModel" "links" "[I") (List.mem_cons_of_mem _ (List.mem_append_left _ (List.mem_of_getElem? (i := 0) rfl)))) rfl dX5_areLinked_1 ?_
  refine lv_iload_n hx hb dX5_areLinked_4 rfl (lv_at hl 1 rfl) ?_
  refine gz_iald hx hb hX m7 i (by omega) (by omega) (by omega) dX5_areLinked_5 ?_
  refine lv_iload_n hx hb dX5_areLinked_6 rfl (lv_at hl 2 rfl) ?_
  refine gz_ishr hx hb (slk S i) j (by omega) (by omega) (by omega) (by omega) dX5_areLinked_7 ?_
  refine lv_iconst (v := zI 1) hx hb dX5_areLinked_8 rfl ?_
  refine gz_iand hx hb ((slk S i) / 2 ^ j) 1 (by omega) (by omega) dX5_areLinked_9 ?_
  rw [show slk S i / 2 ^ j &&& 1 = 0 by rw [tb_and, htb]; rfl]
  refine lv_iconst (v := zI 1) hx hb dX5_areLinked_10 rfl ?_
  refine gz_icmp_ne (tgt := 18) hx hb ⟨by omega, by omega⟩ (by decide) dX5_areLinked_11 (by decide) (fun c_11 => ?_) (fun c_11 => ?_)
  · refine lv_iconst (v := zI 0) hx hb dX5_areLinked_18 rfl ?_
    exact g_reti hx hb hr hlocks hS rfl (⟨rfl, rfl⟩) (Nat.le_of_ble_eq_true rfl) (Nat.le_of_ble_eq_true rfl) dX5_areLinked_19
  · omega
set_option maxHeartbeats 4000000 in
set_option maxRecDepth 100000 in
theorem m_familyOf (l : Launch) (G : gG) (B : Nat → Nat) (S : cS) (th : Int) (ct : Nat → Int32) (H : Heap) (hM : Mod G B S th ct H) (hI : sInv S) (z : Int) (i : Nat) (hz : z = i) (hi : i < sn S)  : gM l yX5_familyOf wsX5_familyOf rm_X5_familyOf [.ref (B 0), .int (zI z)] G H (gi (fun r H1 => zI (itW (slk S) (sn S) (sn S - 1) (2 ^ i) : Nat) = r ∧ H = H1)) (gNo) 0 0 := by
  obtain ⟨m0, m1, m2, m3, m4, m5, m6, m7, hB, gBs⟩ := id hM
  have hn16 : sn S ≤ 16 := hI.1
  have gB0 := gBs 0 (by omega)
  have gB1 := gBs 1 (by omega)
  have gB2 := gBs 2 (by omega)
  have gB3 := gBs 3 (by omega)
  have gB4 := gBs 4 (by omega)
  have gB5 := gBs 5 (by omega)
  have gB6 := gBs 6 (by omega)
  have gB7 := gBs 7 (by omega)
  have hlk := slk_lt hI
  have h2i : 2 ^ i < 65536 := p2_lt (by omega)
  refine g_start (cc := cX5_familyOf) (maxL := 5) (ret := (some .int)) (by decide +kernel) rfl (Nat.le_of_ble_eq_true rfl) ?_
  intro p e s m args below meth c F ls hl
  obtain ⟨hx, hb, hml, hr, hts, hown, hlocks, hxt, hH, hX, hin⟩ := F
  have hown : s.vm.findClass RX5 = some m.cls := hown
  have hS : va_S (gA G) s.heap H [] := by rw [hH]; exact va_S.rf
  have hl : lv_has ls 5 [(0, .ref (B 0)), (1, .int (zI z))] := hl
  refine lv_iconst (v := zI 1) hx hb dX5_familyOf_0 rfl ?_
  refine lv_iload_n hx hb dX5_familyOf_1 rfl (lv_at hl 1 rfl) ?_
  refine gz_ishl hx hb i rfl (by omega) (by omega) dX5_familyOf_2 ?_
  refine lv_istore_n (lv' := [(2, .int (zI ((2 ^ i : Nat) : Int))), (0, .ref (B 0)), (1, .int (zI z))]) hx hb dX5_familyOf_3 rfl hl (by decide) rfl (fun ls hl => ?_)
  refine lv_iconst (v := zI 0) hx hb dX5_familyOf_4 rfl ?_
  refine lv_istore_n (lv' := [(3, .int (zI 0)), (2, .int (zI ((2 ^ i : Nat) : Int))), (0, .ref (B 0)), (1, .int (zI z))]) hx hb dX5_familyOf_5 rfl hl (by decide) rfl (fun ls hl => ?_)
  have loop_6 : ∀ (M_ : Nat) (x : Int) (x2 : Int) (s0 : Nat) (b0 : Nat) (locs : List Loc), 131072 - (s0 + b0) < M_ → (x = s0) → (x2 = b0) → (s0.testBit i = true) → (∀ Q : Nat, Q.testBit i = true → Cls (slk S) (sn S) Q → ∀ j, s0.testBit j = true → Q.testBit j = true) → (s0 < 65536) → (b0 ≤ s0) → (b0 = s0 → Cls (slk S) (sn S) s0) → va_S (gA G) s.heap H locs → ∀ (ls : Array Slot), lv_has ls 5 [(2, .int (zI x)), (3, .int (zI x2)), (0, .ref (B 0)), (1, .int (zI z))] → W p l e rm_X5_familyOf s m args below meth c H locs (0) (0) (vx_MQ below (gQ G (gi (fun r H1 => zI (itW (slk S) (sn S) (sn S - 1) (2 ^ i) : Nat) = r ∧ H = H1))) (gXC G (gNo)) args s 0 0 (gA G)) (F0 m 6 ls []) := by
    intro M_
    induction M_ with
    | zero => intro x x2 s0 b0 locs_0 h_0; exact absurd h_0 (Nat.not_lt_zero _)
    | succ M_ ih_6 =>
      intro x x2 s0 b0 locs hM_6 hx1 hx2 hs1 hs2 hs3 hb1 hb2 hS ls hl
      refine lv_iload_n hx hb dX5_familyOf_6 rfl (lv_at hl 0 rfl) ?_
      refine lv_iload_n hx hb dX5_familyOf_7 rfl (lv_at hl 1 rfl) ?_
      refine gz_icmp_eq (tgt := 58) hx hb ⟨by omega, by omega⟩ ⟨by omega, by omega⟩ dX5_familyOf_8 (by decide) (fun c_8 => ?_) (fun c_8 => ?_)
      · refine lv_iload_n hx hb dX5_familyOf_58 rfl (lv_at hl 0 rfl) ?_
        exact g_reti hx hb hr hlocks hS rfl (⟨by rw [hx1, ← clo_one hs1 hs2 (hb2 (by omega)) (lk_ok hI) hi], rfl⟩) (Nat.le_of_ble_eq_true rfl) (Nat.le_of_ble_eq_true rfl) dX5_familyOf_59
      · refine lv_iload_n hx hb dX5_familyOf_11 rfl (lv_at hl 0 rfl) ?_
        refine lv_istore_n (lv' := [(3, .int (zI x)), (2, .int (zI x)), (0, .ref (B 0)), (1, .int (zI z))]) hx hb dX5_familyOf_12 rfl hl (by decide) rfl (fun ls hl => ?_)
        refine lv_iconst (v := zI 0) hx hb dX5_familyOf_13 rfl ?_
        refine lv_istore (lv' := [(4, .int (zI 0)), (3, .int (zI x)), (2, .int (zI x)), (0, .ref (B 0)), (1, .int (zI z))]) hx hb dX5_familyOf_14 hl (by decide) rfl (fun ls hl => ?_)
        have loop_16 : ∀ (M_ : Nat) (y : Int) (k : Nat) (x3 : Int) (locs : List Loc), sn S - k < M_ → (y = k) → (k ≤ sn S) → (x3 = (fmI (slk S) s0 k : Nat)) → va_S (gA G) s.heap H locs → ∀ (ls : Array Slot), lv_has ls 5 [(4, .int (zI y)), (2, .int (zI x3)), (3, .int (zI x)), (0, .ref (B 0)), (1, .int (zI z))] → W p l e rm_X5_familyOf s m args below meth c H locs (0) (0) (vx_MQ below (gQ G (gi (fun r H1 => zI (itW (slk S) (sn S) (sn S - 1) (2 ^ i) : Nat) = r ∧ H = H1))) (gXC G (gNo)) args s 0 0 (gA G)) (F0 m 16 ls []) := by
          intro M_
          induction M_ with
          | zero => intro y k x3 locs_0 h_0; exact absurd h_0 (Nat.not_lt_zero _)
          | succ M_ ih_16 =>
            intro y k x3 locs hM_16 hy hkn hx3 hS ls hl
            have hfl := fmI_lt hlk hs3 k
            refine lv_iload hx hb dX5_familyOf_16 (lv_at hl 0 rfl) ?_
            refine lv_aload_n hx hb dX5_familyOf_18 rfl (lv_at hl 3 rfl) ?_
            refine g_get hx hb hX hts (fun w h => (List.mem_cons_of_mem _ (List.mem_append_right _ h))) hown m0 rfl 1 (by decide) (hts (.fieldLink RX5 45 "TuneCatalogueModel" "tunes" "I") (List.mem_cons_of_mem _ (List.mem_append_left _ (List.mem_of_getElem? (i := 0) rfl)))) rfl dX5_familyOf_19 ?_
            refine gz_icmp_ge (tgt := 55) hx hb ⟨by omega, by omega⟩ ⟨by omega, by omega⟩ dX5_familyOf_22 (by decide) (fun c_22 => ?_) (fun c_22 => ?_)
            · refine lv_goto (tgt := 6) hx hb dX5_familyOf_55 (by decide) ?_
              exact ih_6 x3 x (fmI (slk S) s0 (sn S)) s0 _ (by have := fmI_le (slk S) s0 (sn S); omega) (by rw [hx3, show k = sn S by omega]) hx1 (fmI_ge _ _ _ hs1 _) (fun Q h1 h2 j h3 => fmI_min (hs2 Q h1 h2) h2 (sn S) (Nat.le_refl _) j h3) (fmI_lt hlk hs3 _) (fmI_le _ _ _) (fun h => by rw [← h]; exact fmI_fix h.symm) hS ls (lv_sub hl [1, 2, 3, 4] rfl)
            · refine lv_iload_n hx hb dX5_familyOf_25 rfl (lv_at hl 1 rfl) ?_
              refine lv_iload_n hx hb dX5_familyOf_26 rfl (lv_at hl 1 rfl) ?_
              refine lv_iload hx hb dX5_familyOf_27 (lv_at hl 0 rfl) ?_
              refine gz_ishr hx hb (fmI (slk S) s0 k) k (by omega) (by omega) (by omega) (by omega) dX5_familyOf_29 ?_
              refine lv_iconst (v := zI 1) hx hb dX5_familyOf_30 rfl ?_
              refine gz_iand hx hb (fmI (slk S) s0 k / 2 ^ k) 1 rfl rfl dX5_familyOf_31 ?_
              obtain ⟨tb, htb⟩ : ∃ y : Nat, y = fmI (slk S) s0 k / 2 ^ k &&& 1 := ⟨_, rfl⟩
              rw [← htb]
              have htb1 : tb ≤ 1 := by rw [htb]; exact Nat.and_le_right
              rw [tb_and] at htb
              refine lv_iconst (v := zI 1) hx hb dX5_familyOf_32 rfl ?_
              refine gz_icmp_ne (tgt := 46) hx hb ⟨by omega, by omega⟩ (by decide) dX5_familyOf_33 (by decide) (fun c_33 => ?_) (fun c_33 => ?_)
              · refine lv_iconst (v := zI 0) hx hb dX5_familyOf_46 rfl ?_
                refine gz_ior hx hb (fmI (slk S) s0 k) 0 (by omega) (by omega) dX5_familyOf_47 ?_
                have hx4 : (((fmI (slk S) s0 k) ||| 0 : Nat) : Int) = (fmI (slk S) s0 (k + 1) : Nat) := by
                  rw [fmI]
                  first
                  | (rw [if_pos (by cases e : (fmI (slk S) s0 k).testBit k; rw [e] at htb; exact absurd htb (by simp; omega); rfl)]; done)
                  | (rw [if_neg (by intro e; rw [e] at htb; simp at htb; omega), Nat.or_zero]; done)
                refine lv_istore_n (lv' := [(2, .int (zI (((fmI (slk S) s0 k) ||| 0 : Nat) : Int))), (4, .int (zI y)), (3, .int (zI x)), (0, .ref (B 0)), (1, .int (zI z))]) hx hb dX5_familyOf_48 rfl hl (by decide) rfl (fun ls hl => ?_)
                refine lv_iinc (v := zI (y + 1)) (lv' := [(4, .int (zI (y + 1))), (2, .int (zI (((fmI (slk S) s0 k) ||| 0 : Nat) : Int))), (3, .int (zI x)), (0, .ref (B 0)), (1, .int (zI z))]) hx hb dX5_familyOf_49 hl (k := 1) rfl (zI_add _ _) (by decide) rfl (fun ls hl => ?_)
                refine lv_goto (tgt := 16) hx hb dX5_familyOf_52 (by decide) ?_
                exact ih_16 (y + 1) (k + 1) (((fmI (slk S) s0 k) ||| 0 : Nat) : Int) _ (by omega) (by omega) (by omega) hx4 hS ls (lv_sub hl [0, 1, 2, 3, 4] rfl)
              · refine lv_aload_n hx hb dX5_familyOf_36 rfl (lv_at hl 3 rfl) ?_
                refine g_get hx hb hX hts (fun w h => (List.mem_cons_of_mem _ (List.mem_append_right _ h))) hown m0 rfl 12 (by decide) (hts (.fieldLink RX5 39 "TuneCatalogueModel" "links" "[I") (List.mem_cons_of_mem _ (List.mem_append_left _ (List.mem_of_getElem? (i := 1) rfl)))) rfl dX5_familyOf_37 ?_
                refine lv_iload hx hb dX5_familyOf_40 (lv_at hl 0 rfl) ?_
                refine gz_iald hx hb hX m7 k (by omega) (by omega) (by omega) dX5_familyOf_42 ?_
                refine lv_goto (tgt := 47) hx hb dX5_familyOf_43 (by decide) ?_
                refine gz_ior hx hb (fmI (slk S) s0 k) (slk S k) (by omega) (by omega) dX5_familyOf_47 ?_
                have hx4 : (((fmI (slk S) s0 k) ||| (slk S k) : Nat) : Int) = (fmI (slk S) s0 (k + 1) : Nat) := by
                  rw [fmI]
                  first
                  | (rw [if_pos (by cases e : (fmI (slk S) s0 k).testBit k; rw [e] at htb; exact absurd htb (by simp; omega); rfl)]; done)
                  | (rw [if_neg (by intro e; rw [e] at htb; simp at htb; omega), Nat.or_zero]; done)
                refine lv_istore_n (lv' := [(2, .int (zI (((fmI (slk S) s0 k) ||| (slk S k) : Nat) : Int))), (4, .int (zI y)), (3, .int (zI x)), (0, .ref (B 0)), (1, .int (zI z))]) hx hb dX5_familyOf_48 rfl hl (by decide) rfl (fun ls hl => ?_)
                refine lv_iinc (v := zI (y + 1)) (lv' := [(4, .int (zI (y + 1))), (2, .int (zI (((fmI (slk S) s0 k) ||| (slk S k) : Nat) : Int))), (3, .int (zI x)), (0, .ref (B 0)), (1, .int (zI z))]) hx hb dX5_familyOf_49 hl (k := 1) rfl (zI_add _ _) (by decide) rfl (fun ls hl => ?_)
                refine lv_goto (tgt := 16) hx hb dX5_familyOf_52 (by decide) ?_
                exact ih_16 (y + 1) (k + 1) (((fmI (slk S) s0 k) ||| (slk S k) : Nat) : Int) _ (by omega) (by omega) (by omega) hx4 hS ls (lv_sub hl [0, 1, 2, 3, 4] rfl)
        exact loop_16 _ 0 0 x _ (Nat.lt_succ_self _) rfl (Nat.zero_le _) (by rw [fmI]; exact hx1) hS ls (lv_sub hl [0, 2, 1, 3, 4] rfl)
  exact loop_6 _ ((2 ^ i : Nat) : Int) 0 (2 ^ i) 0 _ (Nat.lt_succ_self _) rfl rfl (by rw [Nat.testBit_two_pow]; simp) (fun Q h1 h2 j h3 => by rw [Nat.testBit_two_pow] at h3; rw [← show i = j from of_decide_eq_true h3]; exact h1) h2i (Nat.zero_le _) (fun h => absurd h (by have := Nat.two_pow_pos i; omega)) hS ls (lv_sub hl [1, 0, 2, 3] rfl)
set_option maxHeartbeats 4000000 in
set_option maxRecDepth 100000 in
theorem m_lowest (l : Launch) (G : gG) (B : Nat → Nat) (S : cS) (th : Int) (ct : Nat → Int32) (H : Heap) (hM : Mod G B S th ct H) (hI : sInv S) (z : Int) (i : Nat) (hz : z = i) (hi : i < sn S)  : gM l yX5_lowest wsX5_lowest rm_X5_lowest [.ref (B 0), .int (zI z)] G H (gi (fun r H1 => zI (famL (slk S) (sn S) i : Nat) = r ∧ H = H1)) (gNo) 0 0 := by
  obtain ⟨m0, m1, m2, m3, m4, m5, m6, m7, hB, gBs⟩ := id hM
  have hn16 : sn S ≤ 16 := hI.1
  have gB0 := gBs 0 (by omega)
  have gB1 := gBs 1 (by omega)
  have gB2 := gBs 2 (by omega)
  have gB3 := gBs 3 (by omega)
  have gB4 := gBs 4 (by omega)
  have gB5 := gBs 5 (by omega)
  have gB6 := gBs 6 (by omega)
  have gB7 := gBs 7 (by omega)
  have hrl : itW (slk S) (sn S) (sn S - 1) (2 ^ i) < 65536 := itW_lt (slk_lt hI) _ (p2_lt (by omega)) _
  have hri : (itW (slk S) (sn S) (sn S - 1) (2 ^ i)).testBit i = true := itW_has _
  refine g_start (cc := cX5_lowest) (maxL := 4) (ret := (some .int)) (by decide +kernel) rfl (Nat.le_of_ble_eq_true rfl) ?_
  intro p e s m args below meth c F ls hl
  obtain ⟨hx, hb, hml, hr, hts, hown, hlocks, hxt, hH, hX, hin⟩ := F
  have hown : s.vm.findClass RX5 = some m.cls := hown
  have hS : va_S (gA G) s.heap H [] := by rw [hH]; exact va_S.rf
  have hl : lv_has ls 4 [(0, .ref (B 0)), (1, .int (zI z))] := hl
  refine lv_aload_n hx hb dX5_lowest_0 rfl (lv_at hl 0 rfl) ?_
  refine lv_iload_n hx hb dX5_lowest_1 rfl (lv_at hl 1 rfl) ?_
  refine g_goi (vx_runV (As := [.int (zI z)]) (rest := []) ⟨hx, hb, hml, hown, hts⟩ (m_familyOf l G B S th ct H hM hI z i hz hi) (cwV 1 hts gX5_lowest_X5_familyOf rfl rfl rfl hd_X5_familyOf ⟨(Nat.le_of_ble_eq_true rfl), (Nat.le_of_ble_eq_true rfl)⟩) (g_preV hX hS (ci := 5) rfl m0) rfl rfl hl.1 rfl (lv_room (Nat.le_of_ble_eq_true rfl)) dX5_lowest_2 ⟨(Nat.le_of_ble_eq_true rfl), (Nat.le_of_ble_eq_true rfl)⟩) hS (fun r_2 H_2 locs hp hS => ?_)
  obtain ⟨rfl, rfl⟩ := hp
  refine lv_istore_n (lv' := [(2, .int (zI ((itW (slk S) (sn S) (sn S - 1) (2 ^ i) : Nat) : Int))), (0, .ref (B 0)), (1, .int (zI z))]) hx hb dX5_lowest_5 rfl hl (by decide) rfl (fun ls hl => ?_)
  refine lv_iconst (v := zI 0) hx hb dX5_lowest_6 rfl ?_
  refine lv_istore_n (lv' := [(3, .int (zI 0)), (2, .int (zI ((itW (slk S) (sn S) (sn S - 1) (2 ^ i) : Nat) : Int))), (0, .ref (B 0)), (1, .int (zI z))]) hx hb dX5_lowest_7 rfl hl (by decide) rfl (fun ls hl => ?_)
  have loop_8 : ∀ (M_ : Nat) (y : Int) (k : Nat) (locs : List Loc), i - k < M_ → (y = k) → (k ≤ i) → (loB (itW (slk S) (sn S) (sn S - 1) (2 ^ i)) 0 i = k + loB (itW (slk S) (sn S) (sn S - 1) (2 ^ i)) k (i - k)) → va_S (gA G) s.heap H locs → ∀ (ls : Array Slot), lv_has ls 4 [(3, .int (zI y)), (2, .int (zI ((itW (slk S) (sn S) (sn S - 1) (2 ^ i) : Nat) : Int))), (0, .ref (B 0)), (1, .int (zI z))] → W p l e rm_X5_lowest s m args below meth c H locs (0) (0) (vx_MQ below (gQ G (gi (fun r H1 => zI (famL (slk S) (sn S) i : Nat) = r ∧ H = H1))) (gXC G (gNo)) args s 0 0 (gA G)) (F0 m 8 ls []) := by
    intro M_
    induction M_ with
    | zero => intro y k locs_0 h_0; exact absurd h_0 (Nat.not_lt_zero _)
    | succ M_ ih_8 =>
      intro y k locs hM_8 hy hkn hlo hS ls hl
      refine lv_iload_n hx hb dX5_lowest_8 rfl (lv_at hl 1 rfl) ?_
      refine lv_iload_n hx hb dX5_lowest_9 rfl (lv_at hl 0 rfl) ?_
      refine gz_ishr hx hb (itW (slk S) (sn S) (sn S - 1) (2 ^ i)) k (by omega) (by omega) (by omega) (by omega) dX5_lowest_10 ?_
      refine lv_iconst (v := zI 1) hx hb dX5_lowest_11 rfl ?_
      refine gz_iand hx hb ((itW (slk S) (sn S) (sn S - 1) (2 ^ i)) / 2 ^ k) 1 (by omega) rfl dX5_lowest_12 ?_
      obtain ⟨tb, htb⟩ : ∃ y : Nat, y = itW (slk S) (sn S) (sn S - 1) (2 ^ i) / 2 ^ k &&& 1 := ⟨_, rfl⟩
      rw [← htb]
      have htb1 : tb ≤ 1 := by rw [htb]; exact Nat.and_le_right
      rw [tb_and] at htb
      refine gz_if_ne (tgt := 22) hx hb ⟨by omega, by omega⟩ dX5_lowest_13 (by decide) (fun c_13 => ?_) (fun c_13 => ?_)
      · refine lv_iload_n hx hb dX5_lowest_22 rfl (lv_at hl 0 rfl) ?_
        have hkb : (itW (slk S) (sn S) (sn S - 1) (2 ^ i)).testBit k = true := by cases e : (itW (slk S) (sn S) (sn S - 1) (2 ^ i)).testBit k; rw [e] at htb; simp at htb; omega; rfl
        have hfin : loB (itW (slk S) (sn S) (sn S - 1) (2 ^ i)) 0 i = k := by
          rw [hlo]
          cases e : i - k
          · rw [loB]; rfl
          · rw [loB, if_pos hkb]; rfl
        exact g_reti hx hb hr hlocks hS rfl (⟨by unfold famL; rw [hfin, hy], rfl⟩) (Nat.le_of_ble_eq_true rfl) (Nat.le_of_ble_eq_true rfl) dX5_lowest_23
      · have hkb : (itW (slk S) (sn S) (sn S - 1) (2 ^ i)).testBit k = false := by cases e : (itW (slk S) (sn S) (sn S - 1) (2 ^ i)).testBit k; rfl; rw [e] at htb; simp at htb; omega
        have hki : k + 1 ≤ i := by
          rcases Nat.lt_or_ge k i with g | g
          · omega
          · rw [show k = i by omega, hri] at hkb; cases hkb
        have hlo2 : loB (itW (slk S) (sn S) (sn S - 1) (2 ^ i)) 0 i = k + 1 + loB (itW (slk S) (sn S) (sn S - 1) (2 ^ i)) (k + 1) (i - (k + 1)) := by
          rw [hlo, show i - k = (i - (k + 1)) + 1 by omega, loB, if_neg (by rw [hkb]; decide)]; omega
        refine lv_iinc (v := zI (y + 1)) (lv' := [(3, .int (zI (y + 1))), (2, .int (zI ((itW (slk S) (sn S) (sn S - 1) (2 ^ i) : Nat) : Int))), (0, .ref (B 0)), (1, .int (zI z))]) hx hb dX5_lowest_16 hl (k := 0) rfl (zI_add _ _) (by decide) rfl (fun ls hl => ?_)
        refine lv_goto (tgt := 8) hx hb dX5_lowest_19 (by decide) ?_
        exact ih_8 (y + 1) (k + 1) _ (by omega) (by omega) hki hlo2 hS ls (lv_sub hl [0, 1, 2, 3] rfl)
  exact loop_8 _ 0 0 _ (Nat.lt_succ_self _) rfl (Nat.zero_le _) (by rw [Nat.zero_add]; rfl) hS ls (lv_sub hl [0, 1, 2, 3] rfl)
set_option maxHeartbeats 4000000 in
set_option maxRecDepth 100000 in
theorem m_familiesOf (l : Launch) (G : gG) (B : Nat → Nat) (S : cS) (th : Int) (ct : Nat → Int32) (H : Heap) (hM : Mod G B S th ct H) (hI : sInv S)  : gM l yX5_familiesOf wsX5_familiesOf rm_X5_familiesOf [.ref (B 0)] G H (gi (fun r H1 => zI (famC (slk S) (sn S) (sn S) : Nat) = r ∧ H = H1)) (gNo) 0 0 := by
  obtain ⟨m0, m1, m2, m3, m4, m5, m6, m7, hB, gBs⟩ := id hM
  have hn16 : sn S ≤ 16 := hI.1
  have gB0 := gBs 0 (by omega)
  have gB1 := gBs 1 (by omega)
  have gB2 := gBs 2 (by omega)
  have gB3 := gBs 3 (by omega)
  have gB4 := gBs 4 (by omega)
  have gB5 := gBs 5 (by omega)
  have gB6 := gBs 6 (by omega)
  have gB7 := gBs 7 (by omega)
  refine g_start (cc := cX5_familiesOf) (maxL := 3) (ret := (some .int)) (by decide +kernel) rfl (Nat.le_of_ble_eq_true rfl) ?_
  intro p e s m args below meth c F ls hl
  obtain ⟨hx, hb, hml, hr, hts, hown, hlocks, hxt, hH, hX, hin⟩ := F
  have hown : s.vm.findClass RX5 = some m.cls := hown
  have hS : va_S (gA G) s.heap H [] := by rw [hH]; exact va_S.rf
  have hl : lv_has ls 3 [(0, .ref (B 0))] := hl
  refine lv_iconst (v := zI 0) hx hb dX5_familiesOf_0 rfl ?_
  refine lv_istore_n (lv' := [(1, .int (zI 0)), (0, .ref (B 0))]) hx hb dX5_familiesOf_1 rfl hl (by decide) rfl (fun ls hl => ?_)
  refine lv_iconst (v := zI 0) hx hb dX5_familiesOf_2 rfl ?_
  refine lv_istore_n (lv' := [(2, .int (zI 0)), (1, .int (zI 0)), (0, .ref (B 0))]) hx hb dX5_familiesOf_3 rfl hl (by decide) rfl (fun ls hl => ?_)
  have loop_4 : ∀ (M_ : Nat) (y : Int) (k : Nat) (x : Int) (locs : List Loc), sn S - k < M_ → (y = k) → (k ≤ sn S) → (x = (famC (slk S) (sn S) k : Nat)) → va_S (gA G) s.heap H locs → ∀ (ls : Array Slot), lv_has ls 3 [(2, .int (zI y)), (1, .int (zI x)), (0, .ref (B 0))] → W p l e rm_X5_familiesOf s m args below meth c H locs (0) (0) (vx_MQ below (gQ G (gi (fun r H1 => zI (famC (slk S) (sn S) (sn S) : Nat) = r ∧ H = H1))) (gXC G (gNo)) args s 0 0 (gA G)) (F0 m 4 ls []) := by
    intro M_
    induction M_ with
    | zero => intro y k x locs_0 h_0; exact absurd h_0 (Nat.not_lt_zero _)
    | succ M_ ih_4 =>
      intro y k x locs hM_4 hy hkn hx1 hS ls hl
      refine lv_iload_n hx hb dX5_familiesOf_4 rfl (lv_at hl 0 rfl) ?_
      refine lv_aload_n hx hb dX5_familiesOf_5 rfl (lv_at hl 2 rfl) ?_
      refine g_get hx hb hX hts (fun w h => (List.mem_cons_of_mem _ (List.mem_append_right _ h))) hown m0 rfl 1 (by decide) (hts (.fieldLink RX5 45 "TuneCatalogueModel" "tunes" "I") (List.mem_cons_of_mem _ (List.mem_append_left _ (List.mem_of_getElem? (i := 0) rfl)))) rfl dX5_familiesOf_6 ?_
      refine gz_icmp_ge (tgt := 35) hx hb ⟨by omega, by omega⟩ ⟨by omega, by omega⟩ dX5_familiesOf_9 (by decide) (fun c_9 => ?_) (fun c_9 => ?_)
      · refine lv_iload_n hx hb dX5_familiesOf_35 rfl (lv_at hl 1 rfl) ?_
        exact g_reti hx hb hr hlocks hS rfl (⟨by rw [hx1, show k = sn S by omega], rfl⟩) (Nat.le_of_ble_eq_true rfl) (Nat.le_of_ble_eq_true rfl) dX5_familiesOf_36
      · refine lv_iload_n hx hb dX5_familiesOf_12 rfl (lv_at hl 1 rfl) ?_
        refine lv_aload_n hx hb dX5_familiesOf_13 rfl (lv_at hl 2 rfl) ?_
        refine lv_iload_n hx hb dX5_familiesOf_14 rfl (lv_at hl 0 rfl) ?_
        refine g_goi (vx_runV (As := [.int (zI y)]) (rest := [.int (zI x)]) ⟨hx, hb, hml, hown, hts⟩ (m_lowest l G B S th ct H hM hI y k (by omega) (by omega)) (cwV 1 hts gX5_familiesOf_X5_lowest rfl rfl rfl hd_X5_lowest ⟨(Nat.le_of_ble_eq_true rfl), (Nat.le_of_ble_eq_true rfl)⟩) (g_preV hX hS (ci := 5) rfl m0) rfl rfl hl.1 rfl (lv_room (Nat.le_of_ble_eq_true rfl)) dX5_familiesOf_15 ⟨(Nat.le_of_ble_eq_true rfl), (Nat.le_of_ble_eq_true rfl)⟩) hS (fun r_15 H_15 locs hp hS => ?_)
        obtain ⟨rfl, rfl⟩ := hp
        have hll := loB_le (itW (slk S) (sn S) (sn S - 1) (2 ^ k)) k 0
        have hll : famL (slk S) (sn S) k ≤ k := hll
        refine lv_iload_n hx hb dX5_familiesOf_18 rfl (lv_at hl 0 rfl) ?_
        refine gz_icmp_ne (tgt := 26) hx hb ⟨by omega, by omega⟩ ⟨by omega, by omega⟩ dX5_familiesOf_19 (by decide) (fun c_19 => ?_) (fun c_19 => ?_)
        · refine lv_iconst (v := zI 0) hx hb dX5_familiesOf_26 rfl ?_
          refine gz_iadd hx hb dX5_familiesOf_27 ?_
          have hx2 : x + 0 = (famC (slk S) (sn S) (k + 1) : Nat) := by
            rw [famC]
            first
            | (rw [if_pos (by omega)]; omega)
            | (rw [if_neg (by omega)]; omega)
          refine lv_istore_n (lv' := [(1, .int (zI (x + 0))), (2, .int (zI y)), (0, .ref (B 0))]) hx hb dX5_familiesOf_28 rfl hl (by decide) rfl (fun ls hl => ?_)
          refine lv_iinc (v := zI (y + 1)) (lv' := [(2, .int (zI (y + 1))), (1, .int (zI (x + 0))), (0, .ref (B 0))]) hx hb dX5_familiesOf_29 hl (k := 1) rfl (zI_add _ _) (by decide) rfl (fun ls hl => ?_)
          refine lv_goto (tgt := 4) hx hb dX5_familiesOf_32 (by decide) ?_
          exact ih_4 (y + 1) (k + 1) (x + 0) _ (by omega) (by omega) (by omega) hx2 hS ls (lv_sub hl [0, 1, 2] rfl)
        · refine lv_iconst (v := zI 1) hx hb dX5_familiesOf_22 rfl ?_
          refine lv_goto (tgt := 27) hx hb dX5_familiesOf_23 (by decide) ?_
          refine gz_iadd hx hb dX5_familiesOf_27 ?_
          have hx2 : x + 1 = (famC (slk S) (sn S) (k + 1) : Nat) := by
            rw [famC]
            first
            | (rw [if_pos (by omega)]; omega)
            | (rw [if_neg (by omega)]; omega)
          refine lv_istore_n (lv' := [(1, .int (zI (x + 1))), (2, .int (zI y)), (0, .ref (B 0))]) hx hb dX5_familiesOf_28 rfl hl (by decide) rfl (fun ls hl => ?_)
          refine lv_iinc (v := zI (y + 1)) (lv' := [(2, .int (zI (y + 1))), (1, .int (zI (x + 1))), (0, .ref (B 0))]) hx hb dX5_familiesOf_29 hl (k := 1) rfl (zI_add _ _) (by decide) rfl (fun ls hl => ?_)
          refine lv_goto (tgt := 4) hx hb dX5_familiesOf_32 (by decide) ?_
          exact ih_4 (y + 1) (k + 1) (x + 1) _ (by omega) (by omega) (by omega) hx2 hS ls (lv_sub hl [0, 1, 2] rfl)
  exact loop_4 _ 0 0 0 _ (Nat.lt_succ_self _) rfl (Nat.zero_le _) rfl hS ls (lv_sub hl [0, 1, 2] rfl)
set_option maxHeartbeats 4000000 in
set_option maxRecDepth 100000 in
theorem m_families (l : Launch) (G : gG) (B : Nat → Nat) (S : cS) (th : Int) (ct : Nat → Int32) (H : Heap) (hM : Mod G B S th ct H) (hI : sInv S)  : gM l yX5_families wsX5_families rm_X5_families [.ref (B 0)] G H (gi (fun r H1 => zI ((famC (slk S) (sn S) (sn S) : Nat) : Int) = r ∧ MP G B S 0 H H1)) (gNo) 0 0 := by
  obtain ⟨m0, m1, m2, m3, m4, m5, m6, m7, hB, gBs⟩ := id hM
  have hn16 : sn S ≤ 16 := hI.1
  have gB0 := gBs 0 (by omega)
  have gB1 := gBs 1 (by omega)
  have gB2 := gBs 2 (by omega)
  have gB3 := gBs 3 (by omega)
  have gB4 := gBs 4 (by omega)
  have gB5 := gBs 5 (by omega)
  have gB6 := gBs 6 (by omega)
  have gB7 := gBs 7 (by omega)
  have hK : gKp (oB B) H H := gKp.rf _ _
  refine g_start (cc := cX5_families) (maxL := 1) (ret := (some .int)) (by decide +kernel) rfl (Nat.le_of_ble_eq_true rfl) ?_
  intro p e s m args below meth c F ls hl
  obtain ⟨hx, hb, hml, hr, hts, hown, hlocks, hxt, hH, hX, hin⟩ := F
  have hown : s.vm.findClass RX5 = some m.cls := hown
  have hS : va_S (gA G) s.heap H [] := by rw [hH]; exact va_S.rf
  have hl : lv_has ls 1 [(0, .ref (B 0))] := hl
  refine lv_aload_n hx hb dX5_families_0 rfl (lv_at hl 0 rfl) ?_
  refine lv_iconst (v := zI 0) hx hb dX5_families_1 rfl ?_
  refine g_put hx hb hX hts (fun w h => (List.mem_cons_of_mem _ (List.mem_append_right _ h))) tyX5 tyX5_ok nmX5 hown hS m0 gB0 rfl 0 (by decide) (hts (.fieldLink RX5 42 "TuneCatalogueModel" "thrown" "I") (List.mem_cons_of_mem _ (List.mem_append_left _ (List.mem_of_getElem? (i := 0) rfl)))) rfl (ty := tyX5 0) rfl rfl rfl (Nat.le_of_ble_eq_true rfl) dX5_families_2 (fun H_2 locs h_n hO hS => ?_)
  have m1 := gat.only1 m1 hO (hB 1 0 (by omega) (by omega) (by omega))
  have m2 := gat.only1 m2 hO (hB 2 0 (by omega) (by omega) (by omega))
  have m3 := gat.only1 m3 hO (hB 3 0 (by omega) (by omega) (by omega))
  have m4 := gat.only1 m4 hO (hB 4 0 (by omega) (by omega) (by omega))
  have m5 := gat.only1 m5 hO (hB 5 0 (by omega) (by omega) (by omega))
  have m6 := gat.only1 m6 hO (hB 6 0 (by omega) (by omega) (by omega))
  have m7 := gat.only1 m7 hO (hB 7 0 (by omega) (by omega) (by omega))
  have m0 : gat G (B 0) (.inr (5, [.int (zI 0), .int (zI (sn S : Int)), .ref (B 1), .ref (B 2), .ref (B 3), .ref (B 4), .ref (B 5), .int (zI (shn S : Int)), .int (zI (ssl S)), .int (zI (sor S)), .int (zI (srp S)), .ref (B 6), .ref (B 7)])) H_2 := h_n
  have hK := hK.trans (hO.kp1 (oB.k (k := 0) (by omega)))
  have hM : Mod G B S 0 ct H_2 := ⟨m0, m1, m2, m3, m4, m5, m6, m7, hB, gBs⟩
  refine lv_aload_n hx hb dX5_families_5 rfl (lv_at hl 0 rfl) ?_
  refine g_goi (vx_runV (As := []) (rest := []) ⟨hx, hb, hml, hown, hts⟩ (m_familiesOf l G B S 0 ct H_2 hM hI) (cwV 0 hts gX5_families_X5_familiesOf rfl rfl rfl hd_X5_familiesOf ⟨(Nat.le_of_ble_eq_true rfl), (Nat.le_of_ble_eq_true rfl)⟩) (g_preV hX hS (ci := 5) rfl m0) rfl rfl hl.1 rfl (lv_room (Nat.le_of_ble_eq_true rfl)) dX5_families_6 ⟨(Nat.le_of_ble_eq_true rfl), (Nat.le_of_ble_eq_true rfl)⟩) hS (fun r_6 H_6 locs hp hS => ?_)
  obtain ⟨rfl, rfl⟩ := hp
  exact g_reti hx hb hr hlocks hS rfl (⟨rfl, ⟨ct, ⟨m0, m1, m2, m3, m4, m5, m6, m7, hB, gBs⟩⟩, hK⟩) (Nat.le_of_ble_eq_true rfl) (Nat.le_of_ble_eq_true rfl) dX5_families_9
set_option maxHeartbeats 4000000 in
set_option maxRecDepth 100000 in
theorem m_family_ok (l : Launch) (G : gG) (B : Nat → Nat) (S : cS) (th : Int) (ct : Nat → Int32) (H : Heap) (hM : Mod G B S th ct H) (hI : sInv S) (z : Int) (i : Nat) (hz : z = i) (hi : i < sn S)  : gM l yX5_family wsX5_family rm_X5_family [.ref (B 0), .int (zI z)] G H (gi (fun r H1 => zI ((famL (slk S) (sn S) i : Nat) : Int) = r ∧ MP G B S 0 H H1)) (gNo) 0 0 := by
  obtain ⟨m0, m1, m2, m3, m4, m5, m6, m7, hB, gBs⟩ := id hM
  have hn16 : sn S ≤ 16 := hI.1
  have gB0 := gBs 0 (by omega)
  have gB1 := gBs 1 (by omega)
  have gB2 := gBs 2 (by omega)
  have gB3 := gBs 3 (by omega)
  have gB4 := gBs 4 (by omega)
  have gB5 := gBs 5 (by omega)
  have gB6 := gBs 6 (by omega)
  have gB7 := gBs 7 (by omega)
  have hK : gKp (oB B) H H := gKp.rf _ _
  refine g_start (cc := cX5_family) (maxL := 2) (ret := (some .int)) (by decide +kernel) rfl (Nat.le_of_ble_eq_true rfl) ?_
  intro p e s m args below meth c F ls hl
  obtain ⟨hx, hb, hml, hr, hts, hown, hlocks, hxt, hH, hX, hin⟩ := F
  have hown : s.vm.findClass RX5 = some m.cls := hown
  have hS : va_S (gA G) s.heap H [] := by rw [hH]; exact va_S.rf
  have hl : lv_has ls 2 [(0, .ref (B 0)), (1, .int (zI z))] := hl
  refine lv_aload_n hx hb dX5_family_0 rfl (lv_at hl 0 rfl) ?_
  refine lv_aload_n hx hb dX5_family_1 rfl (lv_at hl 0 rfl) ?_
  refine lv_iload_n hx hb dX5_family_2 rfl (lv_at hl 1 rfl) ?_
  refine g_goi (vx_runV (As := [.int (zI z)]) (rest := [.ref (B 0)]) ⟨hx, hb, hml, hown, hts⟩ (m_isTune_t l G B S th ct H hM hI z i hz hi) (cwV 1 hts gX5_family_X5_isTune rfl rfl rfl hd_X5_isTune ⟨(Nat.le_of_ble_eq_true rfl), (Nat.le_of_ble_eq_true rfl)⟩) (g_preV hX hS (ci := 5) rfl m0) rfl rfl hl.1 rfl (lv_room (Nat.le_of_ble_eq_true rfl)) dX5_family_3 ⟨(Nat.le_of_ble_eq_true rfl), (Nat.le_of_ble_eq_true rfl)⟩) hS (fun r_3 H_3 locs hp hS => ?_)
  obtain ⟨rfl, rfl⟩ := hp
  refine gz_if_eq (tgt := 13) hx hb (by decide) dX5_family_6 (by decide) (fun c_6 => ?_) (fun c_6 => ?_)
  · omega
  · refine lv_iconst (v := zI 0) hx hb dX5_family_9 rfl ?_
    refine lv_goto (tgt := 14) hx hb dX5_family_10 (by decide) ?_
    refine g_goi (vx_runV (As := [.int (zI 0)]) (rest := []) ⟨hx, hb, hml, hown, hts⟩ (m_holds_0 l G B S th ct H hM hI 0 rfl) (cwV 1 hts gX5_family_X5_holds rfl rfl rfl hd_X5_holds ⟨(Nat.le_of_ble_eq_true rfl), (Nat.le_of_ble_eq_true rfl)⟩) (g_preV hX hS (ci := 5) rfl m0) rfl rfl hl.1 rfl (lv_room (Nat.le_of_ble_eq_true rfl)) dX5_family_14 ⟨(Nat.le_of_ble_eq_true rfl), (Nat.le_of_ble_eq_true rfl)⟩) hS (fun r_14 H_14 locs hp hS => ?_)
    obtain ⟨rfl, hM, hOh⟩ := hp
    obtain ⟨m0, m1, m2, m3, m4, m5, m6, m7, hB, gBs⟩ := id hM
    have hK := hK.trans (hOh.kp1 (oB.k (k := 0) (by omega)))
    refine gz_if_eq (tgt := 28) hx hb (by decide) dX5_family_17 (by decide) (fun c_17 => ?_) (fun c_17 => ?_)
    · omega
    · refine lv_aload_n hx hb dX5_family_20 rfl (lv_at hl 0 rfl) ?_
      refine lv_iload_n hx hb dX5_family_21 rfl (lv_at hl 1 rfl) ?_
      refine g_goi (vx_runV (As := [.int (zI z)]) (rest := []) ⟨hx, hb, hml, hown, hts⟩ (m_lowest l G B S 0 ct H_14 hM hI z i hz hi) (cwV 1 hts gX5_family_X5_lowest rfl rfl rfl hd_X5_lowest ⟨(Nat.le_of_ble_eq_true rfl), (Nat.le_of_ble_eq_true rfl)⟩) (g_preV hX hS (ci := 5) rfl m0) rfl rfl hl.1 rfl (lv_room (Nat.le_of_ble_eq_true rfl)) dX5_family_22 ⟨(Nat.le_of_ble_eq_true rfl), (Nat.le_of_ble_eq_true rfl)⟩) hS (fun r_22 H_22 locs hp hS => ?_)
      obtain ⟨rfl, rfl⟩ := hp
      refine lv_goto (tgt := 29) hx hb dX5_family_25 (by decide) ?_
      exact g_reti hx hb hr hlocks hS rfl (⟨rfl, ⟨ct, ⟨m0, m1, m2, m3, m4, m5, m6, m7, hB, gBs⟩⟩, hK⟩) (Nat.le_of_ble_eq_true rfl) (Nat.le_of_ble_eq_true rfl) dX5_family_29
set_option maxHeartbeats 4000000 in
set_option maxRecDepth 100000 in
theorem m_family_e1 (l : Launch) (G : gG) (B : Nat → Nat) (S : cS) (th : Int) (ct : Nat → Int32) (H : Heap) (hM : Mod G B S th ct H) (hI : sInv S) (z : Int) (hz : rI z) (hi : ¬ (0 ≤ z ∧ z < sn S))  : gM l yX5_family wsX5_family rm_X5_family [.ref (B 0), .int (zI z)] G H (gi (fun r H1 => zI 0 = r ∧ MP G B S 1 H H1)) (gNo) 0 0 := by
  obtain ⟨m0, m1, m2, m3, m4, m5, m6, m7, hB, gBs⟩ := id hM
  have hn16 : sn S ≤ 16 := hI.1
  have gB0 := gBs 0 (by omega)
  have gB1 := gBs 1 (by omega)
  have gB2 := gBs 2 (by omega)
  have gB3 := gBs 3 (by omega)
  have gB4 := gBs 4 (by omega)
  have gB5 := gBs 5 (by omega)
  have gB6 := gBs 6 (by omega)
  have gB7 := gBs 7 (by omega)
  have hK : gKp (oB B) H H := gKp.rf _ _
  refine g_start (cc := cX5_family) (maxL := 2) (ret := (some .int)) (by decide +kernel) rfl (Nat.le_of_ble_eq_true rfl) ?_
  intro p e s m args below meth c F ls hl
  obtain ⟨hx, hb, hml, hr, hts, hown, hlocks, hxt, hH, hX, hin⟩ := F
  have hown : s.vm.findClass RX5 = some m.cls := hown
  have hS : va_S (gA G) s.heap H [] := by rw [hH]; exact va_S.rf
  have hl : lv_has ls 2 [(0, .ref (B 0)), (1, .int (zI z))] := hl
  refine lv_aload_n hx hb dX5_family_0 rfl (lv_at hl 0 rfl) ?_
  refine lv_aload_n hx hb dX5_family_1 rfl (lv_at hl 0 rfl) ?_
  refine lv_iload_n hx hb dX5_family_2 rfl (lv_at hl 1 rfl) ?_
  refine g_goi (vx_runV (As := [.int (zI z)]) (rest := [.ref (B 0)]) ⟨hx, hb, hml, hown, hts⟩ (m_isTune_f l G B S th ct H hM hI z hz hi) (cwV 1 hts gX5_family_X5_isTune rfl rfl rfl hd_X5_isTune ⟨(Nat.le_of_ble_eq_true rfl), (Nat.le_of_ble_eq_true rfl)⟩) (g_preV hX hS (ci := 5) rfl m0) rfl rfl hl.1 rfl (lv_room (Nat.le_of_ble_eq_true rfl)) dX5_family_3 ⟨(Nat.le_of_ble_eq_true rfl), (Nat.le_of_ble_eq_true rfl)⟩) hS (fun r_3 H_3 locs hp hS => ?_)
  obtain ⟨rfl, rfl⟩ := hp
  refine gz_if_eq (tgt := 13) hx hb (by decide) dX5_family_6 (by decide) (fun c_6 => ?_) (fun c_6 => ?_)
  · refine lv_iconst (v := zI 1) hx hb dX5_family_13 rfl ?_
    refine g_goi (vx_runV (As := [.int (zI 1)]) (rest := []) ⟨hx, hb, hml, hown, hts⟩ (m_holds_k l G B S th ct H hM hI 1 (by decide) (by decide)) (cwV 1 hts gX5_family_X5_holds rfl rfl rfl hd_X5_holds ⟨(Nat.le_of_ble_eq_true rfl), (Nat.le_of_ble_eq_true rfl)⟩) (g_preV hX hS (ci := 5) rfl m0) rfl rfl hl.1 rfl (lv_room (Nat.le_of_ble_eq_true rfl)) dX5_family_14 ⟨(Nat.le_of_ble_eq_true rfl), (Nat.le_of_ble_eq_true rfl)⟩) hS (fun r_14 H_14 locs hp hS => ?_)
    obtain ⟨rfl, hM, hOh⟩ := hp
    obtain ⟨m0, m1, m2, m3, m4, m5, m6, m7, hB, gBs⟩ := id hM
    have hK := hK.trans (hOh.kp1 (oB.k (k := 0) (by omega)))
    refine gz_if_eq (tgt := 28) hx hb (by decide) dX5_family_17 (by decide) (fun c_17 => ?_) (fun c_17 => ?_)
    · refine lv_iconst (v := zI 0) hx hb dX5_family_28 rfl ?_
      exact g_reti hx hb hr hlocks hS rfl (⟨rfl, ⟨ct, ⟨m0, m1, m2, m3, m4, m5, m6, m7, hB, gBs⟩⟩, hK⟩) (Nat.le_of_ble_eq_true rfl) (Nat.le_of_ble_eq_true rfl) dX5_family_29
    · omega
  · omega
set_option maxHeartbeats 4000000 in
set_option maxRecDepth 100000 in
theorem m_link_ok (l : Launch) (G : gG) (B : Nat → Nat) (S : cS) (th : Int) (ct : Nat → Int32) (H : Heap) (hM : Mod G B S th ct H) (hI : sInv S) (z1 z2 : Int) (i j : Nat) (hz1 : z1 = i) (hi : i < sn S) (hz2 : z2 = j) (hj : j < sn S) (hI2 : sInv (sLnk S i j)) (hij : i ≠ j) (htb : (slk S i).testBit j = false) : gM l yX5_link wsX5_link rm_X5_link [.ref (B 0), .int (zI z1), .int (zI z2)] G H (gi (fun r H1 => zI ((famC (lkT (slk S) i j) (sn S) (sn S) : Nat) : Int) = r ∧ MP G B (sLnk S i j) 0 H H1)) (gNo) 0 0 := by
  obtain ⟨m0, m1, m2, m3, m4, m5, m6, m7, hB, gBs⟩ := id hM
  have hn16 : sn S ≤ 16 := hI.1
  have gB0 := gBs 0 (by omega)
  have gB1 := gBs 1 (by omega)
  have gB2 := gBs 2 (by omega)
  have gB3 := gBs 3 (by omega)
  have gB4 := gBs 4 (by omega)
  have gB5 := gBs 5 (by omega)
  have gB6 := gBs 6 (by omega)
  have gB7 := gBs 7 (by omega)
  have hK : gKp (oB B) H H := gKp.rf _ _
  have htb2 : (slk S j).testBit i = false := by rw [← hI.2.2.2.2.2.2.2.2.2.2.2 i j]; exact htb
  refine g_start (cc := cX5_link) (maxL := 4) (ret := (some .int)) (by decide +kernel) rfl (Nat.le_of_ble_eq_true rfl) ?_
  intro p e s m args below meth c F ls hl
  obtain ⟨hx, hb, hml, hr, hts, hown, hlocks, hxt, hH, hX, hin⟩ := F
  have hown : s.vm.findClass RX5 = some m.cls := hown
  have hS : va_S (gA G) s.heap H [] := by rw [hH]; exact va_S.rf
  have hl : lv_has ls 4 [(0, .ref (B 0)), (1, .int (zI z1)), (2, .int (zI z2))] := hl
  refine lv_aload_n hx hb dX5_link_0 rfl (lv_at hl 0 rfl) ?_
  refine lv_iload_n hx hb dX5_link_1 rfl (lv_at hl 1 rfl) ?_
  refine g_goi (vx_runV (As := [.int (zI z1)]) (rest := []) ⟨hx, hb, hml, hown, hts⟩ (m_isTune_t l G B S th ct H hM hI z1 i hz1 hi) (cwV 1 hts gX5_link_X5_isTune rfl rfl rfl hd_X5_isTune ⟨(Nat.le_of_ble_eq_true rfl), (Nat.le_of_ble_eq_true rfl)⟩) (g_preV hX hS (ci := 5) rfl m0) rfl rfl hl.1 rfl (lv_room (Nat.le_of_ble_eq_true rfl)) dX5_link_2 ⟨(Nat.le_of_ble_eq_true rfl), (Nat.le_of_ble_eq_true rfl)⟩) hS (fun r_2 H_2 locs hp hS => ?_)
  obtain ⟨rfl, rfl⟩ := hp
  refine gz_if_eq (tgt := 20) hx hb (by decide) dX5_link_5 (by decide) (fun c_5 => ?_) (fun c_5 => ?_)
  · omega
  · refine lv_aload_n hx hb dX5_link_8 rfl (lv_at hl 0 rfl) ?_
    refine lv_iload_n hx hb dX5_link_9 rfl (lv_at hl 2 rfl) ?_
    refine g_goi (vx_runV (As := [.int (zI z2)]) (rest := []) ⟨hx, hb, hml, hown, hts⟩ (m_isTune_t l G B S th ct H hM hI z2 j hz2 hj) (cwV 1 hts gX5_link_X5_isTune rfl rfl rfl hd_X5_isTune ⟨(Nat.le_of_ble_eq_true rfl), (Nat.le_of_ble_eq_true rfl)⟩) (g_preV hX hS (ci := 5) rfl m0) rfl rfl hl.1 rfl (lv_room (Nat.le_of_ble_eq_true rfl)) dX5_link_10 ⟨(Nat.le_of_ble_eq_true rfl), (Nat.le_of_ble_eq_true rfl)⟩) hS (fun r_10 H_10 locs hp hS => ?_)
    obtain ⟨rfl, rfl⟩ := hp
    refine gz_if_eq (tgt := 20) hx hb (by decide) dX5_link_13 (by decide) (fun c_13 => ?_) (fun c_13 => ?_)
    · omega
    · refine lv_iconst (v := zI 1) hx hb dX5_link_16 rfl ?_
      refine lv_goto (tgt := 21) hx hb dX5_link_17 (by decide) ?_
      refine lv_istore_n (lv' := [(3, .int (zI 1)), (0, .ref (B 0)), (1, .int (zI z1)), (2, .int (zI z2))]) hx hb dX5_link_21 rfl hl (by decide) rfl (fun ls hl => ?_)
      refine lv_aload_n hx hb dX5_link_22 rfl (lv_at hl 1 rfl) ?_
      refine lv_iload_n hx hb dX5_link_23 rfl (lv_at hl 0 rfl) ?_
      refine gz_if_ne (tgt := 31) hx hb (by decide) dX5_link_24 (by decide) (fun c_24 => ?_) (fun c_24 => ?_)
      · refine lv_iload_n hx hb dX5_link_31 rfl (lv_at hl 2 rfl) ?_
        refine lv_iload_n hx hb dX5_link_32 rfl (lv_at hl 3 rfl) ?_
        refine gz_icmp_ne (tgt := 40) hx hb ⟨by omega, by omega⟩ ⟨by omega, by omega⟩ dX5_link_33 (by decide) (fun c_33 => ?_) (fun c_33 => ?_)
        · refine lv_aload_n hx hb dX5_link_40 rfl (lv_at hl 1 rfl) ?_
          refine lv_iload_n hx hb dX5_link_41 rfl (lv_at hl 2 rfl) ?_
          refine lv_iload_n hx hb dX5_link_42 rfl (lv_at hl 3 rfl) ?_
          refine g_goi (vx_runV (As := [.int (zI z1), .int (zI z2)]) (rest := [.ref (B 0)]) ⟨hx, hb, hml, hown, hts⟩ (m_areLinked_f l G B S th ct H hM hI z1 z2 i j hz1 hi hz2 hj htb) (cwV 2 hts gX5_link_X5_areLinked rfl rfl rfl hd_X5_areLinked ⟨(Nat.le_of_ble_eq_true rfl), (Nat.le_of_ble_eq_true rfl)⟩) (g_preV hX hS (ci := 5) rfl m0) rfl rfl hl.1 rfl (lv_room (Nat.le_of_ble_eq_true rfl)) dX5_link_43 ⟨(Nat.le_of_ble_eq_true rfl), (Nat.le_of_ble_eq_true rfl)⟩) hS (fun r_43 H_43 locs hp hS => ?_)
          obtain ⟨rfl, rfl⟩ := hp
          refine gz_if_eq (tgt := 53) hx hb (by decide) dX5_link_46 (by decide) (fun c_46 => ?_) (fun c_46 => ?_)
          · refine lv_iconst (v := zI 0) hx hb dX5_link_53 rfl ?_
            refine g_goi (vx_runV (As := [.int (zI 0)]) (rest := []) ⟨hx, hb, hml, hown, hts⟩ (m_holds_0 l G B S th ct H hM hI 0 rfl) (cwV 1 hts gX5_link_X5_holds rfl rfl rfl hd_X5_holds ⟨(Nat.le_of_ble_eq_true rfl), (Nat.le_of_ble_eq_true rfl)⟩) (g_preV hX hS (ci := 5) rfl m0) rfl rfl hl.1 rfl (lv_room (Nat.le_of_ble_eq_true rfl)) dX5_link_54 ⟨(Nat.le_of_ble_eq_true rfl), (Nat.le_of_ble_eq_true rfl)⟩) hS (fun r_54 H_54 locs hp hS => ?_)
            obtain ⟨rfl, hM, hOh⟩ := hp
            obtain ⟨m0, m1, m2, m3, m4, m5, m6, m7, hB, gBs⟩ := id hM
            have hK := hK.trans (hOh.kp1 (oB.k (k := 0) (by omega)))
            refine gz_if_ne (tgt := 62) hx hb (by decide) dX5_link_57 (by decide) (fun c_57 => ?_) (fun c_57 => ?_)
            · refine lv_aload_n hx hb dX5_link_62 rfl (lv_at hl 1 rfl) ?_
              refine g_get hx hb hX hts (fun w h => (List.mem_cons_of_mem _ (List.mem_append_right _ h))) hown m0 rfl 12 (by decide) (hts (.fieldLink RX5 39 "TuneCatalogueModel" "links" "[I") (List.mem_cons_of_mem _ (List.mem_append_left _ (List.mem_append_left _ (List.mem_of_getElem? (i := 0) rfl))))) rfl dX5_link_63 ?_
              refine lv_iload_n hx hb dX5_link_66 rfl (lv_at hl 2 rfl) ?_
              refine lv_dup2_11 hx hb dX5_link_67 rfl rfl ?_
              refine gz_iald hx hb hX m7 i (by omega) (by omega) (by omega) dX5_link_68 ?_
              refine lv_iconst (v := zI 1) hx hb dX5_link_69 rfl ?_
              refine lv_iload_n hx hb dX5_link_70 rfl (lv_at hl 3 rfl) ?_
              refine gz_ishl hx hb j rfl (by omega) (by omega) dX5_link_71 ?_
              refine gz_ior hx hb (slk S i) (2 ^ j) (by omega) (by omega) dX5_link_72 ?_
              refine gz_iast hx hb hX hS m7 gB7 i (by omega) (by omega) (by omega) dX5_link_73 (fun H_73 locs h_n hO hS => ?_)
              rw [zupN, ← xor_or htb] at h_n
              have m0 := gat.only1 m0 hO (hB 0 7 (by omega) (by omega) (by omega))
              have m1 := gat.only1 m1 hO (hB 1 7 (by omega) (by omega) (by omega))
              have m2 := gat.only1 m2 hO (hB 2 7 (by omega) (by omega) (by omega))
              have m3 := gat.only1 m3 hO (hB 3 7 (by omega) (by omega) (by omega))
              have m4 := gat.only1 m4 hO (hB 4 7 (by omega) (by omega) (by omega))
              have m5 := gat.only1 m5 hO (hB 5 7 (by omega) (by omega) (by omega))
              have m6 := gat.only1 m6 hO (hB 6 7 (by omega) (by omega) (by omega))
              have m7 : gat G (B 7) (.inl (gI G, 16, .inl (fun j2 => zI ((va_up (slk S) i (slk S i ^^^ 2 ^ j) j2 : Nat) : Int)))) H_73 := h_n
              have hK := hK.trans (hO.kp1 (oB.k (k := 7) (by omega)))
              refine lv_aload_n hx hb dX5_link_74 rfl (lv_at hl 1 rfl) ?_
              refine g_get hx hb hX hts (fun w h => (List.mem_cons_of_mem _ (List.mem_append_right _ h))) hown m0 rfl 12 (by decide) (hts (.fieldLink RX5 39 "TuneCatalogueModel" "links" "[I") (List.mem_cons_of_mem _ (List.mem_append_left _ (List.mem_append_left _ (List.mem_of_getElem? (i := 0) rfl))))) rfl dX5_link_75 ?_
              refine lv_iload_n hx hb dX5_link_78 rfl (lv_at hl 3 rfl) ?_
              refine lv_dup2_11 hx hb dX5_link_79 rfl rfl ?_
              refine gz_iald hx hb hX m7 j (by omega) (by omega) (by omega) dX5_link_80 ?_
              rw [show va_up (slk S) i (slk S i ^^^ 2 ^ j) j = slk S j from if_neg (Ne.symm hij)]
              refine lv_iconst (v := zI 1) hx hb dX5_link_81 rfl ?_
              refine lv_iload_n hx hb dX5_link_82 rfl (lv_at hl 2 rfl) ?_
              refine gz_ishl hx hb i rfl (by omega) (by omega) dX5_link_83 ?_
              refine gz_ior hx hb (slk S j) (2 ^ i) (by omega) (by omega) dX5_link_84 ?_
              refine gz_iast hx hb hX hS m7 gB7 j (by omega) (by omega) (by omega) dX5_link_85 (fun H_85 locs h_n hO hS => ?_)
              rw [zupN, ← xor_or htb2] at h_n
              have m0 := gat.only1 m0 hO (hB 0 7 (by omega) (by omega) (by omega))
              have m1 := gat.only1 m1 hO (hB 1 7 (by omega) (by omega) (by omega))
              have m2 := gat.only1 m2 hO (hB 2 7 (by omega) (by omega) (by omega))
              have m3 := gat.only1 m3 hO (hB 3 7 (by omega) (by omega) (by omega))
              have m4 := gat.only1 m4 hO (hB 4 7 (by omega) (by omega) (by omega))
              have m5 := gat.only1 m5 hO (hB 5 7 (by omega) (by omega) (by omega))
              have m6 := gat.only1 m6 hO (hB 6 7 (by omega) (by omega) (by omega))
              have m7 : gat G (B 7) (.inl (gI G, 16, .inl (fun j2 => zI ((lkT (slk S) i j j2 : Nat) : Int)))) H_85 := h_n
              have hK := hK.trans (hO.kp1 (oB.k (k := 7) (by omega)))
              have hM : Mod G B (sLnk S i j) 0 ct H_85 := ⟨m0, m1, m2, m3, m4, m5, m6, m7, hB, gBs⟩
              refine lv_aload_n hx hb dX5_link_86 rfl (lv_at hl 1 rfl) ?_
              refine g_goi (vx_runV (As := []) (rest := []) ⟨hx, hb, hml, hown, hts⟩ (m_familiesOf l G B (sLnk S i j) 0 ct H_85 hM hI2) (cwV 0 hts gX5_link_X5_familiesOf rfl rfl rfl hd_X5_familiesOf ⟨(Nat.le_of_ble_eq_true rfl), (Nat.le_of_ble_eq_true rfl)⟩) (g_preV hX hS (ci := 5) rfl m0) rfl rfl hl.1 rfl (lv_room (Nat.le_of_ble_eq_true rfl)) dX5_link_87 ⟨(Nat.le_of_ble_eq_true rfl), (Nat.le_of_ble_eq_true rfl)⟩) hS (fun r_87 H_87 locs hp hS => ?_)
              obtain ⟨rfl, rfl⟩ := hp
              exact g_reti hx hb hr hlocks hS rfl (⟨rfl, ⟨ct, ⟨m0, m1, m2, m3, m4, m5, m6, m7, hB, gBs⟩⟩, hK⟩) (Nat.le_of_ble_eq_true rfl) (Nat.le_of_ble_eq_true rfl) dX5_link_90
            · omega
          · omega
        · omega
      · omega
set_option maxHeartbeats 4000000 in
set_option maxRecDepth 100000 in
theorem m_link_e1 (l : Launch) (G : gG) (B : Nat → Nat) (S : cS) (th : Int) (ct : Nat → Int32) (H : Heap) (hM : Mod G B S th ct H) (hI : sInv S) (z1 z2 : Int) (hz1 : rI z1) (hz2 : rI z2) (hi : ¬ (0 ≤ z1 ∧ z1 < sn S)) : gM l yX5_link wsX5_link rm_X5_link [.ref (B 0), .int (zI z1), .int (zI z2)] G H (gi (fun r H1 => zI 0 = r ∧ MP G B S 1 H H1)) (gNo) 0 0 := by
  obtain ⟨m0, m1, m2, m3, m4, m5, m6, m7, hB, gBs⟩ := id hM
  have hn16 : sn S ≤ 16 := hI.1
  have gB0 := gBs 0 (by omega)
  have gB1 := gBs 1 (by omega)
  have gB2 := gBs 2 (by omega)
  have gB3 := gBs 3 (by omega)
  have gB4 := gBs 4 (by omega)
  have gB5 := gBs 5 (by omega)
  have gB6 := gBs 6 (by omega)
  have gB7 := gBs 7 (by omega)
  have hK : gKp (oB B) H H := gKp.rf _ _
  refine g_start (cc := cX5_link) (maxL := 4) (ret := (some .int)) (by decide +kernel) rfl (Nat.le_of_ble_eq_true rfl) ?_
  intro p e s m args below meth c F ls hl
  obtain ⟨hx, hb, hml, hr, hts, hown, hlocks, hxt, hH, hX, hin⟩ := F
  have hown : s.vm.findClass RX5 = some m.cls := hown
  have hS : va_S (gA G) s.heap H [] := by rw [hH]; exact va_S.rf
  have hl : lv_has ls 4 [(0, .ref (B 0)), (1, .int (zI z1)), (2, .int (zI z2))] := hl
  refine lv_aload_n hx hb dX5_link_0 rfl (lv_at hl 0 rfl) ?_
  refine lv_iload_n hx hb dX5_link_1 rfl (lv_at hl 1 rfl) ?_
  refine g_goi (vx_runV (As := [.int (zI z1)]) (rest := []) ⟨hx, hb, hml, hown, hts⟩ (m_isTune_f l G B S th ct H hM hI z1 hz1 hi) (cwV 1 hts gX5_link_X5_isTune rfl rfl rfl hd_X5_isTune ⟨(Nat.le_of_ble_eq_true rfl), (Nat.le_of_ble_eq_true rfl)⟩) (g_preV hX hS (ci := 5) rfl m0) rfl rfl hl.1 rfl (lv_room (Nat.le_of_ble_eq_true rfl)) dX5_link_2 ⟨(Nat.le_of_ble_eq_true rfl), (Nat.le_of_ble_eq_true rfl)⟩) hS (fun r_2 H_2 locs hp hS => ?_)
  obtain ⟨rfl, rfl⟩ := hp
  refine gz_if_eq (tgt := 20) hx hb (by decide) dX5_link_5 (by decide) (fun c_5 => ?_) (fun c_5 => ?_)
  · refine lv_iconst (v := zI 0) hx hb dX5_link_20 rfl ?_
    refine lv_istore_n (lv' := [(3, .int (zI 0)), (0, .ref (B 0)), (1, .int (zI z1)), (2, .int (zI z2))]) hx hb dX5_link_21 rfl hl (by decide) rfl (fun ls hl => ?_)
    refine lv_aload_n hx hb dX5_link_22 rfl (lv_at hl 1 rfl) ?_
    refine lv_iload_n hx hb dX5_link_23 rfl (lv_at hl 0 rfl) ?_
    refine gz_if_ne (tgt := 31) hx hb (by decide) dX5_link_24 (by decide) (fun c_24 => ?_) (fun c_24 => ?_)
    · omega
    · refine lv_iconst (v := zI 1) hx hb dX5_link_27 rfl ?_
      refine lv_goto (tgt := 54) hx hb dX5_link_28 (by decide) ?_
      refine g_goi (vx_runV (As := [.int (zI 1)]) (rest := []) ⟨hx, hb, hml, hown, hts⟩ (m_holds_k l G B S th ct H hM hI 1 (by decide) (by decide)) (cwV 1 hts gX5_link_X5_holds rfl rfl rfl hd_X5_holds ⟨(Nat.le_of_ble_eq_true rfl), (Nat.le_of_ble_eq_true rfl)⟩) (g_preV hX hS (ci := 5) rfl m0) rfl rfl hl.1 rfl (lv_room (Nat.le_of_ble_eq_true rfl)) dX5_link_54 ⟨(Nat.le_of_ble_eq_true rfl), (Nat.le_of_ble_eq_true rfl)⟩) hS (fun r_54 H_54 locs hp hS => ?_)
      obtain ⟨rfl, hM, hOh⟩ := hp
      obtain ⟨m0, m1, m2, m3, m4, m5, m6, m7, hB, gBs⟩ := id hM
      have hK := hK.trans (hOh.kp1 (oB.k (k := 0) (by omega)))
      refine gz_if_ne (tgt := 62) hx hb (by decide) dX5_link_57 (by decide) (fun c_57 => ?_) (fun c_57 => ?_)
      · omega
      · refine lv_iconst (v := zI 0) hx hb dX5_link_60 rfl ?_
        exact g_reti hx hb hr hlocks hS rfl (⟨rfl, ⟨ct, ⟨m0, m1, m2, m3, m4, m5, m6, m7, hB, gBs⟩⟩, hK⟩) (Nat.le_of_ble_eq_true rfl) (Nat.le_of_ble_eq_true rfl) dX5_link_61
  · omega
set_option maxHeartbeats 4000000 in
set_option maxRecDepth 100000 in
theorem m_link_e1b (l : Launch) (G : gG) (B : Nat → Nat) (S : cS) (th : Int) (ct : Nat → Int32) (H : Heap) (hM : Mod G B S th ct H) (hI : sInv S) (z1 z2 : Int) (i : Nat) (hz1 : z1 = i) (hi : i < sn S) (hz2 : rI z2) (hj : ¬ (0 ≤ z2 ∧ z2 < sn S)) : gM l yX5_link wsX5_link rm_X5_link [.ref (B 0), .int (zI z1), .int (zI z2)] G H (gi (fun r H1 => zI 0 = r ∧ MP G B S 1 H H1)) (gNo) 0 0 := by
  obtain ⟨m0, m1, m2, m3, m4, m5, m6, m7, hB, gBs⟩ := id hM
  have hn16 : sn S ≤ 16 := hI.1
  have gB0 := gBs 0 (by omega)
  have gB1 := gBs 1 (by omega)
  have gB2 := gBs 2 (by omega)
  have gB3 := gBs 3 (by omega)
  have gB4 := gBs 4 (by omega)
  have gB5 := gBs 5 (by omega)
  have gB6 := gBs 6 (by omega)
  have gB7 := gBs 7 (by omega)
  have hK : gKp (oB B) H H := gKp.rf _ _
  refine g_start (cc := cX5_link) (maxL := 4) (ret := (some .int)) (by decide +kernel) rfl (Nat.le_of_ble_eq_true rfl) ?_
  intro p e s m args below meth c F ls hl
  obtain ⟨hx, hb, hml, hr, hts, hown, hlocks, hxt, hH, hX, hin⟩ := F
  have hown : s.vm.findClass RX5 = some m.cls := hown
  have hS : va_S (gA G) s.heap H [] := by rw [hH]; exact va_S.rf
  have hl : lv_has ls 4 [(0, .ref (B 0)), (1, .int (zI z1)), (2, .int (zI z2))] := hl
  refine lv_aload_n hx hb dX5_link_0 rfl (lv_at hl 0 rfl) ?_
  refine lv_iload_n hx hb dX5_link_1 rfl (lv_at hl 1 rfl) ?_
  refine g_goi (vx_runV (As := [.int (zI z1)]) (rest := []) ⟨hx, hb, hml, hown, hts⟩ (m_isTune_t l G B S th ct H hM hI z1 i hz1 hi) (cwV 1 hts gX5_link_X5_isTune rfl rfl rfl hd_X5_isTune ⟨(Nat.le_of_ble_eq_true rfl), (Nat.le_of_ble_eq_true rfl)⟩) (g_preV hX hS (ci := 5) rfl m0) rfl rfl hl.1 rfl (lv_room (Nat.le_of_ble_eq_true rfl)) dX5_link_2 ⟨(Nat.le_of_ble_eq_true rfl), (Nat.le_of_ble_eq_true rfl)⟩) hS (fun r_2 H_2 locs hp hS => ?_)
  obtain ⟨rfl, rfl⟩ := hp
  refine gz_if_eq (tgt := 20) hx hb (by decide) dX5_link_5 (by decide) (fun c_5 => ?_) (fun c_5 => ?_)
  · omega
  · refine lv_aload_n hx hb dX5_link_8 rfl (lv_at hl 0 rfl) ?_
    refine lv_iload_n hx hb dX5_link_9 rfl (lv_at hl 2 rfl) ?_
    refine g_goi (vx_runV (As := [.int (zI z2)]) (rest := []) ⟨hx, hb, hml, hown, hts⟩ (m_isTune_f l G B S th ct H hM hI z2 hz2 hj) (cwV 1 hts gX5_link_X5_isTune rfl rfl rfl hd_X5_isTune ⟨(Nat.le_of_ble_eq_true rfl), (Nat.le_of_ble_eq_true rfl)⟩) (g_preV hX hS (ci := 5) rfl m0) rfl rfl hl.1 rfl (lv_room (Nat.le_of_ble_eq_true rfl)) dX5_link_10 ⟨(Nat.le_of_ble_eq_true rfl), (Nat.le_of_ble_eq_true rfl)⟩) hS (fun r_10 H_10 locs hp hS => ?_)
    obtain ⟨rfl, rfl⟩ := hp
    refine gz_if_eq (tgt := 20) hx hb (by decide) dX5_link_13 (by decide) (fun c_13 => ?_) (fun c_13 => ?_)
    · refine lv_iconst (v := zI 0) hx hb dX5_link_20 rfl ?_
      refine lv_istore_n (lv' := [(3, .int (zI 0)), (0, .ref (B 0)), (1, .int (zI z1)), (2, .int (zI z2))]) hx hb dX5_link_21 rfl hl (by decide) rfl (fun ls hl => ?_)
      refine lv_aload_n hx hb dX5_link_22 rfl (lv_at hl 1 rfl) ?_
      refine lv_iload_n hx hb dX5_link_23 rfl (lv_at hl 0 rfl) ?_
      refine gz_if_ne (tgt := 31) hx hb (by decide) dX5_link_24 (by decide) (fun c_24 => ?_) (fun c_24 => ?_)
      · omega
      · refine lv_iconst (v := zI 1) hx hb dX5_link_27 rfl ?_
        refine lv_goto (tgt := 54) hx hb dX5_link_28 (by decide) ?_
        refine g_goi (vx_runV (As := [.int (zI 1)]) (rest := []) ⟨hx, hb, hml, hown, hts⟩ (m_holds_k l G B S th ct H hM hI 1 (by decide) (by decide)) (cwV 1 hts gX5_link_X5_holds rfl rfl rfl hd_X5_holds ⟨(Nat.le_of_ble_eq_true rfl), (Nat.le_of_ble_eq_true rfl)⟩) (g_preV hX hS (ci := 5) rfl m0) rfl rfl hl.1 rfl (lv_room (Nat.le_of_ble_eq_true rfl)) dX5_link_54 ⟨(Nat.le_of_ble_eq_true rfl), (Nat.le_of_ble_eq_true rfl)⟩) hS (fun r_54 H_54 locs hp hS => ?_)
        obtain ⟨rfl, hM, hOh⟩ := hp
        obtain ⟨m0, m1, m2, m3, m4, m5, m6, m7, hB, gBs⟩ := id hM
        have hK := hK.trans (hOh.kp1 (oB.k (k := 0) (by omega)))
        refine gz_if_ne (tgt := 62) hx hb (by decide) dX5_link_57 (by decide) (fun c_57 => ?_) (fun c_57 => ?_)
        · omega
        · refine lv_iconst (v := zI 0) hx hb dX5_link_60 rfl ?_
          exact g_reti hx hb hr hlocks hS rfl (⟨rfl, ⟨ct, ⟨m0, m1, m2, m3, m4, m5, m6, m7, hB, gBs⟩⟩, hK⟩) (Nat.le_of_ble_eq_true rfl) (Nat.le_of_ble_eq_true rfl) dX5_link_61
    · omega
set_option maxHeartbeats 4000000 in
set_option maxRecDepth 100000 in
theorem m_link_e2 (l : Launch) (G : gG) (B : Nat → Nat) (S : cS) (th : Int) (ct : Nat → Int32) (H : Heap) (hM : Mod G B S th ct H) (hI : sInv S) (z1 z2 : Int) (i j : Nat) (hz1 : z1 = i) (hi : i < sn S) (hz2 : z2 = j) (hj : j < sn S) (hij : i = j) : gM l yX5_link wsX5_link rm_X5_link [.ref (B 0), .int (zI z1), .int (zI z2)] G H (gi (fun r H1 => zI 0 = r ∧ MP G B S 2 H H1)) (gNo) 0 0 := by
  obtain ⟨m0, m1, m2, m3, m4, m5, m6, m7, hB, gBs⟩ := id hM
  have hn16 : sn S ≤ 16 := hI.1
  have gB0 := gBs 0 (by omega)
  have gB1 := gBs 1 (by omega)
  have gB2 := gBs 2 (by omega)
  have gB3 := gBs 3 (by omega)
  have gB4 := gBs 4 (by omega)
  have gB5 := gBs 5 (by omega)
  have gB6 := gBs 6 (by omega)
  have gB7 := gBs 7 (by omega)
  have hK : gKp (oB B) H H := gKp.rf _ _
  refine g_start (cc := cX5_link) (maxL := 4) (ret := (some .int)) (by decide +kernel) rfl (Nat.le_of_ble_eq_true rfl) ?_
  intro p e s m args below meth c F ls hl
  obtain ⟨hx, hb, hml, hr, hts, hown, hlocks, hxt, hH, hX, hin⟩ := F
  have hown : s.vm.findClass RX5 = some m.cls := hown
  have hS : va_S (gA G) s.heap H [] := by rw [hH]; exact va_S.rf
  have hl : lv_has ls 4 [(0, .ref (B 0)), (1, .int (zI z1)), (2, .int (zI z2))] := hl
  refine lv_aload_n hx hb dX5_link_0 rfl (lv_at hl 0 rfl) ?_
  refine lv_iload_n hx hb dX5_link_1 rfl (lv_at hl 1 rfl) ?_
  refine g_goi (vx_runV (As := [.int (zI z1)]) (rest := []) ⟨hx, hb, hml, hown, hts⟩ (m_isTune_t l G B S th ct H hM hI z1 i hz1 hi) (cwV 1 hts gX5_link_X5_isTune rfl rfl rfl hd_X5_isTune ⟨(Nat.le_of_ble_eq_true rfl), (Nat.le_of_ble_eq_true rfl)⟩) (g_preV hX hS (ci := 5) rfl m0) rfl rfl hl.1 rfl (lv_room (Nat.le_of_ble_eq_true rfl)) dX5_link_2 ⟨(Nat.le_of_ble_eq_true rfl), (Nat.le_of_ble_eq_true rfl)⟩) hS (fun r_2 H_2 locs hp hS => ?_)
  obtain ⟨rfl, rfl⟩ := hp
  refine gz_if_eq (tgt := 20) hx hb (by decide) dX5_link_5 (by decide) (fun c_5 => ?_) (fun c_5 => ?_)
  · omega
  · refine lv_aload_n hx hb dX5_link_8 rfl (lv_at hl 0 rfl) ?_
    refine lv_iload_n hx hb dX5_link_9 rfl (lv_at hl 2 rfl) ?_
    refine g_goi (vx_runV (As := [.int (zI z2)]) (rest := []) ⟨hx, hb, hml, hown, hts⟩ (m_isTune_t l G B S th ct H hM hI z2 j hz2 hj) (cwV 1 hts gX5_link_X5_isTune rfl rfl rfl hd_X5_isTune ⟨(Nat.le_of_ble_eq_true rfl), (Nat.le_of_ble_eq_true rfl)⟩) (g_preV hX hS (ci := 5) rfl m0) rfl rfl hl.1 rfl (lv_room (Nat.le_of_ble_eq_true rfl)) dX5_link_10 ⟨(Nat.le_of_ble_eq_true rfl), (Nat.le_of_ble_eq_true rfl)⟩) hS (fun r_10 H_10 locs hp hS => ?_)
    obtain ⟨rfl, rfl⟩ := hp
    refine gz_if_eq (tgt := 20) hx hb (by decide) dX5_link_13 (by decide) (fun c_13 => ?_) (fun c_13 => ?_)
    · omega
    · refine lv_iconst (v := zI 1) hx hb dX5_link_16 rfl ?_
      refine lv_goto (tgt := 21) hx hb dX5_link_17 (by decide) ?_
      refine lv_istore_n (lv' := [(3, .int (zI 1)), (0, .ref (B 0)), (1, .int (zI z1)), (2, .int (zI z2))]) hx hb dX5_link_21 rfl hl (by decide) rfl (fun ls hl => ?_)
      refine lv_aload_n hx hb dX5_link_22 rfl (lv_at hl 1 rfl) ?_
      refine lv_iload_n hx hb dX5_link_23 rfl (lv_at hl 0 rfl) ?_
      refine gz_if_ne (tgt := 31) hx hb (by decide) dX5_link_24 (by decide) (fun c_24 => ?_) (fun c_24 => ?_)
      · refine lv_iload_n hx hb dX5_link_31 rfl (lv_at hl 2 rfl) ?_
        refine lv_iload_n hx hb dX5_link_32 rfl (lv_at hl 3 rfl) ?_
        refine gz_icmp_ne (tgt := 40) hx hb ⟨by omega, by omega⟩ ⟨by omega, by omega⟩ dX5_link_33 (by decide) (fun c_33 => ?_) (fun c_33 => ?_)
        · omega
        · refine lv_iconst (v := zI 2) hx hb dX5_link_36 rfl ?_
          refine lv_goto (tgt := 54) hx hb dX5_link_37 (by decide) ?_
          refine g_goi (vx_runV (As := [.int (zI 2)]) (rest := []) ⟨hx, hb, hml, hown, hts⟩ (m_holds_k l G B S th ct H hM hI 2 (by decide) (by decide)) (cwV 1 hts gX5_link_X5_holds rfl rfl rfl hd_X5_holds ⟨(Nat.le_of_ble_eq_true rfl), (Nat.le_of_ble_eq_true rfl)⟩) (g_preV hX hS (ci := 5) rfl m0) rfl rfl hl.1 rfl (lv_room (Nat.le_of_ble_eq_true rfl)) dX5_link_54 ⟨(Nat.le_of_ble_eq_true rfl), (Nat.le_of_ble_eq_true rfl)⟩) hS (fun r_54 H_54 locs hp hS => ?_)
          obtain ⟨rfl, hM, hOh⟩ := hp
          obtain ⟨m0, m1, m2, m3, m4, m5, m6, m7, hB, gBs⟩ := id hM
          have hK := hK.trans (hOh.kp1 (oB.k (k := 0) (by omega)))
          refine gz_if_ne (tgt := 62) hx hb (by decide) dX5_link_57 (by decide) (fun c_57 => ?_) (fun c_57 => ?_)
          · omega
          · refine lv_iconst (v := zI 0) hx hb dX5_link_60 rfl ?_
            exact g_reti hx hb hr hlocks hS rfl (⟨rfl, ⟨ct, ⟨m0, m1, m2, m3, m4, m5, m6, m7, hB, gBs⟩⟩, hK⟩) (Nat.le_of_ble_eq_true rfl) (Nat.le_of_ble_eq_true rfl) dX5_link_61
      · omega
set_option maxHeartbeats 4000000 in
set_option maxRecDepth 100000 in
theorem m_link_e3 (l : Launch) (G : gG) (B : Nat → Nat) (S : cS) (th : Int) (ct : Nat → Int32) (H : Heap) (hM : Mod G B S th ct H) (hI : sInv S) (z1 z2 : Int) (i j : Nat) (hz1 : z1 = i) (hi : i < sn S) (hz2 : z2 = j) (hj : j < sn S) (hij : i ≠ j) (htb : (slk S i).testBit j = true) : gM l yX5_link wsX5_link rm_X5_link [.ref (B 0), .int (zI z1), .int (zI z2)] G H (gi (fun r H1 => zI 0 = r ∧ MP G B S 3 H H1)) (gNo) 0 0 := by
  obtain ⟨m0, m1, m2, m3, m4, m5, m6, m7, hB, gBs⟩ := id hM
  have hn16 : sn S ≤ 16 := hI.1
  have gB0 := gBs 0 (by omega)
  have gB1 := gBs 1 (by omega)
  have gB2 := gBs 2 (by omega)
  have gB3 := gBs 3 (by omega)
  have gB4 := gBs 4 (by omega)
  have gB5 := gBs 5 (by omega)
  have gB6 := gBs 6 (by omega)
  have gB7 := gBs 7 (by omega)
  have hK : gKp (oB B) H H := gKp.rf _ _
  refine g_start (cc := cX5_link) (maxL := 4) (ret := (some .int)) (by decide +kernel) rfl (Nat.le_of_ble_eq_true rfl) ?_
  intro p e s m args below meth c F ls hl
  obtain ⟨hx, hb, hml, hr, hts, hown, hlocks, hxt, hH, hX, hin⟩ := F
  have hown : s.vm.findClass RX5 = some m.cls := hown
  have hS : va_S (gA G) s.heap H [] := by rw [hH]; exact va_S.rf
  have hl : lv_has ls 4 [(0, .ref (B 0)), (1, .int (zI z1)), (2, .int (zI z2))] := hl
  refine lv_aload_n hx hb dX5_link_0 rfl (lv_at hl 0 rfl) ?_
  refine lv_iload_n hx hb dX5_link_1 rfl (lv_at hl 1 rfl) ?_
  refine g_goi (vx_runV (As := [.int (zI z1)]) (rest := []) ⟨hx, hb, hml, hown, hts⟩ (m_isTune_t l G B S th ct H hM hI z1 i hz1 hi) (cwV 1 hts gX5_link_X5_isTune rfl rfl rfl hd_X5_isTune ⟨(Nat.le_of_ble_eq_true rfl), (Nat.le_of_ble_eq_true rfl)⟩) (g_preV hX hS (ci := 5) rfl m0) rfl rfl hl.1 rfl (lv_room (Nat.le_of_ble_eq_true rfl)) dX5_link_2 ⟨(Nat.le_of_ble_eq_true rfl), (Nat.le_of_ble_eq_true rfl)⟩) hS (fun r_2 H_2 locs hp hS => ?_)
  obtain ⟨rfl, rfl⟩ := hp
  refine gz_if_eq (tgt := 20) hx hb (by decide) dX5_link_5 (by decide) (fun c_5 => ?_) (fun c_5 => ?_)
  · omega
  · refine lv_aload_n hx hb dX5_link_8 rfl (lv_at hl 0 rfl) ?_
    refine lv_iload_n hx hb dX5_link_9 rfl (lv_at hl 2 rfl) ?_
    refine g_goi (vx_runV (As := [.int (zI z2)]) (rest := []) ⟨hx, hb, hml, hown, hts⟩ (m_isTune_t l G B S th ct H hM hI z2 j hz2 hj) (cwV 1 hts gX5_link_X5_isTune rfl rfl rfl hd_X5_isTune ⟨(Nat.le_of_ble_eq_true rfl), (Nat.le_of_ble_eq_true rfl)⟩) (g_preV hX hS (ci := 5) rfl m0) rfl rfl hl.1 rfl (lv_room (Nat.le_of_ble_eq_true rfl)) dX5_link_10 ⟨(Nat.le_of_ble_eq_true rfl), (Nat.le_of_ble_eq_true rfl)⟩) hS (fun r_10 H_10 locs hp hS => ?_)
    obtain ⟨rfl, rfl⟩ := hp
    refine gz_if_eq (tgt := 20) hx hb (by decide) dX5_link_13 (by decide) (fun c_13 => ?_) (fun c_13 => ?_)
    · omega
    · refine lv_iconst (v := zI 1) hx hb dX5_link_16 rfl ?_
      refine lv_goto (tgt := 21) hx hb dX5_link_17 (by decide) ?_
      refine lv_istore_n (lv' := [(3, .int (zI 1)), (0, .ref (B 0)), (1, .int (zI z1)), (2, .int (zI z2))]) hx hb dX5_link_21 rfl hl (by decide) rfl (fun ls hl => ?_)
      refine lv_aload_n hx hb dX5_link_22 rfl (lv_at hl 1 rfl) ?_
      refine lv_iload_n hx hb dX5_link_23 rfl (lv_at hl 0 rfl) ?_
      refine gz_if_ne (tgt := 31) hx hb (by decide) dX5_link_24 (by decide) (fun c_24 => ?_) (fun c_24 => ?_)
      · refine lv_iload_n hx hb dX5_link_31 rfl (lv_at hl 2 rfl) ?_
        refine lv_iload_n hx hb dX5_link_32 rfl (lv_at hl 3 rfl) ?_
        refine gz_icmp_ne (tgt := 40) hx hb ⟨by omega, by omega⟩ ⟨by omega, by omega⟩ dX5_link_33 (by decide) (fun c_33 => ?_) (fun c_33 => ?_)
        · refine lv_aload_n hx hb dX5_link_40 rfl (lv_at hl 1 rfl) ?_
          refine lv_iload_n hx hb dX5_link_41 rfl (lv_at hl 2 rfl) ?_
          refine lv_iload_n hx hb dX5_link_42 rfl (lv_at hl 3 rfl) ?_
          refine g_goi (vx_runV (As := [.int (zI z1), .int (zI z2)]) (rest := [.ref (B 0)]) ⟨hx, hb, hml, hown, hts⟩ (m_areLinked_t l G B S th ct H hM hI z1 z2 i j hz1 hi hz2 hj htb) (cwV 2 hts gX5_link_X5_areLinked rfl rfl rfl hd_X5_areLinked ⟨(Nat.le_of_ble_eq_true rfl), (Nat.le_of_ble_eq_true rfl)⟩) (g_preV hX hS (ci := 5) rfl m0) rfl rfl hl.1 rfl (lv_room (Nat.le_of_ble_eq_true rfl)) dX5_link_43 ⟨(Nat.le_of_ble_eq_true rfl), (Nat.le_of_ble_eq_true rfl)⟩) hS (fun r_43 H_43 locs hp hS => ?_)
          obtain ⟨rfl, rfl⟩ := hp
          refine gz_if_eq (tgt := 53) hx hb (by decide) dX5_link_46 (by decide) (fun c_46 => ?_) (fun c_46 => ?_)
          · omega
          · refine lv_iconst (v := zI 3) hx hb dX5_link_49 rfl ?_
            refine lv_goto (tgt := 54) hx hb dX5_link_50 (by decide) ?_
            refine g_goi (vx_runV (As := [.int (zI 3)]) (rest := []) ⟨hx, hb, hml, hown, hts⟩ (m_holds_k l G B S th ct H hM hI 3 (by decide) (by decide)) (cwV 1 hts gX5_link_X5_holds rfl rfl rfl hd_X5_holds ⟨(Nat.le_of_ble_eq_true rfl), (Nat.le_of_ble_eq_true rfl)⟩) (g_preV hX hS (ci := 5) rfl m0) rfl rfl hl.1 rfl (lv_room (Nat.le_of_ble_eq_true rfl)) dX5_link_54 ⟨(Nat.le_of_ble_eq_true rfl), (Nat.le_of_ble_eq_true rfl)⟩) hS (fun r_54 H_54 locs hp hS => ?_)
            obtain ⟨rfl, hM, hOh⟩ := hp
            obtain ⟨m0, m1, m2, m3, m4, m5, m6, m7, hB, gBs⟩ := id hM
            have hK := hK.trans (hOh.kp1 (oB.k (k := 0) (by omega)))
            refine gz_if_ne (tgt := 62) hx hb (by decide) dX5_link_57 (by decide) (fun c_57 => ?_) (fun c_57 => ?_)
            · omega
            · refine lv_iconst (v := zI 0) hx hb dX5_link_60 rfl ?_
              exact g_reti hx hb hr hlocks hS rfl (⟨rfl, ⟨ct, ⟨m0, m1, m2, m3, m4, m5, m6, m7, hB, gBs⟩⟩, hK⟩) (Nat.le_of_ble_eq_true rfl) (Nat.le_of_ble_eq_true rfl) dX5_link_61
        · omega
      · omega
set_option maxHeartbeats 4000000 in
set_option maxRecDepth 100000 in
theorem m_cut_ok (l : Launch) (G : gG) (B : Nat → Nat) (S : cS) (th : Int) (ct : Nat → Int32) (H : Heap) (hM : Mod G B S th ct H) (hI : sInv S) (z1 z2 : Int) (i j : Nat) (hz1 : z1 = i) (hi : i < sn S) (hz2 : z2 = j) (hj : j < sn S) (hI2 : sInv (sLnk S i j)) (hij : i ≠ j) (htb : (slk S i).testBit j = true) : gM l yX5_cut wsX5_cut rm_X5_cut [.ref (B 0), .int (zI z1), .int (zI z2)] G H (gi (fun r H1 => zI ((famC (lkT (slk S) i j) (sn S) (sn S) : Nat) : Int) = r ∧ MP G B (sLnk S i j) 0 H H1)) (gNo) 0 0 := by
  obtain ⟨m0, m1, m2, m3, m4, m5, m6, m7, hB, gBs⟩ := id hM
  have hn16 : sn S ≤ 16 := hI.1
  have gB0 := gBs 0 (by omega)
  have gB1 := gBs 1 (by omega)
  have gB2 := gBs 2 (by omega)
  have gB3 := gBs 3 (by omega)
  have gB4 := gBs 4 (by omega)
  have gB5 := gBs 5 (by omega)
  have gB6 := gBs 6 (by omega)
  have gB7 := gBs 7 (by omega)
  have hK : gKp (oB B) H H := gKp.rf _ _
  have htb2 : (slk S j).testBit i = true := by rw [← hI.2.2.2.2.2.2.2.2.2.2.2 i j]; exact htb
  have hli := slk_lt hI i
  have hlj := slk_lt hI j
  refine g_start (cc := cX5_cut) (maxL := 4) (ret := (some .int)) (by decide +kernel) rfl (Nat.le_of_ble_eq_true rfl) ?_
  intro p e s m args below meth c F ls hl
  obtain ⟨hx, hb, hml, hr, hts, hown, hlocks, hxt, hH, hX, hin⟩ := F
  have hown : s.vm.findClass RX5 = some m.cls := hown
  have hS : va_S (gA G) s.heap H [] := by rw [hH]; exact va_S.rf
  have hl : lv_has ls 4 [(0, .ref (B 0)), (1, .int (zI z1)), (2, .int (zI z2))] := hl
  refine lv_aload_n hx hb dX5_cut_0 rfl (lv_at hl 0 rfl) ?_
  refine lv_iload_n hx hb dX5_cut_1 rfl (lv_at hl 1 rfl) ?_
  refine g_goi (vx_runV (As := [.int (zI z1)]) (rest := []) ⟨hx, hb, hml, hown, hts⟩ (m_isTune_t l G B S th ct H hM hI z1 i hz1 hi) (cwV 1 hts gX5_cut_X5_isTune rfl rfl rfl hd_X5_isTune ⟨(Nat.le_of_ble_eq_true rfl), (Nat.le_of_ble_eq_true rfl)⟩) (g_preV hX hS (ci := 5) rfl m0) rfl rfl hl.1 rfl (lv_room (Nat.le_of_ble_eq_true rfl)) dX5_cut_2 ⟨(Nat.le_of_ble_eq_true rfl), (Nat.le_of_ble_eq_true rfl)⟩) hS (fun r_2 H_2 locs hp hS => ?_)
  obtain ⟨rfl, rfl⟩ := hp
  refine gz_if_eq (tgt := 20) hx hb (by decide) dX5_cut_5 (by decide) (fun c_5 => ?_) (fun c_5 => ?_)
  · omega
  · refine lv_aload_n hx hb dX5_cut_8 rfl (lv_at hl 0 rfl) ?_
    refine lv_iload_n hx hb dX5_cut_9 rfl (lv_at hl 2 rfl) ?_
    refine g_goi (vx_runV (As := [.int (zI z2)]) (rest := []) ⟨hx, hb, hml, hown, hts⟩ (m_isTune_t l G B S th ct H hM hI z2 j hz2 hj) (cwV 1 hts gX5_cut_X5_isTune rfl rfl rfl hd_X5_isTune ⟨(Nat.le_of_ble_eq_true rfl), (Nat.le_of_ble_eq_true rfl)⟩) (g_preV hX hS (ci := 5) rfl m0) rfl rfl hl.1 rfl (lv_room (Nat.le_of_ble_eq_true rfl)) dX5_cut_10 ⟨(Nat.le_of_ble_eq_true rfl), (Nat.le_of_ble_eq_true rfl)⟩) hS (fun r_10 H_10 locs hp hS => ?_)
    obtain ⟨rfl, rfl⟩ := hp
    refine gz_if_eq (tgt := 20) hx hb (by decide) dX5_cut_13 (by decide) (fun c_13 => ?_) (fun c_13 => ?_)
    · omega
    · refine lv_iconst (v := zI 1) hx hb dX5_cut_16 rfl ?_
      refine lv_goto (tgt := 21) hx hb dX5_cut_17 (by decide) ?_
      refine lv_istore_n (lv' := [(3, .int (zI 1)), (0, .ref (B 0)), (1, .int (zI z1)), (2, .int (zI z2))]) hx hb dX5_cut_21 rfl hl (by decide) rfl (fun ls hl => ?_)
      refine lv_aload_n hx hb dX5_cut_22 rfl (lv_at hl 1 rfl) ?_
      refine lv_iload_n hx hb dX5_cut_23 rfl (lv_at hl 0 rfl) ?_
      refine gz_if_ne (tgt := 31) hx hb (by decide) dX5_cut_24 (by decide) (fun c_24 => ?_) (fun c_24 => ?_)
      · refine lv_aload_n hx hb dX5_cut_31 rfl (lv_at hl 1 rfl) ?_
        refine lv_iload_n hx hb dX5_cut_32 rfl (lv_at hl 2 rfl) ?_
        refine lv_iload_n hx hb dX5_cut_33 rfl (lv_at hl 3 rfl) ?_
        refine g_goi (vx_runV (As := [.int (zI z1), .int (zI z2)]) (rest := [.ref (B 0)]) ⟨hx, hb, hml, hown, hts⟩ (m_areLinked_t l G B S th ct H hM hI z1 z2 i j hz1 hi hz2 hj htb) (cwV 2 hts gX5_cut_X5_areLinked rfl rfl rfl hd_X5_areLinked ⟨(Nat.le_of_ble_eq_true rfl), (Nat.le_of_ble_eq_true rfl)⟩) (g_preV hX hS (ci := 5) rfl m0) rfl rfl hl.1 rfl (lv_room (Nat.le_of_ble_eq_true rfl)) dX5_cut_34 ⟨(Nat.le_of_ble_eq_true rfl), (Nat.le_of_ble_eq_true rfl)⟩) hS (fun r_34 H_34 locs hp hS => ?_)
        obtain ⟨rfl, rfl⟩ := hp
        refine gz_if_eq (tgt := 44) hx hb (by decide) dX5_cut_37 (by decide) (fun c_37 => ?_) (fun c_37 => ?_)
        · omega
        · refine lv_iconst (v := zI 0) hx hb dX5_cut_40 rfl ?_
          refine lv_goto (tgt := 45) hx hb dX5_cut_41 (by decide) ?_
          refine g_goi (vx_runV (As := [.int (zI 0)]) (rest := []) ⟨hx, hb, hml, hown, hts⟩ (m_holds_0 l G B S th ct H hM hI 0 rfl) (cwV 1 hts gX5_cut_X5_holds rfl rfl rfl hd_X5_holds ⟨(Nat.le_of_ble_eq_true rfl), (Nat.le_of_ble_eq_true rfl)⟩) (g_preV hX hS (ci := 5) rfl m0) rfl rfl hl.1 rfl (lv_room (Nat.le_of_ble_eq_true rfl)) dX5_cut_45 ⟨(Nat.le_of_ble_eq_true rfl), (Nat.le_of_ble_eq_true rfl)⟩) hS (fun r_45 H_45 locs hp hS => ?_)
          obtain ⟨rfl, hM, hOh⟩ := hp
          obtain ⟨m0, m1, m2, m3, m4, m5, m6, m7, hB, gBs⟩ := id hM
          have hK := hK.trans (hOh.kp1 (oB.k (k := 0) (by omega)))
          refine gz_if_ne (tgt := 53) hx hb (by decide) dX5_cut_48 (by decide) (fun c_48 => ?_) (fun c_48 => ?_)
          · refine lv_aload_n hx hb dX5_cut_53 rfl (lv_at hl 1 rfl) ?_
            refine g_get hx hb hX hts (fun w h => (List.mem_cons_of_mem _ (List.mem_append_right _ h))) hown m0 rfl 12 (by decide) (hts (.fieldLink RX5 39 "TuneCatalogueModel" "links" "[I") (List.mem_cons_of_mem _ (List.mem_append_left _ (List.mem_append_left _ (List.mem_of_getElem? (i := 0) rfl))))) rfl dX5_cut_54 ?_
            refine lv_iload_n hx hb dX5_cut_57 rfl (lv_at hl 2 rfl) ?_
            refine lv_dup2_11 hx hb dX5_cut_58 rfl rfl ?_
            refine gz_iald hx hb hX m7 i (by omega) (by omega) (by omega) dX5_cut_59 ?_
            refine lv_iconst (v := zI 1) hx hb dX5_cut_60 rfl ?_
            refine lv_iload_n hx hb dX5_cut_61 rfl (lv_at hl 3 rfl) ?_
            refine gz_ishl hx hb j rfl (by omega) (by omega) dX5_cut_62 ?_
            refine lv_iconst (v := zI (-1)) hx hb dX5_cut_63 rfl ?_
            refine lv_ixor hx hb dX5_cut_64 ?_
            refine lv_iand hx hb dX5_cut_65 ?_
            refine gz_iast hx hb hX hS m7 gB7 i (by omega) (by omega) (by omega) dX5_cut_66 (fun H_66 locs h_n hO hS => ?_)
            rw [zI_andnot (by omega) (by omega) htb, zupN] at h_n
            have m0 := gat.only1 m0 hO (hB 0 7 (by omega) (by omega) (by omega))
            have m1 := gat.only1 m1 hO (hB 1 7 (by omega) (by omega) (by omega))
            have m2 := gat.only1 m2 hO (hB 2 7 (by omega) (by omega) (by omega))
            have m3 := gat.only1 m3 hO (hB 3 7 (by omega) (by omega) (by omega))
            have m4 := gat.only1 m4 hO (hB 4 7 (by omega) (by omega) (by omega))
            have m5 := gat.only1 m5 hO (hB 5 7 (by omega) (by omega) (by omega))
            have m6 := gat.only1 m6 hO (hB 6 7 (by omega) (by omega) (by omega))
            have m7 : gat G (B 7) (.inl (gI G, 16, .inl (fun j2 => zI ((va_up (slk S) i (slk S i ^^^ 2 ^ j) j2 : Nat) : Int)))) H_66 := h_n
            have hK := hK.trans (hO.kp1 (oB.k (k := 7) (by omega)))
            refine lv_aload_n hx hb dX5_cut_67 rfl (lv_at hl 1 rfl) ?_
            refine g_get hx hb hX hts (fun w h => (List.mem_cons_of_mem _ (List.mem_append_right _ h))) hown m0 rfl 12 (by decide) (hts (.fieldLink RX5 39 "TuneCatalogueModel" "links" "[I") (List.mem_cons_of_mem _ (List.mem_append_left _ (List.mem_append_left _ (List.mem_of_getElem? (i := 0) rfl))))) rfl dX5_cut_68 ?_
            refine lv_iload_n hx hb dX5_cut_71 rfl (lv_at hl 3 rfl) ?_
            refine lv_dup2_11 hx hb dX5_cut_72 rfl rfl ?_
            refine gz_iald hx hb hX m7 j (by omega) (by omega) (by omega) dX5_cut_73 ?_
            rw [show va_up (slk S) i (slk S i ^^^ 2 ^ j) j = slk S j from if_neg (Ne.symm hij)]
            refine lv_iconst (v := zI 1) hx hb dX5_cut_74 rfl ?_
            refine lv_iload_n hx hb dX5_cut_75 rfl (lv_at hl 2 rfl) ?_
            refine gz_ishl hx hb i rfl (by omega) (by omega) dX5_cut_76 ?_
            refine lv_iconst (v := zI (-1)) hx hb dX5_cut_77 rfl ?_
            refine lv_ixor hx hb dX5_cut_78 ?_
            refine lv_iand hx hb dX5_cut_79 ?_
            refine gz_iast hx hb hX hS m7 gB7 j (by omega) (by omega) (by omega) dX5_cut_80 (fun H_80 locs h_n hO hS => ?_)
            rw [zI_andnot (by omega) (by omega) htb2, zupN] at h_n
            have m0 := gat.only1 m0 hO (hB 0 7 (by omega) (by omega) (by omega))
            have m1 := gat.only1 m1 hO (hB 1 7 (by omega) (by omega) (by omega))
            have m2 := gat.only1 m2 hO (hB 2 7 (by omega) (by omega) (by omega))
            have m3 := gat.only1 m3 hO (hB 3 7 (by omega) (by omega) (by omega))
            have m4 := gat.only1 m4 hO (hB 4 7 (by omega) (by omega) (by omega))
            have m5 := gat.only1 m5 hO (hB 5 7 (by omega) (by omega) (by omega))
            have m6 := gat.only1 m6 hO (hB 6 7 (by omega) (by omega) (by omega))
            have m7 : gat G (B 7) (.inl (gI G, 16, .inl (fun j2 => zI ((lkT (slk S) i j j2 : Nat) : Int)))) H_80 := h_n
            have hK := hK.trans (hO.kp1 (oB.k (k := 7) (by omega)))
            have hM : Mod G B (sLnk S i j) 0 ct H_80 := ⟨m0, m1, m2, m3, m4, m5, m6, m7, hB, gBs⟩
            refine lv_aload_n hx hb dX5_cut_81 rfl (lv_at hl 1 rfl) ?_
            refine g_goi (vx_runV (As := []) (rest := []) ⟨hx, hb, hml, hown, hts⟩ (m_familiesOf l G B (sLnk S i j) 0 ct H_80 hM hI2) (cwV 0 hts gX5_cut_X5_familiesOf rfl rfl rfl hd_X5_familiesOf ⟨(Nat.le_of_ble_eq_true rfl), (Nat.le_of_ble_eq_true rfl)⟩) (g_preV hX hS (ci := 5) rfl m0) rfl rfl hl.1 rfl (lv_room (Nat.le_of_ble_eq_true rfl)) dX5_cut_82 ⟨(Nat.le_of_ble_eq_true rfl), (Nat.le_of_ble_eq_true rfl)⟩) hS (fun r_82 H_82 locs hp hS => ?_)
            obtain ⟨rfl, rfl⟩ := hp
            exact g_reti hx hb hr hlocks hS rfl (⟨rfl, ⟨ct, ⟨m0, m1, m2, m3, m4, m5, m6, m7, hB, gBs⟩⟩, hK⟩) (Nat.le_of_ble_eq_true rfl) (Nat.le_of_ble_eq_true rfl) dX5_cut_85
          · omega
      · omega
set_option maxHeartbeats 4000000 in
set_option maxRecDepth 100000 in
theorem m_cut_e1 (l : Launch) (G : gG) (B : Nat → Nat) (S : cS) (th : Int) (ct : Nat → Int32) (H : Heap) (hM : Mod G B S th ct H) (hI : sInv S) (z1 z2 : Int) (hz1 : rI z1) (hz2 : rI z2) (hi : ¬ (0 ≤ z1 ∧ z1 < sn S)) : gM l yX5_cut wsX5_cut rm_X5_cut [.ref (B 0), .int (zI z1), .int (zI z2)] G H (gi (fun r H1 => zI 0 = r ∧ MP G B S 1 H H1)) (gNo) 0 0 := by
  obtain ⟨m0, m1, m2, m3, m4, m5, m6, m7, hB, gBs⟩ := id hM
  have hn16 : sn S ≤ 16 := hI.1
  have gB0 := gBs 0 (by omega)
  have gB1 := gBs 1 (by omega)
  have gB2 := gBs 2 (by omega)
  have gB3 := gBs 3 (by omega)
  have gB4 := gBs 4 (by omega)
  have gB5 := gBs 5 (by omega)
  have gB6 := gBs 6 (by omega)
  have gB7 := gBs 7 (by omega)
  have hK : gKp (oB B) H H := gKp.rf _ _
  refine g_start (cc := cX5_cut) (maxL := 4) (ret := (some .int)) (by decide +kernel) rfl (Nat.le_of_ble_eq_true rfl) ?_
  intro p e s m args below meth c F ls hl
  obtain ⟨hx, hb, hml, hr, hts, hown, hlocks, hxt, hH, hX, hin⟩ := F
  have hown : s.vm.findClass RX5 = some m.cls := hown
  have hS : va_S (gA G) s.heap H [] := by rw [hH]; exact va_S.rf
  have hl : lv_has ls 4 [(0, .ref (B 0)), (1, .int (zI z1)), (2, .int (zI z2))] := hl
  refine lv_aload_n hx hb dX5_cut_0 rfl (lv_at hl 0 rfl) ?_
  refine lv_iload_n hx hb dX5_cut_1 rfl (lv_at hl 1 rfl) ?_
  refine g_goi (vx_runV (As := [.int (zI z1)]) (rest := []) ⟨hx, hb, hml, hown, hts⟩ (m_isTune_f l G B S th ct H hM hI z1 hz1 hi) (cwV 1 hts gX5_cut_X5_isTune rfl rfl rfl hd_X5_isTune ⟨(Nat.le_of_ble_eq_true rfl), (Nat.le_of_ble_eq_true rfl)⟩) (g_preV hX hS (ci := 5) rfl m0) rfl rfl hl.1 rfl (lv_room (Nat.le_of_ble_eq_true rfl)) dX5_cut_2 ⟨(Nat.le_of_ble_eq_true rfl), (Nat.le_of_ble_eq_true rfl)⟩) hS (fun r_2 H_2 locs hp hS => ?_)
  obtain ⟨rfl, rfl⟩ := hp
  refine gz_if_eq (tgt := 20) hx hb (by decide) dX5_cut_5 (by decide) (fun c_5 => ?_) (fun c_5 => ?_)
  · refine lv_iconst (v := zI 0) hx hb dX5_cut_20 rfl ?_
    refine lv_istore_n (lv' := [(3, .int (zI 0)), (0, .ref (B 0)), (1, .int (zI z1)), (2, .int (zI z2))]) hx hb dX5_cut_21 rfl hl (by decide) rfl (fun ls hl => ?_)
    refine lv_aload_n hx hb dX5_cut_22 rfl (lv_at hl 1 rfl) ?_
    refine lv_iload_n hx hb dX5_cut_23 rfl (lv_at hl 0 rfl) ?_
    refine gz_if_ne (tgt := 31) hx hb (by decide) dX5_cut_24 (by decide) (fun c_24 => ?_) (fun c_24 => ?_)
    · omega
    · refine lv_iconst (v := zI 1) hx hb dX5_cut_27 rfl ?_
      refine lv_goto (tgt := 45) hx hb dX5_cut_28 (by decide) ?_
      refine g_goi (vx_runV (As := [.int (zI 1)]) (rest := []) ⟨hx, hb, hml, hown, hts⟩ (m_holds_k l G B S th ct H hM hI 1 (by decide) (by decide)) (cwV 1 hts gX5_cut_X5_holds rfl rfl rfl hd_X5_holds ⟨(Nat.le_of_ble_eq_true rfl), (Nat.le_of_ble_eq_true rfl)⟩) (g_preV hX hS (ci := 5) rfl m0) rfl rfl hl.1 rfl (lv_room (Nat.le_of_ble_eq_true rfl)) dX5_cut_45 ⟨(Nat.le_of_ble_eq_true rfl), (Nat.le_of_ble_eq_true rfl)⟩) hS (fun r_45 H_45 locs hp hS => ?_)
      obtain ⟨rfl, hM, hOh⟩ := hp
      obtain ⟨m0, m1, m2, m3, m4, m5, m6, m7, hB, gBs⟩ := id hM
      have hK := hK.trans (hOh.kp1 (oB.k (k := 0) (by omega)))
      refine gz_if_ne (tgt := 53) hx hb (by decide) dX5_cut_48 (by decide) (fun c_48 => ?_) (fun c_48 => ?_)
      · omega
      · refine lv_iconst (v := zI 0) hx hb dX5_cut_51 rfl ?_
        exact g_reti hx hb hr hlocks hS rfl (⟨rfl, ⟨ct, ⟨m0, m1, m2, m3, m4, m5, m6, m7, hB, gBs⟩⟩, hK⟩) (Nat.le_of_ble_eq_true rfl) (Nat.le_of_ble_eq_true rfl) dX5_cut_52
  · omega
set_option maxHeartbeats 4000000 in
set_option maxRecDepth 100000 in
theorem m_cut_e1b (l : Launch) (G : gG) (B : Nat → Nat) (S : cS) (th : Int) (ct : Nat → Int32) (H : Heap) (hM : Mod G B S th ct H) (hI : sInv S) (z1 z2 : Int) (i : Nat) (hz1 : z1 = i) (hi : i < sn S) (hz2 : rI z2) (hj : ¬ (0 ≤ z2 ∧ z2 < sn S)) : gM l yX5_cut wsX5_cut rm_X5_cut [.ref (B 0), .int (zI z1), .int (zI z2)] G H (gi (fun r H1 => zI 0 = r ∧ MP G B S 1 H H1)) (gNo) 0 0 := by
  obtain ⟨m0, m1, m2, m3, m4, m5, m6, m7, hB, gBs⟩ := id hM
  have hn16 : sn S ≤ 16 := hI.1
  have gB0 := gBs 0 (by omega)
  have gB1 := gBs 1 (by omega)
  have gB2 := gBs 2 (by omega)
  have gB3 := gBs 3 (by omega)
  have gB4 := gBs 4 (by omega)
  have gB5 := gBs 5 (by omega)
  have gB6 := gBs 6 (by omega)
  have gB7 := gBs 7 (by omega)
  have hK : gKp (oB B) H H := gKp.rf _ _
  refine g_start (cc := cX5_cut) (maxL := 4) (ret := (some .int)) (by decide +kernel) rfl (Nat.le_of_ble_eq_true rfl) ?_
  intro p e s m args below meth c F ls hl
  obtain ⟨hx, hb, hml, hr, hts, hown, hlocks, hxt, hH, hX, hin⟩ := F
  have hown : s.vm.findClass RX5 = some m.cls := hown
  have hS : va_S (gA G) s.heap H [] := by rw [hH]; exact va_S.rf
  have hl : lv_has ls 4 [(0, .ref (B 0)), (1, .int (zI z1)), (2, .int (zI z2))] := hl
  refine lv_aload_n hx hb dX5_cut_0 rfl (lv_at hl 0 rfl) ?_
  refine lv_iload_n hx hb dX5_cut_1 rfl (lv_at hl 1 rfl) ?_
  refine g_goi (vx_runV (As := [.int (zI z1)]) (rest := []) ⟨hx, hb, hml, hown, hts⟩ (m_isTune_t l G B S th ct H hM hI z1 i hz1 hi) (cwV 1 hts gX5_cut_X5_isTune rfl rfl rfl hd_X5_isTune ⟨(Nat.le_of_ble_eq_true rfl), (Nat.le_of_ble_eq_true rfl)⟩) (g_preV hX hS (ci := 5) rfl m0) rfl rfl hl.1 rfl (lv_room (Nat.le_of_ble_eq_true rfl)) dX5_cut_2 ⟨(Nat.le_of_ble_eq_true rfl), (Nat.le_of_ble_eq_true rfl)⟩) hS (fun r_2 H_2 locs hp hS => ?_)
  obtain ⟨rfl, rfl⟩ := hp
  refine gz_if_eq (tgt := 20) hx hb (by decide) dX5_cut_5 (by decide) (fun c_5 => ?_) (fun c_5 => ?_)
  · omega
  · refine lv_aload_n hx hb dX5_cut_8 rfl (lv_at hl 0 rfl) ?_
    refine lv_iload_n hx hb dX5_cut_9 rfl (lv_at hl 2 rfl) ?_
    refine g_goi (vx_runV (As := [.int (zI z2)]) (rest := []) ⟨hx, hb, hml, hown, hts⟩ (m_isTune_f l G B S th ct H hM hI z2 hz2 hj) (cwV 1 hts gX5_cut_X5_isTune rfl rfl rfl hd_X5_isTune ⟨(Nat.le_of_ble_eq_true rfl), (Nat.le_of_ble_eq_true rfl)⟩) (g_preV hX hS (ci := 5) rfl m0) rfl rfl hl.1 rfl (lv_room (Nat.le_of_ble_eq_true rfl)) dX5_cut_10 ⟨(Nat.le_of_ble_eq_true rfl), (Nat.le_of_ble_eq_true rfl)⟩) hS (fun r_10 H_10 locs hp hS => ?_)
    obtain ⟨rfl, rfl⟩ := hp
    refine gz_if_eq (tgt := 20) hx hb (by decide) dX5_cut_13 (by decide) (fun c_13 => ?_) (fun c_13 => ?_)
    · refine lv_iconst (v := zI 0) hx hb dX5_cut_20 rfl ?_
      refine lv_istore_n (lv' := [(3, .int (zI 0)), (0, .ref (B 0)), (1, .int (zI z1)), (2, .int (zI z2))]) hx hb dX5_cut_21 rfl hl (by decide) rfl (fun ls hl => ?_)
      refine lv_aload_n hx hb dX5_cut_22 rfl (lv_at hl 1 rfl) ?_
      refine lv_iload_n hx hb dX5_cut_23 rfl (lv_at hl 0 rfl) ?_
      refine gz_if_ne (tgt := 31) hx hb (by decide) dX5_cut_24 (by decide) (fun c_24 => ?_) (fun c_24 => ?_)
      · omega
      · refine lv_iconst (v := zI 1) hx hb dX5_cut_27 rfl ?_
        refine lv_goto (tgt := 45) hx hb dX5_cut_28 (by decide) ?_
        refine g_goi (vx_runV (As := [.int (zI 1)]) (rest := []) ⟨hx, hb, hml, hown, hts⟩ (m_holds_k l G B S th ct H hM hI 1 (by decide) (by decide)) (cwV 1 hts gX5_cut_X5_holds rfl rfl rfl hd_X5_holds ⟨(Nat.le_of_ble_eq_true rfl), (Nat.le_of_ble_eq_true rfl)⟩) (g_preV hX hS (ci := 5) rfl m0) rfl rfl hl.1 rfl (lv_room (Nat.le_of_ble_eq_true rfl)) dX5_cut_45 ⟨(Nat.le_of_ble_eq_true rfl), (Nat.le_of_ble_eq_true rfl)⟩) hS (fun r_45 H_45 locs hp hS => ?_)
        obtain ⟨rfl, hM, hOh⟩ := hp
        obtain ⟨m0, m1, m2, m3, m4, m5, m6, m7, hB, gBs⟩ := id hM
        have hK := hK.trans (hOh.kp1 (oB.k (k := 0) (by omega)))
        refine gz_if_ne (tgt := 53) hx hb (by decide) dX5_cut_48 (by decide) (fun c_48 => ?_) (fun c_48 => ?_)
        · omega
        · refine lv_iconst (v := zI 0) hx hb dX5_cut_51 rfl ?_
          exact g_reti hx hb hr hlocks hS rfl (⟨rfl, ⟨ct, ⟨m0, m1, m2, m3, m4, m5, m6, m7, hB, gBs⟩⟩, hK⟩) (Nat.le_of_ble_eq_true rfl) (Nat.le_of_ble_eq_true rfl) dX5_cut_52
    · omega
set_option maxHeartbeats 4000000 in
set_option maxRecDepth 100000 in
theorem m_cut_e2 (l : Launch) (G : gG) (B : Nat → Nat) (S : cS) (th : Int) (ct : Nat → Int32) (H : Heap) (hM : Mod G B S th ct H) (hI : sInv S) (z1 z2 : Int) (i j : Nat) (hz1 : z1 = i) (hi : i < sn S) (hz2 : z2 = j) (hj : j < sn S) (htb : (slk S i).testBit j = false) : gM l yX5_cut wsX5_cut rm_X5_cut [.ref (B 0), .int (zI z1), .int (zI z2)] G H (gi (fun r H1 => zI 0 = r ∧ MP G B S 2 H H1)) (gNo) 0 0 := by
  obtain ⟨m0, m1, m2, m3, m4, m5, m6, m7, hB, gBs⟩ := id hM
  have hn16 : sn S ≤ 16 := hI.1
  have gB0 := gBs 0 (by omega)
  have gB1 := gBs 1 (by omega)
  have gB2 := gBs 2 (by omega)
  have gB3 := gBs 3 (by omega)
  have gB4 := gBs 4 (by omega)
  have gB5 := gBs 5 (by omega)
  have gB6 := gBs 6 (by omega)
  have gB7 := gBs 7 (by omega)
  have hK : gKp (oB B) H H := gKp.rf _ _
  refine g_start (cc := cX5_cut) (maxL := 4) (ret := (some .int)) (by decide +kernel) rfl (Nat.le_of_ble_eq_true rfl) ?_
  intro p e s m args below meth c F ls hl
  obtain ⟨hx, hb, hml, hr, hts, hown, hlocks, hxt, hH, hX, hin⟩ := F
  have hown : s.vm.findClass RX5 = some m.cls := hown
  have hS : va_S (gA G) s.heap H [] := by rw [hH]; exact va_S.rf
  have hl : lv_has ls 4 [(0, .ref (B 0)), (1, .int (zI z1)), (2, .int (zI z2))] := hl
  refine lv_aload_n hx hb dX5_cut_0 rfl (lv_at hl 0 rfl) ?_
  refine lv_iload_n hx hb dX5_cut_1 rfl (lv_at hl 1 rfl) ?_
  refine g_goi (vx_runV (As := [.int (zI z1)]) (rest := []) ⟨hx, hb, hml, hown, hts⟩ (m_isTune_t l G B S th ct H hM hI z1 i hz1 hi) (cwV 1 hts gX5_cut_X5_isTune rfl rfl rfl hd_X5_isTune ⟨(Nat.le_of_ble_eq_true rfl), (Nat.le_of_ble_eq_true rfl)⟩) (g_preV hX hS (ci := 5) rfl m0) rfl rfl hl.1 rfl (lv_room (Nat.le_of_ble_eq_true rfl)) dX5_cut_2 ⟨(Nat.le_of_ble_eq_true rfl), (Nat.le_of_ble_eq_true rfl)⟩) hS (fun r_2 H_2 locs hp hS => ?_)
  obtain ⟨rfl, rfl⟩ := hp
  refine gz_if_eq (tgt := 20) hx hb (by decide) dX5_cut_5 (by decide) (fun c_5 => ?_) (fun c_5 => ?_)
  · omega
  · refine lv_aload_n hx hb dX5_cut_8 rfl (lv_at hl 0 rfl) ?_
    refine lv_iload_n hx hb dX5_cut_9 rfl (lv_at hl 2 rfl) ?_
    refine g_goi (vx_runV (As := [.int (zI z2)]) (rest := []) ⟨hx, hb, hml, hown, hts⟩ (m_isTune_t l G B S th ct H hM hI z2 j hz2 hj) (cwV 1 hts gX5_cut_X5_isTune rfl rfl rfl hd_X5_isTune ⟨(Nat.le_of_ble_eq_true rfl), (Nat.le_of_ble_eq_true rfl)⟩) (g_preV hX hS (ci := 5) rfl m0) rfl rfl hl.1 rfl (lv_room (Nat.le_of_ble_eq_true rfl)) dX5_cut_10 ⟨(Nat.le_of_ble_eq_true rfl), (Nat.le_of_ble_eq_true rfl)⟩) hS (fun r_10 H_10 locs hp hS => ?_)
    obtain ⟨rfl, rfl⟩ := hp
    refine gz_if_eq (tgt := 20) hx hb (by decide) dX5_cut_13 (by decide) (fun c_13 => ?_) (fun c_13 => ?_)
    · omega
    · refine lv_iconst (v := zI 1) hx hb dX5_cut_16 rfl ?_
      refine lv_goto (tgt := 21) hx hb dX5_cut_17 (by decide) ?_
      refine lv_istore_n (lv' := [(3, .int (zI 1)), (0, .ref (B 0)), (1, .int (zI z1)), (2, .int (zI z2))]) hx hb dX5_cut_21 rfl hl (by decide) rfl (fun ls hl => ?_)
      refine lv_aload_n hx hb dX5_cut_22 rfl (lv_at hl 1 rfl) ?_
      refine lv_iload_n hx hb dX5_cut_23 rfl (lv_at hl 0 rfl) ?_
      refine gz_if_ne (tgt := 31) hx hb (by decide) dX5_cut_24 (by decide) (fun c_24 => ?_) (fun c_24 => ?_)
      · refine lv_aload_n hx hb dX5_cut_31 rfl (lv_at hl 1 rfl) ?_
        refine lv_iload_n hx hb dX5_cut_32 rfl (lv_at hl 2 rfl) ?_
        refine lv_iload_n hx hb dX5_cut_33 rfl (lv_at hl 3 rfl) ?_
        refine g_goi (vx_runV (As := [.int (zI z1), .int (zI z2)]) (rest := [.ref (B 0)]) ⟨hx, hb, hml, hown, hts⟩ (m_areLinked_f l G B S th ct H hM hI z1 z2 i j hz1 hi hz2 hj htb) (cwV 2 hts gX5_cut_X5_areLinked rfl rfl rfl hd_X5_areLinked ⟨(Nat.le_of_ble_eq_true rfl), (Nat.le_of_ble_eq_true rfl)⟩) (g_preV hX hS (ci := 5) rfl m0) rfl rfl hl.1 rfl (lv_room (Nat.le_of_ble_eq_true rfl)) dX5_cut_34 ⟨(Nat.le_of_ble_eq_true rfl), (Nat.le_of_ble_eq_true rfl)⟩) hS (fun r_34 H_34 locs hp hS => ?_)
        obtain ⟨rfl, rfl⟩ := hp
        refine gz_if_eq (tgt := 44) hx hb (by decide) dX5_cut_37 (by decide) (fun c_37 => ?_) (fun c_37 => ?_)
        · refine lv_iconst (v := zI 2) hx hb dX5_cut_44 rfl ?_
          refine g_goi (vx_runV (As := [.int (zI 2)]) (rest := []) ⟨hx, hb, hml, hown, hts⟩ (m_holds_k l G B S th ct H hM hI 2 (by decide) (by decide)) (cwV 1 hts gX5_cut_X5_holds rfl rfl rfl hd_X5_holds ⟨(Nat.le_of_ble_eq_true rfl), (Nat.le_of_ble_eq_true rfl)⟩) (g_preV hX hS (ci := 5) rfl m0) rfl rfl hl.1 rfl (lv_room (Nat.le_of_ble_eq_true rfl)) dX5_cut_45 ⟨(Nat.le_of_ble_eq_true rfl), (Nat.le_of_ble_eq_true rfl)⟩) hS (fun r_45 H_45 locs hp hS => ?_)
          obtain ⟨rfl, hM, hOh⟩ := hp
          obtain ⟨m0, m1, m2, m3, m4, m5, m6, m7, hB, gBs⟩ := id hM
          have hK := hK.trans (hOh.kp1 (oB.k (k := 0) (by omega)))
          refine gz_if_ne (tgt := 53) hx hb (by decide) dX5_cut_48 (by decide) (fun c_48 => ?_) (fun c_48 => ?_)
          · omega
          · refine lv_iconst (v := zI 0) hx hb dX5_cut_51 rfl ?_
            exact g_reti hx hb hr hlocks hS rfl (⟨rfl, ⟨ct, ⟨m0, m1, m2, m3, m4, m5, m6, m7, hB, gBs⟩⟩, hK⟩) (Nat.le_of_ble_eq_true rfl) (Nat.le_of_ble_eq_true rfl) dX5_cut_52
        · omega
      · omega
