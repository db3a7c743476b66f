/-! ===== the reference's calls: the costs ===== -/
theorem k_far : (1000000000 : Int32) = zI 1000000000 := by decide +kernel
def mE (v : Int) : Int := if v = -1 then 1000000000 else v
theorem mE_rng {v : Int} (h : -1 ≤ v ∧ v ≤ 36000) : 0 ≤ mE v ∧ mE v ≤ 1000000000 := by unfold mE; split <;> omega
theorem mE_chp {a b : Int} (ha : -1 ≤ a ∧ a ≤ 36000) (hb : -1 ≤ b ∧ b ≤ 36000) : mE (chp a b) = min (mE a) (mE b) := by
  unfold chp mE
  by_cases h1 : a = -1
  · rw [if_pos (Or.inl h1), if_pos h1, show max a b = b by omega]; split <;> omega
  · by_cases h2 : b = -1
    · rw [if_pos (Or.inr h2), if_neg h1, if_pos h2, show max a b = a by omega, if_neg h1]; omega
    · rw [if_neg (by omega), if_neg h1, if_neg h2, if_neg (by omega)]
theorem via_rng2 {X : cX} (hX : xOK X) {zq zj : Int} {q j : Nat} (hq : q < 12) (h1 : zq < q) (h3 : (q : Int) ≤ zq + 3) (h4 : (j : Int) ≤ zj + 3) : -1 ≤ viaT (dp X) X zq zj q j ∧ viaT (dp X) X zq zj q j ≤ 36000 := by
  have := viaT_rng hX (T := dp X) (zq := zq) (zj := zj) (q2 := q) (j2 := j) (fun a b _ => dp_rng hX (a + 1) a b (by omega)) h1 h3 h4
  omega
theorem dp_mE {X : cX} (hX : xOK X) {q j : Nat} (hq : q < 12) (h : ¬ (q = 0 ∧ j = 0)) : mE (dp X q j) = min (min (min (min (min 1000000000 (mE (viaT (dp X) X ((q : Int) - 1) ((j : Int) - 1) q j))) (mE (viaT (dp X) X ((q : Int) - 1) ((j : Int) - 1 - 1) q j))) (mE (viaT (dp X) X ((q : Int) - 1) ((j : Int) - 1 - 2) q j))) (mE (viaT (dp X) X ((q : Int) - 1 - 1) ((j : Int) - 1) q j))) (mE (viaT (dp X) X ((q : Int) - 1 - 2) ((j : Int) - 1) q j)) := by
  have r1 := via_rng2 hX (zq := (q : Int) - 1) (zj := (j : Int) - 1) (j := j) hq (by omega) (by omega) (by omega)
  have r2 := via_rng2 hX (zq := (q : Int) - 1) (zj := (j : Int) - 1 - 1) (j := j) hq (by omega) (by omega) (by omega)
  have r3 := via_rng2 hX (zq := (q : Int) - 1) (zj := (j : Int) - 1 - 2) (j := j) hq (by omega) (by omega) (by omega)
  have r4 := via_rng2 hX (zq := (q : Int) - 1 - 1) (zj := (j : Int) - 1) (j := j) hq (by omega) (by omega) (by omega)
  have r5 := via_rng2 hX (zq := (q : Int) - 1 - 2) (zj := (j : Int) - 1) (j := j) hq (by omega) (by omega) (by omega)
  rw [dp_eq, toT]
  by_cases h0 : q = 0
  · rw [if_pos h0, if_neg (fun e => h ⟨h0, e⟩)]
    have v : ∀ zq zj : Int, zq < 0 → viaT (dp X) X zq zj q j = -1 := fun zq zj hz => by unfold viaT; rw [if_pos (Or.inl hz)]
    rw [v _ _ (by omega), v _ _ (by omega), v _ _ (by omega), v _ _ (by omega), v _ _ (by omega)]
    decide
  · rw [if_neg h0, Int.sub_zero]
    have n0 : -1 ≤ (-1 : Int) ∧ (-1 : Int) ≤ 36000 := by omega
    have c1 := chp_rng n0 r1
    have c2 := chp_rng c1 r2
    have c3 := chp_rng c2 r3
    have c4 := chp_rng c3 r4
    rw [mE_chp c4 r5, mE_chp c3 r4, mE_chp c2 r3, mE_chp c1 r2, mE_chp n0 r1, show mE (-1) = 1000000000 from rfl]
theorem laid_eq {S : cS} {i : Nat} (hX : xOK (tX S i)) {zq zj : Int} {q j : Nat} (hq : 0 ≤ zq) (hj : 0 ≤ zj) (v0 u a9 : Int) (hv0 : v0 = mE (dp (tX S i) zq.toNat zj.toNat)) (hq12 : zq < 12) (hne : v0 ≠ 1000000000) (h1 : (q : Int) ≤ zq + 3) (h2 : (j : Int) ≤ zj + 3) (hu : u = stp S i j - stp S i zj.toNat - shf S q + shf S zq.toNat) (ha : a9 = absI u) :
    v0 + ssl S * a9 + sN (onF (tX S i)) (zj.toNat + 1) (j - (zj.toNat + 1)) + sN (rpF (tX S i)) (zq.toNat + 1) (q - (zq.toNat + 1)) = mE (viaT (dp (tX S i)) (tX S i) zq zj q j) := by
  have hd := dp_rI hX (q := zq.toNat) zj.toNat (by omega)
  have hm := mv_rng hX (q := zq.toNat) (j := zj.toNat) (q2 := q) (j2 := j) (by omega) (by omega)
  have hdn : dp (tX S i) zq.toNat zj.toNat ≠ -1 := fun e => hne (by rw [hv0, e]; rfl)
  have hv1 : v0 = dp (tX S i) zq.toNat zj.toNat := by rw [hv0]; exact if_neg hdn
  unfold viaT
  rw [if_neg (by omega), if_neg hdn]
  rw [show mE (dp (tX S i) zq.toNat zj.toNat + mv (tX S i) zq.toNat zj.toNat q j) = dp (tX S i) zq.toNat zj.toNat + mv (tX S i) zq.toNat zj.toNat q j from if_neg (by omega)]
  rw [hv1, ha, hu]
  show _ = dp (tX S i) zq.toNat zj.toNat + (ssl S * absI ((stp S i j - stp S i zj.toNat) - (shf S q - shf S zq.toNat)) + sN (onF (tX S i)) (zj.toNat + 1) (j - (zj.toNat + 1)) + sN (rpF (tX S i)) (zq.toNat + 1) (q - (zq.toNat + 1)))
  rw [show stp S i j - stp S i zj.toNat - shf S q + shf S zq.toNat = (stp S i j - stp S i zj.toNat) - (shf S q - shf S zq.toNat) by omega]
  omega
/-- what a run of costOf leaves -/
def MC (G : gG) (B : Nat → Nat) (S : cS) (th : Int) (H H1 : Heap) : Prop := (∃ ct2, Mod G B S th ct2 H1) ∧ gOnly [B 6] H H1
theorem lastE {X : cX} (hX : xOK X) {n m : Nat} (h1 : m < n) (hh : 1 ≤ xh X) : mE (lastC X (min n (m + 1))) = min (mE (lastC X (min n m))) (mE (dp X (xh X - 1) m)) := by
  rw [Nat.min_eq_right (by omega : m + 1 ≤ n), Nat.min_eq_right (by omega : m ≤ n), lastC, if_neg (by omega)]
  exact mE_chp (lastC_rng hX m) (dp_rI hX m (by have := hX.2.2.2.1; omega))
set_option maxHeartbeats 4000000 in
set_option maxRecDepth 100000 in
theorem m_costOfNotes (l : Launch) (G : gG) (B : Nat → Nat) (S : cS) (th : Int) (ct : Nat → Int32) (H : Heap) (hM : Mod G B S th ct H) (hI : sInv S) (z za zb : Int) (i a b : Nat) (hz : z = i) (hi : i < sn S) (hza : za = a) (hzb : zb = b) (hab : a < b) (hb24 : b < 24)  : gM l yX5_costOfNotes wsX5_costOfNotes rm_X5_costOfNotes [.ref (B 0), .int (zI z), .int (zI za), .int (zI zb)] G H (gi (fun r H1 => zI (sN (onF (tX S i)) (a + 1) (b - (a + 1))) = r ∧ H = H1)) (gNo) 0 0 := by
  obtain ⟨m0, m1, m2, m3, m4, m5, m6, m7, hB, gBs⟩ := id hM
  have hn16 : sn S ≤ 16 := hI.1
  have gB0 := gBs 0 (by omega)
  have gB1 := gBs 1 (by omega)
  have gB2 := gBs 2 (by omega)
  have gB3 := gBs 3 (by omega)
  have gB4 := gBs 4 (by omega)
  have gB5 := gBs 5 (by omega)
  have gB6 := gBs 6 (by omega)
  have gB7 := gBs 7 (by omega)
  refine g_start (cc := cX5_costOfNotes) (maxL := 6) (ret := (some .int)) (by decide +kernel) rfl (Nat.le_of_ble_eq_true rfl) ?_
  intro p e s m args below meth c F ls hl
  obtain ⟨hx, hb, hml, hr, hts, hown, hlocks, hxt, hH, hX, hin⟩ := F
  have hown : s.vm.findClass RX5 = some m.cls := hown
  have hS : va_S (gA G) s.heap H [] := by rw [hH]; exact va_S.rf
  have hl : lv_has ls 6 [(0, .ref (B 0)), (1, .int (zI z)), (2, .int (zI za)), (3, .int (zI zb))] := hl
  refine lv_iconst (v := zI 0) hx hb dX5_costOfNotes_0 rfl ?_
  refine lv_istore (lv' := [(4, .int (zI 0)), (0, .ref (B 0)), (1, .int (zI z)), (2, .int (zI za)), (3, .int (zI zb))]) hx hb dX5_costOfNotes_1 hl (by decide) rfl (fun ls hl => ?_)
  refine lv_iload_n hx hb dX5_costOfNotes_3 rfl (lv_at hl 3 rfl) ?_
  refine lv_iconst (v := zI 1) hx hb dX5_costOfNotes_4 rfl ?_
  refine gz_iadd hx hb dX5_costOfNotes_5 ?_
  refine lv_istore (lv' := [(5, .int (zI (za + 1))), (4, .int (zI 0)), (0, .ref (B 0)), (1, .int (zI z)), (2, .int (zI za)), (3, .int (zI zb))]) hx hb dX5_costOfNotes_6 hl (by decide) rfl (fun ls hl => ?_)
  have loop_8 : ∀ (M_ : Nat) (y : Int) (d : Nat) (x : Int) (locs : List Loc), b - (a + 1) - d < M_ → (y = a + 1 + d) → (d ≤ b - (a + 1)) → (x = sN (onF (tX S i)) (a + 1) d) → va_S (gA G) s.heap H locs → ∀ (ls : Array Slot), lv_has ls 6 [(5, .int (zI y)), (4, .int (zI x)), (0, .ref (B 0)), (1, .int (zI z)), (2, .int (zI za)), (3, .int (zI zb))] → W p l e rm_X5_costOfNotes s m args below meth c H locs (0) (0) (vx_MQ below (gQ G (gi (fun r H1 => zI (sN (onF (tX S i)) (a + 1) (b - (a + 1))) = r ∧ H = H1))) (gXC G (gNo)) args s 0 0 (gA G)) (F0 m 8 ls []) := by
    intro M_
    induction M_ with
    | zero => intro y d x locs_0 h_0; exact absurd h_0 (Nat.not_lt_zero _)
    | succ M_ ih_8 =>
      intro y d x locs hM_8 hy hd hx1 hS ls hl
      refine lv_iload hx hb dX5_costOfNotes_8 (lv_at hl 0 rfl) ?_
      refine lv_iload_n hx hb dX5_costOfNotes_10 rfl (lv_at hl 5 rfl) ?_
      refine gz_icmp_ge (tgt := 42) hx hb ⟨by omega, by omega⟩ ⟨by omega, by omega⟩ dX5_costOfNotes_11 (by decide) (fun c_11 => ?_) (fun c_11 => ?_)
      · refine lv_iload hx hb dX5_costOfNotes_42 (lv_at hl 1 rfl) ?_
        exact g_reti hx hb hr hlocks hS rfl (⟨by rw [hx1, show d = b - (a + 1) by omega], rfl⟩) (Nat.le_of_ble_eq_true rfl) (Nat.le_of_ble_eq_true rfl) dX5_costOfNotes_44
      · refine lv_iload hx hb dX5_costOfNotes_14 (lv_at hl 1 rfl) ?_
        refine lv_aload_n hx hb dX5_costOfNotes_16 rfl (lv_at hl 2 rfl) ?_
        refine g_get hx hb hX hts (fun w h => (List.mem_cons_of_mem _ (List.mem_append_right _ h))) hown m0 rfl 9 (by decide) (hts (.fieldLink RX5 30 "TuneCatalogueModel" "ornament" "I") (List.mem_cons_of_mem _ (List.mem_append_left _ (List.mem_of_getElem? (i := 0) rfl)))) rfl dX5_costOfNotes_17 ?_
        refine lv_aload_n hx hb dX5_costOfNotes_20 rfl (lv_at hl 2 rfl) ?_
        refine g_get hx hb hX hts (fun w h => (List.mem_cons_of_mem _ (List.mem_append_right _ h))) hown m0 rfl 3 (by decide) (hts (.fieldLink RX5 13 "TuneCatalogueModel" "lengths" "[I") (List.mem_cons_of_mem _ (List.mem_append_left _ (List.mem_of_getElem? (i := 1) rfl)))) rfl dX5_costOfNotes_21 ?_
        refine lv_bipush (v := zI 24) hx hb dX5_costOfNotes_24 (by decide +kernel) ?_
        refine lv_iload_n hx hb dX5_costOfNotes_26 rfl (lv_at hl 3 rfl) ?_
        refine gz_imul hx hb dX5_costOfNotes_27 ?_
        refine lv_iload hx hb dX5_costOfNotes_28 (lv_at hl 0 rfl) ?_
        refine gz_iadd hx hb dX5_costOfNotes_30 ?_
        refine gz_iald hx hb hX m2 (24 * i + (a + 1 + d)) (by omega) (by omega) (by omega) dX5_costOfNotes_31 ?_
        rw [d24 (stl S) (i := i) (k := a + 1 + d) (by omega)]
        refine gz_imul hx hb dX5_costOfNotes_32 ?_
        refine gz_iadd hx hb dX5_costOfNotes_33 ?_
        refine lv_istore (lv' := [(4, .int (zI (x + ((sor S) * (stl S i (a + 1 + d)))))), (5, .int (zI y)), (0, .ref (B 0)), (1, .int (zI z)), (2, .int (zI za)), (3, .int (zI zb))]) hx hb dX5_costOfNotes_34 hl (by decide) rfl (fun ls hl => ?_)
        refine lv_iinc (v := zI (y + 1)) (lv' := [(5, .int (zI (y + 1))), (4, .int (zI (x + ((sor S) * (stl S i (a + 1 + d)))))), (0, .ref (B 0)), (1, .int (zI z)), (2, .int (zI za)), (3, .int (zI zb))]) hx hb dX5_costOfNotes_36 hl (k := 1) rfl (zI_add _ _) (by decide) rfl (fun ls hl => ?_)
        refine lv_goto (tgt := 8) hx hb dX5_costOfNotes_39 (by decide) ?_
        exact ih_8 (y + 1) (d + 1) _ _ (by omega) (by omega) (by omega) (by rw [sN, hx1]; rfl) hS ls (lv_sub hl [0, 1, 2, 3, 4, 5] rfl)
  exact loop_8 _ (za + 1) 0 0 _ (Nat.lt_succ_self _) (by omega) (Nat.zero_le _) rfl hS ls (lv_sub hl [0, 1, 2, 3, 4, 5] rfl)
set_option maxHeartbeats 4000000 in
set_option maxRecDepth 100000 in
theorem m_costOfPitches (l : Launch) (G : gG) (B : Nat → Nat) (S : cS) (th : Int) (ct : Nat → Int32) (H : Heap) (hM : Mod G B S th ct H) (hI : sInv S) (za zb : Int) (i a b : Nat) (hza : za = a) (hzb : zb = b) (hab : a < b) (hbh : b < shn S)  : gM l yX5_costOfPitches wsX5_costOfPitches rm_X5_costOfPitches [.ref (B 0), .int (zI za), .int (zI zb)] G H (gi (fun r H1 => zI (sN (rpF (tX S i)) (a + 1) (b - (a + 1))) = r ∧ H = H1)) (gNo) 0 0 := by
  obtain ⟨m0, m1, m2, m3, m4, m5, m6, m7, hB, gBs⟩ := id hM
  have hn16 : sn S ≤ 16 := hI.1
  have gB0 := gBs 0 (by omega)
  have gB1 := gBs 1 (by omega)
  have gB2 := gBs 2 (by omega)
  have gB3 := gBs 3 (by omega)
  have gB4 := gBs 4 (by omega)
  have gB5 := gBs 5 (by omega)
  have gB6 := gBs 6 (by omega)
  have gB7 := gBs 7 (by omega)
  have hh12 : shn S ≤ 12 := hI.2.2.2.2.2.1
  refine g_start (cc := cX5_costOfPitches) (maxL := 5) (ret := (some .int)) (by decide +kernel) rfl (Nat.le_of_ble_eq_true rfl) ?_
  intro p e s m args below meth c F ls hl
  obtain ⟨hx, hb, hml, hr, hts, hown, hlocks, hxt, hH, hX, hin⟩ := F
  have hown : s.vm.findClass RX5 = some m.cls := hown
  have hS : va_S (gA G) s.heap H [] := by rw [hH]; exact va_S.rf
  have hl : lv_has ls 5 [(0, .ref (B 0)), (1, .int (zI za)), (2, .int (zI zb))] := hl
  refine lv_iconst (v := zI 0) hx hb dX5_costOfPitches_0 rfl ?_
  refine lv_istore_n (lv' := [(3, .int (zI 0)), (0, .ref (B 0)), (1, .int (zI za)), (2, .int (zI zb))]) hx hb dX5_costOfPitches_1 rfl hl (by decide) rfl (fun ls hl => ?_)
  refine lv_iload_n hx hb dX5_costOfPitches_2 rfl (lv_at hl 2 rfl) ?_
  refine lv_iconst (v := zI 1) hx hb dX5_costOfPitches_3 rfl ?_
  refine gz_iadd hx hb dX5_costOfPitches_4 ?_
  refine lv_istore (lv' := [(4, .int (zI (za + 1))), (3, .int (zI 0)), (0, .ref (B 0)), (1, .int (zI za)), (2, .int (zI zb))]) hx hb dX5_costOfPitches_5 hl (by decide) rfl (fun ls hl => ?_)
  have loop_7 : ∀ (M_ : Nat) (y : Int) (d : Nat) (x : Int) (locs : List Loc), b - (a + 1) - d < M_ → (y = a + 1 + d) → (d ≤ b - (a + 1)) → (x = sN (rpF (tX S i)) (a + 1) d) → va_S (gA G) s.heap H locs → ∀ (ls : Array Slot), lv_has ls 5 [(4, .int (zI y)), (3, .int (zI x)), (0, .ref (B 0)), (1, .int (zI za)), (2, .int (zI zb))] → W p l e rm_X5_costOfPitches s m args below meth c H locs (0) (0) (vx_MQ below (gQ G (gi (fun r H1 => zI (sN (rpF (tX S i)) (a + 1) (b - (a + 1))) = r ∧ H = H1))) (gXC G (gNo)) args s 0 0 (gA G)) (F0 m 7 ls []) := by
    intro M_
    induction M_ with
    | zero => intro y d x locs_0 h_0; exact absurd h_0 (Nat.not_lt_zero _)
    | succ M_ ih_7 =>
      intro y d x locs hM_7 hy hd hx1 hS ls hl
      have hb1 := hI.2.2.2.2.2.2.1 (a + 1 + d)
      have hb2 := hI.2.2.2.2.2.2.1 (a + 1 + d - 1)
      refine lv_iload hx hb dX5_costOfPitches_7 (lv_at hl 0 rfl) ?_
      refine lv_iload_n hx hb dX5_costOfPitches_9 rfl (lv_at hl 4 rfl) ?_
      refine gz_icmp_ge (tgt := 54) hx hb ⟨by omega, by omega⟩ ⟨by omega, by omega⟩ dX5_costOfPitches_10 (by decide) (fun c_10 => ?_) (fun c_10 => ?_)
      · refine lv_iload_n hx hb dX5_costOfPitches_54 rfl (lv_at hl 1 rfl) ?_
        exact g_reti hx hb hr hlocks hS rfl (⟨by rw [hx1, show d = b - (a + 1) by omega], rfl⟩) (Nat.le_of_ble_eq_true rfl) (Nat.le_of_ble_eq_true rfl) dX5_costOfPitches_55
      · refine lv_iload_n hx hb dX5_costOfPitches_13 rfl (lv_at hl 1 rfl) ?_
        refine lv_aload_n hx hb dX5_costOfPitches_14 rfl (lv_at hl 2 rfl) ?_
        refine g_get hx hb hX hts (fun w h => (List.mem_cons_of_mem _ (List.mem_append_right _ h))) hown m0 rfl 6 (by decide) (hts (.fieldLink RX5 23 "TuneCatalogueModel" "hum" "[I") (List.mem_cons_of_mem _ (List.mem_append_left _ (List.mem_of_getElem? (i := 0) rfl)))) rfl dX5_costOfPitches_15 ?_
        refine lv_iload hx hb dX5_costOfPitches_18 (lv_at hl 0 rfl) ?_
        refine gz_iald hx hb hX m5 (a + 1 + d) (by omega) (by omega) (by omega) dX5_costOfPitches_20 ?_
        refine lv_aload_n hx hb dX5_costOfPitches_21 rfl (lv_at hl 2 rfl) ?_
        refine g_get hx hb hX hts (fun w h => (List.mem_cons_of_mem _ (List.mem_append_right _ h))) hown m0 rfl 6 (by decide) (hts (.fieldLink RX5 23 "TuneCatalogueModel" "hum" "[I") (List.mem_cons_of_mem _ (List.mem_append_left _ (List.mem_of_getElem? (i := 0) rfl)))) rfl dX5_costOfPitches_22 ?_
        refine lv_iload hx hb dX5_costOfPitches_25 (lv_at hl 0 rfl) ?_
        refine lv_iconst (v := zI 1) hx hb dX5_costOfPitches_27 rfl ?_
        refine gz_isub hx hb dX5_costOfPitches_28 ?_
        refine gz_iald hx hb hX m5 (a + 1 + d - 1) (by omega) (by omega) (by omega) dX5_costOfPitches_29 ?_
        refine gz_icmp_ne (tgt := 40) hx hb ⟨by omega, by omega⟩ ⟨by omega, by omega⟩ dX5_costOfPitches_30 (by decide) (fun c_30 => ?_) (fun c_30 => ?_)
        · refine lv_iconst (v := zI 3) hx hb dX5_costOfPitches_40 rfl ?_
          refine lv_aload_n hx hb dX5_costOfPitches_41 rfl (lv_at hl 2 rfl) ?_
          refine g_get hx hb hX hts (fun w h => (List.mem_cons_of_mem _ (List.mem_append_right _ h))) hown m0 rfl 10 (by decide) (hts (.fieldLink RX5 33 "TuneCatalogueModel" "repeat" "I") (List.mem_cons_of_mem _ (List.mem_append_left _ (List.mem_of_getElem? (i := 1) rfl)))) rfl dX5_costOfPitches_42 ?_
          refine gz_imul hx hb dX5_costOfPitches_45 ?_
          refine gz_iadd hx hb dX5_costOfPitches_46 ?_
          refine lv_istore_n (lv' := [(3, .int (zI (x + (3 * (srp S))))), (4, .int (zI y)), (0, .ref (B 0)), (1, .int (zI za)), (2, .int (zI zb))]) hx hb dX5_costOfPitches_47 rfl hl (by decide) rfl (fun ls hl => ?_)
          have hx2 : x + (3 * (srp S)) = sN (rpF (tX S i)) (a + 1) (d + 1) := by
            rw [sN, hx1]
            show _ = _ + (if shf S (a + 1 + d) = shf S (a + 1 + d - 1) then srp S else 3 * srp S)
            first
            | (rw [if_pos (Classical.not_not.mp c_30)]; done)
            | (rw [if_neg c_30]; done)
          refine lv_iinc (v := zI (y + 1)) (lv' := [(4, .int (zI (y + 1))), (3, .int (zI (x + (3 * (srp S))))), (0, .ref (B 0)), (1, .int (zI za)), (2, .int (zI zb))]) hx hb dX5_costOfPitches_48 hl (k := 1) rfl (zI_add _ _) (by decide) rfl (fun ls hl => ?_)
          refine lv_goto (tgt := 7) hx hb dX5_costOfPitches_51 (by decide) ?_
          exact ih_7 (y + 1) (d + 1) (x + (3 * (srp S))) _ (by omega) (by omega) (by omega) hx2 hS ls (lv_sub hl [0, 1, 2, 3, 4] rfl)
        · refine lv_aload_n hx hb dX5_costOfPitches_33 rfl (lv_at hl 2 rfl) ?_
          refine g_get hx hb hX hts (fun w h => (List.mem_cons_of_mem _ (List.mem_append_right _ h))) hown m0 rfl 10 (by decide) (hts (.fieldLink RX5 33 "TuneCatalogueModel" "repeat" "I") (List.mem_cons_of_mem _ (List.mem_append_left _ (List.mem_of_getElem? (i := 1) rfl)))) rfl dX5_costOfPitches_34 ?_
          refine lv_goto (tgt := 46) hx hb dX5_costOfPitches_37 (by decide) ?_
          refine gz_iadd hx hb dX5_costOfPitches_46 ?_
          refine lv_istore_n (lv' := [(3, .int (zI (x + (srp S)))), (4, .int (zI y)), (0, .ref (B 0)), (1, .int (zI za)), (2, .int (zI zb))]) hx hb dX5_costOfPitches_47 rfl hl (by decide) rfl (fun ls hl => ?_)
          have hx2 : x + (srp S) = sN (rpF (tX S i)) (a + 1) (d + 1) := by
            rw [sN, hx1]
            show _ = _ + (if shf S (a + 1 + d) = shf S (a + 1 + d - 1) then srp S else 3 * srp S)
            first
            | (rw [if_pos (Classical.not_not.mp c_30)]; done)
            | (rw [if_neg c_30]; done)
          refine lv_iinc (v := zI (y + 1)) (lv' := [(4, .int (zI (y + 1))), (3, .int (zI (x + (srp S)))), (0, .ref (B 0)), (1, .int (zI za)), (2, .int (zI zb))]) hx hb dX5_costOfPitches_48 hl (k := 1) rfl (zI_add _ _) (by decide) rfl (fun ls hl => ?_)
          refine lv_goto (tgt := 7) hx hb dX5_costOfPitches_51 (by decide) ?_
          exact ih_7 (y + 1) (d + 1) (x + (srp S)) _ (by omega) (by omega) (by omega) hx2 hS ls (lv_sub hl [0, 1, 2, 3, 4] rfl)
  exact loop_7 _ (za + 1) 0 0 _ (Nat.lt_succ_self _) (by omega) (Nat.zero_le _) rfl hS ls (lv_sub hl [0, 1, 2, 3, 4] rfl)
set_option maxHeartbeats 4000000 in
set_option maxRecDepth 100000 in
theorem m_laid (l : Launch) (G : gG) (B : Nat → Nat) (S : cS) (th : Int) (ct : Nat → Int32) (H : Heap) (hM : Mod G B S th ct H) (hI : sInv S) (z zp zn zq zj : Int) (i q j : Nat) (hz : z = i) (hi : i < sn S) (hzp : zp = q) (hzn : zn = j) (hqh : q < shn S) (hjn : j < stn S i) (hzq : -4 ≤ zq ∧ zq < q ∧ q ≤ zq + 3) (hzj : -4 ≤ zj ∧ zj < j ∧ j ≤ zj + 3) (hTb : ∀ a b : Nat, a < q → b < stn S i → ct (24 * a + b) = zI (mE (dp (tX S i) a b)))  : gM l yX5_laid wsX5_laid rm_X5_laid [.ref (B 0), .int (zI z), .int (zI zp), .int (zI zn), .int (zI zq), .int (zI zj)] G H (gi (fun r H1 => zI (mE (viaT (dp (tX S i)) (tX S i) zq zj q j)) = r ∧ H = H1)) (gNo) 0 0 := by
  obtain ⟨m0, m1, m2, m3, m4, m5, m6, m7, hB, gBs⟩ := id hM
  have hn16 : sn S ≤ 16 := hI.1
  have gB0 := gBs 0 (by omega)
  have gB1 := gBs 1 (by omega)
  have gB2 := gBs 2 (by omega)
  have gB3 := gBs 3 (by omega)
  have gB4 := gBs 4 (by omega)
  have gB5 := gBs 5 (by omega)
  have gB6 := gBs 6 (by omega)
  have gB7 := gBs 7 (by omega)
  have ht24 := (hI.2.1 i hi).2
  have ht1 := (hI.2.1 i hi).1
  have hh12 : shn S ≤ 12 := hI.2.2.2.2.2.1
  have hX1 := tX_ok hI i
  refine g_start (cc := cX5_laid) (maxL := 7) (ret := (some .int)) (by decide +kernel) rfl (Nat.le_of_ble_eq_true rfl) ?_
  intro p e s m args below meth c F ls hl
  obtain ⟨hx, hb, hml, hr, hts, hown, hlocks, hxt, hH, hX, hin⟩ := F
  have hown : s.vm.findClass RX5 = some m.cls := hown
  have hS : va_S (gA G) s.heap H [] := by rw [hH]; exact va_S.rf
  have hl : lv_has ls 7 [(0, .ref (B 0)), (1, .int (zI z)), (2, .int (zI zp)), (3, .int (zI zn)), (4, .int (zI zq)), (5, .int (zI zj))] := hl
  refine lv_iload hx hb dX5_laid_0 (lv_at hl 4 rfl) ?_
  refine gz_if_lt (tgt := 28) hx hb ⟨by omega, by omega⟩ dX5_laid_2 (by decide) (fun c_2 => ?_) (fun c_2 => ?_)
  · refine lv_ldc (v := 1000000000) hx hb hown (hts (.constant RX5 84 (1000000000)) (List.mem_cons_of_mem _ (List.mem_append_left _ (List.mem_of_getElem? (i := 1) rfl)))) dX5_laid_28 ?_
    rw [k_far]
    exact g_reti hx hb hr hlocks hS rfl (⟨by unfold viaT; first | (rw [if_pos (by omega)]; rfl) | (rw [if_neg (by omega), if_pos (by have hdr := dp_rI hX1 (q := zq.toNat) zj.toNat (by omega); unfold mE at hv0; split at hv0 <;> omega)]; rfl), rfl⟩) (Nat.le_of_ble_eq_true rfl) (Nat.le_of_ble_eq_true rfl) dX5_laid_30
  · refine lv_iload hx hb dX5_laid_5 (lv_at hl 5 rfl) ?_
    refine gz_if_lt (tgt := 28) hx hb ⟨by omega, by omega⟩ dX5_laid_7 (by decide) (fun c_7 => ?_) (fun c_7 => ?_)
    · refine lv_ldc (v := 1000000000) hx hb hown (hts (.constant RX5 84 (1000000000)) (List.mem_cons_of_mem _ (List.mem_append_left _ (List.mem_of_getElem? (i := 1) rfl)))) dX5_laid_28 ?_
      rw [k_far]
      exact g_reti hx hb hr hlocks hS rfl (⟨by unfold viaT; first | (rw [if_pos (by omega)]; rfl) | (rw [if_neg (by omega), if_pos (by have hdr := dp_rI hX1 (q := zq.toNat) zj.toNat (by omega); unfold mE at hv0; split at hv0 <;> omega)]; rfl), rfl⟩) (Nat.le_of_ble_eq_true rfl) (Nat.le_of_ble_eq_true rfl) dX5_laid_30
    · refine lv_aload_n hx hb dX5_laid_10 rfl (lv_at hl 0 rfl) ?_
      refine g_get hx hb hX hts (fun w h => (List.mem_cons_of_mem _ (List.mem_append_right _ h))) hown m0 rfl 11 (by decide) (hts (.fieldLink RX5 36 "TuneCatalogueModel" "costs" "[I") (List.mem_cons_of_mem _ (List.mem_append_left _ (List.mem_of_getElem? (i := 0) rfl)))) rfl dX5_laid_11 ?_
      refine lv_bipush (v := zI 24) hx hb dX5_laid_14 (by decide +kernel) ?_
      refine lv_iload hx hb dX5_laid_16 (lv_at hl 4 rfl) ?_
      refine gz_imul hx hb dX5_laid_18 ?_
      refine lv_iload hx hb dX5_laid_19 (lv_at hl 5 rfl) ?_
      refine gz_iadd hx hb dX5_laid_21 ?_
      refine gz_iald hx hb hX m6 (24 * zq.toNat + zj.toNat) (by omega) (by omega) (by omega) dX5_laid_22 ?_
      rw [hTb zq.toNat zj.toNat (by omega) (by omega)]
      obtain ⟨v0, hv0⟩ : ∃ y : Int, y = mE (dp (tX S i) zq.toNat zj.toNat) := ⟨_, rfl⟩
      rw [← hv0]
      have hvr : 0 ≤ v0 ∧ v0 ≤ 1000000000 := by rw [hv0]; exact mE_rng (dp_rI hX1 _ (by omega))
      refine lv_ldc (v := 1000000000) hx hb hown (hts (.constant RX5 84 (1000000000)) (List.mem_cons_of_mem _ (List.mem_append_left _ (List.mem_of_getElem? (i := 1) rfl)))) dX5_laid_23 ?_
      rw [k_far]
      refine gz_icmp_ne (tgt := 31) hx hb ⟨by omega, by omega⟩ (by decide) dX5_laid_25 (by decide) (fun c_25 => ?_) (fun c_25 => ?_)
      · refine lv_aload_n hx hb dX5_laid_31 rfl (lv_at hl 0 rfl) ?_
        refine g_get hx hb hX hts (fun w h => (List.mem_cons_of_mem _ (List.mem_append_right _ h))) hown m0 rfl 2 (by decide) (hts (.fieldLink RX5 7 "TuneCatalogueModel" "pitches" "[I") (List.mem_cons_of_mem _ (List.mem_append_left _ (List.mem_of_getElem? (i := 2) rfl)))) rfl dX5_laid_32 ?_
        refine lv_bipush (v := zI 24) hx hb dX5_laid_35 (by decide +kernel) ?_
        refine lv_iload_n hx hb dX5_laid_37 rfl (lv_at hl 1 rfl) ?_
        refine gz_imul hx hb dX5_laid_38 ?_
        refine lv_iload_n hx hb dX5_laid_39 rfl (lv_at hl 3 rfl) ?_
        refine gz_iadd hx hb dX5_laid_40 ?_
        refine gz_iald hx hb hX m1 (24 * i + j) (by omega) (by omega) (by omega) dX5_laid_41 ?_
        rw [d24 (stp S) (i := i) (k := j) (by omega)]
        refine lv_aload_n hx hb dX5_laid_42 rfl (lv_at hl 0 rfl) ?_
        refine g_get hx hb hX hts (fun w h => (List.mem_cons_of_mem _ (List.mem_append_right _ h))) hown m0 rfl 2 (by decide) (hts (.fieldLink RX5 7 "TuneCatalogueModel" "pitches" "[I") (List.mem_cons_of_mem _ (List.mem_append_left _ (List.mem_of_getElem? (i := 2) rfl)))) rfl dX5_laid_43 ?_
        refine lv_bipush (v := zI 24) hx hb dX5_laid_46 (by decide +kernel) ?_
        refine lv_iload_n hx hb dX5_laid_48 rfl (lv_at hl 1 rfl) ?_
        refine gz_imul hx hb dX5_laid_49 ?_
        refine lv_iload hx hb dX5_laid_50 (lv_at hl 5 rfl) ?_
        refine gz_iadd hx hb dX5_laid_52 ?_
        refine gz_iald hx hb hX m1 (24 * i + zj.toNat) (by omega) (by omega) (by omega) dX5_laid_53 ?_
        rw [d24 (stp S) (i := i) (k := zj.toNat) (by omega)]
        refine gz_isub hx hb dX5_laid_54 ?_
        refine lv_aload_n hx hb dX5_laid_55 rfl (lv_at hl 0 rfl) ?_
        refine g_get hx hb hX hts (fun w h => (List.mem_cons_of_mem _ (List.mem_append_right _ h))) hown m0 rfl 6 (by decide) (hts (.fieldLink RX5 23 "TuneCatalogueModel" "hum" "[I") (List.mem_cons_of_mem _ (List.mem_append_left _ (List.mem_of_getElem? (i := 3) rfl)))) rfl dX5_laid_56 ?_
        refine lv_iload_n hx hb dX5_laid_59 rfl (lv_at hl 2 rfl) ?_
        refine gz_iald hx hb hX m5 q (by omega) (by omega) (by omega) dX5_laid_60 ?_
        refine gz_isub hx hb dX5_laid_61 ?_
        refine lv_aload_n hx hb dX5_laid_62 rfl (lv_at hl 0 rfl) ?_
        refine g_get hx hb hX hts (fun w h => (List.mem_cons_of_mem _ (List.mem_append_right _ h))) hown m0 rfl 6 (by decide) (hts (.fieldLink RX5 23 "TuneCatalogueModel" "hum" "[I") (List.mem_cons_of_mem _ (List.mem_append_left _ (List.mem_of_getElem? (i := 3) rfl)))) rfl dX5_laid_63 ?_
        refine lv_iload hx hb dX5_laid_66 (lv_at hl 4 rfl) ?_
        refine gz_iald hx hb hX m5 zq.toNat (by omega) (by omega) (by omega) dX5_laid_68 ?_
        refine gz_iadd hx hb dX5_laid_69 ?_
        refine lv_istore (lv' := [(6, .int (zI ((((stp S i j) - (stp S i zj.toNat)) - (shf S q)) + (shf S zq.toNat)))), (0, .ref (B 0)), (1, .int (zI z)), (2, .int (zI zp)), (3, .int (zI zn)), (4, .int (zI zq)), (5, .int (zI zj))]) hx hb dX5_laid_70 hl (by decide) rfl (fun ls hl => ?_)
        obtain ⟨u, hu⟩ : ∃ y : Int, y = (((stp S i j) - (stp S i zj.toNat)) - (shf S q)) + (shf S zq.toNat) := ⟨_, rfl⟩
        have hl : lv_has ls 7 [(6, .int (zI u)), (0, .ref (B 0)), (1, .int (zI z)), (2, .int (zI zp)), (3, .int (zI zn)), (4, .int (zI zq)), (5, .int (zI zj))] := by rw [hu]; exact hl
        have hf1 := hI.2.2.2.1 i j
        have hf2 := hI.2.2.2.1 i zj.toNat
        have hf3 := hI.2.2.2.2.2.2.1 q
        have hf4 := hI.2.2.2.2.2.2.1 zq.toNat
        refine lv_aload_n hx hb dX5_laid_72 rfl (lv_at hl 1 rfl) ?_
        refine g_get hx hb hX hts (fun w h => (List.mem_cons_of_mem _ (List.mem_append_right _ h))) hown m0 rfl 11 (by decide) (hts (.fieldLink RX5 36 "TuneCatalogueModel" "costs" "[I") (List.mem_cons_of_mem _ (List.mem_append_left _ (List.mem_of_getElem? (i := 0) rfl)))) rfl dX5_laid_73 ?_
        refine lv_bipush (v := zI 24) hx hb dX5_laid_76 (by decide +kernel) ?_
        refine lv_iload hx hb dX5_laid_78 (lv_at hl 5 rfl) ?_
        refine gz_imul hx hb dX5_laid_80 ?_
        refine lv_iload hx hb dX5_laid_81 (lv_at hl 6 rfl) ?_
        refine gz_iadd hx hb dX5_laid_83 ?_
        refine gz_iald hx hb hX m6 (24 * zq.toNat + zj.toNat) (by omega) (by omega) (by omega) dX5_laid_84 ?_
        rw [hTb zq.toNat zj.toNat (by omega) (by omega), ← hv0]
        refine lv_aload_n hx hb dX5_laid_85 rfl (lv_at hl 1 rfl) ?_
        refine g_get hx hb hX hts (fun w h => (List.mem_cons_of_mem _ (List.mem_append_right _ h))) hown m0 rfl 8 (by decide) (hts (.fieldLink RX5 26 "TuneCatalogueModel" "slip" "I") (List.mem_cons_of_mem _ (List.mem_append_left _ (List.mem_of_getElem? (i := 4) rfl)))) rfl dX5_laid_86 ?_
        refine lv_iload hx hb dX5_laid_89 (lv_at hl 0 rfl) ?_
        refine gz_if_ge (tgt := 100) hx hb ⟨by omega, by omega⟩ dX5_laid_91 (by decide) (fun c_91 => ?_) (fun c_91 => ?_)
        · refine lv_iload hx hb dX5_laid_100 (lv_at hl 0 rfl) ?_
          refine gz_imul hx hb dX5_laid_102 ?_
          refine gz_iadd hx hb dX5_laid_103 ?_
          refine lv_aload_n hx hb dX5_laid_104 rfl (lv_at hl 1 rfl) ?_
          refine lv_iload_n hx hb dX5_laid_105 rfl (lv_at hl 2 rfl) ?_
          refine lv_iload hx hb dX5_laid_106 (lv_at hl 6 rfl) ?_
          refine lv_iload_n hx hb dX5_laid_108 rfl (lv_at hl 4 rfl) ?_
          refine g_goi (vx_runV (As := [.int (zI z), .int (zI zj), .int (zI zn)]) (rest := [.int (zI (v0 + ((ssl S) * u)))]) ⟨hx, hb, hml, hown, hts⟩ (m_costOfNotes l G B S th ct H hM hI z zj zn i zj.toNat j hz hi (by omega) (by omega) (by omega) (by omega)) (cwV 3 hts gX5_laid_X5_costOfNotes rfl rfl rfl hd_X5_costOfNotes ⟨(Nat.le_of_ble_eq_true rfl), (Nat.le_of_ble_eq_true rfl)⟩) (g_preV hX hS (ci := 5) rfl m0) rfl rfl hl.1 rfl (lv_room (Nat.le_of_ble_eq_true rfl)) dX5_laid_109 ⟨(Nat.le_of_ble_eq_true rfl), (Nat.le_of_ble_eq_true rfl)⟩) hS (fun r_109 H_109 locs hp hS => ?_)
          obtain ⟨rfl, rfl⟩ := hp
          refine gz_iadd hx hb dX5_laid_112 ?_
          refine lv_aload_n hx hb dX5_laid_113 rfl (lv_at hl 1 rfl) ?_
          refine lv_iload hx hb dX5_laid_114 (lv_at hl 5 rfl) ?_
          refine lv_iload_n hx hb dX5_laid_116 rfl (lv_at hl 3 rfl) ?_
          refine g_goi (vx_runV (As := [.int (zI zq), .int (zI zp)]) (rest := [.int (zI ((v0 + ((ssl S) * u)) + (sN (onF (tX S i)) (zj.toNat + 1) (j - (zj.toNat + 1)))))]) ⟨hx, hb, hml, hown, hts⟩ (m_costOfPitches l G B S th ct H hM hI zq zp i zq.toNat q (by omega) (by omega) (by omega) (by omega)) (cwV 2 hts gX5_laid_X5_costOfPitches rfl rfl rfl hd_X5_costOfPitches ⟨(Nat.le_of_ble_eq_true rfl), (Nat.le_of_ble_eq_true rfl)⟩) (g_preV hX hS (ci := 5) rfl m0) rfl rfl hl.1 rfl (lv_room (Nat.le_of_ble_eq_true rfl)) dX5_laid_117 ⟨(Nat.le_of_ble_eq_true rfl), (Nat.le_of_ble_eq_true rfl)⟩) hS (fun r_117 H_117 locs hp hS => ?_)
          obtain ⟨rfl, rfl⟩ := hp
          refine gz_iadd hx hb dX5_laid_120 ?_
          have hfin := laid_eq hX1 (q := q) (j := j) (by omega : 0 ≤ zq) (by omega : 0 ≤ zj) v0 u (u) hv0 (by omega) (by omega) (by omega) (by omega) hu (by unfold absI; first | rw [if_pos (by omega)] | rw [if_neg (by omega)])
          exact g_reti hx hb hr hlocks hS rfl (⟨by rw [hfin], rfl⟩) (Nat.le_of_ble_eq_true rfl) (Nat.le_of_ble_eq_true rfl) dX5_laid_121
        · refine lv_iload hx hb dX5_laid_94 (lv_at hl 0 rfl) ?_
          refine gz_ineg hx hb dX5_laid_96 ?_
          refine lv_goto (tgt := 102) hx hb dX5_laid_97 (by decide) ?_
          refine gz_imul hx hb dX5_laid_102 ?_
          refine gz_iadd hx hb dX5_laid_103 ?_
          refine lv_aload_n hx hb dX5_laid_104 rfl (lv_at hl 1 rfl) ?_
          refine lv_iload_n hx hb dX5_laid_105 rfl (lv_at hl 2 rfl) ?_
          refine lv_iload hx hb dX5_laid_106 (lv_at hl 6 rfl) ?_
          refine lv_iload_n hx hb dX5_laid_108 rfl (lv_at hl 4 rfl) ?_
          refine g_goi (vx_runV (As := [.int (zI z), .int (zI zj), .int (zI zn)]) (rest := [.int (zI (v0 + ((ssl S) * (-u))))]) ⟨hx, hb, hml, hown, hts⟩ (m_costOfNotes l G B S th ct H hM hI z zj zn i zj.toNat j hz hi (by omega) (by omega) (by omega) (by omega)) (cwV 3 hts gX5_laid_X5_costOfNotes rfl rfl rfl hd_X5_costOfNotes ⟨(Nat.le_of_ble_eq_true rfl), (Nat.le_of_ble_eq_true rfl)⟩) (g_preV hX hS (ci := 5) rfl m0) rfl rfl hl.1 rfl (lv_room (Nat.le_of_ble_eq_true rfl)) dX5_laid_109 ⟨(Nat.le_of_ble_eq_true rfl), (Nat.le_of_ble_eq_true rfl)⟩) hS (fun r_109 H_109 locs hp hS => ?_)
          obtain ⟨rfl, rfl⟩ := hp
          refine gz_iadd hx hb dX5_laid_112 ?_
          refine lv_aload_n hx hb dX5_laid_113 rfl (lv_at hl 1 rfl) ?_
          refine lv_iload hx hb dX5_laid_114 (lv_at hl 5 rfl) ?_
          refine lv_iload_n hx hb dX5_laid_116 rfl (lv_at hl 3 rfl) ?_
          refine g_goi (vx_runV (As := [.int (zI zq), .int (zI zp)]) (rest := [.int (zI ((v0 + ((ssl S) * (-u))) + (sN (onF (tX S i)) (zj.toNat + 1) (j - (zj.toNat + 1)))))]) ⟨hx, hb, hml, hown, hts⟩ (m_costOfPitches l G B S th ct H hM hI zq zp i zq.toNat q (by omega) (by omega) (by omega) (by omega)) (cwV 2 hts gX5_laid_X5_costOfPitches rfl rfl rfl hd_X5_costOfPitches ⟨(Nat.le_of_ble_eq_true rfl), (Nat.le_of_ble_eq_true rfl)⟩) (g_preV hX hS (ci := 5) rfl m0) rfl rfl hl.1 rfl (lv_room (Nat.le_of_ble_eq_true rfl)) dX5_laid_117 ⟨(Nat.le_of_ble_eq_true rfl), (Nat.le_of_ble_eq_true rfl)⟩) hS (fun r_117 H_117 locs hp hS => ?_)
          obtain ⟨rfl, rfl⟩ := hp
          refine gz_iadd hx hb dX5_laid_120 ?_
          have hfin := laid_eq hX1 (q := q) (j := j) (by omega : 0 ≤ zq) (by omega : 0 ≤ zj) v0 u (-u) hv0 (by omega) (by omega) (by omega) (by omega) hu (by unfold absI; first | rw [if_pos (by omega)] | rw [if_neg (by omega)])
          exact g_reti hx hb hr hlocks hS rfl (⟨by rw [hfin], rfl⟩) (Nat.le_of_ble_eq_true rfl) (Nat.le_of_ble_eq_true rfl) dX5_laid_121
      · refine lv_ldc (v := 1000000000) hx hb hown (hts (.constant RX5 84 (1000000000)) (List.mem_cons_of_mem _ (List.mem_append_left _ (List.mem_of_getElem? (i := 1) rfl)))) dX5_laid_28 ?_
        rw [k_far]
        exact g_reti hx hb hr hlocks hS rfl (⟨by unfold viaT; first | (rw [if_pos (by omega)]; rfl) | (rw [if_neg (by omega), if_pos (by have hdr := dp_rI hX1 (q := zq.toNat) zj.toNat (by omega); unfold mE at hv0; split at hv0 <;> omega)]; rfl), rfl⟩) (Nat.le_of_ble_eq_true rfl) (Nat.le_of_ble_eq_true rfl) dX5_laid_30
set_option maxHeartbeats 4000000 in
set_option maxRecDepth 100000 in
theorem m_least (l : Launch) (G : gG) (H : Heap) (a b : Int) (ha : rI a) (hb1 : rI b) : gM l yX5_least wsX5_least rm_X5_least [.int (zI a), .int (zI b)] G H (gi (fun r H1 => zI (min a b) = r ∧ H = H1)) (gNo) 0 0 := by
  refine g_start (cc := cX5_least) (maxL := 2) (ret := (some .int)) (by decide +kernel) rfl (Nat.le_of_ble_eq_true rfl) ?_
  intro p e s m args below meth c F ls hl
  obtain ⟨hx, hb, hml, hr, hts, hown, hlocks, hxt, hH, hX, hin⟩ := F
  have hown : s.vm.findClass RX5 = some m.cls := hown
  have hS : va_S (gA G) s.heap H [] := by rw [hH]; exact va_S.rf
  have hl : lv_has ls 2 [(0, .int (zI a)), (1, .int (zI b))] := hl
  refine lv_iload_n hx hb dX5_least_0 rfl (lv_at hl 0 rfl) ?_
  refine lv_iload_n hx hb dX5_least_1 rfl (lv_at hl 1 rfl) ?_
  refine gz_icmp_ge (tgt := 9) hx hb (by assumption) (by assumption) dX5_least_2 (by decide) (fun c_2 => ?_) (fun c_2 => ?_)
  · refine lv_iload_n hx hb dX5_least_9 rfl (lv_at hl 1 rfl) ?_
    exact g_reti hx hb hr hlocks hS rfl (⟨by first | rw [Int.min_eq_left (by omega)] | rw [Int.min_eq_right (by omega)], rfl⟩) (Nat.le_of_ble_eq_true rfl) (Nat.le_of_ble_eq_true rfl) dX5_least_10
  · refine lv_iload_n hx hb dX5_least_5 rfl (lv_at hl 0 rfl) ?_
    refine lv_goto (tgt := 10) hx hb dX5_least_6 (by decide) ?_
    exact g_reti hx hb hr hlocks hS rfl (⟨by first | rw [Int.min_eq_left (by omega)] | rw [Int.min_eq_right (by omega)], rfl⟩) (Nat.le_of_ble_eq_true rfl) (Nat.le_of_ble_eq_true rfl) dX5_least_10
set_option maxHeartbeats 4000000 in
set_option maxRecDepth 100000 in
theorem m_costOf (l : Launch) (G : gG) (B : Nat → Nat) (S : cS) (th : Int) (ct : Nat → Int32) (H : Heap) (hM : Mod G B S th ct H) (hI : sInv S) (z : Int) (i : Nat) (hz : z = i) (hi : i < sn S)  : gM l yX5_costOf wsX5_costOf rm_X5_costOf [.ref (B 0), .int (zI z)] G H (gi (fun r H1 => zI (costI (tX S i)) = r ∧ MC G B S th H H1)) (gNo) 0 0 := by
  obtain ⟨m0, m1, m2, m3, m4, m5, m6, m7, hB, gBs⟩ := id hM
  have hn16 : sn S ≤ 16 := hI.1
  have gB0 := gBs 0 (by omega)
  have gB1 := gBs 1 (by omega)
  have gB2 := gBs 2 (by omega)
  have gB3 := gBs 3 (by omega)
  have gB4 := gBs 4 (by omega)
  have gB5 := gBs 5 (by omega)
  have gB6 := gBs 6 (by omega)
  have gB7 := gBs 7 (by omega)
  have ht24 := (hI.2.1 i hi).2
  have ht1 := (hI.2.1 i hi).1
  have hh12 : shn S ≤ 12 := hI.2.2.2.2.2.1
  have hX1 := tX_ok hI i
  refine g_start (cc := cX5_costOf) (maxL := 7) (ret := (some .int)) (by decide +kernel) rfl (Nat.le_of_ble_eq_true rfl) ?_
  intro p e s m args below meth c F ls hl
  obtain ⟨hx, hb, hml, hr, hts, hown, hlocks, hxt, hH, hX, hin⟩ := F
  have hown : s.vm.findClass RX5 = some m.cls := hown
  have hS : va_S (gA G) s.heap H [] := by rw [hH]; exact va_S.rf
  have hl : lv_has ls 7 [(0, .ref (B 0)), (1, .int (zI z))] := hl
  refine lv_ldc (v := 1000000000) hx hb hown (hts (.constant RX5 84 (1000000000)) (List.mem_cons_of_mem _ (List.mem_append_left _ (List.mem_append_left _ (List.mem_of_getElem? (i := 0) rfl))))) dX5_costOf_0 ?_
  rw [k_far]
  refine lv_istore_n (lv' := [(2, .int (zI 1000000000)), (0, .ref (B 0)), (1, .int (zI z))]) hx hb dX5_costOf_2 rfl hl (by decide) rfl (fun ls hl => ?_)
  refine lv_iconst (v := zI 0) hx hb dX5_costOf_3 rfl ?_
  refine lv_istore_n (lv' := [(3, .int (zI 0)), (2, .int (zI 1000000000)), (0, .ref (B 0)), (1, .int (zI z))]) hx hb dX5_costOf_4 rfl hl (by decide) rfl (fun ls hl => ?_)
  have loop_5 : ∀ (M_ : Nat) (y : Int) (g : Nat) (x : Int) (cg : Nat → Int32) (H_L5 : Heap) (locs : List Loc), 24 * shn S - g < M_ → (y = g) → (g ≤ 24 * shn S) → (x = mE (lastC (tX S i) (min (stn S i) (g - 24 * (shn S - 1))))) → (Mod G B S th cg H_L5) → (gOnly [B 6] H H_L5) → (∀ a b : Nat, 24 * a + b < g → b < stn S i → cg (24 * a + b) = zI (mE (dp (tX S i) a b))) → va_S (gA G) s.heap H_L5 locs → ∀ (ls : Array Slot), lv_has ls 7 [(3, .int (zI y)), (2, .int (zI x)), (0, .ref (B 0)), (1, .int (zI z))] → W p l e rm_X5_costOf s m args below meth c H_L5 locs (0) (0) (vx_MQ below (gQ G (gi (fun r H1 => zI (costI (tX S i)) = r ∧ MC G B S th H H1))) (gXC G (gNo)) args s 0 0 (gA G)) (F0 m 5 ls []) := by
    intro M_
    induction M_ with
    | zero => intro y g x cg H_0 locs_0 h_0; exact absurd h_0 (Nat.not_lt_zero _)
    | succ M_ ih_5 =>
      intro y g x cg H_L5 locs hM_5 hy hg hx1 hM hOc hTb hS ls hl
      obtain ⟨m0, m1, m2, m3, m4, m5, m6, m7, hB, gBs⟩ := id hM
      have hlr := lastC_rng hX1 (min (stn S i) (g - 24 * (shn S - 1)))
      have hxr := mE_rng hlr
      refine lv_iload_n hx hb dX5_costOf_5 rfl (lv_at hl 0 rfl) ?_
      refine lv_bipush (v := zI 24) hx hb dX5_costOf_6 (by decide +kernel) ?_
      refine lv_aload_n hx hb dX5_costOf_8 rfl (lv_at hl 2 rfl) ?_
      refine g_get hx hb hX hts (fun w h => (List.mem_cons_of_mem _ (List.mem_append_right _ h))) hown m0 rfl 7 (by decide) (hts (.fieldLink RX5 81 "TuneCatalogueModel" "hummed" "I") (List.mem_cons_of_mem _ (List.mem_append_left _ (List.mem_append_left _ (List.mem_of_getElem? (i := 1) rfl))))) rfl dX5_costOf_9 ?_
      refine gz_imul hx hb dX5_costOf_12 ?_
      refine gz_icmp_ge (tgt := 176) hx hb ⟨by omega, by omega⟩ ⟨by omega, by omega⟩ dX5_costOf_13 (by decide) (fun c_13 => ?_) (fun c_13 => ?_)
      · refine lv_iload_n hx hb dX5_costOf_176 rfl (lv_at hl 1 rfl) ?_
        refine lv_ldc (v := 1000000000) hx hb hown (hts (.constant RX5 84 (1000000000)) (List.mem_cons_of_mem _ (List.mem_append_left _ (List.mem_append_left _ (List.mem_of_getElem? (i := 0) rfl))))) dX5_costOf_177 ?_
        rw [k_far]
        refine gz_icmp_ne (tgt := 186) hx hb ⟨by omega, by omega⟩ (by decide) dX5_costOf_179 (by decide) (fun c_179 => ?_) (fun c_179 => ?_)
        · refine lv_iload_n hx hb dX5_costOf_186 rfl (lv_at hl 1 rfl) ?_
          have hcr := lastC_rng hX1 (stn S i)
          have hfin : x = costI (tX S i) := by
            rw [show g = 24 * shn S by omega] at hx1
            show _ = lastC (tX S i) (stn S i)
            by_cases h0 : shn S = 0
            · have h6 := lastC_h0 (X := (tX S i)) h0 (stn S i)
              rw [show 24 * shn S - 24 * (shn S - 1) = 0 by omega, Nat.min_zero] at hx1
              have h7 : x = 1000000000 := hx1
              omega
            · rw [show min (stn S i) (24 * shn S - 24 * (shn S - 1)) = stn S i by omega] at hx1
              unfold mE at hx1
              split at hx1 <;> omega
          exact g_reti hx hb hr hlocks hS rfl (⟨by rw [hfin], ⟨cg, hM⟩, hOc⟩) (Nat.le_of_ble_eq_true rfl) (Nat.le_of_ble_eq_true rfl) dX5_costOf_187
        · refine lv_iconst (v := zI (-1)) hx hb dX5_costOf_182 rfl ?_
          refine lv_goto (tgt := 187) hx hb dX5_costOf_183 (by decide) ?_
          have hcr := lastC_rng hX1 (stn S i)
          have hfin : -1 = costI (tX S i) := by
            rw [show g = 24 * shn S by omega] at hx1
            show _ = lastC (tX S i) (stn S i)
            by_cases h0 : shn S = 0
            · have h6 := lastC_h0 (X := (tX S i)) h0 (stn S i)
              rw [show 24 * shn S - 24 * (shn S - 1) = 0 by omega, Nat.min_zero] at hx1
              have h7 : x = 1000000000 := hx1
              omega
            · rw [show min (stn S i) (24 * shn S - 24 * (shn S - 1)) = stn S i by omega] at hx1
              unfold mE at hx1
              split at hx1 <;> omega
          exact g_reti hx hb hr hlocks hS rfl (⟨by rw [hfin], ⟨cg, hM⟩, hOc⟩) (Nat.le_of_ble_eq_true rfl) (Nat.le_of_ble_eq_true rfl) dX5_costOf_187
      · refine lv_iload_n hx hb dX5_costOf_16 rfl (lv_at hl 0 rfl) ?_
        refine lv_bipush (v := zI 24) hx hb dX5_costOf_17 (by decide +kernel) ?_
        refine gz_idiv hx hb g 24 (by omega) (by omega) (by omega) (by omega) dX5_costOf_19 ?_
        refine lv_istore (lv' := [(4, .int (zI ((g / 24 : Nat) : Int))), (3, .int (zI y)), (2, .int (zI x)), (0, .ref (B 0)), (1, .int (zI z))]) hx hb dX5_costOf_20 hl (by decide) rfl (fun ls hl => ?_)
        obtain ⟨q, hq⟩ : ∃ y : Nat, y = g / 24 := ⟨_, rfl⟩
        rw [← hq] at hl
        refine lv_iload_n hx hb dX5_costOf_22 rfl (lv_at hl 1 rfl) ?_
        refine lv_bipush (v := zI 24) hx hb dX5_costOf_23 (by decide +kernel) ?_
        refine gz_irem hx hb g 24 (by omega) (by omega) (by omega) (by omega) dX5_costOf_25 ?_
        refine lv_istore (lv' := [(5, .int (zI ((g % 24 : Nat) : Int))), (4, .int (zI (q : Int))), (3, .int (zI y)), (2, .int (zI x)), (0, .ref (B 0)), (1, .int (zI z))]) hx hb dX5_costOf_26 hl (by decide) rfl (fun ls hl => ?_)
        obtain ⟨j, hj⟩ : ∃ y : Nat, y = g % 24 := ⟨_, rfl⟩
        rw [← hj] at hl
        refine lv_aload_n hx hb dX5_costOf_28 rfl (lv_at hl 4 rfl) ?_
        refine g_get hx hb hX hts (fun w h => (List.mem_cons_of_mem _ (List.mem_append_right _ h))) hown m0 rfl 11 (by decide) (hts (.fieldLink RX5 36 "TuneCatalogueModel" "costs" "[I") (List.mem_cons_of_mem _ (List.mem_append_left _ (List.mem_append_left _ (List.mem_of_getElem? (i := 2) rfl))))) rfl dX5_costOf_29 ?_
        refine lv_iload_n hx hb dX5_costOf_32 rfl (lv_at hl 2 rfl) ?_
        refine lv_iload_n hx hb dX5_costOf_33 rfl (lv_at hl 2 rfl) ?_
        refine gz_if_ne (tgt := 41) hx hb ⟨by omega, by omega⟩ dX5_costOf_34 (by decide) (fun c_34 => ?_) (fun c_34 => ?_)
        · refine lv_ldc (v := 1000000000) hx hb hown (hts (.constant RX5 84 (1000000000)) (List.mem_cons_of_mem _ (List.mem_append_left _ (List.mem_append_left _ (List.mem_of_getElem? (i := 0) rfl))))) dX5_costOf_41 ?_
          rw [k_far]
          refine gz_iast hx hb hX hS m6 gB6 g (by omega) (by omega) (by omega) dX5_costOf_43 (fun H_43 locs h_n hO hS => ?_)
          obtain ⟨ct_1, hct_1⟩ : ∃ f : Nat → Int32, f = upd cg g (zI 1000000000) := ⟨_, rfl⟩
          rw [← hct_1] at h_n
          have m0 := gat.only1 m0 hO (hB 0 6 (by omega) (by omega) (by omega))
          have m1 := gat.only1 m1 hO (hB 1 6 (by omega) (by omega) (by omega))
          have m2 := gat.only1 m2 hO (hB 2 6 (by omega) (by omega) (by omega))
          have m3 := gat.only1 m3 hO (hB 3 6 (by omega) (by omega) (by omega))
          have m4 := gat.only1 m4 hO (hB 4 6 (by omega) (by omega) (by omega))
          have m5 := gat.only1 m5 hO (hB 5 6 (by omega) (by omega) (by omega))
          have m7 := gat.only1 m7 hO (hB 7 6 (by omega) (by omega) (by omega))
          have m6 : gat G (B 6) (.inl (gI G, 288, .inl ct_1)) H_43 := h_n
          have hk_1 : ct_1 g = zI 1000000000 := by rw [hct_1]; exact if_pos rfl
          have hn_1 : ∀ a, a ≠ g → ct_1 a = cg a := fun a ha => by rw [hct_1]; exact (if_neg ha)
          have hM : Mod G B S th ct_1 H_43 := ⟨m0, m1, m2, m3, m4, m5, m6, m7, hB, gBs⟩
          have hOc := hOc.trans hO (fun _ h => h) (fun _ h => h)
          have hTc : ∀ a b : Nat, a < q → b < stn S i → ct_1 (24 * a + b) = zI (mE (dp (tX S i) a b)) := fun a b h1 h2 => by rw [hn_1 _ (by omega)]; exact hTb a b (by omega) h2
          refine lv_iconst (v := zI 0) hx hb dX5_costOf_44 rfl ?_
          refine lv_istore (lv' := [(6, .int (zI 0)), (5, .int (zI (j : Int))), (4, .int (zI (q : Int))), (3, .int (zI y)), (2, .int (zI x)), (0, .ref (B 0)), (1, .int (zI z))]) hx hb dX5_costOf_45 hl (by decide) rfl (fun ls hl => ?_)
          refine lv_iload hx hb dX5_costOf_47 (lv_at hl 0 rfl) ?_
          refine lv_iconst (v := zI 2) hx hb dX5_costOf_49 rfl ?_
          refine gz_icmp_gt (tgt := 144) hx hb (by decide) (by decide) dX5_costOf_50 (by decide) (fun c_50 => ?_) (fun c_50 => ?_)
          · omega
          · refine lv_iload hx hb dX5_costOf_53 (lv_at hl 1 rfl) ?_
            refine lv_aload_n hx hb dX5_costOf_55 rfl (lv_at hl 5 rfl) ?_
            refine g_get hx hb hX hts (fun w h => (List.mem_cons_of_mem _ (List.mem_append_right _ h))) hown m0 rfl 4 (by decide) (hts (.fieldLink RX5 16 "TuneCatalogueModel" "sizes" "[I") (List.mem_cons_of_mem _ (List.mem_append_left _ (List.mem_append_left _ (List.mem_of_getElem? (i := 3) rfl))))) rfl dX5_costOf_56 ?_
            refine lv_iload_n hx hb dX5_costOf_59 rfl (lv_at hl 6 rfl) ?_
            refine gz_iald hx hb hX m3 i (by omega) (by omega) (by omega) dX5_costOf_60 ?_
            refine gz_icmp_ge (tgt := 144) hx hb ⟨by omega, by omega⟩ ⟨by omega, by omega⟩ dX5_costOf_61 (by decide) (fun c_61 => ?_) (fun c_61 => ?_)
            · have hwv : (j < stn S i → (1000000000 : Int) = mE (dp (tX S i) q j)) ∧ (stn S i ≤ j → (1000000000 : Int) = 1000000000) := ⟨fun h => absurd h (by omega), fun _ => rfl⟩
              have hTn : ∀ a b : Nat, 24 * a + b < g + 1 → b < stn S i → ct_1 (24 * a + b) = zI (mE (dp (tX S i) a b)) := fun a b h1 h2 => by
                rcases Nat.lt_or_ge (24 * a + b) g with h | h
                · rw [hn_1 _ (by omega)]; exact hTb a b h h2
                · rw [show a = q by omega, show b = j by omega, show 24 * q + j = g by omega, hk_1, hwv.1 (by omega)]
              have hwf : 0 ≤ (1000000000 : Int) ∧ (1000000000 : Int) ≤ 1000000000 := by omega
              refine lv_iload hx hb dX5_costOf_144 (lv_at hl 2 rfl) ?_
              refine lv_aload_n hx hb dX5_costOf_146 rfl (lv_at hl 5 rfl) ?_
              refine g_get hx hb hX hts (fun w h => (List.mem_cons_of_mem _ (List.mem_append_right _ h))) hown m0 rfl 7 (by decide) (hts (.fieldLink RX5 81 "TuneCatalogueModel" "hummed" "I") (List.mem_cons_of_mem _ (List.mem_append_left _ (List.mem_append_left _ (List.mem_of_getElem? (i := 1) rfl))))) rfl dX5_costOf_147 ?_
              refine lv_iconst (v := zI 1) hx hb dX5_costOf_150 rfl ?_
              refine gz_isub hx hb dX5_costOf_151 ?_
              refine gz_icmp_ne (tgt := 168) hx hb ⟨by omega, by omega⟩ ⟨by omega, by omega⟩ dX5_costOf_152 (by decide) (fun c_152 => ?_) (fun c_152 => ?_)
              · refine lv_iload_n hx hb dX5_costOf_168 rfl (lv_at hl 4 rfl) ?_
                refine lv_istore_n (lv' := [(2, .int (zI x)), (6, .int (zI 0)), (5, .int (zI (j : Int))), (4, .int (zI (q : Int))), (3, .int (zI y)), (0, .ref (B 0)), (1, .int (zI z))]) hx hb dX5_costOf_169 rfl hl (by decide) rfl (fun ls hl => ?_)
                have hx2 : x = mE (lastC (tX S i) (min (stn S i) (g + 1 - 24 * (shn S - 1)))) := by
                  by_cases hlast : q + 1 = shn S
                  · by_cases hjn : j < stn S i
                    · have h9 := lastE hX1 (n := stn S i) (m := j) hjn (show 1 ≤ shn S by omega)
                      rw [show xh (tX S i) - 1 = q from by show shn S - 1 = q; omega, ← hwv.1 hjn] at h9
                      rw [show g + 1 - 24 * (shn S - 1) = j + 1 by omega, h9]
                      rw [show g - 24 * (shn S - 1) = j by omega] at hx1
                      first | omega | (rw [← hx1])
                    · have h8 := hwv.2 (by omega)
                      rw [show min (stn S i) (g + 1 - 24 * (shn S - 1)) = min (stn S i) (g - 24 * (shn S - 1)) by omega]
                      omega
                  · rw [show g + 1 - 24 * (shn S - 1) = 0 by omega]
                    rw [show g - 24 * (shn S - 1) = 0 by omega] at hx1
                    omega
                refine lv_iinc (v := zI (y + 1)) (lv' := [(3, .int (zI (y + 1))), (2, .int (zI x)), (6, .int (zI 0)), (5, .int (zI (j : Int))), (4, .int (zI (q : Int))), (0, .ref (B 0)), (1, .int (zI z))]) hx hb dX5_costOf_170 hl (k := 4) rfl (zI_add _ _) (by decide) rfl (fun ls hl => ?_)
                refine lv_goto (tgt := 5) hx hb dX5_costOf_173 (by decide) ?_
                exact ih_5 (y + 1) (g + 1) x ct_1 H_43 _ (by omega) (by omega) (by omega) hx2 hM hOc hTn hS ls (lv_sub hl [0, 1, 5, 6] rfl)
              · refine lv_iload_n hx hb dX5_costOf_155 rfl (lv_at hl 4 rfl) ?_
                refine lv_aload_n hx hb dX5_costOf_156 rfl (lv_at hl 5 rfl) ?_
                refine g_get hx hb hX hts (fun w h => (List.mem_cons_of_mem _ (List.mem_append_right _ h))) hown m0 rfl 11 (by decide) (hts (.fieldLink RX5 36 "TuneCatalogueModel" "costs" "[I") (List.mem_cons_of_mem _ (List.mem_append_left _ (List.mem_append_left _ (List.mem_of_getElem? (i := 2) rfl))))) rfl dX5_costOf_157 ?_
                refine lv_iload_n hx hb dX5_costOf_160 rfl (lv_at hl 3 rfl) ?_
                refine gz_iald hx hb hX m6 g (by omega) (by omega) (by omega) dX5_costOf_161 ?_
                rw [hk_1]
                refine g_goi (vx_runS (As := [.int (zI x), .int (zI 1000000000)]) (rest := []) ⟨hx, hb, hml, hown, hts⟩ (m_least l G H_43 x 1000000000 ⟨by omega, by omega⟩ ⟨by omega, by omega⟩) (va_cwS 2 hts gX5_costOf_X5_least rfl rfl rfl hd_X5_least.2 ⟨(Nat.le_of_ble_eq_true rfl), (Nat.le_of_ble_eq_true rfl)⟩) (g_pre hX hS) rfl rfl hl.1 rfl (lv_room (Nat.le_of_ble_eq_true rfl)) dX5_costOf_162 ⟨(Nat.le_of_ble_eq_true rfl), (Nat.le_of_ble_eq_true rfl)⟩) hS (fun r_162 H_162 locs hp hS => ?_)
                obtain ⟨rfl, rfl⟩ := hp
                refine lv_goto (tgt := 169) hx hb dX5_costOf_165 (by decide) ?_
                refine lv_istore_n (lv' := [(2, .int (zI (min x 1000000000))), (6, .int (zI 0)), (5, .int (zI (j : Int))), (4, .int (zI (q : Int))), (3, .int (zI y)), (0, .ref (B 0)), (1, .int (zI z))]) hx hb dX5_costOf_169 rfl hl (by decide) rfl (fun ls hl => ?_)
                have hx2 : min x 1000000000 = mE (lastC (tX S i) (min (stn S i) (g + 1 - 24 * (shn S - 1)))) := by
                  by_cases hlast : q + 1 = shn S
                  · by_cases hjn : j < stn S i
                    · have h9 := lastE hX1 (n := stn S i) (m := j) hjn (show 1 ≤ shn S by omega)
                      rw [show xh (tX S i) - 1 = q from by show shn S - 1 = q; omega, ← hwv.1 hjn] at h9
                      rw [show g + 1 - 24 * (shn S - 1) = j + 1 by omega, h9]
                      rw [show g - 24 * (shn S - 1) = j by omega] at hx1
                      first | omega | (rw [← hx1])
                    · have h8 := hwv.2 (by omega)
                      rw [show min (stn S i) (g + 1 - 24 * (shn S - 1)) = min (stn S i) (g - 24 * (shn S - 1)) by omega]
                      omega
                  · rw [show g + 1 - 24 * (shn S - 1) = 0 by omega]
                    rw [show g - 24 * (shn S - 1) = 0 by omega] at hx1
                    omega
                refine lv_iinc (v := zI (y + 1)) (lv' := [(3, .int (zI (y + 1))), (2, .int (zI (min x 1000000000))), (6, .int (zI 0)), (5, .int (zI (j : Int))), (4, .int (zI (q : Int))), (0, .ref (B 0)), (1, .int (zI z))]) hx hb dX5_costOf_170 hl (k := 4) rfl (zI_add _ _) (by decide) rfl (fun ls hl => ?_)
                refine lv_goto (tgt := 5) hx hb dX5_costOf_173 (by decide) ?_
                exact ih_5 (y + 1) (g + 1) (min x 1000000000) ct_1 H_43 _ (by omega) (by omega) (by omega) hx2 hM hOc hTn hS ls (lv_sub hl [0, 1, 5, 6] rfl)
            · refine lv_iload_n hx hb dX5_costOf_64 rfl (lv_at hl 3 rfl) ?_
              refine gz_if_le (tgt := 144) hx hb ⟨by omega, by omega⟩ dX5_costOf_65 (by decide) (fun c_65 => ?_) (fun c_65 => ?_)
              · omega
              · refine lv_aload_n hx hb dX5_costOf_68 rfl (lv_at hl 5 rfl) ?_
                refine g_get hx hb hX hts (fun w h => (List.mem_cons_of_mem _ (List.mem_append_right _ h))) hown m0 rfl 11 (by decide) (hts (.fieldLink RX5 36 "TuneCatalogueModel" "costs" "[I") (List.mem_cons_of_mem _ (List.mem_append_left _ (List.mem_append_left _ (List.mem_of_getElem? (i := 2) rfl))))) rfl dX5_costOf_69 ?_
                refine lv_iload_n hx hb dX5_costOf_72 rfl (lv_at hl 3 rfl) ?_
                refine lv_aload_n hx hb dX5_costOf_73 rfl (lv_at hl 5 rfl) ?_
                refine g_get hx hb hX hts (fun w h => (List.mem_cons_of_mem _ (List.mem_append_right _ h))) hown m0 rfl 11 (by decide) (hts (.fieldLink RX5 36 "TuneCatalogueModel" "costs" "[I") (List.mem_cons_of_mem _ (List.mem_append_left _ (List.mem_append_left _ (List.mem_of_getElem? (i := 2) rfl))))) rfl dX5_costOf_74 ?_
                refine lv_iload_n hx hb dX5_costOf_77 rfl (lv_at hl 3 rfl) ?_
                refine gz_iald hx hb hX m6 g (by omega) (by omega) (by omega) dX5_costOf_78 ?_
                rw [hk_1]
                refine lv_aload_n hx hb dX5_costOf_79 rfl (lv_at hl 5 rfl) ?_
                refine lv_iload_n hx hb dX5_costOf_80 rfl (lv_at hl 6 rfl) ?_
                refine lv_iload hx hb dX5_costOf_81 (lv_at hl 2 rfl) ?_
                refine lv_iload hx hb dX5_costOf_83 (lv_at hl 1 rfl) ?_
                refine lv_iload hx hb dX5_costOf_85 (lv_at hl 2 rfl) ?_
                refine lv_iconst (v := zI 1) hx hb dX5_costOf_87 rfl ?_
                refine gz_isub hx hb dX5_costOf_88 ?_
                refine lv_iload hx hb dX5_costOf_89 (lv_at hl 0 rfl) ?_
                refine gz_isub hx hb dX5_costOf_91 ?_
                refine lv_iload hx hb dX5_costOf_92 (lv_at hl 1 rfl) ?_
                refine lv_iconst (v := zI 1) hx hb dX5_costOf_94 rfl ?_
                refine gz_isub hx hb dX5_costOf_95 ?_
                refine g_goi (vx_runV (As := [.int (zI z), .int (zI (q : Int)), .int (zI (j : Int)), .int (zI (((q : Int) - 1) - 0)), .int (zI ((j : Int) - 1))]) (rest := [.int (zI 1000000000), .int (zI y), .ref (B 6)]) ⟨hx, hb, hml, hown, hts⟩ (m_laid l G B S th ct_1 H_43 hM hI z (q : Int) (j : Int) (((q : Int) - 1) - 0) ((j : Int) - 1) i q j hz hi rfl rfl (by omega) (by omega) (by omega) (by omega) hTc) (cwV 5 hts gX5_costOf_X5_laid rfl rfl rfl hd_X5_laid ⟨(Nat.le_of_ble_eq_true rfl), (Nat.le_of_ble_eq_true rfl)⟩) (g_preV hX hS (ci := 5) rfl m0) rfl rfl hl.1 rfl (lv_room (Nat.le_of_ble_eq_true rfl)) dX5_costOf_96 ⟨(Nat.le_of_ble_eq_true rfl), (Nat.le_of_ble_eq_true rfl)⟩) hS (fun r_96 H_96 locs hp hS => ?_)
                obtain ⟨rfl, rfl⟩ := hp
                obtain ⟨m_2, hm_2⟩ : ∃ y : Int, y = mE (viaT (dp (tX S i)) (tX S i) (((q : Int) - 1) - 0) ((j : Int) - 1) q j) := ⟨_, rfl⟩
                rw [← hm_2]
                have hmr_2 : 0 ≤ m_2 ∧ m_2 ≤ 1000000000 := by rw [hm_2]; exact mE_rng (via_rng2 hX1 (by omega) (by omega) (by omega) (by omega))
                refine g_goi (vx_runS (As := [.int (zI 1000000000), .int (zI m_2)]) (rest := [.int (zI y), .ref (B 6)]) ⟨hx, hb, hml, hown, hts⟩ (m_least l G H_43 1000000000 m_2 ⟨by omega, by omega⟩ ⟨by omega, by omega⟩) (va_cwS 2 hts gX5_costOf_X5_least rfl rfl rfl hd_X5_least.2 ⟨(Nat.le_of_ble_eq_true rfl), (Nat.le_of_ble_eq_true rfl)⟩) (g_pre hX hS) rfl rfl hl.1 rfl (lv_room (Nat.le_of_ble_eq_true rfl)) dX5_costOf_99 ⟨(Nat.le_of_ble_eq_true rfl), (Nat.le_of_ble_eq_true rfl)⟩) hS (fun r_99 H_99 locs hp hS => ?_)
                obtain ⟨rfl, rfl⟩ := hp
                obtain ⟨w_2, hw_2⟩ : ∃ y : Int, y = min 1000000000 m_2 := ⟨_, rfl⟩
                rw [← hw_2]
                have hwr_2 : 0 ≤ w_2 ∧ w_2 ≤ 1000000000 := by omega
                refine gz_iast hx hb hX hS m6 gB6 g (by omega) (by omega) (by omega) dX5_costOf_102 (fun H_102 locs h_n hO hS => ?_)
                obtain ⟨ct_2, hct_2⟩ : ∃ f : Nat → Int32, f = upd ct_1 g (zI w_2) := ⟨_, rfl⟩
                rw [← hct_2] at h_n
                have m0 := gat.only1 m0 hO (hB 0 6 (by omega) (by omega) (by omega))
                have m1 := gat.only1 m1 hO (hB 1 6 (by omega) (by omega) (by omega))
                have m2 := gat.only1 m2 hO (hB 2 6 (by omega) (by omega) (by omega))
                have m3 := gat.only1 m3 hO (hB 3 6 (by omega) (by omega) (by omega))
                have m4 := gat.only1 m4 hO (hB 4 6 (by omega) (by omega) (by omega))
                have m5 := gat.only1 m5 hO (hB 5 6 (by omega) (by omega) (by omega))
                have m7 := gat.only1 m7 hO (hB 7 6 (by omega) (by omega) (by omega))
                have m6 : gat G (B 6) (.inl (gI G, 288, .inl ct_2)) H_102 := h_n
                have hk_2 : ct_2 g = zI w_2 := by rw [hct_2]; exact if_pos rfl
                have hn_2 : ∀ a, a ≠ g → ct_2 a = cg a := fun a ha => by rw [hct_2]; exact (if_neg ha).trans (hn_1 a ha)
                have hM : Mod G B S th ct_2 H_102 := ⟨m0, m1, m2, m3, m4, m5, m6, m7, hB, gBs⟩
                have hOc := hOc.trans hO (fun _ h => h) (fun _ h => h)
                have hTc : ∀ a b : Nat, a < q → b < stn S i → ct_2 (24 * a + b) = zI (mE (dp (tX S i) a b)) := fun a b h1 h2 => by rw [hn_2 _ (by omega)]; exact hTb a b (by omega) h2
                refine lv_aload_n hx hb dX5_costOf_103 rfl (lv_at hl 5 rfl) ?_
                refine g_get hx hb hX hts (fun w h => (List.mem_cons_of_mem _ (List.mem_append_right _ h))) hown m0 rfl 11 (by decide) (hts (.fieldLink RX5 36 "TuneCatalogueModel" "costs" "[I") (List.mem_cons_of_mem _ (List.mem_append_left _ (List.mem_append_left _ (List.mem_of_getElem? (i := 2) rfl))))) rfl dX5_costOf_104 ?_
                refine lv_iload_n hx hb dX5_costOf_107 rfl (lv_at hl 3 rfl) ?_
                refine lv_aload_n hx hb dX5_costOf_108 rfl (lv_at hl 5 rfl) ?_
                refine g_get hx hb hX hts (fun w h => (List.mem_cons_of_mem _ (List.mem_append_right _ h))) hown m0 rfl 11 (by decide) (hts (.fieldLink RX5 36 "TuneCatalogueModel" "costs" "[I") (List.mem_cons_of_mem _ (List.mem_append_left _ (List.mem_append_left _ (List.mem_of_getElem? (i := 2) rfl))))) rfl dX5_costOf_109 ?_
                refine lv_iload_n hx hb dX5_costOf_112 rfl (lv_at hl 3 rfl) ?_
                refine gz_iald hx hb hX m6 g (by omega) (by omega) (by omega) dX5_costOf_113 ?_
                rw [hk_2]
                refine lv_aload_n hx hb dX5_costOf_114 rfl (lv_at hl 5 rfl) ?_
                refine lv_iload_n hx hb dX5_costOf_115 rfl (lv_at hl 6 rfl) ?_
                refine lv_iload hx hb dX5_costOf_116 (lv_at hl 2 rfl) ?_
                refine lv_iload hx hb dX5_costOf_118 (lv_at hl 1 rfl) ?_
                refine lv_iload hx hb dX5_costOf_120 (lv_at hl 2 rfl) ?_
                refine lv_iconst (v := zI 1) hx hb dX5_costOf_122 rfl ?_
                refine gz_isub hx hb dX5_costOf_123 ?_
                refine lv_iload hx hb dX5_costOf_124 (lv_at hl 1 rfl) ?_
                refine lv_iconst (v := zI 1) hx hb dX5_costOf_126 rfl ?_
                refine gz_isub hx hb dX5_costOf_127 ?_
                refine lv_iload hx hb dX5_costOf_128 (lv_at hl 0 rfl) ?_
                refine gz_isub hx hb dX5_costOf_130 ?_
                refine g_goi (vx_runV (As := [.int (zI z), .int (zI (q : Int)), .int (zI (j : Int)), .int (zI ((q : Int) - 1)), .int (zI (((j : Int) - 1) - 0))]) (rest := [.int (zI w_2), .int (zI y), .ref (B 6)]) ⟨hx, hb, hml, hown, hts⟩ (m_laid l G B S th ct_2 H_102 hM hI z (q : Int) (j : Int) ((q : Int) - 1) (((j : Int) - 1) - 0) i q j hz hi rfl rfl (by omega) (by omega) (by omega) (by omega) hTc) (cwV 5 hts gX5_costOf_X5_laid rfl rfl rfl hd_X5_laid ⟨(Nat.le_of_ble_eq_true rfl), (Nat.le_of_ble_eq_true rfl)⟩) (g_preV hX hS (ci := 5) rfl m0) rfl rfl hl.1 rfl (lv_room (Nat.le_of_ble_eq_true rfl)) dX5_costOf_131 ⟨(Nat.le_of_ble_eq_true rfl), (Nat.le_of_ble_eq_true rfl)⟩) hS (fun r_131 H_131 locs hp hS => ?_)
                obtain ⟨rfl, rfl⟩ := hp
                obtain ⟨m_3, hm_3⟩ : ∃ y : Int, y = mE (viaT (dp (tX S i)) (tX S i) ((q : Int) - 1) (((j : Int) - 1) - 0) q j) := ⟨_, rfl⟩
                rw [← hm_3]
                have hmr_3 : 0 ≤ m_3 ∧ m_3 ≤ 1000000000 := by rw [hm_3]; exact mE_rng (via_rng2 hX1 (by omega) (by omega) (by omega) (by omega))
                refine g_goi (vx_runS (As := [.int (zI w_2), .int (zI m_3)]) (rest := [.int (zI y), .ref (B 6)]) ⟨hx, hb, hml, hown, hts⟩ (m_least l G H_102 w_2 m_3 ⟨by omega, by omega⟩ ⟨by omega, by omega⟩) (va_cwS 2 hts gX5_costOf_X5_least rfl rfl rfl hd_X5_least.2 ⟨(Nat.le_of_ble_eq_true rfl), (Nat.le_of_ble_eq_true rfl)⟩) (g_pre hX hS) rfl rfl hl.1 rfl (lv_room (Nat.le_of_ble_eq_true rfl)) dX5_costOf_134 ⟨(Nat.le_of_ble_eq_true rfl), (Nat.le_of_ble_eq_true rfl)⟩) hS (fun r_134 H_134 locs hp hS => ?_)
                obtain ⟨rfl, rfl⟩ := hp
                obtain ⟨w_3, hw_3⟩ : ∃ y : Int, y = min w_2 m_3 := ⟨_, rfl⟩
                rw [← hw_3]
                have hwr_3 : 0 ≤ w_3 ∧ w_3 ≤ 1000000000 := by omega
                refine gz_iast hx hb hX hS m6 gB6 g (by omega) (by omega) (by omega) dX5_costOf_137 (fun H_137 locs h_n hO hS => ?_)
                obtain ⟨ct_3, hct_3⟩ : ∃ f : Nat → Int32, f = upd ct_2 g (zI w_3) := ⟨_, rfl⟩
                rw [← hct_3] at h_n
                have m0 := gat.only1 m0 hO (hB 0 6 (by omega) (by omega) (by omega))
                have m1 := gat.only1 m1 hO (hB 1 6 (by omega) (by omega) (by omega))
                have m2 := gat.only1 m2 hO (hB 2 6 (by omega) (by omega) (by omega))
                have m3 := gat.only1 m3 hO (hB 3 6 (by omega) (by omega) (by omega))
                have m4 := gat.only1 m4 hO (hB 4 6 (by omega) (by omega) (by omega))
                have m5 := gat.only1 m5 hO (hB 5 6 (by omega) (by omega) (by omega))
                have m7 := gat.only1 m7 hO (hB 7 6 (by omega) (by omega) (by omega))
                have m6 : gat G (B 6) (.inl (gI G, 288, .inl ct_3)) H_137 := h_n
                have hk_3 : ct_3 g = zI w_3 := by rw [hct_3]; exact if_pos rfl
                have hn_3 : ∀ a, a ≠ g → ct_3 a = cg a := fun a ha => by rw [hct_3]; exact (if_neg ha).trans (hn_2 a ha)
                have hM : Mod G B S th ct_3 H_137 := ⟨m0, m1, m2, m3, m4, m5, m6, m7, hB, gBs⟩
                have hOc := hOc.trans hO (fun _ h => h) (fun _ h => h)
                have hTc : ∀ a b : Nat, a < q → b < stn S i → ct_3 (24 * a + b) = zI (mE (dp (tX S i) a b)) := fun a b h1 h2 => by rw [hn_3 _ (by omega)]; exact hTb a b (by omega) h2
                refine lv_iinc (v := zI 1) (lv' := [(6, .int (zI 1)), (5, .int (zI (j : Int))), (4, .int (zI (q : Int))), (3, .int (zI y)), (2, .int (zI x)), (0, .ref (B 0)), (1, .int (zI z))]) hx hb dX5_costOf_138 hl (k := 0) rfl (by decide +kernel) (by decide) rfl (fun ls hl => ?_)
                refine lv_goto (tgt := 47) hx hb dX5_costOf_141 (by decide) ?_
                refine lv_iload hx hb dX5_costOf_47 (lv_at hl 0 rfl) ?_
                refine lv_iconst (v := zI 2) hx hb dX5_costOf_49 rfl ?_
                refine gz_icmp_gt (tgt := 144) hx hb (by decide) (by decide) dX5_costOf_50 (by decide) (fun c_50 => ?_) (fun c_50 => ?_)
                · omega
                · refine lv_iload hx hb dX5_costOf_53 (lv_at hl 1 rfl) ?_
                  refine lv_aload_n hx hb dX5_costOf_55 rfl (lv_at hl 5 rfl) ?_
                  refine g_get hx hb hX hts (fun w h => (List.mem_cons_of_mem _ (List.mem_append_right _ h))) hown m0 rfl 4 (by decide) (hts (.fieldLink RX5 16 "TuneCatalogueModel" "sizes" "[I") (List.mem_cons_of_mem _ (List.mem_append_left _ (List.mem_append_left _ (List.mem_of_getElem? (i := 3) rfl))))) rfl dX5_costOf_56 ?_
                  refine lv_iload_n hx hb dX5_costOf_59 rfl (lv_at hl 6 rfl) ?_
                  refine gz_iald hx hb hX m3 i (by omega) (by omega) (by omega) dX5_costOf_60 ?_
                  refine gz_icmp_ge (tgt := 144) hx hb ⟨by omega, by omega⟩ ⟨by omega, by omega⟩ dX5_costOf_61 (by decide) (fun c_61 => ?_) (fun c_61 => ?_)
                  · omega
                  · refine lv_iload_n hx hb dX5_costOf_64 rfl (lv_at hl 3 rfl) ?_
                    refine gz_if_le (tgt := 144) hx hb ⟨by omega, by omega⟩ dX5_costOf_65 (by decide) (fun c_65 => ?_) (fun c_65 => ?_)
                    · omega
                    · refine lv_aload_n hx hb dX5_costOf_68 rfl (lv_at hl 5 rfl) ?_
                      refine g_get hx hb hX hts (fun w h => (List.mem_cons_of_mem _ (List.mem_append_right _ h))) hown m0 rfl 11 (by decide) (hts (.fieldLink RX5 36 "TuneCatalogueModel" "costs" "[I") (List.mem_cons_of_mem _ (List.mem_append_left _ (List.mem_append_left _ (List.mem_of_getElem? (i := 2) rfl))))) rfl dX5_costOf_69 ?_
                      refine lv_iload_n hx hb dX5_costOf_72 rfl (lv_at hl 3 rfl) ?_
                      refine lv_aload_n hx hb dX5_costOf_73 rfl (lv_at hl 5 rfl) ?_
                      refine g_get hx hb hX hts (fun w h => (List.mem_cons_of_mem _ (List.mem_append_right _ h))) hown m0 rfl 11 (by decide) (hts (.fieldLink RX5 36 "TuneCatalogueModel" "costs" "[I") (List.mem_cons_of_mem _ (List.mem_append_left _ (List.mem_append_left _ (List.mem_of_getElem? (i := 2) rfl))))) rfl dX5_costOf_74 ?_
                      refine lv_iload_n hx hb dX5_costOf_77 rfl (lv_at hl 3 rfl) ?_
                      refine gz_iald hx hb hX m6 g (by omega) (by omega) (by omega) dX5_costOf_78 ?_
                      rw [hk_3]
                      refine lv_aload_n hx hb dX5_costOf_79 rfl (lv_at hl 5 rfl) ?_
                      refine lv_iload_n hx hb dX5_costOf_80 rfl (lv_at hl 6 rfl) ?_
                      refine lv_iload hx hb dX5_costOf_81 (lv_at hl 2 rfl) ?_
                      refine lv_iload hx hb dX5_costOf_83 (lv_at hl 1 rfl) ?_
                      refine lv_iload hx hb dX5_costOf_85 (lv_at hl 2 rfl) ?_
                      refine lv_iconst (v := zI 1) hx hb dX5_costOf_87 rfl ?_
                      refine gz_isub hx hb dX5_costOf_88 ?_
                      refine lv_iload hx hb dX5_costOf_89 (lv_at hl 0 rfl) ?_
                      refine gz_isub hx hb dX5_costOf_91 ?_
                      refine lv_iload hx hb dX5_costOf_92 (lv_at hl 1 rfl) ?_
                      refine lv_iconst (v := zI 1) hx hb dX5_costOf_94 rfl ?_
                      refine gz_isub hx hb dX5_costOf_95 ?_
                      refine g_goi (vx_runV (As := [.int (zI z), .int (zI (q : Int)), .int (zI (j : Int)), .int (zI (((q : Int) - 1) - 1)), .int (zI ((j : Int) - 1))]) (rest := [.int (zI w_3), .int (zI y), .ref (B 6)]) ⟨hx, hb, hml, hown, hts⟩ (m_laid l G B S th ct_3 H_137 hM hI z (q : Int) (j : Int) (((q : Int) - 1) - 1) ((j : Int) - 1) i q j hz hi rfl rfl (by omega) (by omega) (by omega) (by omega) hTc) (cwV 5 hts gX5_costOf_X5_laid rfl rfl rfl hd_X5_laid ⟨(Nat.le_of_ble_eq_true rfl), (Nat.le_of_ble_eq_true rfl)⟩) (g_preV hX hS (ci := 5) rfl m0) rfl rfl hl.1 rfl (lv_room (Nat.le_of_ble_eq_true rfl)) dX5_costOf_96 ⟨(Nat.le_of_ble_eq_true rfl), (Nat.le_of_ble_eq_true rfl)⟩) hS (fun r_96 H_96 locs hp hS => ?_)
                      obtain ⟨rfl, rfl⟩ := hp
                      obtain ⟨m_4, hm_4⟩ : ∃ y : Int, y = mE (viaT (dp (tX S i)) (tX S i) (((q : Int) - 1) - 1) ((j : Int) - 1) q j) := ⟨_, rfl⟩
                      rw [← hm_4]
                      have hmr_4 : 0 ≤ m_4 ∧ m_4 ≤ 1000000000 := by rw [hm_4]; exact mE_rng (via_rng2 hX1 (by omega) (by omega) (by omega) (by omega))
                      refine g_goi (vx_runS (As := [.int (zI w_3), .int (zI m_4)]) (rest := [.int (zI y), .ref (B 6)]) ⟨hx, hb, hml, hown, hts⟩ (m_least l G H_137 w_3 m_4 ⟨by omega, by omega⟩ ⟨by omega, by omega⟩) (va_cwS 2 hts gX5_costOf_X5_least rfl rfl rfl hd_X5_least.2 ⟨(Nat.le_of_ble_eq_true rfl), (Nat.le_of_ble_eq_true rfl)⟩) (g_pre hX hS) rfl rfl hl.1 rfl (lv_room (Nat.le_of_ble_eq_true rfl)) dX5_costOf_99 ⟨(Nat.le_of_ble_eq_true rfl), (Nat.le_of_ble_eq_true rfl)⟩) hS (fun r_99 H_99 locs hp hS => ?_)
                      obtain ⟨rfl, rfl⟩ := hp
                      obtain ⟨w_4, hw_4⟩ : ∃ y : Int, y = min w_3 m_4 := ⟨_, rfl⟩
                      rw [← hw_4]
                      have hwr_4 : 0 ≤ w_4 ∧ w_4 ≤ 1000000000 := by omega
                      refine gz_iast hx hb hX hS m6 gB6 g (by omega) (by omega) (by omega) dX5_costOf_102 (fun H_102 locs h_n hO hS => ?_)
                      obtain ⟨ct_4, hct_4⟩ : ∃ f : Nat → Int32, f = upd ct_3 g (zI w_4) := ⟨_, rfl⟩
                      rw [← hct_4] at h_n
                      have m0 := gat.only1 m0 hO (hB 0 6 (by omega) (by omega) (by omega))
                      have m1 := gat.only1 m1 hO (hB 1 6 (by omega) (by omega) (by omega))
                      have m2 := gat.only1 m2 hO (hB 2 6 (by omega) (by omega) (by omega))
                      have m3 := gat.only1 m3 hO (hB 3 6 (by omega) (by omega) (by omega))
                      have m4 := gat.only1 m4 hO (hB 4 6 (by omega) (by omega) (by omega))
                      have m5 := gat.only1 m5 hO (hB 5 6 (by omega) (by omega) (by omega))
                      have m7 := gat.only1 m7 hO (hB 7 6 (by omega) (by omega) (by omega))
                      have m6 : gat G (B 6) (.inl (gI G, 288, .inl ct_4)) H_102 := h_n
                      have hk_4 : ct_4 g = zI w_4 := by rw [hct_4]; exact if_pos rfl
                      have hn_4 : ∀ a, a ≠ g → ct_4 a = cg a := fun a ha => by rw [hct_4]; exact (if_neg ha).trans (hn_3 a ha)
                      have hM : Mod G B S th ct_4 H_102 := ⟨m0, m1, m2, m3, m4, m5, m6, m7, hB, gBs⟩
                      have hOc := hOc.trans hO (fun _ h => h) (fun _ h => h)
                      have hTc : ∀ a b : Nat, a < q → b < stn S i → ct_4 (24 * a + b) = zI (mE (dp (tX S i) a b)) := fun a b h1 h2 => by rw [hn_4 _ (by omega)]; exact hTb a b (by omega) h2
                      refine lv_aload_n hx hb dX5_costOf_103 rfl (lv_at hl 5 rfl) ?_
                      refine g_get hx hb hX hts (fun w h => (List.mem_cons_of_mem _ (List.mem_append_right _ h))) hown m0 rfl 11 (by decide) (hts (.fieldLink RX5 36 "TuneCatalogueModel" "costs" "[I") (List.mem_cons_of_mem _ (List.mem_append_left _ (List.mem_append_left _ (List.mem_of_getElem? (i := 2) rfl))))) rfl dX5_costOf_104 ?_
                      refine lv_iload_n hx hb dX5_costOf_107 rfl (lv_at hl 3 rfl) ?_
                      refine lv_aload_n hx hb dX5_costOf_108 rfl (lv_at hl 5 rfl) ?_
                      refine g_get hx hb hX hts (fun w h => (List.mem_cons_of_mem _ (List.mem_append_right _ h))) hown m0 rfl 11 (by decide) (hts (.fieldLink RX5 36 "TuneCatalogueModel" "costs" "[I") (List.mem_cons_of_mem _ (List.mem_append_left _ (List.mem_append_left _ (List.mem_of_getElem? (i := 2) rfl))))) rfl dX5_costOf_109 ?_
                      refine lv_iload_n hx hb dX5_costOf_112 rfl (lv_at hl 3 rfl) ?_
                      refine gz_iald hx hb hX m6 g (by omega) (by omega) (by omega) dX5_costOf_113 ?_
                      rw [hk_4]
                      refine lv_aload_n hx hb dX5_costOf_114 rfl (lv_at hl 5 rfl) ?_
                      refine lv_iload_n hx hb dX5_costOf_115 rfl (lv_at hl 6 rfl) ?_
                      refine lv_iload hx hb dX5_costOf_116 (lv_at hl 2 rfl) ?_
                      refine lv_iload hx hb dX5_costOf_118 (lv_at hl 1 rfl) ?_
                      refine lv_iload hx hb dX5_costOf_120 (lv_at hl 2 rfl) ?_
                      refine lv_iconst (v := zI 1) hx hb dX5_costOf_122 rfl ?_
                      refine gz_isub hx hb dX5_costOf_123 ?_
                      refine lv_iload hx hb dX5_costOf_124 (lv_at hl 1 rfl) ?_
                      refine lv_iconst (v := zI 1) hx hb dX5_costOf_126 rfl ?_
                      refine gz_isub hx hb dX5_costOf_127 ?_
                      refine lv_iload hx hb dX5_costOf_128 (lv_at hl 0 rfl) ?_
                      refine gz_isub hx hb dX5_costOf_130 ?_
                      refine g_goi (vx_runV (As := [.int (zI z), .int (zI (q : Int)), .int (zI (j : Int)), .int (zI ((q : Int) - 1)), .int (zI (((j : Int) - 1) - 1))]) (rest := [.int (zI w_4), .int (zI y), .ref (B 6)]) ⟨hx, hb, hml, hown, hts⟩ (m_laid l G B S th ct_4 H_102 hM hI z (q : Int) (j : Int) ((q : Int) - 1) (((j : Int) - 1) - 1) i q j hz hi rfl rfl (by omega) (by omega) (by omega) (by omega) hTc) (cwV 5 hts gX5_costOf_X5_laid rfl rfl rfl hd_X5_laid ⟨(Nat.le_of_ble_eq_true rfl), (Nat.le_of_ble_eq_true rfl)⟩) (g_preV hX hS (ci := 5) rfl m0) rfl rfl hl.1 rfl (lv_room (Nat.le_of_ble_eq_true rfl)) dX5_costOf_131 ⟨(Nat.le_of_ble_eq_true rfl), (Nat.le_of_ble_eq_true rfl)⟩) hS (fun r_131 H_131 locs hp hS => ?_)
                      obtain ⟨rfl, rfl⟩ := hp
                      obtain ⟨m_5, hm_5⟩ : ∃ y : Int, y = mE (viaT (dp (tX S i)) (tX S i) ((q : Int) - 1) (((j : Int) - 1) - 1) q j) := ⟨_, rfl⟩
                      rw [← hm_5]
                      have hmr_5 : 0 ≤ m_5 ∧ m_5 ≤ 1000000000 := by rw [hm_5]; exact mE_rng (via_rng2 hX1 (by omega) (by omega) (by omega) (by omega))
                      refine g_goi (vx_runS (As := [.int (zI w_4), .int (zI m_5)]) (rest := [.int (zI y), .ref (B 6)]) ⟨hx, hb, hml, hown, hts⟩ (m_least l G H_102 w_4 m_5 ⟨by omega, by omega⟩ ⟨by omega, by omega⟩) (va_cwS 2 hts gX5_costOf_X5_least rfl rfl rfl hd_X5_least.2 ⟨(Nat.le_of_ble_eq_true rfl), (Nat.le_of_ble_eq_true rfl)⟩) (g_pre hX hS) rfl rfl hl.1 rfl (lv_room (Nat.le_of_ble_eq_true rfl)) dX5_costOf_134 ⟨(Nat.le_of_ble_eq_true rfl), (Nat.le_of_ble_eq_true rfl)⟩) hS (fun r_134 H_134 locs hp hS => ?_)
                      obtain ⟨rfl, rfl⟩ := hp
                      obtain ⟨w_5, hw_5⟩ : ∃ y : Int, y = min w_4 m_5 := ⟨_, rfl⟩
                      rw [← hw_5]
                      have hwr_5 : 0 ≤ w_5 ∧ w_5 ≤ 1000000000 := by omega
                      refine gz_iast hx hb hX hS m6 gB6 g (by omega) (by omega) (by omega) dX5_costOf_137 (fun H_137 locs h_n hO hS => ?_)
                      obtain ⟨ct_5, hct_5⟩ : ∃ f : Nat → Int32, f = upd ct_4 g (zI w_5) := ⟨_, rfl⟩
                      rw [← hct_5] at h_n
                      have m0 := gat.only1 m0 hO (hB 0 6 (by omega) (by omega) (by omega))
                      have m1 := gat.only1 m1 hO (hB 1 6 (by omega) (by omega) (by omega))
                      have m2 := gat.only1 m2 hO (hB 2 6 (by omega) (by omega) (by omega))
                      have m3 := gat.only1 m3 hO (hB 3 6 (by omega) (by omega) (by omega))
                      have m4 := gat.only1 m4 hO (hB 4 6 (by omega) (by omega) (by omega))
                      have m5 := gat.only1 m5 hO (hB 5 6 (by omega) (by omega) (by omega))
                      have m7 := gat.only1 m7 hO (hB 7 6 (by omega) (by omega) (by omega))
                      have m6 : gat G (B 6) (.inl (gI G, 288, .inl ct_5)) H_137 := h_n
                      have hk_5 : ct_5 g = zI w_5 := by rw [hct_5]; exact if_pos rfl
                      have hn_5 : ∀ a, a ≠ g → ct_5 a = cg a := fun a ha => by rw [hct_5]; exact (if_neg ha).trans (hn_4 a ha)
                      have hM : Mod G B S th ct_5 H_137 := ⟨m0, m1, m2, m3, m4, m5, m6, m7, hB, gBs⟩
                      have hOc := hOc.trans hO (fun _ h => h) (fun _ h => h)
                      have hTc : ∀ a b : Nat, a < q → b < stn S i → ct_5 (24 * a + b) = zI (mE (dp (tX S i) a b)) := fun a b h1 h2 => by rw [hn_5 _ (by omega)]; exact hTb a b (by omega) h2
                      refine lv_iinc (v := zI 2) (lv' := [(6, .int (zI 2)), (5, .int (zI (j : Int))), (4, .int (zI (q : Int))), (3, .int (zI y)), (2, .int (zI x)), (0, .ref (B 0)), (1, .int (zI z))]) hx hb dX5_costOf_138 hl (k := 0) rfl (by decide +kernel) (by decide) rfl (fun ls hl => ?_)
                      refine lv_goto (tgt := 47) hx hb dX5_costOf_141 (by decide) ?_
                      refine lv_iload hx hb dX5_costOf_47 (lv_at hl 0 rfl) ?_
                      refine lv_iconst (v := zI 2) hx hb dX5_costOf_49 rfl ?_
                      refine gz_icmp_gt (tgt := 144) hx hb (by decide) (by decide) dX5_costOf_50 (by decide) (fun c_50 => ?_) (fun c_50 => ?_)
                      · omega
                      · refine lv_iload hx hb dX5_costOf_53 (lv_at hl 1 rfl) ?_
                        refine lv_aload_n hx hb dX5_costOf_55 rfl (lv_at hl 5 rfl) ?_
                        refine g_get hx hb hX hts (fun w h => (List.mem_cons_of_mem _ (List.mem_append_right _ h))) hown m0 rfl 4 (by decide) (hts (.fieldLink RX5 16 "TuneCatalogueModel" "sizes" "[I") (List.mem_cons_of_mem _ (List.mem_append_left _ (List.mem_append_left _ (List.mem_of_getElem? (i := 3) rfl))))) rfl dX5_costOf_56 ?_
                        refine lv_iload_n hx hb dX5_costOf_59 rfl (lv_at hl 6 rfl) ?_
                        refine gz_iald hx hb hX m3 i (by omega) (by omega) (by omega) dX5_costOf_60 ?_
                        refine gz_icmp_ge (tgt := 144) hx hb ⟨by omega, by omega⟩ ⟨by omega, by omega⟩ dX5_costOf_61 (by decide) (fun c_61 => ?_) (fun c_61 => ?_)
                        · omega
                        · refine lv_iload_n hx hb dX5_costOf_64 rfl (lv_at hl 3 rfl) ?_
                          refine gz_if_le (tgt := 144) hx hb ⟨by omega, by omega⟩ dX5_costOf_65 (by decide) (fun c_65 => ?_) (fun c_65 => ?_)
                          · omega
                          · refine lv_aload_n hx hb dX5_costOf_68 rfl (lv_at hl 5 rfl) ?_
                            refine g_get hx hb hX hts (fun w h => (List.mem_cons_of_mem _ (List.mem_append_right _ h))) hown m0 rfl 11 (by decide) (hts (.fieldLink RX5 36 "TuneCatalogueModel" "costs" "[I") (List.mem_cons_of_mem _ (List.mem_append_left _ (List.mem_append_left _ (List.mem_of_getElem? (i := 2) rfl))))) rfl dX5_costOf_69 ?_
                            refine lv_iload_n hx hb dX5_costOf_72 rfl (lv_at hl 3 rfl) ?_
                            refine lv_aload_n hx hb dX5_costOf_73 rfl (lv_at hl 5 rfl) ?_
                            refine g_get hx hb hX hts (fun w h => (List.mem_cons_of_mem _ (List.mem_append_right _ h))) hown m0 rfl 11 (by decide) (hts (.fieldLink RX5 36 "TuneCatalogueModel" "costs" "[I") (List.mem_cons_of_mem _ (List.mem_append_left _ (List.mem_append_left _ (List.mem_of_getElem? (i := 2) rfl))))) rfl dX5_costOf_74 ?_
                            refine lv_iload_n hx hb dX5_costOf_77 rfl (lv_at hl 3 rfl) ?_
                            refine gz_iald hx hb hX m6 g (by omega) (by omega) (by omega) dX5_costOf_78 ?_
                            rw [hk_5]
                            refine lv_aload_n hx hb dX5_costOf_79 rfl (lv_at hl 5 rfl) ?_
                            refine lv_iload_n hx hb dX5_costOf_80 rfl (lv_at hl 6 rfl) ?_
                            refine lv_iload hx hb dX5_costOf_81 (lv_at hl 2 rfl) ?_
                            refine lv_iload hx hb dX5_costOf_83 (lv_at hl 1 rfl) ?_
                            refine lv_iload hx hb dX5_costOf_85 (lv_at hl 2 rfl) ?_
                            refine lv_iconst (v := zI 1) hx hb dX5_costOf_87 rfl ?_
                            refine gz_isub hx hb dX5_costOf_88 ?_
                            refine lv_iload hx hb dX5_costOf_89 (lv_at hl 0 rfl) ?_
                            refine gz_isub hx hb dX5_costOf_91 ?_
                            refine lv_iload hx hb dX5_costOf_92 (lv_at hl 1 rfl) ?_
                            refine lv_iconst (v := zI 1) hx hb dX5_costOf_94 rfl ?_
                            refine gz_isub hx hb dX5_costOf_95 ?_
                            refine g_goi (vx_runV (As := [.int (zI z), .int (zI (q : Int)), .int (zI (j : Int)), .int (zI (((q : Int) - 1) - 2)), .int (zI ((j : Int) - 1))]) (rest := [.int (zI w_5), .int (zI y), .ref (B 6)]) ⟨hx, hb, hml, hown, hts⟩ (m_laid l G B S th ct_5 H_137 hM hI z (q : Int) (j : Int) (((q : Int) - 1) - 2) ((j : Int) - 1) i q j hz hi rfl rfl (by omega) (by omega) (by omega) (by omega) hTc) (cwV 5 hts gX5_costOf_X5_laid rfl rfl rfl hd_X5_laid ⟨(Nat.le_of_ble_eq_true rfl), (Nat.le_of_ble_eq_true rfl)⟩) (g_preV hX hS (ci := 5) rfl m0) rfl rfl hl.1 rfl (lv_room (Nat.le_of_ble_eq_true rfl)) dX5_costOf_96 ⟨(Nat.le_of_ble_eq_true rfl), (Nat.le_of_ble_eq_true rfl)⟩) hS (fun r_96 H_96 locs hp hS => ?_)
                            obtain ⟨rfl, rfl⟩ := hp
                            obtain ⟨m_6, hm_6⟩ : ∃ y : Int, y = mE (viaT (dp (tX S i)) (tX S i) (((q : Int) - 1) - 2) ((j : Int) - 1) q j) := ⟨_, rfl⟩
                            rw [← hm_6]
                            have hmr_6 : 0 ≤ m_6 ∧ m_6 ≤ 1000000000 := by rw [hm_6]; exact mE_rng (via_rng2 hX1 (by omega) (by omega) (by omega) (by omega))
                            refine g_goi (vx_runS (As := [.int (zI w_5), .int (zI m_6)]) (rest := [.int (zI y), .ref (B 6)]) ⟨hx, hb, hml, hown, hts⟩ (m_least l G H_137 w_5 m_6 ⟨by omega, by omega⟩ ⟨by omega, by omega⟩) (va_cwS 2 hts gX5_costOf_X5_least rfl rfl rfl hd_X5_least.2 ⟨(Nat.le_of_ble_eq_true rfl), (Nat.le_of_ble_eq_true rfl)⟩) (g_pre hX hS) rfl rfl hl.1 rfl (lv_room (Nat.le_of_ble_eq_true rfl)) dX5_costOf_99 ⟨(Nat.le_of_ble_eq_true rfl), (Nat.le_of_ble_eq_true rfl)⟩) hS (fun r_99 H_99 locs hp hS => ?_)
                            obtain ⟨rfl, rfl⟩ := hp
                            obtain ⟨w_6, hw_6⟩ : ∃ y : Int, y = min w_5 m_6 := ⟨_, rfl⟩
                            rw [← hw_6]
                            have hwr_6 : 0 ≤ w_6 ∧ w_6 ≤ 1000000000 := by omega
                            refine gz_iast hx hb hX hS m6 gB6 g (by omega) (by omega) (by omega) dX5_costOf_102 (fun H_102 locs h_n hO hS => ?_)
                            obtain ⟨ct_6, hct_6⟩ : ∃ f : Nat → Int32, f = upd ct_5 g (zI w_6) := ⟨_, rfl⟩
                            rw [← hct_6] at h_n
                            have m0 := gat.only1 m0 hO (hB 0 6 (by omega) (by omega) (by omega))
                            have m1 := gat.only1 m1 hO (hB 1 6 (by omega) (by omega) (by omega))
                            have m2 := gat.only1 m2 hO (hB 2 6 (by omega) (by omega) (by omega))
                            have m3 := gat.only1 m3 hO (hB 3 6 (by omega) (by omega) (by omega))
                            have m4 := gat.only1 m4 hO (hB 4 6 (by omega) (by omega) (by omega))
                            have m5 := gat.only1 m5 hO (hB 5 6 (by omega) (by omega) (by omega))
                            have m7 := gat.only1 m7 hO (hB 7 6 (by omega) (by omega) (by omega))
                            have m6 : gat G (B 6) (.inl (gI G, 288, .inl ct_6)) H_102 := h_n
                            have hk_6 : ct_6 g = zI w_6 := by rw [hct_6]; exact if_pos rfl
                            have hn_6 : ∀ a, a ≠ g → ct_6 a = cg a := fun a ha => by rw [hct_6]; exact (if_neg ha).trans (hn_5 a ha)
                            have hM : Mod G B S th ct_6 H_102 := ⟨m0, m1, m2, m3, m4, m5, m6, m7, hB, gBs⟩
                            have hOc := hOc.trans hO (fun _ h => h) (fun _ h => h)
                            have hTc : ∀ a b : Nat, a < q → b < stn S i → ct_6 (24 * a + b) = zI (mE (dp (tX S i) a b)) := fun a b h1 h2 => by rw [hn_6 _ (by omega)]; exact hTb a b (by omega) h2
                            refine lv_aload_n hx hb dX5_costOf_103 rfl (lv_at hl 5 rfl) ?_
                            refine g_get hx hb hX hts (fun w h => (List.mem_cons_of_mem _ (List.mem_append_right _ h))) hown m0 rfl 11 (by decide) (hts (.fieldLink RX5 36 "TuneCatalogueModel" "costs" "[I") (List.mem_cons_of_mem _ (List.mem_append_left _ (List.mem_append_left _ (List.mem_of_getElem? (i := 2) rfl))))) rfl dX5_costOf_104 ?_
                            refine lv_iload_n hx hb dX5_costOf_107 rfl (lv_at hl 3 rfl) ?_
                            refine lv_aload_n hx hb dX5_costOf_108 rfl (lv_at hl 5 rfl) ?_
                            refine g_get hx hb hX hts (fun w h => (List.mem_cons_of_mem _ (List.mem_append_right _ h))) hown m0 rfl 11 (by decide) (hts (.fieldLink RX5 36 "TuneCatalogueModel" "costs" "[I") (List.mem_cons_of_mem _ (List.mem_append_left _ (List.mem_append_left _ (List.mem_of_getElem? (i := 2) rfl))))) rfl dX5_costOf_109 ?_
                            refine lv_iload_n hx hb dX5_costOf_112 rfl (lv_at hl 3 rfl) ?_
                            refine gz_iald hx hb hX m6 g (by omega) (by omega) (by omega) dX5_costOf_113 ?_
                            rw [hk_6]
                            refine lv_aload_n hx hb dX5_costOf_114 rfl (lv_at hl 5 rfl) ?_
                            refine lv_iload_n hx hb dX5_costOf_115 rfl (lv_at hl 6 rfl) ?_
                            refine lv_iload hx hb dX5_costOf_116 (lv_at hl 2 rfl) ?_
                            refine lv_iload hx hb dX5_costOf_118 (lv_at hl 1 rfl) ?_
                            refine lv_iload hx hb dX5_costOf_120 (lv_at hl 2 rfl) ?_
                            refine lv_iconst (v := zI 1) hx hb dX5_costOf_122 rfl ?_
                            refine gz_isub hx hb dX5_costOf_123 ?_
                            refine lv_iload hx hb dX5_costOf_124 (lv_at hl 1 rfl) ?_
                            refine lv_iconst (v := zI 1) hx hb dX5_costOf_126 rfl ?_
                            refine gz_isub hx hb dX5_costOf_127 ?_
                            refine lv_iload hx hb dX5_costOf_128 (lv_at hl 0 rfl) ?_
                            refine gz_isub hx hb dX5_costOf_130 ?_
                            refine g_goi (vx_runV (As := [.int (zI z), .int (zI (q : Int)), .int (zI (j : Int)), .int (zI ((q : Int) - 1)), .int (zI (((j : Int) - 1) - 2))]) (rest := [.int (zI w_6), .int (zI y), .ref (B 6)]) ⟨hx, hb, hml, hown, hts⟩ (m_laid l G B S th ct_6 H_102 hM hI z (q : Int) (j : Int) ((q : Int) - 1) (((j : Int) - 1) - 2) i q j hz hi rfl rfl (by omega) (by omega) (by omega) (by omega) hTc) (cwV 5 hts gX5_costOf_X5_laid rfl rfl rfl hd_X5_laid ⟨(Nat.le_of_ble_eq_true rfl), (Nat.le_of_ble_eq_true rfl)⟩) (g_preV hX hS (ci := 5) rfl m0) rfl rfl hl.1 rfl (lv_room (Nat.le_of_ble_eq_true rfl)) dX5_costOf_131 ⟨(Nat.le_of_ble_eq_true rfl), (Nat.le_of_ble_eq_true rfl)⟩) hS (fun r_131 H_131 locs hp hS => ?_)
                            obtain ⟨rfl, rfl⟩ := hp
                            obtain ⟨m_7, hm_7⟩ : ∃ y : Int, y = mE (viaT (dp (tX S i)) (tX S i) ((q : Int) - 1) (((j : Int) - 1) - 2) q j) := ⟨_, rfl⟩
                            rw [← hm_7]
                            have hmr_7 : 0 ≤ m_7 ∧ m_7 ≤ 1000000000 := by rw [hm_7]; exact mE_rng (via_rng2 hX1 (by omega) (by omega) (by omega) (by omega))
                            refine g_goi (vx_runS (As := [.int (zI w_6), .int (zI m_7)]) (rest := [.int (zI y), .ref (B 6)]) ⟨hx, hb, hml, hown, hts⟩ (m_least l G H_102 w_6 m_7 ⟨by omega, by omega⟩ ⟨by omega, by omega⟩) (va_cwS 2 hts gX5_costOf_X5_least rfl rfl rfl hd_X5_least.2 ⟨(Nat.le_of_ble_eq_true rfl), (Nat.le_of_ble_eq_true rfl)⟩) (g_pre hX hS) rfl rfl hl.1 rfl (lv_room (Nat.le_of_ble_eq_true rfl)) dX5_costOf_134 ⟨(Nat.le_of_ble_eq_true rfl), (Nat.le_of_ble_eq_true rfl)⟩) hS (fun r_134 H_134 locs hp hS => ?_)
                            obtain ⟨rfl, rfl⟩ := hp
                            obtain ⟨w_7, hw_7⟩ : ∃ y : Int, y = min w_6 m_7 := ⟨_, rfl⟩
                            rw [← hw_7]
                            have hwr_7 : 0 ≤ w_7 ∧ w_7 ≤ 1000000000 := by omega
                            refine gz_iast hx hb hX hS m6 gB6 g (by omega) (by omega) (by omega) dX5_costOf_137 (fun H_137 locs h_n hO hS => ?_)
                            obtain ⟨ct_7, hct_7⟩ : ∃ f : Nat → Int32, f = upd ct_6 g (zI w_7) := ⟨_, rfl⟩
                            rw [← hct_7] at h_n
                            have m0 := gat.only1 m0 hO (hB 0 6 (by omega) (by omega) (by omega))
                            have m1 := gat.only1 m1 hO (hB 1 6 (by omega) (by omega) (by omega))
                            have m2 := gat.only1 m2 hO (hB 2 6 (by omega) (by omega) (by omega))
                            have m3 := gat.only1 m3 hO (hB 3 6 (by omega) (by omega) (by omega))
                            have m4 := gat.only1 m4 hO (hB 4 6 (by omega) (by omega) (by omega))
                            have m5 := gat.only1 m5 hO (hB 5 6 (by omega) (by omega) (by omega))
                            have m7 := gat.only1 m7 hO (hB 7 6 (by omega) (by omega) (by omega))
                            have m6 : gat G (B 6) (.inl (gI G, 288, .inl ct_7)) H_137 := h_n
                            have hk_7 : ct_7 g = zI w_7 := by rw [hct_7]; exact if_pos rfl
                            have hn_7 : ∀ a, a ≠ g → ct_7 a = cg a := fun a ha => by rw [hct_7]; exact (if_neg ha).trans (hn_6 a ha)
                            have hM : Mod G B S th ct_7 H_137 := ⟨m0, m1, m2, m3, m4, m5, m6, m7, hB, gBs⟩
                            have hOc := hOc.trans hO (fun _ h => h) (fun _ h => h)
                            have hTc : ∀ a b : Nat, a < q → b < stn S i → ct_7 (24 * a + b) = zI (mE (dp (tX S i) a b)) := fun a b h1 h2 => by rw [hn_7 _ (by omega)]; exact hTb a b (by omega) h2
                            refine lv_iinc (v := zI 3) (lv' := [(6, .int (zI 3)), (5, .int (zI (j : Int))), (4, .int (zI (q : Int))), (3, .int (zI y)), (2, .int (zI x)), (0, .ref (B 0)), (1, .int (zI z))]) hx hb dX5_costOf_138 hl (k := 0) rfl (by decide +kernel) (by decide) rfl (fun ls hl => ?_)
                            refine lv_goto (tgt := 47) hx hb dX5_costOf_141 (by decide) ?_
                            refine lv_iload hx hb dX5_costOf_47 (lv_at hl 0 rfl) ?_
                            refine lv_iconst (v := zI 2) hx hb dX5_costOf_49 rfl ?_
                            refine gz_icmp_gt (tgt := 144) hx hb (by decide) (by decide) dX5_costOf_50 (by decide) (fun c_50 => ?_) (fun c_50 => ?_)
                            · rw [Int.sub_zero] at hm_2 hm_3
                              have hwv : (j < stn S i → w_7 = mE (dp (tX S i) q j)) ∧ (stn S i ≤ j → w_7 = 1000000000) := by
                                refine ⟨fun _ => ?_, fun h => absurd h (by omega)⟩
                                rw [dp_mE hX1 (by omega) (by omega), ← hm_2, ← hm_4, ← hm_5, ← hm_6, ← hm_7]
                                omega
                              have hTn : ∀ a b : Nat, 24 * a + b < g + 1 → b < stn S i → ct_7 (24 * a + b) = zI (mE (dp (tX S i) a b)) := fun a b h1 h2 => by
                                rcases Nat.lt_or_ge (24 * a + b) g with h | h
                                · rw [hn_7 _ (by omega)]; exact hTb a b h h2
                                · rw [show a = q by omega, show b = j by omega, show 24 * q + j = g by omega, hk_7, hwv.1 (by omega)]
                              have hwf := hwr_7
                              refine lv_iload hx hb dX5_costOf_144 (lv_at hl 2 rfl) ?_
                              refine lv_aload_n hx hb dX5_costOf_146 rfl (lv_at hl 5 rfl) ?_
                              refine g_get hx hb hX hts (fun w h => (List.mem_cons_of_mem _ (List.mem_append_right _ h))) hown m0 rfl 7 (by decide) (hts (.fieldLink RX5 81 "TuneCatalogueModel" "hummed" "I") (List.mem_cons_of_mem _ (List.mem_append_left _ (List.mem_append_left _ (List.mem_of_getElem? (i := 1) rfl))))) rfl dX5_costOf_147 ?_
                              refine lv_iconst (v := zI 1) hx hb dX5_costOf_150 rfl ?_
                              refine gz_isub hx hb dX5_costOf_151 ?_
                              refine gz_icmp_ne (tgt := 168) hx hb ⟨by omega, by omega⟩ ⟨by omega, by omega⟩ dX5_costOf_152 (by decide) (fun c_152 => ?_) (fun c_152 => ?_)
                              · refine lv_iload_n hx hb dX5_costOf_168 rfl (lv_at hl 4 rfl) ?_
                                refine lv_istore_n (lv' := [(2, .int (zI x)), (6, .int (zI 3)), (5, .int (zI (j : Int))), (4, .int (zI (q : Int))), (3, .int (zI y)), (0, .ref (B 0)), (1, .int (zI z))]) hx hb dX5_costOf_169 rfl hl (by decide) rfl (fun ls hl => ?_)
                                have hx2 : x = mE (lastC (tX S i) (min (stn S i) (g + 1 - 24 * (shn S - 1)))) := by
                                  by_cases hlast : q + 1 = shn S
                                  · by_cases hjn : j < stn S i
                                    · have h9 := lastE hX1 (n := stn S i) (m := j) hjn (show 1 ≤ shn S by omega)
                                      rw [show xh (tX S i) - 1 = q from by show shn S - 1 = q; omega, ← hwv.1 hjn] at h9
                                      rw [show g + 1 - 24 * (shn S - 1) = j + 1 by omega, h9]
                                      rw [show g - 24 * (shn S - 1) = j by omega] at hx1
                                      first | omega | (rw [← hx1])
                                    · have h8 := hwv.2 (by omega)
                                      rw [show min (stn S i) (g + 1 - 24 * (shn S - 1)) = min (stn S i) (g - 24 * (shn S - 1)) by omega]
                                      omega
                                  · rw [show g + 1 - 24 * (shn S - 1) = 0 by omega]
                                    rw [show g - 24 * (shn S - 1) = 0 by omega] at hx1
                                    omega
                                refine lv_iinc (v := zI (y + 1)) (lv' := [(3, .int (zI (y + 1))), (2, .int (zI x)), (6, .int (zI 3)), (5, .int (zI (j : Int))), (4, .int (zI (q : Int))), (0, .ref (B 0)), (1, .int (zI z))]) hx hb dX5_costOf_170 hl (k := 4) rfl (zI_add _ _) (by decide) rfl (fun ls hl => ?_)
                                refine lv_goto (tgt := 5) hx hb dX5_costOf_173 (by decide) ?_
                                exact ih_5 (y + 1) (g + 1) x ct_7 H_137 _ (by omega) (by omega) (by omega) hx2 hM hOc hTn hS ls (lv_sub hl [0, 1, 5, 6] rfl)
                              · refine lv_iload_n hx hb dX5_costOf_155 rfl (lv_at hl 4 rfl) ?_
                                refine lv_aload_n hx hb dX5_costOf_156 rfl (lv_at hl 5 rfl) ?_
                                refine g_get hx hb hX hts (fun w h => (List.mem_cons_of_mem _ (List.mem_append_right _ h))) hown m0 rfl 11 (by decide) (hts (.fieldLink RX5 36 "TuneCatalogueModel" "costs" "[I") (List.mem_cons_of_mem _ (List.mem_append_left _ (List.mem_append_left _ (List.mem_of_getElem? (i := 2) rfl))))) rfl dX5_costOf_157 ?_
                                refine lv_iload_n hx hb dX5_costOf_160 rfl (lv_at hl 3 rfl) ?_
                                refine gz_iald hx hb hX m6 g (by omega) (by omega) (by omega) dX5_costOf_161 ?_
                                rw [hk_7]
                                refine g_goi (vx_runS (As := [.int (zI x), .int (zI w_7)]) (rest := []) ⟨hx, hb, hml, hown, hts⟩ (m_least l G H_137 x w_7 ⟨by omega, by omega⟩ ⟨by omega, by omega⟩) (va_cwS 2 hts gX5_costOf_X5_least rfl rfl rfl hd_X5_least.2 ⟨(Nat.le_of_ble_eq_true rfl), (Nat.le_of_ble_eq_true rfl)⟩) (g_pre hX hS) rfl rfl hl.1 rfl (lv_room (Nat.le_of_ble_eq_true rfl)) dX5_costOf_162 ⟨(Nat.le_of_ble_eq_true rfl), (Nat.le_of_ble_eq_true rfl)⟩) hS (fun r_162 H_162 locs hp hS => ?_)
                                obtain ⟨rfl, rfl⟩ := hp
                                refine lv_goto (tgt := 169) hx hb dX5_costOf_165 (by decide) ?_
                                refine lv_istore_n (lv' := [(2, .int (zI (min x w_7))), (6, .int (zI 3)), (5, .int (zI (j : Int))), (4, .int (zI (q : Int))), (3, .int (zI y)), (0, .ref (B 0)), (1, .int (zI z))]) hx hb dX5_costOf_169 rfl hl (by decide) rfl (fun ls hl => ?_)
                                have hx2 : min x w_7 = mE (lastC (tX S i) (min (stn S i) (g + 1 - 24 * (shn S - 1)))) := by
                                  by_cases hlast : q + 1 = shn S
                                  · by_cases hjn : j < stn S i
                                    · have h9 := lastE hX1 (n := stn S i) (m := j) hjn (show 1 ≤ shn S by omega)
                                      rw [show xh (tX S i) - 1 = q from by show shn S - 1 = q; omega, ← hwv.1 hjn] at h9
                                      rw [show g + 1 - 24 * (shn S - 1) = j + 1 by omega, h9]
                                      rw [show g - 24 * (shn S - 1) = j by omega] at hx1
                                      first | omega | (rw [← hx1])
                                    · have h8 := hwv.2 (by omega)
                                      rw [show min (stn S i) (g + 1 - 24 * (shn S - 1)) = min (stn S i) (g - 24 * (shn S - 1)) by omega]
                                      omega
                                  · rw [show g + 1 - 24 * (shn S - 1) = 0 by omega]
                                    rw [show g - 24 * (shn S - 1) = 0 by omega] at hx1
                                    omega
                                refine lv_iinc (v := zI (y + 1)) (lv' := [(3, .int (zI (y + 1))), (2, .int (zI (min x w_7))), (6, .int (zI 3)), (5, .int (zI (j : Int))), (4, .int (zI (q : Int))), (0, .ref (B 0)), (1, .int (zI z))]) hx hb dX5_costOf_170 hl (k := 4) rfl (zI_add _ _) (by decide) rfl (fun ls hl => ?_)
                                refine lv_goto (tgt := 5) hx hb dX5_costOf_173 (by decide) ?_
                                exact ih_5 (y + 1) (g + 1) (min x w_7) ct_7 H_137 _ (by omega) (by omega) (by omega) hx2 hM hOc hTn hS ls (lv_sub hl [0, 1, 5, 6] rfl)
                            · omega
        · refine lv_iconst (v := zI 0) hx hb dX5_costOf_37 rfl ?_
          refine lv_goto (tgt := 43) hx hb dX5_costOf_38 (by decide) ?_
          refine gz_iast hx hb hX hS m6 gB6 g (by omega) (by omega) (by omega) dX5_costOf_43 (fun H_43 locs h_n hO hS => ?_)
          obtain ⟨ct_1, hct_1⟩ : ∃ f : Nat → Int32, f = upd cg g (zI 0) := ⟨_, rfl⟩
          rw [← hct_1] at h_n
          have m0 := gat.only1 m0 hO (hB 0 6 (by omega) (by omega) (by omega))
          have m1 := gat.only1 m1 hO (hB 1 6 (by omega) (by omega) (by omega))
          have m2 := gat.only1 m2 hO (hB 2 6 (by omega) (by omega) (by omega))
          have m3 := gat.only1 m3 hO (hB 3 6 (by omega) (by omega) (by omega))
          have m4 := gat.only1 m4 hO (hB 4 6 (by omega) (by omega) (by omega))
          have m5 := gat.only1 m5 hO (hB 5 6 (by omega) (by omega) (by omega))
          have m7 := gat.only1 m7 hO (hB 7 6 (by omega) (by omega) (by omega))
          have m6 : gat G (B 6) (.inl (gI G, 288, .inl ct_1)) H_43 := h_n
          have hk_1 : ct_1 g = zI 0 := by rw [hct_1]; exact if_pos rfl
          have hn_1 : ∀ a, a ≠ g → ct_1 a = cg a := fun a ha => by rw [hct_1]; exact (if_neg ha)
          have hM : Mod G B S th ct_1 H_43 := ⟨m0, m1, m2, m3, m4, m5, m6, m7, hB, gBs⟩
          have hOc := hOc.trans hO (fun _ h => h) (fun _ h => h)
          have hTc : ∀ a b : Nat, a < q → b < stn S i → ct_1 (24 * a + b) = zI (mE (dp (tX S i) a b)) := fun a b h1 h2 => by rw [hn_1 _ (by omega)]; exact hTb a b (by omega) h2
          refine lv_iconst (v := zI 0) hx hb dX5_costOf_44 rfl ?_
          refine lv_istore (lv' := [(6, .int (zI 0)), (5, .int (zI (j : Int))), (4, .int (zI (q : Int))), (3, .int (zI y)), (2, .int (zI x)), (0, .ref (B 0)), (1, .int (zI z))]) hx hb dX5_costOf_45 hl (by decide) rfl (fun ls hl => ?_)
          refine lv_iload hx hb dX5_costOf_47 (lv_at hl 0 rfl) ?_
          refine lv_iconst (v := zI 2) hx hb dX5_costOf_49 rfl ?_
          refine gz_icmp_gt (tgt := 144) hx hb (by decide) (by decide) dX5_costOf_50 (by decide) (fun c_50 => ?_) (fun c_50 => ?_)
          · omega
          · refine lv_iload hx hb dX5_costOf_53 (lv_at hl 1 rfl) ?_
            refine lv_aload_n hx hb dX5_costOf_55 rfl (lv_at hl 5 rfl) ?_
            refine g_get hx hb hX hts (fun w h => (List.mem_cons_of_mem _ (List.mem_append_right _ h))) hown m0 rfl 4 (by decide) (hts (.fieldLink RX5 16 "TuneCatalogueModel" "sizes" "[I") (List.mem_cons_of_mem _ (List.mem_append_left _ (List.mem_append_left _ (List.mem_of_getElem? (i := 3) rfl))))) rfl dX5_costOf_56 ?_
            refine lv_iload_n hx hb dX5_costOf_59 rfl (lv_at hl 6 rfl) ?_
            refine gz_iald hx hb hX m3 i (by omega) (by omega) (by omega) dX5_costOf_60 ?_
            refine gz_icmp_ge (tgt := 144) hx hb ⟨by omega, by omega⟩ ⟨by omega, by omega⟩ dX5_costOf_61 (by decide) (fun c_61 => ?_) (fun c_61 => ?_)
            · omega
            · refine lv_iload_n hx hb dX5_costOf_64 rfl (lv_at hl 3 rfl) ?_
              refine gz_if_le (tgt := 144) hx hb ⟨by omega, by omega⟩ dX5_costOf_65 (by decide) (fun c_65 => ?_) (fun c_65 => ?_)
              · have hwv : (j < stn S i → 0 = mE (dp (tX S i) q j)) ∧ (stn S i ≤ j → 0 = 1000000000) := ⟨fun _ => by rw [show q = 0 by omega, show j = 0 by omega, dp_eq]; rfl, fun h => absurd h (by omega)⟩
                have hTn : ∀ a b : Nat, 24 * a + b < g + 1 → b < stn S i → ct_1 (24 * a + b) = zI (mE (dp (tX S i) a b)) := fun a b h1 h2 => by
                  rcases Nat.lt_or_ge (24 * a + b) g with h | h
                  · rw [hn_1 _ (by omega)]; exact hTb a b h h2
                  · rw [show a = q by omega, show b = j by omega, show 24 * q + j = g by omega, hk_1, hwv.1 (by omega)]
                have hwf : 0 ≤ (0 : Int) ∧ (0 : Int) ≤ 1000000000 := by omega
                refine lv_iload hx hb dX5_costOf_144 (lv_at hl 2 rfl) ?_
                refine lv_aload_n hx hb dX5_costOf_146 rfl (lv_at hl 5 rfl) ?_
                refine g_get hx hb hX hts (fun w h => (List.mem_cons_of_mem _ (List.mem_append_right _ h))) hown m0 rfl 7 (by decide) (hts (.fieldLink RX5 81 "TuneCatalogueModel" "hummed" "I") (List.mem_cons_of_mem _ (List.mem_append_left _ (List.mem_append_left _ (List.mem_of_getElem? (i := 1) rfl))))) rfl dX5_costOf_147 ?_
                refine lv_iconst (v := zI 1) hx hb dX5_costOf_150 rfl ?_
                refine gz_isub hx hb dX5_costOf_151 ?_
                refine gz_icmp_ne (tgt := 168) hx hb ⟨by omega, by omega⟩ ⟨by omega, by omega⟩ dX5_costOf_152 (by decide) (fun c_152 => ?_) (fun c_152 => ?_)
                · refine lv_iload_n hx hb dX5_costOf_168 rfl (lv_at hl 4 rfl) ?_
                  refine lv_istore_n (lv' := [(2, .int (zI x)), (6, .int (zI 0)), (5, .int (zI (j : Int))), (4, .int (zI (q : Int))), (3, .int (zI y)), (0, .ref (B 0)), (1, .int (zI z))]) hx hb dX5_costOf_169 rfl hl (by decide) rfl (fun ls hl => ?_)
                  have hx2 : x = mE (lastC (tX S i) (min (stn S i) (g + 1 - 24 * (shn S - 1)))) := by
                    by_cases hlast : q + 1 = shn S
                    · by_cases hjn : j < stn S i
                      · have h9 := lastE hX1 (n := stn S i) (m := j) hjn (show 1 ≤ shn S by omega)
                        rw [show xh (tX S i) - 1 = q from by show shn S - 1 = q; omega, ← hwv.1 hjn] at h9
                        rw [show g + 1 - 24 * (shn S - 1) = j + 1 by omega, h9]
                        rw [show g - 24 * (shn S - 1) = j by omega] at hx1
                        first | omega | (rw [← hx1])
                      · have h8 := hwv.2 (by omega)
                        rw [show min (stn S i) (g + 1 - 24 * (shn S - 1)) = min (stn S i) (g - 24 * (shn S - 1)) by omega]
                        omega
                    · rw [show g + 1 - 24 * (shn S - 1) = 0 by omega]
                      rw [show g - 24 * (shn S - 1) = 0 by omega] at hx1
                      omega
                  refine lv_iinc (v := zI (y + 1)) (lv' := [(3, .int (zI (y + 1))), (2, .int (zI x)), (6, .int (zI 0)), (5, .int (zI (j : Int))), (4, .int (zI (q : Int))), (0, .ref (B 0)), (1, .int (zI z))]) hx hb dX5_costOf_170 hl (k := 4) rfl (zI_add _ _) (by decide) rfl (fun ls hl => ?_)
                  refine lv_goto (tgt := 5) hx hb dX5_costOf_173 (by decide) ?_
                  exact ih_5 (y + 1) (g + 1) x ct_1 H_43 _ (by omega) (by omega) (by omega) hx2 hM hOc hTn hS ls (lv_sub hl [0, 1, 5, 6] rfl)
                · refine lv_iload_n hx hb dX5_costOf_155 rfl (lv_at hl 4 rfl) ?_
                  refine lv_aload_n hx hb dX5_costOf_156 rfl (lv_at hl 5 rfl) ?_
                  refine g_get hx hb hX hts (fun w h => (List.mem_cons_of_mem _ (List.mem_append_right _ h))) hown m0 rfl 11 (by decide) (hts (.fieldLink RX5 36 "TuneCatalogueModel" "costs" "[I") (List.mem_cons_of_mem _ (List.mem_append_left _ (List.mem_append_left _ (List.mem_of_getElem? (i := 2) rfl))))) rfl dX5_costOf_157 ?_
                  refine lv_iload_n hx hb dX5_costOf_160 rfl (lv_at hl 3 rfl) ?_
                  refine gz_iald hx hb hX m6 g (by omega) (by omega) (by omega) dX5_costOf_161 ?_
                  rw [hk_1]
                  refine g_goi (vx_runS (As := [.int (zI x), .int (zI 0)]) (rest := []) ⟨hx, hb, hml, hown, hts⟩ (m_least l G H_43 x 0 ⟨by omega, by omega⟩ ⟨by omega, by omega⟩) (va_cwS 2 hts gX5_costOf_X5_least rfl rfl rfl hd_X5_least.2 ⟨(Nat.le_of_ble_eq_true rfl), (Nat.le_of_ble_eq_true rfl)⟩) (g_pre hX hS) rfl rfl hl.1 rfl (lv_room (Nat.le_of_ble_eq_true rfl)) dX5_costOf_162 ⟨(Nat.le_of_ble_eq_true rfl), (Nat.le_of_ble_eq_true rfl)⟩) hS (fun r_162 H_162 locs hp hS => ?_)
                  obtain ⟨rfl, rfl⟩ := hp
                  refine lv_goto (tgt := 169) hx hb dX5_costOf_165 (by decide) ?_
                  refine lv_istore_n (lv' := [(2, .int (zI (min x 0))), (6, .int (zI 0)), (5, .int (zI (j : Int))), (4, .int (zI (q : Int))), (3, .int (zI y)), (0, .ref (B 0)), (1, .int (zI z))]) hx hb dX5_costOf_169 rfl hl (by decide) rfl (fun ls hl => ?_)
                  have hx2 : min x 0 = mE (lastC (tX S i) (min (stn S i) (g + 1 - 24 * (shn S - 1)))) := by
                    by_cases hlast : q + 1 = shn S
                    · by_cases hjn : j < stn S i
                      · have h9 := lastE hX1 (n := stn S i) (m := j) hjn (show 1 ≤ shn S by omega)
                        rw [show xh (tX S i) - 1 = q from by show shn S - 1 = q; omega, ← hwv.1 hjn] at h9
                        rw [show g + 1 - 24 * (shn S - 1) = j + 1 by omega, h9]
                        rw [show g - 24 * (shn S - 1) = j by omega] at hx1
                        first | omega | (rw [← hx1])
                      · have h8 := hwv.2 (by omega)
                        rw [show min (stn S i) (g + 1 - 24 * (shn S - 1)) = min (stn S i) (g - 24 * (shn S - 1)) by omega]
                        omega
                    · rw [show g + 1 - 24 * (shn S - 1) = 0 by omega]
                      rw [show g - 24 * (shn S - 1) = 0 by omega] at hx1
                      omega
                  refine lv_iinc (v := zI (y + 1)) (lv' := [(3, .int (zI (y + 1))), (2, .int (zI (min x 0))), (6, .int (zI 0)), (5, .int (zI (j : Int))), (4, .int (zI (q : Int))), (0, .ref (B 0)), (1, .int (zI z))]) hx hb dX5_costOf_170 hl (k := 4) rfl (zI_add _ _) (by decide) rfl (fun ls hl => ?_)
                  refine lv_goto (tgt := 5) hx hb dX5_costOf_173 (by decide) ?_
                  exact ih_5 (y + 1) (g + 1) (min x 0) ct_1 H_43 _ (by omega) (by omega) (by omega) hx2 hM hOc hTn hS ls (lv_sub hl [0, 1, 5, 6] rfl)
              · omega
  exact loop_5 _ 0 0 1000000000 ct H _ (Nat.lt_succ_self _) rfl (Nat.zero_le _) (by rw [Nat.zero_sub, Nat.min_zero]; rfl) hM ⟨rfl, fun _ _ => rfl⟩ (fun a b h => absurd h (Nat.not_lt_zero _)) hS ls (lv_sub hl [0, 1, 2, 3] rfl)
