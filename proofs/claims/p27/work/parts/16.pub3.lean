/-! ===== TuneCatalogue: shift, prices, ranks, places ===== -/
theorem shF_step (S : cS) (i : Nat) (d : Int) (m : Nat) : va_up (shF S i d m i) m (stp S i m + d) = shF S i d (m + 1) i := by
  funext b
  unfold va_up shF
  by_cases h : b = m
  · rw [if_pos h, if_pos ⟨rfl, by omega⟩, h]
  · rw [if_neg h]
    by_cases g : b < m
    · rw [if_pos ⟨rfl, g⟩, if_pos ⟨rfl, by omega⟩]
    · rw [if_neg (fun q => g q.2), if_neg (fun q => by omega)]
theorem shF_0 (S : cS) (i : Nat) (d : Int) : shF S i d 0 = stp S := by
  funext a b
  unfold shF
  rw [if_neg (fun q => Nat.not_lt_zero _ q.2)]
theorem shF_ne (S : cS) {i a : Nat} (d : Int) (m : Nat) (h : a ≠ i) : shF S i d m a = stp S a := by
  funext b
  unfold shF
  rw [if_neg (fun q => h q.1)]
def prc (S : cS) (k : Nat) : Int := if srt S k then -1 else costI (tX S k)
theorem prc_rng {S : cS} (hI : sInv S) (k : Nat) : -1 ≤ prc S k ∧ prc S k ≤ 36000 := by
  unfold prc; split
  · omega
  · exact lastC_rng (tX_ok hI k) _
def rkB (S : cS) (t k : Nat) : Bool := decide (prc S k ≠ -1 ∧ (prc S k < prc S t ∨ prc S k = prc S t ∧ k < t))
def rkF (S : cS) (t : Nat) : Nat := ctB (rkB S t) (sn S)
def manyF (S : cS) : Nat := ctB (fun k => decide (prc S k ≠ -1)) (sn S)
def fdF (S : cS) (z : Int) : Nat → Nat → Option Nat
  | _, 0 => none
  | k, d + 1 => if prc S k ≠ -1 ∧ (rkF S k : Int) = z then some k else fdF S z (k + 1) d
def Prc (G : gG) (A : Nat → Nat) (TA : Nat → Nat → Nat) (S : cS) (H H1 : Heap) : Prop := (∃ W, Cat G A TA S W H1 ∧ wpn W = sn S ∧ ∀ k, k < sn S → wpf W k = zI (prc S k)) ∧ gOnly [A 5, A 9, A 10] H H1
theorem Prc.xp {G : gG} {A : Nat → Nat} {TA : Nat → Nat → Nat} {S : cS} {H H1 : Heap} (h : Prc G A TA S H H1) : XP G A TA S S H H1 := by
  obtain ⟨⟨W, h1, -, -⟩, h2⟩ := h
  refine ⟨⟨W, h1⟩, h2.grow.kp (fun q hq => ?_)⟩
  simp only [List.mem_cons, List.not_mem_nil, or_false] at hq
  rcases hq with e | e | e <;> rw [e] <;> exact own.A (by omega)
def pcc (S : cS) (st i k : Nat) : Prop := cmn (zf (stp S i)) (zf (shf S)) k (shn S - 1 - st) (Nat.min (stn S i - k) (shn S - (shn S - 1 - st)) - 1) = st
def plT (S : cS) (st i : Nat) : Nat → List Nat
  | 0 => []
  | k + 1 => if cmn (zf (stp S i)) (zf (shf S)) k (shn S - 1 - st) (Nat.min (stn S i - k) (shn S - (shn S - 1 - st)) - 1) = st then plT S st i k ++ [100 * i + k] else plT S st i k
def plA (S : cS) (st : Nat) : Nat → List Nat
  | 0 => []
  | i + 1 => if srt S i then plA S st i else plA S st i ++ plT S st i (stn S i)
theorem plT_len (S : cS) (st i : Nat) : ∀ k, (plT S st i k).length ≤ k
  | 0 => Nat.le_refl _
  | k + 1 => by
    have := plT_len S st i k
    unfold plT; split
    · rw [List.length_append]; simp; omega
    · omega
theorem plA_len {S : cS} (hI : sInv S) (st : Nat) : ∀ i, i ≤ sn S → (plA S st i).length ≤ 24 * i
  | 0, _ => Nat.le_refl _
  | i + 1, h => by
    have h1 := plA_len hI st i (by omega)
    have h2 := plT_len S st i (stn S i)
    have h3 := (hI.2.1 i (by omega)).2
    unfold plA; split
    · omega
    · rw [List.length_append]; omega
/-- a row holds a list -/
def rowL (f : Nat → Int32) (L : List Nat) : Prop := ∀ j, j < L.length → f j = zI ((L.getD j 0 : Nat) : Int)
theorem rowL_push {f : Nat → Int32} {L : List Nat} {x : Nat} (h : rowL f L) : rowL (upd f L.length (zI (x : Int))) (L ++ [x]) := by
  intro j hj
  rw [List.length_append] at hj
  simp only [List.length_cons, List.length_nil, Nat.zero_add] at hj
  unfold upd
  by_cases e : j = L.length
  · rw [if_pos e, e]; simp
  · rw [if_neg e, h j (by omega)]; simp only [List.getD_eq_getElem?_getD]; rw [List.getElem?_append_left (by omega)]
theorem pass_08 : True := trivial
set_option maxHeartbeats 4000000 in
set_option maxRecDepth 100000 in
theorem k_Tune_size2 (l : Launch) (G : gG) (t : Nat → Nat) (n : Nat) (f : Nat → Int32) (r : Bool) (H : Heap) (ht : gat G (t 0) (.inr (3, [.ref (t 1), .ref (t 3), .int (zI (zB r))])) H) (hp1 : gRow G (t 1) (t 2) 24 n f H) : gM l yX3_size wsX3_size rm_X3_size [.ref (t 0)] G H (gi (fun r1 H1 => zI n = r1 ∧ H = H1)) (gNo) 0 0 := by
  refine g_start (cc := cX3_size) (maxL := 1) (ret := (some .int)) (by decide +kernel) rfl (Nat.le_of_ble_eq_true rfl) ?_
  intro p e s m args below meth c F ls hl
  obtain ⟨hx, hb, hml, hr, hts, hown, hlocks, hxt, hH, hX, hin⟩ := F
  have hown : s.vm.findClass RX3 = some m.cls := hown
  have hS : va_S (gA G) s.heap H [] := by rw [hH]; exact va_S.rf
  have hl : lv_has ls 1 [(0, .ref (t 0))] := hl
  refine lv_aload_n hx hb dX3_size_0 rfl (lv_at hl 0 rfl) ?_
  refine g_get hx hb hX hts (fun w h => (List.mem_cons_of_mem _ (List.mem_append_left _ (List.mem_append_right _ h)))) hown ht rfl 0 (by decide) (hts (.fieldLink RX3 14 "TuneCatalogue$Tune" "pitches" "LTuneCatalogue$Row;") (List.mem_cons_of_mem _ (List.mem_append_left _ (List.mem_append_left _ (List.mem_of_getElem? (i := 0) rfl))))) rfl dX3_size_1 ?_
  refine g_goi (vx_runV (As := []) (rest := []) ⟨hx, hb, hml, hown, hts⟩ (k_size l G (t 1) (t 2) 24 n _ H hp1) (cwV 0 hts gX3_size_X2_size rfl rfl rfl hd_X2_size ⟨(Nat.le_of_ble_eq_true rfl), (Nat.le_of_ble_eq_true rfl)⟩) (g_preV hX hS (ci := 2) rfl hp1.1) rfl rfl hl.1 rfl (lv_room (Nat.le_of_ble_eq_true rfl)) dX3_size_4 ⟨(Nat.le_of_ble_eq_true rfl), (Nat.le_of_ble_eq_true rfl)⟩) hS (fun r_4 H_4 locs hp hS => ?_)
  obtain ⟨rfl, rfl⟩ := hp
  exact g_reti hx hb hr hlocks hS rfl (⟨rfl, rfl⟩) (Nat.le_of_ble_eq_true rfl) (Nat.le_of_ble_eq_true rfl) dX3_size_7
set_option maxHeartbeats 4000000 in
set_option maxRecDepth 100000 in
theorem x_shift_ok (l : Launch) (G : gG) (A : Nat → Nat) (TA : Nat → Nat → Nat) (S : cS) (W9 : cWk) (H : Heap) (hC : Cat G A TA S W9 H) (hI : sInv S) (z : Int) (i : Nat) (hz : z = i) (hi : i < sn S)(hk : srt S i = false)(d : Int) (hd0 : rI d) (hd : -60 ≤ d ∧ d ≤ 60) (hall : ∀ k, k < stn S i → 0 ≤ stp S i k + d ∧ stp S i k + d ≤ 60) : gM l yX4_shift wsX4_shift rm_X4_shift [.ref (A 0), .int (zI z), .int (zI d)] G H (gv (fun H1 => XP G A TA S (sShift S i d) H H1)) (gNo) 6 60 := by
  obtain ⟨h0, h1, h2, h3, h4, h5, h6, hap⟩ := id hC
  have hn16 : sn S ≤ 16 := hI.1
  obtain ⟨ht, hp1, hl1, gt, htd⟩ := id (h6 i hi)
  have hT := h6 i hi
  have ht24 := (hI.2.1 i hi).2
  have ht1 := (hI.2.1 i hi).1
  have n02 : TA i 0 ≠ TA i 2 := htd 0 2 (by omega) (by omega) (by omega)
  have n12 : TA i 1 ≠ TA i 2 := htd 1 2 (by omega) (by omega) (by omega)
  have n32 : TA i 3 ≠ TA i 2 := htd 3 2 (by omega) (by omega) (by omega)
  have n42 : TA i 4 ≠ TA i 2 := htd 4 2 (by omega) (by omega) (by omega)
  refine g_start (cc := cX4_shift) (maxL := 5) (ret := none) (by decide +kernel) rfl (Nat.le_of_ble_eq_true rfl) ?_
  intro p e s m args below meth c F ls hl
  obtain ⟨hx, hb, hml, hr, hts, hown, hlocks, hxt, hH, hX, hin⟩ := F
  have hown : s.vm.findClass RX4 = some m.cls := hown
  have hS : va_S (gA G) s.heap H [] := by rw [hH]; exact va_S.rf
  have hl : lv_has ls 5 [(0, .ref (A 0)), (1, .int (zI z)), (2, .int (zI d))] := hl
  refine lv_aload_n hx hb dX4_shift_0 rfl (lv_at hl 0 rfl) ?_
  refine lv_iload_n hx hb dX4_shift_1 rfl (lv_at hl 1 rfl) ?_
  refine g_goq (vx_runV (As := [.int (zI z)]) (rest := []) ⟨hx, hb, hml, hown, hts⟩ (k_kT_ok l G A TA S W9 H hC hI z i hz hi hk) (cwV 1 hts gX4_shift_X4_knownOrThrow rfl rfl rfl hd_X4_knownOrThrow ⟨(Nat.le_of_ble_eq_true rfl), (Nat.le_of_ble_eq_true rfl)⟩) (g_preV hX hS (ci := 4) rfl h0) rfl rfl hl.1 rfl (lv_room (Nat.le_of_ble_eq_true rfl)) dX4_shift_2 ⟨(Nat.le_of_ble_eq_true rfl), (Nat.le_of_ble_eq_true rfl)⟩) hS (fun r_2 H_2 locs hp hS => ?_)
  obtain ⟨rfl, rfl⟩ := hp
  refine W.eq (g2 := F0 m 5 ls [.ref (TA i 0)]) rfl ?_
  refine lv_astore_n (lv' := [(3, .ref (TA i 0)), (0, .ref (A 0)), (1, .int (zI z)), (2, .int (zI d))]) hx hb dX4_shift_5 rfl hl (by decide) rfl (fun ls hl => ?_)
  refine lv_iload_n hx hb dX4_shift_6 rfl (lv_at hl 3 rfl) ?_
  refine lv_bipush (v := zI (-60)) hx hb dX4_shift_7 (by decide +kernel) ?_
  refine lv_bipush (v := zI 60) hx hb dX4_shift_9 (by decide +kernel) ?_
  refine g_gov (vx_runS (As := [.int (zI d), .int (zI (-60)), .int (zI 60)]) (rest := []) ⟨hx, hb, hml, hown, hts⟩ (k_rW_ok l G H d (-60) 60 (by first | assumption | exact ⟨by omega, by omega⟩) (by decide) (by decide) (by omega)) (va_cwS 3 hts gX4_shift_X4_refuseUnlessWithin rfl rfl rfl hd_X4_refuseUnlessWithin.2 ⟨(Nat.le_of_ble_eq_true rfl), (Nat.le_of_ble_eq_true rfl)⟩) (g_pre hX hS) rfl rfl hl.1 rfl (lv_room (Nat.le_of_ble_eq_true rfl)) dX4_shift_11 ⟨(Nat.le_of_ble_eq_true rfl), (Nat.le_of_ble_eq_true rfl)⟩) hS (fun H_11 locs hp hS => ?_)
  subst hp
  refine lv_iconst (v := zI 0) hx hb dX4_shift_14 rfl ?_
  refine lv_istore (lv' := [(4, .int (zI 0)), (3, .ref (TA i 0)), (0, .ref (A 0)), (1, .int (zI z)), (2, .int (zI d))]) hx hb dX4_shift_15 hl (by decide) rfl (fun ls hl => ?_)
  have loop_17 : ∀ (M_ : Nat) (y : Int) (k : Nat) (locs : List Loc), stn S i - k < M_ → (y = k) → (k ≤ stn S i) → va_S (gA G) s.heap H locs → ∀ (ls : Array Slot), lv_has ls 5 [(4, .int (zI y)), (0, .ref (A 0)), (1, .int (zI z)), (2, .int (zI d)), (3, .ref (TA i 0))] → W p l e rm_X4_shift s m args below meth c H locs (0 + 1 + 1) (0 + 6 + 6) (vx_MQ below (gQ G (gv (fun H1 => XP G A TA S (sShift S i d) H H1))) (gXC G (gNo)) args s 6 60 (gA G)) (F0 m 17 ls []) := by
    intro M_
    induction M_ with
    | zero => intro y k locs_0 h_0; exact absurd h_0 (Nat.not_lt_zero _)
    | succ M_ ih_17 =>
      intro y k locs hM_17 hy hkn hS ls hl
      have hpk := hI.2.2.2.1 i k
      refine lv_iload hx hb dX4_shift_17 (lv_at hl 0 rfl) ?_
      refine lv_aload_n hx hb dX4_shift_19 rfl (lv_at hl 4 rfl) ?_
      refine g_goi (vx_runV (As := []) (rest := [.int (zI y)]) ⟨hx, hb, hml, hown, hts⟩ (k_Tune_size l G (TA i) (stn S i) (stp S i) (stl S i) (srt S i) H hT) (cwV 0 hts gX4_shift_X3_size rfl rfl rfl hd_X3_size ⟨(Nat.le_of_ble_eq_true rfl), (Nat.le_of_ble_eq_true rfl)⟩) (g_preV hX hS (ci := 3) rfl ht) rfl rfl hl.1 rfl (lv_room (Nat.le_of_ble_eq_true rfl)) dX4_shift_20 ⟨(Nat.le_of_ble_eq_true rfl), (Nat.le_of_ble_eq_true rfl)⟩) hS (fun r_20 H_20 locs hp hS => ?_)
      obtain ⟨rfl, rfl⟩ := hp
      refine gz_icmp_ge (tgt := 62) hx hb ⟨by omega, by omega⟩ ⟨by omega, by omega⟩ dX4_shift_23 (by decide) (fun c_23 => ?_) (fun c_23 => ?_)
      · refine lv_iconst (v := zI 0) hx hb dX4_shift_62 rfl ?_
        refine lv_istore (lv' := [(4, .int (zI 0)), (0, .ref (A 0)), (1, .int (zI z)), (2, .int (zI d)), (3, .ref (TA i 0))]) hx hb dX4_shift_63 hl (by decide) rfl (fun ls hl => ?_)
        have loop_65 : ∀ (M_ : Nat) (y : Int) (k : Nat) (H_L65 : Heap) (locs : List Loc), stn S i - k < M_ → (y = k) → (k ≤ stn S i) → (gat G (TA i 0) (.inr (3, [.ref (TA i 1), .ref (TA i 3), .int (zI (zB (srt S i)))])) H_L65) → (gRow G (TA i 1) (TA i 2) 24 (stn S i) (fun q => zI (shF S i d k i q)) H_L65) → (gOnly [TA i 2] H H_L65) → va_S (gA G) s.heap H_L65 locs → ∀ (ls : Array Slot), lv_has ls 5 [(4, .int (zI y)), (0, .ref (A 0)), (1, .int (zI z)), (2, .int (zI d)), (3, .ref (TA i 0))] → W p l e rm_X4_shift s m args below meth c H_L65 locs (0 + 1 + 1) (0 + 6 + 6) (vx_MQ below (gQ G (gv (fun H1 => XP G A TA S (sShift S i d) H H1))) (gXC G (gNo)) args s 6 60 (gA G)) (F0 m 65 ls []) := by
          intro M_
          induction M_ with
          | zero => intro y k H_0 locs_0 h_0; exact absurd h_0 (Nat.not_lt_zero _)
          | succ M_ ih_65 =>
            intro y k H_L65 locs hM_65 hy hkn ht hp1 hOk hS ls hl
            have hpk := hI.2.2.2.1 i k
            refine lv_iload hx hb dX4_shift_65 (lv_at hl 0 rfl) ?_
            refine lv_aload_n hx hb dX4_shift_67 rfl (lv_at hl 4 rfl) ?_
            refine g_goi (vx_runV (As := []) (rest := [.int (zI y)]) ⟨hx, hb, hml, hown, hts⟩ (k_Tune_size2 l G (TA i) (stn S i) _ (srt S i) H_L65 ht hp1) (cwV 0 hts gX4_shift_X3_size rfl rfl rfl hd_X3_size ⟨(Nat.le_of_ble_eq_true rfl), (Nat.le_of_ble_eq_true rfl)⟩) (g_preV hX hS (ci := 3) rfl ht) rfl rfl hl.1 rfl (lv_room (Nat.le_of_ble_eq_true rfl)) dX4_shift_68 ⟨(Nat.le_of_ble_eq_true rfl), (Nat.le_of_ble_eq_true rfl)⟩) hS (fun r_68 H_68 locs hp hS => ?_)
            obtain ⟨rfl, rfl⟩ := hp
            refine gz_icmp_ge (tgt := 100) hx hb ⟨by omega, by omega⟩ ⟨by omega, by omega⟩ dX4_shift_71 (by decide) (fun c_71 => ?_) (fun c_71 => ?_)
            · have hkk : k = stn S i := by omega
              subst hkk
              exact g_retv hx hb hr hlocks hS (hC.tun (S2 := sShift S i d) hi hOk (by intro q hq; exact ⟨2, by omega, List.mem_singleton.mp hq⟩) ⟨ht, hp1, hl1.only hOk (nm1 n32) (nm1 n42), gt, htd⟩ rfl (fun k2 hk2 => ⟨rfl, shF_ne S d _ hk2, rfl, rfl⟩) rfl) (Nat.le_of_ble_eq_true rfl) (Nat.le_of_ble_eq_true rfl) dX4_shift_100
            · refine lv_aload_n hx hb dX4_shift_74 rfl (lv_at hl 4 rfl) ?_
              refine g_getN hx hb hX hts (fun w h => (List.mem_cons_of_mem _ (List.mem_append_left _ (List.mem_append_left _ (List.mem_append_left _ (List.mem_append_left _ (List.mem_append_left _ (List.mem_append_right _ h)))))))) hown ht rfl 0 (by decide) (by decide +kernel : Cond.fieldLinkNest RX4 77 "TuneCatalogue$Tune" "pitches" "LTuneCatalogue$Row;" RX4 ∈ gNW) rfl dX4_shift_75 ?_
              refine lv_iload hx hb dX4_shift_78 (lv_at hl 0 rfl) ?_
              refine lv_aload_n hx hb dX4_shift_80 rfl (lv_at hl 4 rfl) ?_
              refine g_getN hx hb hX hts (fun w h => (List.mem_cons_of_mem _ (List.mem_append_left _ (List.mem_append_left _ (List.mem_append_left _ (List.mem_append_left _ (List.mem_append_left _ (List.mem_append_right _ h)))))))) hown ht rfl 0 (by decide) (by decide +kernel : Cond.fieldLinkNest RX4 77 "TuneCatalogue$Tune" "pitches" "LTuneCatalogue$Row;" RX4 ∈ gNW) rfl dX4_shift_81 ?_
              refine lv_iload hx hb dX4_shift_84 (lv_at hl 0 rfl) ?_
              refine g_goi (vx_runV (As := [.int (zI y)]) (rest := [.int (zI y), .ref (TA i 1)]) ⟨hx, hb, hml, hown, hts⟩ (k_at l G (TA i 1) (TA i 2) 24 (stn S i) _ H_L65 hp1 y k (by omega) (by omega)) (cwV 1 hts gX4_shift_X2_at rfl rfl rfl hd_X2_at ⟨(Nat.le_of_ble_eq_true rfl), (Nat.le_of_ble_eq_true rfl)⟩) (g_preV hX hS (ci := 2) rfl hp1.1) rfl rfl hl.1 rfl (lv_room (Nat.le_of_ble_eq_true rfl)) dX4_shift_86 ⟨(Nat.le_of_ble_eq_true rfl), (Nat.le_of_ble_eq_true rfl)⟩) hS (fun r_86 H_86 locs hp hS => ?_)
              obtain ⟨hv, rfl⟩ := hp
              rw [show shF S i d k i k = stp S i k from if_neg (fun q => Nat.lt_irrefl _ q.2)] at hv
              subst hv
              refine W.eq (g2 := F0 m 89 ls [.int (zI (stp S i k)), .int (zI y), .ref (TA i 1)]) rfl ?_
              refine lv_iload_n hx hb dX4_shift_89 rfl (lv_at hl 3 rfl) ?_
              refine gz_iadd hx hb dX4_shift_90 ?_
              refine g_gov (vx_runV (As := [.int (zI y), .int (zI ((stp S i k) + d))]) (rest := []) ⟨hx, hb, hml, hown, hts⟩ (k_put l G (TA i 1) (TA i 2) 24 (stn S i) _ H_L65 hp1 y k (zI (stp S i k + d)) (by omega) (by omega)) (cwV 2 hts gX4_shift_X2_put rfl rfl rfl hd_X2_put ⟨(Nat.le_of_ble_eq_true rfl), (Nat.le_of_ble_eq_true rfl)⟩) (g_preV hX hS (ci := 2) rfl hp1.1) rfl rfl hl.1 rfl (lv_room (Nat.le_of_ble_eq_true rfl)) dX4_shift_91 ⟨(Nat.le_of_ble_eq_true rfl), (Nat.le_of_ble_eq_true rfl)⟩) hS (fun H_91 locs hp hS => ?_)
              obtain ⟨hp2, hO2⟩ := hp
              rw [zup, shF_step] at hp2
              refine lv_iinc (v := zI (y + 1)) (lv' := [(4, .int (zI (y + 1))), (0, .ref (A 0)), (1, .int (zI z)), (2, .int (zI d)), (3, .ref (TA i 0))]) hx hb dX4_shift_94 hl (k := 0) rfl (zI_add _ _) (by decide) rfl (fun ls hl => ?_)
              refine lv_goto (tgt := 65) hx hb dX4_shift_97 (by decide) ?_
              exact ih_65 (y + 1) (k + 1) H_91 _ (by omega) (by omega) (by omega) (ht.only1 hO2 n02) hp2 (hOk.trans hO2 (fun _ h => h) (fun _ h => h)) hS ls (lv_sub hl [0, 1, 2, 3, 4] rfl)
        exact loop_65 _ 0 0 H _ (Nat.lt_succ_self _) rfl (Nat.zero_le _) ht (by rw [shF_0]; exact hp1) ⟨rfl, fun _ _ => rfl⟩ hS ls (lv_sub hl [0, 1, 2, 3, 4] rfl)
      · refine lv_aload_n hx hb dX4_shift_26 rfl (lv_at hl 4 rfl) ?_
        refine g_getN hx hb hX hts (fun w h => (List.mem_cons_of_mem _ (List.mem_append_left _ (List.mem_append_left _ (List.mem_append_left _ (List.mem_append_left _ (List.mem_append_left _ (List.mem_append_right _ h)))))))) hown ht rfl 0 (by decide) (by decide +kernel : Cond.fieldLinkNest RX4 77 "TuneCatalogue$Tune" "pitches" "LTuneCatalogue$Row;" RX4 ∈ gNW) rfl dX4_shift_27 ?_
        refine lv_iload hx hb dX4_shift_30 (lv_at hl 0 rfl) ?_
        refine g_goi (vx_runV (As := [.int (zI y)]) (rest := []) ⟨hx, hb, hml, hown, hts⟩ (k_at l G (TA i 1) (TA i 2) 24 (stn S i) _ H hp1 y k (by omega) (by omega)) (cwV 1 hts gX4_shift_X2_at rfl rfl rfl hd_X2_at ⟨(Nat.le_of_ble_eq_true rfl), (Nat.le_of_ble_eq_true rfl)⟩) (g_preV hX hS (ci := 2) rfl hp1.1) rfl rfl hl.1 rfl (lv_room (Nat.le_of_ble_eq_true rfl)) dX4_shift_32 ⟨(Nat.le_of_ble_eq_true rfl), (Nat.le_of_ble_eq_true rfl)⟩) hS (fun r_32 H_32 locs hp hS => ?_)
        obtain ⟨rfl, rfl⟩ := hp
        refine lv_iload_n hx hb dX4_shift_35 rfl (lv_at hl 3 rfl) ?_
        refine gz_iadd hx hb dX4_shift_36 ?_
        refine lv_iconst (v := zI 0) hx hb dX4_shift_37 rfl ?_
        refine lv_bipush (v := zI 60) hx hb dX4_shift_38 (by decide +kernel) ?_
        refine g_goi (vx_runS (As := [.int (zI ((stp S i k) + d)), .int (zI 0), .int (zI 60)]) (rest := []) ⟨hx, hb, hml, hown, hts⟩ (k_isWithin_t l G H ((stp S i k) + d) 0 60 ⟨by omega, by omega⟩ (by decide) (by decide) (hall k (by omega))) (va_cwS 3 hts gX4_shift_X4_isWithin rfl rfl rfl hd_X4_isWithin.2 ⟨(Nat.le_of_ble_eq_true rfl), (Nat.le_of_ble_eq_true rfl)⟩) (g_pre hX hS) rfl rfl hl.1 rfl (lv_room (Nat.le_of_ble_eq_true rfl)) dX4_shift_40 ⟨(Nat.le_of_ble_eq_true rfl), (Nat.le_of_ble_eq_true rfl)⟩) hS (fun r_40 H_40 locs hp hS => ?_)
        obtain ⟨rfl, rfl⟩ := hp
        refine gz_if_ne (tgt := 56) hx hb (by decide) dX4_shift_43 (by decide) (fun c_43 => ?_) (fun c_43 => ?_)
        · refine lv_iinc (v := zI (y + 1)) (lv' := [(4, .int (zI (y + 1))), (0, .ref (A 0)), (1, .int (zI z)), (2, .int (zI d)), (3, .ref (TA i 0))]) hx hb dX4_shift_56 hl (k := 0) rfl (zI_add _ _) (by decide) rfl (fun ls hl => ?_)
          refine lv_goto (tgt := 17) hx hb dX4_shift_59 (by decide) ?_
          exact ih_17 (y + 1) (k + 1) _ (by omega) (by omega) (by omega) hS ls (lv_sub hl [0, 1, 2, 3, 4] rfl)
        · omega
  exact loop_17 _ 0 0 _ (Nat.lt_succ_self _) rfl (Nat.zero_le _) hS ls (lv_sub hl [0, 2, 3, 4, 1] rfl)
set_option maxHeartbeats 4000000 in
set_option maxRecDepth 100000 in
theorem x_shift_e1 (l : Launch) (G : gG) (hlf : l.stackTraces = false) (A : Nat → Nat) (TA : Nat → Nat → Nat) (S : cS) (W9 : cWk) (H : Heap) (hC : Cat G A TA S W9 H) (hI : sInv S) (z : Int) (hz : rI z) (hi : ¬ kwn S z) (d : Int) : gM l yX4_shift wsX4_shift rm_X4_shift [.ref (A 0), .int (zI z), .int (zI d)] G H (gF0) (gTh "java/lang/IndexOutOfBoundsException" H) 6 60 := by
  obtain ⟨h0, h1, h2, h3, h4, h5, h6, hap⟩ := id hC
  have hn16 : sn S ≤ 16 := hI.1
  refine g_start (cc := cX4_shift) (maxL := 5) (ret := none) (by decide +kernel) rfl (Nat.le_of_ble_eq_true rfl) ?_
  intro p e s m args below meth c F ls hl
  obtain ⟨hx, hb, hml, hr, hts, hown, hlocks, hxt, hH, hX, hin⟩ := F
  have hown : s.vm.findClass RX4 = some m.cls := hown
  have hS : va_S (gA G) s.heap H [] := by rw [hH]; exact va_S.rf
  have hl : lv_has ls 5 [(0, .ref (A 0)), (1, .int (zI z)), (2, .int (zI d))] := hl
  refine lv_aload_n hx hb dX4_shift_0 rfl (lv_at hl 0 rfl) ?_
  refine lv_iload_n hx hb dX4_shift_1 rfl (lv_at hl 1 rfl) ?_
  refine g_go (vx_runV (As := [.int (zI z)]) (rest := []) ⟨hx, hb, hml, hown, hts⟩ (k_kT_no l G hlf A TA S W9 H hC hI z hz hi) (cwV 1 hts gX4_shift_X4_knownOrThrow rfl rfl rfl hd_X4_knownOrThrow ⟨(Nat.le_of_ble_eq_true rfl), (Nat.le_of_ble_eq_true rfl)⟩) (g_preV hX hS (ci := 4) rfl h0) rfl rfl hl.1 rfl (lv_room (Nat.le_of_ble_eq_true rfl)) dX4_shift_2 ⟨(Nat.le_of_ble_eq_true rfl), (Nat.le_of_ble_eq_true rfl)⟩) hS (fun E ce q9 H_2 locs hp hS hce hcv hcl => ?_) (fun v H1 locs h hS => h.elim)
  exact g_out hxt hlocks hS hce hcv hcl (hp) (Nat.le_of_ble_eq_true rfl) (Nat.le_of_ble_eq_true rfl)
set_option maxHeartbeats 4000000 in
set_option maxRecDepth 100000 in
theorem x_shift_e2 (l : Launch) (G : gG) (hlf : l.stackTraces = false) (A : Nat → Nat) (TA : Nat → Nat → Nat) (S : cS) (W9 : cWk) (H : Heap) (hC : Cat G A TA S W9 H) (hI : sInv S) (z : Int) (i : Nat) (hz : z = i) (hi : i < sn S)(hk : srt S i = false)(d : Int) (hd0 : rI d) (hd : ¬ (-60 ≤ d ∧ d ≤ 60)) : gM l yX4_shift wsX4_shift rm_X4_shift [.ref (A 0), .int (zI z), .int (zI d)] G H (gF0) (gTh "java/lang/IllegalArgumentException" H) 6 60 := by
  obtain ⟨h0, h1, h2, h3, h4, h5, h6, hap⟩ := id hC
  have hn16 : sn S ≤ 16 := hI.1
  obtain ⟨ht, hp1, hl1, gt, htd⟩ := id (h6 i hi)
  have hT := h6 i hi
  refine g_start (cc := cX4_shift) (maxL := 5) (ret := none) (by decide +kernel) rfl (Nat.le_of_ble_eq_true rfl) ?_
  intro p e s m args below meth c F ls hl
  obtain ⟨hx, hb, hml, hr, hts, hown, hlocks, hxt, hH, hX, hin⟩ := F
  have hown : s.vm.findClass RX4 = some m.cls := hown
  have hS : va_S (gA G) s.heap H [] := by rw [hH]; exact va_S.rf
  have hl : lv_has ls 5 [(0, .ref (A 0)), (1, .int (zI z)), (2, .int (zI d))] := hl
  refine lv_aload_n hx hb dX4_shift_0 rfl (lv_at hl 0 rfl) ?_
  refine lv_iload_n hx hb dX4_shift_1 rfl (lv_at hl 1 rfl) ?_
  refine g_goq (vx_runV (As := [.int (zI z)]) (rest := []) ⟨hx, hb, hml, hown, hts⟩ (k_kT_ok l G A TA S W9 H hC hI z i hz hi hk) (cwV 1 hts gX4_shift_X4_knownOrThrow rfl rfl rfl hd_X4_knownOrThrow ⟨(Nat.le_of_ble_eq_true rfl), (Nat.le_of_ble_eq_true rfl)⟩) (g_preV hX hS (ci := 4) rfl h0) rfl rfl hl.1 rfl (lv_room (Nat.le_of_ble_eq_true rfl)) dX4_shift_2 ⟨(Nat.le_of_ble_eq_true rfl), (Nat.le_of_ble_eq_true rfl)⟩) hS (fun r_2 H_2 locs hp hS => ?_)
  obtain ⟨rfl, rfl⟩ := hp
  refine W.eq (g2 := F0 m 5 ls [.ref (TA i 0)]) rfl ?_
  refine lv_astore_n (lv' := [(3, .ref (TA i 0)), (0, .ref (A 0)), (1, .int (zI z)), (2, .int (zI d))]) hx hb dX4_shift_5 rfl hl (by decide) rfl (fun ls hl => ?_)
  refine lv_iload_n hx hb dX4_shift_6 rfl (lv_at hl 3 rfl) ?_
  refine lv_bipush (v := zI (-60)) hx hb dX4_shift_7 (by decide +kernel) ?_
  refine lv_bipush (v := zI 60) hx hb dX4_shift_9 (by decide +kernel) ?_
  refine g_go (vx_runS (As := [.int (zI d), .int (zI (-60)), .int (zI 60)]) (rest := []) ⟨hx, hb, hml, hown, hts⟩ (k_rW_no l G hlf H d (-60) 60 (by first | assumption | exact ⟨by omega, by omega⟩) (by decide) (by decide) (by omega)) (va_cwS 3 hts gX4_shift_X4_refuseUnlessWithin rfl rfl rfl hd_X4_refuseUnlessWithin.2 ⟨(Nat.le_of_ble_eq_true rfl), (Nat.le_of_ble_eq_true rfl)⟩) (g_pre hX hS) rfl rfl hl.1 rfl (lv_room (Nat.le_of_ble_eq_true rfl)) dX4_shift_11 ⟨(Nat.le_of_ble_eq_true rfl), (Nat.le_of_ble_eq_true rfl)⟩) hS (fun E ce q9 H_11 locs hp hS hce hcv hcl => ?_) (fun v H1 locs h hS => h.elim)
  exact g_out hxt hlocks hS hce hcv hcl (hp) (Nat.le_of_ble_eq_true rfl) (Nat.le_of_ble_eq_true rfl)
set_option maxHeartbeats 4000000 in
set_option maxRecDepth 100000 in
theorem x_shift_e3 (l : Launch) (G : gG) (hlf : l.stackTraces = false) (A : Nat → Nat) (TA : Nat → Nat → Nat) (S : cS) (W9 : cWk) (H : Heap) (hC : Cat G A TA S W9 H) (hI : sInv S) (z : Int) (i : Nat) (hz : z = i) (hi : i < sn S)(hk : srt S i = false)(d : Int) (hd0 : rI d) (hd : -60 ≤ d ∧ d ≤ 60) (q0 : Nat) (hq0 : q0 < stn S i) (hbad : ¬ (0 ≤ stp S i q0 + d ∧ stp S i q0 + d ≤ 60)) : gM l yX4_shift wsX4_shift rm_X4_shift [.ref (A 0), .int (zI z), .int (zI d)] G H (gF0) (gTh "java/lang/IllegalStateException" H) 6 60 := by
  obtain ⟨h0, h1, h2, h3, h4, h5, h6, hap⟩ := id hC
  have hn16 : sn S ≤ 16 := hI.1
  obtain ⟨ht, hp1, hl1, gt, htd⟩ := id (h6 i hi)
  have hT := h6 i hi
  have ht24 := (hI.2.1 i hi).2
  have ht1 := (hI.2.1 i hi).1
  refine g_start (cc := cX4_shift) (maxL := 5) (ret := none) (by decide +kernel) rfl (Nat.le_of_ble_eq_true rfl) ?_
  intro p e s m args below meth c F ls hl
  obtain ⟨hx, hb, hml, hr, hts, hown, hlocks, hxt, hH, hX, hin⟩ := F
  have hown : s.vm.findClass RX4 = some m.cls := hown
  have hS : va_S (gA G) s.heap H [] := by rw [hH]; exact va_S.rf
  have hl : lv_has ls 5 [(0, .ref (A 0)), (1, .int (zI z)), (2, .int (zI d))] := hl
  refine lv_aload_n hx hb dX4_shift_0 rfl (lv_at hl 0 rfl) ?_
  refine lv_iload_n hx hb dX4_shift_1 rfl (lv_at hl 1 rfl) ?_
  refine g_goq (vx_runV (As := [.int (zI z)]) (rest := []) ⟨hx, hb, hml, hown, hts⟩ (k_kT_ok l G A TA S W9 H hC hI z i hz hi hk) (cwV 1 hts gX4_shift_X4_knownOrThrow rfl rfl rfl hd_X4_knownOrThrow ⟨(Nat.le_of_ble_eq_true rfl), (Nat.le_of_ble_eq_true rfl)⟩) (g_preV hX hS (ci := 4) rfl h0) rfl rfl hl.1 rfl (lv_room (Nat.le_of_ble_eq_true rfl)) dX4_shift_2 ⟨(Nat.le_of_ble_eq_true rfl), (Nat.le_of_ble_eq_true rfl)⟩) hS (fun r_2 H_2 locs hp hS => ?_)
  obtain ⟨rfl, rfl⟩ := hp
  refine W.eq (g2 := F0 m 5 ls [.ref (TA i 0)]) rfl ?_
  refine lv_astore_n (lv' := [(3, .ref (TA i 0)), (0, .ref (A 0)), (1, .int (zI z)), (2, .int (zI d))]) hx hb dX4_shift_5 rfl hl (by decide) rfl (fun ls hl => ?_)
  refine lv_iload_n hx hb dX4_shift_6 rfl (lv_at hl 3 rfl) ?_
  refine lv_bipush (v := zI (-60)) hx hb dX4_shift_7 (by decide +kernel) ?_
  refine lv_bipush (v := zI 60) hx hb dX4_shift_9 (by decide +kernel) ?_
  refine g_gov (vx_runS (As := [.int (zI d), .int (zI (-60)), .int (zI 60)]) (rest := []) ⟨hx, hb, hml, hown, hts⟩ (k_rW_ok l G H d (-60) 60 (by first | assumption | exact ⟨by omega, by omega⟩) (by decide) (by decide) (by omega)) (va_cwS 3 hts gX4_shift_X4_refuseUnlessWithin rfl rfl rfl hd_X4_refuseUnlessWithin.2 ⟨(Nat.le_of_ble_eq_true rfl), (Nat.le_of_ble_eq_true rfl)⟩) (g_pre hX hS) rfl rfl hl.1 rfl (lv_room (Nat.le_of_ble_eq_true rfl)) dX4_shift_11 ⟨(Nat.le_of_ble_eq_true rfl), (Nat.le_of_ble_eq_true rfl)⟩) hS (fun H_11 locs hp hS => ?_)
  subst hp
  refine lv_iconst (v := zI 0) hx hb dX4_shift_14 rfl ?_
  refine lv_istore (lv' := [(4, .int (zI 0)), (3, .ref (TA i 0)), (0, .ref (A 0)), (1, .int (zI z)), (2, .int (zI d))]) hx hb dX4_shift_15 hl (by decide) rfl (fun ls hl => ?_)
  have loop_17 : ∀ (M_ : Nat) (y : Int) (k : Nat) (locs : List Loc), stn S i - k < M_ → (y = k) → (k ≤ q0) → va_S (gA G) s.heap H locs → ∀ (ls : Array Slot), lv_has ls 5 [(4, .int (zI y)), (0, .ref (A 0)), (1, .int (zI z)), (2, .int (zI d)), (3, .ref (TA i 0))] → W p l e rm_X4_shift s m args below meth c H locs (0 + 1 + 1) (0 + 6 + 6) (vx_MQ below (gQ G (gF0)) (gXC G (gTh "java/lang/IllegalStateException" H)) args s 6 60 (gA G)) (F0 m 17 ls []) := by
    intro M_
    induction M_ with
    | zero => intro y k locs_0 h_0; exact absurd h_0 (Nat.not_lt_zero _)
    | succ M_ ih_17 =>
      intro y k locs hM_17 hy hkn hS ls hl
      have hpk := hI.2.2.2.1 i k
      refine lv_iload hx hb dX4_shift_17 (lv_at hl 0 rfl) ?_
      refine lv_aload_n hx hb dX4_shift_19 rfl (lv_at hl 4 rfl) ?_
      refine g_goi (vx_runV (As := []) (rest := [.int (zI y)]) ⟨hx, hb, hml, hown, hts⟩ (k_Tune_size l G (TA i) (stn S i) (stp S i) (stl S i) (srt S i) H hT) (cwV 0 hts gX4_shift_X3_size rfl rfl rfl hd_X3_size ⟨(Nat.le_of_ble_eq_true rfl), (Nat.le_of_ble_eq_true rfl)⟩) (g_preV hX hS (ci := 3) rfl ht) rfl rfl hl.1 rfl (lv_room (Nat.le_of_ble_eq_true rfl)) dX4_shift_20 ⟨(Nat.le_of_ble_eq_true rfl), (Nat.le_of_ble_eq_true rfl)⟩) hS (fun r_20 H_20 locs hp hS => ?_)
      obtain ⟨rfl, rfl⟩ := hp
      refine gz_icmp_ge (tgt := 62) hx hb ⟨by omega, by omega⟩ ⟨by omega, by omega⟩ dX4_shift_23 (by decide) (fun c_23 => ?_) (fun c_23 => ?_)
      · omega
      · refine lv_aload_n hx hb dX4_shift_26 rfl (lv_at hl 4 rfl) ?_
        refine g_getN hx hb hX hts (fun w h => (List.mem_cons_of_mem _ (List.mem_append_left _ (List.mem_append_left _ (List.mem_append_left _ (List.mem_append_left _ (List.mem_append_left _ (List.mem_append_right _ h)))))))) hown ht rfl 0 (by decide) (by decide +kernel : Cond.fieldLinkNest RX4 77 "TuneCatalogue$Tune" "pitches" "LTuneCatalogue$Row;" RX4 ∈ gNW) rfl dX4_shift_27 ?_
        refine lv_iload hx hb dX4_shift_30 (lv_at hl 0 rfl) ?_
        refine g_goi (vx_runV (As := [.int (zI y)]) (rest := []) ⟨hx, hb, hml, hown, hts⟩ (k_at l G (TA i 1) (TA i 2) 24 (stn S i) _ H hp1 y k (by omega) (by omega)) (cwV 1 hts gX4_shift_X2_at rfl rfl rfl hd_X2_at ⟨(Nat.le_of_ble_eq_true rfl), (Nat.le_of_ble_eq_true rfl)⟩) (g_preV hX hS (ci := 2) rfl hp1.1) rfl rfl hl.1 rfl (lv_room (Nat.le_of_ble_eq_true rfl)) dX4_shift_32 ⟨(Nat.le_of_ble_eq_true rfl), (Nat.le_of_ble_eq_true rfl)⟩) hS (fun r_32 H_32 locs hp hS => ?_)
        obtain ⟨rfl, rfl⟩ := hp
        refine lv_iload_n hx hb dX4_shift_35 rfl (lv_at hl 3 rfl) ?_
        refine gz_iadd hx hb dX4_shift_36 ?_
        refine lv_iconst (v := zI 0) hx hb dX4_shift_37 rfl ?_
        refine lv_bipush (v := zI 60) hx hb dX4_shift_38 (by decide +kernel) ?_
        refine g_goi (vx_runS (As := [.int (zI ((stp S i k) + d)), .int (zI 0), .int (zI 60)]) (rest := []) ⟨hx, hb, hml, hown, hts⟩ (k_isWithin l G H ((stp S i k) + d) 0 60 ⟨by omega, by omega⟩ (by decide) (by decide)) (va_cwS 3 hts gX4_shift_X4_isWithin rfl rfl rfl hd_X4_isWithin.2 ⟨(Nat.le_of_ble_eq_true rfl), (Nat.le_of_ble_eq_true rfl)⟩) (g_pre hX hS) rfl rfl hl.1 rfl (lv_room (Nat.le_of_ble_eq_true rfl)) dX4_shift_40 ⟨(Nat.le_of_ble_eq_true rfl), (Nat.le_of_ble_eq_true rfl)⟩) hS (fun r_40 H_40 locs hp hS => ?_)
        obtain ⟨rfl, rfl⟩ := hp
        refine gz_if_ne (tgt := 56) hx hb (by split <;> decide) dX4_shift_43 (by decide) (fun c_43 => ?_) (fun c_43 => ?_)
        · refine lv_iinc (v := zI (y + 1)) (lv' := [(4, .int (zI (y + 1))), (0, .ref (A 0)), (1, .int (zI z)), (2, .int (zI d)), (3, .ref (TA i 0))]) hx hb dX4_shift_56 hl (k := 0) rfl (zI_add _ _) (by decide) rfl (fun ls hl => ?_)
          refine lv_goto (tgt := 17) hx hb dX4_shift_59 (by decide) ?_
          exact ih_17 (y + 1) (k + 1) _ (by omega) (by omega) (by rcases Nat.lt_or_ge k q0 with g | g; omega; exact absurd (by rw [if_neg (by rw [show k = q0 by omega]; exact hbad)]) c_43) hS ls (lv_sub hl [0, 1, 2, 3, 4] rfl)
        · exact g_throw hx hb hlf hX hown (by decide +kernel) (by decide +kernel) (hts (.classLink RX4 59 "java/lang/IllegalStateException") (List.mem_cons_of_mem _ (List.mem_append_left _ (List.mem_append_left _ (List.mem_append_left _ (List.mem_append_left _ (List.mem_append_left _ (List.mem_append_left _ (List.mem_append_left _ (List.mem_of_getElem? (i := 0) rfl)))))))))) (hts (.initialized "java/lang/IllegalStateException") (List.mem_cons_of_mem _ (List.mem_append_left _ (List.mem_append_left _ (List.mem_append_left _ (List.mem_append_left _ (List.mem_append_left _ (List.mem_append_left _ (List.mem_append_left _ (List.mem_of_getElem? (i := 1) rfl)))))))))) (by decide +kernel : (109, "a pitch would be out of range") ∈ gStr) (ha_X4_shift_63 hX hts) (by decide +kernel) hS (hl.1.trans hml.symm) dX4_shift_46 dX4_shift_49 dX4_shift_50 dX4_shift_52 dX4_shift_55 hxt (Nat.le_of_ble_eq_true rfl) (Nat.le_of_ble_eq_true rfl) (Nat.le_of_ble_eq_true rfl) (Nat.le_of_ble_eq_true rfl) hlocks (fun H1 hE => ⟨rfl, hE⟩) (Nat.le_of_ble_eq_true rfl) (Nat.le_of_ble_eq_true rfl)
  exact loop_17 _ 0 0 _ (Nat.lt_succ_self _) rfl (Nat.zero_le _) hS ls (lv_sub hl [0, 2, 3, 4, 1] rfl)
set_option maxHeartbeats 4000000 in
set_option maxRecDepth 100000 in
theorem k_priceTunes (l : Launch) (G : gG) (A : Nat → Nat) (TA : Nat → Nat → Nat) (S : cS) (W9 : cWk) (H : Heap) (hC : Cat G A TA S W9 H) (hI : sInv S)  : gM l yX4_priceTunes wsX4_priceTunes rm_X4_priceTunes [.ref (A 0)] G H (gv (fun H1 => Prc G A TA S H H1)) (gNo) 0 0 := by
  obtain ⟨h0, h1, h2, h3, h4, h5, h6, hap⟩ := id hC
  have hn16 : sn S ≤ 16 := hI.1
  refine g_start (cc := cX4_priceTunes) (maxL := 3) (ret := none) (by decide +kernel) rfl (Nat.le_of_ble_eq_true rfl) ?_
  intro p e s m args below meth c F ls hl
  obtain ⟨hx, hb, hml, hr, hts, hown, hlocks, hxt, hH, hX, hin⟩ := F
  have hown : s.vm.findClass RX4 = some m.cls := hown
  have hS : va_S (gA G) s.heap H [] := by rw [hH]; exact va_S.rf
  have hl : lv_has ls 3 [(0, .ref (A 0))] := hl
  refine lv_aload_n hx hb dX4_priceTunes_0 rfl (lv_at hl 0 rfl) ?_
  refine g_get hx hb hX hts (fun w h => (List.mem_cons_of_mem _ (List.mem_append_left _ (List.mem_append_left _ (List.mem_append_left _ (List.mem_append_right _ h)))))) hown h0 rfl 5 (by decide) (hts (.fieldLink RX4 41 "TuneCatalogue" "priceRow" "LTuneCatalogue$Row;") (List.mem_cons_of_mem _ (List.mem_append_left _ (List.mem_append_left _ (List.mem_append_left _ (List.mem_append_left _ (List.mem_append_left _ (List.mem_of_getElem? (i := 0) rfl)))))))) rfl dX4_priceTunes_1 ?_
  refine g_gov (vx_runV (As := []) (rest := []) ⟨hx, hb, hml, hown, hts⟩ (k_clear l G (A 9) (A 10) 16 (wpn W9) _ H h4) (cwV 0 hts gX4_priceTunes_X2_clear rfl rfl rfl hd_X2_clear ⟨(Nat.le_of_ble_eq_true rfl), (Nat.le_of_ble_eq_true rfl)⟩) (g_preV hX hS (ci := 2) rfl h4.1) rfl rfl hl.1 rfl (lv_room (Nat.le_of_ble_eq_true rfl)) dX4_priceTunes_4 ⟨(Nat.le_of_ble_eq_true rfl), (Nat.le_of_ble_eq_true rfl)⟩) hS (fun H_4 locs hp hS => ?_)
  obtain ⟨hr2, hO1⟩ := hp
  have hO12 : gOnly [A 9, A 10] H H_4 := hO1.mono (fun q h => List.mem_cons.mpr (Or.inl (List.mem_singleton.mp h)))
  have hC := hC.price hO12 hr2
  have hOk : gOnly [A 5, A 9, A 10] H H_4 := hO12.mono (fun q h => List.mem_cons.mpr (Or.inr h))
  have h0 := hC.1
  have h1 := hC.2.1
  refine lv_iconst (v := zI 0) hx hb dX4_priceTunes_7 rfl ?_
  refine lv_istore_n (lv' := [(1, .int (zI 0)), (0, .ref (A 0))]) hx hb dX4_priceTunes_8 rfl hl (by decide) rfl (fun ls hl => ?_)
  have loop_9 : ∀ (M_ : Nat) (y : Int) (k : Nat) (Wk : cWk) (H_L9 : Heap) (locs : List Loc), sn S - k < M_ → (y = k) → (k ≤ sn S) → (Cat G A TA S Wk H_L9) → (wpn Wk = k) → (∀ q, q < k → wpf Wk q = zI (prc S q)) → (gOnly [A 5, A 9, A 10] H H_L9) → va_S (gA G) s.heap H_L9 locs → ∀ (ls : Array Slot), lv_has ls 3 [(1, .int (zI y)), (0, .ref (A 0))] → W p l e rm_X4_priceTunes s m args below meth c H_L9 locs (0) (0) (vx_MQ below (gQ G (gv (fun H1 => Prc G A TA S H H1))) (gXC G (gNo)) args s 0 0 (gA G)) (F0 m 9 ls []) := by
    intro M_
    induction M_ with
    | zero => intro y k Wk H_0 locs_0 h_0; exact absurd h_0 (Nat.not_lt_zero _)
    | succ M_ ih_9 =>
      intro y k Wk H_L9 locs hM_9 hy hkn hC hpn hpf hOk hS ls hl
      obtain ⟨h0, h1, h2, h3, h4, h5, h6, hap⟩ := id hC
      have hpr := prc_rng hI k
      refine lv_iload_n hx hb dX4_priceTunes_9 rfl (lv_at hl 0 rfl) ?_
      refine lv_aload_n hx hb dX4_priceTunes_10 rfl (lv_at hl 1 rfl) ?_
      refine g_get hx hb hX hts (fun w h => (List.mem_cons_of_mem _ (List.mem_append_left _ (List.mem_append_left _ (List.mem_append_left _ (List.mem_append_right _ h)))))) hown h0 rfl 1 (by decide) (hts (.fieldLink RX4 51 "TuneCatalogue" "entered" "I") (List.mem_cons_of_mem _ (List.mem_append_left _ (List.mem_append_left _ (List.mem_append_left _ (List.mem_append_left _ (List.mem_append_left _ (List.mem_of_getElem? (i := 1) rfl)))))))) rfl dX4_priceTunes_11 ?_
      refine gz_icmp_ge (tgt := 52) hx hb ⟨by omega, by omega⟩ ⟨by omega, by omega⟩ dX4_priceTunes_14 (by decide) (fun c_14 => ?_) (fun c_14 => ?_)
      · exact g_retv hx hb hr hlocks hS (⟨⟨Wk, hC, by omega, fun q hq => hpf q (by omega)⟩, hOk⟩) (Nat.le_of_ble_eq_true rfl) (Nat.le_of_ble_eq_true rfl) dX4_priceTunes_52
      · refine lv_aload_n hx hb dX4_priceTunes_17 rfl (lv_at hl 1 rfl) ?_
        refine lv_iload_n hx hb dX4_priceTunes_18 rfl (lv_at hl 0 rfl) ?_
        refine g_goq (vx_runV (As := [.int (zI y)]) (rest := []) ⟨hx, hb, hml, hown, hts⟩ (k_kN l G A TA S Wk H_L9 hC hI y k (by omega) (by omega)) (cwV 1 hts gX4_priceTunes_X4_knownOrNull rfl rfl rfl hd_X4_knownOrNull ⟨(Nat.le_of_ble_eq_true rfl), (Nat.le_of_ble_eq_true rfl)⟩) (g_preV hX hS (ci := 4) rfl h0) rfl rfl hl.1 rfl (lv_room (Nat.le_of_ble_eq_true rfl)) dX4_priceTunes_19 ⟨(Nat.le_of_ble_eq_true rfl), (Nat.le_of_ble_eq_true rfl)⟩) hS (fun r_19 H_19 locs hp hS => ?_)
        obtain ⟨hv, rfl⟩ := hp
        cases hsk : srt S k
        · rw [hsk] at hv
          replace hv : some (TA k 0) = r_19 := hv
          subst hv
          refine W.eq (g2 := F0 m 22 ls [.ref (TA k 0)]) rfl ?_
          refine lv_astore_n (lv' := [(2, .ref (TA k 0)), (1, .int (zI y)), (0, .ref (A 0))]) hx hb dX4_priceTunes_22 rfl hl (by decide) rfl (fun ls hl => ?_)
          refine lv_aload_n hx hb dX4_priceTunes_23 rfl (lv_at hl 2 rfl) ?_
          refine g_get hx hb hX hts (fun w h => (List.mem_cons_of_mem _ (List.mem_append_left _ (List.mem_append_left _ (List.mem_append_left _ (List.mem_append_right _ h)))))) hown h0 rfl 5 (by decide) (hts (.fieldLink RX4 41 "TuneCatalogue" "priceRow" "LTuneCatalogue$Row;") (List.mem_cons_of_mem _ (List.mem_append_left _ (List.mem_append_left _ (List.mem_append_left _ (List.mem_append_left _ (List.mem_append_left _ (List.mem_of_getElem? (i := 0) rfl)))))))) rfl dX4_priceTunes_24 ?_
          refine lv_aload_n hx hb dX4_priceTunes_27 rfl (lv_at hl 0 rfl) ?_
          refine lv_ifnonnull (tgt := 35) hx hb dX4_priceTunes_28 (by decide) ?_
          refine lv_aload_n hx hb dX4_priceTunes_35 rfl (lv_at hl 2 rfl) ?_
          refine g_get hx hb hX hts (fun w h => (List.mem_cons_of_mem _ (List.mem_append_left _ (List.mem_append_left _ (List.mem_append_left _ (List.mem_append_right _ h)))))) hown h0 rfl 2 (by decide) (hts (.fieldLink RX4 18 "TuneCatalogue" "matching" "LTuneCatalogue$Matching;") (List.mem_cons_of_mem _ (List.mem_append_left _ (List.mem_append_left _ (List.mem_append_left _ (List.mem_append_left _ (List.mem_append_left _ (List.mem_of_getElem? (i := 2) rfl)))))))) rfl dX4_priceTunes_36 ?_
          refine lv_aload_n hx hb dX4_priceTunes_39 rfl (lv_at hl 0 rfl) ?_
          refine g_goi (vx_runV (As := [.ref (TA k 0)]) (rest := [.ref (A 9)]) ⟨hx, hb, hml, hown, hts⟩ (k_cheapestByTable l G (A 4) (A 2) (A 3) (A 5) (tX S k) (wtb Wk) H_L9 (hC.mat k) (tX_ok hI k) (TA k) (srt S k) (h6 k (by omega)) (fun j hj => Ne.symm (hap.2.1 k j 5 (by omega) hj (by omega)))) (cwV 1 hts gX4_priceTunes_X1_cheapestByTable rfl rfl rfl hd_X1_cheapestByTable ⟨(Nat.le_of_ble_eq_true rfl), (Nat.le_of_ble_eq_true rfl)⟩) (g_preV hX hS (ci := 1) rfl h2.1) rfl rfl hl.1 rfl (lv_room (Nat.le_of_ble_eq_true rfl)) dX4_priceTunes_40 ⟨(Nat.le_of_ble_eq_true rfl), (Nat.le_of_ble_eq_true rfl)⟩) hS (fun r_40 H_40 locs hp hS => ?_)
          obtain ⟨hv, hO5, tb2, hM2⟩ := hp
          rw [show costI (tX S k) = prc S k from (by unfold prc; rw [hsk]; rfl)] at hv
          subst hv
          have hCk := hC.tab hO5 hM2
          obtain ⟨Wk2, eWk2⟩ : ∃ W, W = ((tb2, Wk.2) : cWk) := ⟨_, rfl⟩
          have hCk : Cat G A TA S Wk2 H_40 := by rw [eWk2]; exact hCk
          have h4k : gRow G (A 9) (A 10) 16 k (wpf Wk) H_40 := by have := hCk.2.2.2.2.1; rw [eWk2] at this; rw [← hpn]; exact this
          have hOk2 := hOk.trans (L3 := [A 5, A 9, A 10]) hO5 (fun _ h => h) (by intro q h; simp only [List.mem_cons, List.not_mem_nil, or_false] at h ⊢; omega)
          refine W.eq (g2 := F0 m 43 ls [.int (zI (prc S k)), .ref (A 9)]) rfl ?_
          refine g_gov (vx_runV (As := [.int (zI (prc S k))]) (rest := []) ⟨hx, hb, hml, hown, hts⟩ (k_append l G (A 9) (A 10) 16 k _ H_40 h4k (zI (prc S k)) (by omega)) (cwV 1 hts gX4_priceTunes_X2_append rfl rfl rfl hd_X2_append ⟨(Nat.le_of_ble_eq_true rfl), (Nat.le_of_ble_eq_true rfl)⟩) (g_preV hX hS (ci := 2) rfl h4k.1) rfl rfl hl.1 rfl (lv_room (Nat.le_of_ble_eq_true rfl)) dX4_priceTunes_43 ⟨(Nat.le_of_ble_eq_true rfl), (Nat.le_of_ble_eq_true rfl)⟩) hS (fun H_43 locs hp hS => ?_)
          obtain ⟨hr2, hO1⟩ := hp
          have hC := hCk.price hO1 hr2
          obtain ⟨Wn, eWn⟩ : ∃ W, W = ((wtb Wk2, k + 1, upd (wpf Wk) k (zI (prc S k)), Wk2.2.2.2) : cWk) := ⟨_, rfl⟩
          have hC : Cat G A TA S Wn H_43 := by rw [eWn]; exact hC
          have hpn2 : wpn Wn = k + 1 := by rw [eWn]
          have hpf2 : ∀ q, q < k + 1 → wpf Wn q = zI (prc S q) := fun q hq => by
            rw [eWn]
            show upd (wpf Wk) k (zI (prc S k)) q = _
            unfold upd
            by_cases e : q = k
            · rw [if_pos e, e]
            · rw [if_neg e]; exact hpf q (by omega)
          have hOn := hOk2.trans (L3 := [A 5, A 9, A 10]) hO1 (fun _ h => h) (by intro q h; simp only [List.mem_cons, List.not_mem_nil, or_false] at h ⊢; omega)
          refine lv_iinc (v := zI (y + 1)) (lv' := [(1, .int (zI (y + 1))), (2, .ref (TA k 0)), (0, .ref (A 0))]) hx hb dX4_priceTunes_46 hl (k := 1) rfl (zI_add _ _) (by decide) rfl (fun ls hl => ?_)
          refine lv_goto (tgt := 9) hx hb dX4_priceTunes_49 (by decide) ?_
          exact ih_9 (y + 1) (k + 1) Wn H_43 _ (by omega) (by omega) (by omega) hC hpn2 hpf2 hOn hS ls (lv_sub hl [0, 2] rfl)
        · rw [hsk] at hv
          replace hv : none = r_19 := hv
          subst hv
          refine W.eq (g2 := F0 m 22 ls [.null]) rfl ?_
          refine lv_astore_nN (lv' := [(2, .null), (1, .int (zI y)), (0, .ref (A 0))]) hx hb dX4_priceTunes_22 rfl hl (by decide) rfl (fun ls hl => ?_)
          refine lv_aload_n hx hb dX4_priceTunes_23 rfl (lv_at hl 2 rfl) ?_
          refine g_get hx hb hX hts (fun w h => (List.mem_cons_of_mem _ (List.mem_append_left _ (List.mem_append_left _ (List.mem_append_left _ (List.mem_append_right _ h)))))) hown h0 rfl 5 (by decide) (hts (.fieldLink RX4 41 "TuneCatalogue" "priceRow" "LTuneCatalogue$Row;") (List.mem_cons_of_mem _ (List.mem_append_left _ (List.mem_append_left _ (List.mem_append_left _ (List.mem_append_left _ (List.mem_append_left _ (List.mem_of_getElem? (i := 0) rfl)))))))) rfl dX4_priceTunes_24 ?_
          refine lv_aload_nN hx hb dX4_priceTunes_27 rfl (lv_at hl 0 rfl) ?_
          refine lv_ifnonnullN hx hb dX4_priceTunes_28 ?_
          have hCk := hC
          obtain ⟨Wk2, eWk2⟩ : ∃ W, W = Wk := ⟨_, rfl⟩
          have hCk : Cat G A TA S Wk2 H_L9 := by rw [eWk2]; exact hCk
          have h4k : gRow G (A 9) (A 10) 16 k (wpf Wk) H_L9 := by rw [← hpn]; exact h4
          have hOk2 := hOk
          have hpk1 : prc S k = -1 := by unfold prc; rw [hsk]; rfl
          refine lv_iconst (v := zI (-1)) hx hb dX4_priceTunes_31 rfl ?_
          refine lv_goto (tgt := 43) hx hb dX4_priceTunes_32 (by decide) ?_
          refine W.eq (g2 := F0 m 43 ls [.int (zI (prc S k)), .ref (A 9)]) (by rw [hpk1]) ?_
          refine g_gov (vx_runV (As := [.int (zI (prc S k))]) (rest := []) ⟨hx, hb, hml, hown, hts⟩ (k_append l G (A 9) (A 10) 16 k _ H_L9 h4k (zI (prc S k)) (by omega)) (cwV 1 hts gX4_priceTunes_X2_append rfl rfl rfl hd_X2_append ⟨(Nat.le_of_ble_eq_true rfl), (Nat.le_of_ble_eq_true rfl)⟩) (g_preV hX hS (ci := 2) rfl h4k.1) rfl rfl hl.1 rfl (lv_room (Nat.le_of_ble_eq_true rfl)) dX4_priceTunes_43 ⟨(Nat.le_of_ble_eq_true rfl), (Nat.le_of_ble_eq_true rfl)⟩) hS (fun H_43 locs hp hS => ?_)
          obtain ⟨hr2, hO1⟩ := hp
          have hC := hCk.price hO1 hr2
          obtain ⟨Wn, eWn⟩ : ∃ W, W = ((wtb Wk2, k + 1, upd (wpf Wk) k (zI (prc S k)), Wk2.2.2.2) : cWk) := ⟨_, rfl⟩
          have hC : Cat G A TA S Wn H_43 := by rw [eWn]; exact hC
          have hpn2 : wpn Wn = k + 1 := by rw [eWn]
          have hpf2 : ∀ q, q < k + 1 → wpf Wn q = zI (prc S q) := fun q hq => by
            rw [eWn]
            show upd (wpf Wk) k (zI (prc S k)) q = _
            unfold upd
            by_cases e : q = k
            · rw [if_pos e, e]
            · rw [if_neg e]; exact hpf q (by omega)
          have hOn := hOk2.trans (L3 := [A 5, A 9, A 10]) hO1 (fun _ h => h) (by intro q h; simp only [List.mem_cons, List.not_mem_nil, or_false] at h ⊢; omega)
          refine lv_iinc (v := zI (y + 1)) (lv' := [(1, .int (zI (y + 1))), (2, .null), (0, .ref (A 0))]) hx hb dX4_priceTunes_46 hl (k := 1) rfl (zI_add _ _) (by decide) rfl (fun ls hl => ?_)
          refine lv_goto (tgt := 9) hx hb dX4_priceTunes_49 (by decide) ?_
          exact ih_9 (y + 1) (k + 1) Wn H_43 _ (by omega) (by omega) (by omega) hC hpn2 hpf2 hOn hS ls (lv_sub hl [0, 2] rfl)
  exact loop_9 _ 0 0 (W9.1, 0, wpf W9, W9.2.2.2) H_4 _ (Nat.lt_succ_self _) rfl (Nat.zero_le _) hC rfl (fun q h => absurd h (Nat.not_lt_zero _)) hOk hS ls (lv_sub hl [0, 1] rfl)
set_option maxHeartbeats 4000000 in
set_option maxRecDepth 100000 in
theorem k_rankByPrice (l : Launch) (G : gG) (A : Nat → Nat) (TA : Nat → Nat → Nat) (S : cS) (W9 : cWk) (H : Heap) (hC : Cat G A TA S W9 H) (hI : sInv S) (hpn : wpn W9 = sn S) (hpf : ∀ q, q < sn S → wpf W9 q = zI (prc S q)) (z : Int) (i : Nat) (hz : z = i) (hi : i < sn S) : gM l yX4_rankByPrice wsX4_rankByPrice rm_X4_rankByPrice [.ref (A 0), .int (zI z)] G H (gi (fun r H1 => zI (rkF S i : Nat) = r ∧ H = H1)) (gNo) 0 0 := by
  obtain ⟨h0, h1, h2, h3, h4, h5, h6, hap⟩ := id hC
  have hn16 : sn S ≤ 16 := hI.1
  rw [hpn] at h4
  have hpi := prc_rng hI i
  refine g_start (cc := cX4_rankByPrice) (maxL := 7) (ret := (some .int)) (by decide +kernel) rfl (Nat.le_of_ble_eq_true rfl) ?_
  intro p e s m args below meth c F ls hl
  obtain ⟨hx, hb, hml, hr, hts, hown, hlocks, hxt, hH, hX, hin⟩ := F
  have hown : s.vm.findClass RX4 = some m.cls := hown
  have hS : va_S (gA G) s.heap H [] := by rw [hH]; exact va_S.rf
  have hl : lv_has ls 7 [(0, .ref (A 0)), (1, .int (zI z))] := hl
  refine lv_aload_n hx hb dX4_rankByPrice_0 rfl (lv_at hl 0 rfl) ?_
  refine g_get hx hb hX hts (fun w h => (List.mem_cons_of_mem _ (List.mem_append_left _ (List.mem_append_right _ h)))) hown h0 rfl 5 (by decide) (hts (.fieldLink RX4 41 "TuneCatalogue" "priceRow" "LTuneCatalogue$Row;") (List.mem_cons_of_mem _ (List.mem_append_left _ (List.mem_append_left _ (List.mem_of_getElem? (i := 0) rfl))))) rfl dX4_rankByPrice_1 ?_
  refine lv_iload_n hx hb dX4_rankByPrice_4 rfl (lv_at hl 1 rfl) ?_
  refine g_goi (vx_runV (As := [.int (zI z)]) (rest := []) ⟨hx, hb, hml, hown, hts⟩ (k_at l G (A 9) (A 10) 16 (sn S) _ H h4 z i (by omega) (by omega)) (cwV 1 hts gX4_rankByPrice_X2_at rfl rfl rfl hd_X2_at ⟨(Nat.le_of_ble_eq_true rfl), (Nat.le_of_ble_eq_true rfl)⟩) (g_preV hX hS (ci := 2) rfl h4.1) rfl rfl hl.1 rfl (lv_room (Nat.le_of_ble_eq_true rfl)) dX4_rankByPrice_5 ⟨(Nat.le_of_ble_eq_true rfl), (Nat.le_of_ble_eq_true rfl)⟩) hS (fun r_5 H_5 locs hp hS => ?_)
  obtain ⟨hv, rfl⟩ := hp
  rw [hpf i (by omega)] at hv
  subst hv
  refine lv_istore_n (lv' := [(2, .int (zI (prc S i))), (0, .ref (A 0)), (1, .int (zI z))]) hx hb dX4_rankByPrice_8 rfl hl (by decide) rfl (fun ls hl => ?_)
  refine lv_iconst (v := zI 0) hx hb dX4_rankByPrice_9 rfl ?_
  refine lv_istore_n (lv' := [(3, .int (zI 0)), (2, .int (zI (prc S i))), (0, .ref (A 0)), (1, .int (zI z))]) hx hb dX4_rankByPrice_10 rfl hl (by decide) rfl (fun ls hl => ?_)
  refine lv_iconst (v := zI 0) hx hb dX4_rankByPrice_11 rfl ?_
  refine lv_istore (lv' := [(4, .int (zI 0)), (3, .int (zI 0)), (2, .int (zI (prc S i))), (0, .ref (A 0)), (1, .int (zI z))]) hx hb dX4_rankByPrice_12 hl (by decide) rfl (fun ls hl => ?_)
  have loop_14 : ∀ (M_ : Nat) (y : Int) (k : Nat) (x : Int) (locs : List Loc), sn S - k < M_ → (y = k) → (k ≤ sn S) → (x = (ctB (rkB S i) k : Nat)) → va_S (gA G) s.heap H locs → ∀ (ls : Array Slot), lv_has ls 7 [(4, .int (zI y)), (3, .int (zI x)), (2, .int (zI (prc S i))), (0, .ref (A 0)), (1, .int (zI z))] → W p l e rm_X4_rankByPrice s m args below meth c H locs (0) (0) (vx_MQ below (gQ G (gi (fun r H1 => zI (rkF S i : Nat) = r ∧ H = H1))) (gXC G (gNo)) args s 0 0 (gA G)) (F0 m 14 ls []) := by
    intro M_
    induction M_ with
    | zero => intro y k x locs_0 h_0; exact absurd h_0 (Nat.not_lt_zero _)
    | succ M_ ih_14 =>
      intro y k x locs hM_14 hy hkn hx1 hS ls hl
      have hcb := ctB_le (rkB S i) k
      have hpk := prc_rng hI k
      refine lv_iload hx hb dX4_rankByPrice_14 (lv_at hl 0 rfl) ?_
      refine lv_aload_n hx hb dX4_rankByPrice_16 rfl (lv_at hl 3 rfl) ?_
      refine g_get hx hb hX hts (fun w h => (List.mem_cons_of_mem _ (List.mem_append_left _ (List.mem_append_right _ h)))) hown h0 rfl 5 (by decide) (hts (.fieldLink RX4 41 "TuneCatalogue" "priceRow" "LTuneCatalogue$Row;") (List.mem_cons_of_mem _ (List.mem_append_left _ (List.mem_append_left _ (List.mem_of_getElem? (i := 0) rfl))))) rfl dX4_rankByPrice_17 ?_
      refine g_goi (vx_runV (As := []) (rest := [.int (zI y)]) ⟨hx, hb, hml, hown, hts⟩ (k_size l G (A 9) (A 10) 16 (sn S) _ H h4) (cwV 0 hts gX4_rankByPrice_X2_size rfl rfl rfl hd_X2_size ⟨(Nat.le_of_ble_eq_true rfl), (Nat.le_of_ble_eq_true rfl)⟩) (g_preV hX hS (ci := 2) rfl h4.1) rfl rfl hl.1 rfl (lv_room (Nat.le_of_ble_eq_true rfl)) dX4_rankByPrice_20 ⟨(Nat.le_of_ble_eq_true rfl), (Nat.le_of_ble_eq_true rfl)⟩) hS (fun r_20 H_20 locs hp hS => ?_)
      obtain ⟨rfl, rfl⟩ := hp
      refine gz_icmp_ge (tgt := 82) hx hb ⟨by omega, by omega⟩ ⟨by omega, by omega⟩ dX4_rankByPrice_23 (by decide) (fun c_23 => ?_) (fun c_23 => ?_)
      · refine lv_iload_n hx hb dX4_rankByPrice_82 rfl (lv_at hl 1 rfl) ?_
        exact g_reti hx hb hr hlocks hS rfl (⟨by rw [hx1, show k = sn S by omega]; rfl, rfl⟩) (Nat.le_of_ble_eq_true rfl) (Nat.le_of_ble_eq_true rfl) dX4_rankByPrice_83
      · refine lv_aload_n hx hb dX4_rankByPrice_26 rfl (lv_at hl 3 rfl) ?_
        refine g_get hx hb hX hts (fun w h => (List.mem_cons_of_mem _ (List.mem_append_left _ (List.mem_append_right _ h)))) hown h0 rfl 5 (by decide) (hts (.fieldLink RX4 41 "TuneCatalogue" "priceRow" "LTuneCatalogue$Row;") (List.mem_cons_of_mem _ (List.mem_append_left _ (List.mem_append_left _ (List.mem_of_getElem? (i := 0) rfl))))) rfl dX4_rankByPrice_27 ?_
        refine lv_iload hx hb dX4_rankByPrice_30 (lv_at hl 0 rfl) ?_
        refine g_goi (vx_runV (As := [.int (zI y)]) (rest := []) ⟨hx, hb, hml, hown, hts⟩ (k_at l G (A 9) (A 10) 16 (sn S) _ H h4 y k (by omega) (by omega)) (cwV 1 hts gX4_rankByPrice_X2_at rfl rfl rfl hd_X2_at ⟨(Nat.le_of_ble_eq_true rfl), (Nat.le_of_ble_eq_true rfl)⟩) (g_preV hX hS (ci := 2) rfl h4.1) rfl rfl hl.1 rfl (lv_room (Nat.le_of_ble_eq_true rfl)) dX4_rankByPrice_32 ⟨(Nat.le_of_ble_eq_true rfl), (Nat.le_of_ble_eq_true rfl)⟩) hS (fun r_32 H_32 locs hp hS => ?_)
        obtain ⟨hv, rfl⟩ := hp
        rw [hpf k (by omega)] at hv
        subst hv
        refine lv_istore (lv' := [(5, .int (zI (prc S k))), (4, .int (zI y)), (3, .int (zI x)), (2, .int (zI (prc S i))), (0, .ref (A 0)), (1, .int (zI z))]) hx hb dX4_rankByPrice_35 hl (by decide) rfl (fun ls hl => ?_)
        refine lv_iload hx hb dX4_rankByPrice_37 (lv_at hl 0 rfl) ?_
        refine lv_iload_n hx hb dX4_rankByPrice_39 rfl (lv_at hl 3 rfl) ?_
        refine gz_icmp_lt (tgt := 55) hx hb ⟨by omega, by omega⟩ ⟨by omega, by omega⟩ dX4_rankByPrice_40 (by decide) (fun c_40 => ?_) (fun c_40 => ?_)
        · refine lv_iconst (v := zI 1) hx hb dX4_rankByPrice_55 rfl ?_
          refine lv_goto (tgt := 60) hx hb dX4_rankByPrice_56 (by decide) ?_
          refine lv_istore (lv' := [(6, .int (zI 1)), (5, .int (zI (prc S k))), (4, .int (zI y)), (3, .int (zI x)), (2, .int (zI (prc S i))), (0, .ref (A 0)), (1, .int (zI z))]) hx hb dX4_rankByPrice_60 hl (by decide) rfl (fun ls hl => ?_)
          refine lv_iload hx hb dX4_rankByPrice_62 (lv_at hl 1 rfl) ?_
          refine lv_iconst (v := zI (-1)) hx hb dX4_rankByPrice_64 rfl ?_
          refine gz_icmp_eq (tgt := 76) hx hb ⟨by omega, by omega⟩ (by decide) dX4_rankByPrice_65 (by decide) (fun c_65 => ?_) (fun c_65 => ?_)
          · have hx2 : x = (ctB (rkB S i) (k + 1) : Nat) := by
              rw [ctB, rkB]
              first
              | (rw [decide_eq_true (by omega), if_pos rfl]; omega)
              | (rw [decide_eq_false (by omega), if_neg (by decide)]; omega)
            refine lv_iinc (v := zI (y + 1)) (lv' := [(4, .int (zI (y + 1))), (6, .int (zI 1)), (5, .int (zI (prc S k))), (3, .int (zI x)), (2, .int (zI (prc S i))), (0, .ref (A 0)), (1, .int (zI z))]) hx hb dX4_rankByPrice_76 hl (k := 2) rfl (zI_add _ _) (by decide) rfl (fun ls hl => ?_)
            refine lv_goto (tgt := 14) hx hb dX4_rankByPrice_79 (by decide) ?_
            exact ih_14 (y + 1) (k + 1) x _ (by omega) (by omega) (by omega) hx2 hS ls (lv_sub hl [0, 3, 4, 5, 6] rfl)
          · refine lv_iload hx hb dX4_rankByPrice_68 (lv_at hl 0 rfl) ?_
            refine gz_if_eq (tgt := 76) hx hb (by decide) dX4_rankByPrice_70 (by decide) (fun c_70 => ?_) (fun c_70 => ?_)
            · omega
            · refine lv_iinc (v := zI (x + 1)) (lv' := [(3, .int (zI (x + 1))), (6, .int (zI 1)), (5, .int (zI (prc S k))), (4, .int (zI y)), (2, .int (zI (prc S i))), (0, .ref (A 0)), (1, .int (zI z))]) hx hb dX4_rankByPrice_73 hl (k := 3) rfl (zI_add _ _) (by decide) rfl (fun ls hl => ?_)
              have hx2 : x + 1 = (ctB (rkB S i) (k + 1) : Nat) := by
                rw [ctB, rkB]
                first
                | (rw [decide_eq_true (by omega), if_pos rfl]; omega)
                | (rw [decide_eq_false (by omega), if_neg (by decide)]; omega)
              refine lv_iinc (v := zI (y + 1)) (lv' := [(4, .int (zI (y + 1))), (3, .int (zI (x + 1))), (6, .int (zI 1)), (5, .int (zI (prc S k))), (2, .int (zI (prc S i))), (0, .ref (A 0)), (1, .int (zI z))]) hx hb dX4_rankByPrice_76 hl (k := 3) rfl (zI_add _ _) (by decide) rfl (fun ls hl => ?_)
              refine lv_goto (tgt := 14) hx hb dX4_rankByPrice_79 (by decide) ?_
              exact ih_14 (y + 1) (k + 1) (x + 1) _ (by omega) (by omega) (by omega) hx2 hS ls (lv_sub hl [0, 1, 4, 5, 6] rfl)
        · refine lv_iload hx hb dX4_rankByPrice_43 (lv_at hl 0 rfl) ?_
          refine lv_iload_n hx hb dX4_rankByPrice_45 rfl (lv_at hl 3 rfl) ?_
          refine gz_icmp_ne (tgt := 59) hx hb ⟨by omega, by omega⟩ ⟨by omega, by omega⟩ dX4_rankByPrice_46 (by decide) (fun c_46 => ?_) (fun c_46 => ?_)
          · refine lv_iconst (v := zI 0) hx hb dX4_rankByPrice_59 rfl ?_
            refine lv_istore (lv' := [(6, .int (zI 0)), (5, .int (zI (prc S k))), (4, .int (zI y)), (3, .int (zI x)), (2, .int (zI (prc S i))), (0, .ref (A 0)), (1, .int (zI z))]) hx hb dX4_rankByPrice_60 hl (by decide) rfl (fun ls hl => ?_)
            refine lv_iload hx hb dX4_rankByPrice_62 (lv_at hl 1 rfl) ?_
            refine lv_iconst (v := zI (-1)) hx hb dX4_rankByPrice_64 rfl ?_
            refine gz_icmp_eq (tgt := 76) hx hb ⟨by omega, by omega⟩ (by decide) dX4_rankByPrice_65 (by decide) (fun c_65 => ?_) (fun c_65 => ?_)
            · have hx2 : x = (ctB (rkB S i) (k + 1) : Nat) := by
                rw [ctB, rkB]
                first
                | (rw [decide_eq_true (by omega), if_pos rfl]; omega)
                | (rw [decide_eq_false (by omega), if_neg (by decide)]; omega)
              refine lv_iinc (v := zI (y + 1)) (lv' := [(4, .int (zI (y + 1))), (6, .int (zI 0)), (5, .int (zI (prc S k))), (3, .int (zI x)), (2, .int (zI (prc S i))), (0, .ref (A 0)), (1, .int (zI z))]) hx hb dX4_rankByPrice_76 hl (k := 2) rfl (zI_add _ _) (by decide) rfl (fun ls hl => ?_)
              refine lv_goto (tgt := 14) hx hb dX4_rankByPrice_79 (by decide) ?_
              exact ih_14 (y + 1) (k + 1) x _ (by omega) (by omega) (by omega) hx2 hS ls (lv_sub hl [0, 3, 4, 5, 6] rfl)
            · refine lv_iload hx hb dX4_rankByPrice_68 (lv_at hl 0 rfl) ?_
              refine gz_if_eq (tgt := 76) hx hb (by decide) dX4_rankByPrice_70 (by decide) (fun c_70 => ?_) (fun c_70 => ?_)
              · have hx2 : x = (ctB (rkB S i) (k + 1) : Nat) := by
                  rw [ctB, rkB]
                  first
                  | (rw [decide_eq_true (by omega), if_pos rfl]; omega)
                  | (rw [decide_eq_false (by omega), if_neg (by decide)]; omega)
                refine lv_iinc (v := zI (y + 1)) (lv' := [(4, .int (zI (y + 1))), (6, .int (zI 0)), (5, .int (zI (prc S k))), (3, .int (zI x)), (2, .int (zI (prc S i))), (0, .ref (A 0)), (1, .int (zI z))]) hx hb dX4_rankByPrice_76 hl (k := 2) rfl (zI_add _ _) (by decide) rfl (fun ls hl => ?_)
                refine lv_goto (tgt := 14) hx hb dX4_rankByPrice_79 (by decide) ?_
                exact ih_14 (y + 1) (k + 1) x _ (by omega) (by omega) (by omega) hx2 hS ls (lv_sub hl [0, 3, 4, 5, 6] rfl)
              · omega
          · refine lv_iload hx hb dX4_rankByPrice_49 (lv_at hl 1 rfl) ?_
            refine lv_iload_n hx hb dX4_rankByPrice_51 rfl (lv_at hl 5 rfl) ?_
            refine gz_icmp_ge (tgt := 59) hx hb ⟨by omega, by omega⟩ ⟨by omega, by omega⟩ dX4_rankByPrice_52 (by decide) (fun c_52 => ?_) (fun c_52 => ?_)
            · refine lv_iconst (v := zI 0) hx hb dX4_rankByPrice_59 rfl ?_
              refine lv_istore (lv' := [(6, .int (zI 0)), (5, .int (zI (prc S k))), (4, .int (zI y)), (3, .int (zI x)), (2, .int (zI (prc S i))), (0, .ref (A 0)), (1, .int (zI z))]) hx hb dX4_rankByPrice_60 hl (by decide) rfl (fun ls hl => ?_)
              refine lv_iload hx hb dX4_rankByPrice_62 (lv_at hl 1 rfl) ?_
              refine lv_iconst (v := zI (-1)) hx hb dX4_rankByPrice_64 rfl ?_
              refine gz_icmp_eq (tgt := 76) hx hb ⟨by omega, by omega⟩ (by decide) dX4_rankByPrice_65 (by decide) (fun c_65 => ?_) (fun c_65 => ?_)
              · have hx2 : x = (ctB (rkB S i) (k + 1) : Nat) := by
                  rw [ctB, rkB]
                  first
                  | (rw [decide_eq_true (by omega), if_pos rfl]; omega)
                  | (rw [decide_eq_false (by omega), if_neg (by decide)]; omega)
                refine lv_iinc (v := zI (y + 1)) (lv' := [(4, .int (zI (y + 1))), (6, .int (zI 0)), (5, .int (zI (prc S k))), (3, .int (zI x)), (2, .int (zI (prc S i))), (0, .ref (A 0)), (1, .int (zI z))]) hx hb dX4_rankByPrice_76 hl (k := 2) rfl (zI_add _ _) (by decide) rfl (fun ls hl => ?_)
                refine lv_goto (tgt := 14) hx hb dX4_rankByPrice_79 (by decide) ?_
                exact ih_14 (y + 1) (k + 1) x _ (by omega) (by omega) (by omega) hx2 hS ls (lv_sub hl [0, 3, 4, 5, 6] rfl)
              · refine lv_iload hx hb dX4_rankByPrice_68 (lv_at hl 0 rfl) ?_
                refine gz_if_eq (tgt := 76) hx hb (by decide) dX4_rankByPrice_70 (by decide) (fun c_70 => ?_) (fun c_70 => ?_)
                · have hx2 : x = (ctB (rkB S i) (k + 1) : Nat) := by
                    rw [ctB, rkB]
                    first
                    | (rw [decide_eq_true (by omega), if_pos rfl]; omega)
                    | (rw [decide_eq_false (by omega), if_neg (by decide)]; omega)
                  refine lv_iinc (v := zI (y + 1)) (lv' := [(4, .int (zI (y + 1))), (6, .int (zI 0)), (5, .int (zI (prc S k))), (3, .int (zI x)), (2, .int (zI (prc S i))), (0, .ref (A 0)), (1, .int (zI z))]) hx hb dX4_rankByPrice_76 hl (k := 2) rfl (zI_add _ _) (by decide) rfl (fun ls hl => ?_)
                  refine lv_goto (tgt := 14) hx hb dX4_rankByPrice_79 (by decide) ?_
                  exact ih_14 (y + 1) (k + 1) x _ (by omega) (by omega) (by omega) hx2 hS ls (lv_sub hl [0, 3, 4, 5, 6] rfl)
                · omega
            · refine lv_iconst (v := zI 1) hx hb dX4_rankByPrice_55 rfl ?_
              refine lv_goto (tgt := 60) hx hb dX4_rankByPrice_56 (by decide) ?_
              refine lv_istore (lv' := [(6, .int (zI 1)), (5, .int (zI (prc S k))), (4, .int (zI y)), (3, .int (zI x)), (2, .int (zI (prc S i))), (0, .ref (A 0)), (1, .int (zI z))]) hx hb dX4_rankByPrice_60 hl (by decide) rfl (fun ls hl => ?_)
              refine lv_iload hx hb dX4_rankByPrice_62 (lv_at hl 1 rfl) ?_
              refine lv_iconst (v := zI (-1)) hx hb dX4_rankByPrice_64 rfl ?_
              refine gz_icmp_eq (tgt := 76) hx hb ⟨by omega, by omega⟩ (by decide) dX4_rankByPrice_65 (by decide) (fun c_65 => ?_) (fun c_65 => ?_)
              · have hx2 : x = (ctB (rkB S i) (k + 1) : Nat) := by
                  rw [ctB, rkB]
                  first
                  | (rw [decide_eq_true (by omega), if_pos rfl]; omega)
                  | (rw [decide_eq_false (by omega), if_neg (by decide)]; omega)
                refine lv_iinc (v := zI (y + 1)) (lv' := [(4, .int (zI (y + 1))), (6, .int (zI 1)), (5, .int (zI (prc S k))), (3, .int (zI x)), (2, .int (zI (prc S i))), (0, .ref (A 0)), (1, .int (zI z))]) hx hb dX4_rankByPrice_76 hl (k := 2) rfl (zI_add _ _) (by decide) rfl (fun ls hl => ?_)
                refine lv_goto (tgt := 14) hx hb dX4_rankByPrice_79 (by decide) ?_
                exact ih_14 (y + 1) (k + 1) x _ (by omega) (by omega) (by omega) hx2 hS ls (lv_sub hl [0, 3, 4, 5, 6] rfl)
              · refine lv_iload hx hb dX4_rankByPrice_68 (lv_at hl 0 rfl) ?_
                refine gz_if_eq (tgt := 76) hx hb (by decide) dX4_rankByPrice_70 (by decide) (fun c_70 => ?_) (fun c_70 => ?_)
                · omega
                · refine lv_iinc (v := zI (x + 1)) (lv' := [(3, .int (zI (x + 1))), (6, .int (zI 1)), (5, .int (zI (prc S k))), (4, .int (zI y)), (2, .int (zI (prc S i))), (0, .ref (A 0)), (1, .int (zI z))]) hx hb dX4_rankByPrice_73 hl (k := 3) rfl (zI_add _ _) (by decide) rfl (fun ls hl => ?_)
                  have hx2 : x + 1 = (ctB (rkB S i) (k + 1) : Nat) := by
                    rw [ctB, rkB]
                    first
                    | (rw [decide_eq_true (by omega), if_pos rfl]; omega)
                    | (rw [decide_eq_false (by omega), if_neg (by decide)]; omega)
                  refine lv_iinc (v := zI (y + 1)) (lv' := [(4, .int (zI (y + 1))), (3, .int (zI (x + 1))), (6, .int (zI 1)), (5, .int (zI (prc S k))), (2, .int (zI (prc S i))), (0, .ref (A 0)), (1, .int (zI z))]) hx hb dX4_rankByPrice_76 hl (k := 3) rfl (zI_add _ _) (by decide) rfl (fun ls hl => ?_)
                  refine lv_goto (tgt := 14) hx hb dX4_rankByPrice_79 (by decide) ?_
                  exact ih_14 (y + 1) (k + 1) (x + 1) _ (by omega) (by omega) (by omega) hx2 hS ls (lv_sub hl [0, 1, 4, 5, 6] rfl)
  exact loop_14 _ 0 0 0 _ (Nat.lt_succ_self _) rfl (Nat.zero_le _) rfl hS ls (lv_sub hl [0, 1, 2, 3, 4] rfl)
set_option maxHeartbeats 4000000 in
set_option maxRecDepth 100000 in
theorem x_matches (l : Launch) (G : gG) (A : Nat → Nat) (TA : Nat → Nat → Nat) (S : cS) (W9 : cWk) (H : Heap) (hC : Cat G A TA S W9 H) (hI : sInv S)  : gM l yX4_matches wsX4_matches rm_X4_matches [.ref (A 0)] G H (gi (fun r H1 => zI (manyF S : Nat) = r ∧ XP G A TA S S H H1)) (gNo) 0 0 := by
  obtain ⟨h0, h1, h2, h3, h4, h5, h6, hap⟩ := id hC
  have hn16 : sn S ≤ 16 := hI.1
  refine g_start (cc := cX4_matches) (maxL := 3) (ret := (some .int)) (by decide +kernel) rfl (Nat.le_of_ble_eq_true rfl) ?_
  intro p e s m args below meth c F ls hl
  obtain ⟨hx, hb, hml, hr, hts, hown, hlocks, hxt, hH, hX, hin⟩ := F
  have hown : s.vm.findClass RX4 = some m.cls := hown
  have hS : va_S (gA G) s.heap H [] := by rw [hH]; exact va_S.rf
  have hl : lv_has ls 3 [(0, .ref (A 0))] := hl
  refine lv_aload_n hx hb dX4_matches_0 rfl (lv_at hl 0 rfl) ?_
  refine g_gov (vx_runV (As := []) (rest := []) ⟨hx, hb, hml, hown, hts⟩ (k_priceTunes l G A TA S W9 H hC hI) (cwV 0 hts gX4_matches_X4_priceTunes rfl rfl rfl hd_X4_priceTunes ⟨(Nat.le_of_ble_eq_true rfl), (Nat.le_of_ble_eq_true rfl)⟩) (g_preV hX hS (ci := 4) rfl h0) rfl rfl hl.1 rfl (lv_room (Nat.le_of_ble_eq_true rfl)) dX4_matches_1 ⟨(Nat.le_of_ble_eq_true rfl), (Nat.le_of_ble_eq_true rfl)⟩) hS (fun H_1 locs hp hS => ?_)
  have hPr := hp
  obtain ⟨⟨W2, hC2, hpn2, hpf2⟩, hOp⟩ := hp
  obtain ⟨h0, h1, h2, h3, h4, h5, h6, hap⟩ := id hC2
  rw [hpn2] at h4
  refine lv_iconst (v := zI 0) hx hb dX4_matches_4 rfl ?_
  refine lv_istore_n (lv' := [(1, .int (zI 0)), (0, .ref (A 0))]) hx hb dX4_matches_5 rfl hl (by decide) rfl (fun ls hl => ?_)
  refine lv_iconst (v := zI 0) hx hb dX4_matches_6 rfl ?_
  refine lv_istore_n (lv' := [(2, .int (zI 0)), (1, .int (zI 0)), (0, .ref (A 0))]) hx hb dX4_matches_7 rfl hl (by decide) rfl (fun ls hl => ?_)
  have loop_8 : ∀ (M_ : Nat) (y : Int) (k : Nat) (x : Int) (locs : List Loc), sn S - k < M_ → (y = k) → (k ≤ sn S) → (x = (ctB (fun k => decide (prc S k ≠ -1)) k : Nat)) → va_S (gA G) s.heap H_1 locs → ∀ (ls : Array Slot), lv_has ls 3 [(2, .int (zI y)), (1, .int (zI x)), (0, .ref (A 0))] → W p l e rm_X4_matches s m args below meth c H_1 locs (0) (0) (vx_MQ below (gQ G (gi (fun r H1 => zI (manyF S : Nat) = r ∧ XP G A TA S S H H1))) (gXC G (gNo)) args s 0 0 (gA G)) (F0 m 8 ls []) := by
    intro M_
    induction M_ with
    | zero => intro y k x locs_0 h_0; exact absurd h_0 (Nat.not_lt_zero _)
    | succ M_ ih_8 =>
      intro y k x locs hM_8 hy hkn hx1 hS ls hl
      have hcb := ctB_le (fun k => decide (prc S k ≠ -1)) k
      have hpk := prc_rng hI k
      refine lv_iload_n hx hb dX4_matches_8 rfl (lv_at hl 0 rfl) ?_
      refine lv_aload_n hx hb dX4_matches_9 rfl (lv_at hl 2 rfl) ?_
      refine g_get hx hb hX hts (fun w h => (List.mem_cons_of_mem _ (List.mem_append_left _ (List.mem_append_left _ (List.mem_append_left _ (List.mem_append_right _ h)))))) hown h0 rfl 5 (by decide) (hts (.fieldLink RX4 41 "TuneCatalogue" "priceRow" "LTuneCatalogue$Row;") (List.mem_cons_of_mem _ (List.mem_append_left _ (List.mem_append_left _ (List.mem_append_left _ (List.mem_append_left _ (List.mem_append_left _ (List.mem_of_getElem? (i := 0) rfl)))))))) rfl dX4_matches_10 ?_
      refine g_goi (vx_runV (As := []) (rest := [.int (zI y)]) ⟨hx, hb, hml, hown, hts⟩ (k_size l G (A 9) (A 10) 16 (sn S) _ H_1 h4) (cwV 0 hts gX4_matches_X2_size rfl rfl rfl hd_X2_size ⟨(Nat.le_of_ble_eq_true rfl), (Nat.le_of_ble_eq_true rfl)⟩) (g_preV hX hS (ci := 2) rfl h4.1) rfl rfl hl.1 rfl (lv_room (Nat.le_of_ble_eq_true rfl)) dX4_matches_13 ⟨(Nat.le_of_ble_eq_true rfl), (Nat.le_of_ble_eq_true rfl)⟩) hS (fun r_13 H_13 locs hp hS => ?_)
      obtain ⟨rfl, rfl⟩ := hp
      refine gz_icmp_ge (tgt := 40) hx hb ⟨by omega, by omega⟩ ⟨by omega, by omega⟩ dX4_matches_16 (by decide) (fun c_16 => ?_) (fun c_16 => ?_)
      · refine lv_iload_n hx hb dX4_matches_40 rfl (lv_at hl 1 rfl) ?_
        exact g_reti hx hb hr hlocks hS rfl (⟨by rw [hx1, show k = sn S by omega]; rfl, hPr.xp⟩) (Nat.le_of_ble_eq_true rfl) (Nat.le_of_ble_eq_true rfl) dX4_matches_41
      · refine lv_aload_n hx hb dX4_matches_19 rfl (lv_at hl 2 rfl) ?_
        refine g_get hx hb hX hts (fun w h => (List.mem_cons_of_mem _ (List.mem_append_left _ (List.mem_append_left _ (List.mem_append_left _ (List.mem_append_right _ h)))))) hown h0 rfl 5 (by decide) (hts (.fieldLink RX4 41 "TuneCatalogue" "priceRow" "LTuneCatalogue$Row;") (List.mem_cons_of_mem _ (List.mem_append_left _ (List.mem_append_left _ (List.mem_append_left _ (List.mem_append_left _ (List.mem_append_left _ (List.mem_of_getElem? (i := 0) rfl)))))))) rfl dX4_matches_20 ?_
        refine lv_iload_n hx hb dX4_matches_23 rfl (lv_at hl 0 rfl) ?_
        refine g_goi (vx_runV (As := [.int (zI y)]) (rest := []) ⟨hx, hb, hml, hown, hts⟩ (k_at l G (A 9) (A 10) 16 (sn S) _ H_1 h4 y k (by omega) (by omega)) (cwV 1 hts gX4_matches_X2_at rfl rfl rfl hd_X2_at ⟨(Nat.le_of_ble_eq_true rfl), (Nat.le_of_ble_eq_true rfl)⟩) (g_preV hX hS (ci := 2) rfl h4.1) rfl rfl hl.1 rfl (lv_room (Nat.le_of_ble_eq_true rfl)) dX4_matches_24 ⟨(Nat.le_of_ble_eq_true rfl), (Nat.le_of_ble_eq_true rfl)⟩) hS (fun r_24 H_24 locs hp hS => ?_)
        obtain ⟨hv, rfl⟩ := hp
        rw [hpf2 k (by omega)] at hv
        subst hv
        refine lv_iconst (v := zI (-1)) hx hb dX4_matches_27 rfl ?_
        refine gz_icmp_eq (tgt := 34) hx hb ⟨by omega, by omega⟩ (by decide) dX4_matches_28 (by decide) (fun c_28 => ?_) (fun c_28 => ?_)
        · have hx2 : x = (ctB (fun k => decide (prc S k ≠ -1)) (k + 1) : Nat) := by
            rw [ctB]
            first
            | (rw [decide_eq_true (by omega), if_pos rfl]; omega)
            | (rw [decide_eq_false (by omega), if_neg (by decide)]; omega)
          refine lv_iinc (v := zI (y + 1)) (lv' := [(2, .int (zI (y + 1))), (1, .int (zI x)), (0, .ref (A 0))]) hx hb dX4_matches_34 hl (k := 0) rfl (zI_add _ _) (by decide) rfl (fun ls hl => ?_)
          refine lv_goto (tgt := 8) hx hb dX4_matches_37 (by decide) ?_
          exact ih_8 (y + 1) (k + 1) x _ (by omega) (by omega) (by omega) hx2 hS ls (lv_sub hl [0, 1, 2] rfl)
        · refine lv_iinc (v := zI (x + 1)) (lv' := [(1, .int (zI (x + 1))), (2, .int (zI y)), (0, .ref (A 0))]) hx hb dX4_matches_31 hl (k := 1) rfl (zI_add _ _) (by decide) rfl (fun ls hl => ?_)
          have hx2 : x + 1 = (ctB (fun k => decide (prc S k ≠ -1)) (k + 1) : Nat) := by
            rw [ctB]
            first
            | (rw [decide_eq_true (by omega), if_pos rfl]; omega)
            | (rw [decide_eq_false (by omega), if_neg (by decide)]; omega)
          refine lv_iinc (v := zI (y + 1)) (lv' := [(2, .int (zI (y + 1))), (1, .int (zI (x + 1))), (0, .ref (A 0))]) hx hb dX4_matches_34 hl (k := 1) rfl (zI_add _ _) (by decide) rfl (fun ls hl => ?_)
          refine lv_goto (tgt := 8) hx hb dX4_matches_37 (by decide) ?_
          exact ih_8 (y + 1) (k + 1) (x + 1) _ (by omega) (by omega) (by omega) hx2 hS ls (lv_sub hl [0, 1, 2] rfl)
  exact loop_8 _ 0 0 0 _ (Nat.lt_succ_self _) rfl (Nat.zero_le _) rfl hS ls (lv_sub hl [0, 1, 2] rfl)
set_option maxHeartbeats 4000000 in
set_option maxRecDepth 100000 in
theorem x_found_ok (l : Launch) (G : gG) (A : Nat → Nat) (TA : Nat → Nat → Nat) (S : cS) (W9 : cWk) (H : Heap) (hC : Cat G A TA S W9 H) (hI : sInv S) (z : Int) (hz : rI z) (k0 : Nat) (hfd0 : fdF S z 0 (sn S) = some k0) : gM l yX4_found wsX4_found rm_X4_found [.ref (A 0), .int (zI z)] G H (gi (fun r H1 => zI (k0 : Int) = r ∧ XP G A TA S S H H1)) (gNo) 6 60 := by
  obtain ⟨h0, h1, h2, h3, h4, h5, h6, hap⟩ := id hC
  have hn16 : sn S ≤ 16 := hI.1
  refine g_start (cc := cX4_found) (maxL := 3) (ret := (some .int)) (by decide +kernel) rfl (Nat.le_of_ble_eq_true rfl) ?_
  intro p e s m args below meth c F ls hl
  obtain ⟨hx, hb, hml, hr, hts, hown, hlocks, hxt, hH, hX, hin⟩ := F
  have hown : s.vm.findClass RX4 = some m.cls := hown
  have hS : va_S (gA G) s.heap H [] := by rw [hH]; exact va_S.rf
  have hl : lv_has ls 3 [(0, .ref (A 0)), (1, .int (zI z))] := hl
  refine lv_aload_n hx hb dX4_found_0 rfl (lv_at hl 0 rfl) ?_
  refine g_gov (vx_runV (As := []) (rest := []) ⟨hx, hb, hml, hown, hts⟩ (k_priceTunes l G A TA S W9 H hC hI) (cwV 0 hts gX4_found_X4_priceTunes rfl rfl rfl hd_X4_priceTunes ⟨(Nat.le_of_ble_eq_true rfl), (Nat.le_of_ble_eq_true rfl)⟩) (g_preV hX hS (ci := 4) rfl h0) rfl rfl hl.1 rfl (lv_room (Nat.le_of_ble_eq_true rfl)) dX4_found_1 ⟨(Nat.le_of_ble_eq_true rfl), (Nat.le_of_ble_eq_true rfl)⟩) hS (fun H_1 locs hp hS => ?_)
  have hPr := hp
  obtain ⟨⟨W2, hC2, hpn2, hpf2⟩, hOp⟩ := hp
  obtain ⟨h0, h1, h2, h3, h4, h5, h6, hap⟩ := id hC2
  rw [hpn2] at h4
  refine lv_iconst (v := zI 0) hx hb dX4_found_4 rfl ?_
  refine lv_istore_n (lv' := [(2, .int (zI 0)), (0, .ref (A 0)), (1, .int (zI z))]) hx hb dX4_found_5 rfl hl (by decide) rfl (fun ls hl => ?_)
  have loop_6 : ∀ (M_ : Nat) (y : Int) (k : Nat) (locs : List Loc), sn S - k < M_ → (y = k) → (k ≤ sn S) → (fdF S z k (sn S - k) = some k0) → va_S (gA G) s.heap H_1 locs → ∀ (ls : Array Slot), lv_has ls 3 [(2, .int (zI y)), (0, .ref (A 0)), (1, .int (zI z))] → W p l e rm_X4_found s m args below meth c H_1 locs (0) (0) (vx_MQ below (gQ G (gi (fun r H1 => zI (k0 : Int) = r ∧ XP G A TA S S H H1))) (gXC G (gNo)) args s 6 60 (gA G)) (F0 m 6 ls []) := by
    intro M_
    induction M_ with
    | zero => intro y k locs_0 h_0; exact absurd h_0 (Nat.not_lt_zero _)
    | succ M_ ih_6 =>
      intro y k locs hM_6 hy hkn hfd hS ls hl
      have hpk := prc_rng hI k
      have hrk : rkF S k ≤ sn S := ctB_le _ _
      refine lv_iload_n hx hb dX4_found_6 rfl (lv_at hl 0 rfl) ?_
      refine lv_aload_n hx hb dX4_found_7 rfl (lv_at hl 1 rfl) ?_
      refine g_get hx hb hX hts (fun w h => (List.mem_cons_of_mem _ (List.mem_append_left _ (List.mem_append_left _ (List.mem_append_left _ (List.mem_append_left _ (List.mem_append_right _ h))))))) hown h0 rfl 5 (by decide) (hts (.fieldLink RX4 41 "TuneCatalogue" "priceRow" "LTuneCatalogue$Row;") (List.mem_cons_of_mem _ (List.mem_append_left _ (List.mem_append_left _ (List.mem_append_left _ (List.mem_append_left _ (List.mem_append_left _ (List.mem_append_left _ (List.mem_of_getElem? (i := 2) rfl))))))))) rfl dX4_found_8 ?_
      refine g_goi (vx_runV (As := []) (rest := [.int (zI y)]) ⟨hx, hb, hml, hown, hts⟩ (k_size l G (A 9) (A 10) 16 (sn S) _ H_1 h4) (cwV 0 hts gX4_found_X2_size rfl rfl rfl hd_X2_size ⟨(Nat.le_of_ble_eq_true rfl), (Nat.le_of_ble_eq_true rfl)⟩) (g_preV hX hS (ci := 2) rfl h4.1) rfl rfl hl.1 rfl (lv_room (Nat.le_of_ble_eq_true rfl)) dX4_found_11 ⟨(Nat.le_of_ble_eq_true rfl), (Nat.le_of_ble_eq_true rfl)⟩) hS (fun r_11 H_11 locs hp hS => ?_)
      obtain ⟨rfl, rfl⟩ := hp
      refine gz_icmp_ge (tgt := 46) hx hb ⟨by omega, by omega⟩ ⟨by omega, by omega⟩ dX4_found_14 (by decide) (fun c_14 => ?_) (fun c_14 => ?_)
      · rw [show sn S - k = 0 by omega, fdF] at hfd; cases hfd
      · refine lv_aload_n hx hb dX4_found_17 rfl (lv_at hl 1 rfl) ?_
        refine g_get hx hb hX hts (fun w h => (List.mem_cons_of_mem _ (List.mem_append_left _ (List.mem_append_left _ (List.mem_append_left _ (List.mem_append_left _ (List.mem_append_right _ h))))))) hown h0 rfl 5 (by decide) (hts (.fieldLink RX4 41 "TuneCatalogue" "priceRow" "LTuneCatalogue$Row;") (List.mem_cons_of_mem _ (List.mem_append_left _ (List.mem_append_left _ (List.mem_append_left _ (List.mem_append_left _ (List.mem_append_left _ (List.mem_append_left _ (List.mem_of_getElem? (i := 2) rfl))))))))) rfl dX4_found_18 ?_
        refine lv_iload_n hx hb dX4_found_21 rfl (lv_at hl 0 rfl) ?_
        refine g_goi (vx_runV (As := [.int (zI y)]) (rest := []) ⟨hx, hb, hml, hown, hts⟩ (k_at l G (A 9) (A 10) 16 (sn S) _ H_1 h4 y k (by omega) (by omega)) (cwV 1 hts gX4_found_X2_at rfl rfl rfl hd_X2_at ⟨(Nat.le_of_ble_eq_true rfl), (Nat.le_of_ble_eq_true rfl)⟩) (g_preV hX hS (ci := 2) rfl h4.1) rfl rfl hl.1 rfl (lv_room (Nat.le_of_ble_eq_true rfl)) dX4_found_22 ⟨(Nat.le_of_ble_eq_true rfl), (Nat.le_of_ble_eq_true rfl)⟩) hS (fun r_22 H_22 locs hp hS => ?_)
        obtain ⟨hv, rfl⟩ := hp
        rw [hpf2 k (by omega)] at hv
        subst hv
        refine lv_iconst (v := zI (-1)) hx hb dX4_found_25 rfl ?_
        refine gz_icmp_eq (tgt := 40) hx hb ⟨by omega, by omega⟩ (by decide) dX4_found_26 (by decide) (fun c_26 => ?_) (fun c_26 => ?_)
        · refine lv_iinc (v := zI (y + 1)) (lv' := [(2, .int (zI (y + 1))), (0, .ref (A 0)), (1, .int (zI z))]) hx hb dX4_found_40 hl (k := 0) rfl (zI_add _ _) (by decide) rfl (fun ls hl => ?_)
          refine lv_goto (tgt := 6) hx hb dX4_found_43 (by decide) ?_
          exact ih_6 (y + 1) (k + 1) _ (by omega) (by omega) (by omega) (by rw [show sn S - k = (sn S - (k + 1)) + 1 by omega, fdF, if_neg (by omega)] at hfd; exact hfd) hS ls (lv_sub hl [0, 1, 2] rfl)
        · refine lv_aload_n hx hb dX4_found_29 rfl (lv_at hl 1 rfl) ?_
          refine lv_iload_n hx hb dX4_found_30 rfl (lv_at hl 0 rfl) ?_
          refine g_goi (vx_runV (As := [.int (zI y)]) (rest := []) ⟨hx, hb, hml, hown, hts⟩ (k_rankByPrice l G A TA S W2 H_1 hC2 hI hpn2 hpf2 y k (by omega) (by omega)) (cwV 1 hts gX4_found_X4_rankByPrice rfl rfl rfl hd_X4_rankByPrice ⟨(Nat.le_of_ble_eq_true rfl), (Nat.le_of_ble_eq_true rfl)⟩) (g_preV hX hS (ci := 4) rfl h0) rfl rfl hl.1 rfl (lv_room (Nat.le_of_ble_eq_true rfl)) dX4_found_31 ⟨(Nat.le_of_ble_eq_true rfl), (Nat.le_of_ble_eq_true rfl)⟩) hS (fun r_31 H_31 locs hp hS => ?_)
          obtain ⟨rfl, rfl⟩ := hp
          refine lv_iload_n hx hb dX4_found_34 rfl (lv_at hl 2 rfl) ?_
          refine gz_icmp_ne (tgt := 40) hx hb ⟨by omega, by omega⟩ ⟨by omega, by omega⟩ dX4_found_35 (by decide) (fun c_35 => ?_) (fun c_35 => ?_)
          · refine lv_iinc (v := zI (y + 1)) (lv' := [(2, .int (zI (y + 1))), (0, .ref (A 0)), (1, .int (zI z))]) hx hb dX4_found_40 hl (k := 0) rfl (zI_add _ _) (by decide) rfl (fun ls hl => ?_)
            refine lv_goto (tgt := 6) hx hb dX4_found_43 (by decide) ?_
            exact ih_6 (y + 1) (k + 1) _ (by omega) (by omega) (by omega) (by rw [show sn S - k = (sn S - (k + 1)) + 1 by omega, fdF, if_neg (by omega)] at hfd; exact hfd) hS ls (lv_sub hl [0, 1, 2] rfl)
          · refine lv_iload_n hx hb dX4_found_38 rfl (lv_at hl 0 rfl) ?_
            have hk0 : k = k0 := by
              rw [show sn S - k = (sn S - (k + 1)) + 1 by omega, fdF, if_pos (by omega)] at hfd
              exact Option.some.inj hfd
            exact g_reti hx hb hr hlocks hS rfl (⟨by rw [hy, hk0], hPr.xp⟩) (Nat.le_of_ble_eq_true rfl) (Nat.le_of_ble_eq_true rfl) dX4_found_39
  exact loop_6 _ 0 0 _ (Nat.lt_succ_self _) rfl (Nat.zero_le _) hfd0 hS ls (lv_sub hl [0, 1, 2] rfl)
set_option maxHeartbeats 4000000 in
set_option maxRecDepth 100000 in
theorem x_found_e1 (l : Launch) (G : gG) (hlf : l.stackTraces = false) (A : Nat → Nat) (TA : Nat → Nat → Nat) (S : cS) (W9 : cWk) (H : Heap) (hC : Cat G A TA S W9 H) (hI : sInv S) (z : Int) (hz : rI z) (hfd0 : fdF S z 0 (sn S) = none) : gM l yX4_found wsX4_found rm_X4_found [.ref (A 0), .int (zI z)] G H (gF0) ((fun E H1 => E = "java/lang/IndexOutOfBoundsException" ∧ XP G A TA S S H H1)) 6 60 := by
  obtain ⟨h0, h1, h2, h3, h4, h5, h6, hap⟩ := id hC
  have hn16 : sn S ≤ 16 := hI.1
  refine g_start (cc := cX4_found) (maxL := 3) (ret := (some .int)) (by decide +kernel) rfl (Nat.le_of_ble_eq_true rfl) ?_
  intro p e s m args below meth c F ls hl
  obtain ⟨hx, hb, hml, hr, hts, hown, hlocks, hxt, hH, hX, hin⟩ := F
  have hown : s.vm.findClass RX4 = some m.cls := hown
  have hS : va_S (gA G) s.heap H [] := by rw [hH]; exact va_S.rf
  have hl : lv_has ls 3 [(0, .ref (A 0)), (1, .int (zI z))] := hl
  refine lv_aload_n hx hb dX4_found_0 rfl (lv_at hl 0 rfl) ?_
  refine g_gov (vx_runV (As := []) (rest := []) ⟨hx, hb, hml, hown, hts⟩ (k_priceTunes l G A TA S W9 H hC hI) (cwV 0 hts gX4_found_X4_priceTunes rfl rfl rfl hd_X4_priceTunes ⟨(Nat.le_of_ble_eq_true rfl), (Nat.le_of_ble_eq_true rfl)⟩) (g_preV hX hS (ci := 4) rfl h0) rfl rfl hl.1 rfl (lv_room (Nat.le_of_ble_eq_true rfl)) dX4_found_1 ⟨(Nat.le_of_ble_eq_true rfl), (Nat.le_of_ble_eq_true rfl)⟩) hS (fun H_1 locs hp hS => ?_)
  have hPr := hp
  obtain ⟨⟨W2, hC2, hpn2, hpf2⟩, hOp⟩ := hp
  obtain ⟨h0, h1, h2, h3, h4, h5, h6, hap⟩ := id hC2
  rw [hpn2] at h4
  refine lv_iconst (v := zI 0) hx hb dX4_found_4 rfl ?_
  refine lv_istore_n (lv' := [(2, .int (zI 0)), (0, .ref (A 0)), (1, .int (zI z))]) hx hb dX4_found_5 rfl hl (by decide) rfl (fun ls hl => ?_)
  have loop_6 : ∀ (M_ : Nat) (y : Int) (k : Nat) (locs : List Loc), sn S - k < M_ → (y = k) → (k ≤ sn S) → (fdF S z k (sn S - k) = none) → va_S (gA G) s.heap H_1 locs → ∀ (ls : Array Slot), lv_has ls 3 [(2, .int (zI y)), (0, .ref (A 0)), (1, .int (zI z))] → W p l e rm_X4_found s m args below meth c H_1 locs (0) (0) (vx_MQ below (gQ G (gF0)) (gXC G ((fun E H1 => E = "java/lang/IndexOutOfBoundsException" ∧ XP G A TA S S H H1))) args s 6 60 (gA G)) (F0 m 6 ls []) := by
    intro M_
    induction M_ with
    | zero => intro y k locs_0 h_0; exact absurd h_0 (Nat.not_lt_zero _)
    | succ M_ ih_6 =>
      intro y k locs hM_6 hy hkn hfd hS ls hl
      have hpk := prc_rng hI k
      have hrk : rkF S k ≤ sn S := ctB_le _ _
      refine lv_iload_n hx hb dX4_found_6 rfl (lv_at hl 0 rfl) ?_
      refine lv_aload_n hx hb dX4_found_7 rfl (lv_at hl 1 rfl) ?_
      refine g_get hx hb hX hts (fun w h => (List.mem_cons_of_mem _ (List.mem_append_left _ (List.mem_append_left _ (List.mem_append_left _ (List.mem_append_left _ (List.mem_append_right _ h))))))) hown h0 rfl 5 (by decide) (hts (.fieldLink RX4 41 "TuneCatalogue" "priceRow" "LTuneCatalogue$Row;") (List.mem_cons_of_mem _ (List.mem_append_left _ (List.mem_append_left _ (List.mem_append_left _ (List.mem_append_left _ (List.mem_append_left _ (List.mem_append_left _ (List.mem_of_getElem? (i := 2) rfl))))))))) rfl dX4_found_8 ?_
      refine g_goi (vx_runV (As := []) (rest := [.int (zI y)]) ⟨hx, hb, hml, hown, hts⟩ (k_size l G (A 9) (A 10) 16 (sn S) _ H_1 h4) (cwV 0 hts gX4_found_X2_size rfl rfl rfl hd_X2_size ⟨(Nat.le_of_ble_eq_true rfl), (Nat.le_of_ble_eq_true rfl)⟩) (g_preV hX hS (ci := 2) rfl h4.1) rfl rfl hl.1 rfl (lv_room (Nat.le_of_ble_eq_true rfl)) dX4_found_11 ⟨(Nat.le_of_ble_eq_true rfl), (Nat.le_of_ble_eq_true rfl)⟩) hS (fun r_11 H_11 locs hp hS => ?_)
      obtain ⟨rfl, rfl⟩ := hp
      refine gz_icmp_ge (tgt := 46) hx hb ⟨by omega, by omega⟩ ⟨by omega, by omega⟩ dX4_found_14 (by decide) (fun c_14 => ?_) (fun c_14 => ?_)
      · exact g_throw hx hb hlf hX hown (by decide +kernel) (by decide +kernel) (hts (.classLink RX4 90 "java/lang/IndexOutOfBoundsException") (List.mem_cons_of_mem _ (List.mem_append_left _ (List.mem_append_left _ (List.mem_append_left _ (List.mem_append_left _ (List.mem_append_left _ (List.mem_append_left _ (List.mem_of_getElem? (i := 0) rfl))))))))) (hts (.initialized "java/lang/IndexOutOfBoundsException") (List.mem_cons_of_mem _ (List.mem_append_left _ (List.mem_append_left _ (List.mem_append_left _ (List.mem_append_left _ (List.mem_append_left _ (List.mem_append_left _ (List.mem_of_getElem? (i := 1) rfl))))))))) (by decide +kernel : (168, "there are not so many tunes with a match") ∈ gStr) (ha_X4_found_94 hX hts) (by decide +kernel) hS (hl.1.trans hml.symm) dX4_found_46 dX4_found_49 dX4_found_50 dX4_found_52 dX4_found_55 hxt (Nat.le_of_ble_eq_true rfl) (Nat.le_of_ble_eq_true rfl) (Nat.le_of_ble_eq_true rfl) (Nat.le_of_ble_eq_true rfl) hlocks (fun H1 hE => ⟨rfl, ⟨W2, hC2.ext hE⟩, hPr.xp.2.trans hE.kp⟩) (Nat.le_of_ble_eq_true rfl) (Nat.le_of_ble_eq_true rfl)
      · refine lv_aload_n hx hb dX4_found_17 rfl (lv_at hl 1 rfl) ?_
        refine g_get hx hb hX hts (fun w h => (List.mem_cons_of_mem _ (List.mem_append_left _ (List.mem_append_left _ (List.mem_append_left _ (List.mem_append_left _ (List.mem_append_right _ h))))))) hown h0 rfl 5 (by decide) (hts (.fieldLink RX4 41 "TuneCatalogue" "priceRow" "LTuneCatalogue$Row;") (List.mem_cons_of_mem _ (List.mem_append_left _ (List.mem_append_left _ (List.mem_append_left _ (List.mem_append_left _ (List.mem_append_left _ (List.mem_append_left _ (List.mem_of_getElem? (i := 2) rfl))))))))) rfl dX4_found_18 ?_
        refine lv_iload_n hx hb dX4_found_21 rfl (lv_at hl 0 rfl) ?_
        refine g_goi (vx_runV (As := [.int (zI y)]) (rest := []) ⟨hx, hb, hml, hown, hts⟩ (k_at l G (A 9) (A 10) 16 (sn S) _ H_1 h4 y k (by omega) (by omega)) (cwV 1 hts gX4_found_X2_at rfl rfl rfl hd_X2_at ⟨(Nat.le_of_ble_eq_true rfl), (Nat.le_of_ble_eq_true rfl)⟩) (g_preV hX hS (ci := 2) rfl h4.1) rfl rfl hl.1 rfl (lv_room (Nat.le_of_ble_eq_true rfl)) dX4_found_22 ⟨(Nat.le_of_ble_eq_true rfl), (Nat.le_of_ble_eq_true rfl)⟩) hS (fun r_22 H_22 locs hp hS => ?_)
        obtain ⟨hv, rfl⟩ := hp
        rw [hpf2 k (by omega)] at hv
        subst hv
        refine lv_iconst (v := zI (-1)) hx hb dX4_found_25 rfl ?_
        refine gz_icmp_eq (tgt := 40) hx hb ⟨by omega, by omega⟩ (by decide) dX4_found_26 (by decide) (fun c_26 => ?_) (fun c_26 => ?_)
        · refine lv_iinc (v := zI (y + 1)) (lv' := [(2, .int (zI (y + 1))), (0, .ref (A 0)), (1, .int (zI z))]) hx hb dX4_found_40 hl (k := 0) rfl (zI_add _ _) (by decide) rfl (fun ls hl => ?_)
          refine lv_goto (tgt := 6) hx hb dX4_found_43 (by decide) ?_
          exact ih_6 (y + 1) (k + 1) _ (by omega) (by omega) (by omega) (by rw [show sn S - k = (sn S - (k + 1)) + 1 by omega, fdF, if_neg (by omega)] at hfd; exact hfd) hS ls (lv_sub hl [0, 1, 2] rfl)
        · refine lv_aload_n hx hb dX4_found_29 rfl (lv_at hl 1 rfl) ?_
          refine lv_iload_n hx hb dX4_found_30 rfl (lv_at hl 0 rfl) ?_
          refine g_goi (vx_runV (As := [.int (zI y)]) (rest := []) ⟨hx, hb, hml, hown, hts⟩ (k_rankByPrice l G A TA S W2 H_1 hC2 hI hpn2 hpf2 y k (by omega) (by omega)) (cwV 1 hts gX4_found_X4_rankByPrice rfl rfl rfl hd_X4_rankByPrice ⟨(Nat.le_of_ble_eq_true rfl), (Nat.le_of_ble_eq_true rfl)⟩) (g_preV hX hS (ci := 4) rfl h0) rfl rfl hl.1 rfl (lv_room (Nat.le_of_ble_eq_true rfl)) dX4_found_31 ⟨(Nat.le_of_ble_eq_true rfl), (Nat.le_of_ble_eq_true rfl)⟩) hS (fun r_31 H_31 locs hp hS => ?_)
          obtain ⟨rfl, rfl⟩ := hp
          refine lv_iload_n hx hb dX4_found_34 rfl (lv_at hl 2 rfl) ?_
          refine gz_icmp_ne (tgt := 40) hx hb ⟨by omega, by omega⟩ ⟨by omega, by omega⟩ dX4_found_35 (by decide) (fun c_35 => ?_) (fun c_35 => ?_)
          · refine lv_iinc (v := zI (y + 1)) (lv' := [(2, .int (zI (y + 1))), (0, .ref (A 0)), (1, .int (zI z))]) hx hb dX4_found_40 hl (k := 0) rfl (zI_add _ _) (by decide) rfl (fun ls hl => ?_)
            refine lv_goto (tgt := 6) hx hb dX4_found_43 (by decide) ?_
            exact ih_6 (y + 1) (k + 1) _ (by omega) (by omega) (by omega) (by rw [show sn S - k = (sn S - (k + 1)) + 1 by omega, fdF, if_neg (by omega)] at hfd; exact hfd) hS ls (lv_sub hl [0, 1, 2] rfl)
          · rw [show sn S - k = (sn S - (k + 1)) + 1 by omega, fdF, if_pos (by omega)] at hfd; cases hfd
  exact loop_6 _ 0 0 _ (Nat.lt_succ_self _) rfl (Nat.zero_le _) hfd0 hS ls (lv_sub hl [0, 1, 2] rfl)
def Plc (G : gG) (A : Nat → Nat) (TA : Nat → Nat → Nat) (S : cS) (L : List Nat) (H H1 : Heap) : Prop := (∃ W, Cat G A TA S W H1 ∧ wln W = L.length ∧ rowL (wlf W) L) ∧ gOnly [A 11, A 12] H H1
theorem Plc.xp {G : gG} {A : Nat → Nat} {TA : Nat → Nat → Nat} {S : cS} {L : List Nat} {H H1 : Heap} (h : Plc G A TA S L H H1) : XP G A TA S S H H1 := by
  obtain ⟨⟨W, h1, -, -⟩, h2⟩ := h
  refine ⟨⟨W, h1⟩, h2.grow.kp (fun q hq => ?_)⟩
  simp only [List.mem_cons, List.not_mem_nil, or_false] at hq
  rcases hq with e | e <;> rw [e] <;> exact own.A (by omega)
theorem Plc.push {G : gG} {A : Nat → Nat} {TA : Nat → Nat → Nat} {S : cS} {L : List Nat} {H H1 H2 : Heap} {x : Nat} {W : cWk} (hC : Cat G A TA S W H1) (hL : rowL (wlf W) L) (hO : gOnly [A 11, A 12] H H1) (hO2 : gOnly [A 11, A 12] H1 H2) (hr : gRow G (A 11) (A 12) 384 (L.length + 1) (upd (wlf W) L.length (zI (x : Int))) H2) : Plc G A TA S (L ++ [x]) H H2 :=
  ⟨⟨_, hC.place hO2 hr, by rw [List.length_append]; rfl, rowL_push hL⟩, hO.trans hO2 (fun _ h => h) (fun _ h => h)⟩
set_option maxHeartbeats 4000000 in
set_option maxRecDepth 100000 in
theorem k_collectPlacesOf (l : Launch) (G : gG) (A : Nat → Nat) (TA : Nat → Nat → Nat) (S : cS) (W9 : cWk) (H : Heap) (hC : Cat G A TA S W9 H) (hI : sInv S) (zs : Int) (st0 : Nat) (hzs : zs = st0) (hst : st0 + 1 ≤ shn S) (z : Int) (i : Nat) (hz : z = i) (hi : i < sn S) (L0 : List Nat) (hln : wln W9 = L0.length) (hlf9 : rowL (wlf W9) L0) (hL0 : L0.length + stn S i ≤ 384) : gM l yX4_collectPlacesOf wsX4_collectPlacesOf rm_X4_collectPlacesOf [.ref (A 0), .int (zI z), .ref (TA i 1), .int (zI zs)] G H (gv (fun H1 => Plc G A TA S (L0 ++ plT S st0 i (stn S i)) H H1)) (gNo) 0 0 := by
  obtain ⟨h0, h1, h2, h3, h4, h5, h6, hap⟩ := id hC
  have hn16 : sn S ≤ 16 := hI.1
  have hh12 : shn S ≤ 12 := hI.2.2.2.2.2.1
  obtain ⟨ht, hp1, hl1, gt, htd⟩ := id (h6 i hi)
  have ht24 := (hI.2.1 i hi).2
  have ht1 := (hI.2.1 i hi).1
  refine g_start (cc := cX4_collectPlacesOf) (maxL := 6) (ret := none) (by decide +kernel) rfl (Nat.le_of_ble_eq_true rfl) ?_
  intro p e s m args below meth c F ls hl
  obtain ⟨hx, hb, hml, hr, hts, hown, hlocks, hxt, hH, hX, hin⟩ := F
  have hown : s.vm.findClass RX4 = some m.cls := hown
  have hS : va_S (gA G) s.heap H [] := by rw [hH]; exact va_S.rf
  have hl : lv_has ls 6 [(0, .ref (A 0)), (1, .int (zI z)), (2, .ref (TA i 1)), (3, .int (zI zs))] := hl
  refine lv_aload_n hx hb dX4_collectPlacesOf_0 rfl (lv_at hl 0 rfl) ?_
  refine g_get hx hb hX hts (fun w h => (List.mem_cons_of_mem _ (List.mem_append_left _ (List.mem_append_right _ h)))) hown h0 rfl 3 (by decide) (hts (.fieldLink RX4 26 "TuneCatalogue" "humRow" "LTuneCatalogue$Row;") (List.mem_cons_of_mem _ (List.mem_append_left _ (List.mem_append_left _ (List.mem_append_left _ (List.mem_of_getElem? (i := 0) rfl)))))) rfl dX4_collectPlacesOf_1 ?_
  refine g_goi (vx_runV (As := []) (rest := []) ⟨hx, hb, hml, hown, hts⟩ (k_size l G (A 2) (A 3) 12 (shn S) _ H h2.2.1) (cwV 0 hts gX4_collectPlacesOf_X2_size rfl rfl rfl hd_X2_size ⟨(Nat.le_of_ble_eq_true rfl), (Nat.le_of_ble_eq_true rfl)⟩) (g_preV hX hS (ci := 2) rfl h2.2.1.1) rfl rfl hl.1 rfl (lv_room (Nat.le_of_ble_eq_true rfl)) dX4_collectPlacesOf_4 ⟨(Nat.le_of_ble_eq_true rfl), (Nat.le_of_ble_eq_true rfl)⟩) hS (fun r_4 H_4 locs hp hS => ?_)
  obtain ⟨rfl, rfl⟩ := hp
  refine lv_iconst (v := zI 1) hx hb dX4_collectPlacesOf_7 rfl ?_
  refine gz_isub hx hb dX4_collectPlacesOf_8 ?_
  refine lv_iload_n hx hb dX4_collectPlacesOf_9 rfl (lv_at hl 3 rfl) ?_
  refine gz_isub hx hb dX4_collectPlacesOf_10 ?_
  refine lv_istore (lv' := [(4, .int (zI (((shn S : Int) - 1) - zs))), (0, .ref (A 0)), (1, .int (zI z)), (2, .ref (TA i 1)), (3, .int (zI zs))]) hx hb dX4_collectPlacesOf_11 hl (by decide) rfl (fun ls hl => ?_)
  refine lv_iconst (v := zI 0) hx hb dX4_collectPlacesOf_13 rfl ?_
  refine lv_istore (lv' := [(5, .int (zI 0)), (4, .int (zI (((shn S : Int) - 1) - zs))), (0, .ref (A 0)), (1, .int (zI z)), (2, .ref (TA i 1)), (3, .int (zI zs))]) hx hb dX4_collectPlacesOf_14 hl (by decide) rfl (fun ls hl => ?_)
  have loop_16 : ∀ (M_ : Nat) (y : Int) (k : Nat) (H_L16 : Heap) (locs : List Loc), stn S i - k < M_ → (y = k) → (k ≤ stn S i) → (Plc G A TA S (L0 ++ plT S st0 i k) H H_L16) → va_S (gA G) s.heap H_L16 locs → ∀ (ls : Array Slot), lv_has ls 6 [(5, .int (zI y)), (4, .int (zI ((shn S : Int) - 1 - zs))), (0, .ref (A 0)), (1, .int (zI z)), (2, .ref (TA i 1)), (3, .int (zI zs))] → W p l e rm_X4_collectPlacesOf s m args below meth c H_L16 locs (0) (0) (vx_MQ below (gQ G (gv (fun H1 => Plc G A TA S (L0 ++ plT S st0 i (stn S i)) H H1))) (gXC G (gNo)) args s 0 0 (gA G)) (F0 m 16 ls []) := by
    intro M_
    induction M_ with
    | zero => intro y k H_0 locs_0 h_0; exact absurd h_0 (Nat.not_lt_zero _)
    | succ M_ ih_16 =>
      intro y k H_L16 locs hM_16 hy hkn hPl hS ls hl
      obtain ⟨⟨Wk, hCk, hlk, hlf2⟩, hOk⟩ := id hPl
      obtain ⟨h0, h1, h2, h3, h4, h5, h6, hap⟩ := id hCk
      obtain ⟨ht, hp1, hl1, gt, htd⟩ := id (h6 i hi)
      have hlen : (L0 ++ plT S st0 i k).length < 384 ∨ k = stn S i := by
        have := plT_len S st0 i k
        rw [List.length_append]
        omega
      refine lv_iload hx hb dX4_collectPlacesOf_16 (lv_at hl 0 rfl) ?_
      refine lv_aload_n hx hb dX4_collectPlacesOf_18 rfl (lv_at hl 4 rfl) ?_
      refine g_goi (vx_runV (As := []) (rest := [.int (zI y)]) ⟨hx, hb, hml, hown, hts⟩ (k_size l G (TA i 1) (TA i 2) 24 (stn S i) _ H_L16 hp1) (cwV 0 hts gX4_collectPlacesOf_X2_size rfl rfl rfl hd_X2_size ⟨(Nat.le_of_ble_eq_true rfl), (Nat.le_of_ble_eq_true rfl)⟩) (g_preV hX hS (ci := 2) rfl hp1.1) rfl rfl hl.1 rfl (lv_room (Nat.le_of_ble_eq_true rfl)) dX4_collectPlacesOf_19 ⟨(Nat.le_of_ble_eq_true rfl), (Nat.le_of_ble_eq_true rfl)⟩) hS (fun r_19 H_19 locs hp hS => ?_)
      obtain ⟨rfl, rfl⟩ := hp
      refine gz_icmp_ge (tgt := 61) hx hb ⟨by omega, by omega⟩ ⟨by omega, by omega⟩ dX4_collectPlacesOf_22 (by decide) (fun c_22 => ?_) (fun c_22 => ?_)
      · exact g_retv hx hb hr hlocks hS (by rw [← show k = stn S i by omega]; exact hPl) (Nat.le_of_ble_eq_true rfl) (Nat.le_of_ble_eq_true rfl) dX4_collectPlacesOf_61
      · refine lv_aload_n hx hb dX4_collectPlacesOf_25 rfl (lv_at hl 4 rfl) ?_
        refine lv_iload hx hb dX4_collectPlacesOf_26 (lv_at hl 0 rfl) ?_
        refine lv_aload_n hx hb dX4_collectPlacesOf_28 rfl (lv_at hl 2 rfl) ?_
        refine g_get hx hb hX hts (fun w h => (List.mem_cons_of_mem _ (List.mem_append_left _ (List.mem_append_right _ h)))) hown h0 rfl 3 (by decide) (hts (.fieldLink RX4 26 "TuneCatalogue" "humRow" "LTuneCatalogue$Row;") (List.mem_cons_of_mem _ (List.mem_append_left _ (List.mem_append_left _ (List.mem_append_left _ (List.mem_of_getElem? (i := 0) rfl)))))) rfl dX4_collectPlacesOf_29 ?_
        refine lv_iload hx hb dX4_collectPlacesOf_32 (lv_at hl 1 rfl) ?_
        refine g_goi (vx_runV (As := [.int (zI y), .ref (A 2), .int (zI ((shn S : Int) - 1 - zs))]) (rest := []) ⟨hx, hb, hml, hown, hts⟩ (k_stepsInCommon l G (TA i 1) (TA i 2) 24 (stn S i) _ H_L16 hp1 (A 2) (A 3) 12 (shn S) _ h2.2.1 y ((shn S : Int) - 1 - zs) k (shn S - 1 - st0) (by omega) (by omega) (by omega) (by omega)) (cwV 3 hts gX4_collectPlacesOf_X2_stepsInCommon rfl rfl rfl hd_X2_stepsInCommon ⟨(Nat.le_of_ble_eq_true rfl), (Nat.le_of_ble_eq_true rfl)⟩) (g_preV hX hS (ci := 2) rfl hp1.1) rfl rfl hl.1 rfl (lv_room (Nat.le_of_ble_eq_true rfl)) dX4_collectPlacesOf_34 ⟨(Nat.le_of_ble_eq_true rfl), (Nat.le_of_ble_eq_true rfl)⟩) hS (fun r_34 H_34 locs hp hS => ?_)
        obtain ⟨rfl, rfl⟩ := hp
        have hcl := cmn_le (zf (stp S i)) (zf (shf S)) (Nat.min (stn S i - k) (shn S - (shn S - 1 - st0)) - 1) k (shn S - 1 - st0)
        have hmn : Nat.min (stn S i - k) (shn S - (shn S - 1 - st0)) ≤ stn S i - k := Nat.min_le_left _ _
        refine W.eq (g2 := F0 m 37 ls [.int (zI ((cmn (zf (stp S i)) (zf (shf S)) k (shn S - 1 - st0) (Nat.min (stn S i - k) (shn S - (shn S - 1 - st0)) - 1) : Nat) : Int))]) rfl ?_
        refine lv_iload_n hx hb dX4_collectPlacesOf_37 rfl (lv_at hl 5 rfl) ?_
        refine gz_icmp_ne (tgt := 55) hx hb ⟨by omega, by omega⟩ ⟨by omega, by omega⟩ dX4_collectPlacesOf_38 (by decide) (fun c_38 => ?_) (fun c_38 => ?_)
        · have hPl2 : Plc G A TA S (L0 ++ plT S st0 i (k + 1)) H H_L16 := by
            rw [plT, if_neg (by omega)]
            exact hPl
          refine lv_iinc (v := zI (y + 1)) (lv' := [(5, .int (zI (y + 1))), (4, .int (zI ((shn S : Int) - 1 - zs))), (0, .ref (A 0)), (1, .int (zI z)), (2, .ref (TA i 1)), (3, .int (zI zs))]) hx hb dX4_collectPlacesOf_55 hl (k := 0) rfl (zI_add _ _) (by decide) rfl (fun ls hl => ?_)
          refine lv_goto (tgt := 16) hx hb dX4_collectPlacesOf_58 (by decide) ?_
          exact ih_16 (y + 1) (k + 1) H_L16 _ (by omega) (by omega) (by omega) hPl2 hS ls (lv_sub hl [0, 1, 2, 3, 4, 5] rfl)
        · refine lv_aload_n hx hb dX4_collectPlacesOf_41 rfl (lv_at hl 2 rfl) ?_
          refine g_get hx hb hX hts (fun w h => (List.mem_cons_of_mem _ (List.mem_append_left _ (List.mem_append_right _ h)))) hown h0 rfl 6 (by decide) (hts (.fieldLink RX4 44 "TuneCatalogue" "placeRow" "LTuneCatalogue$Row;") (List.mem_cons_of_mem _ (List.mem_append_left _ (List.mem_append_left _ (List.mem_append_left _ (List.mem_of_getElem? (i := 1) rfl)))))) rfl dX4_collectPlacesOf_42 ?_
          refine lv_bipush (v := zI 100) hx hb dX4_collectPlacesOf_45 (by decide +kernel) ?_
          refine lv_iload_n hx hb dX4_collectPlacesOf_47 rfl (lv_at hl 3 rfl) ?_
          refine gz_imul hx hb dX4_collectPlacesOf_48 ?_
          refine lv_iload hx hb dX4_collectPlacesOf_49 (lv_at hl 0 rfl) ?_
          refine gz_iadd hx hb dX4_collectPlacesOf_51 ?_
          refine g_gov (vx_runV (As := [.int (zI ((100 * z) + y))]) (rest := []) ⟨hx, hb, hml, hown, hts⟩ (k_append l G (A 11) (A 12) 384 (L0 ++ plT S st0 i k).length _ H_L16 (hlk ▸ h5) (zI ((100 * z) + y)) (by omega)) (cwV 1 hts gX4_collectPlacesOf_X2_append rfl rfl rfl hd_X2_append ⟨(Nat.le_of_ble_eq_true rfl), (Nat.le_of_ble_eq_true rfl)⟩) (g_preV hX hS (ci := 2) rfl h5.1) rfl rfl hl.1 rfl (lv_room (Nat.le_of_ble_eq_true rfl)) dX4_collectPlacesOf_52 ⟨(Nat.le_of_ble_eq_true rfl), (Nat.le_of_ble_eq_true rfl)⟩) hS (fun H_52 locs hp hS => ?_)
          obtain ⟨hr2, hO1⟩ := hp
          rw [show (100 * z) + y = ((100 * i + k : Nat) : Int) by omega] at hr2
          have hPl2 : Plc G A TA S (L0 ++ plT S st0 i (k + 1)) H H_52 := by
            rw [plT, if_pos (by omega), ← List.append_assoc]
            exact Plc.push hCk hlf2 hOk hO1 hr2
          refine lv_iinc (v := zI (y + 1)) (lv' := [(5, .int (zI (y + 1))), (4, .int (zI ((shn S : Int) - 1 - zs))), (0, .ref (A 0)), (1, .int (zI z)), (2, .ref (TA i 1)), (3, .int (zI zs))]) hx hb dX4_collectPlacesOf_55 hl (k := 0) rfl (zI_add _ _) (by decide) rfl (fun ls hl => ?_)
          refine lv_goto (tgt := 16) hx hb dX4_collectPlacesOf_58 (by decide) ?_
          exact ih_16 (y + 1) (k + 1) H_52 _ (by omega) (by omega) (by omega) hPl2 hS ls (lv_sub hl [0, 1, 2, 3, 4, 5] rfl)
  exact loop_16 _ 0 0 H _ (Nat.lt_succ_self _) rfl (Nat.zero_le _) (by rw [plT, List.append_nil]; exact ⟨⟨W9, hC, hln, hlf9⟩, rfl, fun _ _ => rfl⟩) hS ls (lv_sub hl [0, 1, 2, 3, 4, 5] rfl)
set_option maxHeartbeats 4000000 in
set_option maxRecDepth 100000 in
theorem k_collectPlaces (l : Launch) (G : gG) (A : Nat → Nat) (TA : Nat → Nat → Nat) (S : cS) (W9 : cWk) (H : Heap) (hC : Cat G A TA S W9 H) (hI : sInv S) (zs : Int) (st0 : Nat) (hzs : zs = st0) (hst : st0 + 1 ≤ shn S)  : gM l yX4_collectPlaces wsX4_collectPlaces rm_X4_collectPlaces [.ref (A 0), .int (zI zs)] G H (gv (fun H1 => Plc G A TA S (plA S st0 (sn S)) H H1)) (gNo) 0 0 := by
  obtain ⟨h0, h1, h2, h3, h4, h5, h6, hap⟩ := id hC
  have hn16 : sn S ≤ 16 := hI.1
  have hh12 : shn S ≤ 12 := hI.2.2.2.2.2.1
  refine g_start (cc := cX4_collectPlaces) (maxL := 4) (ret := none) (by decide +kernel) rfl (Nat.le_of_ble_eq_true rfl) ?_
  intro p e s m args below meth c F ls hl
  obtain ⟨hx, hb, hml, hr, hts, hown, hlocks, hxt, hH, hX, hin⟩ := F
  have hown : s.vm.findClass RX4 = some m.cls := hown
  have hS : va_S (gA G) s.heap H [] := by rw [hH]; exact va_S.rf
  have hl : lv_has ls 4 [(0, .ref (A 0)), (1, .int (zI zs))] := hl
  refine lv_aload_n hx hb dX4_collectPlaces_0 rfl (lv_at hl 0 rfl) ?_
  refine g_get hx hb hX hts (fun w h => (List.mem_cons_of_mem _ (List.mem_append_left _ (List.mem_append_left _ (List.mem_append_right _ h))))) hown h0 rfl 6 (by decide) (hts (.fieldLink RX4 44 "TuneCatalogue" "placeRow" "LTuneCatalogue$Row;") (List.mem_cons_of_mem _ (List.mem_append_left _ (List.mem_append_left _ (List.mem_append_left _ (List.mem_append_left _ (List.mem_of_getElem? (i := 0) rfl))))))) rfl dX4_collectPlaces_1 ?_
  refine g_gov (vx_runV (As := []) (rest := []) ⟨hx, hb, hml, hown, hts⟩ (k_clear l G (A 11) (A 12) 384 (wln W9) _ H h5) (cwV 0 hts gX4_collectPlaces_X2_clear rfl rfl rfl hd_X2_clear ⟨(Nat.le_of_ble_eq_true rfl), (Nat.le_of_ble_eq_true rfl)⟩) (g_preV hX hS (ci := 2) rfl h5.1) rfl rfl hl.1 rfl (lv_room (Nat.le_of_ble_eq_true rfl)) dX4_collectPlaces_4 ⟨(Nat.le_of_ble_eq_true rfl), (Nat.le_of_ble_eq_true rfl)⟩) hS (fun H_4 locs hp hS => ?_)
  obtain ⟨hr2, hO1⟩ := hp
  have hO12 : gOnly [A 11, A 12] H H_4 := hO1.mono (fun q h => List.mem_cons.mpr (Or.inl (List.mem_singleton.mp h)))
  have hPl : Plc G A TA S (plA S st0 0) H H_4 := ⟨⟨_, hC.place hO12 hr2, rfl, fun j h => absurd h (Nat.not_lt_zero _)⟩, hO12⟩
  have h0 := hPl.1.choose_spec.1.1
  have h1 := hPl.1.choose_spec.1.2.1
  refine lv_iconst (v := zI 0) hx hb dX4_collectPlaces_7 rfl ?_
  refine lv_istore_n (lv' := [(2, .int (zI 0)), (0, .ref (A 0)), (1, .int (zI zs))]) hx hb dX4_collectPlaces_8 rfl hl (by decide) rfl (fun ls hl => ?_)
  have loop_9 : ∀ (M_ : Nat) (y : Int) (k : Nat) (H_L9 : Heap) (locs : List Loc), sn S - k < M_ → (y = k) → (k ≤ sn S) → (Plc G A TA S (plA S st0 k) H H_L9) → va_S (gA G) s.heap H_L9 locs → ∀ (ls : Array Slot), lv_has ls 4 [(2, .int (zI y)), (0, .ref (A 0)), (1, .int (zI zs))] → W p l e rm_X4_collectPlaces s m args below meth c H_L9 locs (0) (0) (vx_MQ below (gQ G (gv (fun H1 => Plc G A TA S (plA S st0 (sn S)) H H1))) (gXC G (gNo)) args s 0 0 (gA G)) (F0 m 9 ls []) := by
    intro M_
    induction M_ with
    | zero => intro y k H_0 locs_0 h_0; exact absurd h_0 (Nat.not_lt_zero _)
    | succ M_ ih_9 =>
      intro y k H_L9 locs hM_9 hy hkn hPl hS ls hl
      obtain ⟨⟨Wk, hCk, hlk, hlf2⟩, hOk⟩ := id hPl
      obtain ⟨h0, h1, h2, h3, h4, h5, h6, hap⟩ := id hCk
      have hlen := plA_len hI st0 k hkn
      refine lv_iload_n hx hb dX4_collectPlaces_9 rfl (lv_at hl 0 rfl) ?_
      refine lv_aload_n hx hb dX4_collectPlaces_10 rfl (lv_at hl 1 rfl) ?_
      refine g_get hx hb hX hts (fun w h => (List.mem_cons_of_mem _ (List.mem_append_left _ (List.mem_append_left _ (List.mem_append_right _ h))))) hown h0 rfl 1 (by decide) (hts (.fieldLink RX4 51 "TuneCatalogue" "entered" "I") (List.mem_cons_of_mem _ (List.mem_append_left _ (List.mem_append_left _ (List.mem_append_left _ (List.mem_append_left _ (List.mem_of_getElem? (i := 1) rfl))))))) rfl dX4_collectPlaces_11 ?_
      refine gz_icmp_ge (tgt := 43) hx hb ⟨by omega, by omega⟩ ⟨by omega, by omega⟩ dX4_collectPlaces_14 (by decide) (fun c_14 => ?_) (fun c_14 => ?_)
      · exact g_retv hx hb hr hlocks hS (by rw [← show k = sn S by omega]; exact hPl) (Nat.le_of_ble_eq_true rfl) (Nat.le_of_ble_eq_true rfl) dX4_collectPlaces_43
      · refine lv_aload_n hx hb dX4_collectPlaces_17 rfl (lv_at hl 1 rfl) ?_
        refine lv_iload_n hx hb dX4_collectPlaces_18 rfl (lv_at hl 0 rfl) ?_
        refine g_goq (vx_runV (As := [.int (zI y)]) (rest := []) ⟨hx, hb, hml, hown, hts⟩ (k_kN l G A TA S Wk H_L9 hCk hI y k (by omega) (by omega)) (cwV 1 hts gX4_collectPlaces_X4_knownOrNull rfl rfl rfl hd_X4_knownOrNull ⟨(Nat.le_of_ble_eq_true rfl), (Nat.le_of_ble_eq_true rfl)⟩) (g_preV hX hS (ci := 4) rfl h0) rfl rfl hl.1 rfl (lv_room (Nat.le_of_ble_eq_true rfl)) dX4_collectPlaces_19 ⟨(Nat.le_of_ble_eq_true rfl), (Nat.le_of_ble_eq_true rfl)⟩) hS (fun r_19 H_19 locs hp hS => ?_)
        obtain ⟨hv, rfl⟩ := hp
        cases hsk : srt S k
        · rw [hsk] at hv
          replace hv : some (TA k 0) = r_19 := hv
          subst hv
          refine W.eq (g2 := F0 m 22 ls [.ref (TA k 0)]) rfl ?_
          obtain ⟨htk, hpk, hlkk, gtk, htdk⟩ := id (h6 k (by omega))
          refine lv_astore_n (lv' := [(3, .ref (TA k 0)), (2, .int (zI y)), (0, .ref (A 0)), (1, .int (zI zs))]) hx hb dX4_collectPlaces_22 rfl hl (by decide) rfl (fun ls hl => ?_)
          refine lv_aload_n hx hb dX4_collectPlaces_23 rfl (lv_at hl 0 rfl) ?_
          refine lv_ifnull hx hb dX4_collectPlaces_24 ?_
          refine lv_aload_n hx hb dX4_collectPlaces_27 rfl (lv_at hl 2 rfl) ?_
          refine lv_iload_n hx hb dX4_collectPlaces_28 rfl (lv_at hl 1 rfl) ?_
          refine lv_aload_n hx hb dX4_collectPlaces_29 rfl (lv_at hl 0 rfl) ?_
          refine g_getN hx hb hX hts (fun w h => (List.mem_cons_of_mem _ (List.mem_append_left _ (List.mem_append_right _ h)))) hown htk rfl 0 (by decide) (by decide +kernel : Cond.fieldLinkNest RX4 77 "TuneCatalogue$Tune" "pitches" "LTuneCatalogue$Row;" RX4 ∈ gNW) rfl dX4_collectPlaces_30 ?_
          refine lv_iload_n hx hb dX4_collectPlaces_33 rfl (lv_at hl 3 rfl) ?_
          refine g_gov (vx_runV (As := [.int (zI y), .ref (TA k 1), .int (zI zs)]) (rest := []) ⟨hx, hb, hml, hown, hts⟩ (k_collectPlacesOf l G A TA S Wk H_L9 hCk hI zs st0 hzs hst y k (by omega) (by omega) (plA S st0 k) hlk hlf2 (by have := (hI.2.1 k (by omega)).2; omega)) (cwV 3 hts gX4_collectPlaces_X4_collectPlacesOf rfl rfl rfl hd_X4_collectPlacesOf ⟨(Nat.le_of_ble_eq_true rfl), (Nat.le_of_ble_eq_true rfl)⟩) (g_preV hX hS (ci := 4) rfl h0) rfl rfl hl.1 rfl (lv_room (Nat.le_of_ble_eq_true rfl)) dX4_collectPlaces_34 ⟨(Nat.le_of_ble_eq_true rfl), (Nat.le_of_ble_eq_true rfl)⟩) hS (fun H_34 locs hp hS => ?_)
          have hPl2 : Plc G A TA S (plA S st0 (k + 1)) H H_34 := by
            rw [plA, hsk, if_neg (by decide)]
            exact ⟨hp.1, hOk.trans hp.2 (fun _ h => h) (fun _ h => h)⟩
          refine lv_iinc (v := zI (y + 1)) (lv' := [(2, .int (zI (y + 1))), (3, .ref (TA k 0)), (0, .ref (A 0)), (1, .int (zI zs))]) hx hb dX4_collectPlaces_37 hl (k := 1) rfl (zI_add _ _) (by decide) rfl (fun ls hl => ?_)
          refine lv_goto (tgt := 9) hx hb dX4_collectPlaces_40 (by decide) ?_
          exact ih_9 (y + 1) (k + 1) H_34 _ (by omega) (by omega) (by omega) hPl2 hS ls (lv_sub hl [0, 2, 3] rfl)
        · rw [hsk] at hv
          replace hv : none = r_19 := hv
          subst hv
          refine W.eq (g2 := F0 m 22 ls [.null]) rfl ?_
          refine lv_astore_nN (lv' := [(3, .null), (2, .int (zI y)), (0, .ref (A 0)), (1, .int (zI zs))]) hx hb dX4_collectPlaces_22 rfl hl (by decide) rfl (fun ls hl => ?_)
          refine lv_aload_nN hx hb dX4_collectPlaces_23 rfl (lv_at hl 0 rfl) ?_
          refine lv_ifnullN (tgt := 37) hx hb dX4_collectPlaces_24 (by decide) ?_
          have hPl2 : Plc G A TA S (plA S st0 (k + 1)) H H_L9 := by
            rw [plA, hsk, if_pos rfl]
            exact hPl
          refine lv_iinc (v := zI (y + 1)) (lv' := [(2, .int (zI (y + 1))), (3, .null), (0, .ref (A 0)), (1, .int (zI zs))]) hx hb dX4_collectPlaces_37 hl (k := 1) rfl (zI_add _ _) (by decide) rfl (fun ls hl => ?_)
          refine lv_goto (tgt := 9) hx hb dX4_collectPlaces_40 (by decide) ?_
          exact ih_9 (y + 1) (k + 1) H_L9 _ (by omega) (by omega) (by omega) hPl2 hS ls (lv_sub hl [0, 2, 3] rfl)
  exact loop_9 _ 0 0 H_4 _ (Nat.lt_succ_self _) rfl (Nat.zero_le _) hPl hS ls (lv_sub hl [0, 1, 2] rfl)
set_option maxHeartbeats 4000000 in
set_option maxRecDepth 100000 in
theorem x_places_ok (l : Launch) (G : gG) (A : Nat → Nat) (TA : Nat → Nat → Nat) (S : cS) (W9 : cWk) (H : Heap) (hC : Cat G A TA S W9 H) (hI : sInv S) (zs : Int) (st0 : Nat) (hzs : zs = st0) (h14 : 1 ≤ st0 ∧ st0 ≤ 4) (hst : st0 + 1 ≤ shn S)  : gM l yX4_places wsX4_places rm_X4_places [.ref (A 0), .int (zI zs)] G H (gi (fun r H1 => zI ((plA S st0 (sn S)).length : Nat) = r ∧ XP G A TA S S H H1)) (gNo) 6 60 := by
  obtain ⟨h0, h1, h2, h3, h4, h5, h6, hap⟩ := id hC
  have hn16 : sn S ≤ 16 := hI.1
  have hh12 : shn S ≤ 12 := hI.2.2.2.2.2.1
  refine g_start (cc := cX4_places) (maxL := 2) (ret := (some .int)) (by decide +kernel) rfl (Nat.le_of_ble_eq_true rfl) ?_
  intro p e s m args below meth c F ls hl
  obtain ⟨hx, hb, hml, hr, hts, hown, hlocks, hxt, hH, hX, hin⟩ := F
  have hown : s.vm.findClass RX4 = some m.cls := hown
  have hS : va_S (gA G) s.heap H [] := by rw [hH]; exact va_S.rf
  have hl : lv_has ls 2 [(0, .ref (A 0)), (1, .int (zI zs))] := hl
  refine lv_aload_n hx hb dX4_places_0 rfl (lv_at hl 0 rfl) ?_
  refine lv_iload_n hx hb dX4_places_1 rfl (lv_at hl 1 rfl) ?_
  refine g_gov (vx_runV (As := [.int (zI zs)]) (rest := []) ⟨hx, hb, hml, hown, hts⟩ (k_rR_ok l G A TA S W9 H hC hI zs (by omega) (by omega)) (cwV 1 hts gX4_places_X4_refuseUnlessRunOfHum rfl rfl rfl hd_X4_refuseUnlessRunOfHum ⟨(Nat.le_of_ble_eq_true rfl), (Nat.le_of_ble_eq_true rfl)⟩) (g_preV hX hS (ci := 4) rfl h0) rfl rfl hl.1 rfl (lv_room (Nat.le_of_ble_eq_true rfl)) dX4_places_2 ⟨(Nat.le_of_ble_eq_true rfl), (Nat.le_of_ble_eq_true rfl)⟩) hS (fun H_2 locs hp hS => ?_)
  subst hp
  refine lv_aload_n hx hb dX4_places_5 rfl (lv_at hl 0 rfl) ?_
  refine lv_iload_n hx hb dX4_places_6 rfl (lv_at hl 1 rfl) ?_
  refine g_gov (vx_runV (As := [.int (zI zs)]) (rest := []) ⟨hx, hb, hml, hown, hts⟩ (k_collectPlaces l G A TA S W9 H hC hI zs st0 hzs (by omega)) (cwV 1 hts gX4_places_X4_collectPlaces rfl rfl rfl hd_X4_collectPlaces ⟨(Nat.le_of_ble_eq_true rfl), (Nat.le_of_ble_eq_true rfl)⟩) (g_preV hX hS (ci := 4) rfl h0) rfl rfl hl.1 rfl (lv_room (Nat.le_of_ble_eq_true rfl)) dX4_places_7 ⟨(Nat.le_of_ble_eq_true rfl), (Nat.le_of_ble_eq_true rfl)⟩) hS (fun H_7 locs hp hS => ?_)
  have hPl := hp
  obtain ⟨⟨W2, hC2, hln2, hlf2⟩, hOp⟩ := hp
  obtain ⟨h0, h1, h2, h3, h4, h5, h6, hap⟩ := id hC2
  have hlen := plA_len hI st0 (sn S) (Nat.le_refl _)
  have h5b : gRow G (A 11) (A 12) 384 (plA S st0 (sn S)).length (wlf W2) H_7 := by rw [← hln2]; exact h5
  refine lv_aload_n hx hb dX4_places_10 rfl (lv_at hl 0 rfl) ?_
  refine g_get hx hb hX hts (fun w h => (List.mem_cons_of_mem _ (List.mem_append_left _ (List.mem_append_left _ (List.mem_append_left _ (List.mem_append_left _ (List.mem_append_right _ h))))))) hown h0 rfl 6 (by decide) (hts (.fieldLink RX4 44 "TuneCatalogue" "placeRow" "LTuneCatalogue$Row;") (List.mem_cons_of_mem _ (List.mem_append_left _ (List.mem_append_left _ (List.mem_append_left _ (List.mem_append_left _ (List.mem_append_left _ (List.mem_append_left _ (List.mem_of_getElem? (i := 0) rfl))))))))) rfl dX4_places_11 ?_
  refine g_goi (vx_runV (As := []) (rest := []) ⟨hx, hb, hml, hown, hts⟩ (k_size l G (A 11) (A 12) 384 (plA S st0 (sn S)).length _ H_7 h5b) (cwV 0 hts gX4_places_X2_size rfl rfl rfl hd_X2_size ⟨(Nat.le_of_ble_eq_true rfl), (Nat.le_of_ble_eq_true rfl)⟩) (g_preV hX hS (ci := 2) rfl h5b.1) rfl rfl hl.1 rfl (lv_room (Nat.le_of_ble_eq_true rfl)) dX4_places_14 ⟨(Nat.le_of_ble_eq_true rfl), (Nat.le_of_ble_eq_true rfl)⟩) hS (fun r_14 H_14 locs hp hS => ?_)
  obtain ⟨rfl, rfl⟩ := hp
  exact g_reti hx hb hr hlocks hS rfl (⟨rfl, hPl.xp⟩) (Nat.le_of_ble_eq_true rfl) (Nat.le_of_ble_eq_true rfl) dX4_places_17
set_option maxHeartbeats 4000000 in
set_option maxRecDepth 100000 in
theorem x_places_e1 (l : Launch) (G : gG) (hlf : l.stackTraces = false) (A : Nat → Nat) (TA : Nat → Nat → Nat) (S : cS) (W9 : cWk) (H : Heap) (hC : Cat G A TA S W9 H) (hI : sInv S) (zs : Int) (hz : rI zs) (hno : ¬ (1 ≤ zs ∧ zs ≤ 4))  : gM l yX4_places wsX4_places rm_X4_places [.ref (A 0), .int (zI zs)] G H (gF0) (gTh "java/lang/IllegalArgumentException" H) 6 60 := by
  obtain ⟨h0, h1, h2, h3, h4, h5, h6, hap⟩ := id hC
  have hn16 : sn S ≤ 16 := hI.1
  refine g_start (cc := cX4_places) (maxL := 2) (ret := (some .int)) (by decide +kernel) rfl (Nat.le_of_ble_eq_true rfl) ?_
  intro p e s m args below meth c F ls hl
  obtain ⟨hx, hb, hml, hr, hts, hown, hlocks, hxt, hH, hX, hin⟩ := F
  have hown : s.vm.findClass RX4 = some m.cls := hown
  have hS : va_S (gA G) s.heap H [] := by rw [hH]; exact va_S.rf
  have hl : lv_has ls 2 [(0, .ref (A 0)), (1, .int (zI zs))] := hl
  refine lv_aload_n hx hb dX4_places_0 rfl (lv_at hl 0 rfl) ?_
  refine lv_iload_n hx hb dX4_places_1 rfl (lv_at hl 1 rfl) ?_
  refine g_go (vx_runV (As := [.int (zI zs)]) (rest := []) ⟨hx, hb, hml, hown, hts⟩ (k_rR_no1 l G hlf A TA S W9 H hC hI zs hz hno) (cwV 1 hts gX4_places_X4_refuseUnlessRunOfHum rfl rfl rfl hd_X4_refuseUnlessRunOfHum ⟨(Nat.le_of_ble_eq_true rfl), (Nat.le_of_ble_eq_true rfl)⟩) (g_preV hX hS (ci := 4) rfl h0) rfl rfl hl.1 rfl (lv_room (Nat.le_of_ble_eq_true rfl)) dX4_places_2 ⟨(Nat.le_of_ble_eq_true rfl), (Nat.le_of_ble_eq_true rfl)⟩) hS (fun E ce q9 H_2 locs hp hS hce hcv hcl => ?_) (fun v H1 locs h hS => h.elim)
  exact g_out hxt hlocks hS hce hcv hcl (hp) (Nat.le_of_ble_eq_true rfl) (Nat.le_of_ble_eq_true rfl)
set_option maxHeartbeats 4000000 in
set_option maxRecDepth 100000 in
theorem x_places_e2 (l : Launch) (G : gG) (hlf : l.stackTraces = false) (A : Nat → Nat) (TA : Nat → Nat → Nat) (S : cS) (W9 : cWk) (H : Heap) (hC : Cat G A TA S W9 H) (hI : sInv S) (zs : Int) (hz : rI zs) (h14 : 1 ≤ zs ∧ zs ≤ 4) (hno : ¬ zs ≤ (shn S : Int) - 1)  : gM l yX4_places wsX4_places rm_X4_places [.ref (A 0), .int (zI zs)] G H (gF0) (gTh "java/lang/IllegalStateException" H) 6 60 := by
  obtain ⟨h0, h1, h2, h3, h4, h5, h6, hap⟩ := id hC
  have hn16 : sn S ≤ 16 := hI.1
  refine g_start (cc := cX4_places) (maxL := 2) (ret := (some .int)) (by decide +kernel) rfl (Nat.le_of_ble_eq_true rfl) ?_
  intro p e s m args below meth c F ls hl
  obtain ⟨hx, hb, hml, hr, hts, hown, hlocks, hxt, hH, hX, hin⟩ := F
  have hown : s.vm.findClass RX4 = some m.cls := hown
  have hS : va_S (gA G) s.heap H [] := by rw [hH]; exact va_S.rf
  have hl : lv_has ls 2 [(0, .ref (A 0)), (1, .int (zI zs))] := hl
  refine lv_aload_n hx hb dX4_places_0 rfl (lv_at hl 0 rfl) ?_
  refine lv_iload_n hx hb dX4_places_1 rfl (lv_at hl 1 rfl) ?_
  refine g_go (vx_runV (As := [.int (zI zs)]) (rest := []) ⟨hx, hb, hml, hown, hts⟩ (k_rR_no2 l G hlf A TA S W9 H hC hI zs hz h14 hno) (cwV 1 hts gX4_places_X4_refuseUnlessRunOfHum rfl rfl rfl hd_X4_refuseUnlessRunOfHum ⟨(Nat.le_of_ble_eq_true rfl), (Nat.le_of_ble_eq_true rfl)⟩) (g_preV hX hS (ci := 4) rfl h0) rfl rfl hl.1 rfl (lv_room (Nat.le_of_ble_eq_true rfl)) dX4_places_2 ⟨(Nat.le_of_ble_eq_true rfl), (Nat.le_of_ble_eq_true rfl)⟩) hS (fun E ce q9 H_2 locs hp hS hce hcv hcl => ?_) (fun v H1 locs h hS => h.elim)
  exact g_out hxt hlocks hS hce hcv hcl (hp) (Nat.le_of_ble_eq_true rfl) (Nat.le_of_ble_eq_true rfl)
