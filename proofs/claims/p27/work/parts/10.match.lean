/-! ===== TuneCatalogue.Matching ===== -/
/-- a tune (notes, pitches, lengths), the hum (pitches), the costs (slip, ornament, repeat) -/
abbrev cX : Type := Nat × (Nat → Int) × (Nat → Int) × Nat × (Nat → Int) × Int × Int × Int
abbrev xn (X : cX) : Nat := X.1
abbrev xf (X : cX) : Nat → Int := X.2.1
abbrev xg (X : cX) : Nat → Int := X.2.2.1
abbrev xh (X : cX) : Nat := X.2.2.2.1
abbrev xhf (X : cX) : Nat → Int := X.2.2.2.2.1
abbrev xsl (X : cX) : Int := X.2.2.2.2.2.1
abbrev xor' (X : cX) : Int := X.2.2.2.2.2.2.1
abbrev xrp (X : cX) : Int := X.2.2.2.2.2.2.2
def xOK (X : cX) : Prop := xn X ≤ 24 ∧ (∀ k, 0 ≤ xf X k ∧ xf X k ≤ 60) ∧ (∀ k, 0 ≤ xg X k ∧ xg X k ≤ 8) ∧ xh X ≤ 12 ∧ (∀ k, 0 ≤ xhf X k ∧ xhf X k ≤ 60) ∧ (0 ≤ xsl X ∧ xsl X ≤ 20) ∧ (0 ≤ xor' X ∧ xor' X ≤ 20) ∧ (0 ≤ xrp X ∧ xrp X ≤ 20)
def sN (F : Nat → Int) (a : Nat) : Nat → Int
  | 0 => 0
  | d + 1 => sN F a d + F (a + d)
def absI (a : Int) : Int := if 0 ≤ a then a else -a
def onF (X : cX) (k : Nat) : Int := xor' X * xg X k
def rpF (X : cX) (k : Nat) : Int := if xhf X k = xhf X (k - 1) then xrp X else 3 * xrp X
/-- what it costs to go on from pitch q on note j to pitch q2 on note j2 -/
def mv (X : cX) (q j q2 j2 : Nat) : Int := xsl X * absI ((xf X j2 - xf X j) - (xhf X q2 - xhf X q)) + sN (onF X) (j + 1) (j2 - (j + 1)) + sN (rpF X) (q + 1) (q2 - (q + 1))
def chp (a b : Int) : Int := if a = -1 ∨ b = -1 then max a b else min a b
def viaT (T : Nat → Nat → Int) (X : cX) (zq zj : Int) (q2 j2 : Nat) : Int := if zq < 0 ∨ zj < 0 then -1 else if T zq.toNat zj.toNat = -1 then -1 else T zq.toNat zj.toNat + mv X zq.toNat zj.toNat q2 j2
def toT (T : Nat → Nat → Int) (X : cX) (q j : Nat) : Int := if q = 0 then (if j = 0 then 0 else -1) else
  chp (chp (chp (chp (chp (-1) (viaT T X ((q : Int) - 1) ((j : Int) - 1 - 0) q j)) (viaT T X ((q : Int) - 1) ((j : Int) - 1 - 1) q j)) (viaT T X ((q : Int) - 1) ((j : Int) - 1 - 2) q j)) (viaT T X ((q : Int) - 1 - 1) ((j : Int) - 1) q j)) (viaT T X ((q : Int) - 1 - 2) ((j : Int) - 1) q j)
def dpR (X : cX) : Nat → Nat → Nat → Int
  | 0, _, _ => -1
  | Q + 1, a, b => if a = Q then toT (dpR X Q) X Q b else dpR X Q a b
def dp (X : cX) (q j : Nat) : Int := dpR X (q + 1) q j
theorem dpR_lt (X : cX) : ∀ (Q a b : Nat), a < Q → dpR X Q a b = dp X a b
  | 0, _, _, h => absurd h (Nat.not_lt_zero _)
  | Q + 1, a, b, h => by
    by_cases e : a = Q
    · subst e; rfl
    · rw [dpR, if_neg e]; exact dpR_lt X Q a b (by omega)
theorem viaT_cong {T T2 : Nat → Nat → Int} {X : cX} {zq zj : Int} {q2 j2 : Nat} (h : ∀ a b : Nat, zq = a → zj = b → T a b = T2 a b) : viaT T X zq zj q2 j2 = viaT T2 X zq zj q2 j2 := by
  unfold viaT
  by_cases hc : zq < 0 ∨ zj < 0
  · rw [if_pos hc, if_pos hc]
  · rw [if_neg hc, if_neg hc, h zq.toNat zj.toNat (by omega) (by omega)]
theorem dp_eq (X : cX) (q j : Nat) : dp X q j = toT (dp X) X q j := by
  show (if q = q then toT (dpR X q) X q j else _) = _
  rw [if_pos rfl]
  unfold toT
  by_cases h0 : q = 0
  · rw [if_pos h0, if_pos h0]
  · rw [if_neg h0, if_neg h0]
    have k : ∀ zq zj : Int, zq ≤ (q : Int) - 1 → viaT (dpR X q) X zq zj q j = viaT (dp X) X zq zj q j := fun zq zj hz => viaT_cong (fun a b ha _ => dpR_lt X q a b (by omega))
    rw [k _ _ (by omega), k _ _ (by omega), k _ _ (by omega), k _ _ (by omega), k _ _ (by omega)]
theorem absI_rng {a : Int} (h : -120 ≤ a ∧ a ≤ 120) : 0 ≤ absI a ∧ absI a ≤ 120 := by unfold absI; split <;> omega
theorem mul_rng {a b A B : Int} (ha : 0 ≤ a ∧ a ≤ A) (hb : 0 ≤ b ∧ b ≤ B) : 0 ≤ a * b ∧ a * b ≤ A * B :=
  ⟨Int.mul_nonneg ha.1 hb.1, Int.mul_le_mul ha.2 hb.2 hb.1 (Int.le_trans ha.1 ha.2)⟩
theorem sN_rng {F : Nat → Int} {B : Int} (h : ∀ k, 0 ≤ F k ∧ F k ≤ B) (a : Nat) : ∀ d : Nat, 0 ≤ sN F a d ∧ sN F a d ≤ B * d
  | 0 => by simp [sN]
  | d + 1 => by
    have h1 := sN_rng h a d
    have h2 := h (a + d)
    unfold sN
    rw [Int.natCast_succ, Int.mul_add, Int.mul_one]
    omega
theorem onF_rng {X : cX} (hX : xOK X) (k : Nat) : 0 ≤ onF X k ∧ onF X k ≤ 160 := mul_rng (A := 20) (B := 8) hX.2.2.2.2.2.2.1 (hX.2.2.1 k)
theorem rpF_rng {X : cX} (hX : xOK X) (k : Nat) : 0 ≤ rpF X k ∧ rpF X k ≤ 60 := by
  have := hX.2.2.2.2.2.2.2
  unfold rpF; split <;> omega
theorem mv_rng {X : cX} (hX : xOK X) {q j q2 j2 : Nat} (h1 : q2 ≤ q + 3) (h2 : j2 ≤ j + 3) : 0 ≤ mv X q j q2 j2 ∧ mv X q j q2 j2 ≤ 2900 := by
  have a1 := hX.2.1 j; have a2 := hX.2.1 j2
  have b1 := hX.2.2.2.2.1 q; have b2 := hX.2.2.2.2.1 q2
  have m1 := mul_rng (A := 20) (B := 120) hX.2.2.2.2.2.1 (absI_rng (a := (xf X j2 - xf X j) - (xhf X q2 - xhf X q)) (by omega))
  have s1 := sN_rng (onF_rng hX) (j + 1) (j2 - (j + 1))
  have s2 := sN_rng (rpF_rng hX) (q + 1) (q2 - (q + 1))
  have t1 : (160 : Int) * ((j2 - (j + 1) : Nat) : Int) ≤ 320 := by omega
  have t2 : (60 : Int) * ((q2 - (q + 1) : Nat) : Int) ≤ 120 := by omega
  unfold mv
  omega
theorem chp_rng {a b B : Int} (ha : -1 ≤ a ∧ a ≤ B) (hb : -1 ≤ b ∧ b ≤ B) : -1 ≤ chp a b ∧ chp a b ≤ B := by unfold chp; split <;> omega
theorem viaT_rng {T : Nat → Nat → Int} {X : cX} (hX : xOK X) {zq zj : Int} {q2 j2 : Nat} (hT : ∀ a b : Nat, a < q2 → -1 ≤ T a b ∧ T a b ≤ 3000 * a) (h1 : zq < q2) (h3 : (q2 : Int) ≤ zq + 3) (h4 : (j2 : Int) ≤ zj + 3) : -1 ≤ viaT T X zq zj q2 j2 ∧ viaT T X zq zj q2 j2 ≤ 3000 * q2 := by
  unfold viaT
  by_cases hc : zq < 0 ∨ zj < 0
  · rw [if_pos hc]; omega
  · rw [if_neg hc]
    have t := hT zq.toNat zj.toNat (by omega)
    have mm := mv_rng hX (q := zq.toNat) (j := zj.toNat) (q2 := q2) (j2 := j2) (by omega) (by omega)
    split <;> omega
theorem dp_rng {X : cX} (hX : xOK X) : ∀ (Q q j : Nat), q < Q → -1 ≤ dp X q j ∧ dp X q j ≤ 3000 * q
  | 0, _, _, h => absurd h (Nat.not_lt_zero _)
  | Q + 1, q, j, h => by
    rw [dp_eq]
    unfold toT
    have ih : ∀ a b : Nat, a < q → -1 ≤ dp X a b ∧ dp X a b ≤ 3000 * a := fun a b ha => dp_rng hX Q a b (by omega)
    by_cases h0 : q = 0
    · rw [if_pos h0]; split <;> omega
    · rw [if_neg h0]
      refine chp_rng (chp_rng (chp_rng (chp_rng (chp_rng ⟨by omega, by omega⟩ ?_) ?_) ?_) ?_) ?_ <;> exact viaT_rng hX ih (by omega) (by omega) (by omega)
theorem dp_rI {X : cX} (hX : xOK X) {q : Nat} (j : Nat) (hq : q < 12) : -1 ≤ dp X q j ∧ dp X q j ≤ 36000 := by
  have := dp_rng hX (q + 1) q j (by omega)
  omega
/-- the cheapest of the first k notes for the last pitch -/
def lastC (X : cX) : Nat → Int
  | 0 => -1
  | k + 1 => chp (lastC X k) (if xh X = 0 then -1 else dp X (xh X - 1) k)
def costI (X : cX) : Int := lastC X (xn X)
theorem lastC_rng {X : cX} (hX : xOK X) : ∀ k, -1 ≤ lastC X k ∧ lastC X k ≤ 36000
  | 0 => by simp [lastC]
  | k + 1 => by
    unfold lastC
    refine chp_rng (lastC_rng hX k) ?_
    split
    · omega
    · exact dp_rI hX k (by have := hX.2.2.2.1; omega)
def Mat (G : gG) (mt ra rb ta : Nat) (X : cX) (tb : Nat → Int32) (H : Heap) : Prop :=
  gat G mt (.inr (1, [.ref ra, .int (zI (xsl X)), .int (zI (xor' X)), .int (zI (xrp X)), .ref ta])) H ∧ gRow G ra rb 12 (xh X) (fun k => zI (xhf X k)) H ∧ gat G ta (.inl (gI G, 288, .inl tb)) H ∧ gB G ≤ ta ∧ ta ≠ mt ∧ ta ≠ ra ∧ ta ≠ rb
set_option maxHeartbeats 4000000 in
set_option maxRecDepth 100000 in
theorem k_isWithin_t (l : Launch) (G : gG) (H : Heap) (a lo hi : Int) (ha : rI a) (hlo : rI lo) (hhi : rI hi) (h : lo ≤ a ∧ a ≤ hi) : gM l yX4_isWithin wsX4_isWithin rm_X4_isWithin [.int (zI a), .int (zI lo), .int (zI hi)] G H (gi (fun r H1 => zI 1 = r ∧ H = H1)) (gNo) 0 0 := by
  refine g_start (cc := cX4_isWithin) (maxL := 3) (ret := (some .boolean)) (by decide +kernel) rfl (Nat.le_of_ble_eq_true rfl) ?_
  intro p e s m args below meth c F ls hl
  obtain ⟨hx, hb, hml, hr, hts, hown, hlocks, hxt, hH, hX, hin⟩ := F
  have hown : s.vm.findClass RX4 = some m.cls := hown
  have hS : va_S (gA G) s.heap H [] := by rw [hH]; exact va_S.rf
  have hl : lv_has ls 3 [(0, .int (zI a)), (1, .int (zI lo)), (2, .int (zI hi))] := hl
  refine lv_iload_n hx hb dX4_isWithin_0 rfl (lv_at hl 0 rfl) ?_
  refine lv_iload_n hx hb dX4_isWithin_1 rfl (lv_at hl 1 rfl) ?_
  refine gz_icmp_lt (tgt := 14) hx hb (by assumption) (by assumption) dX4_isWithin_2 (by decide) (fun c_2 => ?_) (fun c_2 => ?_)
  · omega
  · refine lv_iload_n hx hb dX4_isWithin_5 rfl (lv_at hl 0 rfl) ?_
    refine lv_iload_n hx hb dX4_isWithin_6 rfl (lv_at hl 2 rfl) ?_
    refine gz_icmp_gt (tgt := 14) hx hb (by assumption) (by assumption) dX4_isWithin_7 (by decide) (fun c_7 => ?_) (fun c_7 => ?_)
    · omega
    · refine lv_iconst (v := zI 1) hx hb dX4_isWithin_10 rfl ?_
      refine lv_goto (tgt := 15) hx hb dX4_isWithin_11 (by decide) ?_
      exact g_reti hx hb hr hlocks hS rfl (⟨rfl, rfl⟩) (Nat.le_of_ble_eq_true rfl) (Nat.le_of_ble_eq_true rfl) dX4_isWithin_15
set_option maxHeartbeats 4000000 in
set_option maxRecDepth 100000 in
theorem k_isWithin_f (l : Launch) (G : gG) (H : Heap) (a lo hi : Int) (ha : rI a) (hlo : rI lo) (hhi : rI hi) (h : ¬ (lo ≤ a ∧ a ≤ hi)) : gM l yX4_isWithin wsX4_isWithin rm_X4_isWithin [.int (zI a), .int (zI lo), .int (zI hi)] G H (gi (fun r H1 => zI 0 = r ∧ H = H1)) (gNo) 0 0 := by
  refine g_start (cc := cX4_isWithin) (maxL := 3) (ret := (some .boolean)) (by decide +kernel) rfl (Nat.le_of_ble_eq_true rfl) ?_
  intro p e s m args below meth c F ls hl
  obtain ⟨hx, hb, hml, hr, hts, hown, hlocks, hxt, hH, hX, hin⟩ := F
  have hown : s.vm.findClass RX4 = some m.cls := hown
  have hS : va_S (gA G) s.heap H [] := by rw [hH]; exact va_S.rf
  have hl : lv_has ls 3 [(0, .int (zI a)), (1, .int (zI lo)), (2, .int (zI hi))] := hl
  refine lv_iload_n hx hb dX4_isWithin_0 rfl (lv_at hl 0 rfl) ?_
  refine lv_iload_n hx hb dX4_isWithin_1 rfl (lv_at hl 1 rfl) ?_
  refine gz_icmp_lt (tgt := 14) hx hb (by assumption) (by assumption) dX4_isWithin_2 (by decide) (fun c_2 => ?_) (fun c_2 => ?_)
  · refine lv_iconst (v := zI 0) hx hb dX4_isWithin_14 rfl ?_
    exact g_reti hx hb hr hlocks hS rfl (⟨rfl, rfl⟩) (Nat.le_of_ble_eq_true rfl) (Nat.le_of_ble_eq_true rfl) dX4_isWithin_15
  · refine lv_iload_n hx hb dX4_isWithin_5 rfl (lv_at hl 0 rfl) ?_
    refine lv_iload_n hx hb dX4_isWithin_6 rfl (lv_at hl 2 rfl) ?_
    refine gz_icmp_gt (tgt := 14) hx hb (by assumption) (by assumption) dX4_isWithin_7 (by decide) (fun c_7 => ?_) (fun c_7 => ?_)
    · refine lv_iconst (v := zI 0) hx hb dX4_isWithin_14 rfl ?_
      exact g_reti hx hb hr hlocks hS rfl (⟨rfl, rfl⟩) (Nat.le_of_ble_eq_true rfl) (Nat.le_of_ble_eq_true rfl) dX4_isWithin_15
    · omega
set_option maxHeartbeats 4000000 in
set_option maxRecDepth 100000 in
theorem k_tableAt_in (l : Launch) (G : gG) (mt ra rb ta : Nat) (X : cX) (tb : Nat → Int32) (H : Heap) (hM : Mat G mt ra rb ta X tb H) (hX1 : xOK X) (zq zj : Int) (q j : Nat) (hq : zq = q) (hj : zj = j) (hq12 : q < 12) (hj24 : j < 24) (v : Int) (hv : tb (24 * q + j) = zI v) : gM l yX1_tableAt wsX1_tableAt rm_X1_tableAt [.ref mt, .int (zI zq), .int (zI zj)] G H (gi (fun r H1 => zI v = r ∧ H = H1)) (gNo) 0 0 := by
  obtain ⟨hm, hhr, hta, gta, na1, na2, na3⟩ := id hM
  obtain ⟨hxn, hxf, hxg, hxh, hxhf, hxsl, hxor, hxrp⟩ := id hX1
  refine g_start (cc := cX1_tableAt) (maxL := 5) (ret := (some .int)) (by decide +kernel) rfl (Nat.le_of_ble_eq_true rfl) ?_
  intro p e s m args below meth c F ls hl
  obtain ⟨hx, hb, hml, hr, hts, hown, hlocks, hxt, hH, hX, hin⟩ := F
  have hown : s.vm.findClass RX1 = some m.cls := hown
  have hS : va_S (gA G) s.heap H [] := by rw [hH]; exact va_S.rf
  have hl : lv_has ls 5 [(0, .ref mt), (1, .int (zI zq)), (2, .int (zI zj))] := hl
  refine lv_iload_n hx hb dX1_tableAt_0 rfl (lv_at hl 1 rfl) ?_
  refine lv_iconst (v := zI 0) hx hb dX1_tableAt_1 rfl ?_
  refine lv_bipush (v := zI 11) hx hb dX1_tableAt_2 (by decide +kernel) ?_
  refine g_goi (vx_runSN (As := [.int (zI zq), .int (zI 0), .int (zI 11)]) (rest := []) ⟨hx, hb, hml, hown, hts⟩ (k_isWithin_t l G H zq 0 11 ⟨by omega, by omega⟩ ⟨by omega, by omega⟩ ⟨by omega, by omega⟩ (by omega)) ⟨va_cnB 3 hts gX1_tableAt_X4_isWithin_n60 rfl rfl rfl (hX.1.2.2.1 _ (by decide +kernel : Cond.methodLinkNest RX1 60 yX4_isWithin RX4 ∈ gNM)) (hts (.initialized RX4) (List.mem_cons_of_mem _ (List.mem_append_left _ (List.mem_of_getElem? (i := 2) rfl)))) hd_X4_isWithin.2 ⟨(Nat.le_of_ble_eq_true rfl), (Nat.le_of_ble_eq_true rfl)⟩, hts (.static yX4_isWithin) (List.mem_cons_of_mem _ (List.mem_append_left _ (List.mem_of_getElem? (i := 1) rfl))), trivial⟩ (g_pre hX hS) rfl rfl hl.1 rfl (lv_room (Nat.le_of_ble_eq_true rfl)) dX1_tableAt_4 ⟨(Nat.le_of_ble_eq_true rfl), (Nat.le_of_ble_eq_true rfl)⟩) hS (fun r_4 H_4 locs hp hS => ?_)
  obtain ⟨rfl, rfl⟩ := hp
  refine gz_if_eq (tgt := 24) hx hb (by decide) dX1_tableAt_7 (by decide) (fun c_7 => ?_) (fun c_7 => ?_)
  · omega
  · refine lv_iload_n hx hb dX1_tableAt_10 rfl (lv_at hl 2 rfl) ?_
    refine lv_iconst (v := zI 0) hx hb dX1_tableAt_11 rfl ?_
    refine lv_bipush (v := zI 23) hx hb dX1_tableAt_12 (by decide +kernel) ?_
    refine g_goi (vx_runSN (As := [.int (zI zj), .int (zI 0), .int (zI 23)]) (rest := []) ⟨hx, hb, hml, hown, hts⟩ (k_isWithin_t l G H zj 0 23 ⟨by omega, by omega⟩ ⟨by omega, by omega⟩ ⟨by omega, by omega⟩ (by omega)) ⟨va_cnB 3 hts gX1_tableAt_X4_isWithin_n60 rfl rfl rfl (hX.1.2.2.1 _ (by decide +kernel : Cond.methodLinkNest RX1 60 yX4_isWithin RX4 ∈ gNM)) (hts (.initialized RX4) (List.mem_cons_of_mem _ (List.mem_append_left _ (List.mem_of_getElem? (i := 2) rfl)))) hd_X4_isWithin.2 ⟨(Nat.le_of_ble_eq_true rfl), (Nat.le_of_ble_eq_true rfl)⟩, hts (.static yX4_isWithin) (List.mem_cons_of_mem _ (List.mem_append_left _ (List.mem_of_getElem? (i := 1) rfl))), trivial⟩ (g_pre hX hS) rfl rfl hl.1 rfl (lv_room (Nat.le_of_ble_eq_true rfl)) dX1_tableAt_14 ⟨(Nat.le_of_ble_eq_true rfl), (Nat.le_of_ble_eq_true rfl)⟩) hS (fun r_14 H_14 locs hp hS => ?_)
    obtain ⟨rfl, rfl⟩ := hp
    refine gz_if_eq (tgt := 24) hx hb (by decide) dX1_tableAt_17 (by decide) (fun c_17 => ?_) (fun c_17 => ?_)
    · omega
    · refine lv_iconst (v := zI 1) hx hb dX1_tableAt_20 rfl ?_
      refine lv_goto (tgt := 25) hx hb dX1_tableAt_21 (by decide) ?_
      refine lv_istore_n (lv' := [(3, .int (zI 1)), (0, .ref mt), (1, .int (zI zq)), (2, .int (zI zj))]) hx hb dX1_tableAt_25 rfl hl (by decide) rfl (fun ls hl => ?_)
      refine lv_iload_n hx hb dX1_tableAt_26 rfl (lv_at hl 2 rfl) ?_
      refine lv_bipush (v := zI 24) hx hb dX1_tableAt_27 (by decide +kernel) ?_
      refine gz_imul hx hb dX1_tableAt_29 ?_
      refine lv_iload_n hx hb dX1_tableAt_30 rfl (lv_at hl 3 rfl) ?_
      refine gz_iadd hx hb dX1_tableAt_31 ?_
      refine lv_istore (lv' := [(4, .int (zI ((zq * 24) + zj))), (3, .int (zI 1)), (0, .ref mt), (1, .int (zI zq)), (2, .int (zI zj))]) hx hb dX1_tableAt_32 hl (by decide) rfl (fun ls hl => ?_)
      refine lv_iload_n hx hb dX1_tableAt_34 rfl (lv_at hl 1 rfl) ?_
      refine gz_if_eq (tgt := 63) hx hb (by decide) dX1_tableAt_35 (by decide) (fun c_35 => ?_) (fun c_35 => ?_)
      · omega
      · refine lv_iload hx hb dX1_tableAt_38 (lv_at hl 0 rfl) ?_
        refine gz_if_lt (tgt := 63) hx hb ⟨by omega, by omega⟩ dX1_tableAt_40 (by decide) (fun c_40 => ?_) (fun c_40 => ?_)
        · omega
        · refine lv_iload hx hb dX1_tableAt_43 (lv_at hl 0 rfl) ?_
          refine lv_aload_n hx hb dX1_tableAt_45 rfl (lv_at hl 2 rfl) ?_
          refine g_get hx hb hX hts (fun w h => (List.mem_cons_of_mem _ (List.mem_append_right _ h))) hown hm rfl 4 (by decide) (hts (.fieldLink RX1 30 "TuneCatalogue$Matching" "table" "[I") (List.mem_cons_of_mem _ (List.mem_append_left _ (List.mem_of_getElem? (i := 0) rfl)))) rfl dX1_tableAt_46 ?_
          refine gz_alenI hx hb hX hta dX1_tableAt_49 ?_
          refine gz_icmp_ge (tgt := 63) hx hb ⟨by omega, by omega⟩ (by decide) dX1_tableAt_50 (by decide) (fun c_50 => ?_) (fun c_50 => ?_)
          · omega
          · refine lv_aload_n hx hb dX1_tableAt_53 rfl (lv_at hl 2 rfl) ?_
            refine g_get hx hb hX hts (fun w h => (List.mem_cons_of_mem _ (List.mem_append_right _ h))) hown hm rfl 4 (by decide) (hts (.fieldLink RX1 30 "TuneCatalogue$Matching" "table" "[I") (List.mem_cons_of_mem _ (List.mem_append_left _ (List.mem_of_getElem? (i := 0) rfl)))) rfl dX1_tableAt_54 ?_
            refine lv_iload hx hb dX1_tableAt_57 (lv_at hl 0 rfl) ?_
            refine gz_iald hx hb hX hta (24 * q + j) (by omega) (by omega) (by omega) dX1_tableAt_59 ?_
            refine lv_goto (tgt := 64) hx hb dX1_tableAt_60 (by decide) ?_
            exact g_reti hx hb hr hlocks hS rfl (⟨hv.symm, rfl⟩) (Nat.le_of_ble_eq_true rfl) (Nat.le_of_ble_eq_true rfl) dX1_tableAt_64
set_option maxHeartbeats 4000000 in
set_option maxRecDepth 100000 in
theorem k_tableAt_o1 (l : Launch) (G : gG) (mt ra rb ta : Nat) (X : cX) (tb : Nat → Int32) (H : Heap) (hM : Mat G mt ra rb ta X tb H) (hX1 : xOK X) (zq zj : Int) (hq : -4 ≤ zq ∧ zq < 0) (hj : -4 ≤ zj ∧ zj < 24) : gM l yX1_tableAt wsX1_tableAt rm_X1_tableAt [.ref mt, .int (zI zq), .int (zI zj)] G H (gi (fun r H1 => zI (-1) = r ∧ H = H1)) (gNo) 0 0 := by
  obtain ⟨hm, hhr, hta, gta, na1, na2, na3⟩ := id hM
  obtain ⟨hxn, hxf, hxg, hxh, hxhf, hxsl, hxor, hxrp⟩ := id hX1
  refine g_start (cc := cX1_tableAt) (maxL := 5) (ret := (some .int)) (by decide +kernel) rfl (Nat.le_of_ble_eq_true rfl) ?_
  intro p e s m args below meth c F ls hl
  obtain ⟨hx, hb, hml, hr, hts, hown, hlocks, hxt, hH, hX, hin⟩ := F
  have hown : s.vm.findClass RX1 = some m.cls := hown
  have hS : va_S (gA G) s.heap H [] := by rw [hH]; exact va_S.rf
  have hl : lv_has ls 5 [(0, .ref mt), (1, .int (zI zq)), (2, .int (zI zj))] := hl
  refine lv_iload_n hx hb dX1_tableAt_0 rfl (lv_at hl 1 rfl) ?_
  refine lv_iconst (v := zI 0) hx hb dX1_tableAt_1 rfl ?_
  refine lv_bipush (v := zI 11) hx hb dX1_tableAt_2 (by decide +kernel) ?_
  refine g_goi (vx_runSN (As := [.int (zI zq), .int (zI 0), .int (zI 11)]) (rest := []) ⟨hx, hb, hml, hown, hts⟩ (k_isWithin_f l G H zq 0 11 ⟨by omega, by omega⟩ ⟨by omega, by omega⟩ ⟨by omega, by omega⟩ (by omega)) ⟨va_cnB 3 hts gX1_tableAt_X4_isWithin_n60 rfl rfl rfl (hX.1.2.2.1 _ (by decide +kernel : Cond.methodLinkNest RX1 60 yX4_isWithin RX4 ∈ gNM)) (hts (.initialized RX4) (List.mem_cons_of_mem _ (List.mem_append_left _ (List.mem_of_getElem? (i := 2) rfl)))) hd_X4_isWithin.2 ⟨(Nat.le_of_ble_eq_true rfl), (Nat.le_of_ble_eq_true rfl)⟩, hts (.static yX4_isWithin) (List.mem_cons_of_mem _ (List.mem_append_left _ (List.mem_of_getElem? (i := 1) rfl))), trivial⟩ (g_pre hX hS) rfl rfl hl.1 rfl (lv_room (Nat.le_of_ble_eq_true rfl)) dX1_tableAt_4 ⟨(Nat.le_of_ble_eq_true rfl), (Nat.le_of_ble_eq_true rfl)⟩) hS (fun r_4 H_4 locs hp hS => ?_)
  obtain ⟨rfl, rfl⟩ := hp
  refine gz_if_eq (tgt := 24) hx hb (by decide) dX1_tableAt_7 (by decide) (fun c_7 => ?_) (fun c_7 => ?_)
  · refine lv_iconst (v := zI 0) hx hb dX1_tableAt_24 rfl ?_
    refine lv_istore_n (lv' := [(3, .int (zI 0)), (0, .ref mt), (1, .int (zI zq)), (2, .int (zI zj))]) hx hb dX1_tableAt_25 rfl hl (by decide) rfl (fun ls hl => ?_)
    refine lv_iload_n hx hb dX1_tableAt_26 rfl (lv_at hl 2 rfl) ?_
    refine lv_bipush (v := zI 24) hx hb dX1_tableAt_27 (by decide +kernel) ?_
    refine gz_imul hx hb dX1_tableAt_29 ?_
    refine lv_iload_n hx hb dX1_tableAt_30 rfl (lv_at hl 3 rfl) ?_
    refine gz_iadd hx hb dX1_tableAt_31 ?_
    refine lv_istore (lv' := [(4, .int (zI ((zq * 24) + zj))), (3, .int (zI 0)), (0, .ref mt), (1, .int (zI zq)), (2, .int (zI zj))]) hx hb dX1_tableAt_32 hl (by decide) rfl (fun ls hl => ?_)
    refine lv_iload_n hx hb dX1_tableAt_34 rfl (lv_at hl 1 rfl) ?_
    refine gz_if_eq (tgt := 63) hx hb (by decide) dX1_tableAt_35 (by decide) (fun c_35 => ?_) (fun c_35 => ?_)
    · refine lv_iconst (v := zI (-1)) hx hb dX1_tableAt_63 rfl ?_
      exact g_reti hx hb hr hlocks hS rfl (⟨rfl, rfl⟩) (Nat.le_of_ble_eq_true rfl) (Nat.le_of_ble_eq_true rfl) dX1_tableAt_64
    · omega
  · omega
set_option maxHeartbeats 4000000 in
set_option maxRecDepth 100000 in
theorem k_tableAt_o2 (l : Launch) (G : gG) (mt ra rb ta : Nat) (X : cX) (tb : Nat → Int32) (H : Heap) (hM : Mat G mt ra rb ta X tb H) (hX1 : xOK X) (zq zj : Int) (hq : 0 ≤ zq ∧ zq < 12) (hj : -4 ≤ zj ∧ zj < 0) : gM l yX1_tableAt wsX1_tableAt rm_X1_tableAt [.ref mt, .int (zI zq), .int (zI zj)] G H (gi (fun r H1 => zI (-1) = r ∧ H = H1)) (gNo) 0 0 := by
  obtain ⟨hm, hhr, hta, gta, na1, na2, na3⟩ := id hM
  obtain ⟨hxn, hxf, hxg, hxh, hxhf, hxsl, hxor, hxrp⟩ := id hX1
  refine g_start (cc := cX1_tableAt) (maxL := 5) (ret := (some .int)) (by decide +kernel) rfl (Nat.le_of_ble_eq_true rfl) ?_
  intro p e s m args below meth c F ls hl
  obtain ⟨hx, hb, hml, hr, hts, hown, hlocks, hxt, hH, hX, hin⟩ := F
  have hown : s.vm.findClass RX1 = some m.cls := hown
  have hS : va_S (gA G) s.heap H [] := by rw [hH]; exact va_S.rf
  have hl : lv_has ls 5 [(0, .ref mt), (1, .int (zI zq)), (2, .int (zI zj))] := hl
  refine lv_iload_n hx hb dX1_tableAt_0 rfl (lv_at hl 1 rfl) ?_
  refine lv_iconst (v := zI 0) hx hb dX1_tableAt_1 rfl ?_
  refine lv_bipush (v := zI 11) hx hb dX1_tableAt_2 (by decide +kernel) ?_
  refine g_goi (vx_runSN (As := [.int (zI zq), .int (zI 0), .int (zI 11)]) (rest := []) ⟨hx, hb, hml, hown, hts⟩ (k_isWithin_t l G H zq 0 11 ⟨by omega, by omega⟩ ⟨by omega, by omega⟩ ⟨by omega, by omega⟩ (by omega)) ⟨va_cnB 3 hts gX1_tableAt_X4_isWithin_n60 rfl rfl rfl (hX.1.2.2.1 _ (by decide +kernel : Cond.methodLinkNest RX1 60 yX4_isWithin RX4 ∈ gNM)) (hts (.initialized RX4) (List.mem_cons_of_mem _ (List.mem_append_left _ (List.mem_of_getElem? (i := 2) rfl)))) hd_X4_isWithin.2 ⟨(Nat.le_of_ble_eq_true rfl), (Nat.le_of_ble_eq_true rfl)⟩, hts (.static yX4_isWithin) (List.mem_cons_of_mem _ (List.mem_append_left _ (List.mem_of_getElem? (i := 1) rfl))), trivial⟩ (g_pre hX hS) rfl rfl hl.1 rfl (lv_room (Nat.le_of_ble_eq_true rfl)) dX1_tableAt_4 ⟨(Nat.le_of_ble_eq_true rfl), (Nat.le_of_ble_eq_true rfl)⟩) hS (fun r_4 H_4 locs hp hS => ?_)
  obtain ⟨rfl, rfl⟩ := hp
  refine gz_if_eq (tgt := 24) hx hb (by decide) dX1_tableAt_7 (by decide) (fun c_7 => ?_) (fun c_7 => ?_)
  · omega
  · refine lv_iload_n hx hb dX1_tableAt_10 rfl (lv_at hl 2 rfl) ?_
    refine lv_iconst (v := zI 0) hx hb dX1_tableAt_11 rfl ?_
    refine lv_bipush (v := zI 23) hx hb dX1_tableAt_12 (by decide +kernel) ?_
    refine g_goi (vx_runSN (As := [.int (zI zj), .int (zI 0), .int (zI 23)]) (rest := []) ⟨hx, hb, hml, hown, hts⟩ (k_isWithin_f l G H zj 0 23 ⟨by omega, by omega⟩ ⟨by omega, by omega⟩ ⟨by omega, by omega⟩ (by omega)) ⟨va_cnB 3 hts gX1_tableAt_X4_isWithin_n60 rfl rfl rfl (hX.1.2.2.1 _ (by decide +kernel : Cond.methodLinkNest RX1 60 yX4_isWithin RX4 ∈ gNM)) (hts (.initialized RX4) (List.mem_cons_of_mem _ (List.mem_append_left _ (List.mem_of_getElem? (i := 2) rfl)))) hd_X4_isWithin.2 ⟨(Nat.le_of_ble_eq_true rfl), (Nat.le_of_ble_eq_true rfl)⟩, hts (.static yX4_isWithin) (List.mem_cons_of_mem _ (List.mem_append_left _ (List.mem_of_getElem? (i := 1) rfl))), trivial⟩ (g_pre hX hS) rfl rfl hl.1 rfl (lv_room (Nat.le_of_ble_eq_true rfl)) dX1_tableAt_14 ⟨(Nat.le_of_ble_eq_true rfl), (Nat.le_of_ble_eq_true rfl)⟩) hS (fun r_14 H_14 locs hp hS => ?_)
    obtain ⟨rfl, rfl⟩ := hp
    refine gz_if_eq (tgt := 24) hx hb (by decide) dX1_tableAt_17 (by decide) (fun c_17 => ?_) (fun c_17 => ?_)
    · refine lv_iconst (v := zI 0) hx hb dX1_tableAt_24 rfl ?_
      refine lv_istore_n (lv' := [(3, .int (zI 0)), (0, .ref mt), (1, .int (zI zq)), (2, .int (zI zj))]) hx hb dX1_tableAt_25 rfl hl (by decide) rfl (fun ls hl => ?_)
      refine lv_iload_n hx hb dX1_tableAt_26 rfl (lv_at hl 2 rfl) ?_
      refine lv_bipush (v := zI 24) hx hb dX1_tableAt_27 (by decide +kernel) ?_
      refine gz_imul hx hb dX1_tableAt_29 ?_
      refine lv_iload_n hx hb dX1_tableAt_30 rfl (lv_at hl 3 rfl) ?_
      refine gz_iadd hx hb dX1_tableAt_31 ?_
      refine lv_istore (lv' := [(4, .int (zI ((zq * 24) + zj))), (3, .int (zI 0)), (0, .ref mt), (1, .int (zI zq)), (2, .int (zI zj))]) hx hb dX1_tableAt_32 hl (by decide) rfl (fun ls hl => ?_)
      refine lv_iload_n hx hb dX1_tableAt_34 rfl (lv_at hl 1 rfl) ?_
      refine gz_if_eq (tgt := 63) hx hb (by decide) dX1_tableAt_35 (by decide) (fun c_35 => ?_) (fun c_35 => ?_)
      · refine lv_iconst (v := zI (-1)) hx hb dX1_tableAt_63 rfl ?_
        exact g_reti hx hb hr hlocks hS rfl (⟨rfl, rfl⟩) (Nat.le_of_ble_eq_true rfl) (Nat.le_of_ble_eq_true rfl) dX1_tableAt_64
      · omega
    · omega
theorem k_tableAt (l : Launch) (G : gG) (mt ra rb ta : Nat) (X : cX) (tb : Nat → Int32) (H : Heap) (hM : Mat G mt ra rb ta X tb H) (hX1 : xOK X) (zq zj : Int) (hq : -4 ≤ zq ∧ zq < 12) (hj : -4 ≤ zj ∧ zj < 24) (v : Int) (hv1 : (zq < 0 ∨ zj < 0) → v = -1) (hv2 : ∀ a b : Nat, zq = a → zj = b → tb (24 * a + b) = zI v) : gM l yX1_tableAt wsX1_tableAt rm_X1_tableAt [.ref mt, .int (zI zq), .int (zI zj)] G H (gi (fun r H1 => zI v = r ∧ H = H1)) gNo 0 0 := by
  by_cases h1 : zq < 0
  · rw [hv1 (Or.inl h1)]; exact k_tableAt_o1 l G mt ra rb ta X tb H hM hX1 zq zj ⟨hq.1, h1⟩ hj
  · by_cases h2 : zj < 0
    · rw [hv1 (Or.inr h2)]; exact k_tableAt_o2 l G mt ra rb ta X tb H hM hX1 zq zj ⟨by omega, hq.2⟩ ⟨hj.1, h2⟩
    · exact k_tableAt_in l G mt ra rb ta X tb H hM hX1 zq zj zq.toNat zj.toNat (by omega) (by omega) (by omega) (by omega) v (hv2 _ _ (by omega) (by omega))
set_option maxHeartbeats 4000000 in
set_option maxRecDepth 100000 in
theorem k_setTableAt (l : Launch) (G : gG) (mt ra rb ta : Nat) (X : cX) (tb : Nat → Int32) (H : Heap) (hM : Mat G mt ra rb ta X tb H) (hX1 : xOK X) (zq zj : Int) (q j : Nat) (hq : zq = q) (hj : zj = j) (hq12 : q < 12) (hj24 : j < 24) (v : Int32) : gM l yX1_setTableAt wsX1_setTableAt rm_X1_setTableAt [.ref mt, .int (zI zq), .int (zI zj), .int v] G H (gv (fun H1 => Mat G mt ra rb ta X (upd tb (24 * q + j) v) H1 ∧ gOnly [ta] H H1)) (gNo) 0 0 := by
  obtain ⟨hm, hhr, hta, gta, na1, na2, na3⟩ := id hM
  obtain ⟨hxn, hxf, hxg, hxh, hxhf, hxsl, hxor, hxrp⟩ := id hX1
  refine g_start (cc := cX1_setTableAt) (maxL := 5) (ret := none) (by decide +kernel) rfl (Nat.le_of_ble_eq_true rfl) ?_
  intro p e s m args below meth c F ls hl
  obtain ⟨hx, hb, hml, hr, hts, hown, hlocks, hxt, hH, hX, hin⟩ := F
  have hown : s.vm.findClass RX1 = some m.cls := hown
  have hS : va_S (gA G) s.heap H [] := by rw [hH]; exact va_S.rf
  have hl : lv_has ls 5 [(0, .ref mt), (1, .int (zI zq)), (2, .int (zI zj)), (3, .int v)] := hl
  refine lv_iload_n hx hb dX1_setTableAt_0 rfl (lv_at hl 1 rfl) ?_
  refine lv_bipush (v := zI 24) hx hb dX1_setTableAt_1 (by decide +kernel) ?_
  refine gz_imul hx hb dX1_setTableAt_3 ?_
  refine lv_iload_n hx hb dX1_setTableAt_4 rfl (lv_at hl 2 rfl) ?_
  refine gz_iadd hx hb dX1_setTableAt_5 ?_
  refine lv_istore (lv' := [(4, .int (zI ((zq * 24) + zj))), (0, .ref mt), (1, .int (zI zq)), (2, .int (zI zj)), (3, .int v)]) hx hb dX1_setTableAt_6 hl (by decide) rfl (fun ls hl => ?_)
  refine lv_iload hx hb dX1_setTableAt_8 (lv_at hl 0 rfl) ?_
  refine gz_if_lt (tgt := 31) hx hb ⟨by omega, by omega⟩ dX1_setTableAt_10 (by decide) (fun c_10 => ?_) (fun c_10 => ?_)
  · omega
  · refine lv_iload hx hb dX1_setTableAt_13 (lv_at hl 0 rfl) ?_
    refine lv_aload_n hx hb dX1_setTableAt_15 rfl (lv_at hl 1 rfl) ?_
    refine g_get hx hb hX hts (fun w h => (List.mem_cons_of_mem _ (List.mem_append_right _ h))) hown hm rfl 4 (by decide) (hts (.fieldLink RX1 30 "TuneCatalogue$Matching" "table" "[I") (List.mem_cons_of_mem _ (List.mem_append_left _ (List.mem_of_getElem? (i := 0) rfl)))) rfl dX1_setTableAt_16 ?_
    refine gz_alenI hx hb hX hta dX1_setTableAt_19 ?_
    refine gz_icmp_ge (tgt := 31) hx hb ⟨by omega, by omega⟩ (by decide) dX1_setTableAt_20 (by decide) (fun c_20 => ?_) (fun c_20 => ?_)
    · omega
    · refine lv_aload_n hx hb dX1_setTableAt_23 rfl (lv_at hl 1 rfl) ?_
      refine g_get hx hb hX hts (fun w h => (List.mem_cons_of_mem _ (List.mem_append_right _ h))) hown hm rfl 4 (by decide) (hts (.fieldLink RX1 30 "TuneCatalogue$Matching" "table" "[I") (List.mem_cons_of_mem _ (List.mem_append_left _ (List.mem_of_getElem? (i := 0) rfl)))) rfl dX1_setTableAt_24 ?_
      refine lv_iload hx hb dX1_setTableAt_27 (lv_at hl 0 rfl) ?_
      refine lv_iload_n hx hb dX1_setTableAt_29 rfl (lv_at hl 4 rfl) ?_
      refine gz_iast hx hb hX hS hta gta (24 * q + j) (by omega) (by omega) (by omega) dX1_setTableAt_30 (fun H_30 locs h_n hO hS => ?_)
      have hm := gat.only1 hm hO (Ne.symm na1)
      have hta : gat G ta (.inl (gI G, 288, .inl (upd tb (24 * q + j) v))) H_30 := h_n
      have hhr := hhr.only hO (nm1 (Ne.symm na2)) (nm1 (Ne.symm na3))
      exact g_retv hx hb hr hlocks hS (⟨⟨hm, hhr, hta, gta, na1, na2, na3⟩, hO⟩) (Nat.le_of_ble_eq_true rfl) (Nat.le_of_ble_eq_true rfl) dX1_setTableAt_31
set_option maxHeartbeats 4000000 in
set_option maxRecDepth 100000 in
theorem k_cheaper (l : Launch) (G : gG) (H : Heap) (a b : Int) (ha : -1 ≤ a ∧ a ≤ 100000) (hb1 : -1 ≤ b ∧ b ≤ 100000) : gM l yX1_cheaper wsX1_cheaper rm_X1_cheaper [.int (zI a), .int (zI b)] G H (gi (fun r H1 => zI (chp a b) = r ∧ H = H1)) (gNo) 0 0 := by
  refine g_start (cc := cX1_cheaper) (maxL := 2) (ret := (some .int)) (by decide +kernel) rfl (Nat.le_of_ble_eq_true rfl) ?_
  intro p e s m args below meth c F ls hl
  obtain ⟨hx, hb, hml, hr, hts, hown, hlocks, hxt, hH, hX, hin⟩ := F
  have hown : s.vm.findClass RX1 = some m.cls := hown
  have hS : va_S (gA G) s.heap H [] := by rw [hH]; exact va_S.rf
  have hl : lv_has ls 2 [(0, .int (zI a)), (1, .int (zI b))] := hl
  refine lv_iload_n hx hb dX1_cheaper_0 rfl (lv_at hl 0 rfl) ?_
  refine lv_iconst (v := zI (-1)) hx hb dX1_cheaper_1 rfl ?_
  refine gz_icmp_eq (tgt := 10) hx hb ⟨by omega, by omega⟩ (by decide) dX1_cheaper_2 (by decide) (fun c_2 => ?_) (fun c_2 => ?_)
  · refine lv_iload_n hx hb dX1_cheaper_10 rfl (lv_at hl 0 rfl) ?_
    refine lv_iload_n hx hb dX1_cheaper_11 rfl (lv_at hl 1 rfl) ?_
    refine gz_mmax hx hb (hml.trans hl.1.symm) hown (hts (.methodLink RX1 90 Lib.Math.max.name) (List.mem_cons_of_mem _ (List.mem_of_getElem? (i := 0) rfl))) (hts (.static Lib.Math.max.name) (List.mem_cons_of_mem _ (List.mem_of_getElem? (i := 1) rfl))) (hts (.initialized "java/lang/Math") (List.mem_cons_of_mem _ (List.mem_of_getElem? (i := 2) rfl))) (hts (.code Lib.Math.max.name Lib.Math.max.code 2 (some .int)) (List.mem_cons_of_mem _ (List.mem_of_getElem? (i := 3) rfl))) (Nat.le_of_ble_eq_true rfl) (Nat.le_of_ble_eq_true rfl) (Nat.le_of_ble_eq_true rfl) (Nat.le_of_ble_eq_true rfl) ⟨by omega, by omega⟩ ⟨by omega, by omega⟩ dX1_cheaper_12 ?_
    exact g_reti hx hb hr hlocks hS rfl (⟨by unfold chp; first | rw [if_pos (by omega)] | rw [if_neg (by omega)], rfl⟩) (Nat.le_of_ble_eq_true rfl) (Nat.le_of_ble_eq_true rfl) dX1_cheaper_15
  · refine lv_iload_n hx hb dX1_cheaper_5 rfl (lv_at hl 1 rfl) ?_
    refine lv_iconst (v := zI (-1)) hx hb dX1_cheaper_6 rfl ?_
    refine gz_icmp_ne (tgt := 16) hx hb ⟨by omega, by omega⟩ (by decide) dX1_cheaper_7 (by decide) (fun c_7 => ?_) (fun c_7 => ?_)
    · refine lv_iload_n hx hb dX1_cheaper_16 rfl (lv_at hl 0 rfl) ?_
      refine lv_iload_n hx hb dX1_cheaper_17 rfl (lv_at hl 1 rfl) ?_
      refine gz_mmin hx hb (hml.trans hl.1.symm) hown (hts (.methodLink RX1 93 Lib.Math.min.name) (List.mem_cons_of_mem _ (List.mem_of_getElem? (i := 4) rfl))) (hts (.static Lib.Math.min.name) (List.mem_cons_of_mem _ (List.mem_of_getElem? (i := 5) rfl))) (hts (.initialized "java/lang/Math") (List.mem_cons_of_mem _ (List.mem_of_getElem? (i := 2) rfl))) (hts (.code Lib.Math.min.name Lib.Math.min.code 2 (some .int)) (List.mem_cons_of_mem _ (List.mem_of_getElem? (i := 6) rfl))) (Nat.le_of_ble_eq_true rfl) (Nat.le_of_ble_eq_true rfl) (Nat.le_of_ble_eq_true rfl) (Nat.le_of_ble_eq_true rfl) ⟨by omega, by omega⟩ ⟨by omega, by omega⟩ dX1_cheaper_18 ?_
      exact g_reti hx hb hr hlocks hS rfl (⟨by unfold chp; first | rw [if_pos (by omega)] | rw [if_neg (by omega)], rfl⟩) (Nat.le_of_ble_eq_true rfl) (Nat.le_of_ble_eq_true rfl) dX1_cheaper_21
    · refine lv_iload_n hx hb dX1_cheaper_10 rfl (lv_at hl 0 rfl) ?_
      refine lv_iload_n hx hb dX1_cheaper_11 rfl (lv_at hl 1 rfl) ?_
      refine gz_mmax hx hb (hml.trans hl.1.symm) hown (hts (.methodLink RX1 90 Lib.Math.max.name) (List.mem_cons_of_mem _ (List.mem_of_getElem? (i := 0) rfl))) (hts (.static Lib.Math.max.name) (List.mem_cons_of_mem _ (List.mem_of_getElem? (i := 1) rfl))) (hts (.initialized "java/lang/Math") (List.mem_cons_of_mem _ (List.mem_of_getElem? (i := 2) rfl))) (hts (.code Lib.Math.max.name Lib.Math.max.code 2 (some .int)) (List.mem_cons_of_mem _ (List.mem_of_getElem? (i := 3) rfl))) (Nat.le_of_ble_eq_true rfl) (Nat.le_of_ble_eq_true rfl) (Nat.le_of_ble_eq_true rfl) (Nat.le_of_ble_eq_true rfl) ⟨by omega, by omega⟩ ⟨by omega, by omega⟩ dX1_cheaper_12 ?_
      exact g_reti hx hb hr hlocks hS rfl (⟨by unfold chp; first | rw [if_pos (by omega)] | rw [if_neg (by omega)], rfl⟩) (Nat.le_of_ble_eq_true rfl) (Nat.le_of_ble_eq_true rfl) dX1_cheaper_15
