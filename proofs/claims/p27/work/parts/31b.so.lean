/-! ===== costs: what holds of them ===== -/
theorem cost_le {X : cX} (hX : xOK X) (h1 : 1 ≤ xh X) {k : Nat} {v : Int} (hk : k < xn X) (hp : RP X (xh X - 1) k v) : costI X ≠ -1 ∧ costI X ≤ v := by
  rcases lastC_Mn hX h1 (xn X) with ⟨-, h⟩ | ⟨h0, -, h⟩
  · exact absurd ⟨k, hk, hp⟩ (h v)
  · have h2 := h v ⟨k, hk, hp⟩
    show lastC X (xn X) ≠ -1 ∧ lastC X (xn X) ≤ v
    exact ⟨by omega, h2⟩
theorem RP_0 (X : cX) : RP X 0 0 0 := RP_iff.mpr (Or.inl ⟨rfl, rfl, rfl⟩)
theorem cost_0 {X : cX} (hX : xOK X) (h1 : 1 ≤ xh X) {k : Nat} (hk : k < xn X) (hp : RP X (xh X - 1) k 0) : costI X = 0 := by
  have h2 := cost_le hX h1 hk hp
  have h3 : -1 ≤ costI X := (lastC_rng hX (xn X)).1
  omega
theorem cost_one {X : cX} (hX : xOK X) (hn : 1 ≤ xn X) (h : xh X = 1) : costI X = 0 := by
  refine cost_0 hX (by omega) (k := 0) hn ?_
  rw [h]; exact RP_0 X
theorem cost_h0 {X : cX} (h : xh X = 0) : costI X = -1 := lastC_h0 h _
theorem RR_far {X : cX} : ∀ (n q j : Nat) (v : Int), RR X n q j v → q ≤ 3 * j
  | 0, q, j, v, h => by
    have h : q = 0 ∧ j = 0 ∧ v = 0 := h
    omega
  | n + 1, q, j, v, h => by
    rcases h with h | ⟨a, b, w, h1, h2, -⟩
    · omega
    · have ih := RR_far n a b w h1
      unfold mvk at h2; omega
theorem cost_far {X : cX} (hX : xOK X) (h : costI X ≠ -1) : xh X ≤ 3 * xn X := by
  rcases Nat.eq_zero_or_pos (xh X) with h0 | h0
  · omega
  · rcases lastC_Mn hX h0 (xn X) with ⟨h1, -⟩ | ⟨-, ⟨k, hk, n, hr⟩, -⟩
    · exact absurd h1 h
    · have := RR_far n _ k _ hr
      omega
theorem mv_0 {X : cX} {q : Nat} (h : xhf X (q + 1) - xhf X q = xf X (q + 1) - xf X q) : mv X q q (q + 1) (q + 1) = 0 := by
  unfold mv
  rw [h, Int.sub_self, Nat.sub_self]
  show xsl X * absI 0 + 0 + 0 = 0
  have e : absI 0 = 0 := by unfold absI; simp
  rw [e, Int.mul_zero]; rfl
theorem RP_diag {X : cX} : ∀ (q : Nat), (∀ k, k < q → xhf X (k + 1) - xhf X k = xf X (k + 1) - xf X k) → RP X q q 0
  | 0, _ => RP_0 X
  | q + 1, h => by
    have ih := RP_diag q (fun k hk => h k (by omega))
    exact RP_iff.mpr (Or.inr ⟨q, q, 0, ih, by unfold mvk; omega, by rw [mv_0 (h q (by omega))]; rfl⟩)
theorem cost_hum {X : cX} (hX : xOK X) (h1 : 1 ≤ xh X) (hn : xh X ≤ xn X) (h : ∀ k, k + 1 < xh X → xhf X (k + 1) - xhf X k = xf X (k + 1) - xf X k) : costI X = 0 :=
  cost_0 hX h1 (k := xh X - 1) (by omega) (RP_diag _ (fun k hk => h k (by omega)))
/-! ===== families: the lowest of the lowest ===== -/
theorem loB_spec (R : Nat) : ∀ d k, (loB R k d < d → R.testBit (k + loB R k d) = true) ∧ ∀ j, j < loB R k d → R.testBit (k + j) = false
  | 0, k => ⟨fun h => absurd h (Nat.not_lt_zero _), fun j h => absurd h (Nat.not_lt_zero _)⟩
  | d + 1, k => by
    obtain ⟨i1, i2⟩ := loB_spec R d (k + 1)
    unfold loB
    cases e : R.testBit k
    · rw [if_neg (by decide)]
      refine ⟨fun h => ?_, fun j h => ?_⟩
      · rw [show k + (loB R (k + 1) d + 1) = k + 1 + loB R (k + 1) d by omega]; exact i1 (by omega)
      · rcases Nat.eq_zero_or_pos j with z | z
        · rw [z]; exact e
        · rw [show k + j = k + 1 + (j - 1) by omega]; exact i2 (j - 1) (by omega)
    · rw [if_pos rfl]
      exact ⟨fun _ => e, fun j h => absurd h (Nat.not_lt_zero _)⟩
theorem loB_all {R : Nat} : ∀ d k, (∀ j, j < d → R.testBit (k + j) = false) → loB R k d = d
  | 0, _, _ => rfl
  | d + 1, k, h => by
    have e : R.testBit k = false := h 0 (by omega)
    unfold loB
    rw [e, if_neg (by decide), loB_all d (k + 1) (fun j hj => by rw [show k + 1 + j = k + (j + 1) by omega]; exact h (j + 1) (by omega))]
theorem famL_le (lk : Nat → Nat) (n t : Nat) : famL lk n t ≤ t := loB_le _ _ _
theorem famL_idem {lk : Nat → Nat} {n t : Nat} (hlk : lkOK lk n) (ht : t < n) : famL lk n (famL lk n t) = famL lk n t := by
  have h1 := loB_spec (itW lk n (n - 1) (2 ^ t)) t 0
  have hle := famL_le lk n t
  have hft : famL lk n t = loB (itW lk n (n - 1) (2 ^ t)) 0 t := rfl
  rw [← hft] at h1
  generalize hf : famL lk n t = f at h1 hle
  rcases Nat.lt_or_ge f t with g | g
  · have hb := h1.1 g
    rw [Nat.zero_add] at hb
    have c1 := clo_itW hlk ht
    have c2 := clo_itW hlk (t := f) (by omega)
    refine loB_all f 0 (fun j hj => ?_)
    cases e : (itW lk n (n - 1) (2 ^ f)).testBit (0 + j)
    · rfl
    · have := c2.2.2 _ hb c1.2.1 (0 + j) e
      rw [h1.2 j hj] at this; cases this
  · have e : f = t := by omega
    rw [e] at hf ⊢
    exact hf
/-! ===== common runs ===== -/
theorem cm2_le {S : cS} {i j a b : Nat} : cm2 S i j a b ≤ stn S i - 1 := by
  have h1 := cmn_le (zf (stp S i)) (zf (stp S j)) (Nat.min (stn S i - a) (stn S j - b) - 1) a b
  have h2 : Nat.min (stn S i - a) (stn S j - b) ≤ stn S i - a := Nat.min_le_left _ _
  unfold cm2; omega
theorem cmn_symm (f g : Nat → Int32) : ∀ L i j, cmn f g i j L = cmn g f j i L
  | 0, _, _ => rfl
  | L + 1, i, j => by
    unfold cmn
    rw [cmn_symm f g L (i + 1) (j + 1)]
    by_cases h : f (i + 1) - f i = g (j + 1) - g j
    · rw [if_pos h, if_pos h.symm]
    · rw [if_neg h, if_neg (fun e => h e.symm)]
theorem cm2_symm (S : cS) (i j a b : Nat) : cm2 S i j a b = cm2 S j i b a := by
  unfold cm2
  rw [cmn_symm, show Nat.min (stn S i - a) (stn S j - b) = Nat.min (stn S j - b) (stn S i - a) from Nat.min_comm _ _]
theorem shared_symm_le (S : cS) (i j : Nat) : sharedF S i j ≤ sharedF S j i :=
  mxx_lub (fun a b ha hb => by rw [cm2_symm]; exact mxx_ge hb ha)
theorem shared_symm (S : cS) (i j : Nat) : sharedF S i j = sharedF S j i := Nat.le_antisymm (shared_symm_le S i j) (shared_symm_le S j i)
theorem shared_le (S : cS) (i j : Nat) : sharedF S i j ≤ stn S i - 1 := mxx_lub (fun _ _ _ _ => cm2_le)
theorem shared_self {S : cS} {k : Nat} (h : 1 ≤ stn S k) : sharedF S k k = stn S k - 1 := by
  refine Nat.le_antisymm (shared_le S k k) ?_
  have h1 := mxx_ge (F := cm2 S k k) (n := stn S k) (m := stn S k) (a := 0) (b := 0) (by omega) (by omega)
  have e : cm2 S k k 0 0 = stn S k - 1 := by
    unfold cm2
    rw [Nat.sub_zero, show Nat.min (stn S k) (stn S k) = stn S k from Nat.min_self _]
    exact (cmn_full _ _ _).mpr (fun _ _ => rfl)
  rw [e] at h1
  exact h1
/-! ===== contours ===== -/
theorem lcF_bit (S : cS) (j : Nat) : ∀ n, (lcF S n).testBit j = true ↔ j < n ∧ lkc S j
  | 0 => by
    unfold lcF
    rw [Nat.zero_testBit]
    exact ⟨fun h => (by cases h), fun h => absurd h.1 (Nat.not_lt_zero _)⟩
  | n + 1 => by
    have ih := lcF_bit S j n
    unfold lcF
    by_cases h : lkc S n
    · rw [if_pos (bB_t h), Nat.testBit_or, Bool.or_eq_true, ih, Nat.testBit_two_pow, decide_eq_true_iff]
      constructor
      · rintro (⟨a, b⟩ | e)
        · exact ⟨by omega, b⟩
        · rw [← e]; exact ⟨by omega, h⟩
      · rintro ⟨a, b⟩
        rcases Nat.lt_or_ge j n with g | g
        · exact Or.inl ⟨g, b⟩
        · exact Or.inr (by omega)
    · rw [if_neg (fun e => h (bB_iff.mp e)), ih]
      constructor
      · rintro ⟨a, b⟩; exact ⟨by omega, b⟩
      · rintro ⟨a, b⟩
        refine ⟨?_, b⟩
        rcases Nat.lt_or_ge j n with g | g
        · exact g
        · rw [show j = n by omega] at b; exact absurd b h
/-! ===== what is told of each tune ===== -/
theorem costV_rng {S : cS} (hI : sInv S) (k : Nat) : costV S k = xE ∨ (-1 ≤ costV S k ∧ costV S k ≤ 36000) := by
  unfold costV
  split
  · exact Or.inl rfl
  · exact Or.inr (lastC_rng (tX_ok hI k) _)
theorem costV_ge {S : cS} (hI : sInv S) (k : Nat) : 0 ≤ costV S k ↔ mtB S k = true := by
  have h := lastC_rng (tX_ok hI k) (stn S k)
  have h : -1 ≤ costI (tX S k) ∧ costI (tX S k) ≤ 36000 := h
  unfold mtB prc costV
  rw [decide_eq_true_iff]
  cases srt S k
  · rw [if_neg (by decide), if_neg (by decide)]; omega
  · rw [if_pos rfl, if_pos rfl]
    constructor
    · intro h; have h : (0 : Int) ≤ -99999 := h; omega
    · intro h; exact absurd rfl h
theorem costV_1 {S : cS} (hI : sInv S) {k : Nat} (hk : k < sn S) (h : costV S k = -1) : shn S ≠ 1 := by
  intro e
  have h1 := cost_one (tX_ok hI k) (hI.2.1 k hk).1 e
  unfold costV at h
  split at h
  · have h : (-99999 : Int) = -1 := h; omega
  · omega
theorem costV_h0 {S : cS} (k : Nat) (h : shn S = 0) : costV S k < 0 := by
  unfold costV
  split
  · show (-99999 : Int) < 0; omega
  · rw [cost_h0 (X := tX S k) h]; omega
theorem costV_lc {S : cS} (hI : sInv S) {k n : Nat} (h : (lcF S n).testBit k = true) : costV S k ≠ xE := by
  have h1 := ((lcF_bit S k n).mp h).2.1
  have h2 : -1 ≤ costI (tX S k) := (lastC_rng (tX_ok hI k) _).1
  unfold costV
  rw [h1, if_neg (by decide)]
  intro e
  have e : costI (tX S k) = -99999 := e
  omega
theorem costV_far {S : cS} (hI : sInv S) {k : Nat} (h : 0 ≤ costV S k) : shn S ≤ stn S k + 2 * stn S k := by
  have h2 : costI (tX S k) ≠ -1 := by
    intro e
    unfold costV at h
    split at h
    · have h : (0 : Int) ≤ -99999 := h; omega
    · omega
  have h3 := cost_far (tX_ok hI k) h2
  have h3 : shn S ≤ 3 * stn S k := h3
  omega
/-! ===== ranks: each matched tune once ===== -/
theorem costV_prc {S : cS} {k : Nat} (h : mtB S k = true) : costV S k = prc S k := by
  unfold mtB at h
  have h := of_decide_eq_true h
  unfold prc at h ⊢
  unfold costV
  cases e : srt S k
  · rfl
  · rw [e, if_pos rfl] at h; exact absurd rfl h
/-- the tunes of the ranks below r, as a set -/
def fdM (S : cS) (M r : Nat) : Prop := M < 65536 ∧ ∀ k, M.testBit k = true ↔ k < sn S ∧ mtB S k = true ∧ rkF S k < r
theorem fdM_0 (S : cS) : fdM S 0 0 := ⟨by omega, fun k => by
  rw [Nat.zero_testBit]
  exact ⟨fun h => (by cases h), fun h => absurd h.2.2 (Nat.not_lt_zero _)⟩⟩
theorem fdM_s {S : cS} (hI : sInv S) {M r k0 : Nat} (h : fdM S M r) (hf : fdF S (r : Int) 0 (sn S) = some k0) : k0 < sn S ∧ fdM S (M ||| 2 ^ k0) (r + 1) := by
  have h16 := hI.1
  obtain ⟨-, f2, f3, f4⟩ := fdF_prop _ _ _ hf
  have hk : k0 < sn S := by omega
  have hm : mtB S k0 = true := decide_eq_true f3
  have hr : rkF S k0 = r := by omega
  refine ⟨hk, or_lt (k := 16) h.1 (p2_lt (by omega)), fun k => ?_⟩
  rw [Nat.testBit_or, Bool.or_eq_true, h.2 k, Nat.testBit_two_pow, decide_eq_true_iff]
  constructor
  · rintro (⟨a, b, c⟩ | e)
    · exact ⟨a, b, by omega⟩
    · rw [← e]; exact ⟨hk, hm, by omega⟩
  · rintro ⟨a, b, c⟩
    rcases Nat.lt_or_ge (rkF S k) r with g | g
    · exact Or.inl ⟨a, b, g⟩
    · exact Or.inr (rk_inj hk a hm b (by omega))
theorem fdM_end {S : cS} {M k : Nat} (h : fdM S M (manyF S)) (hk : k < sn S) : M.testBit k = mtB S k := by
  cases e : mtB S k
  · cases e2 : M.testBit k
    · rfl
    · have := ((h.2 k).mp e2).2.1
      rw [e] at this; cases this
  · exact (h.2 k).mpr ⟨hk, e, rk_lt hk e⟩
/-! ===== a tune that is hummed ===== -/
/-- the same tunes, another hum -/
def sameT (S S2 : cS) : Prop := sn S2 = sn S ∧ stn S2 = stn S ∧ stp S2 = stp S ∧ stl S2 = stl S ∧ srt S2 = srt S
/-- the hum is the first n notes of tune t, from 30 on -/
def humT (S S2 : cS) (t n : Nat) : Prop := sInv S2 ∧ sameT S S2 ∧ shn S2 = n ∧ ∀ q, q < n → shf S2 q = 30 + (stp S t q - stp S t 0)
theorem humT_0 {S : cS} (hI : sInv S) (t : Nat) : humT S (sHush S) t 0 := ⟨sI_hush hI, ⟨rfl, rfl, rfl, rfl, rfl⟩, rfl, fun q h => absurd h (Nat.not_lt_zero _)⟩
theorem humT_s {S S2 : cS} {t n : Nat} {p : Int} (h : humT S S2 t n) (h12 : n < 12) (hp : p = 30 + (stp S t n - stp S t 0)) (h60 : 0 ≤ p ∧ p ≤ 60) : humT S (sHum S2 p) t (n + 1) := by
  obtain ⟨h1, h2, h3, h4⟩ := h
  refine ⟨sI_hum h1 h60 (by omega), h2, by show shn S2 + 1 = n + 1; omega, fun q hq => ?_⟩
  show va_up (shf S2) (shn S2) p q = _
  by_cases e : q = shn S2
  · rw [e, vaup_at, hp, h3]
  · rw [vaup_ne _ _ e]; exact h4 q (by omega)
theorem humT_cost {S S2 : cS} {t n : Nat} (h : humT S S2 t n) (h1 : 1 ≤ n) (hn : n ≤ stn S t) : costI (tX S2 t) = 0 := by
  obtain ⟨hI, ⟨e1, e2, e3, e4, e5⟩, h3, h4⟩ := h
  refine cost_hum (tX_ok hI t) (by show 1 ≤ shn S2; omega) (by show shn S2 ≤ stn S2 t; rw [e2]; omega) (fun k hk => ?_)
  have hk : k + 1 < shn S2 := hk
  show shf S2 (k + 1) - shf S2 k = stp S2 t (k + 1) - stp S2 t k
  rw [e3, h4 _ (by omega), h4 _ (by omega)]
  omega
theorem humT_step {S S2 : cS} {t n q : Nat} (h : humT S S2 t n) (hq : q + 1 < n) : zf (stp S2 t) (q + 1) - zf (stp S2 t) q = zf (shf S2) (q + 1) - zf (shf S2) q := by
  obtain ⟨hI, ⟨e1, e2, e3, e4, e5⟩, h3, h4⟩ := h
  show zI _ - zI _ = zI _ - zI _
  rw [zI_sub, zI_sub, e3, h4 _ (by omega), h4 _ (by omega)]
  congr 1; omega
theorem humT_lc {S S2 : cS} {t n : Nat} (h : humT S S2 t n) (ht : t < sn S) (hr : srt S t = false) (hn : n ≤ stn S t) : (lcF S2 (sn S2)).testBit t = true := by
  have h0 := h
  obtain ⟨hI, ⟨e1, e2, e3, e4, e5⟩, h3, h4⟩ := h
  refine (lcF_bit S2 t (sn S2)).mpr ⟨by omega, by rw [e5]; exact hr, by rw [e2]; omega, fun q hq => ?_⟩
  rw [humT_step h0 (by omega)]
theorem humT_mt {S S2 : cS} {t n : Nat} (h : humT S S2 t n) (h1 : 1 ≤ n) (hn : n ≤ stn S t) (hr : srt S t = false) : prc S2 t = 0 := by
  unfold prc
  rw [show srt S2 t = false by rw [h.2.1.2.2.2.2]; exact hr, if_neg (by decide)]
  exact humT_cost h h1 hn
theorem humT_many {S S2 : cS} {t n : Nat} (h : humT S S2 t n) (h1 : 1 ≤ n) (hn : n ≤ stn S t) (ht : t < sn S) (hr : srt S t = false) : 0 < manyF S2 := by
  have hm : mtB S2 t = true := decide_eq_true (by rw [humT_mt h h1 hn hr]; omega)
  have := rk_lt (S := S2) (t := t) (by rw [h.2.1.1]; exact ht) hm
  omega
theorem humT_first {S S2 : cS} {t n k0 : Nat} (h : humT S S2 t n) (h1 : 1 ≤ n) (hn : n ≤ stn S t) (ht : t < sn S) (hr : srt S t = false) (hf : fdF S2 0 0 (sn S2) = some k0) : k0 < sn S2 ∧ costV S2 k0 = 0 := by
  have h0 := humT_mt h h1 hn hr
  obtain ⟨-, f2, f3, f4⟩ := fdF_prop _ _ _ hf
  have hm : mtB S2 k0 = true := decide_eq_true f3
  have hmt : mtB S2 t = true := decide_eq_true (by rw [h0]; omega)
  refine ⟨by omega, ?_⟩
  rw [costV_prc hm]
  have hr := prc_rng h.1 k0
  apply Classical.byContradiction
  intro hne
  have := rk_less (S := S2) (a := t) (b := k0) (by rw [h.2.1.1]; exact ht) hmt (Or.inl (by omega))
  omega
theorem humT_places {S S2 : cS} {t n st : Nat} (h : humT S S2 t n) (hn : n ≤ stn S t) (ht : t < sn S) (hr : srt S t = false) (h1 : 1 ≤ st) (hst : st + 1 ≤ n) : 0 < (plA S2 st (sn S2)).length := by
  have h0 := h
  obtain ⟨hI, ⟨e1, e2, e3, e4, e5⟩, h3, h4⟩ := h
  have h24 := (hI.2.1 t (by omega)).2
  have hs9 : stn S2 t = stn S t := by rw [e2]
  rw [← plG_plA hI st (sn S2) (Nat.le_refl _), plG_len]
  have hb : pB S2 st (24 * t + (n - 1 - st)) = true := by
    have hs : stn S2 t = stn S t := by rw [e2]
    have d1 : (24 * t + (n - 1 - st)) / 24 = t := by omega
    have d2 : (24 * t + (n - 1 - st)) % 24 = n - 1 - st := by omega
    unfold pB
    rw [d1, d2, e5, hr, decide_eq_true (by omega)]
    have hp : pcd S2 st t (n - 1 - st) = true := by
      refine (pcd_iff (by omega) h1).mpr ⟨by omega, fun q hq => ?_⟩
      rw [h3, show n - 1 - st + q + 1 = (n - 1 - st + q) + 1 by omega]
      exact humT_step h0 (by omega)
    rw [hp]; rfl
  have := ctB_lt (p := fun _ => false) (q := pB S2 st) (n := 24 * sn S2) (fun k _ h => by cases h) ⟨24 * t + (n - 1 - st), by omega, hb, rfl⟩
  omega
