/-! ===== the longest common run, two ways ===== -/
def msh (S : cS) (i j : Nat) : Nat → Nat
  | 0 => 0
  | k + 1 => max (msh S i j k) (cm2 S i j (k / 24) (k % 24))
theorem cm2_0 {S : cS} {i j a b : Nat} (h : stn S i ≤ a ∨ stn S j ≤ b) : cm2 S i j a b = 0 := by
  unfold cm2
  have e : Nat.min (stn S i - a) (stn S j - b) = 0 := by
    rcases h with h | h
    · rw [Nat.sub_eq_zero_of_le h]; exact Nat.zero_min _
    · rw [Nat.sub_eq_zero_of_le h]; exact Nat.min_zero _
  rw [e]; rfl
theorem mx_ge {F : Nat → Nat} {a : Nat} : ∀ {m b : Nat}, b < m → F b ≤ mx F a m
  | 0, _, h => absurd h (Nat.not_lt_zero _)
  | m + 1, b, h => by
    unfold mx
    rcases Nat.lt_or_ge b m with g | g
    · have := mx_ge (F := F) (a := a) g; omega
    · rw [show b = m by omega]; omega
theorem mx_ge0 (F : Nat → Nat) (a : Nat) : ∀ m, a ≤ mx F a m
  | 0 => Nat.le_refl _
  | m + 1 => by
    have := mx_ge0 F a m
    unfold mx; omega
theorem mxx_ge {F : Nat → Nat → Nat} {m : Nat} : ∀ {n a b : Nat}, a < n → b < m → F a b ≤ mxx F m n
  | 0, _, _, h, _ => absurd h (Nat.not_lt_zero _)
  | n + 1, a, b, h, hb => by
    unfold mxx
    rcases Nat.lt_or_ge a n with g | g
    · exact Nat.le_trans (mxx_ge g hb) (mx_ge0 _ _ _)
    · rw [show a = n by omega]; exact mx_ge hb
theorem mx_lub {F : Nat → Nat} {a B : Nat} (ha : a ≤ B) : ∀ {m : Nat}, (∀ b, b < m → F b ≤ B) → mx F a m ≤ B
  | 0, _ => ha
  | m + 1, h => by
    have ih := mx_lub (F := F) ha (m := m) (fun b hb => h b (by omega))
    have := h m (by omega)
    unfold mx; omega
theorem mxx_lub {F : Nat → Nat → Nat} {m B : Nat} : ∀ {n : Nat}, (∀ a b, a < n → b < m → F a b ≤ B) → mxx F m n ≤ B
  | 0, _ => Nat.zero_le _
  | n + 1, h => mx_lub (mxx_lub (fun a b ha hb => h a b (by omega) hb)) (fun b hb => h n b (by omega) hb)
theorem msh_ge {S : cS} {i j : Nat} : ∀ {m k : Nat}, k < m → cm2 S i j (k / 24) (k % 24) ≤ msh S i j m
  | 0, _, h => absurd h (Nat.not_lt_zero _)
  | m + 1, k, h => by
    unfold msh
    rcases Nat.lt_or_ge k m with g | g
    · have := msh_ge (S := S) (i := i) (j := j) g; omega
    · rw [show k = m by omega]; omega
theorem msh_lub {S : cS} {i j B : Nat} (h : ∀ a b, cm2 S i j a b ≤ B) : ∀ m, msh S i j m ≤ B
  | 0 => Nat.zero_le _
  | m + 1 => by
    have ih := msh_lub h m
    have := h (m / 24) (m % 24)
    unfold msh; omega
theorem msh_eq {S : cS} {i j : Nat} (hi : stn S i ≤ 24) (hj : stn S j ≤ 24) : msh S i j 576 = sharedF S i j := by
  apply Nat.le_antisymm
  · refine msh_lub (fun a b => ?_) 576
    by_cases h : a < stn S i ∧ b < stn S j
    · exact mxx_ge h.1 h.2
    · rw [cm2_0 (by omega)]; exact Nat.zero_le _
  · refine mxx_lub (fun a b ha hb => ?_)
    have h := msh_ge (S := S) (i := i) (j := j) (m := 576) (k := 24 * a + b) (by omega)
    rw [show (24 * a + b) / 24 = a by omega, show (24 * a + b) % 24 = b by omega] at h
    exact h
/-! ===== the places, counted ===== -/
def pcd (S : cS) (st i k : Nat) : Bool := decide (cmn (zf (stp S i)) (zf (shf S)) k (shn S - 1 - st) (Nat.min (stn S i - k) (shn S - (shn S - 1 - st)) - 1) = st)
def pB (S : cS) (st g : Nat) : Bool := decide (g % 24 < stn S (g / 24)) && pcd S st (g / 24) (g % 24) && !srt S (g / 24)
def plG (S : cS) (st : Nat) : Nat → List Nat
  | 0 => []
  | g + 1 => if pB S st g then plG S st g ++ [100 * (g / 24) + g % 24] else plG S st g
theorem plG_s (S : cS) (st g : Nat) : plG S st (g + 1) = if pB S st g then plG S st g ++ [100 * (g / 24) + g % 24] else plG S st g := rfl
theorem plG_in {S : cS} {st i : Nat} (hi : stn S i ≤ 24) : ∀ m, m ≤ 24 → plG S st (24 * i + m) = plG S st (24 * i) ++ (if srt S i then [] else plT S st i (Nat.min m (stn S i)))
  | 0, _ => by
    have e : Nat.min 0 (stn S i) = 0 := Nat.zero_min _
    rw [e, Nat.add_zero, plT]; simp
  | m + 1, hm => by
    have ih := plG_in (st := st) hi m (by omega)
    have d1 : (24 * i + m) / 24 = i := by omega
    have d2 : (24 * i + m) % 24 = m := by omega
    show plG S st (24 * i + m + 1) = _
    rw [plG_s S st (24 * i + m), ih]
    unfold pB
    rw [d1, d2]
    cases e : srt S i
    · rcases Nat.lt_or_ge m (stn S i) with g | g
      · have e1 : Nat.min m (stn S i) = m := Nat.min_eq_left (by omega)
        have e2 : Nat.min (m + 1) (stn S i) = m + 1 := Nat.min_eq_left (by omega)
        rw [e1, e2, decide_eq_true g]
        simp only [Bool.true_and, Bool.not_false, Bool.and_true, Bool.false_eq_true, if_false]
        rw [plT]
        unfold pcd
        by_cases h : cmn (zf (stp S i)) (zf (shf S)) m (shn S - 1 - st) (Nat.min (stn S i - m) (shn S - (shn S - 1 - st)) - 1) = st
        · rw [if_pos h, if_pos (decide_eq_true h), List.append_assoc]
        · rw [if_neg h, if_neg (by rw [decide_eq_false h]; decide)]
      · have e1 : Nat.min m (stn S i) = stn S i := Nat.min_eq_right (by omega)
        have e2 : Nat.min (m + 1) (stn S i) = stn S i := Nat.min_eq_right (by omega)
        rw [e1, e2, decide_eq_false (by omega)]
        simp
    · simp
theorem plG_plA {S : cS} (hI : sInv S) (st : Nat) : ∀ i, i ≤ sn S → plG S st (24 * i) = plA S st i
  | 0, _ => rfl
  | i + 1, hi => by
    have h24 := (hI.2.1 i (by omega)).2
    have h := plG_in (st := st) h24 24 (Nat.le_refl _)
    have e1 : Nat.min 24 (stn S i) = stn S i := Nat.min_eq_right h24
    rw [e1] at h
    rw [show 24 * (i + 1) = 24 * i + 24 by omega, h, plG_plA hI st i (by omega)]
    show _ = if srt S i then plA S st i else plA S st i ++ plT S st i (stn S i)
    cases srt S i <;> simp
theorem plG_len (S : cS) (st : Nat) : ∀ g, (plG S st g).length = ctB (pB S st) g
  | 0 => rfl
  | g + 1 => by
    have ih := plG_len S st g
    rw [plG_s]
    unfold ctB
    cases pB S st g
    · simp [ih]
    · simp [ih]
theorem plG_get {S : cS} {st g : Nat} (h : pB S st g = true) : ∀ d, (plG S st (g + 1 + d)).getD (ctB (pB S st) g) 0 = 100 * (g / 24) + g % 24
  | 0 => by
    show (plG S st (g + 1)).getD _ _ = _
    rw [plG_s, if_pos h, ← plG_len]
    simp [List.getD_eq_getElem?_getD]
  | d + 1 => by
    have ih := plG_get h d
    have hl : ctB (pB S st) g < (plG S st (g + 1 + d)).length := by
      rw [plG_len]
      have h1 : ctB (pB S st) (g + 1) ≤ ctB (pB S st) (g + 1 + d) := by
        clear ih
        induction d with
        | zero => exact Nat.le_refl _
        | succ d ihd =>
          refine Nat.le_trans ihd ?_
          show _ ≤ ctB (pB S st) (g + 1 + d) + if pB S st (g + 1 + d) then 1 else 0
          exact Nat.le_add_right _ _
      have h2 : ctB (pB S st) (g + 1) = ctB (pB S st) g + 1 := by
        rw [ctB, if_pos h]
      omega
    show (plG S st (g + 1 + d + 1)).getD _ _ = _
    rw [plG_s]
    split
    · simp only [List.getD_eq_getElem?_getD] at ih ⊢
      rw [List.getElem?_append_left hl]; exact ih
    · exact ih
theorem cmn_full {f g : Nat → Int32} : ∀ (L i j : Nat), cmn f g i j L = L ↔ ∀ q, q < L → f (i + q + 1) - f (i + q) = g (j + q + 1) - g (j + q)
  | 0, _, _ => by
    unfold cmn
    exact ⟨fun _ q h => absurd h (Nat.not_lt_zero _), fun _ => rfl⟩
  | L + 1, i, j => by
    unfold cmn
    by_cases h : f (i + 1) - f i = g (j + 1) - g j
    · rw [if_pos h]
      have ih := cmn_full (f := f) (g := g) L (i + 1) (j + 1)
      constructor
      · intro e q hq
        rcases Nat.eq_zero_or_pos q with z | z
        · subst z; exact h
        · have := ih.mp (by omega) (q - 1) (by omega)
          rw [show i + 1 + (q - 1) = i + q by omega, show j + 1 + (q - 1) = j + q by omega] at this
          exact this
      · intro e
        have := ih.mpr (fun q hq => by
          have := e (q + 1) (by omega)
          rw [show i + (q + 1) = i + 1 + q by omega, show j + (q + 1) = j + 1 + q by omega] at this
          exact this)
        omega
    · rw [if_neg h]
      exact ⟨fun e => by omega, fun e => absurd (e 0 (by omega)) h⟩
theorem pcd_iff {S : cS} {st i k : Nat} (hst : st + 1 ≤ shn S) (h1 : 1 ≤ st) : pcd S st i k = true ↔ (k + st < stn S i ∧ ∀ q, q < st → zf (stp S i) (k + q + 1) - zf (stp S i) (k + q) = zf (shf S) (shn S - 1 - st + q + 1) - zf (shf S) (shn S - 1 - st + q)) := by
  unfold pcd
  rw [decide_eq_true_iff]
  have e : shn S - (shn S - 1 - st) = st + 1 := by omega
  rw [e]
  by_cases h : k + st < stn S i
  · have e2 : Nat.min (stn S i - k) (st + 1) = st + 1 := Nat.min_eq_right (by omega)
    rw [e2, Nat.add_sub_cancel]
    exact ⟨fun z => ⟨h, (cmn_full st k _).mp z⟩, fun z => (cmn_full st k _).mpr z.2⟩
  · have hl := cmn_le (zf (stp S i)) (zf (shf S)) (Nat.min (stn S i - k) (st + 1) - 1) k (shn S - 1 - st)
    have e2 : Nat.min (stn S i - k) (st + 1) ≤ stn S i - k := Nat.min_le_left _ _
    exact ⟨fun z => by omega, fun z => absurd z.1 h⟩
/-! ===== ranks ===== -/
theorem fbx_holes : ∀ (m n : Nat) (f : Nat → Nat), (∀ i, i < n → f i < m) → (∀ i j, i < j → j < n → f i ≠ f j) → n ≤ m := by
  intro m
  induction m with
  | zero =>
    intro n f h1 _
    rcases Nat.eq_zero_or_pos n with h | h
    · omega
    · exact absurd (h1 0 h) (Nat.not_lt_zero _)
  | succ m ih =>
    intro n f h1 h2
    by_cases hx : ∃ i, i < n ∧ f i = m
    · obtain ⟨a, ha, hfa⟩ := hx
      have hg := ih (n - 1) (fun i => if i < a then f i else f (i + 1)) (by
        intro i hi
        by_cases q : i < a
        · simp only [if_pos q]
          have b1 := h1 i (by omega)
          have b2 := h2 i a q ha
          omega
        · simp only [if_neg q]
          have b1 := h1 (i + 1) (by omega)
          have b2 := h2 a (i + 1) (by omega) (by omega)
          omega) (by
        intro i j hij hj
        by_cases q : i < a
        · by_cases r : j < a
          · simp only [if_pos q, if_pos r]
            exact h2 i j hij (by omega)
          · simp only [if_pos q, if_neg r]
            exact h2 i (j + 1) (by omega) (by omega)
        · have r : ¬ j < a := by omega
          simp only [if_neg q, if_neg r]
          exact h2 (i + 1) (j + 1) (by omega) (by omega))
      omega
    · have hg := ih n f (fun i hi => by
        have b1 := h1 i hi
        have b2 : f i ≠ m := fun e => hx ⟨i, hi, e⟩
        omega) h2
      omega
theorem ctB_kth {p : Nat → Bool} {k : Nat} : ∀ {n : Nat}, k < ctB p n → ∃ i, i < n ∧ p i = true ∧ ctB p i = k
  | 0, h => absurd h (Nat.not_lt_zero k)
  | n + 1, h => by
    rcases Nat.lt_or_ge k (ctB p n) with q | q
    · obtain ⟨i, h1, h2⟩ := ctB_kth q
      exact ⟨i, by omega, h2⟩
    · unfold ctB at h
      cases hp : p n
      · simp [hp] at h; omega
      · simp [hp] at h
        exact ⟨n, by omega, hp, by omega⟩
def mtB (S : cS) (k : Nat) : Bool := decide (prc S k ≠ -1)
def ahd (S : cS) (k t : Nat) : Prop := prc S k < prc S t ∨ prc S k = prc S t ∧ k < t
theorem rkB_iff (S : cS) (t k : Nat) : rkB S t k = true ↔ mtB S k = true ∧ ahd S k t := by
  unfold rkB mtB ahd
  rw [decide_eq_true_iff, decide_eq_true_iff]
theorem rk_lt {S : cS} {t : Nat} (ht : t < sn S) (hm : mtB S t = true) : rkF S t < manyF S := by
  refine ctB_lt (fun k _ h => ((rkB_iff S t k).mp h).1) ⟨t, ht, hm, ?_⟩
  cases e : rkB S t t
  · rfl
  · have := ((rkB_iff S t t).mp e).2
    unfold ahd at this
    omega
theorem rk_less {S : cS} {a b : Nat} (ha : a < sn S) (hm : mtB S a = true) (h : ahd S a b) : rkF S a < rkF S b := by
  refine ctB_lt (fun k _ hk => ?_) ⟨a, ha, (rkB_iff S b a).mpr ⟨hm, h⟩, ?_⟩
  · obtain ⟨h1, h2⟩ := (rkB_iff S a k).mp hk
    refine (rkB_iff S b k).mpr ⟨h1, ?_⟩
    unfold ahd at h h2 ⊢
    omega
  · cases e : rkB S a a
    · rfl
    · have := ((rkB_iff S a a).mp e).2
      unfold ahd at this
      omega
theorem rk_inj {S : cS} {a b : Nat} (ha : a < sn S) (hb : b < sn S) (hma : mtB S a = true) (hmb : mtB S b = true) (h : rkF S a = rkF S b) : a = b := by
  apply Classical.byContradiction
  intro hn
  have : ahd S a b ∨ ahd S b a := by unfold ahd; omega
  rcases this with g | g
  · have := rk_less ha hma g; omega
  · have := rk_less hb hmb g; omega
theorem rk_onto {S : cS} {z : Nat} (hz : z < manyF S) : ∃ t, t < sn S ∧ mtB S t = true ∧ rkF S t = z := by
  apply Classical.byContradiction
  intro hn
  have hk : ∀ k, ∃ i, k < manyF S → i < sn S ∧ mtB S i = true ∧ ctB (mtB S) i = k := fun k => by
    by_cases h : k < manyF S
    · obtain ⟨i, h1, h2, h3⟩ := ctB_kth (p := mtB S) (n := sn S) h
      exact ⟨i, fun _ => ⟨h1, h2, h3⟩⟩
    · exact ⟨0, fun g => absurd g h⟩
  have ex := fun k => (hk k).choose_spec
  have hh := fbx_holes (manyF S - 1) (manyF S) (fun k => if rkF S (hk k).choose < z then rkF S (hk k).choose else rkF S (hk k).choose - 1) (fun k hkm => by
      obtain ⟨h1, h2, h3⟩ := ex k hkm
      have h4 := rk_lt h1 h2
      have h5 : rkF S (hk k).choose ≠ z := fun e => hn ⟨_, h1, h2, e⟩
      show (if rkF S (hk k).choose < z then rkF S (hk k).choose else rkF S (hk k).choose - 1) < manyF S - 1
      generalize rkF S (hk k).choose = v at h4 h5 ⊢
      split <;> omega) (fun a b hab hb e => by
      obtain ⟨a1, a2, a3⟩ := ex a (by omega)
      obtain ⟨b1, b2, b3⟩ := ex b hb
      have a5 : rkF S (hk a).choose ≠ z := fun e => hn ⟨_, a1, a2, e⟩
      have b5 : rkF S (hk b).choose ≠ z := fun e => hn ⟨_, b1, b2, e⟩
      have e2 : rkF S (hk a).choose = rkF S (hk b).choose := by
        replace e : (if rkF S (hk a).choose < z then rkF S (hk a).choose else rkF S (hk a).choose - 1) = (if rkF S (hk b).choose < z then rkF S (hk b).choose else rkF S (hk b).choose - 1) := e
        generalize rkF S (hk a).choose = v at a5 e ⊢
        generalize rkF S (hk b).choose = w at b5 e ⊢
        split at e <;> split at e <;> omega
      have e3 := rk_inj a1 b1 a2 b2 e2
      rw [e3] at a3
      omega)
  omega
theorem fdF_some {S : cS} {z : Int} {t : Nat} (hm : mtB S t = true) (hr : (rkF S t : Int) = z) : ∀ d k, k ≤ t → t < k + d → ∃ k0, fdF S z k d = some k0
  | 0, k, h1, h2 => absurd h2 (by omega)
  | d + 1, k, h1, h2 => by
    unfold fdF
    by_cases h : prc S k ≠ -1 ∧ (rkF S k : Int) = z
    · rw [if_pos h]; exact ⟨k, rfl⟩
    · rw [if_neg h]
      rcases Nat.lt_or_ge k t with g | g
      · exact fdF_some hm hr d (k + 1) (by omega) (by omega)
      · rw [show k = t by omega] at h
        exact absurd ⟨of_decide_eq_true hm, hr⟩ h
theorem fdF_prop {S : cS} {z : Int} : ∀ d k k0, fdF S z k d = some k0 → k ≤ k0 ∧ k0 < k + d ∧ prc S k0 ≠ -1 ∧ (rkF S k0 : Int) = z
  | 0, k, k0, h => by cases h
  | d + 1, k, k0, h => by
    unfold fdF at h
    split at h
    · rename_i g
      cases h
      exact ⟨by omega, by omega, g⟩
    · obtain ⟨a, b, c⟩ := fdF_prop d (k + 1) k0 h
      exact ⟨by omega, by omega, c⟩
theorem fdF_yes {S : cS} {z : Int} (h : 0 ≤ z ∧ z < manyF S) : ∃ k0, fdF S z 0 (sn S) = some k0 := by
  obtain ⟨t, h1, h2, h3⟩ := rk_onto (S := S) (z := z.toNat) (by omega)
  exact fdF_some h2 (by omega) (sn S) 0 (Nat.zero_le _) (by omega)
theorem fdF_no {S : cS} {z : Int} (h : ¬ (0 ≤ z ∧ z < manyF S)) : fdF S z 0 (sn S) = none := by
  cases e : fdF S z 0 (sn S) with
  | none => rfl
  | some k0 =>
    obtain ⟨h1, h2, h3, h4⟩ := fdF_prop _ _ _ e
    have := rk_lt (S := S) (t := k0) (by omega) (decide_eq_true h3)
    omega
