/-! ===== the table and the search find the same cost ===== -/
def Mn (P : Int → Prop) (v : Int) : Prop := (v = -1 ∧ ∀ u, ¬ P u) ∨ (0 ≤ v ∧ P v ∧ ∀ u, P u → v ≤ u)
theorem Mn.cong {P Q : Int → Prop} {v : Int} (h : Mn P v) (e : ∀ u, P u ↔ Q u) : Mn Q v := by
  rcases h with ⟨h1, h2⟩ | ⟨h1, h2, h3⟩
  · exact Or.inl ⟨h1, fun u hu => h2 u ((e u).mpr hu)⟩
  · exact Or.inr ⟨h1, (e v).mp h2, fun u hu => h3 u ((e u).mpr hu)⟩
theorem Mn.uniq {P : Int → Prop} {v w : Int} (h : Mn P v) (g : Mn P w) : v = w := by
  rcases h with ⟨h1, h2⟩ | ⟨h1, h2, h3⟩
  · rcases g with ⟨g1, g2⟩ | ⟨g1, g2, g3⟩
    · rw [h1, g1]
    · exact absurd g2 (h2 w)
  · rcases g with ⟨g1, g2⟩ | ⟨g1, g2, g3⟩
    · exact absurd h2 (g2 v)
    · have := h3 w g2
      have := g3 v h2
      omega
theorem Mn.no {P : Int → Prop} (h : ∀ u, ¬ P u) : Mn P (-1) := Or.inl ⟨rfl, h⟩
theorem Mn.one {P : Int → Prop} (h : ∀ u, P u ↔ u = 0) : Mn P 0 := Or.inr ⟨Int.le_refl _, (h 0).mpr rfl, fun u hu => by rw [(h u).mp hu]; exact Int.le_refl _⟩
theorem Mn.or {P Q : Int → Prop} {v w : Int} (h : Mn P v) (g : Mn Q w) : Mn (fun u => P u ∨ Q u) (chp v w) := by
  rcases h with ⟨h1, h2⟩ | ⟨h1, h2, h3⟩
  · rcases g with ⟨g1, g2⟩ | ⟨g1, g2, g3⟩
    · have e : chp v w = -1 := by unfold chp; rw [if_pos (Or.inl h1)]; omega
      rw [e]; exact Mn.no (fun u hu => hu.elim (h2 u) (g2 u))
    · have e : chp v w = w := by unfold chp; rw [if_pos (Or.inl h1)]; omega
      rw [e]; exact Or.inr ⟨g1, Or.inr g2, fun u hu => hu.elim (fun x => absurd x (h2 u)) (g3 u)⟩
  · rcases g with ⟨g1, g2⟩ | ⟨g1, g2, g3⟩
    · have e : chp v w = v := by unfold chp; rw [if_pos (Or.inr g1)]; omega
      rw [e]; exact Or.inr ⟨h1, Or.inl h2, fun u hu => hu.elim (h3 u) (fun x => absurd x (g2 u))⟩
    · have e : chp v w = min v w := by unfold chp; rw [if_neg (by omega)]
      rw [e]
      refine Or.inr ⟨by omega, ?_, fun u hu => ?_⟩
      · rcases Int.le_total v w with q | q
        · rw [Int.min_eq_left q]; exact Or.inl h2
        · rw [Int.min_eq_right q]; exact Or.inr g2
      · rcases hu with x | x
        · have := h3 u x; omega
        · have := g3 u x; omega
theorem Mn.add {P : Int → Prop} {v c : Int} (h : Mn P v) (hc : 0 ≤ c) : Mn (fun u => ∃ w, P w ∧ u = w + c) (if v = -1 then -1 else v + c) := by
  rcases h with ⟨h1, h2⟩ | ⟨h1, h2, h3⟩
  · rw [if_pos h1]; exact Mn.no (fun u ⟨w, hw, _⟩ => h2 w hw)
  · rw [if_neg (by omega)]
    exact Or.inr ⟨by omega, ⟨v, h2, rfl⟩, fun u ⟨w, hw, e⟩ => by have := h3 w hw; omega⟩
def mvk (a b q j : Nat) : Prop := (q = a + 1 ∧ (j = b + 1 ∨ j = b + 2 ∨ j = b + 3)) ∨ (j = b + 1 ∧ (q = a + 2 ∨ q = a + 3))
def RR (X : cX) : Nat → Nat → Nat → Int → Prop
  | 0, q, j, v => q = 0 ∧ j = 0 ∧ v = 0
  | n + 1, q, j, v => (q = 0 ∧ j = 0 ∧ v = 0) ∨ ∃ a b w, RR X n a b w ∧ mvk a b q j ∧ v = w + mv X a b q j
def RP (X : cX) (q j : Nat) (v : Int) : Prop := ∃ n, RR X n q j v
theorem RP_iff {X : cX} {q j : Nat} {v : Int} : RP X q j v ↔ (q = 0 ∧ j = 0 ∧ v = 0) ∨ ∃ a b w, RP X a b w ∧ mvk a b q j ∧ v = w + mv X a b q j := by
  constructor
  · rintro ⟨n, h⟩
    cases n with
    | zero => exact Or.inl h
    | succ n =>
      rcases h with h | ⟨a, b, w, h1, h2, h3⟩
      · exact Or.inl h
      · exact Or.inr ⟨a, b, w, ⟨n, h1⟩, h2, h3⟩
  · rintro (h | ⟨a, b, w, ⟨n, h1⟩, h2, h3⟩)
    · exact ⟨0, h⟩
    · exact ⟨n + 1, Or.inr ⟨a, b, w, h1, h2, h3⟩⟩
/-- one way to come to (q, j), from a place that may lie outside -/
def via1 (X : cX) (zq zj : Int) (q j : Nat) (u : Int) : Prop := ∃ a b : Nat, (a : Int) = zq ∧ (b : Int) = zj ∧ ∃ w, RP X a b w ∧ u = w + mv X a b q j
theorem via1_Mn {X : cX} (hX : xOK X) {zq zj : Int} {q j : Nat} (ih : ∀ a b : Nat, a < q → Mn (RP X a b) (dp X a b)) (h1 : zq < q) (h2 : (q : Int) ≤ zq + 3) (h3 : (j : Int) ≤ zj + 3) : Mn (via1 X zq zj q j) (viaT (dp X) X zq zj q j) := by
  unfold viaT
  by_cases hc : zq < 0 ∨ zj < 0
  · rw [if_pos hc]
    exact Mn.no (fun u ⟨a, b, ha, hb, _⟩ => by omega)
  · rw [if_neg hc]
    have hm := (mv_rng hX (q := zq.toNat) (j := zj.toNat) (q2 := q) (j2 := j) (by omega) (by omega)).1
    refine ((ih zq.toNat zj.toNat (by omega)).add hm).cong (fun u => ?_)
    constructor
    · rintro ⟨w, hw, e⟩
      exact ⟨zq.toNat, zj.toNat, by omega, by omega, w, hw, e⟩
    · rintro ⟨a, b, ha, hb, w, hw, e⟩
      have ea : zq.toNat = a := by omega
      have eb : zj.toNat = b := by omega
      rw [ea, eb]
      exact ⟨w, hw, e⟩
theorem dp_Mn {X : cX} (hX : xOK X) : ∀ (Q q j : Nat), q < Q → Mn (RP X q j) (dp X q j)
  | 0, _, _, h => absurd h (Nat.not_lt_zero _)
  | Q + 1, q, j, h => by
    have ih : ∀ a b : Nat, a < q → Mn (RP X a b) (dp X a b) := fun a b ha => dp_Mn hX Q a b (by omega)
    rw [dp_eq]
    unfold toT
    by_cases h0 : q = 0
    · rw [if_pos h0]
      by_cases hj : j = 0
      · rw [if_pos hj]
        refine Mn.one (fun u => ?_)
        rw [RP_iff]
        constructor
        · rintro (h | ⟨a, b, w, -, h2, -⟩)
          · exact h.2.2
          · unfold mvk at h2; omega
        · intro e; exact Or.inl ⟨h0, hj, e⟩
      · rw [if_neg hj]
        refine Mn.no (fun u hu => ?_)
        rcases RP_iff.mp hu with h | ⟨a, b, w, -, h2, -⟩
        · omega
        · unfold mvk at h2; omega
    · rw [if_neg h0]
      refine ((((((Mn.no (P := fun _ => False) (fun _ h => h)).or (via1_Mn hX ih (by omega) (by omega) (by omega))).or (via1_Mn hX ih (by omega) (by omega) (by omega))).or (via1_Mn hX ih (by omega) (by omega) (by omega))).or (via1_Mn hX ih (by omega) (by omega) (by omega))).or (via1_Mn hX ih (by omega) (by omega) (by omega))).cong (fun u => ?_)
      rw [RP_iff]
      constructor
      · rintro (((((h | ⟨a, b, ha, hb, w, hw, e⟩) | ⟨a, b, ha, hb, w, hw, e⟩) | ⟨a, b, ha, hb, w, hw, e⟩) | ⟨a, b, ha, hb, w, hw, e⟩) | ⟨a, b, ha, hb, w, hw, e⟩)
        · exact h.elim
        all_goals exact Or.inr ⟨a, b, w, hw, by unfold mvk; omega, e⟩
      · rintro (⟨h, -⟩ | ⟨a, b, w, hw, hk, e⟩)
        · exact absurd h h0
        · rcases hk with ⟨h1, h2 | h2 | h2⟩ | ⟨h1, h2 | h2⟩
          · exact Or.inl (Or.inl (Or.inl (Or.inl (Or.inr ⟨a, b, by omega, by omega, w, hw, e⟩))))
          · exact Or.inl (Or.inl (Or.inl (Or.inr ⟨a, b, by omega, by omega, w, hw, e⟩)))
          · exact Or.inl (Or.inl (Or.inr ⟨a, b, by omega, by omega, w, hw, e⟩))
          · exact Or.inl (Or.inr ⟨a, b, by omega, by omega, w, hw, e⟩)
          · exact Or.inr ⟨a, b, by omega, by omega, w, hw, e⟩
theorem lastC_Mn {X : cX} (hX : xOK X) (h1 : 1 ≤ xh X) : ∀ m, Mn (fun v => ∃ k, k < m ∧ RP X (xh X - 1) k v) (lastC X m)
  | 0 => Mn.no (fun u ⟨k, hk, _⟩ => absurd hk (Nat.not_lt_zero _))
  | m + 1 => by
    unfold lastC
    rw [if_neg (by omega : ¬ xh X = 0)]
    refine ((lastC_Mn hX h1 m).or (dp_Mn hX (xh X - 1 + 1) (xh X - 1) m (by omega))).cong (fun u => ?_)
    constructor
    · rintro (⟨k, hk, h⟩ | h)
      · exact ⟨k, by omega, h⟩
      · exact ⟨m, by omega, h⟩
    · rintro ⟨k, hk, h⟩
      rcases Nat.lt_or_ge k m with g | g
      · exact Or.inl ⟨k, g, h⟩
      · rw [show k = m by omega] at h; exact Or.inr h
theorem lastC_h0 {X : cX} (h : xh X = 0) : ∀ m, lastC X m = -1
  | 0 => rfl
  | m + 1 => by
    unfold lastC
    rw [if_pos h, lastC_h0 h m]; rfl
