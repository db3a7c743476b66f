/-! ===== families: the closure of one tune, two ways ===== -/
theorem wpF_bit (lk : Nat → Nat) (s j : Nat) : ∀ m, (wpF lk s m).testBit j = true ↔ (s.testBit j = true ∨ ∃ k, k < m ∧ s.testBit k = true ∧ (lk k).testBit j = true)
  | 0 => by
    unfold wpF
    constructor
    · exact fun h => Or.inl h
    · rintro (h | ⟨k, hk, -⟩)
      · exact h
      · exact absurd hk (Nat.not_lt_zero _)
  | m + 1 => by
    have ih := wpF_bit lk s j m
    unfold wpF
    by_cases hm : s.testBit m = true
    · rw [if_pos hm, Nat.testBit_or, Bool.or_eq_true, ih]
      constructor
      · rintro ((h | ⟨k, hk, h1, h2⟩) | h)
        · exact Or.inl h
        · exact Or.inr ⟨k, by omega, h1, h2⟩
        · exact Or.inr ⟨m, by omega, hm, h⟩
      · rintro (h | ⟨k, hk, h1, h2⟩)
        · exact Or.inl (Or.inl h)
        · rcases Nat.lt_or_ge k m with g | g
          · exact Or.inl (Or.inr ⟨k, g, h1, h2⟩)
          · rw [show k = m by omega] at h2; exact Or.inr h2
    · rw [if_neg hm, ih]
      constructor
      · rintro (h | ⟨k, hk, h1, h2⟩)
        · exact Or.inl h
        · exact Or.inr ⟨k, by omega, h1, h2⟩
      · rintro (h | ⟨k, hk, h1, h2⟩)
        · exact Or.inl h
        · rcases Nat.lt_or_ge k m with g | g
          · exact Or.inr ⟨k, g, h1, h2⟩
          · rw [show k = m by omega] at h1; exact absurd h1 hm
def lkOK (lk : Nat → Nat) (n : Nat) : Prop := ∀ i j, (lk i).testBit j = true → i < n ∧ j < n
def Cls (lk : Nat → Nat) (n Q : Nat) : Prop := ∀ k, k < n → Q.testBit k = true → ∀ j, (lk k).testBit j = true → Q.testBit j = true
def Clo (lk : Nat → Nat) (n t R : Nat) : Prop := R.testBit t = true ∧ Cls lk n R ∧ ∀ Q, Q.testBit t = true → Cls lk n Q → ∀ j, R.testBit j = true → Q.testBit j = true
theorem Clo.one {lk : Nat → Nat} {n t R R2 : Nat} (h : Clo lk n t R) (h2 : Clo lk n t R2) : R = R2 := by
  apply Nat.eq_of_testBit_eq
  intro j
  cases e : R.testBit j
  · cases e2 : R2.testBit j
    · rfl
    · have := h2.2.2 R h.1 h.2.1 j e2
      rw [e] at this; cases this
  · rw [h.2.2 R2 h2.1 h2.2.1 j e]
theorem ctB_cong {p q : Nat → Bool} : ∀ {n : Nat}, (∀ k, k < n → p k = q k) → ctB p n = ctB q n
  | 0, _ => rfl
  | n + 1, h => by
    unfold ctB
    rw [ctB_cong (n := n) (fun k hk => h k (by omega)), h n (by omega)]
theorem ctB_mono {p q : Nat → Bool} : ∀ {n : Nat}, (∀ k, k < n → p k = true → q k = true) → ctB p n ≤ ctB q n
  | 0, _ => Nat.le_refl _
  | n + 1, h => by
    have ih := ctB_mono (p := p) (q := q) (n := n) (fun k hk => h k (by omega))
    have hn := h n (by omega)
    unfold ctB
    cases e : p n
    · simp; omega
    · rw [hn e]; simp; omega
theorem ctB_lt {p q : Nat → Bool} : ∀ {n : Nat}, (∀ k, k < n → p k = true → q k = true) → (∃ j, j < n ∧ q j = true ∧ p j = false) → ctB p n < ctB q n
  | 0, _, h => by obtain ⟨j, hj, -⟩ := h; exact absurd hj (Nat.not_lt_zero _)
  | n + 1, h, hx => by
    obtain ⟨j, hj, h1, h2⟩ := hx
    have hn := h n (by omega)
    unfold ctB
    rcases Nat.lt_or_ge j n with g | g
    · have ih := ctB_lt (p := p) (q := q) (n := n) (fun k hk => h k (by omega)) ⟨j, g, h1, h2⟩
      cases e : p n
      · simp; omega
      · rw [hn e]; simp; omega
    · have ih := ctB_mono (p := p) (q := q) (n := n) (fun k hk => h k (by omega))
      rw [show n = j by omega] at ih ⊢
      rw [h1, h2]; simp; omega
theorem ctB_all {p : Nat → Bool} : ∀ {n : Nat}, n ≤ ctB p n → ∀ k, k < n → p k = true
  | 0, _, k, hk => absurd hk (Nat.not_lt_zero _)
  | n + 1, h, k, hk => by
    have h1 := ctB_le p n
    unfold ctB at h
    cases e : p n
    · rw [e] at h; simp at h; omega
    · rcases Nat.lt_or_ge k n with g | g
      · exact ctB_all (n := n) (by rw [e] at h; simp at h; omega) k g
      · rw [show k = n by omega]; exact e
theorem itW_bits {lk : Nat → Nat} {n t : Nat} (hlk : lkOK lk n) (ht : t < n) : ∀ k j, (itW lk n k (2 ^ t)).testBit j = true → j < n
  | 0, j, h => by
    unfold itW at h
    rw [Nat.testBit_two_pow] at h
    have : t = j := of_decide_eq_true h
    omega
  | k + 1, j, h => by
    unfold itW at h
    rcases (wpF_bit lk _ j n).mp h with g | ⟨k2, -, -, g⟩
    · exact itW_bits hlk ht k j g
    · exact (hlk k2 j g).2
theorem itW_mono (lk : Nat → Nat) (n R k j : Nat) (h : (itW lk n k R).testBit j = true) : (itW lk n (k + 1) R).testBit j = true := by
  unfold itW
  exact (wpF_bit lk _ j n).mpr (Or.inl h)
theorem itW_has {lk : Nat → Nat} {n t : Nat} : ∀ k, (itW lk n k (2 ^ t)).testBit t = true
  | 0 => by unfold itW; rw [Nat.testBit_two_pow]; simp
  | k + 1 => itW_mono lk n _ k t (itW_has k)
theorem itW_min {lk : Nat → Nat} {n t Q : Nat} (hQ : Q.testBit t = true) (hC : Cls lk n Q) : ∀ k j, (itW lk n k (2 ^ t)).testBit j = true → Q.testBit j = true
  | 0, j, h => by
    unfold itW at h
    rw [Nat.testBit_two_pow] at h
    have : t = j := of_decide_eq_true h
    rw [← this]; exact hQ
  | k + 1, j, h => by
    unfold itW at h
    rcases (wpF_bit lk _ j n).mp h with g | ⟨k2, hk2, g1, g2⟩
    · exact itW_min hQ hC k j g
    · exact hC k2 hk2 (itW_min hQ hC k k2 g1) j g2
theorem itW_stay {lk : Nat → Nat} {n R m : Nat} (h : itW lk n (m + 1) R = itW lk n m R) : ∀ d, itW lk n (m + d) R = itW lk n m R
  | 0 => rfl
  | d + 1 => by
    have ih := itW_stay h d
    show wpF lk (itW lk n (m + d) R) n = _
    rw [ih]; exact h
theorem itW_grow {lk : Nat → Nat} {n t : Nat} (hlk : lkOK lk n) (ht : t < n) : ∀ k, (∃ m, m ≤ k ∧ itW lk n (m + 1) (2 ^ t) = itW lk n m (2 ^ t)) ∨ k + 1 ≤ ctB (fun j => (itW lk n k (2 ^ t)).testBit j) n
  | 0 => by
    refine Or.inr ?_
    have := ctB_lt (p := fun _ => false) (q := fun j => (itW lk n 0 (2 ^ t)).testBit j) (n := n) (fun k _ h => by cases h) ⟨t, ht, itW_has 0, rfl⟩
    omega
  | k + 1 => by
    rcases itW_grow hlk ht k with ⟨m, hm, e⟩ | h
    · exact Or.inl ⟨m, by omega, e⟩
    · by_cases e : itW lk n (k + 1) (2 ^ t) = itW lk n k (2 ^ t)
      · exact Or.inl ⟨k, by omega, e⟩
      · refine Or.inr ?_
        have hd : ∃ j, j < n ∧ (itW lk n (k + 1) (2 ^ t)).testBit j = true ∧ (itW lk n k (2 ^ t)).testBit j = false := by
          apply Classical.byContradiction
          intro hn
          apply e
          apply Nat.eq_of_testBit_eq
          intro j
          cases e1 : (itW lk n (k + 1) (2 ^ t)).testBit j
          · cases e2 : (itW lk n k (2 ^ t)).testBit j
            · rfl
            · rw [itW_mono lk n _ k j e2] at e1; cases e1
          · cases e2 : (itW lk n k (2 ^ t)).testBit j
            · exact absurd ⟨j, itW_bits hlk ht (k + 1) j e1, e1, e2⟩ hn
            · rfl
        have := ctB_lt (p := fun j => (itW lk n k (2 ^ t)).testBit j) (q := fun j => (itW lk n (k + 1) (2 ^ t)).testBit j) (n := n) (fun j _ h => itW_mono lk n _ k j h) hd
        omega
theorem clo_itW {lk : Nat → Nat} {n t : Nat} (hlk : lkOK lk n) (ht : t < n) : Clo lk n t (itW lk n (n - 1) (2 ^ t)) := by
  refine ⟨itW_has _, fun k hk h j hj => ?_, fun Q hQ hC j h => itW_min hQ hC _ j h⟩
  rcases itW_grow hlk ht (n - 1) with ⟨m, hm, e⟩ | g
  · have e1 := itW_stay e (n - 1 - m)
    rw [show m + (n - 1 - m) = n - 1 by omega] at e1
    rw [e1] at h ⊢
    rw [← e]
    unfold itW
    exact (wpF_bit lk _ j n).mpr (Or.inr ⟨k, hk, h, hj⟩)
  · exact ctB_all (p := fun j => (itW lk n (n - 1) (2 ^ t)).testBit j) (by omega) j (hlk k j hj).2
/-- the reference's way: a pass that uses what it has just added -/
def fmI (lk : Nat → Nat) (s : Nat) : Nat → Nat
  | 0 => s
  | m + 1 => if (fmI lk s m).testBit m then fmI lk s m ||| lk m else fmI lk s m
theorem fmI_ge (lk : Nat → Nat) (s j : Nat) (h : s.testBit j = true) : ∀ m, (fmI lk s m).testBit j = true
  | 0 => h
  | m + 1 => by
    have ih := fmI_ge lk s j h m
    unfold fmI; split
    · rw [Nat.testBit_or, ih]; rfl
    · exact ih
theorem fmI_le (lk : Nat → Nat) (s : Nat) : ∀ m, s ≤ fmI lk s m
  | 0 => Nat.le_refl _
  | m + 1 => by
    have ih := fmI_le lk s m
    unfold fmI; split
    · exact Nat.le_trans ih Nat.left_le_or
    · exact ih
theorem fmI_up (lk : Nat → Nat) (s m : Nat) : ∀ d, fmI lk s m ≤ fmI lk s (m + d)
  | 0 => Nat.le_refl _
  | d + 1 => by
    have ih := fmI_up lk s m d
    show _ ≤ (if (fmI lk s (m + d)).testBit (m + d) then fmI lk s (m + d) ||| lk (m + d) else fmI lk s (m + d))
    split
    · exact Nat.le_trans ih Nat.left_le_or
    · exact ih
theorem fmI_lt {lk : Nat → Nat} (hlk : ∀ k, lk k < 65536) {s : Nat} (hs : s < 65536) : ∀ m, fmI lk s m < 65536
  | 0 => hs
  | m + 1 => by
    unfold fmI; split
    · exact or_lt (k := 16) (fmI_lt hlk hs m) (hlk m)
    · exact fmI_lt hlk hs m
theorem fmI_min {lk : Nat → Nat} {n s Q : Nat} (hs : ∀ j, s.testBit j = true → Q.testBit j = true) (hC : Cls lk n Q) : ∀ m, m ≤ n → ∀ j, (fmI lk s m).testBit j = true → Q.testBit j = true
  | 0, _, j, h => hs j h
  | m + 1, hm, j, h => by
    have ih := fmI_min hs hC m (by omega)
    unfold fmI at h
    split at h
    · rename_i hb
      rw [Nat.testBit_or, Bool.or_eq_true] at h
      rcases h with g | g
      · exact ih j g
      · exact hC m (by omega) (ih m hb) j g
    · exact ih j h
theorem fmI_fix {lk : Nat → Nat} {n s : Nat} (h : fmI lk s n = s) : Cls lk n s := by
  intro k hk hb j hj
  have e : ∀ m, m ≤ n → fmI lk s m = s := fun m hm => by
    have h1 := fmI_le lk s m
    have h2 := fmI_up lk s m (n - m)
    rw [show m + (n - m) = n by omega, h] at h2
    omega
  have e1 := e (k + 1) (by omega)
  unfold fmI at e1
  rw [e k (by omega), if_pos hb] at e1
  rw [← e1, Nat.testBit_or, hj, Bool.or_true]
theorem tb_and (R k : Nat) : R / 2 ^ k &&& 1 = if R.testBit k then 1 else 0 := by
  rw [Nat.and_one_is_mod, Nat.testBit_eq_decide_div_mod_eq]
  by_cases h : R / 2 ^ k % 2 = 1
  · simp [h]
  · simp [h]; omega
theorem xor_or {a j : Nat} (h : a.testBit j = false) : a ^^^ 2 ^ j = a ||| 2 ^ j := by
  apply Nat.eq_of_testBit_eq
  intro i
  rw [Nat.testBit_xor, Nat.testBit_or, Nat.testBit_two_pow]
  by_cases e : j = i
  · subst e; simp [h]
  · simp [e]
theorem zI_andnot {a j : Nat} (ha : a < 65536) (hj : j < 16) (h : a.testBit j = true) : zI (a : Int) &&& (zI ((2 ^ j : Nat) : Int) ^^^ zI (-1)) = zI ((a ^^^ 2 ^ j : Nat) : Int) := by
  rw [← zI_n, ← zI_n, ← zI_n]
  apply Int32.toBitVec_inj.1
  have h1 : (zI (-1)).toBitVec = BitVec.allOnes 32 := by decide +kernel
  show BitVec.ofNat 32 a &&& (BitVec.ofNat 32 (2 ^ j) ^^^ (zI (-1)).toBitVec) = BitVec.ofNat 32 (a ^^^ 2 ^ j)
  rw [h1]
  apply BitVec.eq_of_getLsbD_eq
  intro i hi
  rw [BitVec.getLsbD_and, BitVec.getLsbD_xor, BitVec.getLsbD_ofNat, BitVec.getLsbD_ofNat, BitVec.getLsbD_ofNat, BitVec.getLsbD_allOnes, Nat.testBit_xor, Nat.testBit_two_pow]
  by_cases e : j = i
  · subst e; simp [hi, h]
  · simp [hi, e]
