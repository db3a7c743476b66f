/-! ===== what holds of every state that is reached ===== -/
theorem vaup_at {α : Type} (F : Nat → α) (k : Nat) (x : α) : va_up F k x k = x := if_pos rfl
theorem vaup_ne {α : Type} (F : Nat → α) {k j : Nat} (x : α) (h : j ≠ k) : va_up F k x j = F j := if_neg h
theorem up2_rng {F : Nat → Nat → Int} {i k : Nat} {x lo hi : Int} (h : ∀ a b, lo ≤ F a b ∧ F a b ≤ hi) (hx : lo ≤ x ∧ x ≤ hi) : ∀ a b, lo ≤ up2 F i k x a b ∧ up2 F i k x a b ≤ hi := by
  intro a b
  unfold up2
  split
  · exact hx
  · exact h a b
theorem sI_00 : sInv S00 := by
  refine ⟨Nat.zero_le _, fun i hi => absurd hi (Nat.not_lt_zero _), fun i _ => ⟨rfl, rfl, rfl, rfl, rfl⟩, fun i k => ⟨Int.le_refl _, (by decide : (0 : Int) ≤ 60)⟩, fun i k => ⟨Int.le_refl _, (by decide : (0 : Int) ≤ 8)⟩, Nat.zero_le _, fun k => ⟨Int.le_refl _, (by decide : (0 : Int) ≤ 60)⟩, by decide, by decide, by decide, fun i j h => ?_, fun i j => ?_⟩
  · have e : (0 : Nat).testBit j = true := h
    rw [Nat.zero_testBit] at e; cases e
  · show (0 : Nat).testBit j = (0 : Nat).testBit i
    rw [Nat.zero_testBit, Nat.zero_testBit]
theorem sI_add {S : cS} (h : sInv S) {p l : Int} (hN : isN p l) (h16 : sn S < 16) : sInv (sAdd S p l) := by
  obtain ⟨h1, h2, h3, h4, h5, h6, h7, h8, h9, h10, h11, h12⟩ := h
  obtain ⟨n1, n2⟩ := hN
  refine ⟨h16, fun i hi => ?_, fun i hi => ?_, up2_rng h4 n1, up2_rng h5 ⟨by omega, n2.2⟩, h6, h7, h8, h9, h10, fun i j hb => ?_, h12⟩
  · show 1 ≤ va_up (stn S) (sn S) 1 i ∧ va_up (stn S) (sn S) 1 i ≤ 24
    by_cases e : i = sn S
    · rw [e, vaup_at]; omega
    · rw [vaup_ne _ _ e]
      have hi : i < sn S + 1 := hi
      exact h2 i (by omega)
  · have hi : sn S + 1 ≤ i := hi
    obtain ⟨a, b, c, d, e⟩ := h3 i (by omega)
    exact ⟨(vaup_ne _ _ (by omega)).trans a, b, c, (up2_ne _ _ _ (by omega)).trans d, (up2_ne _ _ _ (by omega)).trans e⟩
  · obtain ⟨a, b, c⟩ := h11 i j hb
    show i < sn S + 1 ∧ j < sn S + 1 ∧ i ≠ j
    omega
theorem sI_note {S : cS} (h : sInv S) {i : Nat} {p l : Int} (hi0 : i < sn S) (hN : isN p l) (h24 : stn S i < 24) : sInv (sNote S i p l) := by
  obtain ⟨h1, h2, h3, h4, h5, h6, h7, h8, h9, h10, h11, h12⟩ := h
  obtain ⟨n1, n2⟩ := hN
  refine ⟨h1, fun k hk => ?_, fun k hk => ?_, up2_rng h4 n1, up2_rng h5 ⟨by omega, n2.2⟩, h6, h7, h8, h9, h10, h11, h12⟩
  · show 1 ≤ va_up (stn S) i (stn S i + 1) k ∧ va_up (stn S) i (stn S i + 1) k ≤ 24
    by_cases e : k = i
    · rw [e, vaup_at]; omega
    · rw [vaup_ne _ _ e]; exact h2 k hk
  · have hk : sn S ≤ k := hk
    obtain ⟨a, b, c, d, e⟩ := h3 k hk
    exact ⟨(vaup_ne _ _ (by omega)).trans a, b, c, (up2_ne _ _ _ (by omega)).trans d, (up2_ne _ _ _ (by omega)).trans e⟩
theorem sI_corr {S : cS} (h : sInv S) {i k0 : Nat} {p l : Int} (hi0 : i < sn S) (hN : isN p l) : sInv (sCorr S i k0 p l) := by
  obtain ⟨h1, h2, h3, h4, h5, h6, h7, h8, h9, h10, h11, h12⟩ := h
  obtain ⟨n1, n2⟩ := hN
  refine ⟨h1, h2, fun k hk => ?_, up2_rng h4 n1, up2_rng h5 ⟨by omega, n2.2⟩, h6, h7, h8, h9, h10, h11, h12⟩
  have hk : sn S ≤ k := hk
  obtain ⟨a, b, c, d, e⟩ := h3 k hk
  exact ⟨a, b, c, (up2_ne _ _ _ (by omega)).trans d, (up2_ne _ _ _ (by omega)).trans e⟩
theorem sI_shift {S : cS} (h : sInv S) {i : Nat} {d : Int} (hi0 : i < sn S) (hall : ∀ k, k < stn S i → 0 ≤ stp S i k + d ∧ stp S i k + d ≤ 60) : sInv (sShift S i d) := by
  obtain ⟨h1, h2, h3, h4, h5, h6, h7, h8, h9, h10, h11, h12⟩ := h
  refine ⟨h1, h2, fun k hk => ?_, fun a b => ?_, h5, h6, h7, h8, h9, h10, h11, h12⟩
  · have hk : sn S ≤ k := hk
    obtain ⟨a, b, c, d, e⟩ := h3 k hk
    exact ⟨a, b, c, (shF_ne S _ _ (by omega)).trans d, e⟩
  · show 0 ≤ shF S i d (stn S i) a b ∧ shF S i d (stn S i) a b ≤ 60
    unfold shF
    split
    · rename_i g
      rw [g.1]; exact hall b g.2
    · exact h4 a b
theorem sI_ret {S : cS} (h : sInv S) {i : Nat} (hi0 : i < sn S) : sInv (sRet S i) := by
  obtain ⟨h1, h2, h3, h4, h5, h6, h7, h8, h9, h10, h11, h12⟩ := h
  refine ⟨h1, h2, fun k hk => ?_, h4, h5, h6, h7, h8, h9, h10, h11, h12⟩
  have hk : sn S ≤ k := hk
  obtain ⟨a, b, c, d, e⟩ := h3 k hk
  exact ⟨a, (vaup_ne _ _ (by omega)).trans b, c, d, e⟩
theorem sI_hum {S : cS} (h : sInv S) {p : Int} (h60 : 0 ≤ p ∧ p ≤ 60) (h12' : shn S < 12) : sInv (sHum S p) := by
  obtain ⟨h1, h2, h3, h4, h5, h6, h7, h8, h9, h10, h11, h12⟩ := h
  refine ⟨h1, h2, h3, h4, h5, h12', fun k => ?_, h8, h9, h10, h11, h12⟩
  show 0 ≤ va_up (shf S) (shn S) p k ∧ va_up (shf S) (shn S) p k ≤ 60
  by_cases e : k = shn S
  · rw [e, vaup_at]; exact h60
  · rw [vaup_ne _ _ e]; exact h7 k
theorem sI_hush {S : cS} (h : sInv S) : sInv (sHush S) := by
  obtain ⟨h1, h2, h3, h4, h5, h6, h7, h8, h9, h10, h11, h12⟩ := h
  exact ⟨h1, h2, h3, h4, h5, Nat.zero_le _, h7, h8, h9, h10, h11, h12⟩
theorem sI_cost {S : cS} (h : sInv S) {a b d : Int} (ha : 0 ≤ a ∧ a ≤ 20) (hb : 0 ≤ b ∧ b ≤ 20) (hd : 0 ≤ d ∧ d ≤ 20) : sInv (sCost S a b d) := by
  obtain ⟨h1, h2, h3, h4, h5, h6, h7, h8, h9, h10, h11, h12⟩ := h
  exact ⟨h1, h2, h3, h4, h5, h6, h7, ha, hb, hd, h11, h12⟩
theorem lkT_bit {lk : Nat → Nat} {i j a b : Nat} (hij : i ≠ j) : (lkT lk i j a).testBit b = Bool.xor ((lk a).testBit b) (decide ((a = i ∧ b = j) ∨ (a = j ∧ b = i))) := by
  unfold lkT
  by_cases h1 : a = j
  · rw [h1, vaup_at, Nat.testBit_xor, Nat.testBit_two_pow]
    congr 1
    rw [decide_eq_decide]
    omega
  · rw [vaup_ne _ _ h1]
    by_cases h2 : a = i
    · rw [h2, vaup_at, Nat.testBit_xor, Nat.testBit_two_pow]
      congr 1
      rw [decide_eq_decide]
      omega
    · rw [vaup_ne _ _ h2, decide_eq_false (by omega), Bool.xor_false]
theorem sI_lnk {S : cS} (h : sInv S) {i j : Nat} (hi : i < sn S) (hj : j < sn S) (hij : i ≠ j) : sInv (sLnk S i j) := by
  obtain ⟨h1, h2, h3, h4, h5, h6, h7, h8, h9, h10, h11, h12⟩ := h
  refine ⟨h1, h2, fun k hk => ?_, h4, h5, h6, h7, h8, h9, h10, fun a b hb => ?_, fun a b => ?_⟩
  · have hk : sn S ≤ k := hk
    obtain ⟨a, b, c, d, e⟩ := h3 k hk
    refine ⟨a, b, ?_, d, e⟩
    show va_up (va_up (slk S) i (slk S i ^^^ 2 ^ j)) j (slk S j ^^^ 2 ^ i) k = 0
    rw [vaup_ne _ _ (by omega), vaup_ne _ _ (by omega)]; exact c
  · have hb : (lkT (slk S) i j a).testBit b = true := hb
    rw [lkT_bit hij] at hb
    show a < sn S ∧ b < sn S ∧ a ≠ b
    by_cases g : (a = i ∧ b = j) ∨ (a = j ∧ b = i)
    · omega
    · rw [decide_eq_false g, Bool.xor_false] at hb
      exact h11 a b hb
  · show (lkT (slk S) i j a).testBit b = (lkT (slk S) i j b).testBit a
    rw [lkT_bit hij, lkT_bit hij, h12 a b]
    congr 1
    rw [decide_eq_decide]
    omega
