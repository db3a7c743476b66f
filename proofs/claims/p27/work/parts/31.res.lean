/-! ===== what the calls answer, as functions of the state ===== -/
noncomputable def cIf {α : Type} (p : Prop) (x y : α) : α := @ite α p (Classical.propDecidable p) x y
theorem cIf_t {α : Type} {p : Prop} (h : p) (x y : α) : cIf p x y = x := @if_pos p (Classical.propDecidable p) h α x y
theorem cIf_f {α : Type} {p : Prop} (h : ¬ p) (x y : α) : cIf p x y = y := @if_neg p (Classical.propDecidable p) h α x y
/-- told of an exception -/
abbrev xE : Int := -99999
theorem xE_eq : xE = -99999 := rfl
def eF (S : cS) : Int × cS := (xE, S)
noncomputable def addF (S : cS) (a b : Int) : Int × cS := cIf (isN a b) (cIf (sn S < 16) ((sn S : Int), sAdd S a b) (eF S)) (eF S)
noncomputable def noteF (S : cS) (z a b : Int) : Int × cS := cIf (kwn S z) (cIf (isN a b) (cIf (stn S z.toNat < 24) (((stn S z.toNat + 1 : Nat) : Int), sNote S z.toNat a b) (eF S)) (eF S)) (eF S)
noncomputable def corrF (S : cS) (z z2 a b : Int) : Int × cS := cIf (kwn S z) (cIf (0 ≤ z2 ∧ z2 < (stn S z.toNat : Int)) (cIf (isN a b) (stp S z.toNat z2.toNat, sCorr S z.toNat z2.toNat a b) (eF S)) (eF S)) (eF S)
def inAll (S : cS) (i : Nat) (d : Int) : Prop := ∀ k, k < stn S i → 0 ≤ stp S i k + d ∧ stp S i k + d ≤ 60
noncomputable def shiftF (S : cS) (z d : Int) : Int × cS := cIf (kwn S z) (cIf (-60 ≤ d ∧ d ≤ 60) (cIf (inAll S z.toNat d) (0, sShift S z.toNat d) (eF S)) (eF S)) (eF S)
noncomputable def retireF (S : cS) (z : Int) : Int × cS := cIf (kwn S z) (((ctB (fun j => !(srt (sRet S z.toNat) j)) (sn S) : Nat) : Int), sRet S z.toNat) (eF S)
noncomputable def humF (S : cS) (p : Int) : Int × cS := cIf (0 ≤ p ∧ p ≤ 60) (cIf (shn S < 12) (((shn S + 1 : Nat) : Int), sHum S p) (eF S)) (eF S)
def hushF (S : cS) : Int × cS := ((shn S : Int), sHush S)
noncomputable def linkF (S : cS) (a b : Int) : Int × cS := cIf (0 ≤ a ∧ a < (sn S : Int)) (cIf (0 ≤ b ∧ b < (sn S : Int)) (cIf (a = b) (eF S) (cIf ((slk S a.toNat).testBit b.toNat = true) (eF S) (((famC (lkT (slk S) a.toNat b.toNat) (sn S) (sn S) : Nat) : Int), sLnk S a.toNat b.toNat))) (eF S)) (eF S)
noncomputable def cutF (S : cS) (a b : Int) : Int × cS := cIf (0 ≤ a ∧ a < (sn S : Int)) (cIf (0 ≤ b ∧ b < (sn S : Int)) (cIf ((slk S a.toNat).testBit b.toNat = true) (((famC (lkT (slk S) a.toNat b.toNat) (sn S) (sn S) : Nat) : Int), sLnk S a.toNat b.toNat) (eF S)) (eF S)) (eF S)
noncomputable def placesF (S : cS) (z : Int) : Int × cS := cIf (1 ≤ z ∧ z ≤ 4) (cIf (z ≤ (shn S : Int) - 1) ((((plA S z.toNat (sn S)).length : Nat) : Int), S) (eF S)) (eF S)
noncomputable def costsF (S : cS) (a b d : Int) : Int × cS := cIf (0 ≤ a ∧ a ≤ 20) (cIf (0 ≤ b ∧ b ≤ 20) (cIf (0 ≤ d ∧ d ≤ 20) (0, sCost S a b d) (eF S)) (eF S)) (eF S)
/-- of a tune that was entered: its cost, or what is told of the exception -/
def costV (S : cS) (k : Nat) : Int := if srt S k = true then xE else costI (tX S k)
/-- an answer and the state behind it -/
def okR (S : cS) (r : Int × cS) : Prop := sInv r.2 ∧ sn S ≤ sn r.2 ∧ (xE ≤ r.1 ∧ r.1 ≤ 1000000) ∧ (r.1 = xE → r.2 = S)
theorem okR.e {S : cS} (h : sInv S) : okR S (eF S) := ⟨h, Nat.le_refl _, ⟨Int.le_refl _, by show (-99999 : Int) ≤ 1000000; omega⟩, fun _ => rfl⟩
theorem okR.ok {S S2 : cS} {v : Int} (h : sInv S2) (hn : sn S ≤ sn S2) (h0 : 0 ≤ v) (h1 : v ≤ 1000000) : okR S (v, S2) := ⟨h, hn, ⟨by show (-99999 : Int) ≤ v; omega, h1⟩, fun e => by have e : v = -99999 := e; omega⟩
theorem okR.cIf {S : cS} {p : Prop} {x y : Int × cS} (h : p → okR S x) (g : ¬ p → okR S y) : okR S (cIf p x y) := by
  by_cases e : p
  · rw [cIf_t e]; exact h e
  · rw [cIf_f e]; exact g e
theorem kwn_lt {S : cS} {z : Int} (h : kwn S z) : z.toNat < sn S := by obtain ⟨⟨h1, h2⟩, -⟩ := h; omega
theorem addF_ok {S : cS} (hI : sInv S) (a b : Int) : okR S (addF S a b) := by
  have h1 := hI.1
  exact okR.cIf (fun hN => okR.cIf (fun h16 => okR.ok (sI_add hI hN h16) (Nat.le_succ _) (by omega) (by omega)) (fun _ => okR.e hI)) (fun _ => okR.e hI)
theorem noteF_ok {S : cS} (hI : sInv S) (z a b : Int) : okR S (noteF S z a b) :=
  okR.cIf (fun hk => okR.cIf (fun hN => okR.cIf (fun h24 => okR.ok (sI_note hI (kwn_lt hk) hN h24) (Nat.le_refl _) (by omega) (by omega)) (fun _ => okR.e hI)) (fun _ => okR.e hI)) (fun _ => okR.e hI)
theorem corrF_ok {S : cS} (hI : sInv S) (z z2 a b : Int) : okR S (corrF S z z2 a b) :=
  okR.cIf (fun hk => okR.cIf (fun _ => okR.cIf (fun hN => okR.ok (sI_corr hI (kwn_lt hk) hN) (Nat.le_refl _) (hI.2.2.2.1 _ _).1 (by have := (hI.2.2.2.1 z.toNat z2.toNat).2; omega)) (fun _ => okR.e hI)) (fun _ => okR.e hI)) (fun _ => okR.e hI)
theorem shiftF_ok {S : cS} (hI : sInv S) (z d : Int) : okR S (shiftF S z d) :=
  okR.cIf (fun hk => okR.cIf (fun _ => okR.cIf (fun ha => okR.ok (sI_shift hI (kwn_lt hk) ha) (Nat.le_refl _) (by omega) (by omega)) (fun _ => okR.e hI)) (fun _ => okR.e hI)) (fun _ => okR.e hI)
theorem retireF_ok {S : cS} (hI : sInv S) (z : Int) : okR S (retireF S z) := by
  have h1 := hI.1
  have h2 := ctB_le (fun j => !(srt (sRet S z.toNat) j)) (sn S)
  exact okR.cIf (fun hk => okR.ok (sI_ret hI (kwn_lt hk)) (Nat.le_refl _) (by omega) (by omega)) (fun _ => okR.e hI)
theorem humF_ok {S : cS} (hI : sInv S) (p : Int) : okR S (humF S p) :=
  okR.cIf (fun h60 => okR.cIf (fun h12 => okR.ok (sI_hum hI h60 h12) (Nat.le_refl _) (by omega) (by omega)) (fun _ => okR.e hI)) (fun _ => okR.e hI)
theorem hushF_ok {S : cS} (hI : sInv S) : okR S (hushF S) := okR.ok (sI_hush hI) (Nat.le_refl _) (by omega) (by have := hI.2.2.2.2.2.1; omega)
theorem lnk_ok {S : cS} (hI : sInv S) {a b : Int} (ha : 0 ≤ a ∧ a < (sn S : Int)) (hb : 0 ≤ b ∧ b < (sn S : Int)) (hn : a.toNat ≠ b.toNat) : okR S (((famC (lkT (slk S) a.toNat b.toNat) (sn S) (sn S) : Nat) : Int), sLnk S a.toNat b.toNat) := by
  have h1 := hI.1
  have h2 := famC_le (lkT (slk S) a.toNat b.toNat) (sn S) (sn S)
  exact okR.ok (sI_lnk hI (by omega) (by omega) hn) (Nat.le_refl _) (by omega) (by omega)
theorem linkF_ok {S : cS} (hI : sInv S) (a b : Int) : okR S (linkF S a b) :=
  okR.cIf (fun ha => okR.cIf (fun hb => okR.cIf (fun _ => okR.e hI) (fun hn => okR.cIf (fun _ => okR.e hI) (fun _ => lnk_ok hI ha hb (by omega)))) (fun _ => okR.e hI)) (fun _ => okR.e hI)
theorem cutF_ok {S : cS} (hI : sInv S) (a b : Int) : okR S (cutF S a b) :=
  okR.cIf (fun ha => okR.cIf (fun hb => okR.cIf (fun ht => lnk_ok hI ha hb ((hI.2.2.2.2.2.2.2.2.2.2.1 _ _ ht).2.2)) (fun _ => okR.e hI)) (fun _ => okR.e hI)) (fun _ => okR.e hI)
theorem placesF_ok {S : cS} (hI : sInv S) (z : Int) : okR S (placesF S z) := by
  have h1 := hI.1
  have h2 := plA_len hI z.toNat (sn S) (Nat.le_refl _)
  exact okR.cIf (fun _ => okR.cIf (fun _ => okR.ok hI (Nat.le_refl _) (by omega) (by omega)) (fun _ => okR.e hI)) (fun _ => okR.e hI)
theorem placesF_S (S : cS) (z : Int) : (placesF S z).2 = S := by
  unfold placesF
  by_cases h1 : 1 ≤ z ∧ z ≤ 4
  · rw [cIf_t h1]
    by_cases h2 : z ≤ (shn S : Int) - 1
    · rw [cIf_t h2]
    · rw [cIf_f h2]; rfl
  · rw [cIf_f h1]; rfl
theorem costsF_ok {S : cS} (hI : sInv S) (a b d : Int) : okR S (costsF S a b d) :=
  okR.cIf (fun h1 => okR.cIf (fun h2 => okR.cIf (fun h3 => okR.ok (sI_cost hI h1 h2 h3) (Nat.le_refl _) (by omega) (by omega)) (fun _ => okR.e hI)) (fun _ => okR.e hI)) (fun _ => okR.e hI)
/-! ===== two objects, kept apart ===== -/
/-- what a call leaves: its own cells written at most, new tunes in new cells -/
def DX (G : gG) (A : Nat → Nat) (TA : Nat → Nat → Nat) (S S2 : cS) (H H1 : Heap) : Prop :=
  ∃ TA2, (∃ W, Cat G A TA2 S2 W H1) ∧ gKp (own A TA (sn S)) H H1 ∧ ∀ i j, i < sn S2 → j < 5 → (i < sn S ∧ TA2 i j = TA i j) ∨ H.size ≤ TA2 i j
theorem gKp.rf (O : Nat → Prop) (H : Heap) : gKp O H H := ⟨Nat.le_refl _, fun _ _ _ => rfl⟩
theorem DX.xp {G : gG} {A : Nat → Nat} {TA : Nat → Nat → Nat} {S S2 : cS} {H H1 : Heap} (h : XP G A TA S S2 H H1) (e : sn S2 = sn S) : DX G A TA S S2 H H1 :=
  ⟨TA, h.1, h.2, fun i j hi _ => Or.inl ⟨by omega, rfl⟩⟩
theorem DX.ext {G : gG} {A : Nat → Nat} {TA : Nat → Nat → Nat} {S : cS} {W : cWk} {H H1 : Heap} (h : Cat G A TA S W H) (x : gExt H H1) : DX G A TA S S H H1 := DX.xp (XP.same h x) rfl
theorem DX.same {G : gG} {A : Nat → Nat} {TA : Nat → Nat → Nat} {S : cS} {W : cWk} {H : Heap} (h : Cat G A TA S W H) : DX G A TA S S H H := DX.xp ⟨⟨W, h⟩, gKp.rf _ _⟩ rfl
theorem DX.add {G : gG} {A : Nat → Nat} {TA TA2 : Nat → Nat → Nat} {S : cS} {p1 l1 : Int} {H H1 : Heap} (h1 : ∃ W, Cat G A TA2 (sAdd S p1 l1) W H1) (h2 : gKp (own A TA (sn S)) H H1) (h3 : ∀ i, i < sn S → TA2 i = TA i) (h4 : ∀ j, j < 5 → H.size ≤ TA2 (sn S) j) : DX G A TA S (sAdd S p1 l1) H H1 :=
  ⟨TA2, h1, h2, fun i j hi hj => by
    have hi : i < sn S + 1 := hi
    rcases Nat.lt_or_ge i (sn S) with g | g
    · exact Or.inl ⟨g, by rw [h3 i g]⟩
    · rw [show i = sn S by omega]; exact Or.inr (h4 j hj)⟩
def PR (G : gG) (A : Nat → Nat) (TA : Nat → Nat → Nat) (S : cS) (B : Nat → Nat) (TB : Nat → Nat → Nat) (T : cS) (H : Heap) : Prop :=
  sInv S ∧ sInv T ∧ (∃ W, Cat G A TA S W H) ∧ (∃ W, Cat G B TB T W H) ∧ ∀ q, own A TA (sn S) q → ¬ own B TB (sn T) q
theorem PR.symm {G : gG} {A : Nat → Nat} {TA : Nat → Nat → Nat} {S : cS} {B : Nat → Nat} {TB : Nat → Nat → Nat} {T : cS} {H : Heap} (h : PR G A TA S B TB T H) : PR G B TB T A TA S H :=
  ⟨h.2.1, h.1, h.2.2.2.1, h.2.2.1, fun q h1 h2 => h.2.2.2.2 q h2 h1⟩
theorem own_lt {G : gG} {A : Nat → Nat} {TA : Nat → Nat → Nat} {S : cS} {W : cWk} {H : Heap} (h : Cat G A TA S W H) {q : Nat} (hq : own A TA (sn S) q) : q < H.size := by
  obtain ⟨h1, h2⟩ := h.lt
  rcases hq with ⟨k, hk, e⟩ | ⟨i, j, hi, hj, e⟩
  · rw [e]; exact h1 k hk
  · rw [e]; exact h2 i j hi hj
theorem PR.dx {G : gG} {A : Nat → Nat} {TA : Nat → Nat → Nat} {S S2 : cS} {B : Nat → Nat} {TB : Nat → Nat → Nat} {T : cS} {H H1 : Heap} (h : PR G A TA S B TB T H) (hI2 : sInv S2) (x : DX G A TA S S2 H H1) : ∃ TA2, PR G A TA2 S2 B TB T H1 := by
  obtain ⟨-, hT, -, ⟨W, hB⟩, hd⟩ := h
  obtain ⟨TA2, c2, kp, hn⟩ := x
  refine ⟨TA2, hI2, hT, c2, ⟨W, hB.kp kp (fun q hq hq2 => hd q hq2 hq)⟩, fun q hq hq2 => ?_⟩
  rcases hq with ⟨k, hk, e⟩ | ⟨i, j, hi, hj, e⟩
  · exact hd q (Or.inl ⟨k, hk, e⟩) hq2
  · rcases hn i j hi hj with ⟨h1, h2⟩ | h1
    · exact hd q (Or.inr ⟨i, j, h1, hj, by rw [e, h2]⟩) hq2
    · have := own_lt hB hq2; omega
theorem PR.xp {G : gG} {A : Nat → Nat} {TA : Nat → Nat → Nat} {S S2 : cS} {B : Nat → Nat} {TB : Nat → Nat → Nat} {T : cS} {H H1 : Heap} (h : PR G A TA S B TB T H) (hI2 : sInv S2) (e : sn S2 = sn S) (x : XP G A TA S S2 H H1) : PR G A TA S2 B TB T H1 := by
  obtain ⟨-, hT, -, ⟨W, hB⟩, hd⟩ := h
  exact ⟨hI2, hT, x.1, ⟨W, hB.kp x.2 (fun q hq hq2 => hd q hq2 hq)⟩, fun q hq => hd q (by rw [← e]; exact hq)⟩
theorem PR.x0 {G : gG} {A : Nat → Nat} {TA : Nat → Nat → Nat} {S : cS} {B : Nat → Nat} {TB : Nat → Nat → Nat} {T : cS} {H H1 : Heap} (h : PR G A TA S B TB T H) (x : XP G A TA S S H H1) : PR G A TA S B TB T H1 := h.xp h.1 rfl x
theorem PR.y0 {G : gG} {A : Nat → Nat} {TA : Nat → Nat → Nat} {S : cS} {B : Nat → Nat} {TB : Nat → Nat → Nat} {T : cS} {H H1 : Heap} (h : PR G A TA S B TB T H) (x : XP G B TB T T H H1) : PR G A TA S B TB T H1 := (h.symm.x0 x).symm
theorem PR.d0 {G : gG} {A : Nat → Nat} {TA : Nat → Nat → Nat} {S : cS} {B : Nat → Nat} {TB : Nat → Nat → Nat} {T : cS} {H H1 : Heap} (h : PR G A TA S B TB T H) (x : DX G A TA S S H H1) : ∃ TA2, PR G A TA2 S B TB T H1 := h.dx h.1 x
