/-! ===== the law's small methods, their cases put together ===== -/
theorem k_add (l : Launch) (G : gG) (hlf : l.stackTraces = false) (A : Nat → Nat) (TA : Nat → Nat → Nat) (S : cS) (W9 : cWk) (H : Heap) (hC : Cat G A TA S W9 H) (hI : sInv S) (p1 l1 zu : Int) (rp1 : rI p1) (rl1 : rI l1) : gM l yL_does wsL_does rm_L_does [.ref (A 0), .int (zI 0), .int (zI p1), .int (zI l1), .int (zI zu)] G H (gi (fun r H1 => zI (addF S p1 l1).1 = r ∧ DX G A TA S (addF S p1 l1).2 H H1)) gNo 12 900 := by
  by_cases hN : isN p1 l1
  · by_cases h16 : sn S < 16
    · unfold addF
      rw [cIf_t hN, cIf_t h16]
      exact d_add_ok l G A TA S W9 H hC hI p1 l1 rp1 rl1 hN h16 zu
    · unfold addF
      rw [cIf_t hN, cIf_f h16]
      exact d_add_e2 l G hlf A TA S W9 H hC hI p1 l1 rp1 rl1 hN h16 zu
  · unfold addF
    rw [cIf_f hN]
    exact d_add_e1 l G hlf A TA S W9 H hC hI p1 l1 rp1 rl1 hN zu
theorem k_note (l : Launch) (G : gG) (hlf : l.stackTraces = false) (A : Nat → Nat) (TA : Nat → Nat → Nat) (S : cS) (W9 : cWk) (H : Heap) (hC : Cat G A TA S W9 H) (hI : sInv S) (z p1 l1 : Int) (rz : rI z) (rp1 : rI p1) (rl1 : rI l1) : gM l yL_does wsL_does rm_L_does [.ref (A 0), .int (zI 1), .int (zI z), .int (zI p1), .int (zI l1)] G H (gi (fun r H1 => zI (noteF S z p1 l1).1 = r ∧ DX G A TA S (noteF S z p1 l1).2 H H1)) gNo 12 900 := by
  by_cases hkw : kwn S z
  · obtain ⟨⟨hza, hzb⟩, hkr⟩ := id hkw
    by_cases hN : isN p1 l1
    · by_cases h24 : stn S z.toNat < 24
      · unfold noteF
        rw [cIf_t hkw, cIf_t hN, cIf_t h24]
        exact d_note_ok l G A TA S W9 H hC hI z z.toNat (by omega) (kwn_lt hkw) hkw.2 p1 l1 rp1 rl1 hN h24
      · unfold noteF
        rw [cIf_t hkw, cIf_t hN, cIf_f h24]
        exact d_note_e3 l G hlf A TA S W9 H hC hI z z.toNat (by omega) (kwn_lt hkw) hkw.2 p1 l1 rp1 rl1 hN h24
    · unfold noteF
      rw [cIf_t hkw, cIf_f hN]
      exact d_note_e2 l G hlf A TA S W9 H hC hI z z.toNat (by omega) (kwn_lt hkw) hkw.2 p1 l1 rp1 rl1 hN
  · unfold noteF
    rw [cIf_f hkw]
    exact d_note_e1 l G hlf A TA S W9 H hC hI z rz hkw p1 l1
theorem k_shift (l : Launch) (G : gG) (hlf : l.stackTraces = false) (A : Nat → Nat) (TA : Nat → Nat → Nat) (S : cS) (W9 : cWk) (H : Heap) (hC : Cat G A TA S W9 H) (hI : sInv S) (z d zu : Int) (rz : rI z) (rd : rI d) : gM l yL_does wsL_does rm_L_does [.ref (A 0), .int (zI 2), .int (zI z), .int (zI d), .int (zI zu)] G H (gi (fun r H1 => zI (shiftF S z d).1 = r ∧ DX G A TA S (shiftF S z d).2 H H1)) gNo 12 900 := by
  by_cases hkw : kwn S z
  · obtain ⟨⟨hza, hzb⟩, hkr⟩ := id hkw
    by_cases hd : -60 ≤ d ∧ d ≤ 60
    · by_cases hall : inAll S z.toNat d
      · unfold shiftF
        rw [cIf_t hkw, cIf_t hd, cIf_t hall]
        exact d_shift_ok l G A TA S W9 H hC hI z z.toNat (by omega) (kwn_lt hkw) hkw.2 d rd hd hall zu
      · unfold shiftF
        rw [cIf_t hkw, cIf_t hd, cIf_f hall]
        exact (Classical.not_forall.mp hall).elim (fun q0 hq => (Classical.not_imp.mp hq).elim (fun hq0 hbad => d_shift_e3 l G hlf A TA S W9 H hC hI z z.toNat (by omega) (kwn_lt hkw) hkw.2 d rd hd q0 hq0 hbad zu))
    · unfold shiftF
      rw [cIf_t hkw, cIf_f hd]
      exact d_shift_e2 l G hlf A TA S W9 H hC hI z z.toNat (by omega) (kwn_lt hkw) hkw.2 d rd hd zu
  · unfold shiftF
    rw [cIf_f hkw]
    exact d_shift_e1 l G hlf A TA S W9 H hC hI z rz hkw d zu
theorem k_retire (l : Launch) (G : gG) (hlf : l.stackTraces = false) (A : Nat → Nat) (TA : Nat → Nat → Nat) (S : cS) (W9 : cWk) (H : Heap) (hC : Cat G A TA S W9 H) (hI : sInv S) (z zu zv : Int) (rz : rI z) : gM l yL_does wsL_does rm_L_does [.ref (A 0), .int (zI 3), .int (zI z), .int (zI zu), .int (zI zv)] G H (gi (fun r H1 => zI (retireF S z).1 = r ∧ DX G A TA S (retireF S z).2 H H1)) gNo 12 900 := by
  by_cases hkw : kwn S z
  · obtain ⟨⟨hza, hzb⟩, hkr⟩ := id hkw
    unfold retireF
    rw [cIf_t hkw]
    exact d_retire_ok l G A TA S W9 H hC hI z z.toNat (by omega) (kwn_lt hkw) hkw.2 (sI_ret hI (kwn_lt hkw)) zu zv
  · unfold retireF
    rw [cIf_f hkw]
    exact d_retire_e1 l G hlf A TA S W9 H hC hI z rz hkw zu zv
theorem k_hum (l : Launch) (G : gG) (hlf : l.stackTraces = false) (A : Nat → Nat) (TA : Nat → Nat → Nat) (S : cS) (W9 : cWk) (H : Heap) (hC : Cat G A TA S W9 H) (hI : sInv S) (p1 zu zv : Int) (rp1 : rI p1) : gM l yL_does wsL_does rm_L_does [.ref (A 0), .int (zI 4), .int (zI p1), .int (zI zu), .int (zI zv)] G H (gi (fun r H1 => zI (humF S p1).1 = r ∧ DX G A TA S (humF S p1).2 H H1)) gNo 12 900 := by
  by_cases h60 : 0 ≤ p1 ∧ p1 ≤ 60
  · by_cases h12 : shn S < 12
    · unfold humF
      rw [cIf_t h60, cIf_t h12]
      exact d_hum_ok l G A TA S W9 H hC hI p1 rp1 h60 h12 zu zv
    · unfold humF
      rw [cIf_t h60, cIf_f h12]
      exact d_hum_e2 l G hlf A TA S W9 H hC hI p1 rp1 h60 h12 zu zv
  · unfold humF
    rw [cIf_f h60]
    exact d_hum_e1 l G hlf A TA S W9 H hC hI p1 rp1 h60 zu zv
theorem k_link (l : Launch) (G : gG) (hlf : l.stackTraces = false) (A : Nat → Nat) (TA : Nat → Nat → Nat) (S : cS) (W9 : cWk) (H : Heap) (hC : Cat G A TA S W9 H) (hI : sInv S) (z1 z2 zu : Int) (rz1 : rI z1) (rz2 : rI z2) : gM l yL_does wsL_does rm_L_does [.ref (A 0), .int (zI 5), .int (zI z1), .int (zI z2), .int (zI zu)] G H (gi (fun r H1 => zI (linkF S z1 z2).1 = r ∧ DX G A TA S (linkF S z1 z2).2 H H1)) gNo 12 900 := by
  by_cases hi : 0 ≤ z1 ∧ z1 < (sn S : Int)
  · by_cases hj : 0 ≤ z2 ∧ z2 < (sn S : Int)
    · by_cases hij : z1 = z2
      · unfold linkF
        rw [cIf_t hi, cIf_t hj, cIf_t hij]
        exact d_link_e2 l G hlf A TA S W9 H hC hI z1 z2 z1.toNat z2.toNat (by omega) (by omega) (by omega) (by omega) (by omega) zu
      · by_cases htb : (slk S z1.toNat).testBit z2.toNat = true
        · unfold linkF
          rw [cIf_t hi, cIf_t hj, cIf_f hij, cIf_t htb]
          exact d_link_e3 l G hlf A TA S W9 H hC hI z1 z2 z1.toNat z2.toNat (by omega) (by omega) (by omega) (by omega) (by omega) htb zu
        · unfold linkF
          rw [cIf_t hi, cIf_t hj, cIf_f hij, cIf_f htb]
          exact d_link_ok l G A TA S W9 H hC hI z1 z2 z1.toNat z2.toNat (by omega) (by omega) (by omega) (by omega) (slk_lt (S := sLnk S z1.toNat z2.toNat) (sI_lnk hI (by omega) (by omega) (by omega))) (by omega) (Bool.eq_false_iff.mpr htb) zu
    · unfold linkF
      rw [cIf_t hi, cIf_f hj]
      exact d_link_e1 l G hlf A TA S W9 H hC hI z1 z2 rz1 rz2 (fun q => hj q.2) zu
  · unfold linkF
    rw [cIf_f hi]
    exact d_link_e1 l G hlf A TA S W9 H hC hI z1 z2 rz1 rz2 (fun q => hi q.1) zu
theorem k_cut (l : Launch) (G : gG) (hlf : l.stackTraces = false) (A : Nat → Nat) (TA : Nat → Nat → Nat) (S : cS) (W9 : cWk) (H : Heap) (hC : Cat G A TA S W9 H) (hI : sInv S) (z1 z2 zu : Int) (rz1 : rI z1) (rz2 : rI z2) : gM l yL_does wsL_does rm_L_does [.ref (A 0), .int (zI 6), .int (zI z1), .int (zI z2), .int (zI zu)] G H (gi (fun r H1 => zI (cutF S z1 z2).1 = r ∧ DX G A TA S (cutF S z1 z2).2 H H1)) gNo 12 900 := by
  by_cases hi : 0 ≤ z1 ∧ z1 < (sn S : Int)
  · by_cases hj : 0 ≤ z2 ∧ z2 < (sn S : Int)
    · by_cases htb : (slk S z1.toNat).testBit z2.toNat = true
      · unfold cutF
        rw [cIf_t hi, cIf_t hj, cIf_t htb]
        exact d_cut_ok l G A TA S W9 H hC hI z1 z2 z1.toNat z2.toNat (by omega) (by omega) (by omega) (by omega) (slk_lt (S := sLnk S z1.toNat z2.toNat) (sI_lnk hI (by omega) (by omega) (hI.2.2.2.2.2.2.2.2.2.2.1 _ _ htb).2.2)) (hI.2.2.2.2.2.2.2.2.2.2.1 _ _ htb).2.2 htb zu
      · unfold cutF
        rw [cIf_t hi, cIf_t hj, cIf_f htb]
        exact d_cut_e2 l G hlf A TA S W9 H hC hI z1 z2 z1.toNat z2.toNat (by omega) (by omega) (by omega) (by omega) (Bool.eq_false_iff.mpr htb) zu
    · unfold cutF
      rw [cIf_t hi, cIf_f hj]
      exact d_cut_e1 l G hlf A TA S W9 H hC hI z1 z2 rz1 rz2 (fun q => hj q.2) zu
  · unfold cutF
    rw [cIf_f hi]
    exact d_cut_e1 l G hlf A TA S W9 H hC hI z1 z2 rz1 rz2 (fun q => hi q.1) zu
theorem k_places (l : Launch) (G : gG) (hlf : l.stackTraces = false) (A : Nat → Nat) (TA : Nat → Nat → Nat) (S : cS) (W9 : cWk) (H : Heap) (hC : Cat G A TA S W9 H) (hI : sInv S) (zs zu zv : Int) (rzs : rI zs) : gM l yL_does wsL_does rm_L_does [.ref (A 0), .int (zI 7), .int (zI zs), .int (zI zu), .int (zI zv)] G H (gi (fun r H1 => zI (placesF S zs).1 = r ∧ DX G A TA S (placesF S zs).2 H H1)) gNo 12 900 := by
  by_cases h14 : 1 ≤ zs ∧ zs ≤ 4
  · by_cases hst : zs ≤ (shn S : Int) - 1
    · unfold placesF
      rw [cIf_t h14, cIf_t hst]
      exact d_places_ok l G A TA S W9 H hC hI zs zs.toNat (by omega) ⟨by omega, by omega⟩ (by omega) zu zv
    · unfold placesF
      rw [cIf_t h14, cIf_f hst]
      exact d_places_e2 l G hlf A TA S W9 H hC hI zs rzs h14 hst zu zv
  · unfold placesF
    rw [cIf_f h14]
    exact d_places_e1 l G hlf A TA S W9 H hC hI zs rzs h14 zu zv
theorem k_correct (l : Launch) (G : gG) (hlf : l.stackTraces = false) (A : Nat → Nat) (TA : Nat → Nat → Nat) (S : cS) (W9 : cWk) (H : Heap) (hC : Cat G A TA S W9 H) (hI : sInv S) (z z2 p1 l1 : Int) (rz : rI z) (rz2 : rI z2) (rp1 : rI p1) (rl1 : rI l1) : gM l yL_sets wsL_sets rm_L_sets [.ref (A 0), .int (zI 0), .int (zI z), .int (zI z2), .int (zI p1), .int (zI l1)] G H (gi (fun r H1 => zI (corrF S z z2 p1 l1).1 = r ∧ DX G A TA S (corrF S z z2 p1 l1).2 H H1)) gNo 6 60 := by
  by_cases hkw : kwn S z
  · obtain ⟨⟨hza, hzb⟩, hkr⟩ := id hkw
    by_cases hk2 : 0 ≤ z2 ∧ z2 < (stn S z.toNat : Int)
    · by_cases hN : isN p1 l1
      · unfold corrF
        rw [cIf_t hkw, cIf_t hk2, cIf_t hN]
        exact d_correct_ok l G A TA S W9 H hC hI z z.toNat (by omega) (kwn_lt hkw) hkw.2 z2 p1 l1 rz2 rp1 rl1 z2.toNat (by omega) (by omega) hN
      · unfold corrF
        rw [cIf_t hkw, cIf_t hk2, cIf_f hN]
        exact d_correct_e3 l G hlf A TA S W9 H hC hI z z.toNat (by omega) (kwn_lt hkw) hkw.2 z2 p1 l1 rz2 rp1 rl1 hk2 hN
    · unfold corrF
      rw [cIf_t hkw, cIf_f hk2]
      exact d_correct_e2 l G hlf A TA S W9 H hC hI z z.toNat (by omega) (kwn_lt hkw) hkw.2 z2 p1 l1 rz2 rp1 rl1 hk2
  · unfold corrF
    rw [cIf_f hkw]
    exact d_correct_e1 l G hlf A TA S W9 H hC hI z rz hkw z2 p1 l1
theorem k_setCosts (l : Launch) (G : gG) (hlf : l.stackTraces = false) (A : Nat → Nat) (TA : Nat → Nat → Nat) (S : cS) (W9 : cWk) (H : Heap) (hC : Cat G A TA S W9 H) (hI : sInv S) (c1 c2 c3 zu : Int) (rc1 : rI c1) (rc2 : rI c2) (rc3 : rI c3) : gM l yL_sets wsL_sets rm_L_sets [.ref (A 0), .int (zI 1), .int (zI c1), .int (zI c2), .int (zI c3), .int (zI zu)] G H (gi (fun r H1 => zI (costsF S c1 c2 c3).1 = r ∧ DX G A TA S (costsF S c1 c2 c3).2 H H1)) gNo 6 60 := by
  by_cases h1c : 0 ≤ c1 ∧ c1 ≤ 20
  · by_cases h2c : 0 ≤ c2 ∧ c2 ≤ 20
    · by_cases h3c : 0 ≤ c3 ∧ c3 ≤ 20
      · unfold costsF
        rw [cIf_t h1c, cIf_t h2c, cIf_t h3c]
        exact d_setCosts_ok l G A TA S W9 H hC hI c1 c2 c3 rc1 rc2 rc3 ⟨h1c, h2c, h3c⟩ zu
      · unfold costsF
        rw [cIf_t h1c, cIf_t h2c, cIf_f h3c]
        exact d_setCosts_e3 l G hlf A TA S W9 H hC hI c1 c2 c3 rc1 rc2 rc3 h1c h2c h3c zu
    · unfold costsF
      rw [cIf_t h1c, cIf_f h2c]
      exact d_setCosts_e2 l G hlf A TA S W9 H hC hI c1 c2 c3 rc1 rc2 rc3 h1c h2c zu
  · unfold costsF
    rw [cIf_f h1c]
    exact d_setCosts_e1 l G hlf A TA S W9 H hC hI c1 c2 c3 rc1 rc2 rc3 h1c zu
theorem k_cost (l : Launch) (G : gG) (hlf : l.stackTraces = false) (A : Nat → Nat) (TA : Nat → Nat → Nat) (S : cS) (W9 : cWk) (H : Heap) (hC : Cat G A TA S W9 H) (hI : sInv S) (z : Int) (k : Nat) (hzk : z = k) (hk9 : k < sn S) : gM l yL_cost wsL_cost rm_L_cost [.ref (A 0), .int (zI z)] G H (gi (fun r H1 => zI (costV S k) = r ∧ XP G A TA S S H H1)) gNo 6 60 := by
  have hn16 := hI.1
  unfold costV
  cases hk : srt S k
  · rw [if_neg (by decide)]
    exact d_cost_ok l G A TA S W9 H hC hI z k hzk hk9 hk
  · rw [if_pos rfl]
    have hno : ¬ kwn S z := fun h => by
      have h2 := h.2
      rw [show z.toNat = k by omega, hk] at h2; cases h2
    exact d_cost_e1 l G hlf A TA S W9 H hC hI z ⟨by omega, by omega⟩ hno
