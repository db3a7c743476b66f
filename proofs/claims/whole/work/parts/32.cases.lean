/-! ===== the law: one call, its cases put together ===== -/
theorem asI (v : Int32) : ∃ z : Int, v = zI z ∧ rI z := ⟨v.toInt, zI_as v, by have h1 := Int32.le_toInt v; have h2 := Int32.toInt_lt v; exact ⟨by omega, by omega⟩⟩
theorem c_add (l : Launch) (hlf : l.stackTraces = false) (G : gG) {p : Program} {e : Env} {s : State} {m : MethodId} {below : List Frame} {meth : Method} {c : Code} {b L : Nat} {xs : Nat → Int32} (F : lwF p s m c G b L xs) (A : Nat → Nat) (TA : Nat → Nat → Nat) (B : Nat → Nat) (S : cS) (o : Nat) (th : Int) (H : Heap) (locs : List Loc) (cells slots : Nat) (hLI : LI G A TA B o S th H) (hS : va_S (gA G) s.heap H locs) (t : Nat) (htL : 5 * t + 5 ≤ L) (y : Int) (hy : y = (5 * t : Nat)) (ls : Array Slot) (hl : lv_has ls 7 [(4, .int (zI y)), (0, .ref b), (1, .ref (A 0)), (2, .ref (B 0)), (3, .ref o)]) (hcl : cells + 12 ≤ 601024) (hsl : slots + 900 ≤ 7293034) (Q : State → Prop) (kk : lwK l G p e s m below meth c b A B o y cells slots Q) : W p l e room_1 s m #[Value.ref b] below meth c H locs cells slots Q (F0 m 148 ls []) := by
  have hI := hLI.1
  obtain ⟨p1, hq1, rp1⟩ := asI (xs (5 * t + 1))
  obtain ⟨l1, hq2, rl1⟩ := asI (xs (5 * t + 2))
  by_cases hN : isN p1 l1
  · by_cases h16 : sn S < 16
    · exact s_add_ok l hlf G F A TA B S o th H locs cells slots hLI hS t htL y hy ls hl hcl hsl Q kk p1 l1 rp1 rl1 hN h16 hq1 hq2
    · exact s_add_e2 l hlf G F A TA B S o th H locs cells slots hLI hS t htL y hy ls hl hcl hsl Q kk p1 l1 rp1 rl1 hN h16 hq1 hq2
  · exact s_add_e1 l hlf G F A TA B S o th H locs cells slots hLI hS t htL y hy ls hl hcl hsl Q kk p1 l1 rp1 rl1 hN hq1 hq2
theorem c_note (l : Launch) (hlf : l.stackTraces = false) (G : gG) {p : Program} {e : Env} {s : State} {m : MethodId} {below : List Frame} {meth : Method} {c : Code} {b L : Nat} {xs : Nat → Int32} (F : lwF p s m c G b L xs) (A : Nat → Nat) (TA : Nat → Nat → Nat) (B : Nat → Nat) (S : cS) (o : Nat) (th : Int) (H : Heap) (locs : List Loc) (cells slots : Nat) (hLI : LI G A TA B o S th H) (hS : va_S (gA G) s.heap H locs) (t : Nat) (htL : 5 * t + 5 ≤ L) (y : Int) (hy : y = (5 * t : Nat)) (ls : Array Slot) (hl : lv_has ls 7 [(4, .int (zI y)), (0, .ref b), (1, .ref (A 0)), (2, .ref (B 0)), (3, .ref o)]) (hcl : cells + 12 ≤ 601024) (hsl : slots + 900 ≤ 7293034) (Q : State → Prop) (kk : lwK l G p e s m below meth c b A B o y cells slots Q) : W p l e room_1 s m #[Value.ref b] below meth c H locs cells slots Q (F0 m 216 ls []) := by
  have hI := hLI.1
  obtain ⟨z, hq1, rz⟩ := asI (xs (5 * t + 1))
  obtain ⟨p1, hq2, rp1⟩ := asI (xs (5 * t + 2))
  obtain ⟨l1, hq3, rl1⟩ := asI (xs (5 * t + 3))
  by_cases hkw : kwn S z
  · obtain ⟨⟨hza, hzb⟩, hk⟩ := id hkw
    by_cases hN : isN p1 l1
    · by_cases h24 : stn S z.toNat < 24
      · exact s_note_ok l hlf G F A TA B S o th H locs cells slots hLI hS t htL y hy ls hl hcl hsl Q kk z z.toNat (by omega) (by omega) hk p1 l1 rp1 rl1 hN h24 hq1 hq2 hq3
      · exact s_note_e3 l hlf G F A TA B S o th H locs cells slots hLI hS t htL y hy ls hl hcl hsl Q kk z z.toNat (by omega) (by omega) hk p1 l1 rp1 rl1 hN h24 hq1 hq2 hq3
    · exact s_note_e2 l hlf G F A TA B S o th H locs cells slots hLI hS t htL y hy ls hl hcl hsl Q kk z z.toNat (by omega) (by omega) hk p1 l1 rp1 rl1 hN hq1 hq2 hq3
  · exact s_note_e1 l hlf G F A TA B S o th H locs cells slots hLI hS t htL y hy ls hl hcl hsl Q kk z rz hkw p1 l1 hq1 hq2 hq3
theorem c_correct (l : Launch) (hlf : l.stackTraces = false) (G : gG) {p : Program} {e : Env} {s : State} {m : MethodId} {below : List Frame} {meth : Method} {c : Code} {b L : Nat} {xs : Nat → Int32} (F : lwF p s m c G b L xs) (A : Nat → Nat) (TA : Nat → Nat → Nat) (B : Nat → Nat) (S : cS) (o : Nat) (th : Int) (H : Heap) (locs : List Loc) (cells slots : Nat) (hLI : LI G A TA B o S th H) (hS : va_S (gA G) s.heap H locs) (t : Nat) (htL : 5 * t + 5 ≤ L) (y : Int) (hy : y = (5 * t : Nat)) (ls : Array Slot) (hl : lv_has ls 7 [(4, .int (zI y)), (0, .ref b), (1, .ref (A 0)), (2, .ref (B 0)), (3, .ref o)]) (hcl : cells + 12 ≤ 601024) (hsl : slots + 900 ≤ 7293034) (Q : State → Prop) (kk : lwK l G p e s m below meth c b A B o y cells slots Q) : W p l e room_1 s m #[Value.ref b] below meth c H locs cells slots Q (F0 m 296 ls []) := by
  have hI := hLI.1
  obtain ⟨z, hq1, rz⟩ := asI (xs (5 * t + 1))
  obtain ⟨z2, hq2, rz2⟩ := asI (xs (5 * t + 2))
  obtain ⟨p1, hq3, rp1⟩ := asI (xs (5 * t + 3))
  obtain ⟨l1, hq4, rl1⟩ := asI (xs (5 * t + 4))
  by_cases hkw : kwn S z
  · obtain ⟨⟨hza, hzb⟩, hk⟩ := id hkw
    by_cases hk2 : 0 ≤ z2 ∧ z2 < (stn S z.toNat : Int)
    · by_cases hN : isN p1 l1
      · exact s_correct_ok l hlf G F A TA B S o th H locs cells slots hLI hS t htL y hy ls hl hcl hsl Q kk z z.toNat (by omega) (by omega) hk z2 rz2 p1 l1 rp1 rl1 z2.toNat (by omega) (by omega) hN hq1 hq2 hq3 hq4
      · exact s_correct_e3 l hlf G F A TA B S o th H locs cells slots hLI hS t htL y hy ls hl hcl hsl Q kk z z.toNat (by omega) (by omega) hk z2 rz2 p1 l1 rp1 rl1 hk2 hN hq1 hq2 hq3 hq4
    · exact s_correct_e2 l hlf G F A TA B S o th H locs cells slots hLI hS t htL y hy ls hl hcl hsl Q kk z z.toNat (by omega) (by omega) hk z2 rz2 p1 l1 rp1 rl1 hk2 hq1 hq2 hq3 hq4
  · exact s_correct_e1 l hlf G F A TA B S o th H locs cells slots hLI hS t htL y hy ls hl hcl hsl Q kk z rz hkw z2 rz2 p1 l1 hq1 hq2 hq3 hq4
theorem c_shift (l : Launch) (hlf : l.stackTraces = false) (G : gG) {p : Program} {e : Env} {s : State} {m : MethodId} {below : List Frame} {meth : Method} {c : Code} {b L : Nat} {xs : Nat → Int32} (F : lwF p s m c G b L xs) (A : Nat → Nat) (TA : Nat → Nat → Nat) (B : Nat → Nat) (S : cS) (o : Nat) (th : Int) (H : Heap) (locs : List Loc) (cells slots : Nat) (hLI : LI G A TA B o S th H) (hS : va_S (gA G) s.heap H locs) (t : Nat) (htL : 5 * t + 5 ≤ L) (y : Int) (hy : y = (5 * t : Nat)) (ls : Array Slot) (hl : lv_has ls 7 [(4, .int (zI y)), (0, .ref b), (1, .ref (A 0)), (2, .ref (B 0)), (3, .ref o)]) (hcl : cells + 12 ≤ 601024) (hsl : slots + 900 ≤ 7293034) (Q : State → Prop) (kk : lwK l G p e s m below meth c b A B o y cells slots Q) : W p l e room_1 s m #[Value.ref b] below meth c H locs cells slots Q (F0 m 388 ls []) := by
  have hI := hLI.1
  obtain ⟨z, hq1, rz⟩ := asI (xs (5 * t + 1))
  obtain ⟨d, hq2, rd⟩ := asI (xs (5 * t + 2))
  by_cases hkw : kwn S z
  · obtain ⟨⟨hza, hzb⟩, hk⟩ := id hkw
    by_cases hd : -60 ≤ d ∧ d ≤ 60
    · by_cases hall : ∀ k, k < stn S z.toNat → 0 ≤ stp S z.toNat k + d ∧ stp S z.toNat k + d ≤ 60
      · exact s_shift_ok l hlf G F A TA B S o th H locs cells slots hLI hS t htL y hy ls hl hcl hsl Q kk z z.toNat (by omega) (by omega) hk d rd hd hall hq1 hq2
      · obtain ⟨q0, hq⟩ := Classical.not_forall.mp hall
        obtain ⟨hq0, hbad⟩ := Classical.not_imp.mp hq
        exact s_shift_e3 l hlf G F A TA B S o th H locs cells slots hLI hS t htL y hy ls hl hcl hsl Q kk z z.toNat (by omega) (by omega) hk d rd hd q0 hq0 hbad hq1 hq2
    · exact s_shift_e2 l hlf G F A TA B S o th H locs cells slots hLI hS t htL y hy ls hl hcl hsl Q kk z z.toNat (by omega) (by omega) hk d rd hd hq1 hq2
  · exact s_shift_e1 l hlf G F A TA B S o th H locs cells slots hLI hS t htL y hy ls hl hcl hsl Q kk z rz hkw d hq1 hq2
theorem c_retire (l : Launch) (hlf : l.stackTraces = false) (G : gG) {p : Program} {e : Env} {s : State} {m : MethodId} {below : List Frame} {meth : Method} {c : Code} {b L : Nat} {xs : Nat → Int32} (F : lwF p s m c G b L xs) (A : Nat → Nat) (TA : Nat → Nat → Nat) (B : Nat → Nat) (S : cS) (o : Nat) (th : Int) (H : Heap) (locs : List Loc) (cells slots : Nat) (hLI : LI G A TA B o S th H) (hS : va_S (gA G) s.heap H locs) (t : Nat) (htL : 5 * t + 5 ≤ L) (y : Int) (hy : y = (5 * t : Nat)) (ls : Array Slot) (hl : lv_has ls 7 [(4, .int (zI y)), (0, .ref b), (1, .ref (A 0)), (2, .ref (B 0)), (3, .ref o)]) (hcl : cells + 12 ≤ 601024) (hsl : slots + 900 ≤ 7293034) (Q : State → Prop) (kk : lwK l G p e s m below meth c b A B o y cells slots Q) : W p l e room_1 s m #[Value.ref b] below meth c H locs cells slots Q (F0 m 436 ls []) := by
  have hI := hLI.1
  obtain ⟨z, hq1, rz⟩ := asI (xs (5 * t + 1))
  by_cases hkw : kwn S z
  · obtain ⟨⟨hza, hzb⟩, hk⟩ := id hkw
    exact s_retire_ok l hlf G F A TA B S o th H locs cells slots hLI hS t htL y hy ls hl hcl hsl Q kk z z.toNat (by omega) (by omega) hk hq1
  · exact s_retire_e1 l hlf G F A TA B S o th H locs cells slots hLI hS t htL y hy ls hl hcl hsl Q kk z rz hkw hq1
theorem c_tunes (l : Launch) (hlf : l.stackTraces = false) (G : gG) {p : Program} {e : Env} {s : State} {m : MethodId} {below : List Frame} {meth : Method} {c : Code} {b L : Nat} {xs : Nat → Int32} (F : lwF p s m c G b L xs) (A : Nat → Nat) (TA : Nat → Nat → Nat) (B : Nat → Nat) (S : cS) (o : Nat) (th : Int) (H : Heap) (locs : List Loc) (cells slots : Nat) (hLI : LI G A TA B o S th H) (hS : va_S (gA G) s.heap H locs) (t : Nat) (htL : 5 * t + 5 ≤ L) (y : Int) (hy : y = (5 * t : Nat)) (ls : Array Slot) (hl : lv_has ls 7 [(4, .int (zI y)), (0, .ref b), (1, .ref (A 0)), (2, .ref (B 0)), (3, .ref o)]) (hcl : cells + 12 ≤ 601024) (hsl : slots + 900 ≤ 7293034) (Q : State → Prop) (kk : lwK l G p e s m below meth c b A B o y cells slots Q) : W p l e room_1 s m #[Value.ref b] below meth c H locs cells slots Q (F0 m 492 ls []) := by
  have hI := hLI.1
  exact s_tunes_ok l hlf G F A TA B S o th H locs cells slots hLI hS t htL y hy ls hl hcl hsl Q kk 
theorem c_notes (l : Launch) (hlf : l.stackTraces = false) (G : gG) {p : Program} {e : Env} {s : State} {m : MethodId} {below : List Frame} {meth : Method} {c : Code} {b L : Nat} {xs : Nat → Int32} (F : lwF p s m c G b L xs) (A : Nat → Nat) (TA : Nat → Nat → Nat) (B : Nat → Nat) (S : cS) (o : Nat) (th : Int) (H : Heap) (locs : List Loc) (cells slots : Nat) (hLI : LI G A TA B o S th H) (hS : va_S (gA G) s.heap H locs) (t : Nat) (htL : 5 * t + 5 ≤ L) (y : Int) (hy : y = (5 * t : Nat)) (ls : Array Slot) (hl : lv_has ls 7 [(4, .int (zI y)), (0, .ref b), (1, .ref (A 0)), (2, .ref (B 0)), (3, .ref o)]) (hcl : cells + 12 ≤ 601024) (hsl : slots + 900 ≤ 7293034) (Q : State → Prop) (kk : lwK l G p e s m below meth c b A B o y cells slots Q) : W p l e room_1 s m #[Value.ref b] below meth c H locs cells slots Q (F0 m 505 ls []) := by
  have hI := hLI.1
  obtain ⟨z, hq1, rz⟩ := asI (xs (5 * t + 1))
  by_cases hi : 0 ≤ z ∧ z < (sn S : Int)
  · exact s_notes_ok l hlf G F A TA B S o th H locs cells slots hLI hS t htL y hy ls hl hcl hsl Q kk z z.toNat (by omega) (by omega) hq1
  · exact s_notes_e1 l hlf G F A TA B S o th H locs cells slots hLI hS t htL y hy ls hl hcl hsl Q kk z rz hi hq1
theorem c_step (l : Launch) (hlf : l.stackTraces = false) (G : gG) {p : Program} {e : Env} {s : State} {m : MethodId} {below : List Frame} {meth : Method} {c : Code} {b L : Nat} {xs : Nat → Int32} (F : lwF p s m c G b L xs) (A : Nat → Nat) (TA : Nat → Nat → Nat) (B : Nat → Nat) (S : cS) (o : Nat) (th : Int) (H : Heap) (locs : List Loc) (cells slots : Nat) (hLI : LI G A TA B o S th H) (hS : va_S (gA G) s.heap H locs) (t : Nat) (htL : 5 * t + 5 ≤ L) (y : Int) (hy : y = (5 * t : Nat)) (ls : Array Slot) (hl : lv_has ls 7 [(4, .int (zI y)), (0, .ref b), (1, .ref (A 0)), (2, .ref (B 0)), (3, .ref o)]) (hcl : cells + 12 ≤ 601024) (hsl : slots + 900 ≤ 7293034) (Q : State → Prop) (kk : lwK l G p e s m below meth c b A B o y cells slots Q) : W p l e room_1 s m #[Value.ref b] below meth c H locs cells slots Q (F0 m 561 ls []) := by
  have hI := hLI.1
  obtain ⟨z, hq1, rz⟩ := asI (xs (5 * t + 1))
  obtain ⟨z2, hq2, rz2⟩ := asI (xs (5 * t + 2))
  by_cases hi : 0 ≤ z ∧ z < (sn S : Int)
  · by_cases hk : 0 ≤ z2 ∧ z2 < (stn S z.toNat : Int) - 1
    · exact s_step_ok l hlf G F A TA B S o th H locs cells slots hLI hS t htL y hy ls hl hcl hsl Q kk z z.toNat (by omega) (by omega) z2 rz2 z2.toNat (by omega) (by omega) hq1 hq2
    · exact s_step_e2 l hlf G F A TA B S o th H locs cells slots hLI hS t htL y hy ls hl hcl hsl Q kk z z.toNat (by omega) (by omega) z2 rz2 hk rz2 hq1 hq2
  · exact s_step_e1 l hlf G F A TA B S o th H locs cells slots hLI hS t htL y hy ls hl hcl hsl Q kk z rz hi z2 rz2 rz2 hq1 hq2
theorem c_shared (l : Launch) (hlf : l.stackTraces = false) (G : gG) {p : Program} {e : Env} {s : State} {m : MethodId} {below : List Frame} {meth : Method} {c : Code} {b L : Nat} {xs : Nat → Int32} (F : lwF p s m c G b L xs) (A : Nat → Nat) (TA : Nat → Nat → Nat) (B : Nat → Nat) (S : cS) (o : Nat) (th : Int) (H : Heap) (locs : List Loc) (cells slots : Nat) (hLI : LI G A TA B o S th H) (hS : va_S (gA G) s.heap H locs) (t : Nat) (htL : 5 * t + 5 ≤ L) (y : Int) (hy : y = (5 * t : Nat)) (ls : Array Slot) (hl : lv_has ls 7 [(4, .int (zI y)), (0, .ref b), (1, .ref (A 0)), (2, .ref (B 0)), (3, .ref o)]) (hcl : cells + 12 ≤ 601024) (hsl : slots + 900 ≤ 7293034) (Q : State → Prop) (kk : lwK l G p e s m below meth c b A B o y cells slots Q) : W p l e room_1 s m #[Value.ref b] below meth c H locs cells slots Q (F0 m 629 ls []) := by
  have hI := hLI.1
  obtain ⟨z1, hq1, rz1⟩ := asI (xs (5 * t + 1))
  obtain ⟨z2, hq2, rz2⟩ := asI (xs (5 * t + 2))
  by_cases hi : 0 ≤ z1 ∧ z1 < (sn S : Int)
  · by_cases hj : 0 ≤ z2 ∧ z2 < (sn S : Int)
    · exact s_shared_ok l hlf G F A TA B S o th H locs cells slots hLI hS t htL y hy ls hl hcl hsl Q kk z1 z2 z1.toNat z2.toNat (by omega) (by omega) (by omega) (by omega) hq1 hq2
    · exact s_shared_e2 l hlf G F A TA B S o th H locs cells slots hLI hS t htL y hy ls hl hcl hsl Q kk z1 z2 z1.toNat (by omega) (by omega) rz2 hj hq1 hq2
  · exact s_shared_e1 l hlf G F A TA B S o th H locs cells slots hLI hS t htL y hy ls hl hcl hsl Q kk z1 z2 rz1 rz2 hi hq1 hq2
theorem c_hum (l : Launch) (hlf : l.stackTraces = false) (G : gG) {p : Program} {e : Env} {s : State} {m : MethodId} {below : List Frame} {meth : Method} {c : Code} {b L : Nat} {xs : Nat → Int32} (F : lwF p s m c G b L xs) (A : Nat → Nat) (TA : Nat → Nat → Nat) (B : Nat → Nat) (S : cS) (o : Nat) (th : Int) (H : Heap) (locs : List Loc) (cells slots : Nat) (hLI : LI G A TA B o S th H) (hS : va_S (gA G) s.heap H locs) (t : Nat) (htL : 5 * t + 5 ≤ L) (y : Int) (hy : y = (5 * t : Nat)) (ls : Array Slot) (hl : lv_has ls 7 [(4, .int (zI y)), (0, .ref b), (1, .ref (A 0)), (2, .ref (B 0)), (3, .ref o)]) (hcl : cells + 12 ≤ 601024) (hsl : slots + 900 ≤ 7293034) (Q : State → Prop) (kk : lwK l G p e s m below meth c b A B o y cells slots Q) : W p l e room_1 s m #[Value.ref b] below meth c H locs cells slots Q (F0 m 697 ls []) := by
  have hI := hLI.1
  obtain ⟨p1, hq1, rp1⟩ := asI (xs (5 * t + 1))
  by_cases h60 : 0 ≤ p1 ∧ p1 ≤ 60
  · by_cases h12 : shn S < 12
    · exact s_hum_ok l hlf G F A TA B S o th H locs cells slots hLI hS t htL y hy ls hl hcl hsl Q kk p1 rp1 h60 h12 hq1
    · exact s_hum_e2 l hlf G F A TA B S o th H locs cells slots hLI hS t htL y hy ls hl hcl hsl Q kk p1 rp1 h60 h12 hq1
  · exact s_hum_e1 l hlf G F A TA B S o th H locs cells slots hLI hS t htL y hy ls hl hcl hsl Q kk p1 rp1 h60 hq1
theorem c_hush (l : Launch) (hlf : l.stackTraces = false) (G : gG) {p : Program} {e : Env} {s : State} {m : MethodId} {below : List Frame} {meth : Method} {c : Code} {b L : Nat} {xs : Nat → Int32} (F : lwF p s m c G b L xs) (A : Nat → Nat) (TA : Nat → Nat → Nat) (B : Nat → Nat) (S : cS) (o : Nat) (th : Int) (H : Heap) (locs : List Loc) (cells slots : Nat) (hLI : LI G A TA B o S th H) (hS : va_S (gA G) s.heap H locs) (t : Nat) (htL : 5 * t + 5 ≤ L) (y : Int) (hy : y = (5 * t : Nat)) (ls : Array Slot) (hl : lv_has ls 7 [(4, .int (zI y)), (0, .ref b), (1, .ref (A 0)), (2, .ref (B 0)), (3, .ref o)]) (hcl : cells + 12 ≤ 601024) (hsl : slots + 900 ≤ 7293034) (Q : State → Prop) (kk : lwK l G p e s m below meth c b A B o y cells slots Q) : W p l e room_1 s m #[Value.ref b] below meth c H locs cells slots Q (F0 m 753 ls []) := by
  have hI := hLI.1
  exact s_hush_ok l hlf G F A TA B S o th H locs cells slots hLI hS t htL y hy ls hl hcl hsl Q kk 
theorem c_hummed (l : Launch) (hlf : l.stackTraces = false) (G : gG) {p : Program} {e : Env} {s : State} {m : MethodId} {below : List Frame} {meth : Method} {c : Code} {b L : Nat} {xs : Nat → Int32} (F : lwF p s m c G b L xs) (A : Nat → Nat) (TA : Nat → Nat → Nat) (B : Nat → Nat) (S : cS) (o : Nat) (th : Int) (H : Heap) (locs : List Loc) (cells slots : Nat) (hLI : LI G A TA B o S th H) (hS : va_S (gA G) s.heap H locs) (t : Nat) (htL : 5 * t + 5 ≤ L) (y : Int) (hy : y = (5 * t : Nat)) (ls : Array Slot) (hl : lv_has ls 7 [(4, .int (zI y)), (0, .ref b), (1, .ref (A 0)), (2, .ref (B 0)), (3, .ref o)]) (hcl : cells + 12 ≤ 601024) (hsl : slots + 900 ≤ 7293034) (Q : State → Prop) (kk : lwK l G p e s m below meth c b A B o y cells slots Q) : W p l e room_1 s m #[Value.ref b] below meth c H locs cells slots Q (F0 m 766 ls []) := by
  have hI := hLI.1
  exact s_hummed_ok l hlf G F A TA B S o th H locs cells slots hLI hS t htL y hy ls hl hcl hsl Q kk 
theorem c_setCosts (l : Launch) (hlf : l.stackTraces = false) (G : gG) {p : Program} {e : Env} {s : State} {m : MethodId} {below : List Frame} {meth : Method} {c : Code} {b L : Nat} {xs : Nat → Int32} (F : lwF p s m c G b L xs) (A : Nat → Nat) (TA : Nat → Nat → Nat) (B : Nat → Nat) (S : cS) (o : Nat) (th : Int) (H : Heap) (locs : List Loc) (cells slots : Nat) (hLI : LI G A TA B o S th H) (hS : va_S (gA G) s.heap H locs) (t : Nat) (htL : 5 * t + 5 ≤ L) (y : Int) (hy : y = (5 * t : Nat)) (ls : Array Slot) (hl : lv_has ls 7 [(4, .int (zI y)), (0, .ref b), (1, .ref (A 0)), (2, .ref (B 0)), (3, .ref o)]) (hcl : cells + 12 ≤ 601024) (hsl : slots + 900 ≤ 7293034) (Q : State → Prop) (kk : lwK l G p e s m below meth c b A B o y cells slots Q) : W p l e room_1 s m #[Value.ref b] below meth c H locs cells slots Q (F0 m 779 ls []) := by
  have hI := hLI.1
  obtain ⟨c1, hq1, rc1⟩ := asI (xs (5 * t + 1))
  obtain ⟨c2, hq2, rc2⟩ := asI (xs (5 * t + 2))
  obtain ⟨c3, hq3, rc3⟩ := asI (xs (5 * t + 3))
  by_cases h1c : 0 ≤ c1 ∧ c1 ≤ 20
  · by_cases h2c : 0 ≤ c2 ∧ c2 ≤ 20
    · by_cases h3c : 0 ≤ c3 ∧ c3 ≤ 20
      · exact s_setCosts_ok l hlf G F A TA B S o th H locs cells slots hLI hS t htL y hy ls hl hcl hsl Q kk c1 c2 c3 rc1 rc2 rc3 ⟨h1c, h2c, h3c⟩ hq1 hq2 hq3
      · exact s_setCosts_e3 l hlf G F A TA B S o th H locs cells slots hLI hS t htL y hy ls hl hcl hsl Q kk c1 c2 c3 rc1 rc2 rc3 h1c h2c h3c hq1 hq2 hq3
    · exact s_setCosts_e2 l hlf G F A TA B S o th H locs cells slots hLI hS t htL y hy ls hl hcl hsl Q kk c1 c2 c3 rc1 rc2 rc3 h1c h2c hq1 hq2 hq3
  · exact s_setCosts_e1 l hlf G F A TA B S o th H locs cells slots hLI hS t htL y hy ls hl hcl hsl Q kk c1 c2 c3 rc1 rc2 rc3 h1c hq1 hq2 hq3
theorem c_cost (l : Launch) (hlf : l.stackTraces = false) (G : gG) {p : Program} {e : Env} {s : State} {m : MethodId} {below : List Frame} {meth : Method} {c : Code} {b L : Nat} {xs : Nat → Int32} (F : lwF p s m c G b L xs) (A : Nat → Nat) (TA : Nat → Nat → Nat) (B : Nat → Nat) (S : cS) (o : Nat) (th : Int) (H : Heap) (locs : List Loc) (cells slots : Nat) (hLI : LI G A TA B o S th H) (hS : va_S (gA G) s.heap H locs) (t : Nat) (htL : 5 * t + 5 ≤ L) (y : Int) (hy : y = (5 * t : Nat)) (ls : Array Slot) (hl : lv_has ls 7 [(4, .int (zI y)), (0, .ref b), (1, .ref (A 0)), (2, .ref (B 0)), (3, .ref o)]) (hcl : cells + 12 ≤ 601024) (hsl : slots + 900 ≤ 7293034) (Q : State → Prop) (kk : lwK l G p e s m below meth c b A B o y cells slots Q) : W p l e room_1 s m #[Value.ref b] below meth c H locs cells slots Q (F0 m 839 ls []) := by
  have hI := hLI.1
  obtain ⟨z, hq1, rz⟩ := asI (xs (5 * t + 1))
  by_cases hkw : kwn S z
  · obtain ⟨⟨hza, hzb⟩, hk⟩ := id hkw
    exact s_cost_ok l hlf G F A TA B S o th H locs cells slots hLI hS t htL y hy ls hl hcl hsl Q kk z z.toNat (by omega) (by omega) hk hq1
  · exact s_cost_e1 l hlf G F A TA B S o th H locs cells slots hLI hS t htL y hy ls hl hcl hsl Q kk z rz hkw hq1
theorem c_costByAll (l : Launch) (hlf : l.stackTraces = false) (G : gG) {p : Program} {e : Env} {s : State} {m : MethodId} {below : List Frame} {meth : Method} {c : Code} {b L : Nat} {xs : Nat → Int32} (F : lwF p s m c G b L xs) (A : Nat → Nat) (TA : Nat → Nat → Nat) (B : Nat → Nat) (S : cS) (o : Nat) (th : Int) (H : Heap) (locs : List Loc) (cells slots : Nat) (hLI : LI G A TA B o S th H) (hS : va_S (gA G) s.heap H locs) (t : Nat) (htL : 5 * t + 5 ≤ L) (y : Int) (hy : y = (5 * t : Nat)) (ls : Array Slot) (hl : lv_has ls 7 [(4, .int (zI y)), (0, .ref b), (1, .ref (A 0)), (2, .ref (B 0)), (3, .ref o)]) (hcl : cells + 12 ≤ 601024) (hsl : slots + 900 ≤ 7293034) (Q : State → Prop) (kk : lwK l G p e s m below meth c b A B o y cells slots Q) : W p l e room_1 s m #[Value.ref b] below meth c H locs cells slots Q (F0 m 895 ls []) := by
  have hI := hLI.1
  obtain ⟨z, hq1, rz⟩ := asI (xs (5 * t + 1))
  by_cases hkw : kwn S z
  · obtain ⟨⟨hza, hzb⟩, hk⟩ := id hkw
    by_cases h8 : shn S ≤ 8
    · exact s_costByAll_ok l hlf G F A TA B S o th H locs cells slots hLI hS t htL y hy ls hl hcl hsl Q kk z z.toNat (by omega) (by omega) hk h8 hq1
    · exact s_costByAll_e2 l hlf G F A TA B S o th H locs cells slots hLI hS t htL y hy ls hl hcl hsl Q kk z z.toNat (by omega) (by omega) hk h8 hq1
  · exact s_costByAll_e1 l hlf G F A TA B S o th H locs cells slots hLI hS t htL y hy ls hl hcl hsl Q kk z rz hkw hq1
theorem c_matches (l : Launch) (hlf : l.stackTraces = false) (G : gG) {p : Program} {e : Env} {s : State} {m : MethodId} {below : List Frame} {meth : Method} {c : Code} {b L : Nat} {xs : Nat → Int32} (F : lwF p s m c G b L xs) (A : Nat → Nat) (TA : Nat → Nat → Nat) (B : Nat → Nat) (S : cS) (o : Nat) (th : Int) (H : Heap) (locs : List Loc) (cells slots : Nat) (hLI : LI G A TA B o S th H) (hS : va_S (gA G) s.heap H locs) (t : Nat) (htL : 5 * t + 5 ≤ L) (y : Int) (hy : y = (5 * t : Nat)) (ls : Array Slot) (hl : lv_has ls 7 [(4, .int (zI y)), (0, .ref b), (1, .ref (A 0)), (2, .ref (B 0)), (3, .ref o)]) (hcl : cells + 12 ≤ 601024) (hsl : slots + 900 ≤ 7293034) (Q : State → Prop) (kk : lwK l G p e s m below meth c b A B o y cells slots Q) : W p l e room_1 s m #[Value.ref b] below meth c H locs cells slots Q (F0 m 951 ls []) := by
  have hI := hLI.1
  exact s_matches_ok l hlf G F A TA B S o th H locs cells slots hLI hS t htL y hy ls hl hcl hsl Q kk 
theorem c_found (l : Launch) (hlf : l.stackTraces = false) (G : gG) {p : Program} {e : Env} {s : State} {m : MethodId} {below : List Frame} {meth : Method} {c : Code} {b L : Nat} {xs : Nat → Int32} (F : lwF p s m c G b L xs) (A : Nat → Nat) (TA : Nat → Nat → Nat) (B : Nat → Nat) (S : cS) (o : Nat) (th : Int) (H : Heap) (locs : List Loc) (cells slots : Nat) (hLI : LI G A TA B o S th H) (hS : va_S (gA G) s.heap H locs) (t : Nat) (htL : 5 * t + 5 ≤ L) (y : Int) (hy : y = (5 * t : Nat)) (ls : Array Slot) (hl : lv_has ls 7 [(4, .int (zI y)), (0, .ref b), (1, .ref (A 0)), (2, .ref (B 0)), (3, .ref o)]) (hcl : cells + 12 ≤ 601024) (hsl : slots + 900 ≤ 7293034) (Q : State → Prop) (kk : lwK l G p e s m below meth c b A B o y cells slots Q) : W p l e room_1 s m #[Value.ref b] below meth c H locs cells slots Q (F0 m 964 ls []) := by
  have hI := hLI.1
  obtain ⟨z, hq1, rz⟩ := asI (xs (5 * t + 1))
  cases hf : fdF S z 0 (sn S) with
  | none => exact s_found_e1 l hlf G F A TA B S o th H locs cells slots hLI hS t htL y hy ls hl hcl hsl Q kk z rz hf hq1
  | some k0 => exact s_found_ok l hlf G F A TA B S o th H locs cells slots hLI hS t htL y hy ls hl hcl hsl Q kk z rz k0 hf hq1
theorem c_likeContour (l : Launch) (hlf : l.stackTraces = false) (G : gG) {p : Program} {e : Env} {s : State} {m : MethodId} {below : List Frame} {meth : Method} {c : Code} {b L : Nat} {xs : Nat → Int32} (F : lwF p s m c G b L xs) (A : Nat → Nat) (TA : Nat → Nat → Nat) (B : Nat → Nat) (S : cS) (o : Nat) (th : Int) (H : Heap) (locs : List Loc) (cells slots : Nat) (hLI : LI G A TA B o S th H) (hS : va_S (gA G) s.heap H locs) (t : Nat) (htL : 5 * t + 5 ≤ L) (y : Int) (hy : y = (5 * t : Nat)) (ls : Array Slot) (hl : lv_has ls 7 [(4, .int (zI y)), (0, .ref b), (1, .ref (A 0)), (2, .ref (B 0)), (3, .ref o)]) (hcl : cells + 12 ≤ 601024) (hsl : slots + 900 ≤ 7293034) (Q : State → Prop) (kk : lwK l G p e s m below meth c b A B o y cells slots Q) : W p l e room_1 s m #[Value.ref b] below meth c H locs cells slots Q (F0 m 1020 ls []) := by
  have hI := hLI.1
  exact s_likeContour_ok l hlf G F A TA B S o th H locs cells slots hLI hS t htL y hy ls hl hcl hsl Q kk 
theorem c_places (l : Launch) (hlf : l.stackTraces = false) (G : gG) {p : Program} {e : Env} {s : State} {m : MethodId} {below : List Frame} {meth : Method} {c : Code} {b L : Nat} {xs : Nat → Int32} (F : lwF p s m c G b L xs) (A : Nat → Nat) (TA : Nat → Nat → Nat) (B : Nat → Nat) (S : cS) (o : Nat) (th : Int) (H : Heap) (locs : List Loc) (cells slots : Nat) (hLI : LI G A TA B o S th H) (hS : va_S (gA G) s.heap H locs) (t : Nat) (htL : 5 * t + 5 ≤ L) (y : Int) (hy : y = (5 * t : Nat)) (ls : Array Slot) (hl : lv_has ls 7 [(4, .int (zI y)), (0, .ref b), (1, .ref (A 0)), (2, .ref (B 0)), (3, .ref o)]) (hcl : cells + 12 ≤ 601024) (hsl : slots + 900 ≤ 7293034) (Q : State → Prop) (kk : lwK l G p e s m below meth c b A B o y cells slots Q) : W p l e room_1 s m #[Value.ref b] below meth c H locs cells slots Q (F0 m 1033 ls []) := by
  have hI := hLI.1
  obtain ⟨zs, hq1, rzs⟩ := asI (xs (5 * t + 1))
  by_cases h14 : 1 ≤ zs ∧ zs ≤ 4
  · by_cases hst : zs ≤ (shn S : Int) - 1
    · exact s_places_ok l hlf G F A TA B S o th H locs cells slots hLI hS t htL y hy ls hl hcl hsl Q kk zs zs.toNat (by omega) ⟨by omega, by omega⟩ (by omega) hq1
    · exact s_places_e2 l hlf G F A TA B S o th H locs cells slots hLI hS t htL y hy ls hl hcl hsl Q kk zs rzs h14 hst hq1
  · exact s_places_e1 l hlf G F A TA B S o th H locs cells slots hLI hS t htL y hy ls hl hcl hsl Q kk zs rzs h14 hq1
theorem c_place (l : Launch) (hlf : l.stackTraces = false) (G : gG) {p : Program} {e : Env} {s : State} {m : MethodId} {below : List Frame} {meth : Method} {c : Code} {b L : Nat} {xs : Nat → Int32} (F : lwF p s m c G b L xs) (A : Nat → Nat) (TA : Nat → Nat → Nat) (B : Nat → Nat) (S : cS) (o : Nat) (th : Int) (H : Heap) (locs : List Loc) (cells slots : Nat) (hLI : LI G A TA B o S th H) (hS : va_S (gA G) s.heap H locs) (t : Nat) (htL : 5 * t + 5 ≤ L) (y : Int) (hy : y = (5 * t : Nat)) (ls : Array Slot) (hl : lv_has ls 7 [(4, .int (zI y)), (0, .ref b), (1, .ref (A 0)), (2, .ref (B 0)), (3, .ref o)]) (hcl : cells + 12 ≤ 601024) (hsl : slots + 900 ≤ 7293034) (Q : State → Prop) (kk : lwK l G p e s m below meth c b A B o y cells slots Q) : W p l e room_1 s m #[Value.ref b] below meth c H locs cells slots Q (F0 m 1089 ls []) := by
  have hI := hLI.1
  obtain ⟨zs, hq1, rzs⟩ := asI (xs (5 * t + 1))
  obtain ⟨zp, hq2, rzp⟩ := asI (xs (5 * t + 2))
  by_cases h14 : 1 ≤ zs ∧ zs ≤ 4
  · by_cases hst : zs ≤ (shn S : Int) - 1
    · by_cases hp : 0 ≤ zp ∧ zp < ((plA S zs.toNat (sn S)).length : Int)
      · exact s_place_ok l hlf G F A TA B S o th H locs cells slots hLI hS t htL y hy ls hl hcl hsl Q kk zs zs.toNat (by omega) ⟨by omega, by omega⟩ (by omega) zp zp.toNat (by omega) (by omega) hq1 hq2
      · exact s_place_e3 l hlf G F A TA B S o th H locs cells slots hLI hS t htL y hy ls hl hcl hsl Q kk zs zs.toNat (by omega) ⟨by omega, by omega⟩ (by omega) zp rzp hp hq1 hq2
    · exact s_place_e2 l hlf G F A TA B S o th H locs cells slots hLI hS t htL y hy ls hl hcl hsl Q kk zs rzs h14 hst zp hq1 hq2
  · exact s_place_e1 l hlf G F A TA B S o th H locs cells slots hLI hS t htL y hy ls hl hcl hsl Q kk zs rzs h14 zp hq1 hq2
theorem c_link (l : Launch) (hlf : l.stackTraces = false) (G : gG) {p : Program} {e : Env} {s : State} {m : MethodId} {below : List Frame} {meth : Method} {c : Code} {b L : Nat} {xs : Nat → Int32} (F : lwF p s m c G b L xs) (A : Nat → Nat) (TA : Nat → Nat → Nat) (B : Nat → Nat) (S : cS) (o : Nat) (th : Int) (H : Heap) (locs : List Loc) (cells slots : Nat) (hLI : LI G A TA B o S th H) (hS : va_S (gA G) s.heap H locs) (t : Nat) (htL : 5 * t + 5 ≤ L) (y : Int) (hy : y = (5 * t : Nat)) (ls : Array Slot) (hl : lv_has ls 7 [(4, .int (zI y)), (0, .ref b), (1, .ref (A 0)), (2, .ref (B 0)), (3, .ref o)]) (hcl : cells + 12 ≤ 601024) (hsl : slots + 900 ≤ 7293034) (Q : State → Prop) (kk : lwK l G p e s m below meth c b A B o y cells slots Q) : W p l e room_1 s m #[Value.ref b] below meth c H locs cells slots Q (F0 m 1157 ls []) := by
  have hI := hLI.1
  obtain ⟨z1, hq1, rz1⟩ := asI (xs (5 * t + 1))
  obtain ⟨z2, hq2, rz2⟩ := asI (xs (5 * t + 2))
  by_cases hi : 0 ≤ z1 ∧ z1 < (sn S : Int)
  · by_cases hj : 0 ≤ z2 ∧ z2 < (sn S : Int)
    · by_cases hij : z1 = z2
      · exact s_link_e2 l hlf G F A TA B S o th H locs cells slots hLI hS t htL y hy ls hl hcl hsl Q kk z1 z2 z1.toNat z2.toNat (by omega) (by omega) (by omega) (by omega) (by omega) hq1 hq2
      · cases htb : (slk S z1.toNat).testBit z2.toNat
        · exact s_link_ok l hlf G F A TA B S o th H locs cells slots hLI hS t htL y hy ls hl hcl hsl Q kk z1 z2 z1.toNat z2.toNat (by omega) (by omega) (by omega) (by omega) (by omega) htb hq1 hq2
        · exact s_link_e3 l hlf G F A TA B S o th H locs cells slots hLI hS t htL y hy ls hl hcl hsl Q kk z1 z2 z1.toNat z2.toNat (by omega) (by omega) (by omega) (by omega) (by omega) htb hq1 hq2
    · exact s_link_e1b l hlf G F A TA B S o th H locs cells slots hLI hS t htL y hy ls hl hcl hsl Q kk z1 z2 z1.toNat (by omega) (by omega) rz2 hj rz1 hq1 hq2
  · exact s_link_e1 l hlf G F A TA B S o th H locs cells slots hLI hS t htL y hy ls hl hcl hsl Q kk z1 z2 rz1 rz2 hi hq1 hq2
theorem c_cut (l : Launch) (hlf : l.stackTraces = false) (G : gG) {p : Program} {e : Env} {s : State} {m : MethodId} {below : List Frame} {meth : Method} {c : Code} {b L : Nat} {xs : Nat → Int32} (F : lwF p s m c G b L xs) (A : Nat → Nat) (TA : Nat → Nat → Nat) (B : Nat → Nat) (S : cS) (o : Nat) (th : Int) (H : Heap) (locs : List Loc) (cells slots : Nat) (hLI : LI G A TA B o S th H) (hS : va_S (gA G) s.heap H locs) (t : Nat) (htL : 5 * t + 5 ≤ L) (y : Int) (hy : y = (5 * t : Nat)) (ls : Array Slot) (hl : lv_has ls 7 [(4, .int (zI y)), (0, .ref b), (1, .ref (A 0)), (2, .ref (B 0)), (3, .ref o)]) (hcl : cells + 12 ≤ 601024) (hsl : slots + 900 ≤ 7293034) (Q : State → Prop) (kk : lwK l G p e s m below meth c b A B o y cells slots Q) : W p l e room_1 s m #[Value.ref b] below meth c H locs cells slots Q (F0 m 1225 ls []) := by
  have hI := hLI.1
  obtain ⟨z1, hq1, rz1⟩ := asI (xs (5 * t + 1))
  obtain ⟨z2, hq2, rz2⟩ := asI (xs (5 * t + 2))
  by_cases hi : 0 ≤ z1 ∧ z1 < (sn S : Int)
  · by_cases hj : 0 ≤ z2 ∧ z2 < (sn S : Int)
    · cases htb : (slk S z1.toNat).testBit z2.toNat
      · exact s_cut_e2 l hlf G F A TA B S o th H locs cells slots hLI hS t htL y hy ls hl hcl hsl Q kk z1 z2 z1.toNat z2.toNat (by omega) (by omega) (by omega) (by omega) htb hq1 hq2
      · have h3 := hI.2.2.2.2.2.2.2.2.2.2.1 _ _ htb
        exact s_cut_ok l hlf G F A TA B S o th H locs cells slots hLI hS t htL y hy ls hl hcl hsl Q kk z1 z2 z1.toNat z2.toNat (by omega) (by omega) (by omega) (by omega) h3.2.2 htb hq1 hq2
    · exact s_cut_e1b l hlf G F A TA B S o th H locs cells slots hLI hS t htL y hy ls hl hcl hsl Q kk z1 z2 z1.toNat (by omega) (by omega) rz2 hj rz1 hq1 hq2
  · exact s_cut_e1 l hlf G F A TA B S o th H locs cells slots hLI hS t htL y hy ls hl hcl hsl Q kk z1 z2 rz1 rz2 hi hq1 hq2
theorem c_family (l : Launch) (hlf : l.stackTraces = false) (G : gG) {p : Program} {e : Env} {s : State} {m : MethodId} {below : List Frame} {meth : Method} {c : Code} {b L : Nat} {xs : Nat → Int32} (F : lwF p s m c G b L xs) (A : Nat → Nat) (TA : Nat → Nat → Nat) (B : Nat → Nat) (S : cS) (o : Nat) (th : Int) (H : Heap) (locs : List Loc) (cells slots : Nat) (hLI : LI G A TA B o S th H) (hS : va_S (gA G) s.heap H locs) (t : Nat) (htL : 5 * t + 5 ≤ L) (y : Int) (hy : y = (5 * t : Nat)) (ls : Array Slot) (hl : lv_has ls 7 [(4, .int (zI y)), (0, .ref b), (1, .ref (A 0)), (2, .ref (B 0)), (3, .ref o)]) (hcl : cells + 12 ≤ 601024) (hsl : slots + 900 ≤ 7293034) (Q : State → Prop) (kk : lwK l G p e s m below meth c b A B o y cells slots Q) : W p l e room_1 s m #[Value.ref b] below meth c H locs cells slots Q (F0 m 1293 ls []) := by
  have hI := hLI.1
  obtain ⟨z, hq1, rz⟩ := asI (xs (5 * t + 1))
  by_cases hi : 0 ≤ z ∧ z < (sn S : Int)
  · exact s_family_ok l hlf G F A TA B S o th H locs cells slots hLI hS t htL y hy ls hl hcl hsl Q kk z z.toNat (by omega) (by omega) hq1
  · exact s_family_e1 l hlf G F A TA B S o th H locs cells slots hLI hS t htL y hy ls hl hcl hsl Q kk z rz hi hq1
theorem c_families (l : Launch) (hlf : l.stackTraces = false) (G : gG) {p : Program} {e : Env} {s : State} {m : MethodId} {below : List Frame} {meth : Method} {c : Code} {b L : Nat} {xs : Nat → Int32} (F : lwF p s m c G b L xs) (A : Nat → Nat) (TA : Nat → Nat → Nat) (B : Nat → Nat) (S : cS) (o : Nat) (th : Int) (H : Heap) (locs : List Loc) (cells slots : Nat) (hLI : LI G A TA B o S th H) (hS : va_S (gA G) s.heap H locs) (t : Nat) (htL : 5 * t + 5 ≤ L) (y : Int) (hy : y = (5 * t : Nat)) (ls : Array Slot) (hl : lv_has ls 7 [(4, .int (zI y)), (0, .ref b), (1, .ref (A 0)), (2, .ref (B 0)), (3, .ref o)]) (hcl : cells + 12 ≤ 601024) (hsl : slots + 900 ≤ 7293034) (Q : State → Prop) (kk : lwK l G p e s m below meth c b A B o y cells slots Q) : W p l e room_1 s m #[Value.ref b] below meth c H locs cells slots Q (F0 m 1349 ls []) := by
  have hI := hLI.1
  exact s_families_ok l hlf G F A TA B S o th H locs cells slots hLI hS t htL y hy ls hl hcl hsl Q kk 
