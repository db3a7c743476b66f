-- ===== end of PART A; then your names; then what follows =====
/-! THE CLAIM OUT OF ONE WALK OF THE LAW'S BODY. Your part is whole_start (and what it stands on); all else here is the same for every law, but numbers. -/
def R_law : String := "TuneCatalogueLaw"
def lw_P (b : Addr) (xs : List Int32) (args : Array Value) (s : State) : Prop := args = #[.ref b] ∧ s.IntsAt b xs ∧ xs.length ≤ 2560 ∧ (Jvm.Cond.and given_1 narrow_1).before args s = true
def lw_Q (_ : Array Value) (s : State) (o : Outcome) (t : State) : Prop := o = .returned (some (.int 1)) ∧ Framed s o t [] 601024 7293034
def lw_Z (below : List Frame) (a : Array Value) (s : State) : State → Prop := fun t => ∃ o, t.status = .running ∧ Ended t below o ∧ lw_Q a s o t
/-- the law's own end, with 1 on the stack, nothing written that was there before, its room as the claim has it -/
theorem lw_ret {p : Program} {l : Launch} {e : Env} {s : State} {m : MethodId} {below : List Frame} {meth : Method} {c : Code} {b : Nat} (hx : p.tables.exec = Jvm.exec) (hb : c.code = code) (hr : meth.sig.returnType = ret) (hlocks : meth.locks = false) {pc : Nat} {H : Heap} {ls : Array Slot} (hdg : decode code pc = .ok (.ireturn, 1)) : W p l e room_1 s m #[Value.ref b] below meth c H [] 601024 7293034 (lw_Z below #[Value.ref b] s) (F0 m pc ls [.int 1]) := by
  intro T hT X
  obtain ⟨fs, hret, hrun, hended, hW, hframe⟩ := X.leave (v := some (.int 1)) (hlocks := hlocks) (fun h => by rw [hr] at h; cases h)
  have hmeth' : T.vm.method? m = some meth := X.method'
  refine ⟨T.setFrames fs, ?_, .returned (some (.int 1)), hrun, hended, rfl, ⟨_, rfl⟩, hW, hframe⟩
  jvm_step X.here [X.here.top, hx, hb, hdg, hmeth', hr, ret, narrow_b1]
  (try refine ⟨rfl, ?_⟩); (try refine ⟨rfl, ?_⟩)
  first | (intro acts; rw [hret _ acts rfl rfl rfl]) | rw [hret _ _ rfl rfl rfl]
  exact Steps.refl _
/-- what holds at the law's entry: the machine, the code, the tables' words (any of lw_tbl by 'hts w (by decide +kernel)'), the script of L ints xs at the cell b, what the Statement gives of the start (any of its parts by flat_of_before) -/
def lw_At (p : Program) (s : State) (m : MethodId) (meth : Method) (c : Code) (b L : Nat) (xs : Nat → Int32) : Prop :=
  p.tables.exec = Jvm.exec ∧ c.code = code ∧ meth.sig.returnType = ret ∧ c.maxLocals = 7 ∧ s.vm.findClass R_law = some m.cls ∧ (∀ w ∈ lw_tbl, w.before #[Value.ref b] s = true) ∧ va_X b L xs s s.heap ∧ b < s.heap.size ∧ meth.locks = false ∧ (Jvm.Cond.and given_1 narrow_1).before #[Value.ref b] s = true
/-! ===== the law's start: what the tables give ===== -/
theorem gStr_one : ∀ q ∈ gStr, ∀ r ∈ gStr, q.1 = r.1 → q = r := by decide +kernel
set_option maxHeartbeats 4000000 in
set_option maxRecDepth 100000 in
theorem lw_gX {b : Nat} {s : State} (hts : ∀ w ∈ lw_tbl, w.before #[Value.ref b] s = true) (hgv : (Jvm.Cond.and given_1 narrow_1).before #[Value.ref b] s = true) : ∃ G : gG, gB G = s.heap.size ∧ gX G s s.heap := by
  have hgf := flat_of_before _ hgv
  obtain ⟨c0, i0, k0⟩ := u_known (C := RX0) (T := TX0) (N := 1) (n := 1) hts inX0 (hts (.instantiable RX0 1) (by decide +kernel))
  obtain ⟨c1, i1, k1⟩ := u_known (C := RX1) (T := TX1) (N := 5) (n := 5) hts inX1 (hts (.instantiable RX1 5) (by decide +kernel))
  obtain ⟨c2, i2, k2⟩ := u_known (C := RX2) (T := TX2) (N := 2) (n := 2) hts inX2 (hts (.instantiable RX2 2) (by decide +kernel))
  obtain ⟨c3, i3, k3⟩ := u_known (C := RX3) (T := TX3) (N := 3) (n := 3) hts inX3 (hts (.instantiable RX3 3) (by decide +kernel))
  obtain ⟨c4, i4, k4⟩ := u_known (C := RX4) (T := TX4) (N := 7) (n := 7) hts inX4 (hts (.instantiable RX4 7) (by decide +kernel))
  obtain ⟨c5, i5, k5⟩ := u_known (C := RX5) (T := TX5) (N := 13) (n := 13) hts inX5 (hts (.instantiable RX5 13) (by decide +kernel))
  obtain ⟨cI, kI, pI, fI1, fI2, fI3⟩ := Cond.arrayClass_spec (hts (.arrayClass .int) (by decide +kernel))
  obtain ⟨cZ, kZ, pZ, fZ1, fZ2, fZ3⟩ := Cond.arrayClass_spec (hts (.arrayClass .boolean) (by decide +kernel))
  obtain ⟨cJ, kJ, pJ, fJ1, fJ2, fJ3⟩ := Cond.arrayClass_spec (hts (.arrayClass .long) (by decide +kernel))
  obtain ⟨pT, cT, kT, fT1, fT2, fT3, fT4, fT5⟩ := Cond.arrayOver_spec (hts (.arrayOver (.object "TuneCatalogue$Tune")) (by decide +kernel))
  have hcur : s.vm.findClass RX4 = some c4 := k4.2.1
  have hstr : ∀ q ∈ gStr, ∃ a, vk_R RX4 q.1 q.2 a s := by
    have hone : ∀ (n : Nat) (tx : String), Cond.stringRef RX4 n tx ∈ lw_tbl → ∃ a, vk_R RX4 n tx a s := fun n tx hm => by
      have h1 := hts _ hm
      obtain ⟨k, cf, i, a, -, -, -, -, -, he⟩ := Cond.stringRef_spec hcur h1
      exact ⟨a, vk_R.of h1 he⟩
    have hall : ∀ q ∈ gStr, Cond.stringRef RX4 q.1 q.2 ∈ lw_tbl := by decide +kernel
    exact fun q hq => hone q.1 q.2 (hall q hq)
  have hsa : ∀ n : Nat, ∃ a : Nat, ∀ q ∈ gStr, q.1 = n → vk_R RX4 q.1 q.2 a s := fun n => by
    by_cases h : ∃ q, q ∈ gStr ∧ q.1 = n
    · obtain ⟨q, hq, e⟩ := h
      obtain ⟨a, ha⟩ := hstr q hq
      exact ⟨a, fun r hr e2 => by rw [gStr_one r hr q hq (e2.trans e.symm)]; exact ha⟩
    · exact ⟨0, fun q hq e => absurd ⟨q, hq, e⟩ h⟩
  have hNc : ∀ a ∈ gEx, ∀ b2 ∈ gEx, a ≠ b2 → va_Nc a b2 s := by
    have e1 : va_Nc "java/lang/IllegalStateException" "java/lang/IllegalArgumentException" s := va_Nc.of (hgf (.not (.castable "java/lang/IllegalStateException" "java/lang/IllegalArgumentException")) (by decide +kernel))
    have e2 : va_Nc "java/lang/IllegalStateException" "java/lang/IndexOutOfBoundsException" s := va_Nc.of (hgf (.not (.castable "java/lang/IllegalStateException" "java/lang/IndexOutOfBoundsException")) (by decide +kernel))
    have e3 : va_Nc "java/lang/IllegalArgumentException" "java/lang/IllegalStateException" s := va_Nc.of (hgf (.not (.castable "java/lang/IllegalArgumentException" "java/lang/IllegalStateException")) (by decide +kernel))
    have e4 : va_Nc "java/lang/IllegalArgumentException" "java/lang/IndexOutOfBoundsException" s := va_Nc.of (hgf (.not (.castable "java/lang/IllegalArgumentException" "java/lang/IndexOutOfBoundsException")) (by decide +kernel))
    have e5 : va_Nc "java/lang/IndexOutOfBoundsException" "java/lang/IllegalStateException" s := va_Nc.of (hgf (.not (.castable "java/lang/IndexOutOfBoundsException" "java/lang/IllegalStateException")) (by decide +kernel))
    have e6 : va_Nc "java/lang/IndexOutOfBoundsException" "java/lang/IllegalArgumentException" s := va_Nc.of (hgf (.not (.castable "java/lang/IndexOutOfBoundsException" "java/lang/IllegalArgumentException")) (by decide +kernel))
    intro a ha b2 hb n
    simp only [gEx, List.mem_cons, List.not_mem_nil, or_false] at ha hb
    rcases ha with rfl | rfl | rfl <;> rcases hb with rfl | rfl | rfl <;> first | exact absurd rfl n | assumption
  have hNW : ∀ w ∈ gNW, va_Nw w s := fun w hw => va_Nw.of ((by decide +kernel : ∀ w ∈ gNW, w.onTables = true) w hw) (hts w ((by decide +kernel : ∀ w ∈ gNW, w ∈ lw_tbl) w hw))
  have hNM : ∀ w ∈ gNM, va_Nw w s := fun w hw => va_Nw.of ((by decide +kernel : ∀ w ∈ gNM, w.onTables = true) w hw) (hts w ((by decide +kernel : ∀ w ∈ gNM, w ∈ lw_tbl) w hw))
  have hFc : ∀ w ∈ gFc, va_Nw w s := fun w hw => va_Nw.of (gFc_ok w hw).2 (hts w ((by decide +kernel : ∀ w ∈ gFc, w ∈ lw_tbl) w hw))
  have hnA : ∀ a : Nat, a < s.heap.size → ¬ (fun q : Nat => s.heap.size ≤ q) a := fun a ha h => Nat.not_le.mpr ha h
  have hz1 : vx_Zq Bundle.tN "UNASSIGNED_STACK" Bundle.steD (fun q : Nat => s.heap.size ≤ q) s s.heap := vx_Zqof (hts _ (by decide +kernel)) (hts _ (by decide +kernel)) (by first | exact hts _ (by decide +kernel) | exact hgf _ (by decide +kernel)) hnA
  have hz2 : vx_Zq Bundle.tN "SUPPRESSED_SENTINEL" Bundle.listD (fun q : Nat => s.heap.size ≤ q) s s.heap := vx_Zqof (hts _ (by decide +kernel)) (hts _ (by decide +kernel)) (by first | exact hts _ (by decide +kernel) | exact hgf _ (by decide +kernel)) hnA
  refine ⟨((fun k => [c0, c1, c2, c3, c4, c5].getD k 0, fun k => [i0, i1, i2, i3, i4, i5].getD k (fun _ => 0)), cI, cZ, cT, cJ, s.heap.size, fun n => (hsa n).choose), rfl, ⟨⟨fun c q hq => ?_, fun k q hk => ?_⟩, hNW, hNM, fun q hq => (hsa q.1).choose_spec q hq rfl, va_AO.of (hts _ (by decide +kernel)), hFc, hNc⟩, hz1, hz2, Nat.le_refl _⟩
  · match c, hq with
    | 0, hq => cases hq; exact k0
    | 1, hq => cases hq; exact k1
    | 2, hq => cases hq; exact k2
    | 3, hq => cases hq; exact k3
    | 4, hq => cases hq; exact k4
    | 5, hq => cases hq; exact k5
    | c + 6, hq => simp [vwCl] at hq
  · match k, hk with
    | 0, hk => cases hk; exact ⟨fun n z => ⟨fun k h => (by cases h), kI, fI2, pI, fI3⟩, fI1⟩
    | 1, hk => cases hk; exact ⟨fun n z => ⟨fun k h => (by cases h), kZ, fZ2, pZ, fZ3⟩, fZ1⟩
    | 2, hk => cases hk; exact ⟨fun n z => ⟨fun k h => (by cases h), kT, fT3, pT, fT4⟩, kT, pT, fT3, fT4, fT1, fT5⟩
    | 3, hk => cases hk; exact ⟨fun n z => ⟨fun k h => (by cases h), kJ, fJ2, pJ, fJ3⟩, fJ1⟩
    | k + 4, hk => simp [gTys] at hk
theorem and31 (v : Int32) : ∃ n : Nat, n < 32 ∧ v &&& zI 31 = zI n := by
  refine ⟨v.toBitVec.toNat % 32, Nat.mod_lt _ (by decide), ?_⟩
  apply Int32.toBitVec_inj.1
  rw [← zI_n]
  show v.toBitVec &&& (zI 31).toBitVec = BitVec.ofNat 32 (v.toBitVec.toNat % 32)
  rw [show (zI 31).toBitVec = 31#32 by decide +kernel]
  apply BitVec.eq_of_toNat_eq
  rw [BitVec.toNat_and, BitVec.toNat_ofNat, BitVec.toNat_ofNat, show (31 % 2 ^ 32 : Nat) = 2 ^ 5 - 1 from rfl, Nat.and_two_pow_sub_one_eq_mod, Nat.mod_eq_of_lt (a := v.toBitVec.toNat % 32) (Nat.lt_trans (Nat.mod_lt _ (by decide)) (by decide))]
set_option maxHeartbeats 4000000 in
set_option maxRecDepth 100000 in
theorem lw_loop (l : Launch) (hlf : l.stackTraces = false) (G : gG) {p : Program} {e : Env} {s : State} {m : MethodId} {below : List Frame} {meth : Method} {c : Code} {b L : Nat} {xs : Nat → Int32} (F : lwF p s m c G b L xs) (A : Nat → Nat) (B : Nat → Nat) (o : Nat) (hlocks : meth.locks = false) (hr : meth.sig.returnType = ret) : ∀ (M_ t : Nat) (TA : Nat → Nat → Nat) (S : cS) (th : Int) (H : Heap) (locs : List Loc) (ls : Array Slot) (y : Int), L + 5 - 5 * t < M_ → y = (5 * t : Nat) → 5 * t ≤ L + 4 → LI G A TA B o S th H → va_S (gA G) s.heap H locs → lv_has ls 7 [(4, .int (zI y)), (0, .ref b), (1, .ref (A 0)), (2, .ref (B 0)), (3, .ref o)] → W p l e room_1 s m #[Value.ref b] below meth c H locs (100 + 12 * t) (10000 + 900 * t) (lw_Z below #[Value.ref b] s) (F0 m 23 ls []) := by
  intro M_
  induction M_ with
  | zero => intro t TA S th H locs ls y h; exact absurd h (Nat.not_lt_zero _)
  | succ M_ ih =>
    intro t TA S th H locs ls y hM hy ht hLI hS hl
    obtain ⟨hx, hb, hml, hts, hown, hX, hscr, hbl, hgb, hL25⟩ := id F
    have hbA : ¬ gA G b := fun z => by have z : gB G ≤ b := z; omega
    refine lv_iload hx hb dL_law_23 (lv_at hl 0 rfl) ?_
    refine lv_aload_n hx hb dL_law_25 rfl (lv_at hl 1 rfl) ?_
    refine gz_slen hx hb hscr hbl hbA hS dL_law_26 ?_
    refine lv_iconst (v := zI 5) hx hb dL_law_27 rfl ?_
    refine gz_isub hx hb dL_law_28 ?_
    refine gz_icmp_gt (tgt := 1368) hx hb ⟨by omega, by omega⟩ ⟨by omega, by omega⟩ dL_law_29 (by decide) (fun c_29 => ?_) (fun c_29 => ?_)
    · refine lv_iconst (v := zI 1) hx hb dL_law_1368 rfl ?_
      rw [show zI 1 = (1 : Int32) by decide +kernel]
      refine va_forget (fun q hq => ?_) ?_
      · have h9 : gB G ≤ q.base := hS.2.2 q hq
        omega
      · refine W.widen (k := 601024) (n := 7293034) (by omega) (by omega) ?_
        exact lw_ret hx hb hr hlocks dL_law_1369
    · refine lv_aload_n hx hb dL_law_32 rfl (lv_at hl 1 rfl) ?_
      refine lv_iload hx hb dL_law_33 (lv_at hl 0 rfl) ?_
      refine gz_sld hx hb hscr hbl hbA hS (5 * t) (by omega) (by omega) (by omega) dL_law_35 ?_
      refine lv_bipush (v := zI 31) hx hb dL_law_36 (by decide +kernel) ?_
      refine lv_iand hx hb dL_law_38 ?_
      obtain ⟨n, hn, e31⟩ := and31 (xs (5 * t))
      rw [e31]
      have htL : 5 * t + 5 ≤ L := by omega
      have hcl : 100 + 12 * t + 12 ≤ 601024 := by omega
      have hsl : 10000 + 900 * t + 900 ≤ 7293034 := by omega
      have kk : lwK l G p e s m below meth c b A B o y (100 + 12 * t) (10000 + 900 * t) (lw_Z below #[Value.ref b] s) := by
        intro TA2 S2 th2 H2 locs2 ls2 hLI2 hS2 hl2
        refine lv_iinc (v := zI (y + 5)) (lv' := [(4, .int (zI (y + 5))), (0, .ref b), (1, .ref (A 0)), (2, .ref (B 0)), (3, .ref o)]) hx hb dL_law_1362 hl2 (k := 0) rfl (zI_add _ _) (by decide) rfl (fun ls hl => ?_)
        refine lv_goto (tgt := 23) hx hb dL_law_1365 (by decide) ?_
        rw [show 100 + 12 * t + 12 = 100 + 12 * (t + 1) by omega, show 10000 + 900 * t + 900 = 10000 + 900 * (t + 1) by omega]
        exact ih (t + 1) TA2 S2 th2 H2 locs2 ls (y + 5) (by omega) (by omega) (by omega) hLI2 hS2 hl
      rcases (show n = 0 ∨ n = 1 ∨ n = 2 ∨ n = 3 ∨ n = 4 ∨ n = 5 ∨ n = 6 ∨ n = 7 ∨ n = 8 ∨ n = 9 ∨ n = 10 ∨ n = 11 ∨ n = 12 ∨ n = 13 ∨ n = 14 ∨ n = 15 ∨ n = 16 ∨ n = 17 ∨ n = 18 ∨ n = 19 ∨ n = 20 ∨ n = 21 ∨ n = 22 ∨ n = 23 ∨ n = 24 ∨ n = 25 ∨ n = 26 ∨ n = 27 ∨ n = 28 ∨ n = 29 ∨ n = 30 ∨ n = 31 by omega) with rfl | rfl | rfl | rfl | rfl | rfl | rfl | rfl | rfl | rfl | rfl | rfl | rfl | rfl | rfl | rfl | rfl | rfl | rfl | rfl | rfl | rfl | rfl | rfl | rfl | rfl | rfl | rfl | rfl | rfl | rfl | rfl
      · refine lv_tableIn (x := zI ((0 : Nat) : Int)) (off := 109) (tgt := 148) hx hb dL_law_39 (by decide +kernel) (by decide +kernel) (by decide +kernel) (by decide) ?_
        exact c_add l hlf G F A TA B S o th H locs _ _ hLI hS t htL y hy ls hl hcl hsl _ kk
      · refine lv_tableIn (x := zI ((1 : Nat) : Int)) (off := 177) (tgt := 216) hx hb dL_law_39 (by decide +kernel) (by decide +kernel) (by decide +kernel) (by decide) ?_
        exact c_note l hlf G F A TA B S o th H locs _ _ hLI hS t htL y hy ls hl hcl hsl _ kk
      · refine lv_tableIn (x := zI ((2 : Nat) : Int)) (off := 257) (tgt := 296) hx hb dL_law_39 (by decide +kernel) (by decide +kernel) (by decide +kernel) (by decide) ?_
        exact c_correct l hlf G F A TA B S o th H locs _ _ hLI hS t htL y hy ls hl hcl hsl _ kk
      · refine lv_tableIn (x := zI ((3 : Nat) : Int)) (off := 349) (tgt := 388) hx hb dL_law_39 (by decide +kernel) (by decide +kernel) (by decide +kernel) (by decide) ?_
        exact c_shift l hlf G F A TA B S o th H locs _ _ hLI hS t htL y hy ls hl hcl hsl _ kk
      · refine lv_tableIn (x := zI ((4 : Nat) : Int)) (off := 397) (tgt := 436) hx hb dL_law_39 (by decide +kernel) (by decide +kernel) (by decide +kernel) (by decide) ?_
        exact c_retire l hlf G F A TA B S o th H locs _ _ hLI hS t htL y hy ls hl hcl hsl _ kk
      · refine lv_tableIn (x := zI ((5 : Nat) : Int)) (off := 453) (tgt := 492) hx hb dL_law_39 (by decide +kernel) (by decide +kernel) (by decide +kernel) (by decide) ?_
        exact c_tunes l hlf G F A TA B S o th H locs _ _ hLI hS t htL y hy ls hl hcl hsl _ kk
      · refine lv_tableIn (x := zI ((6 : Nat) : Int)) (off := 466) (tgt := 505) hx hb dL_law_39 (by decide +kernel) (by decide +kernel) (by decide +kernel) (by decide) ?_
        exact c_notes l hlf G F A TA B S o th H locs _ _ hLI hS t htL y hy ls hl hcl hsl _ kk
      · refine lv_tableIn (x := zI ((7 : Nat) : Int)) (off := 522) (tgt := 561) hx hb dL_law_39 (by decide +kernel) (by decide +kernel) (by decide +kernel) (by decide) ?_
        exact c_step l hlf G F A TA B S o th H locs _ _ hLI hS t htL y hy ls hl hcl hsl _ kk
      · refine lv_tableIn (x := zI ((8 : Nat) : Int)) (off := 590) (tgt := 629) hx hb dL_law_39 (by decide +kernel) (by decide +kernel) (by decide +kernel) (by decide) ?_
        exact c_shared l hlf G F A TA B S o th H locs _ _ hLI hS t htL y hy ls hl hcl hsl _ kk
      · refine lv_tableIn (x := zI ((9 : Nat) : Int)) (off := 658) (tgt := 697) hx hb dL_law_39 (by decide +kernel) (by decide +kernel) (by decide +kernel) (by decide) ?_
        exact c_hum l hlf G F A TA B S o th H locs _ _ hLI hS t htL y hy ls hl hcl hsl _ kk
      · refine lv_tableIn (x := zI ((10 : Nat) : Int)) (off := 714) (tgt := 753) hx hb dL_law_39 (by decide +kernel) (by decide +kernel) (by decide +kernel) (by decide) ?_
        exact c_hush l hlf G F A TA B S o th H locs _ _ hLI hS t htL y hy ls hl hcl hsl _ kk
      · refine lv_tableIn (x := zI ((11 : Nat) : Int)) (off := 727) (tgt := 766) hx hb dL_law_39 (by decide +kernel) (by decide +kernel) (by decide +kernel) (by decide) ?_
        exact c_hummed l hlf G F A TA B S o th H locs _ _ hLI hS t htL y hy ls hl hcl hsl _ kk
      · refine lv_tableIn (x := zI ((12 : Nat) : Int)) (off := 740) (tgt := 779) hx hb dL_law_39 (by decide +kernel) (by decide +kernel) (by decide +kernel) (by decide) ?_
        exact c_setCosts l hlf G F A TA B S o th H locs _ _ hLI hS t htL y hy ls hl hcl hsl _ kk
      · refine lv_tableIn (x := zI ((13 : Nat) : Int)) (off := 800) (tgt := 839) hx hb dL_law_39 (by decide +kernel) (by decide +kernel) (by decide +kernel) (by decide) ?_
        exact c_cost l hlf G F A TA B S o th H locs _ _ hLI hS t htL y hy ls hl hcl hsl _ kk
      · refine lv_tableIn (x := zI ((14 : Nat) : Int)) (off := 856) (tgt := 895) hx hb dL_law_39 (by decide +kernel) (by decide +kernel) (by decide +kernel) (by decide) ?_
        exact c_costByAll l hlf G F A TA B S o th H locs _ _ hLI hS t htL y hy ls hl hcl hsl _ kk
      · refine lv_tableIn (x := zI ((15 : Nat) : Int)) (off := 912) (tgt := 951) hx hb dL_law_39 (by decide +kernel) (by decide +kernel) (by decide +kernel) (by decide) ?_
        exact c_matches l hlf G F A TA B S o th H locs _ _ hLI hS t htL y hy ls hl hcl hsl _ kk
      · refine lv_tableIn (x := zI ((16 : Nat) : Int)) (off := 925) (tgt := 964) hx hb dL_law_39 (by decide +kernel) (by decide +kernel) (by decide +kernel) (by decide) ?_
        exact c_found l hlf G F A TA B S o th H locs _ _ hLI hS t htL y hy ls hl hcl hsl _ kk
      · refine lv_tableIn (x := zI ((17 : Nat) : Int)) (off := 981) (tgt := 1020) hx hb dL_law_39 (by decide +kernel) (by decide +kernel) (by decide +kernel) (by decide) ?_
        exact c_likeContour l hlf G F A TA B S o th H locs _ _ hLI hS t htL y hy ls hl hcl hsl _ kk
      · refine lv_tableIn (x := zI ((18 : Nat) : Int)) (off := 994) (tgt := 1033) hx hb dL_law_39 (by decide +kernel) (by decide +kernel) (by decide +kernel) (by decide) ?_
        exact c_places l hlf G F A TA B S o th H locs _ _ hLI hS t htL y hy ls hl hcl hsl _ kk
      · refine lv_tableIn (x := zI ((19 : Nat) : Int)) (off := 1050) (tgt := 1089) hx hb dL_law_39 (by decide +kernel) (by decide +kernel) (by decide +kernel) (by decide) ?_
        exact c_place l hlf G F A TA B S o th H locs _ _ hLI hS t htL y hy ls hl hcl hsl _ kk
      · refine lv_tableIn (x := zI ((20 : Nat) : Int)) (off := 1118) (tgt := 1157) hx hb dL_law_39 (by decide +kernel) (by decide +kernel) (by decide +kernel) (by decide) ?_
        exact c_link l hlf G F A TA B S o th H locs _ _ hLI hS t htL y hy ls hl hcl hsl _ kk
      · refine lv_tableIn (x := zI ((21 : Nat) : Int)) (off := 1186) (tgt := 1225) hx hb dL_law_39 (by decide +kernel) (by decide +kernel) (by decide +kernel) (by decide) ?_
        exact c_cut l hlf G F A TA B S o th H locs _ _ hLI hS t htL y hy ls hl hcl hsl _ kk
      · refine lv_tableIn (x := zI ((22 : Nat) : Int)) (off := 1254) (tgt := 1293) hx hb dL_law_39 (by decide +kernel) (by decide +kernel) (by decide +kernel) (by decide) ?_
        exact c_family l hlf G F A TA B S o th H locs _ _ hLI hS t htL y hy ls hl hcl hsl _ kk
      · refine lv_tableIn (x := zI ((23 : Nat) : Int)) (off := 1310) (tgt := 1349) hx hb dL_law_39 (by decide +kernel) (by decide +kernel) (by decide +kernel) (by decide) ?_
        exact c_families l hlf G F A TA B S o th H locs _ _ hLI hS t htL y hy ls hl hcl hsl _ kk
      · refine lv_tableOut (x := zI ((24 : Nat) : Int)) (tgt := 1362) hx hb dL_law_39 (Or.inr (by decide +kernel)) (by decide) ?_
        refine W.widen (k := 100 + 12 * t + 12) (n := 10000 + 900 * t + 900) (by omega) (by omega) ?_
        exact kk TA S th H locs ls hLI hS hl
      · refine lv_tableOut (x := zI ((25 : Nat) : Int)) (tgt := 1362) hx hb dL_law_39 (Or.inr (by decide +kernel)) (by decide) ?_
        refine W.widen (k := 100 + 12 * t + 12) (n := 10000 + 900 * t + 900) (by omega) (by omega) ?_
        exact kk TA S th H locs ls hLI hS hl
      · refine lv_tableOut (x := zI ((26 : Nat) : Int)) (tgt := 1362) hx hb dL_law_39 (Or.inr (by decide +kernel)) (by decide) ?_
        refine W.widen (k := 100 + 12 * t + 12) (n := 10000 + 900 * t + 900) (by omega) (by omega) ?_
        exact kk TA S th H locs ls hLI hS hl
      · refine lv_tableOut (x := zI ((27 : Nat) : Int)) (tgt := 1362) hx hb dL_law_39 (Or.inr (by decide +kernel)) (by decide) ?_
        refine W.widen (k := 100 + 12 * t + 12) (n := 10000 + 900 * t + 900) (by omega) (by omega) ?_
        exact kk TA S th H locs ls hLI hS hl
      · refine lv_tableOut (x := zI ((28 : Nat) : Int)) (tgt := 1362) hx hb dL_law_39 (Or.inr (by decide +kernel)) (by decide) ?_
        refine W.widen (k := 100 + 12 * t + 12) (n := 10000 + 900 * t + 900) (by omega) (by omega) ?_
        exact kk TA S th H locs ls hLI hS hl
      · refine lv_tableOut (x := zI ((29 : Nat) : Int)) (tgt := 1362) hx hb dL_law_39 (Or.inr (by decide +kernel)) (by decide) ?_
        refine W.widen (k := 100 + 12 * t + 12) (n := 10000 + 900 * t + 900) (by omega) (by omega) ?_
        exact kk TA S th H locs ls hLI hS hl
      · refine lv_tableOut (x := zI ((30 : Nat) : Int)) (tgt := 1362) hx hb dL_law_39 (Or.inr (by decide +kernel)) (by decide) ?_
        refine W.widen (k := 100 + 12 * t + 12) (n := 10000 + 900 * t + 900) (by omega) (by omega) ?_
        exact kk TA S th H locs ls hLI hS hl
      · refine lv_tableOut (x := zI ((31 : Nat) : Int)) (tgt := 1362) hx hb dL_law_39 (Or.inr (by decide +kernel)) (by decide) ?_
        refine W.widen (k := 100 + 12 * t + 12) (n := 10000 + 900 * t + 900) (by omega) (by omega) ?_
        exact kk TA S th H locs ls hLI hS hl
set_option maxHeartbeats 4000000 in
set_option maxRecDepth 100000 in
/-- from the entry: the two sides are made, then the loop -/
theorem whole_start {p : Program} {e : Env} {s : State} {m : MethodId} {below : List Frame} {meth : Method} {c : Code} (l : Launch) (hflags : l.flags = flags0) {b L : Nat} {xs : Nat → Int32} (hL : L ≤ 2560) (C0 : lw_At p s m meth c b L xs) : W p l e room_1 s m #[Value.ref b] below meth c s.heap [] 0 0 (lw_Z below #[Value.ref b] s) (entryFrame m ([Value.ref b] : List Value).toArray 7) := by
  obtain ⟨hx, hb, hr, hml, hown, hts0, hscr, hbl, hlocks, hgv⟩ := id C0
  obtain ⟨G, hgb, hX⟩ := lw_gX hts0 hgv
  have hts : ∀ w ∈ wsL_law, w.before #[Value.ref b] s = true := fun w h => hts0 w (wsL_law_in w h)
  have hlf : l.stackTraces = false := by unfold Launch.stackTraces; rw [hflags]; decide +kernel
  have F : lwF p s m c G b L xs := ⟨hx, hb, hml, hts, hown, hX, hscr, hbl, hgb, hL⟩
  have hl := lv_entry ([.ref b]) (n := 7) (Nat.le_of_ble_eq_true rfl)
  rw [lg_entry_eq]
  generalize (lg_sl ([.ref b]) ++ List.replicate (7 - (lg_sl ([.ref b])).length) Slot.unset).toArray = ls at hl ⊢
  have hl : lv_has ls 7 [(0, .ref b)] := hl
  have hS : va_S (gA G) s.heap s.heap [] := va_S.rf
  have hown : s.vm.findClass RL = some m.cls := hown
  refine g_new hx hb hX hts (fun w h => (List.mem_append_left _ (List.mem_append_left _ (List.mem_append_left _ (List.mem_append_left _ (List.mem_append_left _ (List.mem_append_left _ (List.mem_append_left _ (List.mem_append_left _ (List.mem_append_left _ (List.mem_append_right _ h))))))))))) tyX4 tyX4_ok hown (hts (.classLink RL 8 RX4) (List.mem_append_left _ (List.mem_append_left _ (List.mem_append_left _ (List.mem_append_left _ (List.mem_append_left _ (List.mem_append_left _ (List.mem_append_left _ (List.mem_append_left _ (List.mem_append_left _ (List.mem_append_left _ (List.mem_append_left _ (List.mem_of_getElem? (i := 0) rfl))))))))))))) (hts (.instantiable RX4 7) (List.mem_append_left _ (List.mem_append_left _ (List.mem_append_left _ (List.mem_append_left _ (List.mem_append_left _ (List.mem_append_left _ (List.mem_append_left _ (List.mem_append_left _ (List.mem_append_left _ (List.mem_append_left _ (List.mem_append_left _ (List.mem_of_getElem? (i := 1) rfl))))))))))))) (hts (.initialized RX4) (List.mem_append_left _ (List.mem_append_left _ (List.mem_append_left _ (List.mem_append_left _ (List.mem_append_left _ (List.mem_append_left _ (List.mem_append_left _ (List.mem_append_left _ (List.mem_append_left _ (List.mem_append_left _ (List.mem_append_left _ (List.mem_of_getElem? (i := 2) rfl))))))))))))) hS (ci := 4) rfl (fs := [.null, .int (zI 0), .null, .null, .null, .null, .null]) (fun j hj => by rcases (show j = 0 ∨ j = 1 ∨ j = 2 ∨ j = 3 ∨ j = 4 ∨ j = 5 ∨ j = 6 by omega) with rfl | rfl | rfl | rfl | rfl | rfl | rfl <;> rfl) (Nat.le_of_ble_eq_true rfl) (Nat.le_of_ble_eq_true rfl) dL_law_0 (fun H_0 q_0 eq_0 hq_0 gq_0 zq_0 hE hS => ?_)
  refine lv_dup hx hb dL_law_3 rfl ?_
  refine g_gov (vx_runI (As := []) (rest := [.ref q_0]) ⟨hx, hb, hml, hown, hts⟩ (k_Cat_init l G q_0 H_0 hq_0 gq_0) (cwI 0 hts gL_law_X4_init rfl rfl rfl (hts (.initialized RX4) (List.mem_append_left _ (List.mem_append_left _ (List.mem_append_left _ (List.mem_append_left _ (List.mem_append_left _ (List.mem_append_left _ (List.mem_append_left _ (List.mem_append_left _ (List.mem_append_left _ (List.mem_append_left _ (List.mem_append_left _ (List.mem_of_getElem? (i := 2) rfl))))))))))))) (hts (.methodLink RL 75 yX4_init) (List.mem_append_left _ (List.mem_append_left _ (List.mem_append_left _ (List.mem_append_left _ (List.mem_append_left _ (List.mem_append_left _ (List.mem_append_left _ (List.mem_append_left _ (List.mem_append_left _ (List.mem_append_left _ (List.mem_append_left _ (List.mem_of_getElem? (i := 7) rfl))))))))))))) (hts (.instanceMethod yX4_init) (List.mem_append_left _ (List.mem_append_left _ (List.mem_append_left _ (List.mem_append_left _ (List.mem_append_left _ (List.mem_append_left _ (List.mem_append_left _ (List.mem_append_left _ (List.mem_append_left _ (List.mem_append_left _ (List.mem_append_left _ (List.mem_of_getElem? (i := 8) rfl))))))))))))) rfl hd_X4_init.2 ⟨(Nat.le_of_ble_eq_true rfl), (Nat.le_of_ble_eq_true rfl)⟩) (g_pre hX hS) rfl rfl hl.1 rfl (lv_room (Nat.le_of_ble_eq_true rfl)) dL_law_4 ⟨(Nat.le_of_ble_eq_true rfl), (Nat.le_of_ble_eq_true rfl)⟩) hS (fun H_4 locs hp hS => ?_)
  obtain ⟨A, hA0, ⟨W9, hC⟩, hgA, hAn⟩ := hp
  subst hA0
  refine lv_astore_n (lv' := [(1, .ref (A 0)), (0, .ref b)]) hx hb dL_law_7 rfl hl (by decide) rfl (fun ls hl => ?_)
  refine g_new hx hb hX hts (fun w h => (List.mem_append_left _ (List.mem_append_left _ (List.mem_append_left _ (List.mem_append_left _ (List.mem_append_left _ (List.mem_append_left _ (List.mem_append_left _ (List.mem_append_left _ (List.mem_append_right _ h)))))))))) tyX5 tyX5_ok hown (hts (.classLink RL 76 RX5) (List.mem_append_left _ (List.mem_append_left _ (List.mem_append_left _ (List.mem_append_left _ (List.mem_append_left _ (List.mem_append_left _ (List.mem_append_left _ (List.mem_append_left _ (List.mem_append_left _ (List.mem_append_left _ (List.mem_append_left _ (List.mem_of_getElem? (i := 3) rfl))))))))))))) (hts (.instantiable RX5 13) (List.mem_append_left _ (List.mem_append_left _ (List.mem_append_left _ (List.mem_append_left _ (List.mem_append_left _ (List.mem_append_left _ (List.mem_append_left _ (List.mem_append_left _ (List.mem_append_left _ (List.mem_append_left _ (List.mem_append_left _ (List.mem_of_getElem? (i := 4) rfl))))))))))))) (hts (.initialized RX5) (List.mem_append_left _ (List.mem_append_left _ (List.mem_append_left _ (List.mem_append_left _ (List.mem_append_left _ (List.mem_append_left _ (List.mem_append_left _ (List.mem_append_left _ (List.mem_append_left _ (List.mem_append_left _ (List.mem_append_left _ (List.mem_of_getElem? (i := 5) rfl))))))))))))) hS (ci := 5) rfl (fs := [.int (zI 0), .int (zI 0), .null, .null, .null, .null, .null, .int (zI 0), .int (zI 0), .int (zI 0), .int (zI 0), .null, .null]) (fun j hj => by rcases (show j = 0 ∨ j = 1 ∨ j = 2 ∨ j = 3 ∨ j = 4 ∨ j = 5 ∨ j = 6 ∨ j = 7 ∨ j = 8 ∨ j = 9 ∨ j = 10 ∨ j = 11 ∨ j = 12 by omega) with rfl | rfl | rfl | rfl | rfl | rfl | rfl | rfl | rfl | rfl | rfl | rfl | rfl <;> rfl) (Nat.le_of_ble_eq_true rfl) (Nat.le_of_ble_eq_true rfl) dL_law_8 (fun H_8 q_8 eq_8 hq_8 gq_8 zq_8 hE hS => ?_)
  have hE8 := hE
  have hAlt := hC.lt.1
  refine lv_dup hx hb dL_law_11 rfl ?_
  refine g_gov (vx_runI (As := []) (rest := [.ref q_8]) ⟨hx, hb, hml, hown, hts⟩ (m_init l G q_8 H_8 hq_8 gq_8) (cwI 0 hts gL_law_X5_init rfl rfl rfl (hts (.initialized RX5) (List.mem_append_left _ (List.mem_append_left _ (List.mem_append_left _ (List.mem_append_left _ (List.mem_append_left _ (List.mem_append_left _ (List.mem_append_left _ (List.mem_append_left _ (List.mem_append_left _ (List.mem_append_left _ (List.mem_append_left _ (List.mem_of_getElem? (i := 5) rfl))))))))))))) (hts (.methodLink RL 78 yX5_init) (List.mem_append_left _ (List.mem_append_left _ (List.mem_append_left _ (List.mem_append_left _ (List.mem_append_left _ (List.mem_append_left _ (List.mem_append_left _ (List.mem_append_left _ (List.mem_append_left _ (List.mem_append_left _ (List.mem_append_right _ (List.mem_append_right _ (List.mem_append_left _ (List.mem_of_getElem? (i := 7) rfl))))))))))))))) (hts (.instanceMethod yX5_init) (List.mem_append_left _ (List.mem_append_left _ (List.mem_append_left _ (List.mem_append_left _ (List.mem_append_left _ (List.mem_append_left _ (List.mem_append_left _ (List.mem_append_left _ (List.mem_append_left _ (List.mem_append_left _ (List.mem_append_right _ (List.mem_append_right _ (List.mem_append_left _ (List.mem_of_getElem? (i := 8) rfl))))))))))))))) rfl hd_X5_init.2 ⟨(Nat.le_of_ble_eq_true rfl), (Nat.le_of_ble_eq_true rfl)⟩) (g_pre hX hS) rfl rfl hl.1 rfl (lv_room (Nat.le_of_ble_eq_true rfl)) dL_law_12 ⟨(Nat.le_of_ble_eq_true rfl), (Nat.le_of_ble_eq_true rfl)⟩) hS (fun H_12 locs hp hS => ?_)
  obtain ⟨B, hB0, ⟨ct, hMd⟩, hgB, hBn⟩ := hp
  subst hB0
  have hC := hC.ext hE8
  have hBs : ∀ k, k < 8 → B 0 ≤ B k := fun k hk => by rcases Nat.eq_zero_or_pos k with e | e; rw [e]; exact Nat.le_refl _; have := hBn k e hk; omega
  have d1 : ∀ k, k < 8 → ¬ own A (fun _ _ => 0) 0 (B k) := fun k hk z => by
    rcases z with ⟨j, hj, e⟩ | ⟨i, j, hi, -⟩
    · have h1 := hBs k hk; have h2 := hAlt j hj; omega
    · exact absurd hi (Nat.not_lt_zero _)
  have hC := hC.kp (hgB.kp (O := fun q => q = B 0) (fun q hq => List.mem_singleton.mp hq)) (fun q hq e => d1 0 (by omega) (by rw [← e]; exact hq))
  refine lv_astore_n (lv' := [(2, .ref (B 0)), (1, .ref (A 0)), (0, .ref b)]) hx hb dL_law_15 rfl hl (by decide) rfl (fun ls hl => ?_)
  refine lv_iconst (v := zI 1) hx hb dL_law_16 rfl ?_
  refine g_newa (atype := .long) hx hb hX (hts (.arrayClass .long) (List.mem_append_left _ (List.mem_append_left _ (List.mem_append_left _ (List.mem_append_left _ (List.mem_append_left _ (List.mem_append_left _ (List.mem_append_left _ (List.mem_append_left _ (List.mem_append_left _ (List.mem_append_left _ (List.mem_append_left _ (List.mem_of_getElem? (i := 6) rfl))))))))))))) (cX := gJ G) (hX.1.1.2 3 _ rfl).2 hS (N' := 1) (a0 := (1, .inr (.inl (fun _ => 0)))) (by rw [vp_cell_l]; rfl) (by decide +kernel) (by decide +kernel) (Nat.le_of_ble_eq_true rfl) (Nat.le_of_ble_eq_true rfl) (Nat.le_of_ble_eq_true rfl) dL_law_17 (fun H_17 q_17 eq_17 hq_17 gq_17 zq_17 hE hS => ?_)
  have hC := hC.ext hE
  have hMl := Mod.lt hMd
  have hMd := hMd.kp (O := fun _ => False) hE.kp (fun _ _ h => h)
  refine lv_astore_n (lv' := [(3, .ref q_17), (2, .ref (B 0)), (1, .ref (A 0)), (0, .ref b)]) hx hb dL_law_19 rfl hl (by decide) rfl (fun ls hl => ?_)
  refine lv_iconst (v := zI 0) hx hb dL_law_20 rfl ?_
  refine lv_istore (lv' := [(4, .int (zI 0)), (3, .ref q_17), (2, .ref (B 0)), (1, .ref (A 0)), (0, .ref b)]) hx hb dL_law_21 hl (by decide) rfl (fun ls hl => ?_)
  have hLI : LI G A (fun _ _ => 0) B q_17 S00 0 H_17 := by
    refine ⟨sI_00, ⟨W9, hC⟩, ⟨ct, hMd⟩, ⟨_, hq_17⟩, gq_17, d1, fun z => ?_, fun k hk e => ?_⟩
    · rcases z with ⟨j, hj, e⟩ | ⟨i, j, hi, -⟩
      · have h1 := hAlt j hj; have h2 := hMl 0 (by omega); omega
      · exact absurd hi (Nat.not_lt_zero _)
    · have := hMl k hk; omega
  refine W.widen (k := 100 + 12 * 0) (n := 10000 + 900 * 0) (by omega) (by omega) ?_
  exact lw_loop l hlf G F A B q_17 hlocks hr _ 0 _ S00 0 H_17 locs ls 0 (Nat.lt_succ_self _) rfl (by omega) hLI hS (lv_sub hl [0, 4, 3, 2, 1] rfl)
-- ===== YOUR PART ENDS =====
set_option maxHeartbeats 4000000 in
theorem lw_walk (l : Launch) (hflags : l.flags = flags0) (b : Addr) (xs : List Int32) : MetFree l x (headSpec (Jvm.Cond.code x code maxLocals ret :: tables_1) room_1) (lw_P b xs) (fun _ _ _ _ _ => True) lw_Q := by
  refine MetFree.of_bodyS (code := code) (maxLocals := maxLocals) (ret := ret) (by decide) ?_ ?_
  · intro args s m h hn
    obtain ⟨meth, c, h1, h2, h3, h4, h5, h6, -, -⟩ := Cond.code_spec hn (atoms_spec (ws := Jvm.Cond.code x code maxLocals ret :: tables_1) h _ List.mem_cons_self)
    exact ⟨meth, c, h1, h2, h3, h4, h5, h6⟩
  · intro p e s m args below meth c s₁ B hml0 hP _
    obtain ⟨rfl, hx, hbd, hgv⟩ := hP
    obtain ⟨scr, harrAt, hlist, hof, hsmall⟩ := hx
    obtain ⟨hcb, hkn, -, -⟩ := State.arrayAt?_spec harrAt
    have hown : s.vm.findClass R_law = some m.cls := findClass_of_methodNamed B.named
    have hts0 : ∀ c ∈ (Jvm.Cond.code x code maxLocals ret :: tables_1), c.before #[Value.ref b] s = true := atoms_spec (ws := Jvm.Cond.code x code maxLocals ret :: tables_1) B.pre
    have hts : ∀ w ∈ lw_tbl, w.before #[Value.ref b] s = true := k2_hts_sels lw_privs (fun w hw => hts0 w (List.mem_cons_of_mem _ hw)) lw_privs_ok
    have hml : c.maxLocals = 7 := B.maxLocals_eq (hts0 _ List.mem_cons_self)
    have X₀ : Stand p l e room_1 s m #[Value.ref b] below meth c s₁ [] 0 0 := Stand.of_body B
    have hh0 : s₁.heap = s.heap := by rw [B.state]; rfl
    have hsz : scr.slots.size = xs.length := by rw [← Array.length_toList, hlist, List.length_map]
    have hval : ∀ j : Nat, j < xs.length → scr.slots[j]? = some (.int (xs.getD j 0)) := fun j hj => by
      rw [← Array.getElem?_toList, hlist]
      simp [hj]
    have hbl : b < s.heap.size := (Array.getElem?_eq_some_iff.mp hcb).1
    have hX : va_X b xs.length (fun j => xs.getD j 0) s s.heap := ⟨scr, hcb, hof, hkn, hsz, hval⟩
    have K : W p l e room_1 s m #[Value.ref b] below meth c s₁.heap [] 0 0 (lw_Z below #[Value.ref b] s) (entryFrame m ([Value.ref b] : List Value).toArray 7) := by
      rw [hh0]
      exact whole_start l hflags hbd ⟨B.exec, B.bytes, B.returns, hml, hown, hts, hX, hbl, B.notSynchronized, hgv⟩
    obtain ⟨t, a1, o, b1, b2, b3⟩ := K s₁ rfl X₀
    exact ⟨t, o, a1, b1, b2, b3⟩
theorem lw_pre_spec {args : Array Value} {s : State} (h : (Jvm.Cond.and given_1 narrow_1).before args s = true) (hr : rest_1_c.before args s = true) : ∃ (b : Addr) (xs : List Int32), lw_P b xs args s := by
  have hs := flat_of_before _ h
  have hq := flat_of_before _ hr
  have hc : (Cond.count 1).before args s = true := hs _ (by decide +kernel)
  have harr : (Cond.arrayOf (.arg 0) .int).before args s = true := hs _ (by decide +kernel)
  have hle : (Cond.le (.length (.arg 0)) (.int 2560)).before args s = true := hs _ (by decide +kernel)
  have hlen : (Cond.isInt (.length (.arg 0))).before args s = true := hq _ (by decide +kernel)
  have hall : (Cond.all (.arg 0) (.isInt (.elem (.arg 0) (.index 0)))).before args s = true := hq _ (by decide +kernel)
  obtain ⟨b, xs, hb, hx⟩ := State.ints_of_pre rfl harr hlen hall
  have hsm : xs.length < 2 ^ 31 := hx.choose_spec.2.2.2
  have hev : (Term.length (.arg 0)).eval args s none [] s = some (.int xs.length.toInt32) := hx.length_eval hb
  have hv := Cond.le_ints hev (show (Term.int 2560).eval args s none [] s = some (.int 2560) from rfl)
  have hd : xs.length.toInt32 ≤ 2560 := by
    simpa [Cond.before, Cond.holds, hv] using hle
  have hN : xs.length ≤ 2560 := (Int32.ofNat_le_ofNat hsm (by decide)).mp (show Int32.ofNat xs.length ≤ Int32.ofNat 2560 from hd)
  exact ⟨b, xs, Cond.one_arg hc (show args[0]? = some (.ref b) from hb), hx, hN, h⟩
theorem lw_comes (l : Launch) (hflags : l.flags = flags0) : Comes l x (Jvm.Cond.code x code maxLocals ret :: tables_1) room_1 (fun tb e args s => Calls_1 tb e args s ∧ rest_1 tb e args s ∧ Pre_1 tb e args s)
    (fun _ _ args s o t => lw_Q args s o t) := by
  intro p e ha hc hk s m args below hf hfit hheap happ hpre
  obtain ⟨b, xs, hP⟩ := lw_pre_spec hpre.2.2 hpre.2.1
  obtain ⟨k, o, h1, h2, h3, hQ⟩ := lw_walk l hflags b xs p e ha hc hk s m args below hf ((Spec.applies_iff_loose hf).mp happ).1 hP trivial
  exact ⟨k, o, h1, h2, h3, hQ⟩
theorem lw_frame {s t : State} {o : Outcome} {args : Array Value} (h : Framed s o t [] 601024 7293034) :
    Framed s o t (fieldLocs frame_1_writes args s ++ arrayLocs frame_1_arrays args s ++ staticLocs frame_1_statics s) 601024 7293034 := h
theorem lw_limb (L : Cond) (hL : ∀ (args : Array Value) (s t : State), L.after args s (.returned (some (.int 1))) t = true) :
    ArmFor flags0 classFile x code maxLocals ret World_1 tables_1 room_1 Calls_1 rest_1 Pre_1
      (fun tb e a s o t => postC L tb e a s o t ∧ Framed s o t (fieldLocs frame_1_writes a s ++ arrayLocs frame_1_arrays a s ++ staticLocs frame_1_statics s) 601024 7293034) := by
  intro l hflags _ _ p e ha hc hk s m args below hf hfit hheap happ hpre
  obtain ⟨k, o, h1, h2, h3, rfl, hF⟩ := lw_comes l hflags p e ha hc hk s m args below hf hfit hheap happ hpre
  exact ⟨k, _, h1, h2, h3, hL args s _, lw_frame hF⟩
theorem i_vc : Claimed_1_1 ∧ Claimed_1_2 := ⟨lw_limb limb_1_1 (fun args s t => by simp [limb_1_1, Cond.after, Cond.holds, Cond.value]), lw_limb limb_1_2 (fun args s t => Cond.after_iff.mpr (by
  first | (rw [show limb_1_2 = Cond.eq .result (.int 1) from rfl, Cond.eq_ints (x := 1) (y := 1) rfl rfl]; simp; done) | (simp [limb_1_2, Cond.value, Term.eval]; done)))⟩
