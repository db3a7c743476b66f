-- ===== end of PART A; then your names; then what follows =====
/-! THE CLAIM OUT OF ONE WALK OF THE LAW'S BODY. Your part is whole_start (and what it stands on); all else here is the same for every law, but numbers. -/
def R_law : String := "TuneCatalogueLaw"
def lw_P (b : Addr) (xs : List Int32) (args : Array Value) (s : State) : Prop := args = #[.ref b] ∧ s.IntsAt b xs ∧ xs.length ≤ 260 ∧ (Jvm.Cond.and given_1 narrow_1).before args s = true
def lw_Q (_ : Array Value) (s : State) (o : Outcome) (t : State) : Prop := o = .returned (some (.int 1)) ∧ Framed s o t [] 600104 7301314
def lw_Z (below : List Frame) (a : Array Value) (s : State) : State → Prop := fun t => ∃ o, t.status = .running ∧ Ended t below o ∧ lw_Q a s o t
/-- the law's own end, with 1 on the stack, nothing written that was there before, its room as the claim has it -/
theorem lw_ret {p : Program} {l : Launch} {e : Env} {s : State} {m : MethodId} {below : List Frame} {meth : Method} {c : Code} {b : Nat} (hx : p.tables.exec = Jvm.exec) (hb : c.code = code) (hr : meth.sig.returnType = ret) (hlocks : meth.locks = false) {pc : Nat} {H : Heap} {ls : Array Slot} (hdg : decode code pc = .ok (.ireturn, 1)) : W p l e room_1 s m #[Value.ref b] below meth c H [] 600104 7301314 (lw_Z below #[Value.ref b] s) (F0 m pc ls [.int 1]) := by
  intro T hT X
  obtain ⟨fs, hret, hrun, hended, hW, hframe⟩ := X.leave (v := some (.int 1)) (hlocks := hlocks) (fun h => by rw [hr] at h; cases h)
  have hmeth' : T.vm.method? m = some meth := X.method'
  refine ⟨T.setFrames fs, ?_, .returned (some (.int 1)), hrun, hended, rfl, ⟨_, rfl⟩, hW, hframe⟩
  jvm_step X.here [X.here.top, hx, hb, hdg, hmeth', hr, ret, narrow_b1]
  (try refine ⟨rfl, ?_⟩); (try refine ⟨rfl, ?_⟩)
  first | (intro acts; rw [hret _ acts rfl rfl rfl]) | rw [hret _ _ rfl rfl rfl]
  exact Steps.refl _
/-- what holds at the law's entry: the machine, the code, the tables' words (any of lw_tbl by 'hts w (by decide +kernel)'), the script of L ints xs at the cell b, what the Statement gives of the start (any of its parts by flat_of_before) -/
def lw_At (p : Program) (s : State) (m : MethodId) (meth : Method) (c : Code) (b L : Nat) (xs : Nat → Int32) : Prop :=
  p.tables.exec = Jvm.exec ∧ c.code = code ∧ meth.sig.returnType = ret ∧ c.maxLocals = 7 ∧ s.vm.findClass R_law = some m.cls ∧ (∀ w ∈ lw_tbl, w.before #[Value.ref b] s = true) ∧ va_X b L xs s s.heap ∧ b < s.heap.size ∧ meth.locks = false ∧ (Jvm.Cond.and given_1 narrow_1).before #[Value.ref b] s = true
/-! ===== the law's start: what the tables give ===== -/
theorem gStr_one : ∀ q ∈ gStr, ∀ r ∈ gStr, q.1 = r.1 → q = r := by decide +kernel
set_option maxHeartbeats 4000000 in
set_option maxRecDepth 100000 in
theorem lw_gX {b L : Nat} {xs : Nat → Int32} {s : State} (hL : L ≤ 260) (hscr : va_X b L xs s s.heap) (hbl : b < s.heap.size) (hts : ∀ w ∈ lw_tbl, w.before #[Value.ref b] s = true) (hgv : (Jvm.Cond.and given_1 narrow_1).before #[Value.ref b] s = true) : ∃ G : gG, gB G = s.heap.size ∧ gX G s s.heap ∧ gSb G = b := by
  have hgf := flat_of_before _ hgv
  obtain ⟨c0, i0, k0⟩ := u_known (C := RX0) (T := TX0) (N := 1) (n := 1) hts inX0 (hts (.instantiable RX0 1) (by decide +kernel))
  obtain ⟨c1, i1, k1⟩ := u_known (C := RX1) (T := TX1) (N := 5) (n := 5) hts inX1 (hts (.instantiable RX1 5) (by decide +kernel))
  obtain ⟨c2, i2, k2⟩ := u_known (C := RX2) (T := TX2) (N := 2) (n := 2) hts inX2 (hts (.instantiable RX2 2) (by decide +kernel))
  obtain ⟨c3, i3, k3⟩ := u_known (C := RX3) (T := TX3) (N := 3) (n := 3) hts inX3 (hts (.instantiable RX3 3) (by decide +kernel))
  obtain ⟨c4, i4, k4⟩ := u_known (C := RX4) (T := TX4) (N := 7) (n := 7) hts inX4 (hts (.instantiable RX4 7) (by decide +kernel))
  obtain ⟨cI, kI, pI, fI1, fI2, fI3⟩ := Cond.arrayClass_spec (hts (.arrayClass .int) (by decide +kernel))
  obtain ⟨pT, cT, kT, fT1, fT2, fT3, fT4, fT5⟩ := Cond.arrayOver_spec (hts (.arrayOver (.object "TuneCatalogue$Tune")) (by decide +kernel))
  have hcur : s.vm.findClass RX4 = some c4 := k4.2.1
  have hstr : ∀ q ∈ gStr, ∃ a, vk_R RX4 q.1 q.2 a s := by
    have hone : ∀ (n : Nat) (tx : String), Cond.stringRef RX4 n tx ∈ lw_tbl → ∃ a, vk_R RX4 n tx a s := fun n tx hm => by
      have h1 := hts _ hm
      obtain ⟨k, cf, i, a, -, -, -, -, -, he⟩ := Cond.stringRef_spec hcur h1
      exact ⟨a, vk_R.of h1 he⟩
    have hall : ∀ q ∈ gStr, Cond.stringRef RX4 q.1 q.2 ∈ lw_tbl := by decide +kernel
    exact fun q hq => hone q.1 q.2 (hall q hq)
  have hsa : ∀ n : Nat, ∃ a : Nat, ∀ q ∈ gStr, q.1 = n → vk_R RX4 q.1 q.2 a s := fun n => by
    by_cases h : ∃ q, q ∈ gStr ∧ q.1 = n
    · obtain ⟨q, hq, e⟩ := h
      obtain ⟨a, ha⟩ := hstr q hq
      exact ⟨a, fun r hr e2 => by rw [gStr_one r hr q hq (e2.trans e.symm)]; exact ha⟩
    · exact ⟨0, fun q hq e => absurd ⟨q, hq, e⟩ h⟩
  have hNc : ∀ a ∈ gEx, ∀ b2 ∈ gEx, a ≠ b2 → va_Nc a b2 s := by
    have e1 : va_Nc "java/lang/IllegalStateException" "java/lang/IllegalArgumentException" s := va_Nc.of (hgf (.not (.castable "java/lang/IllegalStateException" "java/lang/IllegalArgumentException")) (by decide +kernel))
    have e2 : va_Nc "java/lang/IllegalStateException" "java/lang/IndexOutOfBoundsException" s := va_Nc.of (hgf (.not (.castable "java/lang/IllegalStateException" "java/lang/IndexOutOfBoundsException")) (by decide +kernel))
    have e3 : va_Nc "java/lang/IllegalArgumentException" "java/lang/IllegalStateException" s := va_Nc.of (hgf (.not (.castable "java/lang/IllegalArgumentException" "java/lang/IllegalStateException")) (by decide +kernel))
    have e4 : va_Nc "java/lang/IllegalArgumentException" "java/lang/IndexOutOfBoundsException" s := va_Nc.of (hgf (.not (.castable "java/lang/IllegalArgumentException" "java/lang/IndexOutOfBoundsException")) (by decide +kernel))
    have e5 : va_Nc "java/lang/IndexOutOfBoundsException" "java/lang/IllegalStateException" s := va_Nc.of (hgf (.not (.castable "java/lang/IndexOutOfBoundsException" "java/lang/IllegalStateException")) (by decide +kernel))
    have e6 : va_Nc "java/lang/IndexOutOfBoundsException" "java/lang/IllegalArgumentException" s := va_Nc.of (hgf (.not (.castable "java/lang/IndexOutOfBoundsException" "java/lang/IllegalArgumentException")) (by decide +kernel))
    intro a ha b2 hb n
    simp only [gEx, List.mem_cons, List.not_mem_nil, or_false] at ha hb
    rcases ha with rfl | rfl | rfl <;> rcases hb with rfl | rfl | rfl <;> first | exact absurd rfl n | assumption
  have hNW : ∀ w ∈ gNW, va_Nw w s := fun w hw => va_Nw.of ((by decide +kernel : ∀ w ∈ gNW, w.onTables = true) w hw) (hts w ((by decide +kernel : ∀ w ∈ gNW, w ∈ lw_tbl) w hw))
  have hNM : ∀ w ∈ gNM, va_Nw w s := fun w hw => va_Nw.of ((by decide +kernel : ∀ w ∈ gNM, w.onTables = true) w hw) (hts w ((by decide +kernel : ∀ w ∈ gNM, w ∈ lw_tbl) w hw))
  have hFc : ∀ w ∈ gFc, va_Nw w s := fun w hw => va_Nw.of (gFc_ok w hw).2 (hts w ((by decide +kernel : ∀ w ∈ gFc, w ∈ lw_tbl) w hw))
  have hnA : ∀ a : Nat, a < s.heap.size → ¬ (fun q : Nat => s.heap.size ≤ q) a := fun a ha h => Nat.not_le.mpr ha h
  have hz1 : vx_Zq Bundle.tN "UNASSIGNED_STACK" Bundle.steD (fun q : Nat => s.heap.size ≤ q) s s.heap := vx_Zqof (hts _ (by decide +kernel)) (hts _ (by decide +kernel)) (by first | exact hts _ (by decide +kernel) | exact hgf _ (by decide +kernel)) hnA
  have hz2 : vx_Zq Bundle.tN "SUPPRESSED_SENTINEL" Bundle.listD (fun q : Nat => s.heap.size ≤ q) s s.heap := vx_Zqof (hts _ (by decide +kernel)) (hts _ (by decide +kernel)) (by first | exact hts _ (by decide +kernel) | exact hgf _ (by decide +kernel)) hnA
  refine ⟨((fun k => [c0, c1, c2, c3, c4].getD k 0, fun k => [i0, i1, i2, i3, i4].getD k (fun _ => 0)), cI, cI, cT, cI, s.heap.size, (fun n => (hsa n).choose), b, L, xs), rfl, ⟨⟨⟨fun c q hq => ?_, fun k q hk => ?_⟩, hNW, hNM, fun q hq => (hsa q.1).choose_spec q hq rfl, va_AO.of (hts _ (by decide +kernel)), hFc, hNc⟩, hz1, hz2, Nat.le_refl _, hscr, hbl, hL⟩, rfl⟩
  · match c, hq with
    | 0, hq => cases hq; exact k0
    | 1, hq => cases hq; exact k1
    | 2, hq => cases hq; exact k2
    | 3, hq => cases hq; exact k3
    | 4, hq => cases hq; exact k4
    | c + 5, hq => simp [vwCl] at hq
  · match k, hk with
    | 0, hk => cases hk; exact ⟨fun n z => ⟨fun k h => (by cases h), kI, fI2, pI, fI3⟩, fI1⟩
    | 1, hk => cases hk; exact ⟨fun n z => ⟨fun k h => (by cases h), kT, fT3, pT, fT4⟩, kT, pT, fT3, fT4, fT1, fT5⟩
    | k + 2, hk => simp [gTys] at hk
set_option maxHeartbeats 8000000 in
set_option maxRecDepth 100000 in
/-- from the entry: two objects are made, then the loops -/
theorem whole_start {p : Program} {e : Env} {s : State} {m : MethodId} {below : List Frame} {meth : Method} {c : Code} (l : Launch) (hflags : l.flags = flags0) {b L : Nat} {xs : Nat → Int32} (hL : L ≤ 260) (C0 : lw_At p s m meth c b L xs) : W p l e room_1 s m #[Value.ref b] below meth c s.heap [] 0 0 (lw_Z below #[Value.ref b] s) (entryFrame m ([Value.ref b] : List Value).toArray 7) := by
  obtain ⟨hx, hb, hr, hml, hown, hts0, hscr, hbl, hlocks, hgv⟩ := id C0
  obtain ⟨G, hgb, hX, hgs⟩ := lw_gX hL hscr hbl hts0 hgv
  subst hgs
  have hts : ∀ w ∈ wsL_law, w.before #[Value.ref (gSb G)] s = true := fun w h => hts0 w (wsL_law_in w h)
  have hlf : l.stackTraces = false := by unfold Launch.stackTraces; rw [hflags]; decide +kernel
  have hl := lv_entry ([.ref (gSb G)]) (n := 7) (Nat.le_of_ble_eq_true rfl)
  rw [lg_entry_eq]
  generalize (lg_sl ([.ref (gSb G)]) ++ List.replicate (7 - (lg_sl ([.ref (gSb G)])).length) Slot.unset).toArray = ls at hl ⊢
  have hl : lv_has ls 7 [(0, .ref (gSb G))] := hl
  have hS : va_S (gA G) s.heap s.heap [] := va_S.rf
  have hown : s.vm.findClass RL = some m.cls := hown
  have hxE : xE = -99999 := rfl
  refine g_new hx hb hX hts (fun w h => (List.mem_append_left _ (List.mem_append_left _ (List.mem_append_left _ (List.mem_append_left _ (List.mem_append_left _ (List.mem_append_left _ (List.mem_append_left _ (List.mem_append_left _ (List.mem_append_right _ h)))))))))) tyX4 tyX4_ok hown (hts (.classLink RL 9 RX4) (List.mem_append_left _ (List.mem_append_left _ (List.mem_append_left _ (List.mem_append_left _ (List.mem_append_left _ (List.mem_append_left _ (List.mem_append_left _ (List.mem_append_left _ (List.mem_append_left _ (List.mem_append_left _ (List.mem_of_getElem? (i := 0) rfl)))))))))))) (hts (.instantiable RX4 7) (List.mem_append_left _ (List.mem_append_left _ (List.mem_append_left _ (List.mem_append_left _ (List.mem_append_left _ (List.mem_append_left _ (List.mem_append_left _ (List.mem_append_left _ (List.mem_append_left _ (List.mem_append_left _ (List.mem_of_getElem? (i := 1) rfl)))))))))))) (hts (.initialized RX4) (List.mem_append_left _ (List.mem_append_left _ (List.mem_append_left _ (List.mem_append_left _ (List.mem_append_left _ (List.mem_append_left _ (List.mem_append_left _ (List.mem_append_left _ (List.mem_append_left _ (List.mem_append_left _ (List.mem_of_getElem? (i := 2) rfl)))))))))))) hS (ci := 4) rfl (fs := [.null, .int (zI 0), .null, .null, .null, .null, .null]) (fun j hj => by rcases (show j = 0 ∨ j = 1 ∨ j = 2 ∨ j = 3 ∨ j = 4 ∨ j = 5 ∨ j = 6 by omega) with rfl | rfl | rfl | rfl | rfl | rfl | rfl <;> rfl) (Nat.le_of_ble_eq_true rfl) (Nat.le_of_ble_eq_true rfl) dL_law_0 (fun H_0 q_0 eq_0 hq_0 gq_0 zq_0 hE hS => ?_)
  refine lv_dup hx hb dL_law_3 rfl ?_
  refine g_gov (vx_runI (As := []) (rest := [.ref q_0]) ⟨hx, hb, hml, hown, hts⟩ (k_Cat_init l G q_0 H_0 hq_0 gq_0) (cwI 0 hts gL_law_X4_init rfl rfl rfl (hts (.initialized RX4) (List.mem_append_left _ (List.mem_append_left _ (List.mem_append_left _ (List.mem_append_left _ (List.mem_append_left _ (List.mem_append_left _ (List.mem_append_left _ (List.mem_append_left _ (List.mem_append_left _ (List.mem_append_left _ (List.mem_of_getElem? (i := 2) rfl)))))))))))) (hts (.methodLink RL 113 yX4_init) (List.mem_append_left _ (List.mem_append_left _ (List.mem_append_left _ (List.mem_append_left _ (List.mem_append_left _ (List.mem_append_left _ (List.mem_append_left _ (List.mem_append_left _ (List.mem_append_left _ (List.mem_append_left _ (List.mem_of_getElem? (i := 4) rfl)))))))))))) (hts (.instanceMethod yX4_init) (List.mem_append_left _ (List.mem_append_left _ (List.mem_append_left _ (List.mem_append_left _ (List.mem_append_left _ (List.mem_append_left _ (List.mem_append_left _ (List.mem_append_left _ (List.mem_append_left _ (List.mem_append_left _ (List.mem_of_getElem? (i := 5) rfl)))))))))))) rfl hd_X4_init.2 ⟨(Nat.le_of_ble_eq_true rfl), (Nat.le_of_ble_eq_true rfl)⟩) (g_pre hX hS) rfl rfl hl.1 rfl (lv_room (Nat.le_of_ble_eq_true rfl)) dL_law_4 ⟨(Nat.le_of_ble_eq_true rfl), (Nat.le_of_ble_eq_true rfl)⟩) hS (fun H_4 locs hp hS => ?_)
  obtain ⟨A, hA0, ⟨Wa, hCa⟩, hgA, hAn⟩ := hp
  subst hA0
  refine lv_astore_n (lv' := [(1, .ref (A 0)), (0, .ref (gSb G))]) hx hb dL_law_7 rfl hl (by decide) rfl (fun ls hl => ?_)
  refine g_new hx hb hX hts (fun w h => (List.mem_append_left _ (List.mem_append_left _ (List.mem_append_left _ (List.mem_append_left _ (List.mem_append_left _ (List.mem_append_left _ (List.mem_append_left _ (List.mem_append_left _ (List.mem_append_right _ h)))))))))) tyX4 tyX4_ok hown (hts (.classLink RL 9 RX4) (List.mem_append_left _ (List.mem_append_left _ (List.mem_append_left _ (List.mem_append_left _ (List.mem_append_left _ (List.mem_append_left _ (List.mem_append_left _ (List.mem_append_left _ (List.mem_append_left _ (List.mem_append_left _ (List.mem_of_getElem? (i := 0) rfl)))))))))))) (hts (.instantiable RX4 7) (List.mem_append_left _ (List.mem_append_left _ (List.mem_append_left _ (List.mem_append_left _ (List.mem_append_left _ (List.mem_append_left _ (List.mem_append_left _ (List.mem_append_left _ (List.mem_append_left _ (List.mem_append_left _ (List.mem_of_getElem? (i := 1) rfl)))))))))))) (hts (.initialized RX4) (List.mem_append_left _ (List.mem_append_left _ (List.mem_append_left _ (List.mem_append_left _ (List.mem_append_left _ (List.mem_append_left _ (List.mem_append_left _ (List.mem_append_left _ (List.mem_append_left _ (List.mem_append_left _ (List.mem_of_getElem? (i := 2) rfl)))))))))))) hS (ci := 4) rfl (fs := [.null, .int (zI 0), .null, .null, .null, .null, .null]) (fun j hj => by rcases (show j = 0 ∨ j = 1 ∨ j = 2 ∨ j = 3 ∨ j = 4 ∨ j = 5 ∨ j = 6 by omega) with rfl | rfl | rfl | rfl | rfl | rfl | rfl <;> rfl) (Nat.le_of_ble_eq_true rfl) (Nat.le_of_ble_eq_true rfl) dL_law_8 (fun H_8 q_8 eq_8 hq_8 gq_8 zq_8 hE hS => ?_)
  have hAlt : ∀ q, own A (fun _ _ => 0) (sn S00) q → q < q_8 := fun q hq => by
    have := own_lt hCa hq
    rw [eq_8]; exact this
  refine lv_dup hx hb dL_law_11 rfl ?_
  refine g_gov (vx_runI (As := []) (rest := [.ref q_8]) ⟨hx, hb, hml, hown, hts⟩ (k_Cat_init l G q_8 H_8 hq_8 gq_8) (cwI 0 hts gL_law_X4_init rfl rfl rfl (hts (.initialized RX4) (List.mem_append_left _ (List.mem_append_left _ (List.mem_append_left _ (List.mem_append_left _ (List.mem_append_left _ (List.mem_append_left _ (List.mem_append_left _ (List.mem_append_left _ (List.mem_append_left _ (List.mem_append_left _ (List.mem_of_getElem? (i := 2) rfl)))))))))))) (hts (.methodLink RL 113 yX4_init) (List.mem_append_left _ (List.mem_append_left _ (List.mem_append_left _ (List.mem_append_left _ (List.mem_append_left _ (List.mem_append_left _ (List.mem_append_left _ (List.mem_append_left _ (List.mem_append_left _ (List.mem_append_left _ (List.mem_of_getElem? (i := 4) rfl)))))))))))) (hts (.instanceMethod yX4_init) (List.mem_append_left _ (List.mem_append_left _ (List.mem_append_left _ (List.mem_append_left _ (List.mem_append_left _ (List.mem_append_left _ (List.mem_append_left _ (List.mem_append_left _ (List.mem_append_left _ (List.mem_append_left _ (List.mem_of_getElem? (i := 5) rfl)))))))))))) rfl hd_X4_init.2 ⟨(Nat.le_of_ble_eq_true rfl), (Nat.le_of_ble_eq_true rfl)⟩) (g_pre hX hS) rfl rfl hl.1 rfl (lv_room (Nat.le_of_ble_eq_true rfl)) dL_law_12 ⟨(Nat.le_of_ble_eq_true rfl), (Nat.le_of_ble_eq_true rfl)⟩) hS (fun H_12 locs hp hS => ?_)
  obtain ⟨B, hB0, ⟨Wb, hCb⟩, hgB, hBn⟩ := hp
  subst hB0
  have hCa := hCa.ext hE
  have hdis : ∀ q, own A (fun _ _ => 0) (sn S00) q → ¬ own B (fun _ _ => 0) (sn S00) q := fun q h1 h2 => by
    have h3 := hAlt q h1
    rcases h2 with ⟨k, hk, e⟩ | ⟨i, j, hi, -⟩
    · rcases Nat.eq_zero_or_pos k with z | z
      · rw [z] at e; omega
      · have := hBn k z hk; omega
    · exact absurd hi (Nat.not_lt_zero _)
  have hCa := hCa.kp (hgB.kp (O := fun q => q = B 0) (fun q hq => List.mem_singleton.mp hq)) (fun q hq e => hdis q hq (by rw [e]; exact own.A (by omega)))
  have hPR : PR G A (fun _ _ => 0) S00 B (fun _ _ => 0) S00 H_12 := ⟨sI_00, sI_00, ⟨_, hCa⟩, ⟨_, hCb⟩, hdis⟩
  refine lv_astore_n (lv' := [(2, .ref (B 0)), (1, .ref (A 0)), (0, .ref (gSb G))]) hx hb dL_law_15 rfl hl (by decide) rfl (fun ls hl => ?_)
  refine lv_iconst (v := zI 1) hx hb dL_law_16 rfl ?_
  refine lv_istore_n (lv' := [(3, .int (zI 1)), (2, .ref (B 0)), (1, .ref (A 0)), (0, .ref (gSb G))]) hx hb dL_law_17 rfl hl (by decide) rfl (fun ls hl => ?_)
  refine lv_iconst (v := zI 0) hx hb dL_law_18 rfl ?_
  refine lv_istore (lv' := [(4, .int (zI 0)), (3, .int (zI 1)), (2, .ref (B 0)), (1, .ref (A 0)), (0, .ref (gSb G))]) hx hb dL_law_19 hl (by decide) rfl (fun ls hl => ?_)
  have loop_21 : ∀ (M_ : Nat) (y : Int) (k : Nat) (H_L21 : Heap) (locs : List Loc), 3 - k < M_ → (y = k) → (k ≤ 3) → (∃ TA TB S, sn S = k ∧ PR G A TA S B TB S H_L21) → va_S (gA G) s.heap H_L21 locs → ∀ (ls : Array Slot), lv_has ls 7 [(4, .int (zI y)), (3, .int (zI 1)), (0, .ref (gSb G)), (1, .ref (A 0)), (2, .ref (B 0))] → W p l e room_1 s m #[Value.ref (gSb G)] below meth c H_L21 locs (60 + 24 * k) (6000 + 1800 * k) (lw_Z below #[Value.ref (gSb G)] s) (F0 m 21 ls []) := by
    intro M_
    induction M_ with
    | zero => intro y k H_0 locs_0 h_0; exact absurd h_0 (Nat.not_lt_zero _)
    | succ M_ ih_21 =>
      intro y k H_L21 locs hM_21 hy hk3 hEx hS ls hl
      obtain ⟨TA, TB, S, hsn, hPR⟩ := hEx
      have hI : sInv S := hPR.1
      refine lv_iload hx hb dL_law_21 (lv_at hl 0 rfl) ?_
      refine lv_iconst (v := zI 3) hx hb dL_law_23 rfl ?_
      refine gz_icmp_ge (tgt := 123) hx hb ⟨by omega, by omega⟩ (by decide) dL_law_24 (by decide) (fun c_24 => ?_) (fun c_24 => ?_)
      · refine lv_iconst (v := zI 3) hx hb dL_law_123 rfl ?_
        refine lv_istore (lv' := [(4, .int (zI 3)), (3, .int (zI 1)), (0, .ref (gSb G)), (1, .ref (A 0)), (2, .ref (B 0))]) hx hb dL_law_124 hl (by decide) rfl (fun ls hl => ?_)
        have loop_126 : ∀ (M_ : Nat) (y : Int) (k : Nat) (H_L126 : Heap) (locs : List Loc), 80 - k < M_ → (y = k) → (3 ≤ k) → (k ≤ 80) → (∃ TA TB S, 3 ≤ sn S ∧ PR G A TA S B TB S H_L126) → va_S (gA G) s.heap H_L126 locs → ∀ (ls : Array Slot), lv_has ls 7 [(4, .int (zI y)), (3, .int (zI 1)), (0, .ref (gSb G)), (1, .ref (A 0)), (2, .ref (B 0))] → W p l e room_1 s m #[Value.ref (gSb G)] below meth c H_L126 locs (200 + 5000 * k) (20000 + 60000 * k) (lw_Z below #[Value.ref (gSb G)] s) (F0 m 126 ls []) := by
          intro M_
          induction M_ with
          | zero => intro y k H_0 locs_0 h_0; exact absurd h_0 (Nat.not_lt_zero _)
          | succ M_ ih_126 =>
            intro y k H_L126 locs hM_126 hy hk3 hk80 hEx hS ls hl
            obtain ⟨TA, TB, S, h3, hPR⟩ := hEx
            have hI : sInv S := hPR.1
            have h16 := hI.1
            refine lv_iload hx hb dL_law_126 (lv_at hl 0 rfl) ?_
            refine lv_bipush (v := zI 80) hx hb dL_law_128 (by decide +kernel) ?_
            refine gz_icmp_ge (tgt := 265) hx hb ⟨by omega, by omega⟩ (by decide) dL_law_130 (by decide) (fun c_130 => ?_) (fun c_130 => ?_)
            · refine lv_iload_n hx hb dL_law_265 rfl (lv_at hl 1 rfl) ?_
              refine gz_if_eq (tgt := 289) hx hb (by decide) dL_law_266 (by decide) (fun c_266 => ?_) (fun c_266 => ?_)
              · omega
              · refine lv_aload_n hx hb dL_law_269 rfl (lv_at hl 3 rfl) ?_
                refine lv_aload_n hx hb dL_law_270 rfl (lv_at hl 4 rfl) ?_
                refine g_goi (vx_runS (As := [.ref (A 0), .ref (B 0)]) (rest := []) ⟨hx, hb, hml, hown, hts⟩ (k_areAlike l G hlf A TA S B TB H_L126 hPR) (va_cwS 2 hts gL_law_L_areAlike rfl rfl rfl hd_L_areAlike.2 ⟨(Nat.le_of_ble_eq_true rfl), (Nat.le_of_ble_eq_true rfl)⟩) (g_pre hX hS) rfl rfl hl.1 rfl (lv_room (Nat.le_of_ble_eq_true rfl)) dL_law_271 (⟨by show _ ≤ 600104; omega, by show _ ≤ 7301314; omega⟩)) hS (fun r_271 H_271 locs hp hS => ?_)
                obtain ⟨rfl, TA, TB, hPR⟩ := hp
                refine gz_if_eq (tgt := 289) hx hb (by decide) dL_law_274 (by decide) (fun c_274 => ?_) (fun c_274 => ?_)
                · omega
                · refine lv_aload_n hx hb dL_law_277 rfl (lv_at hl 3 rfl) ?_
                  refine lv_iconst (v := zI 0) hx hb dL_law_278 rfl ?_
                  refine g_goi (vx_runS (As := [.ref (A 0), .int (zI 0)]) (rest := []) ⟨hx, hb, hml, hown, hts⟩ (k_areTunesSo l G hlf A TA S B TB S H_271 hPR 0 0 (by omega) (by omega)) (va_cwS 2 hts gL_law_L_areTunesSo rfl rfl rfl hd_L_areTunesSo.2 ⟨(Nat.le_of_ble_eq_true rfl), (Nat.le_of_ble_eq_true rfl)⟩) (g_pre hX hS) rfl rfl hl.1 rfl (lv_room (Nat.le_of_ble_eq_true rfl)) dL_law_279 (⟨by show _ ≤ 600104; omega, by show _ ≤ 7301314; omega⟩)) hS (fun r_279 H_279 locs hp hS => ?_)
                  obtain ⟨rfl, hPR⟩ := hp
                  refine gz_if_eq (tgt := 289) hx hb (by decide) dL_law_282 (by decide) (fun c_282 => ?_) (fun c_282 => ?_)
                  · omega
                  · refine lv_iconst (v := zI 1) hx hb dL_law_285 rfl ?_
                    refine lv_goto (tgt := 290) hx hb dL_law_286 (by decide) ?_
                    rw [show zI 1 = (1 : Int32) by decide +kernel]
                    refine va_forget (fun q hq => ?_) ?_
                    · have h9 : gB G ≤ q.base := hS.2.2 q hq
                      omega
                    · refine W.widen (k := 600104) (n := 7301314) (by omega) (by omega) ?_
                      exact lw_ret hx hb hr hlocks dL_law_290
            · refine lv_iload_n hx hb dL_law_133 rfl (lv_at hl 1 rfl) ?_
              refine gz_if_eq (tgt := 265) hx hb (by decide) dL_law_134 (by decide) (fun c_134 => ?_) (fun c_134 => ?_)
              · omega
              · refine lv_aload_n hx hb dL_law_137 rfl (lv_at hl 2 rfl) ?_
                refine lv_iload hx hb dL_law_138 (lv_at hl 0 rfl) ?_
                refine g_goi (vx_runS (As := [.ref (gSb G), .int (zI y)]) (rest := []) ⟨hx, hb, hml, hown, hts⟩ (k_cell l G H_L126 y k (by omega) (by omega)) (va_cwS 2 hts gL_law_L_cell rfl rfl rfl hd_L_cell.2 ⟨(Nat.le_of_ble_eq_true rfl), (Nat.le_of_ble_eq_true rfl)⟩) (g_pre hX hS) rfl rfl hl.1 rfl (lv_room (Nat.le_of_ble_eq_true rfl)) dL_law_140 (⟨by show _ ≤ 600104; omega, by show _ ≤ 7301314; omega⟩)) hS (fun r_140 H_140 locs hp hS => ?_)
                obtain ⟨rfl, rfl⟩ := hp
                refine lv_topi (fun x5_143 ex5_143 => ?_)
                refine lv_istore (lv' := [(5, .int x5_143), (4, .int (zI y)), (3, .int (zI 1)), (0, .ref (gSb G)), (1, .ref (A 0)), (2, .ref (B 0))]) hx hb dL_law_143 hl (by decide) rfl (fun ls hl => ?_)
                refine lv_aload_n hx hb dL_law_145 rfl (lv_at hl 4 rfl) ?_
                refine lv_iload hx hb dL_law_146 (lv_at hl 0 rfl) ?_
                obtain ⟨hIa, hIb, ⟨Wa, hCa⟩, ⟨Wb, hCb⟩, hdd⟩ := id hPR
                refine g_goi (vx_runS (As := [.ref (A 0), .int x5_143]) (rest := []) ⟨hx, hb, hml, hown, hts⟩ (k_act l G hlf A TA S Wa H_L126 hCa hIa x5_143) (va_cwS 2 hts gL_law_L_act rfl rfl rfl hd_L_act.2 ⟨(Nat.le_of_ble_eq_true rfl), (Nat.le_of_ble_eq_true rfl)⟩) (g_pre hX hS) rfl rfl hl.1 rfl (lv_room (Nat.le_of_ble_eq_true rfl)) dL_law_148 (⟨by show _ ≤ 600104; omega, by show _ ≤ 7301314; omega⟩)) hS (fun r_148 H_148 locs hp hS => ?_)
                obtain ⟨rfl, hDX⟩ := hp
                have hak := actF_ok hI x5_143
                have hak3 := hak.2.2.1
                obtain ⟨TA, hPR⟩ := hPR.dx hak.1 hDX
                refine lv_istore (lv' := [(6, .int (zI ((actF S x5_143).1))), (5, .int x5_143), (4, .int (zI y)), (3, .int (zI 1)), (0, .ref (gSb G)), (1, .ref (A 0)), (2, .ref (B 0))]) hx hb dL_law_151 hl (by decide) rfl (fun ls hl => ?_)
                have seg_171 : ∀ (TA : Nat → Nat → Nat) (TB : Nat → Nat → Nat) (S2 : cS) (H_S171 : Heap) (locs : List Loc), (3 ≤ sn S2) → (PR G A TA S2 B TB S2 H_S171) → va_S (gA G) s.heap H_S171 locs → ∀ (ls : Array Slot), lv_has ls 7 [(4, .int (zI y)), (3, .int (zI 1)), (5, .int x5_143), (0, .ref (gSb G)), (1, .ref (A 0)), (2, .ref (B 0))] → W p l e room_1 s m #[Value.ref (gSb G)] below meth c H_S171 locs (200 + 5000 * k + 24) (20000 + 60000 * k + 1800) (lw_Z below #[Value.ref (gSb G)] s) (F0 m 171 ls []) := by
                  intro TA TB S2 H_S171 locs h32 hPR hS ls hl
                  have h162 := hPR.1.1
                  have seg_188 : ∀ (TA : Nat → Nat → Nat) (TB : Nat → Nat → Nat) (H_S188 : Heap) (locs : List Loc), (PR G A TA S2 B TB S2 H_S188) → va_S (gA G) s.heap H_S188 locs → ∀ (ls : Array Slot), lv_has ls 7 [(4, .int (zI y)), (3, .int (zI 1)), (5, .int x5_143), (0, .ref (gSb G)), (1, .ref (A 0)), (2, .ref (B 0))] → W p l e room_1 s m #[Value.ref (gSb G)] below meth c H_S188 locs (200 + 5000 * k + 2024) (20000 + 60000 * k + 31800) (lw_Z below #[Value.ref (gSb G)] s) (F0 m 188 ls []) := by
                    intro TA TB H_S188 locs hPR hS ls hl
                    have seg_220 : ∀ (TA : Nat → Nat → Nat) (TB : Nat → Nat → Nat) (H_S220 : Heap) (locs : List Loc), (PR G A TA S2 B TB S2 H_S220) → va_S (gA G) s.heap H_S220 locs → ∀ (ls : Array Slot), lv_has ls 7 [(4, .int (zI y)), (3, .int (zI 1)), (5, .int x5_143), (0, .ref (gSb G)), (1, .ref (A 0)), (2, .ref (B 0))] → W p l e room_1 s m #[Value.ref (gSb G)] below meth c H_S220 locs (200 + 5000 * k + 4024) (20000 + 60000 * k + 51800) (lw_Z below #[Value.ref (gSb G)] s) (F0 m 220 ls []) := by
                      intro TA TB H_S220 locs hPR hS ls hl
                      refine lv_iload hx hb dL_law_220 (lv_at hl 0 rfl) ?_
                      refine lv_bipush (v := zI 9) hx hb dL_law_222 (by decide +kernel) ?_
                      refine gz_irem hx hb k 9 (by omega) (by omega) (by omega) (by omega) dL_law_224 ?_
                      refine lv_bipush (v := zI 7) hx hb dL_law_225 (by decide +kernel) ?_
                      refine gz_icmp_ne (tgt := 259) hx hb ⟨by omega, by omega⟩ (by decide) dL_law_227 (by decide) (fun c_227 => ?_) (fun c_227 => ?_)
                      · refine lv_iinc (v := zI (y + 1)) (lv' := [(4, .int (zI (y + 1))), (3, .int (zI 1)), (5, .int x5_143), (0, .ref (gSb G)), (1, .ref (A 0)), (2, .ref (B 0))]) hx hb dL_law_259 hl (k := 0) rfl (zI_add _ _) (by decide) rfl (fun ls hl => ?_)
                        refine lv_goto (tgt := 126) hx hb dL_law_262 (by decide) ?_
                        refine W.widen (k := 200 + 5000 * (k + 1)) (n := 20000 + 60000 * (k + 1)) (by omega) (by omega) ?_
                        exact ih_126 (y + 1) (k + 1) H_S220 _ (by omega) (by omega) (by omega) (by omega) ⟨TA, TB, S2, h32, hPR⟩ hS ls (lv_sub hl [0, 1, 3, 4, 5] rfl)
                      · refine lv_iload_n hx hb dL_law_230 rfl (lv_at hl 1 rfl) ?_
                        refine gz_if_eq (tgt := 257) hx hb (by decide) dL_law_231 (by decide) (fun c_231 => ?_) (fun c_231 => ?_)
                        · omega
                        · refine lv_aload_n hx hb dL_law_234 rfl (lv_at hl 4 rfl) ?_
                          refine lv_aload_n hx hb dL_law_235 rfl (lv_at hl 5 rfl) ?_
                          refine lv_iload hx hb dL_law_236 (lv_at hl 2 rfl) ?_
                          refine lv_iconst (v := zI 3) hx hb dL_law_238 rfl ?_
                          refine lv_ishr hx hb dL_law_239 ?_
                          refine lv_aload_n hx hb dL_law_240 rfl (lv_at hl 4 rfl) ?_
                          obtain ⟨hIa, hIb, ⟨Wa, hCa⟩, ⟨Wb, hCb⟩, hdd⟩ := id hPR
                          refine g_goi (vx_runV (As := []) (rest := [.int (x5_143 >>> ((zI 3) &&& 31)), .ref (B 0), .ref (A 0)]) ⟨hx, hb, hml, hown, hts⟩ (x_tunes l G A TA S2 Wa H_S220 hCa hIa) (cwV 0 hts gL_law_X4_tunes rfl rfl rfl hd_X4_tunes ⟨(Nat.le_of_ble_eq_true rfl), (Nat.le_of_ble_eq_true rfl)⟩) (g_preV hX hS (ci := 4) rfl hCa.1) rfl rfl hl.1 rfl (lv_room (Nat.le_of_ble_eq_true rfl)) dL_law_241 (⟨by show _ ≤ 600104; omega, by show _ ≤ 7301314; omega⟩)) hS (fun r_241 H_241 locs hp hS => ?_)
                          obtain ⟨rfl, rfl⟩ := hp
                          refine g_goi (vx_runS (As := [.int (x5_143 >>> ((zI 3) &&& 31)), .int (zI (sn S2 : Int))]) (rest := [.ref (B 0), .ref (A 0)]) ⟨hx, hb, hml, hown, hts⟩ (k_low l G H_S220 (x5_143 >>> ((zI 3) &&& 31)) (sn S2 : Int) (sn S2) (by omega) (by omega) (by omega)) (va_cwS 2 hts gL_law_L_low rfl rfl rfl hd_L_low.2 ⟨(Nat.le_of_ble_eq_true rfl), (Nat.le_of_ble_eq_true rfl)⟩) (g_pre hX hS) rfl rfl hl.1 rfl (lv_room (Nat.le_of_ble_eq_true rfl)) dL_law_244 (⟨by show _ ≤ 600104; omega, by show _ ≤ 7301314; omega⟩)) hS (fun r_244 H_244 locs hp hS => ?_)
                          obtain ⟨rfl, rfl⟩ := hp
                          have hlt_244 := lowN_lt (x5_143 >>> ((zI 3) &&& 31)) (n := (sn S2)) (by omega)
                          refine g_goi (vx_runS (As := [.ref (A 0), .ref (B 0), .int (zI ((lowN (x5_143 >>> ((zI 3) &&& 31)) (sn S2) : Nat) : Int))]) (rest := []) ⟨hx, hb, hml, hown, hts⟩ (k_isHummedSo l G hlf A TA S2 B TB H_S220 hPR ((lowN (x5_143 >>> ((zI 3) &&& 31)) (sn S2) : Nat) : Int) (lowN (x5_143 >>> ((zI 3) &&& 31)) (sn S2)) (by omega) (by omega)) (va_cwS 3 hts gL_law_L_isHummedSo rfl rfl rfl hd_L_isHummedSo.2 ⟨(Nat.le_of_ble_eq_true rfl), (Nat.le_of_ble_eq_true rfl)⟩) (g_pre hX hS) rfl rfl hl.1 rfl (lv_room (Nat.le_of_ble_eq_true rfl)) dL_law_247 (⟨by show _ ≤ 600104; omega, by show _ ≤ 7301314; omega⟩)) hS (fun r_247 H_247 locs hp hS => ?_)
                          obtain ⟨rfl, S3, e3, hPR⟩ := hp
                          refine gz_if_eq (tgt := 257) hx hb (by decide) dL_law_250 (by decide) (fun c_250 => ?_) (fun c_250 => ?_)
                          · omega
                          · refine lv_iconst (v := zI 1) hx hb dL_law_253 rfl ?_
                            refine lv_goto (tgt := 258) hx hb dL_law_254 (by decide) ?_
                            refine lv_istore_n (lv' := [(3, .int (zI 1)), (4, .int (zI y)), (5, .int x5_143), (0, .ref (gSb G)), (1, .ref (A 0)), (2, .ref (B 0))]) hx hb dL_law_258 rfl hl (by decide) rfl (fun ls hl => ?_)
                            refine lv_iinc (v := zI (y + 1)) (lv' := [(4, .int (zI (y + 1))), (3, .int (zI 1)), (5, .int x5_143), (0, .ref (gSb G)), (1, .ref (A 0)), (2, .ref (B 0))]) hx hb dL_law_259 hl (k := 1) rfl (zI_add _ _) (by decide) rfl (fun ls hl => ?_)
                            refine lv_goto (tgt := 126) hx hb dL_law_262 (by decide) ?_
                            refine W.widen (k := 200 + 5000 * (k + 1)) (n := 20000 + 60000 * (k + 1)) (by omega) (by omega) ?_
                            exact ih_126 (y + 1) (k + 1) H_247 _ (by omega) (by omega) (by omega) (by omega) ⟨TA, TB, S3, by omega, hPR⟩ hS ls (lv_sub hl [0, 1, 3, 4, 5] rfl)
                    refine lv_iload hx hb dL_law_188 (lv_at hl 0 rfl) ?_
                    refine lv_iconst (v := zI 4) hx hb dL_law_190 rfl ?_
                    refine gz_irem hx hb k 4 (by omega) (by omega) (by omega) (by omega) dL_law_191 ?_
                    refine lv_iconst (v := zI 1) hx hb dL_law_192 rfl ?_
                    refine gz_icmp_ne (tgt := 214) hx hb ⟨by omega, by omega⟩ (by decide) dL_law_193 (by decide) (fun c_193 => ?_) (fun c_193 => ?_)
                    · refine lv_iconst (v := zI 1) hx hb dL_law_214 rfl ?_
                      refine lv_goto (tgt := 219) hx hb dL_law_215 (by decide) ?_
                      refine lv_istore_n (lv' := [(3, .int (zI 1)), (4, .int (zI y)), (5, .int x5_143), (0, .ref (gSb G)), (1, .ref (A 0)), (2, .ref (B 0))]) hx hb dL_law_219 rfl hl (by decide) rfl (fun ls hl => ?_)
                      refine W.widen (k := 200 + 5000 * k + 4024) (n := 20000 + 60000 * k + 51800) (by omega) (by omega) ?_
                      exact seg_220 TA TB H_S188 _ hPR hS ls (lv_sub hl [1, 0, 2, 3, 4, 5] rfl)
                    · refine lv_aload_n hx hb dL_law_196 rfl (lv_at hl 4 rfl) ?_
                      refine lv_iload hx hb dL_law_197 (lv_at hl 2 rfl) ?_
                      refine lv_iconst (v := zI 5) hx hb dL_law_199 rfl ?_
                      refine lv_ishr hx hb dL_law_200 ?_
                      refine lv_aload_n hx hb dL_law_201 rfl (lv_at hl 4 rfl) ?_
                      obtain ⟨hIa, hIb, ⟨Wa, hCa⟩, ⟨Wb, hCb⟩, hdd⟩ := id hPR
                      refine g_goi (vx_runV (As := []) (rest := [.int (x5_143 >>> ((zI 5) &&& 31)), .ref (A 0)]) ⟨hx, hb, hml, hown, hts⟩ (x_tunes l G A TA S2 Wa H_S188 hCa hIa) (cwV 0 hts gL_law_X4_tunes rfl rfl rfl hd_X4_tunes ⟨(Nat.le_of_ble_eq_true rfl), (Nat.le_of_ble_eq_true rfl)⟩) (g_preV hX hS (ci := 4) rfl hCa.1) rfl rfl hl.1 rfl (lv_room (Nat.le_of_ble_eq_true rfl)) dL_law_202 (⟨by show _ ≤ 600104; omega, by show _ ≤ 7301314; omega⟩)) hS (fun r_202 H_202 locs hp hS => ?_)
                      obtain ⟨rfl, rfl⟩ := hp
                      refine g_goi (vx_runS (As := [.int (x5_143 >>> ((zI 5) &&& 31)), .int (zI (sn S2 : Int))]) (rest := [.ref (A 0)]) ⟨hx, hb, hml, hown, hts⟩ (k_low l G H_S188 (x5_143 >>> ((zI 5) &&& 31)) (sn S2 : Int) (sn S2) (by omega) (by omega) (by omega)) (va_cwS 2 hts gL_law_L_low rfl rfl rfl hd_L_low.2 ⟨(Nat.le_of_ble_eq_true rfl), (Nat.le_of_ble_eq_true rfl)⟩) (g_pre hX hS) rfl rfl hl.1 rfl (lv_room (Nat.le_of_ble_eq_true rfl)) dL_law_205 (⟨by show _ ≤ 600104; omega, by show _ ≤ 7301314; omega⟩)) hS (fun r_205 H_205 locs hp hS => ?_)
                      obtain ⟨rfl, rfl⟩ := hp
                      have hlt_205 := lowN_lt (x5_143 >>> ((zI 5) &&& 31)) (n := (sn S2)) (by omega)
                      refine g_goi (vx_runS (As := [.ref (A 0), .int (zI ((lowN (x5_143 >>> ((zI 5) &&& 31)) (sn S2) : Nat) : Int))]) (rest := []) ⟨hx, hb, hml, hown, hts⟩ (k_areTunesSo l G hlf A TA S2 B TB S2 H_S188 hPR ((lowN (x5_143 >>> ((zI 5) &&& 31)) (sn S2) : Nat) : Int) (lowN (x5_143 >>> ((zI 5) &&& 31)) (sn S2)) (by omega) (by omega)) (va_cwS 2 hts gL_law_L_areTunesSo rfl rfl rfl hd_L_areTunesSo.2 ⟨(Nat.le_of_ble_eq_true rfl), (Nat.le_of_ble_eq_true rfl)⟩) (g_pre hX hS) rfl rfl hl.1 rfl (lv_room (Nat.le_of_ble_eq_true rfl)) dL_law_208 (⟨by show _ ≤ 600104; omega, by show _ ≤ 7301314; omega⟩)) hS (fun r_208 H_208 locs hp hS => ?_)
                      obtain ⟨rfl, hPR⟩ := hp
                      refine gz_if_eq (tgt := 218) hx hb (by decide) dL_law_211 (by decide) (fun c_211 => ?_) (fun c_211 => ?_)
                      · omega
                      · refine lv_iconst (v := zI 1) hx hb dL_law_214 rfl ?_
                        refine lv_goto (tgt := 219) hx hb dL_law_215 (by decide) ?_
                        refine lv_istore_n (lv' := [(3, .int (zI 1)), (4, .int (zI y)), (5, .int x5_143), (0, .ref (gSb G)), (1, .ref (A 0)), (2, .ref (B 0))]) hx hb dL_law_219 rfl hl (by decide) rfl (fun ls hl => ?_)
                        refine W.widen (k := 200 + 5000 * k + 4024) (n := 20000 + 60000 * k + 51800) (by omega) (by omega) ?_
                        exact seg_220 TA TB H_208 _ hPR hS ls (lv_sub hl [1, 0, 2, 3, 4, 5] rfl)
                  refine lv_iload hx hb dL_law_171 (lv_at hl 0 rfl) ?_
                  refine lv_bipush (v := zI 6) hx hb dL_law_173 (by decide +kernel) ?_
                  refine gz_irem hx hb k 6 (by omega) (by omega) (by omega) (by omega) dL_law_175 ?_
                  refine lv_iconst (v := zI 3) hx hb dL_law_176 rfl ?_
                  refine gz_icmp_ne (tgt := 188) hx hb ⟨by omega, by omega⟩ (by decide) dL_law_177 (by decide) (fun c_177 => ?_) (fun c_177 => ?_)
                  · refine W.widen (k := 200 + 5000 * k + 2024) (n := 20000 + 60000 * k + 31800) (by omega) (by omega) ?_
                    exact seg_188 TA TB H_S171 _ hPR hS ls (lv_sub hl [0, 1, 2, 3, 4, 5] rfl)
                  · refine lv_aload_n hx hb dL_law_180 rfl (lv_at hl 4 rfl) ?_
                    refine lv_aload_n hx hb dL_law_181 rfl (lv_at hl 5 rfl) ?_
                    refine g_goi (vx_runS (As := [.ref (A 0), .ref (B 0)]) (rest := []) ⟨hx, hb, hml, hown, hts⟩ (k_areAlike l G hlf A TA S2 B TB H_S171 hPR) (va_cwS 2 hts gL_law_L_areAlike rfl rfl rfl hd_L_areAlike.2 ⟨(Nat.le_of_ble_eq_true rfl), (Nat.le_of_ble_eq_true rfl)⟩) (g_pre hX hS) rfl rfl hl.1 rfl (lv_room (Nat.le_of_ble_eq_true rfl)) dL_law_182 (⟨by show _ ≤ 600104; omega, by show _ ≤ 7301314; omega⟩)) hS (fun r_182 H_182 locs hp hS => ?_)
                    obtain ⟨rfl, TA, TB, hPR⟩ := hp
                    refine gz_if_eq (tgt := 218) hx hb (by decide) dL_law_185 (by decide) (fun c_185 => ?_) (fun c_185 => ?_)
                    · omega
                    · refine W.widen (k := 200 + 5000 * k + 2024) (n := 20000 + 60000 * k + 31800) (by omega) (by omega) ?_
                      exact seg_188 TA TB H_182 _ hPR hS ls (lv_sub hl [0, 1, 2, 3, 4, 5] rfl)
                refine lv_iload hx hb dL_law_153 (lv_at hl 0 rfl) ?_
                refine lv_ldc (v := -99999) hx hb hown (hts (.constant RL 42 (-99999)) (List.mem_append_left _ (List.mem_append_left _ (List.mem_append_left _ (List.mem_append_left _ (List.mem_append_left _ (List.mem_append_left _ (List.mem_append_left _ (List.mem_append_left _ (List.mem_append_left _ (List.mem_append_left _ (List.mem_of_getElem? (i := 3) rfl)))))))))))) dL_law_155 ?_
                rw [k_far]
                refine gz_icmp_eq (tgt := 171) hx hb ⟨by omega, by omega⟩ ⟨by omega, by omega⟩ dL_law_157 (by decide) (fun c_157 => ?_) (fun c_157 => ?_)
                · rw [hak.2.2.2 c_157] at hPR
                  refine W.widen (k := 200 + 5000 * k + 24) (n := 20000 + 60000 * k + 1800) (by omega) (by omega) ?_
                  exact seg_171 TA TB S H_148 _ h3 hPR hS ls (lv_sub hl [2, 3, 1, 4, 5, 6] rfl)
                · refine lv_aload_n hx hb dL_law_160 rfl (lv_at hl 6 rfl) ?_
                  refine lv_iload hx hb dL_law_161 (lv_at hl 1 rfl) ?_
                  obtain ⟨hIa, hIb, ⟨Wa, hCa⟩, ⟨Wb, hCb⟩, hdd⟩ := id hPR
                  refine g_goi (vx_runS (As := [.ref (B 0), .int x5_143]) (rest := []) ⟨hx, hb, hml, hown, hts⟩ (k_act l G hlf B TB S Wb H_148 hCb hIb x5_143) (va_cwS 2 hts gL_law_L_act rfl rfl rfl hd_L_act.2 ⟨(Nat.le_of_ble_eq_true rfl), (Nat.le_of_ble_eq_true rfl)⟩) (g_pre hX hS) rfl rfl hl.1 rfl (lv_room (Nat.le_of_ble_eq_true rfl)) dL_law_163 (⟨by show _ ≤ 600104; omega, by show _ ≤ 7301314; omega⟩)) hS (fun r_163 H_163 locs hp hS => ?_)
                  obtain ⟨rfl, hDX⟩ := hp
                  obtain ⟨TB, hPR⟩ := hPR.symm.dx hak.1 hDX
                  have hPR := hPR.symm
                  refine lv_iload hx hb dL_law_166 (lv_at hl 0 rfl) ?_
                  refine gz_icmp_ne (tgt := 218) hx hb ⟨by omega, by omega⟩ ⟨by omega, by omega⟩ dL_law_168 (by decide) (fun c_168 => ?_) (fun c_168 => ?_)
                  · omega
                  · refine W.widen (k := 200 + 5000 * k + 24) (n := 20000 + 60000 * k + 1800) (by omega) (by omega) ?_
                    exact seg_171 TA TB ((actF S x5_143).2) H_163 _ (Nat.le_trans h3 hak.2.1) hPR hS ls (lv_sub hl [2, 3, 1, 4, 5, 6] rfl)
        refine W.widen (k := 200 + 5000 * 3) (n := 20000 + 60000 * 3) (by omega) (by omega) ?_
        exact loop_126 _ 3 3 H_L21 _ (Nat.lt_succ_self _) rfl (by omega) (by omega) ⟨TA, TB, S, by omega, hPR⟩ hS ls (lv_sub hl [0, 1, 2, 3, 4] rfl)
      · refine lv_iload_n hx hb dL_law_27 rfl (lv_at hl 1 rfl) ?_
        refine gz_if_eq (tgt := 115) hx hb (by decide) dL_law_28 (by decide) (fun c_28 => ?_) (fun c_28 => ?_)
        · omega
        · refine lv_aload_n hx hb dL_law_31 rfl (lv_at hl 3 rfl) ?_
          refine lv_iconst (v := zI 0) hx hb dL_law_32 rfl ?_
          refine lv_bipush (v := zI 25) hx hb dL_law_33 (by decide +kernel) ?_
          refine lv_aload_n hx hb dL_law_35 rfl (lv_at hl 2 rfl) ?_
          refine lv_iload hx hb dL_law_36 (lv_at hl 0 rfl) ?_
          refine g_goi (vx_runS (As := [.ref (gSb G), .int (zI y)]) (rest := [.int (zI 25), .int (zI 0), .ref (A 0)]) ⟨hx, hb, hml, hown, hts⟩ (k_cell l G H_L21 y k (by omega) (by omega)) (va_cwS 2 hts gL_law_L_cell rfl rfl rfl hd_L_cell.2 ⟨(Nat.le_of_ble_eq_true rfl), (Nat.le_of_ble_eq_true rfl)⟩) (g_pre hX hS) rfl rfl hl.1 rfl (lv_room (Nat.le_of_ble_eq_true rfl)) dL_law_38 (⟨by show _ ≤ 600104; omega, by show _ ≤ 7301314; omega⟩)) hS (fun r_38 H_38 locs hp hS => ?_)
          obtain ⟨rfl, rfl⟩ := hp
          refine lv_bipush (v := zI 9) hx hb dL_law_41 (by decide +kernel) ?_
          refine g_goi (vx_runS (As := [.int (cellF G k), .int (zI 9)]) (rest := [.int (zI 25), .int (zI 0), .ref (A 0)]) ⟨hx, hb, hml, hown, hts⟩ (k_low l G H_L21 (cellF G k) 9 9 (by omega) (by omega) (by omega)) (va_cwS 2 hts gL_law_L_low rfl rfl rfl hd_L_low.2 ⟨(Nat.le_of_ble_eq_true rfl), (Nat.le_of_ble_eq_true rfl)⟩) (g_pre hX hS) rfl rfl hl.1 rfl (lv_room (Nat.le_of_ble_eq_true rfl)) dL_law_43 (⟨by show _ ≤ 600104; omega, by show _ ≤ 7301314; omega⟩)) hS (fun r_43 H_43 locs hp hS => ?_)
          obtain ⟨rfl, rfl⟩ := hp
          have hlt_43 := lowN_lt (cellF G k) (n := 9) (by omega)
          refine gz_iadd hx hb dL_law_46 ?_
          refine lv_iconst (v := zI 1) hx hb dL_law_47 rfl ?_
          refine lv_aload_n hx hb dL_law_48 rfl (lv_at hl 2 rfl) ?_
          refine lv_iload hx hb dL_law_49 (lv_at hl 0 rfl) ?_
          refine g_goi (vx_runS (As := [.ref (gSb G), .int (zI y)]) (rest := [.int (zI 1), .int (zI (25 + ((lowN (cellF G k) 9 : Nat) : Int))), .int (zI 0), .ref (A 0)]) ⟨hx, hb, hml, hown, hts⟩ (k_cell l G H_L21 y k (by omega) (by omega)) (va_cwS 2 hts gL_law_L_cell rfl rfl rfl hd_L_cell.2 ⟨(Nat.le_of_ble_eq_true rfl), (Nat.le_of_ble_eq_true rfl)⟩) (g_pre hX hS) rfl rfl hl.1 rfl (lv_room (Nat.le_of_ble_eq_true rfl)) dL_law_51 (⟨by show _ ≤ 600104; omega, by show _ ≤ 7301314; omega⟩)) hS (fun r_51 H_51 locs hp hS => ?_)
          obtain ⟨rfl, rfl⟩ := hp
          refine lv_iconst (v := zI 4) hx hb dL_law_54 rfl ?_
          refine lv_ishr hx hb dL_law_55 ?_
          refine lv_bipush (v := zI 8) hx hb dL_law_56 (by decide +kernel) ?_
          refine g_goi (vx_runS (As := [.int ((cellF G k) >>> ((zI 4) &&& 31)), .int (zI 8)]) (rest := [.int (zI 1), .int (zI (25 + ((lowN (cellF G k) 9 : Nat) : Int))), .int (zI 0), .ref (A 0)]) ⟨hx, hb, hml, hown, hts⟩ (k_low l G H_L21 ((cellF G k) >>> ((zI 4) &&& 31)) 8 8 (by omega) (by omega) (by omega)) (va_cwS 2 hts gL_law_L_low rfl rfl rfl hd_L_low.2 ⟨(Nat.le_of_ble_eq_true rfl), (Nat.le_of_ble_eq_true rfl)⟩) (g_pre hX hS) rfl rfl hl.1 rfl (lv_room (Nat.le_of_ble_eq_true rfl)) dL_law_58 (⟨by show _ ≤ 600104; omega, by show _ ≤ 7301314; omega⟩)) hS (fun r_58 H_58 locs hp hS => ?_)
          obtain ⟨rfl, rfl⟩ := hp
          have hlt_58 := lowN_lt ((cellF G k) >>> ((zI 4) &&& 31)) (n := 8) (by omega)
          refine gz_iadd hx hb dL_law_61 ?_
          refine lv_iconst (v := zI 0) hx hb dL_law_62 rfl ?_
          obtain ⟨hIa, hIb, ⟨Wa, hCa⟩, ⟨Wb, hCb⟩, hdd⟩ := id hPR
          refine g_goi (vx_runSX (As := [.ref (A 0), .int (zI 0), .int (zI (25 + ((lowN (cellF G k) 9 : Nat) : Int))), .int (zI (1 + ((lowN ((cellF G k) >>> ((zI 4) &&& 31)) 8 : Nat) : Int))), .int (zI 0)]) (rest := []) ⟨hx, hb, hml, hown, hts⟩ (k_add l G hlf A TA S Wa H_L21 hCa hIa (25 + ((lowN (cellF G k) 9 : Nat) : Int)) (1 + ((lowN ((cellF G k) >>> ((zI 4) &&& 31)) 8 : Nat) : Int)) 0 ⟨by omega, by omega⟩ ⟨by omega, by omega⟩) (vx_cwSW 5 hts gL_law_L_does rfl rfl rfl hd_L_does.2 ⟨(Nat.le_of_ble_eq_true rfl), (Nat.le_of_ble_eq_true rfl)⟩) (g_pre hX hS) rfl rfl hl.1 rfl (lv_room (Nat.le_of_ble_eq_true rfl)) dL_law_63 (⟨by show _ ≤ 600104; omega, by show _ ≤ 7301314; omega⟩)) hS (fun r_63 H_63 locs hp hS => ?_)
          obtain ⟨rfl, hDX⟩ := hp
          have hadd : addF S (25 + ((lowN (cellF G k) 9 : Nat) : Int)) (1 + ((lowN ((cellF G k) >>> ((zI 4) &&& 31)) 8 : Nat) : Int)) = ((sn S : Int), sAdd S (25 + ((lowN (cellF G k) 9 : Nat) : Int)) (1 + ((lowN ((cellF G k) >>> ((zI 4) &&& 31)) 8 : Nat) : Int))) := by
            unfold addF
            rw [cIf_t ⟨⟨by omega, by omega⟩, by omega, by omega⟩, cIf_t (by omega)]
          have hI2 : sInv (sAdd S (25 + ((lowN (cellF G k) 9 : Nat) : Int)) (1 + ((lowN ((cellF G k) >>> ((zI 4) &&& 31)) 8 : Nat) : Int))) := sI_add hI ⟨⟨by omega, by omega⟩, by omega, by omega⟩ (by omega)
          have had1 : (addF S (25 + ((lowN (cellF G k) 9 : Nat) : Int)) (1 + ((lowN ((cellF G k) >>> ((zI 4) &&& 31)) 8 : Nat) : Int))).1 = (sn S : Int) := by rw [hadd]
          rw [hadd] at hDX
          obtain ⟨TA, hPR⟩ := hPR.dx hI2 hDX
          refine lv_iload hx hb dL_law_66 (lv_at hl 0 rfl) ?_
          refine gz_icmp_ne (tgt := 115) hx hb ⟨by omega, by omega⟩ ⟨by omega, by omega⟩ dL_law_68 (by decide) (fun c_68 => ?_) (fun c_68 => ?_)
          · omega
          · refine lv_aload_n hx hb dL_law_71 rfl (lv_at hl 4 rfl) ?_
            refine lv_iconst (v := zI 0) hx hb dL_law_72 rfl ?_
            refine lv_bipush (v := zI 25) hx hb dL_law_73 (by decide +kernel) ?_
            refine lv_aload_n hx hb dL_law_75 rfl (lv_at hl 2 rfl) ?_
            refine lv_iload hx hb dL_law_76 (lv_at hl 0 rfl) ?_
            refine g_goi (vx_runS (As := [.ref (gSb G), .int (zI y)]) (rest := [.int (zI 25), .int (zI 0), .ref (B 0)]) ⟨hx, hb, hml, hown, hts⟩ (k_cell l G H_63 y k (by omega) (by omega)) (va_cwS 2 hts gL_law_L_cell rfl rfl rfl hd_L_cell.2 ⟨(Nat.le_of_ble_eq_true rfl), (Nat.le_of_ble_eq_true rfl)⟩) (g_pre hX hS) rfl rfl hl.1 rfl (lv_room (Nat.le_of_ble_eq_true rfl)) dL_law_78 (⟨by show _ ≤ 600104; omega, by show _ ≤ 7301314; omega⟩)) hS (fun r_78 H_78 locs hp hS => ?_)
            obtain ⟨rfl, rfl⟩ := hp
            refine lv_bipush (v := zI 9) hx hb dL_law_81 (by decide +kernel) ?_
            refine g_goi (vx_runS (As := [.int (cellF G k), .int (zI 9)]) (rest := [.int (zI 25), .int (zI 0), .ref (B 0)]) ⟨hx, hb, hml, hown, hts⟩ (k_low l G H_63 (cellF G k) 9 9 (by omega) (by omega) (by omega)) (va_cwS 2 hts gL_law_L_low rfl rfl rfl hd_L_low.2 ⟨(Nat.le_of_ble_eq_true rfl), (Nat.le_of_ble_eq_true rfl)⟩) (g_pre hX hS) rfl rfl hl.1 rfl (lv_room (Nat.le_of_ble_eq_true rfl)) dL_law_83 (⟨by show _ ≤ 600104; omega, by show _ ≤ 7301314; omega⟩)) hS (fun r_83 H_83 locs hp hS => ?_)
            obtain ⟨rfl, rfl⟩ := hp
            have hlt_83 := lowN_lt (cellF G k) (n := 9) (by omega)
            refine gz_iadd hx hb dL_law_86 ?_
            refine lv_iconst (v := zI 1) hx hb dL_law_87 rfl ?_
            refine lv_aload_n hx hb dL_law_88 rfl (lv_at hl 2 rfl) ?_
            refine lv_iload hx hb dL_law_89 (lv_at hl 0 rfl) ?_
            refine g_goi (vx_runS (As := [.ref (gSb G), .int (zI y)]) (rest := [.int (zI 1), .int (zI (25 + ((lowN (cellF G k) 9 : Nat) : Int))), .int (zI 0), .ref (B 0)]) ⟨hx, hb, hml, hown, hts⟩ (k_cell l G H_63 y k (by omega) (by omega)) (va_cwS 2 hts gL_law_L_cell rfl rfl rfl hd_L_cell.2 ⟨(Nat.le_of_ble_eq_true rfl), (Nat.le_of_ble_eq_true rfl)⟩) (g_pre hX hS) rfl rfl hl.1 rfl (lv_room (Nat.le_of_ble_eq_true rfl)) dL_law_91 (⟨by show _ ≤ 600104; omega, by show _ ≤ 7301314; omega⟩)) hS (fun r_91 H_91 locs hp hS => ?_)
            obtain ⟨rfl, rfl⟩ := hp
            refine lv_iconst (v := zI 4) hx hb dL_law_94 rfl ?_
            refine lv_ishr hx hb dL_law_95 ?_
            refine lv_bipush (v := zI 8) hx hb dL_law_96 (by decide +kernel) ?_
            refine g_goi (vx_runS (As := [.int ((cellF G k) >>> ((zI 4) &&& 31)), .int (zI 8)]) (rest := [.int (zI 1), .int (zI (25 + ((lowN (cellF G k) 9 : Nat) : Int))), .int (zI 0), .ref (B 0)]) ⟨hx, hb, hml, hown, hts⟩ (k_low l G H_63 ((cellF G k) >>> ((zI 4) &&& 31)) 8 8 (by omega) (by omega) (by omega)) (va_cwS 2 hts gL_law_L_low rfl rfl rfl hd_L_low.2 ⟨(Nat.le_of_ble_eq_true rfl), (Nat.le_of_ble_eq_true rfl)⟩) (g_pre hX hS) rfl rfl hl.1 rfl (lv_room (Nat.le_of_ble_eq_true rfl)) dL_law_98 (⟨by show _ ≤ 600104; omega, by show _ ≤ 7301314; omega⟩)) hS (fun r_98 H_98 locs hp hS => ?_)
            obtain ⟨rfl, rfl⟩ := hp
            have hlt_98 := lowN_lt ((cellF G k) >>> ((zI 4) &&& 31)) (n := 8) (by omega)
            refine gz_iadd hx hb dL_law_101 ?_
            refine lv_iconst (v := zI 0) hx hb dL_law_102 rfl ?_
            obtain ⟨hIa, hIb, ⟨Wa, hCa⟩, ⟨Wb, hCb⟩, hdd⟩ := id hPR
            refine g_goi (vx_runSX (As := [.ref (B 0), .int (zI 0), .int (zI (25 + ((lowN (cellF G k) 9 : Nat) : Int))), .int (zI (1 + ((lowN ((cellF G k) >>> ((zI 4) &&& 31)) 8 : Nat) : Int))), .int (zI 0)]) (rest := []) ⟨hx, hb, hml, hown, hts⟩ (k_add l G hlf B TB S Wb H_63 hCb hIb (25 + ((lowN (cellF G k) 9 : Nat) : Int)) (1 + ((lowN ((cellF G k) >>> ((zI 4) &&& 31)) 8 : Nat) : Int)) 0 ⟨by omega, by omega⟩ ⟨by omega, by omega⟩) (vx_cwSW 5 hts gL_law_L_does rfl rfl rfl hd_L_does.2 ⟨(Nat.le_of_ble_eq_true rfl), (Nat.le_of_ble_eq_true rfl)⟩) (g_pre hX hS) rfl rfl hl.1 rfl (lv_room (Nat.le_of_ble_eq_true rfl)) dL_law_103 (⟨by show _ ≤ 600104; omega, by show _ ≤ 7301314; omega⟩)) hS (fun r_103 H_103 locs hp hS => ?_)
            obtain ⟨rfl, hDX⟩ := hp
            rw [hadd] at hDX
            obtain ⟨TB, hPR⟩ := hPR.symm.dx hI2 hDX
            have hPR := hPR.symm
            refine lv_iload hx hb dL_law_106 (lv_at hl 0 rfl) ?_
            refine gz_icmp_ne (tgt := 115) hx hb ⟨by omega, by omega⟩ ⟨by omega, by omega⟩ dL_law_108 (by decide) (fun c_108 => ?_) (fun c_108 => ?_)
            · omega
            · refine lv_iconst (v := zI 1) hx hb dL_law_111 rfl ?_
              refine lv_goto (tgt := 116) hx hb dL_law_112 (by decide) ?_
              refine lv_istore_n (lv' := [(3, .int (zI 1)), (4, .int (zI y)), (0, .ref (gSb G)), (1, .ref (A 0)), (2, .ref (B 0))]) hx hb dL_law_116 rfl hl (by decide) rfl (fun ls hl => ?_)
              refine lv_iinc (v := zI (y + 1)) (lv' := [(4, .int (zI (y + 1))), (3, .int (zI 1)), (0, .ref (gSb G)), (1, .ref (A 0)), (2, .ref (B 0))]) hx hb dL_law_117 hl (k := 1) rfl (zI_add _ _) (by decide) rfl (fun ls hl => ?_)
              refine lv_goto (tgt := 21) hx hb dL_law_120 (by decide) ?_
              refine W.widen (k := 60 + 24 * (k + 1)) (n := 6000 + 1800 * (k + 1)) (by omega) (by omega) ?_
              exact ih_21 (y + 1) (k + 1) H_103 _ (by omega) (by omega) (by omega) ⟨TA, TB, _, by show sn S + 1 = k + 1; omega, hPR⟩ hS ls (lv_sub hl [0, 1, 2, 3, 4] rfl)
  refine W.widen (k := 60 + 24 * 0) (n := 6000 + 1800 * 0) (by omega) (by omega) ?_
  exact loop_21 _ 0 0 H_12 _ (Nat.lt_succ_self _) rfl (by omega) ⟨_, _, S00, rfl, hPR⟩ hS ls (lv_sub hl [0, 1, 4, 3, 2] rfl)
-- ===== YOUR PART ENDS =====
set_option maxHeartbeats 4000000 in
theorem lw_walk (l : Launch) (hflags : l.flags = flags0) (b : Addr) (xs : List Int32) : MetFree l x (headSpec (Jvm.Cond.code x code maxLocals ret :: tables_1) room_1) (lw_P b xs) (fun _ _ _ _ _ => True) lw_Q := by
  refine MetFree.of_bodyS (code := code) (maxLocals := maxLocals) (ret := ret) (by decide) ?_ ?_
  · intro args s m h hn
    obtain ⟨meth, c, h1, h2, h3, h4, h5, h6, -, -⟩ := Cond.code_spec hn (atoms_spec (ws := Jvm.Cond.code x code maxLocals ret :: tables_1) h _ List.mem_cons_self)
    exact ⟨meth, c, h1, h2, h3, h4, h5, h6⟩
  · intro p e s m args below meth c s₁ B hml0 hP _
    obtain ⟨rfl, hx, hbd, hgv⟩ := hP
    obtain ⟨scr, harrAt, hlist, hof, hsmall⟩ := hx
    obtain ⟨hcb, hkn, -, -⟩ := State.arrayAt?_spec harrAt
    have hown : s.vm.findClass R_law = some m.cls := findClass_of_methodNamed B.named
    have hts0 : ∀ c ∈ (Jvm.Cond.code x code maxLocals ret :: tables_1), c.before #[Value.ref b] s = true := atoms_spec (ws := Jvm.Cond.code x code maxLocals ret :: tables_1) B.pre
    have hts : ∀ w ∈ lw_tbl, w.before #[Value.ref b] s = true := k2_hts_sels lw_privs (fun w hw => hts0 w (List.mem_cons_of_mem _ hw)) lw_privs_ok
    have hml : c.maxLocals = 7 := B.maxLocals_eq (hts0 _ List.mem_cons_self)
    have X₀ : Stand p l e room_1 s m #[Value.ref b] below meth c s₁ [] 0 0 := Stand.of_body B
    have hh0 : s₁.heap = s.heap := by rw [B.state]; rfl
    have hsz : scr.slots.size = xs.length := by rw [← Array.length_toList, hlist, List.length_map]
    have hval : ∀ j : Nat, j < xs.length → scr.slots[j]? = some (.int (xs.getD j 0)) := fun j hj => by
      rw [← Array.getElem?_toList, hlist]
      simp [hj]
    have hbl : b < s.heap.size := (Array.getElem?_eq_some_iff.mp hcb).1
    have hX : va_X b xs.length (fun j => xs.getD j 0) s s.heap := ⟨scr, hcb, hof, hkn, hsz, hval⟩
    have K : W p l e room_1 s m #[Value.ref b] below meth c s₁.heap [] 0 0 (lw_Z below #[Value.ref b] s) (entryFrame m ([Value.ref b] : List Value).toArray 7) := by
      rw [hh0]
      exact whole_start l hflags hbd ⟨B.exec, B.bytes, B.returns, hml, hown, hts, hX, hbl, B.notSynchronized, hgv⟩
    obtain ⟨t, a1, o, b1, b2, b3⟩ := K s₁ rfl X₀
    exact ⟨t, o, a1, b1, b2, b3⟩
theorem lw_pre_spec {args : Array Value} {s : State} (h : (Jvm.Cond.and given_1 narrow_1).before args s = true) (hr : rest_1_c.before args s = true) : ∃ (b : Addr) (xs : List Int32), lw_P b xs args s := by
  have hs := flat_of_before _ h
  have hq := flat_of_before _ hr
  have hc : (Cond.count 1).before args s = true := hs _ (by decide +kernel)
  have harr : (Cond.arrayOf (.arg 0) .int).before args s = true := hs _ (by decide +kernel)
  have hle : (Cond.le (.length (.arg 0)) (.int 260)).before args s = true := hs _ (by decide +kernel)
  have hlen : (Cond.isInt (.length (.arg 0))).before args s = true := hq _ (by decide +kernel)
  have hall : (Cond.all (.arg 0) (.isInt (.elem (.arg 0) (.index 0)))).before args s = true := hq _ (by decide +kernel)
  obtain ⟨b, xs, hb, hx⟩ := State.ints_of_pre rfl harr hlen hall
  have hsm : xs.length < 2 ^ 31 := hx.choose_spec.2.2.2
  have hev : (Term.length (.arg 0)).eval args s none [] s = some (.int xs.length.toInt32) := hx.length_eval hb
  have hv := Cond.le_ints hev (show (Term.int 260).eval args s none [] s = some (.int 260) from rfl)
  have hd : xs.length.toInt32 ≤ 260 := by
    simpa [Cond.before, Cond.holds, hv] using hle
  have hN : xs.length ≤ 260 := (Int32.ofNat_le_ofNat hsm (by decide)).mp (show Int32.ofNat xs.length ≤ Int32.ofNat 260 from hd)
  exact ⟨b, xs, Cond.one_arg hc (show args[0]? = some (.ref b) from hb), hx, hN, h⟩
theorem lw_comes (l : Launch) (hflags : l.flags = flags0) : Comes l x (Jvm.Cond.code x code maxLocals ret :: tables_1) room_1 (fun tb e args s => Calls_1 tb e args s ∧ rest_1 tb e args s ∧ Pre_1 tb e args s)
    (fun _ _ args s o t => lw_Q args s o t) := by
  intro p e ha hc hk s m args below hf hfit hheap happ hpre
  obtain ⟨b, xs, hP⟩ := lw_pre_spec hpre.2.2 hpre.2.1
  obtain ⟨k, o, h1, h2, h3, hQ⟩ := lw_walk l hflags b xs p e ha hc hk s m args below hf ((Spec.applies_iff_loose hf).mp happ).1 hP trivial
  exact ⟨k, o, h1, h2, h3, hQ⟩
theorem lw_frame {s t : State} {o : Outcome} {args : Array Value} (h : Framed s o t [] 600104 7301314) :
    Framed s o t (fieldLocs frame_1_writes args s ++ arrayLocs frame_1_arrays args s ++ staticLocs frame_1_statics s) 600104 7301314 := h
theorem lw_limb (L : Cond) (hL : ∀ (args : Array Value) (s t : State), L.after args s (.returned (some (.int 1))) t = true) :
    ArmFor flags0 classFile x code maxLocals ret World_1 tables_1 room_1 Calls_1 rest_1 Pre_1
      (fun tb e a s o t => postC L tb e a s o t ∧ Framed s o t (fieldLocs frame_1_writes a s ++ arrayLocs frame_1_arrays a s ++ staticLocs frame_1_statics s) 600104 7301314) := by
  intro l hflags _ _ p e ha hc hk s m args below hf hfit hheap happ hpre
  obtain ⟨k, o, h1, h2, h3, rfl, hF⟩ := lw_comes l hflags p e ha hc hk s m args below hf hfit hheap happ hpre
  exact ⟨k, _, h1, h2, h3, hL args s _, lw_frame hF⟩
theorem i_vc : Claimed_1_1 ∧ Claimed_1_2 := ⟨lw_limb limb_1_1 (fun args s t => by simp [limb_1_1, Cond.after, Cond.holds, Cond.value]), lw_limb limb_1_2 (fun args s t => Cond.after_iff.mpr (by
  first | (rw [show limb_1_2 = Cond.eq .result (.int 1) from rfl, Cond.eq_ints (x := 1) (y := 1) rfl rfl]; simp; done) | (simp [limb_1_2, Cond.value, Term.eval]; done)))⟩
