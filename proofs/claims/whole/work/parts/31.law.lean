/-! ===== the law: one call, case by case ===== -/
section
variable {p : Program} {l : Launch} {e : Env} {R : Room} {s : State} {m : MethodId} {args : Array Value} {below : List Frame} {meth : Method} {c : Code} {H : Heap} {locs : List Loc} {cells slots : Nat} {Q : State → Prop} {H0 : Heap} {A : Nat → Prop} {pc : Nat} {ls : Array Slot} {rest : List Value} {cc : ByteArray}
theorem gz_sld (hexec : p.tables.exec = Jvm.exec) (hb : c.code = cc) {b L : Nat} {xs : Nat → Int32} (hX : va_X b L xs s H0) (hbl : b < H0.size) (hbA : ¬ A b) (hS : va_S A H0 H locs) {z : Int} (k : Nat) (hz : z = k) (hk : k < L) (hn : L ≤ 2147483647) (hdg : decode cc pc = .ok (.iaload, 1))
    (kk : W p l e R s m args below meth c H locs cells slots Q (F0 m (pc + 1) ls (.int (xs k) :: rest))) : W p l e R s m args below meth c H locs cells slots Q (F0 m pc ls (.int (zI z) :: .ref b :: rest)) :=
  va_sld hexec hb hX hbl hbA hS (zI_in hz hk hn) hdg (by rw [zI_clamp hz (by omega)]; exact kk)
theorem gz_slen (hexec : p.tables.exec = Jvm.exec) (hb : c.code = cc) {b L : Nat} {xs : Nat → Int32} (hX : va_X b L xs s H0) (hbl : b < H0.size) (hbA : ¬ A b) (hS : va_S A H0 H locs) (hdg : decode cc pc = .ok (.arraylength, 1))
    (kk : W p l e R s m args below meth c H locs cells slots Q (F0 m (pc + 1) ls (.int (zI (L : Int)) :: rest))) : W p l e R s m args below meth c H locs cells slots Q (F0 m pc ls (.ref b :: rest)) :=
  va_slen hexec hb hX hbl hbA hS hdg (by rw [show Int32.ofNat L = zI (L : Int) from zI_n L]; exact kk)
end
def lwF (p : Program) (s : State) (m : MethodId) (c : Code) (G : gG) (b L : Nat) (xs : Nat → Int32) : Prop :=
  p.tables.exec = Jvm.exec ∧ c.code = cL_law ∧ c.maxLocals = 7 ∧ (∀ w ∈ wsL_law, w.before #[Value.ref b] s = true) ∧ s.vm.findClass RL = some m.cls ∧ gX G s s.heap ∧ va_X b L xs s s.heap ∧ b < s.heap.size ∧ gB G = s.heap.size ∧ L ≤ 2560
/-- what comes behind a call -/
def lwK (l : Launch) (G : gG) (p : Program) (e : Env) (s : State) (m : MethodId) (below : List Frame) (meth : Method) (c : Code) (b : Nat) (A : Nat → Nat) (B : Nat → Nat) (o : Nat) (y : Int) (cells slots : Nat) (Q : State → Prop) : Prop :=
  ∀ (TA2 : Nat → Nat → Nat) (S2 : cS) (th2 : Int) (H2 : Heap) (locs2 : List Loc) (ls2 : Array Slot), LI G A TA2 B o S2 th2 H2 → va_S (gA G) s.heap H2 locs2 → lv_has ls2 7 [(4, .int (zI y)), (0, .ref b), (1, .ref (A 0)), (2, .ref (B 0)), (3, .ref o)] → W p l e room_1 s m #[Value.ref b] below meth c H2 locs2 (cells + 12) (slots + 900) Q (F0 m 1362 ls2 [])
set_option maxHeartbeats 4000000 in
set_option maxRecDepth 100000 in
theorem s_add_ok (l : Launch) (hlf : l.stackTraces = false) (G : gG) {p : Program} {e : Env} {s : State} {m : MethodId} {below : List Frame} {meth : Method} {c : Code} {b L : Nat} {xs : Nat → Int32} (F : lwF p s m c G b L xs) (A : Nat → Nat) (TA : Nat → Nat → Nat) (B : Nat → Nat) (S : cS) (o : Nat) (th : Int) (H : Heap) (locs : List Loc) (cells slots : Nat) (hLI : LI G A TA B o S th H) (hS : va_S (gA G) s.heap H locs) (t : Nat) (htL : 5 * t + 5 ≤ L) (y : Int) (hy : y = (5 * t : Nat)) (ls : Array Slot) (hl : lv_has ls 7 [(4, .int (zI y)), (0, .ref b), (1, .ref (A 0)), (2, .ref (B 0)), (3, .ref o)]) (hcl : cells + 12 ≤ 601024) (hsl : slots + 900 ≤ 7293034) (Q : State → Prop) (kk : lwK l G p e s m below meth c b A B o y cells slots Q) (p1 : Int) (l1 : Int) (hp0 : rI p1) (hl0 : rI l1) (hN : isN p1 l1) (h16 : sn S < 16) (hq1 : xs (5 * t + 1) = zI p1) (hq2 : xs (5 * t + 2) = zI l1) : W p l e room_1 s m #[Value.ref b] below meth c H locs cells slots Q (F0 m 148 ls []) := by
  obtain ⟨hx, hb, hml, hts, hown, hX, hscr, hbl, hgb, hL25⟩ := F
  obtain ⟨hI, ⟨W9, hC⟩, ⟨ct, hM⟩, ho0, go, d1, d2, d3⟩ := id hLI
  have hbA : ¬ gA G b := fun z => by have z : gB G ≤ b := z; omega
  have hI2 : sInv (sAdd S p1 l1) := sI_add hI hN h16
  refine lv_aload_n hx hb dL_law_148 rfl (lv_at hl 2 rfl) ?_
  refine lv_aload_n hx hb dL_law_149 rfl (lv_at hl 1 rfl) ?_
  refine lv_iload hx hb dL_law_150 (lv_at hl 0 rfl) ?_
  refine lv_iconst (v := zI 1) hx hb dL_law_152 rfl ?_
  refine gz_iadd hx hb dL_law_153 ?_
  refine gz_sld hx hb hscr hbl hbA hS (5 * t + 1) (by omega) (by omega) (by omega) dL_law_154 ?_
  rw [hq1]
  refine lv_aload_n hx hb dL_law_155 rfl (lv_at hl 1 rfl) ?_
  refine lv_iload hx hb dL_law_156 (lv_at hl 0 rfl) ?_
  refine lv_iconst (v := zI 2) hx hb dL_law_158 rfl ?_
  refine gz_iadd hx hb dL_law_159 ?_
  refine gz_sld hx hb hscr hbl hbA hS (5 * t + 2) (by omega) (by omega) (by omega) dL_law_160 ?_
  rw [hq2]
  refine lv_aload_n hx hb dL_law_161 rfl (lv_at hl 4 rfl) ?_
  refine g_goi (vx_runSX (As := [.ref (A 0), .int (zI p1), .int (zI l1), .ref o]) (rest := []) ⟨hx, hb, hml, hown, hts⟩ (w_add_ok l G A TA S W9 H hC hI p1 l1 hp0 hl0 hN h16 o ho0 go d2) (vx_cwSW 4 hts gL_law_L_add rfl rfl rfl hd_L_add.2 ⟨(Nat.le_of_ble_eq_true rfl), (Nat.le_of_ble_eq_true rfl)⟩) (g_pre hX hS) rfl rfl hl.1 rfl (lv_room (Nat.le_of_ble_eq_true rfl)) dL_law_162 (⟨by show _ ≤ 601024; omega, by show _ ≤ 7293034; omega⟩)) hS (fun r_162 H_162 locs hp hS => ?_)
  obtain ⟨rfl, TA2, hLX, hLO⟩ := hp
  have hLU := hLO.u
  have hM1 := LI.mid hM hLX d1 d3
  refine lv_istore (lv' := [(5, .int (zI 0)), (4, .int (zI y)), (0, .ref b), (1, .ref (A 0)), (2, .ref (B 0)), (3, .ref o)]) hx hb dL_law_165 hl (by decide) rfl (fun ls hl => ?_)
  refine lv_aload_n hx hb dL_law_167 rfl (lv_at hl 4 rfl) ?_
  refine lv_aload_n hx hb dL_law_168 rfl (lv_at hl 2 rfl) ?_
  refine lv_iload hx hb dL_law_169 (lv_at hl 1 rfl) ?_
  refine lv_iconst (v := zI 1) hx hb dL_law_171 rfl ?_
  refine gz_iadd hx hb dL_law_172 ?_
  refine gz_sld hx hb hscr hbl hbA hS (5 * t + 1) (by omega) (by omega) (by omega) dL_law_173 ?_
  rw [hq1]
  refine lv_aload_n hx hb dL_law_174 rfl (lv_at hl 2 rfl) ?_
  refine lv_iload hx hb dL_law_175 (lv_at hl 1 rfl) ?_
  refine lv_iconst (v := zI 2) hx hb dL_law_177 rfl ?_
  refine gz_iadd hx hb dL_law_178 ?_
  refine gz_sld hx hb hscr hbl hbA hS (5 * t + 2) (by omega) (by omega) (by omega) dL_law_179 ?_
  rw [hq2]
  refine g_goi (vx_runV (As := [.int (zI p1), .int (zI l1)]) (rest := []) ⟨hx, hb, hml, hown, hts⟩ (m_add_ok l G B S th ct H_162 hM1 hI p1 l1 hp0 hl0 hN h16) (cwV 2 hts gL_law_X5_add rfl rfl rfl hd_X5_add ⟨(Nat.le_of_ble_eq_true rfl), (Nat.le_of_ble_eq_true rfl)⟩) (g_preV hX hS (ci := 5) rfl hM1.1) rfl rfl hl.1 rfl (lv_room (Nat.le_of_ble_eq_true rfl)) dL_law_180 (⟨by show _ ≤ 601024; omega, by show _ ≤ 7293034; omega⟩)) hS (fun r_180 H_180 locs hp hS => ?_)
  obtain ⟨rfl, hMP⟩ := hp
  have hLI2 := LI.fin hI2 hLI hLX hLU hMP
  obtain ⟨⟨ct2, hM2⟩, hKP2⟩ := id hMP
  obtain ⟨fo, ho, hfo⟩ := LO.mp hLO hMP d3
  refine lv_istore (lv' := [(6, .int (zI (sn S : Int))), (5, .int (zI 0)), (4, .int (zI y)), (0, .ref b), (1, .ref (A 0)), (2, .ref (B 0)), (3, .ref o)]) hx hb dL_law_183 hl (by decide) rfl (fun ls hl => ?_)
  refine lv_aload_n hx hb dL_law_185 rfl (lv_at hl 5 rfl) ?_
  refine g_goi (vx_runV (As := []) (rest := []) ⟨hx, hb, hml, hown, hts⟩ (m_thrown l G B (sAdd S p1 l1) 0 ct2 H_180 hM2) (cwV 0 hts gL_law_X5_thrown rfl rfl rfl hd_X5_thrown ⟨(Nat.le_of_ble_eq_true rfl), (Nat.le_of_ble_eq_true rfl)⟩) (g_preV hX hS (ci := 5) rfl hM2.1) rfl rfl hl.1 rfl (lv_room (Nat.le_of_ble_eq_true rfl)) dL_law_186 (⟨by show _ ≤ 601024; omega, by show _ ≤ 7293034; omega⟩)) hS (fun r_186 H_186 locs hp hS => ?_)
  obtain ⟨rfl, rfl⟩ := hp
  refine lv_iload hx hb dL_law_189 (lv_at hl 1 rfl) ?_
  refine gz_icmp_eq (tgt := 196) hx hb (by decide) (by decide) dL_law_191 (by decide) (fun c_191 => ?_) (fun c_191 => ?_)
  · refine lv_iload hx hb dL_law_196 (lv_at hl 1 rfl) ?_
    refine gz_if_ne (tgt := 213) hx hb (by decide) dL_law_198 (by decide) (fun c_198 => ?_) (fun c_198 => ?_)
    · omega
    · refine lv_aload_n hx hb dL_law_201 rfl (lv_at hl 6 rfl) ?_
      refine lv_iconst (v := zI 0) hx hb dL_law_202 rfl ?_
      refine gz_lald hx hb hX ho 0 (by omega) (by omega) (by omega) dL_law_203 ?_
      rw [hfo]
      refine lv_iload hx hb dL_law_204 (lv_at hl 0 rfl) ?_
      refine lv_i2l hx hb dL_law_206 rfl ?_
      refine W.lcmp hx hb dL_law_207 ?_
      rw [lgc0]
      refine gz_if_eq (tgt := 213) hx hb (by decide) dL_law_208 (by decide) (fun c_208 => ?_) (fun c_208 => ?_)
      · refine lv_goto (tgt := 1362) hx hb dL_law_213 (by decide) ?_
        refine W.widen (k := cells + 12) (n := slots + 900) (by omega) (by omega) ?_
        exact kk TA2 (sAdd S p1 l1) 0 H_180 locs ls hLI2 hS (lv_sub hl [2, 3, 4, 5, 6] rfl)
      · omega
  · omega
set_option maxHeartbeats 4000000 in
set_option maxRecDepth 100000 in
theorem s_add_e1 (l : Launch) (hlf : l.stackTraces = false) (G : gG) {p : Program} {e : Env} {s : State} {m : MethodId} {below : List Frame} {meth : Method} {c : Code} {b L : Nat} {xs : Nat → Int32} (F : lwF p s m c G b L xs) (A : Nat → Nat) (TA : Nat → Nat → Nat) (B : Nat → Nat) (S : cS) (o : Nat) (th : Int) (H : Heap) (locs : List Loc) (cells slots : Nat) (hLI : LI G A TA B o S th H) (hS : va_S (gA G) s.heap H locs) (t : Nat) (htL : 5 * t + 5 ≤ L) (y : Int) (hy : y = (5 * t : Nat)) (ls : Array Slot) (hl : lv_has ls 7 [(4, .int (zI y)), (0, .ref b), (1, .ref (A 0)), (2, .ref (B 0)), (3, .ref o)]) (hcl : cells + 12 ≤ 601024) (hsl : slots + 900 ≤ 7293034) (Q : State → Prop) (kk : lwK l G p e s m below meth c b A B o y cells slots Q) (p1 : Int) (l1 : Int) (hp0 : rI p1) (hl0 : rI l1) (hN : ¬ isN p1 l1) (hq1 : xs (5 * t + 1) = zI p1) (hq2 : xs (5 * t + 2) = zI l1) : W p l e room_1 s m #[Value.ref b] below meth c H locs cells slots Q (F0 m 148 ls []) := by
  obtain ⟨hx, hb, hml, hts, hown, hX, hscr, hbl, hgb, hL25⟩ := F
  obtain ⟨hI, ⟨W9, hC⟩, ⟨ct, hM⟩, ho0, go, d1, d2, d3⟩ := id hLI
  have hbA : ¬ gA G b := fun z => by have z : gB G ≤ b := z; omega
  have hI2 : sInv S := hI
  refine lv_aload_n hx hb dL_law_148 rfl (lv_at hl 2 rfl) ?_
  refine lv_aload_n hx hb dL_law_149 rfl (lv_at hl 1 rfl) ?_
  refine lv_iload hx hb dL_law_150 (lv_at hl 0 rfl) ?_
  refine lv_iconst (v := zI 1) hx hb dL_law_152 rfl ?_
  refine gz_iadd hx hb dL_law_153 ?_
  refine gz_sld hx hb hscr hbl hbA hS (5 * t + 1) (by omega) (by omega) (by omega) dL_law_154 ?_
  rw [hq1]
  refine lv_aload_n hx hb dL_law_155 rfl (lv_at hl 1 rfl) ?_
  refine lv_iload hx hb dL_law_156 (lv_at hl 0 rfl) ?_
  refine lv_iconst (v := zI 2) hx hb dL_law_158 rfl ?_
  refine gz_iadd hx hb dL_law_159 ?_
  refine gz_sld hx hb hscr hbl hbA hS (5 * t + 2) (by omega) (by omega) (by omega) dL_law_160 ?_
  rw [hq2]
  refine lv_aload_n hx hb dL_law_161 rfl (lv_at hl 4 rfl) ?_
  refine g_goi (vx_runSX (As := [.ref (A 0), .int (zI p1), .int (zI l1), .ref o]) (rest := []) ⟨hx, hb, hml, hown, hts⟩ (w_add_e1 l G hlf A TA S W9 H hC hI p1 l1 hp0 hl0 hN o ho0 go d2) (vx_cwSW 4 hts gL_law_L_add rfl rfl rfl hd_L_add.2 ⟨(Nat.le_of_ble_eq_true rfl), (Nat.le_of_ble_eq_true rfl)⟩) (g_pre hX hS) rfl rfl hl.1 rfl (lv_room (Nat.le_of_ble_eq_true rfl)) dL_law_162 (⟨by show _ ≤ 601024; omega, by show _ ≤ 7293034; omega⟩)) hS (fun r_162 H_162 locs hp hS => ?_)
  obtain ⟨rfl, hLX, hLU⟩ := hp
  have hM1 := LI.mid hM hLX d1 d3
  refine lv_istore (lv' := [(5, .int (zI 1)), (4, .int (zI y)), (0, .ref b), (1, .ref (A 0)), (2, .ref (B 0)), (3, .ref o)]) hx hb dL_law_165 hl (by decide) rfl (fun ls hl => ?_)
  refine lv_aload_n hx hb dL_law_167 rfl (lv_at hl 4 rfl) ?_
  refine lv_aload_n hx hb dL_law_168 rfl (lv_at hl 2 rfl) ?_
  refine lv_iload hx hb dL_law_169 (lv_at hl 1 rfl) ?_
  refine lv_iconst (v := zI 1) hx hb dL_law_171 rfl ?_
  refine gz_iadd hx hb dL_law_172 ?_
  refine gz_sld hx hb hscr hbl hbA hS (5 * t + 1) (by omega) (by omega) (by omega) dL_law_173 ?_
  rw [hq1]
  refine lv_aload_n hx hb dL_law_174 rfl (lv_at hl 2 rfl) ?_
  refine lv_iload hx hb dL_law_175 (lv_at hl 1 rfl) ?_
  refine lv_iconst (v := zI 2) hx hb dL_law_177 rfl ?_
  refine gz_iadd hx hb dL_law_178 ?_
  refine gz_sld hx hb hscr hbl hbA hS (5 * t + 2) (by omega) (by omega) (by omega) dL_law_179 ?_
  rw [hq2]
  refine g_goi (vx_runV (As := [.int (zI p1), .int (zI l1)]) (rest := []) ⟨hx, hb, hml, hown, hts⟩ (m_add_e1 l G B S th ct H_162 hM1 hI p1 l1 hp0 hl0 hN) (cwV 2 hts gL_law_X5_add rfl rfl rfl hd_X5_add ⟨(Nat.le_of_ble_eq_true rfl), (Nat.le_of_ble_eq_true rfl)⟩) (g_preV hX hS (ci := 5) rfl hM1.1) rfl rfl hl.1 rfl (lv_room (Nat.le_of_ble_eq_true rfl)) dL_law_180 (⟨by show _ ≤ 601024; omega, by show _ ≤ 7293034; omega⟩)) hS (fun r_180 H_180 locs hp hS => ?_)
  obtain ⟨rfl, hMP⟩ := hp
  have hLI2 := LI.fin hI2 hLI hLX hLU hMP
  obtain ⟨⟨ct2, hM2⟩, hKP2⟩ := id hMP
  refine lv_istore (lv' := [(6, .int (zI 0)), (5, .int (zI 1)), (4, .int (zI y)), (0, .ref b), (1, .ref (A 0)), (2, .ref (B 0)), (3, .ref o)]) hx hb dL_law_183 hl (by decide) rfl (fun ls hl => ?_)
  refine lv_aload_n hx hb dL_law_185 rfl (lv_at hl 5 rfl) ?_
  refine g_goi (vx_runV (As := []) (rest := []) ⟨hx, hb, hml, hown, hts⟩ (m_thrown l G B S 1 ct2 H_180 hM2) (cwV 0 hts gL_law_X5_thrown rfl rfl rfl hd_X5_thrown ⟨(Nat.le_of_ble_eq_true rfl), (Nat.le_of_ble_eq_true rfl)⟩) (g_preV hX hS (ci := 5) rfl hM2.1) rfl rfl hl.1 rfl (lv_room (Nat.le_of_ble_eq_true rfl)) dL_law_186 (⟨by show _ ≤ 601024; omega, by show _ ≤ 7293034; omega⟩)) hS (fun r_186 H_186 locs hp hS => ?_)
  obtain ⟨rfl, rfl⟩ := hp
  refine lv_iload hx hb dL_law_189 (lv_at hl 1 rfl) ?_
  refine gz_icmp_eq (tgt := 196) hx hb (by decide) (by decide) dL_law_191 (by decide) (fun c_191 => ?_) (fun c_191 => ?_)
  · refine lv_iload hx hb dL_law_196 (lv_at hl 1 rfl) ?_
    refine gz_if_ne (tgt := 213) hx hb (by decide) dL_law_198 (by decide) (fun c_198 => ?_) (fun c_198 => ?_)
    · refine lv_goto (tgt := 1362) hx hb dL_law_213 (by decide) ?_
      refine W.widen (k := cells + 12) (n := slots + 900) (by omega) (by omega) ?_
      exact kk TA S 1 H_180 locs ls hLI2 hS (lv_sub hl [2, 3, 4, 5, 6] rfl)
    · omega
  · omega
set_option maxHeartbeats 4000000 in
set_option maxRecDepth 100000 in
theorem s_add_e2 (l : Launch) (hlf : l.stackTraces = false) (G : gG) {p : Program} {e : Env} {s : State} {m : MethodId} {below : List Frame} {meth : Method} {c : Code} {b L : Nat} {xs : Nat → Int32} (F : lwF p s m c G b L xs) (A : Nat → Nat) (TA : Nat → Nat → Nat) (B : Nat → Nat) (S : cS) (o : Nat) (th : Int) (H : Heap) (locs : List Loc) (cells slots : Nat) (hLI : LI G A TA B o S th H) (hS : va_S (gA G) s.heap H locs) (t : Nat) (htL : 5 * t + 5 ≤ L) (y : Int) (hy : y = (5 * t : Nat)) (ls : Array Slot) (hl : lv_has ls 7 [(4, .int (zI y)), (0, .ref b), (1, .ref (A 0)), (2, .ref (B 0)), (3, .ref o)]) (hcl : cells + 12 ≤ 601024) (hsl : slots + 900 ≤ 7293034) (Q : State → Prop) (kk : lwK l G p e s m below meth c b A B o y cells slots Q) (p1 : Int) (l1 : Int) (hp0 : rI p1) (hl0 : rI l1) (hN : isN p1 l1) (h16 : ¬ sn S < 16) (hq1 : xs (5 * t + 1) = zI p1) (hq2 : xs (5 * t + 2) = zI l1) : W p l e room_1 s m #[Value.ref b] below meth c H locs cells slots Q (F0 m 148 ls []) := by
  obtain ⟨hx, hb, hml, hts, hown, hX, hscr, hbl, hgb, hL25⟩ := F
  obtain ⟨hI, ⟨W9, hC⟩, ⟨ct, hM⟩, ho0, go, d1, d2, d3⟩ := id hLI
  have hbA : ¬ gA G b := fun z => by have z : gB G ≤ b := z; omega
  have hI2 : sInv S := hI
  refine lv_aload_n hx hb dL_law_148 rfl (lv_at hl 2 rfl) ?_
  refine lv_aload_n hx hb dL_law_149 rfl (lv_at hl 1 rfl) ?_
  refine lv_iload hx hb dL_law_150 (lv_at hl 0 rfl) ?_
  refine lv_iconst (v := zI 1) hx hb dL_law_152 rfl ?_
  refine gz_iadd hx hb dL_law_153 ?_
  refine gz_sld hx hb hscr hbl hbA hS (5 * t + 1) (by omega) (by omega) (by omega) dL_law_154 ?_
  rw [hq1]
  refine lv_aload_n hx hb dL_law_155 rfl (lv_at hl 1 rfl) ?_
  refine lv_iload hx hb dL_law_156 (lv_at hl 0 rfl) ?_
  refine lv_iconst (v := zI 2) hx hb dL_law_158 rfl ?_
  refine gz_iadd hx hb dL_law_159 ?_
  refine gz_sld hx hb hscr hbl hbA hS (5 * t + 2) (by omega) (by omega) (by omega) dL_law_160 ?_
  rw [hq2]
  refine lv_aload_n hx hb dL_law_161 rfl (lv_at hl 4 rfl) ?_
  refine g_goi (vx_runSX (As := [.ref (A 0), .int (zI p1), .int (zI l1), .ref o]) (rest := []) ⟨hx, hb, hml, hown, hts⟩ (w_add_e2 l G hlf A TA S W9 H hC hI p1 l1 hp0 hl0 hN h16 o ho0 go d2) (vx_cwSW 4 hts gL_law_L_add rfl rfl rfl hd_L_add.2 ⟨(Nat.le_of_ble_eq_true rfl), (Nat.le_of_ble_eq_true rfl)⟩) (g_pre hX hS) rfl rfl hl.1 rfl (lv_room (Nat.le_of_ble_eq_true rfl)) dL_law_162 (⟨by show _ ≤ 601024; omega, by show _ ≤ 7293034; omega⟩)) hS (fun r_162 H_162 locs hp hS => ?_)
  obtain ⟨rfl, hLX, hLU⟩ := hp
  have hM1 := LI.mid hM hLX d1 d3
  refine lv_istore (lv' := [(5, .int (zI 2)), (4, .int (zI y)), (0, .ref b), (1, .ref (A 0)), (2, .ref (B 0)), (3, .ref o)]) hx hb dL_law_165 hl (by decide) rfl (fun ls hl => ?_)
  refine lv_aload_n hx hb dL_law_167 rfl (lv_at hl 4 rfl) ?_
  refine lv_aload_n hx hb dL_law_168 rfl (lv_at hl 2 rfl) ?_
  refine lv_iload hx hb dL_law_169 (lv_at hl 1 rfl) ?_
  refine lv_iconst (v := zI 1) hx hb dL_law_171 rfl ?_
  refine gz_iadd hx hb dL_law_172 ?_
  refine gz_sld hx hb hscr hbl hbA hS (5 * t + 1) (by omega) (by omega) (by omega) dL_law_173 ?_
  rw [hq1]
  refine lv_aload_n hx hb dL_law_174 rfl (lv_at hl 2 rfl) ?_
  refine lv_iload hx hb dL_law_175 (lv_at hl 1 rfl) ?_
  refine lv_iconst (v := zI 2) hx hb dL_law_177 rfl ?_
  refine gz_iadd hx hb dL_law_178 ?_
  refine gz_sld hx hb hscr hbl hbA hS (5 * t + 2) (by omega) (by omega) (by omega) dL_law_179 ?_
  rw [hq2]
  refine g_goi (vx_runV (As := [.int (zI p1), .int (zI l1)]) (rest := []) ⟨hx, hb, hml, hown, hts⟩ (m_add_e2 l G B S th ct H_162 hM1 hI p1 l1 hp0 hl0 hN h16) (cwV 2 hts gL_law_X5_add rfl rfl rfl hd_X5_add ⟨(Nat.le_of_ble_eq_true rfl), (Nat.le_of_ble_eq_true rfl)⟩) (g_preV hX hS (ci := 5) rfl hM1.1) rfl rfl hl.1 rfl (lv_room (Nat.le_of_ble_eq_true rfl)) dL_law_180 (⟨by show _ ≤ 601024; omega, by show _ ≤ 7293034; omega⟩)) hS (fun r_180 H_180 locs hp hS => ?_)
  obtain ⟨rfl, hMP⟩ := hp
  have hLI2 := LI.fin hI2 hLI hLX hLU hMP
  obtain ⟨⟨ct2, hM2⟩, hKP2⟩ := id hMP
  refine lv_istore (lv' := [(6, .int (zI 0)), (5, .int (zI 2)), (4, .int (zI y)), (0, .ref b), (1, .ref (A 0)), (2, .ref (B 0)), (3, .ref o)]) hx hb dL_law_183 hl (by decide) rfl (fun ls hl => ?_)
  refine lv_aload_n hx hb dL_law_185 rfl (lv_at hl 5 rfl) ?_
  refine g_goi (vx_runV (As := []) (rest := []) ⟨hx, hb, hml, hown, hts⟩ (m_thrown l G B S 2 ct2 H_180 hM2) (cwV 0 hts gL_law_X5_thrown rfl rfl rfl hd_X5_thrown ⟨(Nat.le_of_ble_eq_true rfl), (Nat.le_of_ble_eq_true rfl)⟩) (g_preV hX hS (ci := 5) rfl hM2.1) rfl rfl hl.1 rfl (lv_room (Nat.le_of_ble_eq_true rfl)) dL_law_186 (⟨by show _ ≤ 601024; omega, by show _ ≤ 7293034; omega⟩)) hS (fun r_186 H_186 locs hp hS => ?_)
  obtain ⟨rfl, rfl⟩ := hp
  refine lv_iload hx hb dL_law_189 (lv_at hl 1 rfl) ?_
  refine gz_icmp_eq (tgt := 196) hx hb (by decide) (by decide) dL_law_191 (by decide) (fun c_191 => ?_) (fun c_191 => ?_)
  · refine lv_iload hx hb dL_law_196 (lv_at hl 1 rfl) ?_
    refine gz_if_ne (tgt := 213) hx hb (by decide) dL_law_198 (by decide) (fun c_198 => ?_) (fun c_198 => ?_)
    · refine lv_goto (tgt := 1362) hx hb dL_law_213 (by decide) ?_
      refine W.widen (k := cells + 12) (n := slots + 900) (by omega) (by omega) ?_
      exact kk TA S 2 H_180 locs ls hLI2 hS (lv_sub hl [2, 3, 4, 5, 6] rfl)
    · omega
  · omega
set_option maxHeartbeats 4000000 in
set_option maxRecDepth 100000 in
theorem s_note_ok (l : Launch) (hlf : l.stackTraces = false) (G : gG) {p : Program} {e : Env} {s : State} {m : MethodId} {below : List Frame} {meth : Method} {c : Code} {b L : Nat} {xs : Nat → Int32} (F : lwF p s m c G b L xs) (A : Nat → Nat) (TA : Nat → Nat → Nat) (B : Nat → Nat) (S : cS) (o : Nat) (th : Int) (H : Heap) (locs : List Loc) (cells slots : Nat) (hLI : LI G A TA B o S th H) (hS : va_S (gA G) s.heap H locs) (t : Nat) (htL : 5 * t + 5 ≤ L) (y : Int) (hy : y = (5 * t : Nat)) (ls : Array Slot) (hl : lv_has ls 7 [(4, .int (zI y)), (0, .ref b), (1, .ref (A 0)), (2, .ref (B 0)), (3, .ref o)]) (hcl : cells + 12 ≤ 601024) (hsl : slots + 900 ≤ 7293034) (Q : State → Prop) (kk : lwK l G p e s m below meth c b A B o y cells slots Q) (z : Int) (i : Nat) (hz : z = i) (hi : i < sn S) (hk : srt S i = false) (p1 : Int) (l1 : Int) (hp0 : rI p1) (hl0 : rI l1) (hN : isN p1 l1) (h24 : stn S i < 24) (hq1 : xs (5 * t + 1) = zI z) (hq2 : xs (5 * t + 2) = zI p1) (hq3 : xs (5 * t + 3) = zI l1) : W p l e room_1 s m #[Value.ref b] below meth c H locs cells slots Q (F0 m 216 ls []) := by
  obtain ⟨hx, hb, hml, hts, hown, hX, hscr, hbl, hgb, hL25⟩ := F
  obtain ⟨hI, ⟨W9, hC⟩, ⟨ct, hM⟩, ho0, go, d1, d2, d3⟩ := id hLI
  have hbA : ¬ gA G b := fun z => by have z : gB G ≤ b := z; omega
  have hI2 : sInv (sNote S i p1 l1) := sI_note hI hi hN h24
  refine lv_aload_n hx hb dL_law_216 rfl (lv_at hl 2 rfl) ?_
  refine lv_aload_n hx hb dL_law_217 rfl (lv_at hl 1 rfl) ?_
  refine lv_iload hx hb dL_law_218 (lv_at hl 0 rfl) ?_
  refine lv_iconst (v := zI 1) hx hb dL_law_220 rfl ?_
  refine gz_iadd hx hb dL_law_221 ?_
  refine gz_sld hx hb hscr hbl hbA hS (5 * t + 1) (by omega) (by omega) (by omega) dL_law_222 ?_
  rw [hq1]
  refine lv_aload_n hx hb dL_law_223 rfl (lv_at hl 1 rfl) ?_
  refine lv_iload hx hb dL_law_224 (lv_at hl 0 rfl) ?_
  refine lv_iconst (v := zI 2) hx hb dL_law_226 rfl ?_
  refine gz_iadd hx hb dL_law_227 ?_
  refine gz_sld hx hb hscr hbl hbA hS (5 * t + 2) (by omega) (by omega) (by omega) dL_law_228 ?_
  rw [hq2]
  refine lv_aload_n hx hb dL_law_229 rfl (lv_at hl 1 rfl) ?_
  refine lv_iload hx hb dL_law_230 (lv_at hl 0 rfl) ?_
  refine lv_iconst (v := zI 3) hx hb dL_law_232 rfl ?_
  refine gz_iadd hx hb dL_law_233 ?_
  refine gz_sld hx hb hscr hbl hbA hS (5 * t + 3) (by omega) (by omega) (by omega) dL_law_234 ?_
  rw [hq3]
  refine lv_aload_n hx hb dL_law_235 rfl (lv_at hl 4 rfl) ?_
  refine g_goi (vx_runSX (As := [.ref (A 0), .int (zI z), .int (zI p1), .int (zI l1), .ref o]) (rest := []) ⟨hx, hb, hml, hown, hts⟩ (w_note_ok l G A TA S W9 H hC hI z i hz hi hk p1 l1 hp0 hl0 hN h24 o ho0 go d2) (vx_cwSW 5 hts gL_law_L_note rfl rfl rfl hd_L_note.2 ⟨(Nat.le_of_ble_eq_true rfl), (Nat.le_of_ble_eq_true rfl)⟩) (g_pre hX hS) rfl rfl hl.1 rfl (lv_room (Nat.le_of_ble_eq_true rfl)) dL_law_236 (⟨by show _ ≤ 601024; omega, by show _ ≤ 7293034; omega⟩)) hS (fun r_236 H_236 locs hp hS => ?_)
  obtain ⟨rfl, hLX, hLO⟩ := hp
  have hLU := hLO.u
  have hM1 := LI.mid hM hLX d1 d3
  refine lv_istore (lv' := [(5, .int (zI 0)), (4, .int (zI y)), (0, .ref b), (1, .ref (A 0)), (2, .ref (B 0)), (3, .ref o)]) hx hb dL_law_239 hl (by decide) rfl (fun ls hl => ?_)
  refine lv_aload_n hx hb dL_law_241 rfl (lv_at hl 4 rfl) ?_
  refine lv_aload_n hx hb dL_law_242 rfl (lv_at hl 2 rfl) ?_
  refine lv_iload hx hb dL_law_243 (lv_at hl 1 rfl) ?_
  refine lv_iconst (v := zI 1) hx hb dL_law_245 rfl ?_
  refine gz_iadd hx hb dL_law_246 ?_
  refine gz_sld hx hb hscr hbl hbA hS (5 * t + 1) (by omega) (by omega) (by omega) dL_law_247 ?_
  rw [hq1]
  refine lv_aload_n hx hb dL_law_248 rfl (lv_at hl 2 rfl) ?_
  refine lv_iload hx hb dL_law_249 (lv_at hl 1 rfl) ?_
  refine lv_iconst (v := zI 2) hx hb dL_law_251 rfl ?_
  refine gz_iadd hx hb dL_law_252 ?_
  refine gz_sld hx hb hscr hbl hbA hS (5 * t + 2) (by omega) (by omega) (by omega) dL_law_253 ?_
  rw [hq2]
  refine lv_aload_n hx hb dL_law_254 rfl (lv_at hl 2 rfl) ?_
  refine lv_iload hx hb dL_law_255 (lv_at hl 1 rfl) ?_
  refine lv_iconst (v := zI 3) hx hb dL_law_257 rfl ?_
  refine gz_iadd hx hb dL_law_258 ?_
  refine gz_sld hx hb hscr hbl hbA hS (5 * t + 3) (by omega) (by omega) (by omega) dL_law_259 ?_
  rw [hq3]
  refine g_goi (vx_runV (As := [.int (zI z), .int (zI p1), .int (zI l1)]) (rest := []) ⟨hx, hb, hml, hown, hts⟩ (m_note_ok l G B S th ct H_236 hM1 hI z i hz hi hk p1 l1 hp0 hl0 hN h24) (cwV 3 hts gL_law_X5_note rfl rfl rfl hd_X5_note ⟨(Nat.le_of_ble_eq_true rfl), (Nat.le_of_ble_eq_true rfl)⟩) (g_preV hX hS (ci := 5) rfl hM1.1) rfl rfl hl.1 rfl (lv_room (Nat.le_of_ble_eq_true rfl)) dL_law_260 (⟨by show _ ≤ 601024; omega, by show _ ≤ 7293034; omega⟩)) hS (fun r_260 H_260 locs hp hS => ?_)
  obtain ⟨rfl, hMP⟩ := hp
  have hLI2 := LI.fin hI2 hLI hLX hLU hMP
  obtain ⟨⟨ct2, hM2⟩, hKP2⟩ := id hMP
  obtain ⟨fo, ho, hfo⟩ := LO.mp hLO hMP d3
  refine lv_istore (lv' := [(6, .int (zI ((stn S i + 1 : Nat) : Int))), (5, .int (zI 0)), (4, .int (zI y)), (0, .ref b), (1, .ref (A 0)), (2, .ref (B 0)), (3, .ref o)]) hx hb dL_law_263 hl (by decide) rfl (fun ls hl => ?_)
  refine lv_aload_n hx hb dL_law_265 rfl (lv_at hl 5 rfl) ?_
  refine g_goi (vx_runV (As := []) (rest := []) ⟨hx, hb, hml, hown, hts⟩ (m_thrown l G B (sNote S i p1 l1) 0 ct2 H_260 hM2) (cwV 0 hts gL_law_X5_thrown rfl rfl rfl hd_X5_thrown ⟨(Nat.le_of_ble_eq_true rfl), (Nat.le_of_ble_eq_true rfl)⟩) (g_preV hX hS (ci := 5) rfl hM2.1) rfl rfl hl.1 rfl (lv_room (Nat.le_of_ble_eq_true rfl)) dL_law_266 (⟨by show _ ≤ 601024; omega, by show _ ≤ 7293034; omega⟩)) hS (fun r_266 H_266 locs hp hS => ?_)
  obtain ⟨rfl, rfl⟩ := hp
  refine lv_iload hx hb dL_law_269 (lv_at hl 1 rfl) ?_
  refine gz_icmp_eq (tgt := 276) hx hb (by decide) (by decide) dL_law_271 (by decide) (fun c_271 => ?_) (fun c_271 => ?_)
  · refine lv_iload hx hb dL_law_276 (lv_at hl 1 rfl) ?_
    refine gz_if_ne (tgt := 293) hx hb (by decide) dL_law_278 (by decide) (fun c_278 => ?_) (fun c_278 => ?_)
    · omega
    · refine lv_aload_n hx hb dL_law_281 rfl (lv_at hl 6 rfl) ?_
      refine lv_iconst (v := zI 0) hx hb dL_law_282 rfl ?_
      refine gz_lald hx hb hX ho 0 (by omega) (by omega) (by omega) dL_law_283 ?_
      rw [hfo]
      refine lv_iload hx hb dL_law_284 (lv_at hl 0 rfl) ?_
      refine lv_i2l hx hb dL_law_286 rfl ?_
      refine W.lcmp hx hb dL_law_287 ?_
      rw [lgc0]
      refine gz_if_eq (tgt := 293) hx hb (by decide) dL_law_288 (by decide) (fun c_288 => ?_) (fun c_288 => ?_)
      · refine lv_goto (tgt := 1362) hx hb dL_law_293 (by decide) ?_
        refine W.widen (k := cells + 12) (n := slots + 900) (by omega) (by omega) ?_
        exact kk TA (sNote S i p1 l1) 0 H_260 locs ls hLI2 hS (lv_sub hl [2, 3, 4, 5, 6] rfl)
      · omega
  · omega
set_option maxHeartbeats 4000000 in
set_option maxRecDepth 100000 in
theorem s_note_e1 (l : Launch) (hlf : l.stackTraces = false) (G : gG) {p : Program} {e : Env} {s : State} {m : MethodId} {below : List Frame} {meth : Method} {c : Code} {b L : Nat} {xs : Nat → Int32} (F : lwF p s m c G b L xs) (A : Nat → Nat) (TA : Nat → Nat → Nat) (B : Nat → Nat) (S : cS) (o : Nat) (th : Int) (H : Heap) (locs : List Loc) (cells slots : Nat) (hLI : LI G A TA B o S th H) (hS : va_S (gA G) s.heap H locs) (t : Nat) (htL : 5 * t + 5 ≤ L) (y : Int) (hy : y = (5 * t : Nat)) (ls : Array Slot) (hl : lv_has ls 7 [(4, .int (zI y)), (0, .ref b), (1, .ref (A 0)), (2, .ref (B 0)), (3, .ref o)]) (hcl : cells + 12 ≤ 601024) (hsl : slots + 900 ≤ 7293034) (Q : State → Prop) (kk : lwK l G p e s m below meth c b A B o y cells slots Q) (z : Int) (hz : rI z) (hi : ¬ kwn S z) (p1 : Int) (l1 : Int) (hq1 : xs (5 * t + 1) = zI z) (hq2 : xs (5 * t + 2) = zI p1) (hq3 : xs (5 * t + 3) = zI l1) : W p l e room_1 s m #[Value.ref b] below meth c H locs cells slots Q (F0 m 216 ls []) := by
  obtain ⟨hx, hb, hml, hts, hown, hX, hscr, hbl, hgb, hL25⟩ := F
  obtain ⟨hI, ⟨W9, hC⟩, ⟨ct, hM⟩, ho0, go, d1, d2, d3⟩ := id hLI
  have hbA : ¬ gA G b := fun z => by have z : gB G ≤ b := z; omega
  have hI2 : sInv S := hI
  refine lv_aload_n hx hb dL_law_216 rfl (lv_at hl 2 rfl) ?_
  refine lv_aload_n hx hb dL_law_217 rfl (lv_at hl 1 rfl) ?_
  refine lv_iload hx hb dL_law_218 (lv_at hl 0 rfl) ?_
  refine lv_iconst (v := zI 1) hx hb dL_law_220 rfl ?_
  refine gz_iadd hx hb dL_law_221 ?_
  refine gz_sld hx hb hscr hbl hbA hS (5 * t + 1) (by omega) (by omega) (by omega) dL_law_222 ?_
  rw [hq1]
  refine lv_aload_n hx hb dL_law_223 rfl (lv_at hl 1 rfl) ?_
  refine lv_iload hx hb dL_law_224 (lv_at hl 0 rfl) ?_
  refine lv_iconst (v := zI 2) hx hb dL_law_226 rfl ?_
  refine gz_iadd hx hb dL_law_227 ?_
  refine gz_sld hx hb hscr hbl hbA hS (5 * t + 2) (by omega) (by omega) (by omega) dL_law_228 ?_
  rw [hq2]
  refine lv_aload_n hx hb dL_law_229 rfl (lv_at hl 1 rfl) ?_
  refine lv_iload hx hb dL_law_230 (lv_at hl 0 rfl) ?_
  refine lv_iconst (v := zI 3) hx hb dL_law_232 rfl ?_
  refine gz_iadd hx hb dL_law_233 ?_
  refine gz_sld hx hb hscr hbl hbA hS (5 * t + 3) (by omega) (by omega) (by omega) dL_law_234 ?_
  rw [hq3]
  refine lv_aload_n hx hb dL_law_235 rfl (lv_at hl 4 rfl) ?_
  refine g_goi (vx_runSX (As := [.ref (A 0), .int (zI z), .int (zI p1), .int (zI l1), .ref o]) (rest := []) ⟨hx, hb, hml, hown, hts⟩ (w_note_e1 l G hlf A TA S W9 H hC hI z hz hi p1 l1 o ho0 go d2) (vx_cwSW 5 hts gL_law_L_note rfl rfl rfl hd_L_note.2 ⟨(Nat.le_of_ble_eq_true rfl), (Nat.le_of_ble_eq_true rfl)⟩) (g_pre hX hS) rfl rfl hl.1 rfl (lv_room (Nat.le_of_ble_eq_true rfl)) dL_law_236 (⟨by show _ ≤ 601024; omega, by show _ ≤ 7293034; omega⟩)) hS (fun r_236 H_236 locs hp hS => ?_)
  obtain ⟨rfl, hLX, hLU⟩ := hp
  have hM1 := LI.mid hM hLX d1 d3
  refine lv_istore (lv' := [(5, .int (zI 1)), (4, .int (zI y)), (0, .ref b), (1, .ref (A 0)), (2, .ref (B 0)), (3, .ref o)]) hx hb dL_law_239 hl (by decide) rfl (fun ls hl => ?_)
  refine lv_aload_n hx hb dL_law_241 rfl (lv_at hl 4 rfl) ?_
  refine lv_aload_n hx hb dL_law_242 rfl (lv_at hl 2 rfl) ?_
  refine lv_iload hx hb dL_law_243 (lv_at hl 1 rfl) ?_
  refine lv_iconst (v := zI 1) hx hb dL_law_245 rfl ?_
  refine gz_iadd hx hb dL_law_246 ?_
  refine gz_sld hx hb hscr hbl hbA hS (5 * t + 1) (by omega) (by omega) (by omega) dL_law_247 ?_
  rw [hq1]
  refine lv_aload_n hx hb dL_law_248 rfl (lv_at hl 2 rfl) ?_
  refine lv_iload hx hb dL_law_249 (lv_at hl 1 rfl) ?_
  refine lv_iconst (v := zI 2) hx hb dL_law_251 rfl ?_
  refine gz_iadd hx hb dL_law_252 ?_
  refine gz_sld hx hb hscr hbl hbA hS (5 * t + 2) (by omega) (by omega) (by omega) dL_law_253 ?_
  rw [hq2]
  refine lv_aload_n hx hb dL_law_254 rfl (lv_at hl 2 rfl) ?_
  refine lv_iload hx hb dL_law_255 (lv_at hl 1 rfl) ?_
  refine lv_iconst (v := zI 3) hx hb dL_law_257 rfl ?_
  refine gz_iadd hx hb dL_law_258 ?_
  refine gz_sld hx hb hscr hbl hbA hS (5 * t + 3) (by omega) (by omega) (by omega) dL_law_259 ?_
  rw [hq3]
  refine g_goi (vx_runV (As := [.int (zI z), .int (zI p1), .int (zI l1)]) (rest := []) ⟨hx, hb, hml, hown, hts⟩ (m_note_e1 l G B S th ct H_236 hM1 hI z hz hi p1 l1) (cwV 3 hts gL_law_X5_note rfl rfl rfl hd_X5_note ⟨(Nat.le_of_ble_eq_true rfl), (Nat.le_of_ble_eq_true rfl)⟩) (g_preV hX hS (ci := 5) rfl hM1.1) rfl rfl hl.1 rfl (lv_room (Nat.le_of_ble_eq_true rfl)) dL_law_260 (⟨by show _ ≤ 601024; omega, by show _ ≤ 7293034; omega⟩)) hS (fun r_260 H_260 locs hp hS => ?_)
  obtain ⟨rfl, hMP⟩ := hp
  have hLI2 := LI.fin hI2 hLI hLX hLU hMP
  obtain ⟨⟨ct2, hM2⟩, hKP2⟩ := id hMP
  refine lv_istore (lv' := [(6, .int (zI 0)), (5, .int (zI 1)), (4, .int (zI y)), (0, .ref b), (1, .ref (A 0)), (2, .ref (B 0)), (3, .ref o)]) hx hb dL_law_263 hl (by decide) rfl (fun ls hl => ?_)
  refine lv_aload_n hx hb dL_law_265 rfl (lv_at hl 5 rfl) ?_
  refine g_goi (vx_runV (As := []) (rest := []) ⟨hx, hb, hml, hown, hts⟩ (m_thrown l G B S 1 ct2 H_260 hM2) (cwV 0 hts gL_law_X5_thrown rfl rfl rfl hd_X5_thrown ⟨(Nat.le_of_ble_eq_true rfl), (Nat.le_of_ble_eq_true rfl)⟩) (g_preV hX hS (ci := 5) rfl hM2.1) rfl rfl hl.1 rfl (lv_room (Nat.le_of_ble_eq_true rfl)) dL_law_266 (⟨by show _ ≤ 601024; omega, by show _ ≤ 7293034; omega⟩)) hS (fun r_266 H_266 locs hp hS => ?_)
  obtain ⟨rfl, rfl⟩ := hp
  refine lv_iload hx hb dL_law_269 (lv_at hl 1 rfl) ?_
  refine gz_icmp_eq (tgt := 276) hx hb (by decide) (by decide) dL_law_271 (by decide) (fun c_271 => ?_) (fun c_271 => ?_)
  · refine lv_iload hx hb dL_law_276 (lv_at hl 1 rfl) ?_
    refine gz_if_ne (tgt := 293) hx hb (by decide) dL_law_278 (by decide) (fun c_278 => ?_) (fun c_278 => ?_)
    · refine lv_goto (tgt := 1362) hx hb dL_law_293 (by decide) ?_
      refine W.widen (k := cells + 12) (n := slots + 900) (by omega) (by omega) ?_
      exact kk TA S 1 H_260 locs ls hLI2 hS (lv_sub hl [2, 3, 4, 5, 6] rfl)
    · omega
  · omega
set_option maxHeartbeats 4000000 in
set_option maxRecDepth 100000 in
theorem s_note_e2 (l : Launch) (hlf : l.stackTraces = false) (G : gG) {p : Program} {e : Env} {s : State} {m : MethodId} {below : List Frame} {meth : Method} {c : Code} {b L : Nat} {xs : Nat → Int32} (F : lwF p s m c G b L xs) (A : Nat → Nat) (TA : Nat → Nat → Nat) (B : Nat → Nat) (S : cS) (o : Nat) (th : Int) (H : Heap) (locs : List Loc) (cells slots : Nat) (hLI : LI G A TA B o S th H) (hS : va_S (gA G) s.heap H locs) (t : Nat) (htL : 5 * t + 5 ≤ L) (y : Int) (hy : y = (5 * t : Nat)) (ls : Array Slot) (hl : lv_has ls 7 [(4, .int (zI y)), (0, .ref b), (1, .ref (A 0)), (2, .ref (B 0)), (3, .ref o)]) (hcl : cells + 12 ≤ 601024) (hsl : slots + 900 ≤ 7293034) (Q : State → Prop) (kk : lwK l G p e s m below meth c b A B o y cells slots Q) (z : Int) (i : Nat) (hz : z = i) (hi : i < sn S) (hk : srt S i = false) (p1 : Int) (l1 : Int) (hp0 : rI p1) (hl0 : rI l1) (hN : ¬ isN p1 l1) (hq1 : xs (5 * t + 1) = zI z) (hq2 : xs (5 * t + 2) = zI p1) (hq3 : xs (5 * t + 3) = zI l1) : W p l e room_1 s m #[Value.ref b] below meth c H locs cells slots Q (F0 m 216 ls []) := by
  obtain ⟨hx, hb, hml, hts, hown, hX, hscr, hbl, hgb, hL25⟩ := F
  obtain ⟨hI, ⟨W9, hC⟩, ⟨ct, hM⟩, ho0, go, d1, d2, d3⟩ := id hLI
  have hbA : ¬ gA G b := fun z => by have z : gB G ≤ b := z; omega
  have hI2 : sInv S := hI
  refine lv_aload_n hx hb dL_law_216 rfl (lv_at hl 2 rfl) ?_
  refine lv_aload_n hx hb dL_law_217 rfl (lv_at hl 1 rfl) ?_
  refine lv_iload hx hb dL_law_218 (lv_at hl 0 rfl) ?_
  refine lv_iconst (v := zI 1) hx hb dL_law_220 rfl ?_
  refine gz_iadd hx hb dL_law_221 ?_
  refine gz_sld hx hb hscr hbl hbA hS (5 * t + 1) (by omega) (by omega) (by omega) dL_law_222 ?_
  rw [hq1]
  refine lv_aload_n hx hb dL_law_223 rfl (lv_at hl 1 rfl) ?_
  refine lv_iload hx hb dL_law_224 (lv_at hl 0 rfl) ?_
  refine lv_iconst (v := zI 2) hx hb dL_law_226 rfl ?_
  refine gz_iadd hx hb dL_law_227 ?_
  refine gz_sld hx hb hscr hbl hbA hS (5 * t + 2) (by omega) (by omega) (by omega) dL_law_228 ?_
  rw [hq2]
  refine lv_aload_n hx hb dL_law_229 rfl (lv_at hl 1 rfl) ?_
  refine lv_iload hx hb dL_law_230 (lv_at hl 0 rfl) ?_
  refine lv_iconst (v := zI 3) hx hb dL_law_232 rfl ?_
  refine gz_iadd hx hb dL_law_233 ?_
  refine gz_sld hx hb hscr hbl hbA hS (5 * t + 3) (by omega) (by omega) (by omega) dL_law_234 ?_
  rw [hq3]
  refine lv_aload_n hx hb dL_law_235 rfl (lv_at hl 4 rfl) ?_
  refine g_goi (vx_runSX (As := [.ref (A 0), .int (zI z), .int (zI p1), .int (zI l1), .ref o]) (rest := []) ⟨hx, hb, hml, hown, hts⟩ (w_note_e2 l G hlf A TA S W9 H hC hI z i hz hi hk p1 l1 hp0 hl0 hN o ho0 go d2) (vx_cwSW 5 hts gL_law_L_note rfl rfl rfl hd_L_note.2 ⟨(Nat.le_of_ble_eq_true rfl), (Nat.le_of_ble_eq_true rfl)⟩) (g_pre hX hS) rfl rfl hl.1 rfl (lv_room (Nat.le_of_ble_eq_true rfl)) dL_law_236 (⟨by show _ ≤ 601024; omega, by show _ ≤ 7293034; omega⟩)) hS (fun r_236 H_236 locs hp hS => ?_)
  obtain ⟨rfl, hLX, hLU⟩ := hp
  have hM1 := LI.mid hM hLX d1 d3
  refine lv_istore (lv' := [(5, .int (zI 2)), (4, .int (zI y)), (0, .ref b), (1, .ref (A 0)), (2, .ref (B 0)), (3, .ref o)]) hx hb dL_law_239 hl (by decide) rfl (fun ls hl => ?_)
  refine lv_aload_n hx hb dL_law_241 rfl (lv_at hl 4 rfl) ?_
  refine lv_aload_n hx hb dL_law_242 rfl (lv_at hl 2 rfl) ?_
  refine lv_iload hx hb dL_law_243 (lv_at hl 1 rfl) ?_
  refine lv_iconst (v := zI 1) hx hb dL_law_245 rfl ?_
  refine gz_iadd hx hb dL_law_246 ?_
  refine gz_sld hx hb hscr hbl hbA hS (5 * t + 1) (by omega) (by omega) (by omega) dL_law_247 ?_
  rw [hq1]
  refine lv_aload_n hx hb dL_law_248 rfl (lv_at hl 2 rfl) ?_
  refine lv_iload hx hb dL_law_249 (lv_at hl 1 rfl) ?_
  refine lv_iconst (v := zI 2) hx hb dL_law_251 rfl ?_
  refine gz_iadd hx hb dL_law_252 ?_
  refine gz_sld hx hb hscr hbl hbA hS (5 * t + 2) (by omega) (by omega) (by omega) dL_law_253 ?_
  rw [hq2]
  refine lv_aload_n hx hb dL_law_254 rfl (lv_at hl 2 rfl) ?_
  refine lv_iload hx hb dL_law_255 (lv_at hl 1 rfl) ?_
  refine lv_iconst (v := zI 3) hx hb dL_law_257 rfl ?_
  refine gz_iadd hx hb dL_law_258 ?_
  refine gz_sld hx hb hscr hbl hbA hS (5 * t + 3) (by omega) (by omega) (by omega) dL_law_259 ?_
  rw [hq3]
  refine g_goi (vx_runV (As := [.int (zI z), .int (zI p1), .int (zI l1)]) (rest := []) ⟨hx, hb, hml, hown, hts⟩ (m_note_e2 l G B S th ct H_236 hM1 hI z i hz hi hk p1 l1 hp0 hl0 hN) (cwV 3 hts gL_law_X5_note rfl rfl rfl hd_X5_note ⟨(Nat.le_of_ble_eq_true rfl), (Nat.le_of_ble_eq_true rfl)⟩) (g_preV hX hS (ci := 5) rfl hM1.1) rfl rfl hl.1 rfl (lv_room (Nat.le_of_ble_eq_true rfl)) dL_law_260 (⟨by show _ ≤ 601024; omega, by show _ ≤ 7293034; omega⟩)) hS (fun r_260 H_260 locs hp hS => ?_)
  obtain ⟨rfl, hMP⟩ := hp
  have hLI2 := LI.fin hI2 hLI hLX hLU hMP
  obtain ⟨⟨ct2, hM2⟩, hKP2⟩ := id hMP
  refine lv_istore (lv' := [(6, .int (zI 0)), (5, .int (zI 2)), (4, .int (zI y)), (0, .ref b), (1, .ref (A 0)), (2, .ref (B 0)), (3, .ref o)]) hx hb dL_law_263 hl (by decide) rfl (fun ls hl => ?_)
  refine lv_aload_n hx hb dL_law_265 rfl (lv_at hl 5 rfl) ?_
  refine g_goi (vx_runV (As := []) (rest := []) ⟨hx, hb, hml, hown, hts⟩ (m_thrown l G B S 2 ct2 H_260 hM2) (cwV 0 hts gL_law_X5_thrown rfl rfl rfl hd_X5_thrown ⟨(Nat.le_of_ble_eq_true rfl), (Nat.le_of_ble_eq_true rfl)⟩) (g_preV hX hS (ci := 5) rfl hM2.1) rfl rfl hl.1 rfl (lv_room (Nat.le_of_ble_eq_true rfl)) dL_law_266 (⟨by show _ ≤ 601024; omega, by show _ ≤ 7293034; omega⟩)) hS (fun r_266 H_266 locs hp hS => ?_)
  obtain ⟨rfl, rfl⟩ := hp
  refine lv_iload hx hb dL_law_269 (lv_at hl 1 rfl) ?_
  refine gz_icmp_eq (tgt := 276) hx hb (by decide) (by decide) dL_law_271 (by decide) (fun c_271 => ?_) (fun c_271 => ?_)
  · refine lv_iload hx hb dL_law_276 (lv_at hl 1 rfl) ?_
    refine gz_if_ne (tgt := 293) hx hb (by decide) dL_law_278 (by decide) (fun c_278 => ?_) (fun c_278 => ?_)
    · refine lv_goto (tgt := 1362) hx hb dL_law_293 (by decide) ?_
      refine W.widen (k := cells + 12) (n := slots + 900) (by omega) (by omega) ?_
      exact kk TA S 2 H_260 locs ls hLI2 hS (lv_sub hl [2, 3, 4, 5, 6] rfl)
    · omega
  · omega
set_option maxHeartbeats 4000000 in
set_option maxRecDepth 100000 in
theorem s_note_e3 (l : Launch) (hlf : l.stackTraces = false) (G : gG) {p : Program} {e : Env} {s : State} {m : MethodId} {below : List Frame} {meth : Method} {c : Code} {b L : Nat} {xs : Nat → Int32} (F : lwF p s m c G b L xs) (A : Nat → Nat) (TA : Nat → Nat → Nat) (B : Nat → Nat) (S : cS) (o : Nat) (th : Int) (H : Heap) (locs : List Loc) (cells slots : Nat) (hLI : LI G A TA B o S th H) (hS : va_S (gA G) s.heap H locs) (t : Nat) (htL : 5 * t + 5 ≤ L) (y : Int) (hy : y = (5 * t : Nat)) (ls : Array Slot) (hl : lv_has ls 7 [(4, .int (zI y)), (0, .ref b), (1, .ref (A 0)), (2, .ref (B 0)), (3, .ref o)]) (hcl : cells + 12 ≤ 601024) (hsl : slots + 900 ≤ 7293034) (Q : State → Prop) (kk : lwK l G p e s m below meth c b A B o y cells slots Q) (z : Int) (i : Nat) (hz : z = i) (hi : i < sn S) (hk : srt S i = false) (p1 : Int) (l1 : Int) (hp0 : rI p1) (hl0 : rI l1) (hN : isN p1 l1) (h24 : ¬ stn S i < 24) (hq1 : xs (5 * t + 1) = zI z) (hq2 : xs (5 * t + 2) = zI p1) (hq3 : xs (5 * t + 3) = zI l1) : W p l e room_1 s m #[Value.ref b] below meth c H locs cells slots Q (F0 m 216 ls []) := by
  obtain ⟨hx, hb, hml, hts, hown, hX, hscr, hbl, hgb, hL25⟩ := F
  obtain ⟨hI, ⟨W9, hC⟩, ⟨ct, hM⟩, ho0, go, d1, d2, d3⟩ := id hLI
  have hbA : ¬ gA G b := fun z => by have z : gB G ≤ b := z; omega
  have hI2 : sInv S := hI
  refine lv_aload_n hx hb dL_law_216 rfl (lv_at hl 2 rfl) ?_
  refine lv_aload_n hx hb dL_law_217 rfl (lv_at hl 1 rfl) ?_
  refine lv_iload hx hb dL_law_218 (lv_at hl 0 rfl) ?_
  refine lv_iconst (v := zI 1) hx hb dL_law_220 rfl ?_
  refine gz_iadd hx hb dL_law_221 ?_
  refine gz_sld hx hb hscr hbl hbA hS (5 * t + 1) (by omega) (by omega) (by omega) dL_law_222 ?_
  rw [hq1]
  refine lv_aload_n hx hb dL_law_223 rfl (lv_at hl 1 rfl) ?_
  refine lv_iload hx hb dL_law_224 (lv_at hl 0 rfl) ?_
  refine lv_iconst (v := zI 2) hx hb dL_law_226 rfl ?_
  refine gz_iadd hx hb dL_law_227 ?_
  refine gz_sld hx hb hscr hbl hbA hS (5 * t + 2) (by omega) (by omega) (by omega) dL_law_228 ?_
  rw [hq2]
  refine lv_aload_n hx hb dL_law_229 rfl (lv_at hl 1 rfl) ?_
  refine lv_iload hx hb dL_law_230 (lv_at hl 0 rfl) ?_
  refine lv_iconst (v := zI 3) hx hb dL_law_232 rfl ?_
  refine gz_iadd hx hb dL_law_233 ?_
  refine gz_sld hx hb hscr hbl hbA hS (5 * t + 3) (by omega) (by omega) (by omega) dL_law_234 ?_
  rw [hq3]
  refine lv_aload_n hx hb dL_law_235 rfl (lv_at hl 4 rfl) ?_
  refine g_goi (vx_runSX (As := [.ref (A 0), .int (zI z), .int (zI p1), .int (zI l1), .ref o]) (rest := []) ⟨hx, hb, hml, hown, hts⟩ (w_note_e3 l G hlf A TA S W9 H hC hI z i hz hi hk p1 l1 hp0 hl0 hN h24 o ho0 go d2) (vx_cwSW 5 hts gL_law_L_note rfl rfl rfl hd_L_note.2 ⟨(Nat.le_of_ble_eq_true rfl), (Nat.le_of_ble_eq_true rfl)⟩) (g_pre hX hS) rfl rfl hl.1 rfl (lv_room (Nat.le_of_ble_eq_true rfl)) dL_law_236 (⟨by show _ ≤ 601024; omega, by show _ ≤ 7293034; omega⟩)) hS (fun r_236 H_236 locs hp hS => ?_)
  obtain ⟨rfl, hLX, hLU⟩ := hp
  have hM1 := LI.mid hM hLX d1 d3
  refine lv_istore (lv' := [(5, .int (zI 3)), (4, .int (zI y)), (0, .ref b), (1, .ref (A 0)), (2, .ref (B 0)), (3, .ref o)]) hx hb dL_law_239 hl (by decide) rfl (fun ls hl => ?_)
  refine lv_aload_n hx hb dL_law_241 rfl (lv_at hl 4 rfl) ?_
  refine lv_aload_n hx hb dL_law_242 rfl (lv_at hl 2 rfl) ?_
  refine lv_iload hx hb dL_law_243 (lv_at hl 1 rfl) ?_
  refine lv_iconst (v := zI 1) hx hb dL_law_245 rfl ?_
  refine gz_iadd hx hb dL_law_246 ?_
  refine gz_sld hx hb hscr hbl hbA hS (5 * t + 1) (by omega) (by omega) (by omega) dL_law_247 ?_
  rw [hq1]
  refine lv_aload_n hx hb dL_law_248 rfl (lv_at hl 2 rfl) ?_
  refine lv_iload hx hb dL_law_249 (lv_at hl 1 rfl) ?_
  refine lv_iconst (v := zI 2) hx hb dL_law_251 rfl ?_
  refine gz_iadd hx hb dL_law_252 ?_
  refine gz_sld hx hb hscr hbl hbA hS (5 * t + 2) (by omega) (by omega) (by omega) dL_law_253 ?_
  rw [hq2]
  refine lv_aload_n hx hb dL_law_254 rfl (lv_at hl 2 rfl) ?_
  refine lv_iload hx hb dL_law_255 (lv_at hl 1 rfl) ?_
  refine lv_iconst (v := zI 3) hx hb dL_law_257 rfl ?_
  refine gz_iadd hx hb dL_law_258 ?_
  refine gz_sld hx hb hscr hbl hbA hS (5 * t + 3) (by omega) (by omega) (by omega) dL_law_259 ?_
  rw [hq3]
  refine g_goi (vx_runV (As := [.int (zI z), .int (zI p1), .int (zI l1)]) (rest := []) ⟨hx, hb, hml, hown, hts⟩ (m_note_e3 l G B S th ct H_236 hM1 hI z i hz hi hk p1 l1 hp0 hl0 hN h24) (cwV 3 hts gL_law_X5_note rfl rfl rfl hd_X5_note ⟨(Nat.le_of_ble_eq_true rfl), (Nat.le_of_ble_eq_true rfl)⟩) (g_preV hX hS (ci := 5) rfl hM1.1) rfl rfl hl.1 rfl (lv_room (Nat.le_of_ble_eq_true rfl)) dL_law_260 (⟨by show _ ≤ 601024; omega, by show _ ≤ 7293034; omega⟩)) hS (fun r_260 H_260 locs hp hS => ?_)
  obtain ⟨rfl, hMP⟩ := hp
  have hLI2 := LI.fin hI2 hLI hLX hLU hMP
  obtain ⟨⟨ct2, hM2⟩, hKP2⟩ := id hMP
  refine lv_istore (lv' := [(6, .int (zI 0)), (5, .int (zI 3)), (4, .int (zI y)), (0, .ref b), (1, .ref (A 0)), (2, .ref (B 0)), (3, .ref o)]) hx hb dL_law_263 hl (by decide) rfl (fun ls hl => ?_)
  refine lv_aload_n hx hb dL_law_265 rfl (lv_at hl 5 rfl) ?_
  refine g_goi (vx_runV (As := []) (rest := []) ⟨hx, hb, hml, hown, hts⟩ (m_thrown l G B S 3 ct2 H_260 hM2) (cwV 0 hts gL_law_X5_thrown rfl rfl rfl hd_X5_thrown ⟨(Nat.le_of_ble_eq_true rfl), (Nat.le_of_ble_eq_true rfl)⟩) (g_preV hX hS (ci := 5) rfl hM2.1) rfl rfl hl.1 rfl (lv_room (Nat.le_of_ble_eq_true rfl)) dL_law_266 (⟨by show _ ≤ 601024; omega, by show _ ≤ 7293034; omega⟩)) hS (fun r_266 H_266 locs hp hS => ?_)
  obtain ⟨rfl, rfl⟩ := hp
  refine lv_iload hx hb dL_law_269 (lv_at hl 1 rfl) ?_
  refine gz_icmp_eq (tgt := 276) hx hb (by decide) (by decide) dL_law_271 (by decide) (fun c_271 => ?_) (fun c_271 => ?_)
  · refine lv_iload hx hb dL_law_276 (lv_at hl 1 rfl) ?_
    refine gz_if_ne (tgt := 293) hx hb (by decide) dL_law_278 (by decide) (fun c_278 => ?_) (fun c_278 => ?_)
    · refine lv_goto (tgt := 1362) hx hb dL_law_293 (by decide) ?_
      refine W.widen (k := cells + 12) (n := slots + 900) (by omega) (by omega) ?_
      exact kk TA S 3 H_260 locs ls hLI2 hS (lv_sub hl [2, 3, 4, 5, 6] rfl)
    · omega
  · omega
set_option maxHeartbeats 4000000 in
set_option maxRecDepth 100000 in
theorem s_correct_ok (l : Launch) (hlf : l.stackTraces = false) (G : gG) {p : Program} {e : Env} {s : State} {m : MethodId} {below : List Frame} {meth : Method} {c : Code} {b L : Nat} {xs : Nat → Int32} (F : lwF p s m c G b L xs) (A : Nat → Nat) (TA : Nat → Nat → Nat) (B : Nat → Nat) (S : cS) (o : Nat) (th : Int) (H : Heap) (locs : List Loc) (cells slots : Nat) (hLI : LI G A TA B o S th H) (hS : va_S (gA G) s.heap H locs) (t : Nat) (htL : 5 * t + 5 ≤ L) (y : Int) (hy : y = (5 * t : Nat)) (ls : Array Slot) (hl : lv_has ls 7 [(4, .int (zI y)), (0, .ref b), (1, .ref (A 0)), (2, .ref (B 0)), (3, .ref o)]) (hcl : cells + 12 ≤ 601024) (hsl : slots + 900 ≤ 7293034) (Q : State → Prop) (kk : lwK l G p e s m below meth c b A B o y cells slots Q) (z : Int) (i : Nat) (hz : z = i) (hi : i < sn S) (hk : srt S i = false) (z2 : Int) (hz20 : rI z2) (p1 : Int) (l1 : Int) (hp0 : rI p1) (hl0 : rI l1) (k : Nat) (hz2 : z2 = k) (hk2 : k < stn S i) (hN : isN p1 l1) (hq1 : xs (5 * t + 1) = zI z) (hq2 : xs (5 * t + 2) = zI z2) (hq3 : xs (5 * t + 3) = zI p1) (hq4 : xs (5 * t + 4) = zI l1) : W p l e room_1 s m #[Value.ref b] below meth c H locs cells slots Q (F0 m 296 ls []) := by
  obtain ⟨hx, hb, hml, hts, hown, hX, hscr, hbl, hgb, hL25⟩ := F
  obtain ⟨hI, ⟨W9, hC⟩, ⟨ct, hM⟩, ho0, go, d1, d2, d3⟩ := id hLI
  have hbA : ¬ gA G b := fun z => by have z : gB G ≤ b := z; omega
  have hI2 : sInv (sCorr S i k p1 l1) := sI_corr hI hi hN
  refine lv_aload_n hx hb dL_law_296 rfl (lv_at hl 2 rfl) ?_
  refine lv_aload_n hx hb dL_law_297 rfl (lv_at hl 1 rfl) ?_
  refine lv_iload hx hb dL_law_298 (lv_at hl 0 rfl) ?_
  refine lv_iconst (v := zI 1) hx hb dL_law_300 rfl ?_
  refine gz_iadd hx hb dL_law_301 ?_
  refine gz_sld hx hb hscr hbl hbA hS (5 * t + 1) (by omega) (by omega) (by omega) dL_law_302 ?_
  rw [hq1]
  refine lv_aload_n hx hb dL_law_303 rfl (lv_at hl 1 rfl) ?_
  refine lv_iload hx hb dL_law_304 (lv_at hl 0 rfl) ?_
  refine lv_iconst (v := zI 2) hx hb dL_law_306 rfl ?_
  refine gz_iadd hx hb dL_law_307 ?_
  refine gz_sld hx hb hscr hbl hbA hS (5 * t + 2) (by omega) (by omega) (by omega) dL_law_308 ?_
  rw [hq2]
  refine lv_aload_n hx hb dL_law_309 rfl (lv_at hl 1 rfl) ?_
  refine lv_iload hx hb dL_law_310 (lv_at hl 0 rfl) ?_
  refine lv_iconst (v := zI 3) hx hb dL_law_312 rfl ?_
  refine gz_iadd hx hb dL_law_313 ?_
  refine gz_sld hx hb hscr hbl hbA hS (5 * t + 3) (by omega) (by omega) (by omega) dL_law_314 ?_
  rw [hq3]
  refine lv_aload_n hx hb dL_law_315 rfl (lv_at hl 1 rfl) ?_
  refine lv_iload hx hb dL_law_316 (lv_at hl 0 rfl) ?_
  refine lv_iconst (v := zI 4) hx hb dL_law_318 rfl ?_
  refine gz_iadd hx hb dL_law_319 ?_
  refine gz_sld hx hb hscr hbl hbA hS (5 * t + 4) (by omega) (by omega) (by omega) dL_law_320 ?_
  rw [hq4]
  refine lv_aload_n hx hb dL_law_321 rfl (lv_at hl 4 rfl) ?_
  refine g_goi (vx_runSX (As := [.ref (A 0), .int (zI z), .int (zI z2), .int (zI p1), .int (zI l1), .ref o]) (rest := []) ⟨hx, hb, hml, hown, hts⟩ (w_correct_ok l G A TA S W9 H hC hI z i hz hi hk z2 p1 l1 hz20 hp0 hl0 k hz2 hk2 hN o ho0 go d2) (vx_cwSW 6 hts gL_law_L_correct rfl rfl rfl hd_L_correct.2 ⟨(Nat.le_of_ble_eq_true rfl), (Nat.le_of_ble_eq_true rfl)⟩) (g_pre hX hS) rfl rfl hl.1 rfl (lv_room (Nat.le_of_ble_eq_true rfl)) dL_law_322 (⟨by show _ ≤ 601024; omega, by show _ ≤ 7293034; omega⟩)) hS (fun r_322 H_322 locs hp hS => ?_)
  obtain ⟨rfl, hLX, hLO⟩ := hp
  have hLU := hLO.u
  have hM1 := LI.mid hM hLX d1 d3
  refine lv_istore (lv' := [(5, .int (zI 0)), (4, .int (zI y)), (0, .ref b), (1, .ref (A 0)), (2, .ref (B 0)), (3, .ref o)]) hx hb dL_law_325 hl (by decide) rfl (fun ls hl => ?_)
  refine lv_aload_n hx hb dL_law_327 rfl (lv_at hl 4 rfl) ?_
  refine lv_aload_n hx hb dL_law_328 rfl (lv_at hl 2 rfl) ?_
  refine lv_iload hx hb dL_law_329 (lv_at hl 1 rfl) ?_
  refine lv_iconst (v := zI 1) hx hb dL_law_331 rfl ?_
  refine gz_iadd hx hb dL_law_332 ?_
  refine gz_sld hx hb hscr hbl hbA hS (5 * t + 1) (by omega) (by omega) (by omega) dL_law_333 ?_
  rw [hq1]
  refine lv_aload_n hx hb dL_law_334 rfl (lv_at hl 2 rfl) ?_
  refine lv_iload hx hb dL_law_335 (lv_at hl 1 rfl) ?_
  refine lv_iconst (v := zI 2) hx hb dL_law_337 rfl ?_
  refine gz_iadd hx hb dL_law_338 ?_
  refine gz_sld hx hb hscr hbl hbA hS (5 * t + 2) (by omega) (by omega) (by omega) dL_law_339 ?_
  rw [hq2]
  refine lv_aload_n hx hb dL_law_340 rfl (lv_at hl 2 rfl) ?_
  refine lv_iload hx hb dL_law_341 (lv_at hl 1 rfl) ?_
  refine lv_iconst (v := zI 3) hx hb dL_law_343 rfl ?_
  refine gz_iadd hx hb dL_law_344 ?_
  refine gz_sld hx hb hscr hbl hbA hS (5 * t + 3) (by omega) (by omega) (by omega) dL_law_345 ?_
  rw [hq3]
  refine lv_aload_n hx hb dL_law_346 rfl (lv_at hl 2 rfl) ?_
  refine lv_iload hx hb dL_law_347 (lv_at hl 1 rfl) ?_
  refine lv_iconst (v := zI 4) hx hb dL_law_349 rfl ?_
  refine gz_iadd hx hb dL_law_350 ?_
  refine gz_sld hx hb hscr hbl hbA hS (5 * t + 4) (by omega) (by omega) (by omega) dL_law_351 ?_
  rw [hq4]
  refine g_goi (vx_runV (As := [.int (zI z), .int (zI z2), .int (zI p1), .int (zI l1)]) (rest := []) ⟨hx, hb, hml, hown, hts⟩ (m_correct_ok l G B S th ct H_322 hM1 hI z i hz hi hk z2 hz20 p1 l1 hp0 hl0 k hz2 hk2 hN) (cwV 4 hts gL_law_X5_correct rfl rfl rfl hd_X5_correct ⟨(Nat.le_of_ble_eq_true rfl), (Nat.le_of_ble_eq_true rfl)⟩) (g_preV hX hS (ci := 5) rfl hM1.1) rfl rfl hl.1 rfl (lv_room (Nat.le_of_ble_eq_true rfl)) dL_law_352 (⟨by show _ ≤ 601024; omega, by show _ ≤ 7293034; omega⟩)) hS (fun r_352 H_352 locs hp hS => ?_)
  obtain ⟨rfl, hMP⟩ := hp
  have hLI2 := LI.fin hI2 hLI hLX hLU hMP
  obtain ⟨⟨ct2, hM2⟩, hKP2⟩ := id hMP
  obtain ⟨fo, ho, hfo⟩ := LO.mp hLO hMP d3
  refine lv_istore (lv' := [(6, .int (zI (stp S i k))), (5, .int (zI 0)), (4, .int (zI y)), (0, .ref b), (1, .ref (A 0)), (2, .ref (B 0)), (3, .ref o)]) hx hb dL_law_355 hl (by decide) rfl (fun ls hl => ?_)
  refine lv_aload_n hx hb dL_law_357 rfl (lv_at hl 5 rfl) ?_
  refine g_goi (vx_runV (As := []) (rest := []) ⟨hx, hb, hml, hown, hts⟩ (m_thrown l G B (sCorr S i k p1 l1) 0 ct2 H_352 hM2) (cwV 0 hts gL_law_X5_thrown rfl rfl rfl hd_X5_thrown ⟨(Nat.le_of_ble_eq_true rfl), (Nat.le_of_ble_eq_true rfl)⟩) (g_preV hX hS (ci := 5) rfl hM2.1) rfl rfl hl.1 rfl (lv_room (Nat.le_of_ble_eq_true rfl)) dL_law_358 (⟨by show _ ≤ 601024; omega, by show _ ≤ 7293034; omega⟩)) hS (fun r_358 H_358 locs hp hS => ?_)
  obtain ⟨rfl, rfl⟩ := hp
  refine lv_iload hx hb dL_law_361 (lv_at hl 1 rfl) ?_
  refine gz_icmp_eq (tgt := 368) hx hb (by decide) (by decide) dL_law_363 (by decide) (fun c_363 => ?_) (fun c_363 => ?_)
  · refine lv_iload hx hb dL_law_368 (lv_at hl 1 rfl) ?_
    refine gz_if_ne (tgt := 385) hx hb (by decide) dL_law_370 (by decide) (fun c_370 => ?_) (fun c_370 => ?_)
    · omega
    · refine lv_aload_n hx hb dL_law_373 rfl (lv_at hl 6 rfl) ?_
      refine lv_iconst (v := zI 0) hx hb dL_law_374 rfl ?_
      refine gz_lald hx hb hX ho 0 (by omega) (by omega) (by omega) dL_law_375 ?_
      rw [hfo]
      refine lv_iload hx hb dL_law_376 (lv_at hl 0 rfl) ?_
      refine lv_i2l hx hb dL_law_378 rfl ?_
      refine W.lcmp hx hb dL_law_379 ?_
      rw [lgc0]
      refine gz_if_eq (tgt := 385) hx hb (by decide) dL_law_380 (by decide) (fun c_380 => ?_) (fun c_380 => ?_)
      · refine lv_goto (tgt := 1362) hx hb dL_law_385 (by decide) ?_
        refine W.widen (k := cells + 12) (n := slots + 900) (by omega) (by omega) ?_
        exact kk TA (sCorr S i k p1 l1) 0 H_352 locs ls hLI2 hS (lv_sub hl [2, 3, 4, 5, 6] rfl)
      · omega
  · omega
set_option maxHeartbeats 4000000 in
set_option maxRecDepth 100000 in
theorem s_correct_e1 (l : Launch) (hlf : l.stackTraces = false) (G : gG) {p : Program} {e : Env} {s : State} {m : MethodId} {below : List Frame} {meth : Method} {c : Code} {b L : Nat} {xs : Nat → Int32} (F : lwF p s m c G b L xs) (A : Nat → Nat) (TA : Nat → Nat → Nat) (B : Nat → Nat) (S : cS) (o : Nat) (th : Int) (H : Heap) (locs : List Loc) (cells slots : Nat) (hLI : LI G A TA B o S th H) (hS : va_S (gA G) s.heap H locs) (t : Nat) (htL : 5 * t + 5 ≤ L) (y : Int) (hy : y = (5 * t : Nat)) (ls : Array Slot) (hl : lv_has ls 7 [(4, .int (zI y)), (0, .ref b), (1, .ref (A 0)), (2, .ref (B 0)), (3, .ref o)]) (hcl : cells + 12 ≤ 601024) (hsl : slots + 900 ≤ 7293034) (Q : State → Prop) (kk : lwK l G p e s m below meth c b A B o y cells slots Q) (z : Int) (hz : rI z) (hi : ¬ kwn S z) (z2 : Int) (hz20 : rI z2) (p1 : Int) (l1 : Int) (hq1 : xs (5 * t + 1) = zI z) (hq2 : xs (5 * t + 2) = zI z2) (hq3 : xs (5 * t + 3) = zI p1) (hq4 : xs (5 * t + 4) = zI l1) : W p l e room_1 s m #[Value.ref b] below meth c H locs cells slots Q (F0 m 296 ls []) := by
  obtain ⟨hx, hb, hml, hts, hown, hX, hscr, hbl, hgb, hL25⟩ := F
  obtain ⟨hI, ⟨W9, hC⟩, ⟨ct, hM⟩, ho0, go, d1, d2, d3⟩ := id hLI
  have hbA : ¬ gA G b := fun z => by have z : gB G ≤ b := z; omega
  have hI2 : sInv S := hI
  refine lv_aload_n hx hb dL_law_296 rfl (lv_at hl 2 rfl) ?_
  refine lv_aload_n hx hb dL_law_297 rfl (lv_at hl 1 rfl) ?_
  refine lv_iload hx hb dL_law_298 (lv_at hl 0 rfl) ?_
  refine lv_iconst (v := zI 1) hx hb dL_law_300 rfl ?_
  refine gz_iadd hx hb dL_law_301 ?_
  refine gz_sld hx hb hscr hbl hbA hS (5 * t + 1) (by omega) (by omega) (by omega) dL_law_302 ?_
  rw [hq1]
  refine lv_aload_n hx hb dL_law_303 rfl (lv_at hl 1 rfl) ?_
  refine lv_iload hx hb dL_law_304 (lv_at hl 0 rfl) ?_
  refine lv_iconst (v := zI 2) hx hb dL_law_306 rfl ?_
  refine gz_iadd hx hb dL_law_307 ?_
  refine gz_sld hx hb hscr hbl hbA hS (5 * t + 2) (by omega) (by omega) (by omega) dL_law_308 ?_
  rw [hq2]
  refine lv_aload_n hx hb dL_law_309 rfl (lv_at hl 1 rfl) ?_
  refine lv_iload hx hb dL_law_310 (lv_at hl 0 rfl) ?_
  refine lv_iconst (v := zI 3) hx hb dL_law_312 rfl ?_
  refine gz_iadd hx hb dL_law_313 ?_
  refine gz_sld hx hb hscr hbl hbA hS (5 * t + 3) (by omega) (by omega) (by omega) dL_law_314 ?_
  rw [hq3]
  refine lv_aload_n hx hb dL_law_315 rfl (lv_at hl 1 rfl) ?_
  refine lv_iload hx hb dL_law_316 (lv_at hl 0 rfl) ?_
  refine lv_iconst (v := zI 4) hx hb dL_law_318 rfl ?_
  refine gz_iadd hx hb dL_law_319 ?_
  refine gz_sld hx hb hscr hbl hbA hS (5 * t + 4) (by omega) (by omega) (by omega) dL_law_320 ?_
  rw [hq4]
  refine lv_aload_n hx hb dL_law_321 rfl (lv_at hl 4 rfl) ?_
  refine g_goi (vx_runSX (As := [.ref (A 0), .int (zI z), .int (zI z2), .int (zI p1), .int (zI l1), .ref o]) (rest := []) ⟨hx, hb, hml, hown, hts⟩ (w_correct_e1 l G hlf A TA S W9 H hC hI z hz hi z2 p1 l1 o ho0 go d2) (vx_cwSW 6 hts gL_law_L_correct rfl rfl rfl hd_L_correct.2 ⟨(Nat.le_of_ble_eq_true rfl), (Nat.le_of_ble_eq_true rfl)⟩) (g_pre hX hS) rfl rfl hl.1 rfl (lv_room (Nat.le_of_ble_eq_true rfl)) dL_law_322 (⟨by show _ ≤ 601024; omega, by show _ ≤ 7293034; omega⟩)) hS (fun r_322 H_322 locs hp hS => ?_)
  obtain ⟨rfl, hLX, hLU⟩ := hp
  have hM1 := LI.mid hM hLX d1 d3
  refine lv_istore (lv' := [(5, .int (zI 1)), (4, .int (zI y)), (0, .ref b), (1, .ref (A 0)), (2, .ref (B 0)), (3, .ref o)]) hx hb dL_law_325 hl (by decide) rfl (fun ls hl => ?_)
  refine lv_aload_n hx hb dL_law_327 rfl (lv_at hl 4 rfl) ?_
  refine lv_aload_n hx hb dL_law_328 rfl (lv_at hl 2 rfl) ?_
  refine lv_iload hx hb dL_law_329 (lv_at hl 1 rfl) ?_
  refine lv_iconst (v := zI 1) hx hb dL_law_331 rfl ?_
  refine gz_iadd hx hb dL_law_332 ?_
  refine gz_sld hx hb hscr hbl hbA hS (5 * t + 1) (by omega) (by omega) (by omega) dL_law_333 ?_
  rw [hq1]
  refine lv_aload_n hx hb dL_law_334 rfl (lv_at hl 2 rfl) ?_
  refine lv_iload hx hb dL_law_335 (lv_at hl 1 rfl) ?_
  refine lv_iconst (v := zI 2) hx hb dL_law_337 rfl ?_
  refine gz_iadd hx hb dL_law_338 ?_
  refine gz_sld hx hb hscr hbl hbA hS (5 * t + 2) (by omega) (by omega) (by omega) dL_law_339 ?_
  rw [hq2]
  refine lv_aload_n hx hb dL_law_340 rfl (lv_at hl 2 rfl) ?_
  refine lv_iload hx hb dL_law_341 (lv_at hl 1 rfl) ?_
  refine lv_iconst (v := zI 3) hx hb dL_law_343 rfl ?_
  refine gz_iadd hx hb dL_law_344 ?_
  refine gz_sld hx hb hscr hbl hbA hS (5 * t + 3) (by omega) (by omega) (by omega) dL_law_345 ?_
  rw [hq3]
  refine lv_aload_n hx hb dL_law_346 rfl (lv_at hl 2 rfl) ?_
  refine lv_iload hx hb dL_law_347 (lv_at hl 1 rfl) ?_
  refine lv_iconst (v := zI 4) hx hb dL_law_349 rfl ?_
  refine gz_iadd hx hb dL_law_350 ?_
  refine gz_sld hx hb hscr hbl hbA hS (5 * t + 4) (by omega) (by omega) (by omega) dL_law_351 ?_
  rw [hq4]
  refine g_goi (vx_runV (As := [.int (zI z), .int (zI z2), .int (zI p1), .int (zI l1)]) (rest := []) ⟨hx, hb, hml, hown, hts⟩ (m_correct_e1 l G B S th ct H_322 hM1 hI z hz hi z2 hz20 p1 l1) (cwV 4 hts gL_law_X5_correct rfl rfl rfl hd_X5_correct ⟨(Nat.le_of_ble_eq_true rfl), (Nat.le_of_ble_eq_true rfl)⟩) (g_preV hX hS (ci := 5) rfl hM1.1) rfl rfl hl.1 rfl (lv_room (Nat.le_of_ble_eq_true rfl)) dL_law_352 (⟨by show _ ≤ 601024; omega, by show _ ≤ 7293034; omega⟩)) hS (fun r_352 H_352 locs hp hS => ?_)
  obtain ⟨rfl, hMP⟩ := hp
  have hLI2 := LI.fin hI2 hLI hLX hLU hMP
  obtain ⟨⟨ct2, hM2⟩, hKP2⟩ := id hMP
  refine lv_istore (lv' := [(6, .int (zI 0)), (5, .int (zI 1)), (4, .int (zI y)), (0, .ref b), (1, .ref (A 0)), (2, .ref (B 0)), (3, .ref o)]) hx hb dL_law_355 hl (by decide) rfl (fun ls hl => ?_)
  refine lv_aload_n hx hb dL_law_357 rfl (lv_at hl 5 rfl) ?_
  refine g_goi (vx_runV (As := []) (rest := []) ⟨hx, hb, hml, hown, hts⟩ (m_thrown l G B S 1 ct2 H_352 hM2) (cwV 0 hts gL_law_X5_thrown rfl rfl rfl hd_X5_thrown ⟨(Nat.le_of_ble_eq_true rfl), (Nat.le_of_ble_eq_true rfl)⟩) (g_preV hX hS (ci := 5) rfl hM2.1) rfl rfl hl.1 rfl (lv_room (Nat.le_of_ble_eq_true rfl)) dL_law_358 (⟨by show _ ≤ 601024; omega, by show _ ≤ 7293034; omega⟩)) hS (fun r_358 H_358 locs hp hS => ?_)
  obtain ⟨rfl, rfl⟩ := hp
  refine lv_iload hx hb dL_law_361 (lv_at hl 1 rfl) ?_
  refine gz_icmp_eq (tgt := 368) hx hb (by decide) (by decide) dL_law_363 (by decide) (fun c_363 => ?_) (fun c_363 => ?_)
  · refine lv_iload hx hb dL_law_368 (lv_at hl 1 rfl) ?_
    refine gz_if_ne (tgt := 385) hx hb (by decide) dL_law_370 (by decide) (fun c_370 => ?_) (fun c_370 => ?_)
    · refine lv_goto (tgt := 1362) hx hb dL_law_385 (by decide) ?_
      refine W.widen (k := cells + 12) (n := slots + 900) (by omega) (by omega) ?_
      exact kk TA S 1 H_352 locs ls hLI2 hS (lv_sub hl [2, 3, 4, 5, 6] rfl)
    · omega
  · omega
set_option maxHeartbeats 4000000 in
set_option maxRecDepth 100000 in
theorem s_correct_e2 (l : Launch) (hlf : l.stackTraces = false) (G : gG) {p : Program} {e : Env} {s : State} {m : MethodId} {below : List Frame} {meth : Method} {c : Code} {b L : Nat} {xs : Nat → Int32} (F : lwF p s m c G b L xs) (A : Nat → Nat) (TA : Nat → Nat → Nat) (B : Nat → Nat) (S : cS) (o : Nat) (th : Int) (H : Heap) (locs : List Loc) (cells slots : Nat) (hLI : LI G A TA B o S th H) (hS : va_S (gA G) s.heap H locs) (t : Nat) (htL : 5 * t + 5 ≤ L) (y : Int) (hy : y = (5 * t : Nat)) (ls : Array Slot) (hl : lv_has ls 7 [(4, .int (zI y)), (0, .ref b), (1, .ref (A 0)), (2, .ref (B 0)), (3, .ref o)]) (hcl : cells + 12 ≤ 601024) (hsl : slots + 900 ≤ 7293034) (Q : State → Prop) (kk : lwK l G p e s m below meth c b A B o y cells slots Q) (z : Int) (i : Nat) (hz : z = i) (hi : i < sn S) (hk : srt S i = false) (z2 : Int) (hz20 : rI z2) (p1 : Int) (l1 : Int) (hp0 : rI p1) (hl0 : rI l1) (hk2 : ¬ (0 ≤ z2 ∧ z2 < stn S i)) (hq1 : xs (5 * t + 1) = zI z) (hq2 : xs (5 * t + 2) = zI z2) (hq3 : xs (5 * t + 3) = zI p1) (hq4 : xs (5 * t + 4) = zI l1) : W p l e room_1 s m #[Value.ref b] below meth c H locs cells slots Q (F0 m 296 ls []) := by
  obtain ⟨hx, hb, hml, hts, hown, hX, hscr, hbl, hgb, hL25⟩ := F
  obtain ⟨hI, ⟨W9, hC⟩, ⟨ct, hM⟩, ho0, go, d1, d2, d3⟩ := id hLI
  have hbA : ¬ gA G b := fun z => by have z : gB G ≤ b := z; omega
  have hI2 : sInv S := hI
  refine lv_aload_n hx hb dL_law_296 rfl (lv_at hl 2 rfl) ?_
  refine lv_aload_n hx hb dL_law_297 rfl (lv_at hl 1 rfl) ?_
  refine lv_iload hx hb dL_law_298 (lv_at hl 0 rfl) ?_
  refine lv_iconst (v := zI 1) hx hb dL_law_300 rfl ?_
  refine gz_iadd hx hb dL_law_301 ?_
  refine gz_sld hx hb hscr hbl hbA hS (5 * t + 1) (by omega) (by omega) (by omega) dL_law_302 ?_
  rw [hq1]
  refine lv_aload_n hx hb dL_law_303 rfl (lv_at hl 1 rfl) ?_
  refine lv_iload hx hb dL_law_304 (lv_at hl 0 rfl) ?_
  refine lv_iconst (v := zI 2) hx hb dL_law_306 rfl ?_
  refine gz_iadd hx hb dL_law_307 ?_
  refine gz_sld hx hb hscr hbl hbA hS (5 * t + 2) (by omega) (by omega) (by omega) dL_law_308 ?_
  rw [hq2]
  refine lv_aload_n hx hb dL_law_309 rfl (lv_at hl 1 rfl) ?_
  refine lv_iload hx hb dL_law_310 (lv_at hl 0 rfl) ?_
  refine lv_iconst (v := zI 3) hx hb dL_law_312 rfl ?_
  refine gz_iadd hx hb dL_law_313 ?_
  refine gz_sld hx hb hscr hbl hbA hS (5 * t + 3) (by omega) (by omega) (by omega) dL_law_314 ?_
  rw [hq3]
  refine lv_aload_n hx hb dL_law_315 rfl (lv_at hl 1 rfl) ?_
  refine lv_iload hx hb dL_law_316 (lv_at hl 0 rfl) ?_
  refine lv_iconst (v := zI 4) hx hb dL_law_318 rfl ?_
  refine gz_iadd hx hb dL_law_319 ?_
  refine gz_sld hx hb hscr hbl hbA hS (5 * t + 4) (by omega) (by omega) (by omega) dL_law_320 ?_
  rw [hq4]
  refine lv_aload_n hx hb dL_law_321 rfl (lv_at hl 4 rfl) ?_
  refine g_goi (vx_runSX (As := [.ref (A 0), .int (zI z), .int (zI z2), .int (zI p1), .int (zI l1), .ref o]) (rest := []) ⟨hx, hb, hml, hown, hts⟩ (w_correct_e2 l G hlf A TA S W9 H hC hI z i hz hi hk z2 p1 l1 hz20 hp0 hl0 hk2 o ho0 go d2) (vx_cwSW 6 hts gL_law_L_correct rfl rfl rfl hd_L_correct.2 ⟨(Nat.le_of_ble_eq_true rfl), (Nat.le_of_ble_eq_true rfl)⟩) (g_pre hX hS) rfl rfl hl.1 rfl (lv_room (Nat.le_of_ble_eq_true rfl)) dL_law_322 (⟨by show _ ≤ 601024; omega, by show _ ≤ 7293034; omega⟩)) hS (fun r_322 H_322 locs hp hS => ?_)
  obtain ⟨rfl, hLX, hLU⟩ := hp
  have hM1 := LI.mid hM hLX d1 d3
  refine lv_istore (lv' := [(5, .int (zI 1)), (4, .int (zI y)), (0, .ref b), (1, .ref (A 0)), (2, .ref (B 0)), (3, .ref o)]) hx hb dL_law_325 hl (by decide) rfl (fun ls hl => ?_)
  refine lv_aload_n hx hb dL_law_327 rfl (lv_at hl 4 rfl) ?_
  refine lv_aload_n hx hb dL_law_328 rfl (lv_at hl 2 rfl) ?_
  refine lv_iload hx hb dL_law_329 (lv_at hl 1 rfl) ?_
  refine lv_iconst (v := zI 1) hx hb dL_law_331 rfl ?_
  refine gz_iadd hx hb dL_law_332 ?_
  refine gz_sld hx hb hscr hbl hbA hS (5 * t + 1) (by omega) (by omega) (by omega) dL_law_333 ?_
  rw [hq1]
  refine lv_aload_n hx hb dL_law_334 rfl (lv_at hl 2 rfl) ?_
  refine lv_iload hx hb dL_law_335 (lv_at hl 1 rfl) ?_
  refine lv_iconst (v := zI 2) hx hb dL_law_337 rfl ?_
  refine gz_iadd hx hb dL_law_338 ?_
  refine gz_sld hx hb hscr hbl hbA hS (5 * t + 2) (by omega) (by omega) (by omega) dL_law_339 ?_
  rw [hq2]
  refine lv_aload_n hx hb dL_law_340 rfl (lv_at hl 2 rfl) ?_
  refine lv_iload hx hb dL_law_341 (lv_at hl 1 rfl) ?_
  refine lv_iconst (v := zI 3) hx hb dL_law_343 rfl ?_
  refine gz_iadd hx hb dL_law_344 ?_
  refine gz_sld hx hb hscr hbl hbA hS (5 * t + 3) (by omega) (by omega) (by omega) dL_law_345 ?_
  rw [hq3]
  refine lv_aload_n hx hb dL_law_346 rfl (lv_at hl 2 rfl) ?_
  refine lv_iload hx hb dL_law_347 (lv_at hl 1 rfl) ?_
  refine lv_iconst (v := zI 4) hx hb dL_law_349 rfl ?_
  refine gz_iadd hx hb dL_law_350 ?_
  refine gz_sld hx hb hscr hbl hbA hS (5 * t + 4) (by omega) (by omega) (by omega) dL_law_351 ?_
  rw [hq4]
  refine g_goi (vx_runV (As := [.int (zI z), .int (zI z2), .int (zI p1), .int (zI l1)]) (rest := []) ⟨hx, hb, hml, hown, hts⟩ (m_correct_e2 l G B S th ct H_322 hM1 hI z i hz hi hk z2 hz20 p1 l1 hp0 hl0 hk2) (cwV 4 hts gL_law_X5_correct rfl rfl rfl hd_X5_correct ⟨(Nat.le_of_ble_eq_true rfl), (Nat.le_of_ble_eq_true rfl)⟩) (g_preV hX hS (ci := 5) rfl hM1.1) rfl rfl hl.1 rfl (lv_room (Nat.le_of_ble_eq_true rfl)) dL_law_352 (⟨by show _ ≤ 601024; omega, by show _ ≤ 7293034; omega⟩)) hS (fun r_352 H_352 locs hp hS => ?_)
  obtain ⟨rfl, hMP⟩ := hp
  have hLI2 := LI.fin hI2 hLI hLX hLU hMP
  obtain ⟨⟨ct2, hM2⟩, hKP2⟩ := id hMP
  refine lv_istore (lv' := [(6, .int (zI 0)), (5, .int (zI 1)), (4, .int (zI y)), (0, .ref b), (1, .ref (A 0)), (2, .ref (B 0)), (3, .ref o)]) hx hb dL_law_355 hl (by decide) rfl (fun ls hl => ?_)
  refine lv_aload_n hx hb dL_law_357 rfl (lv_at hl 5 rfl) ?_
  refine g_goi (vx_runV (As := []) (rest := []) ⟨hx, hb, hml, hown, hts⟩ (m_thrown l G B S 1 ct2 H_352 hM2) (cwV 0 hts gL_law_X5_thrown rfl rfl rfl hd_X5_thrown ⟨(Nat.le_of_ble_eq_true rfl), (Nat.le_of_ble_eq_true rfl)⟩) (g_preV hX hS (ci := 5) rfl hM2.1) rfl rfl hl.1 rfl (lv_room (Nat.le_of_ble_eq_true rfl)) dL_law_358 (⟨by show _ ≤ 601024; omega, by show _ ≤ 7293034; omega⟩)) hS (fun r_358 H_358 locs hp hS => ?_)
  obtain ⟨rfl, rfl⟩ := hp
  refine lv_iload hx hb dL_law_361 (lv_at hl 1 rfl) ?_
  refine gz_icmp_eq (tgt := 368) hx hb (by decide) (by decide) dL_law_363 (by decide) (fun c_363 => ?_) (fun c_363 => ?_)
  · refine lv_iload hx hb dL_law_368 (lv_at hl 1 rfl) ?_
    refine gz_if_ne (tgt := 385) hx hb (by decide) dL_law_370 (by decide) (fun c_370 => ?_) (fun c_370 => ?_)
    · refine lv_goto (tgt := 1362) hx hb dL_law_385 (by decide) ?_
      refine W.widen (k := cells + 12) (n := slots + 900) (by omega) (by omega) ?_
      exact kk TA S 1 H_352 locs ls hLI2 hS (lv_sub hl [2, 3, 4, 5, 6] rfl)
    · omega
  · omega
set_option maxHeartbeats 4000000 in
set_option maxRecDepth 100000 in
theorem s_correct_e3 (l : Launch) (hlf : l.stackTraces = false) (G : gG) {p : Program} {e : Env} {s : State} {m : MethodId} {below : List Frame} {meth : Method} {c : Code} {b L : Nat} {xs : Nat → Int32} (F : lwF p s m c G b L xs) (A : Nat → Nat) (TA : Nat → Nat → Nat) (B : Nat → Nat) (S : cS) (o : Nat) (th : Int) (H : Heap) (locs : List Loc) (cells slots : Nat) (hLI : LI G A TA B o S th H) (hS : va_S (gA G) s.heap H locs) (t : Nat) (htL : 5 * t + 5 ≤ L) (y : Int) (hy : y = (5 * t : Nat)) (ls : Array Slot) (hl : lv_has ls 7 [(4, .int (zI y)), (0, .ref b), (1, .ref (A 0)), (2, .ref (B 0)), (3, .ref o)]) (hcl : cells + 12 ≤ 601024) (hsl : slots + 900 ≤ 7293034) (Q : State → Prop) (kk : lwK l G p e s m below meth c b A B o y cells slots Q) (z : Int) (i : Nat) (hz : z = i) (hi : i < sn S) (hk : srt S i = false) (z2 : Int) (hz20 : rI z2) (p1 : Int) (l1 : Int) (hp0 : rI p1) (hl0 : rI l1) (hk2 : 0 ≤ z2 ∧ z2 < stn S i) (hN : ¬ isN p1 l1) (hq1 : xs (5 * t + 1) = zI z) (hq2 : xs (5 * t + 2) = zI z2) (hq3 : xs (5 * t + 3) = zI p1) (hq4 : xs (5 * t + 4) = zI l1) : W p l e room_1 s m #[Value.ref b] below meth c H locs cells slots Q (F0 m 296 ls []) := by
  obtain ⟨hx, hb, hml, hts, hown, hX, hscr, hbl, hgb, hL25⟩ := F
  obtain ⟨hI, ⟨W9, hC⟩, ⟨ct, hM⟩, ho0, go, d1, d2, d3⟩ := id hLI
  have hbA : ¬ gA G b := fun z => by have z : gB G ≤ b := z; omega
  have hI2 : sInv S := hI
  refine lv_aload_n hx hb dL_law_296 rfl (lv_at hl 2 rfl) ?_
  refine lv_aload_n hx hb dL_law_297 rfl (lv_at hl 1 rfl) ?_
  refine lv_iload hx hb dL_law_298 (lv_at hl 0 rfl) ?_
  refine lv_iconst (v := zI 1) hx hb dL_law_300 rfl ?_
  refine gz_iadd hx hb dL_law_301 ?_
  refine gz_sld hx hb hscr hbl hbA hS (5 * t + 1) (by omega) (by omega) (by omega) dL_law_302 ?_
  rw [hq1]
  refine lv_aload_n hx hb dL_law_303 rfl (lv_at hl 1 rfl) ?_
  refine lv_iload hx hb dL_law_304 (lv_at hl 0 rfl) ?_
  refine lv_iconst (v := zI 2) hx hb dL_law_306 rfl ?_
  refine gz_iadd hx hb dL_law_307 ?_
  refine gz_sld hx hb hscr hbl hbA hS (5 * t + 2) (by omega) (by omega) (by omega) dL_law_308 ?_
  rw [hq2]
  refine lv_aload_n hx hb dL_law_309 rfl (lv_at hl 1 rfl) ?_
  refine lv_iload hx hb dL_law_310 (lv_at hl 0 rfl) ?_
  refine lv_iconst (v := zI 3) hx hb dL_law_312 rfl ?_
  refine gz_iadd hx hb dL_law_313 ?_
  refine gz_sld hx hb hscr hbl hbA hS (5 * t + 3) (by omega) (by omega) (by omega) dL_law_314 ?_
  rw [hq3]
  refine lv_aload_n hx hb dL_law_315 rfl (lv_at hl 1 rfl) ?_
  refine lv_iload hx hb dL_law_316 (lv_at hl 0 rfl) ?_
  refine lv_iconst (v := zI 4) hx hb dL_law_318 rfl ?_
  refine gz_iadd hx hb dL_law_319 ?_
  refine gz_sld hx hb hscr hbl hbA hS (5 * t + 4) (by omega) (by omega) (by omega) dL_law_320 ?_
  rw [hq4]
  refine lv_aload_n hx hb dL_law_321 rfl (lv_at hl 4 rfl) ?_
  refine g_goi (vx_runSX (As := [.ref (A 0), .int (zI z), .int (zI z2), .int (zI p1), .int (zI l1), .ref o]) (rest := []) ⟨hx, hb, hml, hown, hts⟩ (w_correct_e3 l G hlf A TA S W9 H hC hI z i hz hi hk z2 p1 l1 hz20 hp0 hl0 hk2 hN o ho0 go d2) (vx_cwSW 6 hts gL_law_L_correct rfl rfl rfl hd_L_correct.2 ⟨(Nat.le_of_ble_eq_true rfl), (Nat.le_of_ble_eq_true rfl)⟩) (g_pre hX hS) rfl rfl hl.1 rfl (lv_room (Nat.le_of_ble_eq_true rfl)) dL_law_322 (⟨by show _ ≤ 601024; omega, by show _ ≤ 7293034; omega⟩)) hS (fun r_322 H_322 locs hp hS => ?_)
  obtain ⟨rfl, hLX, hLU⟩ := hp
  have hM1 := LI.mid hM hLX d1 d3
  refine lv_istore (lv' := [(5, .int (zI 2)), (4, .int (zI y)), (0, .ref b), (1, .ref (A 0)), (2, .ref (B 0)), (3, .ref o)]) hx hb dL_law_325 hl (by decide) rfl (fun ls hl => ?_)
  refine lv_aload_n hx hb dL_law_327 rfl (lv_at hl 4 rfl) ?_
  refine lv_aload_n hx hb dL_law_328 rfl (lv_at hl 2 rfl) ?_
  refine lv_iload hx hb dL_law_329 (lv_at hl 1 rfl) ?_
  refine lv_iconst (v := zI 1) hx hb dL_law_331 rfl ?_
  refine gz_iadd hx hb dL_law_332 ?_
  refine gz_sld hx hb hscr hbl hbA hS (5 * t + 1) (by omega) (by omega) (by omega) dL_law_333 ?_
  rw [hq1]
  refine lv_aload_n hx hb dL_law_334 rfl (lv_at hl 2 rfl) ?_
  refine lv_iload hx hb dL_law_335 (lv_at hl 1 rfl) ?_
  refine lv_iconst (v := zI 2) hx hb dL_law_337 rfl ?_
  refine gz_iadd hx hb dL_law_338 ?_
  refine gz_sld hx hb hscr hbl hbA hS (5 * t + 2) (by omega) (by omega) (by omega) dL_law_339 ?_
  rw [hq2]
  refine lv_aload_n hx hb dL_law_340 rfl (lv_at hl 2 rfl) ?_
  refine lv_iload hx hb dL_law_341 (lv_at hl 1 rfl) ?_
  refine lv_iconst (v := zI 3) hx hb dL_law_343 rfl ?_
  refine gz_iadd hx hb dL_law_344 ?_
  refine gz_sld hx hb hscr hbl hbA hS (5 * t + 3) (by omega) (by omega) (by omega) dL_law_345 ?_
  rw [hq3]
  refine lv_aload_n hx hb dL_law_346 rfl (lv_at hl 2 rfl) ?_
  refine lv_iload hx hb dL_law_347 (lv_at hl 1 rfl) ?_
  refine lv_iconst (v := zI 4) hx hb dL_law_349 rfl ?_
  refine gz_iadd hx hb dL_law_350 ?_
  refine gz_sld hx hb hscr hbl hbA hS (5 * t + 4) (by omega) (by omega) (by omega) dL_law_351 ?_
  rw [hq4]
  refine g_goi (vx_runV (As := [.int (zI z), .int (zI z2), .int (zI p1), .int (zI l1)]) (rest := []) ⟨hx, hb, hml, hown, hts⟩ (m_correct_e3 l G B S th ct H_322 hM1 hI z i hz hi hk z2 hz20 p1 l1 hp0 hl0 hk2 hN) (cwV 4 hts gL_law_X5_correct rfl rfl rfl hd_X5_correct ⟨(Nat.le_of_ble_eq_true rfl), (Nat.le_of_ble_eq_true rfl)⟩) (g_preV hX hS (ci := 5) rfl hM1.1) rfl rfl hl.1 rfl (lv_room (Nat.le_of_ble_eq_true rfl)) dL_law_352 (⟨by show _ ≤ 601024; omega, by show _ ≤ 7293034; omega⟩)) hS (fun r_352 H_352 locs hp hS => ?_)
  obtain ⟨rfl, hMP⟩ := hp
  have hLI2 := LI.fin hI2 hLI hLX hLU hMP
  obtain ⟨⟨ct2, hM2⟩, hKP2⟩ := id hMP
  refine lv_istore (lv' := [(6, .int (zI 0)), (5, .int (zI 2)), (4, .int (zI y)), (0, .ref b), (1, .ref (A 0)), (2, .ref (B 0)), (3, .ref o)]) hx hb dL_law_355 hl (by decide) rfl (fun ls hl => ?_)
  refine lv_aload_n hx hb dL_law_357 rfl (lv_at hl 5 rfl) ?_
  refine g_goi (vx_runV (As := []) (rest := []) ⟨hx, hb, hml, hown, hts⟩ (m_thrown l G B S 2 ct2 H_352 hM2) (cwV 0 hts gL_law_X5_thrown rfl rfl rfl hd_X5_thrown ⟨(Nat.le_of_ble_eq_true rfl), (Nat.le_of_ble_eq_true rfl)⟩) (g_preV hX hS (ci := 5) rfl hM2.1) rfl rfl hl.1 rfl (lv_room (Nat.le_of_ble_eq_true rfl)) dL_law_358 (⟨by show _ ≤ 601024; omega, by show _ ≤ 7293034; omega⟩)) hS (fun r_358 H_358 locs hp hS => ?_)
  obtain ⟨rfl, rfl⟩ := hp
  refine lv_iload hx hb dL_law_361 (lv_at hl 1 rfl) ?_
  refine gz_icmp_eq (tgt := 368) hx hb (by decide) (by decide) dL_law_363 (by decide) (fun c_363 => ?_) (fun c_363 => ?_)
  · refine lv_iload hx hb dL_law_368 (lv_at hl 1 rfl) ?_
    refine gz_if_ne (tgt := 385) hx hb (by decide) dL_law_370 (by decide) (fun c_370 => ?_) (fun c_370 => ?_)
    · refine lv_goto (tgt := 1362) hx hb dL_law_385 (by decide) ?_
      refine W.widen (k := cells + 12) (n := slots + 900) (by omega) (by omega) ?_
      exact kk TA S 2 H_352 locs ls hLI2 hS (lv_sub hl [2, 3, 4, 5, 6] rfl)
    · omega
  · omega
set_option maxHeartbeats 4000000 in
set_option maxRecDepth 100000 in
theorem s_shift_ok (l : Launch) (hlf : l.stackTraces = false) (G : gG) {p : Program} {e : Env} {s : State} {m : MethodId} {below : List Frame} {meth : Method} {c : Code} {b L : Nat} {xs : Nat → Int32} (F : lwF p s m c G b L xs) (A : Nat → Nat) (TA : Nat → Nat → Nat) (B : Nat → Nat) (S : cS) (o : Nat) (th : Int) (H : Heap) (locs : List Loc) (cells slots : Nat) (hLI : LI G A TA B o S th H) (hS : va_S (gA G) s.heap H locs) (t : Nat) (htL : 5 * t + 5 ≤ L) (y : Int) (hy : y = (5 * t : Nat)) (ls : Array Slot) (hl : lv_has ls 7 [(4, .int (zI y)), (0, .ref b), (1, .ref (A 0)), (2, .ref (B 0)), (3, .ref o)]) (hcl : cells + 12 ≤ 601024) (hsl : slots + 900 ≤ 7293034) (Q : State → Prop) (kk : lwK l G p e s m below meth c b A B o y cells slots Q) (z : Int) (i : Nat) (hz : z = i) (hi : i < sn S) (hk : srt S i = false) (d : Int) (hd0 : rI d) (hd : -60 ≤ d ∧ d ≤ 60) (hall : ∀ k, k < stn S i → 0 ≤ stp S i k + d ∧ stp S i k + d ≤ 60) (hq1 : xs (5 * t + 1) = zI z) (hq2 : xs (5 * t + 2) = zI d) : W p l e room_1 s m #[Value.ref b] below meth c H locs cells slots Q (F0 m 388 ls []) := by
  obtain ⟨hx, hb, hml, hts, hown, hX, hscr, hbl, hgb, hL25⟩ := F
  obtain ⟨hI, ⟨W9, hC⟩, ⟨ct, hM⟩, ho0, go, d1, d2, d3⟩ := id hLI
  have hbA : ¬ gA G b := fun z => by have z : gB G ≤ b := z; omega
  have hI2 : sInv (sShift S i d) := sI_shift hI hi hall
  refine lv_aload_n hx hb dL_law_388 rfl (lv_at hl 2 rfl) ?_
  refine lv_aload_n hx hb dL_law_389 rfl (lv_at hl 1 rfl) ?_
  refine lv_iload hx hb dL_law_390 (lv_at hl 0 rfl) ?_
  refine lv_iconst (v := zI 1) hx hb dL_law_392 rfl ?_
  refine gz_iadd hx hb dL_law_393 ?_
  refine gz_sld hx hb hscr hbl hbA hS (5 * t + 1) (by omega) (by omega) (by omega) dL_law_394 ?_
  rw [hq1]
  refine lv_aload_n hx hb dL_law_395 rfl (lv_at hl 1 rfl) ?_
  refine lv_iload hx hb dL_law_396 (lv_at hl 0 rfl) ?_
  refine lv_iconst (v := zI 2) hx hb dL_law_398 rfl ?_
  refine gz_iadd hx hb dL_law_399 ?_
  refine gz_sld hx hb hscr hbl hbA hS (5 * t + 2) (by omega) (by omega) (by omega) dL_law_400 ?_
  rw [hq2]
  refine g_goi (vx_runSX (As := [.ref (A 0), .int (zI z), .int (zI d)]) (rest := []) ⟨hx, hb, hml, hown, hts⟩ (w_shift_ok l G A TA S W9 H hC hI z i hz hi hk d hd0 hd hall o ho0 go d2) (vx_cwSW 3 hts gL_law_L_shift rfl rfl rfl hd_L_shift.2 ⟨(Nat.le_of_ble_eq_true rfl), (Nat.le_of_ble_eq_true rfl)⟩) (g_pre hX hS) rfl rfl hl.1 rfl (lv_room (Nat.le_of_ble_eq_true rfl)) dL_law_401 (⟨by show _ ≤ 601024; omega, by show _ ≤ 7293034; omega⟩)) hS (fun r_401 H_401 locs hp hS => ?_)
  obtain ⟨rfl, hLX, hLU⟩ := hp
  have hM1 := LI.mid hM hLX d1 d3
  refine lv_istore (lv' := [(5, .int (zI 0)), (4, .int (zI y)), (0, .ref b), (1, .ref (A 0)), (2, .ref (B 0)), (3, .ref o)]) hx hb dL_law_404 hl (by decide) rfl (fun ls hl => ?_)
  refine lv_aload_n hx hb dL_law_406 rfl (lv_at hl 4 rfl) ?_
  refine lv_aload_n hx hb dL_law_407 rfl (lv_at hl 2 rfl) ?_
  refine lv_iload hx hb dL_law_408 (lv_at hl 1 rfl) ?_
  refine lv_iconst (v := zI 1) hx hb dL_law_410 rfl ?_
  refine gz_iadd hx hb dL_law_411 ?_
  refine gz_sld hx hb hscr hbl hbA hS (5 * t + 1) (by omega) (by omega) (by omega) dL_law_412 ?_
  rw [hq1]
  refine lv_aload_n hx hb dL_law_413 rfl (lv_at hl 2 rfl) ?_
  refine lv_iload hx hb dL_law_414 (lv_at hl 1 rfl) ?_
  refine lv_iconst (v := zI 2) hx hb dL_law_416 rfl ?_
  refine gz_iadd hx hb dL_law_417 ?_
  refine gz_sld hx hb hscr hbl hbA hS (5 * t + 2) (by omega) (by omega) (by omega) dL_law_418 ?_
  rw [hq2]
  refine g_gov (vx_runV (As := [.int (zI z), .int (zI d)]) (rest := []) ⟨hx, hb, hml, hown, hts⟩ (m_shift_ok l G B S th ct H_401 hM1 hI z i hz hi hk d hd0 hd hall) (cwV 2 hts gL_law_X5_shift rfl rfl rfl hd_X5_shift ⟨(Nat.le_of_ble_eq_true rfl), (Nat.le_of_ble_eq_true rfl)⟩) (g_preV hX hS (ci := 5) rfl hM1.1) rfl rfl hl.1 rfl (lv_room (Nat.le_of_ble_eq_true rfl)) dL_law_419 (⟨by show _ ≤ 601024; omega, by show _ ≤ 7293034; omega⟩)) hS (fun H_419 locs hp hS => ?_)
  have hMP := hp
  have hLI2 := LI.fin hI2 hLI hLX hLU hMP
  obtain ⟨⟨ct2, hM2⟩, hKP2⟩ := id hMP
  refine lv_aload_n hx hb dL_law_422 rfl (lv_at hl 4 rfl) ?_
  refine g_goi (vx_runV (As := []) (rest := []) ⟨hx, hb, hml, hown, hts⟩ (m_thrown l G B (sShift S i d) 0 ct2 H_419 hM2) (cwV 0 hts gL_law_X5_thrown rfl rfl rfl hd_X5_thrown ⟨(Nat.le_of_ble_eq_true rfl), (Nat.le_of_ble_eq_true rfl)⟩) (g_preV hX hS (ci := 5) rfl hM2.1) rfl rfl hl.1 rfl (lv_room (Nat.le_of_ble_eq_true rfl)) dL_law_423 (⟨by show _ ≤ 601024; omega, by show _ ≤ 7293034; omega⟩)) hS (fun r_423 H_423 locs hp hS => ?_)
  obtain ⟨rfl, rfl⟩ := hp
  refine lv_iload hx hb dL_law_426 (lv_at hl 0 rfl) ?_
  refine gz_icmp_eq (tgt := 433) hx hb (by decide) (by decide) dL_law_428 (by decide) (fun c_428 => ?_) (fun c_428 => ?_)
  · refine lv_goto (tgt := 1362) hx hb dL_law_433 (by decide) ?_
    refine W.widen (k := cells + 12) (n := slots + 900) (by omega) (by omega) ?_
    exact kk TA (sShift S i d) 0 H_419 locs ls hLI2 hS (lv_sub hl [1, 2, 3, 4, 5] rfl)
  · omega
set_option maxHeartbeats 4000000 in
set_option maxRecDepth 100000 in
theorem s_shift_e1 (l : Launch) (hlf : l.stackTraces = false) (G : gG) {p : Program} {e : Env} {s : State} {m : MethodId} {below : List Frame} {meth : Method} {c : Code} {b L : Nat} {xs : Nat → Int32} (F : lwF p s m c G b L xs) (A : Nat → Nat) (TA : Nat → Nat → Nat) (B : Nat → Nat) (S : cS) (o : Nat) (th : Int) (H : Heap) (locs : List Loc) (cells slots : Nat) (hLI : LI G A TA B o S th H) (hS : va_S (gA G) s.heap H locs) (t : Nat) (htL : 5 * t + 5 ≤ L) (y : Int) (hy : y = (5 * t : Nat)) (ls : Array Slot) (hl : lv_has ls 7 [(4, .int (zI y)), (0, .ref b), (1, .ref (A 0)), (2, .ref (B 0)), (3, .ref o)]) (hcl : cells + 12 ≤ 601024) (hsl : slots + 900 ≤ 7293034) (Q : State → Prop) (kk : lwK l G p e s m below meth c b A B o y cells slots Q) (z : Int) (hz : rI z) (hi : ¬ kwn S z) (d : Int) (hq1 : xs (5 * t + 1) = zI z) (hq2 : xs (5 * t + 2) = zI d) : W p l e room_1 s m #[Value.ref b] below meth c H locs cells slots Q (F0 m 388 ls []) := by
  obtain ⟨hx, hb, hml, hts, hown, hX, hscr, hbl, hgb, hL25⟩ := F
  obtain ⟨hI, ⟨W9, hC⟩, ⟨ct, hM⟩, ho0, go, d1, d2, d3⟩ := id hLI
  have hbA : ¬ gA G b := fun z => by have z : gB G ≤ b := z; omega
  have hI2 : sInv S := hI
  refine lv_aload_n hx hb dL_law_388 rfl (lv_at hl 2 rfl) ?_
  refine lv_aload_n hx hb dL_law_389 rfl (lv_at hl 1 rfl) ?_
  refine lv_iload hx hb dL_law_390 (lv_at hl 0 rfl) ?_
  refine lv_iconst (v := zI 1) hx hb dL_law_392 rfl ?_
  refine gz_iadd hx hb dL_law_393 ?_
  refine gz_sld hx hb hscr hbl hbA hS (5 * t + 1) (by omega) (by omega) (by omega) dL_law_394 ?_
  rw [hq1]
  refine lv_aload_n hx hb dL_law_395 rfl (lv_at hl 1 rfl) ?_
  refine lv_iload hx hb dL_law_396 (lv_at hl 0 rfl) ?_
  refine lv_iconst (v := zI 2) hx hb dL_law_398 rfl ?_
  refine gz_iadd hx hb dL_law_399 ?_
  refine gz_sld hx hb hscr hbl hbA hS (5 * t + 2) (by omega) (by omega) (by omega) dL_law_400 ?_
  rw [hq2]
  refine g_goi (vx_runSX (As := [.ref (A 0), .int (zI z), .int (zI d)]) (rest := []) ⟨hx, hb, hml, hown, hts⟩ (w_shift_e1 l G hlf A TA S W9 H hC hI z hz hi d o ho0 go d2) (vx_cwSW 3 hts gL_law_L_shift rfl rfl rfl hd_L_shift.2 ⟨(Nat.le_of_ble_eq_true rfl), (Nat.le_of_ble_eq_true rfl)⟩) (g_pre hX hS) rfl rfl hl.1 rfl (lv_room (Nat.le_of_ble_eq_true rfl)) dL_law_401 (⟨by show _ ≤ 601024; omega, by show _ ≤ 7293034; omega⟩)) hS (fun r_401 H_401 locs hp hS => ?_)
  obtain ⟨rfl, hLX, hLU⟩ := hp
  have hM1 := LI.mid hM hLX d1 d3
  refine lv_istore (lv' := [(5, .int (zI 1)), (4, .int (zI y)), (0, .ref b), (1, .ref (A 0)), (2, .ref (B 0)), (3, .ref o)]) hx hb dL_law_404 hl (by decide) rfl (fun ls hl => ?_)
  refine lv_aload_n hx hb dL_law_406 rfl (lv_at hl 4 rfl) ?_
  refine lv_aload_n hx hb dL_law_407 rfl (lv_at hl 2 rfl) ?_
  refine lv_iload hx hb dL_law_408 (lv_at hl 1 rfl) ?_
  refine lv_iconst (v := zI 1) hx hb dL_law_410 rfl ?_
  refine gz_iadd hx hb dL_law_411 ?_
  refine gz_sld hx hb hscr hbl hbA hS (5 * t + 1) (by omega) (by omega) (by omega) dL_law_412 ?_
  rw [hq1]
  refine lv_aload_n hx hb dL_law_413 rfl (lv_at hl 2 rfl) ?_
  refine lv_iload hx hb dL_law_414 (lv_at hl 1 rfl) ?_
  refine lv_iconst (v := zI 2) hx hb dL_law_416 rfl ?_
  refine gz_iadd hx hb dL_law_417 ?_
  refine gz_sld hx hb hscr hbl hbA hS (5 * t + 2) (by omega) (by omega) (by omega) dL_law_418 ?_
  rw [hq2]
  refine g_gov (vx_runV (As := [.int (zI z), .int (zI d)]) (rest := []) ⟨hx, hb, hml, hown, hts⟩ (m_shift_e1 l G B S th ct H_401 hM1 hI z hz hi d) (cwV 2 hts gL_law_X5_shift rfl rfl rfl hd_X5_shift ⟨(Nat.le_of_ble_eq_true rfl), (Nat.le_of_ble_eq_true rfl)⟩) (g_preV hX hS (ci := 5) rfl hM1.1) rfl rfl hl.1 rfl (lv_room (Nat.le_of_ble_eq_true rfl)) dL_law_419 (⟨by show _ ≤ 601024; omega, by show _ ≤ 7293034; omega⟩)) hS (fun H_419 locs hp hS => ?_)
  have hMP := hp
  have hLI2 := LI.fin hI2 hLI hLX hLU hMP
  obtain ⟨⟨ct2, hM2⟩, hKP2⟩ := id hMP
  refine lv_aload_n hx hb dL_law_422 rfl (lv_at hl 4 rfl) ?_
  refine g_goi (vx_runV (As := []) (rest := []) ⟨hx, hb, hml, hown, hts⟩ (m_thrown l G B S 1 ct2 H_419 hM2) (cwV 0 hts gL_law_X5_thrown rfl rfl rfl hd_X5_thrown ⟨(Nat.le_of_ble_eq_true rfl), (Nat.le_of_ble_eq_true rfl)⟩) (g_preV hX hS (ci := 5) rfl hM2.1) rfl rfl hl.1 rfl (lv_room (Nat.le_of_ble_eq_true rfl)) dL_law_423 (⟨by show _ ≤ 601024; omega, by show _ ≤ 7293034; omega⟩)) hS (fun r_423 H_423 locs hp hS => ?_)
  obtain ⟨rfl, rfl⟩ := hp
  refine lv_iload hx hb dL_law_426 (lv_at hl 0 rfl) ?_
  refine gz_icmp_eq (tgt := 433) hx hb (by decide) (by decide) dL_law_428 (by decide) (fun c_428 => ?_) (fun c_428 => ?_)
  · refine lv_goto (tgt := 1362) hx hb dL_law_433 (by decide) ?_
    refine W.widen (k := cells + 12) (n := slots + 900) (by omega) (by omega) ?_
    exact kk TA S 1 H_419 locs ls hLI2 hS (lv_sub hl [1, 2, 3, 4, 5] rfl)
  · omega
set_option maxHeartbeats 4000000 in
set_option maxRecDepth 100000 in
theorem s_shift_e2 (l : Launch) (hlf : l.stackTraces = false) (G : gG) {p : Program} {e : Env} {s : State} {m : MethodId} {below : List Frame} {meth : Method} {c : Code} {b L : Nat} {xs : Nat → Int32} (F : lwF p s m c G b L xs) (A : Nat → Nat) (TA : Nat → Nat → Nat) (B : Nat → Nat) (S : cS) (o : Nat) (th : Int) (H : Heap) (locs : List Loc) (cells slots : Nat) (hLI : LI G A TA B o S th H) (hS : va_S (gA G) s.heap H locs) (t : Nat) (htL : 5 * t + 5 ≤ L) (y : Int) (hy : y = (5 * t : Nat)) (ls : Array Slot) (hl : lv_has ls 7 [(4, .int (zI y)), (0, .ref b), (1, .ref (A 0)), (2, .ref (B 0)), (3, .ref o)]) (hcl : cells + 12 ≤ 601024) (hsl : slots + 900 ≤ 7293034) (Q : State → Prop) (kk : lwK l G p e s m below meth c b A B o y cells slots Q) (z : Int) (i : Nat) (hz : z = i) (hi : i < sn S) (hk : srt S i = false) (d : Int) (hd0 : rI d) (hd : ¬ (-60 ≤ d ∧ d ≤ 60)) (hq1 : xs (5 * t + 1) = zI z) (hq2 : xs (5 * t + 2) = zI d) : W p l e room_1 s m #[Value.ref b] below meth c H locs cells slots Q (F0 m 388 ls []) := by
  obtain ⟨hx, hb, hml, hts, hown, hX, hscr, hbl, hgb, hL25⟩ := F
  obtain ⟨hI, ⟨W9, hC⟩, ⟨ct, hM⟩, ho0, go, d1, d2, d3⟩ := id hLI
  have hbA : ¬ gA G b := fun z => by have z : gB G ≤ b := z; omega
  have hI2 : sInv S := hI
  refine lv_aload_n hx hb dL_law_388 rfl (lv_at hl 2 rfl) ?_
  refine lv_aload_n hx hb dL_law_389 rfl (lv_at hl 1 rfl) ?_
  refine lv_iload hx hb dL_law_390 (lv_at hl 0 rfl) ?_
  refine lv_iconst (v := zI 1) hx hb dL_law_392 rfl ?_
  refine gz_iadd hx hb dL_law_393 ?_
  refine gz_sld hx hb hscr hbl hbA hS (5 * t + 1) (by omega) (by omega) (by omega) dL_law_394 ?_
  rw [hq1]
  refine lv_aload_n hx hb dL_law_395 rfl (lv_at hl 1 rfl) ?_
  refine lv_iload hx hb dL_law_396 (lv_at hl 0 rfl) ?_
  refine lv_iconst (v := zI 2) hx hb dL_law_398 rfl ?_
  refine gz_iadd hx hb dL_law_399 ?_
  refine gz_sld hx hb hscr hbl hbA hS (5 * t + 2) (by omega) (by omega) (by omega) dL_law_400 ?_
  rw [hq2]
  refine g_goi (vx_runSX (As := [.ref (A 0), .int (zI z), .int (zI d)]) (rest := []) ⟨hx, hb, hml, hown, hts⟩ (w_shift_e2 l G hlf A TA S W9 H hC hI z i hz hi hk d hd0 hd o ho0 go d2) (vx_cwSW 3 hts gL_law_L_shift rfl rfl rfl hd_L_shift.2 ⟨(Nat.le_of_ble_eq_true rfl), (Nat.le_of_ble_eq_true rfl)⟩) (g_pre hX hS) rfl rfl hl.1 rfl (lv_room (Nat.le_of_ble_eq_true rfl)) dL_law_401 (⟨by show _ ≤ 601024; omega, by show _ ≤ 7293034; omega⟩)) hS (fun r_401 H_401 locs hp hS => ?_)
  obtain ⟨rfl, hLX, hLU⟩ := hp
  have hM1 := LI.mid hM hLX d1 d3
  refine lv_istore (lv' := [(5, .int (zI 2)), (4, .int (zI y)), (0, .ref b), (1, .ref (A 0)), (2, .ref (B 0)), (3, .ref o)]) hx hb dL_law_404 hl (by decide) rfl (fun ls hl => ?_)
  refine lv_aload_n hx hb dL_law_406 rfl (lv_at hl 4 rfl) ?_
  refine lv_aload_n hx hb dL_law_407 rfl (lv_at hl 2 rfl) ?_
  refine lv_iload hx hb dL_law_408 (lv_at hl 1 rfl) ?_
  refine lv_iconst (v := zI 1) hx hb dL_law_410 rfl ?_
  refine gz_iadd hx hb dL_law_411 ?_
  refine gz_sld hx hb hscr hbl hbA hS (5 * t + 1) (by omega) (by omega) (by omega) dL_law_412 ?_
  rw [hq1]
  refine lv_aload_n hx hb dL_law_413 rfl (lv_at hl 2 rfl) ?_
  refine lv_iload hx hb dL_law_414 (lv_at hl 1 rfl) ?_
  refine lv_iconst (v := zI 2) hx hb dL_law_416 rfl ?_
  refine gz_iadd hx hb dL_law_417 ?_
  refine gz_sld hx hb hscr hbl hbA hS (5 * t + 2) (by omega) (by omega) (by omega) dL_law_418 ?_
  rw [hq2]
  refine g_gov (vx_runV (As := [.int (zI z), .int (zI d)]) (rest := []) ⟨hx, hb, hml, hown, hts⟩ (m_shift_e2 l G B S th ct H_401 hM1 hI z i hz hi hk d hd0 hd) (cwV 2 hts gL_law_X5_shift rfl rfl rfl hd_X5_shift ⟨(Nat.le_of_ble_eq_true rfl), (Nat.le_of_ble_eq_true rfl)⟩) (g_preV hX hS (ci := 5) rfl hM1.1) rfl rfl hl.1 rfl (lv_room (Nat.le_of_ble_eq_true rfl)) dL_law_419 (⟨by show _ ≤ 601024; omega, by show _ ≤ 7293034; omega⟩)) hS (fun H_419 locs hp hS => ?_)
  have hMP := hp
  have hLI2 := LI.fin hI2 hLI hLX hLU hMP
  obtain ⟨⟨ct2, hM2⟩, hKP2⟩ := id hMP
  refine lv_aload_n hx hb dL_law_422 rfl (lv_at hl 4 rfl) ?_
  refine g_goi (vx_runV (As := []) (rest := []) ⟨hx, hb, hml, hown, hts⟩ (m_thrown l G B S 2 ct2 H_419 hM2) (cwV 0 hts gL_law_X5_thrown rfl rfl rfl hd_X5_thrown ⟨(Nat.le_of_ble_eq_true rfl), (Nat.le_of_ble_eq_true rfl)⟩) (g_preV hX hS (ci := 5) rfl hM2.1) rfl rfl hl.1 rfl (lv_room (Nat.le_of_ble_eq_true rfl)) dL_law_423 (⟨by show _ ≤ 601024; omega, by show _ ≤ 7293034; omega⟩)) hS (fun r_423 H_423 locs hp hS => ?_)
  obtain ⟨rfl, rfl⟩ := hp
  refine lv_iload hx hb dL_law_426 (lv_at hl 0 rfl) ?_
  refine gz_icmp_eq (tgt := 433) hx hb (by decide) (by decide) dL_law_428 (by decide) (fun c_428 => ?_) (fun c_428 => ?_)
  · refine lv_goto (tgt := 1362) hx hb dL_law_433 (by decide) ?_
    refine W.widen (k := cells + 12) (n := slots + 900) (by omega) (by omega) ?_
    exact kk TA S 2 H_419 locs ls hLI2 hS (lv_sub hl [1, 2, 3, 4, 5] rfl)
  · omega
set_option maxHeartbeats 4000000 in
set_option maxRecDepth 100000 in
theorem s_shift_e3 (l : Launch) (hlf : l.stackTraces = false) (G : gG) {p : Program} {e : Env} {s : State} {m : MethodId} {below : List Frame} {meth : Method} {c : Code} {b L : Nat} {xs : Nat → Int32} (F : lwF p s m c G b L xs) (A : Nat → Nat) (TA : Nat → Nat → Nat) (B : Nat → Nat) (S : cS) (o : Nat) (th : Int) (H : Heap) (locs : List Loc) (cells slots : Nat) (hLI : LI G A TA B o S th H) (hS : va_S (gA G) s.heap H locs) (t : Nat) (htL : 5 * t + 5 ≤ L) (y : Int) (hy : y = (5 * t : Nat)) (ls : Array Slot) (hl : lv_has ls 7 [(4, .int (zI y)), (0, .ref b), (1, .ref (A 0)), (2, .ref (B 0)), (3, .ref o)]) (hcl : cells + 12 ≤ 601024) (hsl : slots + 900 ≤ 7293034) (Q : State → Prop) (kk : lwK l G p e s m below meth c b A B o y cells slots Q) (z : Int) (i : Nat) (hz : z = i) (hi : i < sn S) (hk : srt S i = false) (d : Int) (hd0 : rI d) (hd : -60 ≤ d ∧ d ≤ 60) (q0 : Nat) (hq0 : q0 < stn S i) (hbad : ¬ (0 ≤ stp S i q0 + d ∧ stp S i q0 + d ≤ 60)) (hq1 : xs (5 * t + 1) = zI z) (hq2 : xs (5 * t + 2) = zI d) : W p l e room_1 s m #[Value.ref b] below meth c H locs cells slots Q (F0 m 388 ls []) := by
  obtain ⟨hx, hb, hml, hts, hown, hX, hscr, hbl, hgb, hL25⟩ := F
  obtain ⟨hI, ⟨W9, hC⟩, ⟨ct, hM⟩, ho0, go, d1, d2, d3⟩ := id hLI
  have hbA : ¬ gA G b := fun z => by have z : gB G ≤ b := z; omega
  have hI2 : sInv S := hI
  refine lv_aload_n hx hb dL_law_388 rfl (lv_at hl 2 rfl) ?_
  refine lv_aload_n hx hb dL_law_389 rfl (lv_at hl 1 rfl) ?_
  refine lv_iload hx hb dL_law_390 (lv_at hl 0 rfl) ?_
  refine lv_iconst (v := zI 1) hx hb dL_law_392 rfl ?_
  refine gz_iadd hx hb dL_law_393 ?_
  refine gz_sld hx hb hscr hbl hbA hS (5 * t + 1) (by omega) (by omega) (by omega) dL_law_394 ?_
  rw [hq1]
  refine lv_aload_n hx hb dL_law_395 rfl (lv_at hl 1 rfl) ?_
  refine lv_iload hx hb dL_law_396 (lv_at hl 0 rfl) ?_
  refine lv_iconst (v := zI 2) hx hb dL_law_398 rfl ?_
  refine gz_iadd hx hb dL_law_399 ?_
  refine gz_sld hx hb hscr hbl hbA hS (5 * t + 2) (by omega) (by omega) (by omega) dL_law_400 ?_
  rw [hq2]
  refine g_goi (vx_runSX (As := [.ref (A 0), .int (zI z), .int (zI d)]) (rest := []) ⟨hx, hb, hml, hown, hts⟩ (w_shift_e3 l G hlf A TA S W9 H hC hI z i hz hi hk d hd0 hd q0 hq0 hbad o ho0 go d2) (vx_cwSW 3 hts gL_law_L_shift rfl rfl rfl hd_L_shift.2 ⟨(Nat.le_of_ble_eq_true rfl), (Nat.le_of_ble_eq_true rfl)⟩) (g_pre hX hS) rfl rfl hl.1 rfl (lv_room (Nat.le_of_ble_eq_true rfl)) dL_law_401 (⟨by show _ ≤ 601024; omega, by show _ ≤ 7293034; omega⟩)) hS (fun r_401 H_401 locs hp hS => ?_)
  obtain ⟨rfl, hLX, hLU⟩ := hp
  have hM1 := LI.mid hM hLX d1 d3
  refine lv_istore (lv' := [(5, .int (zI 3)), (4, .int (zI y)), (0, .ref b), (1, .ref (A 0)), (2, .ref (B 0)), (3, .ref o)]) hx hb dL_law_404 hl (by decide) rfl (fun ls hl => ?_)
  refine lv_aload_n hx hb dL_law_406 rfl (lv_at hl 4 rfl) ?_
  refine lv_aload_n hx hb dL_law_407 rfl (lv_at hl 2 rfl) ?_
  refine lv_iload hx hb dL_law_408 (lv_at hl 1 rfl) ?_
  refine lv_iconst (v := zI 1) hx hb dL_law_410 rfl ?_
  refine gz_iadd hx hb dL_law_411 ?_
  refine gz_sld hx hb hscr hbl hbA hS (5 * t + 1) (by omega) (by omega) (by omega) dL_law_412 ?_
  rw [hq1]
  refine lv_aload_n hx hb dL_law_413 rfl (lv_at hl 2 rfl) ?_
  refine lv_iload hx hb dL_law_414 (lv_at hl 1 rfl) ?_
  refine lv_iconst (v := zI 2) hx hb dL_law_416 rfl ?_
  refine gz_iadd hx hb dL_law_417 ?_
  refine gz_sld hx hb hscr hbl hbA hS (5 * t + 2) (by omega) (by omega) (by omega) dL_law_418 ?_
  rw [hq2]
  refine g_gov (vx_runV (As := [.int (zI z), .int (zI d)]) (rest := []) ⟨hx, hb, hml, hown, hts⟩ (m_shift_e3 l G B S th ct H_401 hM1 hI z i hz hi hk d hd0 hd q0 hq0 hbad) (cwV 2 hts gL_law_X5_shift rfl rfl rfl hd_X5_shift ⟨(Nat.le_of_ble_eq_true rfl), (Nat.le_of_ble_eq_true rfl)⟩) (g_preV hX hS (ci := 5) rfl hM1.1) rfl rfl hl.1 rfl (lv_room (Nat.le_of_ble_eq_true rfl)) dL_law_419 (⟨by show _ ≤ 601024; omega, by show _ ≤ 7293034; omega⟩)) hS (fun H_419 locs hp hS => ?_)
  have hMP := hp
  have hLI2 := LI.fin hI2 hLI hLX hLU hMP
  obtain ⟨⟨ct2, hM2⟩, hKP2⟩ := id hMP
  refine lv_aload_n hx hb dL_law_422 rfl (lv_at hl 4 rfl) ?_
  refine g_goi (vx_runV (As := []) (rest := []) ⟨hx, hb, hml, hown, hts⟩ (m_thrown l G B S 3 ct2 H_419 hM2) (cwV 0 hts gL_law_X5_thrown rfl rfl rfl hd_X5_thrown ⟨(Nat.le_of_ble_eq_true rfl), (Nat.le_of_ble_eq_true rfl)⟩) (g_preV hX hS (ci := 5) rfl hM2.1) rfl rfl hl.1 rfl (lv_room (Nat.le_of_ble_eq_true rfl)) dL_law_423 (⟨by show _ ≤ 601024; omega, by show _ ≤ 7293034; omega⟩)) hS (fun r_423 H_423 locs hp hS => ?_)
  obtain ⟨rfl, rfl⟩ := hp
  refine lv_iload hx hb dL_law_426 (lv_at hl 0 rfl) ?_
  refine gz_icmp_eq (tgt := 433) hx hb (by decide) (by decide) dL_law_428 (by decide) (fun c_428 => ?_) (fun c_428 => ?_)
  · refine lv_goto (tgt := 1362) hx hb dL_law_433 (by decide) ?_
    refine W.widen (k := cells + 12) (n := slots + 900) (by omega) (by omega) ?_
    exact kk TA S 3 H_419 locs ls hLI2 hS (lv_sub hl [1, 2, 3, 4, 5] rfl)
  · omega
set_option maxHeartbeats 4000000 in
set_option maxRecDepth 100000 in
theorem s_retire_ok (l : Launch) (hlf : l.stackTraces = false) (G : gG) {p : Program} {e : Env} {s : State} {m : MethodId} {below : List Frame} {meth : Method} {c : Code} {b L : Nat} {xs : Nat → Int32} (F : lwF p s m c G b L xs) (A : Nat → Nat) (TA : Nat → Nat → Nat) (B : Nat → Nat) (S : cS) (o : Nat) (th : Int) (H : Heap) (locs : List Loc) (cells slots : Nat) (hLI : LI G A TA B o S th H) (hS : va_S (gA G) s.heap H locs) (t : Nat) (htL : 5 * t + 5 ≤ L) (y : Int) (hy : y = (5 * t : Nat)) (ls : Array Slot) (hl : lv_has ls 7 [(4, .int (zI y)), (0, .ref b), (1, .ref (A 0)), (2, .ref (B 0)), (3, .ref o)]) (hcl : cells + 12 ≤ 601024) (hsl : slots + 900 ≤ 7293034) (Q : State → Prop) (kk : lwK l G p e s m below meth c b A B o y cells slots Q) (z : Int) (i : Nat) (hz : z = i) (hi : i < sn S) (hk : srt S i = false) (hq1 : xs (5 * t + 1) = zI z) : W p l e room_1 s m #[Value.ref b] below meth c H locs cells slots Q (F0 m 436 ls []) := by
  obtain ⟨hx, hb, hml, hts, hown, hX, hscr, hbl, hgb, hL25⟩ := F
  obtain ⟨hI, ⟨W9, hC⟩, ⟨ct, hM⟩, ho0, go, d1, d2, d3⟩ := id hLI
  have hbA : ¬ gA G b := fun z => by have z : gB G ≤ b := z; omega
  have hI2 : sInv (sRet S i) := sI_ret hI hi
  refine lv_aload_n hx hb dL_law_436 rfl (lv_at hl 2 rfl) ?_
  refine lv_aload_n hx hb dL_law_437 rfl (lv_at hl 1 rfl) ?_
  refine lv_iload hx hb dL_law_438 (lv_at hl 0 rfl) ?_
  refine lv_iconst (v := zI 1) hx hb dL_law_440 rfl ?_
  refine gz_iadd hx hb dL_law_441 ?_
  refine gz_sld hx hb hscr hbl hbA hS (5 * t + 1) (by omega) (by omega) (by omega) dL_law_442 ?_
  rw [hq1]
  refine lv_aload_n hx hb dL_law_443 rfl (lv_at hl 4 rfl) ?_
  refine g_goi (vx_runSX (As := [.ref (A 0), .int (zI z), .ref o]) (rest := []) ⟨hx, hb, hml, hown, hts⟩ (w_retire_ok l G A TA S W9 H hC hI z i hz hi hk hI2 o ho0 go d2) (vx_cwSW 3 hts gL_law_L_retire rfl rfl rfl hd_L_retire.2 ⟨(Nat.le_of_ble_eq_true rfl), (Nat.le_of_ble_eq_true rfl)⟩) (g_pre hX hS) rfl rfl hl.1 rfl (lv_room (Nat.le_of_ble_eq_true rfl)) dL_law_444 (⟨by show _ ≤ 601024; omega, by show _ ≤ 7293034; omega⟩)) hS (fun r_444 H_444 locs hp hS => ?_)
  obtain ⟨rfl, hLX, hLO⟩ := hp
  have hLU := hLO.u
  have hM1 := LI.mid hM hLX d1 d3
  refine lv_istore (lv' := [(5, .int (zI 0)), (4, .int (zI y)), (0, .ref b), (1, .ref (A 0)), (2, .ref (B 0)), (3, .ref o)]) hx hb dL_law_447 hl (by decide) rfl (fun ls hl => ?_)
  refine lv_aload_n hx hb dL_law_449 rfl (lv_at hl 4 rfl) ?_
  refine lv_aload_n hx hb dL_law_450 rfl (lv_at hl 2 rfl) ?_
  refine lv_iload hx hb dL_law_451 (lv_at hl 1 rfl) ?_
  refine lv_iconst (v := zI 1) hx hb dL_law_453 rfl ?_
  refine gz_iadd hx hb dL_law_454 ?_
  refine gz_sld hx hb hscr hbl hbA hS (5 * t + 1) (by omega) (by omega) (by omega) dL_law_455 ?_
  rw [hq1]
  refine g_goi (vx_runV (As := [.int (zI z)]) (rest := []) ⟨hx, hb, hml, hown, hts⟩ (m_retire_ok l G B S th ct H_444 hM1 hI z i hz hi hk) (cwV 1 hts gL_law_X5_retire rfl rfl rfl hd_X5_retire ⟨(Nat.le_of_ble_eq_true rfl), (Nat.le_of_ble_eq_true rfl)⟩) (g_preV hX hS (ci := 5) rfl hM1.1) rfl rfl hl.1 rfl (lv_room (Nat.le_of_ble_eq_true rfl)) dL_law_456 (⟨by show _ ≤ 601024; omega, by show _ ≤ 7293034; omega⟩)) hS (fun r_456 H_456 locs hp hS => ?_)
  obtain ⟨rfl, hMP⟩ := hp
  have hLI2 := LI.fin hI2 hLI hLX hLU hMP
  obtain ⟨⟨ct2, hM2⟩, hKP2⟩ := id hMP
  obtain ⟨fo, ho, hfo⟩ := LO.mp hLO hMP d3
  refine lv_istore (lv' := [(6, .int (zI ((ctB (fun j => !(srt (sRet S i) j)) (sn S) : Nat) : Int))), (5, .int (zI 0)), (4, .int (zI y)), (0, .ref b), (1, .ref (A 0)), (2, .ref (B 0)), (3, .ref o)]) hx hb dL_law_459 hl (by decide) rfl (fun ls hl => ?_)
  refine lv_aload_n hx hb dL_law_461 rfl (lv_at hl 5 rfl) ?_
  refine g_goi (vx_runV (As := []) (rest := []) ⟨hx, hb, hml, hown, hts⟩ (m_thrown l G B (sRet S i) 0 ct2 H_456 hM2) (cwV 0 hts gL_law_X5_thrown rfl rfl rfl hd_X5_thrown ⟨(Nat.le_of_ble_eq_true rfl), (Nat.le_of_ble_eq_true rfl)⟩) (g_preV hX hS (ci := 5) rfl hM2.1) rfl rfl hl.1 rfl (lv_room (Nat.le_of_ble_eq_true rfl)) dL_law_462 (⟨by show _ ≤ 601024; omega, by show _ ≤ 7293034; omega⟩)) hS (fun r_462 H_462 locs hp hS => ?_)
  obtain ⟨rfl, rfl⟩ := hp
  refine lv_iload hx hb dL_law_465 (lv_at hl 1 rfl) ?_
  refine gz_icmp_eq (tgt := 472) hx hb (by decide) (by decide) dL_law_467 (by decide) (fun c_467 => ?_) (fun c_467 => ?_)
  · refine lv_iload hx hb dL_law_472 (lv_at hl 1 rfl) ?_
    refine gz_if_ne (tgt := 489) hx hb (by decide) dL_law_474 (by decide) (fun c_474 => ?_) (fun c_474 => ?_)
    · omega
    · refine lv_aload_n hx hb dL_law_477 rfl (lv_at hl 6 rfl) ?_
      refine lv_iconst (v := zI 0) hx hb dL_law_478 rfl ?_
      refine gz_lald hx hb hX ho 0 (by omega) (by omega) (by omega) dL_law_479 ?_
      rw [hfo]
      refine lv_iload hx hb dL_law_480 (lv_at hl 0 rfl) ?_
      refine lv_i2l hx hb dL_law_482 rfl ?_
      refine W.lcmp hx hb dL_law_483 ?_
      rw [lgc0]
      refine gz_if_eq (tgt := 489) hx hb (by decide) dL_law_484 (by decide) (fun c_484 => ?_) (fun c_484 => ?_)
      · refine lv_goto (tgt := 1362) hx hb dL_law_489 (by decide) ?_
        refine W.widen (k := cells + 12) (n := slots + 900) (by omega) (by omega) ?_
        exact kk TA (sRet S i) 0 H_456 locs ls hLI2 hS (lv_sub hl [2, 3, 4, 5, 6] rfl)
      · omega
  · omega
set_option maxHeartbeats 4000000 in
set_option maxRecDepth 100000 in
theorem s_retire_e1 (l : Launch) (hlf : l.stackTraces = false) (G : gG) {p : Program} {e : Env} {s : State} {m : MethodId} {below : List Frame} {meth : Method} {c : Code} {b L : Nat} {xs : Nat → Int32} (F : lwF p s m c G b L xs) (A : Nat → Nat) (TA : Nat → Nat → Nat) (B : Nat → Nat) (S : cS) (o : Nat) (th : Int) (H : Heap) (locs : List Loc) (cells slots : Nat) (hLI : LI G A TA B o S th H) (hS : va_S (gA G) s.heap H locs) (t : Nat) (htL : 5 * t + 5 ≤ L) (y : Int) (hy : y = (5 * t : Nat)) (ls : Array Slot) (hl : lv_has ls 7 [(4, .int (zI y)), (0, .ref b), (1, .ref (A 0)), (2, .ref (B 0)), (3, .ref o)]) (hcl : cells + 12 ≤ 601024) (hsl : slots + 900 ≤ 7293034) (Q : State → Prop) (kk : lwK l G p e s m below meth c b A B o y cells slots Q) (z : Int) (hz : rI z) (hi : ¬ kwn S z) (hq1 : xs (5 * t + 1) = zI z) : W p l e room_1 s m #[Value.ref b] below meth c H locs cells slots Q (F0 m 436 ls []) := by
  obtain ⟨hx, hb, hml, hts, hown, hX, hscr, hbl, hgb, hL25⟩ := F
  obtain ⟨hI, ⟨W9, hC⟩, ⟨ct, hM⟩, ho0, go, d1, d2, d3⟩ := id hLI
  have hbA : ¬ gA G b := fun z => by have z : gB G ≤ b := z; omega
  have hI2 : sInv S := hI
  refine lv_aload_n hx hb dL_law_436 rfl (lv_at hl 2 rfl) ?_
  refine lv_aload_n hx hb dL_law_437 rfl (lv_at hl 1 rfl) ?_
  refine lv_iload hx hb dL_law_438 (lv_at hl 0 rfl) ?_
  refine lv_iconst (v := zI 1) hx hb dL_law_440 rfl ?_
  refine gz_iadd hx hb dL_law_441 ?_
  refine gz_sld hx hb hscr hbl hbA hS (5 * t + 1) (by omega) (by omega) (by omega) dL_law_442 ?_
  rw [hq1]
  refine lv_aload_n hx hb dL_law_443 rfl (lv_at hl 4 rfl) ?_
  refine g_goi (vx_runSX (As := [.ref (A 0), .int (zI z), .ref o]) (rest := []) ⟨hx, hb, hml, hown, hts⟩ (w_retire_e1 l G hlf A TA S W9 H hC hI z hz hi o ho0 go d2) (vx_cwSW 3 hts gL_law_L_retire rfl rfl rfl hd_L_retire.2 ⟨(Nat.le_of_ble_eq_true rfl), (Nat.le_of_ble_eq_true rfl)⟩) (g_pre hX hS) rfl rfl hl.1 rfl (lv_room (Nat.le_of_ble_eq_true rfl)) dL_law_444 (⟨by show _ ≤ 601024; omega, by show _ ≤ 7293034; omega⟩)) hS (fun r_444 H_444 locs hp hS => ?_)
  obtain ⟨rfl, hLX, hLU⟩ := hp
  have hM1 := LI.mid hM hLX d1 d3
  refine lv_istore (lv' := [(5, .int (zI 1)), (4, .int (zI y)), (0, .ref b), (1, .ref (A 0)), (2, .ref (B 0)), (3, .ref o)]) hx hb dL_law_447 hl (by decide) rfl (fun ls hl => ?_)
  refine lv_aload_n hx hb dL_law_449 rfl (lv_at hl 4 rfl) ?_
  refine lv_aload_n hx hb dL_law_450 rfl (lv_at hl 2 rfl) ?_
  refine lv_iload hx hb dL_law_451 (lv_at hl 1 rfl) ?_
  refine lv_iconst (v := zI 1) hx hb dL_law_453 rfl ?_
  refine gz_iadd hx hb dL_law_454 ?_
  refine gz_sld hx hb hscr hbl hbA hS (5 * t + 1) (by omega) (by omega) (by omega) dL_law_455 ?_
  rw [hq1]
  refine g_goi (vx_runV (As := [.int (zI z)]) (rest := []) ⟨hx, hb, hml, hown, hts⟩ (m_retire_e1 l G B S th ct H_444 hM1 hI z hz hi) (cwV 1 hts gL_law_X5_retire rfl rfl rfl hd_X5_retire ⟨(Nat.le_of_ble_eq_true rfl), (Nat.le_of_ble_eq_true rfl)⟩) (g_preV hX hS (ci := 5) rfl hM1.1) rfl rfl hl.1 rfl (lv_room (Nat.le_of_ble_eq_true rfl)) dL_law_456 (⟨by show _ ≤ 601024; omega, by show _ ≤ 7293034; omega⟩)) hS (fun r_456 H_456 locs hp hS => ?_)
  obtain ⟨rfl, hMP⟩ := hp
  have hLI2 := LI.fin hI2 hLI hLX hLU hMP
  obtain ⟨⟨ct2, hM2⟩, hKP2⟩ := id hMP
  refine lv_istore (lv' := [(6, .int (zI 0)), (5, .int (zI 1)), (4, .int (zI y)), (0, .ref b), (1, .ref (A 0)), (2, .ref (B 0)), (3, .ref o)]) hx hb dL_law_459 hl (by decide) rfl (fun ls hl => ?_)
  refine lv_aload_n hx hb dL_law_461 rfl (lv_at hl 5 rfl) ?_
  refine g_goi (vx_runV (As := []) (rest := []) ⟨hx, hb, hml, hown, hts⟩ (m_thrown l G B S 1 ct2 H_456 hM2) (cwV 0 hts gL_law_X5_thrown rfl rfl rfl hd_X5_thrown ⟨(Nat.le_of_ble_eq_true rfl), (Nat.le_of_ble_eq_true rfl)⟩) (g_preV hX hS (ci := 5) rfl hM2.1) rfl rfl hl.1 rfl (lv_room (Nat.le_of_ble_eq_true rfl)) dL_law_462 (⟨by show _ ≤ 601024; omega, by show _ ≤ 7293034; omega⟩)) hS (fun r_462 H_462 locs hp hS => ?_)
  obtain ⟨rfl, rfl⟩ := hp
  refine lv_iload hx hb dL_law_465 (lv_at hl 1 rfl) ?_
  refine gz_icmp_eq (tgt := 472) hx hb (by decide) (by decide) dL_law_467 (by decide) (fun c_467 => ?_) (fun c_467 => ?_)
  · refine lv_iload hx hb dL_law_472 (lv_at hl 1 rfl) ?_
    refine gz_if_ne (tgt := 489) hx hb (by decide) dL_law_474 (by decide) (fun c_474 => ?_) (fun c_474 => ?_)
    · refine lv_goto (tgt := 1362) hx hb dL_law_489 (by decide) ?_
      refine W.widen (k := cells + 12) (n := slots + 900) (by omega) (by omega) ?_
      exact kk TA S 1 H_456 locs ls hLI2 hS (lv_sub hl [2, 3, 4, 5, 6] rfl)
    · omega
  · omega
set_option maxHeartbeats 4000000 in
set_option maxRecDepth 100000 in
theorem s_tunes_ok (l : Launch) (hlf : l.stackTraces = false) (G : gG) {p : Program} {e : Env} {s : State} {m : MethodId} {below : List Frame} {meth : Method} {c : Code} {b L : Nat} {xs : Nat → Int32} (F : lwF p s m c G b L xs) (A : Nat → Nat) (TA : Nat → Nat → Nat) (B : Nat → Nat) (S : cS) (o : Nat) (th : Int) (H : Heap) (locs : List Loc) (cells slots : Nat) (hLI : LI G A TA B o S th H) (hS : va_S (gA G) s.heap H locs) (t : Nat) (htL : 5 * t + 5 ≤ L) (y : Int) (hy : y = (5 * t : Nat)) (ls : Array Slot) (hl : lv_has ls 7 [(4, .int (zI y)), (0, .ref b), (1, .ref (A 0)), (2, .ref (B 0)), (3, .ref o)]) (hcl : cells + 12 ≤ 601024) (hsl : slots + 900 ≤ 7293034) (Q : State → Prop) (kk : lwK l G p e s m below meth c b A B o y cells slots Q)  : W p l e room_1 s m #[Value.ref b] below meth c H locs cells slots Q (F0 m 492 ls []) := by
  obtain ⟨hx, hb, hml, hts, hown, hX, hscr, hbl, hgb, hL25⟩ := F
  obtain ⟨hI, ⟨W9, hC⟩, ⟨ct, hM⟩, ho0, go, d1, d2, d3⟩ := id hLI
  have hbA : ¬ gA G b := fun z => by have z : gB G ≤ b := z; omega
  have hI2 : sInv S := hI
  refine lv_aload_n hx hb dL_law_492 rfl (lv_at hl 2 rfl) ?_
  refine g_goi (vx_runV (As := []) (rest := []) ⟨hx, hb, hml, hown, hts⟩ (x_tunes l G A TA S W9 H hC hI ) (cwV 0 hts gL_law_X4_tunes rfl rfl rfl hd_X4_tunes ⟨(Nat.le_of_ble_eq_true rfl), (Nat.le_of_ble_eq_true rfl)⟩) (g_preV hX hS (ci := 4) rfl hC.1) rfl rfl hl.1 rfl (lv_room (Nat.le_of_ble_eq_true rfl)) dL_law_493 (⟨by show _ ≤ 601024; omega, by show _ ≤ 7293034; omega⟩)) hS (fun r_493 H_493 locs hp hS => ?_)
  obtain ⟨rfl, rfl⟩ := hp
  have hLX := LX.same o hC
  have hLU := ho0
  have hM1 := LI.mid hM hLX d1 d3
  refine W.eq (g2 := F0 m 496 ls [.int (zI (sn S : Int))]) rfl ?_
  refine lv_aload_n hx hb dL_law_496 rfl (lv_at hl 3 rfl) ?_
  refine g_goi (vx_runV (As := []) (rest := [.int (zI (sn S : Int))]) ⟨hx, hb, hml, hown, hts⟩ (m_tunes l G B S th ct H hM1 hI ) (cwV 0 hts gL_law_X5_tunes rfl rfl rfl hd_X5_tunes ⟨(Nat.le_of_ble_eq_true rfl), (Nat.le_of_ble_eq_true rfl)⟩) (g_preV hX hS (ci := 5) rfl hM1.1) rfl rfl hl.1 rfl (lv_room (Nat.le_of_ble_eq_true rfl)) dL_law_497 (⟨by show _ ≤ 601024; omega, by show _ ≤ 7293034; omega⟩)) hS (fun r_497 H_497 locs hp hS => ?_)
  obtain ⟨rfl, hMP⟩ := hp
  have hLI2 := LI.fin hI2 hLI hLX hLU hMP
  obtain ⟨⟨ct2, hM2⟩, hKP2⟩ := id hMP
  refine lv_icmp_eq (tgt := 1362) hx hb dL_law_500 (by decide) (fun c_500 => ?_) (fun c_500 => ?_)
  · refine W.widen (k := cells + 12) (n := slots + 900) (by omega) (by omega) ?_
    exact kk TA S 0 H_497 locs ls hLI2 hS (lv_sub hl [0, 1, 2, 3, 4] rfl)
  · exact (c_500 rfl).elim
set_option maxHeartbeats 4000000 in
set_option maxRecDepth 100000 in
theorem s_notes_ok (l : Launch) (hlf : l.stackTraces = false) (G : gG) {p : Program} {e : Env} {s : State} {m : MethodId} {below : List Frame} {meth : Method} {c : Code} {b L : Nat} {xs : Nat → Int32} (F : lwF p s m c G b L xs) (A : Nat → Nat) (TA : Nat → Nat → Nat) (B : Nat → Nat) (S : cS) (o : Nat) (th : Int) (H : Heap) (locs : List Loc) (cells slots : Nat) (hLI : LI G A TA B o S th H) (hS : va_S (gA G) s.heap H locs) (t : Nat) (htL : 5 * t + 5 ≤ L) (y : Int) (hy : y = (5 * t : Nat)) (ls : Array Slot) (hl : lv_has ls 7 [(4, .int (zI y)), (0, .ref b), (1, .ref (A 0)), (2, .ref (B 0)), (3, .ref o)]) (hcl : cells + 12 ≤ 601024) (hsl : slots + 900 ≤ 7293034) (Q : State → Prop) (kk : lwK l G p e s m below meth c b A B o y cells slots Q) (z : Int) (i : Nat) (hz : z = i) (hi : i < sn S) (hq1 : xs (5 * t + 1) = zI z) : W p l e room_1 s m #[Value.ref b] below meth c H locs cells slots Q (F0 m 505 ls []) := by
  obtain ⟨hx, hb, hml, hts, hown, hX, hscr, hbl, hgb, hL25⟩ := F
  obtain ⟨hI, ⟨W9, hC⟩, ⟨ct, hM⟩, ho0, go, d1, d2, d3⟩ := id hLI
  have hbA : ¬ gA G b := fun z => by have z : gB G ≤ b := z; omega
  have hI2 : sInv S := hI
  refine lv_aload_n hx hb dL_law_505 rfl (lv_at hl 2 rfl) ?_
  refine lv_aload_n hx hb dL_law_506 rfl (lv_at hl 1 rfl) ?_
  refine lv_iload hx hb dL_law_507 (lv_at hl 0 rfl) ?_
  refine lv_iconst (v := zI 1) hx hb dL_law_509 rfl ?_
  refine gz_iadd hx hb dL_law_510 ?_
  refine gz_sld hx hb hscr hbl hbA hS (5 * t + 1) (by omega) (by omega) (by omega) dL_law_511 ?_
  rw [hq1]
  refine lv_aload_n hx hb dL_law_512 rfl (lv_at hl 4 rfl) ?_
  refine g_goi (vx_runSX (As := [.ref (A 0), .int (zI z), .ref o]) (rest := []) ⟨hx, hb, hml, hown, hts⟩ (w_notes_ok l G A TA S W9 H hC hI z i hz hi o ho0 go d2) (vx_cwSW 3 hts gL_law_L_notes rfl rfl rfl hd_L_notes.2 ⟨(Nat.le_of_ble_eq_true rfl), (Nat.le_of_ble_eq_true rfl)⟩) (g_pre hX hS) rfl rfl hl.1 rfl (lv_room (Nat.le_of_ble_eq_true rfl)) dL_law_513 (⟨by show _ ≤ 601024; omega, by show _ ≤ 7293034; omega⟩)) hS (fun r_513 H_513 locs hp hS => ?_)
  obtain ⟨rfl, hLX, hLO⟩ := hp
  have hLU := hLO.u
  have hM1 := LI.mid hM hLX d1 d3
  refine lv_istore (lv' := [(5, .int (zI 0)), (4, .int (zI y)), (0, .ref b), (1, .ref (A 0)), (2, .ref (B 0)), (3, .ref o)]) hx hb dL_law_516 hl (by decide) rfl (fun ls hl => ?_)
  refine lv_aload_n hx hb dL_law_518 rfl (lv_at hl 4 rfl) ?_
  refine lv_aload_n hx hb dL_law_519 rfl (lv_at hl 2 rfl) ?_
  refine lv_iload hx hb dL_law_520 (lv_at hl 1 rfl) ?_
  refine lv_iconst (v := zI 1) hx hb dL_law_522 rfl ?_
  refine gz_iadd hx hb dL_law_523 ?_
  refine gz_sld hx hb hscr hbl hbA hS (5 * t + 1) (by omega) (by omega) (by omega) dL_law_524 ?_
  rw [hq1]
  refine g_goi (vx_runV (As := [.int (zI z)]) (rest := []) ⟨hx, hb, hml, hown, hts⟩ (m_notes_ok l G B S th ct H_513 hM1 hI z i hz hi) (cwV 1 hts gL_law_X5_notes rfl rfl rfl hd_X5_notes ⟨(Nat.le_of_ble_eq_true rfl), (Nat.le_of_ble_eq_true rfl)⟩) (g_preV hX hS (ci := 5) rfl hM1.1) rfl rfl hl.1 rfl (lv_room (Nat.le_of_ble_eq_true rfl)) dL_law_525 (⟨by show _ ≤ 601024; omega, by show _ ≤ 7293034; omega⟩)) hS (fun r_525 H_525 locs hp hS => ?_)
  obtain ⟨rfl, hMP⟩ := hp
  have hLI2 := LI.fin hI2 hLI hLX hLU hMP
  obtain ⟨⟨ct2, hM2⟩, hKP2⟩ := id hMP
  obtain ⟨fo, ho, hfo⟩ := LO.mp hLO hMP d3
  refine lv_istore (lv' := [(6, .int (zI (stn S i : Int))), (5, .int (zI 0)), (4, .int (zI y)), (0, .ref b), (1, .ref (A 0)), (2, .ref (B 0)), (3, .ref o)]) hx hb dL_law_528 hl (by decide) rfl (fun ls hl => ?_)
  refine lv_aload_n hx hb dL_law_530 rfl (lv_at hl 5 rfl) ?_
  refine g_goi (vx_runV (As := []) (rest := []) ⟨hx, hb, hml, hown, hts⟩ (m_thrown l G B S 0 ct2 H_525 hM2) (cwV 0 hts gL_law_X5_thrown rfl rfl rfl hd_X5_thrown ⟨(Nat.le_of_ble_eq_true rfl), (Nat.le_of_ble_eq_true rfl)⟩) (g_preV hX hS (ci := 5) rfl hM2.1) rfl rfl hl.1 rfl (lv_room (Nat.le_of_ble_eq_true rfl)) dL_law_531 (⟨by show _ ≤ 601024; omega, by show _ ≤ 7293034; omega⟩)) hS (fun r_531 H_531 locs hp hS => ?_)
  obtain ⟨rfl, rfl⟩ := hp
  refine lv_iload hx hb dL_law_534 (lv_at hl 1 rfl) ?_
  refine gz_icmp_eq (tgt := 541) hx hb (by decide) (by decide) dL_law_536 (by decide) (fun c_536 => ?_) (fun c_536 => ?_)
  · refine lv_iload hx hb dL_law_541 (lv_at hl 1 rfl) ?_
    refine gz_if_ne (tgt := 558) hx hb (by decide) dL_law_543 (by decide) (fun c_543 => ?_) (fun c_543 => ?_)
    · omega
    · refine lv_aload_n hx hb dL_law_546 rfl (lv_at hl 6 rfl) ?_
      refine lv_iconst (v := zI 0) hx hb dL_law_547 rfl ?_
      refine gz_lald hx hb hX ho 0 (by omega) (by omega) (by omega) dL_law_548 ?_
      rw [hfo]
      refine lv_iload hx hb dL_law_549 (lv_at hl 0 rfl) ?_
      refine lv_i2l hx hb dL_law_551 rfl ?_
      refine W.lcmp hx hb dL_law_552 ?_
      rw [lgc0]
      refine gz_if_eq (tgt := 558) hx hb (by decide) dL_law_553 (by decide) (fun c_553 => ?_) (fun c_553 => ?_)
      · refine lv_goto (tgt := 1362) hx hb dL_law_558 (by decide) ?_
        refine W.widen (k := cells + 12) (n := slots + 900) (by omega) (by omega) ?_
        exact kk TA S 0 H_525 locs ls hLI2 hS (lv_sub hl [2, 3, 4, 5, 6] rfl)
      · omega
  · omega
set_option maxHeartbeats 4000000 in
set_option maxRecDepth 100000 in
theorem s_notes_e1 (l : Launch) (hlf : l.stackTraces = false) (G : gG) {p : Program} {e : Env} {s : State} {m : MethodId} {below : List Frame} {meth : Method} {c : Code} {b L : Nat} {xs : Nat → Int32} (F : lwF p s m c G b L xs) (A : Nat → Nat) (TA : Nat → Nat → Nat) (B : Nat → Nat) (S : cS) (o : Nat) (th : Int) (H : Heap) (locs : List Loc) (cells slots : Nat) (hLI : LI G A TA B o S th H) (hS : va_S (gA G) s.heap H locs) (t : Nat) (htL : 5 * t + 5 ≤ L) (y : Int) (hy : y = (5 * t : Nat)) (ls : Array Slot) (hl : lv_has ls 7 [(4, .int (zI y)), (0, .ref b), (1, .ref (A 0)), (2, .ref (B 0)), (3, .ref o)]) (hcl : cells + 12 ≤ 601024) (hsl : slots + 900 ≤ 7293034) (Q : State → Prop) (kk : lwK l G p e s m below meth c b A B o y cells slots Q) (z : Int) (hz : rI z) (hi : ¬ (0 ≤ z ∧ z < sn S)) (hq1 : xs (5 * t + 1) = zI z) : W p l e room_1 s m #[Value.ref b] below meth c H locs cells slots Q (F0 m 505 ls []) := by
  obtain ⟨hx, hb, hml, hts, hown, hX, hscr, hbl, hgb, hL25⟩ := F
  obtain ⟨hI, ⟨W9, hC⟩, ⟨ct, hM⟩, ho0, go, d1, d2, d3⟩ := id hLI
  have hbA : ¬ gA G b := fun z => by have z : gB G ≤ b := z; omega
  have hI2 : sInv S := hI
  refine lv_aload_n hx hb dL_law_505 rfl (lv_at hl 2 rfl) ?_
  refine lv_aload_n hx hb dL_law_506 rfl (lv_at hl 1 rfl) ?_
  refine lv_iload hx hb dL_law_507 (lv_at hl 0 rfl) ?_
  refine lv_iconst (v := zI 1) hx hb dL_law_509 rfl ?_
  refine gz_iadd hx hb dL_law_510 ?_
  refine gz_sld hx hb hscr hbl hbA hS (5 * t + 1) (by omega) (by omega) (by omega) dL_law_511 ?_
  rw [hq1]
  refine lv_aload_n hx hb dL_law_512 rfl (lv_at hl 4 rfl) ?_
  refine g_goi (vx_runSX (As := [.ref (A 0), .int (zI z), .ref o]) (rest := []) ⟨hx, hb, hml, hown, hts⟩ (w_notes_e1 l G hlf A TA S W9 H hC hI z hz hi o ho0 go d2) (vx_cwSW 3 hts gL_law_L_notes rfl rfl rfl hd_L_notes.2 ⟨(Nat.le_of_ble_eq_true rfl), (Nat.le_of_ble_eq_true rfl)⟩) (g_pre hX hS) rfl rfl hl.1 rfl (lv_room (Nat.le_of_ble_eq_true rfl)) dL_law_513 (⟨by show _ ≤ 601024; omega, by show _ ≤ 7293034; omega⟩)) hS (fun r_513 H_513 locs hp hS => ?_)
  obtain ⟨rfl, hLX, hLU⟩ := hp
  have hM1 := LI.mid hM hLX d1 d3
  refine lv_istore (lv' := [(5, .int (zI 1)), (4, .int (zI y)), (0, .ref b), (1, .ref (A 0)), (2, .ref (B 0)), (3, .ref o)]) hx hb dL_law_516 hl (by decide) rfl (fun ls hl => ?_)
  refine lv_aload_n hx hb dL_law_518 rfl (lv_at hl 4 rfl) ?_
  refine lv_aload_n hx hb dL_law_519 rfl (lv_at hl 2 rfl) ?_
  refine lv_iload hx hb dL_law_520 (lv_at hl 1 rfl) ?_
  refine lv_iconst (v := zI 1) hx hb dL_law_522 rfl ?_
  refine gz_iadd hx hb dL_law_523 ?_
  refine gz_sld hx hb hscr hbl hbA hS (5 * t + 1) (by omega) (by omega) (by omega) dL_law_524 ?_
  rw [hq1]
  refine g_goi (vx_runV (As := [.int (zI z)]) (rest := []) ⟨hx, hb, hml, hown, hts⟩ (m_notes_e1 l G B S th ct H_513 hM1 hI z hz hi) (cwV 1 hts gL_law_X5_notes rfl rfl rfl hd_X5_notes ⟨(Nat.le_of_ble_eq_true rfl), (Nat.le_of_ble_eq_true rfl)⟩) (g_preV hX hS (ci := 5) rfl hM1.1) rfl rfl hl.1 rfl (lv_room (Nat.le_of_ble_eq_true rfl)) dL_law_525 (⟨by show _ ≤ 601024; omega, by show _ ≤ 7293034; omega⟩)) hS (fun r_525 H_525 locs hp hS => ?_)
  obtain ⟨rfl, hMP⟩ := hp
  have hLI2 := LI.fin hI2 hLI hLX hLU hMP
  obtain ⟨⟨ct2, hM2⟩, hKP2⟩ := id hMP
  refine lv_istore (lv' := [(6, .int (zI 0)), (5, .int (zI 1)), (4, .int (zI y)), (0, .ref b), (1, .ref (A 0)), (2, .ref (B 0)), (3, .ref o)]) hx hb dL_law_528 hl (by decide) rfl (fun ls hl => ?_)
  refine lv_aload_n hx hb dL_law_530 rfl (lv_at hl 5 rfl) ?_
  refine g_goi (vx_runV (As := []) (rest := []) ⟨hx, hb, hml, hown, hts⟩ (m_thrown l G B S 1 ct2 H_525 hM2) (cwV 0 hts gL_law_X5_thrown rfl rfl rfl hd_X5_thrown ⟨(Nat.le_of_ble_eq_true rfl), (Nat.le_of_ble_eq_true rfl)⟩) (g_preV hX hS (ci := 5) rfl hM2.1) rfl rfl hl.1 rfl (lv_room (Nat.le_of_ble_eq_true rfl)) dL_law_531 (⟨by show _ ≤ 601024; omega, by show _ ≤ 7293034; omega⟩)) hS (fun r_531 H_531 locs hp hS => ?_)
  obtain ⟨rfl, rfl⟩ := hp
  refine lv_iload hx hb dL_law_534 (lv_at hl 1 rfl) ?_
  refine gz_icmp_eq (tgt := 541) hx hb (by decide) (by decide) dL_law_536 (by decide) (fun c_536 => ?_) (fun c_536 => ?_)
  · refine lv_iload hx hb dL_law_541 (lv_at hl 1 rfl) ?_
    refine gz_if_ne (tgt := 558) hx hb (by decide) dL_law_543 (by decide) (fun c_543 => ?_) (fun c_543 => ?_)
    · refine lv_goto (tgt := 1362) hx hb dL_law_558 (by decide) ?_
      refine W.widen (k := cells + 12) (n := slots + 900) (by omega) (by omega) ?_
      exact kk TA S 1 H_525 locs ls hLI2 hS (lv_sub hl [2, 3, 4, 5, 6] rfl)
    · omega
  · omega
set_option maxHeartbeats 4000000 in
set_option maxRecDepth 100000 in
theorem s_step_ok (l : Launch) (hlf : l.stackTraces = false) (G : gG) {p : Program} {e : Env} {s : State} {m : MethodId} {below : List Frame} {meth : Method} {c : Code} {b L : Nat} {xs : Nat → Int32} (F : lwF p s m c G b L xs) (A : Nat → Nat) (TA : Nat → Nat → Nat) (B : Nat → Nat) (S : cS) (o : Nat) (th : Int) (H : Heap) (locs : List Loc) (cells slots : Nat) (hLI : LI G A TA B o S th H) (hS : va_S (gA G) s.heap H locs) (t : Nat) (htL : 5 * t + 5 ≤ L) (y : Int) (hy : y = (5 * t : Nat)) (ls : Array Slot) (hl : lv_has ls 7 [(4, .int (zI y)), (0, .ref b), (1, .ref (A 0)), (2, .ref (B 0)), (3, .ref o)]) (hcl : cells + 12 ≤ 601024) (hsl : slots + 900 ≤ 7293034) (Q : State → Prop) (kk : lwK l G p e s m below meth c b A B o y cells slots Q) (z : Int) (i : Nat) (hz : z = i) (hi : i < sn S) (z2 : Int) (hz20 : rI z2) (k : Nat) (hz2 : z2 = k) (hk : k + 1 < stn S i) (hq1 : xs (5 * t + 1) = zI z) (hq2 : xs (5 * t + 2) = zI z2) : W p l e room_1 s m #[Value.ref b] below meth c H locs cells slots Q (F0 m 561 ls []) := by
  obtain ⟨hx, hb, hml, hts, hown, hX, hscr, hbl, hgb, hL25⟩ := F
  obtain ⟨hI, ⟨W9, hC⟩, ⟨ct, hM⟩, ho0, go, d1, d2, d3⟩ := id hLI
  have hbA : ¬ gA G b := fun z => by have z : gB G ≤ b := z; omega
  have hI2 : sInv S := hI
  refine lv_aload_n hx hb dL_law_561 rfl (lv_at hl 2 rfl) ?_
  refine lv_aload_n hx hb dL_law_562 rfl (lv_at hl 1 rfl) ?_
  refine lv_iload hx hb dL_law_563 (lv_at hl 0 rfl) ?_
  refine lv_iconst (v := zI 1) hx hb dL_law_565 rfl ?_
  refine gz_iadd hx hb dL_law_566 ?_
  refine gz_sld hx hb hscr hbl hbA hS (5 * t + 1) (by omega) (by omega) (by omega) dL_law_567 ?_
  rw [hq1]
  refine lv_aload_n hx hb dL_law_568 rfl (lv_at hl 1 rfl) ?_
  refine lv_iload hx hb dL_law_569 (lv_at hl 0 rfl) ?_
  refine lv_iconst (v := zI 2) hx hb dL_law_571 rfl ?_
  refine gz_iadd hx hb dL_law_572 ?_
  refine gz_sld hx hb hscr hbl hbA hS (5 * t + 2) (by omega) (by omega) (by omega) dL_law_573 ?_
  rw [hq2]
  refine lv_aload_n hx hb dL_law_574 rfl (lv_at hl 4 rfl) ?_
  refine g_goi (vx_runSX (As := [.ref (A 0), .int (zI z), .int (zI z2), .ref o]) (rest := []) ⟨hx, hb, hml, hown, hts⟩ (w_step_ok l G A TA S W9 H hC hI z i hz hi z2 k hz2 hk o ho0 go d2) (vx_cwSW 4 hts gL_law_L_step rfl rfl rfl hd_L_step.2 ⟨(Nat.le_of_ble_eq_true rfl), (Nat.le_of_ble_eq_true rfl)⟩) (g_pre hX hS) rfl rfl hl.1 rfl (lv_room (Nat.le_of_ble_eq_true rfl)) dL_law_575 (⟨by show _ ≤ 601024; omega, by show _ ≤ 7293034; omega⟩)) hS (fun r_575 H_575 locs hp hS => ?_)
  obtain ⟨rfl, hLX, hLO⟩ := hp
  have hLU := hLO.u
  have hM1 := LI.mid hM hLX d1 d3
  refine lv_istore (lv' := [(5, .int (zI 0)), (4, .int (zI y)), (0, .ref b), (1, .ref (A 0)), (2, .ref (B 0)), (3, .ref o)]) hx hb dL_law_578 hl (by decide) rfl (fun ls hl => ?_)
  refine lv_aload_n hx hb dL_law_580 rfl (lv_at hl 4 rfl) ?_
  refine lv_aload_n hx hb dL_law_581 rfl (lv_at hl 2 rfl) ?_
  refine lv_iload hx hb dL_law_582 (lv_at hl 1 rfl) ?_
  refine lv_iconst (v := zI 1) hx hb dL_law_584 rfl ?_
  refine gz_iadd hx hb dL_law_585 ?_
  refine gz_sld hx hb hscr hbl hbA hS (5 * t + 1) (by omega) (by omega) (by omega) dL_law_586 ?_
  rw [hq1]
  refine lv_aload_n hx hb dL_law_587 rfl (lv_at hl 2 rfl) ?_
  refine lv_iload hx hb dL_law_588 (lv_at hl 1 rfl) ?_
  refine lv_iconst (v := zI 2) hx hb dL_law_590 rfl ?_
  refine gz_iadd hx hb dL_law_591 ?_
  refine gz_sld hx hb hscr hbl hbA hS (5 * t + 2) (by omega) (by omega) (by omega) dL_law_592 ?_
  rw [hq2]
  refine g_goi (vx_runV (As := [.int (zI z), .int (zI z2)]) (rest := []) ⟨hx, hb, hml, hown, hts⟩ (m_step_ok l G B S th ct H_575 hM1 hI z i hz hi z2 hz20 k hz2 hk) (cwV 2 hts gL_law_X5_step rfl rfl rfl hd_X5_step ⟨(Nat.le_of_ble_eq_true rfl), (Nat.le_of_ble_eq_true rfl)⟩) (g_preV hX hS (ci := 5) rfl hM1.1) rfl rfl hl.1 rfl (lv_room (Nat.le_of_ble_eq_true rfl)) dL_law_593 (⟨by show _ ≤ 601024; omega, by show _ ≤ 7293034; omega⟩)) hS (fun r_593 H_593 locs hp hS => ?_)
  obtain ⟨rfl, hMP⟩ := hp
  have hLI2 := LI.fin hI2 hLI hLX hLU hMP
  obtain ⟨⟨ct2, hM2⟩, hKP2⟩ := id hMP
  obtain ⟨fo, ho, hfo⟩ := LO.mp hLO hMP d3
  refine lv_istore (lv' := [(6, .int (zI (stp S i (k + 1) - stp S i k))), (5, .int (zI 0)), (4, .int (zI y)), (0, .ref b), (1, .ref (A 0)), (2, .ref (B 0)), (3, .ref o)]) hx hb dL_law_596 hl (by decide) rfl (fun ls hl => ?_)
  refine lv_aload_n hx hb dL_law_598 rfl (lv_at hl 5 rfl) ?_
  refine g_goi (vx_runV (As := []) (rest := []) ⟨hx, hb, hml, hown, hts⟩ (m_thrown l G B S 0 ct2 H_593 hM2) (cwV 0 hts gL_law_X5_thrown rfl rfl rfl hd_X5_thrown ⟨(Nat.le_of_ble_eq_true rfl), (Nat.le_of_ble_eq_true rfl)⟩) (g_preV hX hS (ci := 5) rfl hM2.1) rfl rfl hl.1 rfl (lv_room (Nat.le_of_ble_eq_true rfl)) dL_law_599 (⟨by show _ ≤ 601024; omega, by show _ ≤ 7293034; omega⟩)) hS (fun r_599 H_599 locs hp hS => ?_)
  obtain ⟨rfl, rfl⟩ := hp
  refine lv_iload hx hb dL_law_602 (lv_at hl 1 rfl) ?_
  refine gz_icmp_eq (tgt := 609) hx hb (by decide) (by decide) dL_law_604 (by decide) (fun c_604 => ?_) (fun c_604 => ?_)
  · refine lv_iload hx hb dL_law_609 (lv_at hl 1 rfl) ?_
    refine gz_if_ne (tgt := 626) hx hb (by decide) dL_law_611 (by decide) (fun c_611 => ?_) (fun c_611 => ?_)
    · omega
    · refine lv_aload_n hx hb dL_law_614 rfl (lv_at hl 6 rfl) ?_
      refine lv_iconst (v := zI 0) hx hb dL_law_615 rfl ?_
      refine gz_lald hx hb hX ho 0 (by omega) (by omega) (by omega) dL_law_616 ?_
      rw [hfo]
      refine lv_iload hx hb dL_law_617 (lv_at hl 0 rfl) ?_
      refine lv_i2l hx hb dL_law_619 rfl ?_
      refine W.lcmp hx hb dL_law_620 ?_
      rw [lgc0]
      refine gz_if_eq (tgt := 626) hx hb (by decide) dL_law_621 (by decide) (fun c_621 => ?_) (fun c_621 => ?_)
      · refine lv_goto (tgt := 1362) hx hb dL_law_626 (by decide) ?_
        refine W.widen (k := cells + 12) (n := slots + 900) (by omega) (by omega) ?_
        exact kk TA S 0 H_593 locs ls hLI2 hS (lv_sub hl [2, 3, 4, 5, 6] rfl)
      · omega
  · omega
set_option maxHeartbeats 4000000 in
set_option maxRecDepth 100000 in
theorem s_step_e1 (l : Launch) (hlf : l.stackTraces = false) (G : gG) {p : Program} {e : Env} {s : State} {m : MethodId} {below : List Frame} {meth : Method} {c : Code} {b L : Nat} {xs : Nat → Int32} (F : lwF p s m c G b L xs) (A : Nat → Nat) (TA : Nat → Nat → Nat) (B : Nat → Nat) (S : cS) (o : Nat) (th : Int) (H : Heap) (locs : List Loc) (cells slots : Nat) (hLI : LI G A TA B o S th H) (hS : va_S (gA G) s.heap H locs) (t : Nat) (htL : 5 * t + 5 ≤ L) (y : Int) (hy : y = (5 * t : Nat)) (ls : Array Slot) (hl : lv_has ls 7 [(4, .int (zI y)), (0, .ref b), (1, .ref (A 0)), (2, .ref (B 0)), (3, .ref o)]) (hcl : cells + 12 ≤ 601024) (hsl : slots + 900 ≤ 7293034) (Q : State → Prop) (kk : lwK l G p e s m below meth c b A B o y cells slots Q) (z : Int) (hz : rI z) (hi : ¬ (0 ≤ z ∧ z < sn S)) (z2 : Int) (hz20 : rI z2) (hz2 : rI z2) (hq1 : xs (5 * t + 1) = zI z) (hq2 : xs (5 * t + 2) = zI z2) : W p l e room_1 s m #[Value.ref b] below meth c H locs cells slots Q (F0 m 561 ls []) := by
  obtain ⟨hx, hb, hml, hts, hown, hX, hscr, hbl, hgb, hL25⟩ := F
  obtain ⟨hI, ⟨W9, hC⟩, ⟨ct, hM⟩, ho0, go, d1, d2, d3⟩ := id hLI
  have hbA : ¬ gA G b := fun z => by have z : gB G ≤ b := z; omega
  have hI2 : sInv S := hI
  refine lv_aload_n hx hb dL_law_561 rfl (lv_at hl 2 rfl) ?_
  refine lv_aload_n hx hb dL_law_562 rfl (lv_at hl 1 rfl) ?_
  refine lv_iload hx hb dL_law_563 (lv_at hl 0 rfl) ?_
  refine lv_iconst (v := zI 1) hx hb dL_law_565 rfl ?_
  refine gz_iadd hx hb dL_law_566 ?_
  refine gz_sld hx hb hscr hbl hbA hS (5 * t + 1) (by omega) (by omega) (by omega) dL_law_567 ?_
  rw [hq1]
  refine lv_aload_n hx hb dL_law_568 rfl (lv_at hl 1 rfl) ?_
  refine lv_iload hx hb dL_law_569 (lv_at hl 0 rfl) ?_
  refine lv_iconst (v := zI 2) hx hb dL_law_571 rfl ?_
  refine gz_iadd hx hb dL_law_572 ?_
  refine gz_sld hx hb hscr hbl hbA hS (5 * t + 2) (by omega) (by omega) (by omega) dL_law_573 ?_
  rw [hq2]
  refine lv_aload_n hx hb dL_law_574 rfl (lv_at hl 4 rfl) ?_
  refine g_goi (vx_runSX (As := [.ref (A 0), .int (zI z), .int (zI z2), .ref o]) (rest := []) ⟨hx, hb, hml, hown, hts⟩ (w_step_e1 l G hlf A TA S W9 H hC hI z hz hi z2 hz2 o ho0 go d2) (vx_cwSW 4 hts gL_law_L_step rfl rfl rfl hd_L_step.2 ⟨(Nat.le_of_ble_eq_true rfl), (Nat.le_of_ble_eq_true rfl)⟩) (g_pre hX hS) rfl rfl hl.1 rfl (lv_room (Nat.le_of_ble_eq_true rfl)) dL_law_575 (⟨by show _ ≤ 601024; omega, by show _ ≤ 7293034; omega⟩)) hS (fun r_575 H_575 locs hp hS => ?_)
  obtain ⟨rfl, hLX, hLU⟩ := hp
  have hM1 := LI.mid hM hLX d1 d3
  refine lv_istore (lv' := [(5, .int (zI 1)), (4, .int (zI y)), (0, .ref b), (1, .ref (A 0)), (2, .ref (B 0)), (3, .ref o)]) hx hb dL_law_578 hl (by decide) rfl (fun ls hl => ?_)
  refine lv_aload_n hx hb dL_law_580 rfl (lv_at hl 4 rfl) ?_
  refine lv_aload_n hx hb dL_law_581 rfl (lv_at hl 2 rfl) ?_
  refine lv_iload hx hb dL_law_582 (lv_at hl 1 rfl) ?_
  refine lv_iconst (v := zI 1) hx hb dL_law_584 rfl ?_
  refine gz_iadd hx hb dL_law_585 ?_
  refine gz_sld hx hb hscr hbl hbA hS (5 * t + 1) (by omega) (by omega) (by omega) dL_law_586 ?_
  rw [hq1]
  refine lv_aload_n hx hb dL_law_587 rfl (lv_at hl 2 rfl) ?_
  refine lv_iload hx hb dL_law_588 (lv_at hl 1 rfl) ?_
  refine lv_iconst (v := zI 2) hx hb dL_law_590 rfl ?_
  refine gz_iadd hx hb dL_law_591 ?_
  refine gz_sld hx hb hscr hbl hbA hS (5 * t + 2) (by omega) (by omega) (by omega) dL_law_592 ?_
  rw [hq2]
  refine g_goi (vx_runV (As := [.int (zI z), .int (zI z2)]) (rest := []) ⟨hx, hb, hml, hown, hts⟩ (m_step_e1 l G B S th ct H_575 hM1 hI z hz hi z2 hz20) (cwV 2 hts gL_law_X5_step rfl rfl rfl hd_X5_step ⟨(Nat.le_of_ble_eq_true rfl), (Nat.le_of_ble_eq_true rfl)⟩) (g_preV hX hS (ci := 5) rfl hM1.1) rfl rfl hl.1 rfl (lv_room (Nat.le_of_ble_eq_true rfl)) dL_law_593 (⟨by show _ ≤ 601024; omega, by show _ ≤ 7293034; omega⟩)) hS (fun r_593 H_593 locs hp hS => ?_)
  obtain ⟨rfl, hMP⟩ := hp
  have hLI2 := LI.fin hI2 hLI hLX hLU hMP
  obtain ⟨⟨ct2, hM2⟩, hKP2⟩ := id hMP
  refine lv_istore (lv' := [(6, .int (zI 0)), (5, .int (zI 1)), (4, .int (zI y)), (0, .ref b), (1, .ref (A 0)), (2, .ref (B 0)), (3, .ref o)]) hx hb dL_law_596 hl (by decide) rfl (fun ls hl => ?_)
  refine lv_aload_n hx hb dL_law_598 rfl (lv_at hl 5 rfl) ?_
  refine g_goi (vx_runV (As := []) (rest := []) ⟨hx, hb, hml, hown, hts⟩ (m_thrown l G B S 1 ct2 H_593 hM2) (cwV 0 hts gL_law_X5_thrown rfl rfl rfl hd_X5_thrown ⟨(Nat.le_of_ble_eq_true rfl), (Nat.le_of_ble_eq_true rfl)⟩) (g_preV hX hS (ci := 5) rfl hM2.1) rfl rfl hl.1 rfl (lv_room (Nat.le_of_ble_eq_true rfl)) dL_law_599 (⟨by show _ ≤ 601024; omega, by show _ ≤ 7293034; omega⟩)) hS (fun r_599 H_599 locs hp hS => ?_)
  obtain ⟨rfl, rfl⟩ := hp
  refine lv_iload hx hb dL_law_602 (lv_at hl 1 rfl) ?_
  refine gz_icmp_eq (tgt := 609) hx hb (by decide) (by decide) dL_law_604 (by decide) (fun c_604 => ?_) (fun c_604 => ?_)
  · refine lv_iload hx hb dL_law_609 (lv_at hl 1 rfl) ?_
    refine gz_if_ne (tgt := 626) hx hb (by decide) dL_law_611 (by decide) (fun c_611 => ?_) (fun c_611 => ?_)
    · refine lv_goto (tgt := 1362) hx hb dL_law_626 (by decide) ?_
      refine W.widen (k := cells + 12) (n := slots + 900) (by omega) (by omega) ?_
      exact kk TA S 1 H_593 locs ls hLI2 hS (lv_sub hl [2, 3, 4, 5, 6] rfl)
    · omega
  · omega
set_option maxHeartbeats 4000000 in
set_option maxRecDepth 100000 in
theorem s_step_e2 (l : Launch) (hlf : l.stackTraces = false) (G : gG) {p : Program} {e : Env} {s : State} {m : MethodId} {below : List Frame} {meth : Method} {c : Code} {b L : Nat} {xs : Nat → Int32} (F : lwF p s m c G b L xs) (A : Nat → Nat) (TA : Nat → Nat → Nat) (B : Nat → Nat) (S : cS) (o : Nat) (th : Int) (H : Heap) (locs : List Loc) (cells slots : Nat) (hLI : LI G A TA B o S th H) (hS : va_S (gA G) s.heap H locs) (t : Nat) (htL : 5 * t + 5 ≤ L) (y : Int) (hy : y = (5 * t : Nat)) (ls : Array Slot) (hl : lv_has ls 7 [(4, .int (zI y)), (0, .ref b), (1, .ref (A 0)), (2, .ref (B 0)), (3, .ref o)]) (hcl : cells + 12 ≤ 601024) (hsl : slots + 900 ≤ 7293034) (Q : State → Prop) (kk : lwK l G p e s m below meth c b A B o y cells slots Q) (z : Int) (i : Nat) (hz : z = i) (hi : i < sn S) (z2 : Int) (hz20 : rI z2) (hk : ¬ (0 ≤ z2 ∧ z2 < (stn S i : Int) - 1)) (hz2 : rI z2) (hq1 : xs (5 * t + 1) = zI z) (hq2 : xs (5 * t + 2) = zI z2) : W p l e room_1 s m #[Value.ref b] below meth c H locs cells slots Q (F0 m 561 ls []) := by
  obtain ⟨hx, hb, hml, hts, hown, hX, hscr, hbl, hgb, hL25⟩ := F
  obtain ⟨hI, ⟨W9, hC⟩, ⟨ct, hM⟩, ho0, go, d1, d2, d3⟩ := id hLI
  have hbA : ¬ gA G b := fun z => by have z : gB G ≤ b := z; omega
  have hI2 : sInv S := hI
  refine lv_aload_n hx hb dL_law_561 rfl (lv_at hl 2 rfl) ?_
  refine lv_aload_n hx hb dL_law_562 rfl (lv_at hl 1 rfl) ?_
  refine lv_iload hx hb dL_law_563 (lv_at hl 0 rfl) ?_
  refine lv_iconst (v := zI 1) hx hb dL_law_565 rfl ?_
  refine gz_iadd hx hb dL_law_566 ?_
  refine gz_sld hx hb hscr hbl hbA hS (5 * t + 1) (by omega) (by omega) (by omega) dL_law_567 ?_
  rw [hq1]
  refine lv_aload_n hx hb dL_law_568 rfl (lv_at hl 1 rfl) ?_
  refine lv_iload hx hb dL_law_569 (lv_at hl 0 rfl) ?_
  refine lv_iconst (v := zI 2) hx hb dL_law_571 rfl ?_
  refine gz_iadd hx hb dL_law_572 ?_
  refine gz_sld hx hb hscr hbl hbA hS (5 * t + 2) (by omega) (by omega) (by omega) dL_law_573 ?_
  rw [hq2]
  refine lv_aload_n hx hb dL_law_574 rfl (lv_at hl 4 rfl) ?_
  refine g_goi (vx_runSX (As := [.ref (A 0), .int (zI z), .int (zI z2), .ref o]) (rest := []) ⟨hx, hb, hml, hown, hts⟩ (w_step_e2 l G hlf A TA S W9 H hC hI z i hz hi z2 hz2 hk o ho0 go d2) (vx_cwSW 4 hts gL_law_L_step rfl rfl rfl hd_L_step.2 ⟨(Nat.le_of_ble_eq_true rfl), (Nat.le_of_ble_eq_true rfl)⟩) (g_pre hX hS) rfl rfl hl.1 rfl (lv_room (Nat.le_of_ble_eq_true rfl)) dL_law_575 (⟨by show _ ≤ 601024; omega, by show _ ≤ 7293034; omega⟩)) hS (fun r_575 H_575 locs hp hS => ?_)
  obtain ⟨rfl, hLX, hLU⟩ := hp
  have hM1 := LI.mid hM hLX d1 d3
  refine lv_istore (lv' := [(5, .int (zI 1)), (4, .int (zI y)), (0, .ref b), (1, .ref (A 0)), (2, .ref (B 0)), (3, .ref o)]) hx hb dL_law_578 hl (by decide) rfl (fun ls hl => ?_)
  refine lv_aload_n hx hb dL_law_580 rfl (lv_at hl 4 rfl) ?_
  refine lv_aload_n hx hb dL_law_581 rfl (lv_at hl 2 rfl) ?_
  refine lv_iload hx hb dL_law_582 (lv_at hl 1 rfl) ?_
  refine lv_iconst (v := zI 1) hx hb dL_law_584 rfl ?_
  refine gz_iadd hx hb dL_law_585 ?_
  refine gz_sld hx hb hscr hbl hbA hS (5 * t + 1) (by omega) (by omega) (by omega) dL_law_586 ?_
  rw [hq1]
  refine lv_aload_n hx hb dL_law_587 rfl (lv_at hl 2 rfl) ?_
  refine lv_iload hx hb dL_law_588 (lv_at hl 1 rfl) ?_
  refine lv_iconst (v := zI 2) hx hb dL_law_590 rfl ?_
  refine gz_iadd hx hb dL_law_591 ?_
  refine gz_sld hx hb hscr hbl hbA hS (5 * t + 2) (by omega) (by omega) (by omega) dL_law_592 ?_
  rw [hq2]
  refine g_goi (vx_runV (As := [.int (zI z), .int (zI z2)]) (rest := []) ⟨hx, hb, hml, hown, hts⟩ (m_step_e2 l G B S th ct H_575 hM1 hI z i hz hi z2 hz20 hk) (cwV 2 hts gL_law_X5_step rfl rfl rfl hd_X5_step ⟨(Nat.le_of_ble_eq_true rfl), (Nat.le_of_ble_eq_true rfl)⟩) (g_preV hX hS (ci := 5) rfl hM1.1) rfl rfl hl.1 rfl (lv_room (Nat.le_of_ble_eq_true rfl)) dL_law_593 (⟨by show _ ≤ 601024; omega, by show _ ≤ 7293034; omega⟩)) hS (fun r_593 H_593 locs hp hS => ?_)
  obtain ⟨rfl, hMP⟩ := hp
  have hLI2 := LI.fin hI2 hLI hLX hLU hMP
  obtain ⟨⟨ct2, hM2⟩, hKP2⟩ := id hMP
  refine lv_istore (lv' := [(6, .int (zI 0)), (5, .int (zI 1)), (4, .int (zI y)), (0, .ref b), (1, .ref (A 0)), (2, .ref (B 0)), (3, .ref o)]) hx hb dL_law_596 hl (by decide) rfl (fun ls hl => ?_)
  refine lv_aload_n hx hb dL_law_598 rfl (lv_at hl 5 rfl) ?_
  refine g_goi (vx_runV (As := []) (rest := []) ⟨hx, hb, hml, hown, hts⟩ (m_thrown l G B S 1 ct2 H_593 hM2) (cwV 0 hts gL_law_X5_thrown rfl rfl rfl hd_X5_thrown ⟨(Nat.le_of_ble_eq_true rfl), (Nat.le_of_ble_eq_true rfl)⟩) (g_preV hX hS (ci := 5) rfl hM2.1) rfl rfl hl.1 rfl (lv_room (Nat.le_of_ble_eq_true rfl)) dL_law_599 (⟨by show _ ≤ 601024; omega, by show _ ≤ 7293034; omega⟩)) hS (fun r_599 H_599 locs hp hS => ?_)
  obtain ⟨rfl, rfl⟩ := hp
  refine lv_iload hx hb dL_law_602 (lv_at hl 1 rfl) ?_
  refine gz_icmp_eq (tgt := 609) hx hb (by decide) (by decide) dL_law_604 (by decide) (fun c_604 => ?_) (fun c_604 => ?_)
  · refine lv_iload hx hb dL_law_609 (lv_at hl 1 rfl) ?_
    refine gz_if_ne (tgt := 626) hx hb (by decide) dL_law_611 (by decide) (fun c_611 => ?_) (fun c_611 => ?_)
    · refine lv_goto (tgt := 1362) hx hb dL_law_626 (by decide) ?_
      refine W.widen (k := cells + 12) (n := slots + 900) (by omega) (by omega) ?_
      exact kk TA S 1 H_593 locs ls hLI2 hS (lv_sub hl [2, 3, 4, 5, 6] rfl)
    · omega
  · omega
set_option maxHeartbeats 4000000 in
set_option maxRecDepth 100000 in
theorem s_shared_ok (l : Launch) (hlf : l.stackTraces = false) (G : gG) {p : Program} {e : Env} {s : State} {m : MethodId} {below : List Frame} {meth : Method} {c : Code} {b L : Nat} {xs : Nat → Int32} (F : lwF p s m c G b L xs) (A : Nat → Nat) (TA : Nat → Nat → Nat) (B : Nat → Nat) (S : cS) (o : Nat) (th : Int) (H : Heap) (locs : List Loc) (cells slots : Nat) (hLI : LI G A TA B o S th H) (hS : va_S (gA G) s.heap H locs) (t : Nat) (htL : 5 * t + 5 ≤ L) (y : Int) (hy : y = (5 * t : Nat)) (ls : Array Slot) (hl : lv_has ls 7 [(4, .int (zI y)), (0, .ref b), (1, .ref (A 0)), (2, .ref (B 0)), (3, .ref o)]) (hcl : cells + 12 ≤ 601024) (hsl : slots + 900 ≤ 7293034) (Q : State → Prop) (kk : lwK l G p e s m below meth c b A B o y cells slots Q) (z1 : Int) (z2 : Int) (i : Nat) (j : Nat) (hz1 : z1 = i) (hi : i < sn S) (hz2 : z2 = j) (hj : j < sn S) (hq1 : xs (5 * t + 1) = zI z1) (hq2 : xs (5 * t + 2) = zI z2) : W p l e room_1 s m #[Value.ref b] below meth c H locs cells slots Q (F0 m 629 ls []) := by
  obtain ⟨hx, hb, hml, hts, hown, hX, hscr, hbl, hgb, hL25⟩ := F
  obtain ⟨hI, ⟨W9, hC⟩, ⟨ct, hM⟩, ho0, go, d1, d2, d3⟩ := id hLI
  have hbA : ¬ gA G b := fun z => by have z : gB G ≤ b := z; omega
  have hI2 : sInv S := hI
  refine lv_aload_n hx hb dL_law_629 rfl (lv_at hl 2 rfl) ?_
  refine lv_aload_n hx hb dL_law_630 rfl (lv_at hl 1 rfl) ?_
  refine lv_iload hx hb dL_law_631 (lv_at hl 0 rfl) ?_
  refine lv_iconst (v := zI 1) hx hb dL_law_633 rfl ?_
  refine gz_iadd hx hb dL_law_634 ?_
  refine gz_sld hx hb hscr hbl hbA hS (5 * t + 1) (by omega) (by omega) (by omega) dL_law_635 ?_
  rw [hq1]
  refine lv_aload_n hx hb dL_law_636 rfl (lv_at hl 1 rfl) ?_
  refine lv_iload hx hb dL_law_637 (lv_at hl 0 rfl) ?_
  refine lv_iconst (v := zI 2) hx hb dL_law_639 rfl ?_
  refine gz_iadd hx hb dL_law_640 ?_
  refine gz_sld hx hb hscr hbl hbA hS (5 * t + 2) (by omega) (by omega) (by omega) dL_law_641 ?_
  rw [hq2]
  refine lv_aload_n hx hb dL_law_642 rfl (lv_at hl 4 rfl) ?_
  refine g_goi (vx_runSX (As := [.ref (A 0), .int (zI z1), .int (zI z2), .ref o]) (rest := []) ⟨hx, hb, hml, hown, hts⟩ (w_shared_ok l G A TA S W9 H hC hI z1 z2 i j hz1 hi hz2 hj o ho0 go d2) (vx_cwSW 4 hts gL_law_L_shared rfl rfl rfl hd_L_shared.2 ⟨(Nat.le_of_ble_eq_true rfl), (Nat.le_of_ble_eq_true rfl)⟩) (g_pre hX hS) rfl rfl hl.1 rfl (lv_room (Nat.le_of_ble_eq_true rfl)) dL_law_643 (⟨by show _ ≤ 601024; omega, by show _ ≤ 7293034; omega⟩)) hS (fun r_643 H_643 locs hp hS => ?_)
  obtain ⟨rfl, hLX, hLO⟩ := hp
  have hLU := hLO.u
  have hM1 := LI.mid hM hLX d1 d3
  refine lv_istore (lv' := [(5, .int (zI 0)), (4, .int (zI y)), (0, .ref b), (1, .ref (A 0)), (2, .ref (B 0)), (3, .ref o)]) hx hb dL_law_646 hl (by decide) rfl (fun ls hl => ?_)
  refine lv_aload_n hx hb dL_law_648 rfl (lv_at hl 4 rfl) ?_
  refine lv_aload_n hx hb dL_law_649 rfl (lv_at hl 2 rfl) ?_
  refine lv_iload hx hb dL_law_650 (lv_at hl 1 rfl) ?_
  refine lv_iconst (v := zI 1) hx hb dL_law_652 rfl ?_
  refine gz_iadd hx hb dL_law_653 ?_
  refine gz_sld hx hb hscr hbl hbA hS (5 * t + 1) (by omega) (by omega) (by omega) dL_law_654 ?_
  rw [hq1]
  refine lv_aload_n hx hb dL_law_655 rfl (lv_at hl 2 rfl) ?_
  refine lv_iload hx hb dL_law_656 (lv_at hl 1 rfl) ?_
  refine lv_iconst (v := zI 2) hx hb dL_law_658 rfl ?_
  refine gz_iadd hx hb dL_law_659 ?_
  refine gz_sld hx hb hscr hbl hbA hS (5 * t + 2) (by omega) (by omega) (by omega) dL_law_660 ?_
  rw [hq2]
  refine g_goi (vx_runV (As := [.int (zI z1), .int (zI z2)]) (rest := []) ⟨hx, hb, hml, hown, hts⟩ (m_shared_ok l G B S th ct H_643 hM1 hI z1 z2 i j hz1 hi hz2 hj) (cwV 2 hts gL_law_X5_shared rfl rfl rfl hd_X5_shared ⟨(Nat.le_of_ble_eq_true rfl), (Nat.le_of_ble_eq_true rfl)⟩) (g_preV hX hS (ci := 5) rfl hM1.1) rfl rfl hl.1 rfl (lv_room (Nat.le_of_ble_eq_true rfl)) dL_law_661 (⟨by show _ ≤ 601024; omega, by show _ ≤ 7293034; omega⟩)) hS (fun r_661 H_661 locs hp hS => ?_)
  obtain ⟨rfl, hMP⟩ := hp
  have hLI2 := LI.fin hI2 hLI hLX hLU hMP
  obtain ⟨⟨ct2, hM2⟩, hKP2⟩ := id hMP
  obtain ⟨fo, ho, hfo⟩ := LO.mp hLO hMP d3
  refine lv_istore (lv' := [(6, .int (zI ((sharedF S i j : Nat) : Int))), (5, .int (zI 0)), (4, .int (zI y)), (0, .ref b), (1, .ref (A 0)), (2, .ref (B 0)), (3, .ref o)]) hx hb dL_law_664 hl (by decide) rfl (fun ls hl => ?_)
  refine lv_aload_n hx hb dL_law_666 rfl (lv_at hl 5 rfl) ?_
  refine g_goi (vx_runV (As := []) (rest := []) ⟨hx, hb, hml, hown, hts⟩ (m_thrown l G B S 0 ct2 H_661 hM2) (cwV 0 hts gL_law_X5_thrown rfl rfl rfl hd_X5_thrown ⟨(Nat.le_of_ble_eq_true rfl), (Nat.le_of_ble_eq_true rfl)⟩) (g_preV hX hS (ci := 5) rfl hM2.1) rfl rfl hl.1 rfl (lv_room (Nat.le_of_ble_eq_true rfl)) dL_law_667 (⟨by show _ ≤ 601024; omega, by show _ ≤ 7293034; omega⟩)) hS (fun r_667 H_667 locs hp hS => ?_)
  obtain ⟨rfl, rfl⟩ := hp
  refine lv_iload hx hb dL_law_670 (lv_at hl 1 rfl) ?_
  refine gz_icmp_eq (tgt := 677) hx hb (by decide) (by decide) dL_law_672 (by decide) (fun c_672 => ?_) (fun c_672 => ?_)
  · refine lv_iload hx hb dL_law_677 (lv_at hl 1 rfl) ?_
    refine gz_if_ne (tgt := 694) hx hb (by decide) dL_law_679 (by decide) (fun c_679 => ?_) (fun c_679 => ?_)
    · omega
    · refine lv_aload_n hx hb dL_law_682 rfl (lv_at hl 6 rfl) ?_
      refine lv_iconst (v := zI 0) hx hb dL_law_683 rfl ?_
      refine gz_lald hx hb hX ho 0 (by omega) (by omega) (by omega) dL_law_684 ?_
      rw [hfo]
      refine lv_iload hx hb dL_law_685 (lv_at hl 0 rfl) ?_
      refine lv_i2l hx hb dL_law_687 rfl ?_
      refine W.lcmp hx hb dL_law_688 ?_
      rw [lgc0]
      refine gz_if_eq (tgt := 694) hx hb (by decide) dL_law_689 (by decide) (fun c_689 => ?_) (fun c_689 => ?_)
      · refine lv_goto (tgt := 1362) hx hb dL_law_694 (by decide) ?_
        refine W.widen (k := cells + 12) (n := slots + 900) (by omega) (by omega) ?_
        exact kk TA S 0 H_661 locs ls hLI2 hS (lv_sub hl [2, 3, 4, 5, 6] rfl)
      · omega
  · omega
set_option maxHeartbeats 4000000 in
set_option maxRecDepth 100000 in
theorem s_shared_e1 (l : Launch) (hlf : l.stackTraces = false) (G : gG) {p : Program} {e : Env} {s : State} {m : MethodId} {below : List Frame} {meth : Method} {c : Code} {b L : Nat} {xs : Nat → Int32} (F : lwF p s m c G b L xs) (A : Nat → Nat) (TA : Nat → Nat → Nat) (B : Nat → Nat) (S : cS) (o : Nat) (th : Int) (H : Heap) (locs : List Loc) (cells slots : Nat) (hLI : LI G A TA B o S th H) (hS : va_S (gA G) s.heap H locs) (t : Nat) (htL : 5 * t + 5 ≤ L) (y : Int) (hy : y = (5 * t : Nat)) (ls : Array Slot) (hl : lv_has ls 7 [(4, .int (zI y)), (0, .ref b), (1, .ref (A 0)), (2, .ref (B 0)), (3, .ref o)]) (hcl : cells + 12 ≤ 601024) (hsl : slots + 900 ≤ 7293034) (Q : State → Prop) (kk : lwK l G p e s m below meth c b A B o y cells slots Q) (z1 : Int) (z2 : Int) (hz1 : rI z1) (hz2 : rI z2) (hi : ¬ (0 ≤ z1 ∧ z1 < sn S)) (hq1 : xs (5 * t + 1) = zI z1) (hq2 : xs (5 * t + 2) = zI z2) : W p l e room_1 s m #[Value.ref b] below meth c H locs cells slots Q (F0 m 629 ls []) := by
  obtain ⟨hx, hb, hml, hts, hown, hX, hscr, hbl, hgb, hL25⟩ := F
  obtain ⟨hI, ⟨W9, hC⟩, ⟨ct, hM⟩, ho0, go, d1, d2, d3⟩ := id hLI
  have hbA : ¬ gA G b := fun z => by have z : gB G ≤ b := z; omega
  have hI2 : sInv S := hI
  refine lv_aload_n hx hb dL_law_629 rfl (lv_at hl 2 rfl) ?_
  refine lv_aload_n hx hb dL_law_630 rfl (lv_at hl 1 rfl) ?_
  refine lv_iload hx hb dL_law_631 (lv_at hl 0 rfl) ?_
  refine lv_iconst (v := zI 1) hx hb dL_law_633 rfl ?_
  refine gz_iadd hx hb dL_law_634 ?_
  refine gz_sld hx hb hscr hbl hbA hS (5 * t + 1) (by omega) (by omega) (by omega) dL_law_635 ?_
  rw [hq1]
  refine lv_aload_n hx hb dL_law_636 rfl (lv_at hl 1 rfl) ?_
  refine lv_iload hx hb dL_law_637 (lv_at hl 0 rfl) ?_
  refine lv_iconst (v := zI 2) hx hb dL_law_639 rfl ?_
  refine gz_iadd hx hb dL_law_640 ?_
  refine gz_sld hx hb hscr hbl hbA hS (5 * t + 2) (by omega) (by omega) (by omega) dL_law_641 ?_
  rw [hq2]
  refine lv_aload_n hx hb dL_law_642 rfl (lv_at hl 4 rfl) ?_
  refine g_goi (vx_runSX (As := [.ref (A 0), .int (zI z1), .int (zI z2), .ref o]) (rest := []) ⟨hx, hb, hml, hown, hts⟩ (w_shared_e1 l G hlf A TA S W9 H hC hI z1 z2 hz1 hz2 hi o ho0 go d2) (vx_cwSW 4 hts gL_law_L_shared rfl rfl rfl hd_L_shared.2 ⟨(Nat.le_of_ble_eq_true rfl), (Nat.le_of_ble_eq_true rfl)⟩) (g_pre hX hS) rfl rfl hl.1 rfl (lv_room (Nat.le_of_ble_eq_true rfl)) dL_law_643 (⟨by show _ ≤ 601024; omega, by show _ ≤ 7293034; omega⟩)) hS (fun r_643 H_643 locs hp hS => ?_)
  obtain ⟨rfl, hLX, hLU⟩ := hp
  have hM1 := LI.mid hM hLX d1 d3
  refine lv_istore (lv' := [(5, .int (zI 1)), (4, .int (zI y)), (0, .ref b), (1, .ref (A 0)), (2, .ref (B 0)), (3, .ref o)]) hx hb dL_law_646 hl (by decide) rfl (fun ls hl => ?_)
  refine lv_aload_n hx hb dL_law_648 rfl (lv_at hl 4 rfl) ?_
  refine lv_aload_n hx hb dL_law_649 rfl (lv_at hl 2 rfl) ?_
  refine lv_iload hx hb dL_law_650 (lv_at hl 1 rfl) ?_
  refine lv_iconst (v := zI 1) hx hb dL_law_652 rfl ?_
  refine gz_iadd hx hb dL_law_653 ?_
  refine gz_sld hx hb hscr hbl hbA hS (5 * t + 1) (by omega) (by omega) (by omega) dL_law_654 ?_
  rw [hq1]
  refine lv_aload_n hx hb dL_law_655 rfl (lv_at hl 2 rfl) ?_
  refine lv_iload hx hb dL_law_656 (lv_at hl 1 rfl) ?_
  refine lv_iconst (v := zI 2) hx hb dL_law_658 rfl ?_
  refine gz_iadd hx hb dL_law_659 ?_
  refine gz_sld hx hb hscr hbl hbA hS (5 * t + 2) (by omega) (by omega) (by omega) dL_law_660 ?_
  rw [hq2]
  refine g_goi (vx_runV (As := [.int (zI z1), .int (zI z2)]) (rest := []) ⟨hx, hb, hml, hown, hts⟩ (m_shared_e1 l G B S th ct H_643 hM1 hI z1 z2 hz1 hz2 hi) (cwV 2 hts gL_law_X5_shared rfl rfl rfl hd_X5_shared ⟨(Nat.le_of_ble_eq_true rfl), (Nat.le_of_ble_eq_true rfl)⟩) (g_preV hX hS (ci := 5) rfl hM1.1) rfl rfl hl.1 rfl (lv_room (Nat.le_of_ble_eq_true rfl)) dL_law_661 (⟨by show _ ≤ 601024; omega, by show _ ≤ 7293034; omega⟩)) hS (fun r_661 H_661 locs hp hS => ?_)
  obtain ⟨rfl, hMP⟩ := hp
  have hLI2 := LI.fin hI2 hLI hLX hLU hMP
  obtain ⟨⟨ct2, hM2⟩, hKP2⟩ := id hMP
  refine lv_istore (lv' := [(6, .int (zI 0)), (5, .int (zI 1)), (4, .int (zI y)), (0, .ref b), (1, .ref (A 0)), (2, .ref (B 0)), (3, .ref o)]) hx hb dL_law_664 hl (by decide) rfl (fun ls hl => ?_)
  refine lv_aload_n hx hb dL_law_666 rfl (lv_at hl 5 rfl) ?_
  refine g_goi (vx_runV (As := []) (rest := []) ⟨hx, hb, hml, hown, hts⟩ (m_thrown l G B S 1 ct2 H_661 hM2) (cwV 0 hts gL_law_X5_thrown rfl rfl rfl hd_X5_thrown ⟨(Nat.le_of_ble_eq_true rfl), (Nat.le_of_ble_eq_true rfl)⟩) (g_preV hX hS (ci := 5) rfl hM2.1) rfl rfl hl.1 rfl (lv_room (Nat.le_of_ble_eq_true rfl)) dL_law_667 (⟨by show _ ≤ 601024; omega, by show _ ≤ 7293034; omega⟩)) hS (fun r_667 H_667 locs hp hS => ?_)
  obtain ⟨rfl, rfl⟩ := hp
  refine lv_iload hx hb dL_law_670 (lv_at hl 1 rfl) ?_
  refine gz_icmp_eq (tgt := 677) hx hb (by decide) (by decide) dL_law_672 (by decide) (fun c_672 => ?_) (fun c_672 => ?_)
  · refine lv_iload hx hb dL_law_677 (lv_at hl 1 rfl) ?_
    refine gz_if_ne (tgt := 694) hx hb (by decide) dL_law_679 (by decide) (fun c_679 => ?_) (fun c_679 => ?_)
    · refine lv_goto (tgt := 1362) hx hb dL_law_694 (by decide) ?_
      refine W.widen (k := cells + 12) (n := slots + 900) (by omega) (by omega) ?_
      exact kk TA S 1 H_661 locs ls hLI2 hS (lv_sub hl [2, 3, 4, 5, 6] rfl)
    · omega
  · omega
set_option maxHeartbeats 4000000 in
set_option maxRecDepth 100000 in
theorem s_shared_e2 (l : Launch) (hlf : l.stackTraces = false) (G : gG) {p : Program} {e : Env} {s : State} {m : MethodId} {below : List Frame} {meth : Method} {c : Code} {b L : Nat} {xs : Nat → Int32} (F : lwF p s m c G b L xs) (A : Nat → Nat) (TA : Nat → Nat → Nat) (B : Nat → Nat) (S : cS) (o : Nat) (th : Int) (H : Heap) (locs : List Loc) (cells slots : Nat) (hLI : LI G A TA B o S th H) (hS : va_S (gA G) s.heap H locs) (t : Nat) (htL : 5 * t + 5 ≤ L) (y : Int) (hy : y = (5 * t : Nat)) (ls : Array Slot) (hl : lv_has ls 7 [(4, .int (zI y)), (0, .ref b), (1, .ref (A 0)), (2, .ref (B 0)), (3, .ref o)]) (hcl : cells + 12 ≤ 601024) (hsl : slots + 900 ≤ 7293034) (Q : State → Prop) (kk : lwK l G p e s m below meth c b A B o y cells slots Q) (z1 : Int) (z2 : Int) (i : Nat) (hz1 : z1 = i) (hi : i < sn S) (hz2 : rI z2) (hj : ¬ (0 ≤ z2 ∧ z2 < sn S)) (hq1 : xs (5 * t + 1) = zI z1) (hq2 : xs (5 * t + 2) = zI z2) : W p l e room_1 s m #[Value.ref b] below meth c H locs cells slots Q (F0 m 629 ls []) := by
  obtain ⟨hx, hb, hml, hts, hown, hX, hscr, hbl, hgb, hL25⟩ := F
  obtain ⟨hI, ⟨W9, hC⟩, ⟨ct, hM⟩, ho0, go, d1, d2, d3⟩ := id hLI
  have hbA : ¬ gA G b := fun z => by have z : gB G ≤ b := z; omega
  have hI2 : sInv S := hI
  refine lv_aload_n hx hb dL_law_629 rfl (lv_at hl 2 rfl) ?_
  refine lv_aload_n hx hb dL_law_630 rfl (lv_at hl 1 rfl) ?_
  refine lv_iload hx hb dL_law_631 (lv_at hl 0 rfl) ?_
  refine lv_iconst (v := zI 1) hx hb dL_law_633 rfl ?_
  refine gz_iadd hx hb dL_law_634 ?_
  refine gz_sld hx hb hscr hbl hbA hS (5 * t + 1) (by omega) (by omega) (by omega) dL_law_635 ?_
  rw [hq1]
  refine lv_aload_n hx hb dL_law_636 rfl (lv_at hl 1 rfl) ?_
  refine lv_iload hx hb dL_law_637 (lv_at hl 0 rfl) ?_
  refine lv_iconst (v := zI 2) hx hb dL_law_639 rfl ?_
  refine gz_iadd hx hb dL_law_640 ?_
  refine gz_sld hx hb hscr hbl hbA hS (5 * t + 2) (by omega) (by omega) (by omega) dL_law_641 ?_
  rw [hq2]
  refine lv_aload_n hx hb dL_law_642 rfl (lv_at hl 4 rfl) ?_
  refine g_goi (vx_runSX (As := [.ref (A 0), .int (zI z1), .int (zI z2), .ref o]) (rest := []) ⟨hx, hb, hml, hown, hts⟩ (w_shared_e2 l G hlf A TA S W9 H hC hI z1 z2 i hz1 hi hz2 hj o ho0 go d2) (vx_cwSW 4 hts gL_law_L_shared rfl rfl rfl hd_L_shared.2 ⟨(Nat.le_of_ble_eq_true rfl), (Nat.le_of_ble_eq_true rfl)⟩) (g_pre hX hS) rfl rfl hl.1 rfl (lv_room (Nat.le_of_ble_eq_true rfl)) dL_law_643 (⟨by show _ ≤ 601024; omega, by show _ ≤ 7293034; omega⟩)) hS (fun r_643 H_643 locs hp hS => ?_)
  obtain ⟨rfl, hLX, hLU⟩ := hp
  have hM1 := LI.mid hM hLX d1 d3
  refine lv_istore (lv' := [(5, .int (zI 1)), (4, .int (zI y)), (0, .ref b), (1, .ref (A 0)), (2, .ref (B 0)), (3, .ref o)]) hx hb dL_law_646 hl (by decide) rfl (fun ls hl => ?_)
  refine lv_aload_n hx hb dL_law_648 rfl (lv_at hl 4 rfl) ?_
  refine lv_aload_n hx hb dL_law_649 rfl (lv_at hl 2 rfl) ?_
  refine lv_iload hx hb dL_law_650 (lv_at hl 1 rfl) ?_
  refine lv_iconst (v := zI 1) hx hb dL_law_652 rfl ?_
  refine gz_iadd hx hb dL_law_653 ?_
  refine gz_sld hx hb hscr hbl hbA hS (5 * t + 1) (by omega) (by omega) (by omega) dL_law_654 ?_
  rw [hq1]
  refine lv_aload_n hx hb dL_law_655 rfl (lv_at hl 2 rfl) ?_
  refine lv_iload hx hb dL_law_656 (lv_at hl 1 rfl) ?_
  refine lv_iconst (v := zI 2) hx hb dL_law_658 rfl ?_
  refine gz_iadd hx hb dL_law_659 ?_
  refine gz_sld hx hb hscr hbl hbA hS (5 * t + 2) (by omega) (by omega) (by omega) dL_law_660 ?_
  rw [hq2]
  refine g_goi (vx_runV (As := [.int (zI z1), .int (zI z2)]) (rest := []) ⟨hx, hb, hml, hown, hts⟩ (m_shared_e2 l G B S th ct H_643 hM1 hI z1 z2 i hz1 hi hz2 hj) (cwV 2 hts gL_law_X5_shared rfl rfl rfl hd_X5_shared ⟨(Nat.le_of_ble_eq_true rfl), (Nat.le_of_ble_eq_true rfl)⟩) (g_preV hX hS (ci := 5) rfl hM1.1) rfl rfl hl.1 rfl (lv_room (Nat.le_of_ble_eq_true rfl)) dL_law_661 (⟨by show _ ≤ 601024; omega, by show _ ≤ 7293034; omega⟩)) hS (fun r_661 H_661 locs hp hS => ?_)
  obtain ⟨rfl, hMP⟩ := hp
  have hLI2 := LI.fin hI2 hLI hLX hLU hMP
  obtain ⟨⟨ct2, hM2⟩, hKP2⟩ := id hMP
  refine lv_istore (lv' := [(6, .int (zI 0)), (5, .int (zI 1)), (4, .int (zI y)), (0, .ref b), (1, .ref (A 0)), (2, .ref (B 0)), (3, .ref o)]) hx hb dL_law_664 hl (by decide) rfl (fun ls hl => ?_)
  refine lv_aload_n hx hb dL_law_666 rfl (lv_at hl 5 rfl) ?_
  refine g_goi (vx_runV (As := []) (rest := []) ⟨hx, hb, hml, hown, hts⟩ (m_thrown l G B S 1 ct2 H_661 hM2) (cwV 0 hts gL_law_X5_thrown rfl rfl rfl hd_X5_thrown ⟨(Nat.le_of_ble_eq_true rfl), (Nat.le_of_ble_eq_true rfl)⟩) (g_preV hX hS (ci := 5) rfl hM2.1) rfl rfl hl.1 rfl (lv_room (Nat.le_of_ble_eq_true rfl)) dL_law_667 (⟨by show _ ≤ 601024; omega, by show _ ≤ 7293034; omega⟩)) hS (fun r_667 H_667 locs hp hS => ?_)
  obtain ⟨rfl, rfl⟩ := hp
  refine lv_iload hx hb dL_law_670 (lv_at hl 1 rfl) ?_
  refine gz_icmp_eq (tgt := 677) hx hb (by decide) (by decide) dL_law_672 (by decide) (fun c_672 => ?_) (fun c_672 => ?_)
  · refine lv_iload hx hb dL_law_677 (lv_at hl 1 rfl) ?_
    refine gz_if_ne (tgt := 694) hx hb (by decide) dL_law_679 (by decide) (fun c_679 => ?_) (fun c_679 => ?_)
    · refine lv_goto (tgt := 1362) hx hb dL_law_694 (by decide) ?_
      refine W.widen (k := cells + 12) (n := slots + 900) (by omega) (by omega) ?_
      exact kk TA S 1 H_661 locs ls hLI2 hS (lv_sub hl [2, 3, 4, 5, 6] rfl)
    · omega
  · omega
set_option maxHeartbeats 4000000 in
set_option maxRecDepth 100000 in
theorem s_hum_ok (l : Launch) (hlf : l.stackTraces = false) (G : gG) {p : Program} {e : Env} {s : State} {m : MethodId} {below : List Frame} {meth : Method} {c : Code} {b L : Nat} {xs : Nat → Int32} (F : lwF p s m c G b L xs) (A : Nat → Nat) (TA : Nat → Nat → Nat) (B : Nat → Nat) (S : cS) (o : Nat) (th : Int) (H : Heap) (locs : List Loc) (cells slots : Nat) (hLI : LI G A TA B o S th H) (hS : va_S (gA G) s.heap H locs) (t : Nat) (htL : 5 * t + 5 ≤ L) (y : Int) (hy : y = (5 * t : Nat)) (ls : Array Slot) (hl : lv_has ls 7 [(4, .int (zI y)), (0, .ref b), (1, .ref (A 0)), (2, .ref (B 0)), (3, .ref o)]) (hcl : cells + 12 ≤ 601024) (hsl : slots + 900 ≤ 7293034) (Q : State → Prop) (kk : lwK l G p e s m below meth c b A B o y cells slots Q) (p1 : Int) (hp0 : rI p1) (h60 : 0 ≤ p1 ∧ p1 ≤ 60) (h12 : shn S < 12) (hq1 : xs (5 * t + 1) = zI p1) : W p l e room_1 s m #[Value.ref b] below meth c H locs cells slots Q (F0 m 697 ls []) := by
  obtain ⟨hx, hb, hml, hts, hown, hX, hscr, hbl, hgb, hL25⟩ := F
  obtain ⟨hI, ⟨W9, hC⟩, ⟨ct, hM⟩, ho0, go, d1, d2, d3⟩ := id hLI
  have hbA : ¬ gA G b := fun z => by have z : gB G ≤ b := z; omega
  have hI2 : sInv (sHum S p1) := sI_hum hI h60 h12
  refine lv_aload_n hx hb dL_law_697 rfl (lv_at hl 2 rfl) ?_
  refine lv_aload_n hx hb dL_law_698 rfl (lv_at hl 1 rfl) ?_
  refine lv_iload hx hb dL_law_699 (lv_at hl 0 rfl) ?_
  refine lv_iconst (v := zI 1) hx hb dL_law_701 rfl ?_
  refine gz_iadd hx hb dL_law_702 ?_
  refine gz_sld hx hb hscr hbl hbA hS (5 * t + 1) (by omega) (by omega) (by omega) dL_law_703 ?_
  rw [hq1]
  refine lv_aload_n hx hb dL_law_704 rfl (lv_at hl 4 rfl) ?_
  refine g_goi (vx_runSX (As := [.ref (A 0), .int (zI p1), .ref o]) (rest := []) ⟨hx, hb, hml, hown, hts⟩ (w_hum_ok l G A TA S W9 H hC hI p1 hp0 h60 h12 o ho0 go d2) (vx_cwSW 3 hts gL_law_L_hum rfl rfl rfl hd_L_hum.2 ⟨(Nat.le_of_ble_eq_true rfl), (Nat.le_of_ble_eq_true rfl)⟩) (g_pre hX hS) rfl rfl hl.1 rfl (lv_room (Nat.le_of_ble_eq_true rfl)) dL_law_705 (⟨by show _ ≤ 601024; omega, by show _ ≤ 7293034; omega⟩)) hS (fun r_705 H_705 locs hp hS => ?_)
  obtain ⟨rfl, hLX, hLO⟩ := hp
  have hLU := hLO.u
  have hM1 := LI.mid hM hLX d1 d3
  refine lv_istore (lv' := [(5, .int (zI 0)), (4, .int (zI y)), (0, .ref b), (1, .ref (A 0)), (2, .ref (B 0)), (3, .ref o)]) hx hb dL_law_708 hl (by decide) rfl (fun ls hl => ?_)
  refine lv_aload_n hx hb dL_law_710 rfl (lv_at hl 4 rfl) ?_
  refine lv_aload_n hx hb dL_law_711 rfl (lv_at hl 2 rfl) ?_
  refine lv_iload hx hb dL_law_712 (lv_at hl 1 rfl) ?_
  refine lv_iconst (v := zI 1) hx hb dL_law_714 rfl ?_
  refine gz_iadd hx hb dL_law_715 ?_
  refine gz_sld hx hb hscr hbl hbA hS (5 * t + 1) (by omega) (by omega) (by omega) dL_law_716 ?_
  rw [hq1]
  refine g_goi (vx_runV (As := [.int (zI p1)]) (rest := []) ⟨hx, hb, hml, hown, hts⟩ (m_hum_ok l G B S th ct H_705 hM1 hI p1 hp0 h60 h12) (cwV 1 hts gL_law_X5_hum rfl rfl rfl hd_X5_hum ⟨(Nat.le_of_ble_eq_true rfl), (Nat.le_of_ble_eq_true rfl)⟩) (g_preV hX hS (ci := 5) rfl hM1.1) rfl rfl hl.1 rfl (lv_room (Nat.le_of_ble_eq_true rfl)) dL_law_717 (⟨by show _ ≤ 601024; omega, by show _ ≤ 7293034; omega⟩)) hS (fun r_717 H_717 locs hp hS => ?_)
  obtain ⟨rfl, hMP⟩ := hp
  have hLI2 := LI.fin hI2 hLI hLX hLU hMP
  obtain ⟨⟨ct2, hM2⟩, hKP2⟩ := id hMP
  obtain ⟨fo, ho, hfo⟩ := LO.mp hLO hMP d3
  refine lv_istore (lv' := [(6, .int (zI ((shn S + 1 : Nat) : Int))), (5, .int (zI 0)), (4, .int (zI y)), (0, .ref b), (1, .ref (A 0)), (2, .ref (B 0)), (3, .ref o)]) hx hb dL_law_720 hl (by decide) rfl (fun ls hl => ?_)
  refine lv_aload_n hx hb dL_law_722 rfl (lv_at hl 5 rfl) ?_
  refine g_goi (vx_runV (As := []) (rest := []) ⟨hx, hb, hml, hown, hts⟩ (m_thrown l G B (sHum S p1) 0 ct2 H_717 hM2) (cwV 0 hts gL_law_X5_thrown rfl rfl rfl hd_X5_thrown ⟨(Nat.le_of_ble_eq_true rfl), (Nat.le_of_ble_eq_true rfl)⟩) (g_preV hX hS (ci := 5) rfl hM2.1) rfl rfl hl.1 rfl (lv_room (Nat.le_of_ble_eq_true rfl)) dL_law_723 (⟨by show _ ≤ 601024; omega, by show _ ≤ 7293034; omega⟩)) hS (fun r_723 H_723 locs hp hS => ?_)
  obtain ⟨rfl, rfl⟩ := hp
  refine lv_iload hx hb dL_law_726 (lv_at hl 1 rfl) ?_
  refine gz_icmp_eq (tgt := 733) hx hb (by decide) (by decide) dL_law_728 (by decide) (fun c_728 => ?_) (fun c_728 => ?_)
  · refine lv_iload hx hb dL_law_733 (lv_at hl 1 rfl) ?_
    refine gz_if_ne (tgt := 750) hx hb (by decide) dL_law_735 (by decide) (fun c_735 => ?_) (fun c_735 => ?_)
    · omega
    · refine lv_aload_n hx hb dL_law_738 rfl (lv_at hl 6 rfl) ?_
      refine lv_iconst (v := zI 0) hx hb dL_law_739 rfl ?_
      refine gz_lald hx hb hX ho 0 (by omega) (by omega) (by omega) dL_law_740 ?_
      rw [hfo]
      refine lv_iload hx hb dL_law_741 (lv_at hl 0 rfl) ?_
      refine lv_i2l hx hb dL_law_743 rfl ?_
      refine W.lcmp hx hb dL_law_744 ?_
      rw [lgc0]
      refine gz_if_eq (tgt := 750) hx hb (by decide) dL_law_745 (by decide) (fun c_745 => ?_) (fun c_745 => ?_)
      · refine lv_goto (tgt := 1362) hx hb dL_law_750 (by decide) ?_
        refine W.widen (k := cells + 12) (n := slots + 900) (by omega) (by omega) ?_
        exact kk TA (sHum S p1) 0 H_717 locs ls hLI2 hS (lv_sub hl [2, 3, 4, 5, 6] rfl)
      · omega
  · omega
set_option maxHeartbeats 4000000 in
set_option maxRecDepth 100000 in
theorem s_hum_e1 (l : Launch) (hlf : l.stackTraces = false) (G : gG) {p : Program} {e : Env} {s : State} {m : MethodId} {below : List Frame} {meth : Method} {c : Code} {b L : Nat} {xs : Nat → Int32} (F : lwF p s m c G b L xs) (A : Nat → Nat) (TA : Nat → Nat → Nat) (B : Nat → Nat) (S : cS) (o : Nat) (th : Int) (H : Heap) (locs : List Loc) (cells slots : Nat) (hLI : LI G A TA B o S th H) (hS : va_S (gA G) s.heap H locs) (t : Nat) (htL : 5 * t + 5 ≤ L) (y : Int) (hy : y = (5 * t : Nat)) (ls : Array Slot) (hl : lv_has ls 7 [(4, .int (zI y)), (0, .ref b), (1, .ref (A 0)), (2, .ref (B 0)), (3, .ref o)]) (hcl : cells + 12 ≤ 601024) (hsl : slots + 900 ≤ 7293034) (Q : State → Prop) (kk : lwK l G p e s m below meth c b A B o y cells slots Q) (p1 : Int) (hp0 : rI p1) (h60 : ¬ (0 ≤ p1 ∧ p1 ≤ 60)) (hq1 : xs (5 * t + 1) = zI p1) : W p l e room_1 s m #[Value.ref b] below meth c H locs cells slots Q (F0 m 697 ls []) := by
  obtain ⟨hx, hb, hml, hts, hown, hX, hscr, hbl, hgb, hL25⟩ := F
  obtain ⟨hI, ⟨W9, hC⟩, ⟨ct, hM⟩, ho0, go, d1, d2, d3⟩ := id hLI
  have hbA : ¬ gA G b := fun z => by have z : gB G ≤ b := z; omega
  have hI2 : sInv S := hI
  refine lv_aload_n hx hb dL_law_697 rfl (lv_at hl 2 rfl) ?_
  refine lv_aload_n hx hb dL_law_698 rfl (lv_at hl 1 rfl) ?_
  refine lv_iload hx hb dL_law_699 (lv_at hl 0 rfl) ?_
  refine lv_iconst (v := zI 1) hx hb dL_law_701 rfl ?_
  refine gz_iadd hx hb dL_law_702 ?_
  refine gz_sld hx hb hscr hbl hbA hS (5 * t + 1) (by omega) (by omega) (by omega) dL_law_703 ?_
  rw [hq1]
  refine lv_aload_n hx hb dL_law_704 rfl (lv_at hl 4 rfl) ?_
  refine g_goi (vx_runSX (As := [.ref (A 0), .int (zI p1), .ref o]) (rest := []) ⟨hx, hb, hml, hown, hts⟩ (w_hum_e1 l G hlf A TA S W9 H hC hI p1 hp0 h60 o ho0 go d2) (vx_cwSW 3 hts gL_law_L_hum rfl rfl rfl hd_L_hum.2 ⟨(Nat.le_of_ble_eq_true rfl), (Nat.le_of_ble_eq_true rfl)⟩) (g_pre hX hS) rfl rfl hl.1 rfl (lv_room (Nat.le_of_ble_eq_true rfl)) dL_law_705 (⟨by show _ ≤ 601024; omega, by show _ ≤ 7293034; omega⟩)) hS (fun r_705 H_705 locs hp hS => ?_)
  obtain ⟨rfl, hLX, hLU⟩ := hp
  have hM1 := LI.mid hM hLX d1 d3
  refine lv_istore (lv' := [(5, .int (zI 1)), (4, .int (zI y)), (0, .ref b), (1, .ref (A 0)), (2, .ref (B 0)), (3, .ref o)]) hx hb dL_law_708 hl (by decide) rfl (fun ls hl => ?_)
  refine lv_aload_n hx hb dL_law_710 rfl (lv_at hl 4 rfl) ?_
  refine lv_aload_n hx hb dL_law_711 rfl (lv_at hl 2 rfl) ?_
  refine lv_iload hx hb dL_law_712 (lv_at hl 1 rfl) ?_
  refine lv_iconst (v := zI 1) hx hb dL_law_714 rfl ?_
  refine gz_iadd hx hb dL_law_715 ?_
  refine gz_sld hx hb hscr hbl hbA hS (5 * t + 1) (by omega) (by omega) (by omega) dL_law_716 ?_
  rw [hq1]
  refine g_goi (vx_runV (As := [.int (zI p1)]) (rest := []) ⟨hx, hb, hml, hown, hts⟩ (m_hum_e1 l G B S th ct H_705 hM1 hI p1 hp0 h60) (cwV 1 hts gL_law_X5_hum rfl rfl rfl hd_X5_hum ⟨(Nat.le_of_ble_eq_true rfl), (Nat.le_of_ble_eq_true rfl)⟩) (g_preV hX hS (ci := 5) rfl hM1.1) rfl rfl hl.1 rfl (lv_room (Nat.le_of_ble_eq_true rfl)) dL_law_717 (⟨by show _ ≤ 601024; omega, by show _ ≤ 7293034; omega⟩)) hS (fun r_717 H_717 locs hp hS => ?_)
  obtain ⟨rfl, hMP⟩ := hp
  have hLI2 := LI.fin hI2 hLI hLX hLU hMP
  obtain ⟨⟨ct2, hM2⟩, hKP2⟩ := id hMP
  refine lv_istore (lv' := [(6, .int (zI 0)), (5, .int (zI 1)), (4, .int (zI y)), (0, .ref b), (1, .ref (A 0)), (2, .ref (B 0)), (3, .ref o)]) hx hb dL_law_720 hl (by decide) rfl (fun ls hl => ?_)
  refine lv_aload_n hx hb dL_law_722 rfl (lv_at hl 5 rfl) ?_
  refine g_goi (vx_runV (As := []) (rest := []) ⟨hx, hb, hml, hown, hts⟩ (m_thrown l G B S 1 ct2 H_717 hM2) (cwV 0 hts gL_law_X5_thrown rfl rfl rfl hd_X5_thrown ⟨(Nat.le_of_ble_eq_true rfl), (Nat.le_of_ble_eq_true rfl)⟩) (g_preV hX hS (ci := 5) rfl hM2.1) rfl rfl hl.1 rfl (lv_room (Nat.le_of_ble_eq_true rfl)) dL_law_723 (⟨by show _ ≤ 601024; omega, by show _ ≤ 7293034; omega⟩)) hS (fun r_723 H_723 locs hp hS => ?_)
  obtain ⟨rfl, rfl⟩ := hp
  refine lv_iload hx hb dL_law_726 (lv_at hl 1 rfl) ?_
  refine gz_icmp_eq (tgt := 733) hx hb (by decide) (by decide) dL_law_728 (by decide) (fun c_728 => ?_) (fun c_728 => ?_)
  · refine lv_iload hx hb dL_law_733 (lv_at hl 1 rfl) ?_
    refine gz_if_ne (tgt := 750) hx hb (by decide) dL_law_735 (by decide) (fun c_735 => ?_) (fun c_735 => ?_)
    · refine lv_goto (tgt := 1362) hx hb dL_law_750 (by decide) ?_
      refine W.widen (k := cells + 12) (n := slots + 900) (by omega) (by omega) ?_
      exact kk TA S 1 H_717 locs ls hLI2 hS (lv_sub hl [2, 3, 4, 5, 6] rfl)
    · omega
  · omega
set_option maxHeartbeats 4000000 in
set_option maxRecDepth 100000 in
theorem s_hum_e2 (l : Launch) (hlf : l.stackTraces = false) (G : gG) {p : Program} {e : Env} {s : State} {m : MethodId} {below : List Frame} {meth : Method} {c : Code} {b L : Nat} {xs : Nat → Int32} (F : lwF p s m c G b L xs) (A : Nat → Nat) (TA : Nat → Nat → Nat) (B : Nat → Nat) (S : cS) (o : Nat) (th : Int) (H : Heap) (locs : List Loc) (cells slots : Nat) (hLI : LI G A TA B o S th H) (hS : va_S (gA G) s.heap H locs) (t : Nat) (htL : 5 * t + 5 ≤ L) (y : Int) (hy : y = (5 * t : Nat)) (ls : Array Slot) (hl : lv_has ls 7 [(4, .int (zI y)), (0, .ref b), (1, .ref (A 0)), (2, .ref (B 0)), (3, .ref o)]) (hcl : cells + 12 ≤ 601024) (hsl : slots + 900 ≤ 7293034) (Q : State → Prop) (kk : lwK l G p e s m below meth c b A B o y cells slots Q) (p1 : Int) (hp0 : rI p1) (h60 : 0 ≤ p1 ∧ p1 ≤ 60) (h12 : ¬ shn S < 12) (hq1 : xs (5 * t + 1) = zI p1) : W p l e room_1 s m #[Value.ref b] below meth c H locs cells slots Q (F0 m 697 ls []) := by
  obtain ⟨hx, hb, hml, hts, hown, hX, hscr, hbl, hgb, hL25⟩ := F
  obtain ⟨hI, ⟨W9, hC⟩, ⟨ct, hM⟩, ho0, go, d1, d2, d3⟩ := id hLI
  have hbA : ¬ gA G b := fun z => by have z : gB G ≤ b := z; omega
  have hI2 : sInv S := hI
  refine lv_aload_n hx hb dL_law_697 rfl (lv_at hl 2 rfl) ?_
  refine lv_aload_n hx hb dL_law_698 rfl (lv_at hl 1 rfl) ?_
  refine lv_iload hx hb dL_law_699 (lv_at hl 0 rfl) ?_
  refine lv_iconst (v := zI 1) hx hb dL_law_701 rfl ?_
  refine gz_iadd hx hb dL_law_702 ?_
  refine gz_sld hx hb hscr hbl hbA hS (5 * t + 1) (by omega) (by omega) (by omega) dL_law_703 ?_
  rw [hq1]
  refine lv_aload_n hx hb dL_law_704 rfl (lv_at hl 4 rfl) ?_
  refine g_goi (vx_runSX (As := [.ref (A 0), .int (zI p1), .ref o]) (rest := []) ⟨hx, hb, hml, hown, hts⟩ (w_hum_e2 l G hlf A TA S W9 H hC hI p1 hp0 h60 h12 o ho0 go d2) (vx_cwSW 3 hts gL_law_L_hum rfl rfl rfl hd_L_hum.2 ⟨(Nat.le_of_ble_eq_true rfl), (Nat.le_of_ble_eq_true rfl)⟩) (g_pre hX hS) rfl rfl hl.1 rfl (lv_room (Nat.le_of_ble_eq_true rfl)) dL_law_705 (⟨by show _ ≤ 601024; omega, by show _ ≤ 7293034; omega⟩)) hS (fun r_705 H_705 locs hp hS => ?_)
  obtain ⟨rfl, hLX, hLU⟩ := hp
  have hM1 := LI.mid hM hLX d1 d3
  refine lv_istore (lv' := [(5, .int (zI 2)), (4, .int (zI y)), (0, .ref b), (1, .ref (A 0)), (2, .ref (B 0)), (3, .ref o)]) hx hb dL_law_708 hl (by decide) rfl (fun ls hl => ?_)
  refine lv_aload_n hx hb dL_law_710 rfl (lv_at hl 4 rfl) ?_
  refine lv_aload_n hx hb dL_law_711 rfl (lv_at hl 2 rfl) ?_
  refine lv_iload hx hb dL_law_712 (lv_at hl 1 rfl) ?_
  refine lv_iconst (v := zI 1) hx hb dL_law_714 rfl ?_
  refine gz_iadd hx hb dL_law_715 ?_
  refine gz_sld hx hb hscr hbl hbA hS (5 * t + 1) (by omega) (by omega) (by omega) dL_law_716 ?_
  rw [hq1]
  refine g_goi (vx_runV (As := [.int (zI p1)]) (rest := []) ⟨hx, hb, hml, hown, hts⟩ (m_hum_e2 l G B S th ct H_705 hM1 hI p1 hp0 h60 h12) (cwV 1 hts gL_law_X5_hum rfl rfl rfl hd_X5_hum ⟨(Nat.le_of_ble_eq_true rfl), (Nat.le_of_ble_eq_true rfl)⟩) (g_preV hX hS (ci := 5) rfl hM1.1) rfl rfl hl.1 rfl (lv_room (Nat.le_of_ble_eq_true rfl)) dL_law_717 (⟨by show _ ≤ 601024; omega, by show _ ≤ 7293034; omega⟩)) hS (fun r_717 H_717 locs hp hS => ?_)
  obtain ⟨rfl, hMP⟩ := hp
  have hLI2 := LI.fin hI2 hLI hLX hLU hMP
  obtain ⟨⟨ct2, hM2⟩, hKP2⟩ := id hMP
  refine lv_istore (lv' := [(6, .int (zI 0)), (5, .int (zI 2)), (4, .int (zI y)), (0, .ref b), (1, .ref (A 0)), (2, .ref (B 0)), (3, .ref o)]) hx hb dL_law_720 hl (by decide) rfl (fun ls hl => ?_)
  refine lv_aload_n hx hb dL_law_722 rfl (lv_at hl 5 rfl) ?_
  refine g_goi (vx_runV (As := []) (rest := []) ⟨hx, hb, hml, hown, hts⟩ (m_thrown l G B S 2 ct2 H_717 hM2) (cwV 0 hts gL_law_X5_thrown rfl rfl rfl hd_X5_thrown ⟨(Nat.le_of_ble_eq_true rfl), (Nat.le_of_ble_eq_true rfl)⟩) (g_preV hX hS (ci := 5) rfl hM2.1) rfl rfl hl.1 rfl (lv_room (Nat.le_of_ble_eq_true rfl)) dL_law_723 (⟨by show _ ≤ 601024; omega, by show _ ≤ 7293034; omega⟩)) hS (fun r_723 H_723 locs hp hS => ?_)
  obtain ⟨rfl, rfl⟩ := hp
  refine lv_iload hx hb dL_law_726 (lv_at hl 1 rfl) ?_
  refine gz_icmp_eq (tgt := 733) hx hb (by decide) (by decide) dL_law_728 (by decide) (fun c_728 => ?_) (fun c_728 => ?_)
  · refine lv_iload hx hb dL_law_733 (lv_at hl 1 rfl) ?_
    refine gz_if_ne (tgt := 750) hx hb (by decide) dL_law_735 (by decide) (fun c_735 => ?_) (fun c_735 => ?_)
    · refine lv_goto (tgt := 1362) hx hb dL_law_750 (by decide) ?_
      refine W.widen (k := cells + 12) (n := slots + 900) (by omega) (by omega) ?_
      exact kk TA S 2 H_717 locs ls hLI2 hS (lv_sub hl [2, 3, 4, 5, 6] rfl)
    · omega
  · omega
set_option maxHeartbeats 4000000 in
set_option maxRecDepth 100000 in
theorem s_hush_ok (l : Launch) (hlf : l.stackTraces = false) (G : gG) {p : Program} {e : Env} {s : State} {m : MethodId} {below : List Frame} {meth : Method} {c : Code} {b L : Nat} {xs : Nat → Int32} (F : lwF p s m c G b L xs) (A : Nat → Nat) (TA : Nat → Nat → Nat) (B : Nat → Nat) (S : cS) (o : Nat) (th : Int) (H : Heap) (locs : List Loc) (cells slots : Nat) (hLI : LI G A TA B o S th H) (hS : va_S (gA G) s.heap H locs) (t : Nat) (htL : 5 * t + 5 ≤ L) (y : Int) (hy : y = (5 * t : Nat)) (ls : Array Slot) (hl : lv_has ls 7 [(4, .int (zI y)), (0, .ref b), (1, .ref (A 0)), (2, .ref (B 0)), (3, .ref o)]) (hcl : cells + 12 ≤ 601024) (hsl : slots + 900 ≤ 7293034) (Q : State → Prop) (kk : lwK l G p e s m below meth c b A B o y cells slots Q)  : W p l e room_1 s m #[Value.ref b] below meth c H locs cells slots Q (F0 m 753 ls []) := by
  obtain ⟨hx, hb, hml, hts, hown, hX, hscr, hbl, hgb, hL25⟩ := F
  obtain ⟨hI, ⟨W9, hC⟩, ⟨ct, hM⟩, ho0, go, d1, d2, d3⟩ := id hLI
  have hbA : ¬ gA G b := fun z => by have z : gB G ≤ b := z; omega
  have hI2 : sInv (sHush S) := sI_hush hI
  refine lv_aload_n hx hb dL_law_753 rfl (lv_at hl 2 rfl) ?_
  refine g_goi (vx_runV (As := []) (rest := []) ⟨hx, hb, hml, hown, hts⟩ (x_hush l G A TA S W9 H hC hI ) (cwV 0 hts gL_law_X4_hush rfl rfl rfl hd_X4_hush ⟨(Nat.le_of_ble_eq_true rfl), (Nat.le_of_ble_eq_true rfl)⟩) (g_preV hX hS (ci := 4) rfl hC.1) rfl rfl hl.1 rfl (lv_room (Nat.le_of_ble_eq_true rfl)) dL_law_754 (⟨by show _ ≤ 601024; omega, by show _ ≤ 7293034; omega⟩)) hS (fun r_754 H_754 locs hp hS => ?_)
  obtain ⟨rfl, hxp⟩ := hp
  have hLX := LX.xp o hxp rfl
  have hLU := ho0.kp hxp.2 d2
  have hM1 := LI.mid hM hLX d1 d3
  refine W.eq (g2 := F0 m 757 ls [.int (zI (shn S : Int))]) rfl ?_
  refine lv_aload_n hx hb dL_law_757 rfl (lv_at hl 3 rfl) ?_
  refine g_goi (vx_runV (As := []) (rest := [.int (zI (shn S : Int))]) ⟨hx, hb, hml, hown, hts⟩ (m_hush l G B S th ct H_754 hM1 hI ) (cwV 0 hts gL_law_X5_hush rfl rfl rfl hd_X5_hush ⟨(Nat.le_of_ble_eq_true rfl), (Nat.le_of_ble_eq_true rfl)⟩) (g_preV hX hS (ci := 5) rfl hM1.1) rfl rfl hl.1 rfl (lv_room (Nat.le_of_ble_eq_true rfl)) dL_law_758 (⟨by show _ ≤ 601024; omega, by show _ ≤ 7293034; omega⟩)) hS (fun r_758 H_758 locs hp hS => ?_)
  obtain ⟨rfl, hMP⟩ := hp
  have hLI2 := LI.fin hI2 hLI hLX hLU hMP
  obtain ⟨⟨ct2, hM2⟩, hKP2⟩ := id hMP
  refine lv_icmp_eq (tgt := 1362) hx hb dL_law_761 (by decide) (fun c_761 => ?_) (fun c_761 => ?_)
  · refine W.widen (k := cells + 12) (n := slots + 900) (by omega) (by omega) ?_
    exact kk TA (sHush S) 0 H_758 locs ls hLI2 hS (lv_sub hl [0, 1, 2, 3, 4] rfl)
  · exact (c_761 rfl).elim
set_option maxHeartbeats 4000000 in
set_option maxRecDepth 100000 in
theorem s_hummed_ok (l : Launch) (hlf : l.stackTraces = false) (G : gG) {p : Program} {e : Env} {s : State} {m : MethodId} {below : List Frame} {meth : Method} {c : Code} {b L : Nat} {xs : Nat → Int32} (F : lwF p s m c G b L xs) (A : Nat → Nat) (TA : Nat → Nat → Nat) (B : Nat → Nat) (S : cS) (o : Nat) (th : Int) (H : Heap) (locs : List Loc) (cells slots : Nat) (hLI : LI G A TA B o S th H) (hS : va_S (gA G) s.heap H locs) (t : Nat) (htL : 5 * t + 5 ≤ L) (y : Int) (hy : y = (5 * t : Nat)) (ls : Array Slot) (hl : lv_has ls 7 [(4, .int (zI y)), (0, .ref b), (1, .ref (A 0)), (2, .ref (B 0)), (3, .ref o)]) (hcl : cells + 12 ≤ 601024) (hsl : slots + 900 ≤ 7293034) (Q : State → Prop) (kk : lwK l G p e s m below meth c b A B o y cells slots Q)  : W p l e room_1 s m #[Value.ref b] below meth c H locs cells slots Q (F0 m 766 ls []) := by
  obtain ⟨hx, hb, hml, hts, hown, hX, hscr, hbl, hgb, hL25⟩ := F
  obtain ⟨hI, ⟨W9, hC⟩, ⟨ct, hM⟩, ho0, go, d1, d2, d3⟩ := id hLI
  have hbA : ¬ gA G b := fun z => by have z : gB G ≤ b := z; omega
  have hI2 : sInv S := hI
  refine lv_aload_n hx hb dL_law_766 rfl (lv_at hl 2 rfl) ?_
  refine g_goi (vx_runV (As := []) (rest := []) ⟨hx, hb, hml, hown, hts⟩ (x_hummed l G A TA S W9 H hC hI ) (cwV 0 hts gL_law_X4_hummed rfl rfl rfl hd_X4_hummed ⟨(Nat.le_of_ble_eq_true rfl), (Nat.le_of_ble_eq_true rfl)⟩) (g_preV hX hS (ci := 4) rfl hC.1) rfl rfl hl.1 rfl (lv_room (Nat.le_of_ble_eq_true rfl)) dL_law_767 (⟨by show _ ≤ 601024; omega, by show _ ≤ 7293034; omega⟩)) hS (fun r_767 H_767 locs hp hS => ?_)
  obtain ⟨rfl, rfl⟩ := hp
  have hLX := LX.same o hC
  have hLU := ho0
  have hM1 := LI.mid hM hLX d1 d3
  refine W.eq (g2 := F0 m 770 ls [.int (zI (shn S : Int))]) rfl ?_
  refine lv_aload_n hx hb dL_law_770 rfl (lv_at hl 3 rfl) ?_
  refine g_goi (vx_runV (As := []) (rest := [.int (zI (shn S : Int))]) ⟨hx, hb, hml, hown, hts⟩ (m_hummed l G B S th ct H hM1 hI ) (cwV 0 hts gL_law_X5_hummed rfl rfl rfl hd_X5_hummed ⟨(Nat.le_of_ble_eq_true rfl), (Nat.le_of_ble_eq_true rfl)⟩) (g_preV hX hS (ci := 5) rfl hM1.1) rfl rfl hl.1 rfl (lv_room (Nat.le_of_ble_eq_true rfl)) dL_law_771 (⟨by show _ ≤ 601024; omega, by show _ ≤ 7293034; omega⟩)) hS (fun r_771 H_771 locs hp hS => ?_)
  obtain ⟨rfl, hMP⟩ := hp
  have hLI2 := LI.fin hI2 hLI hLX hLU hMP
  obtain ⟨⟨ct2, hM2⟩, hKP2⟩ := id hMP
  refine lv_icmp_eq (tgt := 1362) hx hb dL_law_774 (by decide) (fun c_774 => ?_) (fun c_774 => ?_)
  · refine W.widen (k := cells + 12) (n := slots + 900) (by omega) (by omega) ?_
    exact kk TA S 0 H_771 locs ls hLI2 hS (lv_sub hl [0, 1, 2, 3, 4] rfl)
  · exact (c_774 rfl).elim
set_option maxHeartbeats 4000000 in
set_option maxRecDepth 100000 in
theorem s_setCosts_ok (l : Launch) (hlf : l.stackTraces = false) (G : gG) {p : Program} {e : Env} {s : State} {m : MethodId} {below : List Frame} {meth : Method} {c : Code} {b L : Nat} {xs : Nat → Int32} (F : lwF p s m c G b L xs) (A : Nat → Nat) (TA : Nat → Nat → Nat) (B : Nat → Nat) (S : cS) (o : Nat) (th : Int) (H : Heap) (locs : List Loc) (cells slots : Nat) (hLI : LI G A TA B o S th H) (hS : va_S (gA G) s.heap H locs) (t : Nat) (htL : 5 * t + 5 ≤ L) (y : Int) (hy : y = (5 * t : Nat)) (ls : Array Slot) (hl : lv_has ls 7 [(4, .int (zI y)), (0, .ref b), (1, .ref (A 0)), (2, .ref (B 0)), (3, .ref o)]) (hcl : cells + 12 ≤ 601024) (hsl : slots + 900 ≤ 7293034) (Q : State → Prop) (kk : lwK l G p e s m below meth c b A B o y cells slots Q) (c1 : Int) (c2 : Int) (c3 : Int) (hc1 : rI c1) (hc2 : rI c2) (hc3 : rI c3) (h : (0 ≤ c1 ∧ c1 ≤ 20) ∧ (0 ≤ c2 ∧ c2 ≤ 20) ∧ 0 ≤ c3 ∧ c3 ≤ 20) (hq1 : xs (5 * t + 1) = zI c1) (hq2 : xs (5 * t + 2) = zI c2) (hq3 : xs (5 * t + 3) = zI c3) : W p l e room_1 s m #[Value.ref b] below meth c H locs cells slots Q (F0 m 779 ls []) := by
  obtain ⟨hx, hb, hml, hts, hown, hX, hscr, hbl, hgb, hL25⟩ := F
  obtain ⟨hI, ⟨W9, hC⟩, ⟨ct, hM⟩, ho0, go, d1, d2, d3⟩ := id hLI
  have hbA : ¬ gA G b := fun z => by have z : gB G ≤ b := z; omega
  have hI2 : sInv (sCost S c1 c2 c3) := sI_cost hI h.1 h.2.1 h.2.2
  refine lv_aload_n hx hb dL_law_779 rfl (lv_at hl 2 rfl) ?_
  refine lv_aload_n hx hb dL_law_780 rfl (lv_at hl 1 rfl) ?_
  refine lv_iload hx hb dL_law_781 (lv_at hl 0 rfl) ?_
  refine lv_iconst (v := zI 1) hx hb dL_law_783 rfl ?_
  refine gz_iadd hx hb dL_law_784 ?_
  refine gz_sld hx hb hscr hbl hbA hS (5 * t + 1) (by omega) (by omega) (by omega) dL_law_785 ?_
  rw [hq1]
  refine lv_aload_n hx hb dL_law_786 rfl (lv_at hl 1 rfl) ?_
  refine lv_iload hx hb dL_law_787 (lv_at hl 0 rfl) ?_
  refine lv_iconst (v := zI 2) hx hb dL_law_789 rfl ?_
  refine gz_iadd hx hb dL_law_790 ?_
  refine gz_sld hx hb hscr hbl hbA hS (5 * t + 2) (by omega) (by omega) (by omega) dL_law_791 ?_
  rw [hq2]
  refine lv_aload_n hx hb dL_law_792 rfl (lv_at hl 1 rfl) ?_
  refine lv_iload hx hb dL_law_793 (lv_at hl 0 rfl) ?_
  refine lv_iconst (v := zI 3) hx hb dL_law_795 rfl ?_
  refine gz_iadd hx hb dL_law_796 ?_
  refine gz_sld hx hb hscr hbl hbA hS (5 * t + 3) (by omega) (by omega) (by omega) dL_law_797 ?_
  rw [hq3]
  refine g_goi (vx_runSX (As := [.ref (A 0), .int (zI c1), .int (zI c2), .int (zI c3)]) (rest := []) ⟨hx, hb, hml, hown, hts⟩ (w_setCosts_ok l G A TA S W9 H hC hI c1 c2 c3 hc1 hc2 hc3 h o ho0 go d2) (vx_cwSW 4 hts gL_law_L_setCosts rfl rfl rfl hd_L_setCosts.2 ⟨(Nat.le_of_ble_eq_true rfl), (Nat.le_of_ble_eq_true rfl)⟩) (g_pre hX hS) rfl rfl hl.1 rfl (lv_room (Nat.le_of_ble_eq_true rfl)) dL_law_798 (⟨by show _ ≤ 601024; omega, by show _ ≤ 7293034; omega⟩)) hS (fun r_798 H_798 locs hp hS => ?_)
  obtain ⟨rfl, hLX, hLU⟩ := hp
  have hM1 := LI.mid hM hLX d1 d3
  refine lv_istore (lv' := [(5, .int (zI 0)), (4, .int (zI y)), (0, .ref b), (1, .ref (A 0)), (2, .ref (B 0)), (3, .ref o)]) hx hb dL_law_801 hl (by decide) rfl (fun ls hl => ?_)
  refine lv_aload_n hx hb dL_law_803 rfl (lv_at hl 4 rfl) ?_
  refine lv_aload_n hx hb dL_law_804 rfl (lv_at hl 2 rfl) ?_
  refine lv_iload hx hb dL_law_805 (lv_at hl 1 rfl) ?_
  refine lv_iconst (v := zI 1) hx hb dL_law_807 rfl ?_
  refine gz_iadd hx hb dL_law_808 ?_
  refine gz_sld hx hb hscr hbl hbA hS (5 * t + 1) (by omega) (by omega) (by omega) dL_law_809 ?_
  rw [hq1]
  refine lv_aload_n hx hb dL_law_810 rfl (lv_at hl 2 rfl) ?_
  refine lv_iload hx hb dL_law_811 (lv_at hl 1 rfl) ?_
  refine lv_iconst (v := zI 2) hx hb dL_law_813 rfl ?_
  refine gz_iadd hx hb dL_law_814 ?_
  refine gz_sld hx hb hscr hbl hbA hS (5 * t + 2) (by omega) (by omega) (by omega) dL_law_815 ?_
  rw [hq2]
  refine lv_aload_n hx hb dL_law_816 rfl (lv_at hl 2 rfl) ?_
  refine lv_iload hx hb dL_law_817 (lv_at hl 1 rfl) ?_
  refine lv_iconst (v := zI 3) hx hb dL_law_819 rfl ?_
  refine gz_iadd hx hb dL_law_820 ?_
  refine gz_sld hx hb hscr hbl hbA hS (5 * t + 3) (by omega) (by omega) (by omega) dL_law_821 ?_
  rw [hq3]
  refine g_gov (vx_runV (As := [.int (zI c1), .int (zI c2), .int (zI c3)]) (rest := []) ⟨hx, hb, hml, hown, hts⟩ (m_setCosts_ok l G B S th ct H_798 hM1 hI c1 c2 c3 hc1 hc2 hc3 h) (cwV 3 hts gL_law_X5_setCosts rfl rfl rfl hd_X5_setCosts ⟨(Nat.le_of_ble_eq_true rfl), (Nat.le_of_ble_eq_true rfl)⟩) (g_preV hX hS (ci := 5) rfl hM1.1) rfl rfl hl.1 rfl (lv_room (Nat.le_of_ble_eq_true rfl)) dL_law_822 (⟨by show _ ≤ 601024; omega, by show _ ≤ 7293034; omega⟩)) hS (fun H_822 locs hp hS => ?_)
  have hMP := hp
  have hLI2 := LI.fin hI2 hLI hLX hLU hMP
  obtain ⟨⟨ct2, hM2⟩, hKP2⟩ := id hMP
  refine lv_aload_n hx hb dL_law_825 rfl (lv_at hl 4 rfl) ?_
  refine g_goi (vx_runV (As := []) (rest := []) ⟨hx, hb, hml, hown, hts⟩ (m_thrown l G B (sCost S c1 c2 c3) 0 ct2 H_822 hM2) (cwV 0 hts gL_law_X5_thrown rfl rfl rfl hd_X5_thrown ⟨(Nat.le_of_ble_eq_true rfl), (Nat.le_of_ble_eq_true rfl)⟩) (g_preV hX hS (ci := 5) rfl hM2.1) rfl rfl hl.1 rfl (lv_room (Nat.le_of_ble_eq_true rfl)) dL_law_826 (⟨by show _ ≤ 601024; omega, by show _ ≤ 7293034; omega⟩)) hS (fun r_826 H_826 locs hp hS => ?_)
  obtain ⟨rfl, rfl⟩ := hp
  refine lv_iload hx hb dL_law_829 (lv_at hl 0 rfl) ?_
  refine gz_icmp_eq (tgt := 836) hx hb (by decide) (by decide) dL_law_831 (by decide) (fun c_831 => ?_) (fun c_831 => ?_)
  · refine lv_goto (tgt := 1362) hx hb dL_law_836 (by decide) ?_
    refine W.widen (k := cells + 12) (n := slots + 900) (by omega) (by omega) ?_
    exact kk TA (sCost S c1 c2 c3) 0 H_822 locs ls hLI2 hS (lv_sub hl [1, 2, 3, 4, 5] rfl)
  · omega
set_option maxHeartbeats 4000000 in
set_option maxRecDepth 100000 in
theorem s_setCosts_e1 (l : Launch) (hlf : l.stackTraces = false) (G : gG) {p : Program} {e : Env} {s : State} {m : MethodId} {below : List Frame} {meth : Method} {c : Code} {b L : Nat} {xs : Nat → Int32} (F : lwF p s m c G b L xs) (A : Nat → Nat) (TA : Nat → Nat → Nat) (B : Nat → Nat) (S : cS) (o : Nat) (th : Int) (H : Heap) (locs : List Loc) (cells slots : Nat) (hLI : LI G A TA B o S th H) (hS : va_S (gA G) s.heap H locs) (t : Nat) (htL : 5 * t + 5 ≤ L) (y : Int) (hy : y = (5 * t : Nat)) (ls : Array Slot) (hl : lv_has ls 7 [(4, .int (zI y)), (0, .ref b), (1, .ref (A 0)), (2, .ref (B 0)), (3, .ref o)]) (hcl : cells + 12 ≤ 601024) (hsl : slots + 900 ≤ 7293034) (Q : State → Prop) (kk : lwK l G p e s m below meth c b A B o y cells slots Q) (c1 : Int) (c2 : Int) (c3 : Int) (hc1 : rI c1) (hc2 : rI c2) (hc3 : rI c3) (h : ¬ (0 ≤ c1 ∧ c1 ≤ 20)) (hq1 : xs (5 * t + 1) = zI c1) (hq2 : xs (5 * t + 2) = zI c2) (hq3 : xs (5 * t + 3) = zI c3) : W p l e room_1 s m #[Value.ref b] below meth c H locs cells slots Q (F0 m 779 ls []) := by
  obtain ⟨hx, hb, hml, hts, hown, hX, hscr, hbl, hgb, hL25⟩ := F
  obtain ⟨hI, ⟨W9, hC⟩, ⟨ct, hM⟩, ho0, go, d1, d2, d3⟩ := id hLI
  have hbA : ¬ gA G b := fun z => by have z : gB G ≤ b := z; omega
  have hI2 : sInv S := hI
  refine lv_aload_n hx hb dL_law_779 rfl (lv_at hl 2 rfl) ?_
  refine lv_aload_n hx hb dL_law_780 rfl (lv_at hl 1 rfl) ?_
  refine lv_iload hx hb dL_law_781 (lv_at hl 0 rfl) ?_
  refine lv_iconst (v := zI 1) hx hb dL_law_783 rfl ?_
  refine gz_iadd hx hb dL_law_784 ?_
  refine gz_sld hx hb hscr hbl hbA hS (5 * t + 1) (by omega) (by omega) (by omega) dL_law_785 ?_
  rw [hq1]
  refine lv_aload_n hx hb dL_law_786 rfl (lv_at hl 1 rfl) ?_
  refine lv_iload hx hb dL_law_787 (lv_at hl 0 rfl) ?_
  refine lv_iconst (v := zI 2) hx hb dL_law_789 rfl ?_
  refine gz_iadd hx hb dL_law_790 ?_
  refine gz_sld hx hb hscr hbl hbA hS (5 * t + 2) (by omega) (by omega) (by omega) dL_law_791 ?_
  rw [hq2]
  refine lv_aload_n hx hb dL_law_792 rfl (lv_at hl 1 rfl) ?_
  refine lv_iload hx hb dL_law_793 (lv_at hl 0 rfl) ?_
  refine lv_iconst (v := zI 3) hx hb dL_law_795 rfl ?_
  refine gz_iadd hx hb dL_law_796 ?_
  refine gz_sld hx hb hscr hbl hbA hS (5 * t + 3) (by omega) (by omega) (by omega) dL_law_797 ?_
  rw [hq3]
  refine g_goi (vx_runSX (As := [.ref (A 0), .int (zI c1), .int (zI c2), .int (zI c3)]) (rest := []) ⟨hx, hb, hml, hown, hts⟩ (w_setCosts_e1 l G hlf A TA S W9 H hC hI c1 c2 c3 hc1 hc2 hc3 h o ho0 go d2) (vx_cwSW 4 hts gL_law_L_setCosts rfl rfl rfl hd_L_setCosts.2 ⟨(Nat.le_of_ble_eq_true rfl), (Nat.le_of_ble_eq_true rfl)⟩) (g_pre hX hS) rfl rfl hl.1 rfl (lv_room (Nat.le_of_ble_eq_true rfl)) dL_law_798 (⟨by show _ ≤ 601024; omega, by show _ ≤ 7293034; omega⟩)) hS (fun r_798 H_798 locs hp hS => ?_)
  obtain ⟨rfl, hLX, hLU⟩ := hp
  have hM1 := LI.mid hM hLX d1 d3
  refine lv_istore (lv' := [(5, .int (zI 1)), (4, .int (zI y)), (0, .ref b), (1, .ref (A 0)), (2, .ref (B 0)), (3, .ref o)]) hx hb dL_law_801 hl (by decide) rfl (fun ls hl => ?_)
  refine lv_aload_n hx hb dL_law_803 rfl (lv_at hl 4 rfl) ?_
  refine lv_aload_n hx hb dL_law_804 rfl (lv_at hl 2 rfl) ?_
  refine lv_iload hx hb dL_law_805 (lv_at hl 1 rfl) ?_
  refine lv_iconst (v := zI 1) hx hb dL_law_807 rfl ?_
  refine gz_iadd hx hb dL_law_808 ?_
  refine gz_sld hx hb hscr hbl hbA hS (5 * t + 1) (by omega) (by omega) (by omega) dL_law_809 ?_
  rw [hq1]
  refine lv_aload_n hx hb dL_law_810 rfl (lv_at hl 2 rfl) ?_
  refine lv_iload hx hb dL_law_811 (lv_at hl 1 rfl) ?_
  refine lv_iconst (v := zI 2) hx hb dL_law_813 rfl ?_
  refine gz_iadd hx hb dL_law_814 ?_
  refine gz_sld hx hb hscr hbl hbA hS (5 * t + 2) (by omega) (by omega) (by omega) dL_law_815 ?_
  rw [hq2]
  refine lv_aload_n hx hb dL_law_816 rfl (lv_at hl 2 rfl) ?_
  refine lv_iload hx hb dL_law_817 (lv_at hl 1 rfl) ?_
  refine lv_iconst (v := zI 3) hx hb dL_law_819 rfl ?_
  refine gz_iadd hx hb dL_law_820 ?_
  refine gz_sld hx hb hscr hbl hbA hS (5 * t + 3) (by omega) (by omega) (by omega) dL_law_821 ?_
  rw [hq3]
  refine g_gov (vx_runV (As := [.int (zI c1), .int (zI c2), .int (zI c3)]) (rest := []) ⟨hx, hb, hml, hown, hts⟩ (m_setCosts_1 l G B S th ct H_798 hM1 hI c1 c2 c3 hc1 hc2 hc3 h) (cwV 3 hts gL_law_X5_setCosts rfl rfl rfl hd_X5_setCosts ⟨(Nat.le_of_ble_eq_true rfl), (Nat.le_of_ble_eq_true rfl)⟩) (g_preV hX hS (ci := 5) rfl hM1.1) rfl rfl hl.1 rfl (lv_room (Nat.le_of_ble_eq_true rfl)) dL_law_822 (⟨by show _ ≤ 601024; omega, by show _ ≤ 7293034; omega⟩)) hS (fun H_822 locs hp hS => ?_)
  have hMP := hp
  have hLI2 := LI.fin hI2 hLI hLX hLU hMP
  obtain ⟨⟨ct2, hM2⟩, hKP2⟩ := id hMP
  refine lv_aload_n hx hb dL_law_825 rfl (lv_at hl 4 rfl) ?_
  refine g_goi (vx_runV (As := []) (rest := []) ⟨hx, hb, hml, hown, hts⟩ (m_thrown l G B S 1 ct2 H_822 hM2) (cwV 0 hts gL_law_X5_thrown rfl rfl rfl hd_X5_thrown ⟨(Nat.le_of_ble_eq_true rfl), (Nat.le_of_ble_eq_true rfl)⟩) (g_preV hX hS (ci := 5) rfl hM2.1) rfl rfl hl.1 rfl (lv_room (Nat.le_of_ble_eq_true rfl)) dL_law_826 (⟨by show _ ≤ 601024; omega, by show _ ≤ 7293034; omega⟩)) hS (fun r_826 H_826 locs hp hS => ?_)
  obtain ⟨rfl, rfl⟩ := hp
  refine lv_iload hx hb dL_law_829 (lv_at hl 0 rfl) ?_
  refine gz_icmp_eq (tgt := 836) hx hb (by decide) (by decide) dL_law_831 (by decide) (fun c_831 => ?_) (fun c_831 => ?_)
  · refine lv_goto (tgt := 1362) hx hb dL_law_836 (by decide) ?_
    refine W.widen (k := cells + 12) (n := slots + 900) (by omega) (by omega) ?_
    exact kk TA S 1 H_822 locs ls hLI2 hS (lv_sub hl [1, 2, 3, 4, 5] rfl)
  · omega
set_option maxHeartbeats 4000000 in
set_option maxRecDepth 100000 in
theorem s_setCosts_e2 (l : Launch) (hlf : l.stackTraces = false) (G : gG) {p : Program} {e : Env} {s : State} {m : MethodId} {below : List Frame} {meth : Method} {c : Code} {b L : Nat} {xs : Nat → Int32} (F : lwF p s m c G b L xs) (A : Nat → Nat) (TA : Nat → Nat → Nat) (B : Nat → Nat) (S : cS) (o : Nat) (th : Int) (H : Heap) (locs : List Loc) (cells slots : Nat) (hLI : LI G A TA B o S th H) (hS : va_S (gA G) s.heap H locs) (t : Nat) (htL : 5 * t + 5 ≤ L) (y : Int) (hy : y = (5 * t : Nat)) (ls : Array Slot) (hl : lv_has ls 7 [(4, .int (zI y)), (0, .ref b), (1, .ref (A 0)), (2, .ref (B 0)), (3, .ref o)]) (hcl : cells + 12 ≤ 601024) (hsl : slots + 900 ≤ 7293034) (Q : State → Prop) (kk : lwK l G p e s m below meth c b A B o y cells slots Q) (c1 : Int) (c2 : Int) (c3 : Int) (hc1 : rI c1) (hc2 : rI c2) (hc3 : rI c3) (h1c : 0 ≤ c1 ∧ c1 ≤ 20) (h : ¬ (0 ≤ c2 ∧ c2 ≤ 20)) (hq1 : xs (5 * t + 1) = zI c1) (hq2 : xs (5 * t + 2) = zI c2) (hq3 : xs (5 * t + 3) = zI c3) : W p l e room_1 s m #[Value.ref b] below meth c H locs cells slots Q (F0 m 779 ls []) := by
  obtain ⟨hx, hb, hml, hts, hown, hX, hscr, hbl, hgb, hL25⟩ := F
  obtain ⟨hI, ⟨W9, hC⟩, ⟨ct, hM⟩, ho0, go, d1, d2, d3⟩ := id hLI
  have hbA : ¬ gA G b := fun z => by have z : gB G ≤ b := z; omega
  have hI2 : sInv S := hI
  refine lv_aload_n hx hb dL_law_779 rfl (lv_at hl 2 rfl) ?_
  refine lv_aload_n hx hb dL_law_780 rfl (lv_at hl 1 rfl) ?_
  refine lv_iload hx hb dL_law_781 (lv_at hl 0 rfl) ?_
  refine lv_iconst (v := zI 1) hx hb dL_law_783 rfl ?_
  refine gz_iadd hx hb dL_law_784 ?_
  refine gz_sld hx hb hscr hbl hbA hS (5 * t + 1) (by omega) (by omega) (by omega) dL_law_785 ?_
  rw [hq1]
  refine lv_aload_n hx hb dL_law_786 rfl (lv_at hl 1 rfl) ?_
  refine lv_iload hx hb dL_law_787 (lv_at hl 0 rfl) ?_
  refine lv_iconst (v := zI 2) hx hb dL_law_789 rfl ?_
  refine gz_iadd hx hb dL_law_790 ?_
  refine gz_sld hx hb hscr hbl hbA hS (5 * t + 2) (by omega) (by omega) (by omega) dL_law_791 ?_
  rw [hq2]
  refine lv_aload_n hx hb dL_law_792 rfl (lv_at hl 1 rfl) ?_
  refine lv_iload hx hb dL_law_793 (lv_at hl 0 rfl) ?_
  refine lv_iconst (v := zI 3) hx hb dL_law_795 rfl ?_
  refine gz_iadd hx hb dL_law_796 ?_
  refine gz_sld hx hb hscr hbl hbA hS (5 * t + 3) (by omega) (by omega) (by omega) dL_law_797 ?_
  rw [hq3]
  refine g_goi (vx_runSX (As := [.ref (A 0), .int (zI c1), .int (zI c2), .int (zI c3)]) (rest := []) ⟨hx, hb, hml, hown, hts⟩ (w_setCosts_e2 l G hlf A TA S W9 H hC hI c1 c2 c3 hc1 hc2 hc3 h1c h o ho0 go d2) (vx_cwSW 4 hts gL_law_L_setCosts rfl rfl rfl hd_L_setCosts.2 ⟨(Nat.le_of_ble_eq_true rfl), (Nat.le_of_ble_eq_true rfl)⟩) (g_pre hX hS) rfl rfl hl.1 rfl (lv_room (Nat.le_of_ble_eq_true rfl)) dL_law_798 (⟨by show _ ≤ 601024; omega, by show _ ≤ 7293034; omega⟩)) hS (fun r_798 H_798 locs hp hS => ?_)
  obtain ⟨rfl, hLX, hLU⟩ := hp
  have hM1 := LI.mid hM hLX d1 d3
  refine lv_istore (lv' := [(5, .int (zI 1)), (4, .int (zI y)), (0, .ref b), (1, .ref (A 0)), (2, .ref (B 0)), (3, .ref o)]) hx hb dL_law_801 hl (by decide) rfl (fun ls hl => ?_)
  refine lv_aload_n hx hb dL_law_803 rfl (lv_at hl 4 rfl) ?_
  refine lv_aload_n hx hb dL_law_804 rfl (lv_at hl 2 rfl) ?_
  refine lv_iload hx hb dL_law_805 (lv_at hl 1 rfl) ?_
  refine lv_iconst (v := zI 1) hx hb dL_law_807 rfl ?_
  refine gz_iadd hx hb dL_law_808 ?_
  refine gz_sld hx hb hscr hbl hbA hS (5 * t + 1) (by omega) (by omega) (by omega) dL_law_809 ?_
  rw [hq1]
  refine lv_aload_n hx hb dL_law_810 rfl (lv_at hl 2 rfl) ?_
  refine lv_iload hx hb dL_law_811 (lv_at hl 1 rfl) ?_
  refine lv_iconst (v := zI 2) hx hb dL_law_813 rfl ?_
  refine gz_iadd hx hb dL_law_814 ?_
  refine gz_sld hx hb hscr hbl hbA hS (5 * t + 2) (by omega) (by omega) (by omega) dL_law_815 ?_
  rw [hq2]
  refine lv_aload_n hx hb dL_law_816 rfl (lv_at hl 2 rfl) ?_
  refine lv_iload hx hb dL_law_817 (lv_at hl 1 rfl) ?_
  refine lv_iconst (v := zI 3) hx hb dL_law_819 rfl ?_
  refine gz_iadd hx hb dL_law_820 ?_
  refine gz_sld hx hb hscr hbl hbA hS (5 * t + 3) (by omega) (by omega) (by omega) dL_law_821 ?_
  rw [hq3]
  refine g_gov (vx_runV (As := [.int (zI c1), .int (zI c2), .int (zI c3)]) (rest := []) ⟨hx, hb, hml, hown, hts⟩ (m_setCosts_2 l G B S th ct H_798 hM1 hI c1 c2 c3 hc1 hc2 hc3 h1c h) (cwV 3 hts gL_law_X5_setCosts rfl rfl rfl hd_X5_setCosts ⟨(Nat.le_of_ble_eq_true rfl), (Nat.le_of_ble_eq_true rfl)⟩) (g_preV hX hS (ci := 5) rfl hM1.1) rfl rfl hl.1 rfl (lv_room (Nat.le_of_ble_eq_true rfl)) dL_law_822 (⟨by show _ ≤ 601024; omega, by show _ ≤ 7293034; omega⟩)) hS (fun H_822 locs hp hS => ?_)
  have hMP := hp
  have hLI2 := LI.fin hI2 hLI hLX hLU hMP
  obtain ⟨⟨ct2, hM2⟩, hKP2⟩ := id hMP
  refine lv_aload_n hx hb dL_law_825 rfl (lv_at hl 4 rfl) ?_
  refine g_goi (vx_runV (As := []) (rest := []) ⟨hx, hb, hml, hown, hts⟩ (m_thrown l G B S 1 ct2 H_822 hM2) (cwV 0 hts gL_law_X5_thrown rfl rfl rfl hd_X5_thrown ⟨(Nat.le_of_ble_eq_true rfl), (Nat.le_of_ble_eq_true rfl)⟩) (g_preV hX hS (ci := 5) rfl hM2.1) rfl rfl hl.1 rfl (lv_room (Nat.le_of_ble_eq_true rfl)) dL_law_826 (⟨by show _ ≤ 601024; omega, by show _ ≤ 7293034; omega⟩)) hS (fun r_826 H_826 locs hp hS => ?_)
  obtain ⟨rfl, rfl⟩ := hp
  refine lv_iload hx hb dL_law_829 (lv_at hl 0 rfl) ?_
  refine gz_icmp_eq (tgt := 836) hx hb (by decide) (by decide) dL_law_831 (by decide) (fun c_831 => ?_) (fun c_831 => ?_)
  · refine lv_goto (tgt := 1362) hx hb dL_law_836 (by decide) ?_
    refine W.widen (k := cells + 12) (n := slots + 900) (by omega) (by omega) ?_
    exact kk TA S 1 H_822 locs ls hLI2 hS (lv_sub hl [1, 2, 3, 4, 5] rfl)
  · omega
set_option maxHeartbeats 4000000 in
set_option maxRecDepth 100000 in
theorem s_setCosts_e3 (l : Launch) (hlf : l.stackTraces = false) (G : gG) {p : Program} {e : Env} {s : State} {m : MethodId} {below : List Frame} {meth : Method} {c : Code} {b L : Nat} {xs : Nat → Int32} (F : lwF p s m c G b L xs) (A : Nat → Nat) (TA : Nat → Nat → Nat) (B : Nat → Nat) (S : cS) (o : Nat) (th : Int) (H : Heap) (locs : List Loc) (cells slots : Nat) (hLI : LI G A TA B o S th H) (hS : va_S (gA G) s.heap H locs) (t : Nat) (htL : 5 * t + 5 ≤ L) (y : Int) (hy : y = (5 * t : Nat)) (ls : Array Slot) (hl : lv_has ls 7 [(4, .int (zI y)), (0, .ref b), (1, .ref (A 0)), (2, .ref (B 0)), (3, .ref o)]) (hcl : cells + 12 ≤ 601024) (hsl : slots + 900 ≤ 7293034) (Q : State → Prop) (kk : lwK l G p e s m below meth c b A B o y cells slots Q) (c1 : Int) (c2 : Int) (c3 : Int) (hc1 : rI c1) (hc2 : rI c2) (hc3 : rI c3) (h1c : 0 ≤ c1 ∧ c1 ≤ 20) (h2c : 0 ≤ c2 ∧ c2 ≤ 20) (h : ¬ (0 ≤ c3 ∧ c3 ≤ 20)) (hq1 : xs (5 * t + 1) = zI c1) (hq2 : xs (5 * t + 2) = zI c2) (hq3 : xs (5 * t + 3) = zI c3) : W p l e room_1 s m #[Value.ref b] below meth c H locs cells slots Q (F0 m 779 ls []) := by
  obtain ⟨hx, hb, hml, hts, hown, hX, hscr, hbl, hgb, hL25⟩ := F
  obtain ⟨hI, ⟨W9, hC⟩, ⟨ct, hM⟩, ho0, go, d1, d2, d3⟩ := id hLI
  have hbA : ¬ gA G b := fun z => by have z : gB G ≤ b := z; omega
  have hI2 : sInv S := hI
  refine lv_aload_n hx hb dL_law_779 rfl (lv_at hl 2 rfl) ?_
  refine lv_aload_n hx hb dL_law_780 rfl (lv_at hl 1 rfl) ?_
  refine lv_iload hx hb dL_law_781 (lv_at hl 0 rfl) ?_
  refine lv_iconst (v := zI 1) hx hb dL_law_783 rfl ?_
  refine gz_iadd hx hb dL_law_784 ?_
  refine gz_sld hx hb hscr hbl hbA hS (5 * t + 1) (by omega) (by omega) (by omega) dL_law_785 ?_
  rw [hq1]
  refine lv_aload_n hx hb dL_law_786 rfl (lv_at hl 1 rfl) ?_
  refine lv_iload hx hb dL_law_787 (lv_at hl 0 rfl) ?_
  refine lv_iconst (v := zI 2) hx hb dL_law_789 rfl ?_
  refine gz_iadd hx hb dL_law_790 ?_
  refine gz_sld hx hb hscr hbl hbA hS (5 * t + 2) (by omega) (by omega) (by omega) dL_law_791 ?_
  rw [hq2]
  refine lv_aload_n hx hb dL_law_792 rfl (lv_at hl 1 rfl) ?_
  refine lv_iload hx hb dL_law_793 (lv_at hl 0 rfl) ?_
  refine lv_iconst (v := zI 3) hx hb dL_law_795 rfl ?_
  refine gz_iadd hx hb dL_law_796 ?_
  refine gz_sld hx hb hscr hbl hbA hS (5 * t + 3) (by omega) (by omega) (by omega) dL_law_797 ?_
  rw [hq3]
  refine g_goi (vx_runSX (As := [.ref (A 0), .int (zI c1), .int (zI c2), .int (zI c3)]) (rest := []) ⟨hx, hb, hml, hown, hts⟩ (w_setCosts_e3 l G hlf A TA S W9 H hC hI c1 c2 c3 hc1 hc2 hc3 h1c h2c h o ho0 go d2) (vx_cwSW 4 hts gL_law_L_setCosts rfl rfl rfl hd_L_setCosts.2 ⟨(Nat.le_of_ble_eq_true rfl), (Nat.le_of_ble_eq_true rfl)⟩) (g_pre hX hS) rfl rfl hl.1 rfl (lv_room (Nat.le_of_ble_eq_true rfl)) dL_law_798 (⟨by show _ ≤ 601024; omega, by show _ ≤ 7293034; omega⟩)) hS (fun r_798 H_798 locs hp hS => ?_)
  obtain ⟨rfl, hLX, hLU⟩ := hp
  have hM1 := LI.mid hM hLX d1 d3
  refine lv_istore (lv' := [(5, .int (zI 1)), (4, .int (zI y)), (0, .ref b), (1, .ref (A 0)), (2, .ref (B 0)), (3, .ref o)]) hx hb dL_law_801 hl (by decide) rfl (fun ls hl => ?_)
  refine lv_aload_n hx hb dL_law_803 rfl (lv_at hl 4 rfl) ?_
  refine lv_aload_n hx hb dL_law_804 rfl (lv_at hl 2 rfl) ?_
  refine lv_iload hx hb dL_law_805 (lv_at hl 1 rfl) ?_
  refine lv_iconst (v := zI 1) hx hb dL_law_807 rfl ?_
  refine gz_iadd hx hb dL_law_808 ?_
  refine gz_sld hx hb hscr hbl hbA hS (5 * t + 1) (by omega) (by omega) (by omega) dL_law_809 ?_
  rw [hq1]
  refine lv_aload_n hx hb dL_law_810 rfl (lv_at hl 2 rfl) ?_
  refine lv_iload hx hb dL_law_811 (lv_at hl 1 rfl) ?_
  refine lv_iconst (v := zI 2) hx hb dL_law_813 rfl ?_
  refine gz_iadd hx hb dL_law_814 ?_
  refine gz_sld hx hb hscr hbl hbA hS (5 * t + 2) (by omega) (by omega) (by omega) dL_law_815 ?_
  rw [hq2]
  refine lv_aload_n hx hb dL_law_816 rfl (lv_at hl 2 rfl) ?_
  refine lv_iload hx hb dL_law_817 (lv_at hl 1 rfl) ?_
  refine lv_iconst (v := zI 3) hx hb dL_law_819 rfl ?_
  refine gz_iadd hx hb dL_law_820 ?_
  refine gz_sld hx hb hscr hbl hbA hS (5 * t + 3) (by omega) (by omega) (by omega) dL_law_821 ?_
  rw [hq3]
  refine g_gov (vx_runV (As := [.int (zI c1), .int (zI c2), .int (zI c3)]) (rest := []) ⟨hx, hb, hml, hown, hts⟩ (m_setCosts_3 l G B S th ct H_798 hM1 hI c1 c2 c3 hc1 hc2 hc3 h1c h2c h) (cwV 3 hts gL_law_X5_setCosts rfl rfl rfl hd_X5_setCosts ⟨(Nat.le_of_ble_eq_true rfl), (Nat.le_of_ble_eq_true rfl)⟩) (g_preV hX hS (ci := 5) rfl hM1.1) rfl rfl hl.1 rfl (lv_room (Nat.le_of_ble_eq_true rfl)) dL_law_822 (⟨by show _ ≤ 601024; omega, by show _ ≤ 7293034; omega⟩)) hS (fun H_822 locs hp hS => ?_)
  have hMP := hp
  have hLI2 := LI.fin hI2 hLI hLX hLU hMP
  obtain ⟨⟨ct2, hM2⟩, hKP2⟩ := id hMP
  refine lv_aload_n hx hb dL_law_825 rfl (lv_at hl 4 rfl) ?_
  refine g_goi (vx_runV (As := []) (rest := []) ⟨hx, hb, hml, hown, hts⟩ (m_thrown l G B S 1 ct2 H_822 hM2) (cwV 0 hts gL_law_X5_thrown rfl rfl rfl hd_X5_thrown ⟨(Nat.le_of_ble_eq_true rfl), (Nat.le_of_ble_eq_true rfl)⟩) (g_preV hX hS (ci := 5) rfl hM2.1) rfl rfl hl.1 rfl (lv_room (Nat.le_of_ble_eq_true rfl)) dL_law_826 (⟨by show _ ≤ 601024; omega, by show _ ≤ 7293034; omega⟩)) hS (fun r_826 H_826 locs hp hS => ?_)
  obtain ⟨rfl, rfl⟩ := hp
  refine lv_iload hx hb dL_law_829 (lv_at hl 0 rfl) ?_
  refine gz_icmp_eq (tgt := 836) hx hb (by decide) (by decide) dL_law_831 (by decide) (fun c_831 => ?_) (fun c_831 => ?_)
  · refine lv_goto (tgt := 1362) hx hb dL_law_836 (by decide) ?_
    refine W.widen (k := cells + 12) (n := slots + 900) (by omega) (by omega) ?_
    exact kk TA S 1 H_822 locs ls hLI2 hS (lv_sub hl [1, 2, 3, 4, 5] rfl)
  · omega
set_option maxHeartbeats 4000000 in
set_option maxRecDepth 100000 in
theorem s_cost_ok (l : Launch) (hlf : l.stackTraces = false) (G : gG) {p : Program} {e : Env} {s : State} {m : MethodId} {below : List Frame} {meth : Method} {c : Code} {b L : Nat} {xs : Nat → Int32} (F : lwF p s m c G b L xs) (A : Nat → Nat) (TA : Nat → Nat → Nat) (B : Nat → Nat) (S : cS) (o : Nat) (th : Int) (H : Heap) (locs : List Loc) (cells slots : Nat) (hLI : LI G A TA B o S th H) (hS : va_S (gA G) s.heap H locs) (t : Nat) (htL : 5 * t + 5 ≤ L) (y : Int) (hy : y = (5 * t : Nat)) (ls : Array Slot) (hl : lv_has ls 7 [(4, .int (zI y)), (0, .ref b), (1, .ref (A 0)), (2, .ref (B 0)), (3, .ref o)]) (hcl : cells + 12 ≤ 601024) (hsl : slots + 900 ≤ 7293034) (Q : State → Prop) (kk : lwK l G p e s m below meth c b A B o y cells slots Q) (z : Int) (i : Nat) (hz : z = i) (hi : i < sn S) (hk : srt S i = false) (hq1 : xs (5 * t + 1) = zI z) : W p l e room_1 s m #[Value.ref b] below meth c H locs cells slots Q (F0 m 839 ls []) := by
  obtain ⟨hx, hb, hml, hts, hown, hX, hscr, hbl, hgb, hL25⟩ := F
  obtain ⟨hI, ⟨W9, hC⟩, ⟨ct, hM⟩, ho0, go, d1, d2, d3⟩ := id hLI
  have hbA : ¬ gA G b := fun z => by have z : gB G ≤ b := z; omega
  have hI2 : sInv S := hI
  refine lv_aload_n hx hb dL_law_839 rfl (lv_at hl 2 rfl) ?_
  refine lv_aload_n hx hb dL_law_840 rfl (lv_at hl 1 rfl) ?_
  refine lv_iload hx hb dL_law_841 (lv_at hl 0 rfl) ?_
  refine lv_iconst (v := zI 1) hx hb dL_law_843 rfl ?_
  refine gz_iadd hx hb dL_law_844 ?_
  refine gz_sld hx hb hscr hbl hbA hS (5 * t + 1) (by omega) (by omega) (by omega) dL_law_845 ?_
  rw [hq1]
  refine lv_aload_n hx hb dL_law_846 rfl (lv_at hl 4 rfl) ?_
  refine g_goi (vx_runSX (As := [.ref (A 0), .int (zI z), .ref o]) (rest := []) ⟨hx, hb, hml, hown, hts⟩ (w_cost_ok l G A TA S W9 H hC hI z i hz hi hk o ho0 go d2) (vx_cwSW 3 hts gL_law_L_cost rfl rfl rfl hd_L_cost.2 ⟨(Nat.le_of_ble_eq_true rfl), (Nat.le_of_ble_eq_true rfl)⟩) (g_pre hX hS) rfl rfl hl.1 rfl (lv_room (Nat.le_of_ble_eq_true rfl)) dL_law_847 (⟨by show _ ≤ 601024; omega, by show _ ≤ 7293034; omega⟩)) hS (fun r_847 H_847 locs hp hS => ?_)
  obtain ⟨rfl, hLX, hLO⟩ := hp
  have hLU := hLO.u
  have hM1 := LI.mid hM hLX d1 d3
  refine lv_istore (lv' := [(5, .int (zI 0)), (4, .int (zI y)), (0, .ref b), (1, .ref (A 0)), (2, .ref (B 0)), (3, .ref o)]) hx hb dL_law_850 hl (by decide) rfl (fun ls hl => ?_)
  refine lv_aload_n hx hb dL_law_852 rfl (lv_at hl 4 rfl) ?_
  refine lv_aload_n hx hb dL_law_853 rfl (lv_at hl 2 rfl) ?_
  refine lv_iload hx hb dL_law_854 (lv_at hl 1 rfl) ?_
  refine lv_iconst (v := zI 1) hx hb dL_law_856 rfl ?_
  refine gz_iadd hx hb dL_law_857 ?_
  refine gz_sld hx hb hscr hbl hbA hS (5 * t + 1) (by omega) (by omega) (by omega) dL_law_858 ?_
  rw [hq1]
  refine g_goi (vx_runV (As := [.int (zI z)]) (rest := []) ⟨hx, hb, hml, hown, hts⟩ (m_cost_ok l G B S th ct H_847 hM1 hI z i hz hi hk) (cwV 1 hts gL_law_X5_cost rfl rfl rfl hd_X5_cost ⟨(Nat.le_of_ble_eq_true rfl), (Nat.le_of_ble_eq_true rfl)⟩) (g_preV hX hS (ci := 5) rfl hM1.1) rfl rfl hl.1 rfl (lv_room (Nat.le_of_ble_eq_true rfl)) dL_law_859 (⟨by show _ ≤ 601024; omega, by show _ ≤ 7293034; omega⟩)) hS (fun r_859 H_859 locs hp hS => ?_)
  obtain ⟨rfl, hMP⟩ := hp
  have hLI2 := LI.fin hI2 hLI hLX hLU hMP
  obtain ⟨⟨ct2, hM2⟩, hKP2⟩ := id hMP
  obtain ⟨fo, ho, hfo⟩ := LO.mp hLO hMP d3
  refine lv_istore (lv' := [(6, .int (zI (costI (tX S i)))), (5, .int (zI 0)), (4, .int (zI y)), (0, .ref b), (1, .ref (A 0)), (2, .ref (B 0)), (3, .ref o)]) hx hb dL_law_862 hl (by decide) rfl (fun ls hl => ?_)
  refine lv_aload_n hx hb dL_law_864 rfl (lv_at hl 5 rfl) ?_
  refine g_goi (vx_runV (As := []) (rest := []) ⟨hx, hb, hml, hown, hts⟩ (m_thrown l G B S 0 ct2 H_859 hM2) (cwV 0 hts gL_law_X5_thrown rfl rfl rfl hd_X5_thrown ⟨(Nat.le_of_ble_eq_true rfl), (Nat.le_of_ble_eq_true rfl)⟩) (g_preV hX hS (ci := 5) rfl hM2.1) rfl rfl hl.1 rfl (lv_room (Nat.le_of_ble_eq_true rfl)) dL_law_865 (⟨by show _ ≤ 601024; omega, by show _ ≤ 7293034; omega⟩)) hS (fun r_865 H_865 locs hp hS => ?_)
  obtain ⟨rfl, rfl⟩ := hp
  refine lv_iload hx hb dL_law_868 (lv_at hl 1 rfl) ?_
  refine gz_icmp_eq (tgt := 875) hx hb (by decide) (by decide) dL_law_870 (by decide) (fun c_870 => ?_) (fun c_870 => ?_)
  · refine lv_iload hx hb dL_law_875 (lv_at hl 1 rfl) ?_
    refine gz_if_ne (tgt := 892) hx hb (by decide) dL_law_877 (by decide) (fun c_877 => ?_) (fun c_877 => ?_)
    · omega
    · refine lv_aload_n hx hb dL_law_880 rfl (lv_at hl 6 rfl) ?_
      refine lv_iconst (v := zI 0) hx hb dL_law_881 rfl ?_
      refine gz_lald hx hb hX ho 0 (by omega) (by omega) (by omega) dL_law_882 ?_
      rw [hfo]
      refine lv_iload hx hb dL_law_883 (lv_at hl 0 rfl) ?_
      refine lv_i2l hx hb dL_law_885 rfl ?_
      refine W.lcmp hx hb dL_law_886 ?_
      rw [lgc0]
      refine gz_if_eq (tgt := 892) hx hb (by decide) dL_law_887 (by decide) (fun c_887 => ?_) (fun c_887 => ?_)
      · refine lv_goto (tgt := 1362) hx hb dL_law_892 (by decide) ?_
        refine W.widen (k := cells + 12) (n := slots + 900) (by omega) (by omega) ?_
        exact kk TA S 0 H_859 locs ls hLI2 hS (lv_sub hl [2, 3, 4, 5, 6] rfl)
      · omega
  · omega
set_option maxHeartbeats 4000000 in
set_option maxRecDepth 100000 in
theorem s_cost_e1 (l : Launch) (hlf : l.stackTraces = false) (G : gG) {p : Program} {e : Env} {s : State} {m : MethodId} {below : List Frame} {meth : Method} {c : Code} {b L : Nat} {xs : Nat → Int32} (F : lwF p s m c G b L xs) (A : Nat → Nat) (TA : Nat → Nat → Nat) (B : Nat → Nat) (S : cS) (o : Nat) (th : Int) (H : Heap) (locs : List Loc) (cells slots : Nat) (hLI : LI G A TA B o S th H) (hS : va_S (gA G) s.heap H locs) (t : Nat) (htL : 5 * t + 5 ≤ L) (y : Int) (hy : y = (5 * t : Nat)) (ls : Array Slot) (hl : lv_has ls 7 [(4, .int (zI y)), (0, .ref b), (1, .ref (A 0)), (2, .ref (B 0)), (3, .ref o)]) (hcl : cells + 12 ≤ 601024) (hsl : slots + 900 ≤ 7293034) (Q : State → Prop) (kk : lwK l G p e s m below meth c b A B o y cells slots Q) (z : Int) (hz : rI z) (hi : ¬ kwn S z) (hq1 : xs (5 * t + 1) = zI z) : W p l e room_1 s m #[Value.ref b] below meth c H locs cells slots Q (F0 m 839 ls []) := by
  obtain ⟨hx, hb, hml, hts, hown, hX, hscr, hbl, hgb, hL25⟩ := F
  obtain ⟨hI, ⟨W9, hC⟩, ⟨ct, hM⟩, ho0, go, d1, d2, d3⟩ := id hLI
  have hbA : ¬ gA G b := fun z => by have z : gB G ≤ b := z; omega
  have hI2 : sInv S := hI
  refine lv_aload_n hx hb dL_law_839 rfl (lv_at hl 2 rfl) ?_
  refine lv_aload_n hx hb dL_law_840 rfl (lv_at hl 1 rfl) ?_
  refine lv_iload hx hb dL_law_841 (lv_at hl 0 rfl) ?_
  refine lv_iconst (v := zI 1) hx hb dL_law_843 rfl ?_
  refine gz_iadd hx hb dL_law_844 ?_
  refine gz_sld hx hb hscr hbl hbA hS (5 * t + 1) (by omega) (by omega) (by omega) dL_law_845 ?_
  rw [hq1]
  refine lv_aload_n hx hb dL_law_846 rfl (lv_at hl 4 rfl) ?_
  refine g_goi (vx_runSX (As := [.ref (A 0), .int (zI z), .ref o]) (rest := []) ⟨hx, hb, hml, hown, hts⟩ (w_cost_e1 l G hlf A TA S W9 H hC hI z hz hi o ho0 go d2) (vx_cwSW 3 hts gL_law_L_cost rfl rfl rfl hd_L_cost.2 ⟨(Nat.le_of_ble_eq_true rfl), (Nat.le_of_ble_eq_true rfl)⟩) (g_pre hX hS) rfl rfl hl.1 rfl (lv_room (Nat.le_of_ble_eq_true rfl)) dL_law_847 (⟨by show _ ≤ 601024; omega, by show _ ≤ 7293034; omega⟩)) hS (fun r_847 H_847 locs hp hS => ?_)
  obtain ⟨rfl, hLX, hLU⟩ := hp
  have hM1 := LI.mid hM hLX d1 d3
  refine lv_istore (lv' := [(5, .int (zI 1)), (4, .int (zI y)), (0, .ref b), (1, .ref (A 0)), (2, .ref (B 0)), (3, .ref o)]) hx hb dL_law_850 hl (by decide) rfl (fun ls hl => ?_)
  refine lv_aload_n hx hb dL_law_852 rfl (lv_at hl 4 rfl) ?_
  refine lv_aload_n hx hb dL_law_853 rfl (lv_at hl 2 rfl) ?_
  refine lv_iload hx hb dL_law_854 (lv_at hl 1 rfl) ?_
  refine lv_iconst (v := zI 1) hx hb dL_law_856 rfl ?_
  refine gz_iadd hx hb dL_law_857 ?_
  refine gz_sld hx hb hscr hbl hbA hS (5 * t + 1) (by omega) (by omega) (by omega) dL_law_858 ?_
  rw [hq1]
  refine g_goi (vx_runV (As := [.int (zI z)]) (rest := []) ⟨hx, hb, hml, hown, hts⟩ (m_cost_e1 l G B S th ct H_847 hM1 hI z hz hi) (cwV 1 hts gL_law_X5_cost rfl rfl rfl hd_X5_cost ⟨(Nat.le_of_ble_eq_true rfl), (Nat.le_of_ble_eq_true rfl)⟩) (g_preV hX hS (ci := 5) rfl hM1.1) rfl rfl hl.1 rfl (lv_room (Nat.le_of_ble_eq_true rfl)) dL_law_859 (⟨by show _ ≤ 601024; omega, by show _ ≤ 7293034; omega⟩)) hS (fun r_859 H_859 locs hp hS => ?_)
  obtain ⟨rfl, hMP⟩ := hp
  have hLI2 := LI.fin hI2 hLI hLX hLU hMP
  obtain ⟨⟨ct2, hM2⟩, hKP2⟩ := id hMP
  refine lv_istore (lv' := [(6, .int (zI 0)), (5, .int (zI 1)), (4, .int (zI y)), (0, .ref b), (1, .ref (A 0)), (2, .ref (B 0)), (3, .ref o)]) hx hb dL_law_862 hl (by decide) rfl (fun ls hl => ?_)
  refine lv_aload_n hx hb dL_law_864 rfl (lv_at hl 5 rfl) ?_
  refine g_goi (vx_runV (As := []) (rest := []) ⟨hx, hb, hml, hown, hts⟩ (m_thrown l G B S 1 ct2 H_859 hM2) (cwV 0 hts gL_law_X5_thrown rfl rfl rfl hd_X5_thrown ⟨(Nat.le_of_ble_eq_true rfl), (Nat.le_of_ble_eq_true rfl)⟩) (g_preV hX hS (ci := 5) rfl hM2.1) rfl rfl hl.1 rfl (lv_room (Nat.le_of_ble_eq_true rfl)) dL_law_865 (⟨by show _ ≤ 601024; omega, by show _ ≤ 7293034; omega⟩)) hS (fun r_865 H_865 locs hp hS => ?_)
  obtain ⟨rfl, rfl⟩ := hp
  refine lv_iload hx hb dL_law_868 (lv_at hl 1 rfl) ?_
  refine gz_icmp_eq (tgt := 875) hx hb (by decide) (by decide) dL_law_870 (by decide) (fun c_870 => ?_) (fun c_870 => ?_)
  · refine lv_iload hx hb dL_law_875 (lv_at hl 1 rfl) ?_
    refine gz_if_ne (tgt := 892) hx hb (by decide) dL_law_877 (by decide) (fun c_877 => ?_) (fun c_877 => ?_)
    · refine lv_goto (tgt := 1362) hx hb dL_law_892 (by decide) ?_
      refine W.widen (k := cells + 12) (n := slots + 900) (by omega) (by omega) ?_
      exact kk TA S 1 H_859 locs ls hLI2 hS (lv_sub hl [2, 3, 4, 5, 6] rfl)
    · omega
  · omega
set_option maxHeartbeats 4000000 in
set_option maxRecDepth 100000 in
theorem s_costByAll_ok (l : Launch) (hlf : l.stackTraces = false) (G : gG) {p : Program} {e : Env} {s : State} {m : MethodId} {below : List Frame} {meth : Method} {c : Code} {b L : Nat} {xs : Nat → Int32} (F : lwF p s m c G b L xs) (A : Nat → Nat) (TA : Nat → Nat → Nat) (B : Nat → Nat) (S : cS) (o : Nat) (th : Int) (H : Heap) (locs : List Loc) (cells slots : Nat) (hLI : LI G A TA B o S th H) (hS : va_S (gA G) s.heap H locs) (t : Nat) (htL : 5 * t + 5 ≤ L) (y : Int) (hy : y = (5 * t : Nat)) (ls : Array Slot) (hl : lv_has ls 7 [(4, .int (zI y)), (0, .ref b), (1, .ref (A 0)), (2, .ref (B 0)), (3, .ref o)]) (hcl : cells + 12 ≤ 601024) (hsl : slots + 900 ≤ 7293034) (Q : State → Prop) (kk : lwK l G p e s m below meth c b A B o y cells slots Q) (z : Int) (i : Nat) (hz : z = i) (hi : i < sn S) (hk : srt S i = false) (h8 : shn S ≤ 8) (hq1 : xs (5 * t + 1) = zI z) : W p l e room_1 s m #[Value.ref b] below meth c H locs cells slots Q (F0 m 895 ls []) := by
  obtain ⟨hx, hb, hml, hts, hown, hX, hscr, hbl, hgb, hL25⟩ := F
  obtain ⟨hI, ⟨W9, hC⟩, ⟨ct, hM⟩, ho0, go, d1, d2, d3⟩ := id hLI
  have hbA : ¬ gA G b := fun z => by have z : gB G ≤ b := z; omega
  have hI2 : sInv S := hI
  refine lv_aload_n hx hb dL_law_895 rfl (lv_at hl 2 rfl) ?_
  refine lv_aload_n hx hb dL_law_896 rfl (lv_at hl 1 rfl) ?_
  refine lv_iload hx hb dL_law_897 (lv_at hl 0 rfl) ?_
  refine lv_iconst (v := zI 1) hx hb dL_law_899 rfl ?_
  refine gz_iadd hx hb dL_law_900 ?_
  refine gz_sld hx hb hscr hbl hbA hS (5 * t + 1) (by omega) (by omega) (by omega) dL_law_901 ?_
  rw [hq1]
  refine lv_aload_n hx hb dL_law_902 rfl (lv_at hl 4 rfl) ?_
  refine g_goi (vx_runSX (As := [.ref (A 0), .int (zI z), .ref o]) (rest := []) ⟨hx, hb, hml, hown, hts⟩ (w_costByAll_ok l G A TA S W9 H hC hI z i hz hi hk h8 o ho0 go d2) (vx_cwSW 3 hts gL_law_L_costByAll rfl rfl rfl hd_L_costByAll.2 ⟨(Nat.le_of_ble_eq_true rfl), (Nat.le_of_ble_eq_true rfl)⟩) (g_pre hX hS) rfl rfl hl.1 rfl (lv_room (Nat.le_of_ble_eq_true rfl)) dL_law_903 (⟨by show _ ≤ 601024; omega, by show _ ≤ 7293034; omega⟩)) hS (fun r_903 H_903 locs hp hS => ?_)
  obtain ⟨rfl, hLX, hLO⟩ := hp
  have hLU := hLO.u
  have hM1 := LI.mid hM hLX d1 d3
  refine lv_istore (lv' := [(5, .int (zI 0)), (4, .int (zI y)), (0, .ref b), (1, .ref (A 0)), (2, .ref (B 0)), (3, .ref o)]) hx hb dL_law_906 hl (by decide) rfl (fun ls hl => ?_)
  refine lv_aload_n hx hb dL_law_908 rfl (lv_at hl 4 rfl) ?_
  refine lv_aload_n hx hb dL_law_909 rfl (lv_at hl 2 rfl) ?_
  refine lv_iload hx hb dL_law_910 (lv_at hl 1 rfl) ?_
  refine lv_iconst (v := zI 1) hx hb dL_law_912 rfl ?_
  refine gz_iadd hx hb dL_law_913 ?_
  refine gz_sld hx hb hscr hbl hbA hS (5 * t + 1) (by omega) (by omega) (by omega) dL_law_914 ?_
  rw [hq1]
  refine g_goi (vx_runV (As := [.int (zI z)]) (rest := []) ⟨hx, hb, hml, hown, hts⟩ (m_costByAll_ok l G B S th ct H_903 hM1 hI z i hz hi hk h8) (cwV 1 hts gL_law_X5_costByAll rfl rfl rfl hd_X5_costByAll ⟨(Nat.le_of_ble_eq_true rfl), (Nat.le_of_ble_eq_true rfl)⟩) (g_preV hX hS (ci := 5) rfl hM1.1) rfl rfl hl.1 rfl (lv_room (Nat.le_of_ble_eq_true rfl)) dL_law_915 (⟨by show _ ≤ 601024; omega, by show _ ≤ 7293034; omega⟩)) hS (fun r_915 H_915 locs hp hS => ?_)
  obtain ⟨rfl, hMP⟩ := hp
  have hLI2 := LI.fin hI2 hLI hLX hLU hMP
  obtain ⟨⟨ct2, hM2⟩, hKP2⟩ := id hMP
  obtain ⟨fo, ho, hfo⟩ := LO.mp hLO hMP d3
  refine lv_istore (lv' := [(6, .int (zI (costI (tX S i)))), (5, .int (zI 0)), (4, .int (zI y)), (0, .ref b), (1, .ref (A 0)), (2, .ref (B 0)), (3, .ref o)]) hx hb dL_law_918 hl (by decide) rfl (fun ls hl => ?_)
  refine lv_aload_n hx hb dL_law_920 rfl (lv_at hl 5 rfl) ?_
  refine g_goi (vx_runV (As := []) (rest := []) ⟨hx, hb, hml, hown, hts⟩ (m_thrown l G B S 0 ct2 H_915 hM2) (cwV 0 hts gL_law_X5_thrown rfl rfl rfl hd_X5_thrown ⟨(Nat.le_of_ble_eq_true rfl), (Nat.le_of_ble_eq_true rfl)⟩) (g_preV hX hS (ci := 5) rfl hM2.1) rfl rfl hl.1 rfl (lv_room (Nat.le_of_ble_eq_true rfl)) dL_law_921 (⟨by show _ ≤ 601024; omega, by show _ ≤ 7293034; omega⟩)) hS (fun r_921 H_921 locs hp hS => ?_)
  obtain ⟨rfl, rfl⟩ := hp
  refine lv_iload hx hb dL_law_924 (lv_at hl 1 rfl) ?_
  refine gz_icmp_eq (tgt := 931) hx hb (by decide) (by decide) dL_law_926 (by decide) (fun c_926 => ?_) (fun c_926 => ?_)
  · refine lv_iload hx hb dL_law_931 (lv_at hl 1 rfl) ?_
    refine gz_if_ne (tgt := 948) hx hb (by decide) dL_law_933 (by decide) (fun c_933 => ?_) (fun c_933 => ?_)
    · omega
    · refine lv_aload_n hx hb dL_law_936 rfl (lv_at hl 6 rfl) ?_
      refine lv_iconst (v := zI 0) hx hb dL_law_937 rfl ?_
      refine gz_lald hx hb hX ho 0 (by omega) (by omega) (by omega) dL_law_938 ?_
      rw [hfo]
      refine lv_iload hx hb dL_law_939 (lv_at hl 0 rfl) ?_
      refine lv_i2l hx hb dL_law_941 rfl ?_
      refine W.lcmp hx hb dL_law_942 ?_
      rw [lgc0]
      refine gz_if_eq (tgt := 948) hx hb (by decide) dL_law_943 (by decide) (fun c_943 => ?_) (fun c_943 => ?_)
      · refine lv_goto (tgt := 1362) hx hb dL_law_948 (by decide) ?_
        refine W.widen (k := cells + 12) (n := slots + 900) (by omega) (by omega) ?_
        exact kk TA S 0 H_915 locs ls hLI2 hS (lv_sub hl [2, 3, 4, 5, 6] rfl)
      · omega
  · omega
set_option maxHeartbeats 4000000 in
set_option maxRecDepth 100000 in
theorem s_costByAll_e1 (l : Launch) (hlf : l.stackTraces = false) (G : gG) {p : Program} {e : Env} {s : State} {m : MethodId} {below : List Frame} {meth : Method} {c : Code} {b L : Nat} {xs : Nat → Int32} (F : lwF p s m c G b L xs) (A : Nat → Nat) (TA : Nat → Nat → Nat) (B : Nat → Nat) (S : cS) (o : Nat) (th : Int) (H : Heap) (locs : List Loc) (cells slots : Nat) (hLI : LI G A TA B o S th H) (hS : va_S (gA G) s.heap H locs) (t : Nat) (htL : 5 * t + 5 ≤ L) (y : Int) (hy : y = (5 * t : Nat)) (ls : Array Slot) (hl : lv_has ls 7 [(4, .int (zI y)), (0, .ref b), (1, .ref (A 0)), (2, .ref (B 0)), (3, .ref o)]) (hcl : cells + 12 ≤ 601024) (hsl : slots + 900 ≤ 7293034) (Q : State → Prop) (kk : lwK l G p e s m below meth c b A B o y cells slots Q) (z : Int) (hz : rI z) (hi : ¬ kwn S z) (hq1 : xs (5 * t + 1) = zI z) : W p l e room_1 s m #[Value.ref b] below meth c H locs cells slots Q (F0 m 895 ls []) := by
  obtain ⟨hx, hb, hml, hts, hown, hX, hscr, hbl, hgb, hL25⟩ := F
  obtain ⟨hI, ⟨W9, hC⟩, ⟨ct, hM⟩, ho0, go, d1, d2, d3⟩ := id hLI
  have hbA : ¬ gA G b := fun z => by have z : gB G ≤ b := z; omega
  have hI2 : sInv S := hI
  refine lv_aload_n hx hb dL_law_895 rfl (lv_at hl 2 rfl) ?_
  refine lv_aload_n hx hb dL_law_896 rfl (lv_at hl 1 rfl) ?_
  refine lv_iload hx hb dL_law_897 (lv_at hl 0 rfl) ?_
  refine lv_iconst (v := zI 1) hx hb dL_law_899 rfl ?_
  refine gz_iadd hx hb dL_law_900 ?_
  refine gz_sld hx hb hscr hbl hbA hS (5 * t + 1) (by omega) (by omega) (by omega) dL_law_901 ?_
  rw [hq1]
  refine lv_aload_n hx hb dL_law_902 rfl (lv_at hl 4 rfl) ?_
  refine g_goi (vx_runSX (As := [.ref (A 0), .int (zI z), .ref o]) (rest := []) ⟨hx, hb, hml, hown, hts⟩ (w_costByAll_e1 l G hlf A TA S W9 H hC hI z hz hi o ho0 go d2) (vx_cwSW 3 hts gL_law_L_costByAll rfl rfl rfl hd_L_costByAll.2 ⟨(Nat.le_of_ble_eq_true rfl), (Nat.le_of_ble_eq_true rfl)⟩) (g_pre hX hS) rfl rfl hl.1 rfl (lv_room (Nat.le_of_ble_eq_true rfl)) dL_law_903 (⟨by show _ ≤ 601024; omega, by show _ ≤ 7293034; omega⟩)) hS (fun r_903 H_903 locs hp hS => ?_)
  obtain ⟨rfl, hLX, hLU⟩ := hp
  have hM1 := LI.mid hM hLX d1 d3
  refine lv_istore (lv' := [(5, .int (zI 1)), (4, .int (zI y)), (0, .ref b), (1, .ref (A 0)), (2, .ref (B 0)), (3, .ref o)]) hx hb dL_law_906 hl (by decide) rfl (fun ls hl => ?_)
  refine lv_aload_n hx hb dL_law_908 rfl (lv_at hl 4 rfl) ?_
  refine lv_aload_n hx hb dL_law_909 rfl (lv_at hl 2 rfl) ?_
  refine lv_iload hx hb dL_law_910 (lv_at hl 1 rfl) ?_
  refine lv_iconst (v := zI 1) hx hb dL_law_912 rfl ?_
  refine gz_iadd hx hb dL_law_913 ?_
  refine gz_sld hx hb hscr hbl hbA hS (5 * t + 1) (by omega) (by omega) (by omega) dL_law_914 ?_
  rw [hq1]
  refine g_goi (vx_runV (As := [.int (zI z)]) (rest := []) ⟨hx, hb, hml, hown, hts⟩ (m_costByAll_e1 l G B S th ct H_903 hM1 hI z hz hi) (cwV 1 hts gL_law_X5_costByAll rfl rfl rfl hd_X5_costByAll ⟨(Nat.le_of_ble_eq_true rfl), (Nat.le_of_ble_eq_true rfl)⟩) (g_preV hX hS (ci := 5) rfl hM1.1) rfl rfl hl.1 rfl (lv_room (Nat.le_of_ble_eq_true rfl)) dL_law_915 (⟨by show _ ≤ 601024; omega, by show _ ≤ 7293034; omega⟩)) hS (fun r_915 H_915 locs hp hS => ?_)
  obtain ⟨rfl, hMP⟩ := hp
  have hLI2 := LI.fin hI2 hLI hLX hLU hMP
  obtain ⟨⟨ct2, hM2⟩, hKP2⟩ := id hMP
  refine lv_istore (lv' := [(6, .int (zI 0)), (5, .int (zI 1)), (4, .int (zI y)), (0, .ref b), (1, .ref (A 0)), (2, .ref (B 0)), (3, .ref o)]) hx hb dL_law_918 hl (by decide) rfl (fun ls hl => ?_)
  refine lv_aload_n hx hb dL_law_920 rfl (lv_at hl 5 rfl) ?_
  refine g_goi (vx_runV (As := []) (rest := []) ⟨hx, hb, hml, hown, hts⟩ (m_thrown l G B S 1 ct2 H_915 hM2) (cwV 0 hts gL_law_X5_thrown rfl rfl rfl hd_X5_thrown ⟨(Nat.le_of_ble_eq_true rfl), (Nat.le_of_ble_eq_true rfl)⟩) (g_preV hX hS (ci := 5) rfl hM2.1) rfl rfl hl.1 rfl (lv_room (Nat.le_of_ble_eq_true rfl)) dL_law_921 (⟨by show _ ≤ 601024; omega, by show _ ≤ 7293034; omega⟩)) hS (fun r_921 H_921 locs hp hS => ?_)
  obtain ⟨rfl, rfl⟩ := hp
  refine lv_iload hx hb dL_law_924 (lv_at hl 1 rfl) ?_
  refine gz_icmp_eq (tgt := 931) hx hb (by decide) (by decide) dL_law_926 (by decide) (fun c_926 => ?_) (fun c_926 => ?_)
  · refine lv_iload hx hb dL_law_931 (lv_at hl 1 rfl) ?_
    refine gz_if_ne (tgt := 948) hx hb (by decide) dL_law_933 (by decide) (fun c_933 => ?_) (fun c_933 => ?_)
    · refine lv_goto (tgt := 1362) hx hb dL_law_948 (by decide) ?_
      refine W.widen (k := cells + 12) (n := slots + 900) (by omega) (by omega) ?_
      exact kk TA S 1 H_915 locs ls hLI2 hS (lv_sub hl [2, 3, 4, 5, 6] rfl)
    · omega
  · omega
set_option maxHeartbeats 4000000 in
set_option maxRecDepth 100000 in
theorem s_costByAll_e2 (l : Launch) (hlf : l.stackTraces = false) (G : gG) {p : Program} {e : Env} {s : State} {m : MethodId} {below : List Frame} {meth : Method} {c : Code} {b L : Nat} {xs : Nat → Int32} (F : lwF p s m c G b L xs) (A : Nat → Nat) (TA : Nat → Nat → Nat) (B : Nat → Nat) (S : cS) (o : Nat) (th : Int) (H : Heap) (locs : List Loc) (cells slots : Nat) (hLI : LI G A TA B o S th H) (hS : va_S (gA G) s.heap H locs) (t : Nat) (htL : 5 * t + 5 ≤ L) (y : Int) (hy : y = (5 * t : Nat)) (ls : Array Slot) (hl : lv_has ls 7 [(4, .int (zI y)), (0, .ref b), (1, .ref (A 0)), (2, .ref (B 0)), (3, .ref o)]) (hcl : cells + 12 ≤ 601024) (hsl : slots + 900 ≤ 7293034) (Q : State → Prop) (kk : lwK l G p e s m below meth c b A B o y cells slots Q) (z : Int) (i : Nat) (hz : z = i) (hi : i < sn S) (hk : srt S i = false) (h8 : ¬ shn S ≤ 8) (hq1 : xs (5 * t + 1) = zI z) : W p l e room_1 s m #[Value.ref b] below meth c H locs cells slots Q (F0 m 895 ls []) := by
  obtain ⟨hx, hb, hml, hts, hown, hX, hscr, hbl, hgb, hL25⟩ := F
  obtain ⟨hI, ⟨W9, hC⟩, ⟨ct, hM⟩, ho0, go, d1, d2, d3⟩ := id hLI
  have hbA : ¬ gA G b := fun z => by have z : gB G ≤ b := z; omega
  have hI2 : sInv S := hI
  refine lv_aload_n hx hb dL_law_895 rfl (lv_at hl 2 rfl) ?_
  refine lv_aload_n hx hb dL_law_896 rfl (lv_at hl 1 rfl) ?_
  refine lv_iload hx hb dL_law_897 (lv_at hl 0 rfl) ?_
  refine lv_iconst (v := zI 1) hx hb dL_law_899 rfl ?_
  refine gz_iadd hx hb dL_law_900 ?_
  refine gz_sld hx hb hscr hbl hbA hS (5 * t + 1) (by omega) (by omega) (by omega) dL_law_901 ?_
  rw [hq1]
  refine lv_aload_n hx hb dL_law_902 rfl (lv_at hl 4 rfl) ?_
  refine g_goi (vx_runSX (As := [.ref (A 0), .int (zI z), .ref o]) (rest := []) ⟨hx, hb, hml, hown, hts⟩ (w_costByAll_e2 l G hlf A TA S W9 H hC hI z i hz hi hk h8 o ho0 go d2) (vx_cwSW 3 hts gL_law_L_costByAll rfl rfl rfl hd_L_costByAll.2 ⟨(Nat.le_of_ble_eq_true rfl), (Nat.le_of_ble_eq_true rfl)⟩) (g_pre hX hS) rfl rfl hl.1 rfl (lv_room (Nat.le_of_ble_eq_true rfl)) dL_law_903 (⟨by show _ ≤ 601024; omega, by show _ ≤ 7293034; omega⟩)) hS (fun r_903 H_903 locs hp hS => ?_)
  obtain ⟨rfl, hLX, hLU⟩ := hp
  have hM1 := LI.mid hM hLX d1 d3
  refine lv_istore (lv' := [(5, .int (zI 2)), (4, .int (zI y)), (0, .ref b), (1, .ref (A 0)), (2, .ref (B 0)), (3, .ref o)]) hx hb dL_law_906 hl (by decide) rfl (fun ls hl => ?_)
  refine lv_aload_n hx hb dL_law_908 rfl (lv_at hl 4 rfl) ?_
  refine lv_aload_n hx hb dL_law_909 rfl (lv_at hl 2 rfl) ?_
  refine lv_iload hx hb dL_law_910 (lv_at hl 1 rfl) ?_
  refine lv_iconst (v := zI 1) hx hb dL_law_912 rfl ?_
  refine gz_iadd hx hb dL_law_913 ?_
  refine gz_sld hx hb hscr hbl hbA hS (5 * t + 1) (by omega) (by omega) (by omega) dL_law_914 ?_
  rw [hq1]
  refine g_goi (vx_runV (As := [.int (zI z)]) (rest := []) ⟨hx, hb, hml, hown, hts⟩ (m_costByAll_e2 l G B S th ct H_903 hM1 hI z i hz hi hk h8) (cwV 1 hts gL_law_X5_costByAll rfl rfl rfl hd_X5_costByAll ⟨(Nat.le_of_ble_eq_true rfl), (Nat.le_of_ble_eq_true rfl)⟩) (g_preV hX hS (ci := 5) rfl hM1.1) rfl rfl hl.1 rfl (lv_room (Nat.le_of_ble_eq_true rfl)) dL_law_915 (⟨by show _ ≤ 601024; omega, by show _ ≤ 7293034; omega⟩)) hS (fun r_915 H_915 locs hp hS => ?_)
  obtain ⟨rfl, hMP⟩ := hp
  have hLI2 := LI.fin hI2 hLI hLX hLU hMP
  obtain ⟨⟨ct2, hM2⟩, hKP2⟩ := id hMP
  refine lv_istore (lv' := [(6, .int (zI 0)), (5, .int (zI 2)), (4, .int (zI y)), (0, .ref b), (1, .ref (A 0)), (2, .ref (B 0)), (3, .ref o)]) hx hb dL_law_918 hl (by decide) rfl (fun ls hl => ?_)
  refine lv_aload_n hx hb dL_law_920 rfl (lv_at hl 5 rfl) ?_
  refine g_goi (vx_runV (As := []) (rest := []) ⟨hx, hb, hml, hown, hts⟩ (m_thrown l G B S 2 ct2 H_915 hM2) (cwV 0 hts gL_law_X5_thrown rfl rfl rfl hd_X5_thrown ⟨(Nat.le_of_ble_eq_true rfl), (Nat.le_of_ble_eq_true rfl)⟩) (g_preV hX hS (ci := 5) rfl hM2.1) rfl rfl hl.1 rfl (lv_room (Nat.le_of_ble_eq_true rfl)) dL_law_921 (⟨by show _ ≤ 601024; omega, by show _ ≤ 7293034; omega⟩)) hS (fun r_921 H_921 locs hp hS => ?_)
  obtain ⟨rfl, rfl⟩ := hp
  refine lv_iload hx hb dL_law_924 (lv_at hl 1 rfl) ?_
  refine gz_icmp_eq (tgt := 931) hx hb (by decide) (by decide) dL_law_926 (by decide) (fun c_926 => ?_) (fun c_926 => ?_)
  · refine lv_iload hx hb dL_law_931 (lv_at hl 1 rfl) ?_
    refine gz_if_ne (tgt := 948) hx hb (by decide) dL_law_933 (by decide) (fun c_933 => ?_) (fun c_933 => ?_)
    · refine lv_goto (tgt := 1362) hx hb dL_law_948 (by decide) ?_
      refine W.widen (k := cells + 12) (n := slots + 900) (by omega) (by omega) ?_
      exact kk TA S 2 H_915 locs ls hLI2 hS (lv_sub hl [2, 3, 4, 5, 6] rfl)
    · omega
  · omega
set_option maxHeartbeats 4000000 in
set_option maxRecDepth 100000 in
theorem s_matches_ok (l : Launch) (hlf : l.stackTraces = false) (G : gG) {p : Program} {e : Env} {s : State} {m : MethodId} {below : List Frame} {meth : Method} {c : Code} {b L : Nat} {xs : Nat → Int32} (F : lwF p s m c G b L xs) (A : Nat → Nat) (TA : Nat → Nat → Nat) (B : Nat → Nat) (S : cS) (o : Nat) (th : Int) (H : Heap) (locs : List Loc) (cells slots : Nat) (hLI : LI G A TA B o S th H) (hS : va_S (gA G) s.heap H locs) (t : Nat) (htL : 5 * t + 5 ≤ L) (y : Int) (hy : y = (5 * t : Nat)) (ls : Array Slot) (hl : lv_has ls 7 [(4, .int (zI y)), (0, .ref b), (1, .ref (A 0)), (2, .ref (B 0)), (3, .ref o)]) (hcl : cells + 12 ≤ 601024) (hsl : slots + 900 ≤ 7293034) (Q : State → Prop) (kk : lwK l G p e s m below meth c b A B o y cells slots Q)  : W p l e room_1 s m #[Value.ref b] below meth c H locs cells slots Q (F0 m 951 ls []) := by
  obtain ⟨hx, hb, hml, hts, hown, hX, hscr, hbl, hgb, hL25⟩ := F
  obtain ⟨hI, ⟨W9, hC⟩, ⟨ct, hM⟩, ho0, go, d1, d2, d3⟩ := id hLI
  have hbA : ¬ gA G b := fun z => by have z : gB G ≤ b := z; omega
  have hI2 : sInv S := hI
  refine lv_aload_n hx hb dL_law_951 rfl (lv_at hl 2 rfl) ?_
  refine g_goi (vx_runV (As := []) (rest := []) ⟨hx, hb, hml, hown, hts⟩ (x_matches l G A TA S W9 H hC hI ) (cwV 0 hts gL_law_X4_matches rfl rfl rfl hd_X4_matches ⟨(Nat.le_of_ble_eq_true rfl), (Nat.le_of_ble_eq_true rfl)⟩) (g_preV hX hS (ci := 4) rfl hC.1) rfl rfl hl.1 rfl (lv_room (Nat.le_of_ble_eq_true rfl)) dL_law_952 (⟨by show _ ≤ 601024; omega, by show _ ≤ 7293034; omega⟩)) hS (fun r_952 H_952 locs hp hS => ?_)
  obtain ⟨rfl, hxp⟩ := hp
  have hLX := LX.xp o hxp rfl
  have hLU := ho0.kp hxp.2 d2
  have hM1 := LI.mid hM hLX d1 d3
  refine W.eq (g2 := F0 m 955 ls [.int (zI ((manyF S : Nat) : Int))]) rfl ?_
  refine lv_aload_n hx hb dL_law_955 rfl (lv_at hl 3 rfl) ?_
  refine g_goi (vx_runV (As := []) (rest := [.int (zI ((manyF S : Nat) : Int))]) ⟨hx, hb, hml, hown, hts⟩ (m_matches l G B S th ct H_952 hM1 hI ) (cwV 0 hts gL_law_X5_matches rfl rfl rfl hd_X5_matches ⟨(Nat.le_of_ble_eq_true rfl), (Nat.le_of_ble_eq_true rfl)⟩) (g_preV hX hS (ci := 5) rfl hM1.1) rfl rfl hl.1 rfl (lv_room (Nat.le_of_ble_eq_true rfl)) dL_law_956 (⟨by show _ ≤ 601024; omega, by show _ ≤ 7293034; omega⟩)) hS (fun r_956 H_956 locs hp hS => ?_)
  obtain ⟨rfl, hMP⟩ := hp
  have hLI2 := LI.fin hI2 hLI hLX hLU hMP
  obtain ⟨⟨ct2, hM2⟩, hKP2⟩ := id hMP
  refine lv_icmp_eq (tgt := 1362) hx hb dL_law_959 (by decide) (fun c_959 => ?_) (fun c_959 => ?_)
  · refine W.widen (k := cells + 12) (n := slots + 900) (by omega) (by omega) ?_
    exact kk TA S 0 H_956 locs ls hLI2 hS (lv_sub hl [0, 1, 2, 3, 4] rfl)
  · exact (c_959 rfl).elim
set_option maxHeartbeats 4000000 in
set_option maxRecDepth 100000 in
theorem s_found_ok (l : Launch) (hlf : l.stackTraces = false) (G : gG) {p : Program} {e : Env} {s : State} {m : MethodId} {below : List Frame} {meth : Method} {c : Code} {b L : Nat} {xs : Nat → Int32} (F : lwF p s m c G b L xs) (A : Nat → Nat) (TA : Nat → Nat → Nat) (B : Nat → Nat) (S : cS) (o : Nat) (th : Int) (H : Heap) (locs : List Loc) (cells slots : Nat) (hLI : LI G A TA B o S th H) (hS : va_S (gA G) s.heap H locs) (t : Nat) (htL : 5 * t + 5 ≤ L) (y : Int) (hy : y = (5 * t : Nat)) (ls : Array Slot) (hl : lv_has ls 7 [(4, .int (zI y)), (0, .ref b), (1, .ref (A 0)), (2, .ref (B 0)), (3, .ref o)]) (hcl : cells + 12 ≤ 601024) (hsl : slots + 900 ≤ 7293034) (Q : State → Prop) (kk : lwK l G p e s m below meth c b A B o y cells slots Q) (z : Int) (hz : rI z) (k0 : Nat) (hfd0 : fdF S z 0 (sn S) = some k0) (hq1 : xs (5 * t + 1) = zI z) : W p l e room_1 s m #[Value.ref b] below meth c H locs cells slots Q (F0 m 964 ls []) := by
  obtain ⟨hx, hb, hml, hts, hown, hX, hscr, hbl, hgb, hL25⟩ := F
  obtain ⟨hI, ⟨W9, hC⟩, ⟨ct, hM⟩, ho0, go, d1, d2, d3⟩ := id hLI
  have hbA : ¬ gA G b := fun z => by have z : gB G ≤ b := z; omega
  have hI2 : sInv S := hI
  refine lv_aload_n hx hb dL_law_964 rfl (lv_at hl 2 rfl) ?_
  refine lv_aload_n hx hb dL_law_965 rfl (lv_at hl 1 rfl) ?_
  refine lv_iload hx hb dL_law_966 (lv_at hl 0 rfl) ?_
  refine lv_iconst (v := zI 1) hx hb dL_law_968 rfl ?_
  refine gz_iadd hx hb dL_law_969 ?_
  refine gz_sld hx hb hscr hbl hbA hS (5 * t + 1) (by omega) (by omega) (by omega) dL_law_970 ?_
  rw [hq1]
  refine lv_aload_n hx hb dL_law_971 rfl (lv_at hl 4 rfl) ?_
  refine g_goi (vx_runSX (As := [.ref (A 0), .int (zI z), .ref o]) (rest := []) ⟨hx, hb, hml, hown, hts⟩ (w_found_ok l G A TA S W9 H hC hI z hz k0 hfd0 o ho0 go d2) (vx_cwSW 3 hts gL_law_L_found rfl rfl rfl hd_L_found.2 ⟨(Nat.le_of_ble_eq_true rfl), (Nat.le_of_ble_eq_true rfl)⟩) (g_pre hX hS) rfl rfl hl.1 rfl (lv_room (Nat.le_of_ble_eq_true rfl)) dL_law_972 (⟨by show _ ≤ 601024; omega, by show _ ≤ 7293034; omega⟩)) hS (fun r_972 H_972 locs hp hS => ?_)
  obtain ⟨rfl, hLX, hLO⟩ := hp
  have hLU := hLO.u
  have hM1 := LI.mid hM hLX d1 d3
  refine lv_istore (lv' := [(5, .int (zI 0)), (4, .int (zI y)), (0, .ref b), (1, .ref (A 0)), (2, .ref (B 0)), (3, .ref o)]) hx hb dL_law_975 hl (by decide) rfl (fun ls hl => ?_)
  refine lv_aload_n hx hb dL_law_977 rfl (lv_at hl 4 rfl) ?_
  refine lv_aload_n hx hb dL_law_978 rfl (lv_at hl 2 rfl) ?_
  refine lv_iload hx hb dL_law_979 (lv_at hl 1 rfl) ?_
  refine lv_iconst (v := zI 1) hx hb dL_law_981 rfl ?_
  refine gz_iadd hx hb dL_law_982 ?_
  refine gz_sld hx hb hscr hbl hbA hS (5 * t + 1) (by omega) (by omega) (by omega) dL_law_983 ?_
  rw [hq1]
  refine g_goi (vx_runV (As := [.int (zI z)]) (rest := []) ⟨hx, hb, hml, hown, hts⟩ (m_found_ok l G B S th ct H_972 hM1 hI z hz k0 hfd0) (cwV 1 hts gL_law_X5_found rfl rfl rfl hd_X5_found ⟨(Nat.le_of_ble_eq_true rfl), (Nat.le_of_ble_eq_true rfl)⟩) (g_preV hX hS (ci := 5) rfl hM1.1) rfl rfl hl.1 rfl (lv_room (Nat.le_of_ble_eq_true rfl)) dL_law_984 (⟨by show _ ≤ 601024; omega, by show _ ≤ 7293034; omega⟩)) hS (fun r_984 H_984 locs hp hS => ?_)
  obtain ⟨rfl, hMP⟩ := hp
  have hLI2 := LI.fin hI2 hLI hLX hLU hMP
  obtain ⟨⟨ct2, hM2⟩, hKP2⟩ := id hMP
  obtain ⟨fo, ho, hfo⟩ := LO.mp hLO hMP d3
  refine lv_istore (lv' := [(6, .int (zI (k0 : Int))), (5, .int (zI 0)), (4, .int (zI y)), (0, .ref b), (1, .ref (A 0)), (2, .ref (B 0)), (3, .ref o)]) hx hb dL_law_987 hl (by decide) rfl (fun ls hl => ?_)
  refine lv_aload_n hx hb dL_law_989 rfl (lv_at hl 5 rfl) ?_
  refine g_goi (vx_runV (As := []) (rest := []) ⟨hx, hb, hml, hown, hts⟩ (m_thrown l G B S 0 ct2 H_984 hM2) (cwV 0 hts gL_law_X5_thrown rfl rfl rfl hd_X5_thrown ⟨(Nat.le_of_ble_eq_true rfl), (Nat.le_of_ble_eq_true rfl)⟩) (g_preV hX hS (ci := 5) rfl hM2.1) rfl rfl hl.1 rfl (lv_room (Nat.le_of_ble_eq_true rfl)) dL_law_990 (⟨by show _ ≤ 601024; omega, by show _ ≤ 7293034; omega⟩)) hS (fun r_990 H_990 locs hp hS => ?_)
  obtain ⟨rfl, rfl⟩ := hp
  refine lv_iload hx hb dL_law_993 (lv_at hl 1 rfl) ?_
  refine gz_icmp_eq (tgt := 1000) hx hb (by decide) (by decide) dL_law_995 (by decide) (fun c_995 => ?_) (fun c_995 => ?_)
  · refine lv_iload hx hb dL_law_1000 (lv_at hl 1 rfl) ?_
    refine gz_if_ne (tgt := 1017) hx hb (by decide) dL_law_1002 (by decide) (fun c_1002 => ?_) (fun c_1002 => ?_)
    · omega
    · refine lv_aload_n hx hb dL_law_1005 rfl (lv_at hl 6 rfl) ?_
      refine lv_iconst (v := zI 0) hx hb dL_law_1006 rfl ?_
      refine gz_lald hx hb hX ho 0 (by omega) (by omega) (by omega) dL_law_1007 ?_
      rw [hfo]
      refine lv_iload hx hb dL_law_1008 (lv_at hl 0 rfl) ?_
      refine lv_i2l hx hb dL_law_1010 rfl ?_
      refine W.lcmp hx hb dL_law_1011 ?_
      rw [lgc0]
      refine gz_if_eq (tgt := 1017) hx hb (by decide) dL_law_1012 (by decide) (fun c_1012 => ?_) (fun c_1012 => ?_)
      · refine lv_goto (tgt := 1362) hx hb dL_law_1017 (by decide) ?_
        refine W.widen (k := cells + 12) (n := slots + 900) (by omega) (by omega) ?_
        exact kk TA S 0 H_984 locs ls hLI2 hS (lv_sub hl [2, 3, 4, 5, 6] rfl)
      · omega
  · omega
set_option maxHeartbeats 4000000 in
set_option maxRecDepth 100000 in
theorem s_found_e1 (l : Launch) (hlf : l.stackTraces = false) (G : gG) {p : Program} {e : Env} {s : State} {m : MethodId} {below : List Frame} {meth : Method} {c : Code} {b L : Nat} {xs : Nat → Int32} (F : lwF p s m c G b L xs) (A : Nat → Nat) (TA : Nat → Nat → Nat) (B : Nat → Nat) (S : cS) (o : Nat) (th : Int) (H : Heap) (locs : List Loc) (cells slots : Nat) (hLI : LI G A TA B o S th H) (hS : va_S (gA G) s.heap H locs) (t : Nat) (htL : 5 * t + 5 ≤ L) (y : Int) (hy : y = (5 * t : Nat)) (ls : Array Slot) (hl : lv_has ls 7 [(4, .int (zI y)), (0, .ref b), (1, .ref (A 0)), (2, .ref (B 0)), (3, .ref o)]) (hcl : cells + 12 ≤ 601024) (hsl : slots + 900 ≤ 7293034) (Q : State → Prop) (kk : lwK l G p e s m below meth c b A B o y cells slots Q) (z : Int) (hz : rI z) (hfd0 : fdF S z 0 (sn S) = none) (hq1 : xs (5 * t + 1) = zI z) : W p l e room_1 s m #[Value.ref b] below meth c H locs cells slots Q (F0 m 964 ls []) := by
  obtain ⟨hx, hb, hml, hts, hown, hX, hscr, hbl, hgb, hL25⟩ := F
  obtain ⟨hI, ⟨W9, hC⟩, ⟨ct, hM⟩, ho0, go, d1, d2, d3⟩ := id hLI
  have hbA : ¬ gA G b := fun z => by have z : gB G ≤ b := z; omega
  have hI2 : sInv S := hI
  refine lv_aload_n hx hb dL_law_964 rfl (lv_at hl 2 rfl) ?_
  refine lv_aload_n hx hb dL_law_965 rfl (lv_at hl 1 rfl) ?_
  refine lv_iload hx hb dL_law_966 (lv_at hl 0 rfl) ?_
  refine lv_iconst (v := zI 1) hx hb dL_law_968 rfl ?_
  refine gz_iadd hx hb dL_law_969 ?_
  refine gz_sld hx hb hscr hbl hbA hS (5 * t + 1) (by omega) (by omega) (by omega) dL_law_970 ?_
  rw [hq1]
  refine lv_aload_n hx hb dL_law_971 rfl (lv_at hl 4 rfl) ?_
  refine g_goi (vx_runSX (As := [.ref (A 0), .int (zI z), .ref o]) (rest := []) ⟨hx, hb, hml, hown, hts⟩ (w_found_e1 l G hlf A TA S W9 H hC hI z hz hfd0 o ho0 go d2) (vx_cwSW 3 hts gL_law_L_found rfl rfl rfl hd_L_found.2 ⟨(Nat.le_of_ble_eq_true rfl), (Nat.le_of_ble_eq_true rfl)⟩) (g_pre hX hS) rfl rfl hl.1 rfl (lv_room (Nat.le_of_ble_eq_true rfl)) dL_law_972 (⟨by show _ ≤ 601024; omega, by show _ ≤ 7293034; omega⟩)) hS (fun r_972 H_972 locs hp hS => ?_)
  obtain ⟨rfl, hLX, hLU⟩ := hp
  have hM1 := LI.mid hM hLX d1 d3
  refine lv_istore (lv' := [(5, .int (zI 1)), (4, .int (zI y)), (0, .ref b), (1, .ref (A 0)), (2, .ref (B 0)), (3, .ref o)]) hx hb dL_law_975 hl (by decide) rfl (fun ls hl => ?_)
  refine lv_aload_n hx hb dL_law_977 rfl (lv_at hl 4 rfl) ?_
  refine lv_aload_n hx hb dL_law_978 rfl (lv_at hl 2 rfl) ?_
  refine lv_iload hx hb dL_law_979 (lv_at hl 1 rfl) ?_
  refine lv_iconst (v := zI 1) hx hb dL_law_981 rfl ?_
  refine gz_iadd hx hb dL_law_982 ?_
  refine gz_sld hx hb hscr hbl hbA hS (5 * t + 1) (by omega) (by omega) (by omega) dL_law_983 ?_
  rw [hq1]
  refine g_goi (vx_runV (As := [.int (zI z)]) (rest := []) ⟨hx, hb, hml, hown, hts⟩ (m_found_e1 l G B S th ct H_972 hM1 hI z hz hfd0) (cwV 1 hts gL_law_X5_found rfl rfl rfl hd_X5_found ⟨(Nat.le_of_ble_eq_true rfl), (Nat.le_of_ble_eq_true rfl)⟩) (g_preV hX hS (ci := 5) rfl hM1.1) rfl rfl hl.1 rfl (lv_room (Nat.le_of_ble_eq_true rfl)) dL_law_984 (⟨by show _ ≤ 601024; omega, by show _ ≤ 7293034; omega⟩)) hS (fun r_984 H_984 locs hp hS => ?_)
  obtain ⟨rfl, hMP⟩ := hp
  have hLI2 := LI.fin hI2 hLI hLX hLU hMP
  obtain ⟨⟨ct2, hM2⟩, hKP2⟩ := id hMP
  refine lv_istore (lv' := [(6, .int (zI 0)), (5, .int (zI 1)), (4, .int (zI y)), (0, .ref b), (1, .ref (A 0)), (2, .ref (B 0)), (3, .ref o)]) hx hb dL_law_987 hl (by decide) rfl (fun ls hl => ?_)
  refine lv_aload_n hx hb dL_law_989 rfl (lv_at hl 5 rfl) ?_
  refine g_goi (vx_runV (As := []) (rest := []) ⟨hx, hb, hml, hown, hts⟩ (m_thrown l G B S 1 ct2 H_984 hM2) (cwV 0 hts gL_law_X5_thrown rfl rfl rfl hd_X5_thrown ⟨(Nat.le_of_ble_eq_true rfl), (Nat.le_of_ble_eq_true rfl)⟩) (g_preV hX hS (ci := 5) rfl hM2.1) rfl rfl hl.1 rfl (lv_room (Nat.le_of_ble_eq_true rfl)) dL_law_990 (⟨by show _ ≤ 601024; omega, by show _ ≤ 7293034; omega⟩)) hS (fun r_990 H_990 locs hp hS => ?_)
  obtain ⟨rfl, rfl⟩ := hp
  refine lv_iload hx hb dL_law_993 (lv_at hl 1 rfl) ?_
  refine gz_icmp_eq (tgt := 1000) hx hb (by decide) (by decide) dL_law_995 (by decide) (fun c_995 => ?_) (fun c_995 => ?_)
  · refine lv_iload hx hb dL_law_1000 (lv_at hl 1 rfl) ?_
    refine gz_if_ne (tgt := 1017) hx hb (by decide) dL_law_1002 (by decide) (fun c_1002 => ?_) (fun c_1002 => ?_)
    · refine lv_goto (tgt := 1362) hx hb dL_law_1017 (by decide) ?_
      refine W.widen (k := cells + 12) (n := slots + 900) (by omega) (by omega) ?_
      exact kk TA S 1 H_984 locs ls hLI2 hS (lv_sub hl [2, 3, 4, 5, 6] rfl)
    · omega
  · omega
set_option maxHeartbeats 4000000 in
set_option maxRecDepth 100000 in
theorem s_likeContour_ok (l : Launch) (hlf : l.stackTraces = false) (G : gG) {p : Program} {e : Env} {s : State} {m : MethodId} {below : List Frame} {meth : Method} {c : Code} {b L : Nat} {xs : Nat → Int32} (F : lwF p s m c G b L xs) (A : Nat → Nat) (TA : Nat → Nat → Nat) (B : Nat → Nat) (S : cS) (o : Nat) (th : Int) (H : Heap) (locs : List Loc) (cells slots : Nat) (hLI : LI G A TA B o S th H) (hS : va_S (gA G) s.heap H locs) (t : Nat) (htL : 5 * t + 5 ≤ L) (y : Int) (hy : y = (5 * t : Nat)) (ls : Array Slot) (hl : lv_has ls 7 [(4, .int (zI y)), (0, .ref b), (1, .ref (A 0)), (2, .ref (B 0)), (3, .ref o)]) (hcl : cells + 12 ≤ 601024) (hsl : slots + 900 ≤ 7293034) (Q : State → Prop) (kk : lwK l G p e s m below meth c b A B o y cells slots Q)  : W p l e room_1 s m #[Value.ref b] below meth c H locs cells slots Q (F0 m 1020 ls []) := by
  obtain ⟨hx, hb, hml, hts, hown, hX, hscr, hbl, hgb, hL25⟩ := F
  obtain ⟨hI, ⟨W9, hC⟩, ⟨ct, hM⟩, ho0, go, d1, d2, d3⟩ := id hLI
  have hbA : ¬ gA G b := fun z => by have z : gB G ≤ b := z; omega
  have hI2 : sInv S := hI
  refine lv_aload_n hx hb dL_law_1020 rfl (lv_at hl 2 rfl) ?_
  refine g_goi (vx_runV (As := []) (rest := []) ⟨hx, hb, hml, hown, hts⟩ (x_likeContour l G A TA S W9 H hC hI ) (cwV 0 hts gL_law_X4_likeContour rfl rfl rfl hd_X4_likeContour ⟨(Nat.le_of_ble_eq_true rfl), (Nat.le_of_ble_eq_true rfl)⟩) (g_preV hX hS (ci := 4) rfl hC.1) rfl rfl hl.1 rfl (lv_room (Nat.le_of_ble_eq_true rfl)) dL_law_1021 (⟨by show _ ≤ 601024; omega, by show _ ≤ 7293034; omega⟩)) hS (fun r_1021 H_1021 locs hp hS => ?_)
  obtain ⟨rfl, rfl⟩ := hp
  have hLX := LX.same o hC
  have hLU := ho0
  have hM1 := LI.mid hM hLX d1 d3
  refine W.eq (g2 := F0 m 1024 ls [.int (zI ((lcF S (sn S) : Nat) : Int))]) rfl ?_
  refine lv_aload_n hx hb dL_law_1024 rfl (lv_at hl 3 rfl) ?_
  refine g_goi (vx_runV (As := []) (rest := [.int (zI ((lcF S (sn S) : Nat) : Int))]) ⟨hx, hb, hml, hown, hts⟩ (m_likeContour l G B S th ct H hM1 hI ) (cwV 0 hts gL_law_X5_likeContour rfl rfl rfl hd_X5_likeContour ⟨(Nat.le_of_ble_eq_true rfl), (Nat.le_of_ble_eq_true rfl)⟩) (g_preV hX hS (ci := 5) rfl hM1.1) rfl rfl hl.1 rfl (lv_room (Nat.le_of_ble_eq_true rfl)) dL_law_1025 (⟨by show _ ≤ 601024; omega, by show _ ≤ 7293034; omega⟩)) hS (fun r_1025 H_1025 locs hp hS => ?_)
  obtain ⟨rfl, hMP⟩ := hp
  have hLI2 := LI.fin hI2 hLI hLX hLU hMP
  obtain ⟨⟨ct2, hM2⟩, hKP2⟩ := id hMP
  refine lv_icmp_eq (tgt := 1362) hx hb dL_law_1028 (by decide) (fun c_1028 => ?_) (fun c_1028 => ?_)
  · refine W.widen (k := cells + 12) (n := slots + 900) (by omega) (by omega) ?_
    exact kk TA S 0 H_1025 locs ls hLI2 hS (lv_sub hl [0, 1, 2, 3, 4] rfl)
  · exact (c_1028 rfl).elim
set_option maxHeartbeats 4000000 in
set_option maxRecDepth 100000 in
theorem s_places_ok (l : Launch) (hlf : l.stackTraces = false) (G : gG) {p : Program} {e : Env} {s : State} {m : MethodId} {below : List Frame} {meth : Method} {c : Code} {b L : Nat} {xs : Nat → Int32} (F : lwF p s m c G b L xs) (A : Nat → Nat) (TA : Nat → Nat → Nat) (B : Nat → Nat) (S : cS) (o : Nat) (th : Int) (H : Heap) (locs : List Loc) (cells slots : Nat) (hLI : LI G A TA B o S th H) (hS : va_S (gA G) s.heap H locs) (t : Nat) (htL : 5 * t + 5 ≤ L) (y : Int) (hy : y = (5 * t : Nat)) (ls : Array Slot) (hl : lv_has ls 7 [(4, .int (zI y)), (0, .ref b), (1, .ref (A 0)), (2, .ref (B 0)), (3, .ref o)]) (hcl : cells + 12 ≤ 601024) (hsl : slots + 900 ≤ 7293034) (Q : State → Prop) (kk : lwK l G p e s m below meth c b A B o y cells slots Q) (zs : Int) (st0 : Nat) (hzs : zs = st0) (h14 : 1 ≤ st0 ∧ st0 ≤ 4) (hst : st0 + 1 ≤ shn S) (hq1 : xs (5 * t + 1) = zI zs) : W p l e room_1 s m #[Value.ref b] below meth c H locs cells slots Q (F0 m 1033 ls []) := by
  obtain ⟨hx, hb, hml, hts, hown, hX, hscr, hbl, hgb, hL25⟩ := F
  obtain ⟨hI, ⟨W9, hC⟩, ⟨ct, hM⟩, ho0, go, d1, d2, d3⟩ := id hLI
  have hbA : ¬ gA G b := fun z => by have z : gB G ≤ b := z; omega
  have hI2 : sInv S := hI
  refine lv_aload_n hx hb dL_law_1033 rfl (lv_at hl 2 rfl) ?_
  refine lv_aload_n hx hb dL_law_1034 rfl (lv_at hl 1 rfl) ?_
  refine lv_iload hx hb dL_law_1035 (lv_at hl 0 rfl) ?_
  refine lv_iconst (v := zI 1) hx hb dL_law_1037 rfl ?_
  refine gz_iadd hx hb dL_law_1038 ?_
  refine gz_sld hx hb hscr hbl hbA hS (5 * t + 1) (by omega) (by omega) (by omega) dL_law_1039 ?_
  rw [hq1]
  refine lv_aload_n hx hb dL_law_1040 rfl (lv_at hl 4 rfl) ?_
  refine g_goi (vx_runSX (As := [.ref (A 0), .int (zI zs), .ref o]) (rest := []) ⟨hx, hb, hml, hown, hts⟩ (w_places_ok l G A TA S W9 H hC hI zs st0 hzs h14 hst o ho0 go d2) (vx_cwSW 3 hts gL_law_L_places rfl rfl rfl hd_L_places.2 ⟨(Nat.le_of_ble_eq_true rfl), (Nat.le_of_ble_eq_true rfl)⟩) (g_pre hX hS) rfl rfl hl.1 rfl (lv_room (Nat.le_of_ble_eq_true rfl)) dL_law_1041 (⟨by show _ ≤ 601024; omega, by show _ ≤ 7293034; omega⟩)) hS (fun r_1041 H_1041 locs hp hS => ?_)
  obtain ⟨rfl, hLX, hLO⟩ := hp
  have hLU := hLO.u
  have hM1 := LI.mid hM hLX d1 d3
  refine lv_istore (lv' := [(5, .int (zI 0)), (4, .int (zI y)), (0, .ref b), (1, .ref (A 0)), (2, .ref (B 0)), (3, .ref o)]) hx hb dL_law_1044 hl (by decide) rfl (fun ls hl => ?_)
  refine lv_aload_n hx hb dL_law_1046 rfl (lv_at hl 4 rfl) ?_
  refine lv_aload_n hx hb dL_law_1047 rfl (lv_at hl 2 rfl) ?_
  refine lv_iload hx hb dL_law_1048 (lv_at hl 1 rfl) ?_
  refine lv_iconst (v := zI 1) hx hb dL_law_1050 rfl ?_
  refine gz_iadd hx hb dL_law_1051 ?_
  refine gz_sld hx hb hscr hbl hbA hS (5 * t + 1) (by omega) (by omega) (by omega) dL_law_1052 ?_
  rw [hq1]
  refine g_goi (vx_runV (As := [.int (zI zs)]) (rest := []) ⟨hx, hb, hml, hown, hts⟩ (m_places_ok l G B S th ct H_1041 hM1 hI zs st0 hzs h14 hst) (cwV 1 hts gL_law_X5_places rfl rfl rfl hd_X5_places ⟨(Nat.le_of_ble_eq_true rfl), (Nat.le_of_ble_eq_true rfl)⟩) (g_preV hX hS (ci := 5) rfl hM1.1) rfl rfl hl.1 rfl (lv_room (Nat.le_of_ble_eq_true rfl)) dL_law_1053 (⟨by show _ ≤ 601024; omega, by show _ ≤ 7293034; omega⟩)) hS (fun r_1053 H_1053 locs hp hS => ?_)
  obtain ⟨rfl, hMP⟩ := hp
  have hLI2 := LI.fin hI2 hLI hLX hLU hMP
  obtain ⟨⟨ct2, hM2⟩, hKP2⟩ := id hMP
  obtain ⟨fo, ho, hfo⟩ := LO.mp hLO hMP d3
  refine lv_istore (lv' := [(6, .int (zI (((plA S st0 (sn S)).length : Nat) : Int))), (5, .int (zI 0)), (4, .int (zI y)), (0, .ref b), (1, .ref (A 0)), (2, .ref (B 0)), (3, .ref o)]) hx hb dL_law_1056 hl (by decide) rfl (fun ls hl => ?_)
  refine lv_aload_n hx hb dL_law_1058 rfl (lv_at hl 5 rfl) ?_
  refine g_goi (vx_runV (As := []) (rest := []) ⟨hx, hb, hml, hown, hts⟩ (m_thrown l G B S 0 ct2 H_1053 hM2) (cwV 0 hts gL_law_X5_thrown rfl rfl rfl hd_X5_thrown ⟨(Nat.le_of_ble_eq_true rfl), (Nat.le_of_ble_eq_true rfl)⟩) (g_preV hX hS (ci := 5) rfl hM2.1) rfl rfl hl.1 rfl (lv_room (Nat.le_of_ble_eq_true rfl)) dL_law_1059 (⟨by show _ ≤ 601024; omega, by show _ ≤ 7293034; omega⟩)) hS (fun r_1059 H_1059 locs hp hS => ?_)
  obtain ⟨rfl, rfl⟩ := hp
  refine lv_iload hx hb dL_law_1062 (lv_at hl 1 rfl) ?_
  refine gz_icmp_eq (tgt := 1069) hx hb (by decide) (by decide) dL_law_1064 (by decide) (fun c_1064 => ?_) (fun c_1064 => ?_)
  · refine lv_iload hx hb dL_law_1069 (lv_at hl 1 rfl) ?_
    refine gz_if_ne (tgt := 1086) hx hb (by decide) dL_law_1071 (by decide) (fun c_1071 => ?_) (fun c_1071 => ?_)
    · omega
    · refine lv_aload_n hx hb dL_law_1074 rfl (lv_at hl 6 rfl) ?_
      refine lv_iconst (v := zI 0) hx hb dL_law_1075 rfl ?_
      refine gz_lald hx hb hX ho 0 (by omega) (by omega) (by omega) dL_law_1076 ?_
      rw [hfo]
      refine lv_iload hx hb dL_law_1077 (lv_at hl 0 rfl) ?_
      refine lv_i2l hx hb dL_law_1079 rfl ?_
      refine W.lcmp hx hb dL_law_1080 ?_
      rw [lgc0]
      refine gz_if_eq (tgt := 1086) hx hb (by decide) dL_law_1081 (by decide) (fun c_1081 => ?_) (fun c_1081 => ?_)
      · refine lv_goto (tgt := 1362) hx hb dL_law_1086 (by decide) ?_
        refine W.widen (k := cells + 12) (n := slots + 900) (by omega) (by omega) ?_
        exact kk TA S 0 H_1053 locs ls hLI2 hS (lv_sub hl [2, 3, 4, 5, 6] rfl)
      · omega
  · omega
set_option maxHeartbeats 4000000 in
set_option maxRecDepth 100000 in
theorem s_places_e1 (l : Launch) (hlf : l.stackTraces = false) (G : gG) {p : Program} {e : Env} {s : State} {m : MethodId} {below : List Frame} {meth : Method} {c : Code} {b L : Nat} {xs : Nat → Int32} (F : lwF p s m c G b L xs) (A : Nat → Nat) (TA : Nat → Nat → Nat) (B : Nat → Nat) (S : cS) (o : Nat) (th : Int) (H : Heap) (locs : List Loc) (cells slots : Nat) (hLI : LI G A TA B o S th H) (hS : va_S (gA G) s.heap H locs) (t : Nat) (htL : 5 * t + 5 ≤ L) (y : Int) (hy : y = (5 * t : Nat)) (ls : Array Slot) (hl : lv_has ls 7 [(4, .int (zI y)), (0, .ref b), (1, .ref (A 0)), (2, .ref (B 0)), (3, .ref o)]) (hcl : cells + 12 ≤ 601024) (hsl : slots + 900 ≤ 7293034) (Q : State → Prop) (kk : lwK l G p e s m below meth c b A B o y cells slots Q) (zs : Int) (hz : rI zs) (hno : ¬ (1 ≤ zs ∧ zs ≤ 4)) (hq1 : xs (5 * t + 1) = zI zs) : W p l e room_1 s m #[Value.ref b] below meth c H locs cells slots Q (F0 m 1033 ls []) := by
  obtain ⟨hx, hb, hml, hts, hown, hX, hscr, hbl, hgb, hL25⟩ := F
  obtain ⟨hI, ⟨W9, hC⟩, ⟨ct, hM⟩, ho0, go, d1, d2, d3⟩ := id hLI
  have hbA : ¬ gA G b := fun z => by have z : gB G ≤ b := z; omega
  have hI2 : sInv S := hI
  refine lv_aload_n hx hb dL_law_1033 rfl (lv_at hl 2 rfl) ?_
  refine lv_aload_n hx hb dL_law_1034 rfl (lv_at hl 1 rfl) ?_
  refine lv_iload hx hb dL_law_1035 (lv_at hl 0 rfl) ?_
  refine lv_iconst (v := zI 1) hx hb dL_law_1037 rfl ?_
  refine gz_iadd hx hb dL_law_1038 ?_
  refine gz_sld hx hb hscr hbl hbA hS (5 * t + 1) (by omega) (by omega) (by omega) dL_law_1039 ?_
  rw [hq1]
  refine lv_aload_n hx hb dL_law_1040 rfl (lv_at hl 4 rfl) ?_
  refine g_goi (vx_runSX (As := [.ref (A 0), .int (zI zs), .ref o]) (rest := []) ⟨hx, hb, hml, hown, hts⟩ (w_places_e1 l G hlf A TA S W9 H hC hI zs hz hno o ho0 go d2) (vx_cwSW 3 hts gL_law_L_places rfl rfl rfl hd_L_places.2 ⟨(Nat.le_of_ble_eq_true rfl), (Nat.le_of_ble_eq_true rfl)⟩) (g_pre hX hS) rfl rfl hl.1 rfl (lv_room (Nat.le_of_ble_eq_true rfl)) dL_law_1041 (⟨by show _ ≤ 601024; omega, by show _ ≤ 7293034; omega⟩)) hS (fun r_1041 H_1041 locs hp hS => ?_)
  obtain ⟨rfl, hLX, hLU⟩ := hp
  have hM1 := LI.mid hM hLX d1 d3
  refine lv_istore (lv' := [(5, .int (zI 1)), (4, .int (zI y)), (0, .ref b), (1, .ref (A 0)), (2, .ref (B 0)), (3, .ref o)]) hx hb dL_law_1044 hl (by decide) rfl (fun ls hl => ?_)
  refine lv_aload_n hx hb dL_law_1046 rfl (lv_at hl 4 rfl) ?_
  refine lv_aload_n hx hb dL_law_1047 rfl (lv_at hl 2 rfl) ?_
  refine lv_iload hx hb dL_law_1048 (lv_at hl 1 rfl) ?_
  refine lv_iconst (v := zI 1) hx hb dL_law_1050 rfl ?_
  refine gz_iadd hx hb dL_law_1051 ?_
  refine gz_sld hx hb hscr hbl hbA hS (5 * t + 1) (by omega) (by omega) (by omega) dL_law_1052 ?_
  rw [hq1]
  refine g_goi (vx_runV (As := [.int (zI zs)]) (rest := []) ⟨hx, hb, hml, hown, hts⟩ (m_places_e1 l G B S th ct H_1041 hM1 hI zs hz hno) (cwV 1 hts gL_law_X5_places rfl rfl rfl hd_X5_places ⟨(Nat.le_of_ble_eq_true rfl), (Nat.le_of_ble_eq_true rfl)⟩) (g_preV hX hS (ci := 5) rfl hM1.1) rfl rfl hl.1 rfl (lv_room (Nat.le_of_ble_eq_true rfl)) dL_law_1053 (⟨by show _ ≤ 601024; omega, by show _ ≤ 7293034; omega⟩)) hS (fun r_1053 H_1053 locs hp hS => ?_)
  obtain ⟨rfl, hMP⟩ := hp
  have hLI2 := LI.fin hI2 hLI hLX hLU hMP
  obtain ⟨⟨ct2, hM2⟩, hKP2⟩ := id hMP
  refine lv_istore (lv' := [(6, .int (zI 0)), (5, .int (zI 1)), (4, .int (zI y)), (0, .ref b), (1, .ref (A 0)), (2, .ref (B 0)), (3, .ref o)]) hx hb dL_law_1056 hl (by decide) rfl (fun ls hl => ?_)
  refine lv_aload_n hx hb dL_law_1058 rfl (lv_at hl 5 rfl) ?_
  refine g_goi (vx_runV (As := []) (rest := []) ⟨hx, hb, hml, hown, hts⟩ (m_thrown l G B S 1 ct2 H_1053 hM2) (cwV 0 hts gL_law_X5_thrown rfl rfl rfl hd_X5_thrown ⟨(Nat.le_of_ble_eq_true rfl), (Nat.le_of_ble_eq_true rfl)⟩) (g_preV hX hS (ci := 5) rfl hM2.1) rfl rfl hl.1 rfl (lv_room (Nat.le_of_ble_eq_true rfl)) dL_law_1059 (⟨by show _ ≤ 601024; omega, by show _ ≤ 7293034; omega⟩)) hS (fun r_1059 H_1059 locs hp hS => ?_)
  obtain ⟨rfl, rfl⟩ := hp
  refine lv_iload hx hb dL_law_1062 (lv_at hl 1 rfl) ?_
  refine gz_icmp_eq (tgt := 1069) hx hb (by decide) (by decide) dL_law_1064 (by decide) (fun c_1064 => ?_) (fun c_1064 => ?_)
  · refine lv_iload hx hb dL_law_1069 (lv_at hl 1 rfl) ?_
    refine gz_if_ne (tgt := 1086) hx hb (by decide) dL_law_1071 (by decide) (fun c_1071 => ?_) (fun c_1071 => ?_)
    · refine lv_goto (tgt := 1362) hx hb dL_law_1086 (by decide) ?_
      refine W.widen (k := cells + 12) (n := slots + 900) (by omega) (by omega) ?_
      exact kk TA S 1 H_1053 locs ls hLI2 hS (lv_sub hl [2, 3, 4, 5, 6] rfl)
    · omega
  · omega
set_option maxHeartbeats 4000000 in
set_option maxRecDepth 100000 in
theorem s_places_e2 (l : Launch) (hlf : l.stackTraces = false) (G : gG) {p : Program} {e : Env} {s : State} {m : MethodId} {below : List Frame} {meth : Method} {c : Code} {b L : Nat} {xs : Nat → Int32} (F : lwF p s m c G b L xs) (A : Nat → Nat) (TA : Nat → Nat → Nat) (B : Nat → Nat) (S : cS) (o : Nat) (th : Int) (H : Heap) (locs : List Loc) (cells slots : Nat) (hLI : LI G A TA B o S th H) (hS : va_S (gA G) s.heap H locs) (t : Nat) (htL : 5 * t + 5 ≤ L) (y : Int) (hy : y = (5 * t : Nat)) (ls : Array Slot) (hl : lv_has ls 7 [(4, .int (zI y)), (0, .ref b), (1, .ref (A 0)), (2, .ref (B 0)), (3, .ref o)]) (hcl : cells + 12 ≤ 601024) (hsl : slots + 900 ≤ 7293034) (Q : State → Prop) (kk : lwK l G p e s m below meth c b A B o y cells slots Q) (zs : Int) (hz : rI zs) (h14 : 1 ≤ zs ∧ zs ≤ 4) (hno : ¬ zs ≤ (shn S : Int) - 1) (hq1 : xs (5 * t + 1) = zI zs) : W p l e room_1 s m #[Value.ref b] below meth c H locs cells slots Q (F0 m 1033 ls []) := by
  obtain ⟨hx, hb, hml, hts, hown, hX, hscr, hbl, hgb, hL25⟩ := F
  obtain ⟨hI, ⟨W9, hC⟩, ⟨ct, hM⟩, ho0, go, d1, d2, d3⟩ := id hLI
  have hbA : ¬ gA G b := fun z => by have z : gB G ≤ b := z; omega
  have hI2 : sInv S := hI
  refine lv_aload_n hx hb dL_law_1033 rfl (lv_at hl 2 rfl) ?_
  refine lv_aload_n hx hb dL_law_1034 rfl (lv_at hl 1 rfl) ?_
  refine lv_iload hx hb dL_law_1035 (lv_at hl 0 rfl) ?_
  refine lv_iconst (v := zI 1) hx hb dL_law_1037 rfl ?_
  refine gz_iadd hx hb dL_law_1038 ?_
  refine gz_sld hx hb hscr hbl hbA hS (5 * t + 1) (by omega) (by omega) (by omega) dL_law_1039 ?_
  rw [hq1]
  refine lv_aload_n hx hb dL_law_1040 rfl (lv_at hl 4 rfl) ?_
  refine g_goi (vx_runSX (As := [.ref (A 0), .int (zI zs), .ref o]) (rest := []) ⟨hx, hb, hml, hown, hts⟩ (w_places_e2 l G hlf A TA S W9 H hC hI zs hz h14 hno o ho0 go d2) (vx_cwSW 3 hts gL_law_L_places rfl rfl rfl hd_L_places.2 ⟨(Nat.le_of_ble_eq_true rfl), (Nat.le_of_ble_eq_true rfl)⟩) (g_pre hX hS) rfl rfl hl.1 rfl (lv_room (Nat.le_of_ble_eq_true rfl)) dL_law_1041 (⟨by show _ ≤ 601024; omega, by show _ ≤ 7293034; omega⟩)) hS (fun r_1041 H_1041 locs hp hS => ?_)
  obtain ⟨rfl, hLX, hLU⟩ := hp
  have hM1 := LI.mid hM hLX d1 d3
  refine lv_istore (lv' := [(5, .int (zI 2)), (4, .int (zI y)), (0, .ref b), (1, .ref (A 0)), (2, .ref (B 0)), (3, .ref o)]) hx hb dL_law_1044 hl (by decide) rfl (fun ls hl => ?_)
  refine lv_aload_n hx hb dL_law_1046 rfl (lv_at hl 4 rfl) ?_
  refine lv_aload_n hx hb dL_law_1047 rfl (lv_at hl 2 rfl) ?_
  refine lv_iload hx hb dL_law_1048 (lv_at hl 1 rfl) ?_
  refine lv_iconst (v := zI 1) hx hb dL_law_1050 rfl ?_
  refine gz_iadd hx hb dL_law_1051 ?_
  refine gz_sld hx hb hscr hbl hbA hS (5 * t + 1) (by omega) (by omega) (by omega) dL_law_1052 ?_
  rw [hq1]
  refine g_goi (vx_runV (As := [.int (zI zs)]) (rest := []) ⟨hx, hb, hml, hown, hts⟩ (m_places_e2 l G B S th ct H_1041 hM1 hI zs hz h14 hno) (cwV 1 hts gL_law_X5_places rfl rfl rfl hd_X5_places ⟨(Nat.le_of_ble_eq_true rfl), (Nat.le_of_ble_eq_true rfl)⟩) (g_preV hX hS (ci := 5) rfl hM1.1) rfl rfl hl.1 rfl (lv_room (Nat.le_of_ble_eq_true rfl)) dL_law_1053 (⟨by show _ ≤ 601024; omega, by show _ ≤ 7293034; omega⟩)) hS (fun r_1053 H_1053 locs hp hS => ?_)
  obtain ⟨rfl, hMP⟩ := hp
  have hLI2 := LI.fin hI2 hLI hLX hLU hMP
  obtain ⟨⟨ct2, hM2⟩, hKP2⟩ := id hMP
  refine lv_istore (lv' := [(6, .int (zI 0)), (5, .int (zI 2)), (4, .int (zI y)), (0, .ref b), (1, .ref (A 0)), (2, .ref (B 0)), (3, .ref o)]) hx hb dL_law_1056 hl (by decide) rfl (fun ls hl => ?_)
  refine lv_aload_n hx hb dL_law_1058 rfl (lv_at hl 5 rfl) ?_
  refine g_goi (vx_runV (As := []) (rest := []) ⟨hx, hb, hml, hown, hts⟩ (m_thrown l G B S 2 ct2 H_1053 hM2) (cwV 0 hts gL_law_X5_thrown rfl rfl rfl hd_X5_thrown ⟨(Nat.le_of_ble_eq_true rfl), (Nat.le_of_ble_eq_true rfl)⟩) (g_preV hX hS (ci := 5) rfl hM2.1) rfl rfl hl.1 rfl (lv_room (Nat.le_of_ble_eq_true rfl)) dL_law_1059 (⟨by show _ ≤ 601024; omega, by show _ ≤ 7293034; omega⟩)) hS (fun r_1059 H_1059 locs hp hS => ?_)
  obtain ⟨rfl, rfl⟩ := hp
  refine lv_iload hx hb dL_law_1062 (lv_at hl 1 rfl) ?_
  refine gz_icmp_eq (tgt := 1069) hx hb (by decide) (by decide) dL_law_1064 (by decide) (fun c_1064 => ?_) (fun c_1064 => ?_)
  · refine lv_iload hx hb dL_law_1069 (lv_at hl 1 rfl) ?_
    refine gz_if_ne (tgt := 1086) hx hb (by decide) dL_law_1071 (by decide) (fun c_1071 => ?_) (fun c_1071 => ?_)
    · refine lv_goto (tgt := 1362) hx hb dL_law_1086 (by decide) ?_
      refine W.widen (k := cells + 12) (n := slots + 900) (by omega) (by omega) ?_
      exact kk TA S 2 H_1053 locs ls hLI2 hS (lv_sub hl [2, 3, 4, 5, 6] rfl)
    · omega
  · omega
set_option maxHeartbeats 4000000 in
set_option maxRecDepth 100000 in
theorem s_place_ok (l : Launch) (hlf : l.stackTraces = false) (G : gG) {p : Program} {e : Env} {s : State} {m : MethodId} {below : List Frame} {meth : Method} {c : Code} {b L : Nat} {xs : Nat → Int32} (F : lwF p s m c G b L xs) (A : Nat → Nat) (TA : Nat → Nat → Nat) (B : Nat → Nat) (S : cS) (o : Nat) (th : Int) (H : Heap) (locs : List Loc) (cells slots : Nat) (hLI : LI G A TA B o S th H) (hS : va_S (gA G) s.heap H locs) (t : Nat) (htL : 5 * t + 5 ≤ L) (y : Int) (hy : y = (5 * t : Nat)) (ls : Array Slot) (hl : lv_has ls 7 [(4, .int (zI y)), (0, .ref b), (1, .ref (A 0)), (2, .ref (B 0)), (3, .ref o)]) (hcl : cells + 12 ≤ 601024) (hsl : slots + 900 ≤ 7293034) (Q : State → Prop) (kk : lwK l G p e s m below meth c b A B o y cells slots Q) (zs : Int) (st0 : Nat) (hzs : zs = st0) (h14 : 1 ≤ st0 ∧ st0 ≤ 4) (hst : st0 + 1 ≤ shn S) (zp : Int) (p0 : Nat) (hzp : zp = p0) (hp0 : p0 < (plA S st0 (sn S)).length) (hq1 : xs (5 * t + 1) = zI zs) (hq2 : xs (5 * t + 2) = zI zp) : W p l e room_1 s m #[Value.ref b] below meth c H locs cells slots Q (F0 m 1089 ls []) := by
  obtain ⟨hx, hb, hml, hts, hown, hX, hscr, hbl, hgb, hL25⟩ := F
  obtain ⟨hI, ⟨W9, hC⟩, ⟨ct, hM⟩, ho0, go, d1, d2, d3⟩ := id hLI
  have hbA : ¬ gA G b := fun z => by have z : gB G ≤ b := z; omega
  have hI2 : sInv S := hI
  refine lv_aload_n hx hb dL_law_1089 rfl (lv_at hl 2 rfl) ?_
  refine lv_aload_n hx hb dL_law_1090 rfl (lv_at hl 1 rfl) ?_
  refine lv_iload hx hb dL_law_1091 (lv_at hl 0 rfl) ?_
  refine lv_iconst (v := zI 1) hx hb dL_law_1093 rfl ?_
  refine gz_iadd hx hb dL_law_1094 ?_
  refine gz_sld hx hb hscr hbl hbA hS (5 * t + 1) (by omega) (by omega) (by omega) dL_law_1095 ?_
  rw [hq1]
  refine lv_aload_n hx hb dL_law_1096 rfl (lv_at hl 1 rfl) ?_
  refine lv_iload hx hb dL_law_1097 (lv_at hl 0 rfl) ?_
  refine lv_iconst (v := zI 2) hx hb dL_law_1099 rfl ?_
  refine gz_iadd hx hb dL_law_1100 ?_
  refine gz_sld hx hb hscr hbl hbA hS (5 * t + 2) (by omega) (by omega) (by omega) dL_law_1101 ?_
  rw [hq2]
  refine lv_aload_n hx hb dL_law_1102 rfl (lv_at hl 4 rfl) ?_
  refine g_goi (vx_runSX (As := [.ref (A 0), .int (zI zs), .int (zI zp), .ref o]) (rest := []) ⟨hx, hb, hml, hown, hts⟩ (w_place_ok l G A TA S W9 H hC hI zs st0 hzs h14 hst zp p0 hzp hp0 o ho0 go d2) (vx_cwSW 4 hts gL_law_L_place rfl rfl rfl hd_L_place.2 ⟨(Nat.le_of_ble_eq_true rfl), (Nat.le_of_ble_eq_true rfl)⟩) (g_pre hX hS) rfl rfl hl.1 rfl (lv_room (Nat.le_of_ble_eq_true rfl)) dL_law_1103 (⟨by show _ ≤ 601024; omega, by show _ ≤ 7293034; omega⟩)) hS (fun r_1103 H_1103 locs hp hS => ?_)
  obtain ⟨rfl, hLX, hLO⟩ := hp
  have hLU := hLO.u
  have hM1 := LI.mid hM hLX d1 d3
  refine lv_istore (lv' := [(5, .int (zI 0)), (4, .int (zI y)), (0, .ref b), (1, .ref (A 0)), (2, .ref (B 0)), (3, .ref o)]) hx hb dL_law_1106 hl (by decide) rfl (fun ls hl => ?_)
  refine lv_aload_n hx hb dL_law_1108 rfl (lv_at hl 4 rfl) ?_
  refine lv_aload_n hx hb dL_law_1109 rfl (lv_at hl 2 rfl) ?_
  refine lv_iload hx hb dL_law_1110 (lv_at hl 1 rfl) ?_
  refine lv_iconst (v := zI 1) hx hb dL_law_1112 rfl ?_
  refine gz_iadd hx hb dL_law_1113 ?_
  refine gz_sld hx hb hscr hbl hbA hS (5 * t + 1) (by omega) (by omega) (by omega) dL_law_1114 ?_
  rw [hq1]
  refine lv_aload_n hx hb dL_law_1115 rfl (lv_at hl 2 rfl) ?_
  refine lv_iload hx hb dL_law_1116 (lv_at hl 1 rfl) ?_
  refine lv_iconst (v := zI 2) hx hb dL_law_1118 rfl ?_
  refine gz_iadd hx hb dL_law_1119 ?_
  refine gz_sld hx hb hscr hbl hbA hS (5 * t + 2) (by omega) (by omega) (by omega) dL_law_1120 ?_
  rw [hq2]
  refine g_goi (vx_runV (As := [.int (zI zs), .int (zI zp)]) (rest := []) ⟨hx, hb, hml, hown, hts⟩ (m_place_ok l G B S th ct H_1103 hM1 hI zs st0 hzs h14 hst zp p0 hzp hp0) (cwV 2 hts gL_law_X5_place rfl rfl rfl hd_X5_place ⟨(Nat.le_of_ble_eq_true rfl), (Nat.le_of_ble_eq_true rfl)⟩) (g_preV hX hS (ci := 5) rfl hM1.1) rfl rfl hl.1 rfl (lv_room (Nat.le_of_ble_eq_true rfl)) dL_law_1121 (⟨by show _ ≤ 601024; omega, by show _ ≤ 7293034; omega⟩)) hS (fun r_1121 H_1121 locs hp hS => ?_)
  obtain ⟨rfl, hMP⟩ := hp
  have hLI2 := LI.fin hI2 hLI hLX hLU hMP
  obtain ⟨⟨ct2, hM2⟩, hKP2⟩ := id hMP
  obtain ⟨fo, ho, hfo⟩ := LO.mp hLO hMP d3
  refine lv_istore (lv' := [(6, .int (zI (((plA S st0 (sn S)).getD p0 0 : Nat) : Int))), (5, .int (zI 0)), (4, .int (zI y)), (0, .ref b), (1, .ref (A 0)), (2, .ref (B 0)), (3, .ref o)]) hx hb dL_law_1124 hl (by decide) rfl (fun ls hl => ?_)
  refine lv_aload_n hx hb dL_law_1126 rfl (lv_at hl 5 rfl) ?_
  refine g_goi (vx_runV (As := []) (rest := []) ⟨hx, hb, hml, hown, hts⟩ (m_thrown l G B S 0 ct2 H_1121 hM2) (cwV 0 hts gL_law_X5_thrown rfl rfl rfl hd_X5_thrown ⟨(Nat.le_of_ble_eq_true rfl), (Nat.le_of_ble_eq_true rfl)⟩) (g_preV hX hS (ci := 5) rfl hM2.1) rfl rfl hl.1 rfl (lv_room (Nat.le_of_ble_eq_true rfl)) dL_law_1127 (⟨by show _ ≤ 601024; omega, by show _ ≤ 7293034; omega⟩)) hS (fun r_1127 H_1127 locs hp hS => ?_)
  obtain ⟨rfl, rfl⟩ := hp
  refine lv_iload hx hb dL_law_1130 (lv_at hl 1 rfl) ?_
  refine gz_icmp_eq (tgt := 1137) hx hb (by decide) (by decide) dL_law_1132 (by decide) (fun c_1132 => ?_) (fun c_1132 => ?_)
  · refine lv_iload hx hb dL_law_1137 (lv_at hl 1 rfl) ?_
    refine gz_if_ne (tgt := 1154) hx hb (by decide) dL_law_1139 (by decide) (fun c_1139 => ?_) (fun c_1139 => ?_)
    · omega
    · refine lv_aload_n hx hb dL_law_1142 rfl (lv_at hl 6 rfl) ?_
      refine lv_iconst (v := zI 0) hx hb dL_law_1143 rfl ?_
      refine gz_lald hx hb hX ho 0 (by omega) (by omega) (by omega) dL_law_1144 ?_
      rw [hfo]
      refine lv_iload hx hb dL_law_1145 (lv_at hl 0 rfl) ?_
      refine lv_i2l hx hb dL_law_1147 rfl ?_
      refine W.lcmp hx hb dL_law_1148 ?_
      rw [lgc0]
      refine gz_if_eq (tgt := 1154) hx hb (by decide) dL_law_1149 (by decide) (fun c_1149 => ?_) (fun c_1149 => ?_)
      · refine lv_goto (tgt := 1362) hx hb dL_law_1154 (by decide) ?_
        refine W.widen (k := cells + 12) (n := slots + 900) (by omega) (by omega) ?_
        exact kk TA S 0 H_1121 locs ls hLI2 hS (lv_sub hl [2, 3, 4, 5, 6] rfl)
      · omega
  · omega
set_option maxHeartbeats 4000000 in
set_option maxRecDepth 100000 in
theorem s_place_e1 (l : Launch) (hlf : l.stackTraces = false) (G : gG) {p : Program} {e : Env} {s : State} {m : MethodId} {below : List Frame} {meth : Method} {c : Code} {b L : Nat} {xs : Nat → Int32} (F : lwF p s m c G b L xs) (A : Nat → Nat) (TA : Nat → Nat → Nat) (B : Nat → Nat) (S : cS) (o : Nat) (th : Int) (H : Heap) (locs : List Loc) (cells slots : Nat) (hLI : LI G A TA B o S th H) (hS : va_S (gA G) s.heap H locs) (t : Nat) (htL : 5 * t + 5 ≤ L) (y : Int) (hy : y = (5 * t : Nat)) (ls : Array Slot) (hl : lv_has ls 7 [(4, .int (zI y)), (0, .ref b), (1, .ref (A 0)), (2, .ref (B 0)), (3, .ref o)]) (hcl : cells + 12 ≤ 601024) (hsl : slots + 900 ≤ 7293034) (Q : State → Prop) (kk : lwK l G p e s m below meth c b A B o y cells slots Q) (zs : Int) (hz : rI zs) (hno : ¬ (1 ≤ zs ∧ zs ≤ 4)) (zp : Int) (hq1 : xs (5 * t + 1) = zI zs) (hq2 : xs (5 * t + 2) = zI zp) : W p l e room_1 s m #[Value.ref b] below meth c H locs cells slots Q (F0 m 1089 ls []) := by
  obtain ⟨hx, hb, hml, hts, hown, hX, hscr, hbl, hgb, hL25⟩ := F
  obtain ⟨hI, ⟨W9, hC⟩, ⟨ct, hM⟩, ho0, go, d1, d2, d3⟩ := id hLI
  have hbA : ¬ gA G b := fun z => by have z : gB G ≤ b := z; omega
  have hI2 : sInv S := hI
  refine lv_aload_n hx hb dL_law_1089 rfl (lv_at hl 2 rfl) ?_
  refine lv_aload_n hx hb dL_law_1090 rfl (lv_at hl 1 rfl) ?_
  refine lv_iload hx hb dL_law_1091 (lv_at hl 0 rfl) ?_
  refine lv_iconst (v := zI 1) hx hb dL_law_1093 rfl ?_
  refine gz_iadd hx hb dL_law_1094 ?_
  refine gz_sld hx hb hscr hbl hbA hS (5 * t + 1) (by omega) (by omega) (by omega) dL_law_1095 ?_
  rw [hq1]
  refine lv_aload_n hx hb dL_law_1096 rfl (lv_at hl 1 rfl) ?_
  refine lv_iload hx hb dL_law_1097 (lv_at hl 0 rfl) ?_
  refine lv_iconst (v := zI 2) hx hb dL_law_1099 rfl ?_
  refine gz_iadd hx hb dL_law_1100 ?_
  refine gz_sld hx hb hscr hbl hbA hS (5 * t + 2) (by omega) (by omega) (by omega) dL_law_1101 ?_
  rw [hq2]
  refine lv_aload_n hx hb dL_law_1102 rfl (lv_at hl 4 rfl) ?_
  refine g_goi (vx_runSX (As := [.ref (A 0), .int (zI zs), .int (zI zp), .ref o]) (rest := []) ⟨hx, hb, hml, hown, hts⟩ (w_place_e1 l G hlf A TA S W9 H hC hI zs hz hno zp o ho0 go d2) (vx_cwSW 4 hts gL_law_L_place rfl rfl rfl hd_L_place.2 ⟨(Nat.le_of_ble_eq_true rfl), (Nat.le_of_ble_eq_true rfl)⟩) (g_pre hX hS) rfl rfl hl.1 rfl (lv_room (Nat.le_of_ble_eq_true rfl)) dL_law_1103 (⟨by show _ ≤ 601024; omega, by show _ ≤ 7293034; omega⟩)) hS (fun r_1103 H_1103 locs hp hS => ?_)
  obtain ⟨rfl, hLX, hLU⟩ := hp
  have hM1 := LI.mid hM hLX d1 d3
  refine lv_istore (lv' := [(5, .int (zI 1)), (4, .int (zI y)), (0, .ref b), (1, .ref (A 0)), (2, .ref (B 0)), (3, .ref o)]) hx hb dL_law_1106 hl (by decide) rfl (fun ls hl => ?_)
  refine lv_aload_n hx hb dL_law_1108 rfl (lv_at hl 4 rfl) ?_
  refine lv_aload_n hx hb dL_law_1109 rfl (lv_at hl 2 rfl) ?_
  refine lv_iload hx hb dL_law_1110 (lv_at hl 1 rfl) ?_
  refine lv_iconst (v := zI 1) hx hb dL_law_1112 rfl ?_
  refine gz_iadd hx hb dL_law_1113 ?_
  refine gz_sld hx hb hscr hbl hbA hS (5 * t + 1) (by omega) (by omega) (by omega) dL_law_1114 ?_
  rw [hq1]
  refine lv_aload_n hx hb dL_law_1115 rfl (lv_at hl 2 rfl) ?_
  refine lv_iload hx hb dL_law_1116 (lv_at hl 1 rfl) ?_
  refine lv_iconst (v := zI 2) hx hb dL_law_1118 rfl ?_
  refine gz_iadd hx hb dL_law_1119 ?_
  refine gz_sld hx hb hscr hbl hbA hS (5 * t + 2) (by omega) (by omega) (by omega) dL_law_1120 ?_
  rw [hq2]
  refine g_goi (vx_runV (As := [.int (zI zs), .int (zI zp)]) (rest := []) ⟨hx, hb, hml, hown, hts⟩ (m_place_e1 l G B S th ct H_1103 hM1 hI zs hz hno zp) (cwV 2 hts gL_law_X5_place rfl rfl rfl hd_X5_place ⟨(Nat.le_of_ble_eq_true rfl), (Nat.le_of_ble_eq_true rfl)⟩) (g_preV hX hS (ci := 5) rfl hM1.1) rfl rfl hl.1 rfl (lv_room (Nat.le_of_ble_eq_true rfl)) dL_law_1121 (⟨by show _ ≤ 601024; omega, by show _ ≤ 7293034; omega⟩)) hS (fun r_1121 H_1121 locs hp hS => ?_)
  obtain ⟨rfl, hMP⟩ := hp
  have hLI2 := LI.fin hI2 hLI hLX hLU hMP
  obtain ⟨⟨ct2, hM2⟩, hKP2⟩ := id hMP
  refine lv_istore (lv' := [(6, .int (zI 0)), (5, .int (zI 1)), (4, .int (zI y)), (0, .ref b), (1, .ref (A 0)), (2, .ref (B 0)), (3, .ref o)]) hx hb dL_law_1124 hl (by decide) rfl (fun ls hl => ?_)
  refine lv_aload_n hx hb dL_law_1126 rfl (lv_at hl 5 rfl) ?_
  refine g_goi (vx_runV (As := []) (rest := []) ⟨hx, hb, hml, hown, hts⟩ (m_thrown l G B S 1 ct2 H_1121 hM2) (cwV 0 hts gL_law_X5_thrown rfl rfl rfl hd_X5_thrown ⟨(Nat.le_of_ble_eq_true rfl), (Nat.le_of_ble_eq_true rfl)⟩) (g_preV hX hS (ci := 5) rfl hM2.1) rfl rfl hl.1 rfl (lv_room (Nat.le_of_ble_eq_true rfl)) dL_law_1127 (⟨by show _ ≤ 601024; omega, by show _ ≤ 7293034; omega⟩)) hS (fun r_1127 H_1127 locs hp hS => ?_)
  obtain ⟨rfl, rfl⟩ := hp
  refine lv_iload hx hb dL_law_1130 (lv_at hl 1 rfl) ?_
  refine gz_icmp_eq (tgt := 1137) hx hb (by decide) (by decide) dL_law_1132 (by decide) (fun c_1132 => ?_) (fun c_1132 => ?_)
  · refine lv_iload hx hb dL_law_1137 (lv_at hl 1 rfl) ?_
    refine gz_if_ne (tgt := 1154) hx hb (by decide) dL_law_1139 (by decide) (fun c_1139 => ?_) (fun c_1139 => ?_)
    · refine lv_goto (tgt := 1362) hx hb dL_law_1154 (by decide) ?_
      refine W.widen (k := cells + 12) (n := slots + 900) (by omega) (by omega) ?_
      exact kk TA S 1 H_1121 locs ls hLI2 hS (lv_sub hl [2, 3, 4, 5, 6] rfl)
    · omega
  · omega
set_option maxHeartbeats 4000000 in
set_option maxRecDepth 100000 in
theorem s_place_e2 (l : Launch) (hlf : l.stackTraces = false) (G : gG) {p : Program} {e : Env} {s : State} {m : MethodId} {below : List Frame} {meth : Method} {c : Code} {b L : Nat} {xs : Nat → Int32} (F : lwF p s m c G b L xs) (A : Nat → Nat) (TA : Nat → Nat → Nat) (B : Nat → Nat) (S : cS) (o : Nat) (th : Int) (H : Heap) (locs : List Loc) (cells slots : Nat) (hLI : LI G A TA B o S th H) (hS : va_S (gA G) s.heap H locs) (t : Nat) (htL : 5 * t + 5 ≤ L) (y : Int) (hy : y = (5 * t : Nat)) (ls : Array Slot) (hl : lv_has ls 7 [(4, .int (zI y)), (0, .ref b), (1, .ref (A 0)), (2, .ref (B 0)), (3, .ref o)]) (hcl : cells + 12 ≤ 601024) (hsl : slots + 900 ≤ 7293034) (Q : State → Prop) (kk : lwK l G p e s m below meth c b A B o y cells slots Q) (zs : Int) (hz : rI zs) (h14 : 1 ≤ zs ∧ zs ≤ 4) (hno : ¬ zs ≤ (shn S : Int) - 1) (zp : Int) (hq1 : xs (5 * t + 1) = zI zs) (hq2 : xs (5 * t + 2) = zI zp) : W p l e room_1 s m #[Value.ref b] below meth c H locs cells slots Q (F0 m 1089 ls []) := by
  obtain ⟨hx, hb, hml, hts, hown, hX, hscr, hbl, hgb, hL25⟩ := F
  obtain ⟨hI, ⟨W9, hC⟩, ⟨ct, hM⟩, ho0, go, d1, d2, d3⟩ := id hLI
  have hbA : ¬ gA G b := fun z => by have z : gB G ≤ b := z; omega
  have hI2 : sInv S := hI
  refine lv_aload_n hx hb dL_law_1089 rfl (lv_at hl 2 rfl) ?_
  refine lv_aload_n hx hb dL_law_1090 rfl (lv_at hl 1 rfl) ?_
  refine lv_iload hx hb dL_law_1091 (lv_at hl 0 rfl) ?_
  refine lv_iconst (v := zI 1) hx hb dL_law_1093 rfl ?_
  refine gz_iadd hx hb dL_law_1094 ?_
  refine gz_sld hx hb hscr hbl hbA hS (5 * t + 1) (by omega) (by omega) (by omega) dL_law_1095 ?_
  rw [hq1]
  refine lv_aload_n hx hb dL_law_1096 rfl (lv_at hl 1 rfl) ?_
  refine lv_iload hx hb dL_law_1097 (lv_at hl 0 rfl) ?_
  refine lv_iconst (v := zI 2) hx hb dL_law_1099 rfl ?_
  refine gz_iadd hx hb dL_law_1100 ?_
  refine gz_sld hx hb hscr hbl hbA hS (5 * t + 2) (by omega) (by omega) (by omega) dL_law_1101 ?_
  rw [hq2]
  refine lv_aload_n hx hb dL_law_1102 rfl (lv_at hl 4 rfl) ?_
  refine g_goi (vx_runSX (As := [.ref (A 0), .int (zI zs), .int (zI zp), .ref o]) (rest := []) ⟨hx, hb, hml, hown, hts⟩ (w_place_e2 l G hlf A TA S W9 H hC hI zs hz h14 hno zp o ho0 go d2) (vx_cwSW 4 hts gL_law_L_place rfl rfl rfl hd_L_place.2 ⟨(Nat.le_of_ble_eq_true rfl), (Nat.le_of_ble_eq_true rfl)⟩) (g_pre hX hS) rfl rfl hl.1 rfl (lv_room (Nat.le_of_ble_eq_true rfl)) dL_law_1103 (⟨by show _ ≤ 601024; omega, by show _ ≤ 7293034; omega⟩)) hS (fun r_1103 H_1103 locs hp hS => ?_)
  obtain ⟨rfl, hLX, hLU⟩ := hp
  have hM1 := LI.mid hM hLX d1 d3
  refine lv_istore (lv' := [(5, .int (zI 2)), (4, .int (zI y)), (0, .ref b), (1, .ref (A 0)), (2, .ref (B 0)), (3, .ref o)]) hx hb dL_law_1106 hl (by decide) rfl (fun ls hl => ?_)
  refine lv_aload_n hx hb dL_law_1108 rfl (lv_at hl 4 rfl) ?_
  refine lv_aload_n hx hb dL_law_1109 rfl (lv_at hl 2 rfl) ?_
  refine lv_iload hx hb dL_law_1110 (lv_at hl 1 rfl) ?_
  refine lv_iconst (v := zI 1) hx hb dL_law_1112 rfl ?_
  refine gz_iadd hx hb dL_law_1113 ?_
  refine gz_sld hx hb hscr hbl hbA hS (5 * t + 1) (by omega) (by omega) (by omega) dL_law_1114 ?_
  rw [hq1]
  refine lv_aload_n hx hb dL_law_1115 rfl (lv_at hl 2 rfl) ?_
  refine lv_iload hx hb dL_law_1116 (lv_at hl 1 rfl) ?_
  refine lv_iconst (v := zI 2) hx hb dL_law_1118 rfl ?_
  refine gz_iadd hx hb dL_law_1119 ?_
  refine gz_sld hx hb hscr hbl hbA hS (5 * t + 2) (by omega) (by omega) (by omega) dL_law_1120 ?_
  rw [hq2]
  refine g_goi (vx_runV (As := [.int (zI zs), .int (zI zp)]) (rest := []) ⟨hx, hb, hml, hown, hts⟩ (m_place_e2 l G B S th ct H_1103 hM1 hI zs hz h14 hno zp) (cwV 2 hts gL_law_X5_place rfl rfl rfl hd_X5_place ⟨(Nat.le_of_ble_eq_true rfl), (Nat.le_of_ble_eq_true rfl)⟩) (g_preV hX hS (ci := 5) rfl hM1.1) rfl rfl hl.1 rfl (lv_room (Nat.le_of_ble_eq_true rfl)) dL_law_1121 (⟨by show _ ≤ 601024; omega, by show _ ≤ 7293034; omega⟩)) hS (fun r_1121 H_1121 locs hp hS => ?_)
  obtain ⟨rfl, hMP⟩ := hp
  have hLI2 := LI.fin hI2 hLI hLX hLU hMP
  obtain ⟨⟨ct2, hM2⟩, hKP2⟩ := id hMP
  refine lv_istore (lv' := [(6, .int (zI 0)), (5, .int (zI 2)), (4, .int (zI y)), (0, .ref b), (1, .ref (A 0)), (2, .ref (B 0)), (3, .ref o)]) hx hb dL_law_1124 hl (by decide) rfl (fun ls hl => ?_)
  refine lv_aload_n hx hb dL_law_1126 rfl (lv_at hl 5 rfl) ?_
  refine g_goi (vx_runV (As := []) (rest := []) ⟨hx, hb, hml, hown, hts⟩ (m_thrown l G B S 2 ct2 H_1121 hM2) (cwV 0 hts gL_law_X5_thrown rfl rfl rfl hd_X5_thrown ⟨(Nat.le_of_ble_eq_true rfl), (Nat.le_of_ble_eq_true rfl)⟩) (g_preV hX hS (ci := 5) rfl hM2.1) rfl rfl hl.1 rfl (lv_room (Nat.le_of_ble_eq_true rfl)) dL_law_1127 (⟨by show _ ≤ 601024; omega, by show _ ≤ 7293034; omega⟩)) hS (fun r_1127 H_1127 locs hp hS => ?_)
  obtain ⟨rfl, rfl⟩ := hp
  refine lv_iload hx hb dL_law_1130 (lv_at hl 1 rfl) ?_
  refine gz_icmp_eq (tgt := 1137) hx hb (by decide) (by decide) dL_law_1132 (by decide) (fun c_1132 => ?_) (fun c_1132 => ?_)
  · refine lv_iload hx hb dL_law_1137 (lv_at hl 1 rfl) ?_
    refine gz_if_ne (tgt := 1154) hx hb (by decide) dL_law_1139 (by decide) (fun c_1139 => ?_) (fun c_1139 => ?_)
    · refine lv_goto (tgt := 1362) hx hb dL_law_1154 (by decide) ?_
      refine W.widen (k := cells + 12) (n := slots + 900) (by omega) (by omega) ?_
      exact kk TA S 2 H_1121 locs ls hLI2 hS (lv_sub hl [2, 3, 4, 5, 6] rfl)
    · omega
  · omega
set_option maxHeartbeats 4000000 in
set_option maxRecDepth 100000 in
theorem s_place_e3 (l : Launch) (hlf : l.stackTraces = false) (G : gG) {p : Program} {e : Env} {s : State} {m : MethodId} {below : List Frame} {meth : Method} {c : Code} {b L : Nat} {xs : Nat → Int32} (F : lwF p s m c G b L xs) (A : Nat → Nat) (TA : Nat → Nat → Nat) (B : Nat → Nat) (S : cS) (o : Nat) (th : Int) (H : Heap) (locs : List Loc) (cells slots : Nat) (hLI : LI G A TA B o S th H) (hS : va_S (gA G) s.heap H locs) (t : Nat) (htL : 5 * t + 5 ≤ L) (y : Int) (hy : y = (5 * t : Nat)) (ls : Array Slot) (hl : lv_has ls 7 [(4, .int (zI y)), (0, .ref b), (1, .ref (A 0)), (2, .ref (B 0)), (3, .ref o)]) (hcl : cells + 12 ≤ 601024) (hsl : slots + 900 ≤ 7293034) (Q : State → Prop) (kk : lwK l G p e s m below meth c b A B o y cells slots Q) (zs : Int) (st0 : Nat) (hzs : zs = st0) (h14 : 1 ≤ st0 ∧ st0 ≤ 4) (hst : st0 + 1 ≤ shn S) (zp : Int) (hzp : rI zp) (hno : ¬ (0 ≤ zp ∧ zp < (plA S st0 (sn S)).length)) (hq1 : xs (5 * t + 1) = zI zs) (hq2 : xs (5 * t + 2) = zI zp) : W p l e room_1 s m #[Value.ref b] below meth c H locs cells slots Q (F0 m 1089 ls []) := by
  obtain ⟨hx, hb, hml, hts, hown, hX, hscr, hbl, hgb, hL25⟩ := F
  obtain ⟨hI, ⟨W9, hC⟩, ⟨ct, hM⟩, ho0, go, d1, d2, d3⟩ := id hLI
  have hbA : ¬ gA G b := fun z => by have z : gB G ≤ b := z; omega
  have hI2 : sInv S := hI
  refine lv_aload_n hx hb dL_law_1089 rfl (lv_at hl 2 rfl) ?_
  refine lv_aload_n hx hb dL_law_1090 rfl (lv_at hl 1 rfl) ?_
  refine lv_iload hx hb dL_law_1091 (lv_at hl 0 rfl) ?_
  refine lv_iconst (v := zI 1) hx hb dL_law_1093 rfl ?_
  refine gz_iadd hx hb dL_law_1094 ?_
  refine gz_sld hx hb hscr hbl hbA hS (5 * t + 1) (by omega) (by omega) (by omega) dL_law_1095 ?_
  rw [hq1]
  refine lv_aload_n hx hb dL_law_1096 rfl (lv_at hl 1 rfl) ?_
  refine lv_iload hx hb dL_law_1097 (lv_at hl 0 rfl) ?_
  refine lv_iconst (v := zI 2) hx hb dL_law_1099 rfl ?_
  refine gz_iadd hx hb dL_law_1100 ?_
  refine gz_sld hx hb hscr hbl hbA hS (5 * t + 2) (by omega) (by omega) (by omega) dL_law_1101 ?_
  rw [hq2]
  refine lv_aload_n hx hb dL_law_1102 rfl (lv_at hl 4 rfl) ?_
  refine g_goi (vx_runSX (As := [.ref (A 0), .int (zI zs), .int (zI zp), .ref o]) (rest := []) ⟨hx, hb, hml, hown, hts⟩ (w_place_e3 l G hlf A TA S W9 H hC hI zs st0 hzs h14 hst zp hzp hno o ho0 go d2) (vx_cwSW 4 hts gL_law_L_place rfl rfl rfl hd_L_place.2 ⟨(Nat.le_of_ble_eq_true rfl), (Nat.le_of_ble_eq_true rfl)⟩) (g_pre hX hS) rfl rfl hl.1 rfl (lv_room (Nat.le_of_ble_eq_true rfl)) dL_law_1103 (⟨by show _ ≤ 601024; omega, by show _ ≤ 7293034; omega⟩)) hS (fun r_1103 H_1103 locs hp hS => ?_)
  obtain ⟨rfl, hLX, hLU⟩ := hp
  have hM1 := LI.mid hM hLX d1 d3
  refine lv_istore (lv' := [(5, .int (zI 3)), (4, .int (zI y)), (0, .ref b), (1, .ref (A 0)), (2, .ref (B 0)), (3, .ref o)]) hx hb dL_law_1106 hl (by decide) rfl (fun ls hl => ?_)
  refine lv_aload_n hx hb dL_law_1108 rfl (lv_at hl 4 rfl) ?_
  refine lv_aload_n hx hb dL_law_1109 rfl (lv_at hl 2 rfl) ?_
  refine lv_iload hx hb dL_law_1110 (lv_at hl 1 rfl) ?_
  refine lv_iconst (v := zI 1) hx hb dL_law_1112 rfl ?_
  refine gz_iadd hx hb dL_law_1113 ?_
  refine gz_sld hx hb hscr hbl hbA hS (5 * t + 1) (by omega) (by omega) (by omega) dL_law_1114 ?_
  rw [hq1]
  refine lv_aload_n hx hb dL_law_1115 rfl (lv_at hl 2 rfl) ?_
  refine lv_iload hx hb dL_law_1116 (lv_at hl 1 rfl) ?_
  refine lv_iconst (v := zI 2) hx hb dL_law_1118 rfl ?_
  refine gz_iadd hx hb dL_law_1119 ?_
  refine gz_sld hx hb hscr hbl hbA hS (5 * t + 2) (by omega) (by omega) (by omega) dL_law_1120 ?_
  rw [hq2]
  refine g_goi (vx_runV (As := [.int (zI zs), .int (zI zp)]) (rest := []) ⟨hx, hb, hml, hown, hts⟩ (m_place_e3 l G B S th ct H_1103 hM1 hI zs st0 hzs h14 hst zp hzp hno) (cwV 2 hts gL_law_X5_place rfl rfl rfl hd_X5_place ⟨(Nat.le_of_ble_eq_true rfl), (Nat.le_of_ble_eq_true rfl)⟩) (g_preV hX hS (ci := 5) rfl hM1.1) rfl rfl hl.1 rfl (lv_room (Nat.le_of_ble_eq_true rfl)) dL_law_1121 (⟨by show _ ≤ 601024; omega, by show _ ≤ 7293034; omega⟩)) hS (fun r_1121 H_1121 locs hp hS => ?_)
  obtain ⟨rfl, hMP⟩ := hp
  have hLI2 := LI.fin hI2 hLI hLX hLU hMP
  obtain ⟨⟨ct2, hM2⟩, hKP2⟩ := id hMP
  refine lv_istore (lv' := [(6, .int (zI 0)), (5, .int (zI 3)), (4, .int (zI y)), (0, .ref b), (1, .ref (A 0)), (2, .ref (B 0)), (3, .ref o)]) hx hb dL_law_1124 hl (by decide) rfl (fun ls hl => ?_)
  refine lv_aload_n hx hb dL_law_1126 rfl (lv_at hl 5 rfl) ?_
  refine g_goi (vx_runV (As := []) (rest := []) ⟨hx, hb, hml, hown, hts⟩ (m_thrown l G B S 3 ct2 H_1121 hM2) (cwV 0 hts gL_law_X5_thrown rfl rfl rfl hd_X5_thrown ⟨(Nat.le_of_ble_eq_true rfl), (Nat.le_of_ble_eq_true rfl)⟩) (g_preV hX hS (ci := 5) rfl hM2.1) rfl rfl hl.1 rfl (lv_room (Nat.le_of_ble_eq_true rfl)) dL_law_1127 (⟨by show _ ≤ 601024; omega, by show _ ≤ 7293034; omega⟩)) hS (fun r_1127 H_1127 locs hp hS => ?_)
  obtain ⟨rfl, rfl⟩ := hp
  refine lv_iload hx hb dL_law_1130 (lv_at hl 1 rfl) ?_
  refine gz_icmp_eq (tgt := 1137) hx hb (by decide) (by decide) dL_law_1132 (by decide) (fun c_1132 => ?_) (fun c_1132 => ?_)
  · refine lv_iload hx hb dL_law_1137 (lv_at hl 1 rfl) ?_
    refine gz_if_ne (tgt := 1154) hx hb (by decide) dL_law_1139 (by decide) (fun c_1139 => ?_) (fun c_1139 => ?_)
    · refine lv_goto (tgt := 1362) hx hb dL_law_1154 (by decide) ?_
      refine W.widen (k := cells + 12) (n := slots + 900) (by omega) (by omega) ?_
      exact kk TA S 3 H_1121 locs ls hLI2 hS (lv_sub hl [2, 3, 4, 5, 6] rfl)
    · omega
  · omega
set_option maxHeartbeats 4000000 in
set_option maxRecDepth 100000 in
theorem s_link_ok (l : Launch) (hlf : l.stackTraces = false) (G : gG) {p : Program} {e : Env} {s : State} {m : MethodId} {below : List Frame} {meth : Method} {c : Code} {b L : Nat} {xs : Nat → Int32} (F : lwF p s m c G b L xs) (A : Nat → Nat) (TA : Nat → Nat → Nat) (B : Nat → Nat) (S : cS) (o : Nat) (th : Int) (H : Heap) (locs : List Loc) (cells slots : Nat) (hLI : LI G A TA B o S th H) (hS : va_S (gA G) s.heap H locs) (t : Nat) (htL : 5 * t + 5 ≤ L) (y : Int) (hy : y = (5 * t : Nat)) (ls : Array Slot) (hl : lv_has ls 7 [(4, .int (zI y)), (0, .ref b), (1, .ref (A 0)), (2, .ref (B 0)), (3, .ref o)]) (hcl : cells + 12 ≤ 601024) (hsl : slots + 900 ≤ 7293034) (Q : State → Prop) (kk : lwK l G p e s m below meth c b A B o y cells slots Q) (z1 : Int) (z2 : Int) (i : Nat) (j : Nat) (hz1 : z1 = i) (hi : i < sn S) (hz2 : z2 = j) (hj : j < sn S) (hij : i ≠ j) (htb : (slk S i).testBit j = false) (hq1 : xs (5 * t + 1) = zI z1) (hq2 : xs (5 * t + 2) = zI z2) : W p l e room_1 s m #[Value.ref b] below meth c H locs cells slots Q (F0 m 1157 ls []) := by
  obtain ⟨hx, hb, hml, hts, hown, hX, hscr, hbl, hgb, hL25⟩ := F
  obtain ⟨hI, ⟨W9, hC⟩, ⟨ct, hM⟩, ho0, go, d1, d2, d3⟩ := id hLI
  have hbA : ¬ gA G b := fun z => by have z : gB G ≤ b := z; omega
  have hI2 : sInv (sLnk S i j) := sI_lnk hI hi hj hij
  refine lv_aload_n hx hb dL_law_1157 rfl (lv_at hl 2 rfl) ?_
  refine lv_aload_n hx hb dL_law_1158 rfl (lv_at hl 1 rfl) ?_
  refine lv_iload hx hb dL_law_1159 (lv_at hl 0 rfl) ?_
  refine lv_iconst (v := zI 1) hx hb dL_law_1161 rfl ?_
  refine gz_iadd hx hb dL_law_1162 ?_
  refine gz_sld hx hb hscr hbl hbA hS (5 * t + 1) (by omega) (by omega) (by omega) dL_law_1163 ?_
  rw [hq1]
  refine lv_aload_n hx hb dL_law_1164 rfl (lv_at hl 1 rfl) ?_
  refine lv_iload hx hb dL_law_1165 (lv_at hl 0 rfl) ?_
  refine lv_iconst (v := zI 2) hx hb dL_law_1167 rfl ?_
  refine gz_iadd hx hb dL_law_1168 ?_
  refine gz_sld hx hb hscr hbl hbA hS (5 * t + 2) (by omega) (by omega) (by omega) dL_law_1169 ?_
  rw [hq2]
  refine lv_aload_n hx hb dL_law_1170 rfl (lv_at hl 4 rfl) ?_
  refine g_goi (vx_runSX (As := [.ref (A 0), .int (zI z1), .int (zI z2), .ref o]) (rest := []) ⟨hx, hb, hml, hown, hts⟩ (w_link_ok l G A TA S W9 H hC hI z1 z2 i j hz1 hi hz2 hj (fun k => slk_lt (S := sLnk S i j) hI2 k) hij htb o ho0 go d2) (vx_cwSW 4 hts gL_law_L_link rfl rfl rfl hd_L_link.2 ⟨(Nat.le_of_ble_eq_true rfl), (Nat.le_of_ble_eq_true rfl)⟩) (g_pre hX hS) rfl rfl hl.1 rfl (lv_room (Nat.le_of_ble_eq_true rfl)) dL_law_1171 (⟨by show _ ≤ 601024; omega, by show _ ≤ 7293034; omega⟩)) hS (fun r_1171 H_1171 locs hp hS => ?_)
  obtain ⟨rfl, hLX, hLO⟩ := hp
  have hLU := hLO.u
  have hM1 := LI.mid hM hLX d1 d3
  refine lv_istore (lv' := [(5, .int (zI 0)), (4, .int (zI y)), (0, .ref b), (1, .ref (A 0)), (2, .ref (B 0)), (3, .ref o)]) hx hb dL_law_1174 hl (by decide) rfl (fun ls hl => ?_)
  refine lv_aload_n hx hb dL_law_1176 rfl (lv_at hl 4 rfl) ?_
  refine lv_aload_n hx hb dL_law_1177 rfl (lv_at hl 2 rfl) ?_
  refine lv_iload hx hb dL_law_1178 (lv_at hl 1 rfl) ?_
  refine lv_iconst (v := zI 1) hx hb dL_law_1180 rfl ?_
  refine gz_iadd hx hb dL_law_1181 ?_
  refine gz_sld hx hb hscr hbl hbA hS (5 * t + 1) (by omega) (by omega) (by omega) dL_law_1182 ?_
  rw [hq1]
  refine lv_aload_n hx hb dL_law_1183 rfl (lv_at hl 2 rfl) ?_
  refine lv_iload hx hb dL_law_1184 (lv_at hl 1 rfl) ?_
  refine lv_iconst (v := zI 2) hx hb dL_law_1186 rfl ?_
  refine gz_iadd hx hb dL_law_1187 ?_
  refine gz_sld hx hb hscr hbl hbA hS (5 * t + 2) (by omega) (by omega) (by omega) dL_law_1188 ?_
  rw [hq2]
  refine g_goi (vx_runV (As := [.int (zI z1), .int (zI z2)]) (rest := []) ⟨hx, hb, hml, hown, hts⟩ (m_link_ok l G B S th ct H_1171 hM1 hI z1 z2 i j hz1 hi hz2 hj hI2 hij htb) (cwV 2 hts gL_law_X5_link rfl rfl rfl hd_X5_link ⟨(Nat.le_of_ble_eq_true rfl), (Nat.le_of_ble_eq_true rfl)⟩) (g_preV hX hS (ci := 5) rfl hM1.1) rfl rfl hl.1 rfl (lv_room (Nat.le_of_ble_eq_true rfl)) dL_law_1189 (⟨by show _ ≤ 601024; omega, by show _ ≤ 7293034; omega⟩)) hS (fun r_1189 H_1189 locs hp hS => ?_)
  obtain ⟨rfl, hMP⟩ := hp
  have hLI2 := LI.fin hI2 hLI hLX hLU hMP
  obtain ⟨⟨ct2, hM2⟩, hKP2⟩ := id hMP
  obtain ⟨fo, ho, hfo⟩ := LO.mp hLO hMP d3
  refine lv_istore (lv' := [(6, .int (zI ((famC (lkT (slk S) i j) (sn S) (sn S) : Nat) : Int))), (5, .int (zI 0)), (4, .int (zI y)), (0, .ref b), (1, .ref (A 0)), (2, .ref (B 0)), (3, .ref o)]) hx hb dL_law_1192 hl (by decide) rfl (fun ls hl => ?_)
  refine lv_aload_n hx hb dL_law_1194 rfl (lv_at hl 5 rfl) ?_
  refine g_goi (vx_runV (As := []) (rest := []) ⟨hx, hb, hml, hown, hts⟩ (m_thrown l G B (sLnk S i j) 0 ct2 H_1189 hM2) (cwV 0 hts gL_law_X5_thrown rfl rfl rfl hd_X5_thrown ⟨(Nat.le_of_ble_eq_true rfl), (Nat.le_of_ble_eq_true rfl)⟩) (g_preV hX hS (ci := 5) rfl hM2.1) rfl rfl hl.1 rfl (lv_room (Nat.le_of_ble_eq_true rfl)) dL_law_1195 (⟨by show _ ≤ 601024; omega, by show _ ≤ 7293034; omega⟩)) hS (fun r_1195 H_1195 locs hp hS => ?_)
  obtain ⟨rfl, rfl⟩ := hp
  refine lv_iload hx hb dL_law_1198 (lv_at hl 1 rfl) ?_
  refine gz_icmp_eq (tgt := 1205) hx hb (by decide) (by decide) dL_law_1200 (by decide) (fun c_1200 => ?_) (fun c_1200 => ?_)
  · refine lv_iload hx hb dL_law_1205 (lv_at hl 1 rfl) ?_
    refine gz_if_ne (tgt := 1222) hx hb (by decide) dL_law_1207 (by decide) (fun c_1207 => ?_) (fun c_1207 => ?_)
    · omega
    · refine lv_aload_n hx hb dL_law_1210 rfl (lv_at hl 6 rfl) ?_
      refine lv_iconst (v := zI 0) hx hb dL_law_1211 rfl ?_
      refine gz_lald hx hb hX ho 0 (by omega) (by omega) (by omega) dL_law_1212 ?_
      rw [hfo]
      refine lv_iload hx hb dL_law_1213 (lv_at hl 0 rfl) ?_
      refine lv_i2l hx hb dL_law_1215 rfl ?_
      refine W.lcmp hx hb dL_law_1216 ?_
      rw [lgc0]
      refine gz_if_eq (tgt := 1222) hx hb (by decide) dL_law_1217 (by decide) (fun c_1217 => ?_) (fun c_1217 => ?_)
      · refine lv_goto (tgt := 1362) hx hb dL_law_1222 (by decide) ?_
        refine W.widen (k := cells + 12) (n := slots + 900) (by omega) (by omega) ?_
        exact kk TA (sLnk S i j) 0 H_1189 locs ls hLI2 hS (lv_sub hl [2, 3, 4, 5, 6] rfl)
      · omega
  · omega
set_option maxHeartbeats 4000000 in
set_option maxRecDepth 100000 in
theorem s_link_e1 (l : Launch) (hlf : l.stackTraces = false) (G : gG) {p : Program} {e : Env} {s : State} {m : MethodId} {below : List Frame} {meth : Method} {c : Code} {b L : Nat} {xs : Nat → Int32} (F : lwF p s m c G b L xs) (A : Nat → Nat) (TA : Nat → Nat → Nat) (B : Nat → Nat) (S : cS) (o : Nat) (th : Int) (H : Heap) (locs : List Loc) (cells slots : Nat) (hLI : LI G A TA B o S th H) (hS : va_S (gA G) s.heap H locs) (t : Nat) (htL : 5 * t + 5 ≤ L) (y : Int) (hy : y = (5 * t : Nat)) (ls : Array Slot) (hl : lv_has ls 7 [(4, .int (zI y)), (0, .ref b), (1, .ref (A 0)), (2, .ref (B 0)), (3, .ref o)]) (hcl : cells + 12 ≤ 601024) (hsl : slots + 900 ≤ 7293034) (Q : State → Prop) (kk : lwK l G p e s m below meth c b A B o y cells slots Q) (z1 : Int) (z2 : Int) (hz1 : rI z1) (hz2 : rI z2) (hi : ¬ (0 ≤ z1 ∧ z1 < sn S)) (hq1 : xs (5 * t + 1) = zI z1) (hq2 : xs (5 * t + 2) = zI z2) : W p l e room_1 s m #[Value.ref b] below meth c H locs cells slots Q (F0 m 1157 ls []) := by
  obtain ⟨hx, hb, hml, hts, hown, hX, hscr, hbl, hgb, hL25⟩ := F
  obtain ⟨hI, ⟨W9, hC⟩, ⟨ct, hM⟩, ho0, go, d1, d2, d3⟩ := id hLI
  have hbA : ¬ gA G b := fun z => by have z : gB G ≤ b := z; omega
  have hI2 : sInv S := hI
  refine lv_aload_n hx hb dL_law_1157 rfl (lv_at hl 2 rfl) ?_
  refine lv_aload_n hx hb dL_law_1158 rfl (lv_at hl 1 rfl) ?_
  refine lv_iload hx hb dL_law_1159 (lv_at hl 0 rfl) ?_
  refine lv_iconst (v := zI 1) hx hb dL_law_1161 rfl ?_
  refine gz_iadd hx hb dL_law_1162 ?_
  refine gz_sld hx hb hscr hbl hbA hS (5 * t + 1) (by omega) (by omega) (by omega) dL_law_1163 ?_
  rw [hq1]
  refine lv_aload_n hx hb dL_law_1164 rfl (lv_at hl 1 rfl) ?_
  refine lv_iload hx hb dL_law_1165 (lv_at hl 0 rfl) ?_
  refine lv_iconst (v := zI 2) hx hb dL_law_1167 rfl ?_
  refine gz_iadd hx hb dL_law_1168 ?_
  refine gz_sld hx hb hscr hbl hbA hS (5 * t + 2) (by omega) (by omega) (by omega) dL_law_1169 ?_
  rw [hq2]
  refine lv_aload_n hx hb dL_law_1170 rfl (lv_at hl 4 rfl) ?_
  refine g_goi (vx_runSX (As := [.ref (A 0), .int (zI z1), .int (zI z2), .ref o]) (rest := []) ⟨hx, hb, hml, hown, hts⟩ (w_link_e1 l G hlf A TA S W9 H hC hI z1 z2 hz1 hz2 (fun q => hi q.1) o ho0 go d2) (vx_cwSW 4 hts gL_law_L_link rfl rfl rfl hd_L_link.2 ⟨(Nat.le_of_ble_eq_true rfl), (Nat.le_of_ble_eq_true rfl)⟩) (g_pre hX hS) rfl rfl hl.1 rfl (lv_room (Nat.le_of_ble_eq_true rfl)) dL_law_1171 (⟨by show _ ≤ 601024; omega, by show _ ≤ 7293034; omega⟩)) hS (fun r_1171 H_1171 locs hp hS => ?_)
  obtain ⟨rfl, hLX, hLU⟩ := hp
  have hM1 := LI.mid hM hLX d1 d3
  refine lv_istore (lv' := [(5, .int (zI 1)), (4, .int (zI y)), (0, .ref b), (1, .ref (A 0)), (2, .ref (B 0)), (3, .ref o)]) hx hb dL_law_1174 hl (by decide) rfl (fun ls hl => ?_)
  refine lv_aload_n hx hb dL_law_1176 rfl (lv_at hl 4 rfl) ?_
  refine lv_aload_n hx hb dL_law_1177 rfl (lv_at hl 2 rfl) ?_
  refine lv_iload hx hb dL_law_1178 (lv_at hl 1 rfl) ?_
  refine lv_iconst (v := zI 1) hx hb dL_law_1180 rfl ?_
  refine gz_iadd hx hb dL_law_1181 ?_
  refine gz_sld hx hb hscr hbl hbA hS (5 * t + 1) (by omega) (by omega) (by omega) dL_law_1182 ?_
  rw [hq1]
  refine lv_aload_n hx hb dL_law_1183 rfl (lv_at hl 2 rfl) ?_
  refine lv_iload hx hb dL_law_1184 (lv_at hl 1 rfl) ?_
  refine lv_iconst (v := zI 2) hx hb dL_law_1186 rfl ?_
  refine gz_iadd hx hb dL_law_1187 ?_
  refine gz_sld hx hb hscr hbl hbA hS (5 * t + 2) (by omega) (by omega) (by omega) dL_law_1188 ?_
  rw [hq2]
  refine g_goi (vx_runV (As := [.int (zI z1), .int (zI z2)]) (rest := []) ⟨hx, hb, hml, hown, hts⟩ (m_link_e1 l G B S th ct H_1171 hM1 hI z1 z2 hz1 hz2 hi) (cwV 2 hts gL_law_X5_link rfl rfl rfl hd_X5_link ⟨(Nat.le_of_ble_eq_true rfl), (Nat.le_of_ble_eq_true rfl)⟩) (g_preV hX hS (ci := 5) rfl hM1.1) rfl rfl hl.1 rfl (lv_room (Nat.le_of_ble_eq_true rfl)) dL_law_1189 (⟨by show _ ≤ 601024; omega, by show _ ≤ 7293034; omega⟩)) hS (fun r_1189 H_1189 locs hp hS => ?_)
  obtain ⟨rfl, hMP⟩ := hp
  have hLI2 := LI.fin hI2 hLI hLX hLU hMP
  obtain ⟨⟨ct2, hM2⟩, hKP2⟩ := id hMP
  refine lv_istore (lv' := [(6, .int (zI 0)), (5, .int (zI 1)), (4, .int (zI y)), (0, .ref b), (1, .ref (A 0)), (2, .ref (B 0)), (3, .ref o)]) hx hb dL_law_1192 hl (by decide) rfl (fun ls hl => ?_)
  refine lv_aload_n hx hb dL_law_1194 rfl (lv_at hl 5 rfl) ?_
  refine g_goi (vx_runV (As := []) (rest := []) ⟨hx, hb, hml, hown, hts⟩ (m_thrown l G B S 1 ct2 H_1189 hM2) (cwV 0 hts gL_law_X5_thrown rfl rfl rfl hd_X5_thrown ⟨(Nat.le_of_ble_eq_true rfl), (Nat.le_of_ble_eq_true rfl)⟩) (g_preV hX hS (ci := 5) rfl hM2.1) rfl rfl hl.1 rfl (lv_room (Nat.le_of_ble_eq_true rfl)) dL_law_1195 (⟨by show _ ≤ 601024; omega, by show _ ≤ 7293034; omega⟩)) hS (fun r_1195 H_1195 locs hp hS => ?_)
  obtain ⟨rfl, rfl⟩ := hp
  refine lv_iload hx hb dL_law_1198 (lv_at hl 1 rfl) ?_
  refine gz_icmp_eq (tgt := 1205) hx hb (by decide) (by decide) dL_law_1200 (by decide) (fun c_1200 => ?_) (fun c_1200 => ?_)
  · refine lv_iload hx hb dL_law_1205 (lv_at hl 1 rfl) ?_
    refine gz_if_ne (tgt := 1222) hx hb (by decide) dL_law_1207 (by decide) (fun c_1207 => ?_) (fun c_1207 => ?_)
    · refine lv_goto (tgt := 1362) hx hb dL_law_1222 (by decide) ?_
      refine W.widen (k := cells + 12) (n := slots + 900) (by omega) (by omega) ?_
      exact kk TA S 1 H_1189 locs ls hLI2 hS (lv_sub hl [2, 3, 4, 5, 6] rfl)
    · omega
  · omega
set_option maxHeartbeats 4000000 in
set_option maxRecDepth 100000 in
theorem s_link_e1b (l : Launch) (hlf : l.stackTraces = false) (G : gG) {p : Program} {e : Env} {s : State} {m : MethodId} {below : List Frame} {meth : Method} {c : Code} {b L : Nat} {xs : Nat → Int32} (F : lwF p s m c G b L xs) (A : Nat → Nat) (TA : Nat → Nat → Nat) (B : Nat → Nat) (S : cS) (o : Nat) (th : Int) (H : Heap) (locs : List Loc) (cells slots : Nat) (hLI : LI G A TA B o S th H) (hS : va_S (gA G) s.heap H locs) (t : Nat) (htL : 5 * t + 5 ≤ L) (y : Int) (hy : y = (5 * t : Nat)) (ls : Array Slot) (hl : lv_has ls 7 [(4, .int (zI y)), (0, .ref b), (1, .ref (A 0)), (2, .ref (B 0)), (3, .ref o)]) (hcl : cells + 12 ≤ 601024) (hsl : slots + 900 ≤ 7293034) (Q : State → Prop) (kk : lwK l G p e s m below meth c b A B o y cells slots Q) (z1 : Int) (z2 : Int) (i : Nat) (hz1 : z1 = i) (hi : i < sn S) (hz2 : rI z2) (hj : ¬ (0 ≤ z2 ∧ z2 < sn S)) (hz1r : rI z1) (hq1 : xs (5 * t + 1) = zI z1) (hq2 : xs (5 * t + 2) = zI z2) : W p l e room_1 s m #[Value.ref b] below meth c H locs cells slots Q (F0 m 1157 ls []) := by
  obtain ⟨hx, hb, hml, hts, hown, hX, hscr, hbl, hgb, hL25⟩ := F
  obtain ⟨hI, ⟨W9, hC⟩, ⟨ct, hM⟩, ho0, go, d1, d2, d3⟩ := id hLI
  have hbA : ¬ gA G b := fun z => by have z : gB G ≤ b := z; omega
  have hI2 : sInv S := hI
  refine lv_aload_n hx hb dL_law_1157 rfl (lv_at hl 2 rfl) ?_
  refine lv_aload_n hx hb dL_law_1158 rfl (lv_at hl 1 rfl) ?_
  refine lv_iload hx hb dL_law_1159 (lv_at hl 0 rfl) ?_
  refine lv_iconst (v := zI 1) hx hb dL_law_1161 rfl ?_
  refine gz_iadd hx hb dL_law_1162 ?_
  refine gz_sld hx hb hscr hbl hbA hS (5 * t + 1) (by omega) (by omega) (by omega) dL_law_1163 ?_
  rw [hq1]
  refine lv_aload_n hx hb dL_law_1164 rfl (lv_at hl 1 rfl) ?_
  refine lv_iload hx hb dL_law_1165 (lv_at hl 0 rfl) ?_
  refine lv_iconst (v := zI 2) hx hb dL_law_1167 rfl ?_
  refine gz_iadd hx hb dL_law_1168 ?_
  refine gz_sld hx hb hscr hbl hbA hS (5 * t + 2) (by omega) (by omega) (by omega) dL_law_1169 ?_
  rw [hq2]
  refine lv_aload_n hx hb dL_law_1170 rfl (lv_at hl 4 rfl) ?_
  refine g_goi (vx_runSX (As := [.ref (A 0), .int (zI z1), .int (zI z2), .ref o]) (rest := []) ⟨hx, hb, hml, hown, hts⟩ (w_link_e1 l G hlf A TA S W9 H hC hI z1 z2 hz1r hz2 (fun q => hj q.2) o ho0 go d2) (vx_cwSW 4 hts gL_law_L_link rfl rfl rfl hd_L_link.2 ⟨(Nat.le_of_ble_eq_true rfl), (Nat.le_of_ble_eq_true rfl)⟩) (g_pre hX hS) rfl rfl hl.1 rfl (lv_room (Nat.le_of_ble_eq_true rfl)) dL_law_1171 (⟨by show _ ≤ 601024; omega, by show _ ≤ 7293034; omega⟩)) hS (fun r_1171 H_1171 locs hp hS => ?_)
  obtain ⟨rfl, hLX, hLU⟩ := hp
  have hM1 := LI.mid hM hLX d1 d3
  refine lv_istore (lv' := [(5, .int (zI 1)), (4, .int (zI y)), (0, .ref b), (1, .ref (A 0)), (2, .ref (B 0)), (3, .ref o)]) hx hb dL_law_1174 hl (by decide) rfl (fun ls hl => ?_)
  refine lv_aload_n hx hb dL_law_1176 rfl (lv_at hl 4 rfl) ?_
  refine lv_aload_n hx hb dL_law_1177 rfl (lv_at hl 2 rfl) ?_
  refine lv_iload hx hb dL_law_1178 (lv_at hl 1 rfl) ?_
  refine lv_iconst (v := zI 1) hx hb dL_law_1180 rfl ?_
  refine gz_iadd hx hb dL_law_1181 ?_
  refine gz_sld hx hb hscr hbl hbA hS (5 * t + 1) (by omega) (by omega) (by omega) dL_law_1182 ?_
  rw [hq1]
  refine lv_aload_n hx hb dL_law_1183 rfl (lv_at hl 2 rfl) ?_
  refine lv_iload hx hb dL_law_1184 (lv_at hl 1 rfl) ?_
  refine lv_iconst (v := zI 2) hx hb dL_law_1186 rfl ?_
  refine gz_iadd hx hb dL_law_1187 ?_
  refine gz_sld hx hb hscr hbl hbA hS (5 * t + 2) (by omega) (by omega) (by omega) dL_law_1188 ?_
  rw [hq2]
  refine g_goi (vx_runV (As := [.int (zI z1), .int (zI z2)]) (rest := []) ⟨hx, hb, hml, hown, hts⟩ (m_link_e1b l G B S th ct H_1171 hM1 hI z1 z2 i hz1 hi hz2 hj) (cwV 2 hts gL_law_X5_link rfl rfl rfl hd_X5_link ⟨(Nat.le_of_ble_eq_true rfl), (Nat.le_of_ble_eq_true rfl)⟩) (g_preV hX hS (ci := 5) rfl hM1.1) rfl rfl hl.1 rfl (lv_room (Nat.le_of_ble_eq_true rfl)) dL_law_1189 (⟨by show _ ≤ 601024; omega, by show _ ≤ 7293034; omega⟩)) hS (fun r_1189 H_1189 locs hp hS => ?_)
  obtain ⟨rfl, hMP⟩ := hp
  have hLI2 := LI.fin hI2 hLI hLX hLU hMP
  obtain ⟨⟨ct2, hM2⟩, hKP2⟩ := id hMP
  refine lv_istore (lv' := [(6, .int (zI 0)), (5, .int (zI 1)), (4, .int (zI y)), (0, .ref b), (1, .ref (A 0)), (2, .ref (B 0)), (3, .ref o)]) hx hb dL_law_1192 hl (by decide) rfl (fun ls hl => ?_)
  refine lv_aload_n hx hb dL_law_1194 rfl (lv_at hl 5 rfl) ?_
  refine g_goi (vx_runV (As := []) (rest := []) ⟨hx, hb, hml, hown, hts⟩ (m_thrown l G B S 1 ct2 H_1189 hM2) (cwV 0 hts gL_law_X5_thrown rfl rfl rfl hd_X5_thrown ⟨(Nat.le_of_ble_eq_true rfl), (Nat.le_of_ble_eq_true rfl)⟩) (g_preV hX hS (ci := 5) rfl hM2.1) rfl rfl hl.1 rfl (lv_room (Nat.le_of_ble_eq_true rfl)) dL_law_1195 (⟨by show _ ≤ 601024; omega, by show _ ≤ 7293034; omega⟩)) hS (fun r_1195 H_1195 locs hp hS => ?_)
  obtain ⟨rfl, rfl⟩ := hp
  refine lv_iload hx hb dL_law_1198 (lv_at hl 1 rfl) ?_
  refine gz_icmp_eq (tgt := 1205) hx hb (by decide) (by decide) dL_law_1200 (by decide) (fun c_1200 => ?_) (fun c_1200 => ?_)
  · refine lv_iload hx hb dL_law_1205 (lv_at hl 1 rfl) ?_
    refine gz_if_ne (tgt := 1222) hx hb (by decide) dL_law_1207 (by decide) (fun c_1207 => ?_) (fun c_1207 => ?_)
    · refine lv_goto (tgt := 1362) hx hb dL_law_1222 (by decide) ?_
      refine W.widen (k := cells + 12) (n := slots + 900) (by omega) (by omega) ?_
      exact kk TA S 1 H_1189 locs ls hLI2 hS (lv_sub hl [2, 3, 4, 5, 6] rfl)
    · omega
  · omega
set_option maxHeartbeats 4000000 in
set_option maxRecDepth 100000 in
theorem s_link_e2 (l : Launch) (hlf : l.stackTraces = false) (G : gG) {p : Program} {e : Env} {s : State} {m : MethodId} {below : List Frame} {meth : Method} {c : Code} {b L : Nat} {xs : Nat → Int32} (F : lwF p s m c G b L xs) (A : Nat → Nat) (TA : Nat → Nat → Nat) (B : Nat → Nat) (S : cS) (o : Nat) (th : Int) (H : Heap) (locs : List Loc) (cells slots : Nat) (hLI : LI G A TA B o S th H) (hS : va_S (gA G) s.heap H locs) (t : Nat) (htL : 5 * t + 5 ≤ L) (y : Int) (hy : y = (5 * t : Nat)) (ls : Array Slot) (hl : lv_has ls 7 [(4, .int (zI y)), (0, .ref b), (1, .ref (A 0)), (2, .ref (B 0)), (3, .ref o)]) (hcl : cells + 12 ≤ 601024) (hsl : slots + 900 ≤ 7293034) (Q : State → Prop) (kk : lwK l G p e s m below meth c b A B o y cells slots Q) (z1 : Int) (z2 : Int) (i : Nat) (j : Nat) (hz1 : z1 = i) (hi : i < sn S) (hz2 : z2 = j) (hj : j < sn S) (hij : i = j) (hq1 : xs (5 * t + 1) = zI z1) (hq2 : xs (5 * t + 2) = zI z2) : W p l e room_1 s m #[Value.ref b] below meth c H locs cells slots Q (F0 m 1157 ls []) := by
  obtain ⟨hx, hb, hml, hts, hown, hX, hscr, hbl, hgb, hL25⟩ := F
  obtain ⟨hI, ⟨W9, hC⟩, ⟨ct, hM⟩, ho0, go, d1, d2, d3⟩ := id hLI
  have hbA : ¬ gA G b := fun z => by have z : gB G ≤ b := z; omega
  have hI2 : sInv S := hI
  refine lv_aload_n hx hb dL_law_1157 rfl (lv_at hl 2 rfl) ?_
  refine lv_aload_n hx hb dL_law_1158 rfl (lv_at hl 1 rfl) ?_
  refine lv_iload hx hb dL_law_1159 (lv_at hl 0 rfl) ?_
  refine lv_iconst (v := zI 1) hx hb dL_law_1161 rfl ?_
  refine gz_iadd hx hb dL_law_1162 ?_
  refine gz_sld hx hb hscr hbl hbA hS (5 * t + 1) (by omega) (by omega) (by omega) dL_law_1163 ?_
  rw [hq1]
  refine lv_aload_n hx hb dL_law_1164 rfl (lv_at hl 1 rfl) ?_
  refine lv_iload hx hb dL_law_1165 (lv_at hl 0 rfl) ?_
  refine lv_iconst (v := zI 2) hx hb dL_law_1167 rfl ?_
  refine gz_iadd hx hb dL_law_1168 ?_
  refine gz_sld hx hb hscr hbl hbA hS (5 * t + 2) (by omega) (by omega) (by omega) dL_law_1169 ?_
  rw [hq2]
  refine lv_aload_n hx hb dL_law_1170 rfl (lv_at hl 4 rfl) ?_
  refine g_goi (vx_runSX (As := [.ref (A 0), .int (zI z1), .int (zI z2), .ref o]) (rest := []) ⟨hx, hb, hml, hown, hts⟩ (w_link_e2 l G hlf A TA S W9 H hC hI z1 z2 i j hz1 hi hz2 hj hij o ho0 go d2) (vx_cwSW 4 hts gL_law_L_link rfl rfl rfl hd_L_link.2 ⟨(Nat.le_of_ble_eq_true rfl), (Nat.le_of_ble_eq_true rfl)⟩) (g_pre hX hS) rfl rfl hl.1 rfl (lv_room (Nat.le_of_ble_eq_true rfl)) dL_law_1171 (⟨by show _ ≤ 601024; omega, by show _ ≤ 7293034; omega⟩)) hS (fun r_1171 H_1171 locs hp hS => ?_)
  obtain ⟨rfl, hLX, hLU⟩ := hp
  have hM1 := LI.mid hM hLX d1 d3
  refine lv_istore (lv' := [(5, .int (zI 2)), (4, .int (zI y)), (0, .ref b), (1, .ref (A 0)), (2, .ref (B 0)), (3, .ref o)]) hx hb dL_law_1174 hl (by decide) rfl (fun ls hl => ?_)
  refine lv_aload_n hx hb dL_law_1176 rfl (lv_at hl 4 rfl) ?_
  refine lv_aload_n hx hb dL_law_1177 rfl (lv_at hl 2 rfl) ?_
  refine lv_iload hx hb dL_law_1178 (lv_at hl 1 rfl) ?_
  refine lv_iconst (v := zI 1) hx hb dL_law_1180 rfl ?_
  refine gz_iadd hx hb dL_law_1181 ?_
  refine gz_sld hx hb hscr hbl hbA hS (5 * t + 1) (by omega) (by omega) (by omega) dL_law_1182 ?_
  rw [hq1]
  refine lv_aload_n hx hb dL_law_1183 rfl (lv_at hl 2 rfl) ?_
  refine lv_iload hx hb dL_law_1184 (lv_at hl 1 rfl) ?_
  refine lv_iconst (v := zI 2) hx hb dL_law_1186 rfl ?_
  refine gz_iadd hx hb dL_law_1187 ?_
  refine gz_sld hx hb hscr hbl hbA hS (5 * t + 2) (by omega) (by omega) (by omega) dL_law_1188 ?_
  rw [hq2]
  refine g_goi (vx_runV (As := [.int (zI z1), .int (zI z2)]) (rest := []) ⟨hx, hb, hml, hown, hts⟩ (m_link_e2 l G B S th ct H_1171 hM1 hI z1 z2 i j hz1 hi hz2 hj hij) (cwV 2 hts gL_law_X5_link rfl rfl rfl hd_X5_link ⟨(Nat.le_of_ble_eq_true rfl), (Nat.le_of_ble_eq_true rfl)⟩) (g_preV hX hS (ci := 5) rfl hM1.1) rfl rfl hl.1 rfl (lv_room (Nat.le_of_ble_eq_true rfl)) dL_law_1189 (⟨by show _ ≤ 601024; omega, by show _ ≤ 7293034; omega⟩)) hS (fun r_1189 H_1189 locs hp hS => ?_)
  obtain ⟨rfl, hMP⟩ := hp
  have hLI2 := LI.fin hI2 hLI hLX hLU hMP
  obtain ⟨⟨ct2, hM2⟩, hKP2⟩ := id hMP
  refine lv_istore (lv' := [(6, .int (zI 0)), (5, .int (zI 2)), (4, .int (zI y)), (0, .ref b), (1, .ref (A 0)), (2, .ref (B 0)), (3, .ref o)]) hx hb dL_law_1192 hl (by decide) rfl (fun ls hl => ?_)
  refine lv_aload_n hx hb dL_law_1194 rfl (lv_at hl 5 rfl) ?_
  refine g_goi (vx_runV (As := []) (rest := []) ⟨hx, hb, hml, hown, hts⟩ (m_thrown l G B S 2 ct2 H_1189 hM2) (cwV 0 hts gL_law_X5_thrown rfl rfl rfl hd_X5_thrown ⟨(Nat.le_of_ble_eq_true rfl), (Nat.le_of_ble_eq_true rfl)⟩) (g_preV hX hS (ci := 5) rfl hM2.1) rfl rfl hl.1 rfl (lv_room (Nat.le_of_ble_eq_true rfl)) dL_law_1195 (⟨by show _ ≤ 601024; omega, by show _ ≤ 7293034; omega⟩)) hS (fun r_1195 H_1195 locs hp hS => ?_)
  obtain ⟨rfl, rfl⟩ := hp
  refine lv_iload hx hb dL_law_1198 (lv_at hl 1 rfl) ?_
  refine gz_icmp_eq (tgt := 1205) hx hb (by decide) (by decide) dL_law_1200 (by decide) (fun c_1200 => ?_) (fun c_1200 => ?_)
  · refine lv_iload hx hb dL_law_1205 (lv_at hl 1 rfl) ?_
    refine gz_if_ne (tgt := 1222) hx hb (by decide) dL_law_1207 (by decide) (fun c_1207 => ?_) (fun c_1207 => ?_)
    · refine lv_goto (tgt := 1362) hx hb dL_law_1222 (by decide) ?_
      refine W.widen (k := cells + 12) (n := slots + 900) (by omega) (by omega) ?_
      exact kk TA S 2 H_1189 locs ls hLI2 hS (lv_sub hl [2, 3, 4, 5, 6] rfl)
    · omega
  · omega
set_option maxHeartbeats 4000000 in
set_option maxRecDepth 100000 in
theorem s_link_e3 (l : Launch) (hlf : l.stackTraces = false) (G : gG) {p : Program} {e : Env} {s : State} {m : MethodId} {below : List Frame} {meth : Method} {c : Code} {b L : Nat} {xs : Nat → Int32} (F : lwF p s m c G b L xs) (A : Nat → Nat) (TA : Nat → Nat → Nat) (B : Nat → Nat) (S : cS) (o : Nat) (th : Int) (H : Heap) (locs : List Loc) (cells slots : Nat) (hLI : LI G A TA B o S th H) (hS : va_S (gA G) s.heap H locs) (t : Nat) (htL : 5 * t + 5 ≤ L) (y : Int) (hy : y = (5 * t : Nat)) (ls : Array Slot) (hl : lv_has ls 7 [(4, .int (zI y)), (0, .ref b), (1, .ref (A 0)), (2, .ref (B 0)), (3, .ref o)]) (hcl : cells + 12 ≤ 601024) (hsl : slots + 900 ≤ 7293034) (Q : State → Prop) (kk : lwK l G p e s m below meth c b A B o y cells slots Q) (z1 : Int) (z2 : Int) (i : Nat) (j : Nat) (hz1 : z1 = i) (hi : i < sn S) (hz2 : z2 = j) (hj : j < sn S) (hij : i ≠ j) (htb : (slk S i).testBit j = true) (hq1 : xs (5 * t + 1) = zI z1) (hq2 : xs (5 * t + 2) = zI z2) : W p l e room_1 s m #[Value.ref b] below meth c H locs cells slots Q (F0 m 1157 ls []) := by
  obtain ⟨hx, hb, hml, hts, hown, hX, hscr, hbl, hgb, hL25⟩ := F
  obtain ⟨hI, ⟨W9, hC⟩, ⟨ct, hM⟩, ho0, go, d1, d2, d3⟩ := id hLI
  have hbA : ¬ gA G b := fun z => by have z : gB G ≤ b := z; omega
  have hI2 : sInv S := hI
  refine lv_aload_n hx hb dL_law_1157 rfl (lv_at hl 2 rfl) ?_
  refine lv_aload_n hx hb dL_law_1158 rfl (lv_at hl 1 rfl) ?_
  refine lv_iload hx hb dL_law_1159 (lv_at hl 0 rfl) ?_
  refine lv_iconst (v := zI 1) hx hb dL_law_1161 rfl ?_
  refine gz_iadd hx hb dL_law_1162 ?_
  refine gz_sld hx hb hscr hbl hbA hS (5 * t + 1) (by omega) (by omega) (by omega) dL_law_1163 ?_
  rw [hq1]
  refine lv_aload_n hx hb dL_law_1164 rfl (lv_at hl 1 rfl) ?_
  refine lv_iload hx hb dL_law_1165 (lv_at hl 0 rfl) ?_
  refine lv_iconst (v := zI 2) hx hb dL_law_1167 rfl ?_
  refine gz_iadd hx hb dL_law_1168 ?_
  refine gz_sld hx hb hscr hbl hbA hS (5 * t + 2) (by omega) (by omega) (by omega) dL_law_1169 ?_
  rw [hq2]
  refine lv_aload_n hx hb dL_law_1170 rfl (lv_at hl 4 rfl) ?_
  refine g_goi (vx_runSX (As := [.ref (A 0), .int (zI z1), .int (zI z2), .ref o]) (rest := []) ⟨hx, hb, hml, hown, hts⟩ (w_link_e3 l G hlf A TA S W9 H hC hI z1 z2 i j hz1 hi hz2 hj hij htb o ho0 go d2) (vx_cwSW 4 hts gL_law_L_link rfl rfl rfl hd_L_link.2 ⟨(Nat.le_of_ble_eq_true rfl), (Nat.le_of_ble_eq_true rfl)⟩) (g_pre hX hS) rfl rfl hl.1 rfl (lv_room (Nat.le_of_ble_eq_true rfl)) dL_law_1171 (⟨by show _ ≤ 601024; omega, by show _ ≤ 7293034; omega⟩)) hS (fun r_1171 H_1171 locs hp hS => ?_)
  obtain ⟨rfl, hLX, hLU⟩ := hp
  have hM1 := LI.mid hM hLX d1 d3
  refine lv_istore (lv' := [(5, .int (zI 3)), (4, .int (zI y)), (0, .ref b), (1, .ref (A 0)), (2, .ref (B 0)), (3, .ref o)]) hx hb dL_law_1174 hl (by decide) rfl (fun ls hl => ?_)
  refine lv_aload_n hx hb dL_law_1176 rfl (lv_at hl 4 rfl) ?_
  refine lv_aload_n hx hb dL_law_1177 rfl (lv_at hl 2 rfl) ?_
  refine lv_iload hx hb dL_law_1178 (lv_at hl 1 rfl) ?_
  refine lv_iconst (v := zI 1) hx hb dL_law_1180 rfl ?_
  refine gz_iadd hx hb dL_law_1181 ?_
  refine gz_sld hx hb hscr hbl hbA hS (5 * t + 1) (by omega) (by omega) (by omega) dL_law_1182 ?_
  rw [hq1]
  refine lv_aload_n hx hb dL_law_1183 rfl (lv_at hl 2 rfl) ?_
  refine lv_iload hx hb dL_law_1184 (lv_at hl 1 rfl) ?_
  refine lv_iconst (v := zI 2) hx hb dL_law_1186 rfl ?_
  refine gz_iadd hx hb dL_law_1187 ?_
  refine gz_sld hx hb hscr hbl hbA hS (5 * t + 2) (by omega) (by omega) (by omega) dL_law_1188 ?_
  rw [hq2]
  refine g_goi (vx_runV (As := [.int (zI z1), .int (zI z2)]) (rest := []) ⟨hx, hb, hml, hown, hts⟩ (m_link_e3 l G B S th ct H_1171 hM1 hI z1 z2 i j hz1 hi hz2 hj hij htb) (cwV 2 hts gL_law_X5_link rfl rfl rfl hd_X5_link ⟨(Nat.le_of_ble_eq_true rfl), (Nat.le_of_ble_eq_true rfl)⟩) (g_preV hX hS (ci := 5) rfl hM1.1) rfl rfl hl.1 rfl (lv_room (Nat.le_of_ble_eq_true rfl)) dL_law_1189 (⟨by show _ ≤ 601024; omega, by show _ ≤ 7293034; omega⟩)) hS (fun r_1189 H_1189 locs hp hS => ?_)
  obtain ⟨rfl, hMP⟩ := hp
  have hLI2 := LI.fin hI2 hLI hLX hLU hMP
  obtain ⟨⟨ct2, hM2⟩, hKP2⟩ := id hMP
  refine lv_istore (lv' := [(6, .int (zI 0)), (5, .int (zI 3)), (4, .int (zI y)), (0, .ref b), (1, .ref (A 0)), (2, .ref (B 0)), (3, .ref o)]) hx hb dL_law_1192 hl (by decide) rfl (fun ls hl => ?_)
  refine lv_aload_n hx hb dL_law_1194 rfl (lv_at hl 5 rfl) ?_
  refine g_goi (vx_runV (As := []) (rest := []) ⟨hx, hb, hml, hown, hts⟩ (m_thrown l G B S 3 ct2 H_1189 hM2) (cwV 0 hts gL_law_X5_thrown rfl rfl rfl hd_X5_thrown ⟨(Nat.le_of_ble_eq_true rfl), (Nat.le_of_ble_eq_true rfl)⟩) (g_preV hX hS (ci := 5) rfl hM2.1) rfl rfl hl.1 rfl (lv_room (Nat.le_of_ble_eq_true rfl)) dL_law_1195 (⟨by show _ ≤ 601024; omega, by show _ ≤ 7293034; omega⟩)) hS (fun r_1195 H_1195 locs hp hS => ?_)
  obtain ⟨rfl, rfl⟩ := hp
  refine lv_iload hx hb dL_law_1198 (lv_at hl 1 rfl) ?_
  refine gz_icmp_eq (tgt := 1205) hx hb (by decide) (by decide) dL_law_1200 (by decide) (fun c_1200 => ?_) (fun c_1200 => ?_)
  · refine lv_iload hx hb dL_law_1205 (lv_at hl 1 rfl) ?_
    refine gz_if_ne (tgt := 1222) hx hb (by decide) dL_law_1207 (by decide) (fun c_1207 => ?_) (fun c_1207 => ?_)
    · refine lv_goto (tgt := 1362) hx hb dL_law_1222 (by decide) ?_
      refine W.widen (k := cells + 12) (n := slots + 900) (by omega) (by omega) ?_
      exact kk TA S 3 H_1189 locs ls hLI2 hS (lv_sub hl [2, 3, 4, 5, 6] rfl)
    · omega
  · omega
set_option maxHeartbeats 4000000 in
set_option maxRecDepth 100000 in
theorem s_cut_ok (l : Launch) (hlf : l.stackTraces = false) (G : gG) {p : Program} {e : Env} {s : State} {m : MethodId} {below : List Frame} {meth : Method} {c : Code} {b L : Nat} {xs : Nat → Int32} (F : lwF p s m c G b L xs) (A : Nat → Nat) (TA : Nat → Nat → Nat) (B : Nat → Nat) (S : cS) (o : Nat) (th : Int) (H : Heap) (locs : List Loc) (cells slots : Nat) (hLI : LI G A TA B o S th H) (hS : va_S (gA G) s.heap H locs) (t : Nat) (htL : 5 * t + 5 ≤ L) (y : Int) (hy : y = (5 * t : Nat)) (ls : Array Slot) (hl : lv_has ls 7 [(4, .int (zI y)), (0, .ref b), (1, .ref (A 0)), (2, .ref (B 0)), (3, .ref o)]) (hcl : cells + 12 ≤ 601024) (hsl : slots + 900 ≤ 7293034) (Q : State → Prop) (kk : lwK l G p e s m below meth c b A B o y cells slots Q) (z1 : Int) (z2 : Int) (i : Nat) (j : Nat) (hz1 : z1 = i) (hi : i < sn S) (hz2 : z2 = j) (hj : j < sn S) (hij : i ≠ j) (htb : (slk S i).testBit j = true) (hq1 : xs (5 * t + 1) = zI z1) (hq2 : xs (5 * t + 2) = zI z2) : W p l e room_1 s m #[Value.ref b] below meth c H locs cells slots Q (F0 m 1225 ls []) := by
  obtain ⟨hx, hb, hml, hts, hown, hX, hscr, hbl, hgb, hL25⟩ := F
  obtain ⟨hI, ⟨W9, hC⟩, ⟨ct, hM⟩, ho0, go, d1, d2, d3⟩ := id hLI
  have hbA : ¬ gA G b := fun z => by have z : gB G ≤ b := z; omega
  have hI2 : sInv (sLnk S i j) := sI_lnk hI hi hj hij
  refine lv_aload_n hx hb dL_law_1225 rfl (lv_at hl 2 rfl) ?_
  refine lv_aload_n hx hb dL_law_1226 rfl (lv_at hl 1 rfl) ?_
  refine lv_iload hx hb dL_law_1227 (lv_at hl 0 rfl) ?_
  refine lv_iconst (v := zI 1) hx hb dL_law_1229 rfl ?_
  refine gz_iadd hx hb dL_law_1230 ?_
  refine gz_sld hx hb hscr hbl hbA hS (5 * t + 1) (by omega) (by omega) (by omega) dL_law_1231 ?_
  rw [hq1]
  refine lv_aload_n hx hb dL_law_1232 rfl (lv_at hl 1 rfl) ?_
  refine lv_iload hx hb dL_law_1233 (lv_at hl 0 rfl) ?_
  refine lv_iconst (v := zI 2) hx hb dL_law_1235 rfl ?_
  refine gz_iadd hx hb dL_law_1236 ?_
  refine gz_sld hx hb hscr hbl hbA hS (5 * t + 2) (by omega) (by omega) (by omega) dL_law_1237 ?_
  rw [hq2]
  refine lv_aload_n hx hb dL_law_1238 rfl (lv_at hl 4 rfl) ?_
  refine g_goi (vx_runSX (As := [.ref (A 0), .int (zI z1), .int (zI z2), .ref o]) (rest := []) ⟨hx, hb, hml, hown, hts⟩ (w_cut_ok l G A TA S W9 H hC hI z1 z2 i j hz1 hi hz2 hj (fun k => slk_lt (S := sLnk S i j) hI2 k) hij htb o ho0 go d2) (vx_cwSW 4 hts gL_law_L_cut rfl rfl rfl hd_L_cut.2 ⟨(Nat.le_of_ble_eq_true rfl), (Nat.le_of_ble_eq_true rfl)⟩) (g_pre hX hS) rfl rfl hl.1 rfl (lv_room (Nat.le_of_ble_eq_true rfl)) dL_law_1239 (⟨by show _ ≤ 601024; omega, by show _ ≤ 7293034; omega⟩)) hS (fun r_1239 H_1239 locs hp hS => ?_)
  obtain ⟨rfl, hLX, hLO⟩ := hp
  have hLU := hLO.u
  have hM1 := LI.mid hM hLX d1 d3
  refine lv_istore (lv' := [(5, .int (zI 0)), (4, .int (zI y)), (0, .ref b), (1, .ref (A 0)), (2, .ref (B 0)), (3, .ref o)]) hx hb dL_law_1242 hl (by decide) rfl (fun ls hl => ?_)
  refine lv_aload_n hx hb dL_law_1244 rfl (lv_at hl 4 rfl) ?_
  refine lv_aload_n hx hb dL_law_1245 rfl (lv_at hl 2 rfl) ?_
  refine lv_iload hx hb dL_law_1246 (lv_at hl 1 rfl) ?_
  refine lv_iconst (v := zI 1) hx hb dL_law_1248 rfl ?_
  refine gz_iadd hx hb dL_law_1249 ?_
  refine gz_sld hx hb hscr hbl hbA hS (5 * t + 1) (by omega) (by omega) (by omega) dL_law_1250 ?_
  rw [hq1]
  refine lv_aload_n hx hb dL_law_1251 rfl (lv_at hl 2 rfl) ?_
  refine lv_iload hx hb dL_law_1252 (lv_at hl 1 rfl) ?_
  refine lv_iconst (v := zI 2) hx hb dL_law_1254 rfl ?_
  refine gz_iadd hx hb dL_law_1255 ?_
  refine gz_sld hx hb hscr hbl hbA hS (5 * t + 2) (by omega) (by omega) (by omega) dL_law_1256 ?_
  rw [hq2]
  refine g_goi (vx_runV (As := [.int (zI z1), .int (zI z2)]) (rest := []) ⟨hx, hb, hml, hown, hts⟩ (m_cut_ok l G B S th ct H_1239 hM1 hI z1 z2 i j hz1 hi hz2 hj hI2 hij htb) (cwV 2 hts gL_law_X5_cut rfl rfl rfl hd_X5_cut ⟨(Nat.le_of_ble_eq_true rfl), (Nat.le_of_ble_eq_true rfl)⟩) (g_preV hX hS (ci := 5) rfl hM1.1) rfl rfl hl.1 rfl (lv_room (Nat.le_of_ble_eq_true rfl)) dL_law_1257 (⟨by show _ ≤ 601024; omega, by show _ ≤ 7293034; omega⟩)) hS (fun r_1257 H_1257 locs hp hS => ?_)
  obtain ⟨rfl, hMP⟩ := hp
  have hLI2 := LI.fin hI2 hLI hLX hLU hMP
  obtain ⟨⟨ct2, hM2⟩, hKP2⟩ := id hMP
  obtain ⟨fo, ho, hfo⟩ := LO.mp hLO hMP d3
  refine lv_istore (lv' := [(6, .int (zI ((famC (lkT (slk S) i j) (sn S) (sn S) : Nat) : Int))), (5, .int (zI 0)), (4, .int (zI y)), (0, .ref b), (1, .ref (A 0)), (2, .ref (B 0)), (3, .ref o)]) hx hb dL_law_1260 hl (by decide) rfl (fun ls hl => ?_)
  refine lv_aload_n hx hb dL_law_1262 rfl (lv_at hl 5 rfl) ?_
  refine g_goi (vx_runV (As := []) (rest := []) ⟨hx, hb, hml, hown, hts⟩ (m_thrown l G B (sLnk S i j) 0 ct2 H_1257 hM2) (cwV 0 hts gL_law_X5_thrown rfl rfl rfl hd_X5_thrown ⟨(Nat.le_of_ble_eq_true rfl), (Nat.le_of_ble_eq_true rfl)⟩) (g_preV hX hS (ci := 5) rfl hM2.1) rfl rfl hl.1 rfl (lv_room (Nat.le_of_ble_eq_true rfl)) dL_law_1263 (⟨by show _ ≤ 601024; omega, by show _ ≤ 7293034; omega⟩)) hS (fun r_1263 H_1263 locs hp hS => ?_)
  obtain ⟨rfl, rfl⟩ := hp
  refine lv_iload hx hb dL_law_1266 (lv_at hl 1 rfl) ?_
  refine gz_icmp_eq (tgt := 1273) hx hb (by decide) (by decide) dL_law_1268 (by decide) (fun c_1268 => ?_) (fun c_1268 => ?_)
  · refine lv_iload hx hb dL_law_1273 (lv_at hl 1 rfl) ?_
    refine gz_if_ne (tgt := 1290) hx hb (by decide) dL_law_1275 (by decide) (fun c_1275 => ?_) (fun c_1275 => ?_)
    · omega
    · refine lv_aload_n hx hb dL_law_1278 rfl (lv_at hl 6 rfl) ?_
      refine lv_iconst (v := zI 0) hx hb dL_law_1279 rfl ?_
      refine gz_lald hx hb hX ho 0 (by omega) (by omega) (by omega) dL_law_1280 ?_
      rw [hfo]
      refine lv_iload hx hb dL_law_1281 (lv_at hl 0 rfl) ?_
      refine lv_i2l hx hb dL_law_1283 rfl ?_
      refine W.lcmp hx hb dL_law_1284 ?_
      rw [lgc0]
      refine gz_if_eq (tgt := 1290) hx hb (by decide) dL_law_1285 (by decide) (fun c_1285 => ?_) (fun c_1285 => ?_)
      · refine lv_goto (tgt := 1362) hx hb dL_law_1290 (by decide) ?_
        refine W.widen (k := cells + 12) (n := slots + 900) (by omega) (by omega) ?_
        exact kk TA (sLnk S i j) 0 H_1257 locs ls hLI2 hS (lv_sub hl [2, 3, 4, 5, 6] rfl)
      · omega
  · omega
set_option maxHeartbeats 4000000 in
set_option maxRecDepth 100000 in
theorem s_cut_e1 (l : Launch) (hlf : l.stackTraces = false) (G : gG) {p : Program} {e : Env} {s : State} {m : MethodId} {below : List Frame} {meth : Method} {c : Code} {b L : Nat} {xs : Nat → Int32} (F : lwF p s m c G b L xs) (A : Nat → Nat) (TA : Nat → Nat → Nat) (B : Nat → Nat) (S : cS) (o : Nat) (th : Int) (H : Heap) (locs : List Loc) (cells slots : Nat) (hLI : LI G A TA B o S th H) (hS : va_S (gA G) s.heap H locs) (t : Nat) (htL : 5 * t + 5 ≤ L) (y : Int) (hy : y = (5 * t : Nat)) (ls : Array Slot) (hl : lv_has ls 7 [(4, .int (zI y)), (0, .ref b), (1, .ref (A 0)), (2, .ref (B 0)), (3, .ref o)]) (hcl : cells + 12 ≤ 601024) (hsl : slots + 900 ≤ 7293034) (Q : State → Prop) (kk : lwK l G p e s m below meth c b A B o y cells slots Q) (z1 : Int) (z2 : Int) (hz1 : rI z1) (hz2 : rI z2) (hi : ¬ (0 ≤ z1 ∧ z1 < sn S)) (hq1 : xs (5 * t + 1) = zI z1) (hq2 : xs (5 * t + 2) = zI z2) : W p l e room_1 s m #[Value.ref b] below meth c H locs cells slots Q (F0 m 1225 ls []) := by
  obtain ⟨hx, hb, hml, hts, hown, hX, hscr, hbl, hgb, hL25⟩ := F
  obtain ⟨hI, ⟨W9, hC⟩, ⟨ct, hM⟩, ho0, go, d1, d2, d3⟩ := id hLI
  have hbA : ¬ gA G b := fun z => by have z : gB G ≤ b := z; omega
  have hI2 : sInv S := hI
  refine lv_aload_n hx hb dL_law_1225 rfl (lv_at hl 2 rfl) ?_
  refine lv_aload_n hx hb dL_law_1226 rfl (lv_at hl 1 rfl) ?_
  refine lv_iload hx hb dL_law_1227 (lv_at hl 0 rfl) ?_
  refine lv_iconst (v := zI 1) hx hb dL_law_1229 rfl ?_
  refine gz_iadd hx hb dL_law_1230 ?_
  refine gz_sld hx hb hscr hbl hbA hS (5 * t + 1) (by omega) (by omega) (by omega) dL_law_1231 ?_
  rw [hq1]
  refine lv_aload_n hx hb dL_law_1232 rfl (lv_at hl 1 rfl) ?_
  refine lv_iload hx hb dL_law_1233 (lv_at hl 0 rfl) ?_
  refine lv_iconst (v := zI 2) hx hb dL_law_1235 rfl ?_
  refine gz_iadd hx hb dL_law_1236 ?_
  refine gz_sld hx hb hscr hbl hbA hS (5 * t + 2) (by omega) (by omega) (by omega) dL_law_1237 ?_
  rw [hq2]
  refine lv_aload_n hx hb dL_law_1238 rfl (lv_at hl 4 rfl) ?_
  refine g_goi (vx_runSX (As := [.ref (A 0), .int (zI z1), .int (zI z2), .ref o]) (rest := []) ⟨hx, hb, hml, hown, hts⟩ (w_cut_e1 l G hlf A TA S W9 H hC hI z1 z2 hz1 hz2 (fun q => hi q.1) o ho0 go d2) (vx_cwSW 4 hts gL_law_L_cut rfl rfl rfl hd_L_cut.2 ⟨(Nat.le_of_ble_eq_true rfl), (Nat.le_of_ble_eq_true rfl)⟩) (g_pre hX hS) rfl rfl hl.1 rfl (lv_room (Nat.le_of_ble_eq_true rfl)) dL_law_1239 (⟨by show _ ≤ 601024; omega, by show _ ≤ 7293034; omega⟩)) hS (fun r_1239 H_1239 locs hp hS => ?_)
  obtain ⟨rfl, hLX, hLU⟩ := hp
  have hM1 := LI.mid hM hLX d1 d3
  refine lv_istore (lv' := [(5, .int (zI 1)), (4, .int (zI y)), (0, .ref b), (1, .ref (A 0)), (2, .ref (B 0)), (3, .ref o)]) hx hb dL_law_1242 hl (by decide) rfl (fun ls hl => ?_)
  refine lv_aload_n hx hb dL_law_1244 rfl (lv_at hl 4 rfl) ?_
  refine lv_aload_n hx hb dL_law_1245 rfl (lv_at hl 2 rfl) ?_
  refine lv_iload hx hb dL_law_1246 (lv_at hl 1 rfl) ?_
  refine lv_iconst (v := zI 1) hx hb dL_law_1248 rfl ?_
  refine gz_iadd hx hb dL_law_1249 ?_
  refine gz_sld hx hb hscr hbl hbA hS (5 * t + 1) (by omega) (by omega) (by omega) dL_law_1250 ?_
  rw [hq1]
  refine lv_aload_n hx hb dL_law_1251 rfl (lv_at hl 2 rfl) ?_
  refine lv_iload hx hb dL_law_1252 (lv_at hl 1 rfl) ?_
  refine lv_iconst (v := zI 2) hx hb dL_law_1254 rfl ?_
  refine gz_iadd hx hb dL_law_1255 ?_
  refine gz_sld hx hb hscr hbl hbA hS (5 * t + 2) (by omega) (by omega) (by omega) dL_law_1256 ?_
  rw [hq2]
  refine g_goi (vx_runV (As := [.int (zI z1), .int (zI z2)]) (rest := []) ⟨hx, hb, hml, hown, hts⟩ (m_cut_e1 l G B S th ct H_1239 hM1 hI z1 z2 hz1 hz2 hi) (cwV 2 hts gL_law_X5_cut rfl rfl rfl hd_X5_cut ⟨(Nat.le_of_ble_eq_true rfl), (Nat.le_of_ble_eq_true rfl)⟩) (g_preV hX hS (ci := 5) rfl hM1.1) rfl rfl hl.1 rfl (lv_room (Nat.le_of_ble_eq_true rfl)) dL_law_1257 (⟨by show _ ≤ 601024; omega, by show _ ≤ 7293034; omega⟩)) hS (fun r_1257 H_1257 locs hp hS => ?_)
  obtain ⟨rfl, hMP⟩ := hp
  have hLI2 := LI.fin hI2 hLI hLX hLU hMP
  obtain ⟨⟨ct2, hM2⟩, hKP2⟩ := id hMP
  refine lv_istore (lv' := [(6, .int (zI 0)), (5, .int (zI 1)), (4, .int (zI y)), (0, .ref b), (1, .ref (A 0)), (2, .ref (B 0)), (3, .ref o)]) hx hb dL_law_1260 hl (by decide) rfl (fun ls hl => ?_)
  refine lv_aload_n hx hb dL_law_1262 rfl (lv_at hl 5 rfl) ?_
  refine g_goi (vx_runV (As := []) (rest := []) ⟨hx, hb, hml, hown, hts⟩ (m_thrown l G B S 1 ct2 H_1257 hM2) (cwV 0 hts gL_law_X5_thrown rfl rfl rfl hd_X5_thrown ⟨(Nat.le_of_ble_eq_true rfl), (Nat.le_of_ble_eq_true rfl)⟩) (g_preV hX hS (ci := 5) rfl hM2.1) rfl rfl hl.1 rfl (lv_room (Nat.le_of_ble_eq_true rfl)) dL_law_1263 (⟨by show _ ≤ 601024; omega, by show _ ≤ 7293034; omega⟩)) hS (fun r_1263 H_1263 locs hp hS => ?_)
  obtain ⟨rfl, rfl⟩ := hp
  refine lv_iload hx hb dL_law_1266 (lv_at hl 1 rfl) ?_
  refine gz_icmp_eq (tgt := 1273) hx hb (by decide) (by decide) dL_law_1268 (by decide) (fun c_1268 => ?_) (fun c_1268 => ?_)
  · refine lv_iload hx hb dL_law_1273 (lv_at hl 1 rfl) ?_
    refine gz_if_ne (tgt := 1290) hx hb (by decide) dL_law_1275 (by decide) (fun c_1275 => ?_) (fun c_1275 => ?_)
    · refine lv_goto (tgt := 1362) hx hb dL_law_1290 (by decide) ?_
      refine W.widen (k := cells + 12) (n := slots + 900) (by omega) (by omega) ?_
      exact kk TA S 1 H_1257 locs ls hLI2 hS (lv_sub hl [2, 3, 4, 5, 6] rfl)
    · omega
  · omega
set_option maxHeartbeats 4000000 in
set_option maxRecDepth 100000 in
theorem s_cut_e1b (l : Launch) (hlf : l.stackTraces = false) (G : gG) {p : Program} {e : Env} {s : State} {m : MethodId} {below : List Frame} {meth : Method} {c : Code} {b L : Nat} {xs : Nat → Int32} (F : lwF p s m c G b L xs) (A : Nat → Nat) (TA : Nat → Nat → Nat) (B : Nat → Nat) (S : cS) (o : Nat) (th : Int) (H : Heap) (locs : List Loc) (cells slots : Nat) (hLI : LI G A TA B o S th H) (hS : va_S (gA G) s.heap H locs) (t : Nat) (htL : 5 * t + 5 ≤ L) (y : Int) (hy : y = (5 * t : Nat)) (ls : Array Slot) (hl : lv_has ls 7 [(4, .int (zI y)), (0, .ref b), (1, .ref (A 0)), (2, .ref (B 0)), (3, .ref o)]) (hcl : cells + 12 ≤ 601024) (hsl : slots + 900 ≤ 7293034) (Q : State → Prop) (kk : lwK l G p e s m below meth c b A B o y cells slots Q) (z1 : Int) (z2 : Int) (i : Nat) (hz1 : z1 = i) (hi : i < sn S) (hz2 : rI z2) (hj : ¬ (0 ≤ z2 ∧ z2 < sn S)) (hz1r : rI z1) (hq1 : xs (5 * t + 1) = zI z1) (hq2 : xs (5 * t + 2) = zI z2) : W p l e room_1 s m #[Value.ref b] below meth c H locs cells slots Q (F0 m 1225 ls []) := by
  obtain ⟨hx, hb, hml, hts, hown, hX, hscr, hbl, hgb, hL25⟩ := F
  obtain ⟨hI, ⟨W9, hC⟩, ⟨ct, hM⟩, ho0, go, d1, d2, d3⟩ := id hLI
  have hbA : ¬ gA G b := fun z => by have z : gB G ≤ b := z; omega
  have hI2 : sInv S := hI
  refine lv_aload_n hx hb dL_law_1225 rfl (lv_at hl 2 rfl) ?_
  refine lv_aload_n hx hb dL_law_1226 rfl (lv_at hl 1 rfl) ?_
  refine lv_iload hx hb dL_law_1227 (lv_at hl 0 rfl) ?_
  refine lv_iconst (v := zI 1) hx hb dL_law_1229 rfl ?_
  refine gz_iadd hx hb dL_law_1230 ?_
  refine gz_sld hx hb hscr hbl hbA hS (5 * t + 1) (by omega) (by omega) (by omega) dL_law_1231 ?_
  rw [hq1]
  refine lv_aload_n hx hb dL_law_1232 rfl (lv_at hl 1 rfl) ?_
  refine lv_iload hx hb dL_law_1233 (lv_at hl 0 rfl) ?_
  refine lv_iconst (v := zI 2) hx hb dL_law_1235 rfl ?_
  refine gz_iadd hx hb dL_law_1236 ?_
  refine gz_sld hx hb hscr hbl hbA hS (5 * t + 2) (by omega) (by omega) (by omega) dL_law_1237 ?_
  rw [hq2]
  refine lv_aload_n hx hb dL_law_1238 rfl (lv_at hl 4 rfl) ?_
  refine g_goi (vx_runSX (As := [.ref (A 0), .int (zI z1), .int (zI z2), .ref o]) (rest := []) ⟨hx, hb, hml, hown, hts⟩ (w_cut_e1 l G hlf A TA S W9 H hC hI z1 z2 hz1r hz2 (fun q => hj q.2) o ho0 go d2) (vx_cwSW 4 hts gL_law_L_cut rfl rfl rfl hd_L_cut.2 ⟨(Nat.le_of_ble_eq_true rfl), (Nat.le_of_ble_eq_true rfl)⟩) (g_pre hX hS) rfl rfl hl.1 rfl (lv_room (Nat.le_of_ble_eq_true rfl)) dL_law_1239 (⟨by show _ ≤ 601024; omega, by show _ ≤ 7293034; omega⟩)) hS (fun r_1239 H_1239 locs hp hS => ?_)
  obtain ⟨rfl, hLX, hLU⟩ := hp
  have hM1 := LI.mid hM hLX d1 d3
  refine lv_istore (lv' := [(5, .int (zI 1)), (4, .int (zI y)), (0, .ref b), (1, .ref (A 0)), (2, .ref (B 0)), (3, .ref o)]) hx hb dL_law_1242 hl (by decide) rfl (fun ls hl => ?_)
  refine lv_aload_n hx hb dL_law_1244 rfl (lv_at hl 4 rfl) ?_
  refine lv_aload_n hx hb dL_law_1245 rfl (lv_at hl 2 rfl) ?_
  refine lv_iload hx hb dL_law_1246 (lv_at hl 1 rfl) ?_
  refine lv_iconst (v := zI 1) hx hb dL_law_1248 rfl ?_
  refine gz_iadd hx hb dL_law_1249 ?_
  refine gz_sld hx hb hscr hbl hbA hS (5 * t + 1) (by omega) (by omega) (by omega) dL_law_1250 ?_
  rw [hq1]
  refine lv_aload_n hx hb dL_law_1251 rfl (lv_at hl 2 rfl) ?_
  refine lv_iload hx hb dL_law_1252 (lv_at hl 1 rfl) ?_
  refine lv_iconst (v := zI 2) hx hb dL_law_1254 rfl ?_
  refine gz_iadd hx hb dL_law_1255 ?_
  refine gz_sld hx hb hscr hbl hbA hS (5 * t + 2) (by omega) (by omega) (by omega) dL_law_1256 ?_
  rw [hq2]
  refine g_goi (vx_runV (As := [.int (zI z1), .int (zI z2)]) (rest := []) ⟨hx, hb, hml, hown, hts⟩ (m_cut_e1b l G B S th ct H_1239 hM1 hI z1 z2 i hz1 hi hz2 hj) (cwV 2 hts gL_law_X5_cut rfl rfl rfl hd_X5_cut ⟨(Nat.le_of_ble_eq_true rfl), (Nat.le_of_ble_eq_true rfl)⟩) (g_preV hX hS (ci := 5) rfl hM1.1) rfl rfl hl.1 rfl (lv_room (Nat.le_of_ble_eq_true rfl)) dL_law_1257 (⟨by show _ ≤ 601024; omega, by show _ ≤ 7293034; omega⟩)) hS (fun r_1257 H_1257 locs hp hS => ?_)
  obtain ⟨rfl, hMP⟩ := hp
  have hLI2 := LI.fin hI2 hLI hLX hLU hMP
  obtain ⟨⟨ct2, hM2⟩, hKP2⟩ := id hMP
  refine lv_istore (lv' := [(6, .int (zI 0)), (5, .int (zI 1)), (4, .int (zI y)), (0, .ref b), (1, .ref (A 0)), (2, .ref (B 0)), (3, .ref o)]) hx hb dL_law_1260 hl (by decide) rfl (fun ls hl => ?_)
  refine lv_aload_n hx hb dL_law_1262 rfl (lv_at hl 5 rfl) ?_
  refine g_goi (vx_runV (As := []) (rest := []) ⟨hx, hb, hml, hown, hts⟩ (m_thrown l G B S 1 ct2 H_1257 hM2) (cwV 0 hts gL_law_X5_thrown rfl rfl rfl hd_X5_thrown ⟨(Nat.le_of_ble_eq_true rfl), (Nat.le_of_ble_eq_true rfl)⟩) (g_preV hX hS (ci := 5) rfl hM2.1) rfl rfl hl.1 rfl (lv_room (Nat.le_of_ble_eq_true rfl)) dL_law_1263 (⟨by show _ ≤ 601024; omega, by show _ ≤ 7293034; omega⟩)) hS (fun r_1263 H_1263 locs hp hS => ?_)
  obtain ⟨rfl, rfl⟩ := hp
  refine lv_iload hx hb dL_law_1266 (lv_at hl 1 rfl) ?_
  refine gz_icmp_eq (tgt := 1273) hx hb (by decide) (by decide) dL_law_1268 (by decide) (fun c_1268 => ?_) (fun c_1268 => ?_)
  · refine lv_iload hx hb dL_law_1273 (lv_at hl 1 rfl) ?_
    refine gz_if_ne (tgt := 1290) hx hb (by decide) dL_law_1275 (by decide) (fun c_1275 => ?_) (fun c_1275 => ?_)
    · refine lv_goto (tgt := 1362) hx hb dL_law_1290 (by decide) ?_
      refine W.widen (k := cells + 12) (n := slots + 900) (by omega) (by omega) ?_
      exact kk TA S 1 H_1257 locs ls hLI2 hS (lv_sub hl [2, 3, 4, 5, 6] rfl)
    · omega
  · omega
set_option maxHeartbeats 4000000 in
set_option maxRecDepth 100000 in
theorem s_cut_e2 (l : Launch) (hlf : l.stackTraces = false) (G : gG) {p : Program} {e : Env} {s : State} {m : MethodId} {below : List Frame} {meth : Method} {c : Code} {b L : Nat} {xs : Nat → Int32} (F : lwF p s m c G b L xs) (A : Nat → Nat) (TA : Nat → Nat → Nat) (B : Nat → Nat) (S : cS) (o : Nat) (th : Int) (H : Heap) (locs : List Loc) (cells slots : Nat) (hLI : LI G A TA B o S th H) (hS : va_S (gA G) s.heap H locs) (t : Nat) (htL : 5 * t + 5 ≤ L) (y : Int) (hy : y = (5 * t : Nat)) (ls : Array Slot) (hl : lv_has ls 7 [(4, .int (zI y)), (0, .ref b), (1, .ref (A 0)), (2, .ref (B 0)), (3, .ref o)]) (hcl : cells + 12 ≤ 601024) (hsl : slots + 900 ≤ 7293034) (Q : State → Prop) (kk : lwK l G p e s m below meth c b A B o y cells slots Q) (z1 : Int) (z2 : Int) (i : Nat) (j : Nat) (hz1 : z1 = i) (hi : i < sn S) (hz2 : z2 = j) (hj : j < sn S) (htb : (slk S i).testBit j = false) (hq1 : xs (5 * t + 1) = zI z1) (hq2 : xs (5 * t + 2) = zI z2) : W p l e room_1 s m #[Value.ref b] below meth c H locs cells slots Q (F0 m 1225 ls []) := by
  obtain ⟨hx, hb, hml, hts, hown, hX, hscr, hbl, hgb, hL25⟩ := F
  obtain ⟨hI, ⟨W9, hC⟩, ⟨ct, hM⟩, ho0, go, d1, d2, d3⟩ := id hLI
  have hbA : ¬ gA G b := fun z => by have z : gB G ≤ b := z; omega
  have hI2 : sInv S := hI
  refine lv_aload_n hx hb dL_law_1225 rfl (lv_at hl 2 rfl) ?_
  refine lv_aload_n hx hb dL_law_1226 rfl (lv_at hl 1 rfl) ?_
  refine lv_iload hx hb dL_law_1227 (lv_at hl 0 rfl) ?_
  refine lv_iconst (v := zI 1) hx hb dL_law_1229 rfl ?_
  refine gz_iadd hx hb dL_law_1230 ?_
  refine gz_sld hx hb hscr hbl hbA hS (5 * t + 1) (by omega) (by omega) (by omega) dL_law_1231 ?_
  rw [hq1]
  refine lv_aload_n hx hb dL_law_1232 rfl (lv_at hl 1 rfl) ?_
  refine lv_iload hx hb dL_law_1233 (lv_at hl 0 rfl) ?_
  refine lv_iconst (v := zI 2) hx hb dL_law_1235 rfl ?_
  refine gz_iadd hx hb dL_law_1236 ?_
  refine gz_sld hx hb hscr hbl hbA hS (5 * t + 2) (by omega) (by omega) (by omega) dL_law_1237 ?_
  rw [hq2]
  refine lv_aload_n hx hb dL_law_1238 rfl (lv_at hl 4 rfl) ?_
  refine g_goi (vx_runSX (As := [.ref (A 0), .int (zI z1), .int (zI z2), .ref o]) (rest := []) ⟨hx, hb, hml, hown, hts⟩ (w_cut_e2 l G hlf A TA S W9 H hC hI z1 z2 i j hz1 hi hz2 hj htb o ho0 go d2) (vx_cwSW 4 hts gL_law_L_cut rfl rfl rfl hd_L_cut.2 ⟨(Nat.le_of_ble_eq_true rfl), (Nat.le_of_ble_eq_true rfl)⟩) (g_pre hX hS) rfl rfl hl.1 rfl (lv_room (Nat.le_of_ble_eq_true rfl)) dL_law_1239 (⟨by show _ ≤ 601024; omega, by show _ ≤ 7293034; omega⟩)) hS (fun r_1239 H_1239 locs hp hS => ?_)
  obtain ⟨rfl, hLX, hLU⟩ := hp
  have hM1 := LI.mid hM hLX d1 d3
  refine lv_istore (lv' := [(5, .int (zI 2)), (4, .int (zI y)), (0, .ref b), (1, .ref (A 0)), (2, .ref (B 0)), (3, .ref o)]) hx hb dL_law_1242 hl (by decide) rfl (fun ls hl => ?_)
  refine lv_aload_n hx hb dL_law_1244 rfl (lv_at hl 4 rfl) ?_
  refine lv_aload_n hx hb dL_law_1245 rfl (lv_at hl 2 rfl) ?_
  refine lv_iload hx hb dL_law_1246 (lv_at hl 1 rfl) ?_
  refine lv_iconst (v := zI 1) hx hb dL_law_1248 rfl ?_
  refine gz_iadd hx hb dL_law_1249 ?_
  refine gz_sld hx hb hscr hbl hbA hS (5 * t + 1) (by omega) (by omega) (by omega) dL_law_1250 ?_
  rw [hq1]
  refine lv_aload_n hx hb dL_law_1251 rfl (lv_at hl 2 rfl) ?_
  refine lv_iload hx hb dL_law_1252 (lv_at hl 1 rfl) ?_
  refine lv_iconst (v := zI 2) hx hb dL_law_1254 rfl ?_
  refine gz_iadd hx hb dL_law_1255 ?_
  refine gz_sld hx hb hscr hbl hbA hS (5 * t + 2) (by omega) (by omega) (by omega) dL_law_1256 ?_
  rw [hq2]
  refine g_goi (vx_runV (As := [.int (zI z1), .int (zI z2)]) (rest := []) ⟨hx, hb, hml, hown, hts⟩ (m_cut_e2 l G B S th ct H_1239 hM1 hI z1 z2 i j hz1 hi hz2 hj htb) (cwV 2 hts gL_law_X5_cut rfl rfl rfl hd_X5_cut ⟨(Nat.le_of_ble_eq_true rfl), (Nat.le_of_ble_eq_true rfl)⟩) (g_preV hX hS (ci := 5) rfl hM1.1) rfl rfl hl.1 rfl (lv_room (Nat.le_of_ble_eq_true rfl)) dL_law_1257 (⟨by show _ ≤ 601024; omega, by show _ ≤ 7293034; omega⟩)) hS (fun r_1257 H_1257 locs hp hS => ?_)
  obtain ⟨rfl, hMP⟩ := hp
  have hLI2 := LI.fin hI2 hLI hLX hLU hMP
  obtain ⟨⟨ct2, hM2⟩, hKP2⟩ := id hMP
  refine lv_istore (lv' := [(6, .int (zI 0)), (5, .int (zI 2)), (4, .int (zI y)), (0, .ref b), (1, .ref (A 0)), (2, .ref (B 0)), (3, .ref o)]) hx hb dL_law_1260 hl (by decide) rfl (fun ls hl => ?_)
  refine lv_aload_n hx hb dL_law_1262 rfl (lv_at hl 5 rfl) ?_
  refine g_goi (vx_runV (As := []) (rest := []) ⟨hx, hb, hml, hown, hts⟩ (m_thrown l G B S 2 ct2 H_1257 hM2) (cwV 0 hts gL_law_X5_thrown rfl rfl rfl hd_X5_thrown ⟨(Nat.le_of_ble_eq_true rfl), (Nat.le_of_ble_eq_true rfl)⟩) (g_preV hX hS (ci := 5) rfl hM2.1) rfl rfl hl.1 rfl (lv_room (Nat.le_of_ble_eq_true rfl)) dL_law_1263 (⟨by show _ ≤ 601024; omega, by show _ ≤ 7293034; omega⟩)) hS (fun r_1263 H_1263 locs hp hS => ?_)
  obtain ⟨rfl, rfl⟩ := hp
  refine lv_iload hx hb dL_law_1266 (lv_at hl 1 rfl) ?_
  refine gz_icmp_eq (tgt := 1273) hx hb (by decide) (by decide) dL_law_1268 (by decide) (fun c_1268 => ?_) (fun c_1268 => ?_)
  · refine lv_iload hx hb dL_law_1273 (lv_at hl 1 rfl) ?_
    refine gz_if_ne (tgt := 1290) hx hb (by decide) dL_law_1275 (by decide) (fun c_1275 => ?_) (fun c_1275 => ?_)
    · refine lv_goto (tgt := 1362) hx hb dL_law_1290 (by decide) ?_
      refine W.widen (k := cells + 12) (n := slots + 900) (by omega) (by omega) ?_
      exact kk TA S 2 H_1257 locs ls hLI2 hS (lv_sub hl [2, 3, 4, 5, 6] rfl)
    · omega
  · omega
set_option maxHeartbeats 4000000 in
set_option maxRecDepth 100000 in
theorem s_family_ok (l : Launch) (hlf : l.stackTraces = false) (G : gG) {p : Program} {e : Env} {s : State} {m : MethodId} {below : List Frame} {meth : Method} {c : Code} {b L : Nat} {xs : Nat → Int32} (F : lwF p s m c G b L xs) (A : Nat → Nat) (TA : Nat → Nat → Nat) (B : Nat → Nat) (S : cS) (o : Nat) (th : Int) (H : Heap) (locs : List Loc) (cells slots : Nat) (hLI : LI G A TA B o S th H) (hS : va_S (gA G) s.heap H locs) (t : Nat) (htL : 5 * t + 5 ≤ L) (y : Int) (hy : y = (5 * t : Nat)) (ls : Array Slot) (hl : lv_has ls 7 [(4, .int (zI y)), (0, .ref b), (1, .ref (A 0)), (2, .ref (B 0)), (3, .ref o)]) (hcl : cells + 12 ≤ 601024) (hsl : slots + 900 ≤ 7293034) (Q : State → Prop) (kk : lwK l G p e s m below meth c b A B o y cells slots Q) (z : Int) (i : Nat) (hz : z = i) (hi : i < sn S) (hq1 : xs (5 * t + 1) = zI z) : W p l e room_1 s m #[Value.ref b] below meth c H locs cells slots Q (F0 m 1293 ls []) := by
  obtain ⟨hx, hb, hml, hts, hown, hX, hscr, hbl, hgb, hL25⟩ := F
  obtain ⟨hI, ⟨W9, hC⟩, ⟨ct, hM⟩, ho0, go, d1, d2, d3⟩ := id hLI
  have hbA : ¬ gA G b := fun z => by have z : gB G ≤ b := z; omega
  have hI2 : sInv S := hI
  refine lv_aload_n hx hb dL_law_1293 rfl (lv_at hl 2 rfl) ?_
  refine lv_aload_n hx hb dL_law_1294 rfl (lv_at hl 1 rfl) ?_
  refine lv_iload hx hb dL_law_1295 (lv_at hl 0 rfl) ?_
  refine lv_iconst (v := zI 1) hx hb dL_law_1297 rfl ?_
  refine gz_iadd hx hb dL_law_1298 ?_
  refine gz_sld hx hb hscr hbl hbA hS (5 * t + 1) (by omega) (by omega) (by omega) dL_law_1299 ?_
  rw [hq1]
  refine lv_aload_n hx hb dL_law_1300 rfl (lv_at hl 4 rfl) ?_
  refine g_goi (vx_runSX (As := [.ref (A 0), .int (zI z), .ref o]) (rest := []) ⟨hx, hb, hml, hown, hts⟩ (w_family_ok l G A TA S W9 H hC hI z i hz hi o ho0 go d2) (vx_cwSW 3 hts gL_law_L_family rfl rfl rfl hd_L_family.2 ⟨(Nat.le_of_ble_eq_true rfl), (Nat.le_of_ble_eq_true rfl)⟩) (g_pre hX hS) rfl rfl hl.1 rfl (lv_room (Nat.le_of_ble_eq_true rfl)) dL_law_1301 (⟨by show _ ≤ 601024; omega, by show _ ≤ 7293034; omega⟩)) hS (fun r_1301 H_1301 locs hp hS => ?_)
  obtain ⟨rfl, hLX, hLO⟩ := hp
  have hLU := hLO.u
  have hM1 := LI.mid hM hLX d1 d3
  refine lv_istore (lv' := [(5, .int (zI 0)), (4, .int (zI y)), (0, .ref b), (1, .ref (A 0)), (2, .ref (B 0)), (3, .ref o)]) hx hb dL_law_1304 hl (by decide) rfl (fun ls hl => ?_)
  refine lv_aload_n hx hb dL_law_1306 rfl (lv_at hl 4 rfl) ?_
  refine lv_aload_n hx hb dL_law_1307 rfl (lv_at hl 2 rfl) ?_
  refine lv_iload hx hb dL_law_1308 (lv_at hl 1 rfl) ?_
  refine lv_iconst (v := zI 1) hx hb dL_law_1310 rfl ?_
  refine gz_iadd hx hb dL_law_1311 ?_
  refine gz_sld hx hb hscr hbl hbA hS (5 * t + 1) (by omega) (by omega) (by omega) dL_law_1312 ?_
  rw [hq1]
  refine g_goi (vx_runV (As := [.int (zI z)]) (rest := []) ⟨hx, hb, hml, hown, hts⟩ (m_family_ok l G B S th ct H_1301 hM1 hI z i hz hi) (cwV 1 hts gL_law_X5_family rfl rfl rfl hd_X5_family ⟨(Nat.le_of_ble_eq_true rfl), (Nat.le_of_ble_eq_true rfl)⟩) (g_preV hX hS (ci := 5) rfl hM1.1) rfl rfl hl.1 rfl (lv_room (Nat.le_of_ble_eq_true rfl)) dL_law_1313 (⟨by show _ ≤ 601024; omega, by show _ ≤ 7293034; omega⟩)) hS (fun r_1313 H_1313 locs hp hS => ?_)
  obtain ⟨rfl, hMP⟩ := hp
  have hLI2 := LI.fin hI2 hLI hLX hLU hMP
  obtain ⟨⟨ct2, hM2⟩, hKP2⟩ := id hMP
  obtain ⟨fo, ho, hfo⟩ := LO.mp hLO hMP d3
  refine lv_istore (lv' := [(6, .int (zI ((famL (slk S) (sn S) i : Nat) : Int))), (5, .int (zI 0)), (4, .int (zI y)), (0, .ref b), (1, .ref (A 0)), (2, .ref (B 0)), (3, .ref o)]) hx hb dL_law_1316 hl (by decide) rfl (fun ls hl => ?_)
  refine lv_aload_n hx hb dL_law_1318 rfl (lv_at hl 5 rfl) ?_
  refine g_goi (vx_runV (As := []) (rest := []) ⟨hx, hb, hml, hown, hts⟩ (m_thrown l G B S 0 ct2 H_1313 hM2) (cwV 0 hts gL_law_X5_thrown rfl rfl rfl hd_X5_thrown ⟨(Nat.le_of_ble_eq_true rfl), (Nat.le_of_ble_eq_true rfl)⟩) (g_preV hX hS (ci := 5) rfl hM2.1) rfl rfl hl.1 rfl (lv_room (Nat.le_of_ble_eq_true rfl)) dL_law_1319 (⟨by show _ ≤ 601024; omega, by show _ ≤ 7293034; omega⟩)) hS (fun r_1319 H_1319 locs hp hS => ?_)
  obtain ⟨rfl, rfl⟩ := hp
  refine lv_iload hx hb dL_law_1322 (lv_at hl 1 rfl) ?_
  refine gz_icmp_eq (tgt := 1329) hx hb (by decide) (by decide) dL_law_1324 (by decide) (fun c_1324 => ?_) (fun c_1324 => ?_)
  · refine lv_iload hx hb dL_law_1329 (lv_at hl 1 rfl) ?_
    refine gz_if_ne (tgt := 1346) hx hb (by decide) dL_law_1331 (by decide) (fun c_1331 => ?_) (fun c_1331 => ?_)
    · omega
    · refine lv_aload_n hx hb dL_law_1334 rfl (lv_at hl 6 rfl) ?_
      refine lv_iconst (v := zI 0) hx hb dL_law_1335 rfl ?_
      refine gz_lald hx hb hX ho 0 (by omega) (by omega) (by omega) dL_law_1336 ?_
      rw [hfo]
      refine lv_iload hx hb dL_law_1337 (lv_at hl 0 rfl) ?_
      refine lv_i2l hx hb dL_law_1339 rfl ?_
      refine W.lcmp hx hb dL_law_1340 ?_
      rw [lgc0]
      refine gz_if_eq (tgt := 1346) hx hb (by decide) dL_law_1341 (by decide) (fun c_1341 => ?_) (fun c_1341 => ?_)
      · refine lv_goto (tgt := 1362) hx hb dL_law_1346 (by decide) ?_
        refine W.widen (k := cells + 12) (n := slots + 900) (by omega) (by omega) ?_
        exact kk TA S 0 H_1313 locs ls hLI2 hS (lv_sub hl [2, 3, 4, 5, 6] rfl)
      · omega
  · omega
set_option maxHeartbeats 4000000 in
set_option maxRecDepth 100000 in
theorem s_family_e1 (l : Launch) (hlf : l.stackTraces = false) (G : gG) {p : Program} {e : Env} {s : State} {m : MethodId} {below : List Frame} {meth : Method} {c : Code} {b L : Nat} {xs : Nat → Int32} (F : lwF p s m c G b L xs) (A : Nat → Nat) (TA : Nat → Nat → Nat) (B : Nat → Nat) (S : cS) (o : Nat) (th : Int) (H : Heap) (locs : List Loc) (cells slots : Nat) (hLI : LI G A TA B o S th H) (hS : va_S (gA G) s.heap H locs) (t : Nat) (htL : 5 * t + 5 ≤ L) (y : Int) (hy : y = (5 * t : Nat)) (ls : Array Slot) (hl : lv_has ls 7 [(4, .int (zI y)), (0, .ref b), (1, .ref (A 0)), (2, .ref (B 0)), (3, .ref o)]) (hcl : cells + 12 ≤ 601024) (hsl : slots + 900 ≤ 7293034) (Q : State → Prop) (kk : lwK l G p e s m below meth c b A B o y cells slots Q) (z : Int) (hz : rI z) (hi : ¬ (0 ≤ z ∧ z < sn S)) (hq1 : xs (5 * t + 1) = zI z) : W p l e room_1 s m #[Value.ref b] below meth c H locs cells slots Q (F0 m 1293 ls []) := by
  obtain ⟨hx, hb, hml, hts, hown, hX, hscr, hbl, hgb, hL25⟩ := F
  obtain ⟨hI, ⟨W9, hC⟩, ⟨ct, hM⟩, ho0, go, d1, d2, d3⟩ := id hLI
  have hbA : ¬ gA G b := fun z => by have z : gB G ≤ b := z; omega
  have hI2 : sInv S := hI
  refine lv_aload_n hx hb dL_law_1293 rfl (lv_at hl 2 rfl) ?_
  refine lv_aload_n hx hb dL_law_1294 rfl (lv_at hl 1 rfl) ?_
  refine lv_iload hx hb dL_law_1295 (lv_at hl 0 rfl) ?_
  refine lv_iconst (v := zI 1) hx hb dL_law_1297 rfl ?_
  refine gz_iadd hx hb dL_law_1298 ?_
  refine gz_sld hx hb hscr hbl hbA hS (5 * t + 1) (by omega) (by omega) (by omega) dL_law_1299 ?_
  rw [hq1]
  refine lv_aload_n hx hb dL_law_1300 rfl (lv_at hl 4 rfl) ?_
  refine g_goi (vx_runSX (As := [.ref (A 0), .int (zI z), .ref o]) (rest := []) ⟨hx, hb, hml, hown, hts⟩ (w_family_e1 l G hlf A TA S W9 H hC hI z hz hi o ho0 go d2) (vx_cwSW 3 hts gL_law_L_family rfl rfl rfl hd_L_family.2 ⟨(Nat.le_of_ble_eq_true rfl), (Nat.le_of_ble_eq_true rfl)⟩) (g_pre hX hS) rfl rfl hl.1 rfl (lv_room (Nat.le_of_ble_eq_true rfl)) dL_law_1301 (⟨by show _ ≤ 601024; omega, by show _ ≤ 7293034; omega⟩)) hS (fun r_1301 H_1301 locs hp hS => ?_)
  obtain ⟨rfl, hLX, hLU⟩ := hp
  have hM1 := LI.mid hM hLX d1 d3
  refine lv_istore (lv' := [(5, .int (zI 1)), (4, .int (zI y)), (0, .ref b), (1, .ref (A 0)), (2, .ref (B 0)), (3, .ref o)]) hx hb dL_law_1304 hl (by decide) rfl (fun ls hl => ?_)
  refine lv_aload_n hx hb dL_law_1306 rfl (lv_at hl 4 rfl) ?_
  refine lv_aload_n hx hb dL_law_1307 rfl (lv_at hl 2 rfl) ?_
  refine lv_iload hx hb dL_law_1308 (lv_at hl 1 rfl) ?_
  refine lv_iconst (v := zI 1) hx hb dL_law_1310 rfl ?_
  refine gz_iadd hx hb dL_law_1311 ?_
  refine gz_sld hx hb hscr hbl hbA hS (5 * t + 1) (by omega) (by omega) (by omega) dL_law_1312 ?_
  rw [hq1]
  refine g_goi (vx_runV (As := [.int (zI z)]) (rest := []) ⟨hx, hb, hml, hown, hts⟩ (m_family_e1 l G B S th ct H_1301 hM1 hI z hz hi) (cwV 1 hts gL_law_X5_family rfl rfl rfl hd_X5_family ⟨(Nat.le_of_ble_eq_true rfl), (Nat.le_of_ble_eq_true rfl)⟩) (g_preV hX hS (ci := 5) rfl hM1.1) rfl rfl hl.1 rfl (lv_room (Nat.le_of_ble_eq_true rfl)) dL_law_1313 (⟨by show _ ≤ 601024; omega, by show _ ≤ 7293034; omega⟩)) hS (fun r_1313 H_1313 locs hp hS => ?_)
  obtain ⟨rfl, hMP⟩ := hp
  have hLI2 := LI.fin hI2 hLI hLX hLU hMP
  obtain ⟨⟨ct2, hM2⟩, hKP2⟩ := id hMP
  refine lv_istore (lv' := [(6, .int (zI 0)), (5, .int (zI 1)), (4, .int (zI y)), (0, .ref b), (1, .ref (A 0)), (2, .ref (B 0)), (3, .ref o)]) hx hb dL_law_1316 hl (by decide) rfl (fun ls hl => ?_)
  refine lv_aload_n hx hb dL_law_1318 rfl (lv_at hl 5 rfl) ?_
  refine g_goi (vx_runV (As := []) (rest := []) ⟨hx, hb, hml, hown, hts⟩ (m_thrown l G B S 1 ct2 H_1313 hM2) (cwV 0 hts gL_law_X5_thrown rfl rfl rfl hd_X5_thrown ⟨(Nat.le_of_ble_eq_true rfl), (Nat.le_of_ble_eq_true rfl)⟩) (g_preV hX hS (ci := 5) rfl hM2.1) rfl rfl hl.1 rfl (lv_room (Nat.le_of_ble_eq_true rfl)) dL_law_1319 (⟨by show _ ≤ 601024; omega, by show _ ≤ 7293034; omega⟩)) hS (fun r_1319 H_1319 locs hp hS => ?_)
  obtain ⟨rfl, rfl⟩ := hp
  refine lv_iload hx hb dL_law_1322 (lv_at hl 1 rfl) ?_
  refine gz_icmp_eq (tgt := 1329) hx hb (by decide) (by decide) dL_law_1324 (by decide) (fun c_1324 => ?_) (fun c_1324 => ?_)
  · refine lv_iload hx hb dL_law_1329 (lv_at hl 1 rfl) ?_
    refine gz_if_ne (tgt := 1346) hx hb (by decide) dL_law_1331 (by decide) (fun c_1331 => ?_) (fun c_1331 => ?_)
    · refine lv_goto (tgt := 1362) hx hb dL_law_1346 (by decide) ?_
      refine W.widen (k := cells + 12) (n := slots + 900) (by omega) (by omega) ?_
      exact kk TA S 1 H_1313 locs ls hLI2 hS (lv_sub hl [2, 3, 4, 5, 6] rfl)
    · omega
  · omega
set_option maxHeartbeats 4000000 in
set_option maxRecDepth 100000 in
theorem s_families_ok (l : Launch) (hlf : l.stackTraces = false) (G : gG) {p : Program} {e : Env} {s : State} {m : MethodId} {below : List Frame} {meth : Method} {c : Code} {b L : Nat} {xs : Nat → Int32} (F : lwF p s m c G b L xs) (A : Nat → Nat) (TA : Nat → Nat → Nat) (B : Nat → Nat) (S : cS) (o : Nat) (th : Int) (H : Heap) (locs : List Loc) (cells slots : Nat) (hLI : LI G A TA B o S th H) (hS : va_S (gA G) s.heap H locs) (t : Nat) (htL : 5 * t + 5 ≤ L) (y : Int) (hy : y = (5 * t : Nat)) (ls : Array Slot) (hl : lv_has ls 7 [(4, .int (zI y)), (0, .ref b), (1, .ref (A 0)), (2, .ref (B 0)), (3, .ref o)]) (hcl : cells + 12 ≤ 601024) (hsl : slots + 900 ≤ 7293034) (Q : State → Prop) (kk : lwK l G p e s m below meth c b A B o y cells slots Q)  : W p l e room_1 s m #[Value.ref b] below meth c H locs cells slots Q (F0 m 1349 ls []) := by
  obtain ⟨hx, hb, hml, hts, hown, hX, hscr, hbl, hgb, hL25⟩ := F
  obtain ⟨hI, ⟨W9, hC⟩, ⟨ct, hM⟩, ho0, go, d1, d2, d3⟩ := id hLI
  have hbA : ¬ gA G b := fun z => by have z : gB G ≤ b := z; omega
  have hI2 : sInv S := hI
  refine lv_aload_n hx hb dL_law_1349 rfl (lv_at hl 2 rfl) ?_
  refine g_goi (vx_runV (As := []) (rest := []) ⟨hx, hb, hml, hown, hts⟩ (x_families l G A TA S W9 H hC hI ) (cwV 0 hts gL_law_X4_families rfl rfl rfl hd_X4_families ⟨(Nat.le_of_ble_eq_true rfl), (Nat.le_of_ble_eq_true rfl)⟩) (g_preV hX hS (ci := 4) rfl hC.1) rfl rfl hl.1 rfl (lv_room (Nat.le_of_ble_eq_true rfl)) dL_law_1350 (⟨by show _ ≤ 601024; omega, by show _ ≤ 7293034; omega⟩)) hS (fun r_1350 H_1350 locs hp hS => ?_)
  obtain ⟨rfl, rfl⟩ := hp
  have hLX := LX.same o hC
  have hLU := ho0
  have hM1 := LI.mid hM hLX d1 d3
  refine W.eq (g2 := F0 m 1353 ls [.int (zI ((famC (slk S) (sn S) (sn S) : Nat) : Int))]) rfl ?_
  refine lv_aload_n hx hb dL_law_1353 rfl (lv_at hl 3 rfl) ?_
  refine g_goi (vx_runV (As := []) (rest := [.int (zI ((famC (slk S) (sn S) (sn S) : Nat) : Int))]) ⟨hx, hb, hml, hown, hts⟩ (m_families l G B S th ct H hM1 hI ) (cwV 0 hts gL_law_X5_families rfl rfl rfl hd_X5_families ⟨(Nat.le_of_ble_eq_true rfl), (Nat.le_of_ble_eq_true rfl)⟩) (g_preV hX hS (ci := 5) rfl hM1.1) rfl rfl hl.1 rfl (lv_room (Nat.le_of_ble_eq_true rfl)) dL_law_1354 (⟨by show _ ≤ 601024; omega, by show _ ≤ 7293034; omega⟩)) hS (fun r_1354 H_1354 locs hp hS => ?_)
  obtain ⟨rfl, hMP⟩ := hp
  have hLI2 := LI.fin hI2 hLI hLX hLU hMP
  obtain ⟨⟨ct2, hM2⟩, hKP2⟩ := id hMP
  refine lv_icmp_eq (tgt := 1362) hx hb dL_law_1357 (by decide) (fun c_1357 => ?_) (fun c_1357 => ?_)
  · refine W.widen (k := cells + 12) (n := slots + 900) (by omega) (by omega) ?_
    exact kk TA S 0 H_1354 locs ls hLI2 hS (lv_sub hl [0, 1, 2, 3, 4] rfl)
  · exact (c_1357 rfl).elim
