/-! ===== the state that the class and its reference share, and how a heap holds it ===== -/
/-- entered; notes of each tune; pitches; lengths; retired; hummed; the hum; slip; ornament; repeat; links (a mask of each tune's partners) -/
abbrev cS : Type := Nat × (Nat → Nat) × (Nat → Nat → Int) × (Nat → Nat → Int) × (Nat → Bool) × Nat × (Nat → Int) × Int × Int × Int × (Nat → Nat)
abbrev sn (S : cS) : Nat := S.1
abbrev stn (S : cS) : Nat → Nat := S.2.1
abbrev stp (S : cS) : Nat → Nat → Int := S.2.2.1
abbrev stl (S : cS) : Nat → Nat → Int := S.2.2.2.1
abbrev srt (S : cS) : Nat → Bool := S.2.2.2.2.1
abbrev shn (S : cS) : Nat := S.2.2.2.2.2.1
abbrev shf (S : cS) : Nat → Int := S.2.2.2.2.2.2.1
abbrev ssl (S : cS) : Int := S.2.2.2.2.2.2.2.1
abbrev sor (S : cS) : Int := S.2.2.2.2.2.2.2.2.1
abbrev srp (S : cS) : Int := S.2.2.2.2.2.2.2.2.2.1
abbrev slk (S : cS) : Nat → Nat := S.2.2.2.2.2.2.2.2.2.2
abbrev zB (b : Bool) : Int := if b then 1 else 0
def up2 (F : Nat → Nat → Int) (i k : Nat) (x : Int) : Nat → Nat → Int := fun a b => if a = i ∧ b = k then x else F a b
theorem up2_at (F : Nat → Nat → Int) (i k : Nat) (x : Int) : up2 F i k x i = va_up (F i) k x := by
  funext b; simp [up2, va_up]
theorem up2_ne (F : Nat → Nat → Int) {i a : Nat} (k : Nat) (x : Int) (h : a ≠ i) : up2 F i k x a = F a := by
  funext b; simp [up2, h]
theorem zup (F : Nat → Int) (k : Nat) (x : Int) : upd (fun j => zI (F j)) k (zI x) = fun j => zI (va_up F k x j) := by
  funext j; unfold upd va_up; split <;> rfl
theorem zupN (F : Nat → Nat) (k x : Nat) : upd (fun j => zI ((F j : Nat) : Int)) k (zI (x : Int)) = fun j => zI ((va_up F k x j : Nat) : Int) := by
  funext j; unfold upd va_up; split <;> rfl
theorem zup2 (F : Nat → Nat → Int) (i k : Nat) (x : Int) (hk : k < 24) : upd (fun j => zI (F (j / 24) (j % 24))) (24 * i + k) (zI x) = fun j => zI (up2 F i k x (j / 24) (j % 24)) := by
  funext j; unfold upd up2
  by_cases h : j = 24 * i + k
  · rw [if_pos h, if_pos (by omega)]
  · rw [if_neg h, if_neg (by omega)]
/-- what holds of every state that is reached -/
def sInv (S : cS) : Prop :=
  sn S ≤ 16 ∧ (∀ i, i < sn S → 1 ≤ stn S i ∧ stn S i ≤ 24) ∧ (∀ i, sn S ≤ i → stn S i = 0 ∧ srt S i = false ∧ slk S i = 0 ∧ stp S i = (fun _ => 0) ∧ stl S i = (fun _ => 0)) ∧
  (∀ i k, 0 ≤ stp S i k ∧ stp S i k ≤ 60) ∧ (∀ i k, 0 ≤ stl S i k ∧ stl S i k ≤ 8) ∧ shn S ≤ 12 ∧ (∀ k, 0 ≤ shf S k ∧ shf S k ≤ 60) ∧
  (0 ≤ ssl S ∧ ssl S ≤ 20) ∧ (0 ≤ sor S ∧ sor S ≤ 20) ∧ (0 ≤ srp S ∧ srp S ≤ 20) ∧
  (∀ i j, (slk S i).testBit j = true → i < sn S ∧ j < sn S ∧ i ≠ j) ∧ (∀ i j, (slk S i).testBit j = (slk S j).testBit i)
theorem list5 {a b c d e : Nat} (h1 : a < b) (h2 : b < c) (h3 : c < d) (h4 : d < e) : ∀ i j, i < 5 → j < 5 → i ≠ j → [a, b, c, d, e].getD i 0 ≠ [a, b, c, d, e].getD j 0 := by
  intro i j hi hj hn
  rcases (show i = 0 ∨ i = 1 ∨ i = 2 ∨ i = 3 ∨ i = 4 by omega) with rfl | rfl | rfl | rfl | rfl <;> rcases (show j = 0 ∨ j = 1 ∨ j = 2 ∨ j = 3 ∨ j = 4 by omega) with rfl | rfl | rfl | rfl | rfl <;> simp <;> omega
/-- a tune at its five cells: t 0 itself, t 1, t 2 the pitches, t 3, t 4 the lengths -/
def Tun (G : gG) (t : Nat → Nat) (n : Nat) (f g : Nat → Int) (r : Bool) (H : Heap) : Prop :=
  gat G (t 0) (.inr (3, [.ref (t 1), .ref (t 3), .int (zI (zB r))])) H ∧ gRow G (t 1) (t 2) 24 n (fun k => zI (f k)) H ∧ gRow G (t 3) (t 4) 24 n (fun k => zI (g k)) H ∧ gB G ≤ t 0 ∧ ∀ i j, i < 5 → j < 5 → i ≠ j → t i ≠ t j
theorem Tun.ext {G : gG} {t : Nat → Nat} {n : Nat} {f g : Nat → Int} {r : Bool} {H H1 : Heap} (h : Tun G t n f g r H) (x : gExt H H1) : Tun G t n f g r H1 := ⟨h.1.ext x, h.2.1.ext x, h.2.2.1.ext x, h.2.2.2⟩
theorem Tun.grow {G : gG} {t : Nat → Nat} {n : Nat} {f g : Nat → Int} {r : Bool} {L : List Nat} {H H1 : Heap} (h : Tun G t n f g r H) (x : gGrow L H H1) (n1 : ∀ j, j < 5 → t j ∉ L) : Tun G t n f g r H1 :=
  ⟨h.1.grow x (n1 0 (by omega)), h.2.1.grow x (n1 1 (by omega)) (n1 2 (by omega)), h.2.2.1.grow x (n1 3 (by omega)) (n1 4 (by omega)), h.2.2.2⟩
set_option maxHeartbeats 4000000 in
set_option maxRecDepth 100000 in
theorem k_Tune_size (l : Launch) (G : gG) (t : Nat → Nat) (n : Nat) (f g : Nat → Int) (r : Bool) (H : Heap) (hT : Tun G t n f g r H) : gM l yX3_size wsX3_size rm_X3_size [.ref (t 0)] G H (gi (fun r1 H1 => zI n = r1 ∧ H = H1)) (gNo) 0 0 := by
  obtain ⟨ht, hp1, hl1, gt, hd⟩ := id hT
  refine g_start (cc := cX3_size) (maxL := 1) (ret := (some .int)) (by decide +kernel) rfl (Nat.le_of_ble_eq_true rfl) ?_
  intro p e s m args below meth c F ls hl
  obtain ⟨hx, hb, hml, hr, hts, hown, hlocks, hxt, hH, hX, hin⟩ := F
  have hown : s.vm.findClass RX3 = some m.cls := hown
  have hS : va_S (gA G) s.heap H [] := by rw [hH]; exact va_S.rf
  have hl : lv_has ls 1 [(0, .ref (t 0))] := hl
  refine lv_aload_n hx hb dX3_size_0 rfl (lv_at hl 0 rfl) ?_
  refine g_get hx hb hX hts (fun w h => (List.mem_cons_of_mem _ (List.mem_append_left _ (List.mem_append_right _ h)))) hown ht rfl 0 (by decide) (hts (.fieldLink RX3 14 "TuneCatalogue$Tune" "pitches" "LTuneCatalogue$Row;") (List.mem_cons_of_mem _ (List.mem_append_left _ (List.mem_append_left _ (List.mem_of_getElem? (i := 0) rfl))))) rfl dX3_size_1 ?_
  refine g_goi (vx_runV (As := []) (rest := []) ⟨hx, hb, hml, hown, hts⟩ (k_size l G (t 1) (t 2) 24 n _ H hp1) (cwV 0 hts gX3_size_X2_size rfl rfl rfl hd_X2_size ⟨(Nat.le_of_ble_eq_true rfl), (Nat.le_of_ble_eq_true rfl)⟩) (g_preV hX hS (ci := 2) rfl hp1.1) rfl rfl hl.1 rfl (lv_room (Nat.le_of_ble_eq_true rfl)) dX3_size_4 ⟨(Nat.le_of_ble_eq_true rfl), (Nat.le_of_ble_eq_true rfl)⟩) hS (fun r_4 H_4 locs hp hS => ?_)
  obtain ⟨rfl, rfl⟩ := hp
  exact g_reti hx hb hr hlocks hS rfl (⟨rfl, rfl⟩) (Nat.le_of_ble_eq_true rfl) (Nat.le_of_ble_eq_true rfl) dX3_size_7
set_option maxHeartbeats 4000000 in
set_option maxRecDepth 100000 in
theorem k_Tune_append (l : Launch) (G : gG) (t : Nat → Nat) (n : Nat) (f g : Nat → Int) (r : Bool) (H : Heap) (hT : Tun G t n f g r H) (x y : Int) (hk : n < 24) : gM l yX3_append wsX3_append rm_X3_append [.ref (t 0), .int (zI x), .int (zI y)] G H (gv (fun H1 => Tun G t (n + 1) (va_up f n x) (va_up g n y) r H1 ∧ gOnly [t 1, t 2, t 3, t 4] H H1)) (gNo) 0 0 := by
  obtain ⟨ht, hp1, hl1, gt, hd⟩ := id hT
  have n10 : t 0 ≠ t 1 := hd 0 1 (by omega) (by omega) (by omega)
  have n20 : t 0 ≠ t 2 := hd 0 2 (by omega) (by omega) (by omega)
  have n31 : t 3 ≠ t 1 := hd 3 1 (by omega) (by omega) (by omega)
  have n32 : t 3 ≠ t 2 := hd 3 2 (by omega) (by omega) (by omega)
  have n41 : t 4 ≠ t 1 := hd 4 1 (by omega) (by omega) (by omega)
  have n42 : t 4 ≠ t 2 := hd 4 2 (by omega) (by omega) (by omega)
  have n30 : t 0 ≠ t 3 := hd 0 3 (by omega) (by omega) (by omega)
  have n40 : t 0 ≠ t 4 := hd 0 4 (by omega) (by omega) (by omega)
  refine g_start (cc := cX3_append) (maxL := 3) (ret := none) (by decide +kernel) rfl (Nat.le_of_ble_eq_true rfl) ?_
  intro p e s m args below meth c F ls hl
  obtain ⟨hx, hb, hml, hr, hts, hown, hlocks, hxt, hH, hX, hin⟩ := F
  have hown : s.vm.findClass RX3 = some m.cls := hown
  have hS : va_S (gA G) s.heap H [] := by rw [hH]; exact va_S.rf
  have hl : lv_has ls 3 [(0, .ref (t 0)), (1, .int (zI x)), (2, .int (zI y))] := hl
  refine lv_aload_n hx hb dX3_append_0 rfl (lv_at hl 0 rfl) ?_
  refine g_get hx hb hX hts (fun w h => (List.mem_cons_of_mem _ (List.mem_append_left _ (List.mem_append_right _ h)))) hown ht rfl 0 (by decide) (hts (.fieldLink RX3 14 "TuneCatalogue$Tune" "pitches" "LTuneCatalogue$Row;") (List.mem_cons_of_mem _ (List.mem_append_left _ (List.mem_append_left _ (List.mem_of_getElem? (i := 0) rfl))))) rfl dX3_append_1 ?_
  refine lv_iload_n hx hb dX3_append_4 rfl (lv_at hl 1 rfl) ?_
  refine g_gov (vx_runV (As := [.int (zI x)]) (rest := []) ⟨hx, hb, hml, hown, hts⟩ (k_append l G (t 1) (t 2) 24 n _ H hp1 (zI x) hk) (cwV 1 hts gX3_append_X2_append rfl rfl rfl hd_X2_append ⟨(Nat.le_of_ble_eq_true rfl), (Nat.le_of_ble_eq_true rfl)⟩) (g_preV hX hS (ci := 2) rfl hp1.1) rfl rfl hl.1 rfl (lv_room (Nat.le_of_ble_eq_true rfl)) dX3_append_5 ⟨(Nat.le_of_ble_eq_true rfl), (Nat.le_of_ble_eq_true rfl)⟩) hS (fun H_5 locs hp hS => ?_)
  obtain ⟨hp2, hO1⟩ := hp
  have ht := ht.only hO1 (nm2 n10 n20)
  have hl2 := hl1.only hO1 (nm2 n31 n32) (nm2 n41 n42)
  refine lv_aload_n hx hb dX3_append_8 rfl (lv_at hl 0 rfl) ?_
  refine g_get hx hb hX hts (fun w h => (List.mem_cons_of_mem _ (List.mem_append_left _ (List.mem_append_right _ h)))) hown ht rfl 1 (by decide) (hts (.fieldLink RX3 20 "TuneCatalogue$Tune" "lengths" "LTuneCatalogue$Row;") (List.mem_cons_of_mem _ (List.mem_append_left _ (List.mem_append_left _ (List.mem_of_getElem? (i := 1) rfl))))) rfl dX3_append_9 ?_
  refine lv_iload_n hx hb dX3_append_12 rfl (lv_at hl 2 rfl) ?_
  refine g_gov (vx_runV (As := [.int (zI y)]) (rest := []) ⟨hx, hb, hml, hown, hts⟩ (k_append l G (t 3) (t 4) 24 n _ H_5 hl2 (zI y) hk) (cwV 1 hts gX3_append_X2_append rfl rfl rfl hd_X2_append ⟨(Nat.le_of_ble_eq_true rfl), (Nat.le_of_ble_eq_true rfl)⟩) (g_preV hX hS (ci := 2) rfl hl2.1) rfl rfl hl.1 rfl (lv_room (Nat.le_of_ble_eq_true rfl)) dX3_append_13 ⟨(Nat.le_of_ble_eq_true rfl), (Nat.le_of_ble_eq_true rfl)⟩) hS (fun H_13 locs hp hS => ?_)
  obtain ⟨hl3, hO2⟩ := hp
  have ht := ht.only hO2 (nm2 n30 n40)
  have hp3 := hp2.only hO2 (nm2 n31.symm n41.symm) (nm2 n32.symm n42.symm)
  rw [zup] at hp3 hl3
  exact g_retv hx hb hr hlocks hS (⟨⟨ht, hp3, hl3, gt, hd⟩, hO1.trans hO2 (by intro q h; simp only [List.mem_cons, List.not_mem_nil, or_false] at h ⊢; omega) (by intro q h; simp only [List.mem_cons, List.not_mem_nil, or_false] at h ⊢; omega)⟩) (Nat.le_of_ble_eq_true rfl) (Nat.le_of_ble_eq_true rfl) dX3_append_16
set_option maxHeartbeats 4000000 in
set_option maxRecDepth 100000 in
theorem k_Tune_init (l : Launch) (G : gG) (a : Nat) (H : Heap) (ho : gat G a (.inr (3, [.null, .null, .int (zI 0)])) H) (ga : gB G ≤ a) : gM l yX3_init wsX3_init rm_X3_init [.ref a] G H (gv (fun H1 => ∃ t : Nat → Nat, t 0 = a ∧ Tun G t 0 (fun _ => 0) (fun _ => 0) false H1 ∧ gGrow [a] H H1 ∧ (∀ j, 1 ≤ j → j < 5 → H.size ≤ t j))) (gNo) 4 772 := by
  have ha_lt : a < H.size := va_at.lt ho
  refine g_start (cc := cX3_init) (maxL := 1) (ret := none) (by decide +kernel) rfl (Nat.le_of_ble_eq_true rfl) ?_
  intro p e s m args below meth c F ls hl
  obtain ⟨hx, hb, hml, hr, hts, hown, hlocks, hxt, hH, hX, hin⟩ := F
  have hown : s.vm.findClass RX3 = some m.cls := hown
  have hS : va_S (gA G) s.heap H [] := by rw [hH]; exact va_S.rf
  have hl : lv_has ls 1 [(0, .ref a)] := hl
  refine lv_aload_n hx hb dX3_init_0 rfl (lv_at hl 0 rfl) ?_
  refine W.objInit hx hb hown (hts (.methodLink RX3 3 objectInit) (List.mem_cons_of_mem _ (List.mem_append_left _ (List.mem_append_left _ (List.mem_of_getElem? (i := 0) rfl))))) (hts (.instanceMethod objectInit) (List.mem_cons_of_mem _ (List.mem_append_left _ (List.mem_append_left _ (List.mem_of_getElem? (i := 1) rfl))))) (hts _ (List.mem_cons_of_mem _ (List.mem_append_left _ (List.mem_append_left _ (List.mem_of_getElem? (i := 2) rfl))))) rfl (by rw [hml]; exact hl.1) rfl dX3_init_1 (Nat.le_of_ble_eq_true rfl) (Nat.le_of_ble_eq_true rfl) ?_
  refine W.eq (g2 := F0 m 4 ls []) rfl ?_
  refine lv_aload_n hx hb dX3_init_4 rfl (lv_at hl 0 rfl) ?_
  refine g_new hx hb hX hts (fun w h => (List.mem_cons_of_mem _ (List.mem_append_left _ (List.mem_append_right _ h)))) tyX2 tyX2_ok hown (hts (.classLink RX3 9 RX2) (List.mem_cons_of_mem _ (List.mem_append_left _ (List.mem_append_left _ (List.mem_of_getElem? (i := 3) rfl))))) (hts (.instantiable RX2 2) (List.mem_cons_of_mem _ (List.mem_append_left _ (List.mem_append_left _ (List.mem_of_getElem? (i := 4) rfl))))) (hts (.initialized RX2) (List.mem_cons_of_mem _ (List.mem_append_left _ (List.mem_append_left _ (List.mem_of_getElem? (i := 5) rfl))))) hS (ci := 2) rfl (fs := [.null, .int (zI 0)]) (fun j hj => by rcases (show j = 0 ∨ j = 1 by omega) with rfl | rfl <;> rfl) (Nat.le_of_ble_eq_true rfl) (Nat.le_of_ble_eq_true rfl) dX3_init_5 (fun H_5 q_5 eq_5 hq_5 gq_5 zq_5 hE hS => ?_)
  have ho := gat.ext ho hE
  have hE5 := hE
  refine lv_dup hx hb dX3_init_8 rfl ?_
  refine lv_bipush (v := zI 24) hx hb dX3_init_9 (by decide +kernel) ?_
  refine g_gov (vx_runI (As := [.int (zI 24)]) (rest := [.ref q_5, .ref a]) ⟨hx, hb, hml, hown, hts⟩ (k_Row_init l G q_5 24 (24 : Int) H_5 hq_5 gq_5 rfl (by decide)) (cwI 1 hts gX3_init_X2_init rfl rfl rfl (hts (.initialized RX2) (List.mem_cons_of_mem _ (List.mem_append_left _ (List.mem_append_left _ (List.mem_of_getElem? (i := 5) rfl))))) (hts (.methodLink RX3 11 yX2_init) (List.mem_cons_of_mem _ (List.mem_append_left _ (List.mem_append_left _ (List.mem_of_getElem? (i := 8) rfl))))) (hts (.instanceMethod yX2_init) (List.mem_cons_of_mem _ (List.mem_append_left _ (List.mem_append_left _ (List.mem_of_getElem? (i := 9) rfl))))) rfl hd_X2_init.2 ⟨(Nat.le_of_ble_eq_true rfl), (Nat.le_of_ble_eq_true rfl)⟩) (g_pre hX hS) rfl rfl hl.1 rfl (lv_room (Nat.le_of_ble_eq_true rfl)) dX3_init_11 ⟨(Nat.le_of_ble_eq_true rfl), (Nat.le_of_ble_eq_true rfl)⟩) hS (fun H_11 locs hp hS => ?_)
  obtain ⟨b1, hb1, hb1s, hr1, hg1⟩ := hp
  have ho := ho.grow hg1 (nm1 (by omega))
  refine g_putF hx hb hX hts (fun w h => (List.mem_cons_of_mem _ (List.mem_append_right _ h))) tyX3 tyX3_ok nmX3 hown hS ho ga rfl 0 (by decide) (hts (.fieldLink RX3 14 "TuneCatalogue$Tune" "pitches" "LTuneCatalogue$Row;") (List.mem_cons_of_mem _ (List.mem_append_left _ (List.mem_append_left _ (List.mem_of_getElem? (i := 6) rfl))))) rfl hin rfl (ty := tyX3 0) rfl rfl rfl (Nat.le_of_ble_eq_true rfl) dX3_init_14 (fun H_14 locs h_n hO hS => ?_)
  have hr1 := hr1.only hO (nm1 (by omega)) (nm1 (by omega))
  have ho : gat G a (.inr (3, [.ref q_5, .null, .int (zI 0)])) H_14 := h_n
  have hO14 := hO
  refine lv_aload_n hx hb dX3_init_17 rfl (lv_at hl 0 rfl) ?_
  refine g_new hx hb hX hts (fun w h => (List.mem_cons_of_mem _ (List.mem_append_left _ (List.mem_append_right _ h)))) tyX2 tyX2_ok hown (hts (.classLink RX3 9 RX2) (List.mem_cons_of_mem _ (List.mem_append_left _ (List.mem_append_left _ (List.mem_of_getElem? (i := 3) rfl))))) (hts (.instantiable RX2 2) (List.mem_cons_of_mem _ (List.mem_append_left _ (List.mem_append_left _ (List.mem_of_getElem? (i := 4) rfl))))) (hts (.initialized RX2) (List.mem_cons_of_mem _ (List.mem_append_left _ (List.mem_append_left _ (List.mem_of_getElem? (i := 5) rfl))))) hS (ci := 2) rfl (fs := [.null, .int (zI 0)]) (fun j hj => by rcases (show j = 0 ∨ j = 1 by omega) with rfl | rfl <;> rfl) (Nat.le_of_ble_eq_true rfl) (Nat.le_of_ble_eq_true rfl) dX3_init_18 (fun H_18 q_18 eq_18 hq_18 gq_18 zq_18 hE hS => ?_)
  have ho := gat.ext ho hE
  have hr1 := hr1.ext hE
  have hE18 := hE
  have hO14s := hO14.1
  refine lv_dup hx hb dX3_init_21 rfl ?_
  refine lv_bipush (v := zI 24) hx hb dX3_init_22 (by decide +kernel) ?_
  refine g_gov (vx_runI (As := [.int (zI 24)]) (rest := [.ref q_18, .ref a]) ⟨hx, hb, hml, hown, hts⟩ (k_Row_init l G q_18 24 (24 : Int) H_18 hq_18 gq_18 rfl (by decide)) (cwI 1 hts gX3_init_X2_init rfl rfl rfl (hts (.initialized RX2) (List.mem_cons_of_mem _ (List.mem_append_left _ (List.mem_append_left _ (List.mem_of_getElem? (i := 5) rfl))))) (hts (.methodLink RX3 11 yX2_init) (List.mem_cons_of_mem _ (List.mem_append_left _ (List.mem_append_left _ (List.mem_of_getElem? (i := 8) rfl))))) (hts (.instanceMethod yX2_init) (List.mem_cons_of_mem _ (List.mem_append_left _ (List.mem_append_left _ (List.mem_of_getElem? (i := 9) rfl))))) rfl hd_X2_init.2 ⟨(Nat.le_of_ble_eq_true rfl), (Nat.le_of_ble_eq_true rfl)⟩) (g_pre hX hS) rfl rfl hl.1 rfl (lv_room (Nat.le_of_ble_eq_true rfl)) dX3_init_24 ⟨(Nat.le_of_ble_eq_true rfl), (Nat.le_of_ble_eq_true rfl)⟩) hS (fun H_24 locs hp hS => ?_)
  obtain ⟨b2, hb2, hb2s, hr2, hg2⟩ := hp
  have ho := ho.grow hg2 (nm1 (by omega))
  have hr1 := hr1.grow hg2 (nm1 (by omega)) (nm1 (by omega))
  refine g_putF hx hb hX hts (fun w h => (List.mem_cons_of_mem _ (List.mem_append_right _ h))) tyX3 tyX3_ok nmX3 hown hS ho ga rfl 1 (by decide) (hts (.fieldLink RX3 20 "TuneCatalogue$Tune" "lengths" "LTuneCatalogue$Row;") (List.mem_cons_of_mem _ (List.mem_append_left _ (List.mem_append_left _ (List.mem_of_getElem? (i := 7) rfl))))) rfl hin rfl (ty := tyX3 1) rfl rfl rfl (Nat.le_of_ble_eq_true rfl) dX3_init_27 (fun H_27 locs h_n hO hS => ?_)
  have hr1 := hr1.only hO (nm1 (by omega)) (nm1 (by omega))
  have hr2 := hr2.only hO (nm1 (by omega)) (nm1 (by omega))
  have ho : gat G a (.inr (3, [.ref q_5, .ref q_18, .int (zI 0)])) H_27 := h_n
  have hO27 := hO.1
  exact g_retv hx hb hr hlocks hS (⟨fun j => [a, q_5, b1, q_18, b2].getD j 0, rfl, ⟨ho, hr1, hr2, ga, list5 (by omega) (by omega) (by omega) (by omega)⟩, ⟨by omega, fun q h1 h2 => ((hO.2 q h2).trans ((hg2.2 q (by omega) (nm1 (by omega))).trans ((hE18.2 q (by omega)).trans ((hO14.2 q h2).trans ((hg1.2 q (by omega) (nm1 (by omega))).trans (hE5.2 q h1))))))⟩, fun j h1 h5 => by rcases (show j = 1 ∨ j = 2 ∨ j = 3 ∨ j = 4 by omega) with rfl | rfl | rfl | rfl <;> simp <;> omega⟩) (Nat.le_of_ble_eq_true rfl) (Nat.le_of_ble_eq_true rfl) dX3_init_30
