theorem we1 : Cond.classLink RL 8 RX10 ∈ lw_tbl2 := by decide +kernel
theorem we2 : Cond.initialized RX10 ∈ lw_tbl2 := by decide +kernel
theorem we3 : Cond.methodLink RL 115 yX10_init ∈ lw_tbl2 := by decide +kernel
theorem we4 : Cond.instanceMethod yX10_init ∈ lw_tbl2 := by decide +kernel
theorem we5 : Cond.classLink RL 116 RX11 ∈ lw_tbl2 := by decide +kernel
theorem we6 : Cond.initialized RX11 ∈ lw_tbl2 := by decide +kernel
theorem we7 : Cond.methodLink RL 118 yX11_init ∈ lw_tbl2 := by decide +kernel
theorem we8 : Cond.instanceMethod yX11_init ∈ lw_tbl2 := by decide +kernel
set_option maxHeartbeats 4000000 in
set_option maxRecDepth 100000 in
theorem whole_run {p : Program} {e : Env} {s : State} {m : MethodId} {below : List Frame} {meth : Method} {c : Code} (l : Launch) (hflags : l.flags = flags0) {b L : Nat} {xs : Nat → Int32} (hL2 : L ≤ 2048) (C0 : lw_At p s m meth c b L xs) (Inv : Nat → GF → Prop) (hstep : ∀ k F, k < 512 → Inv k F → ∀ op a1 a2 a3, PLs op a1 a2 a3 (Inv (k + 1)) F) (hinit : PZ_X10_init zF (fun F1 => F1 40 0 = zdef 40 ∧ PZ_X11_init F1 (fun F2 => F2 79 0 = zdef 79 ∧ zok F2 ∧ F2 38 0 0 = 0 ∧ Inv 0 F2))) : W p l e room_1 s m #[Value.ref b] below meth c s.heap [] 0 0 (lw_Z below #[Value.ref b] s) (entryFrame m ([Value.ref b] : List Value).toArray 7) := by
  obtain ⟨hx, hb, hr, hml, hown, hts0, hX, hbl, hlocks, hgv0⟩ := C0
  have hts2 := lw_tbl2_ok hts0
  have hts : ∀ w ∈ wsL_law, w.before #[Value.ref b] s = true := fun w hw => hts2 w (law_mem w hw)
  have hgv := flat_of_before preC0 hgv0
  have hfl := stk_false hflags
  obtain ⟨G, hK, hBe⟩ := st_K hts2 s.heap.size
  have hG := st_S hBe hts2 hgv
  have hZ : zS s := st_Z hts2
  have hLn := st_L hgv
  have hB : G.2.2.2 ≤ s.heap.size := Nat.le_of_eq hBe
  have hS : va_S (gA G) s.heap s.heap [] := va_S.rf
  have hl := lv_entry [.ref b] (n := 7) (Nat.le_of_ble_eq_true rfl)
  rw [lg_entry_eq]
  generalize (lg_sl [.ref b] ++ List.replicate (7 - (lg_sl [.ref b]).length) Slot.unset).toArray = ls at hl ⊢
  have hl : lv_has ls 7 [(0, .ref b)] := hl
  have hH : zH G 0 zF s.heap := ⟨by decide, fun j f i hj _ => absurd hj (Nat.not_lt_zero j)⟩
  have hz : s.heap.size = G.2.2.2 + 0 := by omega
  refine z_new (ci := 14) (C := RX10) (T := TX10) (N := 8) (fs0 := [.null, .null, .int 0, .null, .null, .int 0, .null, .null]) hx hb hts2 law_mem_wsX100 tyX10 tyX10_ok hown (hts2 _ we1) (hts2 _ inst_X10) (hts2 _ we2) hK hH hS (n0 := 0) hz rfl (by decide) 0 0 (by rfl) (by rfl) rfl (by decide +kernel) (Nat.le_of_ble_eq_true rfl) (Nat.le_of_ble_eq_true rfl) dL_law_0 (fun H hH hS => ?_)
  refine lv_dup hx hb dL_law_3 rfl ?_
  refine W.sz (fun hle => ?_)
  have hzn : H.size = G.2.2.2 + 1 := zsize (n0 := 0) hH (by decide) hz rfl hle
  refine va_callv (va_runI (As := []) (rest := [.ref (zad G.2.2.2 0 0)]) ⟨hx, hb, hml, hown, hts⟩ (cz_X10_init l G zF _) (cwI 0 hts gL_law_X10_init rfl rfl rfl (hts2 _ we2) (hts2 _ we3) (hts2 _ we4) rfl (by decide +kernel) ⟨(Nat.le_of_ble_eq_true rfl), (Nat.le_of_ble_eq_true rfl)⟩) ⟨fun a U g mk h => ⟨h.1, zD_blind h.2.1, h.2.2⟩, fun U hU hW => ⟨rfl, zD_at hK hG hZ hH hzn hS hU hW, hinit⟩⟩ rfl rfl hl.1 rfl (lv_room (Nat.le_of_ble_eq_true rfl)) dL_law_4 ⟨(Nat.le_of_ble_eq_true rfl), (Nat.le_of_ble_eq_true rfl)⟩) hS (fun _ _ h => h) (fun _ h => h) (fun F1 t H locs ht hvm q hB1 hzz hk hS => ?_)
  have hH : zH G 112 F1 H := zH_to ht hB1
  refine lv_astore_n (lv' := [(1, .ref (zad G.2.2.2 0 0)), (0, .ref b)]) hx hb dL_law_7 rfl hl (by decide) rfl (fun ls hl => ?_)
  obtain ⟨h40, q⟩ := q
  refine z_new (ci := 15) (C := RX11) (T := TX11) (N := 44) (fs0 := [.int 0, .null, .null, .null, .null, .null, .int 0, .null, .null, .int 0, .null, .null, .null, .int 0, .int 0, .int 0, .int 0, .int 0, .null, .int 0, .null, .null, .null, .null, .null, .null, .int 0, .null, .null, .null, .null, .null, .null, .null, .null, .null, .null, .int 0, .int 0, .null, .null, .null, .int 0, .int 0]) hx hb hts2 law_mem_wsX110 tyX11 tyX11_ok hown (hts2 _ we5) (hts2 _ inst_X11) (hts2 _ we6) hK hH hS (n0 := 0) hz rfl (by decide) 40 0 (by rfl) (by rw [h40]; rfl) rfl (by decide +kernel) (Nat.le_of_ble_eq_true rfl) (Nat.le_of_ble_eq_true rfl) dL_law_8 (fun H hH hS => ?_)
  refine lv_dup hx hb dL_law_11 rfl ?_
  refine W.sz (fun hle => ?_)
  have hzn : H.size = G.2.2.2 + 113 := zsize (n0 := 0) hH (by decide) hz rfl hle
  refine va_callv (va_runI (As := []) (rest := [.ref (zad G.2.2.2 40 0)]) ⟨hx, hb, hml, hown, hts⟩ (cz_X11_init l G F1 _) (cwI 0 hts gL_law_X11_init rfl rfl rfl (hts2 _ we6) (hts2 _ we7) (hts2 _ we8) rfl (by decide +kernel) ⟨(Nat.le_of_ble_eq_true rfl), (Nat.le_of_ble_eq_true rfl)⟩) ⟨fun a U g mk h => ⟨h.1, zD_blind h.2.1, h.2.2⟩, fun U hU hW => ⟨rfl, zD_at hK hG hZ hH hzn hS hU hW, q⟩⟩ rfl rfl hl.1 rfl (lv_room (Nat.le_of_ble_eq_true rfl)) dL_law_12 ⟨(Nat.le_of_ble_eq_true rfl), (Nat.le_of_ble_eq_true rfl)⟩) hS (fun _ _ h => h) (fun _ h => h) (fun F2 t H locs ht hvm q hB1 hzz hk hS => ?_)
  have hH : zH G 143 F2 H := zH_to ht hB1
  obtain ⟨h79, hok, h38, q⟩ := q
  refine lv_astore_n (lv' := [(2, .ref (zad G.2.2.2 40 0)), (1, .ref (zad G.2.2.2 0 0)), (0, .ref b)]) hx hb dL_law_15 rfl hl (by decide) rfl (fun ls hl => ?_)
  refine lv_iconst (v := 1) hx hb dL_law_16 (by decide) ?_
  refine z_newa (atype := .long) (ty := .long) (N' := 1) (a0 := (1, .inr (.inl (fun j => (zdef 79 j).toInt64)))) hx hb (hts2 _ w_long) rfl hK hH hS (n0 := 0) hz rfl (by decide) 79 0 7 (by rfl) (by rw [h79]; rfl) rfl (fun _ h => by cases h) (fun _ => rfl) (by decide) (by decide) (Nat.le_of_ble_eq_true rfl) (Nat.le_of_ble_eq_true rfl) (Nat.le_of_ble_eq_true rfl) dL_law_17 (fun H hH hS => ?_)
  refine lv_astore_n (lv' := [(3, .ref (zad G.2.2.2 79 0)), (2, .ref (zad G.2.2.2 40 0)), (1, .ref (zad G.2.2.2 0 0)), (0, .ref b)]) hx hb dL_law_19 rfl hl (by decide) rfl (fun ls hl => ?_)
  have hH : gH G (zad G.2.2.2) F2 H := z_done hH hok h38
  refine lv_iconst (v := 0) hx hb dL_law_20 (by decide) ?_
  refine lv_istore (lv' := [(4, .int 0), (3, .ref (zad G.2.2.2 79 0)), (2, .ref (zad G.2.2.2 40 0)), (1, .ref (zad G.2.2.2 0 0)), (0, .ref b)]) hx hb dL_law_21 hl (by decide) rfl (fun ls hl => ?_)
  exact law_loop hfl hx hb hr hlocks hml hown hts hX hbl hK hG hLn hBe hL2 Inv hstep 512 0 rfl (zad G.2.2.2) F2 0 (by decide) _ _ (by decide) (by decide) H locs ls hH hS (lv_sub hl [4, 3, 2, 1, 0] rfl) q
