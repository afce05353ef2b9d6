theorem we1 : Cond.classLink RL 9 RX10 ∈ lw_tbl2 := by decide +kernel
theorem we2 : Cond.initialized RX10 ∈ lw_tbl2 := by decide +kernel
theorem we3 : Cond.methodLink RL 154 yX10_init ∈ lw_tbl2 := by decide +kernel
theorem we4 : Cond.instanceMethod yX10_init ∈ lw_tbl2 := by decide +kernel
theorem va_P_l {D : va_G} {cl : List vw_C} {a b : va_W} {H : Heap} (h : va_P D cl (a ++ b) H) : va_P D cl a H := fun k q hk => h k q (by
  rw [List.getElem?_append_left (List.getElem?_eq_some_iff.mp hk).1]
  exact hk)
theorem va_P_r {D : va_G} {cl : List vw_C} {a b : va_W} {H : Heap} (h : va_P D cl (a ++ b) H) : va_P D cl b H := fun k q hk => h (a.length + k) q (by
  rw [List.getElem?_append_right (Nat.le_add_right _ _), Nat.add_sub_cancel_left]
  exact hk)
theorem zW_len {cy : Nat → ClassId} {B : Nat} {F : GF} : (zW cy B 112 F).length = 112 := by
  unfold zW
  rw [List.length_map, List.length_take, zo_len]
  rfl
/-- the cell behind the first object's -/
theorem z_next {G : GPz} {F : GF} {q : Nat} {e : va_E} {H1 : Heap} (hP : va_P (gDD (zg G)) vwCl (zW G.2.2.1 G.2.2.2 112 F ++ [(q, e)]) H1) (hD : va_D (gA (zg G)) (zW G.2.2.1 G.2.2.2 112 F ++ [(q, e)])) (hle : H1.size ≤ G.2.2.2 + 113) : q = G.2.2.2 + 112 ∧ zH G 112 F H1 ∧ va_at (gDD (zg G)) vwCl (q, e) H1 ∧ H1.size = G.2.2.2 + 113 := by
  have hL : (zW G.2.2.1 G.2.2.2 112 F).length = 112 := zW_len
  have hnew : (zW G.2.2.1 G.2.2.2 112 F ++ [(q, e)])[112]? = some (q, e) := by
    rw [List.getElem?_append_right (by omega), hL, Nat.sub_self]
    rfl
  have hq1 : q < H1.size := (hP 112 _ hnew).lt
  have hq2 : G.2.2.2 ≤ q := hD.2 112 _ hnew
  have hne : ∀ j, j < 112 → q ≠ G.2.2.2 + j := by
    intro j hj hqj
    obtain ⟨a, ha⟩ : ∃ a, zo[j]? = some a := ⟨_, List.getElem?_eq_getElem (by rw [zo_len]; omega)⟩
    have h1 : (zW G.2.2.1 G.2.2.2 112 F ++ [(q, e)])[j]? = some (zad G.2.2.2 a.1 a.2, zcell G.2.2.1 (zad G.2.2.2) a.1 a.2 (F a.1 a.2)) := by
      rw [List.getElem?_append_left (by omega)]
      exact zW_get (by rw [List.getElem?_take, if_pos hj]; exact ha)
    have h2 := hD.1 j 112 _ _ h1 hnew (by
      show G.2.2.2 + zp a.1 a.2 = q
      rw [zo_zp (show zo[j]? = some (a.1, a.2) from ha)]
      exact hqj.symm)
    omega
  have hq : q = G.2.2.2 + 112 := by
    rcases Nat.lt_or_ge q (G.2.2.2 + 112) with h | h
    · exact absurd (show q = G.2.2.2 + (q - G.2.2.2) by omega) (hne (q - G.2.2.2) (by omega))
    · omega
  exact ⟨hq, zH_mk (Nat.le_refl _) (va_P_l hP), hP 112 _ hnew, by omega⟩
theorem zlt {B : Nat} {F : GF} {q : Nat} (h0 : gcn F = 0) (h : inW (zad B) F q) : B ≤ q ∧ q < B + 112 ∧ ∃ f i, (f, i) ∈ zo ∧ zad B f i = q := by
  obtain ⟨f, i, hf, hi, rfl⟩ := h
  rw [h0] at hi
  have hm := zo_keys (f, i) (gkeys_mem.mpr ⟨hf, hi⟩)
  obtain ⟨j, hj⟩ := List.getElem?_of_mem hm
  have hl := (List.getElem?_eq_some_iff.mp hj).1
  rw [zo_len] at hl
  have e := zo_zp hj
  refine ⟨Nat.le_add_right _ _, ?_, f, i, hm, rfl⟩
  show B + zp f i < B + 112
  omega
abbrev g2 (G : GPz) : GPz := (G.1, G.2.1, G.2.2.1, G.2.2.2 + 112)
theorem d_ne {A : Nat → Prop} {a : va_W} {p : Nat × va_E} (hD : va_D A (a ++ [p])) {k : Nat} {r : Nat × va_E} (hk : a[k]? = some r) : r.1 ≠ p.1 := fun e => by
  have hl := (List.getElem?_eq_some_iff.mp hk).1
  have h := hD.1 k a.length r p (by rw [List.getElem?_append_left hl]; exact hk) (by rw [List.getElem?_append_right (Nat.le_refl _), Nat.sub_self]; rfl) e
  omega
theorem zW_of {cy : Nat → ClassId} {B : Nat} {F : GF} {q : Nat} (h0 : gcn F = 0) (h : inW (zad B) F q) : ∃ (k : Nat) (e : va_E), (zW cy B 112 F)[k]? = some (q, e) := by
  obtain ⟨-, -, f, i, hm, rfl⟩ := zlt h0 h
  obtain ⟨j, hj⟩ := List.getElem?_of_mem hm
  have hl := (List.getElem?_eq_some_iff.mp hj).1
  rw [zo_len] at hl
  exact ⟨j, _, zW_get (by rw [List.getElem?_take, if_pos hl]; exact hj)⟩
/-- both objects and the row: the loop's world -/
theorem t_done {G : GPz} {F : GF} {ca : Nat} {H : Heap} (hz : zokz F) (h0 : F 38 0 0 = 0) (h1 : zH G 112 F H) (h2 : zH (g2 G) 112 F H) (hc : va_P (gDD (zg G)) vwCl (tcW G ca (fun _ => 0)) H) (hca : G.2.2.2 ≤ ca) (hn1 : ∀ q, inW (zad G.2.2.2) F q → q ≠ ca) (hn2 : ∀ q, inW (zad (G.2.2.2 + 112)) F q → q ≠ ca) : tH G (zad G.2.2.2 0 0) (zad (G.2.2.2 + 112) 0 0) ca (F, F, fun _ => 0) H := by
  have hg : gcn F = 0 := by
    unfold gcn
    rw [h0]
    rfl
  have a1 := z_done h1 hz h0
  have a2 := z_done h2 hz h0
  refine ⟨zad G.2.2.2, zad (G.2.2.2 + 112), rfl, rfl, ⟨a1.1, a1.2.1, fun k p hp => ?_⟩, ⟨a2.1, a2.2.1, fun k p hp => ?_⟩, hc, hca⟩
  · obtain ⟨z1, z2, -⟩ := zlt hg (inW_of hp)
    refine ⟨z1, fun z => ?_, hn1 _ (inW_of hp)⟩
    have := (zlt hg z).1
    omega
  · obtain ⟨z1, z2, -⟩ := zlt hg (inW_of hp)
    refine ⟨by omega, fun z => ?_, hn2 _ (inW_of hp)⟩
    have := (zlt hg z).2.1
    omega
theorem zH_keep {G : GPz} {F : GF} {H H1 : Heap} (h : zH G 112 F H) (hk : ∀ q : Nat, q < H.size → ¬ gA (zg (g2 G)) q → H1[q]? = H[q]?) : zH G 112 F H1 := by
  refine ⟨h.1, fun j f i hj hz => (h.2 j f i hj hz).kept (hk _ (h.2 j f i hj hz).lt (fun z => ?_))⟩
  have z2 : G.2.2.2 + 112 ≤ G.2.2.2 + zp f i := z
  rw [zo_zp hz] at z2
  omega
theorem zz_D {G : GPz} {F : GF} : va_D (gA (zg G)) (zW G.2.2.1 G.2.2.2 112 F ++ zW G.2.2.1 (G.2.2.2 + 112) 112 F) := by
  refine va_D.app zW_D ((zW_D (G := g2 G)).weaken (fun k q _ h => ?_)) (fun i j p q hp hq e => ?_)
  · have h2 : G.2.2.2 + 112 ≤ q.1 := h
    show G.2.2.2 ≤ q.1
    omega
  · obtain ⟨f, i1, hk, hz, rfl⟩ := zW_at hp
    obtain ⟨f2, i2, hk2, hz2, rfl⟩ := zW_at hq
    have e2 : G.2.2.2 + zp f i1 = G.2.2.2 + 112 + zp f2 i2 := e
    rw [zo_zp hz, zo_zp hz2] at e2
    omega
set_option maxHeartbeats 4000000 in
set_option maxRecDepth 100000 in
theorem whole_run {p : Program} {e : Env} {s : State} {m : MethodId} {below : List Frame} {meth : Method} {c : Code} (l : Launch) (hflags : l.flags = flags0) {b L : Nat} {xs : Nat → Int32} (hL2 : L ≤ 260) (C0 : lw_At p s m meth c b L xs) (Iv : Nat → S3 → Prop) (hstep : ∀ n F, n < 120 → Iv n F → P_M_body L xs (nI n) F (fun r F1 => r = 1 ∧ Iv (n + 1) F1)) (Fz : GF) (hinit : PZ_X10_init zF (fun F1 => F1 = Fz)) (hzok : zokz Fz) (hz38 : Fz 38 0 0 = 0) (hI : ∃ S1 : S3, tE (Fz, Fz, fun _ => 0) S1 ∧ Iv 0 S1) : W p l e room_1 s m #[Value.ref b] below meth c s.heap [] 0 0 (lw_Z below #[Value.ref b] s) (entryFrame m ([Value.ref b] : List Value).toArray 12) := by
  obtain ⟨hx, hb, hr, hml, hown, hts0, hX, hbl, hlocks, hgv0⟩ := C0
  have hts2 := lw_tbl2_ok hts0
  have hts : ∀ w ∈ wsL_law, w.before #[Value.ref b] s = true := fun w hw => hts2 w (law_mem w hw)
  have hgv := flat_of_before preC0 hgv0
  have hfl := stk_false hflags
  obtain ⟨G, hK, hBe⟩ := st_K hts2 s.heap.size
  have hG := st_S hBe hts2 hgv
  have hZ : zS s := st_Z hts2
  have hLn := st_L hgv
  have hB : G.2.2.2 ≤ s.heap.size := Nat.le_of_eq hBe
  have hS : va_S (gA (zg G)) s.heap s.heap [] := va_S.rf
  have hl := lv_entry [.ref b] (n := 12) (Nat.le_of_ble_eq_true rfl)
  rw [lg_entry_eq]
  generalize (lg_sl [.ref b] ++ List.replicate (12 - (lg_sl [.ref b]).length) Slot.unset).toArray = ls at hl ⊢
  have hl : lv_has ls 12 [(0, .ref b)] := hl
  have hH : zH G 0 zF s.heap := ⟨by decide, fun j f i hj _ => absurd hj (Nat.not_lt_zero j)⟩
  have hz : s.heap.size = G.2.2.2 + 0 := by omega
  refine z_new (ci := 14) (C := RX10) (T := TX10) (N := 8) (fs0 := [.null, .null, .int 0, .null, .null, .int 0, .null, .null]) hx hb hts2 law_mem_wsX100 tyX10 tyX10_ok hown (hts2 _ we1) (hts2 _ inst_X10) (hts2 _ we2) hK hH hS (n0 := 0) hz rfl (by decide) 0 0 (by rfl) (by rfl) rfl (by decide +kernel) (Nat.le_of_ble_eq_true rfl) (Nat.le_of_ble_eq_true rfl) dL_law_0 (fun H hH hS => ?_)
  refine lv_dup hx hb dL_law_3 rfl ?_
  refine W.sz (fun hle => ?_)
  have hzn : H.size = G.2.2.2 + 1 := zsize (n0 := 0) hH (by decide) hz rfl hle
  refine va_callv (va_runI (As := []) (rest := [.ref (zad G.2.2.2 0 0)]) ⟨hx, hb, hml, hown, hts⟩ (cz_X10_init l G zF _) (cwI 0 hts gL_law_X10_init rfl rfl rfl (hts2 _ we2) (hts2 _ we3) (hts2 _ we4) rfl (by decide +kernel) ⟨(Nat.le_of_ble_eq_true rfl), (Nat.le_of_ble_eq_true rfl)⟩) ⟨fun a U g mk h => ⟨h.1, zD_blind h.2.1, h.2.2⟩, fun U hU hW => ⟨rfl, zD_at hK hG hZ hH hzn hS hU hW, hinit⟩⟩ rfl rfl hl.1 rfl (lv_room (Nat.le_of_ble_eq_true rfl)) dL_law_4 ⟨(Nat.le_of_ble_eq_true rfl), (Nat.le_of_ble_eq_true rfl)⟩) hS (fun _ _ h => h) (fun _ h => h) (fun F1 t H locs ht hvm q hB1 hzz hk hS => ?_)
  have hH : zH G 112 F1 H := zH_to ht hB1
  obtain rfl : F1 = Fz := q
  refine lv_astore_n (lv' := [(1, .ref (zad G.2.2.2 0 0)), (0, .ref b)]) hx hb dL_law_7 rfl hl (by decide) rfl (fun ls hl => ?_)
  refine va_new (ci := 14) (fs := [.null, .null, .int 0, .null, .null, .int 0, .null, .null]) (C := RX10) (T := TX10) (N := 8) hx hb hts2 law_mem_wsX100 tyX10 tyX10_ok hown (hts2 _ we1) (hts2 _ inst_X10) (hts2 _ we2) hK (zH_P hH) zW_D hS (fun q hq => by show G.2.2.2 ≤ q; omega) rfl (by decide +kernel) (Nat.le_of_ble_eq_true rfl) (Nat.le_of_ble_eq_true rfl) dL_law_8 (fun q H hP hD hS => ?_)
  refine W.sz (fun hle => ?_)
  obtain ⟨rfl, hH, hat, hzn⟩ := z_next hP hD (by rw [hBe]; exact hle)
  have hH2 : zH (g2 G) 1 zF H := by
    refine ⟨by decide, fun j f i hj hz2 => ?_⟩
    obtain rfl : j = 0 := by omega
    obtain ⟨rfl, rfl⟩ : f = 0 ∧ i = 0 := by
      have h9 : zo[0]? = some (0, 0) := rfl
      rw [h9] at hz2
      cases hz2
      exact ⟨rfl, rfl⟩
    exact hat
  have eA : ∀ q, gA (zg (g2 G)) q → gA (zg G) q := fun q h => by
    have h2 : G.2.2.2 + 112 ≤ q := h
    show G.2.2.2 ≤ q
    omega
  refine lv_dup hx hb dL_law_11 rfl ?_
  refine va_callv (va_runI (As := []) (rest := [.ref (zad (G.2.2.2 + 112) 0 0)]) ⟨hx, hb, hml, hown, hts⟩ (cz_X10_init l (g2 G) zF (fun F2 => F2 = F1)) (cwI 0 hts gL_law_X10_init rfl rfl rfl (hts2 _ we2) (hts2 _ we3) (hts2 _ we4) rfl (by decide +kernel) ⟨(Nat.le_of_ble_eq_true rfl), (Nat.le_of_ble_eq_true rfl)⟩) ⟨fun a U g mk h => ⟨h.1, zD_blind h.2.1, h.2.2⟩, fun U hU hW => ⟨rfl, ⟨⟨va_K.moved hW.alike hK, (hG.warm hS hU hW).narrow eA, zS.moved hW.alike hZ⟩, by rw [hU]; exact hH2, by rw [hU]; show H.size = G.2.2.2 + 112 + 1; omega⟩, hinit⟩⟩ rfl rfl hl.1 rfl (lv_room (Nat.le_of_ble_eq_true rfl)) dL_law_12 ⟨(Nat.le_of_ble_eq_true rfl), (Nat.le_of_ble_eq_true rfl)⟩) hS (fun q _ h => eA q h) (fun q h => eA q h) (fun F2 t H locs ht hvm q hB1 hzz hk hS => ?_)
  have hH2 : zH (g2 G) 112 F2 H := zH_to ht hB1
  have hH := zH_keep hH hk
  obtain rfl : F2 = F1 := q
  refine lv_astore_n (lv' := [(2, .ref (zad (G.2.2.2 + 112) 0 0)), (1, .ref (zad G.2.2.2 0 0)), (0, .ref b)]) hx hb dL_law_15 rfl hl (by decide) rfl (fun ls hl => ?_)
  refine lv_iconst (v := 2) hx hb dL_law_16 (by decide) ?_
  refine va_newa (atype := .int) (ty := .int) (a0 := (2, .inl (fun _ => 0))) hx hb (hts2 _ w_int) rfl hK (ws := zW G.2.2.1 G.2.2.2 112 F2 ++ zW G.2.2.1 (G.2.2.2 + 112) 112 F2) (va_P.app (zH_P hH) (zH_P hH2)) zz_D hS (fun q hq => by show G.2.2.2 ≤ q; omega) (fun _ => rfl) (by decide) (by decide) (Nat.le_of_ble_eq_true rfl) (Nat.le_of_ble_eq_true rfl) (Nat.le_of_ble_eq_true rfl) dL_law_17 (fun ca cA H hK1 hP hD hS => ?_)
  have hcA : cA = G.2.2.1 2 := zcA hK (fun _ h => by cases h) rfl ((hK1.2 7 (cA, .int) rfl).2)
  subst hcA
  have hg : gcn F2 = 0 := by
    unfold gcn
    rw [hz38]
    rfl
  have hT : tH G (zad G.2.2.2 0 0) (zad (G.2.2.2 + 112) 0 0) ca (F2, F2, fun _ => 0) H := by
    refine t_done hzok hz38 (zH_mk (Nat.le_refl _) (va_P_l (va_P_l hP))) (zH_mk (G := g2 G) (Nat.le_refl _) (va_P_r (va_P_l hP))) (va_P_r hP) ?_ (fun q hq => ?_) (fun q hq => ?_)
    · exact hD.2 224 (ca, _) (by rw [List.getElem?_append_right (by rw [List.length_append, zW_len, zW_len]; exact Nat.le_refl _), List.length_append, zW_len, zW_len]; rfl)
    · obtain ⟨k, e, hk⟩ := zW_of (cy := G.2.2.1) hg hq
      exact d_ne hD (k := k) (by rw [List.getElem?_append_left (List.getElem?_eq_some_iff.mp hk).1]; exact hk)
    · obtain ⟨k, e, hk⟩ := zW_of (cy := G.2.2.1) hg hq
      exact d_ne hD (k := 112 + k) (by rw [List.getElem?_append_right (by rw [zW_len]; omega), zW_len, Nat.add_sub_cancel_left]; exact hk)
  obtain ⟨S1, hE, hI⟩ := hI
  have hT := tH_eq hT hE
  refine lv_astore_n (lv' := [(3, .ref ca), (2, .ref (zad (G.2.2.2 + 112) 0 0)), (1, .ref (zad G.2.2.2 0 0)), (0, .ref b)]) hx hb dL_law_19 rfl hl (by decide) rfl (fun ls hl => ?_)
  refine lv_iconst (v := 1) hx hb dL_law_20 (by decide) ?_
  refine lv_istore (lv' := [(4, .int 1), (3, .ref ca), (2, .ref (zad (G.2.2.2 + 112) 0 0)), (1, .ref (zad G.2.2.2 0 0)), (0, .ref b)]) hx hb dL_law_21 hl (by decide) rfl (fun ls hl => ?_)
  refine lv_iconst (v := 0) hx hb dL_law_23 (by decide) ?_
  refine lv_istore (lv' := [(5, .int 0), (4, .int 1), (3, .ref ca), (2, .ref (zad (G.2.2.2 + 112) 0 0)), (1, .ref (zad G.2.2.2 0 0)), (0, .ref b)]) hx hb dL_law_24 hl (by decide) rfl (fun ls hl => ?_)
  exact law_loop hfl hx hb hr hlocks hml hown hts hX hbl (by omega) hK hG hLn hBe Iv hstep 120 0 rfl S1 _ _ (by decide) (by decide) H locs ls hT hS (lv_sub hl [5, 4, 3, 2, 1, 0] rfl) hI
