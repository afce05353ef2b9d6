theorem ll_ofNat {L : Nat} (h : L ≤ 2048) : (Int32.ofNat L).toInt = L := by
  exact Int32.toInt_ofNat_of_lt (by omega)
theorem ll_nat {x : Int32} {n : Nat} (h : x.toInt = n) : x.toNatClampNeg = n := by
  unfold Int32.toNatClampNeg
  rw [h]
  rfl
theorem ll_in {x : Int32} {L n : Nat} (h : x.toInt = n) (hn : n < L) : vp_in x L := by
  intro q
  rw [ll_nat h] at q
  rcases q with q | q
  · have := Int32.lt_iff_toInt_lt.mp q
    rw [h] at this
    have h0 : (0 : Int32).toInt = 0 := by decide
    omega
  · omega
theorem ll_add {x : Int32} {n : Nat} (h : x.toInt = n) (hn : n ≤ 4096) (y : Int32) (j : Nat) (hy : y.toInt = j) (hj : j ≤ 4) : (x + y).toInt = ((n + j : Nat) : Int) := by
  rw [Int32.toInt_add, h, hy, Int.bmod_eq_of_le (by omega) (by omega)]
  omega
theorem ll_4 : (Int32.ofInt 4).toInt = 4 := by decide
set_option maxHeartbeats 4000000 in
set_option maxRecDepth 100000 in
theorem law_loop {p : Program} {l : Launch} {e : Env} {s : State} {m : MethodId} {below : List Frame} {meth : Method} {c : Code} {b L : Nat} {xs : Nat → Int32} {G : GP} (hfl : l.stackTraces = false) (hx : p.tables.exec = Jvm.exec) (hb : c.code = code) (hr : meth.sig.returnType = ret) (hlocks : meth.locks = false) (hml : c.maxLocals = 7) (hown : s.vm.findClass RL = some m.cls) (hts : ∀ w ∈ wsL_law, w.before #[Value.ref b] s = true) (hX : va_X b L xs s s.heap) (hbl : b < s.heap.size) (hK : gK G s) (hG : gS G s) (hL : gL s) (hBe : G.2.2.2 = s.heap.size) (hL2 : L ≤ 2048) (Inv : Nat → GF → Prop) (hstep : ∀ k F, k < 512 → Inv k F → ∀ op a1 a2 a3, PLs op a1 a2 a3 (Inv (k + 1)) F) : ∀ (n k : Nat), k + n = 512 → ∀ (ad : Nat → Nat → Nat) (F : GF) (x4 : Int32), x4.toInt = ((4 * k : Nat) : Int) → ∀ (cl sl : Nat), cl + n * MCL ≤ 601024 → sl + n * MSL ≤ 7293034 → ∀ (H : Heap) (locs : List Loc) (ls : Array Slot), gH G ad F H → va_S (gA G) s.heap H locs → lv_has ls 7 [(0, .ref b), (1, .ref (ad 0 0)), (2, .ref (ad 40 0)), (3, .ref (ad 79 0)), (4, .int x4)] → Inv k F → W p l e room_1 s m #[Value.ref b] below meth c H locs cl sl (lw_Z below #[Value.ref b] s) (F0 m 23 ls []) := by
  have hB : G.2.2.2 ≤ s.heap.size := Nat.le_of_eq hBe
  have hbA : ¬ gA G b := by
    intro h
    have h2 : G.2.2.2 ≤ b := h
    omega
  intro n
  induction n with
  | zero =>
    intro k hkn ad F x4 hx4 cl sl hcl hsl H locs ls hH hS hl q
    refine lv_iload hx hb dL_law_23 (lv_at hl 4 rfl) ?_
    refine lv_aload_n hx hb dL_law_25 rfl (lv_at hl 0 rfl) ?_
    refine va_slen hx hb hX hbl hbA hS dL_law_26 ?_
    refine lv_iconst (v := 4) hx hb dL_law_27 (by decide) ?_
    refine lv_isub hx hb dL_law_28 ?_
    refine lv_icmp_gt (tgt := 2286) hx hb dL_law_29 (by decide) (fun cc => ?_) (fun cc => ?_)
    · refine lv_iconst (v := 1) hx hb dL_law_2286 (by decide) ?_
      refine W.widen (k := 601024) (n := 7293034) (by omega) (by omega) ?_
      exact va_forget (fun q hq => Nat.le_trans (Nat.le_of_eq hBe.symm) (hS.2.2 q hq)) (lw_ret hx hb hr hlocks dL_law_2287)
    · exfalso
      have h4 : (4 : Int32).toInt = 4 := by decide
      rw [Int32.lt_iff_toInt_lt, Int32.toInt_sub, ll_ofNat hL2, h4, Int.bmod_eq_of_le (by omega) (by omega)] at cc
      omega
  | succ n ih =>
    intro k hkn ad F x4 hx4 cl sl hcl hsl H locs ls hH hS hl q
    refine lv_iload hx hb dL_law_23 (lv_at hl 4 rfl) ?_
    refine lv_aload_n hx hb dL_law_25 rfl (lv_at hl 0 rfl) ?_
    refine va_slen hx hb hX hbl hbA hS dL_law_26 ?_
    refine lv_iconst (v := 4) hx hb dL_law_27 (by decide) ?_
    refine lv_isub hx hb dL_law_28 ?_
    refine lv_icmp_gt (tgt := 2286) hx hb dL_law_29 (by decide) (fun cc => ?_) (fun cc => ?_)
    · refine lv_iconst (v := 1) hx hb dL_law_2286 (by decide) ?_
      refine W.widen (k := 601024) (n := 7293034) (by omega) (by omega) ?_
      exact va_forget (fun q hq => Nat.le_trans (Nat.le_of_eq hBe.symm) (hS.2.2 q hq)) (lw_ret hx hb hr hlocks dL_law_2287)
    · have h4 : (4 : Int32).toInt = 4 := by decide
      have hlen : 4 * k + 4 ≤ L := by
        rw [Int32.lt_iff_toInt_lt, Int32.toInt_sub, ll_ofNat hL2, h4, Int.bmod_eq_of_le (by omega) (by omega)] at cc
        omega
      have i0 : vp_in x4 L := ll_in hx4 (by omega)
      have i1 : vp_in (x4 + 1) L := ll_in (ll_add hx4 (by omega) 1 1 (by decide) (by omega)) (by omega)
      have i2 : vp_in (x4 + 2) L := ll_in (ll_add hx4 (by omega) 2 2 (by decide) (by omega)) (by omega)
      have i3 : vp_in (x4 + 3) L := ll_in (ll_add hx4 (by omega) 3 3 (by decide) (by omega)) (by omega)
      have hM1 : cl + MCL + n * MCL ≤ 601024 := by rw [Nat.succ_mul] at hcl; omega
      have hM2 : sl + MSL + n * MSL ≤ 7293034 := by rw [Nat.succ_mul] at hsl; omega
      have hnext : ∀ (F1 : GF) (ad1 : Nat → Nat → Nat) (cl2 sl2 : Nat) (H : Heap) (locs : List Loc) (ls : Array Slot), (∀ f i : Nat, f ≠ 39 → ad1 f i = ad f i) → gH G ad1 F1 H → va_S (gA G) s.heap H locs → lv_has ls 7 [(0, .ref b), (1, .ref (ad1 0 0)), (2, .ref (ad1 40 0)), (3, .ref (ad1 79 0)), (4, .int x4)] → Inv (k + 1) F1 → cl2 ≤ cl + MCL → sl2 ≤ sl + MSL → W p l e room_1 s m #[Value.ref b] below meth c H locs cl2 sl2 (lw_Z below #[Value.ref b] s) (F0 m 2280 ls []) := by
        intro F1 ad1 cl2 sl2 H locs ls had hH hS hl q hc2 hs2
        refine lv_iinc (k := 4) (lv' := [(4, .int (x4 + Int32.ofInt 4)), (0, .ref b), (1, .ref (ad1 0 0)), (2, .ref (ad1 40 0)), (3, .ref (ad1 79 0))]) hx hb dL_law_2280 hl rfl rfl (by decide) rfl (fun ls hl => ?_)
        refine lv_goto (tgt := 23) hx hb dL_law_2283 (by decide) ?_
        refine ih (k + 1) (by omega) ad1 F1 (x4 + Int32.ofInt 4) ?_ cl2 sl2 (by omega) (by omega) H locs ls hH hS (lv_sub hl [1, 2, 3, 4, 0] rfl) q
        rw [ll_add hx4 (by omega) (Int32.ofInt 4) 4 ll_4 (by omega)]
        rfl
      have q := hstep k F (by omega) q (xs x4.toNatClampNeg) (xs (x4 + 1).toNatClampNeg) (xs (x4 + 2).toNatClampNeg) (xs (x4 + 3).toNatClampNeg)
      refine lv_aload_n hx hb dL_law_32 rfl (lv_at hl 0 rfl) ?_
      refine lv_iload hx hb dL_law_33 (lv_at hl 4 rfl) ?_
      refine va_sld hx hb hX hbl hbA hS i0 dL_law_35 ?_
      refine lv_bipush (v := 63) hx hb dL_law_36 (by decide) ?_
      refine lv_iand hx hb dL_law_38 ?_
      unfold PLs at q
      generalize (xs x4.toNatClampNeg) &&& 63 = y at q ⊢
      by_cases hy : y.toInt < 0 ∨ 35 < y.toInt
      · rw [if_pos hy] at q
        refine lv_tableOut (tgt := 2280) hx hb dL_law_39 hy (by decide) ?_
        exact hnext F ad cl sl H locs ls (fun _ _ _ => rfl) hH hS hl q (by omega) (by omega)
      · rw [if_neg hy] at q
        have hy1 : ¬ y.toInt < 0 := fun h => hy (Or.inl h)
        have hy2 : ¬ 35 < y.toInt := fun h => hy (Or.inr h)
        obtain ⟨j, hj⟩ : ∃ j : Nat, y.toInt = j := ⟨y.toInt.toNat, by omega⟩
        rw [ll_nat hj] at q
        have hj36 : j < 36 := by omega
        clear hy
        by_cases e0 : j = 0
        · subst e0
          refine lv_tableIn (off := 157) (tgt := 196) hx hb dL_law_39 hy1 hy2 (by rw [hj]; rfl) (by decide) ?_
          exact law_0 hfl hx hb hml hown hts hX hbl hK hG hB hL hBe ad F x4 _ _ _ i1 i2 i3 rfl rfl rfl cl sl (by omega) (by omega) H locs ls hH hS hl (Inv (k + 1)) (fun F1 ad1 H locs ls had hH hS hl q => hnext F1 ad1 _ _ H locs ls had hH hS hl q (Nat.le_refl _) (Nat.le_refl _)) q
        by_cases e1 : j = 1
        · subst e1
          refine lv_tableIn (off := 260) (tgt := 299) hx hb dL_law_39 hy1 hy2 (by rw [hj]; rfl) (by decide) ?_
          exact law_1 hfl hx hb hml hown hts hX hbl hK hG hB hL hBe ad F x4 _ _ _ i1 i2 i3 rfl rfl rfl cl sl (by omega) (by omega) H locs ls hH hS hl (Inv (k + 1)) (fun F1 ad1 H locs ls had hH hS hl q => hnext F1 ad1 _ _ H locs ls had hH hS hl q (Nat.le_refl _) (Nat.le_refl _)) q
        by_cases e2 : j = 2
        · subst e2
          refine lv_tableIn (off := 328) (tgt := 367) hx hb dL_law_39 hy1 hy2 (by rw [hj]; rfl) (by decide) ?_
          exact law_2 hfl hx hb hml hown hts hX hbl hK hG hB hL hBe ad F x4 _ _ _ i1 i2 i3 rfl rfl rfl cl sl (by omega) (by omega) H locs ls hH hS hl (Inv (k + 1)) (fun F1 ad1 H locs ls had hH hS hl q => hnext F1 ad1 _ _ H locs ls had hH hS hl q (Nat.le_refl _) (Nat.le_refl _)) q
        by_cases e3 : j = 3
        · subst e3
          refine lv_tableIn (off := 396) (tgt := 435) hx hb dL_law_39 hy1 hy2 (by rw [hj]; rfl) (by decide) ?_
          exact law_3 hfl hx hb hml hown hts hX hbl hK hG hB hL hBe ad F x4 _ _ _ i1 i2 i3 rfl rfl rfl cl sl (by omega) (by omega) H locs ls hH hS hl (Inv (k + 1)) (fun F1 ad1 H locs ls had hH hS hl q => hnext F1 ad1 _ _ H locs ls had hH hS hl q (Nat.le_refl _) (Nat.le_refl _)) q
        by_cases e4 : j = 4
        · subst e4
          refine lv_tableIn (off := 464) (tgt := 503) hx hb dL_law_39 hy1 hy2 (by rw [hj]; rfl) (by decide) ?_
          exact law_4 hfl hx hb hml hown hts hX hbl hK hG hB hL hBe ad F x4 _ _ _ i1 i2 i3 rfl rfl rfl cl sl (by omega) (by omega) H locs ls hH hS hl (Inv (k + 1)) (fun F1 ad1 H locs ls had hH hS hl q => hnext F1 ad1 _ _ H locs ls had hH hS hl q (Nat.le_refl _) (Nat.le_refl _)) q
        by_cases e5 : j = 5
        · subst e5
          refine lv_tableIn (off := 532) (tgt := 571) hx hb dL_law_39 hy1 hy2 (by rw [hj]; rfl) (by decide) ?_
          exact law_5 hfl hx hb hml hown hts hX hbl hK hG hB hL hBe ad F x4 _ _ _ i1 i2 i3 rfl rfl rfl cl sl (by omega) (by omega) H locs ls hH hS hl (Inv (k + 1)) (fun F1 ad1 H locs ls had hH hS hl q => hnext F1 ad1 _ _ H locs ls had hH hS hl q (Nat.le_refl _) (Nat.le_refl _)) q
        by_cases e6 : j = 6
        · subst e6
          refine lv_tableIn (off := 600) (tgt := 639) hx hb dL_law_39 hy1 hy2 (by rw [hj]; rfl) (by decide) ?_
          exact law_6 hfl hx hb hml hown hts hX hbl hK hG hB hL hBe ad F x4 _ _ _ i1 i2 i3 rfl rfl rfl cl sl (by omega) (by omega) H locs ls hH hS hl (Inv (k + 1)) (fun F1 ad1 H locs ls had hH hS hl q => hnext F1 ad1 _ _ H locs ls had hH hS hl q (Nat.le_refl _) (Nat.le_refl _)) q
        by_cases e7 : j = 7
        · subst e7
          refine lv_tableIn (off := 663) (tgt := 702) hx hb dL_law_39 hy1 hy2 (by rw [hj]; rfl) (by decide) ?_
          exact law_7 hfl hx hb hml hown hts hX hbl hK hG hB hL hBe ad F x4 _ _ _ i1 i2 i3 rfl rfl rfl cl sl (by omega) (by omega) H locs ls hH hS hl (Inv (k + 1)) (fun F1 ad1 H locs ls had hH hS hl q => hnext F1 ad1 _ _ H locs ls had hH hS hl q (Nat.le_refl _) (Nat.le_refl _)) q
        by_cases e8 : j = 8
        · subst e8
          refine lv_tableIn (off := 731) (tgt := 770) hx hb dL_law_39 hy1 hy2 (by rw [hj]; rfl) (by decide) ?_
          exact law_8 hfl hx hb hml hown hts hX hbl hK hG hB hL hBe ad F x4 _ _ _ i1 i2 i3 rfl rfl rfl cl sl (by omega) (by omega) H locs ls hH hS hl (Inv (k + 1)) (fun F1 ad1 H locs ls had hH hS hl q => hnext F1 ad1 _ _ H locs ls had hH hS hl q (Nat.le_refl _) (Nat.le_refl _)) q
        by_cases e9 : j = 9
        · subst e9
          refine lv_tableIn (off := 827) (tgt := 866) hx hb dL_law_39 hy1 hy2 (by rw [hj]; rfl) (by decide) ?_
          exact law_9 hfl hx hb hml hown hts hX hbl hK hG hB hL hBe ad F x4 _ _ _ i1 i2 i3 rfl rfl rfl cl sl (by omega) (by omega) H locs ls hH hS hl (Inv (k + 1)) (fun F1 ad1 H locs ls had hH hS hl q => hnext F1 ad1 _ _ H locs ls had hH hS hl q (Nat.le_refl _) (Nat.le_refl _)) q
        by_cases e10 : j = 10
        · subst e10
          refine lv_tableIn (off := 895) (tgt := 934) hx hb dL_law_39 hy1 hy2 (by rw [hj]; rfl) (by decide) ?_
          exact law_10 hfl hx hb hml hown hts hX hbl hK hG hB hL hBe ad F x4 _ _ _ i1 i2 i3 rfl rfl rfl cl sl (by omega) (by omega) H locs ls hH hS hl (Inv (k + 1)) (fun F1 ad1 H locs ls had hH hS hl q => hnext F1 ad1 _ _ H locs ls had hH hS hl q (Nat.le_refl _) (Nat.le_refl _)) q
        by_cases e11 : j = 11
        · subst e11
          refine lv_tableIn (off := 951) (tgt := 990) hx hb dL_law_39 hy1 hy2 (by rw [hj]; rfl) (by decide) ?_
          exact law_11 hfl hx hb hml hown hts hX hbl hK hG hB hL hBe ad F x4 _ _ _ i1 i2 i3 rfl rfl rfl cl sl (by omega) (by omega) H locs ls hH hS hl (Inv (k + 1)) (fun F1 ad1 H locs ls had hH hS hl q => hnext F1 ad1 _ _ H locs ls had hH hS hl q (Nat.le_refl _) (Nat.le_refl _)) q
        by_cases e12 : j = 12
        · subst e12
          refine lv_tableIn (off := 964) (tgt := 1003) hx hb dL_law_39 hy1 hy2 (by rw [hj]; rfl) (by decide) ?_
          exact law_12 hfl hx hb hml hown hts hX hbl hK hG hB hL hBe ad F x4 _ _ _ i1 i2 i3 rfl rfl rfl cl sl (by omega) (by omega) H locs ls hH hS hl (Inv (k + 1)) (fun F1 ad1 H locs ls had hH hS hl q => hnext F1 ad1 _ _ H locs ls had hH hS hl q (Nat.le_refl _) (Nat.le_refl _)) q
        by_cases e13 : j = 13
        · subst e13
          refine lv_tableIn (off := 977) (tgt := 1016) hx hb dL_law_39 hy1 hy2 (by rw [hj]; rfl) (by decide) ?_
          exact law_13 hfl hx hb hml hown hts hX hbl hK hG hB hL hBe ad F x4 _ _ _ i1 i2 i3 rfl rfl rfl cl sl (by omega) (by omega) H locs ls hH hS hl (Inv (k + 1)) (fun F1 ad1 H locs ls had hH hS hl q => hnext F1 ad1 _ _ H locs ls had hH hS hl q (Nat.le_refl _) (Nat.le_refl _)) q
        by_cases e14 : j = 14
        · subst e14
          refine lv_tableIn (off := 1040) (tgt := 1079) hx hb dL_law_39 hy1 hy2 (by rw [hj]; rfl) (by decide) ?_
          exact law_14 hfl hx hb hml hown hts hX hbl hK hG hB hL hBe ad F x4 _ _ _ i1 i2 i3 rfl rfl rfl cl sl (by omega) (by omega) H locs ls hH hS hl (Inv (k + 1)) (fun F1 ad1 H locs ls had hH hS hl q => hnext F1 ad1 _ _ H locs ls had hH hS hl q (Nat.le_refl _) (Nat.le_refl _)) q
        by_cases e15 : j = 15
        · subst e15
          refine lv_tableIn (off := 1096) (tgt := 1135) hx hb dL_law_39 hy1 hy2 (by rw [hj]; rfl) (by decide) ?_
          exact law_15 hfl hx hb hml hown hts hX hbl hK hG hB hL hBe ad F x4 _ _ _ i1 i2 i3 rfl rfl rfl cl sl (by omega) (by omega) H locs ls hH hS hl (Inv (k + 1)) (fun F1 ad1 H locs ls had hH hS hl q => hnext F1 ad1 _ _ H locs ls had hH hS hl q (Nat.le_refl _) (Nat.le_refl _)) q
        by_cases e16 : j = 16
        · subst e16
          refine lv_tableIn (off := 1152) (tgt := 1191) hx hb dL_law_39 hy1 hy2 (by rw [hj]; rfl) (by decide) ?_
          exact law_16 hfl hx hb hml hown hts hX hbl hK hG hB hL hBe ad F x4 _ _ _ i1 i2 i3 rfl rfl rfl cl sl (by omega) (by omega) H locs ls hH hS hl (Inv (k + 1)) (fun F1 ad1 H locs ls had hH hS hl q => hnext F1 ad1 _ _ H locs ls had hH hS hl q (Nat.le_refl _) (Nat.le_refl _)) q
        by_cases e17 : j = 17
        · subst e17
          refine lv_tableIn (off := 1220) (tgt := 1259) hx hb dL_law_39 hy1 hy2 (by rw [hj]; rfl) (by decide) ?_
          exact law_17 hfl hx hb hml hown hts hX hbl hK hG hB hL hBe ad F x4 _ _ _ i1 i2 i3 rfl rfl rfl cl sl (by omega) (by omega) H locs ls hH hS hl (Inv (k + 1)) (fun F1 ad1 H locs ls had hH hS hl q => hnext F1 ad1 _ _ H locs ls had hH hS hl q (Nat.le_refl _) (Nat.le_refl _)) q
        by_cases e18 : j = 18
        · subst e18
          refine lv_tableIn (off := 1300) (tgt := 1339) hx hb dL_law_39 hy1 hy2 (by rw [hj]; rfl) (by decide) ?_
          exact law_18 hfl hx hb hml hown hts hX hbl hK hG hB hL hBe ad F x4 _ _ _ i1 i2 i3 rfl rfl rfl cl sl (by omega) (by omega) H locs ls hH hS hl (Inv (k + 1)) (fun F1 ad1 H locs ls had hH hS hl q => hnext F1 ad1 _ _ H locs ls had hH hS hl q (Nat.le_refl _) (Nat.le_refl _)) q
        by_cases e19 : j = 19
        · subst e19
          refine lv_tableIn (off := 1356) (tgt := 1395) hx hb dL_law_39 hy1 hy2 (by rw [hj]; rfl) (by decide) ?_
          exact law_19 hfl hx hb hml hown hts hX hbl hK hG hB hL hBe ad F x4 _ _ _ i1 i2 i3 rfl rfl rfl cl sl (by omega) (by omega) H locs ls hH hS hl (Inv (k + 1)) (fun F1 ad1 H locs ls had hH hS hl q => hnext F1 ad1 _ _ H locs ls had hH hS hl q (Nat.le_refl _) (Nat.le_refl _)) q
        by_cases e20 : j = 20
        · subst e20
          refine lv_tableIn (off := 1369) (tgt := 1408) hx hb dL_law_39 hy1 hy2 (by rw [hj]; rfl) (by decide) ?_
          exact law_20 hfl hx hb hml hown hts hX hbl hK hG hB hL hBe ad F x4 _ _ _ i1 i2 i3 rfl rfl rfl cl sl (by omega) (by omega) H locs ls hH hS hl (Inv (k + 1)) (fun F1 ad1 H locs ls had hH hS hl q => hnext F1 ad1 _ _ H locs ls had hH hS hl q (Nat.le_refl _) (Nat.le_refl _)) q
        by_cases e21 : j = 21
        · subst e21
          refine lv_tableIn (off := 1425) (tgt := 1464) hx hb dL_law_39 hy1 hy2 (by rw [hj]; rfl) (by decide) ?_
          exact law_21 hfl hx hb hml hown hts hX hbl hK hG hB hL hBe ad F x4 _ _ _ i1 i2 i3 rfl rfl rfl cl sl (by omega) (by omega) H locs ls hH hS hl (Inv (k + 1)) (fun F1 ad1 H locs ls had hH hS hl q => hnext F1 ad1 _ _ H locs ls had hH hS hl q (Nat.le_refl _) (Nat.le_refl _)) q
        by_cases e22 : j = 22
        · subst e22
          refine lv_tableIn (off := 1481) (tgt := 1520) hx hb dL_law_39 hy1 hy2 (by rw [hj]; rfl) (by decide) ?_
          exact law_22 hfl hx hb hml hown hts hX hbl hK hG hB hL hBe ad F x4 _ _ _ i1 i2 i3 rfl rfl rfl cl sl (by omega) (by omega) H locs ls hH hS hl (Inv (k + 1)) (fun F1 ad1 H locs ls had hH hS hl q => hnext F1 ad1 _ _ H locs ls had hH hS hl q (Nat.le_refl _) (Nat.le_refl _)) q
        by_cases e23 : j = 23
        · subst e23
          refine lv_tableIn (off := 1537) (tgt := 1576) hx hb dL_law_39 hy1 hy2 (by rw [hj]; rfl) (by decide) ?_
          exact law_23 hfl hx hb hml hown hts hX hbl hK hG hB hL hBe ad F x4 _ _ _ i1 i2 i3 rfl rfl rfl cl sl (by omega) (by omega) H locs ls hH hS hl (Inv (k + 1)) (fun F1 ad1 H locs ls had hH hS hl q => hnext F1 ad1 _ _ H locs ls had hH hS hl q (Nat.le_refl _) (Nat.le_refl _)) q
        by_cases e24 : j = 24
        · subst e24
          refine lv_tableIn (off := 1605) (tgt := 1644) hx hb dL_law_39 hy1 hy2 (by rw [hj]; rfl) (by decide) ?_
          exact law_24 hfl hx hb hml hown hts hX hbl hK hG hB hL hBe ad F x4 _ _ _ i1 i2 i3 rfl rfl rfl cl sl (by omega) (by omega) H locs ls hH hS hl (Inv (k + 1)) (fun F1 ad1 H locs ls had hH hS hl q => hnext F1 ad1 _ _ H locs ls had hH hS hl q (Nat.le_refl _) (Nat.le_refl _)) q
        by_cases e25 : j = 25
        · subst e25
          refine lv_tableIn (off := 1680) (tgt := 1719) hx hb dL_law_39 hy1 hy2 (by rw [hj]; rfl) (by decide) ?_
          exact law_25 hfl hx hb hml hown hts hX hbl hK hG hB hL hBe ad F x4 _ _ _ i1 i2 i3 rfl rfl rfl cl sl (by omega) (by omega) H locs ls hH hS hl (Inv (k + 1)) (fun F1 ad1 H locs ls had hH hS hl q => hnext F1 ad1 _ _ H locs ls had hH hS hl q (Nat.le_refl _) (Nat.le_refl _)) q
        by_cases e26 : j = 26
        · subst e26
          refine lv_tableIn (off := 1736) (tgt := 1775) hx hb dL_law_39 hy1 hy2 (by rw [hj]; rfl) (by decide) ?_
          exact law_26 hfl hx hb hml hown hts hX hbl hK hG hB hL hBe ad F x4 _ _ _ i1 i2 i3 rfl rfl rfl cl sl (by omega) (by omega) H locs ls hH hS hl (Inv (k + 1)) (fun F1 ad1 H locs ls had hH hS hl q => hnext F1 ad1 _ _ H locs ls had hH hS hl q (Nat.le_refl _) (Nat.le_refl _)) q
        by_cases e27 : j = 27
        · subst e27
          refine lv_tableIn (off := 1799) (tgt := 1838) hx hb dL_law_39 hy1 hy2 (by rw [hj]; rfl) (by decide) ?_
          exact law_27 hfl hx hb hml hown hts hX hbl hK hG hB hL hBe ad F x4 _ _ _ i1 i2 i3 rfl rfl rfl cl sl (by omega) (by omega) H locs ls hH hS hl (Inv (k + 1)) (fun F1 ad1 H locs ls had hH hS hl q => hnext F1 ad1 _ _ H locs ls had hH hS hl q (Nat.le_refl _) (Nat.le_refl _)) q
        by_cases e28 : j = 28
        · subst e28
          refine lv_tableIn (off := 1867) (tgt := 1906) hx hb dL_law_39 hy1 hy2 (by rw [hj]; rfl) (by decide) ?_
          exact law_28 hfl hx hb hml hown hts hX hbl hK hG hB hL hBe ad F x4 _ _ _ i1 i2 i3 rfl rfl rfl cl sl (by omega) (by omega) H locs ls hH hS hl (Inv (k + 1)) (fun F1 ad1 H locs ls had hH hS hl q => hnext F1 ad1 _ _ H locs ls had hH hS hl q (Nat.le_refl _) (Nat.le_refl _)) q
        by_cases e29 : j = 29
        · subst e29
          refine lv_tableIn (off := 1923) (tgt := 1962) hx hb dL_law_39 hy1 hy2 (by rw [hj]; rfl) (by decide) ?_
          exact law_29 hfl hx hb hml hown hts hX hbl hK hG hB hL hBe ad F x4 _ _ _ i1 i2 i3 rfl rfl rfl cl sl (by omega) (by omega) H locs ls hH hS hl (Inv (k + 1)) (fun F1 ad1 H locs ls had hH hS hl q => hnext F1 ad1 _ _ H locs ls had hH hS hl q (Nat.le_refl _) (Nat.le_refl _)) q
        by_cases e30 : j = 30
        · subst e30
          refine lv_tableIn (off := 1979) (tgt := 2018) hx hb dL_law_39 hy1 hy2 (by rw [hj]; rfl) (by decide) ?_
          exact law_30 hfl hx hb hml hown hts hX hbl hK hG hB hL hBe ad F x4 _ _ _ i1 i2 i3 rfl rfl rfl cl sl (by omega) (by omega) H locs ls hH hS hl (Inv (k + 1)) (fun F1 ad1 H locs ls had hH hS hl q => hnext F1 ad1 _ _ H locs ls had hH hS hl q (Nat.le_refl _) (Nat.le_refl _)) q
        by_cases e31 : j = 31
        · subst e31
          refine lv_tableIn (off := 2035) (tgt := 2074) hx hb dL_law_39 hy1 hy2 (by rw [hj]; rfl) (by decide) ?_
          exact law_31 hfl hx hb hml hown hts hX hbl hK hG hB hL hBe ad F x4 _ _ _ i1 i2 i3 rfl rfl rfl cl sl (by omega) (by omega) H locs ls hH hS hl (Inv (k + 1)) (fun F1 ad1 H locs ls had hH hS hl q => hnext F1 ad1 _ _ H locs ls had hH hS hl q (Nat.le_refl _) (Nat.le_refl _)) q
        by_cases e32 : j = 32
        · subst e32
          refine lv_tableIn (off := 2091) (tgt := 2130) hx hb dL_law_39 hy1 hy2 (by rw [hj]; rfl) (by decide) ?_
          exact law_32 hfl hx hb hml hown hts hX hbl hK hG hB hL hBe ad F x4 _ _ _ i1 i2 i3 rfl rfl rfl cl sl (by omega) (by omega) H locs ls hH hS hl (Inv (k + 1)) (fun F1 ad1 H locs ls had hH hS hl q => hnext F1 ad1 _ _ H locs ls had hH hS hl q (Nat.le_refl _) (Nat.le_refl _)) q
        by_cases e33 : j = 33
        · subst e33
          refine lv_tableIn (off := 2104) (tgt := 2143) hx hb dL_law_39 hy1 hy2 (by rw [hj]; rfl) (by decide) ?_
          exact law_33 hfl hx hb hml hown hts hX hbl hK hG hB hL hBe ad F x4 _ _ _ i1 i2 i3 rfl rfl rfl cl sl (by omega) (by omega) H locs ls hH hS hl (Inv (k + 1)) (fun F1 ad1 H locs ls had hH hS hl q => hnext F1 ad1 _ _ H locs ls had hH hS hl q (Nat.le_refl _) (Nat.le_refl _)) q
        by_cases e34 : j = 34
        · subst e34
          refine lv_tableIn (off := 2160) (tgt := 2199) hx hb dL_law_39 hy1 hy2 (by rw [hj]; rfl) (by decide) ?_
          exact law_34 hfl hx hb hml hown hts hX hbl hK hG hB hL hBe ad F x4 _ _ _ i1 i2 i3 rfl rfl rfl cl sl (by omega) (by omega) H locs ls hH hS hl (Inv (k + 1)) (fun F1 ad1 H locs ls had hH hS hl q => hnext F1 ad1 _ _ H locs ls had hH hS hl q (Nat.le_refl _) (Nat.le_refl _)) q
        by_cases e35 : j = 35
        · subst e35
          refine lv_tableIn (off := 2173) (tgt := 2212) hx hb dL_law_39 hy1 hy2 (by rw [hj]; rfl) (by decide) ?_
          exact law_35 hfl hx hb hml hown hts hX hbl hK hG hB hL hBe ad F x4 _ _ _ i1 i2 i3 rfl rfl rfl cl sl (by omega) (by omega) H locs ls hH hS hl (Inv (k + 1)) (fun F1 ad1 H locs ls had hH hS hl q => hnext F1 ad1 _ _ H locs ls had hH hS hl q (Nat.le_refl _) (Nat.le_refl _)) q
        exfalso
        omega
