theorem vr_outer (c : ClassId) (N h0 : Nat) : ∀ i : Nat, Jvm.Free.Multi.outerC c N h0 i = arrV c N (fun j => va_rf (if j < i then some (h0 + 1 + j) else none))
  | 0 => by
    show ({ cls := c, slots := Array.replicate N .null, vm := .none } : Cell) = _
    rw [arrV_new]
    refine congrArg (arrV c N) (funext fun j => ?_)
    simp [va_rf]
  | i + 1 => by
    show (Jvm.Free.Multi.outerC c N h0 i).setSlot i (.ref (h0 + 1 + i)) = _
    rw [vr_outer c N h0 i, arrV_store]
    refine congrArg (arrV c N) (funext fun j => ?_)
    by_cases e : j = i
    · subst e
      simp [updV, va_rf]
    · by_cases h : j < i
      · simp [updV, e, h, Nat.lt_succ_of_lt h]
      · simp [updV, e, h, show ¬ j < i + 1 by omega]
theorem z_mna {p : Program} {l : Launch} {e : Env} {R : Room} {s : State} {m : MethodId} {args : Array Value} {below : List Frame} {meth : Method} {c : Code} {H : Heap} {locs : List Loc} {cells slots : Nat} {Q : State → Prop} {cc : ByteArray} {pc : Nat} {ls : Array Slot} {rest : List Value} {G : GPz} {n : Nat} {F : GF} (hexec : p.tables.exec = Jvm.exec) (hb : c.code = cc) {own : String} {index : Nat} (hown : s.vm.findClass own = some m.cls) (hclink : (Cond.classLink own index ("[" ++ (FieldType.array .int).toString)).before args s = true) (hover : va_AOA .int s) (harr : (Cond.arrayClass .int).before args s = true) (hK : gK (zg G) s) (hH : zH G n F H) (hS : va_S (gA (zg G)) s.heap H locs) {n0 : Nat} (hz : s.heap.size = G.2.2.2 + n0) (hn0 : n0 + cells = n) (b : Nat) (hb5 : b < 5) (hn : n = 30 + 12 * b) (h31 : F 31 b = zdef 31) (h32 : ∀ j, j < 8 → F 32 (8 * b + j) = zdef 32) (hzo : ∀ j, j < 9 → zo[n + j]? = some (if j = 0 then (31, b) else (32, 8 * b + (j - 1)))) (hcells : cells + 9 ≤ R.cells) (hslots : slots + 56 ≤ R.slots) (hdg : decode cc pc = .ok (.multianewarray index 2, 4))
    (kk : ∀ (H1 : Heap), zH G (n + 9) (ffill F 31 b 8 1) H1 → va_S (gA (zg G)) s.heap H1 locs → W p l e R s m args below meth c H1 locs (cells + 9) (slots + 56) Q (F0 m (pc + 4) ls (.ref (zad G.2.2.2 31 b) :: rest))) : W p l e R s m args below meth c H locs cells slots Q (F0 m pc ls (.int 6 :: .int 8 :: rest)) := by
  refine W.sz (fun hle => ?_)
  have hsz : H.size = G.2.2.2 + n := zsize (n0 := n0) (cells := cells) hH (by omega) hz hn0 hle
  intro T hT Xs
  obtain ⟨vm₁, cA, comp, -, fA, fC, hO, -, X', step⟩ := Xs.multianewarray2F hexec hown hclink (va_AOA.use hover) harr (g := F0 m pc ls (.int 6 :: .int 8 :: rest)) rfl (by rw [hb]; exact hdg) rfl (n := 8) (k := 6) (by decide) (by decide) (by decide) (by decide) (by decide) rfl rfl hcells hslots
  generalize hF : Jvm.Free.Multi.fill (T.setVm vm₁) cA comp (8 : Int32).toNatClampNeg (6 : Int32).toNatClampNeg (defaultValue .int) (8 : Int32).toNatClampNeg = X at X' step
  have hTh : (T.setVm vm₁).heap = H := hT
  obtain ⟨f1, f2, -, -⟩ := Jvm.Free.Multi.fill_facts (T.setVm vm₁) cA comp (8 : Int32).toNatClampNeg (6 : Int32).toNatClampNeg (defaultValue .int) (8 : Int32).toNatClampNeg
  rw [hF, hTh] at f1 f2
  have hold : ∀ x : Nat, x < H.size → X.heap[x]? = H[x]? := fun x hx => by
    have := Jvm.Free.Multi.fill_old (T.setVm vm₁) cA comp (8 : Int32).toNatClampNeg (6 : Int32).toNatClampNeg (defaultValue .int) (a := x) (by rw [hTh]; exact hx) (8 : Int32).toNatClampNeg
    rw [hF, hTh] at this
    exact this
  have hcI : comp = G.2.2.1 2 := by
    have h2 : s.vm.findClass ("[" ++ FieldType.int.toString) = some (G.2.2.1 2) := (hK.2 2 (G.2.2.1 2, .int) rfl).2
    exact Option.some.inj (fC.symm.trans h2)
  have hcO : cA = G.2.2.1 6 := by
    have h2 : s.vm.findClass ("[" ++ (FieldType.array .int).toString) = some (G.2.2.1 6) := (hK.2 6 (G.2.2.1 6, .array .int) rfl).2
    exact Option.some.inj (fA.symm.trans h2)
  have hrow : ∀ j : Nat, j < 8 → X.heap[H.size + 1 + j]? = some (vp_cell (G.2.2.1 2) (6, .inl (zdef 32))) := fun j hj => by
    have := Jvm.Free.Multi.fill_inner (T.setVm vm₁) cA comp (8 : Int32).toNatClampNeg (6 : Int32).toNatClampNeg (defaultValue .int) (8 : Int32).toNatClampNeg j hj
    rw [hF, hTh] at this
    rw [this, hcI]
    show some (Jvm.Free.Multi.innerC (G.2.2.1 2) 6 (.int 0)) = some (arrV (G.2.2.1 2) 6 (fun j => Value.int (zdef 32 j)))
    rw [show (fun j => Value.int (zdef 32 j)) = (fun _ => Value.int 0) from rfl, ← arrV_new]
    rfl
  have hout : X.heap[H.size]? = some (vp_cell (G.2.2.1 6) (8, .inr (.inr (.inr (.inr (fun i => if i < 8 then some (H.size + 1 + i) else none)))))) := by
    rw [f2, hcO, vp_cell_q]
    exact congrArg some (vr_outer (G.2.2.1 6) 8 H.size 8)
  have hzp : ∀ j, j < 8 → zad G.2.2.2 32 (8 * b + j) = H.size + 1 + j := by
    intro j hj
    show G.2.2.2 + (31 + 12 * ((8 * b + j) / 8) + (8 * b + j) % 8) = _
    omega
  have h1 : zH G (n + 9) (ffill F 31 b 8 1) X.heap := by
    refine ⟨by omega, fun j f i hj hz2 => ?_⟩
    rcases Nat.lt_or_ge j n with h | h
    · have h9 := hH.2 j f i h hz2
      have hfi : ¬ (f = 31 ∧ i = b) := by
        rintro ⟨rfl, rfl⟩
        have := zo_zp hz2
        have h8 : zp 31 i = 30 + 12 * i := rfl
        omega
      have e9 : ffill F 31 b 8 1 f i = F f i := by
        funext k
        show (if f = 31 ∧ i = b ∧ k < 8 then 1 else F f i k) = F f i k
        rw [if_neg (fun q => hfi ⟨q.1, q.2.1⟩)]
      rw [e9]
      exact h9.kept (hold _ h9.lt)
    · obtain ⟨d, rfl⟩ : ∃ d, j = n + d := ⟨j - n, by omega⟩
      have hd : d < 9 := by omega
      rw [hzo d hd] at hz2
      by_cases e0 : d = 0
      · subst e0
        cases hz2
        have ead : zad G.2.2.2 31 b = H.size := by
          show G.2.2.2 + (30 + 12 * b) = _
          omega
        show X.heap[zad G.2.2.2 31 b]? = some (vp_cell (G.2.2.1 6) (8, .inr (.inr (.inr (.inr (fun j => if ffill F 31 b 8 1 31 b j = 0 then none else some (zad G.2.2.2 32 (8 * b + j))))))))
        rw [ead, hout]
        congr 7
        funext j
        by_cases hj8 : j < 8
        · rw [if_pos hj8, if_neg (by show ¬ (if (31 : Nat) = 31 ∧ b = b ∧ j < 8 then (1 : Int32) else F 31 b j) = 0; rw [if_pos ⟨rfl, rfl, hj8⟩]; decide), hzp j hj8]
        · rw [if_neg hj8, if_pos (by show (if (31 : Nat) = 31 ∧ b = b ∧ j < 8 then (1 : Int32) else F 31 b j) = 0; rw [if_neg (fun q => hj8 q.2.2), h31]; rfl)]
      · rw [if_neg e0] at hz2
        cases hz2
        have e9 : ffill F 31 b 8 1 32 (8 * b + (d - 1)) = zdef 32 := by
          rw [← h32 (d - 1) (by omega)]
          funext k
          show (if (32 : Nat) = 31 ∧ _ ∧ k < 8 then 1 else _) = _
          rw [if_neg (fun q => absurd q.1 (by decide))]
        rw [e9]
        show X.heap[zad G.2.2.2 32 (8 * b + (d - 1))]? = some (vp_cell (G.2.2.1 2) (6, .inl (zdef 32)))
        rw [hzp (d - 1) (by omega)]
        exact hrow (d - 1) (by omega)
  have hS1 : va_S (gA (zg G)) s.heap X.heap locs := ⟨by rw [f1]; have := hS.1; omega, fun x h1 h2 => (hold x (Nat.lt_of_lt_of_le h1 hS.1)).trans (hS.2.1 x h1 h2), hS.2.2⟩
  obtain ⟨t, a1, b1⟩ := kk X.heap h1 hS1 X rfl X'
  refine ⟨t, step t ?_, b1⟩
  have e : T.heap.size = zad G.2.2.2 31 b := by
    rw [hT]
    show _ = G.2.2.2 + (30 + 12 * b)
    omega
  rw [e]
  exact a1
set_option maxHeartbeats 4000000 in
set_option maxRecDepth 100000 in
theorem cz_J7_fill_53178 (l : Launch) (G : GPz) (n1 : Nat) (F : GF) (f i q0 n : Nat) (v : Int32) (hq0 : (zo.take n1)[q0]? = some (f, i)) (hn : n < 2 ^ 31) (he : ∀ z : Nat → Int32, zcell G.2.2.1 (zad G.2.2.2) f i z = .inl (G.2.2.1 2, n, .inl z)) : Met l yJ7_fill_53178 wsJ7_fill_53178 rm_J7_fill_53178 (va_Pc [.ref (zad G.2.2.2 f i), .int v] (fun U => zD G n1 F U)) (zQv G n1 (fun F1 => F1 = ffill F f i n v)) 0 0 (gA (zg G)) := by
  refine Met.ofW (cc := cJ7_fill_53178) (maxL := 4) (ret := none) (by decide) rfl ?_
  intro p e s m args below meth c s₁ Bd hml hv
  obtain ⟨rfl, ⟨⟨hK, hG, hZ⟩, hH, hsz⟩⟩ := hv
  have hx := Bd.exec
  have hb := Bd.bytes
  have hr := Bd.returns
  have hlocks := Bd.notSynchronized
  have hS : va_S (gA (zg G)) s.heap s.heap [] := va_S.rf
  have hl := lv_entry [.ref (zad G.2.2.2 f i), .int v] (n := 4) (Nat.le_of_ble_eq_true rfl)
  rw [lg_entry_eq]
  generalize (lg_sl [.ref (zad G.2.2.2 f i), .int v] ++ List.replicate (4 - (lg_sl [.ref (zad G.2.2.2 f i), .int v]).length) Slot.unset).toArray = ls at hl ⊢
  have hl : lv_has ls 4 [(0, .ref (zad G.2.2.2 f i)), (1, .int v)] := hl
  show W p l e rm_J7_fill_53178 s m ([.ref (zad G.2.2.2 f i), .int v] : List Value).toArray below meth c s.heap [] 0 0 (MQ below (zQv G n1 (fun F1 => F1 = ffill F f i n v)) ([.ref (zad G.2.2.2 f i), .int v] : List Value).toArray s 0 0 (gA (zg G))) _
  have t_5 : ∀ (d k : Nat), k + d = n → ∀ (H : Heap) (locs : List Loc) (ls : Array Slot), zH G n1 (ffill F f i k v) H → va_S (gA (zg G)) s.heap H locs → lv_has ls 4 [(2, .int (nI k)), (3, .int (nI n)), (0, .ref (zad G.2.2.2 f i)), (1, .int v)] → W p l e rm_J7_fill_53178 s m ([.ref (zad G.2.2.2 f i), .int v] : List Value).toArray below meth c H locs 0 0 (MQ below (zQv G n1 (fun F1 => F1 = ffill F f i n v)) ([.ref (zad G.2.2.2 f i), .int v] : List Value).toArray s 0 0 (gA (zg G))) (F0 m 5 ls []) := by
    intro d
    induction d with
    | zero =>
      intro k hk H locs ls hH hS hl
      obtain rfl : k = n := by omega
      refine lv_iload_n hx hb dJ7_fill_53178_5 rfl (lv_at hl 0 rfl) ?_
      refine lv_iload_n hx hb dJ7_fill_53178_6 rfl (lv_at hl 1 rfl) ?_
      refine lv_icmp_ge (tgt := 20) hx hb dJ7_fill_53178_7 (by decide) (fun c1 => ?_) (fun c1 => ?_)
      · exact W.vret hx hb hr (fun t ht hW => ⟨⟨ffill F f i k v, rfl, rfl, zH_at ht hH⟩, hS.F ht⟩) hS.2.2 dJ7_fill_53178_20
      · exact absurd (nI_le (Nat.le_refl _) hn) c1
    | succ d ih =>
      intro k hk H locs ls hH hS hl
      have hkn : k < n := by omega
      refine lv_iload_n hx hb dJ7_fill_53178_5 rfl (lv_at hl 0 rfl) ?_
      refine lv_iload_n hx hb dJ7_fill_53178_6 rfl (lv_at hl 1 rfl) ?_
      refine lv_icmp_ge (tgt := 20) hx hb dJ7_fill_53178_7 (by decide) (fun c1 => ?_) (fun c1 => ?_)
      · exact absurd c1 (nI_ge hkn hn)
      refine lv_aload_n hx hb dJ7_fill_53178_10 rfl (lv_at hl 2 rfl) ?_
      refine lv_iload_n hx hb dJ7_fill_53178_11 rfl (lv_at hl 0 rfl) ?_
      refine lv_iload_n hx hb dJ7_fill_53178_12 rfl (lv_at hl 3 rfl) ?_
      refine z_iast hx hb hK hH hS f i q0 hq0 n he (vp_in_nI hkn hn) dJ7_fill_53178_13 (fun H locs hH hS => ?_)
      skip
      have e1 : fs (ffill F f i k v) f i (nI k).toNatClampNeg v = ffill F f i (k + 1) v := by
        rw [nI_clamp (by omega)]
        funext f1 i1 k1
        simp only [fs, ffill]
        by_cases h : f1 = f ∧ i1 = i
        · obtain ⟨rfl, rfl⟩ := h
          by_cases h2 : k1 = k
          · subst h2
            simp
          · by_cases h3 : k1 < k
            · simp [h2, h3, Nat.lt_succ_of_lt h3]
            · have h4 : ¬ k1 < k + 1 := by omega
              simp [h2, h3, h4]
        · rw [if_neg (fun q => h ⟨q.1, q.2.1⟩), if_neg (fun q => h ⟨q.1, q.2.1⟩), if_neg (fun q => h ⟨q.1, q.2.1⟩)]
      rw [e1] at hH
      refine lv_iinc (v := nI (k + 1)) (lv' := [(2, .int (nI (k + 1))), (3, .int (nI n)), (0, .ref (zad G.2.2.2 f i)), (1, .int v)]) hx hb dJ7_fill_53178_14 hl (k := 0) rfl (nI_1 k) (by decide) rfl (fun ls hl => ?_)
      refine lv_goto (tgt := 5) hx hb dJ7_fill_53178_17 (by decide) ?_
      exact ih (k + 1) (by omega) H locs ls hH hS hl
  refine lv_iconst (v := 0) hx hb dJ7_fill_53178_0 (by decide) ?_
  refine lv_istore_n (lv' := [(2, .int 0), (0, .ref (zad G.2.2.2 f i)), (1, .int v)]) hx hb dJ7_fill_53178_1 rfl hl (by decide) rfl (fun ls hl => ?_)
  refine lv_aload_n hx hb dJ7_fill_53178_2 rfl (lv_at hl 1 rfl) ?_
  refine z_alen (v := nI n) hx hb hK hH f i q0 hq0 2 (he _) rfl rfl dJ7_fill_53178_3 ?_
  refine lv_istore_n (lv' := [(3, .int (nI n)), (2, .int 0), (0, .ref (zad G.2.2.2 f i)), (1, .int v)]) hx hb dJ7_fill_53178_4 rfl hl (by decide) rfl (fun ls hl => ?_)
  have e0 : ffill F f i 0 v = F := by
    funext f1 i1 k1
    simp [ffill]
  refine t_5 n 0 (by omega) _ _ _ (by rw [e0]; exact hH) hS (lv_sub hl [1, 0, 2, 3] rfl)
