abbrev rm_J7_fill_53178 : Room := { frames := 0, cells := 0, slots := 0, locals := 0 }
set_option maxHeartbeats 4000000 in
set_option maxRecDepth 100000 in
theorem c_J7_fill_53178 (l : Launch) (G : GP) (ad : Nat → Nat → Nat) (F : GF) (f i n : Nat) (v : Int32) (hf : f < 40) (hi : i < gcnt (gcn F) f) (h38 : f ≠ 38) (hn : n < 2 ^ 31) (he : ∀ z : Nat → Int32, gcell G.2.2.1 ad f i z = .inl (G.2.2.1 2, n, .inl z)) : Met l yJ7_fill_53178 wsJ7_fill_53178 rm_J7_fill_53178 (va_Pc [.ref (ad f i), .int v] (fun U => gD G ad F U ∧ True)) (gQv G ad (fun F1 => F1 = ffill F f i n v)) 0 0 (gA G) := by
  refine Met.ofW (cc := cJ7_fill_53178) (maxL := 4) (ret := none) (by decide) rfl ?_
  intro p e s m args below meth c s₁ Bd hml hv
  obtain ⟨rfl, ⟨hK, hG, hB, hH⟩, -⟩ := hv
  have hx := Bd.exec
  have hb := Bd.bytes
  have hr := Bd.returns
  have hlocks := Bd.notSynchronized
  have hS : va_S (gA G) s.heap s.heap [] := va_S.rf
  have hl := lv_entry [.ref (ad f i), .int v] (n := 4) (Nat.le_of_ble_eq_true rfl)
  rw [lg_entry_eq]
  generalize (lg_sl [.ref (ad f i), .int v] ++ List.replicate (4 - (lg_sl [.ref (ad f i), .int v]).length) Slot.unset).toArray = ls at hl ⊢
  have hl : lv_has ls 4 [(0, .ref (ad f i)), (1, .int v)] := hl
  show W p l e rm_J7_fill_53178 s m ([.ref (ad f i), .int v] : List Value).toArray below meth c s.heap [] 0 0 (MQ below (gQv G ad (fun F1 => F1 = ffill F f i n v)) ([.ref (ad f i), .int v] : List Value).toArray s 0 0 (gA G)) _
  have t_5 : ∀ (d k : Nat), k + d = n → ∀ (H : Heap) (locs : List Loc) (ls : Array Slot), gH G ad (ffill F f i k v) H → va_S (gA G) s.heap H locs → lv_has ls 4 [(2, .int (nI k)), (3, .int (nI n)), (0, .ref (ad f i)), (1, .int v)] → W p l e rm_J7_fill_53178 s m ([.ref (ad f i), .int v] : List Value).toArray below meth c H locs 0 0 (MQ below (gQv G ad (fun F1 => F1 = ffill F f i n v)) ([.ref (ad f i), .int v] : List Value).toArray s 0 0 (gA G)) (F0 m 5 ls []) := by
    intro d
    induction d with
    | zero =>
      intro k hk H locs ls hH hS hl
      obtain rfl : k = n := by omega
      refine lv_iload_n hx hb dJ7_fill_53178_5 rfl (lv_at hl 0 rfl) ?_
      refine lv_iload_n hx hb dJ7_fill_53178_6 rfl (lv_at hl 1 rfl) ?_
      refine lv_icmp_ge (tgt := 20) hx hb dJ7_fill_53178_7 (by decide) (fun c1 => ?_) (fun c1 => ?_)
      · exact W.vret hx hb hr (fun t ht hW => ⟨⟨ffill F f i k v, rfl, rfl, gH_at ht hH⟩, hS.F ht⟩) hS.2.2 dJ7_fill_53178_20
      · exact absurd (nI_le (Nat.le_refl _) hn) c1
    | succ d ih =>
      intro k hk H locs ls hH hS hl
      have hkn : k < n := by omega
      refine lv_iload_n hx hb dJ7_fill_53178_5 rfl (lv_at hl 0 rfl) ?_
      refine lv_iload_n hx hb dJ7_fill_53178_6 rfl (lv_at hl 1 rfl) ?_
      refine lv_icmp_ge (tgt := 20) hx hb dJ7_fill_53178_7 (by decide) (fun c1 => ?_) (fun c1 => ?_)
      · exact absurd c1 (nI_ge hkn hn)
      refine lv_aload_n hx hb dJ7_fill_53178_10 rfl (lv_at hl 2 rfl) ?_
      refine lv_iload_n hx hb dJ7_fill_53178_11 rfl (lv_at hl 0 rfl) ?_
      refine lv_iload_n hx hb dJ7_fill_53178_12 rfl (lv_at hl 3 rfl) ?_
      have hcn : gcn (ffill F f i k v) = gcn F := by
        unfold gcn ffill
        rw [if_neg (fun h => h38 h.1.symm)]
      refine g_iast hx hb hK hH hS f i hf (by rw [hcn]; exact hi) h38 n he (vp_in_nI hkn hn) dJ7_fill_53178_13 (fun H locs hH hS => ?_)
      skip
      have e1 : fs (ffill F f i k v) f i (nI k).toNatClampNeg v = ffill F f i (k + 1) v := by
        rw [nI_clamp (by omega)]
        funext f1 i1 k1
        simp only [fs, ffill]
        by_cases h : f1 = f ∧ i1 = i
        · obtain ⟨rfl, rfl⟩ := h
          by_cases h2 : k1 = k
          · subst h2
            simp
          · by_cases h3 : k1 < k
            · simp [h2, h3, Nat.lt_succ_of_lt h3]
            · have h4 : ¬ k1 < k + 1 := by omega
              simp [h2, h3, h4]
        · rw [if_neg (fun q => h ⟨q.1, q.2.1⟩), if_neg (fun q => h ⟨q.1, q.2.1⟩), if_neg (fun q => h ⟨q.1, q.2.1⟩)]
      rw [e1] at hH
      refine lv_iinc (v := nI (k + 1)) (lv' := [(2, .int (nI (k + 1))), (3, .int (nI n)), (0, .ref (ad f i)), (1, .int v)]) hx hb dJ7_fill_53178_14 hl (k := 0) rfl (nI_1 k) (by decide) rfl (fun ls hl => ?_)
      refine lv_goto (tgt := 5) hx hb dJ7_fill_53178_17 (by decide) ?_
      exact ih (k + 1) (by omega) H locs ls hH hS hl
  refine lv_iconst (v := 0) hx hb dJ7_fill_53178_0 (by decide) ?_
  refine lv_istore_n (lv' := [(2, .int 0), (0, .ref (ad f i)), (1, .int v)]) hx hb dJ7_fill_53178_1 rfl hl (by decide) rfl (fun ls hl => ?_)
  refine lv_aload_n hx hb dJ7_fill_53178_2 rfl (lv_at hl 1 rfl) ?_
  refine g_alen (v := nI n) hx hb hK hH f i hf hi 2 (he _) rfl rfl dJ7_fill_53178_3 ?_
  refine lv_istore_n (lv' := [(3, .int (nI n)), (2, .int 0), (0, .ref (ad f i)), (1, .int v)]) hx hb dJ7_fill_53178_4 rfl hl (by decide) rfl (fun ls hl => ?_)
  have e0 : ffill F f i 0 v = F := by
    funext f1 i1 k1
    simp [ffill]
  refine t_5 n 0 (by omega) _ _ _ (by rw [e0]; exact hH) hS (lv_sub hl [1, 0, 2, 3] rfl)
