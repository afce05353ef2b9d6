theorem zfl_fs {F : GF} {f i k : Nat} {v : Int32} (hk : f ≠ 40 ∨ k ∉ [18, 20, 21, 22, 28, 31, 32]) (h : zfl F) : zfl (fs F f i k v) := by
  intro k1 h1
  show (if 40 = f ∧ 0 = i ∧ k1 = k then v else F 40 0 k1) = 1
  rw [if_neg (fun q => by
    rcases hk with hk | hk
    · exact hk q.1.symm
    · exact hk (q.2.2 ▸ h1))]
  exact h k1 h1
theorem zv_get {x : Int32} {a : Nat} (h : x = 1) : some (zv x a) = some (Value.ref a) := by
  rw [h]
  rfl
abbrev rz_X11_clears : Room := { frames := 0, cells := 0, slots := 0, locals := 0 }
abbrev qz_X11_clears (G : GP) (K : GF → Prop) (below : List Frame) (args : Array Value) (s : State) : State → Prop := MQ below (zQv G 143 K) args s 0 0 (gA G)
set_option maxHeartbeats 4000000 in
set_option maxRecDepth 100000 in
theorem cz_X11_clears (l : Launch) (G : GP) (F : GF) (K : GF → Prop) : Met l yX11_clears wsX11_clears rz_X11_clears (va_Pc [.ref (zad G.2.2.2 40 0)] (fun U => zD G 143 F U ∧ zfl F ∧ P_X11_clears F K)) (zQv G 143 K) 0 0 (gA G) := by
  refine Met.ofW (cc := cX11_clears) (maxL := 2) (ret := none) (by decide) rfl ?_
  intro p e s m args below meth c s₁ Bd hml hv
  obtain ⟨rfl, ⟨⟨hK, hG, hZ⟩, hH, hsz⟩, hfl, q⟩ := hv
  have hx := Bd.exec
  have hb := Bd.bytes
  have hr := Bd.returns
  have hts := atoms_spec (ws := wsX11_clears) Bd.pre
  have hown : s.vm.findClass RX11 = some m.cls := findClass_of_methodNamed Bd.named
  have hlocks := Bd.notSynchronized
  have hS : va_S (gA G) s.heap s.heap [] := va_S.rf
  have hl := lv_entry [.ref (zad G.2.2.2 40 0)] (n := 2) (Nat.le_of_ble_eq_true rfl)
  rw [lg_entry_eq]
  generalize (lg_sl [.ref (zad G.2.2.2 40 0)] ++ List.replicate (2 - (lg_sl [.ref (zad G.2.2.2 40 0)]).length) Slot.unset).toArray = ls at hl ⊢
  have hl : lv_has ls 2 [(0, .ref (zad G.2.2.2 40 0))] := hl
  show W p l e rz_X11_clears s m ([.ref (zad G.2.2.2 40 0)] : List Value).toArray below meth c s.heap [] 0 0 (qz_X11_clears G K below ([.ref (zad G.2.2.2 40 0)] : List Value).toArray s) _
  have t_45 : ∀ n : Nat, ∀ (F : GF) (x1 : Int32) (H : Heap) (locs : List Loc) (ls : Array Slot), zH G 143 F H → zfl F → va_S (gA G) s.heap H locs → lv_has ls 2 [(0, .ref (zad G.2.2.2 40 0)), (1, .int x1)] → (P_X11_clears_45 K n) F x1 → W p l e rz_X11_clears s m ([.ref (zad G.2.2.2 40 0)] : List Value).toArray below meth c H locs 0 0 (qz_X11_clears G K below ([.ref (zad G.2.2.2 40 0)] : List Value).toArray s) (F0 m 45 ls []) := by
    intro n
    induction n with
    | zero =>
      intro F x1 H locs ls hH hfl hS hl q
      exact False.elim q
    | succ n ih =>
      intro F x1 H locs ls hH hfl hS hl q
      rw [P_X11_clears_45] at q
      refine lv_iload_n hx hb dX11_clears_45 rfl (lv_at hl 1 rfl) ?_
      refine lv_iconst (v := 5) hx hb dX11_clears_46 (by decide) ?_
      refine lv_icmp_ge (tgt := 91) hx hb dX11_clears_47 (by decide) (fun c5 => ?_) (fun c5 => ?_)
      · have q := (if_pos c5).mp q
        exact (W.vret hx hb hr (fun t ht hW => ⟨⟨F, rfl, q, zH_at ht hH⟩, hS.F ht⟩) hS.2.2 dX11_clears_91)
      · have q := (if_neg c5).mp q
        refine lv_aload_n hx hb dX11_clears_50 rfl (lv_at hl 0 rfl) ?_
        refine z_get (ci := 15) (v := .ref (zad G.2.2.2 51 0)) (C := RX11) (T := TX11) (N := 44) hx hb hts (fun _ h => (List.mem_cons_of_mem _ (List.mem_append_left _ (List.mem_append_right _ h)))) hown hK hH 40 0 112 (by rfl) rfl rfl 18 (by decide) (hts (.fieldLink RX11 45 "BallotFoundryModel" "seed" "[I") (List.mem_of_getElem? (i := 6) rfl)) (fun _ h => h) (zv_get (hfl 18 (by decide))) dX11_clears_51 ?_
        refine lv_iload_n hx hb dX11_clears_54 rfl (lv_at hl 1 rfl) ?_
        refine lv_iconst (v := 0) hx hb dX11_clears_55 (by decide) ?_
        obtain ⟨h6, q⟩ := q
        refine z_iast hx hb hK hH hS 51 0 123 (by rfl) 5 (fun _ => rfl) h6 dX11_clears_56 (fun H locs hH hS => ?_)
        obtain ⟨F7, eF7⟩ : ∃ z, z = fs F 51 0 x1.toNatClampNeg 0 := ⟨_, rfl⟩
        have q := q F7 eF7
        rw [← eF7] at hH
        have hfl : zfl F7 := by rw [eF7]; exact zfl_fs (Or.inl (by decide)) hfl
        refine lv_aload_n hx hb dX11_clears_57 rfl (lv_at hl 0 rfl) ?_
        refine z_get (ci := 15) (v := .ref (zad G.2.2.2 53 0)) (C := RX11) (T := TX11) (N := 44) hx hb hts (fun _ h => (List.mem_cons_of_mem _ (List.mem_append_left _ (List.mem_append_right _ h)))) hown hK hH 40 0 112 (by rfl) rfl rfl 21 (by decide) (hts (.fieldLink RX11 51 "BallotFoundryModel" "crowd" "[I") (List.mem_of_getElem? (i := 7) rfl)) (fun _ h => h) (zv_get (hfl 21 (by decide))) dX11_clears_58 ?_
        refine lv_iload_n hx hb dX11_clears_61 rfl (lv_at hl 1 rfl) ?_
        refine lv_iconst (v := 0) hx hb dX11_clears_62 (by decide) ?_
        obtain ⟨h8, q⟩ := q
        refine z_iast hx hb hK hH hS 53 0 125 (by rfl) 5 (fun _ => rfl) h8 dX11_clears_63 (fun H locs hH hS => ?_)
        obtain ⟨F9, eF9⟩ : ∃ z, z = fs F7 53 0 x1.toNatClampNeg 0 := ⟨_, rfl⟩
        have q := q F9 eF9
        rw [← eF9] at hH
        have hfl : zfl F9 := by rw [eF9]; exact zfl_fs (Or.inl (by decide)) hfl
        refine lv_aload_n hx hb dX11_clears_64 rfl (lv_at hl 0 rfl) ?_
        refine z_get (ci := 15) (v := .ref (zad G.2.2.2 59 0)) (C := RX11) (T := TX11) (N := 44) hx hb hts (fun _ h => (List.mem_cons_of_mem _ (List.mem_append_left _ (List.mem_append_right _ h)))) hown hK hH 40 0 112 (by rfl) rfl rfl 28 (by decide) (hts (.fieldLink RX11 69 "BallotFoundryModel" "ballots" "[I") (List.mem_of_getElem? (i := 8) rfl)) (fun _ h => h) (zv_get (hfl 28 (by decide))) dX11_clears_65 ?_
        refine lv_iload_n hx hb dX11_clears_68 rfl (lv_at hl 1 rfl) ?_
        refine lv_iconst (v := 0) hx hb dX11_clears_69 (by decide) ?_
        obtain ⟨h10, q⟩ := q
        refine z_iast hx hb hK hH hS 59 0 131 (by rfl) 5 (fun _ => rfl) h10 dX11_clears_70 (fun H locs hH hS => ?_)
        obtain ⟨F11, eF11⟩ : ∃ z, z = fs F9 59 0 x1.toNatClampNeg 0 := ⟨_, rfl⟩
        have q := q F11 eF11
        rw [← eF11] at hH
        have hfl : zfl F11 := by rw [eF11]; exact zfl_fs (Or.inl (by decide)) hfl
        refine lv_aload_n hx hb dX11_clears_71 rfl (lv_at hl 0 rfl) ?_
        refine z_get (ci := 15) (v := .ref (zad G.2.2.2 62 0)) (C := RX11) (T := TX11) (N := 44) hx hb hts (fun _ h => (List.mem_cons_of_mem _ (List.mem_append_left _ (List.mem_append_right _ h)))) hown hK hH 40 0 112 (by rfl) rfl rfl 31 (by decide) (hts (.fieldLink RX11 78 "BallotFoundryModel" "counts" "[I") (List.mem_of_getElem? (i := 9) rfl)) (fun _ h => h) (zv_get (hfl 31 (by decide))) dX11_clears_72 ?_
        refine lv_iload_n hx hb dX11_clears_75 rfl (lv_at hl 1 rfl) ?_
        refine lv_iconst (v := 0) hx hb dX11_clears_76 (by decide) ?_
        obtain ⟨h12, q⟩ := q
        refine z_iast hx hb hK hH hS 62 0 134 (by rfl) 5 (fun _ => rfl) h12 dX11_clears_77 (fun H locs hH hS => ?_)
        obtain ⟨F13, eF13⟩ : ∃ z, z = fs F11 62 0 x1.toNatClampNeg 0 := ⟨_, rfl⟩
        have q := q F13 eF13
        rw [← eF13] at hH
        have hfl : zfl F13 := by rw [eF13]; exact zfl_fs (Or.inl (by decide)) hfl
        refine lv_aload_n hx hb dX11_clears_78 rfl (lv_at hl 0 rfl) ?_
        refine z_get (ci := 15) (v := .ref (zad G.2.2.2 63 0)) (C := RX11) (T := TX11) (N := 44) hx hb hts (fun _ h => (List.mem_cons_of_mem _ (List.mem_append_left _ (List.mem_append_right _ h)))) hown hK hH 40 0 112 (by rfl) rfl rfl 32 (by decide) (hts (.fieldLink RX11 81 "BallotFoundryModel" "settled" "[I") (List.mem_of_getElem? (i := 10) rfl)) (fun _ h => h) (zv_get (hfl 32 (by decide))) dX11_clears_79 ?_
        refine lv_iload_n hx hb dX11_clears_82 rfl (lv_at hl 1 rfl) ?_
        refine lv_iconst (v := (-1)) hx hb dX11_clears_83 (by decide) ?_
        obtain ⟨h14, q⟩ := q
        refine z_iast hx hb hK hH hS 63 0 135 (by rfl) 5 (fun _ => rfl) h14 dX11_clears_84 (fun H locs hH hS => ?_)
        obtain ⟨F15, eF15⟩ : ∃ z, z = fs F13 63 0 x1.toNatClampNeg (-1) := ⟨_, rfl⟩
        have q := q F15 eF15
        rw [← eF15] at hH
        have hfl : zfl F15 := by rw [eF15]; exact zfl_fs (Or.inl (by decide)) hfl
        refine lv_iinc (v := x1 + 1) (lv' := [(1, .int (x1 + 1)), (0, .ref (zad G.2.2.2 40 0))]) hx hb dX11_clears_85 hl (k := 1) rfl rfl (by decide) rfl (fun ls hl => ?_)
        refine lv_goto (tgt := 45) hx hb dX11_clears_88 (by decide) ?_
        exact ih F15 (x1 + 1) _ _ _ hH hfl hS (lv_sub hl [1, 0] rfl) q
  have t_17 : ∀ n : Nat, ∀ (F : GF) (x1 : Int32) (H : Heap) (locs : List Loc) (ls : Array Slot), zH G 143 F H → zfl F → va_S (gA G) s.heap H locs → lv_has ls 2 [(0, .ref (zad G.2.2.2 40 0)), (1, .int x1)] → (P_X11_clears_17 K n) F x1 → W p l e rz_X11_clears s m ([.ref (zad G.2.2.2 40 0)] : List Value).toArray below meth c H locs 0 0 (qz_X11_clears G K below ([.ref (zad G.2.2.2 40 0)] : List Value).toArray s) (F0 m 17 ls []) := by
    intro n
    induction n with
    | zero =>
      intro F x1 H locs ls hH hfl hS hl q
      exact False.elim q
    | succ n ih =>
      intro F x1 H locs ls hH hfl hS hl q
      rw [P_X11_clears_17] at q
      refine lv_iload_n hx hb dX11_clears_17 rfl (lv_at hl 1 rfl) ?_
      refine lv_bipush (v := 20) hx hb dX11_clears_18 (by decide) ?_
      refine lv_icmp_ge (tgt := 43) hx hb dX11_clears_20 (by decide) (fun c4 => ?_) (fun c4 => ?_)
      · have q := (if_pos c4).mp q
        refine lv_iconst (v := 0) hx hb dX11_clears_43 (by decide) ?_
        refine lv_istore_n (lv' := [(1, .int 0), (0, .ref (zad G.2.2.2 40 0))]) hx hb dX11_clears_44 rfl hl (by decide) rfl (fun ls hl => ?_)
        obtain ⟨nn, q⟩ := q
        exact t_45 nn F 0 _ _ _ hH hfl hS (lv_sub hl [1, 0] rfl) q
      · have q := (if_neg c4).mp q
        refine lv_aload_n hx hb dX11_clears_23 rfl (lv_at hl 0 rfl) ?_
        refine z_get (ci := 15) (v := .ref (zad G.2.2.2 52 0)) (C := RX11) (T := TX11) (N := 44) hx hb hts (fun _ h => (List.mem_cons_of_mem _ (List.mem_append_left _ (List.mem_append_right _ h)))) hown hK hH 40 0 112 (by rfl) rfl rfl 20 (by decide) (hts (.fieldLink RX11 48 "BallotFoundryModel" "ownStation" "[I") (List.mem_of_getElem? (i := 4) rfl)) (fun _ h => h) (zv_get (hfl 20 (by decide))) dX11_clears_24 ?_
        refine lv_iload_n hx hb dX11_clears_27 rfl (lv_at hl 1 rfl) ?_
        refine lv_iconst (v := (-1)) hx hb dX11_clears_28 (by decide) ?_
        obtain ⟨h16, q⟩ := q
        refine z_iast hx hb hK hH hS 52 0 124 (by rfl) 20 (fun _ => rfl) h16 dX11_clears_29 (fun H locs hH hS => ?_)
        obtain ⟨F17, eF17⟩ : ∃ z, z = fs F 52 0 x1.toNatClampNeg (-1) := ⟨_, rfl⟩
        have q := q F17 eF17
        rw [← eF17] at hH
        have hfl : zfl F17 := by rw [eF17]; exact zfl_fs (Or.inl (by decide)) hfl
        refine lv_aload_n hx hb dX11_clears_30 rfl (lv_at hl 0 rfl) ?_
        refine z_get (ci := 15) (v := .ref (zad G.2.2.2 54 0)) (C := RX11) (T := TX11) (N := 44) hx hb hts (fun _ h => (List.mem_cons_of_mem _ (List.mem_append_left _ (List.mem_append_right _ h)))) hown hK hH 40 0 112 (by rfl) rfl rfl 22 (by decide) (hts (.fieldLink RX11 54 "BallotFoundryModel" "voted" "[Z") (List.mem_of_getElem? (i := 5) rfl)) (fun _ h => h) (zv_get (hfl 22 (by decide))) dX11_clears_31 ?_
        refine lv_iload_n hx hb dX11_clears_34 rfl (lv_at hl 1 rfl) ?_
        refine lv_iconst (v := 0) hx hb dX11_clears_35 (by decide) ?_
        obtain ⟨h18, q⟩ := q
        refine z_zast hx hb hK hH hS 54 0 126 (by rfl) 20 (fun _ => rfl) h18 dX11_clears_36 (fun H locs hH hS => ?_)
        rw [gz_vp (by decide)] at hH
        obtain ⟨F19, eF19⟩ : ∃ z, z = fs F17 54 0 x1.toNatClampNeg 0 := ⟨_, rfl⟩
        have q := q F19 eF19
        rw [← eF19] at hH
        have hfl : zfl F19 := by rw [eF19]; exact zfl_fs (Or.inl (by decide)) hfl
        refine lv_iinc (v := x1 + 1) (lv' := [(1, .int (x1 + 1)), (0, .ref (zad G.2.2.2 40 0))]) hx hb dX11_clears_37 hl (k := 1) rfl rfl (by decide) rfl (fun ls hl => ?_)
        refine lv_goto (tgt := 17) hx hb dX11_clears_40 (by decide) ?_
        exact ih F19 (x1 + 1) _ _ _ hH hfl hS (lv_sub hl [1, 0] rfl) q
  unfold P_X11_clears at q
  refine lv_aload_n hx hb dX11_clears_0 rfl (lv_at hl 0 rfl) ?_
  refine lv_iconst (v := 0) hx hb dX11_clears_1 (by decide) ?_
  refine z_put (ci := 15) (v := .int 0) (C := RX11) (T := TX11) (N := 44) hx hb hts (fun _ h => (List.mem_cons_of_mem _ (List.mem_append_left _ (List.mem_append_right _ h)))) tyX11 tyX11_ok nmX11 hown hK hH hS 40 0 112 (by rfl) rfl rfl 19 (by decide) (hts (.fieldLink RX11 178 "BallotFoundryModel" "inElection" "I") (List.mem_of_getElem? (i := 1) rfl)) (fun _ h => h) rfl (ty := .int) (by decide +kernel) rfl rfl (Nat.le_of_ble_eq_true rfl) 0 rfl dX11_clears_2 (fun H locs hH hS => ?_)
  obtain ⟨F1, eF1⟩ : ∃ z, z = fs F 40 0 19 0 := ⟨_, rfl⟩
  have q := q F1 eF1
  rw [← eF1] at hH
  have hfl : zfl F1 := by rw [eF1]; exact zfl_fs (Or.inr (by decide)) hfl
  refine lv_aload_n hx hb dX11_clears_5 rfl (lv_at hl 0 rfl) ?_
  refine lv_iconst (v := 0) hx hb dX11_clears_6 (by decide) ?_
  refine z_put (ci := 15) (v := .int 0) (C := RX11) (T := TX11) (N := 44) hx hb hts (fun _ h => (List.mem_cons_of_mem _ (List.mem_append_left _ (List.mem_append_right _ h)))) tyX11 tyX11_ok nmX11 hown hK hH hS 40 0 112 (by rfl) rfl rfl 26 (by decide) (hts (.fieldLink RX11 165 "BallotFoundryModel" "envelopes" "I") (List.mem_of_getElem? (i := 2) rfl)) (fun _ h => h) rfl (ty := .int) (by decide +kernel) rfl rfl (Nat.le_of_ble_eq_true rfl) 0 rfl dX11_clears_7 (fun H locs hH hS => ?_)
  obtain ⟨F2, eF2⟩ : ∃ z, z = fs F1 40 0 26 0 := ⟨_, rfl⟩
  have q := q F2 eF2
  rw [← eF2] at hH
  have hfl : zfl F2 := by rw [eF2]; exact zfl_fs (Or.inr (by decide)) hfl
  refine lv_aload_n hx hb dX11_clears_10 rfl (lv_at hl 0 rfl) ?_
  refine lv_iconst (v := 0) hx hb dX11_clears_11 (by decide) ?_
  refine z_put (ci := 15) (v := .int 0) (C := RX11) (T := TX11) (N := 44) hx hb hts (fun _ h => (List.mem_cons_of_mem _ (List.mem_append_left _ (List.mem_append_right _ h)))) tyX11 tyX11_ok nmX11 hown hK hH hS 40 0 112 (by rfl) rfl rfl 42 (by decide) (hts (.fieldLink RX11 162 "BallotFoundryModel" "notes" "I") (List.mem_of_getElem? (i := 3) rfl)) (fun _ h => h) rfl (ty := .int) (by decide +kernel) rfl rfl (Nat.le_of_ble_eq_true rfl) 0 rfl dX11_clears_12 (fun H locs hH hS => ?_)
  obtain ⟨F3, eF3⟩ : ∃ z, z = fs F2 40 0 42 0 := ⟨_, rfl⟩
  have q := q F3 eF3
  rw [← eF3] at hH
  have hfl : zfl F3 := by rw [eF3]; exact zfl_fs (Or.inr (by decide)) hfl
  refine lv_iconst (v := 0) hx hb dX11_clears_15 (by decide) ?_
  refine lv_istore_n (lv' := [(1, .int 0), (0, .ref (zad G.2.2.2 40 0))]) hx hb dX11_clears_16 rfl hl (by decide) rfl (fun ls hl => ?_)
  obtain ⟨nn, q⟩ := q
  exact t_17 nn F3 0 _ _ _ hH hfl hS (lv_sub hl [1, 0] rfl) q
abbrev rz_X11_init : Room := { frames := 1, cells := 30, slots := 5483, locals := 21 }
set_option maxHeartbeats 4000000 in
set_option maxRecDepth 100000 in
theorem cz_X11_init (l : Launch) (G : GP) (F : GF) (K : GF → Prop) : Met l yX11_init wsX11_init rz_X11_init (va_Pc [.ref (zad G.2.2.2 40 0)] (fun U => zD G 113 F U ∧ PZ_X11_init F K)) (zQv G 143 K) 30 5483 (gA G) := by
  refine Met.ofW (cc := cX11_init) (maxL := 1) (ret := none) (by decide) rfl ?_
  intro p e s m args below meth c s₁ Bd hml hv
  obtain ⟨rfl, ⟨⟨hK, hG, hZ⟩, hH, hz⟩, q⟩ := hv
  have hx := Bd.exec
  have hb := Bd.bytes
  have hr := Bd.returns
  have hts := atoms_spec (ws := wsX11_init) Bd.pre
  have hown : s.vm.findClass RX11 = some m.cls := findClass_of_methodNamed Bd.named
  have hlocks := Bd.notSynchronized
  have hin : meth.name = "<init>" := (name_of_methodNamed Bd.named Bd.method).1
  have hS : va_S (gA G) s.heap s.heap [] := va_S.rf
  have hl := lv_entry [.ref (zad G.2.2.2 40 0)] (n := 1) (Nat.le_of_ble_eq_true rfl)
  rw [lg_entry_eq]
  generalize (lg_sl [.ref (zad G.2.2.2 40 0)] ++ List.replicate (1 - (lg_sl [.ref (zad G.2.2.2 40 0)]).length) Slot.unset).toArray = ls at hl ⊢
  have hl : lv_has ls 1 [(0, .ref (zad G.2.2.2 40 0))] := hl
  unfold PZ_X11_init at q
  refine lv_aload_n hx hb dX11_init_0 rfl (lv_at hl 0 rfl) ?_
  refine W.objInit hx hb hown (hts (.methodLink RX11 1 objectInit) (List.mem_of_getElem? (i := 1) rfl)) (hts (.instanceMethod objectInit) (List.mem_of_getElem? (i := 2) rfl)) (hts (.code objectInit ⟨#[0xb1]⟩ 1 none) (List.mem_of_getElem? (i := 3) rfl)) rfl (by rw [hml]; exact hl.1) rfl dX11_init_1 (Nat.le_of_ble_eq_true rfl) (Nat.le_of_ble_eq_true rfl) ?_
  refine W.eq (g2 := F0 m 4 ls []) rfl ?_
  refine lv_aload_n hx hb dX11_init_4 rfl (lv_at hl 0 rfl) ?_
  refine lv_bipush (v := 72) hx hb dX11_init_5 (by decide) ?_
  obtain ⟨h1, q⟩ := q
  refine z_newa (atype := .boolean) (ty := .boolean) (N' := 72) (a0 := (72, .inl (zdef 41))) hx hb (hts (.arrayClass .boolean) (List.mem_of_getElem? (i := 4) rfl)) rfl hK hH hS (n0 := 113) hz rfl (by decide) 41 0 3 (by rfl) (by rw [h1]; rfl) rfl (fun _ h => by cases h) (fun _ => rfl) (by decide) (by decide) (Nat.le_of_ble_eq_true rfl) (Nat.le_of_ble_eq_true rfl) (Nat.le_of_ble_eq_true rfl) dX11_init_7 (fun H hH hS => ?_)
  refine z_putF (ci := 15) (v := .ref (zad G.2.2.2 41 0)) (C := RX11) (T := TX11) (N := 44) hx hb hts (fun _ h => (List.mem_cons_of_mem _ (List.mem_append_left _ (List.mem_append_right _ h)))) tyX11 tyX11_ok nmX11 hown hK hH hS 40 0 112 (by rfl) rfl rfl 1 (by decide) (hts (.fieldLink RX11 7 "BallotFoundryModel" "barred" "[Z") (List.mem_of_getElem? (i := 5) rfl)) (fun _ h => h) rfl hin rfl (ty := tyX11 1) (by decide +kernel) rfl rfl (Nat.le_of_ble_eq_true rfl) 1 rfl dX11_init_9 (fun H locs hH hS => ?_)
  obtain ⟨F2, eF2⟩ : ∃ z, z = fs F 40 0 1 1 := ⟨_, rfl⟩
  have q := q F2 eF2
  rw [← eF2] at hH
  refine lv_aload_n hx hb dX11_init_12 rfl (lv_at hl 0 rfl) ?_
  refine lv_bipush (v := 36) hx hb dX11_init_13 (by decide) ?_
  obtain ⟨h3, q⟩ := q
  refine z_newa (atype := .int) (ty := .int) (N' := 36) (a0 := (36, .inl (zdef 42))) hx hb (hts (.arrayClass .int) (List.mem_of_getElem? (i := 6) rfl)) rfl hK hH hS (n0 := 113) hz rfl (by decide) 42 0 2 (by rfl) (by rw [h3]; rfl) rfl (fun _ h => by cases h) (fun _ => rfl) (by decide) (by decide) (Nat.le_of_ble_eq_true rfl) (Nat.le_of_ble_eq_true rfl) (Nat.le_of_ble_eq_true rfl) dX11_init_15 (fun H hH hS => ?_)
  refine z_putF (ci := 15) (v := .ref (zad G.2.2.2 42 0)) (C := RX11) (T := TX11) (N := 44) hx hb hts (fun _ h => (List.mem_cons_of_mem _ (List.mem_append_left _ (List.mem_append_right _ h)))) tyX11 tyX11_ok nmX11 hown hK hH hS 40 0 112 (by rfl) rfl rfl 2 (by decide) (hts (.fieldLink RX11 13 "BallotFoundryModel" "far" "[I") (List.mem_of_getElem? (i := 7) rfl)) (fun _ h => h) rfl hin rfl (ty := tyX11 2) (by decide +kernel) rfl rfl (Nat.le_of_ble_eq_true rfl) 1 rfl dX11_init_17 (fun H locs hH hS => ?_)
  obtain ⟨F4, eF4⟩ : ∃ z, z = fs F2 40 0 2 1 := ⟨_, rfl⟩
  have q := q F4 eF4
  rw [← eF4] at hH
  refine lv_aload_n hx hb dX11_init_20 rfl (lv_at hl 0 rfl) ?_
  refine lv_bipush (v := 36) hx hb dX11_init_21 (by decide) ?_
  obtain ⟨h5, q⟩ := q
  refine z_newa (atype := .int) (ty := .int) (N' := 36) (a0 := (36, .inl (zdef 43))) hx hb (hts (.arrayClass .int) (List.mem_of_getElem? (i := 6) rfl)) rfl hK hH hS (n0 := 113) hz rfl (by decide) 43 0 2 (by rfl) (by rw [h5]; rfl) rfl (fun _ h => by cases h) (fun _ => rfl) (by decide) (by decide) (Nat.le_of_ble_eq_true rfl) (Nat.le_of_ble_eq_true rfl) (Nat.le_of_ble_eq_true rfl) dX11_init_23 (fun H hH hS => ?_)
  refine z_putF (ci := 15) (v := .ref (zad G.2.2.2 43 0)) (C := RX11) (T := TX11) (N := 44) hx hb hts (fun _ h => (List.mem_cons_of_mem _ (List.mem_append_left _ (List.mem_append_right _ h)))) tyX11 tyX11_ok nmX11 hown hK hH hS 40 0 112 (by rfl) rfl rfl 3 (by decide) (hts (.fieldLink RX11 17 "BallotFoundryModel" "row" "[I") (List.mem_of_getElem? (i := 8) rfl)) (fun _ h => h) rfl hin rfl (ty := tyX11 3) (by decide +kernel) rfl rfl (Nat.le_of_ble_eq_true rfl) 1 rfl dX11_init_25 (fun H locs hH hS => ?_)
  obtain ⟨F6, eF6⟩ : ∃ z, z = fs F4 40 0 3 1 := ⟨_, rfl⟩
  have q := q F6 eF6
  rw [← eF6] at hH
  refine lv_aload_n hx hb dX11_init_28 rfl (lv_at hl 0 rfl) ?_
  refine lv_iconst (v := 5) hx hb dX11_init_29 (by decide) ?_
  obtain ⟨h7, q⟩ := q
  refine z_newa (atype := .int) (ty := .int) (N' := 5) (a0 := (5, .inl (zdef 44))) hx hb (hts (.arrayClass .int) (List.mem_of_getElem? (i := 6) rfl)) rfl hK hH hS (n0 := 113) hz rfl (by decide) 44 0 2 (by rfl) (by rw [h7]; rfl) rfl (fun _ h => by cases h) (fun _ => rfl) (by decide) (by decide) (Nat.le_of_ble_eq_true rfl) (Nat.le_of_ble_eq_true rfl) (Nat.le_of_ble_eq_true rfl) dX11_init_30 (fun H hH hS => ?_)
  refine z_putF (ci := 15) (v := .ref (zad G.2.2.2 44 0)) (C := RX11) (T := TX11) (N := 44) hx hb hts (fun _ h => (List.mem_cons_of_mem _ (List.mem_append_left _ (List.mem_append_right _ h)))) tyX11 tyX11_ok nmX11 hown hK hH hS 40 0 112 (by rfl) rfl rfl 4 (by decide) (hts (.fieldLink RX11 20 "BallotFoundryModel" "stationAt" "[I") (List.mem_of_getElem? (i := 9) rfl)) (fun _ h => h) rfl hin rfl (ty := tyX11 4) (by decide +kernel) rfl rfl (Nat.le_of_ble_eq_true rfl) 1 rfl dX11_init_32 (fun H locs hH hS => ?_)
  obtain ⟨F8, eF8⟩ : ∃ z, z = fs F6 40 0 4 1 := ⟨_, rfl⟩
  have q := q F8 eF8
  rw [← eF8] at hH
  refine lv_aload_n hx hb dX11_init_35 rfl (lv_at hl 0 rfl) ?_
  refine lv_iconst (v := 5) hx hb dX11_init_36 (by decide) ?_
  obtain ⟨h9, q⟩ := q
  refine z_newa (atype := .int) (ty := .int) (N' := 5) (a0 := (5, .inl (zdef 45))) hx hb (hts (.arrayClass .int) (List.mem_of_getElem? (i := 6) rfl)) rfl hK hH hS (n0 := 113) hz rfl (by decide) 45 0 2 (by rfl) (by rw [h9]; rfl) rfl (fun _ h => by cases h) (fun _ => rfl) (by decide) (by decide) (Nat.le_of_ble_eq_true rfl) (Nat.le_of_ble_eq_true rfl) (Nat.le_of_ble_eq_true rfl) dX11_init_37 (fun H hH hS => ?_)
  refine z_putF (ci := 15) (v := .ref (zad G.2.2.2 45 0)) (C := RX11) (T := TX11) (N := 44) hx hb hts (fun _ h => (List.mem_cons_of_mem _ (List.mem_append_left _ (List.mem_append_right _ h)))) tyX11 tyX11_ok nmX11 hown hK hH hS 40 0 112 (by rfl) rfl rfl 5 (by decide) (hts (.fieldLink RX11 23 "BallotFoundryModel" "room" "[I") (List.mem_of_getElem? (i := 10) rfl)) (fun _ h => h) rfl hin rfl (ty := tyX11 5) (by decide +kernel) rfl rfl (Nat.le_of_ble_eq_true rfl) 1 rfl dX11_init_39 (fun H locs hH hS => ?_)
  obtain ⟨F10, eF10⟩ : ∃ z, z = fs F8 40 0 5 1 := ⟨_, rfl⟩
  have q := q F10 eF10
  rw [← eF10] at hH
  refine lv_aload_n hx hb dX11_init_42 rfl (lv_at hl 0 rfl) ?_
  refine lv_bipush (v := 20) hx hb dX11_init_43 (by decide) ?_
  obtain ⟨h11, q⟩ := q
  refine z_newa (atype := .int) (ty := .int) (N' := 20) (a0 := (20, .inl (zdef 46))) hx hb (hts (.arrayClass .int) (List.mem_of_getElem? (i := 6) rfl)) rfl hK hH hS (n0 := 113) hz rfl (by decide) 46 0 2 (by rfl) (by rw [h11]; rfl) rfl (fun _ h => by cases h) (fun _ => rfl) (by decide) (by decide) (Nat.le_of_ble_eq_true rfl) (Nat.le_of_ble_eq_true rfl) (Nat.le_of_ble_eq_true rfl) dX11_init_45 (fun H hH hS => ?_)
  refine z_putF (ci := 15) (v := .ref (zad G.2.2.2 46 0)) (C := RX11) (T := TX11) (N := 44) hx hb hts (fun _ h => (List.mem_cons_of_mem _ (List.mem_append_left _ (List.mem_append_right _ h)))) tyX11 tyX11_ok nmX11 hown hK hH hS 40 0 112 (by rfl) rfl rfl 7 (by decide) (hts (.fieldLink RX11 26 "BallotFoundryModel" "ofAge" "[I") (List.mem_of_getElem? (i := 11) rfl)) (fun _ h => h) rfl hin rfl (ty := tyX11 7) (by decide +kernel) rfl rfl (Nat.le_of_ble_eq_true rfl) 1 rfl dX11_init_47 (fun H locs hH hS => ?_)
  obtain ⟨F12, eF12⟩ : ∃ z, z = fs F10 40 0 7 1 := ⟨_, rfl⟩
  have q := q F12 eF12
  rw [← eF12] at hH
  refine lv_aload_n hx hb dX11_init_50 rfl (lv_at hl 0 rfl) ?_
  refine lv_bipush (v := 20) hx hb dX11_init_51 (by decide) ?_
  obtain ⟨h13, q⟩ := q
  refine z_newa (atype := .boolean) (ty := .boolean) (N' := 20) (a0 := (20, .inl (zdef 47))) hx hb (hts (.arrayClass .boolean) (List.mem_of_getElem? (i := 4) rfl)) rfl hK hH hS (n0 := 113) hz rfl (by decide) 47 0 3 (by rfl) (by rw [h13]; rfl) rfl (fun _ h => by cases h) (fun _ => rfl) (by decide) (by decide) (Nat.le_of_ble_eq_true rfl) (Nat.le_of_ble_eq_true rfl) (Nat.le_of_ble_eq_true rfl) dX11_init_53 (fun H hH hS => ?_)
  refine z_putF (ci := 15) (v := .ref (zad G.2.2.2 47 0)) (C := RX11) (T := TX11) (N := 44) hx hb hts (fun _ h => (List.mem_cons_of_mem _ (List.mem_append_left _ (List.mem_append_right _ h)))) tyX11 tyX11_ok nmX11 hown hK hH hS 40 0 112 (by rfl) rfl rfl 8 (by decide) (hts (.fieldLink RX11 29 "BallotFoundryModel" "died" "[Z") (List.mem_of_getElem? (i := 12) rfl)) (fun _ h => h) rfl hin rfl (ty := tyX11 8) (by decide +kernel) rfl rfl (Nat.le_of_ble_eq_true rfl) 1 rfl dX11_init_55 (fun H locs hH hS => ?_)
  obtain ⟨F14, eF14⟩ : ∃ z, z = fs F12 40 0 8 1 := ⟨_, rfl⟩
  have q := q F14 eF14
  rw [← eF14] at hH
  refine lv_aload_n hx hb dX11_init_58 rfl (lv_at hl 0 rfl) ?_
  refine lv_sipush (v := 540) hx hb dX11_init_59 (by decide) ?_
  obtain ⟨h15, q⟩ := q
  refine z_newa (atype := .int) (ty := .int) (N' := 540) (a0 := (540, .inl (zdef 48))) hx hb (hts (.arrayClass .int) (List.mem_of_getElem? (i := 6) rfl)) rfl hK hH hS (n0 := 113) hz rfl (by decide) 48 0 2 (by rfl) (by rw [h15]; rfl) rfl (fun _ h => by cases h) (fun _ => rfl) (by decide) (by decide) (Nat.le_of_ble_eq_true rfl) (Nat.le_of_ble_eq_true rfl) (Nat.le_of_ble_eq_true rfl) dX11_init_62 (fun H hH hS => ?_)
  refine z_putF (ci := 15) (v := .ref (zad G.2.2.2 48 0)) (C := RX11) (T := TX11) (N := 44) hx hb hts (fun _ h => (List.mem_cons_of_mem _ (List.mem_append_left _ (List.mem_append_right _ h)))) tyX11 tyX11_ok nmX11 hown hK hH hS 40 0 112 (by rfl) rfl rfl 10 (by decide) (hts (.fieldLink RX11 32 "BallotFoundryModel" "who" "[I") (List.mem_of_getElem? (i := 13) rfl)) (fun _ h => h) rfl hin rfl (ty := tyX11 10) (by decide +kernel) rfl rfl (Nat.le_of_ble_eq_true rfl) 1 rfl dX11_init_64 (fun H locs hH hS => ?_)
  obtain ⟨F16, eF16⟩ : ∃ z, z = fs F14 40 0 10 1 := ⟨_, rfl⟩
  have q := q F16 eF16
  rw [← eF16] at hH
  refine lv_aload_n hx hb dX11_init_67 rfl (lv_at hl 0 rfl) ?_
  refine lv_sipush (v := 540) hx hb dX11_init_68 (by decide) ?_
  obtain ⟨h17, q⟩ := q
  refine z_newa (atype := .int) (ty := .int) (N' := 540) (a0 := (540, .inl (zdef 49))) hx hb (hts (.arrayClass .int) (List.mem_of_getElem? (i := 6) rfl)) rfl hK hH hS (n0 := 113) hz rfl (by decide) 49 0 2 (by rfl) (by rw [h17]; rfl) rfl (fun _ h => by cases h) (fun _ => rfl) (by decide) (by decide) (Nat.le_of_ble_eq_true rfl) (Nat.le_of_ble_eq_true rfl) (Nat.le_of_ble_eq_true rfl) dX11_init_71 (fun H hH hS => ?_)
  refine z_putF (ci := 15) (v := .ref (zad G.2.2.2 49 0)) (C := RX11) (T := TX11) (N := 44) hx hb hts (fun _ h => (List.mem_cons_of_mem _ (List.mem_append_left _ (List.mem_append_right _ h)))) tyX11 tyX11_ok nmX11 hown hK hH hS 40 0 112 (by rfl) rfl rfl 11 (by decide) (hts (.fieldLink RX11 35 "BallotFoundryModel" "when" "[I") (List.mem_of_getElem? (i := 14) rfl)) (fun _ h => h) rfl hin rfl (ty := tyX11 11) (by decide +kernel) rfl rfl (Nat.le_of_ble_eq_true rfl) 1 rfl dX11_init_73 (fun H locs hH hS => ?_)
  obtain ⟨F18, eF18⟩ : ∃ z, z = fs F16 40 0 11 1 := ⟨_, rfl⟩
  have q := q F18 eF18
  rw [← eF18] at hH
  refine lv_aload_n hx hb dX11_init_76 rfl (lv_at hl 0 rfl) ?_
  refine lv_sipush (v := 540) hx hb dX11_init_77 (by decide) ?_
  obtain ⟨h19, q⟩ := q
  refine z_newa (atype := .int) (ty := .int) (N' := 540) (a0 := (540, .inl (zdef 50))) hx hb (hts (.arrayClass .int) (List.mem_of_getElem? (i := 6) rfl)) rfl hK hH hS (n0 := 113) hz rfl (by decide) 50 0 2 (by rfl) (by rw [h19]; rfl) rfl (fun _ h => by cases h) (fun _ => rfl) (by decide) (by decide) (Nat.le_of_ble_eq_true rfl) (Nat.le_of_ble_eq_true rfl) (Nat.le_of_ble_eq_true rfl) dX11_init_80 (fun H hH hS => ?_)
  refine z_putF (ci := 15) (v := .ref (zad G.2.2.2 50 0)) (C := RX11) (T := TX11) (N := 44) hx hb hts (fun _ h => (List.mem_cons_of_mem _ (List.mem_append_left _ (List.mem_append_right _ h)))) tyX11 tyX11_ok nmX11 hown hK hH hS 40 0 112 (by rfl) rfl rfl 12 (by decide) (hts (.fieldLink RX11 38 "BallotFoundryModel" "where" "[I") (List.mem_of_getElem? (i := 15) rfl)) (fun _ h => h) rfl hin rfl (ty := tyX11 12) (by decide +kernel) rfl rfl (Nat.le_of_ble_eq_true rfl) 1 rfl dX11_init_82 (fun H locs hH hS => ?_)
  obtain ⟨F20, eF20⟩ : ∃ z, z = fs F18 40 0 12 1 := ⟨_, rfl⟩
  have q := q F20 eF20
  rw [← eF20] at hH
  refine lv_aload_n hx hb dX11_init_85 rfl (lv_at hl 0 rfl) ?_
  refine lv_iconst (v := 0) hx hb dX11_init_86 (by decide) ?_
  refine z_put (ci := 15) (v := .int 0) (C := RX11) (T := TX11) (N := 44) hx hb hts (fun _ h => (List.mem_cons_of_mem _ (List.mem_append_left _ (List.mem_append_right _ h)))) tyX11 tyX11_ok nmX11 hown hK hH hS 40 0 112 (by rfl) rfl rfl 14 (by decide) (hts (.fieldLink RX11 41 "BallotFoundryModel" "stage" "I") (List.mem_of_getElem? (i := 16) rfl)) (fun _ h => h) rfl (ty := .int) (by decide +kernel) rfl rfl (Nat.le_of_ble_eq_true rfl) 0 rfl dX11_init_87 (fun H locs hH hS => ?_)
  obtain ⟨F21, eF21⟩ : ∃ z, z = fs F20 40 0 14 0 := ⟨_, rfl⟩
  have q := q F21 eF21
  rw [← eF21] at hH
  refine lv_aload_n hx hb dX11_init_90 rfl (lv_at hl 0 rfl) ?_
  refine lv_iconst (v := 5) hx hb dX11_init_91 (by decide) ?_
  obtain ⟨h22, q⟩ := q
  refine z_newa (atype := .int) (ty := .int) (N' := 5) (a0 := (5, .inl (zdef 51))) hx hb (hts (.arrayClass .int) (List.mem_of_getElem? (i := 6) rfl)) rfl hK hH hS (n0 := 113) hz rfl (by decide) 51 0 2 (by rfl) (by rw [h22]; rfl) rfl (fun _ h => by cases h) (fun _ => rfl) (by decide) (by decide) (Nat.le_of_ble_eq_true rfl) (Nat.le_of_ble_eq_true rfl) (Nat.le_of_ble_eq_true rfl) dX11_init_92 (fun H hH hS => ?_)
  refine z_putF (ci := 15) (v := .ref (zad G.2.2.2 51 0)) (C := RX11) (T := TX11) (N := 44) hx hb hts (fun _ h => (List.mem_cons_of_mem _ (List.mem_append_left _ (List.mem_append_right _ h)))) tyX11 tyX11_ok nmX11 hown hK hH hS 40 0 112 (by rfl) rfl rfl 18 (by decide) (hts (.fieldLink RX11 45 "BallotFoundryModel" "seed" "[I") (List.mem_of_getElem? (i := 17) rfl)) (fun _ h => h) rfl hin rfl (ty := tyX11 18) (by decide +kernel) rfl rfl (Nat.le_of_ble_eq_true rfl) 1 rfl dX11_init_94 (fun H locs hH hS => ?_)
  obtain ⟨F23, eF23⟩ : ∃ z, z = fs F21 40 0 18 1 := ⟨_, rfl⟩
  have q := q F23 eF23
  rw [← eF23] at hH
  refine lv_aload_n hx hb dX11_init_97 rfl (lv_at hl 0 rfl) ?_
  refine lv_bipush (v := 20) hx hb dX11_init_98 (by decide) ?_
  obtain ⟨h24, q⟩ := q
  refine z_newa (atype := .int) (ty := .int) (N' := 20) (a0 := (20, .inl (zdef 52))) hx hb (hts (.arrayClass .int) (List.mem_of_getElem? (i := 6) rfl)) rfl hK hH hS (n0 := 113) hz rfl (by decide) 52 0 2 (by rfl) (by rw [h24]; rfl) rfl (fun _ h => by cases h) (fun _ => rfl) (by decide) (by decide) (Nat.le_of_ble_eq_true rfl) (Nat.le_of_ble_eq_true rfl) (Nat.le_of_ble_eq_true rfl) dX11_init_100 (fun H hH hS => ?_)
  refine z_putF (ci := 15) (v := .ref (zad G.2.2.2 52 0)) (C := RX11) (T := TX11) (N := 44) hx hb hts (fun _ h => (List.mem_cons_of_mem _ (List.mem_append_left _ (List.mem_append_right _ h)))) tyX11 tyX11_ok nmX11 hown hK hH hS 40 0 112 (by rfl) rfl rfl 20 (by decide) (hts (.fieldLink RX11 48 "BallotFoundryModel" "ownStation" "[I") (List.mem_of_getElem? (i := 18) rfl)) (fun _ h => h) rfl hin rfl (ty := tyX11 20) (by decide +kernel) rfl rfl (Nat.le_of_ble_eq_true rfl) 1 rfl dX11_init_102 (fun H locs hH hS => ?_)
  obtain ⟨F25, eF25⟩ : ∃ z, z = fs F23 40 0 20 1 := ⟨_, rfl⟩
  have q := q F25 eF25
  rw [← eF25] at hH
  refine lv_aload_n hx hb dX11_init_105 rfl (lv_at hl 0 rfl) ?_
  refine lv_iconst (v := 5) hx hb dX11_init_106 (by decide) ?_
  obtain ⟨h26, q⟩ := q
  refine z_newa (atype := .int) (ty := .int) (N' := 5) (a0 := (5, .inl (zdef 53))) hx hb (hts (.arrayClass .int) (List.mem_of_getElem? (i := 6) rfl)) rfl hK hH hS (n0 := 113) hz rfl (by decide) 53 0 2 (by rfl) (by rw [h26]; rfl) rfl (fun _ h => by cases h) (fun _ => rfl) (by decide) (by decide) (Nat.le_of_ble_eq_true rfl) (Nat.le_of_ble_eq_true rfl) (Nat.le_of_ble_eq_true rfl) dX11_init_107 (fun H hH hS => ?_)
  refine z_putF (ci := 15) (v := .ref (zad G.2.2.2 53 0)) (C := RX11) (T := TX11) (N := 44) hx hb hts (fun _ h => (List.mem_cons_of_mem _ (List.mem_append_left _ (List.mem_append_right _ h)))) tyX11 tyX11_ok nmX11 hown hK hH hS 40 0 112 (by rfl) rfl rfl 21 (by decide) (hts (.fieldLink RX11 51 "BallotFoundryModel" "crowd" "[I") (List.mem_of_getElem? (i := 19) rfl)) (fun _ h => h) rfl hin rfl (ty := tyX11 21) (by decide +kernel) rfl rfl (Nat.le_of_ble_eq_true rfl) 1 rfl dX11_init_109 (fun H locs hH hS => ?_)
  obtain ⟨F27, eF27⟩ : ∃ z, z = fs F25 40 0 21 1 := ⟨_, rfl⟩
  have q := q F27 eF27
  rw [← eF27] at hH
  refine lv_aload_n hx hb dX11_init_112 rfl (lv_at hl 0 rfl) ?_
  refine lv_bipush (v := 20) hx hb dX11_init_113 (by decide) ?_
  obtain ⟨h28, q⟩ := q
  refine z_newa (atype := .boolean) (ty := .boolean) (N' := 20) (a0 := (20, .inl (zdef 54))) hx hb (hts (.arrayClass .boolean) (List.mem_of_getElem? (i := 4) rfl)) rfl hK hH hS (n0 := 113) hz rfl (by decide) 54 0 3 (by rfl) (by rw [h28]; rfl) rfl (fun _ h => by cases h) (fun _ => rfl) (by decide) (by decide) (Nat.le_of_ble_eq_true rfl) (Nat.le_of_ble_eq_true rfl) (Nat.le_of_ble_eq_true rfl) dX11_init_115 (fun H hH hS => ?_)
  refine z_putF (ci := 15) (v := .ref (zad G.2.2.2 54 0)) (C := RX11) (T := TX11) (N := 44) hx hb hts (fun _ h => (List.mem_cons_of_mem _ (List.mem_append_left _ (List.mem_append_right _ h)))) tyX11 tyX11_ok nmX11 hown hK hH hS 40 0 112 (by rfl) rfl rfl 22 (by decide) (hts (.fieldLink RX11 54 "BallotFoundryModel" "voted" "[Z") (List.mem_of_getElem? (i := 20) rfl)) (fun _ h => h) rfl hin rfl (ty := tyX11 22) (by decide +kernel) rfl rfl (Nat.le_of_ble_eq_true rfl) 1 rfl dX11_init_117 (fun H locs hH hS => ?_)
  obtain ⟨F29, eF29⟩ : ∃ z, z = fs F27 40 0 22 1 := ⟨_, rfl⟩
  have q := q F29 eF29
  rw [← eF29] at hH
  refine lv_aload_n hx hb dX11_init_120 rfl (lv_at hl 0 rfl) ?_
  refine lv_bipush (v := 60) hx hb dX11_init_121 (by decide) ?_
  obtain ⟨h30, q⟩ := q
  refine z_newa (atype := .int) (ty := .int) (N' := 60) (a0 := (60, .inl (zdef 55))) hx hb (hts (.arrayClass .int) (List.mem_of_getElem? (i := 6) rfl)) rfl hK hH hS (n0 := 113) hz rfl (by decide) 55 0 2 (by rfl) (by rw [h30]; rfl) rfl (fun _ h => by cases h) (fun _ => rfl) (by decide) (by decide) (Nat.le_of_ble_eq_true rfl) (Nat.le_of_ble_eq_true rfl) (Nat.le_of_ble_eq_true rfl) dX11_init_123 (fun H hH hS => ?_)
  refine z_putF (ci := 15) (v := .ref (zad G.2.2.2 55 0)) (C := RX11) (T := TX11) (N := 44) hx hb hts (fun _ h => (List.mem_cons_of_mem _ (List.mem_append_left _ (List.mem_append_right _ h)))) tyX11 tyX11_ok nmX11 hown hK hH hS 40 0 112 (by rfl) rfl rfl 23 (by decide) (hts (.fieldLink RX11 57 "BallotFoundryModel" "envelopeOf" "[I") (List.mem_of_getElem? (i := 21) rfl)) (fun _ h => h) rfl hin rfl (ty := tyX11 23) (by decide +kernel) rfl rfl (Nat.le_of_ble_eq_true rfl) 1 rfl dX11_init_125 (fun H locs hH hS => ?_)
  obtain ⟨F31, eF31⟩ : ∃ z, z = fs F29 40 0 23 1 := ⟨_, rfl⟩
  have q := q F31 eF31
  rw [← eF31] at hH
  refine lv_aload_n hx hb dX11_init_128 rfl (lv_at hl 0 rfl) ?_
  refine lv_bipush (v := 60) hx hb dX11_init_129 (by decide) ?_
  obtain ⟨h32, q⟩ := q
  refine z_newa (atype := .int) (ty := .int) (N' := 60) (a0 := (60, .inl (zdef 56))) hx hb (hts (.arrayClass .int) (List.mem_of_getElem? (i := 6) rfl)) rfl hK hH hS (n0 := 113) hz rfl (by decide) 56 0 2 (by rfl) (by rw [h32]; rfl) rfl (fun _ h => by cases h) (fun _ => rfl) (by decide) (by decide) (Nat.le_of_ble_eq_true rfl) (Nat.le_of_ble_eq_true rfl) (Nat.le_of_ble_eq_true rfl) dX11_init_131 (fun H hH hS => ?_)
  refine z_putF (ci := 15) (v := .ref (zad G.2.2.2 56 0)) (C := RX11) (T := TX11) (N := 44) hx hb hts (fun _ h => (List.mem_cons_of_mem _ (List.mem_append_left _ (List.mem_append_right _ h)))) tyX11 tyX11_ok nmX11 hown hK hH hS 40 0 112 (by rfl) rfl rfl 24 (by decide) (hts (.fieldLink RX11 60 "BallotFoundryModel" "vote" "[I") (List.mem_of_getElem? (i := 22) rfl)) (fun _ h => h) rfl hin rfl (ty := tyX11 24) (by decide +kernel) rfl rfl (Nat.le_of_ble_eq_true rfl) 1 rfl dX11_init_133 (fun H locs hH hS => ?_)
  obtain ⟨F33, eF33⟩ : ∃ z, z = fs F31 40 0 24 1 := ⟨_, rfl⟩
  have q := q F33 eF33
  rw [← eF33] at hH
  refine lv_aload_n hx hb dX11_init_136 rfl (lv_at hl 0 rfl) ?_
  refine lv_bipush (v := 60) hx hb dX11_init_137 (by decide) ?_
  obtain ⟨h34, q⟩ := q
  refine z_newa (atype := .int) (ty := .int) (N' := 60) (a0 := (60, .inl (zdef 57))) hx hb (hts (.arrayClass .int) (List.mem_of_getElem? (i := 6) rfl)) rfl hK hH hS (n0 := 113) hz rfl (by decide) 57 0 2 (by rfl) (by rw [h34]; rfl) rfl (fun _ h => by cases h) (fun _ => rfl) (by decide) (by decide) (Nat.le_of_ble_eq_true rfl) (Nat.le_of_ble_eq_true rfl) (Nat.le_of_ble_eq_true rfl) dX11_init_139 (fun H hH hS => ?_)
  refine z_putF (ci := 15) (v := .ref (zad G.2.2.2 57 0)) (C := RX11) (T := TX11) (N := 44) hx hb hts (fun _ h => (List.mem_cons_of_mem _ (List.mem_append_left _ (List.mem_append_right _ h)))) tyX11 tyX11_ok nmX11 hown hK hH hS 40 0 112 (by rfl) rfl rfl 25 (by decide) (hts (.fieldLink RX11 63 "BallotFoundryModel" "state" "[I") (List.mem_of_getElem? (i := 23) rfl)) (fun _ h => h) rfl hin rfl (ty := tyX11 25) (by decide +kernel) rfl rfl (Nat.le_of_ble_eq_true rfl) 1 rfl dX11_init_141 (fun H locs hH hS => ?_)
  obtain ⟨F35, eF35⟩ : ∃ z, z = fs F33 40 0 25 1 := ⟨_, rfl⟩
  have q := q F35 eF35
  rw [← eF35] at hH
  refine lv_aload_n hx hb dX11_init_144 rfl (lv_at hl 0 rfl) ?_
  refine lv_bipush (v := 100) hx hb dX11_init_145 (by decide) ?_
  obtain ⟨h36, q⟩ := q
  refine z_newa (atype := .int) (ty := .int) (N' := 100) (a0 := (100, .inl (zdef 58))) hx hb (hts (.arrayClass .int) (List.mem_of_getElem? (i := 6) rfl)) rfl hK hH hS (n0 := 113) hz rfl (by decide) 58 0 2 (by rfl) (by rw [h36]; rfl) rfl (fun _ h => by cases h) (fun _ => rfl) (by decide) (by decide) (Nat.le_of_ble_eq_true rfl) (Nat.le_of_ble_eq_true rfl) (Nat.le_of_ble_eq_true rfl) dX11_init_147 (fun H hH hS => ?_)
  refine z_putF (ci := 15) (v := .ref (zad G.2.2.2 58 0)) (C := RX11) (T := TX11) (N := 44) hx hb hts (fun _ h => (List.mem_cons_of_mem _ (List.mem_append_left _ (List.mem_append_right _ h)))) tyX11 tyX11_ok nmX11 hown hK hH hS 40 0 112 (by rfl) rfl rfl 27 (by decide) (hts (.fieldLink RX11 66 "BallotFoundryModel" "box" "[I") (List.mem_of_getElem? (i := 24) rfl)) (fun _ h => h) rfl hin rfl (ty := tyX11 27) (by decide +kernel) rfl rfl (Nat.le_of_ble_eq_true rfl) 1 rfl dX11_init_149 (fun H locs hH hS => ?_)
  obtain ⟨F37, eF37⟩ : ∃ z, z = fs F35 40 0 27 1 := ⟨_, rfl⟩
  have q := q F37 eF37
  rw [← eF37] at hH
  refine lv_aload_n hx hb dX11_init_152 rfl (lv_at hl 0 rfl) ?_
  refine lv_iconst (v := 5) hx hb dX11_init_153 (by decide) ?_
  obtain ⟨h38, q⟩ := q
  refine z_newa (atype := .int) (ty := .int) (N' := 5) (a0 := (5, .inl (zdef 59))) hx hb (hts (.arrayClass .int) (List.mem_of_getElem? (i := 6) rfl)) rfl hK hH hS (n0 := 113) hz rfl (by decide) 59 0 2 (by rfl) (by rw [h38]; rfl) rfl (fun _ h => by cases h) (fun _ => rfl) (by decide) (by decide) (Nat.le_of_ble_eq_true rfl) (Nat.le_of_ble_eq_true rfl) (Nat.le_of_ble_eq_true rfl) dX11_init_154 (fun H hH hS => ?_)
  refine z_putF (ci := 15) (v := .ref (zad G.2.2.2 59 0)) (C := RX11) (T := TX11) (N := 44) hx hb hts (fun _ h => (List.mem_cons_of_mem _ (List.mem_append_left _ (List.mem_append_right _ h)))) tyX11 tyX11_ok nmX11 hown hK hH hS 40 0 112 (by rfl) rfl rfl 28 (by decide) (hts (.fieldLink RX11 69 "BallotFoundryModel" "ballots" "[I") (List.mem_of_getElem? (i := 25) rfl)) (fun _ h => h) rfl hin rfl (ty := tyX11 28) (by decide +kernel) rfl rfl (Nat.le_of_ble_eq_true rfl) 1 rfl dX11_init_156 (fun H locs hH hS => ?_)
  obtain ⟨F39, eF39⟩ : ∃ z, z = fs F37 40 0 28 1 := ⟨_, rfl⟩
  have q := q F39 eF39
  rw [← eF39] at hH
  refine lv_aload_n hx hb dX11_init_159 rfl (lv_at hl 0 rfl) ?_
  refine lv_sipush (v := 240) hx hb dX11_init_160 (by decide) ?_
  obtain ⟨h40, q⟩ := q
  refine z_newa (atype := .int) (ty := .int) (N' := 240) (a0 := (240, .inl (zdef 60))) hx hb (hts (.arrayClass .int) (List.mem_of_getElem? (i := 6) rfl)) rfl hK hH hS (n0 := 113) hz rfl (by decide) 60 0 2 (by rfl) (by rw [h40]; rfl) rfl (fun _ h => by cases h) (fun _ => rfl) (by decide) (by decide) (Nat.le_of_ble_eq_true rfl) (Nat.le_of_ble_eq_true rfl) (Nat.le_of_ble_eq_true rfl) dX11_init_163 (fun H hH hS => ?_)
  refine z_putF (ci := 15) (v := .ref (zad G.2.2.2 60 0)) (C := RX11) (T := TX11) (N := 44) hx hb hts (fun _ h => (List.mem_cons_of_mem _ (List.mem_append_left _ (List.mem_append_right _ h)))) tyX11 tyX11_ok nmX11 hown hK hH hS 40 0 112 (by rfl) rfl rfl 29 (by decide) (hts (.fieldLink RX11 72 "BallotFoundryModel" "number" "[I") (List.mem_of_getElem? (i := 26) rfl)) (fun _ h => h) rfl hin rfl (ty := tyX11 29) (by decide +kernel) rfl rfl (Nat.le_of_ble_eq_true rfl) 1 rfl dX11_init_165 (fun H locs hH hS => ?_)
  obtain ⟨F41, eF41⟩ : ∃ z, z = fs F39 40 0 29 1 := ⟨_, rfl⟩
  have q := q F41 eF41
  rw [← eF41] at hH
  refine lv_aload_n hx hb dX11_init_168 rfl (lv_at hl 0 rfl) ?_
  refine lv_bipush (v := 40) hx hb dX11_init_169 (by decide) ?_
  obtain ⟨h42, q⟩ := q
  refine z_newa (atype := .int) (ty := .int) (N' := 40) (a0 := (40, .inl (zdef 61))) hx hb (hts (.arrayClass .int) (List.mem_of_getElem? (i := 6) rfl)) rfl hK hH hS (n0 := 113) hz rfl (by decide) 61 0 2 (by rfl) (by rw [h42]; rfl) rfl (fun _ h => by cases h) (fun _ => rfl) (by decide) (by decide) (Nat.le_of_ble_eq_true rfl) (Nat.le_of_ble_eq_true rfl) (Nat.le_of_ble_eq_true rfl) dX11_init_171 (fun H hH hS => ?_)
  refine z_putF (ci := 15) (v := .ref (zad G.2.2.2 61 0)) (C := RX11) (T := TX11) (N := 44) hx hb hts (fun _ h => (List.mem_cons_of_mem _ (List.mem_append_left _ (List.mem_append_right _ h)))) tyX11 tyX11_ok nmX11 hown hK hH hS 40 0 112 (by rfl) rfl rfl 30 (by decide) (hts (.fieldLink RX11 75 "BallotFoundryModel" "counter" "[I") (List.mem_of_getElem? (i := 27) rfl)) (fun _ h => h) rfl hin rfl (ty := tyX11 30) (by decide +kernel) rfl rfl (Nat.le_of_ble_eq_true rfl) 1 rfl dX11_init_173 (fun H locs hH hS => ?_)
  obtain ⟨F43, eF43⟩ : ∃ z, z = fs F41 40 0 30 1 := ⟨_, rfl⟩
  have q := q F43 eF43
  rw [← eF43] at hH
  refine lv_aload_n hx hb dX11_init_176 rfl (lv_at hl 0 rfl) ?_
  refine lv_iconst (v := 5) hx hb dX11_init_177 (by decide) ?_
  obtain ⟨h44, q⟩ := q
  refine z_newa (atype := .int) (ty := .int) (N' := 5) (a0 := (5, .inl (zdef 62))) hx hb (hts (.arrayClass .int) (List.mem_of_getElem? (i := 6) rfl)) rfl hK hH hS (n0 := 113) hz rfl (by decide) 62 0 2 (by rfl) (by rw [h44]; rfl) rfl (fun _ h => by cases h) (fun _ => rfl) (by decide) (by decide) (Nat.le_of_ble_eq_true rfl) (Nat.le_of_ble_eq_true rfl) (Nat.le_of_ble_eq_true rfl) dX11_init_178 (fun H hH hS => ?_)
  refine z_putF (ci := 15) (v := .ref (zad G.2.2.2 62 0)) (C := RX11) (T := TX11) (N := 44) hx hb hts (fun _ h => (List.mem_cons_of_mem _ (List.mem_append_left _ (List.mem_append_right _ h)))) tyX11 tyX11_ok nmX11 hown hK hH hS 40 0 112 (by rfl) rfl rfl 31 (by decide) (hts (.fieldLink RX11 78 "BallotFoundryModel" "counts" "[I") (List.mem_of_getElem? (i := 28) rfl)) (fun _ h => h) rfl hin rfl (ty := tyX11 31) (by decide +kernel) rfl rfl (Nat.le_of_ble_eq_true rfl) 1 rfl dX11_init_180 (fun H locs hH hS => ?_)
  obtain ⟨F45, eF45⟩ : ∃ z, z = fs F43 40 0 31 1 := ⟨_, rfl⟩
  have q := q F45 eF45
  rw [← eF45] at hH
  refine lv_aload_n hx hb dX11_init_183 rfl (lv_at hl 0 rfl) ?_
  refine lv_iconst (v := 5) hx hb dX11_init_184 (by decide) ?_
  obtain ⟨h46, q⟩ := q
  refine z_newa (atype := .int) (ty := .int) (N' := 5) (a0 := (5, .inl (zdef 63))) hx hb (hts (.arrayClass .int) (List.mem_of_getElem? (i := 6) rfl)) rfl hK hH hS (n0 := 113) hz rfl (by decide) 63 0 2 (by rfl) (by rw [h46]; rfl) rfl (fun _ h => by cases h) (fun _ => rfl) (by decide) (by decide) (Nat.le_of_ble_eq_true rfl) (Nat.le_of_ble_eq_true rfl) (Nat.le_of_ble_eq_true rfl) dX11_init_185 (fun H hH hS => ?_)
  refine z_putF (ci := 15) (v := .ref (zad G.2.2.2 63 0)) (C := RX11) (T := TX11) (N := 44) hx hb hts (fun _ h => (List.mem_cons_of_mem _ (List.mem_append_left _ (List.mem_append_right _ h)))) tyX11 tyX11_ok nmX11 hown hK hH hS 40 0 112 (by rfl) rfl rfl 32 (by decide) (hts (.fieldLink RX11 81 "BallotFoundryModel" "settled" "[I") (List.mem_of_getElem? (i := 29) rfl)) (fun _ h => h) rfl hin rfl (ty := tyX11 32) (by decide +kernel) rfl rfl (Nat.le_of_ble_eq_true rfl) 1 rfl dX11_init_187 (fun H locs hH hS => ?_)
  obtain ⟨F47, eF47⟩ : ∃ z, z = fs F45 40 0 32 1 := ⟨_, rfl⟩
  have q := q F47 eF47
  rw [← eF47] at hH
  refine lv_aload_n hx hb dX11_init_190 rfl (lv_at hl 0 rfl) ?_
  refine lv_iconst (v := 4) hx hb dX11_init_191 (by decide) ?_
  obtain ⟨h48, q⟩ := q
  refine z_newa (atype := .int) (ty := .int) (N' := 4) (a0 := (4, .inl (zdef 64))) hx hb (hts (.arrayClass .int) (List.mem_of_getElem? (i := 6) rfl)) rfl hK hH hS (n0 := 113) hz rfl (by decide) 64 0 2 (by rfl) (by rw [h48]; rfl) rfl (fun _ h => by cases h) (fun _ => rfl) (by decide) (by decide) (Nat.le_of_ble_eq_true rfl) (Nat.le_of_ble_eq_true rfl) (Nat.le_of_ble_eq_true rfl) dX11_init_192 (fun H hH hS => ?_)
  refine z_putF (ci := 15) (v := .ref (zad G.2.2.2 64 0)) (C := RX11) (T := TX11) (N := 44) hx hb hts (fun _ h => (List.mem_cons_of_mem _ (List.mem_append_left _ (List.mem_append_right _ h)))) tyX11 tyX11_ok nmX11 hown hK hH hS 40 0 112 (by rfl) rfl rfl 33 (by decide) (hts (.fieldLink RX11 84 "BallotFoundryModel" "slip" "[I") (List.mem_of_getElem? (i := 30) rfl)) (fun _ h => h) rfl hin rfl (ty := tyX11 33) (by decide +kernel) rfl rfl (Nat.le_of_ble_eq_true rfl) 1 rfl dX11_init_194 (fun H locs hH hS => ?_)
  obtain ⟨F49, eF49⟩ : ∃ z, z = fs F47 40 0 33 1 := ⟨_, rfl⟩
  have q := q F49 eF49
  rw [← eF49] at hH
  refine lv_aload_n hx hb dX11_init_197 rfl (lv_at hl 0 rfl) ?_
  refine lv_iconst (v := 5) hx hb dX11_init_198 (by decide) ?_
  obtain ⟨h50, q⟩ := q
  refine z_newa (atype := .int) (ty := .int) (N' := 5) (a0 := (5, .inl (zdef 65))) hx hb (hts (.arrayClass .int) (List.mem_of_getElem? (i := 6) rfl)) rfl hK hH hS (n0 := 113) hz rfl (by decide) 65 0 2 (by rfl) (by rw [h50]; rfl) rfl (fun _ h => by cases h) (fun _ => rfl) (by decide) (by decide) (Nat.le_of_ble_eq_true rfl) (Nat.le_of_ble_eq_true rfl) (Nat.le_of_ble_eq_true rfl) dX11_init_199 (fun H hH hS => ?_)
  refine z_putF (ci := 15) (v := .ref (zad G.2.2.2 65 0)) (C := RX11) (T := TX11) (N := 44) hx hb hts (fun _ h => (List.mem_cons_of_mem _ (List.mem_append_left _ (List.mem_append_right _ h)))) tyX11 tyX11_ok nmX11 hown hK hH hS 40 0 112 (by rfl) rfl rfl 34 (by decide) (hts (.fieldLink RX11 87 "BallotFoundryModel" "sum" "[I") (List.mem_of_getElem? (i := 31) rfl)) (fun _ h => h) rfl hin rfl (ty := tyX11 34) (by decide +kernel) rfl rfl (Nat.le_of_ble_eq_true rfl) 1 rfl dX11_init_201 (fun H locs hH hS => ?_)
  obtain ⟨F51, eF51⟩ : ∃ z, z = fs F49 40 0 34 1 := ⟨_, rfl⟩
  have q := q F51 eF51
  rw [← eF51] at hH
  refine lv_aload_n hx hb dX11_init_204 rfl (lv_at hl 0 rfl) ?_
  refine lv_iconst (v := 5) hx hb dX11_init_205 (by decide) ?_
  obtain ⟨h52, q⟩ := q
  refine z_newa (atype := .int) (ty := .int) (N' := 5) (a0 := (5, .inl (zdef 66))) hx hb (hts (.arrayClass .int) (List.mem_of_getElem? (i := 6) rfl)) rfl hK hH hS (n0 := 113) hz rfl (by decide) 66 0 2 (by rfl) (by rw [h52]; rfl) rfl (fun _ h => by cases h) (fun _ => rfl) (by decide) (by decide) (Nat.le_of_ble_eq_true rfl) (Nat.le_of_ble_eq_true rfl) (Nat.le_of_ble_eq_true rfl) dX11_init_206 (fun H hH hS => ?_)
  refine z_putF (ci := 15) (v := .ref (zad G.2.2.2 66 0)) (C := RX11) (T := TX11) (N := 44) hx hb hts (fun _ h => (List.mem_cons_of_mem _ (List.mem_append_left _ (List.mem_append_right _ h)))) tyX11 tyX11_ok nmX11 hown hK hH hS 40 0 112 (by rfl) rfl rfl 35 (by decide) (hts (.fieldLink RX11 90 "BallotFoundryModel" "given" "[I") (List.mem_of_getElem? (i := 32) rfl)) (fun _ h => h) rfl hin rfl (ty := tyX11 35) (by decide +kernel) rfl rfl (Nat.le_of_ble_eq_true rfl) 1 rfl dX11_init_208 (fun H locs hH hS => ?_)
  obtain ⟨F53, eF53⟩ : ∃ z, z = fs F51 40 0 35 1 := ⟨_, rfl⟩
  have q := q F53 eF53
  rw [← eF53] at hH
  refine lv_aload_n hx hb dX11_init_211 rfl (lv_at hl 0 rfl) ?_
  refine lv_bipush (v := 30) hx hb dX11_init_212 (by decide) ?_
  obtain ⟨h54, q⟩ := q
  refine z_newa (atype := .int) (ty := .int) (N' := 30) (a0 := (30, .inl (zdef 67))) hx hb (hts (.arrayClass .int) (List.mem_of_getElem? (i := 6) rfl)) rfl hK hH hS (n0 := 113) hz rfl (by decide) 67 0 2 (by rfl) (by rw [h54]; rfl) rfl (fun _ h => by cases h) (fun _ => rfl) (by decide) (by decide) (Nat.le_of_ble_eq_true rfl) (Nat.le_of_ble_eq_true rfl) (Nat.le_of_ble_eq_true rfl) dX11_init_214 (fun H hH hS => ?_)
  refine z_putF (ci := 15) (v := .ref (zad G.2.2.2 67 0)) (C := RX11) (T := TX11) (N := 44) hx hb hts (fun _ h => (List.mem_cons_of_mem _ (List.mem_append_left _ (List.mem_append_right _ h)))) tyX11 tyX11_ok nmX11 hown hK hH hS 40 0 112 (by rfl) rfl rfl 36 (by decide) (hts (.fieldLink RX11 93 "BallotFoundryModel" "order" "[I") (List.mem_of_getElem? (i := 33) rfl)) (fun _ h => h) rfl hin rfl (ty := tyX11 36) (by decide +kernel) rfl rfl (Nat.le_of_ble_eq_true rfl) 1 rfl dX11_init_216 (fun H locs hH hS => ?_)
  obtain ⟨F55, eF55⟩ : ∃ z, z = fs F53 40 0 36 1 := ⟨_, rfl⟩
  have q := q F55 eF55
  rw [← eF55] at hH
  refine lv_aload_n hx hb dX11_init_219 rfl (lv_at hl 0 rfl) ?_
  refine lv_sipush (v := 1000) hx hb dX11_init_220 (by decide) ?_
  obtain ⟨h56, q⟩ := q
  refine z_newa (atype := .int) (ty := .int) (N' := 1000) (a0 := (1000, .inl (zdef 68))) hx hb (hts (.arrayClass .int) (List.mem_of_getElem? (i := 6) rfl)) rfl hK hH hS (n0 := 113) hz rfl (by decide) 68 0 2 (by rfl) (by rw [h56]; rfl) rfl (fun _ h => by cases h) (fun _ => rfl) (by decide) (by decide) (Nat.le_of_ble_eq_true rfl) (Nat.le_of_ble_eq_true rfl) (Nat.le_of_ble_eq_true rfl) dX11_init_223 (fun H hH hS => ?_)
  refine z_putF (ci := 15) (v := .ref (zad G.2.2.2 68 0)) (C := RX11) (T := TX11) (N := 44) hx hb hts (fun _ h => (List.mem_cons_of_mem _ (List.mem_append_left _ (List.mem_append_right _ h)))) tyX11 tyX11_ok nmX11 hown hK hH hS 40 0 112 (by rfl) rfl rfl 39 (by decide) (hts (.fieldLink RX11 96 "BallotFoundryModel" "noteDay" "[I") (List.mem_of_getElem? (i := 34) rfl)) (fun _ h => h) rfl hin rfl (ty := tyX11 39) (by decide +kernel) rfl rfl (Nat.le_of_ble_eq_true rfl) 1 rfl dX11_init_225 (fun H locs hH hS => ?_)
  obtain ⟨F57, eF57⟩ : ∃ z, z = fs F55 40 0 39 1 := ⟨_, rfl⟩
  have q := q F57 eF57
  rw [← eF57] at hH
  refine lv_aload_n hx hb dX11_init_228 rfl (lv_at hl 0 rfl) ?_
  refine lv_sipush (v := 1000) hx hb dX11_init_229 (by decide) ?_
  obtain ⟨h58, q⟩ := q
  refine z_newa (atype := .int) (ty := .int) (N' := 1000) (a0 := (1000, .inl (zdef 69))) hx hb (hts (.arrayClass .int) (List.mem_of_getElem? (i := 6) rfl)) rfl hK hH hS (n0 := 113) hz rfl (by decide) 69 0 2 (by rfl) (by rw [h58]; rfl) rfl (fun _ h => by cases h) (fun _ => rfl) (by decide) (by decide) (Nat.le_of_ble_eq_true rfl) (Nat.le_of_ble_eq_true rfl) (Nat.le_of_ble_eq_true rfl) dX11_init_232 (fun H hH hS => ?_)
  refine z_putF (ci := 15) (v := .ref (zad G.2.2.2 69 0)) (C := RX11) (T := TX11) (N := 44) hx hb hts (fun _ h => (List.mem_cons_of_mem _ (List.mem_append_left _ (List.mem_append_right _ h)))) tyX11 tyX11_ok nmX11 hown hK hH hS 40 0 112 (by rfl) rfl rfl 40 (by decide) (hts (.fieldLink RX11 99 "BallotFoundryModel" "noteSign" "[I") (List.mem_of_getElem? (i := 35) rfl)) (fun _ h => h) rfl hin rfl (ty := tyX11 40) (by decide +kernel) rfl rfl (Nat.le_of_ble_eq_true rfl) 1 rfl dX11_init_234 (fun H locs hH hS => ?_)
  obtain ⟨F59, eF59⟩ : ∃ z, z = fs F57 40 0 40 1 := ⟨_, rfl⟩
  have q := q F59 eF59
  rw [← eF59] at hH
  refine lv_aload_n hx hb dX11_init_237 rfl (lv_at hl 0 rfl) ?_
  refine lv_sipush (v := 1000) hx hb dX11_init_238 (by decide) ?_
  obtain ⟨h60, q⟩ := q
  refine z_newa (atype := .int) (ty := .int) (N' := 1000) (a0 := (1000, .inl (zdef 70))) hx hb (hts (.arrayClass .int) (List.mem_of_getElem? (i := 6) rfl)) rfl hK hH hS (n0 := 113) hz rfl (by decide) 70 0 2 (by rfl) (by rw [h60]; rfl) rfl (fun _ h => by cases h) (fun _ => rfl) (by decide) (by decide) (Nat.le_of_ble_eq_true rfl) (Nat.le_of_ble_eq_true rfl) (Nat.le_of_ble_eq_true rfl) dX11_init_241 (fun H hH hS => ?_)
  refine z_putF (ci := 15) (v := .ref (zad G.2.2.2 70 0)) (C := RX11) (T := TX11) (N := 44) hx hb hts (fun _ h => (List.mem_cons_of_mem _ (List.mem_append_left _ (List.mem_append_right _ h)))) tyX11 tyX11_ok nmX11 hown hK hH hS 40 0 112 (by rfl) rfl rfl 41 (by decide) (hts (.fieldLink RX11 102 "BallotFoundryModel" "noteNumber" "[I") (List.mem_of_getElem? (i := 36) rfl)) (fun _ h => h) rfl hin rfl (ty := tyX11 41) (by decide +kernel) rfl rfl (Nat.le_of_ble_eq_true rfl) 1 rfl dX11_init_243 (fun H locs hH hS => ?_)
  obtain ⟨F61, eF61⟩ : ∃ z, z = fs F59 40 0 41 1 := ⟨_, rfl⟩
  have q := q F61 eF61
  rw [← eF61] at hH
  refine lv_aload_n hx hb dX11_init_246 rfl (lv_at hl 0 rfl) ?_
  refine W.sz (fun hle => ?_)
  have hzn : H.size = G.2.2.2 + 143 := zsize (n0 := 113) hH (by decide) hz rfl hle
  refine va_callv (va_runV (As := []) (rest := []) ⟨hx, hb, hml, hown, hts⟩ (cz_X11_clears l G F61 _) (cwV 0 hts gX11_init_X11_clears rfl rfl rfl (by decide +kernel) ⟨Nat.le_of_ble_eq_true rfl, Nat.le_of_ble_eq_true rfl⟩) ⟨fun a U g mk h => ⟨h.1, zD_blind h.2.1, h.2.2⟩, z_recv (C := RX11) (T := TX11) (N := 44) hK hH 40 0 112 (by rfl) rfl rfl, fun U hU hW => ⟨rfl, zD_at hK hG hZ hH hzn hS hU hW, q⟩⟩ rfl rfl hl.1 rfl (lv_room (Nat.le_of_ble_eq_true rfl)) dX11_init_247 ⟨Nat.le_of_ble_eq_true rfl, Nat.le_of_ble_eq_true rfl⟩) hS (fun _ _ h => h) (fun _ h => h) (fun F62 t H locs ht hvm q hB1 hzz hk hS => ?_)
  have hH : zH G 143 F62 H := zH_to ht hB1
  refine W.cs (cells' := 30) (slots' := 5483) rfl rfl ?_
  exact W.vret hx hb hr (fun t ht hW => ⟨⟨F62, rfl, q, zH_at ht hH⟩, hS.F ht⟩) hS.2.2 dX11_init_250
