/-! the law's two methods without an object: a crossing in the mirror, a number of the script -/
def ovr (x : Int32) : Int32 := if 0 ≤ x then ((x - (x - x / 6 * 6)) + 5) - (x - x / 6 * 6) else x
abbrev noA : Nat → Prop := fun _ => False
abbrev rm_L_over : Room := { frames := 0, cells := 0, slots := 0, locals := 0 }
set_option maxHeartbeats 4000000 in
set_option maxRecDepth 100000 in
theorem c_L_over (l : Launch) (p0 : Int32) : Met l yL_over wsL_over rm_L_over (va_Pc [.int p0] (fun _ => True)) (va_Qi (S := Unit) (fun r _ => r = ovr p0) (fun _ _ => True) noA) 0 0 noA := by
  refine Met.ofW (cc := cL_over) (maxL := 1) (ret := (some .int)) (by decide) rfl ?_
  intro p e s m args below meth c s₁ Bd hml hv
  obtain ⟨rfl, -⟩ := hv
  have hx := Bd.exec
  have hb := Bd.bytes
  have hr := Bd.returns
  have hlocks := Bd.notSynchronized
  have hS : va_S noA s.heap s.heap [] := va_S.rf
  have hl := lv_entry [.int p0] (n := 1) (Nat.le_of_ble_eq_true rfl)
  rw [lg_entry_eq]
  generalize (lg_sl [.int p0] ++ List.replicate (1 - (lg_sl [.int p0]).length) Slot.unset).toArray = ls at hl ⊢
  have hl : lv_has ls 1 [(0, .int p0)] := hl
  refine lv_iload_n hx hb dL_over_0 rfl (lv_at hl 0 rfl) ?_
  refine lv_if_ge (tgt := 8) hx hb dL_over_1 (by decide) (fun c1 => ?_) (fun c1 => ?_)
  · refine lv_iload_n hx hb dL_over_8 rfl (lv_at hl 0 rfl) ?_
    refine lv_iload_n hx hb dL_over_9 rfl (lv_at hl 0 rfl) ?_
    refine lv_bipush (v := 6) hx hb dL_over_10 (by decide) ?_
    refine lv_irem hx hb dL_over_12 (by decide) ?_
    refine lv_isub hx hb dL_over_13 ?_
    refine lv_iconst (v := 5) hx hb dL_over_14 (by decide) ?_
    refine lv_iadd hx hb dL_over_15 ?_
    refine lv_iload_n hx hb dL_over_16 rfl (lv_at hl 0 rfl) ?_
    refine lv_bipush (v := 6) hx hb dL_over_17 (by decide) ?_
    refine lv_irem hx hb dL_over_19 (by decide) ?_
    refine lv_isub hx hb dL_over_20 ?_
    exact (W.iret (v := (((p0 - (p0 - p0 / 6 * 6)) + 5) - (p0 - p0 / 6 * 6))) hx hb hr (fun t ht hW => ⟨⟨(((p0 - (p0 - p0 / 6 * 6)) + 5) - (p0 - p0 / 6 * 6)), (), rfl, by unfold ovr; rw [if_pos c1], trivial⟩, hS.F ht⟩) hS.2.2 dL_over_21)
  · refine lv_iload_n hx hb dL_over_4 rfl (lv_at hl 0 rfl) ?_
    refine lv_goto (tgt := 21) hx hb dL_over_5 (by decide) ?_
    exact (W.iret (v := p0) hx hb hr (fun t ht hW => ⟨⟨p0, (), rfl, by unfold ovr; rw [if_neg c1], trivial⟩, hS.F ht⟩) hS.2.2 dL_over_21)
def drw (L : Nat) (xs : Nat → Int32) (k : Int32) : Int32 := (if Int32.ofNat L ≤ k then 12409 * k + 7013 else xs k.toNatClampNeg) &&& 1073741823
abbrev rm_L_drawn : Room := { frames := 0, cells := 0, slots := 0, locals := 0 }
set_option maxHeartbeats 4000000 in
set_option maxRecDepth 100000 in
theorem c_L_drawn (l : Launch) {b L : Nat} {xs : Nat → Int32} (hL : L < 2 ^ 31) (k : Int32) (h0 : ¬ k < 0) : Met l yL_drawn wsL_drawn rm_L_drawn (va_Pc [.ref b, .int k] (fun U => va_X b L xs U U.heap)) (va_Qi (S := Unit) (fun r _ => r = drw L xs k) (fun _ _ => True) noA) 0 0 noA := by
  refine Met.ofW (cc := cL_drawn) (maxL := 3) (ret := (some .int)) (by decide) rfl ?_
  intro p e s m args below meth c s₁ Bd hml hv
  obtain ⟨rfl, hX⟩ := hv
  have hx := Bd.exec
  have hb := Bd.bytes
  have hr := Bd.returns
  have hts := atoms_spec (ws := wsL_drawn) Bd.pre
  have hown : s.vm.findClass RL = some m.cls := findClass_of_methodNamed Bd.named
  have hlocks := Bd.notSynchronized
  have hbl : b < s.heap.size := by
    obtain ⟨scr, h1, -⟩ := hX
    exact (Array.getElem?_eq_some_iff.mp h1).1
  have hbA : ¬ noA b := fun h => h
  have hS : va_S noA s.heap s.heap [] := va_S.rf
  have hl := lv_entry [.ref b, .int k] (n := 3) (Nat.le_of_ble_eq_true rfl)
  rw [lg_entry_eq]
  generalize (lg_sl [.ref b, .int k] ++ List.replicate (3 - (lg_sl [.ref b, .int k]).length) Slot.unset).toArray = ls at hl ⊢
  have hl : lv_has ls 3 [(0, .ref b), (1, .int k)] := hl
  refine lv_iload_n hx hb dL_drawn_0 rfl (lv_at hl 1 rfl) ?_
  refine lv_aload_n hx hb dL_drawn_1 rfl (lv_at hl 0 rfl) ?_
  refine va_slen hx hb hX hbl hbA hS dL_drawn_2 ?_
  refine lv_icmp_ge (tgt := 12) hx hb dL_drawn_3 (by decide) (fun c1 => ?_) (fun c1 => ?_)
  · refine lv_sipush (v := 12409) hx hb dL_drawn_12 (by decide) ?_
    refine lv_iload_n hx hb dL_drawn_15 rfl (lv_at hl 1 rfl) ?_
    refine lv_imul hx hb dL_drawn_16 ?_
    refine lv_sipush (v := 7013) hx hb dL_drawn_17 (by decide) ?_
    refine lv_iadd hx hb dL_drawn_20 ?_
    refine lv_istore_n (lv' := [(2, .int (12409 * k + 7013)), (0, .ref b), (1, .int k)]) hx hb dL_drawn_21 rfl hl (by decide) rfl (fun ls hl => ?_)
    refine lv_iload_n hx hb dL_drawn_22 rfl (lv_at hl 0 rfl) ?_
    refine lv_ldc (v := 1073741823) hx hb hown (hts (.constant RL 7 (1073741823)) (List.mem_of_getElem? (i := 1) rfl)) dL_drawn_23 ?_
    refine lv_iand hx hb dL_drawn_25 ?_
    exact (W.iret (v := (12409 * k + 7013) &&& 1073741823) hx hb hr (fun t ht hW => ⟨⟨(12409 * k + 7013) &&& 1073741823, (), rfl, by unfold drw; rw [if_pos c1], trivial⟩, hS.F ht⟩) hS.2.2 dL_drawn_26)
  · have hin : vp_in k L := by
      rintro (h | h)
      · exact h0 h
      · refine c1 ?_
        rw [Int32.le_iff_toInt_le, Int32.toInt_ofNat_of_lt hL]
        have h1 : k.toInt = (k.toNatClampNeg : Int) := by
          have h2 : 0 ≤ k.toInt := by
            have h3 := h0
            rw [Int32.lt_iff_toInt_lt] at h3
            have h4 : (0 : Int32).toInt = 0 := rfl
            omega
          show k.toInt = (k.toInt.toNat : Int)
          omega
        omega
    refine lv_aload_n hx hb dL_drawn_6 rfl (lv_at hl 0 rfl) ?_
    refine lv_iload_n hx hb dL_drawn_7 rfl (lv_at hl 1 rfl) ?_
    refine va_sld hx hb hX hbl hbA hS hin dL_drawn_8 ?_
    refine lv_goto (tgt := 21) hx hb dL_drawn_9 (by decide) ?_
    refine lv_istore_n (lv' := [(2, .int (xs k.toNatClampNeg)), (0, .ref b), (1, .int k)]) hx hb dL_drawn_21 rfl hl (by decide) rfl (fun ls hl => ?_)
    refine lv_iload_n hx hb dL_drawn_22 rfl (lv_at hl 0 rfl) ?_
    refine lv_ldc (v := 1073741823) hx hb hown (hts (.constant RL 7 (1073741823)) (List.mem_of_getElem? (i := 1) rfl)) dL_drawn_23 ?_
    refine lv_iand hx hb dL_drawn_25 ?_
    exact (W.iret (v := (xs k.toNatClampNeg) &&& 1073741823) hx hb hr (fun t ht hW => ⟨⟨(xs k.toNatClampNeg) &&& 1073741823, (), rfl, by unfold drw; rw [if_neg c1], trivial⟩, hS.F ht⟩) hS.2.2 dL_drawn_26)
