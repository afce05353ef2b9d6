def lw_six : List MethodName := [⟨"java/lang/AbstractStringBuilder", "appendNull", "()Ljava/lang/AbstractStringBuilder;"⟩, ⟨"java/lang/AbstractStringBuilder", "ensureCapacityInternal", "(I)V"⟩, ⟨"java/lang/AbstractStringBuilder", "newCapacity", "(I)I"⟩, ⟨"java/lang/AbstractStringBuilder", "putStringAt", "(ILjava/lang/String;)V"⟩, ⟨"java/lang/AbstractStringBuilder", "inflateIfNeededFor", "(Ljava/lang/String;)V"⟩, ⟨"java/lang/AbstractStringBuilder", "inflate", "()V"⟩]
/-- the tables' words, and 'selects' of AbstractStringBuilder's private methods from a StringBuilder -/
def lw_tbl2 : List Cond := lw_six.map (fun y => Cond.selects RJ4 y y) ++ lw_tbl
theorem six_priv : ∀ y ∈ lw_six, Cond.privateMethod y ∈ tables_1 ∧ Cond.instanceMethod y ∈ tables_1 ∧ y.cls = "java/lang/AbstractStringBuilder" := by
  have h : lw_six = [⟨"java/lang/AbstractStringBuilder", "appendNull", "()Ljava/lang/AbstractStringBuilder;"⟩, ⟨"java/lang/AbstractStringBuilder", "ensureCapacityInternal", "(I)V"⟩, ⟨"java/lang/AbstractStringBuilder", "newCapacity", "(I)I"⟩, ⟨"java/lang/AbstractStringBuilder", "putStringAt", "(ILjava/lang/String;)V"⟩, ⟨"java/lang/AbstractStringBuilder", "inflateIfNeededFor", "(Ljava/lang/String;)V"⟩, ⟨"java/lang/AbstractStringBuilder", "inflate", "()V"⟩] := rfl
  rw [h]
  refine List.forall_mem_cons.mpr ⟨⟨List.mem_of_getElem? (i := 937) (by decide +kernel), List.mem_of_getElem? (i := 938) (by decide +kernel), rfl⟩, ?_⟩
  refine List.forall_mem_cons.mpr ⟨⟨List.mem_of_getElem? (i := 941) (by decide +kernel), List.mem_of_getElem? (i := 942) (by decide +kernel), rfl⟩, ?_⟩
  refine List.forall_mem_cons.mpr ⟨⟨List.mem_of_getElem? (i := 945) (by decide +kernel), List.mem_of_getElem? (i := 946) (by decide +kernel), rfl⟩, ?_⟩
  refine List.forall_mem_cons.mpr ⟨⟨List.mem_of_getElem? (i := 1014) (by decide +kernel), List.mem_of_getElem? (i := 1015) (by decide +kernel), rfl⟩, ?_⟩
  refine List.forall_mem_cons.mpr ⟨⟨List.mem_of_getElem? (i := 1018) (by decide +kernel), List.mem_of_getElem? (i := 1019) (by decide +kernel), rfl⟩, ?_⟩
  refine List.forall_mem_cons.mpr ⟨⟨List.mem_of_getElem? (i := 1023) (by decide +kernel), List.mem_of_getElem? (i := 1024) (by decide +kernel), rfl⟩, ?_⟩
  exact fun _ h => absurd h List.not_mem_nil
theorem lw_sel4 : Cond.selects RJ4 yJ5_isLatin1_aae02 yJ5_isLatin1_aae02 ∈ tables_1 := List.mem_of_getElem? (i := 976) (by decide +kernel)
theorem lw_inst4 : Cond.instantiable RJ4 4 ∈ tables_1 := List.mem_of_getElem? (i := 141) (by decide +kernel)
/-- a private method is the one selected, whatever the receiver's class -/
theorem selects_priv2 {C : String} {y y0 : MethodName} {s : State} {args : Array Value} {n : Nat} (hy : y.cls ≠ "java/lang/invoke/MethodHandle" ∧ y.cls ≠ "java/lang/invoke/VarHandle") (hins : (Cond.instantiable C n).before args s = true) (hpriv : (Cond.privateMethod y).before args s = true) (hinst : (Cond.instanceMethod y).before args s = true) (hsel0 : (Cond.selects C y0 y0).before args s = true) (hcls0 : y0.cls = y.cls) : (Cond.selects C y y).before args s = true := by
  obtain ⟨c, k, hc, hk, -, hniab, -, -⟩ := Cond.instantiable_spec hins
  obtain ⟨mk, methM, hnamed, hmethM, -, -⟩ := Cond.instanceMethod_spec hinst
  have hfound : s.methodFound? y.cls y.name y.desc = some mk := State.methodFound?_of_named hnamed hy
  have hsel : selectMethod {} s.vm c mk = .method mk := selectMethod_private hmethM (Cond.privateMethod_at hpriv mk methM hnamed hmethM)
  obtain ⟨c0, r0, mm0, -, -, hn0, -, k0, hk0, hi0⟩ := Cond.selects_spec hsel0
  have hc0 := findClass_of_methodNamed hn0
  have hcy := findClass_of_methodNamed hnamed
  rw [hcls0] at hc0
  have e : mm0.cls = mk.cls := Option.some.inj (hc0.symm.trans hcy)
  rw [e] at hk0
  simp only [Cond.before, Cond.holds, Cond.value, hc, hfound, hnamed, hsel, hk0]
  simp
  exact hi0
theorem lw_tbl2_ok {s : State} {args : Array Value} (h : ∀ w ∈ lw_tbl, w.before args s = true) : ∀ w ∈ lw_tbl2, w.before args s = true := by
  have ht : ∀ w ∈ tables_1, w.before args s = true := fun w hw => h w (List.mem_append_right _ hw)
  refine List.forall_mem_append.mpr ⟨?_, h⟩
  intro w hw
  obtain ⟨y, hy, rfl⟩ := List.mem_map.mp hw
  obtain ⟨h1, h2, h3⟩ := six_priv y hy
  exact selects_priv2 (y0 := yJ5_isLatin1_aae02) ⟨by rw [h3]; decide, by rw [h3]; decide⟩ (ht _ lw_inst4) (ht _ h1) (ht _ h2) (ht _ lw_sel4) (by rw [h3]; rfl)
theorem mem_p {big : List Cond} (ws : List Cond) (ps : List Nat) (hp : ws.filter k2_isCode = ps.filterMap (fun i => big[i]?)) (h : (ws.filter (fun w => !k2_isCode w)).all (fun w => decide (w ∈ big)) = true) : ∀ w ∈ ws, w ∈ big := by
  intro w hw
  by_cases hc : k2_isCode w = true
  · have h1 : w ∈ ws.filter k2_isCode := List.mem_filter.mpr ⟨hw, hc⟩
    rw [hp] at h1
    obtain ⟨i, -, hi⟩ := List.mem_filterMap.mp h1
    exact List.mem_of_getElem? hi
  · have h1 := List.all_eq_true.mp h w (List.mem_filter.mpr ⟨hw, by simpa using hc⟩)
    exact of_decide_eq_true h1
