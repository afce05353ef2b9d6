/-! two objects side by side, and the law's own row of two numbers -/
abbrev S3 : Type := GF × GF × (Nat → Int32)
def inW (ad : Nat → Nat → Nat) (F : GF) (q : Nat) : Prop := ∃ f i, f < 40 ∧ i < gcnt (gcn F) f ∧ ad f i = q
/-- free for the one: from the base on, none of the other's cells, not the row -/
def tG (G : GPz) (ad : Nat → Nat → Nat) (F : GF) (ca : Nat) : GP := (G.1, G.2.1, G.2.2.1, fun q => G.2.2.2 ≤ q ∧ ¬ inW ad F q ∧ q ≠ ca)
def tcW (G : GPz) (ca : Nat) (x : Nat → Int32) : va_W := [(ca, .inl (G.2.2.1 2, 2, .inl x))]
def tO (G : GPz) (ada adb : Nat → Nat → Nat) (ca : Nat) (S : S3) (H : Heap) : Prop := gH (tG G adb S.2.1 ca) ada S.1 H ∧ gH (tG G ada S.1 ca) adb S.2.1 H ∧ va_P (gDD (zg G)) vwCl (tcW G ca S.2.2) H ∧ G.2.2.2 ≤ ca
def tH (G : GPz) (a0 b0 ca : Nat) (S : S3) (H : Heap) : Prop := ∃ ada adb : Nat → Nat → Nat, ada 0 0 = a0 ∧ adb 0 0 = b0 ∧ tO G ada adb ca S H
theorem inW_of {cy : Nat → ClassId} {ad : Nat → Nat → Nat} {F : GF} {k : Nat} {p : Nat × va_E} (h : (gW cy ad F)[k]? = some p) : inW ad F p.1 := by
  obtain ⟨a, -, ha, rfl⟩ := gW_mem h
  obtain ⟨h1, h2⟩ := gkeys_mem.mp ha
  exact ⟨a.1, a.2, h1, h2, rfl⟩
theorem inW_to {cy : Nat → ClassId} {ad : Nat → Nat → Nat} {F : GF} {q : Nat} (h : inW ad F q) : ∃ (k : Nat) (e : va_E), (gW cy ad F)[k]? = some (q, e) := by
  obtain ⟨f, i, hf, hi, rfl⟩ := h
  obtain ⟨k, -, hk⟩ := gW_get (cy := cy) (ad := ad) hf hi
  exact ⟨k, _, hk⟩
theorem tc_mem {G : GPz} {ca k : Nat} {x : Nat → Int32} {p : Nat × va_E} (h : (tcW G ca x)[k]? = some p) : p.1 = ca := by
  have hm := List.mem_of_getElem? h
  unfold tcW at hm
  rw [List.mem_singleton] at hm
  rw [hm]
theorem gH_lt {G : GP} {ad : Nat → Nat → Nat} {F : GF} {H : Heap} {q : Nat} (h : gH G ad F H) (hq : inW ad F q) : q < H.size := by
  obtain ⟨k, e, hk⟩ := inW_to (cy := G.2.2.1) hq
  exact (h.1 k _ hk).lt
theorem gH_in {G : GP} {ad : Nat → Nat → Nat} {F : GF} {H : Heap} {q : Nat} (h : gH G ad F H) (hq : inW ad F q) : gA G q := by
  obtain ⟨k, e, hk⟩ := inW_to (cy := G.2.2.1) hq
  exact h.2.2 k _ hk
theorem tc_lt {G : GPz} {ca : Nat} {x : Nat → Int32} {H : Heap} (h : va_P (gDD (zg G)) vwCl (tcW G ca x) H) : ca < H.size := (h 0 (ca, .inl (G.2.2.1 2, 2, .inl x)) rfl).lt
theorem gH_tG {G : GPz} {ad ad1 : Nat → Nat → Nat} {F F1 : GF} {ca : Nat} {H : Heap} : gH (tG G ad F ca) ad1 F1 H ↔ va_P (G.1, G.2.1) vwCl (gW G.2.2.1 ad1 F1) H ∧ va_D (fun q => G.2.2.2 ≤ q ∧ ¬ inW ad F q ∧ q ≠ ca) (gW G.2.2.1 ad1 F1) := Iff.rfl
theorem gA_tG {G : GPz} {ad : Nat → Nat → Nat} {F : GF} {ca q : Nat} : gA (tG G ad F ca) q ↔ G.2.2.2 ≤ q ∧ ¬ inW ad F q ∧ q ≠ ca := Iff.rfl
/-- the one changes within its own -/
theorem tO_x {G : GPz} {ada adb ada1 : Nat → Nat → Nat} {ca : Nat} {Fa Fb F1 : GF} {H H1 : Heap} (hk : ∀ q : Nat, q < H.size → ¬ (G.2.2.2 ≤ q ∧ ¬ inW adb Fb q ∧ q ≠ ca) → H1[q]? = H[q]?) (hB : gH (tG G ada Fa ca) adb Fb H) (h1 : gH (tG G adb Fb ca) ada1 F1 H1) : gH (tG G ada1 F1 ca) adb Fb H1 := by
  obtain ⟨pB, dB⟩ := gH_tG.mp hB
  refine gH_tG.mpr ⟨pB.kept (fun k q hq => hk q.1 (pB k q hq).lt (fun z => z.2.1 (inW_of hq))), dB.1, fun k p hp => ⟨(dB.2 k p hp).1, fun z => ?_, (dB.2 k p hp).2.2⟩⟩
  exact (gA_tG.mp (gH_in h1 z)).2.1 (inW_of hp)
theorem tO_c {G : GPz} {ad : Nat → Nat → Nat} {ca : Nat} {F : GF} {x : Nat → Int32} {H H1 : Heap} (hk : ∀ q : Nat, q < H.size → ¬ (G.2.2.2 ≤ q ∧ ¬ inW ad F q ∧ q ≠ ca) → H1[q]? = H[q]?) (hc : va_P (gDD (zg G)) vwCl (tcW G ca x) H) : va_P (gDD (zg G)) vwCl (tcW G ca x) H1 := hc.kept (fun k q hq => hk q.1 (hc k q hq).lt (fun z => z.2.2 (tc_mem hq)))
theorem tO_A {G : GPz} {ada adb ada1 : Nat → Nat → Nat} {ca : Nat} {S : S3} {F1 : GF} {H H1 : Heap} (h : tO G ada adb ca S H) (hk : ∀ q : Nat, q < H.size → ¬ gA (tG G adb S.2.1 ca) q → H1[q]? = H[q]?) (h1 : gH (tG G adb S.2.1 ca) ada1 F1 H1) : tO G ada1 adb ca (F1, S.2) H1 := by
  obtain ⟨hA, hB, hc, hca⟩ := h
  have hk : ∀ q : Nat, q < H.size → ¬ (G.2.2.2 ≤ q ∧ ¬ inW adb S.2.1 q ∧ q ≠ ca) → H1[q]? = H[q]? := fun q h1 h2 => hk q h1 (fun z => h2 (gA_tG.mp z))
  exact ⟨h1, tO_x hk hB h1, tO_c hk hc, hca⟩
theorem tO_B {G : GPz} {ada adb adb1 : Nat → Nat → Nat} {ca : Nat} {S : S3} {F1 : GF} {H H1 : Heap} (h : tO G ada adb ca S H) (hk : ∀ q : Nat, q < H.size → ¬ gA (tG G ada S.1 ca) q → H1[q]? = H[q]?) (h1 : gH (tG G ada S.1 ca) adb1 F1 H1) : tO G ada adb1 ca (S.1, F1, S.2.2) H1 := by
  obtain ⟨hA, hB, hc, hca⟩ := h
  have hk : ∀ q : Nat, q < H.size → ¬ (G.2.2.2 ≤ q ∧ ¬ inW ada S.1 q ∧ q ≠ ca) → H1[q]? = H[q]? := fun q h1 h2 => hk q h1 (fun z => h2 (gA_tG.mp z))
  exact ⟨tO_x hk hA h1, h1, tO_c hk hc, hca⟩
/-- what isn't seen from the heap -/
def tE (S S1 : S3) : Prop := (∀ f, f < 40 → S1.1 f = S.1 f) ∧ (∀ f, f < 40 → S1.2.1 f = S.2.1 f) ∧ S1.2.2 = S.2.2
theorem gW_eq {cy : Nat → ClassId} {ad : Nat → Nat → Nat} {F F1 : GF} (h : ∀ f, f < 40 → F1 f = F f) : gW cy ad F1 = gW cy ad F := by
  have hg : gcn F1 = gcn F := by unfold gcn; rw [h 38 (by decide)]
  unfold gW
  rw [hg]
  refine List.map_congr_left (fun k hk => ?_)
  rw [h k.1 (gkeys_mem.mp hk).1]
theorem inW_eq {ad : Nat → Nat → Nat} {F F1 : GF} (h : ∀ f, f < 40 → F1 f = F f) : inW ad F1 = inW ad F := by
  have hg : gcn F1 = gcn F := by unfold gcn; rw [h 38 (by decide)]
  unfold inW
  rw [hg]
theorem tG_eq {G : GPz} {ad : Nat → Nat → Nat} {F F1 : GF} {ca : Nat} (h : ∀ f, f < 40 → F1 f = F f) : tG G ad F1 ca = tG G ad F ca := by
  unfold tG
  rw [inW_eq h]
theorem gH_eq {G : GP} {ad : Nat → Nat → Nat} {F F1 : GF} {H : Heap} (h : ∀ f, f < 40 → F1 f = F f) (hH : gH G ad F H) : gH G ad F1 H := by
  unfold gH at hH ⊢
  rw [gW_eq h]
  exact hH
theorem tH_eq {G : GPz} {a0 b0 ca : Nat} {S S1 : S3} {H : Heap} (hT : tH G a0 b0 ca S H) (h : tE S S1) : tH G a0 b0 ca S1 H := by
  obtain ⟨ada, adb, ea, eb, hA, hB, hc, hca⟩ := hT
  obtain ⟨h1, h2, h3⟩ := h
  refine ⟨ada, adb, ea, eb, ?_, ?_, ?_, hca⟩
  · rw [tG_eq h2]
    exact gH_eq h1 hA
  · rw [tG_eq h1]
    exact gH_eq h2 hB
  · rw [h3]
    exact hc
theorem tE.rf (S : S3) : tE S S := ⟨fun _ _ => rfl, fun _ _ => rfl, rfl⟩
theorem gJ.narrow {G G1 : GP} {U : State} (h : gJ G U) (hA : ∀ q, gA G1 q → gA G q) : gJ G1 U := by
  obtain ⟨h1, h2, ⟨t1, h3, h4⟩, ⟨t2, h5, h6⟩⟩ := h
  exact ⟨h1.narrow hA, h2.narrow hA, ⟨t1, h3.narrow hA, h4.narrow hA⟩, ⟨t2, h5.narrow hA, h6.narrow hA⟩⟩
theorem gS.narrow {G G1 : GP} {U : State} (h : gS G U) (hA : ∀ q, gA G1 q → gA G q) : gS G1 U := by
  obtain ⟨h1, h2, h3, hX, h4, h5, h6⟩ := h
  exact ⟨h1, h2, h3, hX, h4.narrow hA, h5.narrow hA, h6.narrow hA⟩
/-- the start of a call on the one -/
theorem tD_A {G : GPz} {ada adb : Nat → Nat → Nat} {ca : Nat} {S : S3} {s U : State} {H : Heap} {locs : List Loc} (hK : gK (zg G) s) (hG : gS (zg G) s) (hz : G.2.2.2 ≤ s.heap.size) (hT : tO G ada adb ca S H) (hS : va_S (gA (zg G)) s.heap H locs) (hU : U.heap = H) (hW : s.WarmedH U.vm) : gD (tG G adb S.2.1 ca) ada S.1 U := by
  refine ⟨va_K.moved hW.alike hK, (hG.warm hS hU hW).narrow (fun q h => h.1), fun q hq => ?_, by rw [hU]; exact hT.1⟩
  rw [hU] at hq
  refine ⟨Nat.le_trans hz (Nat.le_trans hS.1 hq), fun z => ?_, fun z => ?_⟩
  · have := gH_lt hT.2.1 z
    omega
  · have := tc_lt hT.2.2.1
    omega
theorem tD_B {G : GPz} {ada adb : Nat → Nat → Nat} {ca : Nat} {S : S3} {s U : State} {H : Heap} {locs : List Loc} (hK : gK (zg G) s) (hG : gS (zg G) s) (hz : G.2.2.2 ≤ s.heap.size) (hT : tO G ada adb ca S H) (hS : va_S (gA (zg G)) s.heap H locs) (hU : U.heap = H) (hW : s.WarmedH U.vm) : gD (tG G ada S.1 ca) adb S.2.1 U := by
  refine ⟨va_K.moved hW.alike hK, (hG.warm hS hU hW).narrow (fun q h => h.1), fun q hq => ?_, by rw [hU]; exact hT.2.1⟩
  rw [hU] at hq
  refine ⟨Nat.le_trans hz (Nat.le_trans hS.1 hq), fun z => ?_, fun z => ?_⟩
  · have := gH_lt hT.1 z
    omega
  · have := tc_lt hT.2.2.1
    omega
/-- the start of a method of the law that has both -/
def tD (G : GPz) (a0 b0 ca : Nat) (S : S3) (U : State) : Prop := (gK (zg G) U ∧ gS (zg G) U ∧ gL U) ∧ G.2.2.2 ≤ U.heap.size ∧ tH G a0 b0 ca S U.heap
theorem tD_blind {G : GPz} {a0 b0 ca : Nat} {S : S3} {a : Array Value} {U : State} {g : JFrame} {mk : MethodId} (h : tD G a0 b0 ca S U) : tD G a0 b0 ca S (U.calling g mk a) := by
  obtain ⟨⟨h0, h1, h2⟩, h3⟩ := h
  exact ⟨⟨va_K.moved (u := U) (U := U.calling g mk a) (Vm.Alike.refl U.vm) h0, h1.same, gL.moved (u := U) (U := U.calling g mk a) (Vm.Alike.refl U.vm) h2⟩, h3⟩
theorem tD_at {G : GPz} {a0 b0 ca : Nat} {S : S3} {s U : State} {H : Heap} {locs : List Loc} (hK : gK (zg G) s) (hG : gS (zg G) s) (hL : gL s) (hz : G.2.2.2 ≤ s.heap.size) (hT : tH G a0 b0 ca S H) (hS : va_S (gA (zg G)) s.heap H locs) (hU : U.heap = H) (hW : s.WarmedH U.vm) : tD G a0 b0 ca S U := ⟨⟨va_K.moved hW.alike hK, hG.warm hS hU hW, gL.moved hW.alike hL⟩, by rw [hU]; exact Nat.le_trans hz hS.1, by rw [hU]; exact hT⟩
theorem tH_at {G : GPz} {a0 b0 ca : Nat} {S : S3} {H : Heap} {t : State} (ht : t.heap = H) (h : tH G a0 b0 ca S H) : tH G a0 b0 ca S t.heap := by rw [ht]; exact h
theorem tH_to {G : GPz} {a0 b0 ca : Nat} {S : S3} {H : Heap} {t : State} (ht : t.heap = H) (h : tH G a0 b0 ca S t.heap) : tH G a0 b0 ca S H := by rw [ht] at h; exact h
theorem tH_grow {G : GPz} {a0 b0 ca : Nat} {S : S3} {H H1 : Heap} (hT : tH G a0 b0 ca S H) (hk : ∀ q : Nat, q < H.size → H1[q]? = H[q]?) : tH G a0 b0 ca S H1 := by
  obtain ⟨ada, adb, ea, eb, hA, hB, hc, hca⟩ := hT
  exact ⟨ada, adb, ea, eb, ⟨hA.1.kept (fun k q hq => hk q.1 (hA.1 k q hq).lt), hA.2⟩, ⟨hB.1.kept (fun k q hq => hk q.1 (hB.1 k q hq).lt), hB.2⟩, hc.kept (fun k q hq => hk q.1 (hc k q hq).lt), hca⟩
abbrev tQi (G : GPz) (a0 b0 ca : Nat) (K : Int32 → S3 → Prop) := va_Qi (S := S3) (fun r u => K r u) (fun u t => tH G a0 b0 ca u t.heap) (gA (zg G))
section TR
variable {p : Program} {l : Launch} {e : Env} {R : Room} {s : State} {m : MethodId} {args : Array Value} {below : List Frame} {meth : Method} {c : Code} {H : Heap} {locs : List Loc} {cells slots : Nat} {Q : State → Prop}
variable {cc : ByteArray} {pc : Nat} {ls : Array Slot} {rest : List Value} {G : GPz} {a0 b0 ca : Nat} {S : S3} {H0 : Heap}
theorem t_cld (hexec : p.tables.exec = Jvm.exec) (hb : c.code = cc) (hK : gK (zg G) s) (hT : tH G a0 b0 ca S H) {j : Int32} (hin : vp_in j 2) (hdg : decode cc pc = .ok (.iaload, 1))
    (kk : W p l e R s m args below meth c H locs cells slots Q (F0 m (pc + 1) ls (.int (S.2.2 j.toNatClampNeg) :: rest))) : W p l e R s m args below meth c H locs cells slots Q (F0 m pc ls (.int j :: .ref ca :: rest)) := by
  obtain ⟨ada, adb, -, -, -, -, hc, -⟩ := hT
  exact va_iald hexec hb hK hc 0 2 (cA := G.2.2.1 2) (n := 2) (f := S.2.2) rfl rfl hin hdg kk
theorem t_cst (hexec : p.tables.exec = Jvm.exec) (hb : c.code = cc) (hK : gK (zg G) s) (hT : tH G a0 b0 ca S H) (hS : va_S (gA (zg G)) H0 H locs) {j x : Int32} (hin : vp_in j 2) (hdg : decode cc pc = .ok (.iastore, 1))
    (kk : ∀ (H1 : Heap) (locs1 : List Loc), tH G a0 b0 ca (S.1, S.2.1, upd S.2.2 j.toNatClampNeg x) H1 → va_S (gA (zg G)) H0 H1 locs1 → W p l e R s m args below meth c H1 locs1 cells slots Q (F0 m (pc + 1) ls rest)) : W p l e R s m args below meth c H locs cells slots Q (F0 m pc ls (.int x :: .int j :: .ref ca :: rest)) := by
  obtain ⟨ada, adb, ea, eb, hA, hB, hc, hca⟩ := hT
  refine W.iast hexec hb (hc 0 (ca, .inl (G.2.2.1 2, 2, .inl S.2.2)) rfl) ((hK.2 2 (G.2.2.1 2, .int) rfl).1 2 (fun j => .int (S.2.2 j))) (fun q => by cases q) (by show ¬ (j < 0 ∨ (arrV _ _ _).slots.size ≤ _); rw [arrV_size]; exact hin) rfl rfl hdg fun H1 e1 z oq => ?_
  refine kk H1 _ ⟨ada, adb, ea, eb, ⟨hA.1.kept (fun k q hq => oq q.1 (hA.2.2 k q hq).2.2), hA.2⟩, ⟨hB.1.kept (fun k q hq => oq q.1 (hB.2.2 k q hq).2.2), hB.2⟩, fun k q hq => ?_, hca⟩ (hS.put z oq hca)
  have hm := List.mem_of_getElem? hq
  unfold tcW at hm
  rw [List.mem_singleton] at hm
  subst hm
  show H1[ca]? = some (vp_cell _ _)
  rw [e1]
  rw [vp_cell_i, vp_cell_i, arrV_store]
  congr 2
  funext q
  by_cases hq : q = j.toNatClampNeg
  · subst hq
    simp [updV, upd]
  · simp [updV, upd, hq]
theorem t_recvA {C : String} {T : u_T} {N ci : Nat} (hK : gK (zg G) s) (hT : tH G a0 b0 ca S H) (he : ∀ ad : Nat → Nat → Nat, ∃ v : List Value, gcell G.2.2.1 ad 0 0 (S.1 0 0) = .inr (ci, v)) (hc : vwCl[ci]? = some (C, T, N)) : ∃ cell : Cell, H[a0]? = some cell ∧ cell.vm.isStatics = false ∧ s.vm.findClass C = some cell.cls := by
  obtain ⟨ada, adb, rfl, -, hA, -⟩ := hT
  obtain ⟨v, hv⟩ := he ada
  exact g_recv (G := tG G adb S.2.1 ca) hK hA 0 0 (by decide) Nat.zero_lt_one hv hc
theorem t_recvB {C : String} {T : u_T} {N ci : Nat} (hK : gK (zg G) s) (hT : tH G a0 b0 ca S H) (he : ∀ ad : Nat → Nat → Nat, ∃ v : List Value, gcell G.2.2.1 ad 0 0 (S.2.1 0 0) = .inr (ci, v)) (hc : vwCl[ci]? = some (C, T, N)) : ∃ cell : Cell, H[b0]? = some cell ∧ cell.vm.isStatics = false ∧ s.vm.findClass C = some cell.cls := by
  obtain ⟨ada, adb, -, rfl, -, hB, -⟩ := hT
  obtain ⟨v, hv⟩ := he adb
  exact g_recv (G := tG G ada S.1 ca) hK hB 0 0 (by decide) Nat.zero_lt_one hv hc
end TR
