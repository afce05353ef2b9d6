/-! the heap of the law by families: what each cell holds, as whole numbers; the rows over it -/
abbrev GP : Type := (Nat → ClassId) × (Nat → Nat → Nat) × (Nat → ClassId) × (Nat → Prop)
/-- a reference to a stay: by its number, below 0 for null -/
def gst (ad : Nat → Nat → Nat) (x : Int32) : Value := va_rf (if x < 0 then none else some (ad 39 x.toNatClampNeg))
def gcnt (n : Nat) : Nat → Nat := fun f => match f with
  | 28 => 5
  | 29 => 5
  | 30 => 5
  | 31 => 5
  | 32 => 40
  | 33 => 20
  | 39 => n
  | 38 => 0
  | 40 => 0
  | 41 => 0
  | 42 => 0
  | 43 => 0
  | 44 => 0
  | 45 => 0
  | 46 => 0
  | 47 => 0
  | 48 => 0
  | 49 => 0
  | 50 => 0
  | 51 => 0
  | 52 => 0
  | 53 => 0
  | 54 => 0
  | 55 => 0
  | 56 => 0
  | 57 => 0
  | 58 => 0
  | 59 => 0
  | 60 => 0
  | 61 => 0
  | 62 => 0
  | 63 => 0
  | 64 => 0
  | 65 => 0
  | 66 => 0
  | 67 => 0
  | 68 => 0
  | 69 => 0
  | 70 => 0
  | 71 => 0
  | 72 => 0
  | 73 => 0
  | 74 => 0
  | 75 => 0
  | 76 => 0
  | 77 => 0
  | 78 => 0
  | 79 => 0
  | _ => 1
/-- what a cell holds -/
def gcell (cy : Nat → ClassId) (ad : Nat → Nat → Nat) (f i : Nat) (x : Nat → Int32) : va_E := match f with
  | 0 => .inr (14, [.ref (ad 1 0), .ref (ad 5 0), .int (x 2), .ref (ad 6 0), .ref (ad 9 0), .int (x 5), .ref (ad 10 0), .ref (ad 27 0)])
  | 1 => .inr (13, [.ref (ad 2 0), .ref (ad 3 0), .ref (ad 4 0)])
  | 2 => .inl (cy 3, 72, .inl x)
  | 3 => .inl (cy 2, 36, .inl x)
  | 4 => .inl (cy 2, 36, .inl x)
  | 5 => .inl (cy 5, 20, .inr (.inr (.inr (.inr (fun j => some (ad 33 (j)))))))
  | 6 => .inr (11, [.ref (ad 7 0), .ref (ad 8 0), .int (x 2)])
  | 7 => .inl (cy 2, 5, .inl x)
  | 8 => .inl (cy 2, 5, .inl x)
  | 9 => .inl (cy 2, 4, .inl x)
  | 10 => .inr (6, [.int (x 0), .int (x 1), .int (x 2), .int (x 3), .int (x 4), .ref (ad 11 0), .ref (ad 12 0), .ref (ad 16 0), .ref (ad 20 0), .ref (ad 21 0)])
  | 11 => .inl (cy 2, 5, .inl x)
  | 12 => .inr (9, [.ref (ad 13 0), .ref (ad 14 0), .ref (ad 15 0)])
  | 13 => .inl (cy 2, 20, .inl x)
  | 14 => .inl (cy 2, 5, .inl x)
  | 15 => .inl (cy 3, 20, .inl x)
  | 16 => .inr (7, [.ref (ad 17 0), .ref (ad 18 0), .ref (ad 19 0), .int (x 3)])
  | 17 => .inl (cy 2, 60, .inl x)
  | 18 => .inl (cy 2, 60, .inl x)
  | 19 => .inl (cy 2, 60, .inl x)
  | 20 => .inl (cy 4, 5, .inr (.inr (.inr (.inr (fun j => some (ad 28 (j)))))))
  | 21 => .inr (4, [.ref (ad 22 0), .ref (ad 23 0), .ref (ad 24 0), .ref (ad 25 0), .int (x 4)])
  | 22 => .inl (cy 2, 572, .inl x)
  | 23 => .inl (cy 1, 572, .inl x)
  | 24 => .inl (cy 2, 572, .inl x)
  | 25 => .inr (1, [.ref (ad 26 0), .int (x 1), .int (x 2), .int (x 3)])
  | 26 => .inl (cy 0, 16, .inl x)
  | 27 => .inr (10, [.ref (ad 34 0), .ref (ad 35 0), .ref (ad 36 0), .ref (ad 37 0), .int (x 4), .int (x 5), .int (x 6)])
  | 28 => .inr (5, [.ref (ad 29 i), .int (x 1), .ref (ad 30 i), .ref (ad 31 i), .int (x 4), .int (x 5)])
  | 29 => .inl (cy 2, 20, .inl x)
  | 30 => .inl (cy 2, 8, .inl x)
  | 31 => .inl (cy 6, 8, .inr (.inr (.inr (.inr (fun j => some (ad 32 (8 * i + j)))))))
  | 32 => .inl (cy 2, 6, .inl x)
  | 33 => .inr (8, [.int (x 0), gst ad (x 1), .int (x 2)])
  | 34 => .inl (cy 2, 5, .inl x)
  | 35 => .inl (cy 2, 5, .inl x)
  | 36 => .inl (cy 2, 30, .inl x)
  | 37 => .inl (cy 2, 5, .inl x)
  | 39 => .inr (12, [.int (x 0), .int (x 1), gst ad (x 2)])
  | _ => .inr (0, [])
def gkeys (n : Nat) : List (Nat × Nat) := (List.range 40).flatMap (fun f => (List.range (gcnt n f)).map (fun i => (f, i)))
theorem gkeys_in {n f i : Nat} (hf : f < 40) (hi : i < gcnt n f) : (f, i) ∈ gkeys n := List.mem_flatMap.mpr ⟨f, List.mem_range.mpr hf, List.mem_map.mpr ⟨i, List.mem_range.mpr hi, rfl⟩⟩
def gW (cy : Nat → ClassId) (ad : Nat → Nat → Nat) (F : GF) : va_W := (gkeys (gcn F)).map (fun k => (ad k.1 k.2, gcell cy ad k.1 k.2 (F k.1 k.2)))
def gT (cy : Nat → ClassId) : List (ClassId × FieldType) := [(cy 0, .byte), (cy 1, .char), (cy 2, .int), (cy 3, .boolean), (cy 4, .object "BallotFoundry$Box"), (cy 5, .object "BallotFoundry$Person"), (cy 6, .array .int)]
theorem gW_get {cy : Nat → ClassId} {ad : Nat → Nat → Nat} {F : GF} {f i : Nat} (hf : f < 40) (hi : i < gcnt (gcn F) f) : ∃ k : Nat, (gkeys (gcn F))[k]? = some (f, i) ∧ (gW cy ad F)[k]? = some (ad f i, gcell cy ad f i (F f i)) := by
  obtain ⟨k, hk⟩ := List.getElem?_of_mem (gkeys_in hf hi)
  exact ⟨k, hk, by unfold gW; rw [List.getElem?_map, hk]; rfl⟩
theorem gmap_set {L : List (Nat × Nat)} {f i k : Nat} {A : Nat → Prop} {e : va_E} {g1 g2 : Nat × Nat → Nat × va_E} (hD : va_D A (L.map g1)) (hk : L[k]? = some (f, i)) (h1 : g2 (f, i) = ((g1 (f, i)).1, e)) (h2 : ∀ q : Nat × Nat, ¬ (q.1 = f ∧ q.2 = i) → g2 q = g1 q) : (L.map g1).set k ((g1 (f, i)).1, e) = L.map g2 := by
  apply List.ext_getElem?
  intro j
  rw [List.getElem?_set, List.length_map]
  have hl : k < L.length := (List.getElem?_eq_some_iff.mp hk).1
  have hgk : (L.map g1)[k]? = some (g1 (f, i)) := by rw [List.getElem?_map, hk]; rfl
  by_cases e1 : k = j
  · subst e1
    rw [if_pos rfl, if_pos hl, List.getElem?_map, hk]
    show _ = some (g2 (f, i))
    rw [h1]
  · rw [if_neg e1, List.getElem?_map, List.getElem?_map]
    cases hj : L[j]? with
    | none => rfl
    | some q =>
      have hgj : (L.map g1)[j]? = some (g1 q) := by rw [List.getElem?_map, hj]; rfl
      have hne : ¬ (q.1 = f ∧ q.2 = i) := by
        intro h
        obtain ⟨a, b⟩ := q
        obtain ⟨rfl, rfl⟩ := h
        exact e1 (hD.1 k j _ _ hgk hgj rfl)
      show some (g1 q) = some (g2 q)
      rw [h2 q hne]
theorem gW_set {cy : Nat → ClassId} {ad : Nat → Nat → Nat} {F F1 : GF} {f i k : Nat} {A : Nat → Prop} {e : va_E} (hD : va_D A (gW cy ad F)) (hk : (gkeys (gcn F))[k]? = some (f, i)) (hn : gcn F1 = gcn F) (ho : ∀ f1 i1, ¬ (f1 = f ∧ i1 = i) → F1 f1 i1 = F f1 i1) (he : gcell cy ad f i (F1 f i) = e) : (gW cy ad F).set k (ad f i, e) = gW cy ad F1 := by
  unfold gW at hD ⊢
  rw [hn]
  exact gmap_set (g1 := fun k => (ad k.1 k.2, gcell cy ad k.1 k.2 (F k.1 k.2))) hD hk (by show (ad f i, gcell cy ad f i (F1 f i)) = _; rw [he]) (fun q hq => by show (ad q.1 q.2, gcell cy ad q.1 q.2 (F1 q.1 q.2)) = (ad q.1 q.2, gcell cy ad q.1 q.2 (F q.1 q.2)); rw [ho q.1 q.2 hq])
def gA (G : GP) : Nat → Prop := G.2.2.2
abbrev gDD (G : GP) : va_G := (G.1, G.2.1)
def gK (G : GP) (U : State) : Prop := va_K (gDD G) vwCl (gT G.2.2.1) U
def gH (G : GP) (ad : Nat → Nat → Nat) (F : GF) (H : Heap) : Prop := va_P (gDD G) vwCl (gW G.2.2.1 ad F) H ∧ va_D (gA G) (gW G.2.2.1 ad F)
def gNF : List (String × Nat × String × String × String × String) := [("BallotFoundry", 343, "BallotFoundry$Stations", "crossings", "[I", "BallotFoundry"), ("BallotFoundry", 99, "BallotFoundry$Stations", "seats", "[I", "BallotFoundry"), ("BallotFoundry", 85, "BallotFoundry$Stations", "size", "I", "BallotFoundry"), ("BallotFoundry$Election", 82, "BallotFoundry$Roll", "hasVoted", "[Z", "BallotFoundry"), ("BallotFoundry", 205, "BallotFoundry$Roll", "hasVoted", "[Z", "BallotFoundry"), ("BallotFoundry$Election", 86, "BallotFoundry$Envelopes", "people", "[I", "BallotFoundry"), ("BallotFoundry", 239, "BallotFoundry$Envelopes", "people", "[I", "BallotFoundry"), ("BallotFoundry$Election", 96, "BallotFoundry$Envelopes", "ballots", "[I", "BallotFoundry"), ("BallotFoundry$Election", 89, "BallotFoundry$Envelopes", "states", "[I", "BallotFoundry"), ("BallotFoundry", 236, "BallotFoundry$Envelopes", "states", "[I", "BallotFoundry"), ("BallotFoundry$Election", 69, "BallotFoundry$Envelopes", "size", "I", "BallotFoundry"), ("BallotFoundry", 189, "BallotFoundry$Envelopes", "size", "I", "BallotFoundry"), ("BallotFoundry$Election", 73, "BallotFoundry$Book", "size", "I", "BallotFoundry"), ("BallotFoundry", 299, "BallotFoundry$Book", "size", "I", "BallotFoundry"), ("BallotFoundry", 221, "BallotFoundry$Box", "size", "I", "BallotFoundry"), ("BallotFoundry", 257, "BallotFoundry$Box", "counts", "I", "BallotFoundry"), ("BallotFoundry", 135, "BallotFoundry$Election", "stage", "I", "BallotFoundry"), ("BallotFoundry", 148, "BallotFoundry$Election", "day", "I", "BallotFoundry"), ("BallotFoundry", 349, "BallotFoundry$Election", "partySeats", "I", "BallotFoundry"), ("BallotFoundry", 352, "BallotFoundry$Election", "isOdd", "Z", "BallotFoundry"), ("BallotFoundry", 246, "BallotFoundry$Election", "stationsOfIt", "I", "BallotFoundry"), ("BallotFoundry", 156, "BallotFoundry$Election", "seeds", "[I", "BallotFoundry"), ("BallotFoundry", 167, "BallotFoundry$Election", "roll", "LBallotFoundry$Roll;", "BallotFoundry"), ("BallotFoundry", 185, "BallotFoundry$Election", "envelopes", "LBallotFoundry$Envelopes;", "BallotFoundry"), ("BallotFoundry", 217, "BallotFoundry$Election", "boxes", "[LBallotFoundry$Box;", "BallotFoundry"), ("BallotFoundry", 194, "BallotFoundry$Election", "book", "LBallotFoundry$Book;", "BallotFoundry"), ("BallotFoundry", 346, "BallotFoundry$SeatGiving", "votes", "[I", "BallotFoundry"), ("BallotFoundry", 284, "BallotFoundry$SeatGiving", "seats", "[I", "BallotFoundry"), ("BallotFoundry", 293, "BallotFoundry$SeatGiving", "lotsDrawn", "I", "BallotFoundry"), ("BallotFoundry", 104, "BallotFoundry$Person", "age", "I", "BallotFoundry"), ("BallotFoundry", 112, "BallotFoundry$Person", "latest", "LBallotFoundry$Stay;", "BallotFoundry"), ("BallotFoundry", 127, "BallotFoundry$Person", "hasDied", "Z", "BallotFoundry"), ("BallotFoundry$Person", 23, "BallotFoundry$Stay", "day", "I", "BallotFoundry"), ("BallotFoundry$Person", 28, "BallotFoundry$Stay", "crossing", "I", "BallotFoundry"), ("BallotFoundry$Person", 31, "BallotFoundry$Stay", "earlier", "LBallotFoundry$Stay;", "BallotFoundry")]
def gNM : List (String × Nat × MethodName × String) := [("BallotFoundry", 11, ⟨"BallotFoundry$Town", "<init>", "()V"⟩, "BallotFoundry"), ("BallotFoundry", 28, ⟨"BallotFoundry$Stations", "<init>", "()V"⟩, "BallotFoundry"), ("BallotFoundry$Election", 41, ⟨"BallotFoundry$Envelopes", "<init>", "()V"⟩, "BallotFoundry"), ("BallotFoundry$Election", 54, ⟨"BallotFoundry$Book", "<init>", "()V"⟩, "BallotFoundry"), ("BallotFoundry$Election", 59, ⟨"BallotFoundry$Box", "<init>", "()V"⟩, "BallotFoundry"), ("BallotFoundry", 49, ⟨"BallotFoundry$SeatGiving", "<init>", "()V"⟩, "BallotFoundry"), ("BallotFoundry", 54, ⟨"BallotFoundry$Person", "<init>", "()V"⟩, "BallotFoundry")]
def gSR : List (String × Nat × String) := [("BallotFoundry", 305, "no such crossing"), ("BallotFoundry", 65, "no street between the crossings"), ("BallotFoundry", 317, "out of range"), ("BallotFoundry", 90, "no more stations"), ("BallotFoundry", 307, "no such station"), ("BallotFoundry", 102, "no more people"), ("BallotFoundry", 309, "no such person"), ("BallotFoundry", 321, "the person has died"), ("BallotFoundry", 138, "the latest election is not done"), ("BallotFoundry", 140, "no station"), ("BallotFoundry", 142, "too late a day for an election"), ("BallotFoundry", 311, "no such party"), ("BallotFoundry", 154, "no seeds are told now"), ("BallotFoundry", 159, "too late a day"), ("BallotFoundry", 319, "another stage"), ("BallotFoundry", 323, "the person is not on the roll"), ("BallotFoundry", 192, "no more envelopes"), ("BallotFoundry", 209, "the person has voted"), ("BallotFoundry", 211, "another station is the person's"), ("BallotFoundry", 227, "no sealed envelope"), ("BallotFoundry", 315, "no such envelope"), ("BallotFoundry", 313, "no such clerk"), ("BallotFoundry", 244, "a slip at each ballot"), ("BallotFoundry", 249, "no station of the election"), ("BallotFoundry", 255, "the station is settled"), ("BallotFoundry", 260, "no more counts"), ("BallotFoundry", 287, "no such place"), ("BallotFoundry", 300, "no such note")]
def gXs : List (Nat × String) := [(289, "java/lang/IndexOutOfBoundsException"), (67, "java/lang/IllegalArgumentException"), (92, "java/lang/IllegalStateException")]
abbrev gUp : List String := ["java/lang/RuntimeException", "java/lang/Exception"]
def gCast : Cond → Bool := fun w => match w with
  | .castable _ _ => true
  | .declares _ => true
  | _ => false
theorem gXs_ot : ∀ q ∈ gXs, ∀ w ∈ vx_atS RX10 q.1 q.2 gUp, vx_ot w = true := by decide +kernel
theorem gXs_fit : ∀ q ∈ gXs, Bundle.fit q.2 = true := by decide +kernel
theorem gXs_cast : ∀ q ∈ gXs, ∀ w ∈ (vx_atS RX10 q.1 q.2 gUp).filter (fun w => !goodWord w), gCast w = true := by decide +kernel
/-- statics of the JDK that a text's builder reads -/
def gJ (G : GP) (U : State) : Prop := va_Z "java/lang/String" "COMPACT_STRINGS" "Z" (.int 1) (gA G) U U.heap ∧ va_Zq "jdk/internal/util/Preconditions" "SIOOBE_FORMATTER" "Ljava/util/function/BiFunction;" (gA G) U U.heap ∧ (∃ t : Nat, va_Z "java/lang/Integer" "DigitTens" "[B" (.ref t) (gA G) U U.heap ∧ va_T .byte t 100 (fun j => .int (nI (48 + j / 10))) (gA G) U U.heap) ∧ (∃ t : Nat, va_Z "java/lang/Integer" "DigitOnes" "[B" (.ref t) (gA G) U U.heap ∧ va_T .byte t 100 (fun j => .int (nI (48 + j % 10))) (gA G) U U.heap)
theorem gJ.moved {G : GP} {u U : State} (hvm : u.vm.Alike U.vm) (hq : ∀ a : Nat, a < u.heap.size → ¬ gA G a → U.heap[a]? = u.heap[a]?) (h : gJ G u) : gJ G U := by
  obtain ⟨h1, h2, ⟨t1, h3, h4⟩, ⟨t2, h5, h6⟩⟩ := h
  exact ⟨(va_Z.moved hvm h1).kept hq, (va_Zq.moved hvm h2).kept hq, ⟨t1, (va_Z.moved hvm h3).kept hq, (va_T.moved hvm h4).kept hq⟩, ⟨t2, (va_Z.moved hvm h5).kept hq, (va_T.moved hvm h6).kept hq⟩⟩
/-- what stays of the machine: links of nest mates, resolved texts, Throwable's two statics -/
def gS (G : GP) (U : State) : Prop := (∀ q ∈ gNF, va_Nw (.fieldLinkNest q.1 q.2.1 q.2.2.1 q.2.2.2.1 q.2.2.2.2.1 q.2.2.2.2.2) U) ∧ (∀ q ∈ gNM, va_Nw (.methodLinkNest q.1 q.2.1 q.2.2.1 q.2.2.2) U) ∧ (∀ q ∈ gSR, ∃ a : Nat, vk_R q.1 q.2.1 q.2.2 a U) ∧ (∀ q ∈ gXs, ∀ w ∈ (vx_atS RX10 q.1 q.2 gUp).filter (fun w => !goodWord w), va_Nw w U) ∧ vx_Zq Bundle.tN "UNASSIGNED_STACK" Bundle.steD (gA G) U U.heap ∧ vx_Zq Bundle.tN "SUPPRESSED_SENTINEL" Bundle.listD (gA G) U U.heap ∧ gJ G U
theorem gS.warm {G : GP} {s U : State} {H : Heap} {locs : List Loc} (h : gS G s) (hS : va_S (gA G) s.heap H locs) (hU : U.heap = H) (hW : s.WarmedH U.vm) : gS G U := by
  obtain ⟨h1, h2, h3, hX, h4, h5, h6⟩ := h
  refine ⟨fun q hq => va_Nw.warmF hW (h1 q hq), fun q hq => va_Nw.warmM hW (h2 q hq), fun q hq => ?_, fun q hq w hw => ?_, ?_, ?_, gJ.moved hW.alike (fun a ha hb => by rw [hU]; exact hS.2.1 a ha hb) h6⟩
  · obtain ⟨a, ha⟩ := h3 q hq
    exact ⟨a, vk_R.warm hW ha⟩
  · have h8 := gXs_cast q hq w hw
    have h9 := hX q hq w hw
    cases w <;> first | (exact va_Nw.warmC hW h9) | (exact va_Nw.warmD hW h9) | (simp [gCast] at h8)
  · exact (vx_Zq.moved hW.alike h4).kept (fun a ha hb => by rw [hU]; exact hS.2.1 a ha hb)
  · exact (vx_Zq.moved hW.alike h5).kept (fun a ha hb => by rw [hU]; exact hS.2.1 a ha hb)
def gD (G : GP) (ad : Nat → Nat → Nat) (F : GF) (U : State) : Prop := gK G U ∧ gS G U ∧ (∀ q, U.heap.size ≤ q → gA G q) ∧ gH G ad F U.heap
theorem gD_blind {G : GP} {ad : Nat → Nat → Nat} {F : GF} {a : Array Value} {U : State} {g : JFrame} {mk : MethodId} (h : gD G ad F U) : gD G ad F (U.calling g mk a) := by
  obtain ⟨h0, ⟨h1, h2, h3, hX, h4, h5, hJ⟩, h6, h7⟩ := h
  refine ⟨va_K.moved (u := U) (U := U.calling g mk a) (Vm.Alike.refl U.vm) h0, ⟨fun q hq => va_Nw.same rfl (u := U) (U := U.calling g mk a) rfl (h1 q hq), fun q hq => va_Nw.same rfl (u := U) (U := U.calling g mk a) rfl (h2 q hq), fun q hq => ?_, fun q hq w hw => ?_, ?_, ?_, gJ.moved (u := U) (U := U.calling g mk a) (Vm.Alike.refl U.vm) (fun _ _ _ => rfl) hJ⟩, h6, h7⟩
  · obtain ⟨a1, ha⟩ := h3 q hq
    exact ⟨a1, vk_R.same (u := U) (U := U.calling g mk a) rfl ha⟩
  · have h8 := gXs_cast q hq w hw
    have h9 := hX q hq w hw
    cases w <;> first | (exact va_Nw.same rfl (u := U) (U := U.calling g mk a) rfl h9) | (simp [gCast] at h8)
  · exact vx_Zq.moved (u := U) (U := U.calling g mk a) (Vm.Alike.refl U.vm) h4
  · exact vx_Zq.moved (u := U) (U := U.calling g mk a) (Vm.Alike.refl U.vm) h5
theorem gD_at {G : GP} {ad : Nat → Nat → Nat} {F : GF} {s U : State} {H : Heap} {locs : List Loc} (hK : gK G s) (hG : gS G s) (hB : ∀ q, s.heap.size ≤ q → gA G q) (hH : gH G ad F H) (hS : va_S (gA G) s.heap H locs) (hU : U.heap = H) (hW : s.WarmedH U.vm) : gD G ad F U := ⟨va_K.moved hW.alike hK, hG.warm hS hU hW, by rw [hU]; exact fun q hq => hB q (Nat.le_trans hS.1 hq), by rw [hU]; exact hH⟩
section GR
variable {p : Program} {l : Launch} {e : Env} {R : Room} {s : State} {m : MethodId} {args : Array Value} {below : List Frame} {meth : Method} {c : Code} {H : Heap} {locs : List Loc} {cells slots : Nat} {Q : State → Prop}
variable {cc : ByteArray} {pc : Nat} {ls : Array Slot} {rest : List Value} {G : GP} {ad : Nat → Nat → Nat} {F : GF} {H0 : Heap}
theorem g_get (hexec : p.tables.exec = Jvm.exec) (hb : c.code = cc) {own ref C : String} {T : u_T} {N ci index : Nat} {Ts : List Cond} (hts : ∀ w ∈ Ts, w.before args s = true) (hin : ∀ w ∈ u_ws C T N, w ∈ Ts) (hown : s.vm.findClass own = some m.cls) (hK : gK G s) (hH : gH G ad F H) (f i : Nat) (hf : f < 40) (hi : i < gcnt (gcn F) f) {fs0 : List Value} (he : gcell G.2.2.1 ad f i (F f i) = .inr (ci, fs0)) (hc : vwCl[ci]? = some (C, T, N)) (k : Nat) (hk : k < N) (hlink : (Cond.fieldLink own index ref (T k).2.1 (T k).2.2.1).before args s = true) (hsame : ∀ x, s.fieldFound? (T k).1 (T k).2.1 (T k).2.2.1 = some x → s.fieldFound? ref (T k).2.1 (T k).2.2.1 = some x) {v : Value} (hv : fs0[k]? = some v) (hdg : decode cc pc = .ok (.getfield index, 3))
    (kk : W p l e R s m args below meth c H locs cells slots Q (F0 m (pc + 3) ls (v :: rest))) : W p l e R s m args below meth c H locs cells slots Q (F0 m pc ls (.ref (ad f i) :: rest)) := by
  obtain ⟨q0, -, hq⟩ := gW_get (cy := G.2.2.1) (ad := ad) hf hi
  exact va_get hexec hb hts hin hown hK hH.1 q0 (hq.trans (by rw [he])) hc k hk hlink hsame hv hdg kk
theorem g_put (hexec : p.tables.exec = Jvm.exec) (hb : c.code = cc) {own ref C : String} {T : u_T} {N ci index : Nat} {Ts : List Cond} (hts : ∀ w ∈ Ts, w.before args s = true) (hin : ∀ w ∈ u_ws C T N, w ∈ Ts) (ty0 : Nat → FieldType) (hty : ∀ k, k < N → parseFieldDescriptor (T k).2.2.1 = some (ty0 k)) (hnm : ∀ a, a < N → ∀ b, b < N → a ≠ b → (T a).2.1 ≠ (T b).2.1) (hown : s.vm.findClass own = some m.cls) (hK : gK G s) (hH : gH G ad F H) (hS : va_S (gA G) H0 H locs) (f i : Nat) (hf : f < 40) (hi : i < gcnt (gcn F) f) (h38 : f ≠ 38) {fs0 : List Value} (he : gcell G.2.2.1 ad f i (F f i) = .inr (ci, fs0)) (hc : vwCl[ci]? = some (C, T, N)) (k : Nat) (hk : k < N) (hlink : (Cond.fieldLink own index ref (T k).2.1 (T k).2.2.1).before args s = true) (hsame : ∀ x, s.fieldFound? (T k).1 (T k).2.1 (T k).2.2.1 = some x → s.fieldFound? ref (T k).2.1 (T k).2.2.1 = some x) (hfin : (T k).2.2.2 = false) {ty : FieldType} {v : Value} (hd : parseFieldDescriptor (T k).2.2.1 = some ty) (hn : narrow ty v = v) (hfit : fits ty v = true) (hl : k < fs0.length) (x : Int32) (he2 : gcell G.2.2.1 ad f i (upd (F f i) k x) = .inr (ci, fs0.set k v)) (hdg : decode cc pc = .ok (.putfield index, 3))
    (kk : ∀ (H1 : Heap) (locs1 : List Loc), gH G ad (fs F f i k x) H1 → va_S (gA G) H0 H1 locs1 → W p l e R s m args below meth c H1 locs1 cells slots Q (F0 m (pc + 3) ls rest)) : W p l e R s m args below meth c H locs cells slots Q (F0 m pc ls (v :: .ref (ad f i) :: rest)) := by
  obtain ⟨q0, hq0, hq⟩ := gW_get (cy := G.2.2.1) (ad := ad) hf hi
  have hset := gW_set (F1 := fs F f i k x) (e := .inr (ci, fs0.set k v)) hH.2 hq0 (by show (fs F f i k x 38 0 0).toNatClampNeg = _; rw [fs_row (fun h => h38 h.1.symm)] <;> rfl) (fun f1 i1 h => fs_row h) (by rw [fs_self]; exact he2)
  refine va_put hexec hb hts hin ty0 hty hnm hown hK hH.1 hH.2 hS q0 (hq.trans (by rw [he])) hc k hk hlink hsame hfin hd hn hfit hl hdg (fun H1 locs1 hP hD hS1 => ?_)
  rw [hset] at hP hD
  exact kk H1 locs1 ⟨hP, hD⟩ hS1
theorem g_putF (hexec : p.tables.exec = Jvm.exec) (hb : c.code = cc) {own ref C : String} {T : u_T} {N ci index : Nat} {Ts : List Cond} (hts : ∀ w ∈ Ts, w.before args s = true) (hin : ∀ w ∈ u_ws C T N, w ∈ Ts) (ty0 : Nat → FieldType) (hty : ∀ k, k < N → parseFieldDescriptor (T k).2.2.1 = some (ty0 k)) (hnm : ∀ a, a < N → ∀ b, b < N → a ≠ b → (T a).2.1 ≠ (T b).2.1) (hown : s.vm.findClass own = some m.cls) (hK : gK G s) (hH : gH G ad F H) (hS : va_S (gA G) H0 H locs) (f i : Nat) (hf : f < 40) (hi : i < gcnt (gcn F) f) (h38 : f ≠ 38) {fs0 : List Value} (he : gcell G.2.2.1 ad f i (F f i) = .inr (ci, fs0)) (hc : vwCl[ci]? = some (C, T, N)) (k : Nat) (hk : k < N) (hlink : (Cond.fieldLink own index ref (T k).2.1 (T k).2.2.1).before args s = true) (hsame : ∀ x, s.fieldFound? (T k).1 (T k).2.1 (T k).2.2.1 = some x → s.fieldFound? ref (T k).2.1 (T k).2.2.1 = some x) (hfin : (T k).2.2.2 = true) (hname : meth.name = "<init>") (hown2 : (T k).1 = own) {ty : FieldType} {v : Value} (hd : parseFieldDescriptor (T k).2.2.1 = some ty) (hn : narrow ty v = v) (hfit : fits ty v = true) (hl : k < fs0.length) (x : Int32) (he2 : gcell G.2.2.1 ad f i (upd (F f i) k x) = .inr (ci, fs0.set k v)) (hdg : decode cc pc = .ok (.putfield index, 3))
    (kk : ∀ (H1 : Heap) (locs1 : List Loc), gH G ad (fs F f i k x) H1 → va_S (gA G) H0 H1 locs1 → W p l e R s m args below meth c H1 locs1 cells slots Q (F0 m (pc + 3) ls rest)) : W p l e R s m args below meth c H locs cells slots Q (F0 m pc ls (v :: .ref (ad f i) :: rest)) := by
  obtain ⟨q0, hq0, hq⟩ := gW_get (cy := G.2.2.1) (ad := ad) hf hi
  have hset := gW_set (F1 := fs F f i k x) (e := .inr (ci, fs0.set k v)) hH.2 hq0 (by show (fs F f i k x 38 0 0).toNatClampNeg = _; rw [fs_row (fun h => h38 h.1.symm)] <;> rfl) (fun f1 i1 h => fs_row h) (by rw [fs_self]; exact he2)
  refine va_putF hexec hb hts hin ty0 hty hnm hown hK hH.1 hH.2 hS q0 (hq.trans (by rw [he])) hc k hk hlink hsame hfin hname hown2 hd hn hfit hl hdg (fun H1 locs1 hP hD hS1 => ?_)
  rw [hset] at hP hD
  exact kk H1 locs1 ⟨hP, hD⟩ hS1
theorem g_getN (hexec : p.tables.exec = Jvm.exec) (hb : c.code = cc) {own ref C host : String} {T : u_T} {N ci index : Nat} {Ts : List Cond} (hts : ∀ w ∈ Ts, w.before args s = true) (hin : ∀ w ∈ u_ws C T N, w ∈ Ts) (hown : s.vm.findClass own = some m.cls) (hK : gK G s) (hH : gH G ad F H) (f i : Nat) (hf : f < 40) (hi : i < gcnt (gcn F) f) {fs0 : List Value} (he : gcell G.2.2.1 ad f i (F f i) = .inr (ci, fs0)) (hc : vwCl[ci]? = some (C, T, N)) (k : Nat) (hk : k < N) (hlink : (Cond.fieldLinkNest own index ref (T k).2.1 (T k).2.2.1 host).before args s = true) (hsame : ∀ x, s.fieldFound? (T k).1 (T k).2.1 (T k).2.2.1 = some x → s.fieldFound? ref (T k).2.1 (T k).2.2.1 = some x) {v : Value} (hv : fs0[k]? = some v) (hdg : decode cc pc = .ok (.getfield index, 3))
    (kk : W p l e R s m args below meth c H locs cells slots Q (F0 m (pc + 3) ls (v :: rest))) : W p l e R s m args below meth c H locs cells slots Q (F0 m pc ls (.ref (ad f i) :: rest)) := by
  obtain ⟨q0, -, hq⟩ := gW_get (cy := G.2.2.1) (ad := ad) hf hi
  exact va_getN hexec hb hts hin hown hK hH.1 q0 (hq.trans (by rw [he])) hc k hk hlink hsame hv hdg kk
theorem g_putN (hexec : p.tables.exec = Jvm.exec) (hb : c.code = cc) {own ref C host : String} {T : u_T} {N ci index : Nat} {Ts : List Cond} (hts : ∀ w ∈ Ts, w.before args s = true) (hin : ∀ w ∈ u_ws C T N, w ∈ Ts) (ty0 : Nat → FieldType) (hty : ∀ k, k < N → parseFieldDescriptor (T k).2.2.1 = some (ty0 k)) (hnm : ∀ a, a < N → ∀ b, b < N → a ≠ b → (T a).2.1 ≠ (T b).2.1) (hown : s.vm.findClass own = some m.cls) (hK : gK G s) (hH : gH G ad F H) (hS : va_S (gA G) H0 H locs) (f i : Nat) (hf : f < 40) (hi : i < gcnt (gcn F) f) (h38 : f ≠ 38) {fs0 : List Value} (he : gcell G.2.2.1 ad f i (F f i) = .inr (ci, fs0)) (hc : vwCl[ci]? = some (C, T, N)) (k : Nat) (hk : k < N) (hlink : (Cond.fieldLinkNest own index ref (T k).2.1 (T k).2.2.1 host).before args s = true) (hsame : ∀ x, s.fieldFound? (T k).1 (T k).2.1 (T k).2.2.1 = some x → s.fieldFound? ref (T k).2.1 (T k).2.2.1 = some x) (hfin : (T k).2.2.2 = false) {ty : FieldType} {v : Value} (hd : parseFieldDescriptor (T k).2.2.1 = some ty) (hn : narrow ty v = v) (hfit : fits ty v = true) (hl : k < fs0.length) (x : Int32) (he2 : gcell G.2.2.1 ad f i (upd (F f i) k x) = .inr (ci, fs0.set k v)) (hdg : decode cc pc = .ok (.putfield index, 3))
    (kk : ∀ (H1 : Heap) (locs1 : List Loc), gH G ad (fs F f i k x) H1 → va_S (gA G) H0 H1 locs1 → W p l e R s m args below meth c H1 locs1 cells slots Q (F0 m (pc + 3) ls rest)) : W p l e R s m args below meth c H locs cells slots Q (F0 m pc ls (v :: .ref (ad f i) :: rest)) := by
  obtain ⟨q0, hq0, hq⟩ := gW_get (cy := G.2.2.1) (ad := ad) hf hi
  have hset := gW_set (F1 := fs F f i k x) (e := .inr (ci, fs0.set k v)) hH.2 hq0 (by show (fs F f i k x 38 0 0).toNatClampNeg = _; rw [fs_row (fun h => h38 h.1.symm)] <;> rfl) (fun f1 i1 h => fs_row h) (by rw [fs_self]; exact he2)
  refine va_putN hexec hb hts hin ty0 hty hnm hown hK hH.1 hH.2 hS q0 (hq.trans (by rw [he])) hc k hk hlink hsame hfin hd hn hfit hl hdg (fun H1 locs1 hP hD hS1 => ?_)
  rw [hset] at hP hD
  exact kk H1 locs1 ⟨hP, hD⟩ hS1
theorem g_iald (hexec : p.tables.exec = Jvm.exec) (hb : c.code = cc) (hK : gK G s) (hH : gH G ad F H) (f i : Nat) (hf : f < 40) (hi : i < gcnt (gcn F) f) (n : Nat) (he : gcell G.2.2.1 ad f i (F f i) = .inl (G.2.2.1 2, n, .inl (F f i))) {j : Int32} (hin : vp_in j n) (hdg : decode cc pc = .ok (.iaload, 1))
    (kk : W p l e R s m args below meth c H locs cells slots Q (F0 m (pc + 1) ls (.int (F f i j.toNatClampNeg) :: rest))) : W p l e R s m args below meth c H locs cells slots Q (F0 m pc ls (.int j :: .ref (ad f i) :: rest)) := by
  obtain ⟨q0, -, hq⟩ := gW_get (cy := G.2.2.1) (ad := ad) hf hi
  exact va_iald hexec hb hK hH.1 q0 2 (hq.trans (by rw [he])) rfl hin hdg kk
theorem g_zald (hexec : p.tables.exec = Jvm.exec) (hb : c.code = cc) (hK : gK G s) (hH : gH G ad F H) (f i : Nat) (hf : f < 40) (hi : i < gcnt (gcn F) f) (n : Nat) (he : gcell G.2.2.1 ad f i (F f i) = .inl (G.2.2.1 3, n, .inl (F f i))) {j : Int32} (hin : vp_in j n) (hdg : decode cc pc = .ok (.baload, 1))
    (kk : W p l e R s m args below meth c H locs cells slots Q (F0 m (pc + 1) ls (.int (F f i j.toNatClampNeg) :: rest))) : W p l e R s m args below meth c H locs cells slots Q (F0 m pc ls (.int j :: .ref (ad f i) :: rest)) := by
  obtain ⟨q0, -, hq⟩ := gW_get (cy := G.2.2.1) (ad := ad) hf hi
  exact va_zald hexec hb hK hH.1 q0 3 (hq.trans (by rw [he])) rfl hin hdg kk
theorem g_bald (hexec : p.tables.exec = Jvm.exec) (hb : c.code = cc) (hK : gK G s) (hH : gH G ad F H) (f i : Nat) (hf : f < 40) (hi : i < gcnt (gcn F) f) (n : Nat) (he : gcell G.2.2.1 ad f i (F f i) = .inl (G.2.2.1 0, n, .inl (F f i))) {j : Int32} (hin : vp_in j n) (hdg : decode cc pc = .ok (.baload, 1))
    (kk : W p l e R s m args below meth c H locs cells slots Q (F0 m (pc + 1) ls (.int (F f i j.toNatClampNeg) :: rest))) : W p l e R s m args below meth c H locs cells slots Q (F0 m pc ls (.int j :: .ref (ad f i) :: rest)) := by
  obtain ⟨q0, -, hq⟩ := gW_get (cy := G.2.2.1) (ad := ad) hf hi
  exact va_bald hexec hb hK hH.1 q0 0 (hq.trans (by rw [he])) rfl hin hdg kk
theorem g_cald (hexec : p.tables.exec = Jvm.exec) (hb : c.code = cc) (hK : gK G s) (hH : gH G ad F H) (f i : Nat) (hf : f < 40) (hi : i < gcnt (gcn F) f) (n : Nat) (he : gcell G.2.2.1 ad f i (F f i) = .inl (G.2.2.1 1, n, .inl (F f i))) {j : Int32} (hin : vp_in j n) (hdg : decode cc pc = .ok (.caload, 1))
    (kk : W p l e R s m args below meth c H locs cells slots Q (F0 m (pc + 1) ls (.int (F f i j.toNatClampNeg) :: rest))) : W p l e R s m args below meth c H locs cells slots Q (F0 m pc ls (.int j :: .ref (ad f i) :: rest)) := by
  obtain ⟨q0, -, hq⟩ := gW_get (cy := G.2.2.1) (ad := ad) hf hi
  exact va_cald hexec hb hK hH.1 q0 1 (hq.trans (by rw [he])) rfl hin hdg kk
theorem g_iast (hexec : p.tables.exec = Jvm.exec) (hb : c.code = cc) (hK : gK G s) (hH : gH G ad F H) (hS : va_S (gA G) H0 H locs) (f i : Nat) (hf : f < 40) (hi : i < gcnt (gcn F) f) (h38 : f ≠ 38) (n : Nat) (he : ∀ z : Nat → Int32, gcell G.2.2.1 ad f i z = .inl (G.2.2.1 2, n, .inl z)) {j x : Int32} (hin : vp_in j n) (hdg : decode cc pc = .ok (.iastore, 1))
    (kk : ∀ (H1 : Heap) (locs1 : List Loc), gH G ad (fs F f i j.toNatClampNeg x) H1 → va_S (gA G) H0 H1 locs1 → W p l e R s m args below meth c H1 locs1 cells slots Q (F0 m (pc + 1) ls rest)) : W p l e R s m args below meth c H locs cells slots Q (F0 m pc ls (.int x :: .int j :: .ref (ad f i) :: rest)) := by
  obtain ⟨q0, hq0, hq⟩ := gW_get (cy := G.2.2.1) (ad := ad) hf hi
  have hset := gW_set (F1 := fs F f i j.toNatClampNeg x) (e := .inl (G.2.2.1 2, n, .inl (upd (F f i) j.toNatClampNeg x))) hH.2 hq0 (by show (fs F f i j.toNatClampNeg _ 38 0 0).toNatClampNeg = _; rw [fs_row (fun h => h38 h.1.symm)] <;> rfl) (fun f1 i1 h => fs_row h) (by rw [fs_self]; exact he _)
  refine va_iast hexec hb hK hH.1 hH.2 hS q0 2 (hq.trans (by rw [he])) rfl hin hdg (fun H1 locs1 hP hD hS1 => ?_)
  rw [hset] at hP hD
  exact kk H1 locs1 ⟨hP, hD⟩ hS1
theorem g_zast (hexec : p.tables.exec = Jvm.exec) (hb : c.code = cc) (hK : gK G s) (hH : gH G ad F H) (hS : va_S (gA G) H0 H locs) (f i : Nat) (hf : f < 40) (hi : i < gcnt (gcn F) f) (h38 : f ≠ 38) (n : Nat) (he : ∀ z : Nat → Int32, gcell G.2.2.1 ad f i z = .inl (G.2.2.1 3, n, .inl z)) {j x : Int32} (hin : vp_in j n) (hdg : decode cc pc = .ok (.bastore, 1))
    (kk : ∀ (H1 : Heap) (locs1 : List Loc), gH G ad (fs F f i j.toNatClampNeg (vp_nar .boolean x)) H1 → va_S (gA G) H0 H1 locs1 → W p l e R s m args below meth c H1 locs1 cells slots Q (F0 m (pc + 1) ls rest)) : W p l e R s m args below meth c H locs cells slots Q (F0 m pc ls (.int x :: .int j :: .ref (ad f i) :: rest)) := by
  obtain ⟨q0, hq0, hq⟩ := gW_get (cy := G.2.2.1) (ad := ad) hf hi
  have hset := gW_set (F1 := fs F f i j.toNatClampNeg (vp_nar .boolean x)) (e := .inl (G.2.2.1 3, n, .inl (upd (F f i) j.toNatClampNeg (vp_nar .boolean x)))) hH.2 hq0 (by show (fs F f i j.toNatClampNeg _ 38 0 0).toNatClampNeg = _; rw [fs_row (fun h => h38 h.1.symm)] <;> rfl) (fun f1 i1 h => fs_row h) (by rw [fs_self]; exact he _)
  refine va_zast hexec hb hK hH.1 hH.2 hS q0 3 (hq.trans (by rw [he])) rfl hin hdg (fun H1 locs1 hP hD hS1 => ?_)
  rw [hset] at hP hD
  exact kk H1 locs1 ⟨hP, hD⟩ hS1
theorem g_bast (hexec : p.tables.exec = Jvm.exec) (hb : c.code = cc) (hK : gK G s) (hH : gH G ad F H) (hS : va_S (gA G) H0 H locs) (f i : Nat) (hf : f < 40) (hi : i < gcnt (gcn F) f) (h38 : f ≠ 38) (n : Nat) (he : ∀ z : Nat → Int32, gcell G.2.2.1 ad f i z = .inl (G.2.2.1 0, n, .inl z)) {j x : Int32} (hin : vp_in j n) (hdg : decode cc pc = .ok (.bastore, 1))
    (kk : ∀ (H1 : Heap) (locs1 : List Loc), gH G ad (fs F f i j.toNatClampNeg (vp_nar .byte x)) H1 → va_S (gA G) H0 H1 locs1 → W p l e R s m args below meth c H1 locs1 cells slots Q (F0 m (pc + 1) ls rest)) : W p l e R s m args below meth c H locs cells slots Q (F0 m pc ls (.int x :: .int j :: .ref (ad f i) :: rest)) := by
  obtain ⟨q0, hq0, hq⟩ := gW_get (cy := G.2.2.1) (ad := ad) hf hi
  have hset := gW_set (F1 := fs F f i j.toNatClampNeg (vp_nar .byte x)) (e := .inl (G.2.2.1 0, n, .inl (upd (F f i) j.toNatClampNeg (vp_nar .byte x)))) hH.2 hq0 (by show (fs F f i j.toNatClampNeg _ 38 0 0).toNatClampNeg = _; rw [fs_row (fun h => h38 h.1.symm)] <;> rfl) (fun f1 i1 h => fs_row h) (by rw [fs_self]; exact he _)
  refine va_bast hexec hb hK hH.1 hH.2 hS q0 0 (hq.trans (by rw [he])) rfl hin hdg (fun H1 locs1 hP hD hS1 => ?_)
  rw [hset] at hP hD
  exact kk H1 locs1 ⟨hP, hD⟩ hS1
theorem g_cast (hexec : p.tables.exec = Jvm.exec) (hb : c.code = cc) (hK : gK G s) (hH : gH G ad F H) (hS : va_S (gA G) H0 H locs) (f i : Nat) (hf : f < 40) (hi : i < gcnt (gcn F) f) (h38 : f ≠ 38) (n : Nat) (he : ∀ z : Nat → Int32, gcell G.2.2.1 ad f i z = .inl (G.2.2.1 1, n, .inl z)) {j x : Int32} (hin : vp_in j n) (hdg : decode cc pc = .ok (.castore, 1))
    (kk : ∀ (H1 : Heap) (locs1 : List Loc), gH G ad (fs F f i j.toNatClampNeg (vp_nar .char x)) H1 → va_S (gA G) H0 H1 locs1 → W p l e R s m args below meth c H1 locs1 cells slots Q (F0 m (pc + 1) ls rest)) : W p l e R s m args below meth c H locs cells slots Q (F0 m pc ls (.int x :: .int j :: .ref (ad f i) :: rest)) := by
  obtain ⟨q0, hq0, hq⟩ := gW_get (cy := G.2.2.1) (ad := ad) hf hi
  have hset := gW_set (F1 := fs F f i j.toNatClampNeg (vp_nar .char x)) (e := .inl (G.2.2.1 1, n, .inl (upd (F f i) j.toNatClampNeg (vp_nar .char x)))) hH.2 hq0 (by show (fs F f i j.toNatClampNeg _ 38 0 0).toNatClampNeg = _; rw [fs_row (fun h => h38 h.1.symm)] <;> rfl) (fun f1 i1 h => fs_row h) (by rw [fs_self]; exact he _)
  refine va_cast hexec hb hK hH.1 hH.2 hS q0 1 (hq.trans (by rw [he])) rfl hin hdg (fun H1 locs1 hP hD hS1 => ?_)
  rw [hset] at hP hD
  exact kk H1 locs1 ⟨hP, hD⟩ hS1
theorem g_aald (hexec : p.tables.exec = Jvm.exec) (hb : c.code = cc) (hK : gK G s) (hH : gH G ad F H) (f i : Nat) (hf : f < 40) (hi : i < gcnt (gcn F) f) (t0 n : Nat) {C : String} {g : Nat → Option Nat} (he : gcell G.2.2.1 ad f i (F f i) = .inl (G.2.2.1 t0, n, .inr (.inr (.inr (.inr g))))) (ht : (gT G.2.2.1)[t0]? = some (G.2.2.1 t0, .object C)) {j : Int32} (hin : vp_in j n) {a : Nat} (hv : g j.toNatClampNeg = some a) (hdg : decode cc pc = .ok (.aaload, 1))
    (kk : W p l e R s m args below meth c H locs cells slots Q (F0 m (pc + 1) ls (.ref a :: rest))) : W p l e R s m args below meth c H locs cells slots Q (F0 m pc ls (.int j :: .ref (ad f i) :: rest)) := by
  obtain ⟨q0, -, hq⟩ := gW_get (cy := G.2.2.1) (ad := ad) hf hi
  exact va_aldq hexec hb hK hH.1 q0 t0 (hq.trans (by rw [he])) ht hin hdg (by rw [hv]; exact kk)
theorem g_aaldA (hexec : p.tables.exec = Jvm.exec) (hb : c.code = cc) (hK : gK G s) (hH : gH G ad F H) (f i : Nat) (hf : f < 40) (hi : i < gcnt (gcn F) f) (t0 n : Nat) {C : FieldType} {g : Nat → Option Nat} (he : gcell G.2.2.1 ad f i (F f i) = .inl (G.2.2.1 t0, n, .inr (.inr (.inr (.inr g))))) (ht : (gT G.2.2.1)[t0]? = some (G.2.2.1 t0, .array C)) {j : Int32} (hin : vp_in j n) {a : Nat} (hv : g j.toNatClampNeg = some a) (hdg : decode cc pc = .ok (.aaload, 1))
    (kk : W p l e R s m args below meth c H locs cells slots Q (F0 m (pc + 1) ls (.ref a :: rest))) : W p l e R s m args below meth c H locs cells slots Q (F0 m pc ls (.int j :: .ref (ad f i) :: rest)) := by
  obtain ⟨q0, -, hq⟩ := gW_get (cy := G.2.2.1) (ad := ad) hf hi
  have hlt : j.toNatClampNeg < n := Nat.not_le.mp fun q => hin (Or.inr q)
  have h9 : H[ad f i]? = some (vp_cell (G.2.2.1 t0) (n, .inr (.inr (.inr (.inr g))))) := hH.1 q0 (ad f i, .inl (G.2.2.1 t0, n, .inr (.inr (.inr (.inr g))))) (hq.trans (by rw [he]))
  exact W.aald (v := va_rf (g j.toNatClampNeg)) (ty := .array C) hexec hb h9 ((hK.2 t0 _ ht).1 n (fun j => va_rf (g j))) rfl (fun q => by cases q) (by show ¬ (j < 0 ∨ (arrV _ _ _).slots.size ≤ _); rw [arrV_size]; exact hin) (by show (arrV _ _ _).slots[_]? = _; rw [arrV_read _ _ hlt]) rfl rfl hdg (by rw [hv]; exact kk)
theorem g_alen (hexec : p.tables.exec = Jvm.exec) (hb : c.code = cc) (hK : gK G s) (hH : gH G ad F H) (f i : Nat) (hf : f < 40) (hi : i < gcnt (gcn F) f) (t0 : Nat) {ty : FieldType} {n : Nat} {z : (Nat → Int32) ⊕ (Nat → Int64) ⊕ (Nat → UInt32) ⊕ (Nat → UInt64) ⊕ (Nat → Option Nat)} (he : gcell G.2.2.1 ad f i (F f i) = .inl (G.2.2.1 t0, n, z)) (ht : (gT G.2.2.1)[t0]? = some (G.2.2.1 t0, ty)) {v : Int32} (hv : Int32.ofNat n = v) (hdg : decode cc pc = .ok (.arraylength, 1))
    (kk : W p l e R s m args below meth c H locs cells slots Q (F0 m (pc + 1) ls (.int v :: rest))) : W p l e R s m args below meth c H locs cells slots Q (F0 m pc ls (.ref (ad f i) :: rest)) := by
  obtain ⟨q0, -, hq⟩ := gW_get (cy := G.2.2.1) (ad := ad) hf hi
  exact va_alen hexec hb hK hH.1 q0 t0 (hq.trans (by rw [he])) ht hv hdg kk
theorem g_throw {Qc : Array Value → State → Outcome → State → Prop} {XC : String → State → State → Prop} {mc ms : Nat} {free : Addr → Prop} {ik is ic : Nat} {cls text : String} {Ts : List Cond} (hexec : p.tables.exec = Jvm.exec) (hb : c.code = cc) (hl : l.stackTraces = false) (hno : ∀ x ∈ c.exceptionTable.toList, False) (hown : s.vm.findClass RX10 = some m.cls) (hts : ∀ w ∈ Ts, w.before args s = true) (hG : gS G s) (hS : va_S (gA G) s.heap H locs) (hx0 : (ic, cls) ∈ gXs) (hs0 : ("BallotFoundry", is, text) ∈ gSR)
    (hk : Cond.classLink RX10 ik cls ∈ Ts) (hini : Cond.initialized cls ∈ Ts) (hat : ∀ w ∈ (vx_atS RX10 ic cls gUp).filter goodWord, w ∈ Ts) (hsize : ls.size = c.maxLocals) (hlocks : meth.locks = false)
    (d0 : decode cc pc = .ok (.new ik, 3)) (d3 : decode cc (pc + 3) = .ok (.dup, 1)) (d4 : decode cc (pc + 4) = .ok (.ldc is, 2)) (d6 : decode cc (pc + 6) = .ok (.invokespecial ic, 3)) (d9 : decode cc (pc + 9) = .ok (.athrow, 1))
    (hRframes : 5 < R.frames) (hRlocals : (rest.map fun v => v.category).sum + 82 ≤ R.locals) (hRcells : cells + 1 ≤ R.cells) (hRslots : slots + 6 ≤ R.slots)
    (hx : ∀ t : State, s.vm.Alike t.vm → H.size ≤ t.heap.size → (∀ q : Nat, q < H.size → t.heap[q]? = H[q]?) → XC cls s t) (hf : ∀ z ∈ locs, free z.base) (hc : cells + 1 ≤ mc) (hs : slots + 6 ≤ ms) :
    W p l e R s m args below meth c H locs cells slots (vx_MQ below Qc XC args s mc ms free) (F0 m pc ls rest) := by
  obtain ⟨sa, hsa⟩ := hG.2.2.1 _ hs0
  refine vx_throwS (names := gUp) (sa := sa) hexec hb hl hown (gXs_fit _ hx0) (by decide) (hts _ hk) (hts _ hini) hsa (vx_hat (B := (vx_atS RX10 ic cls gUp).filter (fun w => !goodWord w)) (fun w hw => hts w (hat w hw)) (fun w hw => hw) (fun w hw => va_Nw.use (by
    have h8 := gXs_cast _ hx0 w hw
    cases w <;> first | rfl | (simp [gCast] at h8)) (hG.2.2.2.1 _ hx0 w hw))) (List.forall_mem_cons.mpr ⟨rfl, List.forall_mem_cons.mpr ⟨rfl, gXs_ot _ hx0⟩⟩) hG.2.2.2.2.1 hG.2.2.2.2.2.1 hS hsize d0 d3 d4 d6 d9 (fun x hx => (hno x hx).elim) hRframes hRlocals hRcells hRslots hlocks hx hf hc hs
theorem g_throwW {Qc : Array Value → State → Outcome → State → Prop} {XC : String → State → State → Prop} {mc ms : Nat} {free : Addr → Prop} {ik is ic : Nat} {cls text : String} {Ts : List Cond} (hexec : p.tables.exec = Jvm.exec) (hb : c.code = cc) (hl : l.stackTraces = false) (hno : ∀ x ∈ c.exceptionTable.toList, False) (hown : s.vm.findClass RX10 = some m.cls) (hts : ∀ w ∈ Ts, w.before args s = true) (hG : gS G s) (hS : va_S (gA G) s.heap H locs) (hx0 : (ic, cls) ∈ gXs) (hs0 : ("BallotFoundry", is, text) ∈ gSR)
    (hk : Cond.classLink RX10 ik cls ∈ Ts) (hini : Cond.initialized cls ∈ Ts) (hat : ∀ w ∈ (vx_atS RX10 ic cls gUp).filter goodWord, w ∈ Ts) (hsize : ls.size = c.maxLocals) (hlocks : meth.locks = false)
    (d0 : decode cc pc = .ok (.new ik, 3)) (d3 : decode cc (pc + 3) = .ok (.dup, 1)) (d4 : decode cc (pc + 4) = .ok (.ldc_w is, 3)) (d6 : decode cc (pc + 7) = .ok (.invokespecial ic, 3)) (d9 : decode cc (pc + 10) = .ok (.athrow, 1))
    (hRframes : 5 < R.frames) (hRlocals : (rest.map fun v => v.category).sum + 82 ≤ R.locals) (hRcells : cells + 1 ≤ R.cells) (hRslots : slots + 6 ≤ R.slots)
    (hx : ∀ t : State, s.vm.Alike t.vm → H.size ≤ t.heap.size → (∀ q : Nat, q < H.size → t.heap[q]? = H[q]?) → XC cls s t) (hf : ∀ z ∈ locs, free z.base) (hc : cells + 1 ≤ mc) (hs : slots + 6 ≤ ms) :
    W p l e R s m args below meth c H locs cells slots (vx_MQ below Qc XC args s mc ms free) (F0 m pc ls rest) := by
  obtain ⟨sa, hsa⟩ := hG.2.2.1 _ hs0
  refine vx_throwSW (names := gUp) (sa := sa) hexec hb hl hown (gXs_fit _ hx0) (by decide) (hts _ hk) (hts _ hini) hsa (vx_hat (B := (vx_atS RX10 ic cls gUp).filter (fun w => !goodWord w)) (fun w hw => hts w (hat w hw)) (fun w hw => hw) (fun w hw => va_Nw.use (by
    have h8 := gXs_cast _ hx0 w hw
    cases w <;> first | rfl | (simp [gCast] at h8)) (hG.2.2.2.1 _ hx0 w hw))) (List.forall_mem_cons.mpr ⟨rfl, List.forall_mem_cons.mpr ⟨rfl, gXs_ot _ hx0⟩⟩) hG.2.2.2.2.1 hG.2.2.2.2.2.1 hS hsize d0 d3 d4 d6 d9 (fun x hx => (hno x hx).elim) hRframes hRlocals hRcells hRslots hlocks hx hf hc hs
theorem g_aload_n {k : Fin 4} {i : Nat} {x : Int32} (hexec : p.tables.exec = Jvm.exec) (hb : c.code = cc) (hdg : decode cc pc = .ok (.aload_n k, 1)) (hi : (k : Nat) = i) (hl : ls[i]? = some (.val (gst ad x)))
    (kk : W p l e R s m args below meth c H locs cells slots Q (F0 m (pc + 1) ls (gst ad x :: rest))) : W p l e R s m args below meth c H locs cells slots Q (F0 m pc ls rest) := by
  unfold gst at hl kk
  split at hl
  · rename_i h
    rw [if_pos h] at kk
    exact lv_aload_nN hexec hb hdg hi hl kk
  · rename_i h
    rw [if_neg h] at kk
    exact lv_aload_n hexec hb hdg hi hl kk
theorem g_astore_n {k : Fin 4} {i nL : Nat} {x : Int32} {lv lv' : List (Nat × Value)} (hexec : p.tables.exec = Jvm.exec) (hb : c.code = cc) (hdg : decode cc pc = .ok (.astore_n k, 1)) (hi : (k : Nat) = i) (h : lv_has ls nL lv) (hn : i < nL) (hl : (i, gst ad x) :: lv.filter (fun q => !(q.1 == i) && !(q.1 + 1 == i && q.2.category == 2)) = lv')
    (kk : ∀ ls' : Array Slot, lv_has ls' nL lv' → W p l e R s m args below meth c H locs cells slots Q (F0 m (pc + 1) ls' rest)) : W p l e R s m args below meth c H locs cells slots Q (F0 m pc ls (gst ad x :: rest)) := by
  unfold gst at hl ⊢
  split at hl
  · rename_i h9
    rw [if_pos h9]
    exact lv_astore_nN hexec hb hdg hi h hn hl kk
  · rename_i h9
    rw [if_neg h9]
    exact lv_astore_n hexec hb hdg hi h hn hl kk
theorem g_ifnull {off : Int} {tgt : Nat} {x : Int32} (hexec : p.tables.exec = Jvm.exec) (hb : c.code = cc) (hdg : decode cc pc = .ok (.ifnull off, 3)) (ht : (pc : Int) + off = (tgt : Int)) (kt : x < 0 → W p l e R s m args below meth c H locs cells slots Q (F0 m tgt ls rest)) (kf : ¬ x < 0 → W p l e R s m args below meth c H locs cells slots Q (F0 m (pc + 3) ls rest)) : W p l e R s m args below meth c H locs cells slots Q (F0 m pc ls (gst ad x :: rest)) := by
  unfold gst
  split
  · rename_i h
    exact lv_ifnullN hexec hb hdg ht (kt h)
  · rename_i h
    exact lv_ifnull hexec hb hdg (kf h)
theorem g_recv {C : String} {T : u_T} {N ci : Nat} (hK : gK G s) (hH : gH G ad F H) (f i : Nat) (hf : f < 40) (hi : i < gcnt (gcn F) f) {fs0 : List Value} (he : gcell G.2.2.1 ad f i (F f i) = .inr (ci, fs0)) (hc : vwCl[ci]? = some (C, T, N)) : ∃ cell : Cell, H[ad f i]? = some cell ∧ cell.vm.isStatics = false ∧ s.vm.findClass C = some cell.cls := by
  obtain ⟨q0, -, hq⟩ := gW_get (cy := G.2.2.1) (ad := ad) hf hi
  exact va_recv hK hH.1 (q0 := q0) hc (hq.trans (by rw [he]))
theorem gH_grow {t : State} (h : gH G ad F H) (hz : H.size ≤ t.heap.size) (hk : ∀ q : Nat, q < H.size → t.heap[q]? = H[q]?) : gH G ad F t.heap := ⟨h.1.kept (fun k q hq => hk q.1 (h.1 k q hq).lt), h.2⟩
theorem gH_at {t : State} (ht : t.heap = H) (h : gH G ad F H) : gH G ad F t.heap := by rw [ht]; exact h
theorem gH_to {t : State} (ht : t.heap = H) (h : gH G ad F t.heap) : gH G ad F H := by rw [ht] at h; exact h
theorem gF_grow {A : Nat → Prop} {t : State} (h : va_S A s.heap H locs) (hz : H.size ≤ t.heap.size) (hk : ∀ q : Nat, q < H.size → t.heap[q]? = H[q]?) : va_F A s t := ⟨Nat.le_trans h.1 hz, fun q h1 h2 => by rw [hk q (Nat.lt_of_lt_of_le h1 h.1)]; exact h.2.1 q h1 h2⟩
end GR
theorem gst_ref {ad : Nat → Nat → Nat} {x : Int32} (h : ¬ x < 0) : gst ad x = .ref (ad 39 x.toNatClampNeg) := by
  unfold gst
  rw [if_neg h]
  rfl
def gad (ad : Nat → Nat → Nat) (n q : Nat) : Nat → Nat → Nat := fun f i => if f = 39 ∧ i = n then q else ad f i
theorem gad_self (ad : Nat → Nat → Nat) (n q : Nat) : gad ad n q 39 n = q := if_pos ⟨rfl, rfl⟩
theorem gad_old {ad : Nat → Nat → Nat} {n q f i : Nat} (h : f ≠ 39) : gad ad n q f i = ad f i := if_neg (fun z => h z.1)
abbrev gQa (G : GP) (ad : Nat → Nat → Nat) (K : Int32 → GF → Prop) := va_Qi (S := GF × (Nat → Nat → Nat)) (fun r u => K r u.1 ∧ ∀ f i, f ≠ 39 → u.2 f i = ad f i) (fun u t => gH G u.2 u.1 t.heap) (gA G)
theorem gcn_new1 {F : GF} (h : gcn F + 1 < 2 ^ 31) : gcn (fnew F) = gcn F + 1 := by
  show (fnew F 38 0 0).toNatClampNeg = _
  unfold fnew
  rw [fs_self]
  show (upd _ 0 (nI (gcn F + 1)) 0).toNatClampNeg = _
  rw [show upd _ 0 (nI (gcn F + 1)) 0 = nI (gcn F + 1) from if_pos rfl]
  exact nI_clamp h
theorem gcn_new {F : GF} (h : gcn F + 1 < 2 ^ 31) : gcn F < gcn (fnew F) := by rw [gcn_new1 h]; omega
theorem gst_nI {ad : Nat → Nat → Nat} {n : Nat} (h : n < 2 ^ 31) : gst ad (nI n) = .ref (ad 39 n) := by
  rw [gst_ref (nI_pos h), nI_clamp h]
theorem gput_latest {cy : Nat → ClassId} {ad : Nat → Nat → Nat} {n i : Nat} {x : Nat → Int32} (h : n < 2 ^ 31) : gcell cy ad 33 i (upd x 1 (nI n)) = .inr (8, [.int (x 0), .ref (ad 39 n), .int (x 2)]) := by
  show Sum.inr (8, [Value.int (x 0), gst ad (nI n), Value.int (x 2)]) = _
  rw [gst_nI h]
theorem gst_gad {ad : Nat → Nat → Nat} {n q : Nat} {x : Int32} (h : gko n x) : gst (gad ad n q) x = gst ad x := by
  unfold gst
  split
  · rfl
  · rename_i h2
    rw [show gad ad n q 39 x.toNatClampNeg = ad 39 x.toNatClampNeg from if_neg (fun z => h.elim h2 (fun h => by omega))]
theorem gcell_gad {cy : Nat → ClassId} {ad : Nat → Nat → Nat} {n q f i : Nat} {x : Nat → Int32} (h33 : f = 33 → gko n (x 1)) (h39 : f = 39 → gko n (x 2)) : gcell cy (gad ad n q) f i x = gcell cy ad f i x := by
  by_cases e33 : f = 33
  · subst e33
    show Sum.inr (8, [Value.int (x 0), gst (gad ad n q) (x 1), Value.int (x 2)]) = Sum.inr (8, [Value.int (x 0), gst ad (x 1), Value.int (x 2)])
    rw [gst_gad (h33 rfl)]
  by_cases e39 : f = 39
  · subst e39
    show Sum.inr (12, [Value.int (x 0), Value.int (x 1), gst (gad ad n q) (x 2)]) = Sum.inr (12, [Value.int (x 0), Value.int (x 1), gst ad (x 2)])
    rw [gst_gad (h39 rfl)]
  unfold gcell
  split <;> first | rfl | (exact absurd rfl e33) | (exact absurd rfl e39)
theorem gcnt_new {n f i : Nat} : i < gcnt (n + 1) f ↔ i < gcnt n f ∨ (f = 39 ∧ i = n) := by
  by_cases e : f = 39
  · subst e
    show i < n + 1 ↔ i < n ∨ _
    constructor
    · intro h
      by_cases h2 : i < n
      · exact Or.inl h2
      · exact Or.inr ⟨rfl, by omega⟩
    · rintro (h | ⟨-, h⟩) <;> omega
  · have h1 : gcnt (n + 1) f = gcnt n f := by
      unfold gcnt
      split <;> first | rfl | (exact absurd rfl e)
    rw [h1]
    exact ⟨Or.inl, fun h => h.resolve_right (fun z => e z.1)⟩
theorem gkeys_mem {n : Nat} {k : Nat × Nat} : k ∈ gkeys n ↔ k.1 < 40 ∧ k.2 < gcnt n k.1 := by
  constructor
  · intro h
    obtain ⟨f, hf, h2⟩ := List.mem_flatMap.mp h
    obtain ⟨i, hi, rfl⟩ := List.mem_map.mp h2
    exact ⟨List.mem_range.mp hf, List.mem_range.mp hi⟩
  · rintro ⟨h1, h2⟩
    exact gkeys_in h1 h2
theorem gkeys_nodup (n : Nat) : (gkeys n).Nodup := by
  unfold gkeys List.Nodup
  rw [List.pairwise_flatMap]
  refine ⟨fun f _ => ?_, ?_⟩
  · rw [List.pairwise_map]
    exact List.Pairwise.imp (fun h e => by cases e; omega) (List.pairwise_lt_range (n := gcnt n f))
  · refine List.Pairwise.imp (fun {a b} h x hx y hy e => ?_) (List.pairwise_lt_range (n := 40))
    obtain ⟨i, -, rfl⟩ := List.mem_map.mp hx
    obtain ⟨j, -, rfl⟩ := List.mem_map.mp hy
    cases e
    omega
theorem gW_inj {cy : Nat → ClassId} {ad : Nat → Nat → Nat} {F : GF} {A : Nat → Prop} (hD : va_D A (gW cy ad F)) {a b : Nat × Nat} (ha : a ∈ gkeys (gcn F)) (hb : b ∈ gkeys (gcn F)) (e : ad a.1 a.2 = ad b.1 b.2) : a = b := by
  obtain ⟨i, hi⟩ := List.getElem?_of_mem ha
  obtain ⟨j, hj⟩ := List.getElem?_of_mem hb
  have h1 : (gW cy ad F)[i]? = some (ad a.1 a.2, gcell cy ad a.1 a.2 (F a.1 a.2)) := by unfold gW; rw [List.getElem?_map, hi]; rfl
  have h2 : (gW cy ad F)[j]? = some (ad b.1 b.2, gcell cy ad b.1 b.2 (F b.1 b.2)) := by unfold gW; rw [List.getElem?_map, hj]; rfl
  have h3 := hD.1 i j _ _ h1 h2 e
  subst h3
  exact Option.some.inj (hi.symm.trans hj)
theorem gW_mem {cy : Nat → ClassId} {ad : Nat → Nat → Nat} {F : GF} {k : Nat} {p : Nat × va_E} (h : (gW cy ad F)[k]? = some p) : ∃ a : Nat × Nat, (gkeys (gcn F))[k]? = some a ∧ a ∈ gkeys (gcn F) ∧ p = (ad a.1 a.2, gcell cy ad a.1 a.2 (F a.1 a.2)) := by
  unfold gW at h
  rw [List.getElem?_map] at h
  cases hk : (gkeys (gcn F))[k]? with
  | none => rw [hk] at h; cases h
  | some a =>
    rw [hk] at h
    exact ⟨a, rfl, List.mem_of_getElem? hk, (Option.some.inj h).symm⟩
/-- a world out of facts on its keys -/
theorem gW_mk {cy : Nat → ClassId} {ad : Nat → Nat → Nat} {F : GF} {A : Nat → Prop} {D : va_G} {cl : List vw_C} {H : Heap} (h1 : ∀ a ∈ gkeys (gcn F), va_at D cl (ad a.1 a.2, gcell cy ad a.1 a.2 (F a.1 a.2)) H) (h2 : ∀ a ∈ gkeys (gcn F), A (ad a.1 a.2)) (h3 : ∀ a ∈ gkeys (gcn F), ∀ b ∈ gkeys (gcn F), ad a.1 a.2 = ad b.1 b.2 → a = b) : va_P D cl (gW cy ad F) H ∧ va_D A (gW cy ad F) := by
  refine ⟨fun k p hp => ?_, fun i j p r hp hr e => ?_, fun k p hp => ?_⟩
  · obtain ⟨a, -, ha, rfl⟩ := gW_mem hp
    exact h1 a ha
  · obtain ⟨a, ka, ha, rfl⟩ := gW_mem hp
    obtain ⟨b, kb, hb, rfl⟩ := gW_mem hr
    obtain rfl := h3 a ha b hb e
    exact (List.getElem?_inj (List.getElem?_eq_some_iff.mp ka).1 (gkeys_nodup _)).mp (ka.trans kb.symm)
  · obtain ⟨a, -, ha, rfl⟩ := gW_mem hp
    exact h2 a ha
section GN
variable {p : Program} {l : Launch} {e : Env} {R : Room} {s : State} {m : MethodId} {args : Array Value} {below : List Frame} {meth : Method} {c : Code} {H : Heap} {locs : List Loc} {cells slots : Nat} {Q : State → Prop}
variable {cc : ByteArray} {pc : Nat} {ls : Array Slot} {rest : List Value} {G : GP} {ad : Nat → Nat → Nat} {F : GF}
theorem g_newStay {own : String} {index : Nat} {Ts : List Cond} (hexec : p.tables.exec = Jvm.exec) (hb : c.code = cc) (hts : ∀ w ∈ Ts, w.before args s = true) (hin : ∀ w ∈ u_ws RX8 TX8 3, w ∈ Ts) (hown : s.vm.findClass own = some m.cls) (hcl : (Cond.classLink own index RX8).before args s = true) (hinst : (Cond.instantiable RX8 3).before args s = true) (hini : (Cond.initialized RX8).before args s = true) (hK : gK G s) (hH : gH G ad F H) (hS : va_S (gA G) s.heap H locs) (hB : ∀ q, s.heap.size ≤ q → gA G q) (hok : gok F) (hn : gcn F + 1 < 2 ^ 31) (hcells : cells + 1 ≤ R.cells) (hslots : slots + 3 ≤ R.slots) (hdg : decode cc pc = .ok (.new index, 3))
    (kk : ∀ (q : Nat) (H1 : Heap), gH G (gad ad (gcn F) q) (fnew F) H1 → va_S (gA G) s.heap H1 locs → W p l e R s m args below meth c H1 locs (cells + 1) (slots + 3) Q (F0 m (pc + 3) ls (.ref q :: rest))) : W p l e R s m args below meth c H locs cells slots Q (F0 m pc ls rest) := by
  refine va_new (ci := 12) (fs := [.int 0, .int 0, .null]) (C := RX8) (T := TX8) (N := 3) hexec hb hts hin tyX8 tyX8_ok hown hcl hinst hini hK hH.1 hH.2 hS hB rfl (fun j hj => by rcases (show j = 0 ∨ j = 1 ∨ j = 2 by omega) with rfl | rfl | rfl <;> rfl) hcells hslots hdg (fun q H1 hP hD hS1 => ?_)
  refine kk q H1 ?_ hS1
  obtain ⟨n, hne⟩ : ∃ n, n = gcn F := ⟨_, rfl⟩
  rw [← hne]
  have hc : gcn (fnew F) = n + 1 := by rw [hne]; exact gcn_new1 hn
  have hL : (gW G.2.2.1 ad F).length = (gkeys n).length := by unfold gW; rw [List.length_map, ← hne]
  have hnew : (gW G.2.2.1 ad F ++ [(q, Sum.inr (12, [Value.int 0, Value.int 0, Value.null]))])[(gW G.2.2.1 ad F).length]? = some (q, Sum.inr (12, [Value.int 0, Value.int 0, Value.null])) := by
    rw [List.getElem?_append_right (Nat.le_refl _), Nat.sub_self]
    rfl
  have hold : ∀ a : Nat × Nat, a ∈ gkeys n → ∃ k : Nat, k < (gW G.2.2.1 ad F).length ∧ (gW G.2.2.1 ad F ++ [(q, Sum.inr (12, [Value.int 0, Value.int 0, Value.null]))])[k]? = some (ad a.1 a.2, gcell G.2.2.1 ad a.1 a.2 (F a.1 a.2)) := by
    intro a ha
    have h := gkeys_mem.mp ha
    rw [hne] at h
    obtain ⟨k, -, hk⟩ := gW_get (cy := G.2.2.1) (ad := ad) h.1 h.2
    have hlt := (List.getElem?_eq_some_iff.mp hk).1
    exact ⟨k, hlt, by rw [List.getElem?_append_left hlt]; exact hk⟩
  have hmem : ∀ a : Nat × Nat, a ∈ gkeys (n + 1) → a ∈ gkeys n ∨ a = (39, n) := by
    intro a ha
    have h := gkeys_mem.mp ha
    rcases gcnt_new.mp h.2 with h2 | h2
    · exact Or.inl (gkeys_mem.mpr ⟨h.1, h2⟩)
    · exact Or.inr (Prod.ext h2.1 h2.2)
  have hnn : ∀ a : Nat × Nat, a ∈ gkeys n → ¬ (a.1 = 39 ∧ a.2 = n) := by
    intro a ha h
    have h2 := (gkeys_mem.mp ha).2
    rw [h.1, h.2] at h2
    exact Nat.lt_irrefl n h2
  have hnq : ∀ a : Nat × Nat, a ∈ gkeys n → ad a.1 a.2 ≠ q := by
    intro a ha h
    obtain ⟨k, hlt, hk⟩ := hold a ha
    have h2 := hD.1 k _ _ _ hk hnew h
    omega
  have hadO : ∀ a : Nat × Nat, a ∈ gkeys n → gad ad n q a.1 a.2 = ad a.1 a.2 := fun a ha => if_neg (hnn a ha)
  have hrow : ∀ a : Nat × Nat, a ∈ gkeys n → fnew F a.1 a.2 = F a.1 a.2 := by
    intro a ha
    have h1 := hnn a ha
    rw [hne] at h1
    have h2 : ¬ (a.1 = 38 ∧ a.2 = 0) := by
      intro h
      have h3 := (gkeys_mem.mp ha).2
      rw [h.1] at h3
      exact absurd h3 (Nat.not_lt_zero _)
    unfold fnew
    rw [fs_row h2, fs_row h1, fs_row h1, fs_row h1]
  have hcell : ∀ a : Nat × Nat, a ∈ gkeys n → gcell G.2.2.1 (gad ad n q) a.1 a.2 (fnew F a.1 a.2) = gcell G.2.2.1 ad a.1 a.2 (F a.1 a.2) := by
    intro a ha
    rw [hrow a ha]
    have h := (gkeys_mem.mp ha).2
    refine gcell_gad (fun e => ?_) (fun e => ?_)
    · rw [e] at h ⊢
      rw [hne]
      exact hok.1 a.2 h
    · rw [e] at h ⊢
      rw [hne]
      exact hok.2 a.2 (by rw [← hne]; exact h)
  have hnc : gcell G.2.2.1 (gad ad n q) 39 n (fnew F 39 n) = Sum.inr (12, [Value.int 0, Value.int 0, Value.null]) := by
    have e0 : fnew F 39 n 0 = 0 := by rw [hne]; simp [fnew, fs]
    have e1 : fnew F 39 n 1 = 0 := by rw [hne]; simp [fnew, fs]
    have e2 : fnew F 39 n 2 = -1 := by rw [hne]; simp [fnew, fs]
    show Sum.inr (12, [Value.int (fnew F 39 n 0), Value.int (fnew F 39 n 1), gst (gad ad n q) (fnew F 39 n 2)]) = _
    rw [e0, e1, e2]
    rfl
  refine gW_mk (fun a ha => ?_) (fun a ha => ?_) (fun a ha b hb2 e => ?_)
  · rw [hc] at ha
    rcases hmem a ha with h | rfl
    · obtain ⟨k, -, hk⟩ := hold a h
      rw [hadO a h, hcell a h]
      exact hP k _ hk
    · show va_at _ _ (gad ad n q 39 n, gcell G.2.2.1 (gad ad n q) 39 n (fnew F 39 n)) H1
      rw [gad_self, hnc]
      exact hP _ _ hnew
  · rw [hc] at ha
    rcases hmem a ha with h | rfl
    · obtain ⟨k, -, hk⟩ := hold a h
      rw [hadO a h]
      exact hD.2 k _ hk
    · show gA G (gad ad n q 39 n)
      rw [gad_self]
      exact hD.2 _ _ hnew
  · rw [hc] at ha hb2
    rcases hmem a ha with h | rfl <;> rcases hmem b hb2 with h' | rfl
    · rw [hadO a h, hadO b h'] at e
      rw [hne] at h h'
      exact gW_inj hH.2 h h' e
    · rw [hadO a h, show gad ad n q (39, n).1 (39, n).2 = q from gad_self _ _ _] at e
      exact absurd e (hnq a h)
    · rw [hadO b h', show gad ad n q (39, n).1 (39, n).2 = q from gad_self _ _ _] at e
      exact absurd e.symm (hnq b h')
    · rfl
end GN
theorem gin {x : Int32} {n : Nat} (h : vp_in x n) : x.toNatClampNeg < n := Nat.not_le.mp fun q => h (Or.inr q)
theorem gin8 {x : Int32} {i : Nat} (hi : i < 5) (h : vp_in x 8) : 8 * i + x.toNatClampNeg < 40 := by
  have := gin h
  omega
theorem gcn_fs {F : GF} {f i k : Nat} {v : Int32} (h : f ≠ 38) : gcn (fs F f i k v) = gcn F := by
  unfold gcn
  rw [fs_row (fun z => h z.1.symm)]
theorem gst_or (ad : Nat → Nat → Nat) (x : Int32) : gst ad x = .null ∨ ∃ a, gst ad x = .ref a := va_rf_or _
theorem gst_nar {ad : Nat → Nat → Nat} {x : Int32} : narrow (.object "BallotFoundry$Stay") (gst ad x) = gst ad x := by
  unfold gst
  split <;> rfl
theorem gst_fit {ad : Nat → Nat → Nat} {x : Int32} : fits (.object "BallotFoundry$Stay") (gst ad x) = true := by
  unfold gst
  split <;> rfl
theorem gz_nar {x : Int32} (h : x = 0 ∨ x = 1) : narrow .boolean (.int x) = .int x := by
  rcases h with rfl | rfl <;> rfl
theorem gz_fit {x : Int32} (h : x = 0 ∨ x = 1) : fits .boolean (.int x) = true := by
  rcases h with rfl | rfl <;> rfl
theorem gz_vp {x : Int32} (h : x = 0 ∨ x = 1) : vp_nar .boolean x = x := by
  rcases h with rfl | rfl <;> rfl
abbrev gQi (G : GP) (ad : Nat → Nat → Nat) (K : Int32 → GF → Prop) := va_Qi (S := GF) (fun r u => K r u) (fun u t => gH G ad u t.heap) (gA G)
abbrev gQv (G : GP) (ad : Nat → Nat → Nat) (K : GF → Prop) := va_Qv (S := GF) (fun u => K u) (fun u t => gH G ad u t.heap) (gA G)
abbrev gQr (G : GP) (ad : Nat → Nat → Nat) (f n : Nat) (K : Nat → GF → Prop) := va_Qq (S := Nat × GF) (fun o u => o = some (ad f u.1) ∧ u.1 < n ∧ K u.1 u.2) (fun u t => gH G ad u.2 t.heap) (gA G)
abbrev gX (G : GP) (ad : Nat → Nat → Nat) (X : String → GF → Prop) := vx_X (S := GF) (fun _ => True) (fun E u t => X E u ∧ gH G ad u t.heap) (gA G)
