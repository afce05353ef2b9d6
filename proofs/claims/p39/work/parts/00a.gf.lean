abbrev GF : Type := Nat → Nat → Nat → Int32
def fs (F : GF) (f i k : Nat) (v : Int32) : GF := fun f1 i1 k1 => if f1 = f ∧ i1 = i ∧ k1 = k then v else F f1 i1 k1
theorem fs_row {F : GF} {f i k f1 i1 : Nat} {v : Int32} (h : ¬ (f1 = f ∧ i1 = i)) : fs F f i k v f1 i1 = F f1 i1 := by
  funext k1
  simp only [fs]
  rw [if_neg (fun q => h ⟨q.1, q.2.1⟩)]
theorem fs_self {F : GF} {f i k : Nat} {v : Int32} : fs F f i k v f i = upd (F f i) k v := by
  funext k1
  simp only [fs, upd, true_and]
def gcn (F : GF) : Nat := (F 38 0 0).toNatClampNeg
def fnew (F : GF) : GF := fs (fs (fs (fs F 39 (gcn F) 0 0) 39 (gcn F) 1 0) 39 (gcn F) 2 (-1)) 38 0 0 (nI (gcn F + 1))
def gko (n : Nat) (x : Int32) : Prop := x < 0 ∨ x.toNatClampNeg < n
/-- stays are told by numbers that there are -/
def gok (F : GF) : Prop := (∀ i, i < 20 → gko (gcn F) (F 33 i 1)) ∧ ∀ i, i < gcn F → gko (gcn F) (F 39 i 2)
def ffill (F : GF) (f i n : Nat) (v : Int32) : GF := fun f1 i1 k1 => if f1 = f ∧ i1 = i ∧ k1 < n then v else F f1 i1 k1
