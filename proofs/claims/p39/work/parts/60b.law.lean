/-! town -/
theorem town_n : ∀ c, c < 36 → ((nI c - nI c / 6 * 6 = 5 → c - 1 < 36 ∧ nI c - 1 = nI (c - 1)) ∧ (¬ nI c - nI c / 6 * 6 = 5 → c + 1 < 36 ∧ nI c + 1 = nI (c + 1)) ∧ (nI c ≤ 29 → c + 6 < 36 ∧ nI c + 6 = nI (c + 6)) ∧ (¬ nI c ≤ 29 → c - 6 < 36 ∧ nI c - 6 = nI (c - 6))) := by decide +kernel
theorem mod36 {v : Nat} (hv : v < 2147483648) : nI v - nI v / 36 * 36 = nI (v % 36) := nI_mod (b := 36) hv (by decide)
theorem div36 {v : Nat} (hv : v < 2147483648) : nI v / 36 = nI (v / 36) := nI_div (b := 36) hv (by decide)
theorem tw_86 {k : Nat} {S : S3} (hT : TI k S) {c d : Nat} (hc : c < 36) (hd : d < 36) (x4 : Int32) {K : Int32 → S3 → Prop} (hK : ∀ S1, TI (k + 1) S1 → K 1 S1) : P_M_town_86 K S x4 (nI c) (nI d) := by
  obtain ⟨h, H, H', hs⟩ := hT
  unfold P_M_town_86
  by_cases cz : ((x4 / 72) - (x4 / 72) / 3 * 3) ≤ 0
  · rw [if_pos cz]
    unfold P_M_town_108
    obtain ⟨r, r', F1, F2, G, hr, hA, hB, hS, hI, he⟩ := two_bar h hs hc hd (Or.inl rfl)
    obtain rfl : r = r' := hr
    refine hA _ ⟨(F2, S.2), ⟨he, fun _ _ => rfl, rfl⟩, ?_⟩
    rw [if_pos cz, ovr_nI hc, ovr_nI hd]
    unfold P_M_town_137
    refine hB _ ⟨(F2, G, S.2.2), tE.rf _, ?_⟩
    rw [if_pos rfl]
    exact hK _ ⟨hI, _, _, hS⟩
  · rw [if_neg cz]
    unfold P_M_town_108
    obtain ⟨r, r', F1, F2, G, hr, hA, hB, hS, hI, he⟩ := two_bar h hs hc hd (Or.inr rfl)
    obtain rfl : r = r' := hr
    refine hA _ ⟨(F2, S.2), ⟨he, fun _ _ => rfl, rfl⟩, ?_⟩
    rw [if_neg cz, ovr_nI hc, ovr_nI hd]
    unfold P_M_town_137
    refine hB _ ⟨(F2, G, S.2.2), tE.rf _, ?_⟩
    rw [if_pos rfl]
    exact hK _ ⟨hI, _, _, hS⟩
theorem tw_184 {k : Nat} {S : S3} {x4 x5 x7 : Int32} {z : Int32} {j : Int32} (hj : vp_in j 2) {G : GF} (hB : ∀ K : Int32 → GF → Prop, K x7 G → P_M_does S.2.1 0 (ovr x5) ((x4 / 36) - (x4 / 36) / 4 * 4) K) (hI : Inv k S.1) (hS : Sx true S.1 G S.1 G) (s3 : Int32) {K : Int32 → S3 → Prop} (hK : ∀ S1, TI k S1 → K 1 S1) : P_M_town_184 K S x4 x5 x7 j z s3 := by
  unfold P_M_town_184
  refine ⟨hj, fun F48 e48 => ?_⟩
  rw [e48]
  refine hB _ ⟨(S.1, G, upd S.2.2 j.toNatClampNeg (z + s3)), tE.rf _, ?_⟩
  rw [if_pos rfl]
  exact hK _ ⟨hI, _, _, hS⟩
theorem tw_269 {k : Nat} {S : S3} {x5 x7 x8 : Int32} {z : Int32} {j : Int32} (hj : vp_in j 2) {G : GF} (hB : ∀ K : Int32 → GF → Prop, K x8 G → P_M_does S.2.1 2 (ovr x5) x7 K) (hI : Inv k S.1) (hS : Sx true S.1 G S.1 G) (s3 : Int32) {K : Int32 → S3 → Prop} (hK : ∀ S1, TI k S1 → K 1 S1) : P_M_town_269 K S x5 x7 x8 j z s3 := by
  unfold P_M_town_269
  refine ⟨hj, fun F35 e35 => ?_⟩
  rw [e35]
  refine hB _ ⟨(S.1, G, upd S.2.2 j.toNatClampNeg (z + s3)), tE.rf _, ?_⟩
  rw [if_pos rfl]
  exact hK _ ⟨hI, _, _, hS⟩
theorem in02 : vp_in (0 : Int32) 2 := nI_in (show 0 < 2 by decide) (by decide)
theorem in12 : vp_in (1 : Int32) 2 := nI_in (show 1 < 2 by decide) (by decide)
theorem tw_242 {k : Nat} {S : S3} (hk : k < 512) (hT : TI k S) {c : Nat} (hc : c < 36) (x7 : Int32) {K : Int32 → S3 → Prop} (hK : ∀ S1, TI (k + 1) S1 → K 1 S1) : P_M_town_242 K S (nI c) x7 := by
  obtain ⟨h, H, H', hs⟩ := hT
  unfold P_M_town_242
  obtain ⟨r, r', F1, F2, G, hr, hA, hB, hS, hI, he⟩ := two_does2 hk h hs hc x7
  obtain rfl : r = r' := hr
  refine hA _ ⟨(F2, S.2), ⟨he, fun _ _ => rfl, rfl⟩, ?_⟩
  refine ⟨in02, ?_⟩
  have hB' : ∀ K : Int32 → GF → Prop, K r G → P_M_does S.2.1 2 (ovr (nI c)) x7 K := by rw [ovr_nI hc]; exact hB
  by_cases cz : r < 0
  · rw [if_pos cz]
    exact tw_269 (S := (F2, S.2)) in02 hB' hI hS 0 hK
  · rw [if_neg cz]
    exact tw_269 (S := (F2, S.2)) in02 hB' hI hS 1 hK
theorem tw_26 {k : Nat} {S : S3} (hk : k < 512) (hT : TI k S) {v : Nat} (hv : v < 2147483648) (x3 s0 : Int32) {K : Int32 → S3 → Prop} (hK : ∀ S1, TI (k + 1) S1 → K 1 S1) : P_M_town_26 K S x3 (nI v) (nI (v % 36)) s0 := by
  have hc : v % 36 < 36 := Nat.mod_lt _ (by decide)
  generalize v % 36 = c at hc ⊢
  obtain ⟨n1, n2, n3, n4⟩ := town_n c hc
  have hT0 := hT
  obtain ⟨h, H, H', hs⟩ := hT
  unfold P_M_town_26
  split
  · split
    · skip
      obtain ⟨r, r', F1, F2, G, hr, hA, hB, hS, hI, he⟩ := two_does0 h hs hc ((nI v / 36) - (nI v / 36) / 4 * 4)
      obtain rfl : r = r' := hr
      refine hA _ ⟨(F2, S.2), ⟨he, fun _ _ => rfl, rfl⟩, ?_⟩
      refine ⟨in12, ?_⟩
      have hB' : ∀ K : Int32 → GF → Prop, K r G → P_M_does S.2.1 0 (ovr (nI c)) ((nI v / 36) - (nI v / 36) / 4 * 4) K := by rw [ovr_nI hc]; exact hB
      by_cases cz : r < 0
      · rw [if_pos cz]
        exact tw_184 (S := (F2, S.2)) in12 hB' hI hS 0 hK
      · rw [if_neg cz]
        exact tw_184 (S := (F2, S.2)) in12 hB' hI hS 1 hK
    · split
      · split
        · split
          · exact hK _ hT0.mono
          · skip
            obtain ⟨r, r', F1, F2, G, hr, hA, hB, hS, hI, he⟩ := two_act0 hk h hs s0
            obtain rfl : r = r' := hr
            refine hA _ ⟨(F2, S.2), ⟨he, fun _ _ => rfl, rfl⟩, ?_⟩
            refine hB _ ⟨(F2, G, S.2.2), tE.rf _, ?_⟩
            rw [if_pos rfl]
            exact hK _ ⟨hI, _, _, hS⟩
        · skip
          obtain ⟨r, r', F1, F2, G, hr, hA, hB, hS, hI, he⟩ := two_does3 hk h hs s0 hc
          rw [ovr_nI hc]
          refine hB _ ⟨(S.1, G, S.2.2), tE.rf _, ?_⟩
          refine hA _ ⟨(F2, G, S.2.2), ⟨he, fun _ _ => rfl, rfl⟩, ?_⟩
          rw [if_pos hr]
          exact hK _ ⟨hI, _, _, hS⟩
      · split
        · exact tw_242 hk hT0 hc _ hK
        · exact tw_242 hk hT0 hc _ hK
  · split
    · split
      · rename_i q
        obtain ⟨m1, m2⟩ := n1 q
        rw [m2]
        exact tw_86 hT0 hc m1 _ hK
      · rename_i q
        obtain ⟨m1, m2⟩ := n2 q
        rw [m2]
        exact tw_86 hT0 hc m1 _ hK
    · split
      · rename_i q
        obtain ⟨m1, m2⟩ := n3 q
        rw [m2]
        exact tw_86 hT0 hc m1 _ hK
      · rename_i q
        obtain ⟨m1, m2⟩ := n4 q
        rw [m2]
        exact tw_86 hT0 hc m1 _ hK
theorem tw_town {k : Nat} {S : S3} (hk : k < 512) (hT : TI k S) {v : Nat} (hv : v < 2147483648) (x3 : Int32) {K : Int32 → S3 → Prop} (hK : ∀ S1, TI (k + 1) S1 → K 1 S1) : P_M_town S x3 (nI v) K := by
  unfold P_M_town
  refine ⟨in02, ?_⟩
  rw [mod36 hv]
  split
  · exact tw_26 hk hT hv x3 _ hK
  · rename_i q
    exact ⟨in02, q, tw_26 hk hT hv x3 _ hK⟩
/-! same -/
theorem TI.to {k : Nat} {F2 G : GF} {C : Nat → Int32} (hI : Inv k F2) (hS : Sx true F2 G F2 G) : TI k (F2, G, C) := ⟨hI, _, _, hS⟩
theorem qs_of0 {k : Nat} {S : S3} (hT : TI k S) (a1 : Int32) {A B : S3 → Prop} (hK : ∀ S1, TI k S1 → A S1) : P_M_of S.1 0 a1 (fun r Z => ∃ F3 : S3, tE (Z, S.2) F3 ∧ (P_M_of F3.2.1 0 a1 (fun r2 Z2 => ∃ F4 : S3, tE (F3.1, Z2, F3.2.2) F4 ∧ (if r = r2 then (A F4) else (B F4))))) := by
  obtain ⟨h, H, H', hs⟩ := hT
  obtain ⟨r, r', F1, F2, G, hr, hA, hB, hS, hI, he⟩ := two_of0 h hs a1
  obtain rfl : r = r' := hr
  refine hA _ ⟨(F2, S.2), ⟨he, fun _ _ => rfl, rfl⟩, ?_⟩
  refine hB _ ⟨(F2, G, S.2.2), tE.rf _, ?_⟩
  rw [if_pos rfl]
  exact hK _ ⟨hI, _, _, hS⟩
theorem qs_of1 {k : Nat} {S : S3} (hT : TI k S) (a1 : Int32) {A B : S3 → Prop} (hK : ∀ S1, TI k S1 → A S1) : P_M_of S.1 1 a1 (fun r Z => ∃ F3 : S3, tE (Z, S.2) F3 ∧ (P_M_of F3.2.1 1 a1 (fun r2 Z2 => ∃ F4 : S3, tE (F3.1, Z2, F3.2.2) F4 ∧ (if r = r2 then (A F4) else (B F4))))) := by
  obtain ⟨h, H, H', hs⟩ := hT
  obtain ⟨r, r', F1, F2, G, hr, hA, hB, hS, hI, he⟩ := two_of1 h hs a1
  obtain rfl : r = r' := hr
  refine hA _ ⟨(F2, S.2), ⟨he, fun _ _ => rfl, rfl⟩, ?_⟩
  refine hB _ ⟨(F2, G, S.2.2), tE.rf _, ?_⟩
  rw [if_pos rfl]
  exact hK _ ⟨hI, _, _, hS⟩
theorem qs_of2 {k : Nat} {S : S3} (hT : TI k S) (a1 : Int32) {A B : S3 → Prop} (hK : ∀ S1, TI k S1 → A S1) : P_M_of S.1 2 a1 (fun r Z => ∃ F3 : S3, tE (Z, S.2) F3 ∧ (P_M_of F3.2.1 2 a1 (fun r2 Z2 => ∃ F4 : S3, tE (F3.1, Z2, F3.2.2) F4 ∧ (if r = r2 then (A F4) else (B F4))))) := by
  obtain ⟨h, H, H', hs⟩ := hT
  obtain ⟨r, r', F1, F2, G, hr, hA, hB, hS, hI, he⟩ := two_of2 h hs a1
  obtain rfl : r = r' := hr
  refine hA _ ⟨(F2, S.2), ⟨he, fun _ _ => rfl, rfl⟩, ?_⟩
  refine hB _ ⟨(F2, G, S.2.2), tE.rf _, ?_⟩
  rw [if_pos rfl]
  exact hK _ ⟨hI, _, _, hS⟩
theorem qs_of3 {k : Nat} {S : S3} (hT : TI k S) (a1 : Int32) {A B : S3 → Prop} (hK : ∀ S1, TI k S1 → A S1) : P_M_of S.1 3 a1 (fun r Z => ∃ F3 : S3, tE (Z, S.2) F3 ∧ (P_M_of F3.2.1 3 a1 (fun r2 Z2 => ∃ F4 : S3, tE (F3.1, Z2, F3.2.2) F4 ∧ (if r = r2 then (A F4) else (B F4))))) := by
  obtain ⟨h, H, H', hs⟩ := hT
  obtain ⟨r, r', F1, F2, G, hr, hA, hB, hS, hI, he⟩ := two_of3 h hs a1
  obtain rfl : r = r' := hr
  refine hA _ ⟨(F2, S.2), ⟨he, fun _ _ => rfl, rfl⟩, ?_⟩
  refine hB _ ⟨(F2, G, S.2.2), tE.rf _, ?_⟩
  rw [if_pos rfl]
  exact hK _ ⟨hI, _, _, hS⟩
theorem qs_of4 {k : Nat} {S : S3} (hT : TI k S) (a1 : Int32) {A B : S3 → Prop} (hK : ∀ S1, TI k S1 → A S1) : P_M_of S.1 4 a1 (fun r Z => ∃ F3 : S3, tE (Z, S.2) F3 ∧ (P_M_of F3.2.1 4 a1 (fun r2 Z2 => ∃ F4 : S3, tE (F3.1, Z2, F3.2.2) F4 ∧ (if r = r2 then (A F4) else (B F4))))) := by
  obtain ⟨h, H, H', hs⟩ := hT
  obtain ⟨r, r', F1, F2, G, hr, hA, hB, hS, hI, he⟩ := two_of4 h hs a1
  obtain rfl : r = r' := hr
  refine hA _ ⟨(F2, S.2), ⟨he, fun _ _ => rfl, rfl⟩, ?_⟩
  refine hB _ ⟨(F2, G, S.2.2), tE.rf _, ?_⟩
  rw [if_pos rfl]
  exact hK _ ⟨hI, _, _, hS⟩
theorem qs_of5 {k : Nat} {S : S3} (hT : TI k S) (a1 : Int32) {A B : S3 → Prop} (hK : ∀ S1, TI k S1 → A S1) : P_M_of S.1 5 a1 (fun r Z => ∃ F3 : S3, tE (Z, S.2) F3 ∧ (P_M_of F3.2.1 5 a1 (fun r2 Z2 => ∃ F4 : S3, tE (F3.1, Z2, F3.2.2) F4 ∧ (if r = r2 then (A F4) else (B F4))))) := by
  obtain ⟨h, H, H', hs⟩ := hT
  obtain ⟨r, r', F1, F2, G, hr, hA, hB, hS, hI, he⟩ := two_of5 h hs a1
  obtain rfl : r = r' := hr
  refine hA _ ⟨(F2, S.2), ⟨he, fun _ _ => rfl, rfl⟩, ?_⟩
  refine hB _ ⟨(F2, G, S.2.2), tE.rf _, ?_⟩
  rw [if_pos rfl]
  exact hK _ ⟨hI, _, _, hS⟩
theorem qs_of6 {k : Nat} {S : S3} (hT : TI k S) (a1 : Int32) {A B : S3 → Prop} (hK : ∀ S1, TI k S1 → A S1) : P_M_of S.1 6 a1 (fun r Z => ∃ F3 : S3, tE (Z, S.2) F3 ∧ (P_M_of F3.2.1 6 a1 (fun r2 Z2 => ∃ F4 : S3, tE (F3.1, Z2, F3.2.2) F4 ∧ (if r = r2 then (A F4) else (B F4))))) := by
  obtain ⟨h, H, H', hs⟩ := hT
  obtain ⟨r, r', F1, F2, G, hr, hA, hB, hS, hI, he⟩ := two_of6 h hs a1
  obtain rfl : r = r' := hr
  refine hA _ ⟨(F2, S.2), ⟨he, fun _ _ => rfl, rfl⟩, ?_⟩
  refine hB _ ⟨(F2, G, S.2.2), tE.rf _, ?_⟩
  rw [if_pos rfl]
  exact hK _ ⟨hI, _, _, hS⟩
theorem qs_of7 {k : Nat} {S : S3} (hT : TI k S) (a1 : Int32) {A B : S3 → Prop} (hK : ∀ S1, TI k S1 → A S1) : P_M_of S.1 7 a1 (fun r Z => ∃ F3 : S3, tE (Z, S.2) F3 ∧ (P_M_of F3.2.1 7 a1 (fun r2 Z2 => ∃ F4 : S3, tE (F3.1, Z2, F3.2.2) F4 ∧ (if r = r2 then (A F4) else (B F4))))) := by
  obtain ⟨h, H, H', hs⟩ := hT
  obtain ⟨r, r', F1, F2, G, hr, hA, hB, hS, hI, he⟩ := two_of7 h hs a1
  obtain rfl : r = r' := hr
  refine hA _ ⟨(F2, S.2), ⟨he, fun _ _ => rfl, rfl⟩, ?_⟩
  refine hB _ ⟨(F2, G, S.2.2), tE.rf _, ?_⟩
  rw [if_pos rfl]
  exact hK _ ⟨hI, _, _, hS⟩
theorem qs_of8 {k : Nat} {S : S3} (hT : TI k S) (a1 : Int32) {A B : S3 → Prop} (hK : ∀ S1, TI k S1 → A S1) : P_M_of S.1 8 a1 (fun r Z => ∃ F3 : S3, tE (Z, S.2) F3 ∧ (P_M_of F3.2.1 8 a1 (fun r2 Z2 => ∃ F4 : S3, tE (F3.1, Z2, F3.2.2) F4 ∧ (if r = r2 then (A F4) else (B F4))))) := by
  obtain ⟨h, H, H', hs⟩ := hT
  obtain ⟨r, r', F1, F2, G, hr, hA, hB, hS, hI, he⟩ := two_of8 h hs a1
  obtain rfl : r = r' := hr
  refine hA _ ⟨(F2, S.2), ⟨he, fun _ _ => rfl, rfl⟩, ?_⟩
  refine hB _ ⟨(F2, G, S.2.2), tE.rf _, ?_⟩
  rw [if_pos rfl]
  exact hK _ ⟨hI, _, _, hS⟩
theorem qs_of9 {k : Nat} {S : S3} (hT : TI k S) (a1 : Int32) {A B : S3 → Prop} (hK : ∀ S1, TI k S1 → A S1) : P_M_of S.1 9 a1 (fun r Z => ∃ F3 : S3, tE (Z, S.2) F3 ∧ (P_M_of F3.2.1 9 a1 (fun r2 Z2 => ∃ F4 : S3, tE (F3.1, Z2, F3.2.2) F4 ∧ (if r = r2 then (A F4) else (B F4))))) := by
  obtain ⟨h, H, H', hs⟩ := hT
  obtain ⟨r, r', F1, F2, G, hr, hA, hB, hS, hI, he⟩ := two_of9 h hs a1
  obtain rfl : r = r' := hr
  refine hA _ ⟨(F2, S.2), ⟨he, fun _ _ => rfl, rfl⟩, ?_⟩
  refine hB _ ⟨(F2, G, S.2.2), tE.rf _, ?_⟩
  rw [if_pos rfl]
  exact hK _ ⟨hI, _, _, hS⟩
theorem qs_of10 {k : Nat} {S : S3} (hT : TI k S) (a1 : Int32) {A B : S3 → Prop} (hK : ∀ S1, TI k S1 → A S1) : P_M_of S.1 10 a1 (fun r Z => ∃ F3 : S3, tE (Z, S.2) F3 ∧ (P_M_of F3.2.1 10 a1 (fun r2 Z2 => ∃ F4 : S3, tE (F3.1, Z2, F3.2.2) F4 ∧ (if r = r2 then (A F4) else (B F4))))) := by
  obtain ⟨h, H, H', hs⟩ := hT
  obtain ⟨r, r', F1, F2, G, hr, hA, hB, hS, hI, he⟩ := two_of10 h hs a1
  obtain rfl : r = r' := hr
  refine hA _ ⟨(F2, S.2), ⟨he, fun _ _ => rfl, rfl⟩, ?_⟩
  refine hB _ ⟨(F2, G, S.2.2), tE.rf _, ?_⟩
  rw [if_pos rfl]
  exact hK _ ⟨hI, _, _, hS⟩
theorem qs_of11 {k : Nat} {S : S3} (hT : TI k S) (a1 : Int32) {A B : S3 → Prop} (hK : ∀ S1, TI k S1 → A S1) : P_M_of S.1 11 a1 (fun r Z => ∃ F3 : S3, tE (Z, S.2) F3 ∧ (P_M_of F3.2.1 11 a1 (fun r2 Z2 => ∃ F4 : S3, tE (F3.1, Z2, F3.2.2) F4 ∧ (if r = r2 then (A F4) else (B F4))))) := by
  obtain ⟨h, H, H', hs⟩ := hT
  obtain ⟨r, r', F1, F2, G, hr, hA, hB, hS, hI, he⟩ := two_of11 h hs a1
  obtain rfl : r = r' := hr
  refine hA _ ⟨(F2, S.2), ⟨he, fun _ _ => rfl, rfl⟩, ?_⟩
  refine hB _ ⟨(F2, G, S.2.2), tE.rf _, ?_⟩
  rw [if_pos rfl]
  exact hK _ ⟨hI, _, _, hS⟩
theorem qs_today {k : Nat} {S : S3} (hT : TI k S)  {A B : S3 → Prop} (hK : ∀ S1, TI k S1 → A S1) : P_X10_today S.1 (fun r Z => ∃ F3 : S3, tE (Z, S.2) F3 ∧ (P_X10_today F3.2.1 (fun r2 Z2 => ∃ F4 : S3, tE (F3.1, Z2, F3.2.2) F4 ∧ (if r = r2 then (A F4) else (B F4))))) := by
  obtain ⟨h, H, H', hs⟩ := hT
  obtain ⟨r, r', F1, F2, G, hr, hA, hB, hS, hI, he⟩ := two_today h hs
  obtain rfl : r = r' := hr
  refine hA _ ⟨(F2, S.2), ⟨he, fun _ _ => rfl, rfl⟩, ?_⟩
  refine hB _ ⟨(F2, G, S.2.2), tE.rf _, ?_⟩
  rw [if_pos rfl]
  exact hK _ ⟨hI, _, _, hS⟩
theorem qs_stage {k : Nat} {S : S3} (hT : TI k S)  {A B : S3 → Prop} (hK : ∀ S1, TI k S1 → A S1) : P_X10_stage S.1 (fun r Z => ∃ F3 : S3, tE (Z, S.2) F3 ∧ (P_X10_stage F3.2.1 (fun r2 Z2 => ∃ F4 : S3, tE (F3.1, Z2, F3.2.2) F4 ∧ (if r = r2 then (A F4) else (B F4))))) := by
  obtain ⟨h, H, H', hs⟩ := hT
  obtain ⟨r, r', F1, F2, G, hr, hA, hB, hS, hI, he⟩ := two_stage h hs
  obtain rfl : r = r' := hr
  refine hA _ ⟨(F2, S.2), ⟨he, fun _ _ => rfl, rfl⟩, ?_⟩
  refine hB _ ⟨(F2, G, S.2.2), tE.rf _, ?_⟩
  rw [if_pos rfl]
  exact hK _ ⟨hI, _, _, hS⟩
theorem qs_envelopes {k : Nat} {S : S3} (hT : TI k S)  {A B : S3 → Prop} (hK : ∀ S1, TI k S1 → A S1) : P_X10_envelopes S.1 (fun r Z => ∃ F3 : S3, tE (Z, S.2) F3 ∧ (P_X10_envelopes F3.2.1 (fun r2 Z2 => ∃ F4 : S3, tE (F3.1, Z2, F3.2.2) F4 ∧ (if r = r2 then (A F4) else (B F4))))) := by
  obtain ⟨h, H, H', hs⟩ := hT
  obtain ⟨r, r', F1, F2, G, hr, hA, hB, hS, hI, he⟩ := two_envelopes h hs
  obtain rfl : r = r' := hr
  refine hA _ ⟨(F2, S.2), ⟨he, fun _ _ => rfl, rfl⟩, ?_⟩
  refine hB _ ⟨(F2, G, S.2.2), tE.rf _, ?_⟩
  rw [if_pos rfl]
  exact hK _ ⟨hI, _, _, hS⟩
theorem qs_notes {k : Nat} {S : S3} (hT : TI k S)  {A B : S3 → Prop} (hK : ∀ S1, TI k S1 → A S1) : P_X10_notes S.1 (fun r Z => ∃ F3 : S3, tE (Z, S.2) F3 ∧ (P_X10_notes F3.2.1 (fun r2 Z2 => ∃ F4 : S3, tE (F3.1, Z2, F3.2.2) F4 ∧ (if r = r2 then (A F4) else (B F4))))) := by
  obtain ⟨h, H, H', hs⟩ := hT
  obtain ⟨r, r', F1, F2, G, hr, hA, hB, hS, hI, he⟩ := two_notes h hs
  obtain rfl : r = r' := hr
  refine hA _ ⟨(F2, S.2), ⟨he, fun _ _ => rfl, rfl⟩, ?_⟩
  refine hB _ ⟨(F2, G, S.2.2), tE.rf _, ?_⟩
  rw [if_pos rfl]
  exact hK _ ⟨hI, _, _, hS⟩
theorem qs_lots {k : Nat} {S : S3} (hT : TI k S)  {A B : S3 → Prop} (hK : ∀ S1, TI k S1 → A S1) : P_X10_lots S.1 (fun r Z => ∃ F3 : S3, tE (Z, S.2) F3 ∧ (P_X10_lots F3.2.1 (fun r2 Z2 => ∃ F4 : S3, tE (F3.1, Z2, F3.2.2) F4 ∧ (if r = r2 then (A F4) else (B F4))))) := by
  obtain ⟨h, H, H', hs⟩ := hT
  obtain ⟨r, r', F1, F2, G, hr, hA, hB, hS, hI, he⟩ := two_lots h hs
  obtain rfl : r = r' := hr
  refine hA _ ⟨(F2, S.2), ⟨he, fun _ _ => rfl, rfl⟩, ?_⟩
  refine hB _ ⟨(F2, G, S.2.2), tE.rf _, ?_⟩
  rw [if_pos rfl]
  exact hK _ ⟨hI, _, _, hS⟩
theorem qs_way {k : Nat} {S : S3} (hT : TI k S) {c d : Nat} (hc : c < 36) (hd : d < 36) {A B : S3 → Prop} (hK : ∀ S1, TI k S1 → A S1) : P_M_at S.1 0 (nI c) (nI d) (fun r Z => ∃ F3 : S3, tE (Z, S.2) F3 ∧ (P_M_at F3.2.1 0 (nI (mc true c)) (nI (mc true d)) (fun r2 Z2 => ∃ F4 : S3, tE (F3.1, Z2, F3.2.2) F4 ∧ (if r = r2 then (A F4) else (B F4))))) := by
  obtain ⟨h, H, H', hs⟩ := hT
  obtain ⟨r, r', F1, F2, G, hr, hA, hB, hS, hI, he⟩ := two_at0 h hs hc hd
  obtain rfl : r = r' := hr
  refine hA _ ⟨(F2, S.2), ⟨he, fun _ _ => rfl, rfl⟩, ?_⟩
  refine hB _ ⟨(F2, G, S.2.2), tE.rf _, ?_⟩
  rw [if_pos rfl]
  exact hK _ ⟨hI, _, _, hS⟩
theorem qs_dwells {k : Nat} {S : S3} (hk : k < 512) (hT : TI k S) (a1 a2 : Int32) {A B : S3 → Prop} (hK : ∀ S1, TI k S1 → A S1) : P_M_at S.2.1 1 a1 a2 (fun r Z => ∃ F3 : S3, tE (S.1, Z, S.2.2) F3 ∧ (P_M_at F3.1 1 a1 a2 (fun r2 Z2 => ∃ F4 : S3, tE (Z2, F3.2) F4 ∧ (if r = (ovr r2) then (A F4) else (B F4))))) := by
  obtain ⟨h, H, H', hs⟩ := hT
  obtain ⟨r, r', F1, F2, G, hr, hA, hB, hS, hI, he⟩ := two_at1 hk h hs a1 a2
  refine hB _ ⟨(S.1, G, S.2.2), tE.rf _, ?_⟩
  refine hA _ ⟨(F2, G, S.2.2), ⟨he, fun _ _ => rfl, rfl⟩, ?_⟩
  rw [if_pos hr]
  exact hK _ ⟨hI, _, _, hS⟩
theorem qs_number {k : Nat} {S : S3} (hT : TI k S) (a1 a2 : Int32) {A B : S3 → Prop} (hK : ∀ S1, TI k S1 → A S1) : P_M_at S.1 2 a1 a2 (fun r Z => ∃ F3 : S3, tE (Z, S.2) F3 ∧ (P_M_at F3.2.1 2 a1 a2 (fun r2 Z2 => ∃ F4 : S3, tE (F3.1, Z2, F3.2.2) F4 ∧ (if r = r2 then (A F4) else (B F4))))) := by
  obtain ⟨h, H, H', hs⟩ := hT
  obtain ⟨r, r', F1, F2, G, hr, hA, hB, hS, hI, he⟩ := two_at2 h hs a1 a2
  obtain rfl : r = r' := hr
  refine hA _ ⟨(F2, S.2), ⟨he, fun _ _ => rfl, rfl⟩, ?_⟩
  refine hB _ ⟨(F2, G, S.2.2), tE.rf _, ?_⟩
  rw [if_pos rfl]
  exact hK _ ⟨hI, _, _, hS⟩
theorem qs_sign {k : Nat} {S : S3} (hk : k < 512) (hT : TI k S) (a1 a2 : Int32) {A B : S3 → Prop} (hK : ∀ S1, TI k S1 → A S1) : P_M_at S.1 3 a1 a2 (fun r Z => ∃ F3 : S3, tE (Z, S.2) F3 ∧ (P_M_at F3.2.1 3 a1 a2 (fun r2 Z2 => ∃ F4 : S3, tE (F3.1, Z2, F3.2.2) F4 ∧ (if r = r2 then (A F4) else (B F4))))) := by
  obtain ⟨h, H, H', hs⟩ := hT
  obtain ⟨r, r', F1, F2, G, hr, hA, hB, hS, hI, he⟩ := two_at3 hk h hs a1 a2
  obtain rfl : r = r' := hr
  refine hA _ ⟨(F2, S.2), ⟨he, fun _ _ => rfl, rfl⟩, ?_⟩
  refine hB _ ⟨(F2, G, S.2.2), tE.rf _, ?_⟩
  rw [if_pos rfl]
  exact hK _ ⟨hI, _, _, hS⟩
theorem tw_242s {k : Nat} {S : S3} (hk : k < 512) (hT : TI k S) (x3 x5 x6 : Int32) {K : Int32 → S3 → Prop} (hK : ∀ S1, TI k S1 → K 1 S1) : P_M_same_242 K S x3 1 x5 x6 := by
  unfold P_M_same_242
  unfold P_X10_today
  refine ⟨S, tE.rf _, day_ok hT.1, fun y21 _ => ?_⟩
  rw [if_neg (show ¬ (1 : Int32) = 0 by decide)]
  refine qs_dwells hk hT _ _ (fun S1 hT => ?_)
  refine qs_number hT _ _ (fun S1 hT => ?_)
  exact qs_sign hk hT _ _ (fun S1 hT => hK _ hT)
theorem tw_135 {k : Nat} {S : S3} (hk : k < 512) (hT : TI k S) (x3 x5 s0 : Int32) {K : Int32 → S3 → Prop} (hK : ∀ S1, TI k S1 → K 1 S1) : P_M_same_135 K S x3 1 x5 s0 := by
  unfold P_M_same_135
  rw [if_neg (show ¬ (1 : Int32) = 0 by decide)]
  refine qs_of0 hT _ (fun S1 hT => ?_)
  refine qs_of1 hT _ (fun S1 hT => ?_)
  refine qs_of2 hT _ (fun S1 hT => ?_)
  refine qs_of3 hT _ (fun S1 hT => ?_)
  refine qs_of4 hT _ (fun S1 hT => ?_)
  refine qs_of5 hT _ (fun S1 hT => ?_)
  intro y _
  refine qs_of6 hT _ (fun S1 hT => ?_)
  intro y _
  refine qs_of7 hT _ (fun S1 hT => ?_)
  refine qs_of8 hT _ (fun S1 hT => ?_)
  refine qs_of9 hT _ (fun S1 hT => ?_)
  refine qs_of10 hT _ (fun S1 hT => ?_)
  refine qs_of11 hT _ (fun S1 hT => ?_)
  exact tw_242s hk hT _ _ _ hK
theorem tw_same {k : Nat} {S : S3} (hk : k < 512) (hT : TI k S) {v : Nat} (hv : v < 2147483648) {K : Int32 → S3 → Prop} (hK : ∀ S1, TI k S1 → K 1 S1) : P_M_same S (nI v) K := by
  unfold P_M_same
  have h1 : v % 36 < 36 := Nat.mod_lt _ (by decide)
  have h2 : v / 36 % 36 < 36 := Nat.mod_lt _ (by decide)
  have e2 : nI v / 36 - nI v / 36 / 36 * 36 = nI (v / 36 % 36) := by
    rw [div36 hv]
    exact mod36 (by omega)
  rw [mod36 hv, e2, ovr_nI h1, ovr_nI h2]
  refine qs_today hT (fun S1 hT => ?_)
  refine qs_stage hT (fun S1 hT => ?_)
  refine qs_envelopes hT (fun S1 hT => ?_)
  refine qs_notes hT (fun S1 hT => ?_)
  refine qs_lots hT (fun S1 hT => ?_)
  refine qs_way hT h1 h2 (fun S1 hT => ?_)
  unfold P_M_same_101
  refine ⟨in02, ?_⟩
  have key : ∀ x : Int32, P_M_same_118 K S1 (nI v) 1 x := by
    intro x
    unfold P_M_same_118
    refine ⟨in12, ?_⟩
    split
    · exact tw_135 hk hT _ _ _ hK
    · rename_i q
      exact ⟨in12, q, tw_135 hk hT _ _ _ hK⟩
  split
  · exact key _
  · rename_i q
    exact ⟨in02, q, key _⟩
/-! the body of the loop -/
theorem tw_625 {L : Nat} {xs : Nat → Int32} {k : Nat} {S : S3} (hk : k < 512) (hT : TI k S) {kk : Int32} {v : Nat} (hv : v < 2147483648) {K : Int32 → S3 → Prop} (hK : ∀ S1, TI k S1 → K 1 S1) : P_M_body_594 L xs kk K S 1 (nI v) := by
  unfold P_M_body_594
  rw [if_neg (show ¬ (1 : Int32) = 0 by decide)]
  split
  · exact hK _ hT
  · rw [show nI v / 3 = nI (v / 3) from nI_div (b := 3) hv (by decide)]
    refine tw_same hk hT (by omega) (fun S1 hT => ?_)
    rw [if_neg (show ¬ (1 : Int32) = 0 by decide)]
    exact hK _ hT
theorem tw_mono2 {k : Nat} {S : S3} (h : TI (k + 1) S) : TI (k + 2) S := h.mono
theorem tw_186 {L : Nat} {xs : Nat → Int32} {k : Nat} {S : S3} (hk : k + 2 < 512) (hT : TI k S) {kk : Int32} (x8 : Int32) {v : Nat} (hv : v < 2147483648) (s1 s2 : Int32) {s3 : Int32} (h3 : (s3 = 1 ∧ ((x8 / 60) - (x8 / 60) / 2 * 2) = 1) ∨ (s3 = 0 ∧ ¬ ((x8 / 60) - (x8 / 60) / 2 * 2) = 1)) (e1 : s1 = 8 + (x8 - x8 / 5 * 5)) (e2 : s2 = (x8 / 5) - (x8 / 5) / 12 * 12) {K : Int32 → S3 → Prop} (hK : ∀ S1, TI (k + 2) S1 → K 1 S1) : P_M_body_186 L xs kk K S (nI v) x8 s1 s2 s3 := by
  have hb : s3 = 0 ∨ s3 = 1 := by
    rcases h3 with h | h
    · exact Or.inr h.1
    · exact Or.inl h.1
  have hk1 : k < 512 := by omega
  obtain ⟨h, H, H', hs⟩ := hT
  unfold P_M_body_186
  obtain ⟨r, r', F1, F2, G, hr, hA, hB, hS, hI, he⟩ := two_call hk1 h hs s1 s2 hb
  obtain rfl : r = r' := hr
  refine hA _ ⟨(F2, S.2), ⟨he, fun _ _ => rfl, rfl⟩, ?_⟩
  have key : P_M_body_220 L xs kk K (F2, S.2) (nI v) x8 r s1 s2 s3 := by
    unfold P_M_body_220
    refine hB _ ⟨(F2, G, S.2.2), tE.rf _, ?_⟩
    rw [if_pos rfl]
    have hT1 : TI (k + 1) (F2, G, S.2.2) := ⟨hI, _, _, hS⟩
    clear hA hB
    generalize (F2, G, S.2.2) = S1 at hT1 ⊢
    obtain ⟨h, H, H', hs⟩ := hT1
    clear he hI hS
    obtain ⟨r, r', F1, F2, G, hr, hA, hB, hS, hI, he⟩ := two_does4 h hs (x8 - x8 / 5 * 5) ((x8 / 5) - (x8 / 5) / 100 * 100)
    obtain rfl : r = r' := hr
    refine hA _ ⟨(F2, S1.2), ⟨he, fun _ _ => rfl, rfl⟩, ?_⟩
    refine hB _ ⟨(F2, G, S1.2.2), tE.rf _, ?_⟩
    rw [if_pos rfl]
    exact tw_625 (k := k + 2) hk ⟨hI, _, _, hS⟩ hv hK
  rcases h3 with ⟨z1, z2⟩ | ⟨z1, z2⟩
  · rw [if_pos z2, ← e1, ← e2, ← z1]
    exact key
  · rw [if_neg z2, ← e1, ← e2, ← z1]
    exact key
theorem tw_487 {L : Nat} {xs : Nat → Int32} {k : Nat} {S : S3} (hk : k + 1 < 512) (hT : TI k S) {kk : Int32} (x8 : Int32) {v : Nat} (hv : v < 2147483648) (s0 : Int32) {K : Int32 → S3 → Prop} (hK : ∀ S1, TI (k + 1) S1 → K 1 S1) : P_M_body_487 L xs kk K S (nI v) x8 s0 := by
  obtain ⟨h, H, H', hs⟩ := hT
  unfold P_M_body_487
  obtain ⟨r, r', F1, F2, G, hr, hA, hB, hS, hI, he⟩ := two_does6 h hs (x8 - x8 / 4 * 4) s0
  obtain rfl : r = r' := hr
  refine hA _ ⟨(F2, S.2), ⟨he, fun _ _ => rfl, rfl⟩, ?_⟩
  refine hB _ ⟨(F2, G, S.2.2), tE.rf _, ?_⟩
  rw [if_pos rfl]
  exact tw_625 (by omega) ⟨hI, _, _, hS⟩ hv hK
theorem tw_124 {L : Nat} {xs : Nat → Int32} {k : Nat} {S : S3} (hk : k + 2 < 512) (hT : TI k S) {kk : Int32} {v u : Nat} (hv : v < 2147483648) (hu : u < 2147483648) (x7 x9 s0 : Int32) {K : Int32 → S3 → Prop} (hK : ∀ S1, TI (k + 2) S1 → K 1 S1) : P_M_body_124 L xs kk K S (nI v) x7 (nI u) x9 s0 := by
  have hk0 := hk
  have hk : k < 512 := by omega
  have hT0 := hT
  have hK1 : ∀ S1, TI (k + 1) S1 → K 1 S1 := fun S1 h => hK S1 h.mono
  obtain ⟨h, H, H', hs⟩ := hT
  unfold P_M_body_124
  generalize hx8 : nI u = x8
  split
  · split
    · split
      · split
        · split
          · split
            · skip
              obtain ⟨r, r', F1, F2, G, hr, hA, hB, hS, hI, he⟩ := two_act2 hk h hs x9
              obtain rfl : r = r' := hr
              refine hA _ ⟨(F2, S.2), ⟨he, fun _ _ => rfl, rfl⟩, ?_⟩
              refine hB _ ⟨(F2, G, S.2.2), tE.rf _, ?_⟩
              rw [if_pos rfl]
              exact tw_625 (by omega) ⟨hI, _, _, hS⟩ hv hK1
            · split
              · split
                · exact tw_487 (by omega) hT0 _ hv _ hK1
                · exact tw_487 (by omega) hT0 _ hv _ hK1
              · split
                · skip
                  obtain ⟨r, r', F1, F2, G, hr, hA, hB, hS, hI, he⟩ := two_act3 h hs s0
                  obtain rfl : r = r' := hr
                  refine hA _ ⟨(F2, S.2), ⟨he, fun _ _ => rfl, rfl⟩, ?_⟩
                  refine hB _ ⟨(F2, G, S.2.2), tE.rf _, ?_⟩
                  rw [if_pos rfl]
                  exact tw_625 (by omega) ⟨hI, _, _, hS⟩ hv hK1
                · skip
                  obtain ⟨r, r', F1, F2, G, hr, hA, hB, hS, hI, he⟩ := two_count hk h hs s0 ((x8 / 5) - (x8 / 5) / 4 * 4)
                  obtain rfl : r = r' := hr
                  refine hA _ ⟨(F2, S.2), ⟨he, fun _ _ => rfl, rfl⟩, ?_⟩
                  refine hB _ ⟨(F2, G, S.2.2), tE.rf _, ?_⟩
                  rw [if_pos rfl]
                  exact tw_625 (by omega) ⟨hI, _, _, hS⟩ hv hK1
          · skip
            obtain ⟨r0, h0⟩ := one_of1 h x9
            refine h0 _ ⟨S, tE.rf _, ?_⟩
            obtain ⟨r, r', F1, F2, G, hr, hA, hB, hS, hI, he⟩ := two_vote hk h hs x9 r0 ((x8 / 20) - (x8 / 20) / 6 * 6)
            obtain rfl : r = r' := hr
            refine hA _ ⟨(F2, S.2), ⟨he, fun _ _ => rfl, rfl⟩, ?_⟩
            refine hB _ ⟨(F2, G, S.2.2), tE.rf _, ?_⟩
            rw [if_pos rfl]
            exact tw_625 (by omega) ⟨hI, _, _, hS⟩ hv hK1
        · skip
          obtain ⟨r, r', F1, F2, G, hr, hA, hB, hS, hI, he⟩ := two_does5 hk h hs x9 ((x8 / 20) - (x8 / 20) / 6 * 6)
          obtain rfl : r = r' := hr
          refine hA _ ⟨(F2, S.2), ⟨he, fun _ _ => rfl, rfl⟩, ?_⟩
          refine hB _ ⟨(F2, G, S.2.2), tE.rf _, ?_⟩
          rw [if_pos rfl]
          exact tw_625 (by omega) ⟨hI, _, _, hS⟩ hv hK1
      · skip
        obtain ⟨r, r', F1, F2, G, hr, hA, hB, hS, hI, he⟩ := two_act1 hk h hs (1 + (x8 - x8 / 3 * 3))
        obtain rfl : r = r' := hr
        refine hA _ ⟨(F2, S.2), ⟨he, fun _ _ => rfl, rfl⟩, ?_⟩
        refine hB _ ⟨(F2, G, S.2.2), tE.rf _, ?_⟩
        rw [if_pos rfl]
        exact tw_625 (by omega) ⟨hI, _, _, hS⟩ hv hK1
    · split
      · rename_i q
        exact tw_186 hk0 hT0 _ hv _ _ (Or.inl ⟨rfl, q⟩) rfl rfl hK
      · rename_i q
        exact tw_186 hk0 hT0 _ hv _ _ (Or.inr ⟨rfl, q⟩) rfl rfl hK
  · rw [← hx8]
    exact tw_town hk hT0 hu _ (fun S1 hT => tw_625 (by omega) hT hv hK1)
theorem and_ok (x : Int32) : ∃ d, d < 1073741824 ∧ x &&& 1073741823 = nI d := by
  have h : (x &&& 1073741823).toBitVec = x.toBitVec &&& 1073741823#32 := rfl
  refine ⟨(x.toBitVec &&& 1073741823#32).toNat, ?_, ?_⟩
  · rw [BitVec.toNat_and]
    exact Nat.lt_of_le_of_lt Nat.and_le_right (by decide)
  · refine Int32.toBitVec_inj.mp ?_
    rw [h]
    show _ = BitVec.ofNat 32 _
    rw [BitVec.ofNat_toNat, BitVec.setWidth_eq]
theorem tw_body {L : Nat} {xs : Nat → Int32} {k : Nat} {S : S3} {n : Nat} (hn : n < 120) (hk : k + 2 < 512) (hT : TI k S) {K : Int32 → S3 → Prop} (hK : ∀ S1, TI (k + 2) S1 → K 1 S1) : P_M_body L xs (nI n) S K := by
  unfold P_M_body
  have e1 : nI n - nI n / 60 * 60 = nI (n % 60) := nI_mod (b := 60) (by omega) (by decide)
  have e2 : nI n / 60 = nI (n / 60) := nI_div (b := 60) (by omega) (by decide)
  have e3 : 1 + nI (n / 60) = nI (1 + n / 60) := nI_add 1 (n / 60)
  rw [e1, e2, e3]
  refine ⟨nI_pos (by omega), ?_, fun y e => ?_⟩
  · rw [show (0 : Int32) = nI 0 from rfl, nI_eq_iff (by omega) (by omega)]
    omega
  · obtain ⟨d, hd, ed⟩ : ∃ d, d < 1073741824 ∧ drw L xs (nI (n % 60)) = nI d := and_ok _
    rw [ed, nI_div (by omega) (by omega), show (7 : Int32) * nI (n / 60) = nI (7 * (n / 60)) from nI_mul 7 (n / 60), nI_add] at e
    have hz : d / (1 + n / 60) + 7 * (n / 60) < 2147483648 := by
      have := Nat.div_le_self d (1 + n / 60)
      omega
    generalize d / (1 + n / 60) + 7 * (n / 60) = z at hz e
    subst e
    have key : ∀ x7, P_M_body_81 L xs (nI n) K S (nI z) x7 := by
      intro x7
      unfold P_M_body_81
      refine ⟨in02, ?_⟩
      have e40 : nI z / 40 = nI (z / 40) := nI_div (b := 40) hz (by decide)
      rw [e40]
      have k2 : ∀ s0, P_M_body_106 L xs (nI n) K S (nI z) x7 (nI (z / 40)) s0 := by
        intro s0
        unfold P_M_body_106
        refine ⟨in12, ?_⟩
        split
        · exact tw_124 hk hT hz (by omega) _ _ _ hK
        · rename_i q
          exact ⟨in12, q, tw_124 hk hT hz (by omega) _ _ _ hK⟩
      split
      · exact k2 _
      · rename_i q
        exact ⟨in02, q, k2 _⟩
    split
    · exact key _
    · exact key _
