/-- how many digits -/
def nd (v : Nat) : Nat := if v < 10 then 1 else if v < 100 then 2 else if v < 1000 then 3 else 4
def dv (v : Nat) : Nat → Nat
  | 0 => v
  | m + 1 => dv (v / 10) m
/-- the i-th digit -/
def dg (v i : Nat) : Nat := dv v (nd v - 1 - i) % 10
theorem nd_le (v : Nat) : 0 < nd v ∧ nd v ≤ 4 := by
  unfold nd
  split
  · omega
  · split
    · omega
    · split <;> omega
theorem dg_lt (v i : Nat) : dg v i < 10 := Nat.mod_lt _ (by decide)
theorem nd_step {v : Nat} (h : 100 ≤ v) (h2 : v < 10000) : nd v = nd (v / 100) + 2 := by
  unfold nd
  rw [if_neg (show ¬ v < 10 by omega), if_neg (show ¬ v < 100 by omega)]
  by_cases h3 : v < 1000
  · rw [if_pos h3, if_pos (show v / 100 < 10 by omega)]
  · rw [if_neg h3, if_neg (show ¬ v / 100 < 10 by omega), if_pos (show v / 100 < 100 by omega)]
theorem nd1 {v : Nat} (h : v < 10) : nd v = 1 := by
  unfold nd
  rw [if_pos h]
theorem nd2 {v : Nat} (h : 10 ≤ v) (h2 : v < 100) : nd v = 2 := by
  unfold nd
  rw [if_neg (by omega), if_pos h2]
theorem ng_toInt {v : Nat} (h : v < 2147483648) : (-nI v).toInt = -(v : Int) := by
  rw [Int32.toInt_neg, nI_toInt' h]
  exact Int.bmod_eq_of_le (by omega) (by omega)
theorem ng_le {v a : Nat} {c : Int32} (h : v < 2147483648) (hc : c.toInt = -(a : Int)) : -nI v ≤ c ↔ a ≤ v := by
  rw [Int32.le_iff_toInt_le, ng_toInt h, hc]
  omega
theorem ng_lt {v a : Nat} {c : Int32} (h : v < 2147483648) (hc : c.toInt = -(a : Int)) : c < -nI v ↔ v < a := by
  rw [Int32.lt_iff_toInt_lt, ng_toInt h, hc]
  omega
theorem ng_ge {v a : Nat} {c : Int32} (h : v < 2147483648) (hc : c.toInt = -(a : Int)) : c ≤ -nI v ↔ v ≤ a := by
  rw [Int32.le_iff_toInt_le, ng_toInt h, hc]
  omega
theorem ng_div {v : Nat} (h : v < 2147483648) : (-nI v) / 100 = -nI (v / 100) := by
  apply Int32.toInt_inj.mp
  have h3 : v / 100 ≤ v := Nat.div_le_self v 100
  rw [Int32.toInt_div, ng_toInt h, ng_toInt (by omega), show (100 : Int32).toInt = ((100 : Nat) : Int) by decide, Int.neg_tdiv, ← Int.ofNat_tdiv]
  generalize v / 100 = q at h3 ⊢
  exact Int.bmod_eq_of_le (by omega) (by omega)
theorem ng_rem {v : Nat} (h : v < 2147483648) : -nI (v / 100) * 100 - -nI v = nI (v % 100) := by
  have h2 : v / 100 * 100 ≤ v := Nat.div_mul_le_self v 100
  have e : -nI (v / 100) * 100 - -nI v = nI v - nI (v / 100) * nI 100 := by
    rw [li100, Int32.neg_mul, Int32.sub_neg, Int32.add_comm, ← Int32.sub_eq_add_neg]
  rw [e, nI_mul, nI_sub h2]
  congr 1
  omega
theorem nI_prd {a : Nat} : nI (a + 1) + (-1) = nI a := by
  rw [nI_succ, show (-1 : Int32) = -1 from rfl, ← Int32.sub_eq_add_neg]
  exact Int32.add_sub_cancel _ _
theorem byte_dg : ∀ d, d < 10 → vp_nar .byte (nI (48 + d)) = nI (48 + d) := by decide +kernel
theorem byte_ch : ∀ c, c < 128 → vp_nar .byte (nI c).toInt8.toInt32 = nI c := by decide +kernel
theorem char_out : ∀ c, c < 128 → (((nI c) &&& 255).toUInt32 % 65536).toInt32 = nI c := by decide +kernel
theorem char_nar : ∀ c, c < 128 → narrow .char (.int (nI c)) = .int (nI c) := by decide +kernel
theorem sh16 : (16 : Int32) >>> ((0 : Int32) &&& 31) = nI 16 := by decide +kernel
theorem ss_run {F : GF} {v : Nat} {K : Int32 → GF → Prop} (hv : v < 10000) (hK : K (nI (nd v)) F) : P_J6_stringSize_0f7a4 F (nI v) K := by
  unfold P_J6_stringSize_0f7a4 P_J6_stringSize_0f7a4_11
  rw [if_neg (nI_pos (by omega))]
  refine ⟨0 + 1 + 1 + 1 + 1 + 1, ?_⟩
  unfold nd at hK
  unfold P_J6_stringSize_0f7a4_16
  rw [if_neg (show ¬ (10 : Int32) ≤ 1 by decide)]
  by_cases h1 : v < 10
  · rw [if_pos h1] at hK
    rw [if_neg (fun q => by have := (ng_le (a := 10) (by omega) (by decide)).mp q; omega)]
    exact hK
  rw [if_neg h1] at hK
  rw [if_pos ((ng_le (a := 10) (by omega) (by decide)).mpr (by omega))]
  unfold P_J6_stringSize_0f7a4_16
  rw [if_neg (show ¬ (10 : Int32) ≤ 1 + 1 by decide)]
  by_cases h2 : v < 100
  · rw [if_pos h2] at hK
    rw [if_neg (fun q => by have := (ng_le (a := 100) (by omega) (by decide)).mp q; omega)]
    exact hK
  rw [if_neg h2] at hK
  rw [if_pos ((ng_le (a := 100) (by omega) (by decide)).mpr (by omega))]
  unfold P_J6_stringSize_0f7a4_16
  rw [if_neg (show ¬ (10 : Int32) ≤ 1 + 1 + 1 by decide)]
  by_cases h3 : v < 1000
  · rw [if_pos h3] at hK
    rw [if_neg (fun q => by have := (ng_le (a := 1000) (by omega) (by decide)).mp q; omega)]
    exact hK
  rw [if_neg h3] at hK
  rw [if_pos ((ng_le (a := 1000) (by omega) (by decide)).mpr (by omega))]
  unfold P_J6_stringSize_0f7a4_16
  rw [if_neg (show ¬ (10 : Int32) ≤ 1 + 1 + 1 + 1 by decide)]
  rw [if_neg (fun q => by have := (ng_le (a := 10000) (by omega) (by decide)).mp q; omega)]
  exact hK
/-- the last one or two digits -/
theorem gc_tail {F : GF} {v x m : Nat} {K : Int32 → GF → Prop} (hv : v < 100) (hx : nd v ≤ x) (hx2 : x ≤ 16) (hK : ∀ r F1, (∀ f, f ≠ 26 → F1 f = F f) → (∀ j, j < x - nd v ∨ x ≤ j → F1 26 0 j = F 26 0 j) → (∀ i, i < nd v → F1 26 0 (x - nd v + i) = nI (48 + dg v i)) → K r F1) : P_J6_getChars_ba4f3_22 K (m + 1) F (-nI v) (nI x) 0 := by
  have hnp := (nd_le v).1
  obtain ⟨x, rfl⟩ : ∃ x', x = x' + 1 := ⟨x - 1, by omega⟩
  have hm : v % 10 < 10 := Nat.mod_lt _ (by decide)
  unfold P_J6_getChars_ba4f3_22 P_J6_getChars_ba4f3_104
  rw [if_pos ((ng_lt (a := 100) (by omega) (by decide)).mpr hv), Int32.neg_neg, nI_prd, nI_clamp' (by omega), nI_clamp' (by omega), byte_dg _ hm]
  refine ⟨nI_in (by omega) (by omega), nI_in (by omega) (by omega), fun F7 e7 => ?_⟩
  by_cases h1 : v < 10
  · have en := nd1 h1
    rw [if_pos ((ng_ge (a := 9) (by omega) (by decide)).mpr (by omega)), if_pos (show (0 : Int32) = 0 from rfl)]
    rw [en] at hK
    refine hK _ F7 (fun f hf => by rw [e7, fs_fam hf]) (fun j hj => by rw [e7, fs_ne (by omega)]) (fun i hi => ?_)
    obtain rfl : i = 0 := by omega
    rw [e7]
    show fs F 26 0 x _ 26 0 x = _
    rw [fs_eq]
    unfold dg
    rw [en]
    rfl
  · have en := nd2 (by omega) hv
    rw [en] at hx
    obtain ⟨x, rfl⟩ : ∃ x', x = x' + 1 := ⟨x - 1, by omega⟩
    have hd : v / 10 < 10 := by omega
    rw [if_neg (fun q => by have := (ng_ge (a := 9) (by omega) (by decide)).mp q; omega), nI_prd, nI_clamp' (by omega), byte_dg _ hd]
    refine ⟨nI_in (by omega) (by omega), nI_in (by omega) (by omega), fun F15 e15 => ?_⟩
    rw [if_pos (show (0 : Int32) = 0 from rfl)]
    rw [en] at hK
    refine hK _ F15 (fun f hf => by rw [e15, fs_fam hf, e7, fs_fam hf]) (fun j hj => by rw [e15, fs_ne (by omega), e7, fs_ne (by omega)]) (fun i hi => ?_)
    unfold dg
    rw [en]
    by_cases hi0 : i = 0
    · subst hi0
      rw [e15]
      show fs F7 26 0 x _ 26 0 x = nI (48 + v / 10 % 10)
      rw [fs_eq, Nat.mod_eq_of_lt hd]
    · obtain rfl : i = 1 := by omega
      rw [e15, show x + 1 + 1 - 2 + 1 = x + 1 by omega, fs_ne (by omega), e7, fs_eq]
      rfl
theorem gc_run {F : GF} {v n : Nat} {K : Int32 → GF → Prop} (hv : v < 10000) (hn : n + nd v ≤ 16) (hK : ∀ r F1, (∀ f, f ≠ 26 → F1 f = F f) → (∀ j, j < n → F1 26 0 j = F 26 0 j) → (∀ i, i < nd v → F1 26 0 (n + i) = nI (48 + dg v i)) → K r F1) : P_J6_getChars_ba4f3 F (nI v) (nI (n + nd v)) K := by
  unfold P_J6_getChars_ba4f3 P_J6_getChars_ba4f3_12
  rw [if_pos (show (0 : Int32) ≤ nI v from nI_le (a := 0) (Nat.zero_le _) (by omega)), if_pos (show (0 : Int32) = 0 from rfl)]
  refine ⟨0 + 1 + 1, ?_⟩
  by_cases h1 : v < 100
  · refine gc_tail h1 (by omega) hn (fun r F1 a1 a2 a3 => ?_)
    rw [Nat.add_sub_cancel] at a2 a3
    exact hK r F1 a1 (fun j hj => a2 j (Or.inl hj)) a3
  · have en := nd_step (v := v) (by omega) hv
    have hw : v / 100 < 100 := by omega
    have hwp := nd_le (v / 100)
    rw [en] at hn hK ⊢
    have h10 : v % 100 % 10 < 10 := Nat.mod_lt _ (by decide)
    have h11 : v % 100 / 10 < 10 := by omega
    unfold P_J6_getChars_ba4f3_22
    rw [if_neg (fun q => by have := (ng_lt (a := 100) (by omega) (by decide)).mp q; omega), ng_div (by omega), ng_rem (by omega), show n + (nd (v / 100) + 2) = n + nd (v / 100) + 1 + 1 by omega, nI_prd, nI_prd, nI_clamp' (by omega), nI_clamp' (by omega), nI_clamp' (by omega), byte_dg _ h10, byte_dg _ h11]
    refine ⟨nI_in (by omega) (by omega), nI_in (by omega) (by omega), fun F19 e19 => ⟨nI_in (by omega) (by omega), nI_in (by omega) (by omega), fun F23 e23 => ?_⟩⟩
    refine gc_tail (x := n + nd (v / 100)) hw (by omega) (by omega) (fun r F1 a1 a2 a3 => ?_)
    rw [Nat.add_sub_cancel] at a2 a3
    refine hK r F1 (fun f hf => by rw [a1 f hf, e23, fs_fam hf, e19, fs_fam hf]) (fun j hj => by rw [a2 j (Or.inl hj), e23, fs_ne (by omega), e19, fs_ne (by omega)]) (fun i hi => ?_)
    have hdd : ∀ m, dv v (m + 2) = dv (v / 100) m := by
      intro m
      show dv (v / 10 / 10) m = _
      rw [Nat.div_div_eq_div_mul]
    unfold dg
    rw [en]
    by_cases hi1 : i < nd (v / 100)
    · rw [a3 i hi1, show nd (v / 100) + 2 - 1 - i = nd (v / 100) - 1 - i + 2 by omega, hdd]
      rfl
    · by_cases hi2 : i = nd (v / 100)
      · rw [hi2, a2 _ (Or.inr (Nat.le_refl _)), e23, fs_eq, show nd (v / 100) + 2 - 1 - nd (v / 100) = 1 by omega]
        show _ = nI (48 + v / 10 % 10)
        congr 2
        omega
      · rw [show i = nd (v / 100) + 1 by omega, a2 _ (Or.inr (by omega)), e23, fs_ne (by omega), e19, ← Nat.add_assoc, fs_eq, show nd (v / 100) + 2 - 1 - (nd (v / 100) + 1) = 0 by omega]
        show _ = nI (48 + v % 10)
        congr 2
        omega
theorem il_run {F : GF} {K : Int32 → GF → Prop} (h1 : F 25 0 1 = 0) (hK : K 1 F) : P_J5_isLatin1_aae02 F K := by
  unfold P_J5_isLatin1_aae02
  rw [if_neg (show ¬ (1 : Int32) = 0 by decide), if_pos h1]
  exact hK
theorem ec_run {F : GF} {n : Nat} {K : GF → Prop} (h1 : F 25 0 1 = 0) (hn : n ≤ 16) (hK : K F) : P_J5_ensureCapacityInternal_d00df F (nI n) K := by
  intro y hy
  rw [h1, sh16] at hy
  subst hy
  rw [if_pos (show nI n - nI 16 ≤ 0 from (dif_le (by omega) (by omega)).mpr hn)]
  exact hK
theorem ai_run {F : GF} {n v : Nat} {K : Nat → GF → Prop} (h1 : F 25 0 1 = 0) (h3 : F 25 0 3 = nI n) (hn : n + nd v ≤ 16) (hv : v < 10000) (hK : ∀ F1, (∀ f, f ≠ 25 → f ≠ 26 → F1 f = F f) → F1 25 0 1 = 0 → F1 25 0 3 = nI (n + nd v) → (∀ j, j < n → F1 26 0 j = F 26 0 j) → (∀ i, i < nd v → F1 26 0 (n + i) = nI (48 + dg v i)) → K 0 F1) : P_J4_append_bf812 F (nI v) K := by
  unfold P_J4_append_bf812 P_J5_append_c97b9
  refine ss_run hv ?_
  rw [h3, nI_add]
  refine ec_run h1 hn (il_run h1 ?_)
  show if (1 : Int32) = 0 then _ else _
  rw [if_neg (show ¬ (1 : Int32) = 0 by decide)]
  refine gc_run hv hn (fun r F1 a1 a2 a3 => ?_)
  intro F10 e10
  refine hK F10 (fun f b1 b2 => by rw [e10, fs_fam b1, a1 f b2]) (by rw [e10, fs_ne (by omega), a1 25 (by decide)]; exact h1) (by rw [e10, fs_eq]) (fun j hj => by rw [e10, fs_fam (by decide)]; exact a2 j hj) (fun i hi => by rw [e10, fs_fam (by decide)]; exact a3 i hi)
theorem ac_run {F : GF} {n c : Nat} {K : Nat → GF → Prop} (h1 : F 25 0 1 = 0) (h3 : F 25 0 3 = nI n) (hn : n + 1 ≤ 16) (hc : c < 128) (hK : ∀ F1, (∀ f, f ≠ 25 → f ≠ 26 → F1 f = F f) → F1 25 0 1 = 0 → F1 25 0 3 = nI (n + 1) → (∀ j, j < n → F1 26 0 j = F 26 0 j) → F1 26 0 n = nI c → K 0 F1) : P_J4_append_cf468 F (nI c) K := by
  unfold P_J4_append_cf468 P_J5_append_3fe6f
  rw [h3, ← nI_succ]
  refine ec_run h1 hn (il_run h1 ?_)
  show if (1 : Int32) = 0 then _ else _
  rw [if_neg (show ¬ (1 : Int32) = 0 by decide)]
  unfold P_J1_canEncode_fc78d
  rw [if_neg (show ¬ (255 : Int32) < nI c from nI_nlt (a := 255) (by omega) (by omega))]
  show if (1 : Int32) = 0 then _ else _
  rw [if_neg (show ¬ (1 : Int32) = 0 by decide)]
  intro F13 e13
  rw [h3, nI_clamp' (by omega), byte_ch c hc]
  rw [h3, ← nI_succ] at e13
  refine ⟨nI_in (by omega) (by omega), fun F15 e15 => ?_⟩
  refine hK F15 (fun f b1 b2 => by rw [e15, fs_fam b2, e13, fs_fam b1]) (by rw [e15, fs_fam (by decide), e13, fs_ne (by omega)]; exact h1) (by rw [e15, fs_fam (by decide), e13, fs_eq]) (fun j hj => by rw [e15, fs_ne (by omega), e13, fs_fam (by decide)]) (by rw [e15, fs_eq])
theorem ch_run {F : GF} {n p b : Nat} {K : Int32 → GF → Prop} (h1 : F 25 0 1 = 0) (h3 : F 25 0 3 = nI n) (hn : n ≤ 16) (hp : p < n) (hb : F 26 0 p = nI b) (hb2 : b < 128) (hK : K (nI b) F) : P_J4_charAt_5068e F (nI p) K := by
  unfold P_J4_charAt_5068e P_J5_charAt_5068e
  intro y hy
  rw [h1, sh16, h3] at hy
  have hy2 : y = nI n := by
    rw [hy]
    by_cases h : n = 16
    · subst h
      rw [if_neg (fun q => Int32.lt_irrefl q)]
    · rw [if_neg (show ¬ nI 16 < nI n from nI_nlt hn (by omega))]
  unfold P_J0_checkIndex_df160
  rw [hy2]
  refine ⟨⟨nI_pos (by omega), nI_lt hp (by omega)⟩, ?_⟩
  show if F 25 0 1 = 0 then _ else _
  rw [if_pos h1, nI_clamp' (by omega), hb, char_out b hb2]
  exact ⟨nI_in (by omega) (by omega), char_nar b hb2, char_nar b hb2, hK⟩
theorem sl_run {F : GF} {K : GF → Prop} (h : b_sb F) (hK : ∀ F1, (∀ f, f ≠ 25 → F1 f = F f) → F1 25 0 1 = 0 → F1 25 0 3 = nI 0 → K F1) : P_J4_setLength_d00df F 0 K := by
  obtain ⟨h1, n, hn, h3⟩ := h
  unfold P_J4_setLength_d00df P_J5_setLength_d00df
  rw [if_pos (show (0 : Int32) ≤ 0 by decide)]
  refine ec_run (n := 0) h1 (by omega) ?_
  rw [h3, if_pos (show (0 : Int32) ≤ nI n from nI_le (a := 0) (Nat.zero_le _) (by omega))]
  unfold P_J5_setLength_d00df_76
  by_cases hz : nI n ≤ 0
  · rw [if_pos hz]
    intro F6 e6
    exact hK F6 (fun f hf => by rw [e6, fs_fam hf]) (by rw [e6, fs_ne (by omega)]; exact h1) (by rw [e6, fs_eq]; rfl)
  · rw [if_neg hz]
    intro F7 e7 F6 e6
    exact hK F6 (fun f hf => by rw [e6, fs_fam hf, e7, fs_fam hf]) (by rw [e6, fs_ne (by omega), e7, fs_ne (by omega)]; exact h1) (by rw [e6, fs_eq]; rfl)
/-- a sign of a note's text -/
def chN (d s q x : Nat) : Int32 := if x < nd d then nI (48 + dg d x) else if x = nd d then nI s else if x - nd d - 1 < nd q then nI (48 + dg q (x - nd d - 1)) else -1
theorem ca_run {F : GF} {j b x d s q : Nat} {K : Int32 → GF → Prop} (hsb : b_sb F) (hj : j < b) (hb : b ≤ 572) (h4 : F 21 0 4 = nI b) (hd : d < 10000) (hq : q < 100) (hs : s < 128) (hx : x < 2147483648) (e22 : F 22 0 j = nI d) (e23 : F 23 0 j = nI s) (e24 : F 24 0 j = nI q) (hK : ∀ F1, (∀ f, f ≠ 25 → f ≠ 26 → F1 f = F f) → b_sb F1 → K (chN d s q x) F1) : P_X0_characterAt F (nI j) (nI x) K := by
  have hnd := nd_le d
  have hnq : nd q ≤ 2 := by
    by_cases h : q < 10
    · rw [nd1 h]
      omega
    · rw [nd2 (by omega) hq]
      exact Nat.le_refl 2
  unfold P_X0_characterAt
  rw [if_neg (nI_pos (by omega)), h4, if_pos (nI_lt hj (by omega))]
  refine sl_run hsb (fun F1 a1 a2 a3 => ?_)
  rw [nI_clamp' (by omega), a1 22 (by decide), e22]
  refine ⟨nI_in (by omega) (by omega), ai_run a2 a3 (by omega) hd (fun F2 b1 b2 b3 b4 b5 => ?_)⟩
  rw [b1 23 (by decide) (by decide), a1 23 (by decide), e23]
  rw [Nat.zero_add] at b3
  refine ⟨nI_in (by omega) (by omega), ac_run b2 b3 (by omega) hs (fun F3 c1 c2 c3 c4 c5 => ?_)⟩
  rw [c1 24 (by decide) (by decide), b1 24 (by decide) (by decide), a1 24 (by decide), e24]
  refine ⟨nI_in (by omega) (by omega), ai_run c2 c3 (by omega) (by omega) (fun F4 d1 d2 d3 d4 d5 => ?_)⟩
  have fin : ∀ f, f ≠ 25 → f ≠ 26 → F4 f = F f := fun f x1 x2 => by rw [d1 f x1 x2, c1 f x1 x2, b1 f x1 x2, a1 f x1]
  have fsb : b_sb F4 := ⟨d2, _, by omega, d3⟩
  have hr := hK F4 fin fsb
  rw [if_neg (nI_pos hx)]
  unfold P_J4_length_8abf5 P_J5_length_8abf5
  rw [d3]
  show if nI x < nI (nd d + 1 + nd q) then _ else _
  unfold chN at hr
  by_cases hl : x < nd d + 1 + nd q
  · rw [if_pos (nI_lt hl (by omega))]
    by_cases h1 : x < nd d
    · rw [if_pos h1] at hr
      refine ch_run d2 d3 (by omega) hl (b := 48 + dg d x) ?_ (by have := dg_lt d x; omega) hr
      rw [d4 x (by omega), c4 x h1]
      have := b5 x h1
      rw [Nat.zero_add] at this
      exact this
    · rw [if_neg h1] at hr
      by_cases h2 : x = nd d
      · rw [if_pos h2] at hr
        refine ch_run d2 d3 (by omega) hl (b := s) ?_ hs hr
        rw [h2, d4 _ (by omega)]
        exact c5
      · rw [if_neg h2, if_pos (by omega)] at hr
        refine ch_run d2 d3 (by omega) hl (b := 48 + dg q (x - nd d - 1)) ?_ (by have := dg_lt q (x - nd d - 1); omega) hr
        have := d5 (x - nd d - 1) (by omega)
        rw [show nd d + 1 + (x - nd d - 1) = x by omega] at this
        exact this
  · rw [if_neg (show ¬ nI x < nI (nd d + 1 + nd q) from nI_nlt (by omega) hx)]
    rw [if_neg (by omega), if_neg (by omega), if_neg (by omega)] at hr
    exact hr
/-- the reference's digits -/
theorem di_mod {F : GF} {v : Nat} {K : Int32 → GF → Prop} (hv : v < 10000) (hK : K (nI (nd v)) F) : P_X11_digits F (nI v) K := by
  refine ⟨0 + 1 + 1 + 1 + 1 + 1, ?_⟩
  unfold nd at hK
  rw [li10, nI_div (by omega) (by omega)]
  unfold P_X11_digits_7
  by_cases h1 : v < 10
  · rw [if_pos h1] at hK
    rw [show v / 10 = 0 by omega, if_pos (show nI 0 ≤ 0 by decide)]
    exact hK
  rw [if_neg h1] at hK
  rw [if_neg (show ¬ nI (v / 10) ≤ 0 from nI_nle (by omega) (by omega)), li10, nI_div (by omega) (by omega)]
  unfold P_X11_digits_7
  by_cases h2 : v < 100
  · rw [if_pos h2] at hK
    rw [show v / 10 / 10 = 0 by omega, if_pos (show nI 0 ≤ 0 by decide)]
    exact hK
  rw [if_neg h2] at hK
  rw [if_neg (show ¬ nI (v / 10 / 10) ≤ 0 from nI_nle (by omega) (by omega)), li10, nI_div (by omega) (by omega)]
  unfold P_X11_digits_7
  by_cases h3 : v < 1000
  · rw [if_pos h3] at hK
    rw [show v / 10 / 10 / 10 = 0 by omega, if_pos (show nI 0 ≤ 0 by decide)]
    exact hK
  rw [if_neg h3] at hK
  rw [if_neg (show ¬ nI (v / 10 / 10 / 10) ≤ 0 from nI_nle (by omega) (by omega)), li10, nI_div (by omega) (by omega)]
  unfold P_X11_digits_7
  rw [show v / 10 / 10 / 10 / 10 = 0 by omega, if_pos (show nI 0 ≤ 0 by decide)]
  exact hK
theorem da_loop {F : GF} {x : Nat} {K : Int32 → GF → Prop} (hx : x < 1000) : ∀ m l k, k = x + m → k < 1000 → l < 10000 → K (nI (48 + dv l m % 10)) F → P_X11_digitAt_9 K (m + 1) F (nI x) (nI l) (nI k) := by
  intro m
  induction m with
  | zero =>
    intro l k hk hk2 hl hK
    unfold P_X11_digitAt_9
    rw [if_pos (nI_le (by omega) (by omega)), li10, nI_mod (by omega) (by omega), li48, nI_add]
    exact hK
  | succ m ih =>
    intro l k hk hk2 hl hK
    obtain ⟨k, rfl⟩ : ∃ k', k = k' + 1 := ⟨k - 1, by omega⟩
    unfold P_X11_digitAt_9
    rw [if_neg (nI_ge (by omega) (by omega)), li10, nI_div (by omega) (by omega), nI_prd]
    exact ih (l / 10) k (by omega) (by omega) (by omega) hK
theorem da_mod {F : GF} {v x : Nat} {K : Int32 → GF → Prop} (hv : v < 10000) (hx : x < nd v) (hK : K (nI (48 + dg v x)) F) : P_X11_digitAt F (nI v) (nI x) K := by
  have hn := nd_le v
  unfold P_X11_digitAt
  refine di_mod hv ?_
  refine ⟨nd v - 1 - x + 1, ?_⟩
  rw [li1, nI_sub (by omega)]
  exact da_loop (by omega) (nd v - 1 - x) v (nd v - 1) (by omega) (by omega) hv hK
theorem sg_mod {F : GF} {j x d s q : Nat} {K : Int32 → GF → Prop} (hj : j < 572) (hd : d < 10000) (hq : q < 100) (hx : x < 2147483648) (e68 : F 68 0 j = nI d) (e69 : F 69 0 j = nI s) (e70 : F 70 0 j = nI q) (hK : K (chN d s q x) (fs F 40 0 43 0)) : P_X11_signAt_24 K F (nI j) (nI x) 1 := by
  have hnd := nd_le d
  have hnq := nd_le q
  unfold P_X11_signAt_24 P_X11_asked P_X11_asked_10
  rw [if_neg (show ¬ (1 : Int32) = 0 by decide)]
  intro G eG
  have g68 : G 68 0 j = nI d := by rw [eG, fs_fam (by decide)]; exact e68
  have g69 : G 69 0 j = nI s := by rw [eG, fs_fam (by decide)]; exact e69
  have g70 : G 70 0 j = nI q := by rw [eG, fs_fam (by decide)]; exact e70
  rw [← eG] at hK
  refine ⟨Or.inr rfl, ?_⟩
  show if (1 : Int32) = 0 then _ else _
  rw [if_neg (show ¬ (1 : Int32) = 0 by decide), nI_clamp' (by omega), g68]
  refine ⟨nI_in (by omega) (by omega), di_mod hd ?_⟩
  unfold chN at hK
  show if nI (nd d) ≤ nI x then _ else _
  by_cases h1 : x < nd d
  · rw [if_pos h1] at hK
    rw [if_neg (nI_ge h1 (by omega)), g68]
    exact ⟨nI_in (by omega) (by omega), da_mod hd h1 hK⟩
  · rw [if_neg h1] at hK
    rw [if_pos (nI_le (by omega) hx)]
    by_cases h2 : x = nd d
    · rw [if_pos h2] at hK
      rw [if_pos (by rw [h2]), g69]
      exact ⟨nI_in (by omega) (by omega), hK⟩
    · rw [if_neg h2] at hK
      rw [if_neg (fun z => h2 ((nI_eq_iff hx (by omega)).mp z)), g70]
      refine ⟨nI_in (by omega) (by omega), di_mod (by omega) ?_⟩
      show if nI (nd q) ≤ nI x - nI (nd d) - 1 then _ else _
      rw [nI_sub (by omega), li1, nI_sub (by omega)]
      by_cases h3 : x - nd d - 1 < nd q
      · rw [if_pos h3] at hK
        rw [if_neg (nI_ge h3 (by omega)), g70]
        exact ⟨nI_in (by omega) (by omega), da_mod (by omega) h3 hK⟩
      · rw [if_neg h3] at hK
        rw [if_pos (nI_le (by omega) (by omega))]
        exact hK
theorem Sm.sb {F F1 F2 : GF} (h : Sm F F1) (hF : ∀ f, f ≠ 25 → f ≠ 26 → F2 f = F1 f) (hb : b_sb F2) : Sm F F2 := by
  refine ⟨fun f hf => ?_, fun j p q r => ?_, fun _ => hb⟩
  · rw [hF f (fun e => by rw [e] at hf; cases hf) (fun e => by rw [e] at hf; cases hf)]
    exact h.1 f hf
  · rw [hF 40 (by decide) (by decide)]
    exact h.2.1 j p q r
theorem hold_ch {F : GF} {a b : Int32} {K : Int32 → GF → Prop} : P_X0_characterAt F a b K = @Hold _ (P_X0_characterAt F a b) ⟨K⟩ := rfl
theorem hold_sg {F : GF} {a b c : Int32} {K : Int32 → GF → Prop} : P_X11_signAt_24 K F a b c = @Hold _ (fun K => P_X11_signAt_24 K F a b c) ⟨K⟩ := rfl
set_option maxHeartbeats 1000000 in
set_option maxRecDepth 20000 in
theorem m35 {k : Nat} {F : GF} (hk : k < 512) (h : Inv k F) (a1 a2 a3 : Int32) : PL_35 a1 a2 a3 (Inv (k + 1)) F := by
  have hI := h
  obtain ⟨⟨q0, q1, q2, q3, q4, q5, q6, q7, q8, q9, q10, q11⟩, ⟨r0, r1, r2, r3, r4, r5, r6, r7, r8, r9, r10, r11, r12, r13, r14⟩, cb, lg⟩ := h
  have R1 := r1
  have R2 := r2
  have R3 := r3
  have R4 := r4
  obtain ⟨m, hm, em, hmc⟩ := r1
  have em' : F 40 0 6 = nI m := q2.1.trans em
  obtain ⟨n, hn, en⟩ := r2
  have en' : F 40 0 9 = nI n := q4.1.trans en
  obtain ⟨t, g, d, s, e, ht, et, hg, eg, hd, ed, hs, es, he, ee, hem, hg1, hg2, hg3⟩ := r3
  have et' : F 40 0 0 = nI t := q0.trans et
  have eg' : F 40 0 14 = nI g := q5.1.trans eg
  have ed' : F 40 0 15 = nI d := q5.2.1.trans ed
  have es' : F 40 0 16 = nI s := q5.2.2.1.trans es
  have eo' : F 40 0 17 = F 10 0 3 := q5.2.2.2.1
  have ee' : F 40 0 19 = nI e := q5.2.2.2.2.trans ee
  obtain ⟨⟨v, hv, ev⟩, hev⟩ := r4
  have ev' : F 40 0 26 = nI v := q8.1.trans ev
  obtain ⟨b, v', hb21, hb16, hb60, hbk⟩ := cb
  have hbw : b ≤ 572 := by omega
  have hb42 : F 40 0 42 = nI b := q11.1.trans hb21
  rcases int_cases a1 with hneg_p | ⟨p, hbig_p, rfl⟩
  · rcases int_cases a2 with hneg_c | ⟨c, hbig_c, rfl⟩
    · first
        | exfalso; omega
        | simp (disch := first | omega | assumption) only [PL_35, P_L_signAt, P_X10_signAt, P_X11_signAt, P_X11_signAt_23, P_X11_in, P_X11_asked, P_X11_asked_10, P_X11_asked_, P_X11_asked__18, P_X11_asked__, P_X11_asked___26, P_X11_thrown, P_X11_told, ↓reduceIte, ↓forall_eq, ↓hold_ca, ↓hold_cam, ↓hold_cl, ↓hold_se, ↓hold_sem, ↓hold_st, ↓hold_wr, ↓hold_wrm, li0, li1, li2, li3, li4, li5, li6, li7, li8, li10, li20, li30, li35, li36, li60, li72, li100, li572, li2000, li2100, li9999, nI_lt_t, nI_lt_f, nI_le_t, nI_le_f, nI_eq_t, nI_eq_f, nI_eq_neg2, neg_eq_nI2, neg_lt2, neg_le2, nI_lt_neg2, nI_le_neg2, pred_t, pred_f, nI_clamp', vp_t, lt0_t, lt0_le, lt0_lt, lt0_eq, if_true, if_false, ite_true, ite_false, true_and, and_true, false_and, and_false, false_or, or_false, true_or, or_true, eq_self, fs_ne, fs_eq, fs_eq', st12, st13, st21, st23, st31, st32, not_true_eq_false, not_false_eq_true, P_X11_signAt_24, em, em', en, en', et, et', eg, eg', ed, ed', es, es', eo', ee, ee', ev, ev', hb21, hb42]
          refine hI.end ?_
          repeat (first | exact Sm.refl _ | refine Sm.fs40 ?_ _ _ (by decide) | refine Sm.fsT ?_ _ _ _ _ rfl (by decide) (by decide))
    · by_cases hlt_c : c < 2147483648
      · first
          | exfalso; omega
          | simp (disch := first | omega | assumption) only [PL_35, P_L_signAt, P_X10_signAt, P_X11_signAt, P_X11_signAt_23, P_X11_in, P_X11_asked, P_X11_asked_10, P_X11_asked_, P_X11_asked__18, P_X11_asked__, P_X11_asked___26, P_X11_thrown, P_X11_told, ↓reduceIte, ↓forall_eq, ↓hold_ca, ↓hold_cam, ↓hold_cl, ↓hold_se, ↓hold_sem, ↓hold_st, ↓hold_wr, ↓hold_wrm, li0, li1, li2, li3, li4, li5, li6, li7, li8, li10, li20, li30, li35, li36, li60, li72, li100, li572, li2000, li2100, li9999, nI_lt_t, nI_lt_f, nI_le_t, nI_le_f, nI_eq_t, nI_eq_f, nI_eq_neg2, neg_eq_nI2, neg_lt2, neg_le2, nI_lt_neg2, nI_le_neg2, pred_t, pred_f, nI_clamp', vp_t, lt0_t, lt0_le, lt0_lt, lt0_eq, if_true, if_false, ite_true, ite_false, true_and, and_true, false_and, and_false, false_or, or_false, true_or, or_true, eq_self, fs_ne, fs_eq, fs_eq', st12, st13, st21, st23, st31, st32, not_true_eq_false, not_false_eq_true, P_X11_signAt_24, em, em', en, en', et, et', eg, eg', ed, ed', es, es', eo', ee, ee', ev, ev', hb21, hb42]
            refine hI.end ?_
            repeat (first | exact Sm.refl _ | refine Sm.fs40 ?_ _ _ (by decide) | refine Sm.fsT ?_ _ _ _ _ rfl (by decide) (by decide))
      · first
          | exfalso; omega
          | simp (disch := first | omega | assumption) only [PL_35, P_L_signAt, P_X10_signAt, P_X11_signAt, P_X11_signAt_23, P_X11_in, P_X11_asked, P_X11_asked_10, P_X11_asked_, P_X11_asked__18, P_X11_asked__, P_X11_asked___26, P_X11_thrown, P_X11_told, ↓reduceIte, ↓forall_eq, ↓hold_ca, ↓hold_cam, ↓hold_cl, ↓hold_se, ↓hold_sem, ↓hold_st, ↓hold_wr, ↓hold_wrm, li0, li1, li2, li3, li4, li5, li6, li7, li8, li10, li20, li30, li35, li36, li60, li72, li100, li572, li2000, li2100, li9999, nI_lt_t, nI_lt_f, nI_le_t, nI_le_f, nI_eq_t, nI_eq_f, nI_eq_neg2, neg_eq_nI2, neg_lt2, neg_le2, nI_lt_neg2, nI_le_neg2, pred_t, pred_f, nI_clamp', vp_t, lt0_t, lt0_le, lt0_lt, lt0_eq, if_true, if_false, ite_true, ite_false, true_and, and_true, false_and, and_false, false_or, or_false, true_or, or_true, eq_self, fs_ne, fs_eq, fs_eq', st12, st13, st21, st23, st31, st32, not_true_eq_false, not_false_eq_true, P_X11_signAt_24, em, em', en, en', et, et', eg, eg', ed, ed', es, es', eo', ee, ee', ev, ev', hb21, hb42]
            refine hI.end ?_
            repeat (first | exact Sm.refl _ | refine Sm.fs40 ?_ _ _ (by decide) | refine Sm.fsT ?_ _ _ _ _ rfl (by decide) (by decide))
  · by_cases hlt_p : p < b
    · rcases int_cases a2 with hneg_c | ⟨c, hbig_c, rfl⟩
      · first
          | exfalso; omega
          | simp (disch := first | omega | assumption) only [PL_35, P_L_signAt, P_X10_signAt, P_X11_signAt, P_X11_signAt_23, P_X11_in, P_X11_asked, P_X11_asked_10, P_X11_asked_, P_X11_asked__18, P_X11_asked__, P_X11_asked___26, P_X11_thrown, P_X11_told, ↓reduceIte, ↓forall_eq, ↓hold_ca, ↓hold_cam, ↓hold_cl, ↓hold_se, ↓hold_sem, ↓hold_st, ↓hold_wr, ↓hold_wrm, li0, li1, li2, li3, li4, li5, li6, li7, li8, li10, li20, li30, li35, li36, li60, li72, li100, li572, li2000, li2100, li9999, nI_lt_t, nI_lt_f, nI_le_t, nI_le_f, nI_eq_t, nI_eq_f, nI_eq_neg2, neg_eq_nI2, neg_lt2, neg_le2, nI_lt_neg2, nI_le_neg2, pred_t, pred_f, nI_clamp', vp_t, lt0_t, lt0_le, lt0_lt, lt0_eq, if_true, if_false, ite_true, ite_false, true_and, and_true, false_and, and_false, false_or, or_false, true_or, or_true, eq_self, fs_ne, fs_eq, fs_eq', st12, st13, st21, st23, st31, st32, not_true_eq_false, not_false_eq_true, P_X11_signAt_24, em, em', en, en', et, et', eg, eg', ed, ed', es, es', eo', ee, ee', ev, ev', hb21, hb42]
            refine hI.end ?_
            repeat (first | exact Sm.refl _ | refine Sm.fs40 ?_ _ _ (by decide) | refine Sm.fsT ?_ _ _ _ _ rfl (by decide) (by decide))
      · by_cases hlt_c : c < 2147483648
        · obtain ⟨z1, z2⟩ := q11.2 p (by omega)
          obtain ⟨⟨dd, hdd, edd⟩, ⟨cc, hcc, ecc⟩, ⟨qq, hqq, eqq⟩⟩ := r11 p (by omega)
          simp (disch := first | omega | assumption) only [PL_35, P_L_signAt, P_X10_signAt, P_X11_signAt, P_X11_signAt_23, P_X11_in, P_X11_asked, P_X11_asked_10, P_X11_asked_, P_X11_asked__18, P_X11_asked__, P_X11_asked___26, P_X11_thrown, P_X11_told, ↓reduceIte, ↓forall_eq, ↓hold_ca, ↓hold_cam, ↓hold_cl, ↓hold_se, ↓hold_sem, ↓hold_st, ↓hold_wr, ↓hold_wrm, li0, li1, li2, li3, li4, li5, li6, li7, li8, li10, li20, li30, li35, li36, li60, li72, li100, li572, li2000, li2100, li9999, nI_lt_t, nI_lt_f, nI_le_t, nI_le_f, nI_eq_t, nI_eq_f, nI_eq_neg2, neg_eq_nI2, neg_lt2, neg_le2, nI_lt_neg2, nI_le_neg2, pred_t, pred_f, nI_clamp', vp_t, lt0_t, lt0_le, lt0_lt, lt0_eq, if_true, if_false, ite_true, ite_false, true_and, and_true, false_and, and_false, false_or, or_false, true_or, or_true, eq_self, fs_ne, fs_eq, fs_eq', st12, st13, st21, st23, st31, st32, not_true_eq_false, not_false_eq_true, ↓hold_ch, em, em', en, en', et, et', eg, eg', ed, ed', es, es', eo', ee, ee', ev, ev', hb21, hb42]
          refine unhold ?_
          refine ca_run (b := b) (d := dd) (s := cc) (q := qq) r13 hlt_p hbw hb21 (by omega) (by omega) hcc hbig_c edd ecc eqq (fun F1 y1 y2 => ?_)
          have f40 : F1 40 = F 40 := y1 40 (by decide) (by decide)
          have f68 : F1 68 = F 68 := y1 68 (by decide) (by decide)
          have f69 : F1 69 = F 69 := y1 69 (by decide) (by decide)
          have f70 : F1 70 = F 70 := y1 70 (by decide) (by decide)
          simp (disch := first | omega | assumption) only [PL_35, P_L_signAt, P_X10_signAt, P_X11_signAt, P_X11_signAt_23, P_X11_in, P_X11_asked, P_X11_asked_10, P_X11_asked_, P_X11_asked__18, P_X11_asked__, P_X11_asked___26, P_X11_thrown, P_X11_told, ↓reduceIte, ↓forall_eq, ↓hold_ca, ↓hold_cam, ↓hold_cl, ↓hold_se, ↓hold_sem, ↓hold_st, ↓hold_wr, ↓hold_wrm, li0, li1, li2, li3, li4, li5, li6, li7, li8, li10, li20, li30, li35, li36, li60, li72, li100, li572, li2000, li2100, li9999, nI_lt_t, nI_lt_f, nI_le_t, nI_le_f, nI_eq_t, nI_eq_f, nI_eq_neg2, neg_eq_nI2, neg_lt2, neg_le2, nI_lt_neg2, nI_le_neg2, pred_t, pred_f, nI_clamp', vp_t, lt0_t, lt0_le, lt0_lt, lt0_eq, if_true, if_false, ite_true, ite_false, true_and, and_true, false_and, and_false, false_or, or_false, true_or, or_true, eq_self, fs_ne, fs_eq, fs_eq', st12, st13, st21, st23, st31, st32, not_true_eq_false, not_false_eq_true, em, em', en, en', et, et', eg, eg', ed, ed', es, es', eo', ee, ee', ev, ev', hb21, hb42, f40]
          refine sg_mod (d := dd) (s := cc) (q := qq) (by omega) (by omega) (by omega) hbig_c (by simp (disch := omega) only [fs_ne, f68]; exact z1.trans edd) (by simp (disch := omega) only [fs_ne, f69]; exact z2.1.trans ecc) (by simp (disch := omega) only [fs_ne, f70]; exact z2.2.trans eqq) ?_
          simp (disch := first | omega | assumption) only [PL_35, P_L_signAt, P_X10_signAt, P_X11_signAt, P_X11_signAt_23, P_X11_in, P_X11_asked, P_X11_asked_10, P_X11_asked_, P_X11_asked__18, P_X11_asked__, P_X11_asked___26, P_X11_thrown, P_X11_told, ↓reduceIte, ↓forall_eq, ↓hold_ca, ↓hold_cam, ↓hold_cl, ↓hold_se, ↓hold_sem, ↓hold_st, ↓hold_wr, ↓hold_wrm, li0, li1, li2, li3, li4, li5, li6, li7, li8, li10, li20, li30, li35, li36, li60, li72, li100, li572, li2000, li2100, li9999, nI_lt_t, nI_lt_f, nI_le_t, nI_le_f, nI_eq_t, nI_eq_f, nI_eq_neg2, neg_eq_nI2, neg_lt2, neg_le2, nI_lt_neg2, nI_le_neg2, pred_t, pred_f, nI_clamp', vp_t, lt0_t, lt0_le, lt0_lt, lt0_eq, if_true, if_false, ite_true, ite_false, true_and, and_true, false_and, and_false, false_or, or_false, true_or, or_true, eq_self, fs_ne, fs_eq, fs_eq', st12, st13, st21, st23, st31, st32, not_true_eq_false, not_false_eq_true, em, em', en, en', et, et', eg, eg', ed, ed', es, es', eo', ee, ee', ev, ev', hb21, hb42, f40]
          refine hI.end ?_
          repeat (first | exact Sm.sb (Sm.refl _) y1 y2 | refine Sm.fs40 ?_ _ _ (by decide) | refine Sm.fsT ?_ _ _ _ _ rfl (by decide) (by decide))
        · first
            | exfalso; omega
            | simp (disch := first | omega | assumption) only [PL_35, P_L_signAt, P_X10_signAt, P_X11_signAt, P_X11_signAt_23, P_X11_in, P_X11_asked, P_X11_asked_10, P_X11_asked_, P_X11_asked__18, P_X11_asked__, P_X11_asked___26, P_X11_thrown, P_X11_told, ↓reduceIte, ↓forall_eq, ↓hold_ca, ↓hold_cam, ↓hold_cl, ↓hold_se, ↓hold_sem, ↓hold_st, ↓hold_wr, ↓hold_wrm, li0, li1, li2, li3, li4, li5, li6, li7, li8, li10, li20, li30, li35, li36, li60, li72, li100, li572, li2000, li2100, li9999, nI_lt_t, nI_lt_f, nI_le_t, nI_le_f, nI_eq_t, nI_eq_f, nI_eq_neg2, neg_eq_nI2, neg_lt2, neg_le2, nI_lt_neg2, nI_le_neg2, pred_t, pred_f, nI_clamp', vp_t, lt0_t, lt0_le, lt0_lt, lt0_eq, if_true, if_false, ite_true, ite_false, true_and, and_true, false_and, and_false, false_or, or_false, true_or, or_true, eq_self, fs_ne, fs_eq, fs_eq', st12, st13, st21, st23, st31, st32, not_true_eq_false, not_false_eq_true, P_X11_signAt_24, em, em', en, en', et, et', eg, eg', ed, ed', es, es', eo', ee, ee', ev, ev', hb21, hb42]
              refine hI.end ?_
              repeat (first | exact Sm.refl _ | refine Sm.fs40 ?_ _ _ (by decide) | refine Sm.fsT ?_ _ _ _ _ rfl (by decide) (by decide))
    · rcases int_cases a2 with hneg_c | ⟨c, hbig_c, rfl⟩
      · first
          | exfalso; omega
          | simp (disch := first | omega | assumption) only [PL_35, P_L_signAt, P_X10_signAt, P_X11_signAt, P_X11_signAt_23, P_X11_in, P_X11_asked, P_X11_asked_10, P_X11_asked_, P_X11_asked__18, P_X11_asked__, P_X11_asked___26, P_X11_thrown, P_X11_told, ↓reduceIte, ↓forall_eq, ↓hold_ca, ↓hold_cam, ↓hold_cl, ↓hold_se, ↓hold_sem, ↓hold_st, ↓hold_wr, ↓hold_wrm, li0, li1, li2, li3, li4, li5, li6, li7, li8, li10, li20, li30, li35, li36, li60, li72, li100, li572, li2000, li2100, li9999, nI_lt_t, nI_lt_f, nI_le_t, nI_le_f, nI_eq_t, nI_eq_f, nI_eq_neg2, neg_eq_nI2, neg_lt2, neg_le2, nI_lt_neg2, nI_le_neg2, pred_t, pred_f, nI_clamp', vp_t, lt0_t, lt0_le, lt0_lt, lt0_eq, if_true, if_false, ite_true, ite_false, true_and, and_true, false_and, and_false, false_or, or_false, true_or, or_true, eq_self, fs_ne, fs_eq, fs_eq', st12, st13, st21, st23, st31, st32, not_true_eq_false, not_false_eq_true, P_X11_signAt_24, em, em', en, en', et, et', eg, eg', ed, ed', es, es', eo', ee, ee', ev, ev', hb21, hb42]
            refine hI.end ?_
            repeat (first | exact Sm.refl _ | refine Sm.fs40 ?_ _ _ (by decide) | refine Sm.fsT ?_ _ _ _ _ rfl (by decide) (by decide))
      · by_cases hlt_c : c < 2147483648
        · first
            | exfalso; omega
            | simp (disch := first | omega | assumption) only [PL_35, P_L_signAt, P_X10_signAt, P_X11_signAt, P_X11_signAt_23, P_X11_in, P_X11_asked, P_X11_asked_10, P_X11_asked_, P_X11_asked__18, P_X11_asked__, P_X11_asked___26, P_X11_thrown, P_X11_told, ↓reduceIte, ↓forall_eq, ↓hold_ca, ↓hold_cam, ↓hold_cl, ↓hold_se, ↓hold_sem, ↓hold_st, ↓hold_wr, ↓hold_wrm, li0, li1, li2, li3, li4, li5, li6, li7, li8, li10, li20, li30, li35, li36, li60, li72, li100, li572, li2000, li2100, li9999, nI_lt_t, nI_lt_f, nI_le_t, nI_le_f, nI_eq_t, nI_eq_f, nI_eq_neg2, neg_eq_nI2, neg_lt2, neg_le2, nI_lt_neg2, nI_le_neg2, pred_t, pred_f, nI_clamp', vp_t, lt0_t, lt0_le, lt0_lt, lt0_eq, if_true, if_false, ite_true, ite_false, true_and, and_true, false_and, and_false, false_or, or_false, true_or, or_true, eq_self, fs_ne, fs_eq, fs_eq', st12, st13, st21, st23, st31, st32, not_true_eq_false, not_false_eq_true, P_X11_signAt_24, em, em', en, en', et, et', eg, eg', ed, ed', es, es', eo', ee, ee', ev, ev', hb21, hb42]
              refine hI.end ?_
              repeat (first | exact Sm.refl _ | refine Sm.fs40 ?_ _ _ (by decide) | refine Sm.fsT ?_ _ _ _ _ rfl (by decide) (by decide))
        · first
            | exfalso; omega
            | simp (disch := first | omega | assumption) only [PL_35, P_L_signAt, P_X10_signAt, P_X11_signAt, P_X11_signAt_23, P_X11_in, P_X11_asked, P_X11_asked_10, P_X11_asked_, P_X11_asked__18, P_X11_asked__, P_X11_asked___26, P_X11_thrown, P_X11_told, ↓reduceIte, ↓forall_eq, ↓hold_ca, ↓hold_cam, ↓hold_cl, ↓hold_se, ↓hold_sem, ↓hold_st, ↓hold_wr, ↓hold_wrm, li0, li1, li2, li3, li4, li5, li6, li7, li8, li10, li20, li30, li35, li36, li60, li72, li100, li572, li2000, li2100, li9999, nI_lt_t, nI_lt_f, nI_le_t, nI_le_f, nI_eq_t, nI_eq_f, nI_eq_neg2, neg_eq_nI2, neg_lt2, neg_le2, nI_lt_neg2, nI_le_neg2, pred_t, pred_f, nI_clamp', vp_t, lt0_t, lt0_le, lt0_lt, lt0_eq, if_true, if_false, ite_true, ite_false, true_and, and_true, false_and, and_false, false_or, or_false, true_or, or_true, eq_self, fs_ne, fs_eq, fs_eq', st12, st13, st21, st23, st31, st32, not_true_eq_false, not_false_eq_true, P_X11_signAt_24, em, em', en, en', et, et', eg, eg', ed, ed', es, es', eo', ee, ee', ev, ev', hb21, hb42]
              refine hI.end ?_
              repeat (first | exact Sm.refl _ | refine Sm.fs40 ?_ _ _ (by decide) | refine Sm.fsT ?_ _ _ _ _ rfl (by decide) (by decide))
