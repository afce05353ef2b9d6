set_option maxHeartbeats 1000000 in
set_option maxRecDepth 20000 in
theorem close_inv {k v' x b d p so z bb : Nat} {F : GF} (h : Inv k F) (hk : k < 512) (hg4 : F 10 0 0 = nI 4) (ev : F 16 0 3 = nI v') (hv : v' ≤ 60) (hex : x < v') (he17 : F 17 0 x = nI p) (hb : p < 20) (he19 : F 19 0 x = 0) (hso : so < 5) (hun0 : F 15 0 p = 0) (hz28 : F 28 so 1 = nI z) (hz20 : z < 20) (hbb5 : bb ≤ 5) (hb21 : F 21 0 4 = nI b) (hd : d ≤ 2000) (hbk : b + seals F v' ≤ k + v') (hsv : seals F v' ≥ 1) : Inv k (fs (fs (fs (fs (fs (fs (fs (fs (fs (fs (fs (fs (fs (fs (fs (fs F 19 0 x 2) 22 0 b (nI d)) 23 0 b 115) 24 0 b (nI p)) 21 0 4 (nI (b + 1))) 29 so z (nI bb)) 28 so 1 (nI (z + 1))) 15 0 p 1) 57 0 x 2) 58 0 (20 * so + z) (nI bb)) 59 0 so (nI (z + 1))) 54 0 p 1) 68 0 b (nI d)) 69 0 b 115) 70 0 b (nI p)) 40 0 42 (nI (b + 1))) := by
  obtain ⟨⟨q0, q1, q2, q3, q4, q5, q6, q7, q8, q9, q10, q11⟩, ⟨r0, r1, r2, r3, r4, r5, r6, r7, r8, r9, r10, r11, r12, r13, r14⟩, cb, lg⟩ := h
  have R4 := r4
  have hbw : b < 572 := by omega
  refine ⟨⟨q0, q1, q2, q3, q4, q5, q6, ?_, ?_, ?_, q10, ?_⟩, ⟨r0, r1, r2, r3, r4, ?_, r6, ?_, ?_, r9, ?_, ?_, r12, r13, ?_⟩, ?_, lg⟩
  · refine ⟨fun q hq => ⟨(q7.1 q hq).1, ?_⟩, q7.2⟩
    by_cases e : q = p
    · subst e
      simp (disch := omega) only [fs_ne, fs_eq]
    · simp (disch := omega) only [fs_ne]
      exact (q7.1 q hq).2
  · refine ⟨q8.1, fun j hj => ⟨(q8.2 j hj).1, (q8.2 j hj).2.1, ?_⟩⟩
    by_cases e : j = x
    · subst e
      simp (disch := omega) only [fs_ne, fs_eq]
    · simp (disch := omega) only [fs_ne]
      exact (q8.2 j hj).2.2
  · exact And.left (box_more (F := F) (p := p) (s := so) (z := z) (b := bb) hb hso hz20 (by omega) hz28 hun0 q9 r7 r8 (by intro i j; by_cases e : i = so ∧ j = 1; (obtain ⟨e1, e2⟩ := e; subst e1 e2; simp (disch := omega) only [fs_ne, fs_eq, eq_self, and_self, if_true]; try rfl); (rw [if_neg e]; simp (disch := omega) only [fs_ne])) (by intro j; by_cases e : j = so; (subst e; simp (disch := omega) only [fs_ne, fs_eq, eq_self, if_true]; try rfl); (simp (disch := omega) only [fs_ne, if_neg e])) (by intro i j; by_cases e : i = so ∧ j = z; (obtain ⟨e1, e2⟩ := e; subst e1 e2; simp (disch := omega) only [fs_ne, fs_eq, eq_self, and_self, if_true]; try rfl); (rw [if_neg e]; simp (disch := omega) only [fs_ne])) (by intro j; by_cases e : j = 20 * so + z; (subst e; simp (disch := omega) only [fs_ne, fs_eq, eq_self, if_true]; try rfl); (simp (disch := omega) only [fs_ne, if_neg e])) rfl rfl rfl rfl (fun q hq => by simp (disch := omega) only [fs_ne]) (by simp (disch := omega) only [fs_ne, fs_eq]))
  · exact And.left (book_more (F := F) (b := b) (v := d) (c := 115) (p := p) (by omega) (by omega) (by decide) (by omega) q11 r11 (by simp (disch := omega) only [fs_ne, fs_eq]) (by simp (disch := omega) only [fs_ne, fs_eq]) (by intro j; by_cases e : j = b; (subst e; simp (disch := omega) only [fs_ne, fs_eq, eq_self, if_true]; try rfl); (simp (disch := omega) only [fs_ne, if_neg e])) (by intro j; by_cases e : j = b; (subst e; simp (disch := omega) only [fs_ne, fs_eq, eq_self, if_true]; try rfl); (simp (disch := omega) only [fs_ne, if_neg e])) (by intro j; by_cases e : j = b; (subst e; simp (disch := omega) only [fs_ne, fs_eq, eq_self, if_true]; try rfl); (simp (disch := omega) only [fs_ne, if_neg e])) (by intro j; by_cases e : j = b; (subst e; simp (disch := omega) only [fs_ne, fs_eq, eq_self, if_true]; try rfl); (simp (disch := omega) only [fs_ne, if_neg e])) (by intro j; by_cases e : j = b; (subst e; simp (disch := omega) only [fs_ne, fs_eq, eq_self, if_true]; try rfl); (simp (disch := omega) only [fs_ne, if_neg e])) (by intro j; by_cases e : j = b; (subst e; simp (disch := omega) only [fs_ne, fs_eq, eq_self, if_true]; try rfl); (simp (disch := omega) only [fs_ne, if_neg e])))
  · refine b_seal_void (p := p) (e := x) (v := v') r5 R4 ev hv hex hb he17 he19 rfl (fun _ => rfl) (fun _ => rfl) (fun j hj => by simp (disch := omega) only [fs_ne]) (by simp (disch := omega) only [fs_ne, fs_eq]; decide) (fun q hq => by first | rfl | simp (disch := omega) only [fs_ne])
  · exact And.left (And.right (box_more (F := F) (p := p) (s := so) (z := z) (b := bb) hb hso hz20 (by omega) hz28 hun0 q9 r7 r8 (by intro i j; by_cases e : i = so ∧ j = 1; (obtain ⟨e1, e2⟩ := e; subst e1 e2; simp (disch := omega) only [fs_ne, fs_eq, eq_self, and_self, if_true]; try rfl); (rw [if_neg e]; simp (disch := omega) only [fs_ne])) (by intro j; by_cases e : j = so; (subst e; simp (disch := omega) only [fs_ne, fs_eq, eq_self, if_true]; try rfl); (simp (disch := omega) only [fs_ne, if_neg e])) (by intro i j; by_cases e : i = so ∧ j = z; (obtain ⟨e1, e2⟩ := e; subst e1 e2; simp (disch := omega) only [fs_ne, fs_eq, eq_self, and_self, if_true]; try rfl); (rw [if_neg e]; simp (disch := omega) only [fs_ne])) (by intro j; by_cases e : j = 20 * so + z; (subst e; simp (disch := omega) only [fs_ne, fs_eq, eq_self, if_true]; try rfl); (simp (disch := omega) only [fs_ne, if_neg e])) rfl rfl rfl rfl (fun q hq => by simp (disch := omega) only [fs_ne]) (by simp (disch := omega) only [fs_ne, fs_eq])))
  · exact And.right (And.right (box_more (F := F) (p := p) (s := so) (z := z) (b := bb) hb hso hz20 (by omega) hz28 hun0 q9 r7 r8 (by intro i j; by_cases e : i = so ∧ j = 1; (obtain ⟨e1, e2⟩ := e; subst e1 e2; simp (disch := omega) only [fs_ne, fs_eq, eq_self, and_self, if_true]; try rfl); (rw [if_neg e]; simp (disch := omega) only [fs_ne])) (by intro j; by_cases e : j = so; (subst e; simp (disch := omega) only [fs_ne, fs_eq, eq_self, if_true]; try rfl); (simp (disch := omega) only [fs_ne, if_neg e])) (by intro i j; by_cases e : i = so ∧ j = z; (obtain ⟨e1, e2⟩ := e; subst e1 e2; simp (disch := omega) only [fs_ne, fs_eq, eq_self, and_self, if_true]; try rfl); (rw [if_neg e]; simp (disch := omega) only [fs_ne])) (by intro j; by_cases e : j = 20 * so + z; (subst e; simp (disch := omega) only [fs_ne, fs_eq, eq_self, if_true]; try rfl); (simp (disch := omega) only [fs_ne, if_neg e])) rfl rfl rfl rfl (fun q hq => by simp (disch := omega) only [fs_ne]) (by simp (disch := omega) only [fs_ne, fs_eq])))
  · intro hgg
    have hgg : F 10 0 0 = 5 := hgg
    rw [hg4] at hgg
    exact absurd hgg (by decide)
  · exact And.right (book_more (F := F) (b := b) (v := d) (c := 115) (p := p) (by omega) (by omega) (by decide) (by omega) q11 r11 (by simp (disch := omega) only [fs_ne, fs_eq]) (by simp (disch := omega) only [fs_ne, fs_eq]) (by intro j; by_cases e : j = b; (subst e; simp (disch := omega) only [fs_ne, fs_eq, eq_self, if_true]; try rfl); (simp (disch := omega) only [fs_ne, if_neg e])) (by intro j; by_cases e : j = b; (subst e; simp (disch := omega) only [fs_ne, fs_eq, eq_self, if_true]; try rfl); (simp (disch := omega) only [fs_ne, if_neg e])) (by intro j; by_cases e : j = b; (subst e; simp (disch := omega) only [fs_ne, fs_eq, eq_self, if_true]; try rfl); (simp (disch := omega) only [fs_ne, if_neg e])) (by intro j; by_cases e : j = b; (subst e; simp (disch := omega) only [fs_ne, fs_eq, eq_self, if_true]; try rfl); (simp (disch := omega) only [fs_ne, if_neg e])) (by intro j; by_cases e : j = b; (subst e; simp (disch := omega) only [fs_ne, fs_eq, eq_self, if_true]; try rfl); (simp (disch := omega) only [fs_ne, if_neg e])) (by intro j; by_cases e : j = b; (subst e; simp (disch := omega) only [fs_ne, fs_eq, eq_self, if_true]; try rfl); (simp (disch := omega) only [fs_ne, if_neg e])))
  · intro hgg
    have hgg : F 10 0 0 = 1 ∨ F 10 0 0 = 2 := hgg
    rw [hg4] at hgg
    rcases hgg with z | z <;> exact absurd z (by decide)
  · refine c_book_of (b' := b + 1) (v' := v') (S := seals F v' - 1) (by simp (disch := omega) only [fs_ne, fs_eq]) ev hv (seals_voided hex he19 (by simp (disch := omega) only [fs_ne, fs_eq]; decide) (fun j hj => by simp (disch := omega) only [fs_ne])) (by omega)
set_option maxHeartbeats 1000000 in
set_option maxRecDepth 20000 in
theorem close_one {k v' x : Nat} {F : GF} (h : Inv k F) (hk : k < 512) (hg4 : F 10 0 0 = nI 4) (ev : F 16 0 3 = nI v') (hv : v' ≤ 60) (hex : x < v') : ∃ F', Inv k F' ∧ F' 10 = F 10 ∧ F' 16 = F 16 ∧ F' 0 = F 0 ∧ (∀ (Fc : GF) (q : Nat) (K : GF → Prop), Ac0 Fc F → (∀ Fc', Ac0 Fc' F' → UpC Fc' Fc → P_X2_openAllSealed_2 K q Fc' (nI (x + 1))) → P_X2_openAllSealed_2 K (q + 1) Fc (nI x)) ∧ (∀ (Fm : GF) (q : Nat) (K : GF → Prop), Am Fm F → (∀ Fm', Am Fm' F' → UpM Fm' Fm → P_X11_closes_7 K q Fm' (nI (x + 1))) → P_X11_closes_7 K (q + 1) Fm (nI x)) := by
  have hI := h
  obtain ⟨⟨q0, q1, q2, q3, q4, q5, q6, q7, q8, q9, q10, q11⟩, ⟨r0, r1, r2, r3, r4, r5, r6, r7, r8, r9, r10, r11, r12, r13, r14⟩, cb, lg⟩ := h
  by_cases he19 : F 19 0 x = 0
  · obtain ⟨b, v2, hb21, hb16, hb60, hbk⟩ := cb
    obtain rfl : v2 = v' := (nI_eq_iff (by omega) (by omega)).mp (hb16.symm.trans ev)
    have hb42 : F 40 0 42 = nI b := q11.1.trans hb21
    have hsv : seals F v2 ≥ 1 := by
      have := seals_void (F := F) (F' := fs F 19 0 x 1) he19 (by rw [fs_eq]; decide) v2 (fun j hj => by rw [fs_ne (by omega)]) hex
      omega
    have hbw : b < 572 := by omega
    obtain ⟨⟨p, hp, he17⟩, ⟨bb, hbb5, hbb⟩⟩ := r4.2 x (by omega)
    have hsx : sealed F x := ⟨by rw [ev]; exact nI_lt hex (by omega), he19⟩
    obtain ⟨⟨so, hso, hon⟩, hun0, -⟩ := r5 x (by omega) hsx
    rw [he17, nI_clamp' (by omega)] at hon hun0
    obtain ⟨t, g, d, s, e, ht, et, hg, eg, hd, ed, -⟩ := r3
    obtain ⟨z, hzv, hz28⟩ := r8 so hso
    have hz20 : z < 20 := by
      have := voters_lt (F := F) (p := p) hun0 20 hp
      omega
    have he55 : F 55 0 x = nI p := (q8.2 x (by omega)).1.trans he17
    have he56 : F 56 0 x = nI bb := (q8.2 x (by omega)).2.1.trans hbb
    have he57 : F 57 0 x = 0 := (q8.2 x (by omega)).2.2.trans he19
    have hx52 : F 52 0 p = nI so := (q7.1 p hp).1.trans hon
    have hz59 : F 59 0 so = nI z := (q9 so hso).1.trans hz28
    refine ⟨fs (fs (fs (fs (fs (fs (fs (fs (fs (fs (fs (fs (fs (fs (fs (fs F 19 0 x 2) 22 0 b (nI d)) 23 0 b 115) 24 0 b (nI p)) 21 0 4 (nI (b + 1))) 29 so z (nI bb)) 28 so 1 (nI (z + 1))) 15 0 p 1) 57 0 x 2) 58 0 (20 * so + z) (nI bb)) 59 0 so (nI (z + 1))) 54 0 p 1) 68 0 b (nI d)) 69 0 b 115) 70 0 b (nI p)) 40 0 42 (nI (b + 1)), close_inv hI hk hg4 ev hv hex he17 hp he19 hso hun0 hz28 hz20 hbb5 hb21 hd hbk hsv, rfl, rfl, rfl, fun Fc q K hA hK => ?_, fun Fm q K hA hK => ?_⟩
    · have a : ∀ f, f < 40 ∨ f = 48 ∨ f = 49 ∨ f = 50 → trF f = false → f ≠ 10 → Fc f = F f := hA.1
      have a13 := a 13 (Or.inl (by decide)) rfl (by decide)
      have a16 := a 16 (Or.inl (by decide)) rfl (by decide)
      have a17 := a 17 (Or.inl (by decide)) rfl (by decide)
      have a18 := a 18 (Or.inl (by decide)) rfl (by decide)
      have a19 := a 19 (Or.inl (by decide)) rfl (by decide)
      have a21 := a 21 (Or.inl (by decide)) rfl (by decide)
      have a28 := a 28 (Or.inl (by decide)) rfl (by decide)
      have a10 := hA.2 0 1 (by decide)
      unfold P_X2_openAllSealed_2 P_X2_openAllSealed_32 P_X2_openEnvelope
      rw [a16, ev, if_neg (nI_ge hex (by omega)), nI_clamp' (by omega), a19, if_pos he19, if_neg (nI_pos (by omega)), if_pos (nI_lt hex (by omega)), a17, he17]
      refine ⟨nI_in (by omega) (by omega), nI_in (by omega) (by omega), nI_in (by omega) (by omega), fun F5 e5 => ?_⟩
      rw [show F5 10 0 1 = nI d by rw [e5]; simp (disch := omega) only [fs_ne]; rw [a10]; exact ed]
      refine wr_cls (b := b) (by rw [e5]; simp (disch := omega) only [fs_ne]; rw [a21]; exact hb21) hbw ?_
      rw [nar115]
      refine ⟨nI_in (by omega) (by omega), ?_⟩
      rw [show fs (fs (fs (fs F5 22 0 b (nI d)) 23 0 b 115) 24 0 b (nI p)) 21 0 4 (nI (b + 1)) 18 0 x = nI bb by simp (disch := omega) only [fs_ne]; rw [e5]; simp (disch := omega) only [fs_ne]; rw [a18]; exact hbb]
      refine ca_cls (s := so) (z := z) hp hso (by simp (disch := omega) only [fs_ne]; rw [e5]; simp (disch := omega) only [fs_ne]; rw [a13]; exact hon) (by simp (disch := omega) only [fs_ne]; rw [e5]; simp (disch := omega) only [fs_ne]; rw [a28]; exact hz28) hz20 ?_
      rw [← nI_succ, e5]
      refine hK _ ⟨fun f hf htf h10 => ?_, fun i j hj => ?_⟩ ⟨fun f hf => ?_, ?_⟩
      · rw [fs_fam (show f ≠ 40 by omega), fs_fam (show f ≠ 70 by omega), fs_fam (show f ≠ 69 by omega), fs_fam (show f ≠ 68 by omega), fs_fam (show f ≠ 54 by omega), fs_fam (show f ≠ 59 by omega), fs_fam (show f ≠ 58 by omega), fs_fam (show f ≠ 57 by omega)]
        exact fs_cong (fs_cong (fs_cong (fs_cong (fs_cong (fs_cong (fs_cong (fs_cong (a f hf htf h10))))))))
      · simp (disch := omega) only [fs_ne]
        exact hA.2 i j hj
      · rw [fs_fam (show f ≠ 15 by omega), fs_fam (show f ≠ 28 by omega), fs_fam (show f ≠ 29 by omega), fs_fam (show f ≠ 21 by omega), fs_fam (show f ≠ 24 by omega), fs_fam (show f ≠ 23 by omega), fs_fam (show f ≠ 22 by omega), fs_fam (show f ≠ 19 by omega)]
      · simp (disch := omega) only [fs_ne]
    · have a : ∀ f, 40 < f ∨ f = 2 → trF f = false → Fm f = F f := hA.1
      have a52 := a 52 (Or.inl (by decide)) rfl
      have a55 := a 55 (Or.inl (by decide)) rfl
      have a56 := a 56 (Or.inl (by decide)) rfl
      have a57 := a 57 (Or.inl (by decide)) rfl
      have a59 := a 59 (Or.inl (by decide)) rfl
      have b26 := hA.2 26 (by decide) (by decide) (by decide)
      have b15 := hA.2 15 (by decide) (by decide) (by decide)
      have b42 := hA.2 42 (by decide) (by decide) (by decide)
      unfold P_X11_closes_7 P_X11_closes_64
      rw [b26, q8.1, ev, if_neg (nI_ge hex (by omega)), nI_clamp' (by omega), a57, if_pos he57]
      refine ⟨nI_in (by omega) (by omega), nI_in (by omega) (by omega), fun F6 e6 => ⟨nI_in (by omega) (by omega), nI_in (by omega) (by omega), ?_⟩⟩
      rw [show F6 55 0 x = nI p by rw [e6]; simp (disch := omega) only [fs_ne]; rw [a55]; exact he55, show F6 56 0 x = nI bb by rw [e6]; simp (disch := omega) only [fs_ne]; rw [a56]; exact he56]
      refine ca_mod (s := so) (z := z) hp hso (by rw [e6]; simp (disch := omega) only [fs_ne]; rw [a52]; exact hx52) (by rw [e6]; simp (disch := omega) only [fs_ne]; rw [a59]; exact hz59) hz20 ⟨nI_in (by omega) (by omega), ?_⟩
      rw [show fs (fs (fs F6 58 0 (20 * so + z) (nI bb)) 59 0 so (nI (z + 1))) 54 0 p 1 40 0 15 = nI d by simp (disch := omega) only [fs_ne]; rw [e6]; simp (disch := omega) only [fs_ne]; rw [b15, q5.2.1]; exact ed, show fs (fs (fs F6 58 0 (20 * so + z) (nI bb)) 59 0 so (nI (z + 1))) 54 0 p 1 55 0 x = nI p by simp (disch := omega) only [fs_ne]; rw [e6]; simp (disch := omega) only [fs_ne]; rw [a55]; exact he55]
      refine wr_mod (b := b) (by simp (disch := omega) only [fs_ne]; rw [e6]; simp (disch := omega) only [fs_ne]; rw [b42]; exact hb42) (by omega) ?_
      rw [← nI_succ, e6]
      refine hK _ ⟨fun f hf htf => ?_, fun j h1 h2 h3 => ?_⟩ ⟨fun f hf => ?_, ?_⟩
      · refine fs_cong (fs_cong (fs_cong (fs_cong (fs_cong (fs_cong (fs_cong (fs_cong ?_)))))))
        rw [fs_fam (show f ≠ 15 by omega), fs_fam (show f ≠ 28 by omega), fs_fam (show f ≠ 29 by omega), fs_fam (show f ≠ 21 by omega), fs_fam (show f ≠ 24 by omega), fs_fam (show f ≠ 23 by omega), fs_fam (show f ≠ 22 by omega), fs_fam (show f ≠ 19 by omega)]
        exact a f hf htf
      · by_cases e : j = 42
        · subst e
          rw [fs_eq, fs_eq]
        · simp (disch := omega) only [fs_ne]
          exact hA.2 j h1 h2 h3
      · rw [fs_fam (show f ≠ 40 by omega), fs_fam (show f ≠ 70 by omega), fs_fam (show f ≠ 69 by omega), fs_fam (show f ≠ 68 by omega), fs_fam (show f ≠ 54 by omega), fs_fam (show f ≠ 59 by omega), fs_fam (show f ≠ 58 by omega), fs_fam (show f ≠ 57 by omega)]
      · simp (disch := omega) only [fs_ne]
  · refine ⟨F, hI, rfl, rfl, rfl, fun Fc q K hA hK => ?_, fun Fm q K hA hK => ?_⟩
    · have a16 := hA.1 16 (Or.inl (by decide)) rfl (by decide)
      have a19 := hA.1 19 (Or.inl (by decide)) rfl (by decide)
      unfold P_X2_openAllSealed_2 P_X2_openAllSealed_32
      rw [a16, ev, if_neg (nI_ge hex (by omega)), nI_clamp' (by omega), a19, if_neg he19, ← nI_succ]
      exact ⟨nI_in (by omega) (by omega), hK Fc hA (UpC.refl Fc)⟩
    · have a57 := hA.1 57 (Or.inl (by decide)) rfl
      have he57 : ¬ F 57 0 x = 0 := by rw [(q8.2 x (by omega)).2.2]; exact he19
      unfold P_X11_closes_7 P_X11_closes_64
      rw [hA.2 26 (by decide) (by decide) (by decide), q8.1, ev, if_neg (nI_ge hex (by omega)), nI_clamp' (by omega), a57, if_neg he57, ← nI_succ]
      exact ⟨nI_in (by omega) (by omega), hK Fm hA (UpM.refl Fm)⟩
set_option maxHeartbeats 1000000 in
set_option maxRecDepth 20000 in
theorem close_all {k v' : Nat} (hk : k < 512) (hv : v' ≤ 60) : ∀ (u x : Nat) (F : GF), x + u = v' → Inv k F → F 10 0 0 = nI 4 → F 16 0 3 = nI v' → ∃ F', Inv k F' ∧ F' 10 = F 10 ∧ F' 0 = F 0 ∧ (∀ (Fc : GF) (K : GF → Prop), Ac0 Fc F → (∀ Fc', Ac0 Fc' F' → UpC Fc' Fc → K Fc') → P_X2_openAllSealed_2 K (u + 1) Fc (nI x)) ∧ (∀ (Fm : GF) (K : GF → Prop), Am Fm F → (∀ Fm', Am Fm' F' → UpM Fm' Fm → K Fm') → P_X11_closes_7 K (u + 1) Fm (nI x)) := by
  intro u
  induction u with
  | zero =>
    intro x F hx h hg4 ev
    obtain rfl : x = v' := by omega
    have q8 := h.1.2.2.2.2.2.2.2.2.1
    refine ⟨F, h, rfl, rfl, fun Fc K hA hK => ?_, fun Fm K hA hK => ?_⟩
    · unfold P_X2_openAllSealed_2
      rw [hA.1 16 (Or.inl (by decide)) rfl (by decide), ev, if_pos (Int32.le_refl _)]
      exact hK Fc hA (UpC.refl Fc)
    · unfold P_X11_closes_7
      rw [hA.2 26 (by decide) (by decide) (by decide), q8.1, ev, if_pos (Int32.le_refl _)]
      exact hK Fm hA (UpM.refl Fm)
  | succ u ih =>
    intro x F hx h hg4 ev
    obtain ⟨F1, i1, f10, f16, f0, c1, m1⟩ := close_one h hk hg4 ev hv (show x < v' by omega)
    obtain ⟨F2, i2, g10, g0, c2, m2⟩ := ih (x + 1) F1 (by omega) i1 (by rw [f10]; exact hg4) (by rw [f16]; exact ev)
    refine ⟨F2, i2, g10.trans f10, g0.trans f0, fun Fc K hA hK => ?_, fun Fm K hA hK => ?_⟩
    · exact c1 Fc (u + 1) K hA (fun Fc' hA' hU' => c2 Fc' K hA' (fun Fc'' hA'' hU'' => hK Fc'' hA'' (hU''.trans hU')))
    · exact m1 Fm (u + 1) K hA (fun Fm' hA' hU' => m2 Fm' K hA' (fun Fm'' hA'' hU'' => hK Fm'' hA'' (hU''.trans hU')))
/-- a new day, a stage -/
def dyF (F : GF) (t g : Nat) : GF := fs (fs (fs (fs F 0 0 5 (nI t)) 40 0 0 (nI t)) 10 0 0 (nI g)) 40 0 14 (nI g)
set_option maxHeartbeats 1000000 in
set_option maxRecDepth 20000 in
theorem day_inv {k t g d g' : Nat} {F : GF} (h : Inv k F) (et : F 0 0 5 = nI t) (ht : t + 1 ≤ 2100) (eg : F 10 0 0 = nI g) (hg : g ≤ 5) (ed : F 10 0 1 = nI d) (hd : d ≤ 2000) (hg' : g' ≤ 5) (h1 : g' = 1 → g = 1 ∧ t + 1 + 7 ≤ d) (h2 : g' = 2 → (g = 1 ∨ g = 2) ∧ t + 1 < d) (h3 : g' = 3 → t + 1 = d) (h5 : g' = 5 → g = 5) : Inv k (dyF F (t + 1) g') := by
  obtain ⟨⟨q0, q1, q2, q3, q4, q5, q6, q7, q8, q9, q10, q11⟩, ⟨r0, r1, r2, r3, r4, r5, r6, r7, r8, r9, r10, r11, r12, r13, r14⟩, cb, lg⟩ := h
  have G : ∀ f, f ≠ 0 → f ≠ 10 → f ≠ 40 → dyF F (t + 1) g' f = F f := fun f a b c => by
    unfold dyF
    rw [fs_fam c, fs_fam b, fs_fam c, fs_fam a]
  have G0 : ∀ j, j ≠ 5 → dyF F (t + 1) g' 0 0 j = F 0 0 j := fun j hj => by
    unfold dyF
    simp (disch := omega) only [fs_ne]
  have G05 : dyF F (t + 1) g' 0 0 5 = nI (t + 1) := by
    unfold dyF
    simp (disch := omega) only [fs_ne, fs_eq]
  have G10 : ∀ j, j ≠ 0 → dyF F (t + 1) g' 10 0 j = F 10 0 j := fun j hj => by
    unfold dyF
    simp (disch := omega) only [fs_ne]
  have G100 : dyF F (t + 1) g' 10 0 0 = nI g' := by
    unfold dyF
    simp (disch := omega) only [fs_ne, fs_eq]
  have G40 : ∀ j, j ≠ 0 → j ≠ 14 → dyF F (t + 1) g' 40 0 j = F 40 0 j := fun j h1 h2 => by
    unfold dyF
    simp (disch := omega) only [fs_ne]
  have G400 : dyF F (t + 1) g' 40 0 0 = nI (t + 1) := by
    unfold dyF
    simp (disch := omega) only [fs_ne, fs_eq]
  have G4014 : dyF F (t + 1) g' 40 0 14 = nI g' := by
    unfold dyF
    simp (disch := omega) only [fs_ne, fs_eq]
  generalize dyF F (t + 1) g' = H at *
  have o : ∀ f, f ∈ [2, 6, 7, 8, 9, 11, 13, 14, 15, 16, 17, 18, 19, 21, 22, 23, 24, 25, 28, 29, 30, 32, 33, 38, 39, 41, 44, 45, 46, 47, 48, 49, 50, 51, 52, 53, 54, 55, 56, 57, 58, 59, 60, 61, 62, 63, 64, 68, 69, 70] → H f = F f := by
    intro f hf
    simp only [List.mem_cons, List.not_mem_nil, or_false] at hf
    exact G f (by omega) (by omega) (by omega)
  obtain ⟨t0, g0, d0, s, e, ht0, et0, hg0, eg0, hd0, ed0, hs, es, he, ee, hem, k1, k2, k3⟩ := r3
  have hgg : g0 = g := (nI_eq_iff (by omega) (by omega)).mp (eg0.symm.trans eg)
  have hdd : d0 = d := (nI_eq_iff (by omega) (by omega)).mp (ed0.symm.trans ed)
  refine ⟨⟨?_, ?_, ?_, ?_, ?_, ?_, ?_, ?_, ?_, ?_, ?_, ?_⟩, ⟨?_, ?_, ?_, ?_, ?_, ?_, ?_, ?_, ?_, ?_, ?_, ?_, ?_, ?_, ?_⟩, ?_, ?_⟩
  · exact G400.trans G05.symm
  · unfold t_bar; rw [o 41 (by decide), o 2 (by decide)]; exact q1
  · unfold t_st; rw [G40 6 (by decide) (by decide), o 6 (by decide), o 7 (by decide), o 8 (by decide), o 44 (by decide), o 45 (by decide)]; exact q2
  · unfold t_slip; rw [o 64 (by decide), o 9 (by decide)]; exact q3
  · unfold t_pe; rw [G40 9 (by decide) (by decide), G0 2 (by decide), o 46 (by decide), o 47 (by decide), o 33 (by decide)]; exact q4
  · refine ⟨G4014.trans G100.symm, ?_⟩
    rw [G40 15 (by decide) (by decide), G40 16 (by decide) (by decide), G40 17 (by decide) (by decide), G40 19 (by decide) (by decide), G10 1 (by decide), G10 2 (by decide), G10 3 (by decide), G10 4 (by decide)]
    exact q5.2
  · unfold t_seed; rw [o 51 (by decide), o 11 (by decide)]; exact q6
  · unfold t_roll; rw [o 52 (by decide), o 54 (by decide), o 13 (by decide), o 15 (by decide), o 53 (by decide), o 14 (by decide)]; exact q7
  · unfold t_env; rw [G40 26 (by decide) (by decide), o 16 (by decide), o 55 (by decide), o 56 (by decide), o 57 (by decide), o 17 (by decide), o 18 (by decide), o 19 (by decide)]; exact q8
  · unfold t_box; rw [o 59 (by decide), o 28 (by decide), o 62 (by decide), o 58 (by decide), o 29 (by decide), o 61 (by decide), o 30 (by decide)]; exact q9
  · unfold t_num; rw [o 60 (by decide), o 32 (by decide)]; exact q10
  · unfold t_book; rw [G40 42 (by decide) (by decide), o 21 (by decide), o 68 (by decide), o 69 (by decide), o 70 (by decide), o 22 (by decide), o 23 (by decide), o 24 (by decide)]; exact q11
  · unfold b_bar; rw [o 2 (by decide)]; exact r0
  · unfold b_st; rw [o 6 (by decide), o 7 (by decide)]; exact r1
  · unfold b_pe; rw [G0 2 (by decide)]; exact r2
  · exact ⟨t + 1, g', d0, s, e, ht, G05, hg', G100, hd0, by rw [G10 1 (by decide)]; exact ed0, hs, by rw [G10 2 (by decide)]; exact es, he, by rw [G10 4 (by decide)]; exact ee, by rw [o 6 (by decide)]; exact hem, fun q => by have := (h1 q).2; omega, fun q => by have := (h2 q).2; omega, fun q => by have := h3 q; omega⟩
  · unfold b_env; rw [o 16 (by decide), o 17 (by decide), o 18 (by decide)]; exact r4
  · unfold b_seal sealed; rw [o 16 (by decide), o 17 (by decide), o 19 (by decide), o 13 (by decide), o 15 (by decide)]; exact r5
  · unfold b_roll; rw [o 13 (by decide)]; exact r6
  · unfold b_box; rw [o 28 (by decide), o 63 (by decide), o 29 (by decide)]; exact r7
  · exact b_vot.fam (F := F) (o 15 (by decide)) (o 28 (by decide)) r8
  · unfold b_num; rw [o 32 (by decide)]; exact r9
  · intro z
    rw [G100] at z
    have hz : g' = 5 := (nI_eq_iff (a := g') (b := 5) (by omega) (by omega)).mp z
    have hz2 := h5 hz
    rw [G10 4 (by decide), o 28 (by decide)]
    exact r10 (by rw [eg, hz2]; rfl)
  · unfold b_book; rw [o 22 (by decide), o 23 (by decide), o 24 (by decide)]; exact r11
  · unfold b_seed; rw [o 11 (by decide)]; exact r12
  · unfold b_sb; rw [o 25 (by decide)]; exact r13
  · intro z
    rw [G100] at z
    rw [o 15 (by decide)]
    refine r14 ?_
    have hz : g = 1 ∨ g = 2 := by
      rcases z with z | z
      · exact Or.inl (h1 ((nI_eq_iff (a := g') (b := 1) (by omega) (by omega)).mp z)).1
      · exact (h2 ((nI_eq_iff (a := g') (b := 2) (by omega) (by omega)).mp z)).1
    rcases hz with hz | hz
    · exact Or.inl (by rw [eg, hz]; rfl)
    · exact Or.inr (by rw [eg, hz]; rfl)
  · exact c_book.fam (F := F) (o 16 (by decide)) (o 19 (by decide)) (o 21 (by decide)) cb
  · intro t2 e2 ht2
    obtain rfl : t2 = t + 1 := (nI_eq_iff (by omega) (by omega)).mp (e2.symm.trans G05)
    obtain ⟨N, n1, n2, n3, n4, n5, n6⟩ := lg t et (by omega)
    unfold c_log
    rw [o 38 (by decide), G40 13 (by decide) (by decide), o 39 (by decide), o 48 (by decide), o 49 (by decide), o 50 (by decide), o 33 (by decide), G0 2 (by decide)]
    refine ⟨N, n1, n2, n3, fun j hj => ?_, n5, n6⟩
    obtain ⟨a1, a2, ⟨dj, d1, d2, d3⟩, a4⟩ := n4 j hj
    exact ⟨a1, a2, ⟨dj, by omega, d2, d3⟩, a4⟩
theorem el_inv {k m : Nat} {F : GF} (h : Inv k F) (em : F 6 0 2 = nI m) (hm : m ≤ 5) (eg : F 10 0 0 = nI 2) : Inv k (fs (fs F 10 0 4 (nI m)) 40 0 19 (nI m)) := by
  obtain ⟨⟨q0, q1, q2, q3, q4, q5, q6, q7, q8, q9, q10, q11⟩, ⟨r0, r1, r2, r3, r4, r5, r6, r7, r8, r9, r10, r11, r12, r13, r14⟩, cb, lg⟩ := h
  refine ⟨⟨q0, q1, q2, q3, q4, ⟨q5.1, q5.2.1, q5.2.2.1, q5.2.2.2.1, ?_⟩, q6, q7, q8, q9, q10, q11⟩, ⟨r0, r1, r2, ?_, r4, r5, r6, r7, b_vot.fam (F := F) rfl rfl r8, r9, ?_, r11, r12, r13, r14⟩, c_book.fam (F := F) rfl rfl rfl cb, lg⟩
  · simp (disch := omega) only [fs_ne, fs_eq]
  · obtain ⟨t0, g0, d0, s, e, ht0, et0, hg0, eg0, hd0, ed0, hs, es, he, ee, hem, k1, k2, k3⟩ := r3
    exact ⟨t0, g0, d0, s, m, ht0, et0, hg0, eg0, hd0, ed0, hs, es, hm, by simp (disch := omega) only [fs_ne, fs_eq], ⟨m, Nat.le_refl m, hm, em⟩, k1, k2, k3⟩
  · intro z
    have z : F 10 0 0 = 5 := z
    rw [eg] at z
    exact absurd z (by decide)
theorem Ac0.day {Fc F : GF} {t g : Nat} (h : Ac0 Fc F) : Ac0 (fs Fc 0 0 5 (nI t)) (dyF F t g) := by
  refine ⟨fun f hf ht h10 => ?_, fun i j hj => ?_⟩
  · unfold dyF
    rw [fs_fam (show f ≠ 40 by omega), fs_fam h10, fs_fam (show f ≠ 40 by omega)]
    exact fs_cong (h.1 f hf ht h10)
  · unfold dyF
    simp (disch := omega) only [fs_ne]
    exact h.2 i j hj
theorem Ac0.stage {Fc F : GF} {v : Int32} (h : Ac0 Fc F) : Ac0 (fs Fc 10 0 0 v) F := by
  refine ⟨fun f hf ht h10 => ?_, fun i j hj => ?_⟩
  · rw [fs_fam h10]
    exact h.1 f hf ht h10
  · rw [fs_ne (by omega)]
    exact h.2 i j hj
theorem Am.day {Fm Fm1 F : GF} {t g : Nat} (h : Am Fm F) (h1 : ∀ f, f ≠ 40 → Fm1 f = Fm f) (h2 : ∀ j, j ≠ 0 → j ≠ 14 → Fm1 40 0 j = Fm 40 0 j) (h3 : Fm1 40 0 0 = nI t) (h4 : Fm1 40 0 14 = nI g) : Am Fm1 (dyF F t g) := by
  refine ⟨fun f hf ht => ?_, fun j a b c => ?_⟩
  · unfold dyF
    rw [fs_fam (show f ≠ 40 by omega), fs_fam (show f ≠ 10 by omega), fs_fam (show f ≠ 40 by omega), fs_fam (show f ≠ 0 by omega), h1 f (by omega)]
    exact h.1 f hf ht
  · unfold dyF
    by_cases e1 : j = 0
    · subst e1
      simp (disch := omega) only [fs_ne, fs_eq]
      exact h3
    · by_cases e2 : j = 14
      · subst e2
        simp (disch := omega) only [fs_ne, fs_eq]
        exact h4
      · simp (disch := omega) only [fs_ne]
        rw [h2 j e1 e2]
        exact h.2 j a b c
def UpD (F' F : GF) : Prop := ∀ f, 40 ≤ f ∨ f = 25 ∨ f = 2 → F' f = F f
set_option maxHeartbeats 1000000 in
set_option maxRecDepth 20000 in
theorem day_one {k t : Nat} {F : GF} (h : Inv k F) (hk : k < 512) (et : F 0 0 5 = nI t) (ht : t + 1 ≤ 2100) : ∃ F', Inv k F' ∧ F' 0 0 5 = nI (t + 1) ∧ (∀ (Fc : GF) (K : GF → Prop), Ac0 Fc F → Fc 10 0 0 = F 10 0 0 → (∀ Fc', Ac0 Fc' F' → Fc' 10 0 0 = F' 10 0 0 → UpD Fc' Fc → K Fc') → P_X10_beginDay (fs Fc 0 0 5 (nI (t + 1))) K) ∧ (∀ (Fm : GF) (q : Nat) (K : Int32 → GF → Prop) (x1 x3 : Int32), Am Fm F → ¬ x1 ≤ x3 → (∀ Fm', Am Fm' F' → UpM Fm' Fm → P_X11_advance_41 K q Fm' x1 (x3 + 1)) → P_X11_advance_41 K (q + 1) Fm x1 x3) := by
  have hI := h
  obtain ⟨⟨q0, q1, q2, q3, q4, q5, q6, q7, q8, q9, q10, q11⟩, ⟨r0, r1, r2, r3, r4, r5, r6, r7, r8, r9, r10, r11, r12, r13, r14⟩, cb, lg⟩ := h
  obtain ⟨t0, g, d, s, e, ht0, et0, hg, eg, hd, ed, hs, es, he, ee, hem, k1, k2, k3⟩ := r3
  obtain rfl : t0 = t := (nI_eq_iff (by omega) (by omega)).mp (et0.symm.trans et)
  have hup : ∀ (Fc : GF), UpD (fs Fc 0 0 5 (nI (t0 + 1))) Fc := fun Fc f hf => by rw [fs_fam (show f ≠ 0 by omega)]
  have E05 : ∀ g', dyF F (t0 + 1) g' 0 0 5 = nI (t0 + 1) := fun g' => by
    unfold dyF
    simp (disch := omega) only [fs_ne, fs_eq]
  have E10 : ∀ g', dyF F (t0 + 1) g' 10 0 0 = nI g' := fun g' => by
    unfold dyF
    simp (disch := omega) only [fs_ne, fs_eq]
  have E101 : ∀ g', dyF F (t0 + 1) g' 10 0 1 = nI d := fun g' => by
    unfold dyF
    simp (disch := omega) only [fs_ne]
    exact ed
  have EG : ∀ g' f, f ≠ 0 → f ≠ 10 → f ≠ 40 → dyF F (t0 + 1) g' f = F f := fun g' f a b c => by
    unfold dyF
    rw [fs_fam c, fs_fam b, fs_fam c, fs_fam a]
  -- the reference's day
  have MD : ∀ (Fm : GF), Am Fm F → Fm 40 0 0 + 1 = nI (t0 + 1) ∧ Fm 40 0 14 = nI g ∧ Fm 40 0 15 = nI d := fun Fm hA => by
    rw [hA.2 0 (by decide) (by decide) (by decide), hA.2 14 (by decide) (by decide) (by decide), hA.2 15 (by decide) (by decide) (by decide), q0, et, q5.1, q5.2.1, nI_succ]
    exact ⟨rfl, eg, ed⟩
  have stay : (¬ g = 1 ∨ ¬ t0 + 7 = d) → (¬ g = 2 ∨ ¬ t0 + 1 = d) → ¬ g = 3 → ∃ F', Inv k F' ∧ F' 0 0 5 = nI (t0 + 1) ∧ (∀ (Fc : GF) (K : GF → Prop), Ac0 Fc F → Fc 10 0 0 = F 10 0 0 → (∀ Fc', Ac0 Fc' F' → Fc' 10 0 0 = F' 10 0 0 → UpD Fc' Fc → K Fc') → P_X10_beginDay (fs Fc 0 0 5 (nI (t0 + 1))) K) ∧ (∀ (Fm : GF) (q : Nat) (K : Int32 → GF → Prop) (x1 x3 : Int32), Am Fm F → ¬ x1 ≤ x3 → (∀ Fm', Am Fm' F' → UpM Fm' Fm → P_X11_advance_41 K q Fm' x1 (x3 + 1)) → P_X11_advance_41 K (q + 1) Fm x1 x3) := by
    intro n1 n2 n3
    refine ⟨dyF F (t0 + 1) g, day_inv hI et ht eg hg ed hd hg (fun z => ⟨z, by have := k1 z; omega⟩) (fun z => ⟨Or.inr z, by have := k2 z; omega⟩) (fun z => absurd z n3) (fun z => z), E05 g, fun Fc K hA hst hK => ?_, fun Fm q K x1 x3 hA hx hK => ?_⟩
    · have s0 : fs Fc 0 0 5 (nI (t0 + 1)) 10 0 0 = nI g := by rw [fs_fam (by decide), hst]; exact eg
      have s1 : fs Fc 0 0 5 (nI (t0 + 1)) 10 0 1 = nI d := by rw [fs_fam (by decide), hA.2 0 1 (by decide)]; exact ed
      have s5 : fs Fc 0 0 5 (nI (t0 + 1)) 0 0 5 = nI (t0 + 1) := fs_eq _ _ _ _ _
      have fin : K (fs Fc 0 0 5 (nI (t0 + 1))) := hK _ hA.day (by rw [s0, E10]) (hup Fc)
      have c81 : P_X10_beginDay_81 K (fs Fc 0 0 5 (nI (t0 + 1))) := by
        unfold P_X10_beginDay_81
        rw [s0, if_neg (show ¬ nI g = 3 from fun z => n3 ((nI_eq_iff (a := g) (b := 3) (by omega) (by omega)).mp z))]
        exact fin
      have c45 : P_X10_beginDay_45 K (fs Fc 0 0 5 (nI (t0 + 1))) := by
        unfold P_X10_beginDay_45
        rw [s0, s5, s1]
        by_cases g2 : nI g = 2
        · rw [if_pos g2, if_neg (fun z => (n2.resolve_left (fun z2 => z2 ((nI_eq_iff (a := g) (b := 2) (by omega) (by omega)).mp g2))) ((nI_eq_iff (by omega) (by omega)).mp z))]
          exact c81
        · rw [if_neg g2]
          exact c81
      unfold P_X10_beginDay
      rw [s0, s5, s1]
      by_cases g1 : nI g = 1
      · have hg1 : g = 1 := (nI_eq_iff (a := g) (b := 1) (by omega) (by omega)).mp g1
        have h7 := k1 hg1
        rw [if_pos g1, li7, nI_sub (by omega), ← nI_succ, if_neg (fun z => by
          have := (nI_eq_iff (by omega) (by omega)).mp z
          rcases n1 with n1 | n1 <;> omega)]
        exact c45
      · rw [if_neg g1]
        exact c45
    · obtain ⟨e0, e14, e15⟩ := MD Fm hA
      unfold P_X11_advance_41 P_X11_advance_124
      rw [if_neg hx, e0]
      intro F8 e8
      have f0 : F8 40 0 0 = nI (t0 + 1) := by rw [e8, fs_eq]
      have f14 : F8 40 0 14 = nI g := by rw [e8, fs_ne (by omega)]; exact e14
      have f15 : F8 40 0 15 = nI d := by rw [e8, fs_ne (by omega)]; exact e15
      have fin : P_X11_advance_41 K q F8 x1 (x3 + 1) := hK F8 (hA.day (fun f hf => by rw [e8, fs_fam hf]) (fun j a b => by rw [e8, fs_ne (by omega)]) f0 f14) ⟨fun f hf => by rw [e8, fs_fam (show f ≠ 40 by omega)], by rw [e8, fs_ne (by omega)]⟩
      have c112 : P_X11_advance_112 (fun F a0 a1 => P_X11_advance_41 K q F a0 a1) K F8 x1 x3 := by
        unfold P_X11_advance_112 P_X11_advance_124
        rw [f14, if_neg (show ¬ nI g = 3 from fun z => n3 ((nI_eq_iff (a := g) (b := 3) (by omega) (by omega)).mp z))]
        exact fin
      have c85 : P_X11_advance_85 (fun F a0 a1 => P_X11_advance_41 K q F a0 a1) K F8 x1 x3 := by
        unfold P_X11_advance_85
        rw [f14, f0, f15]
        by_cases g2 : nI g = 2
        · rw [if_pos g2, if_neg (fun z => (n2.resolve_left (fun z2 => z2 ((nI_eq_iff (a := g) (b := 2) (by omega) (by omega)).mp g2))) ((nI_eq_iff (by omega) (by omega)).mp z))]
          exact c112
        · rw [if_neg g2]
          exact c112
      rw [f14, f0, f15]
      by_cases g1 : nI g = 1
      · have hg1 : g = 1 := (nI_eq_iff (a := g) (b := 1) (by omega) (by omega)).mp g1
        have h7 := k1 hg1
        rw [if_pos g1, li6, nI_sub (by omega), if_neg (fun z => by
          have := (nI_eq_iff (by omega) (by omega)).mp z
          rcases n1 with n1 | n1 <;> omega)]
        exact c85
      · rw [if_neg g1]
        exact c85
  by_cases g1 : g = 1
  · by_cases hr : t0 + 7 = d
    · -- the roll is made
      obtain ⟨m, hm, em, hcr⟩ := r1
      obtain ⟨n, hn, en⟩ := r2
      have hlog := lg t0 et (by omega)
      obtain ⟨N, hN, eN⟩ := hlog.n (by omega)
      have hi1 := day_inv (g' := 2) hI et ht eg hg ed hd (by omega) (fun z => absurd z (by decide)) (fun _ => ⟨Or.inl g1, by omega⟩) (fun z => absurd z (by decide)) (fun z => absurd z (by decide))
      have hi2 := el_inv (m := m) hi1 (by rw [EG 2 6 (by decide) (by decide) (by decide)]; exact em) hm (E10 2)
      have hdw : ∀ p, p < n → ∃ x, x < 36 ∧ dwl (F 48 0) (F 49 0) (F 50 0) (nI p) (nI (d - 7)) N = nI x := by
        intro p hp
        obtain ⟨N', n1, n2, n3, n4, n5, n6⟩ := hlog
        obtain rfl : N' = N := (nI_eq_iff (by omega) (by omega)).mp (n2.symm.trans eN)
        obtain ⟨j, j1, j2, j3⟩ := dwl_val (wv := F 48 0) (dv := F 49 0) (cv := F 50 0) (x := nI p) (T := nI (d - 7)) N' (fun j hj => by
          obtain ⟨-, -, ⟨dj, d1, d2, d3⟩, -⟩ := n4 j hj
          rw [d2]
          exact nI_nlt (by omega) (by omega)) (n6 p (by omega) (by rw [en]; exact nI_lt hp (by omega)))
        obtain ⟨-, ⟨c, c1, c2, c3⟩, -⟩ := n4 j j1
        exact ⟨c, c1, by rw [j3]; exact c2⟩
      have W : ∀ f, f ≠ 10 → f ≠ 40 → fs (fs (dyF F (t0 + 1) 2) 10 0 4 (nI m)) 40 0 19 (nI m) f = dyF F (t0 + 1) 2 f := fun f a b => by rw [fs_fam b, fs_fam a]
      have W10 : ∀ i j, ¬ (i = 0 ∧ j = 4) → fs (fs (dyF F (t0 + 1) 2) 10 0 4 (nI m)) 40 0 19 (nI m) 10 i j = dyF F (t0 + 1) 2 10 i j := fun i j hj => by
        simp (disch := omega) only [fs_ne]
      have W104 : fs (fs (dyF F (t0 + 1) 2) 10 0 4 (nI m)) 40 0 19 (nI m) 10 0 4 = nI m := by
        simp (disch := omega) only [fs_ne, fs_eq]
      obtain ⟨F', i', f', c', m'⟩ := roll_all hk hm hn (show 7 ≤ d by omega) hd (show N ≤ 512 by omega) n 0 _ (by omega) hi2 (by rw [W 6 (by decide) (by decide), EG 2 6 (by decide) (by decide) (by decide)]; exact em) W104 (by
          rw [W 0 (by decide) (by decide)]
          unfold dyF
          simp (disch := omega) only [fs_ne]
          exact en) (by rw [W10 0 1 (by decide)]; exact E101 2) (by rw [W 38 (by decide) (by decide), EG 2 38 (by decide) (by decide) (by decide)]; exact eN) (by rw [W 48 (by decide) (by decide), W 49 (by decide) (by decide), W 50 (by decide) (by decide), EG 2 48 (by decide) (by decide) (by decide), EG 2 49 (by decide) (by decide) (by decide), EG 2 50 (by decide) (by decide) (by decide)]; exact hdw)
      refine ⟨F', i', by rw [f' 0 (by decide) (by decide) (by decide) (by decide), W 0 (by decide) (by decide)]; exact E05 2, fun Fc K hA hst hK => ?_, fun Fm q K x1 x3 hA hx hK => ?_⟩
      · have s0 : fs Fc 0 0 5 (nI (t0 + 1)) 10 0 0 = nI g := by rw [fs_fam (by decide), hst]; exact eg
        have s1 : fs Fc 0 0 5 (nI (t0 + 1)) 10 0 1 = nI d := by rw [fs_fam (by decide), hA.2 0 1 (by decide)]; exact ed
        have s5 : fs Fc 0 0 5 (nI (t0 + 1)) 0 0 5 = nI (t0 + 1) := fs_eq _ _ _ _ _
        have s6 : fs Fc 0 0 5 (nI (t0 + 1)) 6 0 2 = nI m := by rw [fs_fam (by decide), hA.1 6 (Or.inl (by decide)) rfl (by decide)]; exact em
        unfold P_X10_beginDay P_X10_makeRoll
        rw [s0, s5, s1, s6, if_pos (show nI g = 1 by rw [g1]; rfl), li7, nI_sub (by omega), ← nI_succ, if_pos (by rw [show d - 7 + 1 = t0 + 1 by omega])]
        intro F2 e2
        rw [show F2 10 0 1 = nI d by rw [e2, fs_ne (by omega)]; exact s1, nI_sub (by omega)]
        refine ⟨n + 1, c' F2 _ ⟨fun f hf htf h10 => ?_, fun i j hj => ?_⟩ (fun Fc' hA' hU' => ?_)⟩
        · rw [e2, fs_fam h10, W f h10 (by omega)]
          exact hA.day.1 f hf htf h10
        · by_cases e4 : i = 0 ∧ j = 4
          · obtain ⟨e4, e5⟩ := e4
            subst e4 e5
            rw [e2, fs_eq, W104]
          · rw [e2, fs_ne (by omega), W10 i j e4]
            exact hA.day.2 i j hj
        · intro F13 e13
          refine hK F13 (by rw [e13]; exact hA'.stage) ?_ (fun f hf => ?_)
          · rw [e13, fs_eq, f' 10 (by decide) (by decide) (by decide) (by decide), W10 0 0 (by decide), E10]
            rfl
          · rw [e13, fs_fam (show f ≠ 10 by omega), hU'.1 f hf, e2, fs_fam (show f ≠ 10 by omega)]
            exact hup Fc f hf
      · obtain ⟨e0, e14, e15⟩ := MD Fm hA
        unfold P_X11_advance_41 P_X11_advance_124
        rw [if_neg hx, e0]
        intro F8 e8
        have f0 : F8 40 0 0 = nI (t0 + 1) := by rw [e8, fs_eq]
        have f14 : F8 40 0 14 = nI g := by rw [e8, fs_ne (by omega)]; exact e14
        have f15 : F8 40 0 15 = nI d := by rw [e8, fs_ne (by omega)]; exact e15
        have f6 : F8 40 0 6 = nI m := by rw [e8, fs_ne (by omega), hA.2 6 (by decide) (by decide) (by decide), q2.1]; exact em
        rw [f14, f0, f15, if_pos (show nI g = 1 by rw [g1]; rfl), li6, nI_sub (by omega), if_pos (by rw [show d - 6 = t0 + 1 by omega])]
        unfold P_X11_makesRoll
        intro F1 e1 F2 e2
        have h16 : F1 40 0 6 = nI m := by rw [e1, fs_ne (by omega)]; exact f6
        rw [h16] at e2
        refine ⟨n + 1, m' F2 _ ⟨fun f hf htf => ?_, fun j a b c => ?_⟩ (fun Fm' hA' hU' => hK Fm' hA' ⟨fun f hf => ?_, ?_⟩)⟩
        · rw [e2, fs_fam (show f ≠ 40 by omega), e1, fs_fam (show f ≠ 40 by omega), e8, fs_fam (show f ≠ 40 by omega), W f (by omega) (by omega), EG 2 f (by omega) (by omega) (by omega)]
          exact hA.1 f hf htf
        · by_cases e19 : j = 19
          · subst e19
            rw [e2, fs_eq, fs_eq]
          · have hF1 : Am F1 (dyF F (t0 + 1) 2) := hA.day (fun f hf => by rw [e1, fs_fam hf, e8, fs_fam hf]) (fun j a b => by rw [e1, fs_ne (by omega), e8, fs_ne (by omega)]) (by rw [e1, fs_ne (by omega)]; exact f0) (by rw [e1, fs_eq]; rfl)
            rw [e2, fs_ne (by omega), fs_ne (by omega), fs_ne (by omega)]
            exact hF1.2 j a b c
        · rw [hU'.1 f hf, e2, fs_fam (show f ≠ 40 by omega), e1, fs_fam (show f ≠ 40 by omega), e8, fs_fam (show f ≠ 40 by omega)]
        · rw [hU'.2, e2, fs_ne (by omega), e1, fs_ne (by omega), e8, fs_ne (by omega)]
    · exact stay (Or.inr hr) (Or.inl (by omega)) (by omega)
  · by_cases g2 : g = 2
    · by_cases hv : t0 + 1 = d
      · -- the day of the election
        refine ⟨dyF F (t0 + 1) 3, day_inv hI et ht eg hg ed hd (by omega) (fun z => absurd z (by decide)) (fun z => absurd z (by decide)) (fun _ => hv) (fun z => absurd z (by decide)), E05 3, fun Fc K hA hst hK => ?_, fun Fm q K x1 x3 hA hx hK => ?_⟩
        · have s0 : fs Fc 0 0 5 (nI (t0 + 1)) 10 0 0 = nI g := by rw [fs_fam (by decide), hst]; exact eg
          have s1 : fs Fc 0 0 5 (nI (t0 + 1)) 10 0 1 = nI d := by rw [fs_fam (by decide), hA.2 0 1 (by decide)]; exact ed
          have s5 : fs Fc 0 0 5 (nI (t0 + 1)) 0 0 5 = nI (t0 + 1) := fs_eq _ _ _ _ _
          unfold P_X10_beginDay P_X10_beginDay_45
          rw [s0, s5, s1, if_neg (show ¬ nI g = 1 from fun z => g1 ((nI_eq_iff (a := g) (b := 1) (by omega) (by omega)).mp z)), if_pos (show nI g = 2 by rw [g2]; rfl), if_pos (by rw [hv])]
          intro F9 e9
          refine hK F9 (by rw [e9]; exact hA.day.stage) (by rw [e9, fs_eq, E10]; rfl) (fun f hf => by rw [e9, fs_fam (show f ≠ 10 by omega)]; exact hup Fc f hf)
        · obtain ⟨e0, e14, e15⟩ := MD Fm hA
          unfold P_X11_advance_41 P_X11_advance_85 P_X11_advance_124
          rw [if_neg hx, e0]
          intro F8 e8
          have f0 : F8 40 0 0 = nI (t0 + 1) := by rw [e8, fs_eq]
          have f14 : F8 40 0 14 = nI g := by rw [e8, fs_ne (by omega)]; exact e14
          have f15 : F8 40 0 15 = nI d := by rw [e8, fs_ne (by omega)]; exact e15
          rw [f14, f0, f15, if_neg (show ¬ nI g = 1 from fun z => g1 ((nI_eq_iff (a := g) (b := 1) (by omega) (by omega)).mp z)), if_pos (show nI g = 2 by rw [g2]; rfl), if_pos (by rw [hv])]
          intro F15 e15'
          exact hK F15 (hA.day (fun f hf => by rw [e15', fs_fam hf, e8, fs_fam hf]) (fun j a b => by rw [e15', fs_ne (by omega), e8, fs_ne (by omega)]) (by rw [e15', fs_ne (by omega)]; exact f0) (by rw [e15', fs_eq]; rfl)) ⟨fun f hf => by rw [e15', fs_fam (show f ≠ 40 by omega), e8, fs_fam (show f ≠ 40 by omega)], by rw [e15', fs_ne (by omega), e8, fs_ne (by omega)]⟩
      · exact stay (Or.inl g1) (Or.inr hv) (by omega)
    · by_cases g3 : g = 3
      · -- the day ends
        have htd := k3 g3
        have hi1 := day_inv (g' := 4) hI et ht eg hg ed hd (by omega) (fun z => absurd z (by decide)) (fun z => absurd z (by decide)) (fun z => absurd z (by decide)) (fun z => absurd z (by decide))
        obtain ⟨v, hv, ev⟩ := r4.1
        obtain ⟨F', i', f10, f0', c', m'⟩ := close_all hk hv v 0 _ (by omega) hi1 (E10 4) (by rw [EG 4 16 (by decide) (by decide) (by decide)]; exact ev)
        refine ⟨F', i', by rw [f0']; exact E05 4, fun Fc K hA hst hK => ?_, fun Fm q K x1 x3 hA hx hK => ?_⟩
        · have s0 : fs Fc 0 0 5 (nI (t0 + 1)) 10 0 0 = nI g := by rw [fs_fam (by decide), hst]; exact eg
          have s1 : fs Fc 0 0 5 (nI (t0 + 1)) 10 0 1 = nI d := by rw [fs_fam (by decide), hA.2 0 1 (by decide)]; exact ed
          have s5 : fs Fc 0 0 5 (nI (t0 + 1)) 0 0 5 = nI (t0 + 1) := fs_eq _ _ _ _ _
          unfold P_X10_beginDay P_X10_beginDay_45 P_X10_beginDay_81 P_X2_openAllSealed
          rw [s0, s5, s1, if_neg (show ¬ nI g = 1 from fun z => g1 ((nI_eq_iff (a := g) (b := 1) (by omega) (by omega)).mp z)), if_neg (show ¬ nI g = 2 from fun z => g2 ((nI_eq_iff (a := g) (b := 2) (by omega) (by omega)).mp z)), if_pos (show nI g = 3 by rw [g3]; rfl), ← nI_succ, if_pos (by rw [htd])]
          refine ⟨v + 1, c' _ _ hA.day (fun Fc' hA' hU' => ?_)⟩
          intro F7 e7
          refine hK F7 (by rw [e7]; exact hA'.stage) (by rw [e7, fs_eq, f10, E10]; rfl) (fun f hf => by rw [e7, fs_fam (show f ≠ 10 by omega), hU'.1 f hf]; exact hup Fc f hf)
        · obtain ⟨e0, e14, e15⟩ := MD Fm hA
          unfold P_X11_advance_41 P_X11_advance_85 P_X11_advance_112 P_X11_advance_124
          rw [if_neg hx, e0]
          intro F8 e8
          have f0 : F8 40 0 0 = nI (t0 + 1) := by rw [e8, fs_eq]
          have f14 : F8 40 0 14 = nI g := by rw [e8, fs_ne (by omega)]; exact e14
          rw [f14, if_neg (show ¬ nI g = 1 from fun z => g1 ((nI_eq_iff (a := g) (b := 1) (by omega) (by omega)).mp z)), if_neg (show ¬ nI g = 2 from fun z => g2 ((nI_eq_iff (a := g) (b := 2) (by omega) (by omega)).mp z)), if_pos (show nI g = 3 by rw [g3]; rfl)]
          unfold P_X11_closes
          intro F1 e1
          refine ⟨v + 1, m' F1 _ (hA.day (fun f hf => by rw [e1, fs_fam hf, e8, fs_fam hf]) (fun j a b => by rw [e1, fs_ne (by omega), e8, fs_ne (by omega)]) (by rw [e1, fs_ne (by omega)]; exact f0) (by rw [e1, fs_eq]; rfl)) (fun Fm' hA' hU' => hK Fm' hA' ⟨fun f hf => ?_, ?_⟩)⟩
          · rw [hU'.1 f hf, e1, fs_fam (show f ≠ 40 by omega), e8, fs_fam (show f ≠ 40 by omega)]
          · rw [hU'.2, e1, fs_ne (by omega), e8, fs_ne (by omega)]
      · exact stay (Or.inl g1) (Or.inl g2) g3
set_option maxHeartbeats 1000000 in
set_option maxRecDepth 20000 in
theorem days_all {k y : Nat} (hk : k < 512) (hy : y ≤ 100) : ∀ (u j t : Nat) (F : GF), j + u = y → Inv k F → F 0 0 5 = nI t → t + u ≤ 2100 → ∃ F', Inv k F' ∧ F' 0 0 5 = nI (t + u) ∧ (∀ (Fc : GF) (K : Int32 → GF → Prop) (X : String → GF → Prop), Ac0 Fc F → Fc 10 0 0 = F 10 0 0 → (∀ Fc', Ac0 Fc' F' → Fc' 10 0 0 = F' 10 0 0 → UpD Fc' Fc → K (nI (t + u)) Fc') → P_X10_advance_31 K X (u + 1) Fc (nI y) (nI j)) ∧ (∀ (Fm : GF) (K : Int32 → GF → Prop), Am Fm F → (∀ Fm', Am Fm' F' → UpM Fm' Fm → K (nI (t + u)) Fm') → P_X11_advance_41 K (u + 1) Fm (nI y) (nI j)) := by
  intro u
  induction u with
  | zero =>
    intro j t F hj h et ht
    obtain rfl : j = y := by omega
    have q0 : t_now F := h.1.1
    refine ⟨F, h, et, fun Fc K X hA hst hK => ?_, fun Fm K hA hK => ?_⟩
    · unfold P_X10_advance_31
      rw [if_pos (Int32.le_refl _), hA.1 0 (Or.inl (by decide)) rfl (by decide), et]
      exact hK Fc hA hst (fun _ _ => rfl)
    · unfold P_X11_advance_41
      rw [if_pos (Int32.le_refl _), hA.2 0 (by decide) (by decide) (by decide), q0, et]
      exact hK Fm hA (UpM.refl Fm)
  | succ u ih =>
    intro j t F hj h et ht
    obtain ⟨F1, i1, e1, c1, m1⟩ := day_one h hk et (by omega)
    obtain ⟨F2, i2, e2, c2, m2⟩ := ih (j + 1) (t + 1) F1 (by omega) i1 e1 (by omega)
    have ett : t + 1 + u = t + (u + 1) := by omega
    rw [ett] at e2 c2 m2
    refine ⟨F2, i2, e2, fun Fc K X hA hst hK => ?_, fun Fm K hA hK => ?_⟩
    · unfold P_X10_advance_31
      rw [if_neg (nI_ge (by omega) (by omega)), hA.1 0 (Or.inl (by decide)) rfl (by decide), et, ← nI_succ]
      intro F5 e5
      rw [e5]
      refine c1 Fc _ hA hst (fun Fc' hA' hst' hU' => ?_)
      rw [← nI_succ]
      exact c2 Fc' K X hA' hst' (fun Fc'' hA'' hst'' hU'' => hK Fc'' hA'' hst'' (fun f hf => (hU'' f hf).trans (hU' f hf)))
    · refine m1 Fm (u + 1) K _ _ hA (nI_ge (by omega) (by omega)) (fun Fm' hA' hU' => ?_)
      rw [← nI_succ]
      exact m2 Fm' K hA' (fun Fm'' hA'' hU'' => hK Fm'' hA'' (hU''.trans hU'))
theorem adv_ok {k y t : Nat} {F : GF} {a2 a3 : Int32} (h : Inv k F) (hk : k < 512) (et : F 0 0 5 = nI t) (hy1 : 1 ≤ y) (hy : y ≤ 100) (ht : t + y ≤ 2100) : PL_10 (nI y) a2 a3 (Inv (k + 1)) F := by
  obtain ⟨F', i', e', c', m'⟩ := days_all hk hy y 0 t F (by omega) h et ht
  have q0 : t_now F := h.1.1
  have hsb : b_sb F := h.2.1.2.2.2.2.2.2.2.2.2.2.2.2.2.1
  unfold PL_10 P_L_advance P_X10_advance P_X10_needRange
  rw [if_neg (show ¬ nI y < 1 from nI_nlt (b := 1) hy1 (by omega)), if_pos (show nI y ≤ 100 from nI_le (b := 100) hy (by omega))]
  show if F 0 0 5 + nI y ≤ 2100 then _ else _
  rw [et, nI_add, if_pos (show nI (t + y) ≤ 2100 from nI_le (b := 2100) ht (by omega))]
  refine ⟨y + 1, c' F _ _ ⟨fun _ _ _ _ => rfl, fun _ _ _ => rfl⟩ rfl (fun Fc' a1 a2' a3' => ?_)⟩
  refine ⟨by unfold vp_in; decide, fun F4 e4 => ?_⟩
  rw [show (0 : Int32).toNatClampNeg = 0 by decide] at e4
  have f40 : F4 40 = F 40 := by rw [e4, fs_fam (by decide)]; exact a3' 40 (Or.inl (Nat.le_refl _))
  show P_X11_advance F4 (nI y) _
  unfold P_X11_advance P_X11_in
  rw [if_neg (show ¬ nI y < 1 from nI_nlt (b := 1) hy1 (by omega)), if_neg (show ¬ (100 : Int32) < nI y from nI_nlt (a := 100) hy (by omega))]
  show if (1 : Int32) = 0 then _ else _
  rw [if_neg (show ¬ (1 : Int32) = 0 by decide), f40, q0, et, nI_add, if_neg (show ¬ (2100 : Int32) < nI (t + y) from nI_nlt (a := 2100) ht (by omega))]
  unfold P_X11_advance_31 P_X11_asked_ P_X11_asked__18
  rw [if_neg (show ¬ (1 : Int32) = 0 by decide), if_neg (show ¬ (1 : Int32) = 0 by decide)]
  intro G eG
  rw [show G 40 0 43 = 0 by rw [eG, fs_eq], if_pos (show (0 : Int32) = 0 from rfl)]
  show if (1 : Int32) = 0 then _ else _
  rw [if_neg (show ¬ (1 : Int32) = 0 by decide)]
  have gF : ∀ f, f ≠ 40 → f ≠ 79 → G f = Fc' f := fun f h1 h2 => by rw [eG, fs_fam h1, e4, fs_fam h2]
  refine ⟨y + 1, m' G _ ⟨fun f hf htf => ?_, fun j b1 b2 b3 => ?_⟩ (fun Fm' b1 b2 => ?_)⟩
  · have h79 : f ≠ 79 := fun z => by rw [z] at htf; cases htf
    rw [gF f (by omega) h79]
    rcases hf with hf | hf
    · exact a3' f (Or.inl (by omega))
    · exact a3' f (Or.inr (Or.inr hf))
  · rw [eG, fs_ne (by omega), f40]
  · unfold P_X11_thrown
    have h43 : Fm' 40 0 43 = 0 := by rw [b2.2, eG, fs_eq]
    have h79 : Fm' 79 0 0 = nI (t + y) := by rw [b2.1 79 (Or.inr rfl), eG, fs_fam (by decide), e4, fs_eq]
    show if Fm' 40 0 43 = 0 then _ else _
    rw [if_pos h43, if_pos (show (0 : Int32) = 0 from rfl), show (0 : Int32).toNatClampNeg = 0 by decide, if_pos h79]
    refine ⟨by unfold vp_in; decide, Inv.end i' ⟨fun f hf => ?_, fun j c1 c2 c3 => b1.2 j c1 c2 c3, fun _ => ?_⟩⟩
    · by_cases hlt : f < 40
      · rw [b2.1 f (Or.inl hlt), gF f (by omega) (by omega)]
        by_cases h10 : f = 10
        · subst h10
          funext i j
          by_cases e0 : i = 0 ∧ j = 0
          · obtain ⟨e0, e1⟩ := e0
            subst e0 e1
            exact a2'
          · exact a1.2 i j e0
        · exact a1.1 f (Or.inl hlt) hf h10
      · have h40 : f ≠ 40 := fun z => by rw [z] at hf; cases hf
        exact b1.1 f (Or.inl (by omega)) hf
    · obtain ⟨s1, s2⟩ := hsb
      have e25 : Fm' 25 = F 25 := by rw [b2.1 25 (Or.inl (by decide)), gF 25 (by decide) (by decide)]; exact a3' 25 (Or.inr (Or.inl rfl))
      unfold b_sb
      rw [e25]
      exact ⟨s1, s2⟩
set_option maxHeartbeats 1000000 in
set_option maxRecDepth 20000 in
theorem m10 {k : Nat} {F : GF} (hk : k < 512) (h : Inv k F) (a1 a2 a3 : Int32) : PL_10 a1 a2 a3 (Inv (k + 1)) F := by
  have hI := h
  obtain ⟨⟨q0, q1, q2, q3, q4, q5, q6, q7, q8, q9, q10, q11⟩, ⟨r0, r1, r2, r3, r4, r5, r6, r7, r8, r9, r10, r11, r12, r13, r14⟩, cb, lg⟩ := h
  have R1 := r1
  have R2 := r2
  have R3 := r3
  have R4 := r4
  obtain ⟨m, hm, em, hmc⟩ := r1
  have em' : F 40 0 6 = nI m := q2.1.trans em
  obtain ⟨n, hn, en⟩ := r2
  have en' : F 40 0 9 = nI n := q4.1.trans en
  obtain ⟨t, g, d, s, e, ht, et, hg, eg, hd, ed, hs, es, he, ee, hem, hg1, hg2, hg3⟩ := r3
  have et' : F 40 0 0 = nI t := q0.trans et
  have eg' : F 40 0 14 = nI g := q5.1.trans eg
  have ed' : F 40 0 15 = nI d := q5.2.1.trans ed
  have es' : F 40 0 16 = nI s := q5.2.2.1.trans es
  have eo' : F 40 0 17 = F 10 0 3 := q5.2.2.2.1
  have ee' : F 40 0 19 = nI e := q5.2.2.2.2.trans ee
  obtain ⟨⟨v, hv, ev⟩, hev⟩ := r4
  have ev' : F 40 0 26 = nI v := q8.1.trans ev
  rcases int_cases a1 with hneg_y | ⟨y, hbig_y, rfl⟩
  · first
      | exfalso; omega
      | simp (disch := first | omega | assumption) only [PL_10, P_L_advance, P_X10_advance, P_X10_needRange, P_X11_advance, P_X11_advance_30, P_X11_advance_31, P_X11_in, P_X11_asked, P_X11_asked_10, P_X11_asked_, P_X11_asked__18, P_X11_asked__, P_X11_asked___26, P_X11_thrown, P_X11_told, ↓reduceIte, ↓forall_eq, ↓hold_ca, ↓hold_cam, ↓hold_cl, ↓hold_se, ↓hold_sem, ↓hold_st, ↓hold_wr, ↓hold_wrm, li0, li1, li2, li3, li4, li5, li6, li7, li8, li10, li20, li30, li35, li36, li60, li72, li100, li572, li2000, li2100, li9999, nI_lt_t, nI_lt_f, nI_le_t, nI_le_f, nI_eq_t, nI_eq_f, nI_eq_neg2, neg_eq_nI2, neg_lt2, neg_le2, nI_lt_neg2, nI_le_neg2, pred_t, pred_f, nI_clamp', vp_t, lt0_t, lt0_le, lt0_lt, lt0_eq, if_true, if_false, ite_true, ite_false, true_and, and_true, false_and, and_false, false_or, or_false, true_or, or_true, eq_self, fs_ne, fs_eq, fs_eq', st12, st13, st21, st23, st31, st32, not_true_eq_false, not_false_eq_true, em, em', en, en', et, et', eg, eg', ed, ed', es, es', eo', ee, ee', ev, ev', nI_add]
        refine hI.end ?_
        repeat (first | exact Sm.refl _ | refine Sm.fs40 ?_ _ _ (by decide) | refine Sm.fsT ?_ _ _ _ _ rfl (by decide) (by decide))
  · by_cases hlt_y : y < 101
    · by_cases y0 : y = 0
      · simp (disch := first | omega | assumption) only [PL_10, P_L_advance, P_X10_advance, P_X10_needRange, P_X11_advance, P_X11_advance_30, P_X11_advance_31, P_X11_in, P_X11_asked, P_X11_asked_10, P_X11_asked_, P_X11_asked__18, P_X11_asked__, P_X11_asked___26, P_X11_thrown, P_X11_told, ↓reduceIte, ↓forall_eq, ↓hold_ca, ↓hold_cam, ↓hold_cl, ↓hold_se, ↓hold_sem, ↓hold_st, ↓hold_wr, ↓hold_wrm, li0, li1, li2, li3, li4, li5, li6, li7, li8, li10, li20, li30, li35, li36, li60, li72, li100, li572, li2000, li2100, li9999, nI_lt_t, nI_lt_f, nI_le_t, nI_le_f, nI_eq_t, nI_eq_f, nI_eq_neg2, neg_eq_nI2, neg_lt2, neg_le2, nI_lt_neg2, nI_le_neg2, pred_t, pred_f, nI_clamp', vp_t, lt0_t, lt0_le, lt0_lt, lt0_eq, if_true, if_false, ite_true, ite_false, true_and, and_true, false_and, and_false, false_or, or_false, true_or, or_true, eq_self, fs_ne, fs_eq, fs_eq', st12, st13, st21, st23, st31, st32, not_true_eq_false, not_false_eq_true, em, em', en, en', et, et', eg, eg', ed, ed', es, es', eo', ee, ee', ev, ev', nI_add]
        refine hI.end ?_
        repeat (first | exact Sm.refl _ | refine Sm.fs40 ?_ _ _ (by decide) | refine Sm.fsT ?_ _ _ _ _ rfl (by decide) (by decide))
      · by_cases hty : t + y ≤ 2100
        · exact adv_ok hI hk et (by omega) (by omega) hty
        · simp (disch := first | omega | assumption) only [PL_10, P_L_advance, P_X10_advance, P_X10_needRange, P_X11_advance, P_X11_advance_30, P_X11_advance_31, P_X11_in, P_X11_asked, P_X11_asked_10, P_X11_asked_, P_X11_asked__18, P_X11_asked__, P_X11_asked___26, P_X11_thrown, P_X11_told, ↓reduceIte, ↓forall_eq, ↓hold_ca, ↓hold_cam, ↓hold_cl, ↓hold_se, ↓hold_sem, ↓hold_st, ↓hold_wr, ↓hold_wrm, li0, li1, li2, li3, li4, li5, li6, li7, li8, li10, li20, li30, li35, li36, li60, li72, li100, li572, li2000, li2100, li9999, nI_lt_t, nI_lt_f, nI_le_t, nI_le_f, nI_eq_t, nI_eq_f, nI_eq_neg2, neg_eq_nI2, neg_lt2, neg_le2, nI_lt_neg2, nI_le_neg2, pred_t, pred_f, nI_clamp', vp_t, lt0_t, lt0_le, lt0_lt, lt0_eq, if_true, if_false, ite_true, ite_false, true_and, and_true, false_and, and_false, false_or, or_false, true_or, or_true, eq_self, fs_ne, fs_eq, fs_eq', st12, st13, st21, st23, st31, st32, not_true_eq_false, not_false_eq_true, em, em', en, en', et, et', eg, eg', ed, ed', es, es', eo', ee, ee', ev, ev', nI_add]
          refine hI.end ?_
          repeat (first | exact Sm.refl _ | refine Sm.fs40 ?_ _ _ (by decide) | refine Sm.fsT ?_ _ _ _ _ rfl (by decide) (by decide))
    · first
        | exfalso; omega
        | simp (disch := first | omega | assumption) only [PL_10, P_L_advance, P_X10_advance, P_X10_needRange, P_X11_advance, P_X11_advance_30, P_X11_advance_31, P_X11_in, P_X11_asked, P_X11_asked_10, P_X11_asked_, P_X11_asked__18, P_X11_asked__, P_X11_asked___26, P_X11_thrown, P_X11_told, ↓reduceIte, ↓forall_eq, ↓hold_ca, ↓hold_cam, ↓hold_cl, ↓hold_se, ↓hold_sem, ↓hold_st, ↓hold_wr, ↓hold_wrm, li0, li1, li2, li3, li4, li5, li6, li7, li8, li10, li20, li30, li35, li36, li60, li72, li100, li572, li2000, li2100, li9999, nI_lt_t, nI_lt_f, nI_le_t, nI_le_f, nI_eq_t, nI_eq_f, nI_eq_neg2, neg_eq_nI2, neg_lt2, neg_le2, nI_lt_neg2, nI_le_neg2, pred_t, pred_f, nI_clamp', vp_t, lt0_t, lt0_le, lt0_lt, lt0_eq, if_true, if_false, ite_true, ite_false, true_and, and_true, false_and, and_false, false_or, or_false, true_or, or_true, eq_self, fs_ne, fs_eq, fs_eq', st12, st13, st21, st23, st31, st32, not_true_eq_false, not_false_eq_true, em, em', en, en', et, et', eg, eg', ed, ed', es, es', eo', ee, ee', ev, ev', nI_add]
          refine hI.end ?_
          repeat (first | exact Sm.refl _ | refine Sm.fs40 ?_ _ _ (by decide) | refine Sm.fsT ?_ _ _ _ _ rfl (by decide) (by decide))
