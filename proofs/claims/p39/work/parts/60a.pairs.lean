/-! the same call of the law on both towns -/
def Two (k : Nat) (rel : Int32 → Int32 → Prop) (PA PB : (Int32 → GF → Prop) → Prop) : Prop := ∃ (r r' : Int32) (F1 F2 G : GF), rel r r' ∧ (∀ K : Int32 → GF → Prop, K r F1 → PA K) ∧ (∀ K : Int32 → GF → Prop, K r' G → PB K) ∧ Sx true F2 G F2 G ∧ Inv k F2 ∧ ∀ f, f < 40 → F2 f = F1 f
def TI (k : Nat) (S : S3) : Prop := Inv k S.1 ∧ ∃ H H' : GF, Sx true H H' S.1 S.2.1
abbrev ovrel : Int32 → Int32 → Prop := fun r r' => r' = ovr r
theorem ovr_nI' : ∀ c, c < 36 → ovr (nI c) = nI (mc true c) := by decide +kernel
theorem ovr_nI {c : Nat} (hc : c < 36) : ovr (nI c) = nI (mc true c) := ovr_nI' c hc
theorem cr_ovr {r r' : Int32} (h : cr true r r') : r' = ovr r := by
  rcases h with ⟨rfl, rfl⟩ | ⟨c, hc, rfl, rfl⟩
  · decide
  · exact (ovr_nI hc).symm
theorem bzK {r : Int32} {F : GF} {K : Int32 → GF → Prop} (h : K (if r = 0 then 0 else 1) F) : if r = 0 then K 0 F else K 1 F := by
  by_cases z : r = 0
  · rw [if_pos z] at h ⊢
    exact h
  · rw [if_neg z] at h ⊢
    exact h
theorem TI.mono {k : Nat} {S : S3} (h : TI k S) : TI (k + 1) S := ⟨h.1.mono, h.2⟩
theorem two_does0 {k : Nat} {H H' F F' : GF} (h : Inv k F) (hs : Sx true H H' F F') {c : Nat} (hc : c < 36) (a2 : Int32) : Two (k + 1) (fun r r' => r = r') (P_M_does F 0 (nI c) a2) (P_M_does F' 0 (nI (mc true c)) a2) := by
  rcases pr_station h hs hc a2 with ⟨r, F1, F2, p1, p2, q, g⟩ | ⟨e, F1, F2, he, p1, p2, q, g⟩
  · skip
    rcases ln_X10_station p1 with ⟨r0, G0, ⟨e1, e2⟩, -, w1⟩ | ⟨_, _, hz, -, -⟩
    · rcases ln_X10_station p2 with ⟨r1, G1, ⟨e3, hs2⟩, -, w2⟩ | ⟨_, _, hz, -, -⟩
      · have w1 : ∀ (K2 : Int32 → GF → Prop) (X2 : String → GF → Prop), K2 r F1 → P_X10_station F (nI c) a2 K2 X2 := fun K2 X2 hz => w1 K2 X2 (by rw [e1, e2]; exact hz)
        have w2 : ∀ (K2 : Int32 → GF → Prop) (X2 : String → GF → Prop), K2 r G1 → P_X10_station F' (nI (mc true c)) a2 K2 X2 := fun K2 X2 hz => w2 K2 X2 (by rw [e3]; exact hz)
        refine ⟨r, r, F1, F2, G1, rfl, fun K hK => ?_, fun K hK => ?_, hs2, q, g⟩
        · skip
          unfold P_M_does
          rw [if_pos rfl]
          exact w1 _ _ hK
        · skip
          unfold P_M_does
          rw [if_pos rfl]
          exact w2 _ _ hK
      · exact False.elim hz
    · exact False.elim hz
  · skip
    rcases ln_X10_station p1 with ⟨_, _, hz, -, -⟩ | ⟨e0, G0, ⟨e1, e2⟩, -, w1⟩
    · exact False.elim hz
    · rcases ln_X10_station p2 with ⟨_, _, hz, -, -⟩ | ⟨e9, G1, ⟨e3, hs2⟩, -, w2⟩
      · exact False.elim hz
      · have w1 : ∀ (K2 : Int32 → GF → Prop) (X2 : String → GF → Prop), X2 e F1 → P_X10_station F (nI c) a2 K2 X2 := fun K2 X2 hz => w1 K2 X2 (by rw [e1, e2]; exact hz)
        have w2 : ∀ (K2 : Int32 → GF → Prop) (X2 : String → GF → Prop), X2 e G1 → P_X10_station F' (nI (mc true c)) a2 K2 X2 := fun K2 X2 hz => w2 K2 X2 (by rw [e3]; exact hz)
        refine ⟨-8, -8, F1, F2, G1, rfl, fun K hK => ?_, fun K hK => ?_, hs2, q, g⟩
        · skip
          unfold P_M_does
          rw [if_pos rfl]
          refine w1 _ _ ?_
          rcases he with rfl | rfl | rfl
          · exact Or.inl ⟨rfl, hK⟩
          · exact Or.inr ((Or.inl ⟨rfl, hK⟩))
          · exact Or.inr (Or.inr (⟨rfl, hK⟩))
        · skip
          unfold P_M_does
          rw [if_pos rfl]
          refine w2 _ _ ?_
          rcases he with rfl | rfl | rfl
          · exact Or.inl ⟨rfl, hK⟩
          · exact Or.inr ((Or.inl ⟨rfl, hK⟩))
          · exact Or.inr (Or.inr (⟨rfl, hK⟩))
theorem two_does1 {k : Nat} {H H' F F' : GF} (h : Inv k F) (hs : Sx true H H' F F') (a1 : Int32) (a2 : Int32) : Two (k + 1) (fun r r' => r = r') (P_M_does F 1 a1 a2) (P_M_does F' 1 a1 a2) := by
  rcases pr_setSeats h hs a1 a2 with ⟨r, F1, F2, p1, p2, q, g⟩ | ⟨e, F1, F2, he, p1, p2, q, g⟩
  · skip
    rcases ln_X10_setSeats p1 with ⟨r0, G0, ⟨e1, e2⟩, -, w1⟩ | ⟨_, _, hz, -, -⟩
    · rcases ln_X10_setSeats p2 with ⟨r1, G1, ⟨e3, hs2⟩, -, w2⟩ | ⟨_, _, hz, -, -⟩
      · have w1 : ∀ (K2 : Int32 → GF → Prop) (X2 : String → GF → Prop), K2 r F1 → P_X10_setSeats F a1 a2 K2 X2 := fun K2 X2 hz => w1 K2 X2 (by rw [e1, e2]; exact hz)
        have w2 : ∀ (K2 : Int32 → GF → Prop) (X2 : String → GF → Prop), K2 r G1 → P_X10_setSeats F' a1 a2 K2 X2 := fun K2 X2 hz => w2 K2 X2 (by rw [e3]; exact hz)
        refine ⟨r, r, F1, F2, G1, rfl, fun K hK => ?_, fun K hK => ?_, hs2, q, g⟩
        · skip
          unfold P_M_does
          rw [if_neg (show ¬ (1 : Int32) = 0 by decide), if_pos rfl]
          exact w1 _ _ hK
        · skip
          unfold P_M_does
          rw [if_neg (show ¬ (1 : Int32) = 0 by decide), if_pos rfl]
          exact w2 _ _ hK
      · exact False.elim hz
    · exact False.elim hz
  · skip
    rcases ln_X10_setSeats p1 with ⟨_, _, hz, -, -⟩ | ⟨e0, G0, ⟨e1, e2⟩, -, w1⟩
    · exact False.elim hz
    · rcases ln_X10_setSeats p2 with ⟨_, _, hz, -, -⟩ | ⟨e9, G1, ⟨e3, hs2⟩, -, w2⟩
      · exact False.elim hz
      · have w1 : ∀ (K2 : Int32 → GF → Prop) (X2 : String → GF → Prop), X2 e F1 → P_X10_setSeats F a1 a2 K2 X2 := fun K2 X2 hz => w1 K2 X2 (by rw [e1, e2]; exact hz)
        have w2 : ∀ (K2 : Int32 → GF → Prop) (X2 : String → GF → Prop), X2 e G1 → P_X10_setSeats F' a1 a2 K2 X2 := fun K2 X2 hz => w2 K2 X2 (by rw [e3]; exact hz)
        refine ⟨-8, -8, F1, F2, G1, rfl, fun K hK => ?_, fun K hK => ?_, hs2, q, g⟩
        · skip
          unfold P_M_does
          rw [if_neg (show ¬ (1 : Int32) = 0 by decide), if_pos rfl]
          refine w1 _ _ ?_
          rcases he with rfl | rfl
          · exact Or.inl ⟨rfl, hK⟩
          · exact Or.inr ((Or.inl ⟨rfl, hK⟩))
        · skip
          unfold P_M_does
          rw [if_neg (show ¬ (1 : Int32) = 0 by decide), if_pos rfl]
          refine w2 _ _ ?_
          rcases he with rfl | rfl
          · exact Or.inl ⟨rfl, hK⟩
          · exact Or.inr ((Or.inl ⟨rfl, hK⟩))
theorem two_does2 {k : Nat} {H H' F F' : GF} (hk : k < 512) (h : Inv k F) (hs : Sx true H H' F F') {c : Nat} (hc : c < 36) (a2 : Int32) : Two (k + 1) (fun r r' => r = r') (P_M_does F 2 (nI c) a2) (P_M_does F' 2 (nI (mc true c)) a2) := by
  rcases pr_person hk h hs hc a2 with ⟨r, F1, F2, p1, p2, q, g⟩ | ⟨e, F1, F2, he, p1, p2, q, g⟩
  · skip
    rcases ln_X10_person p1 with ⟨r0, G0, ⟨e1, e2⟩, -, w1⟩ | ⟨_, _, hz, -, -⟩
    · rcases ln_X10_person p2 with ⟨r1, G1, ⟨e3, hs2⟩, -, w2⟩ | ⟨_, _, hz, -, -⟩
      · have w1 : ∀ (K2 : Int32 → GF → Prop) (X2 : String → GF → Prop), K2 r F1 → P_X10_person F (nI c) a2 K2 X2 := fun K2 X2 hz => w1 K2 X2 (by rw [e1, e2]; exact hz)
        have w2 : ∀ (K2 : Int32 → GF → Prop) (X2 : String → GF → Prop), K2 r G1 → P_X10_person F' (nI (mc true c)) a2 K2 X2 := fun K2 X2 hz => w2 K2 X2 (by rw [e3]; exact hz)
        refine ⟨r, r, F1, F2, G1, rfl, fun K hK => ?_, fun K hK => ?_, hs2, q, g⟩
        · skip
          unfold P_M_does
          rw [if_neg (show ¬ (2 : Int32) = 0 by decide), if_neg (show ¬ (2 : Int32) = 1 by decide), if_pos rfl]
          exact w1 _ _ hK
        · skip
          unfold P_M_does
          rw [if_neg (show ¬ (2 : Int32) = 0 by decide), if_neg (show ¬ (2 : Int32) = 1 by decide), if_pos rfl]
          exact w2 _ _ hK
      · exact False.elim hz
    · exact False.elim hz
  · skip
    rcases ln_X10_person p1 with ⟨_, _, hz, -, -⟩ | ⟨e0, G0, ⟨e1, e2⟩, -, w1⟩
    · exact False.elim hz
    · rcases ln_X10_person p2 with ⟨_, _, hz, -, -⟩ | ⟨e9, G1, ⟨e3, hs2⟩, -, w2⟩
      · exact False.elim hz
      · have w1 : ∀ (K2 : Int32 → GF → Prop) (X2 : String → GF → Prop), X2 e F1 → P_X10_person F (nI c) a2 K2 X2 := fun K2 X2 hz => w1 K2 X2 (by rw [e1, e2]; exact hz)
        have w2 : ∀ (K2 : Int32 → GF → Prop) (X2 : String → GF → Prop), X2 e G1 → P_X10_person F' (nI (mc true c)) a2 K2 X2 := fun K2 X2 hz => w2 K2 X2 (by rw [e3]; exact hz)
        refine ⟨-8, -8, F1, F2, G1, rfl, fun K hK => ?_, fun K hK => ?_, hs2, q, g⟩
        · skip
          unfold P_M_does
          rw [if_neg (show ¬ (2 : Int32) = 0 by decide), if_neg (show ¬ (2 : Int32) = 1 by decide), if_pos rfl]
          refine w1 _ _ ?_
          rcases he with rfl | rfl | rfl
          · exact Or.inl ⟨rfl, hK⟩
          · exact Or.inr ((Or.inl ⟨rfl, hK⟩))
          · exact Or.inr (Or.inr (⟨rfl, hK⟩))
        · skip
          unfold P_M_does
          rw [if_neg (show ¬ (2 : Int32) = 0 by decide), if_neg (show ¬ (2 : Int32) = 1 by decide), if_pos rfl]
          refine w2 _ _ ?_
          rcases he with rfl | rfl | rfl
          · exact Or.inl ⟨rfl, hK⟩
          · exact Or.inr ((Or.inl ⟨rfl, hK⟩))
          · exact Or.inr (Or.inr (⟨rfl, hK⟩))
theorem two_does3 {k : Nat} {H H' F F' : GF} (hk : k < 512) (h : Inv k F) (hs : Sx true H H' F F') (a1 : Int32) {c : Nat} (hc : c < 36) : Two (k + 1) ovrel (P_M_does F 3 a1 (nI c)) (P_M_does F' 3 a1 (nI (mc true c))) := by
  rcases pr_move hk h hs a1 hc with ⟨r, r', F1, F2, hr, p1, p2, q, g⟩ | ⟨e, F1, F2, he, p1, p2, q, g⟩
  · skip
    rcases ln_X10_move p1 with ⟨r0, G0, ⟨e1, e2⟩, -, w1⟩ | ⟨_, _, hz, -, -⟩
    · rcases ln_X10_move p2 with ⟨r1, G1, ⟨e3, hs2⟩, -, w2⟩ | ⟨_, _, hz, -, -⟩
      · have w1 : ∀ (K2 : Int32 → GF → Prop) (X2 : String → GF → Prop), K2 r F1 → P_X10_move F a1 (nI c) K2 X2 := fun K2 X2 hz => w1 K2 X2 (by rw [e1, e2]; exact hz)
        have w2 : ∀ (K2 : Int32 → GF → Prop) (X2 : String → GF → Prop), K2 r' G1 → P_X10_move F' a1 (nI (mc true c)) K2 X2 := fun K2 X2 hz => w2 K2 X2 (by rw [e3]; exact hz)
        refine ⟨r, r', F1, F2, G1, cr_ovr hr, fun K hK => ?_, fun K hK => ?_, hs2, q, g⟩
        · skip
          unfold P_M_does
          rw [if_neg (show ¬ (3 : Int32) = 0 by decide), if_neg (show ¬ (3 : Int32) = 1 by decide), if_neg (show ¬ (3 : Int32) = 2 by decide), if_pos rfl]
          exact w1 _ _ hK
        · skip
          unfold P_M_does
          rw [if_neg (show ¬ (3 : Int32) = 0 by decide), if_neg (show ¬ (3 : Int32) = 1 by decide), if_neg (show ¬ (3 : Int32) = 2 by decide), if_pos rfl]
          exact w2 _ _ hK
      · exact False.elim hz
    · exact False.elim hz
  · skip
    rcases ln_X10_move p1 with ⟨_, _, hz, -, -⟩ | ⟨e0, G0, ⟨e1, e2⟩, -, w1⟩
    · exact False.elim hz
    · rcases ln_X10_move p2 with ⟨_, _, hz, -, -⟩ | ⟨e9, G1, ⟨e3, hs2⟩, -, w2⟩
      · exact False.elim hz
      · have w1 : ∀ (K2 : Int32 → GF → Prop) (X2 : String → GF → Prop), X2 e F1 → P_X10_move F a1 (nI c) K2 X2 := fun K2 X2 hz => w1 K2 X2 (by rw [e1, e2]; exact hz)
        have w2 : ∀ (K2 : Int32 → GF → Prop) (X2 : String → GF → Prop), X2 e G1 → P_X10_move F' a1 (nI (mc true c)) K2 X2 := fun K2 X2 hz => w2 K2 X2 (by rw [e3]; exact hz)
        refine ⟨-8, -8, F1, F2, G1, (by decide), fun K hK => ?_, fun K hK => ?_, hs2, q, g⟩
        · skip
          unfold P_M_does
          rw [if_neg (show ¬ (3 : Int32) = 0 by decide), if_neg (show ¬ (3 : Int32) = 1 by decide), if_neg (show ¬ (3 : Int32) = 2 by decide), if_pos rfl]
          refine w1 _ _ ?_
          rcases he with rfl | rfl
          · exact Or.inl ⟨rfl, hK⟩
          · exact Or.inr (Or.inr (⟨rfl, hK⟩))
        · skip
          unfold P_M_does
          rw [if_neg (show ¬ (3 : Int32) = 0 by decide), if_neg (show ¬ (3 : Int32) = 1 by decide), if_neg (show ¬ (3 : Int32) = 2 by decide), if_pos rfl]
          refine w2 _ _ ?_
          rcases he with rfl | rfl
          · exact Or.inl ⟨rfl, hK⟩
          · exact Or.inr (Or.inr (⟨rfl, hK⟩))
theorem two_does4 {k : Nat} {H H' F F' : GF} (h : Inv k F) (hs : Sx true H H' F F') (a1 : Int32) (a2 : Int32) : Two (k + 1) (fun r r' => r = r') (P_M_does F 4 a1 a2) (P_M_does F' 4 a1 a2) := by
  rcases pr_seed h hs a1 a2 with ⟨r, F1, F2, p1, p2, q, g⟩ | ⟨e, F1, F2, he, p1, p2, q, g⟩
  · skip
    rcases ln_X10_seed p1 with ⟨r0, G0, ⟨e1, e2⟩, -, w1⟩ | ⟨_, _, hz, -, -⟩
    · rcases ln_X10_seed p2 with ⟨r1, G1, ⟨e3, hs2⟩, -, w2⟩ | ⟨_, _, hz, -, -⟩
      · have w1 : ∀ (K2 : Int32 → GF → Prop) (X2 : String → GF → Prop), K2 r F1 → P_X10_seed F a1 a2 K2 X2 := fun K2 X2 hz => w1 K2 X2 (by rw [e1, e2]; exact hz)
        have w2 : ∀ (K2 : Int32 → GF → Prop) (X2 : String → GF → Prop), K2 r G1 → P_X10_seed F' a1 a2 K2 X2 := fun K2 X2 hz => w2 K2 X2 (by rw [e3]; exact hz)
        refine ⟨r, r, F1, F2, G1, rfl, fun K hK => ?_, fun K hK => ?_, hs2, q, g⟩
        · skip
          unfold P_M_does
          rw [if_neg (show ¬ (4 : Int32) = 0 by decide), if_neg (show ¬ (4 : Int32) = 1 by decide), if_neg (show ¬ (4 : Int32) = 2 by decide), if_neg (show ¬ (4 : Int32) = 3 by decide), if_pos rfl]
          exact w1 _ _ hK
        · skip
          unfold P_M_does
          rw [if_neg (show ¬ (4 : Int32) = 0 by decide), if_neg (show ¬ (4 : Int32) = 1 by decide), if_neg (show ¬ (4 : Int32) = 2 by decide), if_neg (show ¬ (4 : Int32) = 3 by decide), if_pos rfl]
          exact w2 _ _ hK
      · exact False.elim hz
    · exact False.elim hz
  · skip
    rcases ln_X10_seed p1 with ⟨_, _, hz, -, -⟩ | ⟨e0, G0, ⟨e1, e2⟩, -, w1⟩
    · exact False.elim hz
    · rcases ln_X10_seed p2 with ⟨_, _, hz, -, -⟩ | ⟨e9, G1, ⟨e3, hs2⟩, -, w2⟩
      · exact False.elim hz
      · have w1 : ∀ (K2 : Int32 → GF → Prop) (X2 : String → GF → Prop), X2 e F1 → P_X10_seed F a1 a2 K2 X2 := fun K2 X2 hz => w1 K2 X2 (by rw [e1, e2]; exact hz)
        have w2 : ∀ (K2 : Int32 → GF → Prop) (X2 : String → GF → Prop), X2 e G1 → P_X10_seed F' a1 a2 K2 X2 := fun K2 X2 hz => w2 K2 X2 (by rw [e3]; exact hz)
        refine ⟨-8, -8, F1, F2, G1, rfl, fun K hK => ?_, fun K hK => ?_, hs2, q, g⟩
        · skip
          unfold P_M_does
          rw [if_neg (show ¬ (4 : Int32) = 0 by decide), if_neg (show ¬ (4 : Int32) = 1 by decide), if_neg (show ¬ (4 : Int32) = 2 by decide), if_neg (show ¬ (4 : Int32) = 3 by decide), if_pos rfl]
          refine w1 _ _ ?_
          rcases he with rfl | rfl | rfl
          · exact Or.inl ⟨rfl, hK⟩
          · exact Or.inr ((Or.inl ⟨rfl, hK⟩))
          · exact Or.inr (Or.inr (⟨rfl, hK⟩))
        · skip
          unfold P_M_does
          rw [if_neg (show ¬ (4 : Int32) = 0 by decide), if_neg (show ¬ (4 : Int32) = 1 by decide), if_neg (show ¬ (4 : Int32) = 2 by decide), if_neg (show ¬ (4 : Int32) = 3 by decide), if_pos rfl]
          refine w2 _ _ ?_
          rcases he with rfl | rfl | rfl
          · exact Or.inl ⟨rfl, hK⟩
          · exact Or.inr ((Or.inl ⟨rfl, hK⟩))
          · exact Or.inr (Or.inr (⟨rfl, hK⟩))
theorem two_does5 {k : Nat} {H H' F F' : GF} (hk : k < 512) (h : Inv k F) (hs : Sx true H H' F F') (a1 : Int32) (a2 : Int32) : Two (k + 1) (fun r r' => r = r') (P_M_does F 5 a1 a2) (P_M_does F' 5 a1 a2) := by
  rcases pr_early hk h hs a1 a2 with ⟨r, F1, F2, p1, p2, q, g⟩ | ⟨e, F1, F2, he, p1, p2, q, g⟩
  · skip
    rcases ln_X10_early p1 with ⟨r0, G0, ⟨e1, e2⟩, -, w1⟩ | ⟨_, _, hz, -, -⟩
    · rcases ln_X10_early p2 with ⟨r1, G1, ⟨e3, hs2⟩, -, w2⟩ | ⟨_, _, hz, -, -⟩
      · have w1 : ∀ (K2 : Int32 → GF → Prop) (X2 : String → GF → Prop), K2 r F1 → P_X10_early F a1 a2 K2 X2 := fun K2 X2 hz => w1 K2 X2 (by rw [e1, e2]; exact hz)
        have w2 : ∀ (K2 : Int32 → GF → Prop) (X2 : String → GF → Prop), K2 r G1 → P_X10_early F' a1 a2 K2 X2 := fun K2 X2 hz => w2 K2 X2 (by rw [e3]; exact hz)
        refine ⟨r, r, F1, F2, G1, rfl, fun K hK => ?_, fun K hK => ?_, hs2, q, g⟩
        · skip
          unfold P_M_does
          rw [if_neg (show ¬ (5 : Int32) = 0 by decide), if_neg (show ¬ (5 : Int32) = 1 by decide), if_neg (show ¬ (5 : Int32) = 2 by decide), if_neg (show ¬ (5 : Int32) = 3 by decide), if_neg (show ¬ (5 : Int32) = 4 by decide), if_pos rfl]
          exact w1 _ _ hK
        · skip
          unfold P_M_does
          rw [if_neg (show ¬ (5 : Int32) = 0 by decide), if_neg (show ¬ (5 : Int32) = 1 by decide), if_neg (show ¬ (5 : Int32) = 2 by decide), if_neg (show ¬ (5 : Int32) = 3 by decide), if_neg (show ¬ (5 : Int32) = 4 by decide), if_pos rfl]
          exact w2 _ _ hK
      · exact False.elim hz
    · exact False.elim hz
  · skip
    rcases ln_X10_early p1 with ⟨_, _, hz, -, -⟩ | ⟨e0, G0, ⟨e1, e2⟩, -, w1⟩
    · exact False.elim hz
    · rcases ln_X10_early p2 with ⟨_, _, hz, -, -⟩ | ⟨e9, G1, ⟨e3, hs2⟩, -, w2⟩
      · exact False.elim hz
      · have w1 : ∀ (K2 : Int32 → GF → Prop) (X2 : String → GF → Prop), X2 e F1 → P_X10_early F a1 a2 K2 X2 := fun K2 X2 hz => w1 K2 X2 (by rw [e1, e2]; exact hz)
        have w2 : ∀ (K2 : Int32 → GF → Prop) (X2 : String → GF → Prop), X2 e G1 → P_X10_early F' a1 a2 K2 X2 := fun K2 X2 hz => w2 K2 X2 (by rw [e3]; exact hz)
        refine ⟨-8, -8, F1, F2, G1, rfl, fun K hK => ?_, fun K hK => ?_, hs2, q, g⟩
        · skip
          unfold P_M_does
          rw [if_neg (show ¬ (5 : Int32) = 0 by decide), if_neg (show ¬ (5 : Int32) = 1 by decide), if_neg (show ¬ (5 : Int32) = 2 by decide), if_neg (show ¬ (5 : Int32) = 3 by decide), if_neg (show ¬ (5 : Int32) = 4 by decide), if_pos rfl]
          refine w1 _ _ ?_
          rcases he with rfl | rfl | rfl
          · exact Or.inl ⟨rfl, hK⟩
          · exact Or.inr ((Or.inl ⟨rfl, hK⟩))
          · exact Or.inr (Or.inr (⟨rfl, hK⟩))
        · skip
          unfold P_M_does
          rw [if_neg (show ¬ (5 : Int32) = 0 by decide), if_neg (show ¬ (5 : Int32) = 1 by decide), if_neg (show ¬ (5 : Int32) = 2 by decide), if_neg (show ¬ (5 : Int32) = 3 by decide), if_neg (show ¬ (5 : Int32) = 4 by decide), if_pos rfl]
          refine w2 _ _ ?_
          rcases he with rfl | rfl | rfl
          · exact Or.inl ⟨rfl, hK⟩
          · exact Or.inr ((Or.inl ⟨rfl, hK⟩))
          · exact Or.inr (Or.inr (⟨rfl, hK⟩))
theorem two_does6 {k : Nat} {H H' F F' : GF} (h : Inv k F) (hs : Sx true H H' F F') (a1 : Int32) (a2 : Int32) : Two (k + 1) (fun r r' => r = r') (P_M_does F 6 a1 a2) (P_M_does F' 6 a1 a2) := by
  rcases pr_setSlip h hs a1 a2 with ⟨r, F1, F2, p1, p2, q, g⟩ | ⟨e, F1, F2, he, p1, p2, q, g⟩
  · skip
    rcases ln_X10_setSlip p1 with ⟨r0, G0, ⟨e1, e2⟩, -, w1⟩ | ⟨_, _, hz, -, -⟩
    · rcases ln_X10_setSlip p2 with ⟨r1, G1, ⟨e3, hs2⟩, -, w2⟩ | ⟨_, _, hz, -, -⟩
      · have w1 : ∀ (K2 : Int32 → GF → Prop) (X2 : String → GF → Prop), K2 r F1 → P_X10_setSlip F a1 a2 K2 X2 := fun K2 X2 hz => w1 K2 X2 (by rw [e1, e2]; exact hz)
        have w2 : ∀ (K2 : Int32 → GF → Prop) (X2 : String → GF → Prop), K2 r G1 → P_X10_setSlip F' a1 a2 K2 X2 := fun K2 X2 hz => w2 K2 X2 (by rw [e3]; exact hz)
        refine ⟨r, r, F1, F2, G1, rfl, fun K hK => ?_, fun K hK => ?_, hs2, q, g⟩
        · skip
          unfold P_M_does
          rw [if_neg (show ¬ (6 : Int32) = 0 by decide), if_neg (show ¬ (6 : Int32) = 1 by decide), if_neg (show ¬ (6 : Int32) = 2 by decide), if_neg (show ¬ (6 : Int32) = 3 by decide), if_neg (show ¬ (6 : Int32) = 4 by decide), if_neg (show ¬ (6 : Int32) = 5 by decide)]
          exact w1 _ _ hK
        · skip
          unfold P_M_does
          rw [if_neg (show ¬ (6 : Int32) = 0 by decide), if_neg (show ¬ (6 : Int32) = 1 by decide), if_neg (show ¬ (6 : Int32) = 2 by decide), if_neg (show ¬ (6 : Int32) = 3 by decide), if_neg (show ¬ (6 : Int32) = 4 by decide), if_neg (show ¬ (6 : Int32) = 5 by decide)]
          exact w2 _ _ hK
      · exact False.elim hz
    · exact False.elim hz
  · skip
    rcases ln_X10_setSlip p1 with ⟨_, _, hz, -, -⟩ | ⟨e0, G0, ⟨e1, e2⟩, -, w1⟩
    · exact False.elim hz
    · rcases ln_X10_setSlip p2 with ⟨_, _, hz, -, -⟩ | ⟨e9, G1, ⟨e3, hs2⟩, -, w2⟩
      · exact False.elim hz
      · have w1 : ∀ (K2 : Int32 → GF → Prop) (X2 : String → GF → Prop), X2 e F1 → P_X10_setSlip F a1 a2 K2 X2 := fun K2 X2 hz => w1 K2 X2 (by rw [e1, e2]; exact hz)
        have w2 : ∀ (K2 : Int32 → GF → Prop) (X2 : String → GF → Prop), X2 e G1 → P_X10_setSlip F' a1 a2 K2 X2 := fun K2 X2 hz => w2 K2 X2 (by rw [e3]; exact hz)
        refine ⟨-8, -8, F1, F2, G1, rfl, fun K hK => ?_, fun K hK => ?_, hs2, q, g⟩
        · skip
          unfold P_M_does
          rw [if_neg (show ¬ (6 : Int32) = 0 by decide), if_neg (show ¬ (6 : Int32) = 1 by decide), if_neg (show ¬ (6 : Int32) = 2 by decide), if_neg (show ¬ (6 : Int32) = 3 by decide), if_neg (show ¬ (6 : Int32) = 4 by decide), if_neg (show ¬ (6 : Int32) = 5 by decide)]
          refine w1 _ _ ?_
          rcases he with rfl | rfl
          · exact Or.inl ⟨rfl, hK⟩
          · exact Or.inr ((Or.inl ⟨rfl, hK⟩))
        · skip
          unfold P_M_does
          rw [if_neg (show ¬ (6 : Int32) = 0 by decide), if_neg (show ¬ (6 : Int32) = 1 by decide), if_neg (show ¬ (6 : Int32) = 2 by decide), if_neg (show ¬ (6 : Int32) = 3 by decide), if_neg (show ¬ (6 : Int32) = 4 by decide), if_neg (show ¬ (6 : Int32) = 5 by decide)]
          refine w2 _ _ ?_
          rcases he with rfl | rfl
          · exact Or.inl ⟨rfl, hK⟩
          · exact Or.inr ((Or.inl ⟨rfl, hK⟩))
theorem two_act0 {k : Nat} {H H' F F' : GF} (hk : k < 512) (h : Inv k F) (hs : Sx true H H' F F') (a1 : Int32) : Two (k + 1) (fun r r' => r = r') (P_M_act F 0 a1) (P_M_act F' 0 a1) := by
  rcases pr_die hk h hs a1 with ⟨r, F1, F2, p1, p2, q, g⟩ | ⟨e, F1, F2, he, p1, p2, q, g⟩
  · skip
    rcases ln_X10_die p1 with ⟨r0, G0, ⟨e1, e2⟩, -, w1⟩ | ⟨_, _, hz, -, -⟩
    · rcases ln_X10_die p2 with ⟨r1, G1, ⟨e3, hs2⟩, -, w2⟩ | ⟨_, _, hz, -, -⟩
      · have w1 : ∀ (K2 : Int32 → GF → Prop) (X2 : String → GF → Prop), K2 r F1 → P_X10_die F a1 K2 X2 := fun K2 X2 hz => w1 K2 X2 (by rw [e1, e2]; exact hz)
        have w2 : ∀ (K2 : Int32 → GF → Prop) (X2 : String → GF → Prop), K2 r G1 → P_X10_die F' a1 K2 X2 := fun K2 X2 hz => w2 K2 X2 (by rw [e3]; exact hz)
        refine ⟨(if r = 0 then 0 else 1), (if r = 0 then 0 else 1), F1, F2, G1, rfl, fun K hK => ?_, fun K hK => ?_, hs2, q, g⟩
        · skip
          unfold P_M_act
          rw [if_pos rfl]
          exact w1 _ _ (bzK hK)
        · skip
          unfold P_M_act
          rw [if_pos rfl]
          exact w2 _ _ (bzK hK)
      · exact False.elim hz
    · exact False.elim hz
  · skip
    rcases ln_X10_die p1 with ⟨_, _, hz, -, -⟩ | ⟨e0, G0, ⟨e1, e2⟩, -, w1⟩
    · exact False.elim hz
    · rcases ln_X10_die p2 with ⟨_, _, hz, -, -⟩ | ⟨e9, G1, ⟨e3, hs2⟩, -, w2⟩
      · exact False.elim hz
      · have w1 : ∀ (K2 : Int32 → GF → Prop) (X2 : String → GF → Prop), X2 e F1 → P_X10_die F a1 K2 X2 := fun K2 X2 hz => w1 K2 X2 (by rw [e1, e2]; exact hz)
        have w2 : ∀ (K2 : Int32 → GF → Prop) (X2 : String → GF → Prop), X2 e G1 → P_X10_die F' a1 K2 X2 := fun K2 X2 hz => w2 K2 X2 (by rw [e3]; exact hz)
        refine ⟨-8, -8, F1, F2, G1, rfl, fun K hK => ?_, fun K hK => ?_, hs2, q, g⟩
        · skip
          unfold P_M_act
          rw [if_pos rfl]
          refine w1 _ _ ?_
          rcases he with rfl | rfl
          · exact Or.inl ⟨rfl, hK⟩
          · exact Or.inr (Or.inr (⟨rfl, hK⟩))
        · skip
          unfold P_M_act
          rw [if_pos rfl]
          refine w2 _ _ ?_
          rcases he with rfl | rfl
          · exact Or.inl ⟨rfl, hK⟩
          · exact Or.inr (Or.inr (⟨rfl, hK⟩))
theorem two_act1 {k : Nat} {H H' F F' : GF} (hk : k < 512) (h : Inv k F) (hs : Sx true H H' F F') (a1 : Int32) : Two (k + 1) (fun r r' => r = r') (P_M_act F 1 a1) (P_M_act F' 1 a1) := by
  rcases pr_advance hk h hs a1 with ⟨r, F1, F2, p1, p2, q, g⟩ | ⟨e, F1, F2, he, p1, p2, q, g⟩
  · skip
    rcases ln_X10_advance p1 with ⟨r0, G0, ⟨e1, e2⟩, -, w1⟩ | ⟨_, _, hz, -, -⟩
    · rcases ln_X10_advance p2 with ⟨r1, G1, ⟨e3, hs2⟩, -, w2⟩ | ⟨_, _, hz, -, -⟩
      · have w1 : ∀ (K2 : Int32 → GF → Prop) (X2 : String → GF → Prop), K2 r F1 → P_X10_advance F a1 K2 X2 := fun K2 X2 hz => w1 K2 X2 (by rw [e1, e2]; exact hz)
        have w2 : ∀ (K2 : Int32 → GF → Prop) (X2 : String → GF → Prop), K2 r G1 → P_X10_advance F' a1 K2 X2 := fun K2 X2 hz => w2 K2 X2 (by rw [e3]; exact hz)
        refine ⟨r, r, F1, F2, G1, rfl, fun K hK => ?_, fun K hK => ?_, hs2, q, g⟩
        · skip
          unfold P_M_act
          rw [if_neg (show ¬ (1 : Int32) = 0 by decide), if_pos rfl]
          exact w1 _ _ hK
        · skip
          unfold P_M_act
          rw [if_neg (show ¬ (1 : Int32) = 0 by decide), if_pos rfl]
          exact w2 _ _ hK
      · exact False.elim hz
    · exact False.elim hz
  · skip
    rcases ln_X10_advance p1 with ⟨_, _, hz, -, -⟩ | ⟨e0, G0, ⟨e1, e2⟩, -, w1⟩
    · exact False.elim hz
    · rcases ln_X10_advance p2 with ⟨_, _, hz, -, -⟩ | ⟨e9, G1, ⟨e3, hs2⟩, -, w2⟩
      · exact False.elim hz
      · have w1 : ∀ (K2 : Int32 → GF → Prop) (X2 : String → GF → Prop), X2 e F1 → P_X10_advance F a1 K2 X2 := fun K2 X2 hz => w1 K2 X2 (by rw [e1, e2]; exact hz)
        have w2 : ∀ (K2 : Int32 → GF → Prop) (X2 : String → GF → Prop), X2 e G1 → P_X10_advance F' a1 K2 X2 := fun K2 X2 hz => w2 K2 X2 (by rw [e3]; exact hz)
        refine ⟨-8, -8, F1, F2, G1, rfl, fun K hK => ?_, fun K hK => ?_, hs2, q, g⟩
        · skip
          unfold P_M_act
          rw [if_neg (show ¬ (1 : Int32) = 0 by decide), if_pos rfl]
          refine w1 _ _ ?_
          rcases he with rfl | rfl
          · exact Or.inr ((Or.inl ⟨rfl, hK⟩))
          · exact Or.inr (Or.inr (⟨rfl, hK⟩))
        · skip
          unfold P_M_act
          rw [if_neg (show ¬ (1 : Int32) = 0 by decide), if_pos rfl]
          refine w2 _ _ ?_
          rcases he with rfl | rfl
          · exact Or.inr ((Or.inl ⟨rfl, hK⟩))
          · exact Or.inr (Or.inr (⟨rfl, hK⟩))
theorem two_act2 {k : Nat} {H H' F F' : GF} (hk : k < 512) (h : Inv k F) (hs : Sx true H H' F F') (a1 : Int32) : Two (k + 1) (fun r r' => r = r') (P_M_act F 2 a1) (P_M_act F' 2 a1) := by
  rcases pr_open hk h hs a1 with ⟨r, F1, F2, p1, p2, q, g⟩ | ⟨e, F1, F2, he, p1, p2, q, g⟩
  · skip
    rcases ln_X10_open p1 with ⟨r0, G0, ⟨e1, e2⟩, -, w1⟩ | ⟨_, _, hz, -, -⟩
    · rcases ln_X10_open p2 with ⟨r1, G1, ⟨e3, hs2⟩, -, w2⟩ | ⟨_, _, hz, -, -⟩
      · have w1 : ∀ (K2 : Int32 → GF → Prop) (X2 : String → GF → Prop), K2 r F1 → P_X10_open F a1 K2 X2 := fun K2 X2 hz => w1 K2 X2 (by rw [e1, e2]; exact hz)
        have w2 : ∀ (K2 : Int32 → GF → Prop) (X2 : String → GF → Prop), K2 r G1 → P_X10_open F' a1 K2 X2 := fun K2 X2 hz => w2 K2 X2 (by rw [e3]; exact hz)
        refine ⟨r, r, F1, F2, G1, rfl, fun K hK => ?_, fun K hK => ?_, hs2, q, g⟩
        · skip
          unfold P_M_act
          rw [if_neg (show ¬ (2 : Int32) = 0 by decide), if_neg (show ¬ (2 : Int32) = 1 by decide), if_pos rfl]
          exact w1 _ _ hK
        · skip
          unfold P_M_act
          rw [if_neg (show ¬ (2 : Int32) = 0 by decide), if_neg (show ¬ (2 : Int32) = 1 by decide), if_pos rfl]
          exact w2 _ _ hK
      · exact False.elim hz
    · exact False.elim hz
  · skip
    rcases ln_X10_open p1 with ⟨_, _, hz, -, -⟩ | ⟨e0, G0, ⟨e1, e2⟩, -, w1⟩
    · exact False.elim hz
    · rcases ln_X10_open p2 with ⟨_, _, hz, -, -⟩ | ⟨e9, G1, ⟨e3, hs2⟩, -, w2⟩
      · exact False.elim hz
      · have w1 : ∀ (K2 : Int32 → GF → Prop) (X2 : String → GF → Prop), X2 e F1 → P_X10_open F a1 K2 X2 := fun K2 X2 hz => w1 K2 X2 (by rw [e1, e2]; exact hz)
        have w2 : ∀ (K2 : Int32 → GF → Prop) (X2 : String → GF → Prop), X2 e G1 → P_X10_open F' a1 K2 X2 := fun K2 X2 hz => w2 K2 X2 (by rw [e3]; exact hz)
        refine ⟨-8, -8, F1, F2, G1, rfl, fun K hK => ?_, fun K hK => ?_, hs2, q, g⟩
        · skip
          unfold P_M_act
          rw [if_neg (show ¬ (2 : Int32) = 0 by decide), if_neg (show ¬ (2 : Int32) = 1 by decide), if_pos rfl]
          refine w1 _ _ ?_
          rcases he with rfl | rfl
          · exact Or.inl ⟨rfl, hK⟩
          · exact Or.inr (Or.inr (⟨rfl, hK⟩))
        · skip
          unfold P_M_act
          rw [if_neg (show ¬ (2 : Int32) = 0 by decide), if_neg (show ¬ (2 : Int32) = 1 by decide), if_pos rfl]
          refine w2 _ _ ?_
          rcases he with rfl | rfl
          · exact Or.inl ⟨rfl, hK⟩
          · exact Or.inr (Or.inr (⟨rfl, hK⟩))
theorem two_act3 {k : Nat} {H H' F F' : GF} (h : Inv k F) (hs : Sx true H H' F F') (a1 : Int32) : Two (k + 1) (fun r r' => r = r') (P_M_act F 3 a1) (P_M_act F' 3 a1) := by
  rcases pr_recount h hs a1 with ⟨r, F1, F2, p1, p2, q, g⟩ | ⟨e, F1, F2, he, p1, p2, q, g⟩
  · skip
    rcases ln_X10_recount p1 with ⟨r0, G0, ⟨e1, e2⟩, -, w1⟩ | ⟨_, _, hz, -, -⟩
    · rcases ln_X10_recount p2 with ⟨r1, G1, ⟨e3, hs2⟩, -, w2⟩ | ⟨_, _, hz, -, -⟩
      · have w1 : ∀ (K2 : Int32 → GF → Prop) (X2 : String → GF → Prop), K2 r F1 → P_X10_recount F a1 K2 X2 := fun K2 X2 hz => w1 K2 X2 (by rw [e1, e2]; exact hz)
        have w2 : ∀ (K2 : Int32 → GF → Prop) (X2 : String → GF → Prop), K2 r G1 → P_X10_recount F' a1 K2 X2 := fun K2 X2 hz => w2 K2 X2 (by rw [e3]; exact hz)
        refine ⟨r, r, F1, F2, G1, rfl, fun K hK => ?_, fun K hK => ?_, hs2, q, g⟩
        · skip
          unfold P_M_act
          rw [if_neg (show ¬ (3 : Int32) = 0 by decide), if_neg (show ¬ (3 : Int32) = 1 by decide), if_neg (show ¬ (3 : Int32) = 2 by decide)]
          exact w1 _ _ hK
        · skip
          unfold P_M_act
          rw [if_neg (show ¬ (3 : Int32) = 0 by decide), if_neg (show ¬ (3 : Int32) = 1 by decide), if_neg (show ¬ (3 : Int32) = 2 by decide)]
          exact w2 _ _ hK
      · exact False.elim hz
    · exact False.elim hz
  · skip
    rcases ln_X10_recount p1 with ⟨_, _, hz, -, -⟩ | ⟨e0, G0, ⟨e1, e2⟩, -, w1⟩
    · exact False.elim hz
    · rcases ln_X10_recount p2 with ⟨_, _, hz, -, -⟩ | ⟨e9, G1, ⟨e3, hs2⟩, -, w2⟩
      · exact False.elim hz
      · have w1 : ∀ (K2 : Int32 → GF → Prop) (X2 : String → GF → Prop), X2 e F1 → P_X10_recount F a1 K2 X2 := fun K2 X2 hz => w1 K2 X2 (by rw [e1, e2]; exact hz)
        have w2 : ∀ (K2 : Int32 → GF → Prop) (X2 : String → GF → Prop), X2 e G1 → P_X10_recount F' a1 K2 X2 := fun K2 X2 hz => w2 K2 X2 (by rw [e3]; exact hz)
        refine ⟨-8, -8, F1, F2, G1, rfl, fun K hK => ?_, fun K hK => ?_, hs2, q, g⟩
        · skip
          unfold P_M_act
          rw [if_neg (show ¬ (3 : Int32) = 0 by decide), if_neg (show ¬ (3 : Int32) = 1 by decide), if_neg (show ¬ (3 : Int32) = 2 by decide)]
          refine w1 _ _ ?_
          rcases he with rfl | rfl
          · exact Or.inl ⟨rfl, hK⟩
          · exact Or.inr (Or.inr (⟨rfl, hK⟩))
        · skip
          unfold P_M_act
          rw [if_neg (show ¬ (3 : Int32) = 0 by decide), if_neg (show ¬ (3 : Int32) = 1 by decide), if_neg (show ¬ (3 : Int32) = 2 by decide)]
          refine w2 _ _ ?_
          rcases he with rfl | rfl
          · exact Or.inl ⟨rfl, hK⟩
          · exact Or.inr (Or.inr (⟨rfl, hK⟩))
theorem two_bar {k : Nat} {H H' F F' : GF} (h : Inv k F) (hs : Sx true H H' F F') {c : Nat} (hc : c < 36) {d : Nat} (hd : d < 36) {a3 : Int32} (h3 : a3 = 0 ∨ a3 = 1) : Two (k + 1) (fun r r' => r = r') (P_M_bar F (nI c) (nI d) a3) (P_M_bar F' (nI (mc true c)) (nI (mc true d)) a3) := by
  rcases pr_bar h hs hc hd h3 with ⟨r, F1, F2, p1, p2, q, g⟩ | ⟨e, F1, F2, he, p1, p2, q, g⟩
  · skip
    rcases ln_X10_bar p1 with ⟨r0, G0, ⟨e1, e2⟩, -, w1⟩ | ⟨_, _, hz, -, -⟩
    · rcases ln_X10_bar p2 with ⟨r1, G1, ⟨e3, hs2⟩, -, w2⟩ | ⟨_, _, hz, -, -⟩
      · have w1 : ∀ (K2 : Int32 → GF → Prop) (X2 : String → GF → Prop), K2 r F1 → P_X10_bar F (nI c) (nI d) a3 K2 X2 := fun K2 X2 hz => w1 K2 X2 (by rw [e1, e2]; exact hz)
        have w2 : ∀ (K2 : Int32 → GF → Prop) (X2 : String → GF → Prop), K2 r G1 → P_X10_bar F' (nI (mc true c)) (nI (mc true d)) a3 K2 X2 := fun K2 X2 hz => w2 K2 X2 (by rw [e3]; exact hz)
        refine ⟨(if r = 0 then 0 else 1), (if r = 0 then 0 else 1), F1, F2, G1, rfl, fun K hK => ?_, fun K hK => ?_, hs2, q, g⟩
        · skip
          unfold P_M_bar
          exact w1 _ _ (bzK hK)
        · skip
          unfold P_M_bar
          exact w2 _ _ (bzK hK)
      · exact False.elim hz
    · exact False.elim hz
  · skip
    rcases ln_X10_bar p1 with ⟨_, _, hz, -, -⟩ | ⟨e0, G0, ⟨e1, e2⟩, -, w1⟩
    · exact False.elim hz
    · rcases ln_X10_bar p2 with ⟨_, _, hz, -, -⟩ | ⟨e9, G1, ⟨e3, hs2⟩, -, w2⟩
      · exact False.elim hz
      · have w1 : ∀ (K2 : Int32 → GF → Prop) (X2 : String → GF → Prop), X2 e F1 → P_X10_bar F (nI c) (nI d) a3 K2 X2 := fun K2 X2 hz => w1 K2 X2 (by rw [e1, e2]; exact hz)
        have w2 : ∀ (K2 : Int32 → GF → Prop) (X2 : String → GF → Prop), X2 e G1 → P_X10_bar F' (nI (mc true c)) (nI (mc true d)) a3 K2 X2 := fun K2 X2 hz => w2 K2 X2 (by rw [e3]; exact hz)
        refine ⟨-8, -8, F1, F2, G1, rfl, fun K hK => ?_, fun K hK => ?_, hs2, q, g⟩
        · skip
          unfold P_M_bar
          refine w1 _ _ ?_
          rcases he with rfl | rfl
          · exact Or.inl ⟨rfl, hK⟩
          · exact Or.inr ⟨rfl, hK⟩
        · skip
          unfold P_M_bar
          refine w2 _ _ ?_
          rcases he with rfl | rfl
          · exact Or.inl ⟨rfl, hK⟩
          · exact Or.inr ⟨rfl, hK⟩
theorem two_call {k : Nat} {H H' F F' : GF} (hk : k < 512) (h : Inv k F) (hs : Sx true H H' F F') (a1 : Int32) (a2 : Int32) {a3 : Int32} (h3 : a3 = 0 ∨ a3 = 1) : Two (k + 1) (fun r r' => r = r') (P_M_call F a1 a2 a3) (P_M_call F' a1 a2 a3) := by
  rcases pr_call hk h hs a1 a2 h3 with ⟨r, F1, F2, p1, p2, q, g⟩ | ⟨e, F1, F2, he, p1, p2, q, g⟩
  · skip
    rcases ln_X10_call p1 with ⟨r0, G0, ⟨e1, e2⟩, -, w1⟩ | ⟨_, _, hz, -, -⟩
    · rcases ln_X10_call p2 with ⟨r1, G1, ⟨e3, hs2⟩, -, w2⟩ | ⟨_, _, hz, -, -⟩
      · have w1 : ∀ (K2 : Int32 → GF → Prop) (X2 : String → GF → Prop), K2 r F1 → P_X10_call F a1 a2 a3 K2 X2 := fun K2 X2 hz => w1 K2 X2 (by rw [e1, e2]; exact hz)
        have w2 : ∀ (K2 : Int32 → GF → Prop) (X2 : String → GF → Prop), K2 r G1 → P_X10_call F' a1 a2 a3 K2 X2 := fun K2 X2 hz => w2 K2 X2 (by rw [e3]; exact hz)
        refine ⟨r, r, F1, F2, G1, rfl, fun K hK => ?_, fun K hK => ?_, hs2, q, g⟩
        · skip
          unfold P_M_call
          exact w1 _ _ hK
        · skip
          unfold P_M_call
          exact w2 _ _ hK
      · exact False.elim hz
    · exact False.elim hz
  · skip
    rcases ln_X10_call p1 with ⟨_, _, hz, -, -⟩ | ⟨e0, G0, ⟨e1, e2⟩, -, w1⟩
    · exact False.elim hz
    · rcases ln_X10_call p2 with ⟨_, _, hz, -, -⟩ | ⟨e9, G1, ⟨e3, hs2⟩, -, w2⟩
      · exact False.elim hz
      · have w1 : ∀ (K2 : Int32 → GF → Prop) (X2 : String → GF → Prop), X2 e F1 → P_X10_call F a1 a2 a3 K2 X2 := fun K2 X2 hz => w1 K2 X2 (by rw [e1, e2]; exact hz)
        have w2 : ∀ (K2 : Int32 → GF → Prop) (X2 : String → GF → Prop), X2 e G1 → P_X10_call F' a1 a2 a3 K2 X2 := fun K2 X2 hz => w2 K2 X2 (by rw [e3]; exact hz)
        refine ⟨-8, -8, F1, F2, G1, rfl, fun K hK => ?_, fun K hK => ?_, hs2, q, g⟩
        · skip
          unfold P_M_call
          refine w1 _ _ ?_
          rcases he with rfl | rfl
          · exact Or.inl ⟨rfl, hK⟩
          · exact Or.inr ⟨rfl, hK⟩
        · skip
          unfold P_M_call
          refine w2 _ _ ?_
          rcases he with rfl | rfl
          · exact Or.inl ⟨rfl, hK⟩
          · exact Or.inr ⟨rfl, hK⟩
theorem two_vote {k : Nat} {H H' F F' : GF} (hk : k < 512) (h : Inv k F) (hs : Sx true H H' F F') (a1 : Int32) (a2 : Int32) (a3 : Int32) : Two (k + 1) (fun r r' => r = r') (P_M_vote F a1 a2 a3) (P_M_vote F' a1 a2 a3) := by
  rcases pr_vote hk h hs a1 a2 a3 with ⟨r, F1, F2, p1, p2, q, g⟩ | ⟨e, F1, F2, he, p1, p2, q, g⟩
  · skip
    rcases ln_X10_vote p1 with ⟨r0, G0, ⟨e1, e2⟩, -, w1⟩ | ⟨_, _, hz, -, -⟩
    · rcases ln_X10_vote p2 with ⟨r1, G1, ⟨e3, hs2⟩, -, w2⟩ | ⟨_, _, hz, -, -⟩
      · have w1 : ∀ (K2 : Int32 → GF → Prop) (X2 : String → GF → Prop), K2 r F1 → P_X10_vote F a1 a2 a3 K2 X2 := fun K2 X2 hz => w1 K2 X2 (by rw [e1, e2]; exact hz)
        have w2 : ∀ (K2 : Int32 → GF → Prop) (X2 : String → GF → Prop), K2 r G1 → P_X10_vote F' a1 a2 a3 K2 X2 := fun K2 X2 hz => w2 K2 X2 (by rw [e3]; exact hz)
        refine ⟨r, r, F1, F2, G1, rfl, fun K hK => ?_, fun K hK => ?_, hs2, q, g⟩
        · skip
          unfold P_M_vote
          exact w1 _ _ hK
        · skip
          unfold P_M_vote
          exact w2 _ _ hK
      · exact False.elim hz
    · exact False.elim hz
  · skip
    rcases ln_X10_vote p1 with ⟨_, _, hz, -, -⟩ | ⟨e0, G0, ⟨e1, e2⟩, -, w1⟩
    · exact False.elim hz
    · rcases ln_X10_vote p2 with ⟨_, _, hz, -, -⟩ | ⟨e9, G1, ⟨e3, hs2⟩, -, w2⟩
      · exact False.elim hz
      · have w1 : ∀ (K2 : Int32 → GF → Prop) (X2 : String → GF → Prop), X2 e F1 → P_X10_vote F a1 a2 a3 K2 X2 := fun K2 X2 hz => w1 K2 X2 (by rw [e1, e2]; exact hz)
        have w2 : ∀ (K2 : Int32 → GF → Prop) (X2 : String → GF → Prop), X2 e G1 → P_X10_vote F' a1 a2 a3 K2 X2 := fun K2 X2 hz => w2 K2 X2 (by rw [e3]; exact hz)
        refine ⟨-8, -8, F1, F2, G1, rfl, fun K hK => ?_, fun K hK => ?_, hs2, q, g⟩
        · skip
          unfold P_M_vote
          refine w1 _ _ ?_
          rcases he with rfl | rfl | rfl
          · exact Or.inl ⟨rfl, hK⟩
          · exact Or.inr ((Or.inl ⟨rfl, hK⟩))
          · exact Or.inr (Or.inr (⟨rfl, hK⟩))
        · skip
          unfold P_M_vote
          refine w2 _ _ ?_
          rcases he with rfl | rfl | rfl
          · exact Or.inl ⟨rfl, hK⟩
          · exact Or.inr ((Or.inl ⟨rfl, hK⟩))
          · exact Or.inr (Or.inr (⟨rfl, hK⟩))
theorem two_count {k : Nat} {H H' F F' : GF} (hk : k < 512) (h : Inv k F) (hs : Sx true H H' F F') (a1 : Int32) (a2 : Int32) : Two (k + 1) (fun r r' => r = r') (P_M_count F a1 a2) (P_M_count F' a1 a2) := by
  rcases pr_count hk h hs a1 a2 with ⟨r, F1, F2, p1, p2, q, g⟩ | ⟨e, F1, F2, he, p1, p2, q, g⟩
  · skip
    rcases ln_X10_count p1 with ⟨r0, G0, ⟨e1, e2⟩, -, w1⟩ | ⟨_, _, hz, -, -⟩
    · rcases ln_X10_count p2 with ⟨r1, G1, ⟨e3, hs2⟩, -, w2⟩ | ⟨_, _, hz, -, -⟩
      · have w1 : ∀ (K2 : Int32 → GF → Prop) (X2 : String → GF → Prop), K2 r F1 → P_X10_count F a1 a2 K2 X2 := fun K2 X2 hz => w1 K2 X2 (by rw [e1, e2]; exact hz)
        have w2 : ∀ (K2 : Int32 → GF → Prop) (X2 : String → GF → Prop), K2 r G1 → P_X10_count F' a1 a2 K2 X2 := fun K2 X2 hz => w2 K2 X2 (by rw [e3]; exact hz)
        refine ⟨(if r = 0 then 0 else 1), (if r = 0 then 0 else 1), F1, F2, G1, rfl, fun K hK => ?_, fun K hK => ?_, hs2, q, g⟩
        · skip
          unfold P_M_count
          exact w1 _ _ (bzK hK)
        · skip
          unfold P_M_count
          exact w2 _ _ (bzK hK)
      · exact False.elim hz
    · exact False.elim hz
  · skip
    rcases ln_X10_count p1 with ⟨_, _, hz, -, -⟩ | ⟨e0, G0, ⟨e1, e2⟩, -, w1⟩
    · exact False.elim hz
    · rcases ln_X10_count p2 with ⟨_, _, hz, -, -⟩ | ⟨e9, G1, ⟨e3, hs2⟩, -, w2⟩
      · exact False.elim hz
      · have w1 : ∀ (K2 : Int32 → GF → Prop) (X2 : String → GF → Prop), X2 e F1 → P_X10_count F a1 a2 K2 X2 := fun K2 X2 hz => w1 K2 X2 (by rw [e1, e2]; exact hz)
        have w2 : ∀ (K2 : Int32 → GF → Prop) (X2 : String → GF → Prop), X2 e G1 → P_X10_count F' a1 a2 K2 X2 := fun K2 X2 hz => w2 K2 X2 (by rw [e3]; exact hz)
        refine ⟨-8, -8, F1, F2, G1, rfl, fun K hK => ?_, fun K hK => ?_, hs2, q, g⟩
        · skip
          unfold P_M_count
          refine w1 _ _ ?_
          rcases he with rfl | rfl
          · exact Or.inl ⟨rfl, hK⟩
          · exact Or.inr ⟨rfl, hK⟩
        · skip
          unfold P_M_count
          refine w2 _ _ ?_
          rcases he with rfl | rfl
          · exact Or.inl ⟨rfl, hK⟩
          · exact Or.inr ⟨rfl, hK⟩
theorem two_of0 {k : Nat} {H H' F F' : GF} (h : Inv k F) (hs : Sx true H H' F F') (a1 : Int32) : Two k (fun r r' => r = r') (P_M_of F 0 a1) (P_M_of F' 0 a1) := by
  rcases pr_isOnRoll h hs a1 with ⟨r, F1, F2, p1, p2, q, g⟩ | ⟨e, F1, F2, he, p1, p2, q, g⟩
  · skip
    rcases ln_X10_isOnRoll p1 with ⟨r0, G0, ⟨e1, e2⟩, -, w1⟩ | ⟨_, _, hz, -, -⟩
    · rcases ln_X10_isOnRoll p2 with ⟨r1, G1, ⟨e3, hs2⟩, -, w2⟩ | ⟨_, _, hz, -, -⟩
      · have w1 : ∀ (K2 : Int32 → GF → Prop) (X2 : String → GF → Prop), K2 r F1 → P_X10_isOnRoll F a1 K2 X2 := fun K2 X2 hz => w1 K2 X2 (by rw [e1, e2]; exact hz)
        have w2 : ∀ (K2 : Int32 → GF → Prop) (X2 : String → GF → Prop), K2 r G1 → P_X10_isOnRoll F' a1 K2 X2 := fun K2 X2 hz => w2 K2 X2 (by rw [e3]; exact hz)
        refine ⟨(if r = 0 then 0 else 1), (if r = 0 then 0 else 1), F1, F2, G1, rfl, fun K hK => ?_, fun K hK => ?_, hs2, q, g⟩
        · skip
          unfold P_M_of
          rw [if_pos rfl]
          exact w1 _ _ (bzK hK)
        · skip
          unfold P_M_of
          rw [if_pos rfl]
          exact w2 _ _ (bzK hK)
      · exact False.elim hz
    · exact False.elim hz
  · skip
    rcases ln_X10_isOnRoll p1 with ⟨_, _, hz, -, -⟩ | ⟨e0, G0, ⟨e1, e2⟩, -, w1⟩
    · exact False.elim hz
    · rcases ln_X10_isOnRoll p2 with ⟨_, _, hz, -, -⟩ | ⟨e9, G1, ⟨e3, hs2⟩, -, w2⟩
      · exact False.elim hz
      · have w1 : ∀ (K2 : Int32 → GF → Prop) (X2 : String → GF → Prop), X2 e F1 → P_X10_isOnRoll F a1 K2 X2 := fun K2 X2 hz => w1 K2 X2 (by rw [e1, e2]; exact hz)
        have w2 : ∀ (K2 : Int32 → GF → Prop) (X2 : String → GF → Prop), X2 e G1 → P_X10_isOnRoll F' a1 K2 X2 := fun K2 X2 hz => w2 K2 X2 (by rw [e3]; exact hz)
        refine ⟨-8, -8, F1, F2, G1, rfl, fun K hK => ?_, fun K hK => ?_, hs2, q, g⟩
        · skip
          unfold P_M_of
          rw [if_pos rfl]
          refine w1 _ _ ?_
          subst he
          exact ⟨rfl, hK⟩
        · skip
          unfold P_M_of
          rw [if_pos rfl]
          refine w2 _ _ ?_
          subst he
          exact ⟨rfl, hK⟩
theorem two_of1 {k : Nat} {H H' F F' : GF} (h : Inv k F) (hs : Sx true H H' F F') (a1 : Int32) : Two k (fun r r' => r = r') (P_M_of F 1 a1) (P_M_of F' 1 a1) := by
  rcases pr_stationOf h hs a1 with ⟨r, F1, F2, p1, p2, q, g⟩ | ⟨e, F1, F2, he, p1, p2, q, g⟩
  · skip
    rcases ln_X10_stationOf p1 with ⟨r0, G0, ⟨e1, e2⟩, -, w1⟩ | ⟨_, _, hz, -, -⟩
    · rcases ln_X10_stationOf p2 with ⟨r1, G1, ⟨e3, hs2⟩, -, w2⟩ | ⟨_, _, hz, -, -⟩
      · have w1 : ∀ (K2 : Int32 → GF → Prop) (X2 : String → GF → Prop), K2 r F1 → P_X10_stationOf F a1 K2 X2 := fun K2 X2 hz => w1 K2 X2 (by rw [e1, e2]; exact hz)
        have w2 : ∀ (K2 : Int32 → GF → Prop) (X2 : String → GF → Prop), K2 r G1 → P_X10_stationOf F' a1 K2 X2 := fun K2 X2 hz => w2 K2 X2 (by rw [e3]; exact hz)
        refine ⟨r, r, F1, F2, G1, rfl, fun K hK => ?_, fun K hK => ?_, hs2, q, g⟩
        · skip
          unfold P_M_of
          rw [if_neg (show ¬ (1 : Int32) = 0 by decide), if_pos rfl]
          exact w1 _ _ hK
        · skip
          unfold P_M_of
          rw [if_neg (show ¬ (1 : Int32) = 0 by decide), if_pos rfl]
          exact w2 _ _ hK
      · exact False.elim hz
    · exact False.elim hz
  · skip
    rcases ln_X10_stationOf p1 with ⟨_, _, hz, -, -⟩ | ⟨e0, G0, ⟨e1, e2⟩, -, w1⟩
    · exact False.elim hz
    · rcases ln_X10_stationOf p2 with ⟨_, _, hz, -, -⟩ | ⟨e9, G1, ⟨e3, hs2⟩, -, w2⟩
      · exact False.elim hz
      · have w1 : ∀ (K2 : Int32 → GF → Prop) (X2 : String → GF → Prop), X2 e F1 → P_X10_stationOf F a1 K2 X2 := fun K2 X2 hz => w1 K2 X2 (by rw [e1, e2]; exact hz)
        have w2 : ∀ (K2 : Int32 → GF → Prop) (X2 : String → GF → Prop), X2 e G1 → P_X10_stationOf F' a1 K2 X2 := fun K2 X2 hz => w2 K2 X2 (by rw [e3]; exact hz)
        refine ⟨-8, -8, F1, F2, G1, rfl, fun K hK => ?_, fun K hK => ?_, hs2, q, g⟩
        · skip
          unfold P_M_of
          rw [if_neg (show ¬ (1 : Int32) = 0 by decide), if_pos rfl]
          refine w1 _ _ ?_
          subst he
          exact ⟨rfl, hK⟩
        · skip
          unfold P_M_of
          rw [if_neg (show ¬ (1 : Int32) = 0 by decide), if_pos rfl]
          refine w2 _ _ ?_
          subst he
          exact ⟨rfl, hK⟩
theorem two_of2 {k : Nat} {H H' F F' : GF} (h : Inv k F) (hs : Sx true H H' F F') (a1 : Int32) : Two k (fun r r' => r = r') (P_M_of F 2 a1) (P_M_of F' 2 a1) := by
  rcases pr_peopleOf h hs a1 with ⟨r, F1, F2, p1, p2, q, g⟩ | ⟨e, F1, F2, he, p1, p2, q, g⟩
  · skip
    rcases ln_X10_peopleOf p1 with ⟨r0, G0, ⟨e1, e2⟩, -, w1⟩ | ⟨_, _, hz, -, -⟩
    · rcases ln_X10_peopleOf p2 with ⟨r1, G1, ⟨e3, hs2⟩, -, w2⟩ | ⟨_, _, hz, -, -⟩
      · have w1 : ∀ (K2 : Int32 → GF → Prop) (X2 : String → GF → Prop), K2 r F1 → P_X10_peopleOf F a1 K2 X2 := fun K2 X2 hz => w1 K2 X2 (by rw [e1, e2]; exact hz)
        have w2 : ∀ (K2 : Int32 → GF → Prop) (X2 : String → GF → Prop), K2 r G1 → P_X10_peopleOf F' a1 K2 X2 := fun K2 X2 hz => w2 K2 X2 (by rw [e3]; exact hz)
        refine ⟨r, r, F1, F2, G1, rfl, fun K hK => ?_, fun K hK => ?_, hs2, q, g⟩
        · skip
          unfold P_M_of
          rw [if_neg (show ¬ (2 : Int32) = 0 by decide), if_neg (show ¬ (2 : Int32) = 1 by decide), if_pos rfl]
          exact w1 _ _ hK
        · skip
          unfold P_M_of
          rw [if_neg (show ¬ (2 : Int32) = 0 by decide), if_neg (show ¬ (2 : Int32) = 1 by decide), if_pos rfl]
          exact w2 _ _ hK
      · exact False.elim hz
    · exact False.elim hz
  · skip
    rcases ln_X10_peopleOf p1 with ⟨_, _, hz, -, -⟩ | ⟨e0, G0, ⟨e1, e2⟩, -, w1⟩
    · exact False.elim hz
    · rcases ln_X10_peopleOf p2 with ⟨_, _, hz, -, -⟩ | ⟨e9, G1, ⟨e3, hs2⟩, -, w2⟩
      · exact False.elim hz
      · have w1 : ∀ (K2 : Int32 → GF → Prop) (X2 : String → GF → Prop), X2 e F1 → P_X10_peopleOf F a1 K2 X2 := fun K2 X2 hz => w1 K2 X2 (by rw [e1, e2]; exact hz)
        have w2 : ∀ (K2 : Int32 → GF → Prop) (X2 : String → GF → Prop), X2 e G1 → P_X10_peopleOf F' a1 K2 X2 := fun K2 X2 hz => w2 K2 X2 (by rw [e3]; exact hz)
        refine ⟨-8, -8, F1, F2, G1, rfl, fun K hK => ?_, fun K hK => ?_, hs2, q, g⟩
        · skip
          unfold P_M_of
          rw [if_neg (show ¬ (2 : Int32) = 0 by decide), if_neg (show ¬ (2 : Int32) = 1 by decide), if_pos rfl]
          refine w1 _ _ ?_
          subst he
          exact ⟨rfl, hK⟩
        · skip
          unfold P_M_of
          rw [if_neg (show ¬ (2 : Int32) = 0 by decide), if_neg (show ¬ (2 : Int32) = 1 by decide), if_pos rfl]
          refine w2 _ _ ?_
          subst he
          exact ⟨rfl, hK⟩
theorem two_of3 {k : Nat} {H H' F F' : GF} (h : Inv k F) (hs : Sx true H H' F F') (a1 : Int32) : Two k (fun r r' => r = r') (P_M_of F 3 a1) (P_M_of F' 3 a1) := by
  rcases pr_ballots h hs a1 with ⟨r, F1, F2, p1, p2, q, g⟩ | ⟨e, F1, F2, he, p1, p2, q, g⟩
  · skip
    rcases ln_X10_ballots p1 with ⟨r0, G0, ⟨e1, e2⟩, -, w1⟩ | ⟨_, _, hz, -, -⟩
    · rcases ln_X10_ballots p2 with ⟨r1, G1, ⟨e3, hs2⟩, -, w2⟩ | ⟨_, _, hz, -, -⟩
      · have w1 : ∀ (K2 : Int32 → GF → Prop) (X2 : String → GF → Prop), K2 r F1 → P_X10_ballots F a1 K2 X2 := fun K2 X2 hz => w1 K2 X2 (by rw [e1, e2]; exact hz)
        have w2 : ∀ (K2 : Int32 → GF → Prop) (X2 : String → GF → Prop), K2 r G1 → P_X10_ballots F' a1 K2 X2 := fun K2 X2 hz => w2 K2 X2 (by rw [e3]; exact hz)
        refine ⟨r, r, F1, F2, G1, rfl, fun K hK => ?_, fun K hK => ?_, hs2, q, g⟩
        · skip
          unfold P_M_of
          rw [if_neg (show ¬ (3 : Int32) = 0 by decide), if_neg (show ¬ (3 : Int32) = 1 by decide), if_neg (show ¬ (3 : Int32) = 2 by decide), if_pos rfl]
          exact w1 _ _ hK
        · skip
          unfold P_M_of
          rw [if_neg (show ¬ (3 : Int32) = 0 by decide), if_neg (show ¬ (3 : Int32) = 1 by decide), if_neg (show ¬ (3 : Int32) = 2 by decide), if_pos rfl]
          exact w2 _ _ hK
      · exact False.elim hz
    · exact False.elim hz
  · skip
    rcases ln_X10_ballots p1 with ⟨_, _, hz, -, -⟩ | ⟨e0, G0, ⟨e1, e2⟩, -, w1⟩
    · exact False.elim hz
    · rcases ln_X10_ballots p2 with ⟨_, _, hz, -, -⟩ | ⟨e9, G1, ⟨e3, hs2⟩, -, w2⟩
      · exact False.elim hz
      · have w1 : ∀ (K2 : Int32 → GF → Prop) (X2 : String → GF → Prop), X2 e F1 → P_X10_ballots F a1 K2 X2 := fun K2 X2 hz => w1 K2 X2 (by rw [e1, e2]; exact hz)
        have w2 : ∀ (K2 : Int32 → GF → Prop) (X2 : String → GF → Prop), X2 e G1 → P_X10_ballots F' a1 K2 X2 := fun K2 X2 hz => w2 K2 X2 (by rw [e3]; exact hz)
        refine ⟨-8, -8, F1, F2, G1, rfl, fun K hK => ?_, fun K hK => ?_, hs2, q, g⟩
        · skip
          unfold P_M_of
          rw [if_neg (show ¬ (3 : Int32) = 0 by decide), if_neg (show ¬ (3 : Int32) = 1 by decide), if_neg (show ¬ (3 : Int32) = 2 by decide), if_pos rfl]
          refine w1 _ _ ?_
          subst he
          exact ⟨rfl, hK⟩
        · skip
          unfold P_M_of
          rw [if_neg (show ¬ (3 : Int32) = 0 by decide), if_neg (show ¬ (3 : Int32) = 1 by decide), if_neg (show ¬ (3 : Int32) = 2 by decide), if_pos rfl]
          refine w2 _ _ ?_
          subst he
          exact ⟨rfl, hK⟩
theorem two_of4 {k : Nat} {H H' F F' : GF} (h : Inv k F) (hs : Sx true H H' F F') (a1 : Int32) : Two k (fun r r' => r = r') (P_M_of F 4 a1) (P_M_of F' 4 a1) := by
  rcases pr_isSettled h hs a1 with ⟨r, F1, F2, p1, p2, q, g⟩ | ⟨e, F1, F2, he, p1, p2, q, g⟩
  · skip
    rcases ln_X10_isSettled p1 with ⟨r0, G0, ⟨e1, e2⟩, -, w1⟩ | ⟨_, _, hz, -, -⟩
    · rcases ln_X10_isSettled p2 with ⟨r1, G1, ⟨e3, hs2⟩, -, w2⟩ | ⟨_, _, hz, -, -⟩
      · have w1 : ∀ (K2 : Int32 → GF → Prop) (X2 : String → GF → Prop), K2 r F1 → P_X10_isSettled F a1 K2 X2 := fun K2 X2 hz => w1 K2 X2 (by rw [e1, e2]; exact hz)
        have w2 : ∀ (K2 : Int32 → GF → Prop) (X2 : String → GF → Prop), K2 r G1 → P_X10_isSettled F' a1 K2 X2 := fun K2 X2 hz => w2 K2 X2 (by rw [e3]; exact hz)
        refine ⟨(if r = 0 then 0 else 1), (if r = 0 then 0 else 1), F1, F2, G1, rfl, fun K hK => ?_, fun K hK => ?_, hs2, q, g⟩
        · skip
          unfold P_M_of
          rw [if_neg (show ¬ (4 : Int32) = 0 by decide), if_neg (show ¬ (4 : Int32) = 1 by decide), if_neg (show ¬ (4 : Int32) = 2 by decide), if_neg (show ¬ (4 : Int32) = 3 by decide), if_pos rfl]
          exact w1 _ _ (bzK hK)
        · skip
          unfold P_M_of
          rw [if_neg (show ¬ (4 : Int32) = 0 by decide), if_neg (show ¬ (4 : Int32) = 1 by decide), if_neg (show ¬ (4 : Int32) = 2 by decide), if_neg (show ¬ (4 : Int32) = 3 by decide), if_pos rfl]
          exact w2 _ _ (bzK hK)
      · exact False.elim hz
    · exact False.elim hz
  · skip
    rcases ln_X10_isSettled p1 with ⟨_, _, hz, -, -⟩ | ⟨e0, G0, ⟨e1, e2⟩, -, w1⟩
    · exact False.elim hz
    · rcases ln_X10_isSettled p2 with ⟨_, _, hz, -, -⟩ | ⟨e9, G1, ⟨e3, hs2⟩, -, w2⟩
      · exact False.elim hz
      · have w1 : ∀ (K2 : Int32 → GF → Prop) (X2 : String → GF → Prop), X2 e F1 → P_X10_isSettled F a1 K2 X2 := fun K2 X2 hz => w1 K2 X2 (by rw [e1, e2]; exact hz)
        have w2 : ∀ (K2 : Int32 → GF → Prop) (X2 : String → GF → Prop), X2 e G1 → P_X10_isSettled F' a1 K2 X2 := fun K2 X2 hz => w2 K2 X2 (by rw [e3]; exact hz)
        refine ⟨-8, -8, F1, F2, G1, rfl, fun K hK => ?_, fun K hK => ?_, hs2, q, g⟩
        · skip
          unfold P_M_of
          rw [if_neg (show ¬ (4 : Int32) = 0 by decide), if_neg (show ¬ (4 : Int32) = 1 by decide), if_neg (show ¬ (4 : Int32) = 2 by decide), if_neg (show ¬ (4 : Int32) = 3 by decide), if_pos rfl]
          refine w1 _ _ ?_
          subst he
          exact ⟨rfl, hK⟩
        · skip
          unfold P_M_of
          rw [if_neg (show ¬ (4 : Int32) = 0 by decide), if_neg (show ¬ (4 : Int32) = 1 by decide), if_neg (show ¬ (4 : Int32) = 2 by decide), if_neg (show ¬ (4 : Int32) = 3 by decide), if_pos rfl]
          refine w2 _ _ ?_
          subst he
          exact ⟨rfl, hK⟩
theorem two_of5 {k : Nat} {H H' F F' : GF} (h : Inv k F) (hs : Sx true H H' F F') (a1 : Int32) : Two k (fun r r' => r = r') (P_M_of F 5 a1) (P_M_of F' 5 a1) := by
  rcases pr_misread h hs a1 with ⟨r, F1, F2, p1, p2, q, g⟩ | ⟨e, F1, F2, he, p1, p2, q, g⟩
  · skip
    rcases ln_X10_misread p1 with ⟨r0, G0, ⟨e1, e2⟩, -, w1⟩ | ⟨_, _, hz, -, -⟩
    · rcases ln_X10_misread p2 with ⟨r1, G1, ⟨e3, hs2⟩, -, w2⟩ | ⟨_, _, hz, -, -⟩
      · have w1 : ∀ (K2 : Int32 → GF → Prop) (X2 : String → GF → Prop), K2 r F1 → P_X10_misread F a1 K2 X2 := fun K2 X2 hz => w1 K2 X2 (by rw [e1, e2]; exact hz)
        have w2 : ∀ (K2 : Int32 → GF → Prop) (X2 : String → GF → Prop), K2 r G1 → P_X10_misread F' a1 K2 X2 := fun K2 X2 hz => w2 K2 X2 (by rw [e3]; exact hz)
        refine ⟨r, r, F1, F2, G1, rfl, fun K hK => ?_, fun K hK => ?_, hs2, q, g⟩
        · skip
          unfold P_M_of
          rw [if_neg (show ¬ (5 : Int32) = 0 by decide), if_neg (show ¬ (5 : Int32) = 1 by decide), if_neg (show ¬ (5 : Int32) = 2 by decide), if_neg (show ¬ (5 : Int32) = 3 by decide), if_neg (show ¬ (5 : Int32) = 4 by decide), if_pos rfl]
          exact w1 _ _ hK
        · skip
          unfold P_M_of
          rw [if_neg (show ¬ (5 : Int32) = 0 by decide), if_neg (show ¬ (5 : Int32) = 1 by decide), if_neg (show ¬ (5 : Int32) = 2 by decide), if_neg (show ¬ (5 : Int32) = 3 by decide), if_neg (show ¬ (5 : Int32) = 4 by decide), if_pos rfl]
          exact w2 _ _ hK
      · exact False.elim hz
    · exact False.elim hz
  · skip
    rcases ln_X10_misread p1 with ⟨_, _, hz, -, -⟩ | ⟨e0, G0, ⟨e1, e2⟩, -, w1⟩
    · exact False.elim hz
    · rcases ln_X10_misread p2 with ⟨_, _, hz, -, -⟩ | ⟨e9, G1, ⟨e3, hs2⟩, -, w2⟩
      · exact False.elim hz
      · have w1 : ∀ (K2 : Int32 → GF → Prop) (X2 : String → GF → Prop), X2 e F1 → P_X10_misread F a1 K2 X2 := fun K2 X2 hz => w1 K2 X2 (by rw [e1, e2]; exact hz)
        have w2 : ∀ (K2 : Int32 → GF → Prop) (X2 : String → GF → Prop), X2 e G1 → P_X10_misread F' a1 K2 X2 := fun K2 X2 hz => w2 K2 X2 (by rw [e3]; exact hz)
        refine ⟨-8, -8, F1, F2, G1, rfl, fun K hK => ?_, fun K hK => ?_, hs2, q, g⟩
        · skip
          unfold P_M_of
          rw [if_neg (show ¬ (5 : Int32) = 0 by decide), if_neg (show ¬ (5 : Int32) = 1 by decide), if_neg (show ¬ (5 : Int32) = 2 by decide), if_neg (show ¬ (5 : Int32) = 3 by decide), if_neg (show ¬ (5 : Int32) = 4 by decide), if_pos rfl]
          refine w1 _ _ ?_
          subst he
          exact ⟨rfl, hK⟩
        · skip
          unfold P_M_of
          rw [if_neg (show ¬ (5 : Int32) = 0 by decide), if_neg (show ¬ (5 : Int32) = 1 by decide), if_neg (show ¬ (5 : Int32) = 2 by decide), if_neg (show ¬ (5 : Int32) = 3 by decide), if_neg (show ¬ (5 : Int32) = 4 by decide), if_pos rfl]
          refine w2 _ _ ?_
          subst he
          exact ⟨rfl, hK⟩
theorem two_of6 {k : Nat} {H H' F F' : GF} (h : Inv k F) (hs : Sx true H H' F F') (a1 : Int32) : Two k (fun r r' => r = r') (P_M_of F 6 a1) (P_M_of F' 6 a1) := by
  rcases pr_stateOf h hs a1 with ⟨r, F1, F2, p1, p2, q, g⟩ | ⟨e, F1, F2, he, p1, p2, q, g⟩
  · skip
    rcases ln_X10_stateOf p1 with ⟨r0, G0, ⟨e1, e2⟩, -, w1⟩ | ⟨_, _, hz, -, -⟩
    · rcases ln_X10_stateOf p2 with ⟨r1, G1, ⟨e3, hs2⟩, -, w2⟩ | ⟨_, _, hz, -, -⟩
      · have w1 : ∀ (K2 : Int32 → GF → Prop) (X2 : String → GF → Prop), K2 r F1 → P_X10_stateOf F a1 K2 X2 := fun K2 X2 hz => w1 K2 X2 (by rw [e1, e2]; exact hz)
        have w2 : ∀ (K2 : Int32 → GF → Prop) (X2 : String → GF → Prop), K2 r G1 → P_X10_stateOf F' a1 K2 X2 := fun K2 X2 hz => w2 K2 X2 (by rw [e3]; exact hz)
        refine ⟨r, r, F1, F2, G1, rfl, fun K hK => ?_, fun K hK => ?_, hs2, q, g⟩
        · skip
          unfold P_M_of
          rw [if_neg (show ¬ (6 : Int32) = 0 by decide), if_neg (show ¬ (6 : Int32) = 1 by decide), if_neg (show ¬ (6 : Int32) = 2 by decide), if_neg (show ¬ (6 : Int32) = 3 by decide), if_neg (show ¬ (6 : Int32) = 4 by decide), if_neg (show ¬ (6 : Int32) = 5 by decide), if_pos rfl]
          exact w1 _ _ hK
        · skip
          unfold P_M_of
          rw [if_neg (show ¬ (6 : Int32) = 0 by decide), if_neg (show ¬ (6 : Int32) = 1 by decide), if_neg (show ¬ (6 : Int32) = 2 by decide), if_neg (show ¬ (6 : Int32) = 3 by decide), if_neg (show ¬ (6 : Int32) = 4 by decide), if_neg (show ¬ (6 : Int32) = 5 by decide), if_pos rfl]
          exact w2 _ _ hK
      · exact False.elim hz
    · exact False.elim hz
  · skip
    rcases ln_X10_stateOf p1 with ⟨_, _, hz, -, -⟩ | ⟨e0, G0, ⟨e1, e2⟩, -, w1⟩
    · exact False.elim hz
    · rcases ln_X10_stateOf p2 with ⟨_, _, hz, -, -⟩ | ⟨e9, G1, ⟨e3, hs2⟩, -, w2⟩
      · exact False.elim hz
      · have w1 : ∀ (K2 : Int32 → GF → Prop) (X2 : String → GF → Prop), X2 e F1 → P_X10_stateOf F a1 K2 X2 := fun K2 X2 hz => w1 K2 X2 (by rw [e1, e2]; exact hz)
        have w2 : ∀ (K2 : Int32 → GF → Prop) (X2 : String → GF → Prop), X2 e G1 → P_X10_stateOf F' a1 K2 X2 := fun K2 X2 hz => w2 K2 X2 (by rw [e3]; exact hz)
        refine ⟨-8, -8, F1, F2, G1, rfl, fun K hK => ?_, fun K hK => ?_, hs2, q, g⟩
        · skip
          unfold P_M_of
          rw [if_neg (show ¬ (6 : Int32) = 0 by decide), if_neg (show ¬ (6 : Int32) = 1 by decide), if_neg (show ¬ (6 : Int32) = 2 by decide), if_neg (show ¬ (6 : Int32) = 3 by decide), if_neg (show ¬ (6 : Int32) = 4 by decide), if_neg (show ¬ (6 : Int32) = 5 by decide), if_pos rfl]
          refine w1 _ _ ?_
          subst he
          exact ⟨rfl, hK⟩
        · skip
          unfold P_M_of
          rw [if_neg (show ¬ (6 : Int32) = 0 by decide), if_neg (show ¬ (6 : Int32) = 1 by decide), if_neg (show ¬ (6 : Int32) = 2 by decide), if_neg (show ¬ (6 : Int32) = 3 by decide), if_neg (show ¬ (6 : Int32) = 4 by decide), if_neg (show ¬ (6 : Int32) = 5 by decide), if_pos rfl]
          refine w2 _ _ ?_
          subst he
          exact ⟨rfl, hK⟩
theorem two_of7 {k : Nat} {H H' F F' : GF} (h : Inv k F) (hs : Sx true H H' F F') (a1 : Int32) : Two k (fun r r' => r = r') (P_M_of F 7 a1) (P_M_of F' 7 a1) := by
  rcases pr_personOf h hs a1 with ⟨r, F1, F2, p1, p2, q, g⟩ | ⟨e, F1, F2, he, p1, p2, q, g⟩
  · skip
    rcases ln_X10_personOf p1 with ⟨r0, G0, ⟨e1, e2⟩, -, w1⟩ | ⟨_, _, hz, -, -⟩
    · rcases ln_X10_personOf p2 with ⟨r1, G1, ⟨e3, hs2⟩, -, w2⟩ | ⟨_, _, hz, -, -⟩
      · have w1 : ∀ (K2 : Int32 → GF → Prop) (X2 : String → GF → Prop), K2 r F1 → P_X10_personOf F a1 K2 X2 := fun K2 X2 hz => w1 K2 X2 (by rw [e1, e2]; exact hz)
        have w2 : ∀ (K2 : Int32 → GF → Prop) (X2 : String → GF → Prop), K2 r G1 → P_X10_personOf F' a1 K2 X2 := fun K2 X2 hz => w2 K2 X2 (by rw [e3]; exact hz)
        refine ⟨r, r, F1, F2, G1, rfl, fun K hK => ?_, fun K hK => ?_, hs2, q, g⟩
        · skip
          unfold P_M_of
          rw [if_neg (show ¬ (7 : Int32) = 0 by decide), if_neg (show ¬ (7 : Int32) = 1 by decide), if_neg (show ¬ (7 : Int32) = 2 by decide), if_neg (show ¬ (7 : Int32) = 3 by decide), if_neg (show ¬ (7 : Int32) = 4 by decide), if_neg (show ¬ (7 : Int32) = 5 by decide), if_neg (show ¬ (7 : Int32) = 6 by decide), if_pos rfl]
          exact w1 _ _ hK
        · skip
          unfold P_M_of
          rw [if_neg (show ¬ (7 : Int32) = 0 by decide), if_neg (show ¬ (7 : Int32) = 1 by decide), if_neg (show ¬ (7 : Int32) = 2 by decide), if_neg (show ¬ (7 : Int32) = 3 by decide), if_neg (show ¬ (7 : Int32) = 4 by decide), if_neg (show ¬ (7 : Int32) = 5 by decide), if_neg (show ¬ (7 : Int32) = 6 by decide), if_pos rfl]
          exact w2 _ _ hK
      · exact False.elim hz
    · exact False.elim hz
  · skip
    rcases ln_X10_personOf p1 with ⟨_, _, hz, -, -⟩ | ⟨e0, G0, ⟨e1, e2⟩, -, w1⟩
    · exact False.elim hz
    · rcases ln_X10_personOf p2 with ⟨_, _, hz, -, -⟩ | ⟨e9, G1, ⟨e3, hs2⟩, -, w2⟩
      · exact False.elim hz
      · have w1 : ∀ (K2 : Int32 → GF → Prop) (X2 : String → GF → Prop), X2 e F1 → P_X10_personOf F a1 K2 X2 := fun K2 X2 hz => w1 K2 X2 (by rw [e1, e2]; exact hz)
        have w2 : ∀ (K2 : Int32 → GF → Prop) (X2 : String → GF → Prop), X2 e G1 → P_X10_personOf F' a1 K2 X2 := fun K2 X2 hz => w2 K2 X2 (by rw [e3]; exact hz)
        refine ⟨-8, -8, F1, F2, G1, rfl, fun K hK => ?_, fun K hK => ?_, hs2, q, g⟩
        · skip
          unfold P_M_of
          rw [if_neg (show ¬ (7 : Int32) = 0 by decide), if_neg (show ¬ (7 : Int32) = 1 by decide), if_neg (show ¬ (7 : Int32) = 2 by decide), if_neg (show ¬ (7 : Int32) = 3 by decide), if_neg (show ¬ (7 : Int32) = 4 by decide), if_neg (show ¬ (7 : Int32) = 5 by decide), if_neg (show ¬ (7 : Int32) = 6 by decide), if_pos rfl]
          refine w1 _ _ ?_
          subst he
          exact ⟨rfl, hK⟩
        · skip
          unfold P_M_of
          rw [if_neg (show ¬ (7 : Int32) = 0 by decide), if_neg (show ¬ (7 : Int32) = 1 by decide), if_neg (show ¬ (7 : Int32) = 2 by decide), if_neg (show ¬ (7 : Int32) = 3 by decide), if_neg (show ¬ (7 : Int32) = 4 by decide), if_neg (show ¬ (7 : Int32) = 5 by decide), if_neg (show ¬ (7 : Int32) = 6 by decide), if_pos rfl]
          refine w2 _ _ ?_
          subst he
          exact ⟨rfl, hK⟩
theorem two_of8 {k : Nat} {H H' F F' : GF} (h : Inv k F) (hs : Sx true H H' F F') (a1 : Int32) : Two k (fun r r' => r = r') (P_M_of F 8 a1) (P_M_of F' 8 a1) := by
  rcases pr_votes h hs a1 with ⟨r, F1, F2, p1, p2, q, g⟩ | ⟨e, F1, F2, he, p1, p2, q, g⟩
  · skip
    rcases ln_X10_votes p1 with ⟨r0, G0, ⟨e1, e2⟩, -, w1⟩ | ⟨_, _, hz, -, -⟩
    · rcases ln_X10_votes p2 with ⟨r1, G1, ⟨e3, hs2⟩, -, w2⟩ | ⟨_, _, hz, -, -⟩
      · have w1 : ∀ (K2 : Int32 → GF → Prop) (X2 : String → GF → Prop), K2 r F1 → P_X10_votes F a1 K2 X2 := fun K2 X2 hz => w1 K2 X2 (by rw [e1, e2]; exact hz)
        have w2 : ∀ (K2 : Int32 → GF → Prop) (X2 : String → GF → Prop), K2 r G1 → P_X10_votes F' a1 K2 X2 := fun K2 X2 hz => w2 K2 X2 (by rw [e3]; exact hz)
        refine ⟨r, r, F1, F2, G1, rfl, fun K hK => ?_, fun K hK => ?_, hs2, q, g⟩
        · skip
          unfold P_M_of
          rw [if_neg (show ¬ (8 : Int32) = 0 by decide), if_neg (show ¬ (8 : Int32) = 1 by decide), if_neg (show ¬ (8 : Int32) = 2 by decide), if_neg (show ¬ (8 : Int32) = 3 by decide), if_neg (show ¬ (8 : Int32) = 4 by decide), if_neg (show ¬ (8 : Int32) = 5 by decide), if_neg (show ¬ (8 : Int32) = 6 by decide), if_neg (show ¬ (8 : Int32) = 7 by decide), if_pos rfl]
          exact w1 _ _ hK
        · skip
          unfold P_M_of
          rw [if_neg (show ¬ (8 : Int32) = 0 by decide), if_neg (show ¬ (8 : Int32) = 1 by decide), if_neg (show ¬ (8 : Int32) = 2 by decide), if_neg (show ¬ (8 : Int32) = 3 by decide), if_neg (show ¬ (8 : Int32) = 4 by decide), if_neg (show ¬ (8 : Int32) = 5 by decide), if_neg (show ¬ (8 : Int32) = 6 by decide), if_neg (show ¬ (8 : Int32) = 7 by decide), if_pos rfl]
          exact w2 _ _ hK
      · exact False.elim hz
    · exact False.elim hz
  · skip
    rcases ln_X10_votes p1 with ⟨_, _, hz, -, -⟩ | ⟨e0, G0, ⟨e1, e2⟩, -, w1⟩
    · exact False.elim hz
    · rcases ln_X10_votes p2 with ⟨_, _, hz, -, -⟩ | ⟨e9, G1, ⟨e3, hs2⟩, -, w2⟩
      · exact False.elim hz
      · have w1 : ∀ (K2 : Int32 → GF → Prop) (X2 : String → GF → Prop), X2 e F1 → P_X10_votes F a1 K2 X2 := fun K2 X2 hz => w1 K2 X2 (by rw [e1, e2]; exact hz)
        have w2 : ∀ (K2 : Int32 → GF → Prop) (X2 : String → GF → Prop), X2 e G1 → P_X10_votes F' a1 K2 X2 := fun K2 X2 hz => w2 K2 X2 (by rw [e3]; exact hz)
        refine ⟨-8, -8, F1, F2, G1, rfl, fun K hK => ?_, fun K hK => ?_, hs2, q, g⟩
        · skip
          unfold P_M_of
          rw [if_neg (show ¬ (8 : Int32) = 0 by decide), if_neg (show ¬ (8 : Int32) = 1 by decide), if_neg (show ¬ (8 : Int32) = 2 by decide), if_neg (show ¬ (8 : Int32) = 3 by decide), if_neg (show ¬ (8 : Int32) = 4 by decide), if_neg (show ¬ (8 : Int32) = 5 by decide), if_neg (show ¬ (8 : Int32) = 6 by decide), if_neg (show ¬ (8 : Int32) = 7 by decide), if_pos rfl]
          refine w1 _ _ ?_
          subst he
          exact ⟨rfl, hK⟩
        · skip
          unfold P_M_of
          rw [if_neg (show ¬ (8 : Int32) = 0 by decide), if_neg (show ¬ (8 : Int32) = 1 by decide), if_neg (show ¬ (8 : Int32) = 2 by decide), if_neg (show ¬ (8 : Int32) = 3 by decide), if_neg (show ¬ (8 : Int32) = 4 by decide), if_neg (show ¬ (8 : Int32) = 5 by decide), if_neg (show ¬ (8 : Int32) = 6 by decide), if_neg (show ¬ (8 : Int32) = 7 by decide), if_pos rfl]
          refine w2 _ _ ?_
          subst he
          exact ⟨rfl, hK⟩
theorem two_of9 {k : Nat} {H H' F F' : GF} (h : Inv k F) (hs : Sx true H H' F F') (a1 : Int32) : Two k (fun r r' => r = r') (P_M_of F 9 a1) (P_M_of F' 9 a1) := by
  rcases pr_seats h hs a1 with ⟨r, F1, F2, p1, p2, q, g⟩ | ⟨e, F1, F2, he, p1, p2, q, g⟩
  · skip
    rcases ln_X10_seats p1 with ⟨r0, G0, ⟨e1, e2⟩, -, w1⟩ | ⟨_, _, hz, -, -⟩
    · rcases ln_X10_seats p2 with ⟨r1, G1, ⟨e3, hs2⟩, -, w2⟩ | ⟨_, _, hz, -, -⟩
      · have w1 : ∀ (K2 : Int32 → GF → Prop) (X2 : String → GF → Prop), K2 r F1 → P_X10_seats F a1 K2 X2 := fun K2 X2 hz => w1 K2 X2 (by rw [e1, e2]; exact hz)
        have w2 : ∀ (K2 : Int32 → GF → Prop) (X2 : String → GF → Prop), K2 r G1 → P_X10_seats F' a1 K2 X2 := fun K2 X2 hz => w2 K2 X2 (by rw [e3]; exact hz)
        refine ⟨r, r, F1, F2, G1, rfl, fun K hK => ?_, fun K hK => ?_, hs2, q, g⟩
        · skip
          unfold P_M_of
          rw [if_neg (show ¬ (9 : Int32) = 0 by decide), if_neg (show ¬ (9 : Int32) = 1 by decide), if_neg (show ¬ (9 : Int32) = 2 by decide), if_neg (show ¬ (9 : Int32) = 3 by decide), if_neg (show ¬ (9 : Int32) = 4 by decide), if_neg (show ¬ (9 : Int32) = 5 by decide), if_neg (show ¬ (9 : Int32) = 6 by decide), if_neg (show ¬ (9 : Int32) = 7 by decide), if_neg (show ¬ (9 : Int32) = 8 by decide), if_pos rfl]
          exact w1 _ _ hK
        · skip
          unfold P_M_of
          rw [if_neg (show ¬ (9 : Int32) = 0 by decide), if_neg (show ¬ (9 : Int32) = 1 by decide), if_neg (show ¬ (9 : Int32) = 2 by decide), if_neg (show ¬ (9 : Int32) = 3 by decide), if_neg (show ¬ (9 : Int32) = 4 by decide), if_neg (show ¬ (9 : Int32) = 5 by decide), if_neg (show ¬ (9 : Int32) = 6 by decide), if_neg (show ¬ (9 : Int32) = 7 by decide), if_neg (show ¬ (9 : Int32) = 8 by decide), if_pos rfl]
          exact w2 _ _ hK
      · exact False.elim hz
    · exact False.elim hz
  · skip
    rcases ln_X10_seats p1 with ⟨_, _, hz, -, -⟩ | ⟨e0, G0, ⟨e1, e2⟩, -, w1⟩
    · exact False.elim hz
    · rcases ln_X10_seats p2 with ⟨_, _, hz, -, -⟩ | ⟨e9, G1, ⟨e3, hs2⟩, -, w2⟩
      · exact False.elim hz
      · have w1 : ∀ (K2 : Int32 → GF → Prop) (X2 : String → GF → Prop), X2 e F1 → P_X10_seats F a1 K2 X2 := fun K2 X2 hz => w1 K2 X2 (by rw [e1, e2]; exact hz)
        have w2 : ∀ (K2 : Int32 → GF → Prop) (X2 : String → GF → Prop), X2 e G1 → P_X10_seats F' a1 K2 X2 := fun K2 X2 hz => w2 K2 X2 (by rw [e3]; exact hz)
        refine ⟨-8, -8, F1, F2, G1, rfl, fun K hK => ?_, fun K hK => ?_, hs2, q, g⟩
        · skip
          unfold P_M_of
          rw [if_neg (show ¬ (9 : Int32) = 0 by decide), if_neg (show ¬ (9 : Int32) = 1 by decide), if_neg (show ¬ (9 : Int32) = 2 by decide), if_neg (show ¬ (9 : Int32) = 3 by decide), if_neg (show ¬ (9 : Int32) = 4 by decide), if_neg (show ¬ (9 : Int32) = 5 by decide), if_neg (show ¬ (9 : Int32) = 6 by decide), if_neg (show ¬ (9 : Int32) = 7 by decide), if_neg (show ¬ (9 : Int32) = 8 by decide), if_pos rfl]
          refine w1 _ _ ?_
          subst he
          exact ⟨rfl, hK⟩
        · skip
          unfold P_M_of
          rw [if_neg (show ¬ (9 : Int32) = 0 by decide), if_neg (show ¬ (9 : Int32) = 1 by decide), if_neg (show ¬ (9 : Int32) = 2 by decide), if_neg (show ¬ (9 : Int32) = 3 by decide), if_neg (show ¬ (9 : Int32) = 4 by decide), if_neg (show ¬ (9 : Int32) = 5 by decide), if_neg (show ¬ (9 : Int32) = 6 by decide), if_neg (show ¬ (9 : Int32) = 7 by decide), if_neg (show ¬ (9 : Int32) = 8 by decide), if_pos rfl]
          refine w2 _ _ ?_
          subst he
          exact ⟨rfl, hK⟩
theorem two_of10 {k : Nat} {H H' F F' : GF} (h : Inv k F) (hs : Sx true H H' F F') (a1 : Int32) : Two k (fun r r' => r = r') (P_M_of F 10 a1) (P_M_of F' 10 a1) := by
  rcases pr_seatsByBallots h hs a1 with ⟨r, F1, F2, p1, p2, q, g⟩ | ⟨e, F1, F2, he, p1, p2, q, g⟩
  · skip
    rcases ln_X10_seatsByBallots p1 with ⟨r0, G0, ⟨e1, e2⟩, -, w1⟩ | ⟨_, _, hz, -, -⟩
    · rcases ln_X10_seatsByBallots p2 with ⟨r1, G1, ⟨e3, hs2⟩, -, w2⟩ | ⟨_, _, hz, -, -⟩
      · have w1 : ∀ (K2 : Int32 → GF → Prop) (X2 : String → GF → Prop), K2 r F1 → P_X10_seatsByBallots F a1 K2 X2 := fun K2 X2 hz => w1 K2 X2 (by rw [e1, e2]; exact hz)
        have w2 : ∀ (K2 : Int32 → GF → Prop) (X2 : String → GF → Prop), K2 r G1 → P_X10_seatsByBallots F' a1 K2 X2 := fun K2 X2 hz => w2 K2 X2 (by rw [e3]; exact hz)
        refine ⟨r, r, F1, F2, G1, rfl, fun K hK => ?_, fun K hK => ?_, hs2, q, g⟩
        · skip
          unfold P_M_of
          rw [if_neg (show ¬ (10 : Int32) = 0 by decide), if_neg (show ¬ (10 : Int32) = 1 by decide), if_neg (show ¬ (10 : Int32) = 2 by decide), if_neg (show ¬ (10 : Int32) = 3 by decide), if_neg (show ¬ (10 : Int32) = 4 by decide), if_neg (show ¬ (10 : Int32) = 5 by decide), if_neg (show ¬ (10 : Int32) = 6 by decide), if_neg (show ¬ (10 : Int32) = 7 by decide), if_neg (show ¬ (10 : Int32) = 8 by decide), if_neg (show ¬ (10 : Int32) = 9 by decide), if_pos rfl]
          exact w1 _ _ hK
        · skip
          unfold P_M_of
          rw [if_neg (show ¬ (10 : Int32) = 0 by decide), if_neg (show ¬ (10 : Int32) = 1 by decide), if_neg (show ¬ (10 : Int32) = 2 by decide), if_neg (show ¬ (10 : Int32) = 3 by decide), if_neg (show ¬ (10 : Int32) = 4 by decide), if_neg (show ¬ (10 : Int32) = 5 by decide), if_neg (show ¬ (10 : Int32) = 6 by decide), if_neg (show ¬ (10 : Int32) = 7 by decide), if_neg (show ¬ (10 : Int32) = 8 by decide), if_neg (show ¬ (10 : Int32) = 9 by decide), if_pos rfl]
          exact w2 _ _ hK
      · exact False.elim hz
    · exact False.elim hz
  · skip
    rcases ln_X10_seatsByBallots p1 with ⟨_, _, hz, -, -⟩ | ⟨e0, G0, ⟨e1, e2⟩, -, w1⟩
    · exact False.elim hz
    · rcases ln_X10_seatsByBallots p2 with ⟨_, _, hz, -, -⟩ | ⟨e9, G1, ⟨e3, hs2⟩, -, w2⟩
      · exact False.elim hz
      · have w1 : ∀ (K2 : Int32 → GF → Prop) (X2 : String → GF → Prop), X2 e F1 → P_X10_seatsByBallots F a1 K2 X2 := fun K2 X2 hz => w1 K2 X2 (by rw [e1, e2]; exact hz)
        have w2 : ∀ (K2 : Int32 → GF → Prop) (X2 : String → GF → Prop), X2 e G1 → P_X10_seatsByBallots F' a1 K2 X2 := fun K2 X2 hz => w2 K2 X2 (by rw [e3]; exact hz)
        refine ⟨-8, -8, F1, F2, G1, rfl, fun K hK => ?_, fun K hK => ?_, hs2, q, g⟩
        · skip
          unfold P_M_of
          rw [if_neg (show ¬ (10 : Int32) = 0 by decide), if_neg (show ¬ (10 : Int32) = 1 by decide), if_neg (show ¬ (10 : Int32) = 2 by decide), if_neg (show ¬ (10 : Int32) = 3 by decide), if_neg (show ¬ (10 : Int32) = 4 by decide), if_neg (show ¬ (10 : Int32) = 5 by decide), if_neg (show ¬ (10 : Int32) = 6 by decide), if_neg (show ¬ (10 : Int32) = 7 by decide), if_neg (show ¬ (10 : Int32) = 8 by decide), if_neg (show ¬ (10 : Int32) = 9 by decide), if_pos rfl]
          refine w1 _ _ ?_
          subst he
          exact ⟨rfl, hK⟩
        · skip
          unfold P_M_of
          rw [if_neg (show ¬ (10 : Int32) = 0 by decide), if_neg (show ¬ (10 : Int32) = 1 by decide), if_neg (show ¬ (10 : Int32) = 2 by decide), if_neg (show ¬ (10 : Int32) = 3 by decide), if_neg (show ¬ (10 : Int32) = 4 by decide), if_neg (show ¬ (10 : Int32) = 5 by decide), if_neg (show ¬ (10 : Int32) = 6 by decide), if_neg (show ¬ (10 : Int32) = 7 by decide), if_neg (show ¬ (10 : Int32) = 8 by decide), if_neg (show ¬ (10 : Int32) = 9 by decide), if_pos rfl]
          refine w2 _ _ ?_
          subst he
          exact ⟨rfl, hK⟩
theorem two_of11 {k : Nat} {H H' F F' : GF} (h : Inv k F) (hs : Sx true H H' F F') (a1 : Int32) : Two k (fun r r' => r = r') (P_M_of F 11 a1) (P_M_of F' 11 a1) := by
  rcases pr_seatAt h hs a1 with ⟨r, F1, F2, p1, p2, q, g⟩ | ⟨e, F1, F2, he, p1, p2, q, g⟩
  · skip
    rcases ln_X10_seatAt p1 with ⟨r0, G0, ⟨e1, e2⟩, -, w1⟩ | ⟨_, _, hz, -, -⟩
    · rcases ln_X10_seatAt p2 with ⟨r1, G1, ⟨e3, hs2⟩, -, w2⟩ | ⟨_, _, hz, -, -⟩
      · have w1 : ∀ (K2 : Int32 → GF → Prop) (X2 : String → GF → Prop), K2 r F1 → P_X10_seatAt F a1 K2 X2 := fun K2 X2 hz => w1 K2 X2 (by rw [e1, e2]; exact hz)
        have w2 : ∀ (K2 : Int32 → GF → Prop) (X2 : String → GF → Prop), K2 r G1 → P_X10_seatAt F' a1 K2 X2 := fun K2 X2 hz => w2 K2 X2 (by rw [e3]; exact hz)
        refine ⟨r, r, F1, F2, G1, rfl, fun K hK => ?_, fun K hK => ?_, hs2, q, g⟩
        · skip
          unfold P_M_of
          rw [if_neg (show ¬ (11 : Int32) = 0 by decide), if_neg (show ¬ (11 : Int32) = 1 by decide), if_neg (show ¬ (11 : Int32) = 2 by decide), if_neg (show ¬ (11 : Int32) = 3 by decide), if_neg (show ¬ (11 : Int32) = 4 by decide), if_neg (show ¬ (11 : Int32) = 5 by decide), if_neg (show ¬ (11 : Int32) = 6 by decide), if_neg (show ¬ (11 : Int32) = 7 by decide), if_neg (show ¬ (11 : Int32) = 8 by decide), if_neg (show ¬ (11 : Int32) = 9 by decide), if_neg (show ¬ (11 : Int32) = 10 by decide)]
          exact w1 _ _ hK
        · skip
          unfold P_M_of
          rw [if_neg (show ¬ (11 : Int32) = 0 by decide), if_neg (show ¬ (11 : Int32) = 1 by decide), if_neg (show ¬ (11 : Int32) = 2 by decide), if_neg (show ¬ (11 : Int32) = 3 by decide), if_neg (show ¬ (11 : Int32) = 4 by decide), if_neg (show ¬ (11 : Int32) = 5 by decide), if_neg (show ¬ (11 : Int32) = 6 by decide), if_neg (show ¬ (11 : Int32) = 7 by decide), if_neg (show ¬ (11 : Int32) = 8 by decide), if_neg (show ¬ (11 : Int32) = 9 by decide), if_neg (show ¬ (11 : Int32) = 10 by decide)]
          exact w2 _ _ hK
      · exact False.elim hz
    · exact False.elim hz
  · skip
    rcases ln_X10_seatAt p1 with ⟨_, _, hz, -, -⟩ | ⟨e0, G0, ⟨e1, e2⟩, -, w1⟩
    · exact False.elim hz
    · rcases ln_X10_seatAt p2 with ⟨_, _, hz, -, -⟩ | ⟨e9, G1, ⟨e3, hs2⟩, -, w2⟩
      · exact False.elim hz
      · have w1 : ∀ (K2 : Int32 → GF → Prop) (X2 : String → GF → Prop), X2 e F1 → P_X10_seatAt F a1 K2 X2 := fun K2 X2 hz => w1 K2 X2 (by rw [e1, e2]; exact hz)
        have w2 : ∀ (K2 : Int32 → GF → Prop) (X2 : String → GF → Prop), X2 e G1 → P_X10_seatAt F' a1 K2 X2 := fun K2 X2 hz => w2 K2 X2 (by rw [e3]; exact hz)
        refine ⟨-8, -8, F1, F2, G1, rfl, fun K hK => ?_, fun K hK => ?_, hs2, q, g⟩
        · skip
          unfold P_M_of
          rw [if_neg (show ¬ (11 : Int32) = 0 by decide), if_neg (show ¬ (11 : Int32) = 1 by decide), if_neg (show ¬ (11 : Int32) = 2 by decide), if_neg (show ¬ (11 : Int32) = 3 by decide), if_neg (show ¬ (11 : Int32) = 4 by decide), if_neg (show ¬ (11 : Int32) = 5 by decide), if_neg (show ¬ (11 : Int32) = 6 by decide), if_neg (show ¬ (11 : Int32) = 7 by decide), if_neg (show ¬ (11 : Int32) = 8 by decide), if_neg (show ¬ (11 : Int32) = 9 by decide), if_neg (show ¬ (11 : Int32) = 10 by decide)]
          refine w1 _ _ ?_
          subst he
          exact ⟨rfl, hK⟩
        · skip
          unfold P_M_of
          rw [if_neg (show ¬ (11 : Int32) = 0 by decide), if_neg (show ¬ (11 : Int32) = 1 by decide), if_neg (show ¬ (11 : Int32) = 2 by decide), if_neg (show ¬ (11 : Int32) = 3 by decide), if_neg (show ¬ (11 : Int32) = 4 by decide), if_neg (show ¬ (11 : Int32) = 5 by decide), if_neg (show ¬ (11 : Int32) = 6 by decide), if_neg (show ¬ (11 : Int32) = 7 by decide), if_neg (show ¬ (11 : Int32) = 8 by decide), if_neg (show ¬ (11 : Int32) = 9 by decide), if_neg (show ¬ (11 : Int32) = 10 by decide)]
          refine w2 _ _ ?_
          subst he
          exact ⟨rfl, hK⟩
theorem two_at0 {k : Nat} {H H' F F' : GF} (h : Inv k F) (hs : Sx true H H' F F') {c : Nat} (hc : c < 36) {d : Nat} (hd : d < 36) : Two k (fun r r' => r = r') (P_M_at F 0 (nI c) (nI d)) (P_M_at F' 0 (nI (mc true c)) (nI (mc true d))) := by
  rcases pr_way h hs hc hd with ⟨r, F1, F2, p1, p2, q, g⟩ | ⟨e, F1, F2, he, p1, p2, q, g⟩
  · skip
    rcases ln_X10_way p1 with ⟨r0, G0, ⟨e1, e2⟩, -, w1⟩ | ⟨_, _, hz, -, -⟩
    · rcases ln_X10_way p2 with ⟨r1, G1, ⟨e3, hs2⟩, -, w2⟩ | ⟨_, _, hz, -, -⟩
      · have w1 : ∀ (K2 : Int32 → GF → Prop) (X2 : String → GF → Prop), K2 r F1 → P_X10_way F (nI c) (nI d) K2 X2 := fun K2 X2 hz => w1 K2 X2 (by rw [e1, e2]; exact hz)
        have w2 : ∀ (K2 : Int32 → GF → Prop) (X2 : String → GF → Prop), K2 r G1 → P_X10_way F' (nI (mc true c)) (nI (mc true d)) K2 X2 := fun K2 X2 hz => w2 K2 X2 (by rw [e3]; exact hz)
        refine ⟨r, r, F1, F2, G1, rfl, fun K hK => ?_, fun K hK => ?_, hs2, q, g⟩
        · skip
          unfold P_M_at
          rw [if_pos rfl]
          exact w1 _ _ hK
        · skip
          unfold P_M_at
          rw [if_pos rfl]
          exact w2 _ _ hK
      · exact False.elim hz
    · exact False.elim hz
  · skip
    rcases ln_X10_way p1 with ⟨_, _, hz, -, -⟩ | ⟨e0, G0, ⟨e1, e2⟩, -, w1⟩
    · exact False.elim hz
    · rcases ln_X10_way p2 with ⟨_, _, hz, -, -⟩ | ⟨e9, G1, ⟨e3, hs2⟩, -, w2⟩
      · exact False.elim hz
      · have w1 : ∀ (K2 : Int32 → GF → Prop) (X2 : String → GF → Prop), X2 e F1 → P_X10_way F (nI c) (nI d) K2 X2 := fun K2 X2 hz => w1 K2 X2 (by rw [e1, e2]; exact hz)
        have w2 : ∀ (K2 : Int32 → GF → Prop) (X2 : String → GF → Prop), X2 e G1 → P_X10_way F' (nI (mc true c)) (nI (mc true d)) K2 X2 := fun K2 X2 hz => w2 K2 X2 (by rw [e3]; exact hz)
        refine ⟨-8, -8, F1, F2, G1, rfl, fun K hK => ?_, fun K hK => ?_, hs2, q, g⟩
        · skip
          unfold P_M_at
          rw [if_pos rfl]
          refine w1 _ _ ?_
          subst he
          exact Or.inl ⟨rfl, hK⟩
        · skip
          unfold P_M_at
          rw [if_pos rfl]
          refine w2 _ _ ?_
          subst he
          exact Or.inl ⟨rfl, hK⟩
theorem two_at1 {k : Nat} {H H' F F' : GF} (hk : k < 512) (h : Inv k F) (hs : Sx true H H' F F') (a1 : Int32) (a2 : Int32) : Two k ovrel (P_M_at F 1 a1 a2) (P_M_at F' 1 a1 a2) := by
  rcases pr_dwells hk h hs a1 a2 with ⟨r, r', F1, F2, hr, p1, p2, q, g⟩ | ⟨e, F1, F2, he, p1, p2, q, g⟩
  · skip
    rcases ln_X10_dwells p1 with ⟨r0, G0, ⟨e1, e2⟩, -, w1⟩ | ⟨_, _, hz, -, -⟩
    · rcases ln_X10_dwells p2 with ⟨r1, G1, ⟨e3, hs2⟩, -, w2⟩ | ⟨_, _, hz, -, -⟩
      · have w1 : ∀ (K2 : Int32 → GF → Prop) (X2 : String → GF → Prop), K2 r F1 → P_X10_dwells F a1 a2 K2 X2 := fun K2 X2 hz => w1 K2 X2 (by rw [e1, e2]; exact hz)
        have w2 : ∀ (K2 : Int32 → GF → Prop) (X2 : String → GF → Prop), K2 r' G1 → P_X10_dwells F' a1 a2 K2 X2 := fun K2 X2 hz => w2 K2 X2 (by rw [e3]; exact hz)
        refine ⟨r, r', F1, F2, G1, cr_ovr hr, fun K hK => ?_, fun K hK => ?_, hs2, q, g⟩
        · skip
          unfold P_M_at
          rw [if_neg (show ¬ (1 : Int32) = 0 by decide), if_pos rfl]
          exact w1 _ _ hK
        · skip
          unfold P_M_at
          rw [if_neg (show ¬ (1 : Int32) = 0 by decide), if_pos rfl]
          exact w2 _ _ hK
      · exact False.elim hz
    · exact False.elim hz
  · skip
    rcases ln_X10_dwells p1 with ⟨_, _, hz, -, -⟩ | ⟨e0, G0, ⟨e1, e2⟩, -, w1⟩
    · exact False.elim hz
    · rcases ln_X10_dwells p2 with ⟨_, _, hz, -, -⟩ | ⟨e9, G1, ⟨e3, hs2⟩, -, w2⟩
      · exact False.elim hz
      · have w1 : ∀ (K2 : Int32 → GF → Prop) (X2 : String → GF → Prop), X2 e F1 → P_X10_dwells F a1 a2 K2 X2 := fun K2 X2 hz => w1 K2 X2 (by rw [e1, e2]; exact hz)
        have w2 : ∀ (K2 : Int32 → GF → Prop) (X2 : String → GF → Prop), X2 e G1 → P_X10_dwells F' a1 a2 K2 X2 := fun K2 X2 hz => w2 K2 X2 (by rw [e3]; exact hz)
        refine ⟨-8, -8, F1, F2, G1, (by decide), fun K hK => ?_, fun K hK => ?_, hs2, q, g⟩
        · skip
          unfold P_M_at
          rw [if_neg (show ¬ (1 : Int32) = 0 by decide), if_pos rfl]
          refine w1 _ _ ?_
          rcases he with rfl | rfl
          · exact Or.inl ⟨rfl, hK⟩
          · exact Or.inr ⟨rfl, hK⟩
        · skip
          unfold P_M_at
          rw [if_neg (show ¬ (1 : Int32) = 0 by decide), if_pos rfl]
          refine w2 _ _ ?_
          rcases he with rfl | rfl
          · exact Or.inl ⟨rfl, hK⟩
          · exact Or.inr ⟨rfl, hK⟩
theorem two_at2 {k : Nat} {H H' F F' : GF} (h : Inv k F) (hs : Sx true H H' F F') (a1 : Int32) (a2 : Int32) : Two k (fun r r' => r = r') (P_M_at F 2 a1 a2) (P_M_at F' 2 a1 a2) := by
  rcases pr_numberOf h hs a1 a2 with ⟨r, F1, F2, p1, p2, q, g⟩ | ⟨e, F1, F2, he, p1, p2, q, g⟩
  · skip
    rcases ln_X10_numberOf p1 with ⟨r0, G0, ⟨e1, e2⟩, -, w1⟩ | ⟨_, _, hz, -, -⟩
    · rcases ln_X10_numberOf p2 with ⟨r1, G1, ⟨e3, hs2⟩, -, w2⟩ | ⟨_, _, hz, -, -⟩
      · have w1 : ∀ (K2 : Int32 → GF → Prop) (X2 : String → GF → Prop), K2 r F1 → P_X10_numberOf F a1 a2 K2 X2 := fun K2 X2 hz => w1 K2 X2 (by rw [e1, e2]; exact hz)
        have w2 : ∀ (K2 : Int32 → GF → Prop) (X2 : String → GF → Prop), K2 r G1 → P_X10_numberOf F' a1 a2 K2 X2 := fun K2 X2 hz => w2 K2 X2 (by rw [e3]; exact hz)
        refine ⟨r, r, F1, F2, G1, rfl, fun K hK => ?_, fun K hK => ?_, hs2, q, g⟩
        · skip
          unfold P_M_at
          rw [if_neg (show ¬ (2 : Int32) = 0 by decide), if_neg (show ¬ (2 : Int32) = 1 by decide), if_pos rfl]
          exact w1 _ _ hK
        · skip
          unfold P_M_at
          rw [if_neg (show ¬ (2 : Int32) = 0 by decide), if_neg (show ¬ (2 : Int32) = 1 by decide), if_pos rfl]
          exact w2 _ _ hK
      · exact False.elim hz
    · exact False.elim hz
  · skip
    rcases ln_X10_numberOf p1 with ⟨_, _, hz, -, -⟩ | ⟨e0, G0, ⟨e1, e2⟩, -, w1⟩
    · exact False.elim hz
    · rcases ln_X10_numberOf p2 with ⟨_, _, hz, -, -⟩ | ⟨e9, G1, ⟨e3, hs2⟩, -, w2⟩
      · exact False.elim hz
      · have w1 : ∀ (K2 : Int32 → GF → Prop) (X2 : String → GF → Prop), X2 e F1 → P_X10_numberOf F a1 a2 K2 X2 := fun K2 X2 hz => w1 K2 X2 (by rw [e1, e2]; exact hz)
        have w2 : ∀ (K2 : Int32 → GF → Prop) (X2 : String → GF → Prop), X2 e G1 → P_X10_numberOf F' a1 a2 K2 X2 := fun K2 X2 hz => w2 K2 X2 (by rw [e3]; exact hz)
        refine ⟨-8, -8, F1, F2, G1, rfl, fun K hK => ?_, fun K hK => ?_, hs2, q, g⟩
        · skip
          unfold P_M_at
          rw [if_neg (show ¬ (2 : Int32) = 0 by decide), if_neg (show ¬ (2 : Int32) = 1 by decide), if_pos rfl]
          refine w1 _ _ ?_
          rcases he with rfl | rfl
          · exact Or.inl ⟨rfl, hK⟩
          · exact Or.inr ⟨rfl, hK⟩
        · skip
          unfold P_M_at
          rw [if_neg (show ¬ (2 : Int32) = 0 by decide), if_neg (show ¬ (2 : Int32) = 1 by decide), if_pos rfl]
          refine w2 _ _ ?_
          rcases he with rfl | rfl
          · exact Or.inl ⟨rfl, hK⟩
          · exact Or.inr ⟨rfl, hK⟩
theorem two_at3 {k : Nat} {H H' F F' : GF} (hk : k < 512) (h : Inv k F) (hs : Sx true H H' F F') (a1 : Int32) (a2 : Int32) : Two k (fun r r' => r = r') (P_M_at F 3 a1 a2) (P_M_at F' 3 a1 a2) := by
  rcases pr_signAt hk h hs a1 a2 with ⟨r, F1, F2, p1, p2, q, g⟩ | ⟨e, F1, F2, he, p1, p2, q, g⟩
  · skip
    rcases ln_X10_signAt p1 with ⟨r0, G0, ⟨e1, e2⟩, -, w1⟩ | ⟨_, _, hz, -, -⟩
    · rcases ln_X10_signAt p2 with ⟨r1, G1, ⟨e3, hs2⟩, -, w2⟩ | ⟨_, _, hz, -, -⟩
      · have w1 : ∀ (K2 : Int32 → GF → Prop) (X2 : String → GF → Prop), K2 r F1 → P_X10_signAt F a1 a2 K2 X2 := fun K2 X2 hz => w1 K2 X2 (by rw [e1, e2]; exact hz)
        have w2 : ∀ (K2 : Int32 → GF → Prop) (X2 : String → GF → Prop), K2 r G1 → P_X10_signAt F' a1 a2 K2 X2 := fun K2 X2 hz => w2 K2 X2 (by rw [e3]; exact hz)
        refine ⟨r, r, F1, F2, G1, rfl, fun K hK => ?_, fun K hK => ?_, hs2, q, g⟩
        · skip
          unfold P_M_at
          rw [if_neg (show ¬ (3 : Int32) = 0 by decide), if_neg (show ¬ (3 : Int32) = 1 by decide), if_neg (show ¬ (3 : Int32) = 2 by decide)]
          exact w1 _ _ hK
        · skip
          unfold P_M_at
          rw [if_neg (show ¬ (3 : Int32) = 0 by decide), if_neg (show ¬ (3 : Int32) = 1 by decide), if_neg (show ¬ (3 : Int32) = 2 by decide)]
          exact w2 _ _ hK
      · exact False.elim hz
    · exact False.elim hz
  · skip
    rcases ln_X10_signAt p1 with ⟨_, _, hz, -, -⟩ | ⟨e0, G0, ⟨e1, e2⟩, -, w1⟩
    · exact False.elim hz
    · rcases ln_X10_signAt p2 with ⟨_, _, hz, -, -⟩ | ⟨e9, G1, ⟨e3, hs2⟩, -, w2⟩
      · exact False.elim hz
      · have w1 : ∀ (K2 : Int32 → GF → Prop) (X2 : String → GF → Prop), X2 e F1 → P_X10_signAt F a1 a2 K2 X2 := fun K2 X2 hz => w1 K2 X2 (by rw [e1, e2]; exact hz)
        have w2 : ∀ (K2 : Int32 → GF → Prop) (X2 : String → GF → Prop), X2 e G1 → P_X10_signAt F' a1 a2 K2 X2 := fun K2 X2 hz => w2 K2 X2 (by rw [e3]; exact hz)
        refine ⟨-8, -8, F1, F2, G1, rfl, fun K hK => ?_, fun K hK => ?_, hs2, q, g⟩
        · skip
          unfold P_M_at
          rw [if_neg (show ¬ (3 : Int32) = 0 by decide), if_neg (show ¬ (3 : Int32) = 1 by decide), if_neg (show ¬ (3 : Int32) = 2 by decide)]
          refine w1 _ _ ?_
          subst he
          exact Or.inl ⟨rfl, hK⟩
        · skip
          unfold P_M_at
          rw [if_neg (show ¬ (3 : Int32) = 0 by decide), if_neg (show ¬ (3 : Int32) = 1 by decide), if_neg (show ¬ (3 : Int32) = 2 by decide)]
          refine w2 _ _ ?_
          subst he
          exact Or.inl ⟨rfl, hK⟩
theorem two_today {k : Nat} {H H' F F' : GF} (h : Inv k F) (hs : Sx true H H' F F') : Two k (fun r r' => r = r') (P_X10_today F) (P_X10_today F') := by
  obtain ⟨r, F1, F2, p1, p2, q, g⟩ := pr_today h hs
  rcases ln_X10_today p1 with ⟨r0, G0, ⟨e1, e2⟩, -, w1⟩
  rcases ln_X10_today p2 with ⟨r1, G1, ⟨e3, hs2⟩, -, w2⟩
  have w1 : ∀ (K2 : Int32 → GF → Prop), K2 r F1 → P_X10_today F  K2 := fun K2 hz => w1 K2 (by rw [e1, e2]; exact hz)
  have w2 : ∀ (K2 : Int32 → GF → Prop), K2 r G1 → P_X10_today F'  K2 := fun K2 hz => w2 K2 (by rw [e3]; exact hz)
  refine ⟨r, r, F1, F2, G1, rfl, fun K hK => ?_, fun K hK => ?_, hs2, q, g⟩
  · skip
    exact w1 _ hK
  · skip
    exact w2 _ hK
theorem two_stage {k : Nat} {H H' F F' : GF} (h : Inv k F) (hs : Sx true H H' F F') : Two k (fun r r' => r = r') (P_X10_stage F) (P_X10_stage F') := by
  obtain ⟨r, F1, F2, p1, p2, q, g⟩ := pr_stage h hs
  rcases ln_X10_stage p1 with ⟨r0, G0, ⟨e1, e2⟩, -, w1⟩
  rcases ln_X10_stage p2 with ⟨r1, G1, ⟨e3, hs2⟩, -, w2⟩
  have w1 : ∀ (K2 : Int32 → GF → Prop), K2 r F1 → P_X10_stage F  K2 := fun K2 hz => w1 K2 (by rw [e1, e2]; exact hz)
  have w2 : ∀ (K2 : Int32 → GF → Prop), K2 r G1 → P_X10_stage F'  K2 := fun K2 hz => w2 K2 (by rw [e3]; exact hz)
  refine ⟨r, r, F1, F2, G1, rfl, fun K hK => ?_, fun K hK => ?_, hs2, q, g⟩
  · skip
    exact w1 _ hK
  · skip
    exact w2 _ hK
theorem two_envelopes {k : Nat} {H H' F F' : GF} (h : Inv k F) (hs : Sx true H H' F F') : Two k (fun r r' => r = r') (P_X10_envelopes F) (P_X10_envelopes F') := by
  obtain ⟨r, F1, F2, p1, p2, q, g⟩ := pr_envelopes h hs
  rcases ln_X10_envelopes p1 with ⟨r0, G0, ⟨e1, e2⟩, -, w1⟩
  rcases ln_X10_envelopes p2 with ⟨r1, G1, ⟨e3, hs2⟩, -, w2⟩
  have w1 : ∀ (K2 : Int32 → GF → Prop), K2 r F1 → P_X10_envelopes F  K2 := fun K2 hz => w1 K2 (by rw [e1, e2]; exact hz)
  have w2 : ∀ (K2 : Int32 → GF → Prop), K2 r G1 → P_X10_envelopes F'  K2 := fun K2 hz => w2 K2 (by rw [e3]; exact hz)
  refine ⟨r, r, F1, F2, G1, rfl, fun K hK => ?_, fun K hK => ?_, hs2, q, g⟩
  · skip
    exact w1 _ hK
  · skip
    exact w2 _ hK
theorem two_notes {k : Nat} {H H' F F' : GF} (h : Inv k F) (hs : Sx true H H' F F') : Two k (fun r r' => r = r') (P_X10_notes F) (P_X10_notes F') := by
  obtain ⟨r, F1, F2, p1, p2, q, g⟩ := pr_notes h hs
  rcases ln_X10_notes p1 with ⟨r0, G0, ⟨e1, e2⟩, -, w1⟩
  rcases ln_X10_notes p2 with ⟨r1, G1, ⟨e3, hs2⟩, -, w2⟩
  have w1 : ∀ (K2 : Int32 → GF → Prop), K2 r F1 → P_X10_notes F  K2 := fun K2 hz => w1 K2 (by rw [e1, e2]; exact hz)
  have w2 : ∀ (K2 : Int32 → GF → Prop), K2 r G1 → P_X10_notes F'  K2 := fun K2 hz => w2 K2 (by rw [e3]; exact hz)
  refine ⟨r, r, F1, F2, G1, rfl, fun K hK => ?_, fun K hK => ?_, hs2, q, g⟩
  · skip
    exact w1 _ hK
  · skip
    exact w2 _ hK
theorem two_lots {k : Nat} {H H' F F' : GF} (h : Inv k F) (hs : Sx true H H' F F') : Two k (fun r r' => r = r') (P_X10_lots F) (P_X10_lots F') := by
  obtain ⟨r, F1, F2, p1, p2, q, g⟩ := pr_lots h hs
  rcases ln_X10_lots p1 with ⟨r0, G0, ⟨e1, e2⟩, -, w1⟩
  rcases ln_X10_lots p2 with ⟨r1, G1, ⟨e3, hs2⟩, -, w2⟩
  have w1 : ∀ (K2 : Int32 → GF → Prop), K2 r F1 → P_X10_lots F  K2 := fun K2 hz => w1 K2 (by rw [e1, e2]; exact hz)
  have w2 : ∀ (K2 : Int32 → GF → Prop), K2 r G1 → P_X10_lots F'  K2 := fun K2 hz => w2 K2 (by rw [e3]; exact hz)
  refine ⟨r, r, F1, F2, G1, rfl, fun K hK => ?_, fun K hK => ?_, hs2, q, g⟩
  · skip
    exact w1 _ hK
  · skip
    exact w2 _ hK
theorem day_ok {k : Nat} {F : GF} (h : Inv k F) : ¬ (F 0 0 5 + 1) = 0 := by
  obtain ⟨t, g, d, s, e, ht, et, -⟩ := h.2.1.2.2.2.1
  rw [et, ← nI_succ, show (0 : Int32) = nI 0 from rfl, nI_eq_iff (by omega) (by omega)]
  omega
theorem one_of1 {k : Nat} {F : GF} (h : Inv k F) (a1 : Int32) : ∃ r : Int32, ∀ K : Int32 → GF → Prop, K r F → P_M_of F 1 a1 K := by
  have fr : ∀ F1 : GF, (∀ f, f ∉ ([] : List Nat) → F1 f = F f) → F1 = F := fun F1 g => funext fun f => g f List.not_mem_nil
  rcases tot_stationOf h a1 with ⟨r, F1, -, g, b⟩ | ⟨e, F1, -, g, he, b⟩
  · obtain rfl := fr F1 g
    refine ⟨r, fun K hK => ?_⟩
    unfold P_M_of
    rw [if_neg (show ¬ (1 : Int32) = 0 by decide), if_pos rfl]
    exact b _ _ hK
  · obtain rfl := fr F1 g
    refine ⟨-8, fun K hK => ?_⟩
    unfold P_M_of
    rw [if_neg (show ¬ (1 : Int32) = 0 by decide), if_pos rfl]
    refine b _ _ ?_
    subst he
    exact ⟨rfl, hK⟩
