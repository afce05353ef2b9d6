theorem cm_L_act (l : Launch) (hfl : l.stackTraces = false) (G : GP) (ad : Nat → Nat → Nat) (F : GF) (p1 : Int32) (p2 : Int32) (a0 : Nat) (h0 : ad 0 0 = a0) (K : Int32 → GF → Prop) : Met l yL_act wsL_act rm_L_act (va_Pc [.ref a0, .int p1, .int p2] (fun U => (gD G ad F U ∧ gL U) ∧ P_M_act F p1 p2 K)) (gQi G ad K) 3 18 (gA G) := by
  subst h0
  exact c_L_act l hfl G ad F p1 p2 K
theorem cm_L_at (l : Launch) (hfl : l.stackTraces = false) (G : GP) (ad : Nat → Nat → Nat) (F : GF) (p1 : Int32) (p2 : Int32) (p3 : Int32) (a0 : Nat) (h0 : ad 0 0 = a0) (K : Int32 → GF → Prop) : Met l yL_at wsL_at rm_L_at (va_Pc [.ref a0, .int p1, .int p2, .int p3] (fun U => (gD G ad F U ∧ gL U) ∧ P_M_at F p1 p2 p3 K)) (gQi G ad K) 2 12 (gA G) := by
  subst h0
  exact c_L_at l hfl G ad F p1 p2 p3 K
theorem cm_L_bar (l : Launch) (hfl : l.stackTraces = false) (G : GP) (ad : Nat → Nat → Nat) (F : GF) (p1 : Int32) (p2 : Int32) (p3 : Int32) (a0 : Nat) (h0 : ad 0 0 = a0) (K : Int32 → GF → Prop) : Met l yL_bar wsL_bar rm_L_bar (va_Pc [.ref a0, .int p1, .int p2, .int p3] (fun U => (gD G ad F U ∧ gL U) ∧ P_M_bar F p1 p2 p3 K)) (gQi G ad K) 3 18 (gA G) := by
  subst h0
  exact c_L_bar l hfl G ad F p1 p2 p3 K
theorem cm_L_call (l : Launch) (hfl : l.stackTraces = false) (G : GP) (ad : Nat → Nat → Nat) (F : GF) (p1 : Int32) (p2 : Int32) (p3 : Int32) (a0 : Nat) (h0 : ad 0 0 = a0) (K : Int32 → GF → Prop) : Met l yL_call wsL_call rm_L_call (va_Pc [.ref a0, .int p1, .int p2, .int p3] (fun U => (gD G ad F U ∧ gL U) ∧ P_M_call F p1 p2 p3 K)) (gQi G ad K) 3 18 (gA G) := by
  subst h0
  exact c_L_call l hfl G ad F p1 p2 p3 K
theorem cm_L_count (l : Launch) (hfl : l.stackTraces = false) (G : GP) (ad : Nat → Nat → Nat) (F : GF) (p1 : Int32) (p2 : Int32) (a0 : Nat) (h0 : ad 0 0 = a0) (K : Int32 → GF → Prop) : Met l yL_count wsL_count rm_L_count (va_Pc [.ref a0, .int p1, .int p2] (fun U => (gD G ad F U ∧ gL U) ∧ P_M_count F p1 p2 K)) (gQi G ad K) 4 24 (gA G) := by
  subst h0
  exact c_L_count l hfl G ad F p1 p2 K
theorem cm_L_does (l : Launch) (hfl : l.stackTraces = false) (G : GP) (ad : Nat → Nat → Nat) (F : GF) (p1 : Int32) (p2 : Int32) (p3 : Int32) (a0 : Nat) (h0 : ad 0 0 = a0) (K : Int32 → GF → Prop) : Met l yL_does wsL_does rm_L_does (va_Pc [.ref a0, .int p1, .int p2, .int p3] (fun U => (gD G ad F U ∧ gL U) ∧ P_M_does F p1 p2 p3 K)) (gQa G ad K) 6 36 (gA G) := by
  subst h0
  exact c_L_does l hfl G ad F p1 p2 p3 K
theorem cm_L_of (l : Launch) (hfl : l.stackTraces = false) (G : GP) (ad : Nat → Nat → Nat) (F : GF) (p1 : Int32) (p2 : Int32) (a0 : Nat) (h0 : ad 0 0 = a0) (K : Int32 → GF → Prop) : Met l yL_of wsL_of rm_L_of (va_Pc [.ref a0, .int p1, .int p2] (fun U => (gD G ad F U ∧ gL U) ∧ P_M_of F p1 p2 K)) (gQi G ad K) 1 6 (gA G) := by
  subst h0
  exact c_L_of l hfl G ad F p1 p2 K
theorem cm_L_vote (l : Launch) (hfl : l.stackTraces = false) (G : GP) (ad : Nat → Nat → Nat) (F : GF) (p1 : Int32) (p2 : Int32) (p3 : Int32) (a0 : Nat) (h0 : ad 0 0 = a0) (K : Int32 → GF → Prop) : Met l yL_vote wsL_vote rm_L_vote (va_Pc [.ref a0, .int p1, .int p2, .int p3] (fun U => (gD G ad F U ∧ gL U) ∧ P_M_vote F p1 p2 p3 K)) (gQi G ad K) 7 42 (gA G) := by
  subst h0
  exact c_L_vote l hfl G ad F p1 p2 p3 K
theorem cm_X10_today (l : Launch) (G : GP) (ad : Nat → Nat → Nat) (F : GF) (a0 : Nat) (h0 : ad 0 0 = a0) (K : Int32 → GF → Prop) : Met l yX10_today wsX10_today rm_X10_today (va_Pc [.ref a0] (fun U => gD G ad F U ∧ P_X10_today F K)) (gQi G ad K) 0 0 (gA G) := by
  subst h0
  exact c_X10_today l G ad F K
theorem cm_X10_stage (l : Launch) (G : GP) (ad : Nat → Nat → Nat) (F : GF) (a0 : Nat) (h0 : ad 0 0 = a0) (K : Int32 → GF → Prop) : Met l yX10_stage wsX10_stage rm_X10_stage (va_Pc [.ref a0] (fun U => gD G ad F U ∧ P_X10_stage F K)) (gQi G ad K) 0 0 (gA G) := by
  subst h0
  exact c_X10_stage l G ad F K
theorem cm_X10_envelopes (l : Launch) (G : GP) (ad : Nat → Nat → Nat) (F : GF) (a0 : Nat) (h0 : ad 0 0 = a0) (K : Int32 → GF → Prop) : Met l yX10_envelopes wsX10_envelopes rm_X10_envelopes (va_Pc [.ref a0] (fun U => gD G ad F U ∧ P_X10_envelopes F K)) (gQi G ad K) 0 0 (gA G) := by
  subst h0
  exact c_X10_envelopes l G ad F K
theorem cm_X10_notes (l : Launch) (G : GP) (ad : Nat → Nat → Nat) (F : GF) (a0 : Nat) (h0 : ad 0 0 = a0) (K : Int32 → GF → Prop) : Met l yX10_notes wsX10_notes rm_X10_notes (va_Pc [.ref a0] (fun U => gD G ad F U ∧ P_X10_notes F K)) (gQi G ad K) 0 0 (gA G) := by
  subst h0
  exact c_X10_notes l G ad F K
theorem cm_X10_lots (l : Launch) (G : GP) (ad : Nat → Nat → Nat) (F : GF) (a0 : Nat) (h0 : ad 0 0 = a0) (K : Int32 → GF → Prop) : Met l yX10_lots wsX10_lots rm_X10_lots (va_Pc [.ref a0] (fun U => gD G ad F U ∧ P_X10_lots F K)) (gQi G ad K) 0 0 (gA G) := by
  subst h0
  exact c_X10_lots l G ad F K
