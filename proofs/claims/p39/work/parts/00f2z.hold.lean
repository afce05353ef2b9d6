/-- a call whose run is told by a lemma: simp is kept out of what follows it -/
def Hold {α : Type} (P : α → Prop) [K : Inhabited α] : Prop := P K.default
theorem unhold {α : Type} {P : α → Prop} {K : α} (h : P K) : @Hold α P ⟨K⟩ := h
theorem hold_se {F : GF} {a : Int32} {K : Int32 → GF → Prop} : P_X3_sealedOf F a K = @Hold _ (P_X3_sealedOf F a) ⟨K⟩ := rfl
theorem hold_wr {F : GF} {a b c : Int32} {K : GF → Prop} : P_X0_write F a b c K = @Hold _ (P_X0_write F a b c) ⟨K⟩ := rfl
theorem hold_ca {F : GF} {a b : Int32} {K : GF → Prop} : P_X2_castFor F a b K = @Hold _ (P_X2_castFor F a b) ⟨K⟩ := rfl
theorem hold_sem {F : GF} {a : Int32} {K : Int32 → GF → Prop} : P_X11_sealedOf F a K = @Hold _ (P_X11_sealedOf F a) ⟨K⟩ := rfl
theorem hold_wrm {F : GF} {a b c : Int32} {K : GF → Prop} : P_X11_notes F a b c K = @Hold _ (P_X11_notes F a b c) ⟨K⟩ := rfl
theorem hold_cam {F : GF} {a b : Int32} {K : Int32 → GF → Prop} : P_X11_casts F a b K = @Hold _ (P_X11_casts F a b) ⟨K⟩ := rfl
theorem hold_st {F : GF} {a b c : Int32} {K : GF → Prop} : P_X2_start F a b c K = @Hold _ (P_X2_start F a b c) ⟨K⟩ := rfl
theorem hold_cl {F : GF} {K : GF → Prop} : P_X11_clears F K = @Hold _ (P_X11_clears F) ⟨K⟩ := rfl
