/-! ===== behind a call, by the form of its end ===== -/
section KK
variable {X : fX} {Γ : fG} {B0 : Nat} {H : Heap} {k n pc : Nat} {L : List (Option Value)} {rest : List Value} {w0 : fV}
theorem kk_is {r : Int32} (kk : ∀ (H1 : Heap) (locs1 : List Loc), H.size ≤ H1.size → f_HS Γ B0 w0 X H1 locs1 → f_W X H1 locs1 k n pc L (.int r :: rest)) : ∀ (v : Option Value) (w' : fV) (H1 : Heap) (locs1 : List Loc), H.size ≤ H1.size → f_is r w0 v w' → f_HS Γ B0 w' X H1 locs1 → f_W X H1 locs1 k n pc L (v.toList ++ rest) := by
  rintro v w' H1 locs1 hs ⟨rfl, rfl⟩ hh
  exact kk H1 locs1 hs hh
theorem kk_isL {r : Int64} (kk : ∀ (H1 : Heap) (locs1 : List Loc), H.size ≤ H1.size → f_HS Γ B0 w0 X H1 locs1 → f_W X H1 locs1 k n pc L (.long r :: rest)) : ∀ (v : Option Value) (w' : fV) (H1 : Heap) (locs1 : List Loc), H.size ≤ H1.size → f_isL r w0 v w' → f_HS Γ B0 w' X H1 locs1 → f_W X H1 locs1 k n pc L (v.toList ++ rest) := by
  rintro v w' H1 locs1 hs ⟨rfl, rfl⟩ hh
  exact kk H1 locs1 hs hh
theorem kk_to (kk : ∀ (H1 : Heap) (locs1 : List Loc), H.size ≤ H1.size → f_HS Γ B0 w0 X H1 locs1 → f_W X H1 locs1 k n pc L rest) : ∀ (v : Option Value) (w' : fV) (H1 : Heap) (locs1 : List Loc), H.size ≤ H1.size → f_to w0 v w' → f_HS Γ B0 w' X H1 locs1 → f_W X H1 locs1 k n pc L (v.toList ++ rest) := by
  rintro v w' H1 locs1 hs ⟨rfl, rfl⟩ hh
  exact kk H1 locs1 hs hh
theorem kk_rI {p : Int32 → fV → Prop} (kk : ∀ (r : Int32) (w' : fV) (H1 : Heap) (locs1 : List Loc), H.size ≤ H1.size → p r w' → f_HS Γ B0 w' X H1 locs1 → f_W X H1 locs1 k n pc L (.int r :: rest)) : ∀ (v : Option Value) (w' : fV) (H1 : Heap) (locs1 : List Loc), H.size ≤ H1.size → f_rI p v w' → f_HS Γ B0 w' X H1 locs1 → f_W X H1 locs1 k n pc L (v.toList ++ rest) := by
  rintro v w' H1 locs1 hs ⟨r, rfl, hp⟩ hh
  exact kk r w' H1 locs1 hs hp hh
theorem kk_rV {p : fV → Prop} (kk : ∀ (w' : fV) (H1 : Heap) (locs1 : List Loc), H.size ≤ H1.size → p w' → f_HS Γ B0 w' X H1 locs1 → f_W X H1 locs1 k n pc L rest) : ∀ (v : Option Value) (w' : fV) (H1 : Heap) (locs1 : List Loc), H.size ≤ H1.size → f_rV p v w' → f_HS Γ B0 w' X H1 locs1 → f_W X H1 locs1 k n pc L (v.toList ++ rest) := by
  rintro v w' H1 locs1 hs ⟨rfl, hp⟩ hh
  exact kk w' H1 locs1 hs hp hh
end KK
