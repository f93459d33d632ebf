/-! ===== rows over worlds by tags: fields, arrays, new cells ===== -/
theorem f_set_self {w : fV} {t : fT} {a : Nat} {e0 e : va_E} (h : w t = some (a, e0)) : f_set w t e t = some (a, e) := by simp [f_set, h]
theorem f_set_ne {w : fV} {t t' : fT} {e : va_E} (h : t' ≠ t) : f_set w t e t' = w t' := by simp [f_set, h]
theorem f_set_eq {w w' : fV} {t : fT} {a : Nat} {e0 e : va_E} (h0 : w t = some (a, e0)) (h1 : w' t = some (a, e)) (h2 : ∀ t', t' ≠ t → w' t' = w t') : f_set w t e = w' := by
  funext t'
  by_cases h : t' = t
  · subst h; rw [f_set_self h0, h1]
  · rw [f_set_ne h, h2 t' h]
theorem f_add_self {w : fV} {t : fT} {q : Nat × va_E} : f_add w t q t = some q := by simp [f_add]
theorem f_add_ne {w : fV} {t t' : fT} {q : Nat × va_E} (h : t' ≠ t) : f_add w t q t' = w t' := by simp [f_add, h]
theorem f_add_eq {w w' : fV} {t : fT} {q : Nat × va_E} (h1 : w' t = some q) (h2 : ∀ t', t' ≠ t → w' t' = w t') : f_add w t q = w' := by
  funext t'
  by_cases h : t' = t
  · subst h; rw [f_add_self, h1]
  · rw [f_add_ne h, h2 t' h]
section FWC
variable {X : fX} {Γ : fG} {B0 : Nat} {own : String} {cc : ByteArray} {nL fr mc ms lo : Nat} {H : Heap} {locs : List Loc} {k n pc : Nat} {L : List (Option Value)} {rest : List Value} {w : fV} {t : fT} {a : Nat}
theorem r_getf (C : f_C X Γ B0 own cc nL fr mc ms lo) (hh : f_HS Γ B0 w X H locs) {fs : List Value} {ci : Nat} (ht : w t = some (a, .inr (ci, fs))) {Cn : String} {T : u_T} {N : Nat} (hc : vwCl[ci]? = some (Cn, T, N)) (hin : ∀ x ∈ u_ws Cn T N, x ∈ f_GW) (q : Nat) (hq : q < N) {index : Nat} (hlk : Cond.fieldLink own index (T q).1 (T q).2.1 (T q).2.2.1 ∈ f_GW) {v : Value} (hv : fs[q]? = some v) (hdg : decode cc pc = .ok (.getfield index, 3))
    (kk : f_W X H locs k n (pc + 3) L (v :: rest)) : f_W X H locs k n pc L (.ref a :: rest) := fun ls hl9 =>
  va_get (q0 := 0) C.1 C.2.1 C.2.2.2.2.1 hin C.2.2.2.1 C.2.2.2.2.2.1.1 (hh.1.P ht) rfl hc q hq (C.2.2.2.2.1 _ hlk) (fun _ h => h) hv hdg (kk ls hl9)
theorem r_putf (C : f_C X Γ B0 own cc nL fr mc ms lo) (hh : f_HS Γ B0 w X H locs) {fs : List Value} {ci : Nat} (ht : w t = some (a, .inr (ci, fs))) {Cn : String} {T : u_T} {N : Nat} (hc : vwCl[ci]? = some (Cn, T, N)) (hin : ∀ x ∈ u_ws Cn T N, x ∈ f_GW) (ty0 : Nat → FieldType) (hty : ∀ q, q < N → parseFieldDescriptor (T q).2.2.1 = some (ty0 q)) (hnm : ∀ x, x < N → ∀ y, y < N → x ≠ y → (T x).2.1 ≠ (T y).2.1)
    (q : Nat) (hq : q < N) {index : Nat} (hlk : Cond.fieldLink own index (T q).1 (T q).2.1 (T q).2.2.1 ∈ f_GW) (hfin : (T q).2.2.2 = false) {ty : FieldType} {v : Value} (hd : parseFieldDescriptor (T q).2.2.1 = some ty) (hn : narrow ty v = v) (hfit : fits ty v = true) (hl : q < fs.length) (hdg : decode cc pc = .ok (.putfield index, 3))
    (kk : ∀ (H : Heap) (locs : List Loc), f_HS Γ B0 (f_set w t (.inr (ci, fs.set q v))) X H locs → f_W X H locs k n (pc + 3) L rest) : f_W X H locs k n pc L (v :: .ref a :: rest) := by
  intro ls hl9
  have hts := C.2.2.2.2.1
  have hK := C.2.2.2.2.2.1.1
  have hap := va_apart (own := own) hts hin ty0 hty hnm hK hc
  obtain ⟨r, h1, cell, q1, q2, q3, q4⟩ := hh.1.1 t _ ht
  have hr : r = (Cn, T, N) := Option.some.inj (h1.symm.trans hc)
  subst hr
  obtain ⟨hS, hfc, kC, hkC, hkind⟩ := hK.1 ci _ hc
  obtain ⟨cf, kf, fi, f, hi, hsl⟩ := hS q hq
  have hlay := hts _ (hin _ (u_in_lay hq))
  unfold u_lay at hlay
  rw [if_neg (by rw [hfin]; decide)] at hlay
  have hst := (u_facts hfc hkC (u_lays hts hin hq) hi).1
  have h6 := u_store hfc hkC hkind hlay hi hd hn hfit
  refine W.putK C.1 C.2.1 (f := f) ⟨C.2.2.2.1, hts _ hlk, ⟨_, _, _, hi⟩, hst⟩ (by rw [q2]; exact h6) q1 q3 (by rw [hsl]; exact k2_hasslot (q4 q hq)) rfl rfl hdg fun H' e1 e2 e3 => ?_
  rw [hsl] at e1 ⊢
  exact kk H' _ ⟨hh.1.set ht ⟨_, hc, t_OB.to (V := updV (vp_V fs) q v) ⟨_, e1, q2, q3, t_set q4 hap hq v⟩ (fun j _ => vp_updV_set hl v j)⟩ e3, hh.2.put e2 e3 (hh.1.2.2 t _ ht)⟩ ls hl9
theorem r_putF (C : f_C X Γ B0 own cc nL fr mc ms lo) (hh : f_HS Γ B0 w X H locs) {fs : List Value} {ci : Nat} (ht : w t = some (a, .inr (ci, fs))) {Cn : String} {T : u_T} {N : Nat} (hc : vwCl[ci]? = some (Cn, T, N)) (hin : ∀ x ∈ u_ws Cn T N, x ∈ f_GW) (ty0 : Nat → FieldType) (hty : ∀ q, q < N → parseFieldDescriptor (T q).2.2.1 = some (ty0 q)) (hnm : ∀ x, x < N → ∀ y, y < N → x ≠ y → (T x).2.1 ≠ (T y).2.1)
    (q : Nat) (hq : q < N) {index : Nat} (hlk : Cond.fieldLink own index (T q).1 (T q).2.1 (T q).2.2.1 ∈ f_GW) (hfin : (T q).2.2.2 = true) (hin2 : (f_meth X).name = "<init>") (hdecl : (T q).1 = own) {ty : FieldType} {v : Value} (hd : parseFieldDescriptor (T q).2.2.1 = some ty) (hn : narrow ty v = v) (hfit : fits ty v = true) (hl : q < fs.length) (hdg : decode cc pc = .ok (.putfield index, 3))
    (kk : ∀ (H : Heap) (locs : List Loc), f_HS Γ B0 (f_set w t (.inr (ci, fs.set q v))) X H locs → f_W X H locs k n (pc + 3) L rest) : f_W X H locs k n pc L (v :: .ref a :: rest) := by
  intro ls hl9
  have hts := C.2.2.2.2.1
  have hK := C.2.2.2.2.2.1.1
  have hown := C.2.2.2.1
  have hap := va_apart (own := own) hts hin ty0 hty hnm hK hc
  obtain ⟨r, h1, cell, q1, q2, q3, q4⟩ := hh.1.1 t _ ht
  have hr : r = (Cn, T, N) := Option.some.inj (h1.symm.trans hc)
  subst hr
  obtain ⟨hS, hfc, kC, hkC, hkind⟩ := hK.1 ci _ hc
  obtain ⟨cf, kf, fi, f, hi, hsl⟩ := hS q hq
  have hlay := hts _ (hin _ (u_in_lay hq))
  unfold u_lay at hlay
  rw [if_pos hfin] at hlay
  have hst := (u_facts hfc hkC (u_lays hts hin hq) hi).1
  have hcf : (f_m X).cls = cf := by
    obtain ⟨_, _, c', _, _, _, -, -, hf', -, -, -, hown2, -⟩ := Cond.laysFinal_spec hlay
    have e1 : c' = cf := by have := hi.symm.trans hf'; simp at this; exact this.1.symm
    rw [hdecl] at hown2
    rw [← e1]; exact Option.some.inj (hown.symm.trans hown2)
  have h6 := u_fits hfc hkC hkind (Or.inr hlay) hi hd hn hfit
  refine W.putFinK C.1 C.2.1 hown (hts _ hlk) hi hst hcf hin2 (by rw [q2]; exact h6) q1 q3 (by rw [hsl]; exact k2_hasslot (q4 q hq)) rfl rfl hdg fun H' e1 e2 e3 => ?_
  rw [hsl] at e1 ⊢
  exact kk H' _ ⟨hh.1.set ht ⟨_, hc, t_OB.to (V := updV (vp_V fs) q v) ⟨_, e1, q2, q3, t_set q4 hap hq v⟩ (fun j _ => vp_updV_set hl v j)⟩ e3, hh.2.put e2 e3 (hh.1.2.2 t _ ht)⟩ ls hl9
theorem nI_up {j len : Nat} (h : j < len) (hl : len < 2 ^ 31) : (nI j).toNatClampNeg = j := nI_clamp (by omega)
-- array reads
theorem r_iald (C : f_C X Γ B0 own cc nL fr mc ms lo) (hh : f_HS Γ B0 w X H locs) {len j : Nat} {f : Nat → Int32} (ht : w t = some (a, .inl (Γ.2 0, len, .inl f))) (hlen : len < 2 ^ 31) (hj : j < len) (hdg : decode cc pc = .ok (.iaload, 1)) (kk : f_W X H locs k n (pc + 1) L (.int (f j) :: rest)) : f_W X H locs k n pc L (.int (nI j) :: .ref a :: rest) := fun ls hl9 =>
  va_iald (q0 := 0) (t0 := 0) C.1 C.2.1 C.2.2.2.2.2.1.1 (hh.1.P ht) rfl rfl (vp_in_nI hj hlen) hdg (by rw [nI_up hj hlen]; exact kk ls hl9)
theorem r_zald (C : f_C X Γ B0 own cc nL fr mc ms lo) (hh : f_HS Γ B0 w X H locs) {len j : Nat} {f : Nat → Int32} (ht : w t = some (a, .inl (Γ.2 1, len, .inl f))) (hlen : len < 2 ^ 31) (hj : j < len) (hdg : decode cc pc = .ok (.baload, 1)) (kk : f_W X H locs k n (pc + 1) L (.int (f j) :: rest)) : f_W X H locs k n pc L (.int (nI j) :: .ref a :: rest) := fun ls hl9 =>
  va_zald (q0 := 0) (t0 := 1) C.1 C.2.1 C.2.2.2.2.2.1.1 (hh.1.P ht) rfl rfl (vp_in_nI hj hlen) hdg (by rw [nI_up hj hlen]; exact kk ls hl9)
theorem r_lald (C : f_C X Γ B0 own cc nL fr mc ms lo) (hh : f_HS Γ B0 w X H locs) {len j : Nat} {f : Nat → Int64} (ht : w t = some (a, .inl (Γ.2 2, len, .inr (.inl f)))) (hlen : len < 2 ^ 31) (hj : j < len) (hdg : decode cc pc = .ok (.laload, 1)) (kk : f_W X H locs k n (pc + 1) L (.long (f j) :: rest)) : f_W X H locs k n pc L (.int (nI j) :: .ref a :: rest) := fun ls hl9 =>
  va_lald (q0 := 0) (t0 := 2) C.1 C.2.1 C.2.2.2.2.2.1.1 (hh.1.P ht) rfl rfl (vp_in_nI hj hlen) hdg (by rw [nI_up hj hlen]; exact kk ls hl9)
theorem r_aald (C : f_C X Γ B0 own cc nL fr mc ms lo) (hh : f_HS Γ B0 w X H locs) {len j ti : Nat} {Cn : String} {f : Nat → Option Nat} (ht : w t = some (a, .inl (Γ.2 ti, len, .inr (.inr (.inr (.inr f)))))) (hti : (f_tys Γ)[ti]? = some (Γ.2 ti, .object Cn)) (hlen : len < 2 ^ 31) (hj : j < len) (hdg : decode cc pc = .ok (.aaload, 1)) (kk : f_W X H locs k n (pc + 1) L (va_rf (f j) :: rest)) : f_W X H locs k n pc L (.int (nI j) :: .ref a :: rest) := fun ls hl9 =>
  va_aldq (q0 := 0) (t0 := ti) C.1 C.2.1 C.2.2.2.2.2.1.1 (hh.1.P ht) rfl hti (vp_in_nI hj hlen) hdg (by rw [nI_up hj hlen]; exact kk ls hl9)
-- array writes
theorem r_iast (C : f_C X Γ B0 own cc nL fr mc ms lo) (hh : f_HS Γ B0 w X H locs) {len j : Nat} {f : Nat → Int32} {x : Int32} (ht : w t = some (a, .inl (Γ.2 0, len, .inl f))) (hlen : len < 2 ^ 31) (hj : j < len) (hdg : decode cc pc = .ok (.iastore, 1)) (kk : ∀ (H : Heap) (locs : List Loc), f_HS Γ B0 (f_set w t (.inl (Γ.2 0, len, .inl (upd f j x)))) X H locs → f_W X H locs k n (pc + 1) L rest) : f_W X H locs k n pc L (.int x :: .int (nI j) :: .ref a :: rest) := by
  intro ls hl9
  have ha := hh.1.1 t _ ht
  refine W.iast C.1 C.2.1 ha ((C.2.2.2.2.2.1.1.2 0 (Γ.2 0, .int) rfl).1 len (fun j => .int (f j))) (fun q => by cases q) (by show ¬ (nI j < 0 ∨ (arrV _ _ _).slots.size ≤ _); rw [arrV_size]; exact vp_in_nI hj hlen) rfl rfl hdg fun H1 e z oq => ?_
  refine kk H1 _ ⟨hh.1.set ht ?_ oq, hh.2.put z oq (hh.1.2.2 t _ ht)⟩ ls hl9
  show H1[a]? = some (vp_cell _ _)
  rw [e]
  rw [vp_cell_i, vp_cell_i, arrV_store]
  congr 2
  funext q
  rw [nI_up hj hlen]
  by_cases hq : q = j
  · subst hq
    simp [updV, upd]
  · simp [updV, upd, hq]
theorem r_zast (C : f_C X Γ B0 own cc nL fr mc ms lo) (hh : f_HS Γ B0 w X H locs) {len j : Nat} {f : Nat → Int32} {b : Bool} (ht : w t = some (a, .inl (Γ.2 1, len, .inl f))) (hlen : len < 2 ^ 31) (hj : j < len) (hdg : decode cc pc = .ok (.bastore, 1)) (kk : ∀ (H : Heap) (locs : List Loc), f_HS Γ B0 (f_set w t (.inl (Γ.2 1, len, .inl (upd f j (bI b))))) X H locs → f_W X H locs k n (pc + 1) L rest) : f_W X H locs k n pc L (.int (bI b) :: .int (nI j) :: .ref a :: rest) := by
  intro ls hl9
  have ha := hh.1.1 t _ ht
  refine W.zast C.1 C.2.1 ha ((C.2.2.2.2.2.1.1.2 1 (Γ.2 1, .boolean) rfl).1 len (fun j => .int (f j))) (fun q => by cases q) (by show ¬ (nI j < 0 ∨ (arrV _ _ _).slots.size ≤ _); rw [arrV_size]; exact vp_in_nI hj hlen) rfl rfl hdg fun H1 e z oq => ?_
  refine kk H1 _ ⟨hh.1.set ht ?_ oq, hh.2.put z oq (hh.1.2.2 t _ ht)⟩ ls hl9
  show H1[a]? = some (vp_cell _ _)
  rw [e]
  rw [vp_cell_i, vp_cell_i, arrV_store]
  congr 2
  funext q
  rw [nI_up hj hlen]
  by_cases hq : q = j
  · subst hq
    simp only [updV, upd, if_true]
    exact bI_nar b
  · simp [updV, upd, hq]
theorem r_last (C : f_C X Γ B0 own cc nL fr mc ms lo) (hh : f_HS Γ B0 w X H locs) {len j : Nat} {f : Nat → Int64} {x : Int64} (ht : w t = some (a, .inl (Γ.2 2, len, .inr (.inl f)))) (hlen : len < 2 ^ 31) (hj : j < len) (hdg : decode cc pc = .ok (.lastore, 1)) (kk : ∀ (H : Heap) (locs : List Loc), f_HS Γ B0 (f_set w t (.inl (Γ.2 2, len, .inr (.inl (vp_updL f j x))))) X H locs → f_W X H locs k n (pc + 1) L rest) : f_W X H locs k n pc L (.long x :: .int (nI j) :: .ref a :: rest) := by
  intro ls hl9
  have ha := hh.1.1 t _ ht
  refine W.last C.1 C.2.1 ha ((C.2.2.2.2.2.1.1.2 2 (Γ.2 2, .long) rfl).1 len (fun j => .long (f j))) (fun q => by cases q) (by show ¬ (nI j < 0 ∨ (arrV _ _ _).slots.size ≤ _); rw [arrV_size]; exact vp_in_nI hj hlen) rfl rfl hdg fun H1 e z oq => ?_
  refine kk H1 _ ⟨hh.1.set ht ?_ oq, hh.2.put z oq (hh.1.2.2 t _ ht)⟩ ls hl9
  show H1[a]? = some (vp_cell _ _)
  rw [e]
  rw [vp_cell_l, vp_cell_l, arrV_store]
  congr 2
  funext q
  rw [nI_up hj hlen]
  by_cases hq : q = j
  · subst hq
    simp [updV, vp_updL]
  · simp [updV, vp_updL, hq]
end FWC
