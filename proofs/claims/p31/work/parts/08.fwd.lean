/-! ===== references in arrays, new cells, ends, throws, calls ===== -/
section FWD
variable {X : fX} {Γ : fG} {B0 : Nat} {own : String} {cc : ByteArray} {nL fr mc ms lo : Nat} {H : Heap} {locs : List Loc} {k n pc : Nat} {L : List (Option Value)} {rest : List Value} {w : fV} {t : fT} {a : Nat}
theorem r_aast (C : f_C X Γ B0 own cc nL fr mc ms lo) (hh : f_HS Γ B0 w X H locs) {len j ti ci v : Nat} {vs : List Value} {r : vw_C} {tv : fT} {f : Nat → Option Nat} (ht : w t = some (a, .inl (Γ.2 ti, len, .inr (.inr (.inr (.inr f)))))) (hti : (f_tys Γ)[ti]? = some (Γ.2 ti, .object r.1)) (hv : w tv = some (v, .inr (ci, vs))) (hc : vwCl[ci]? = some r) (hlen : len < 2 ^ 31) (hj : j < len) (hdg : decode cc pc = .ok (.aastore, 1))
    (kk : ∀ (H : Heap) (locs : List Loc), f_HS Γ B0 (f_set w t (.inl (Γ.2 ti, len, .inr (.inr (.inr (.inr (va_up f j (some v)))))))) X H locs → f_W X H locs k n (pc + 1) L rest) : f_W X H locs k n pc L (.ref v :: .int (nI j) :: .ref a :: rest) := by
  intro ls hl9
  have hin : vp_in (nI j) len := vp_in_nI hj hlen
  have hK := C.2.2.2.2.2.1.1
  have hlt : (nI j).toNatClampNeg < len := Nat.not_le.mp fun q => hin (Or.inr q)
  have h0 : ¬ nI j < 0 := fun q => hin (Or.inl q)
  have ha := hh.1.1 t _ ht
  obtain ⟨r', hr', cellV, g1, g2, g3, -⟩ := hh.1.1 tv _ hv
  have hcls := (hK.1 ci r hc).2
  obtain ⟨kA, comp, k1, k2, k3, -⟩ := (hK.2 ti _ hti).2
  have hcomp : comp = Γ.1.1 ci := Option.some.inj (k3.symm.trans hcls.1)
  subst hcomp
  obtain ⟨kC, hkC, -⟩ := hcls.2
  refine W.aast C.1 C.2.1 ha (fun q h => by cases h) (fun h => by cases h) k1 k2 rfl hkC ⟨h0, by show _ < (arrV _ _ _).slots.size; rw [arrV_size]; exact hlt⟩ g1 (fun q h => by rw [g3] at h; cases h) (by rw [g2]; exact hkC) (by rw [g2]; exact va_assign hcls) rfl rfl hdg fun H1 e z oq => ?_
  refine kk H1 _ ⟨hh.1.set ht ?_ oq, hh.2.put z oq (hh.1.2.2 t _ ht)⟩ ls hl9
  show H1[a]? = some (vp_cell _ _)
  rw [e]
  rw [vp_cell_q, vp_cell_q, arrV_store]
  congr 2
  funext q
  rw [nI_up hj hlen]
  by_cases hq : q = j
  · subst hq
    simp [updV, va_up, va_rf]
  · simp [updV, va_up, hq]
theorem r_aastN (C : f_C X Γ B0 own cc nL fr mc ms lo) (hh : f_HS Γ B0 w X H locs) {len j ti : Nat} {Cn : String} {f : Nat → Option Nat} (ht : w t = some (a, .inl (Γ.2 ti, len, .inr (.inr (.inr (.inr f)))))) (hti : (f_tys Γ)[ti]? = some (Γ.2 ti, .object Cn)) (hlen : len < 2 ^ 31) (hj : j < len) (hdg : decode cc pc = .ok (.aastore, 1))
    (kk : ∀ (H : Heap) (locs : List Loc), f_HS Γ B0 (f_set w t (.inl (Γ.2 ti, len, .inr (.inr (.inr (.inr (va_up f j none))))))) X H locs → f_W X H locs k n (pc + 1) L rest) : f_W X H locs k n pc L (.null :: .int (nI j) :: .ref a :: rest) := by
  intro ls hl9
  have ha := hh.1.1 t _ ht
  refine va_WaastN (C := Cn) C.1 C.2.1 ha ((C.2.2.2.2.2.1.1.2 ti _ hti).1 len (fun j => va_rf (f j))) (fun h => by cases h) (by show ¬ (nI j < 0 ∨ (arrV _ _ _).slots.size ≤ _); rw [arrV_size]; exact vp_in_nI hj hlen) rfl rfl hdg fun H1 e z oq => ?_
  refine kk H1 _ ⟨hh.1.set ht ?_ oq, hh.2.put z oq (hh.1.2.2 t _ ht)⟩ ls hl9
  show H1[a]? = some (vp_cell _ _)
  rw [e]
  rw [vp_cell_q, vp_cell_q, arrV_store]
  congr 2
  funext q
  rw [nI_up hj hlen]
  by_cases hq : q = j
  · subst hq
    simp [updV, va_up, va_rf]
  · simp [updV, va_up, hq]
theorem f_B0 (C : f_C X Γ B0 own cc nL fr mc ms lo) (hh : f_HS Γ B0 w X H locs) : B0 ≤ H.size := Nat.le_trans C.2.2.2.2.2.1.2.1 hh.2.1
theorem f_grow (C : f_C X Γ B0 own cc nL fr mc ms lo) (hh : f_HS Γ B0 w X H locs) {H1 : Heap} {e : va_E} (ht : w t = none) (he : va_at Γ.1 vwCl (H.size, e) H1) (z : H.size ≤ H1.size) (oq : ∀ q : Nat, q < H.size → H1[q]? = H[q]?) : f_HS Γ B0 (f_add w t (H.size, e)) X H1 locs :=
  ⟨hh.1.add ht (f_B0 C hh) he oq, Nat.le_trans hh.2.1 z, fun q h1 h2 => (oq q (Nat.lt_of_lt_of_le h1 hh.2.1)).trans (hh.2.2.1 q h1 h2), hh.2.2.2⟩
theorem r_new (t : fT) (C : f_C X Γ B0 own cc nL fr mc ms lo) (hh : f_HS Γ B0 w X H locs) (ht : w t = none) {ci : Nat} {Cn : String} {T : u_T} {N : Nat} (hc : vwCl[ci]? = some (Cn, T, N)) (hin : ∀ x ∈ u_ws Cn T N, x ∈ f_GW) (ty : Nat → FieldType) (hty : ∀ q, q < N → parseFieldDescriptor (T q).2.2.1 = some (ty q)) {index : Nat} (hcl : Cond.classLink own index Cn ∈ f_GW) (hinst : Cond.instantiable Cn N ∈ f_GW) (hini : Cond.initialized Cn ∈ f_GW) (fs : List Value) (hfs : ∀ j, j < N → defaultValue (ty j) = vp_V fs j) (hcells : k + 1 ≤ mc) (hslots : n + N ≤ ms) (hdg : decode cc pc = .ok (.new index, 3))
    (kk : ∀ (H1 : Heap), H.size < H1.size → f_HS Γ B0 (f_add w t (H.size, .inr (ci, fs))) X H1 locs → f_W X H1 locs (k + 1) (n + N) (pc + 3) L (.ref H.size :: rest)) : f_W X H locs k n pc L rest := by
  intro ls hl9
  have hts := C.2.2.2.2.1
  have hKn := C.2.2.2.2.2.1.1.1 ci _ hc
  have hR := C.2.2.2.2.2.2.2
  refine W.newcK C.1 C.2.1 C.2.2.2.1 (hts _ hcl) (hts _ hinst) (hts _ hini) rfl hdg (by rw [hR]; exact hcells) (by rw [hR]; exact hslots) hKn.2.1 rfl fun H1 kC hkC e1 z1 o1 => ?_
  exact kk H1 (by omega) (f_grow C hh ht ⟨_, hc, (u_born ty hts hin hKn hkC e1 hty).to hfs⟩ (by omega) o1) ls hl9
theorem r_newa (t : fT) (C : f_C X Γ B0 own cc nL fr mc ms lo) (hh : f_HS Γ B0 w X H locs) (ht : w t = none) {atype : ArrayType} {ty : FieldType} (ti : Nat) (hti : (f_tys Γ)[ti]? = some (Γ.2 ti, ty)) (hty : newarray.typeOf atype = ty) (hob : ∀ Cn, ty ≠ .object Cn) (harr : Cond.arrayClass ty ∈ f_GW) {N : Nat} (a0 : vp_A) (ha : ∀ cA : ClassId, vp_cell cA a0 = arrV cA N (fun _ => defaultValue ty)) (hN : N < 2 ^ 20) (hb : componentBytes ty ≤ 8) (hcells : k + 1 ≤ mc) (hslots : n + N ≤ ms) (hdg : decode cc pc = .ok (.newarray atype, 2))
    (kk : ∀ (H1 : Heap), H.size < H1.size → f_HS Γ B0 (f_add w t (H.size, .inl (Γ.2 ti, a0))) X H1 locs → f_W X H1 locs (k + 1) (n + N) (pc + 2) L (.ref H.size :: rest)) : f_W X H locs k n pc L (.int (nI N) :: rest) := by
  intro ls hl9
  subst hty
  have hts := C.2.2.2.2.1
  have hR := C.2.2.2.2.2.2.2
  have hbytes : N * componentBytes (newarray.typeOf atype) ≤ 536870912 := Nat.le_trans (Nat.mul_le_mul_left N hb) (by omega)
  refine va_newaK C.1 C.2.1 (hts _ harr) rfl hdg rfl (nI_pos (by omega)) (nI_clamp (by omega)) hbytes (by rw [hR]; exact hcells) (by rw [hR]; exact hslots) rfl fun H1 cA e1 z1 o1 hAr hNm => ?_
  have hcA : cA = Γ.2 ti := by
    have h1 := (C.2.2.2.2.2.1.1.2 ti _ hti).2
    have h2 : (f_s X).vm.findClass ("[" ++ (newarray.typeOf atype).toString) = some (Γ.2 ti) := by
      cases atype <;> exact h1
    exact Option.some.inj (hNm.symm.trans h2)
  subst hcA
  refine kk H1 (by omega) (f_grow C hh ht ?_ (by omega) o1) ls hl9
  show H1[H.size]? = some (vp_cell _ _)
  rw [ha]
  exact e1
theorem r_newq (t : fT) (C : f_C X Γ B0 own cc nL fr mc ms lo) (hh : f_HS Γ B0 w X H locs) (ht : w t = none) {Cn : String} (ti : Nat) (hti : (f_tys Γ)[ti]? = some (Γ.2 ti, .object Cn)) {index : Nat} (hcl : Cond.classLink own index Cn ∈ f_GW) (hover : va_AO Cn (f_s X)) {N : Nat} (hN : N < 2 ^ 20) (hcells : k + 1 ≤ mc) (hslots : n + N ≤ ms) (hdg : decode cc pc = .ok (.anewarray index, 3))
    (kk : ∀ (H1 : Heap), H.size < H1.size → f_HS Γ B0 (f_add w t (H.size, .inl (Γ.2 ti, N, .inr (.inr (.inr (.inr (fun _ => none))))))) X H1 locs → f_W X H1 locs (k + 1) (n + N) (pc + 3) L (.ref H.size :: rest)) : f_W X H locs k n pc L (.int (nI N) :: rest) := by
  intro ls hl9
  have hts := C.2.2.2.2.1
  have hR := C.2.2.2.2.2.2.2
  have hcN : (nI N).toNatClampNeg = N := nI_clamp (by omega)
  refine W.anew C.1 C.2.1 C.2.2.2.1 (hts _ hcl) (va_AO.use hover) rfl hdg rfl (nI_pos (by omega)) (by rw [hcN]; omega) (by rw [hR]; exact hcells) (by rw [hcN, hR]; exact hslots) fun cA kA comp f1 f2 f3 f4 => ?_
  rw [hcN]
  generalize hH1 : H.push ({ cls := cA, slots := Array.replicate N .null, vm := .none } : Cell) = H1
  have z1 : H1.size = H.size + 1 := by rw [← hH1, Array.size_push]
  have e1 : H1[H.size]? = some (arrV cA N (fun _ => .null)) := by rw [← hH1, Array.getElem?_push_size, ← arrV_new]
  have o1 : ∀ q : Nat, q < H.size → H1[q]? = H[q]? := fun q hq => by rw [← hH1, Array.getElem?_push, if_neg (Nat.ne_of_lt hq)]
  have hcA : cA = Γ.2 ti := by
    obtain ⟨_, _, _, _, _, h4⟩ := (C.2.2.2.2.2.1.1.2 ti _ hti).2
    exact Option.some.inj (f1.symm.trans h4)
  subst hcA
  refine kk H1 (by omega) (f_grow C hh ht ?_ (by omega) o1) ls hl9
  show H1[H.size]? = some (vp_cell _ _)
  rw [vp_cell_q]
  exact e1
/-- Object.<init> -/
theorem r_objInit (C : f_C X Γ B0 own cc nL fr mc ms lo) {index : Nat} (hlk : Cond.methodLink own index objectInit ∈ f_GW) (hfr : 1 ≤ fr) (hlo : 20 ≤ lo) (hcat : (rest.map fun v => v.category).sum ≤ 8) (hdg : decode cc pc = .ok (.invokespecial index, 3)) (kk : f_W X H locs k n (pc + 3) L rest) : f_W X H locs k n pc L (.ref a :: rest) := by
  intro ls hl9
  have hts := C.2.2.2.2.1
  have hR := C.2.2.2.2.2.2.2
  refine W.objInit C.1 C.2.1 C.2.2.2.1 (hts _ hlk) (hts _ (f_in 49 (by decide +kernel) (by decide +kernel))) (hts _ (f_in 50 (by decide +kernel) (by decide +kernel))) rfl hl9.1 rfl hdg (by rw [hR]; exact hfr) ?_ (kk ls hl9)
  rw [hR]
  have h9 := lv_room (m := f_m X) (pc := pc) (ls := ls) (rest := .ref a :: rest) hcat
  show _ ≤ lo
  omega
end FWD
/-! ===== contracts ===== -/
def f_I (Γ : fG) (B0 : Nat) (w : fV) (U : State) : Prop := f_H Γ B0 w U.heap ∧ f_K Γ B0 U
def f_Qc (Γ : fG) (B0 : Nat) (post : Option Value → fV → Prop) : Array Value → State → Outcome → State → Prop := fun _ st o t => (∃ (v : Option Value) (w' : fV), o = .returned v ∧ post v w' ∧ f_H Γ B0 w' t.heap) ∧ va_F (f_A B0) st t
def f_XC (Γ : fG) (B0 : Nat) (px : String → fV → Prop) : String → State → State → Prop := fun E st t => ∃ w' : fV, px E w' ∧ f_H Γ B0 w' t.heap ∧ va_F (f_A B0) st t
/-- a method's contract: from the world w, called with args: it returns, and post says what and which world; or it throws, and px says what and which world -/
def f_Met (l : Launch) (y : MethodName) (cc : ByteArray) (nL : Nat) (ret : Option FieldType) (fr mc ms lo : Nat) (Γ : fG) (B0 : Nat) (args : List Value) (w : fV) (post : Option Value → fV → Prop) (px : String → fV → Prop) : Prop :=
  vx_Met l y (Cond.code y cc nL ret :: f_GW) { frames := fr, cells := mc, slots := ms, locals := lo } (va_Pc args (f_I Γ B0 w)) (f_Qc Γ B0 post) (f_XC Γ B0 px) mc ms (f_A B0)
def f_no : String → fV → Prop := fun _ _ => False
def f_rI (p : Int32 → fV → Prop) : Option Value → fV → Prop := fun v w' => ∃ r : Int32, v = some (.int r) ∧ p r w'
def f_rL (p : Int64 → fV → Prop) : Option Value → fV → Prop := fun v w' => ∃ r : Int64, v = some (.long r) ∧ p r w'
def f_rV (p : fV → Prop) : Option Value → fV → Prop := fun v w' => v = none ∧ p w'
def f_is (r : Int32) (w : fV) : Option Value → fV → Prop := fun v w' => v = some (.int r) ∧ w' = w
def f_isL (r : Int64) (w : fV) : Option Value → fV → Prop := fun v w' => v = some (.long r) ∧ w' = w
def f_to (w : fV) : Option Value → fV → Prop := fun v w' => v = none ∧ w' = w
/-- what a body stands under beside f_C -/
def f_E (X : fX) (Γ : fG) (B0 : Nat) (ret : Option FieldType) (mc ms : Nat) (post : Option Value → fV → Prop) (px : String → fV → Prop) : Prop :=
  (f_meth X).sig.returnType = ret ∧ (f_l X).stackTraces = false ∧ (∀ x ∈ (f_c X).exceptionTable.toList, False) ∧ f_Q X = vx_MQ (f_below X) (f_Qc Γ B0 post) (f_XC Γ B0 px) (f_args X) (f_s X) mc ms (f_A B0)
theorem f_args_mem : ∀ (vs : List Value) (i0 i : Nat) (v : Value), vs.all (fun v => v.category == 1) = true → vs[i]? = some v → (i0 + i, v) ∈ lv_args i0 vs
  | [], _, i, v, _, h => by simp at h
  | x :: vs, i0, i, v, hc, h => by
    simp only [List.all_cons, Bool.and_eq_true, beq_iff_eq] at hc
    have hx : ¬ x.category = 2 := by omega
    simp only [lv_args, hx, if_false]
    cases i with
    | zero => simp at h; subst h; exact List.mem_cons_self
    | succ i =>
      simp only [List.getElem?_cons_succ] at h
      have h1 := f_args_mem vs (i0 + 1) i v hc.2 h
      rw [show i0 + (i + 1) = i0 + 1 + i by omega]
      exact List.mem_cons_of_mem _ h1
theorem f_sl_len : ∀ (vs : List Value), vs.all (fun v => v.category == 1) = true → (lg_sl vs).length = vs.length
  | [], _ => rfl
  | x :: vs, hc => by
    simp only [List.all_cons, Bool.and_eq_true, beq_iff_eq] at hc
    have hx : ¬ x.category = 2 := by omega
    have h1 := f_sl_len vs hc.2
    unfold lg_sl at h1 ⊢
    simp only [List.flatMap_cons, hx, if_false, List.length_append, h1]
    simp; omega
def f_ent (nL : Nat) (vs : List Value) : List (Option Value) := vs.map some ++ List.replicate (nL - vs.length) none
theorem f_entry (vs : List Value) (nL : Nat) (hc : vs.all (fun v => v.category == 1) = true) (h : vs.length ≤ nL) : f_L ((lg_sl vs ++ List.replicate (nL - (lg_sl vs).length) Slot.unset).toArray) nL (f_ent nL vs) := by
  have h1 := f_sl_len vs hc
  have h2 := lv_entry vs (n := nL) (by omega)
  refine ⟨h2.1, by simp [f_ent]; omega, h2.2.1, fun i v hv => ?_⟩
  unfold f_ent at hv
  have hlt : i < vs.length := by
    rcases Nat.lt_or_ge i vs.length with q | q
    · exact q
    · rw [List.getElem?_append_right (by simpa using q)] at hv
      rw [List.getElem?_replicate] at hv
      split at hv <;> cases hv
  rw [List.getElem?_append_left (by simpa using hlt), List.getElem?_map] at hv
  have hv2 : vs[i]? = some v := by
    cases h9 : vs[i]? with
    | none => rw [h9] at hv; cases hv
    | some x => rw [h9] at hv; cases hv; rfl
  have h3 := h2.2.2 (0 + i, v) (f_args_mem vs 0 i v hc hv2)
  rw [Nat.zero_add] at h3
  exact h3
theorem f_of {l : Launch} {y : MethodName} {cc : ByteArray} {nL : Nat} {ret : Option FieldType} {fr mc ms lo : Nat} {Γ : fG} {B0 : Nat} {args : List Value} {w : fV} {post : Option Value → fV → Prop} {px : String → fV → Prop} (hl : l.stackTraces = false) (hy : plainName y.cls = true) (hc : args.all (fun v => v.category == 1) = true) (hn : args.length ≤ nL)
    (body : ∀ X : fX, f_C X Γ B0 y.cls cc nL fr mc ms lo → f_E X Γ B0 ret mc ms post px → f_HS Γ B0 w X (f_s X).heap [] → ((f_meth X).name = y.name ∧ f_l X = l) → f_W X (f_s X).heap [] 0 0 0 (f_ent nL args) []) : f_Met l y cc nL ret fr mc ms lo Γ B0 args w post px := by
  refine vx_ofW hy rfl ?_
  intro p e s m args' below meth c s₁ B hml htab hP
  obtain ⟨rfl, hH, hK⟩ := hP
  have hts := atoms_spec (ws := Cond.code y cc nL ret :: f_GW) B.pre
  have h1 := body (p, l, e, { frames := fr, cells := mc, slots := ms, locals := lo }, s, m, args.toArray, below, meth, c, vx_MQ below (f_Qc Γ B0 post) (f_XC Γ B0 px) args.toArray s mc ms (f_A B0))
    ⟨B.exec, B.bytes, hml, findClass_of_methodNamed B.named, fun z hz => hts z (List.mem_cons_of_mem _ hz), hK, B.notSynchronized, rfl⟩
    ⟨B.returns, hl, htab, rfl⟩ ⟨hH, va_S.rf⟩ ⟨(name_of_methodNamed B.named B.method).1, rfl⟩
  rw [lg_entry_eq]
  refine h1 _ ?_
  show f_L _ c.maxLocals _
  rw [hml]
  exact f_entry args nL hc hn
section FWE
variable {ret : Option FieldType} {X : fX} {Γ : fG} {B0 : Nat} {own : String} {cc : ByteArray} {nL fr mc ms lo : Nat} {H : Heap} {locs : List Loc} {k n pc : Nat} {L : List (Option Value)} {rest : List Value} {w : fV} {t : fT} {a : Nat} {post : Option Value → fV → Prop} {px : String → fV → Prop}
theorem r_iret (C : f_C X Γ B0 own cc nL fr mc ms lo) (E : f_E X Γ B0 (some .int) mc ms post px) (hh : f_HS Γ B0 w X H locs) {r : Int32} (hdg : decode cc pc = .ok (.ireturn, 1)) (hk : k ≤ mc) (hn : n ≤ ms) (hp : post (some (.int r)) w) : f_W X H locs k n pc L [.int r] := by
  intro ls hl9
  refine W.widen hk hn ?_
  rw [E.2.2.2]
  exact vx_ret (W.iret C.1 C.2.1 E.1 (fun t ht hW => ⟨⟨some (.int r), w, rfl, hp, by rw [ht]; exact hh.1⟩, hh.2.F ht⟩) hh.2.2.2 hdg C.2.2.2.2.2.2.1)
theorem r_zret (C : f_C X Γ B0 own cc nL fr mc ms lo) (E : f_E X Γ B0 (some .boolean) mc ms post px) (hh : f_HS Γ B0 w X H locs) {r : Bool} (hdg : decode cc pc = .ok (.ireturn, 1)) (hk : k ≤ mc) (hn : n ≤ ms) (hp : post (some (.int (bI r))) w) : f_W X H locs k n pc L [.int (bI r)] := by
  intro ls hl9
  refine W.widen hk hn ?_
  rw [E.2.2.2]
  exact vx_ret (W.zret C.1 C.2.1 E.1 (bI_nar r) (fun t ht hW => ⟨⟨some (.int (bI r)), w, rfl, hp, by rw [ht]; exact hh.1⟩, hh.2.F ht⟩) hh.2.2.2 hdg C.2.2.2.2.2.2.1)
theorem r_lret (C : f_C X Γ B0 own cc nL fr mc ms lo) (E : f_E X Γ B0 (some .long) mc ms post px) (hh : f_HS Γ B0 w X H locs) {r : Int64} (hdg : decode cc pc = .ok (.lreturn, 1)) (hk : k ≤ mc) (hn : n ≤ ms) (hp : post (some (.long r)) w) : f_W X H locs k n pc L [.long r] := by
  intro ls hl9
  refine W.widen hk hn ?_
  rw [E.2.2.2]
  exact vx_ret (W.lret C.1 C.2.1 E.1 (fun t ht hW => ⟨⟨some (.long r), w, rfl, hp, by rw [ht]; exact hh.1⟩, hh.2.F ht⟩) hh.2.2.2 hdg C.2.2.2.2.2.2.1)
theorem r_vret (C : f_C X Γ B0 own cc nL fr mc ms lo) (E : f_E X Γ B0 none mc ms post px) (hh : f_HS Γ B0 w X H locs) (hdg : decode cc pc = .ok (.return_, 1)) (hk : k ≤ mc) (hn : n ≤ ms) (hp : post none w) : f_W X H locs k n pc L [] := by
  intro ls hl9
  refine W.widen hk hn ?_
  rw [E.2.2.2]
  exact vx_ret (W.vret C.1 C.2.1 E.1 (fun t ht hW => ⟨⟨none, w, rfl, hp, by rw [ht]; exact hh.1⟩, hh.2.F ht⟩) hh.2.2.2 hdg C.2.2.2.2.2.2.1)
/-- the links of a call -/
def f_LkV (own : String) (index : Nat) (y : MethodName) (cc : ByteArray) (nL : Nat) (ret : Option FieldType) (np : Nat) : Prop :=
  (Cond.methodLink own index y ∈ f_GW ∧ Cond.instanceMethod y ∈ f_GW ∧ Cond.selects y.cls y y ∈ f_GW ∧ Cond.initialized y.cls ∈ f_GW ∧ Cond.code y cc nL ret ∈ f_GW) ∧ (y.cls ≠ "java/lang/invoke/MethodHandle" ∧ y.cls ≠ "java/lang/invoke/VarHandle" ∧ (parseMethodDescriptor y.desc).map (fun d => d.parameters.length) = some np)
def f_LkS (own : String) (index : Nat) (y : MethodName) (cc : ByteArray) (nL : Nat) (ret : Option FieldType) (np : Nat) : Prop :=
  (Cond.methodLink own index y ∈ f_GW ∧ Cond.static y ∈ f_GW ∧ Cond.initialized y.cls ∈ f_GW ∧ Cond.code y cc nL ret ∈ f_GW) ∧ (y.cls ≠ "java/lang/invoke/MethodHandle" ∧ y.cls ≠ "java/lang/invoke/VarHandle" ∧ (parseMethodDescriptor y.desc).map (fun d => d.parameters.length) = some np)
def f_LkI (own : String) (index : Nat) (y : MethodName) (cc : ByteArray) (nL : Nat) (np : Nat) : Prop :=
  (Cond.methodLink own index y ∈ f_GW ∧ Cond.instanceMethod y ∈ f_GW ∧ Cond.initialized y.cls ∈ f_GW ∧ Cond.code y cc nL none ∈ f_GW ∧ y.name = "<init>") ∧ (y.cls ≠ "java/lang/invoke/MethodHandle" ∧ y.cls ≠ "java/lang/invoke/VarHandle" ∧ (parseMethodDescriptor y.desc).map (fun d => d.parameters.length) = some np)
/-- a private static method of the nest -/
def f_LkN (own : String) (index : Nat) (y : MethodName) (host : String) (cc : ByteArray) (nL : Nat) (ret : Option FieldType) (np : Nat) : Prop :=
  ((own, index, y, host) ∈ f_nests ∧ Cond.static y ∈ f_GW ∧ Cond.initialized y.cls ∈ f_GW ∧ Cond.code y cc nL ret ∈ f_GW) ∧ (y.cls ≠ "java/lang/invoke/MethodHandle" ∧ y.cls ≠ "java/lang/invoke/VarHandle" ∧ (parseMethodDescriptor y.desc).map (fun d => d.parameters.length) = some np)
def f_LkNI (own : String) (index : Nat) (y : MethodName) (host : String) (cc : ByteArray) (nL : Nat) (np : Nat) : Prop :=
  ((own, index, y, host) ∈ f_nests ∧ Cond.instanceMethod y ∈ f_GW ∧ Cond.initialized y.cls ∈ f_GW ∧ Cond.code y cc nL none ∈ f_GW ∧ y.name = "<init>") ∧ (y.cls ≠ "java/lang/invoke/MethodHandle" ∧ y.cls ≠ "java/lang/invoke/VarHandle" ∧ (parseMethodDescriptor y.desc).map (fun d => d.parameters.length) = some np)
theorem f_pay (C : f_C X Γ B0 own cc nL fr mc ms lo) {y : MethodName} {bytes : ByteArray} {maxL : Nat} {ret : Option FieldType} (hcd : Cond.code y bytes maxL ret ∈ f_GW) : ∀ z ∈ Cond.code y bytes maxL ret :: f_GW, ∀ (a' : Array Value) (U : State), (f_s X).WarmedH U.vm → z.before a' U = true := by
  intro z hz a' U hW
  have hm : z ∈ f_GW := by
    rcases List.mem_cons.mp hz with rfl | h
    · exact hcd
    · exact h
  exact word_at hW (f_good z hm) (C.2.2.2.2.1 z hm)
theorem f_blind {args : List Value} : FrameBlind (va_Pc args (f_I Γ B0 w)) := fun a U g mk q => ⟨q.1, q.2.1, q.2.2.calling g mk a⟩
theorem f_pre (C : f_C X Γ B0 own cc nL fr mc ms lo) (hh : f_HS Γ B0 w X H locs) {args : List Value} (U : State) (hU : U.heap = H) (hW : (f_s X).WarmedH U.vm) : va_Pc args (f_I Γ B0 w) args.toArray U := ⟨rfl, by rw [hU]; exact hh.1, C.2.2.2.2.2.1.warm hh.2 hU hW⟩
/-- behind a call: a run that returns goes on; one that throws leaves the method too -/
theorem f_cont (C : f_C X Γ B0 own cc nL fr mc ms lo) (E : f_E X Γ B0 ret mc ms post px) (hh : f_HS Γ B0 w X H locs) {mc9 ms9 : Nat} {post9 : Option Value → fV → Prop} {px9 : String → fV → Prop} {st0 : List Value} {ls : Array Slot} {a9 : Array Value}
    (hr : vx_Run (f_p X) (f_l X) (f_e X) (f_R X) (f_s X) (f_m X) (f_args X) (f_below X) (f_meth X) (f_c X) H locs k n mc9 ms9 (F0 (f_m X) pc ls st0) rest (f_Qc Γ B0 post9 a9) (f_XC Γ B0 px9) (f_A B0)) (hl9 : f_L ls (f_c X).maxLocals L) (hcs : k + mc9 ≤ mc ∧ n + ms9 ≤ ms) (hx : ∀ E9 w', px9 E9 w' → px E9 w')
    (kk : ∀ (v : Option Value) (w' : fV) (H1 : Heap) (locs1 : List Loc), H.size ≤ H1.size → post9 v w' → f_HS Γ B0 w' X H1 locs1 → f_W X H1 locs1 (k + mc9) (n + ms9) (pc + 3) L (v.toList ++ rest)) : W (f_p X) (f_l X) (f_e X) (f_R X) (f_s X) (f_m X) (f_args X) (f_below X) (f_meth X) (f_c X) H locs k n (f_Q X) (F0 (f_m X) pc ls st0) := by
  intro T hT X9
  rcases hr T hT X9 with ⟨v, st₀, t, T', Lc, h0, X', hL, e1, e2, ⟨⟨v', w', hv, hp, hb⟩, hF⟩, st⟩ | ⟨q, st₀, t, T', Lc, E9, ce, h0, X', hL, e1, e2, ⟨w', hp, hb, hF⟩, hce, hcv, hcl, st⟩
  · obtain ⟨k1, k2, k3⟩ := vx_keep h0 e1 hh.2 (fun q _ h => h) (fun q h => h) hL hF
    have hv' : v = v' := by cases hv; rfl
    subst hv'
    obtain ⟨t2, a1, b1⟩ := kk v w' T'.heap (locs ++ Lc) k1 hp ⟨by rw [e1]; exact hb, k3⟩ ls hl9 T' rfl X'
    exact ⟨t2, st t2 a1, b1⟩
  · obtain ⟨k1, k2, k3⟩ := vx_keep h0 e1 hh.2 (fun q _ h => h) (fun q h => h) hL hF
    have h2 : vx_W (f_p X) (f_l X) (f_e X) (f_R X) (f_s X) (f_m X) (f_args X) (f_below X) (f_meth X) (f_c X) T'.heap (locs ++ Lc) (k + mc9) (n + ms9) (f_Q X) (F0 (f_m X) pc ls rest) q := by
      rw [E.2.2.2]
      exact vx_out (fun x hx9 => (E.2.2.1 x hx9).elim) C.2.2.2.2.2.2.1 (by rw [e1]; exact hce) hcv hcl (fun t9 ht9 _ => ⟨w', hx E9 w' hp, by rw [ht9, e1]; exact hb, k3.F ht9⟩) k3.2.2 hcs.1 hcs.2
    obtain ⟨t2, a1, b1⟩ := h2 T' rfl X'
    exact ⟨t2, st.trans a1, b1⟩
end FWE
