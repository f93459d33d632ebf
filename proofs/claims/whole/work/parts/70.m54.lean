/-! ===== rows for the law's wrappers: bodies with handlers ===== -/
def f_ncs : List (String × String) := [(IAEs, IOBs), (ISEs, IOBs), (ISEs, IAEs)]
def f_Nc (U : State) : Prop := ∀ q ∈ f_ncs, va_Nc q.1 q.2 U
def f_I2 (Γ : fG) (B0 : Nat) (w : fV) (U : State) : Prop := f_H Γ B0 w U.heap ∧ f_K Γ B0 U ∧ f_Nc U
def f_MetW (l : Launch) (y : MethodName) (cc : ByteArray) (nL : Nat) (ret : Option FieldType) (hs : List (Nat × Nat × Nat × Nat)) (fr mc ms lo : Nat) (Γ : fG) (B0 : Nat) (args : List Value) (w : fV) (post : Option Value → fV → Prop) : Prop :=
  vx_Met l y (Cond.codeWith y cc nL ret hs :: f_GW) { frames := fr, cells := mc, slots := ms, locals := lo } (va_Pc args (f_I2 Γ B0 w)) (f_Qc Γ B0 post) (f_XC Γ B0 f_no) mc ms (f_A B0)
def f_EW (X : fX) (Γ : fG) (B0 : Nat) (ret : Option FieldType) (hs : List (Nat × Nat × Nat × Nat)) (mc ms : Nat) (post : Option Value → fV → Prop) : Prop :=
  (f_meth X).sig.returnType = ret ∧ (f_l X).stackTraces = false ∧ (f_c X).exceptionTable.toList = tableOf hs ∧ f_Q X = vx_MQ (f_below X) (f_Qc Γ B0 post) (f_XC Γ B0 f_no) (f_args X) (f_s X) mc ms (f_A B0) ∧ f_Nc (f_s X)
theorem f_ofW {l : Launch} {y : MethodName} {cc : ByteArray} {nL : Nat} {ret : Option FieldType} {hs : List (Nat × Nat × Nat × Nat)} {fr mc ms lo : Nat} {Γ : fG} {B0 : Nat} {args : List Value} {w : fV} {post : Option Value → fV → Prop} (hl : l.stackTraces = false) (hy : plainName y.cls = true) (hc : args.all (fun v => v.category == 1) = true) (hn : args.length ≤ nL)
    (body : ∀ X : fX, f_C X Γ B0 y.cls cc nL fr mc ms lo → f_EW X Γ B0 ret hs mc ms post → f_HS Γ B0 w X (f_s X).heap [] → f_W X (f_s X).heap [] 0 0 0 (f_ent nL args) []) : f_MetW l y cc nL ret hs fr mc ms lo Γ B0 args w post := by
  refine vx_ofWH hy rfl ?_
  intro p e s m args' below meth c s₁ B hml hP
  obtain ⟨rfl, hH, hK, hNc⟩ := hP
  have hts := atoms_spec (ws := Cond.codeWith y cc nL ret hs :: f_GW) B.pre
  have htab := vx_table (x := y) B (hts _ List.mem_cons_self)
  have h1 := body (p, l, e, { frames := fr, cells := mc, slots := ms, locals := lo }, s, m, args.toArray, below, meth, c, vx_MQ below (f_Qc Γ B0 post) (f_XC Γ B0 f_no) args.toArray s mc ms (f_A B0))
    ⟨B.exec, B.bytes, hml, findClass_of_methodNamed B.named, fun z hz => hts z (List.mem_cons_of_mem _ hz), hK, B.notSynchronized, rfl⟩
    ⟨B.returns, hl, htab, rfl, hNc⟩ ⟨hH, va_S.rf⟩
  rw [lg_entry_eq]
  refine h1 _ ?_
  show f_L _ c.maxLocals _
  rw [hml]
  exact f_entry args nL hc hn
section FWH
variable {ret : Option FieldType} {X : fX} {Γ : fG} {B0 : Nat} {own : String} {cc : ByteArray} {nL fr mc ms lo : Nat} {H : Heap} {locs : List Loc} {k n pc : Nat} {L : List (Option Value)} {st rest : List Value} {w : fV} {post : Option Value → fV → Prop} {hs : List (Nat × Nat × Nat × Nat)}
variable {index : Nat} {y : MethodName} {bytes : ByteArray} {maxL np fr9 mc9 ms9 lo9 b ci N : Nat} {ret9 : Option FieldType} {post9 : Option Value → fV → Prop} {px9 : String → fV → Prop} {As : List Value} {fs : List Value} {T : u_T} {tr : fT}
theorem r_iretW (C : f_C X Γ B0 own cc nL fr mc ms lo) (E : f_EW X Γ B0 (some .int) hs mc ms post) (hh : f_HS Γ B0 w X H locs) {r : Int32} (hdg : decode cc pc = .ok (.ireturn, 1)) (hk : k ≤ mc) (hn : n ≤ ms) (hp : post (some (.int r)) w) : f_W X H locs k n pc L [.int r] := by
  intro ls hl9
  refine W.widen hk hn ?_
  rw [E.2.2.2.1]
  exact vx_ret (W.iret C.1 C.2.1 E.1 (fun t ht hW => ⟨⟨some (.int r), w, rfl, hp, by rw [ht]; exact hh.1⟩, hh.2.F ht⟩) hh.2.2.2 hdg C.2.2.2.2.2.2.1)
/-- an exception q of the class E9 over the frame at pc -/
def f_X (X : fX) (H : Heap) (locs : List Loc) (k n pc : Nat) (L : List (Option Value)) (st : List Value) (q : Addr) : Prop :=
  ∀ ls : Array Slot, f_L ls (f_c X).maxLocals L → vx_W (f_p X) (f_l X) (f_e X) (f_R X) (f_s X) (f_m X) (f_args X) (f_below X) (f_meth X) (f_c X) H locs k n (f_Q X) (F0 (f_m X) pc ls st) q
/-- the row of a call whose throws are looked at -/
theorem r_callVH (C : f_C X Γ B0 own cc nL fr mc ms lo) (hl : (f_l X).stackTraces = false) (hh : f_HS Γ B0 w X H locs) (hM : f_Met (f_l X) y bytes maxL ret9 fr9 mc9 ms9 lo9 Γ B0 (.ref b :: As) w post9 px9) (hk : f_LkV own index y bytes maxL ret9 np) (hrv : w tr = some (b, .inr (ci, fs))) (hci : vwCl[ci]? = some (y.cls, T, N)) (hnp : As.length = np) (hst : st = As.reverse ++ .ref b :: rest) (hcat : (rest.map fun v => v.category).sum ≤ 8) (hdg : decode cc pc = .ok (.invokevirtual index, 3)) (hR : fr9 + 1 ≤ fr ∧ 8 + (maxL + 11) + lo9 ≤ lo) (hcs : k + mc9 ≤ mc ∧ n + ms9 ≤ ms)
    (kk : ∀ (v : Option Value) (w' : fV) (H1 : Heap) (locs1 : List Loc), H.size ≤ H1.size → post9 v w' → f_HS Γ B0 w' X H1 locs1 → f_W X H1 locs1 (k + mc9) (n + ms9) (pc + 3) L (v.toList ++ rest))
    (kx : ∀ (E9 : String) (w' : fV) (H1 : Heap) (locs1 : List Loc) (q : Addr) (ce : Cell), px9 E9 w' → f_HS Γ B0 w' X H1 locs1 → H1[q]? = some ce → ce.vm = .none → (f_s X).vm.findClass E9 = some ce.cls → f_X X H1 locs1 (k + mc9) (n + ms9) pc L rest q) : f_W X H locs k n pc L st := by
  intro ls hl9
  have hts := C.2.2.2.2.1
  obtain ⟨⟨g1, g2, g3, g4, g5⟩, hd⟩ := hk
  have hr := vx_runV (e := f_e X) (below := f_below X) (meth := f_meth X) (locs := locs) (cells := k) (slots := n) (g := F0 (f_m X) pc ls st) ⟨C.1, C.2.1, C.2.2.1, C.2.2.2.1, hts⟩ hM ⟨f_cb C g5 g4 g1 hd hR, hts _ g2, hts _ g3⟩ ⟨f_blind, va_recv C.2.2.2.2.2.1.1 (hh.1.P hrv) hci (q0 := 0) rfl, fun U hU hW => f_pre C hh U hU hW⟩ rfl hnp (hl9.1.trans C.2.2.1) hst (lv_room hcat) hdg (by rw [f_size C]; exact ⟨Nat.le_trans hcs.1 (Nat.le_refl mc), hcs.2⟩)
  intro T hT X9
  rcases hr T hT X9 with ⟨v, st₀, t, T', Lc, h0, X', hL, e1, e2, ⟨⟨v', w', hv, hp, hb⟩, hF⟩, st⟩ | ⟨q, st₀, t, T', Lc, E9, ce, h0, X', hL, e1, e2, ⟨w', hp, hb, hF⟩, hce, hcv, hcl, st⟩
  · obtain ⟨k1, k2, k3⟩ := vx_keep h0 e1 hh.2 (fun q _ h => h) (fun q h => h) hL hF
    have hv' : v = v' := by cases hv; rfl
    subst hv'
    obtain ⟨t2, a1, b1⟩ := kk v w' T'.heap (locs ++ Lc) k1 hp ⟨by rw [e1]; exact hb, k3⟩ ls hl9 T' rfl X'
    exact ⟨t2, st t2 a1, b1⟩
  · obtain ⟨k1, k2, k3⟩ := vx_keep h0 e1 hh.2 (fun q _ h => h) (fun q h => h) hL hF
    obtain ⟨t2, a1, b1⟩ := kx E9 w' T'.heap (locs ++ Lc) q ce hp ⟨by rw [e1]; exact hb, k3⟩ (by rw [e1]; exact hce) hcv hcl ls hl9 T' rfl X'
    exact ⟨t2, st.trans a1, b1⟩
/-- it is caught -/
theorem r_catch (C : f_C X Γ B0 own cc nL fr mc ms lo) (E : f_EW X Γ B0 ret hs mc ms post) {E9 : String} {ce : Cell} {q : Addr} (pre : List ExceptionTableEntry) (x : ExceptionTableEntry) (suf : List ExceptionTableEntry) (hsp : tableOf hs = pre ++ x :: suf) (hpre : ∀ z ∈ pre, z.catchType ≠ 0 ∧ ∃ nm : String, Cond.classLink own z.catchType nm ∈ f_GW ∧ (E9, nm) ∈ f_ncs) (hx : covers x pc = true) (h0 : x.catchType ≠ 0) (hlk : Cond.classLink own x.catchType E9 ∈ f_GW) (hE : E9 ∈ f_excs) (hcell : H[q]? = some ce) (hv : ce.vm = .none) (hcl : (f_s X).vm.findClass E9 = some ce.cls)
    (kk : f_W X H locs k n x.handlerPc L [.ref q]) : f_X X H locs k n pc L rest q := by
  intro ls hl9
  have hts := C.2.2.2.2.1
  refine vx_catch C.2.2.2.1 pre x suf (E.2.2.1.trans hsp) (fun z hz => Or.inr ?_) hx h0 (hts _ hlk) (va_Nw.use rfl (C.2.2.2.2.2.1.2.2.2.2.2.2.1 E9 hE)) hcell hv hcl (kk ls hl9)
  obtain ⟨z0, nm, z1, z2⟩ := hpre z hz
  exact ⟨z0, nm, hts _ z1, E.2.2.2.2 _ z2⟩
end FWH
/-! the law's long, written -/
theorem mw_ext (Γ : fG) {ad ad' : Nat → Nat → Nat} (M : fR) (h : ∀ j, ad 30 j = ad' 30 j) : mw Γ ad M = mw Γ ad' M := by
  funext t
  unfold mw
  split <;> simp only [h]
theorem mw_26 (Γ : fG) (ad : Nat → Nat → Nat) (M : fR) : mw Γ ad (rs M 26 (k0 (M 26 0 0))) = mw Γ ad M := by
  funext t
  unfold mw
  split <;> rfl
theorem mw_18 (Γ : fG) (ad : Nat → Nat → Nat) {M : fR} (h : M 27 0 0 = 1) : mw Γ ad M 18 = some (ad 30 18, .inl (Γ.2 2, 1, .inr (.inl (fun _ => lN (M 26 0 0))))) := by
  show (if M 27 0 0 = 0 then none else _) = _
  rw [if_neg (by rw [h]; decide)]
theorem lN_of (v : Int64) : ∃ x : Nat, lN x = v := ⟨v.toBitVec.toNat, by
  apply Int64.toBitVec_inj.mp
  show BitVec.ofNat 64 v.toBitVec.toNat = v.toBitVec
  simp⟩
section FWO
variable {X9 : fX} {Γ : fG} {B0 : Nat} {own : String} {cc : ByteArray} {nL fr mc ms lo : Nat} {H : Heap} {locs : List Loc} {k n pc : Nat} {L : List (Option Value)} {rest : List Value} {ad : Nat → Nat → Nat} {M9 : fR} {F : Nat → fO} {X : Nat × Nat → fO}
theorem as_out (C : f_C X9 Γ B0 own cc nL fr mc ms lo) (hh : f_HS Γ B0 (wj F X (mw Γ ad M9)) X9 H locs) (h27 : M9 27 0 0 = 1) {v : Nat} (hdg : decode cc pc = .ok (.lastore, 1)) (kk : ∀ (H : Heap) (locs : List Loc), f_HS Γ B0 (wj F X (mw Γ ad (rs M9 26 (k0 v)))) X9 H locs → f_W X9 H locs k n (pc + 1) L rest) : f_W X9 H locs k n pc L (.long (lN v) :: .int (nI 0) :: .ref (ad 30 18) :: rest) := by
  have e18 := mw_18 Γ ad h27
  refine r_last C hh (t := .inr (.inr 18)) e18 (by decide) (by decide) hdg (fun H locs hh => kk H locs ?_)
  have h1 : f_H Γ B0 _ H := hh.1
  -- the one place of a row of one
  have ew : vp_cell (Γ.2 2) (1, .inr (.inl (vp_updL (fun _ => lN (M9 26 0 0)) 0 (lN v)))) = vp_cell (Γ.2 2) (1, .inr (.inl (fun _ => lN v))) := by
    rw [vp_cell_l, vp_cell_l]
    unfold arrV
    have hf : (fun j : Fin 1 => Value.long (vp_updL (fun _ => lN (M9 26 0 0)) 0 (lN v) j.val)) = fun _ => Value.long (lN v) := by
      funext j
      have hj : j.val = 0 := by omega
      simp [vp_updL, hj]
    first | rw [hf] | (congr 2; funext j; have hj : j.val = 0 := by omega; simp [vp_updL, hj])
  have hat : va_at Γ.1 vwCl (ad 30 18, .inl (Γ.2 2, 1, .inr (.inl (fun _ => lN v)))) H := by
    have h2 := h1.1 (.inr (.inr 18)) _ (f_set_self (w := wj F X (mw Γ ad M9)) (t := .inr (.inr 18)) e18)
    show H[ad 30 18]? = some (vp_cell _ _)
    rw [← ew]
    exact h2
  have h3 := h1.set (f_set_self (w := wj F X (mw Γ ad M9)) (t := .inr (.inr 18)) e18) hat (fun _ _ => rfl)
  rw [f_set_set] at h3
  refine ⟨?_, hh.2⟩
  refine (congrArg (fun w9 => f_H Γ B0 w9 H) (wj_m (M := mw Γ ad M9) (M' := mw Γ ad (rs M9 26 (k0 v))) (t := 18) e18 ?_ (fun t9 h9 => ?_))).mp h3
  · have h27' : rs M9 26 (k0 v) 27 0 0 = 1 := h27
    exact mw_18 Γ ad h27'
  · unfold mw
    split <;> first | rfl | exact absurd rfl h9
end FWO
/-- what a wrapper leaves: the number of the exception that the model will tell, the answer that it will give -/
def WPo (Γ : fG) (ad : Nat → Nat → Nat) (M : fR) (n : Nat) (S : fR → fR) (O : fR → Int64) : Option Value → fV → Prop := fun v w9 => ∃ (kx v26 : Nat) (ad' : Nat → Nat → Nat) (P' R' : fR), v = some (.int (nI kx)) ∧ kx ≤ 3 ∧ S (rs M 26 (k0 v26)) 8 0 0 = kx ∧ (kx = 0 → lN v26 = O (rs M 26 (k0 v26))) ∧ RE (n + 1) P' R' (S (rs M 26 (k0 v26))) ∧ (∀ j, ad' 30 j = ad 30 j) ∧ ad' 1 0 = ad 1 0 ∧ w9 = wj (fw Γ ad' P') (xw Γ ad' R') (mw Γ ad' (rs M 26 (k0 v26)))
theorem RE_26 {n : Nat} {P R M : fR} (h : RE n P R M) (f : Nat → Nat → Nat) : RE n P R (rs M 26 f) := h
theorem RE_27 {n : Nat} {P R M : fR} (h : RE n P R M) : M 27 0 0 = 1 := h.2.2.2.2.2.2.2.2.2.2
