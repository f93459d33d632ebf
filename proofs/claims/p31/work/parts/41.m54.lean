/-! ===== rows for the law's wrappers: bodies with handlers ===== -/
def f_MetW (l : Launch) (y : MethodName) (cc : ByteArray) (nL : Nat) (ret : Option FieldType) (hs : List (Nat × Nat × Nat × Nat)) (fr mc ms lo : Nat) (Γ : fG) (B0 : Nat) (args : List Value) (w : fV) (post : Option Value → fV → Prop) : Prop :=
  vx_Met l y (Cond.codeWith y cc nL ret hs :: f_GW) { frames := fr, cells := mc, slots := ms, locals := lo } (va_Pc args (f_I Γ B0 w)) (f_Qc Γ B0 post) (f_XC Γ B0 f_no) mc ms (f_A B0)
def f_EW (X : fX) (Γ : fG) (B0 : Nat) (ret : Option FieldType) (hs : List (Nat × Nat × Nat × Nat)) (mc ms : Nat) (post : Option Value → fV → Prop) : Prop :=
  (f_meth X).sig.returnType = ret ∧ (f_l X).stackTraces = false ∧ (f_c X).exceptionTable.toList = tableOf hs ∧ f_Q X = vx_MQ (f_below X) (f_Qc Γ B0 post) (f_XC Γ B0 f_no) (f_args X) (f_s X) mc ms (f_A B0)
theorem f_ofW {l : Launch} {y : MethodName} {cc : ByteArray} {nL : Nat} {ret : Option FieldType} {hs : List (Nat × Nat × Nat × Nat)} {fr mc ms lo : Nat} {Γ : fG} {B0 : Nat} {args : List Value} {w : fV} {post : Option Value → fV → Prop} (hl : l.stackTraces = false) (hy : plainName y.cls = true) (hc : args.all (fun v => v.category == 1) = true) (hn : args.length ≤ nL)
    (body : ∀ X : fX, f_C X Γ B0 y.cls cc nL fr mc ms lo → f_EW X Γ B0 ret hs mc ms post → f_HS Γ B0 w X (f_s X).heap [] → f_W X (f_s X).heap [] 0 0 0 (f_ent nL args) []) : f_MetW l y cc nL ret hs fr mc ms lo Γ B0 args w post := by
  refine vx_ofWH hy rfl ?_
  intro p e s m args' below meth c s₁ B hml hP
  obtain ⟨rfl, hH, hK⟩ := hP
  have hts := atoms_spec (ws := Cond.codeWith y cc nL ret hs :: f_GW) B.pre
  have htab := vx_table (x := y) B (hts _ List.mem_cons_self)
  have h1 := body (p, l, e, { frames := fr, cells := mc, slots := ms, locals := lo }, s, m, args.toArray, below, meth, c, vx_MQ below (f_Qc Γ B0 post) (f_XC Γ B0 f_no) args.toArray s mc ms (f_A B0))
    ⟨B.exec, B.bytes, hml, findClass_of_methodNamed B.named, fun z hz => hts z (List.mem_cons_of_mem _ hz), hK, B.notSynchronized, rfl⟩
    ⟨B.returns, hl, htab, rfl⟩ ⟨hH, va_S.rf⟩
  rw [lg_entry_eq]
  refine h1 _ ?_
  show f_L _ c.maxLocals _
  rw [hml]
  exact f_entry args nL hc hn
section FWH
variable {ret : Option FieldType} {X : fX} {Γ : fG} {B0 : Nat} {own : String} {cc : ByteArray} {nL fr mc ms lo : Nat} {H : Heap} {locs : List Loc} {k n pc : Nat} {L : List (Option Value)} {st rest : List Value} {w : fV} {post : Option Value → fV → Prop} {hs : List (Nat × Nat × Nat × Nat)}
variable {index : Nat} {y : MethodName} {bytes : ByteArray} {maxL np fr9 mc9 ms9 lo9 b ci N : Nat} {ret9 : Option FieldType} {post9 : Option Value → fV → Prop} {px9 : String → fV → Prop} {As : List Value} {fs : List Value} {T : u_T} {tr : fT}
theorem r_iretW (C : f_C X Γ B0 own cc nL fr mc ms lo) (E : f_EW X Γ B0 (some .int) hs mc ms post) (hh : f_HS Γ B0 w X H locs) {r : Int32} (hdg : decode cc pc = .ok (.ireturn, 1)) (hk : k ≤ mc) (hn : n ≤ ms) (hp : post (some (.int r)) w) : f_W X H locs k n pc L [.int r] := by
  intro ls hl9
  refine W.widen hk hn ?_
  rw [E.2.2.2]
  exact vx_ret (W.iret C.1 C.2.1 E.1 (fun t ht hW => ⟨⟨some (.int r), w, rfl, hp, by rw [ht]; exact hh.1⟩, hh.2.F ht⟩) hh.2.2.2 hdg C.2.2.2.2.2.2.1)
/-- an exception q of the class E9 over the frame at pc -/
def f_X (X : fX) (H : Heap) (locs : List Loc) (k n pc : Nat) (L : List (Option Value)) (st : List Value) (q : Addr) : Prop :=
  ∀ ls : Array Slot, f_L ls (f_c X).maxLocals L → vx_W (f_p X) (f_l X) (f_e X) (f_R X) (f_s X) (f_m X) (f_args X) (f_below X) (f_meth X) (f_c X) H locs k n (f_Q X) (F0 (f_m X) pc ls st) q
/-- the row of a call whose throws are looked at -/
theorem r_callVH (C : f_C X Γ B0 own cc nL fr mc ms lo) (hl : (f_l X).stackTraces = false) (hh : f_HS Γ B0 w X H locs) (hM : f_Met (f_l X) y bytes maxL ret9 fr9 mc9 ms9 lo9 Γ B0 (.ref b :: As) w post9 px9) (hk : f_LkV own index y bytes maxL ret9 np) (hrv : w tr = some (b, .inr (ci, fs))) (hci : vwCl[ci]? = some (y.cls, T, N)) (hnp : As.length = np) (hst : st = As.reverse ++ .ref b :: rest) (hcat : (rest.map fun v => v.category).sum ≤ 8) (hdg : decode cc pc = .ok (.invokevirtual index, 3)) (hR : fr9 + 1 ≤ fr ∧ 8 + (maxL + 11) + lo9 ≤ lo) (hcs : k + mc9 ≤ mc ∧ n + ms9 ≤ ms)
    (kk : ∀ (v : Option Value) (w' : fV) (H1 : Heap) (locs1 : List Loc), H.size ≤ H1.size → post9 v w' → f_HS Γ B0 w' X H1 locs1 → f_W X H1 locs1 (k + mc9) (n + ms9) (pc + 3) L (v.toList ++ rest))
    (kx : ∀ (E9 : String) (w' : fV) (H1 : Heap) (locs1 : List Loc) (q : Addr) (ce : Cell), px9 E9 w' → f_HS Γ B0 w' X H1 locs1 → H1[q]? = some ce → ce.vm = .none → (f_s X).vm.findClass E9 = some ce.cls → f_X X H1 locs1 (k + mc9) (n + ms9) pc L rest q) : f_W X H locs k n pc L st := by
  intro ls hl9
  have hts := C.2.2.2.2.1
  obtain ⟨⟨g1, g2, g3, g4, g5⟩, hd⟩ := hk
  have hr := vx_runV (e := f_e X) (below := f_below X) (meth := f_meth X) (locs := locs) (cells := k) (slots := n) (g := F0 (f_m X) pc ls st) ⟨C.1, C.2.1, C.2.2.1, C.2.2.2.1, hts⟩ hM ⟨f_cb C g5 g4 g1 hd hR, hts _ g2, hts _ g3⟩ ⟨f_blind, va_recv C.2.2.2.2.2.1.1 (hh.1.P hrv) hci (q0 := 0) rfl, fun U hU hW => f_pre C hh U hU hW⟩ rfl hnp (hl9.1.trans C.2.2.1) hst (lv_room hcat) hdg (by rw [f_size C]; exact ⟨Nat.le_trans hcs.1 (Nat.le_refl mc), hcs.2⟩)
  intro T hT X9
  rcases hr T hT X9 with ⟨v, st₀, t, T', Lc, h0, X', hL, e1, e2, ⟨⟨v', w', hv, hp, hb⟩, hF⟩, st⟩ | ⟨q, st₀, t, T', Lc, E9, ce, h0, X', hL, e1, e2, ⟨w', hp, hb, hF⟩, hce, hcv, hcl, st⟩
  · obtain ⟨k1, k2, k3⟩ := vx_keep h0 e1 hh.2 (fun q _ h => h) (fun q h => h) hL hF
    have hv' : v = v' := by cases hv; rfl
    subst hv'
    obtain ⟨t2, a1, b1⟩ := kk v w' T'.heap (locs ++ Lc) k1 hp ⟨by rw [e1]; exact hb, k3⟩ ls hl9 T' rfl X'
    exact ⟨t2, st t2 a1, b1⟩
  · obtain ⟨k1, k2, k3⟩ := vx_keep h0 e1 hh.2 (fun q _ h => h) (fun q h => h) hL hF
    obtain ⟨t2, a1, b1⟩ := kx E9 w' T'.heap (locs ++ Lc) q ce hp ⟨by rw [e1]; exact hb, k3⟩ (by rw [e1]; exact hce) hcv hcl ls hl9 T' rfl X'
    exact ⟨t2, st.trans a1, b1⟩
/-- it is caught -/
theorem r_catch (C : f_C X Γ B0 own cc nL fr mc ms lo) (E : f_EW X Γ B0 ret hs mc ms post) {E9 : String} {ce : Cell} {q : Addr} (pre : List ExceptionTableEntry) (x : ExceptionTableEntry) (suf : List ExceptionTableEntry) (hsp : tableOf hs = pre ++ x :: suf) (hpre : ∀ z ∈ pre, z.catchType ≠ 0 ∧ ∃ nm : String, Cond.classLink own z.catchType nm ∈ f_GW ∧ (E9, nm) ∈ f_ncs) (hx : covers x pc = true) (h0 : x.catchType ≠ 0) (hlk : Cond.classLink own x.catchType E9 ∈ f_GW) (hE : E9 ∈ f_excs) (hcell : H[q]? = some ce) (hv : ce.vm = .none) (hcl : (f_s X).vm.findClass E9 = some ce.cls)
    (kk : f_W X H locs k n x.handlerPc L [.ref q]) : f_X X H locs k n pc L rest q := by
  intro ls hl9
  have hts := C.2.2.2.2.1
  refine vx_catch C.2.2.2.1 pre x suf (E.2.2.1.trans hsp) (fun z hz => Or.inr ?_) hx h0 (hts _ hlk) (va_Nw.use rfl (C.2.2.2.2.2.1.2.2.2.2.2.2.1 E9 hE)) hcell hv hcl (kk ls hl9)
  obtain ⟨z0, nm, z1, z2⟩ := hpre z hz
  exact ⟨z0, nm, hts _ z1, C.2.2.2.2.2.1.2.2.2.2.2.2.2.2.2.2 _ z2⟩
end FWH
def f_LkSW (own : String) (index : Nat) (y : MethodName) (cc : ByteArray) (nL : Nat) (ret : Option FieldType) (hs : List (Nat × Nat × Nat × Nat)) (np : Nat) : Prop :=
  (Cond.methodLink own index y ∈ f_GW ∧ Cond.static y ∈ f_GW ∧ Cond.initialized y.cls ∈ f_GW ∧ Cond.codeWith y cc nL ret hs ∈ f_GW) ∧ (y.cls ≠ "java/lang/invoke/MethodHandle" ∧ y.cls ≠ "java/lang/invoke/VarHandle" ∧ (parseMethodDescriptor y.desc).map (fun d => d.parameters.length) = some np)
section FWL
variable {X : fX} {Γ : fG} {B0 : Nat} {own : String} {cc : ByteArray} {nL fr mc ms lo : Nat} {H : Heap} {locs : List Loc} {k n pc : Nat} {L : List (Option Value)} {st rest : List Value} {w : fV}
variable {index : Nat} {y : MethodName} {bytes : ByteArray} {maxL np fr9 mc9 ms9 lo9 b ci N : Nat} {ret9 : Option FieldType} {post9 : Option Value → fV → Prop} {As : List Value} {fs : List Value} {T : u_T} {tr : fT} {hs : List (Nat × Nat × Nat × Nat)}
theorem f_cont0 (hh : f_HS Γ B0 w X H locs) {st0 : List Value} {ls : Array Slot} {a9 : Array Value}
    (hr : vx_Run (f_p X) (f_l X) (f_e X) (f_R X) (f_s X) (f_m X) (f_args X) (f_below X) (f_meth X) (f_c X) H locs k n mc9 ms9 (F0 (f_m X) pc ls st0) rest (f_Qc Γ B0 post9 a9) (f_XC Γ B0 f_no) (f_A B0)) (hl9 : f_L ls (f_c X).maxLocals L)
    (kk : ∀ (v : Option Value) (w' : fV) (H1 : Heap) (locs1 : List Loc), H.size ≤ H1.size → post9 v w' → f_HS Γ B0 w' X H1 locs1 → f_W X H1 locs1 (k + mc9) (n + ms9) (pc + 3) L (v.toList ++ rest)) : W (f_p X) (f_l X) (f_e X) (f_R X) (f_s X) (f_m X) (f_args X) (f_below X) (f_meth X) (f_c X) H locs k n (f_Q X) (F0 (f_m X) pc ls st0) := by
  intro T hT X9
  rcases hr T hT X9 with ⟨v, st₀, t, T', Lc, h0, X', hL, e1, e2, ⟨⟨v', w', hv, hp, hb⟩, hF⟩, st⟩ | ⟨q, st₀, t, T', Lc, E9, ce, h0, X', hL, e1, e2, ⟨w', hp, hb, hF⟩, hce, hcv, hcl, st⟩
  · obtain ⟨k1, k2, k3⟩ := vx_keep h0 e1 hh.2 (fun q _ h => h) (fun q h => h) hL hF
    have hv' : v = v' := by cases hv; rfl
    subst hv'
    obtain ⟨t2, a1, b1⟩ := kk v w' T'.heap (locs ++ Lc) k1 hp ⟨by rw [e1]; exact hb, k3⟩ ls hl9 T' rfl X'
    exact ⟨t2, st t2 a1, b1⟩
  · exact hp.elim
theorem r_callSW (C : f_C X Γ B0 own cc nL fr mc ms lo) (hh : f_HS Γ B0 w X H locs) (hM : f_MetW (f_l X) y bytes maxL ret9 hs fr9 mc9 ms9 lo9 Γ B0 As w post9) (hk : f_LkSW own index y bytes maxL ret9 hs np) (hnp : As.length = np) (hst : st = As.reverse ++ rest) (hcat : (rest.map fun v => v.category).sum ≤ 8) (hdg : decode cc pc = .ok (.invokestatic index, 3)) (hR : fr9 + 1 ≤ fr ∧ 8 + (maxL + 11) + lo9 ≤ lo) (hcs : k + mc9 ≤ mc ∧ n + ms9 ≤ ms)
    (kk : ∀ (v : Option Value) (w' : fV) (H1 : Heap) (locs1 : List Loc), H.size ≤ H1.size → post9 v w' → f_HS Γ B0 w' X H1 locs1 → f_W X H1 locs1 (k + mc9) (n + ms9) (pc + 3) L (v.toList ++ rest)) : f_W X H locs k n pc L st := by
  intro ls hl9
  have hts := C.2.2.2.2.1
  obtain ⟨⟨g1, g2, g4, g5⟩, hd⟩ := hk
  refine f_cont0 hh (vx_runSX ⟨C.1, C.2.1, C.2.2.1, C.2.2.2.1, hts⟩ hM ⟨⟨rfl, rfl, by rw [f_size C]; exact hR.1, by rw [f_size C]; exact hR.2, ?_, List.mem_cons_self⟩, hts _ g5, hts _ g4, ⟨hd.1, hd.2.1⟩, fun sig h => ?_, hts _ g1, hts _ g2⟩ ⟨f_blind, fun U hU hW => ⟨rfl, by rw [hU]; exact hh.1, C.2.2.2.2.2.1.warm hh.2 hU hW⟩⟩ rfl hnp (hl9.1.trans C.2.2.1) hst (lv_room hcat) hdg (by rw [f_size C]; exact hcs)) hl9 kk
  · intro z hz a' U hW
    have hm : z ∈ f_GW := by
      rcases List.mem_cons.mp hz with rfl | h
      · exact g5
      · exact h
    exact word_at hW (f_good z hm) (hts z hm)
  · have h2 := hd.2.2
    rw [h] at h2
    exact (Option.some.inj h2).symm
theorem f_MetW.mono {l : Launch} {args : List Value} {post' : Option Value → fV → Prop} (h : f_MetW l y bytes maxL ret9 hs fr9 mc9 ms9 lo9 Γ B0 args w post9) (hp : ∀ v w', post9 v w' → post' v w') : f_MetW l y bytes maxL ret9 hs fr9 mc9 ms9 lo9 Γ B0 args w post' := by
  refine MetFree.mono h (fun _ _ z => z) (fun _ _ _ _ _ z => z) (fun a s o t _ hq => ?_)
  rcases hq with ⟨⟨⟨v, w', e1, e2, e3⟩, hF⟩, hL⟩ | ⟨q, e, hx⟩
  · exact Or.inl ⟨⟨⟨v, w', e1, hp v w' e2, e3⟩, hF⟩, hL⟩
  · exact Or.inr ⟨q, e, hx⟩
end FWL
section FWLL
variable {X : fX} {Γ : fG} {B0 : Nat} {own : String} {cc : ByteArray} {nL fr mc ms lo : Nat} {H : Heap} {locs : List Loc} {k n pc : Nat} {L : List (Option Value)} {rest : List Value}
/-- a constant that lies in the pool -/
theorem r_ldc (C : f_C X Γ B0 own cc nL fr mc ms lo) {i : Nat} {v : Int32} (h : Cond.constant own i v ∈ f_GW) (hdg : decode cc pc = .ok (.ldc i, 2)) (kk : f_W X H locs k n (pc + 2) L (.int v :: rest)) : f_W X H locs k n pc L rest := fun ls hl9 => by
  exact lv_ldc C.1 C.2.1 C.2.2.2.1 (C.2.2.2.2.1 _ h) hdg (kk ls hl9)
end FWLL
theorem lw_L_112 : f_LkSW RL 112 yL_leafOf cL_leafOf 3 (some .int) [(0, 5, 6, 16)] 2 := ⟨⟨f_in 218 (by decide +kernel) (by decide +kernel), f_in 219 (by decide +kernel) (by decide +kernel), f_in 28 (by decide +kernel) (by decide +kernel), f_in 220 (by decide +kernel) (by decide +kernel)⟩, ⟨by decide +kernel, by decide +kernel, by decide +kernel⟩⟩
theorem lw_L_119 : f_LkSW RL 119 yL_pageAt cL_pageAt 6 (some .int) [(0, 9, 10, 16), (0, 9, 15, 19)] 5 := ⟨⟨f_in 313 (by decide +kernel) (by decide +kernel), f_in 314 (by decide +kernel) (by decide +kernel), f_in 28 (by decide +kernel) (by decide +kernel), f_in 315 (by decide +kernel) (by decide +kernel)⟩, ⟨by decide +kernel, by decide +kernel, by decide +kernel⟩⟩
theorem lw_L_122 : f_LkSW RL 122 yL_pageByRule cL_pageByRule 6 (some .int) [(0, 9, 10, 16), (0, 9, 15, 19)] 5 := ⟨⟨f_in 365 (by decide +kernel) (by decide +kernel), f_in 366 (by decide +kernel) (by decide +kernel), f_in 28 (by decide +kernel) (by decide +kernel), f_in 367 (by decide +kernel) (by decide +kernel)⟩, ⟨by decide +kernel, by decide +kernel, by decide +kernel⟩⟩
theorem lw_L_124 : f_LkSW RL 124 yL_edition cL_edition 3 (some .int) [(0, 5, 6, 16)] 2 := ⟨⟨f_in 379 (by decide +kernel) (by decide +kernel), f_in 380 (by decide +kernel) (by decide +kernel), f_in 28 (by decide +kernel) (by decide +kernel), f_in 381 (by decide +kernel) (by decide +kernel)⟩, ⟨by decide +kernel, by decide +kernel, by decide +kernel⟩⟩
theorem lw_L_126 : f_LkSW RL 126 yL_isTurned cL_isTurned 3 (some .int) [(0, 13, 14, 16)] 2 := ⟨⟨f_in 386 (by decide +kernel) (by decide +kernel), f_in 387 (by decide +kernel) (by decide +kernel), f_in 28 (by decide +kernel) (by decide +kernel), f_in 388 (by decide +kernel) (by decide +kernel)⟩, ⟨by decide +kernel, by decide +kernel, by decide +kernel⟩⟩
theorem lw_L_128 : f_LkSW RL 128 yL_proof cL_proof 4 (some .int) [(0, 6, 7, 16), (0, 6, 11, 19)] 3 := ⟨⟨f_in 393 (by decide +kernel) (by decide +kernel), f_in 394 (by decide +kernel) (by decide +kernel), f_in 28 (by decide +kernel) (by decide +kernel), f_in 395 (by decide +kernel) (by decide +kernel)⟩, ⟨by decide +kernel, by decide +kernel, by decide +kernel⟩⟩
theorem lw_L_131 : f_LkSW RL 131 yL_isReady cL_isReady 3 (some .int) [(0, 13, 14, 16)] 2 := ⟨⟨f_in 408 (by decide +kernel) (by decide +kernel), f_in 409 (by decide +kernel) (by decide +kernel), f_in 28 (by decide +kernel) (by decide +kernel), f_in 410 (by decide +kernel) (by decide +kernel)⟩, ⟨by decide +kernel, by decide +kernel, by decide +kernel⟩⟩
theorem lw_L_133 : f_LkSW RL 133 yL_mayUse cL_mayUse 3 (some .int) [(0, 13, 14, 19)] 2 := ⟨⟨f_in 452 (by decide +kernel) (by decide +kernel), f_in 453 (by decide +kernel) (by decide +kernel), f_in 28 (by decide +kernel) (by decide +kernel), f_in 454 (by decide +kernel) (by decide +kernel)⟩, ⟨by decide +kernel, by decide +kernel, by decide +kernel⟩⟩
theorem lw_L_152 : f_LkSW RL 152 yL_insert cL_insert 5 (some .int) [(0, 7, 8, 16), (0, 7, 13, 19), (0, 7, 18, 22)] 4 := ⟨⟨f_in 493 (by decide +kernel) (by decide +kernel), f_in 494 (by decide +kernel) (by decide +kernel), f_in 28 (by decide +kernel) (by decide +kernel), f_in 495 (by decide +kernel) (by decide +kernel)⟩, ⟨by decide +kernel, by decide +kernel, by decide +kernel⟩⟩
theorem lw_L_155 : f_LkSW RL 155 yL_remove cL_remove 3 (some .int) [(0, 5, 6, 16)] 2 := ⟨⟨f_in 550 (by decide +kernel) (by decide +kernel), f_in 551 (by decide +kernel) (by decide +kernel), f_in 28 (by decide +kernel) (by decide +kernel), f_in 552 (by decide +kernel) (by decide +kernel)⟩, ⟨by decide +kernel, by decide +kernel, by decide +kernel⟩⟩
theorem lw_L_157 : f_LkSW RL 157 yL_move cL_move 4 (some .int) [(0, 7, 8, 16)] 3 := ⟨⟨f_in 561 (by decide +kernel) (by decide +kernel), f_in 562 (by decide +kernel) (by decide +kernel), f_in 28 (by decide +kernel) (by decide +kernel), f_in 563 (by decide +kernel) (by decide +kernel)⟩, ⟨by decide +kernel, by decide +kernel, by decide +kernel⟩⟩
theorem lw_L_159 : f_LkSW RL 159 yL_edit cL_edit 5 (some .int) [(0, 7, 8, 16), (0, 7, 13, 19)] 4 := ⟨⟨f_in 568 (by decide +kernel) (by decide +kernel), f_in 569 (by decide +kernel) (by decide +kernel), f_in 28 (by decide +kernel) (by decide +kernel), f_in 570 (by decide +kernel) (by decide +kernel)⟩, ⟨by decide +kernel, by decide +kernel, by decide +kernel⟩⟩
theorem lw_L_161 : f_LkSW RL 161 yL_replace cL_replace 4 (some .int) [(0, 6, 7, 19)] 3 := ⟨⟨f_in 583 (by decide +kernel) (by decide +kernel), f_in 584 (by decide +kernel) (by decide +kernel), f_in 28 (by decide +kernel) (by decide +kernel), f_in 585 (by decide +kernel) (by decide +kernel)⟩, ⟨by decide +kernel, by decide +kernel, by decide +kernel⟩⟩
theorem lw_L_195 : f_LkSW RL 195 yL_setFolds cL_setFolds 4 (some .int) [(0, 6, 7, 19)] 3 := ⟨⟨f_in 591 (by decide +kernel) (by decide +kernel), f_in 592 (by decide +kernel) (by decide +kernel), f_in 28 (by decide +kernel) (by decide +kernel), f_in 593 (by decide +kernel) (by decide +kernel)⟩, ⟨by decide +kernel, by decide +kernel, by decide +kernel⟩⟩
theorem lw_L_167 : f_LkSW RL 167 yL_setRight cL_setRight 5 (some .int) [(0, 7, 8, 19)] 4 := ⟨⟨f_in 606 (by decide +kernel) (by decide +kernel), f_in 607 (by decide +kernel) (by decide +kernel), f_in 28 (by decide +kernel) (by decide +kernel), f_in 608 (by decide +kernel) (by decide +kernel)⟩, ⟨by decide +kernel, by decide +kernel, by decide +kernel⟩⟩
theorem lw_L_169 : f_LkSW RL 169 yL_withdraw cL_withdraw 3 (some .int) [(0, 5, 6, 19), (0, 5, 10, 22)] 2 := ⟨⟨f_in 632 (by decide +kernel) (by decide +kernel), f_in 633 (by decide +kernel) (by decide +kernel), f_in 28 (by decide +kernel) (by decide +kernel), f_in 634 (by decide +kernel) (by decide +kernel)⟩, ⟨by decide +kernel, by decide +kernel, by decide +kernel⟩⟩
theorem lw_L_171 : f_LkSW RL 171 yL_pass cL_pass 3 (some .int) [(0, 5, 6, 19)] 2 := ⟨⟨f_in 640 (by decide +kernel) (by decide +kernel), f_in 641 (by decide +kernel) (by decide +kernel), f_in 28 (by decide +kernel) (by decide +kernel), f_in 642 (by decide +kernel) (by decide +kernel)⟩, ⟨by decide +kernel, by decide +kernel, by decide +kernel⟩⟩
theorem lw_L_180 : f_LkSW RL 180 yL_judge cL_judge 5 (some .int) [(0, 15, 16, 16), (0, 15, 21, 19), (0, 15, 26, 22)] 4 := ⟨⟨f_in 661 (by decide +kernel) (by decide +kernel), f_in 662 (by decide +kernel) (by decide +kernel), f_in 28 (by decide +kernel) (by decide +kernel), f_in 663 (by decide +kernel) (by decide +kernel)⟩, ⟨by decide +kernel, by decide +kernel, by decide +kernel⟩⟩
theorem lw_L_183 : f_LkSW RL 183 yL_prove cL_prove 4 (some .int) [(0, 6, 7, 16), (0, 6, 11, 19), (0, 6, 15, 22)] 3 := ⟨⟨f_in 669 (by decide +kernel) (by decide +kernel), f_in 670 (by decide +kernel) (by decide +kernel), f_in 28 (by decide +kernel) (by decide +kernel), f_in 671 (by decide +kernel) (by decide +kernel)⟩, ⟨by decide +kernel, by decide +kernel, by decide +kernel⟩⟩
theorem lw_L_185 : f_LkSW RL 185 yL_makePlates cL_makePlates 3 (some .int) [(0, 5, 6, 16), (0, 5, 10, 22)] 2 := ⟨⟨f_in 682 (by decide +kernel) (by decide +kernel), f_in 683 (by decide +kernel) (by decide +kernel), f_in 28 (by decide +kernel) (by decide +kernel), f_in 684 (by decide +kernel) (by decide +kernel)⟩, ⟨by decide +kernel, by decide +kernel, by decide +kernel⟩⟩
theorem lw_L_187 : f_LkSW RL 187 yL_print cL_print 4 (some .int) [(0, 6, 7, 16), (0, 6, 11, 19), (0, 6, 15, 22)] 3 := ⟨⟨f_in 739 (by decide +kernel) (by decide +kernel), f_in 740 (by decide +kernel) (by decide +kernel), f_in 28 (by decide +kernel) (by decide +kernel), f_in 741 (by decide +kernel) (by decide +kernel)⟩, ⟨by decide +kernel, by decide +kernel, by decide +kernel⟩⟩
theorem lw_L_189 : f_LkSW RL 189 yL_wear cL_wear 5 (some .int) [(0, 7, 8, 16), (0, 7, 13, 19)] 4 := ⟨⟨f_in 757 (by decide +kernel) (by decide +kernel), f_in 758 (by decide +kernel) (by decide +kernel), f_in 28 (by decide +kernel) (by decide +kernel), f_in 759 (by decide +kernel) (by decide +kernel)⟩, ⟨by decide +kernel, by decide +kernel, by decide +kernel⟩⟩
