/-! ===== calls ===== -/
section FWF
variable {ret : Option FieldType} {X : fX} {Γ : fG} {B0 : Nat} {own : String} {cc : ByteArray} {nL fr mc ms lo : Nat} {H : Heap} {locs : List Loc} {k n pc : Nat} {L : List (Option Value)} {st rest : List Value} {w : fV} {post : Option Value → fV → Prop} {px : String → fV → Prop}
variable {index : Nat} {y : MethodName} {bytes : ByteArray} {maxL np fr9 mc9 ms9 lo9 b ci N : Nat} {ret9 : Option FieldType} {post9 : Option Value → fV → Prop} {px9 : String → fV → Prop} {As : List Value} {fs : List Value} {T : u_T} {tr : fT} {host : String}
theorem f_size (C : f_C X Γ B0 own cc nL fr mc ms lo) : f_R X = { frames := fr, cells := mc, slots := ms, locals := lo } := C.2.2.2.2.2.2.2
theorem f_cb (C : f_C X Γ B0 own cc nL fr mc ms lo) (hcd : Cond.code y bytes maxL ret9 ∈ f_GW) (hini : Cond.initialized y.cls ∈ f_GW) (hlk : Cond.methodLink own index y ∈ f_GW) (hd : y.cls ≠ "java/lang/invoke/MethodHandle" ∧ y.cls ≠ "java/lang/invoke/VarHandle" ∧ (parseMethodDescriptor y.desc).map (fun d => d.parameters.length) = some np) (hR : fr9 + 1 ≤ fr ∧ 8 + (maxL + 11) + lo9 ≤ lo) :
    CallB (f_R X) (f_s X) (f_args X) own index y bytes maxL ret9 (Cond.code y bytes maxL ret9 :: f_GW) { frames := fr9, cells := mc9, slots := ms9, locals := lo9 } mc9 ms9 np := by
  have hts := C.2.2.2.2.1
  refine ⟨rfl, rfl, by rw [f_size C]; exact hR.1, by rw [f_size C]; exact hR.2, f_pay C hcd, List.mem_cons_self, hts _ hcd, hts _ hini, ⟨hd.1, hd.2.1⟩, fun sig h => ?_, hts _ hlk⟩
  have h2 := hd.2.2
  rw [h] at h2
  exact (Option.some.inj h2).symm
theorem r_callV (C : f_C X Γ B0 own cc nL fr mc ms lo) (E : f_E X Γ B0 ret mc ms post px) (hh : f_HS Γ B0 w X H locs) (hM : f_Met (f_l X) y bytes maxL ret9 fr9 mc9 ms9 lo9 Γ B0 (.ref b :: As) w post9 px9) (hk : f_LkV own index y bytes maxL ret9 np) (hrv : w tr = some (b, .inr (ci, fs))) (hci : vwCl[ci]? = some (y.cls, T, N)) (hnp : As.length = np) (hst : st = As.reverse ++ .ref b :: rest) (hcat : (rest.map fun v => v.category).sum ≤ 8) (hdg : decode cc pc = .ok (.invokevirtual index, 3)) (hR : fr9 + 1 ≤ fr ∧ 8 + (maxL + 11) + lo9 ≤ lo) (hcs : k + mc9 ≤ mc ∧ n + ms9 ≤ ms) (hx : ∀ E9 w', px9 E9 w' → px E9 w')
    (kk : ∀ (v : Option Value) (w' : fV) (H1 : Heap) (locs1 : List Loc), H.size ≤ H1.size → post9 v w' → f_HS Γ B0 w' X H1 locs1 → f_W X H1 locs1 (k + mc9) (n + ms9) (pc + 3) L (v.toList ++ rest)) : f_W X H locs k n pc L st := by
  intro ls hl9
  have hts := C.2.2.2.2.1
  obtain ⟨⟨g1, g2, g3, g4, g5⟩, hd⟩ := hk
  refine f_cont C E hh (vx_runV ⟨C.1, C.2.1, C.2.2.1, C.2.2.2.1, hts⟩ hM ⟨f_cb C g5 g4 g1 hd hR, hts _ g2, hts _ g3⟩ ⟨f_blind, va_recv C.2.2.2.2.2.1.1 (hh.1.P hrv) hci (q0 := 0) rfl, fun U hU hW => f_pre C hh U hU hW⟩ rfl hnp (hl9.1.trans C.2.2.1) hst (lv_room hcat) hdg (by rw [f_size C]; exact hcs)) hl9 hcs hx kk
theorem r_callS (C : f_C X Γ B0 own cc nL fr mc ms lo) (E : f_E X Γ B0 ret mc ms post px) (hh : f_HS Γ B0 w X H locs) (hM : f_Met (f_l X) y bytes maxL ret9 fr9 mc9 ms9 lo9 Γ B0 As w post9 px9) (hk : f_LkS own index y bytes maxL ret9 np) (hnp : As.length = np) (hst : st = As.reverse ++ rest) (hcat : (rest.map fun v => v.category).sum ≤ 8) (hdg : decode cc pc = .ok (.invokestatic index, 3)) (hR : fr9 + 1 ≤ fr ∧ 8 + (maxL + 11) + lo9 ≤ lo) (hcs : k + mc9 ≤ mc ∧ n + ms9 ≤ ms) (hx : ∀ E9 w', px9 E9 w' → px E9 w')
    (kk : ∀ (v : Option Value) (w' : fV) (H1 : Heap) (locs1 : List Loc), H.size ≤ H1.size → post9 v w' → f_HS Γ B0 w' X H1 locs1 → f_W X H1 locs1 (k + mc9) (n + ms9) (pc + 3) L (v.toList ++ rest)) : f_W X H locs k n pc L st := by
  intro ls hl9
  have hts := C.2.2.2.2.1
  obtain ⟨⟨g1, g2, g4, g5⟩, hd⟩ := hk
  refine f_cont C E hh (vx_runS ⟨C.1, C.2.1, C.2.2.1, C.2.2.2.1, hts⟩ hM ⟨f_cb C g5 g4 g1 hd hR, hts _ g2⟩ ⟨f_blind, fun U hU hW => f_pre C hh U hU hW⟩ rfl hnp (hl9.1.trans C.2.2.1) hst (lv_room hcat) hdg (by rw [f_size C]; exact hcs)) hl9 hcs hx kk
/-- a contract without throws, in the kit's plain form -/
theorem f_Met.plain {l : Launch} {args : List Value} (h : f_Met l y bytes maxL ret9 fr9 mc9 ms9 lo9 Γ B0 args w post9 f_no) : Met l y (Cond.code y bytes maxL ret9 :: f_GW) { frames := fr9, cells := mc9, slots := ms9, locals := lo9 } (va_Pc args (f_I Γ B0 w)) (f_Qc Γ B0 post9) mc9 ms9 (f_A B0) := by
  intro p e h1 h2 h3 s m args' below h4 h5 h6 h7
  obtain ⟨n9, o, r1, r2, r3, r4⟩ := h p e h1 h2 h3 s m args' below h4 h5 h6 h7
  refine ⟨n9, o, r1, r2, r3, ?_⟩
  rcases r4 with r4 | ⟨q, -, E9, ce, L9, ⟨w', hw', -⟩, -⟩
  · exact r4
  · exact hw'.elim
theorem f_vx {H : Heap} {ls : Array Slot} {a9 : Array Value} {st0 : List Value} (h : va_Run (f_p X) (f_l X) (f_e X) (f_R X) (f_s X) (f_m X) (f_args X) (f_below X) (f_meth X) (f_c X) H locs k n mc9 ms9 (F0 (f_m X) pc ls st0) rest (f_Qc Γ B0 post9 a9) (f_A B0)) : vx_Run (f_p X) (f_l X) (f_e X) (f_R X) (f_s X) (f_m X) (f_args X) (f_below X) (f_meth X) (f_c X) H locs k n mc9 ms9 (F0 (f_m X) pc ls st0) rest (f_Qc Γ B0 post9 a9) (f_XC Γ B0 f_no) (f_A B0) :=
  fun T hT X9 => Or.inl (h T hT X9)
theorem r_callI (C : f_C X Γ B0 own cc nL fr mc ms lo) (E : f_E X Γ B0 ret mc ms post px) (hh : f_HS Γ B0 w X H locs) (hM : f_Met (f_l X) y bytes maxL none fr9 mc9 ms9 lo9 Γ B0 (.ref b :: As) w post9 f_no) (hk : f_LkI own index y bytes maxL np) (hnp : As.length = np) (hst : st = As.reverse ++ .ref b :: rest) (hcat : (rest.map fun v => v.category).sum ≤ 8) (hdg : decode cc pc = .ok (.invokespecial index, 3)) (hR : fr9 + 1 ≤ fr ∧ 8 + (maxL + 11) + lo9 ≤ lo) (hcs : k + mc9 ≤ mc ∧ n + ms9 ≤ ms)
    (kk : ∀ (v : Option Value) (w' : fV) (H1 : Heap) (locs1 : List Loc), H.size ≤ H1.size → post9 v w' → f_HS Γ B0 w' X H1 locs1 → f_W X H1 locs1 (k + mc9) (n + ms9) (pc + 3) L (v.toList ++ rest)) : f_W X H locs k n pc L st := by
  intro ls hl9
  have hts := C.2.2.2.2.1
  obtain ⟨⟨g1, g2, g4, g5, g6⟩, hd⟩ := hk
  refine f_cont C E hh (f_vx (va_runI ⟨C.1, C.2.1, C.2.2.1, C.2.2.2.1, hts⟩ hM.plain ⟨f_cb C g5 g4 g1 hd hR, g6, hts _ g2⟩ ⟨f_blind, fun U hU hW => f_pre C hh U hU hW⟩ rfl hnp (hl9.1.trans C.2.2.1) hst (lv_room hcat) hdg (by rw [f_size C]; exact hcs))) hl9 hcs (fun _ _ z => z.elim) kk
theorem f_cn (C : f_C X Γ B0 own cc nL fr mc ms lo) (hcd : Cond.code y bytes maxL ret9 ∈ f_GW) (hini : Cond.initialized y.cls ∈ f_GW) (hne : (own, index, y, host) ∈ f_nests) (hd : y.cls ≠ "java/lang/invoke/MethodHandle" ∧ y.cls ≠ "java/lang/invoke/VarHandle" ∧ (parseMethodDescriptor y.desc).map (fun d => d.parameters.length) = some np) (hR : fr9 + 1 ≤ fr ∧ 8 + (maxL + 11) + lo9 ≤ lo) :
    va_CN (f_R X) (f_s X) (f_args X) own index y host bytes maxL ret9 (Cond.code y bytes maxL ret9 :: f_GW) { frames := fr9, cells := mc9, slots := ms9, locals := lo9 } mc9 ms9 np := by
  have hts := C.2.2.2.2.1
  refine ⟨⟨rfl, rfl, by rw [f_size C]; exact hR.1, by rw [f_size C]; exact hR.2, f_pay C hcd, List.mem_cons_self⟩, hts _ hcd, hts _ hini, ⟨hd.1, hd.2.1⟩, fun sig h => ?_, va_Nw.use rfl (C.2.2.2.2.2.1.2.2.2.2.1 _ hne)⟩
  have h2 := hd.2.2
  rw [h] at h2
  exact (Option.some.inj h2).symm
theorem r_callSN (C : f_C X Γ B0 own cc nL fr mc ms lo) (E : f_E X Γ B0 ret mc ms post px) (hh : f_HS Γ B0 w X H locs) (hM : f_Met (f_l X) y bytes maxL ret9 fr9 mc9 ms9 lo9 Γ B0 As w post9 f_no) (hk : f_LkN own index y host bytes maxL ret9 np) (hnp : As.length = np) (hst : st = As.reverse ++ rest) (hcat : (rest.map fun v => v.category).sum ≤ 8) (hdg : decode cc pc = .ok (.invokestatic index, 3)) (hR : fr9 + 1 ≤ fr ∧ 8 + (maxL + 11) + lo9 ≤ lo) (hcs : k + mc9 ≤ mc ∧ n + ms9 ≤ ms)
    (kk : ∀ (v : Option Value) (w' : fV) (H1 : Heap) (locs1 : List Loc), H.size ≤ H1.size → post9 v w' → f_HS Γ B0 w' X H1 locs1 → f_W X H1 locs1 (k + mc9) (n + ms9) (pc + 3) L (v.toList ++ rest)) : f_W X H locs k n pc L st := by
  intro ls hl9
  have hts := C.2.2.2.2.1
  obtain ⟨⟨g1, g2, g4, g5⟩, hd⟩ := hk
  refine f_cont C E hh (f_vx (va_runSN ⟨C.1, C.2.1, C.2.2.1, C.2.2.2.1, hts⟩ hM.plain ⟨f_cn C g5 g4 g1 hd hR, hts _ g2, trivial⟩ ⟨f_blind, fun U hU hW => f_pre C hh U hU hW⟩ rfl hnp (hl9.1.trans C.2.2.1) hst (lv_room hcat) hdg (by rw [f_size C]; exact hcs))) hl9 hcs (fun _ _ z => z.elim) kk
theorem r_callIN (C : f_C X Γ B0 own cc nL fr mc ms lo) (E : f_E X Γ B0 ret mc ms post px) (hh : f_HS Γ B0 w X H locs) (hM : f_Met (f_l X) y bytes maxL none fr9 mc9 ms9 lo9 Γ B0 (.ref b :: As) w post9 f_no) (hk : f_LkNI own index y host bytes maxL np) (hnp : As.length = np) (hst : st = As.reverse ++ .ref b :: rest) (hcat : (rest.map fun v => v.category).sum ≤ 8) (hdg : decode cc pc = .ok (.invokespecial index, 3)) (hR : fr9 + 1 ≤ fr ∧ 8 + (maxL + 11) + lo9 ≤ lo) (hcs : k + mc9 ≤ mc ∧ n + ms9 ≤ ms)
    (kk : ∀ (v : Option Value) (w' : fV) (H1 : Heap) (locs1 : List Loc), H.size ≤ H1.size → post9 v w' → f_HS Γ B0 w' X H1 locs1 → f_W X H1 locs1 (k + mc9) (n + ms9) (pc + 3) L (v.toList ++ rest)) : f_W X H locs k n pc L st := by
  intro ls hl9
  have hts := C.2.2.2.2.1
  obtain ⟨⟨g1, g2, g4, g5, g6⟩, hd⟩ := hk
  refine f_cont C E hh (f_vx (va_runIN ⟨C.1, C.2.1, C.2.2.1, C.2.2.2.1, hts⟩ hM.plain ⟨f_cn C g5 g4 g1 hd hR, g6, hts _ g2⟩ ⟨f_blind, fun U hU hW => f_pre C hh U hU hW⟩ rfl hnp (hl9.1.trans C.2.2.1) hst (lv_room hcat) hdg (by rw [f_size C]; exact hcs))) hl9 hcs (fun _ _ z => z.elim) kk
/-- throw new E("..") out of ProofSheet -/
def f_Thr (cls : String) (ik ic : Nat) : Prop := Cond.classLink "ProofSheet" ik cls ∈ f_GW ∧ Cond.initialized cls ∈ f_GW ∧ Bundle.fit cls = true ∧ (∀ z ∈ vx_atS "ProofSheet" ic cls ["java/lang/RuntimeException", "java/lang/Exception"], z ∈ f_GW ∨ z ∈ (f_decls.map Cond.declares ++ f_excs.map fun q => Cond.castable q q)) ∧ (∀ z ∈ Cond.classLink "ProofSheet" ik cls :: Cond.initialized cls :: vx_atS "ProofSheet" ic cls ["java/lang/RuntimeException", "java/lang/Exception"], vx_ot z = true)
theorem r_throw (C : f_C X Γ B0 "ProofSheet" cc nL fr mc ms lo) (E : f_E X Γ B0 ret mc ms post px) (hh : f_HS Γ B0 w X H locs) {cls text : String} {ik is ic : Nat} (hT : f_Thr cls ik ic) (hs : (is, text) ∈ f_strs)
    (d0 : decode cc pc = .ok (.new ik, 3)) (d3 : decode cc (pc + 3) = .ok (.dup, 1)) (d4 : decode cc (pc + 4) = .ok (.ldc is, 2)) (d6 : decode cc (pc + 6) = .ok (.invokespecial ic, 3)) (d9 : decode cc (pc + 9) = .ok (.athrow, 1))
    (hfr : 5 < fr) (hlo : 90 ≤ lo) (hcat : (rest.map fun v => v.category).sum ≤ 8) (hk : k + 1 ≤ mc) (hn : n + 6 ≤ ms) (hp : px cls w) : f_W X H locs k n pc L rest := by
  intro ls hl9
  have hts := C.2.2.2.2.1
  obtain ⟨-, -, ⟨z1, z2⟩, hstr, hnw⟩ := C.2.2.2.2.2.1
  obtain ⟨t1, t2, t3, t4, t5⟩ := hT
  obtain ⟨sa, hsa⟩ := hstr _ hs
  rw [E.2.2.2]
  refine vx_throwS (names := ["java/lang/RuntimeException", "java/lang/Exception"]) (A := f_A B0) C.1 C.2.1 E.2.1 C.2.2.2.1 t3 (by decide +kernel) (hts _ t1) (hts _ t2) hsa (fun z hz => ?_) t5 z1 z2 hh.2 hl9.1 d0 d3 d4 d6 d9 (fun x hx9 => (E.2.2.1 x hx9).elim) (by rw [f_size C]; exact hfr) (by rw [f_size C]; show _ ≤ lo; simp only [List.length_cons, List.length_nil]; omega) (by rw [f_size C]; exact hk) (by rw [f_size C]; exact hn) C.2.2.2.2.2.2.1 (fun t ha hs1 hk1 => ⟨w, hp, hh.1.kept hk1, ?_⟩) hh.2.2.2 hk hn
  · rcases t4 z hz with h | h
    · exact hts _ h
    · rcases List.mem_append.mp h with h | h
      · obtain ⟨q, hq, rfl⟩ := List.mem_map.mp h
        exact va_Nw.use rfl (hnw.2.1 q hq)
      · obtain ⟨q, hq, rfl⟩ := List.mem_map.mp h
        exact va_Nw.use rfl (hnw.2.2.1 q hq)
  · exact ⟨Nat.le_trans hh.2.1 hs1, fun q h1 h2 => (hk1 q (Nat.lt_of_lt_of_le h1 hh.2.1)).trans (hh.2.2.1 q h1 h2)⟩
end FWF
