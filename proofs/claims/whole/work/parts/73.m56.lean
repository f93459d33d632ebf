/-! ===== the law's own rows ===== -/
theorem f_Nc.warm {s U : State} (h : f_Nc s) (hW : s.WarmedH U.vm) : f_Nc U := fun q hq => va_Nc.moved hW.alike (h q hq)
theorem f_blind2 {Γ : fG} {B0 : Nat} {w : fV} {args : List Value} : FrameBlind (va_Pc args (f_I2 Γ B0 w)) := fun a U g mk q => ⟨q.1, q.2.1, q.2.2.1.calling g mk a, f_Nc.warm (U := U.calling g mk a) q.2.2.2 (State.WarmedH.refl U)⟩
def f_LkSW (own : String) (index : Nat) (y : MethodName) (cc : ByteArray) (nL : Nat) (ret : Option FieldType) (hs : List (Nat × Nat × Nat × Nat)) (np : Nat) : Prop :=
  (Cond.methodLink own index y ∈ f_GW ∧ Cond.static y ∈ f_GW ∧ Cond.initialized y.cls ∈ f_GW ∧ Cond.codeWith y cc nL ret hs ∈ f_GW) ∧ (y.cls ≠ "java/lang/invoke/MethodHandle" ∧ y.cls ≠ "java/lang/invoke/VarHandle" ∧ (parseMethodDescriptor y.desc).map (fun d => d.parameters.length) = some np)
section FWL
variable {X : fX} {Γ : fG} {B0 : Nat} {own : String} {cc : ByteArray} {nL fr mc ms lo : Nat} {H : Heap} {locs : List Loc} {k n pc : Nat} {L : List (Option Value)} {st rest : List Value} {w : fV}
variable {index : Nat} {y : MethodName} {bytes : ByteArray} {maxL np fr9 mc9 ms9 lo9 b ci N : Nat} {ret9 : Option FieldType} {post9 : Option Value → fV → Prop} {As : List Value} {fs : List Value} {T : u_T} {tr : fT} {hs : List (Nat × Nat × Nat × Nat)}
theorem f_cont0 (hh : f_HS Γ B0 w X H locs) {st0 : List Value} {ls : Array Slot} {a9 : Array Value}
    (hr : vx_Run (f_p X) (f_l X) (f_e X) (f_R X) (f_s X) (f_m X) (f_args X) (f_below X) (f_meth X) (f_c X) H locs k n mc9 ms9 (F0 (f_m X) pc ls st0) rest (f_Qc Γ B0 post9 a9) (f_XC Γ B0 f_no) (f_A B0)) (hl9 : f_L ls (f_c X).maxLocals L)
    (kk : ∀ (v : Option Value) (w' : fV) (H1 : Heap) (locs1 : List Loc), H.size ≤ H1.size → post9 v w' → f_HS Γ B0 w' X H1 locs1 → f_W X H1 locs1 (k + mc9) (n + ms9) (pc + 3) L (v.toList ++ rest)) : W (f_p X) (f_l X) (f_e X) (f_R X) (f_s X) (f_m X) (f_args X) (f_below X) (f_meth X) (f_c X) H locs k n (f_Q X) (F0 (f_m X) pc ls st0) := by
  intro T hT X9
  rcases hr T hT X9 with ⟨v, st₀, t, T', Lc, h0, X', hL, e1, e2, ⟨⟨v', w', hv, hp, hb⟩, hF⟩, st⟩ | ⟨q, st₀, t, T', Lc, E9, ce, h0, X', hL, e1, e2, ⟨w', hp, hb, hF⟩, hce, hcv, hcl, st⟩
  · obtain ⟨k1, k2, k3⟩ := vx_keep h0 e1 hh.2 (fun q _ h => h) (fun q h => h) hL hF
    have hv' : v = v' := by cases hv; rfl
    subst hv'
    obtain ⟨t2, a1, b1⟩ := kk v w' T'.heap (locs ++ Lc) k1 hp ⟨by rw [e1]; exact hb, k3⟩ ls hl9 T' rfl X'
    exact ⟨t2, st t2 a1, b1⟩
  · exact hp.elim
theorem r_callV0 (C : f_C X Γ B0 own cc nL fr mc ms lo) (hl : (f_l X).stackTraces = false) (hh : f_HS Γ B0 w X H locs) (hM : f_Met (f_l X) y bytes maxL ret9 fr9 mc9 ms9 lo9 Γ B0 (.ref b :: As) w post9 f_no) (hk : f_LkV own index y bytes maxL ret9 np) (hrv : w tr = some (b, .inr (ci, fs))) (hci : vwCl[ci]? = some (y.cls, T, N)) (hnp : As.length = np) (hst : st = As.reverse ++ .ref b :: rest) (hcat : (rest.map fun v => v.category).sum ≤ 8) (hdg : decode cc pc = .ok (.invokevirtual index, 3)) (hR : fr9 + 1 ≤ fr ∧ 8 + (maxL + 11) + lo9 ≤ lo) (hcs : k + mc9 ≤ mc ∧ n + ms9 ≤ ms)
    (kk : ∀ (v : Option Value) (w' : fV) (H1 : Heap) (locs1 : List Loc), H.size ≤ H1.size → post9 v w' → f_HS Γ B0 w' X H1 locs1 → f_W X H1 locs1 (k + mc9) (n + ms9) (pc + 3) L (v.toList ++ rest)) : f_W X H locs k n pc L st :=
  r_callVH C hl hh hM hk hrv hci hnp hst hcat hdg hR hcs kk (fun _ _ _ _ _ _ hp => hp.elim)
theorem r_callI0 (C : f_C X Γ B0 own cc nL fr mc ms lo) (hh : f_HS Γ B0 w X H locs) (hM : f_Met (f_l X) y bytes maxL none fr9 mc9 ms9 lo9 Γ B0 (.ref b :: As) w post9 f_no) (hk : f_LkI own index y bytes maxL np) (hnp : As.length = np) (hst : st = As.reverse ++ .ref b :: rest) (hcat : (rest.map fun v => v.category).sum ≤ 8) (hdg : decode cc pc = .ok (.invokespecial index, 3)) (hR : fr9 + 1 ≤ fr ∧ 8 + (maxL + 11) + lo9 ≤ lo) (hcs : k + mc9 ≤ mc ∧ n + ms9 ≤ ms)
    (kk : ∀ (v : Option Value) (w' : fV) (H1 : Heap) (locs1 : List Loc), H.size ≤ H1.size → post9 v w' → f_HS Γ B0 w' X H1 locs1 → f_W X H1 locs1 (k + mc9) (n + ms9) (pc + 3) L (v.toList ++ rest)) : f_W X H locs k n pc L st := by
  intro ls hl9
  have hts := C.2.2.2.2.1
  obtain ⟨⟨g1, g2, g4, g5, g6⟩, hd⟩ := hk
  exact f_cont0 hh (f_vx (va_runI ⟨C.1, C.2.1, C.2.2.1, C.2.2.2.1, hts⟩ hM.plain ⟨f_cb C g5 g4 g1 hd hR, g6, hts _ g2⟩ ⟨f_blind, fun U hU hW => f_pre C hh U hU hW⟩ rfl hnp (hl9.1.trans C.2.2.1) hst (lv_room hcat) hdg (by rw [f_size C]; exact hcs))) hl9 kk
theorem r_callSW (C : f_C X Γ B0 own cc nL fr mc ms lo) (hNc : f_Nc (f_s X)) (hh : f_HS Γ B0 w X H locs) (hM : f_MetW (f_l X) y bytes maxL ret9 hs fr9 mc9 ms9 lo9 Γ B0 As w post9) (hk : f_LkSW own index y bytes maxL ret9 hs np) (hnp : As.length = np) (hst : st = As.reverse ++ rest) (hcat : (rest.map fun v => v.category).sum ≤ 8) (hdg : decode cc pc = .ok (.invokestatic index, 3)) (hR : fr9 + 1 ≤ fr ∧ 8 + (maxL + 11) + lo9 ≤ lo) (hcs : k + mc9 ≤ mc ∧ n + ms9 ≤ ms)
    (kk : ∀ (v : Option Value) (w' : fV) (H1 : Heap) (locs1 : List Loc), H.size ≤ H1.size → post9 v w' → f_HS Γ B0 w' X H1 locs1 → f_W X H1 locs1 (k + mc9) (n + ms9) (pc + 3) L (v.toList ++ rest)) : f_W X H locs k n pc L st := by
  intro ls hl9
  have hts := C.2.2.2.2.1
  obtain ⟨⟨g1, g2, g4, g5⟩, hd⟩ := hk
  refine f_cont0 hh (vx_runSX ⟨C.1, C.2.1, C.2.2.1, C.2.2.2.1, hts⟩ hM ⟨⟨rfl, rfl, by rw [f_size C]; exact hR.1, by rw [f_size C]; exact hR.2, ?_, List.mem_cons_self⟩, hts _ g5, hts _ g4, ⟨hd.1, hd.2.1⟩, fun sig h => ?_, hts _ g1, hts _ g2⟩ ⟨f_blind2, fun U hU hW => ⟨rfl, by rw [hU]; exact hh.1, C.2.2.2.2.2.1.warm hh.2 hU hW, hNc.warm hW⟩⟩ rfl hnp (hl9.1.trans C.2.2.1) hst (lv_room hcat) hdg (by rw [f_size C]; exact hcs)) hl9 kk
  · intro z hz a' U hW
    have hm : z ∈ f_GW := by
      rcases List.mem_cons.mp hz with rfl | h
      · exact g5
      · exact h
    exact word_at hW (f_good z hm) (hts z hm)
  · have h2 := hd.2.2
    rw [h] at h2
    exact (Option.some.inj h2).symm
end FWL
/-- what the law stands under all along -/
def f_law (X9 : fX) (Γ : fG) (B0 b L : Nat) (xs : Nat → Int32) : Prop :=
  f_C X9 Γ B0 RL cL_law 7 12 639089 7178836 442 ∧ (f_l X9).stackTraces = false ∧ f_Nc (f_s X9) ∧ va_X b L xs (f_s X9) (f_s X9).heap ∧ b < (f_s X9).heap.size ∧ b < B0
abbrev LL (b x m o i : Nat) (k5 k6 : Option Value) : List (Option Value) := [some (.ref b), some (.ref x), some (.ref m), some (.ref o), some (.int (nI i)), k5, k6]
/-- the rest of a round: a call more, the same two objects and the same out -/
def KK (X9 : fX) (Γ : fG) (B0 b i n : Nat) (ad : Nat → Nat → Nat) (k m : Nat) : Prop := ∀ (P' R' M' : fR) (ad' : Nat → Nat → Nat) (H : Heap) (locs : List Loc), RE (n + 1) P' R' M' → ad' 1 0 = ad 1 0 → (∀ j, ad' 30 j = ad 30 j) → f_HS Γ B0 (wj (fw Γ ad' P') (xw Γ ad' R') (mw Γ ad' M')) X9 H locs → f_W X9 H locs k m 1762 (LL b (ad 1 0) (ad 30 0) (ad 30 18) i none none) []
section LAWR
variable {X9 : fX} {Γ : fG} {B0 b L : Nat} {xs : Nat → Int32} {H : Heap} {locs : List Loc} {k m n i p : Nat} {rest : List Value} {ad ad' : Nat → Nat → Nat} {P' R' M3 : fR} {w : fV}
theorem r_sld (Q : f_law X9 Γ B0 b L xs) (hh : f_HS Γ B0 w X9 H locs) (hL : L ≤ 2560) {j : Nat} (hj : j < L) {Ls : List (Option Value)} (hdg : decode cL_law p = .ok (.iaload, 1)) (kk : f_W X9 H locs k m (p + 1) Ls (.int (xs j) :: rest)) : f_W X9 H locs k m p Ls (.int (nI j) :: .ref b :: rest) := by
  intro ls hl9
  have hj2 : (nI j).toNatClampNeg = j := nI_clamp (by omega)
  refine va_sld (A := f_A B0) Q.1.1 Q.1.2.1 Q.2.2.2.1 Q.2.2.2.2.1 (Nat.not_le.mpr Q.2.2.2.2.2) hh.2 (vp_in_nI hj (by omega)) hdg ?_
  rw [hj2]
  exact kk ls hl9
theorem r_slen (Q : f_law X9 Γ B0 b L xs) (hh : f_HS Γ B0 w X9 H locs) {Ls : List (Option Value)} (hdg : decode cL_law p = .ok (.arraylength, 1)) (kk : f_W X9 H locs k m (p + 1) Ls (.int (nI L) :: rest)) : f_W X9 H locs k m p Ls (.ref b :: rest) := fun ls hl9 =>
  va_slen (A := f_A B0) Q.1.1 Q.1.2.1 Q.2.2.2.1 Q.2.2.2.2.1 (Nat.not_le.mpr Q.2.2.2.2.2) hh.2 hdg (kk ls hl9)
/-- one int of the script, an argument -/
theorem r_arg (Q : f_law X9 Γ B0 b L xs) (hh : f_HS Γ B0 w X9 H locs) (hL : L ≤ 2560) (c : Nat) (hc : i + c < L) {x m9 o : Nat} {k5 k6 : Option Value} {d : Int} (hd : Int32.ofInt d = nI c) (h : decode cL_law p = .ok (.aload_n 0, 1) ∧ decode cL_law (p + 1) = .ok (.iload 4, 2) ∧ decode cL_law (p + 3) = .ok (.iconst d, 1) ∧ decode cL_law (p + 4) = .ok (.iadd, 1) ∧ decode cL_law (p + 5) = .ok (.iaload, 1))
    (kk : f_W X9 H locs k m (p + 6) (LL b x m9 o i k5 k6) (.int (xs (i + c)) :: rest)) : f_W X9 H locs k m p (LL b x m9 o i k5 k6) rest := by
  have C := Q.1
  refine r_aload_n C h.1 rfl ?_
  refine r_iload C h.2.1 rfl ?_
  refine r_iconst C (nI c) h.2.2.1 hd ?_
  refine r_iaddN C h.2.2.2.1 ?_
  exact r_sld Q hh hL hc h.2.2.2.2 kk
theorem r_tab (Q : f_law X9 Γ B0 b L xs) {d lo9 hi9 : Int} {offs : Array Int} {len : Nat} {Ls : List (Option Value)} {x tgt : Nat} {off : Int} (hx : x < 2 ^ 31) (hdg : decode cL_law p = .ok (.tableswitch d lo9 hi9 offs, len)) (h1 : lo9 = 0) (h2 : (x : Int) ≤ hi9) (ho : offs[x]? = some off) (ht : (p : Int) + off = (tgt : Int)) (kk : f_W X9 H locs k m tgt Ls rest) : f_W X9 H locs k m p Ls (.int (nI x) :: rest) := by
  intro ls hl9
  have e : (nI x).toInt = (x : Int) := nI_toInt hx
  refine lv_tableIn Q.1.1 Q.1.2.1 hdg (by rw [e, h1]; omega) (by rw [e]; omega) (off := off) ?_ ht (kk ls hl9)
  rw [e, h1, Int.sub_zero]
  exact ho
theorem r_tabOut (Q : f_law X9 Γ B0 b L xs) {d lo9 hi9 : Int} {offs : Array Int} {len : Nat} {Ls : List (Option Value)} {x tgt : Nat} (hx : x < 2 ^ 31) (hdg : decode cL_law p = .ok (.tableswitch d lo9 hi9 offs, len)) (h2 : hi9 < (x : Int)) (ht : (p : Int) + d = (tgt : Int)) (kk : f_W X9 H locs k m tgt Ls rest) : f_W X9 H locs k m p Ls (.int (nI x) :: rest) := by
  intro ls hl9
  have e : (nI x).toInt = (x : Int) := nI_toInt hx
  exact lv_tableOut Q.1.1 Q.1.2.1 hdg (Or.inr (by rw [e]; exact h2)) ht (kk ls hl9)
theorem al_out (C : f_C X9 Γ B0 RL cL_law 7 12 639089 7178836 442) {F : Nat → fO} {X : Nat × Nat → fO} (hh : f_HS Γ B0 (wj F X (mw Γ ad' M3)) X9 H locs) (h27 : M3 27 0 0 = 1) {Ls : List (Option Value)} {o : Nat} (ho : o = ad' 30 18) (hdg : decode cL_law p = .ok (.laload, 1)) (kk : f_W X9 H locs k m (p + 1) Ls (.long (lN (M3 26 0 0)) :: rest)) : f_W X9 H locs k m p Ls (.int (nI 0) :: .ref o :: rest) := by
  subst ho
  exact r_lald C hh (t := .inr (.inr 18)) (mw_18 Γ ad' h27) (by decide) (by decide) hdg kk
theorem lg_cmp_self (x : Int64) : lg_cmp x x = 0 := by
  unfold lg_cmp
  simp
def D_int (p : Nat) : Prop := decode cL_law p = .ok (.istore 6, 2) ∧ decode cL_law (p + 2) = .ok (.aload_n 2, 1) ∧ decode cL_law (p + 3) = .ok (.invokevirtual 98, 3) ∧ decode cL_law (p + 6) = .ok (.iload 5, 2) ∧ decode cL_law (p + 8) = .ok (.if_icmp .eq 5, 3) ∧ decode cL_law (p + 13) = .ok (.iload 5, 2) ∧ decode cL_law (p + 15) = .ok (.ifCond .ne 15, 3) ∧ decode cL_law (p + 18) = .ok (.aload_n 3, 1) ∧ decode cL_law (p + 19) = .ok (.iconst 0, 1) ∧ decode cL_law (p + 20) = .ok (.laload, 1) ∧ decode cL_law (p + 21) = .ok (.iload 6, 2) ∧ decode cL_law (p + 23) = .ok (.i2l, 1) ∧ decode cL_law (p + 24) = .ok (.lcmp, 1) ∧ decode cL_law (p + 25) = .ok (.ifCond .eq 5, 3) ∧ ∃ off : Int, decode cL_law (p + 30) = .ok (.goto off, 3) ∧ (p : Int) + 30 + off = 1762
def D_bool (p : Nat) : Prop := decode cL_law p = .ok (.istore 6, 2) ∧ decode cL_law (p + 2) = .ok (.aload_n 2, 1) ∧ decode cL_law (p + 3) = .ok (.invokevirtual 98, 3) ∧ decode cL_law (p + 6) = .ok (.iload 5, 2) ∧ decode cL_law (p + 8) = .ok (.if_icmp .eq 5, 3) ∧ decode cL_law (p + 13) = .ok (.iload 5, 2) ∧ decode cL_law (p + 15) = .ok (.ifCond .ne 22, 3) ∧ decode cL_law (p + 18) = .ok (.aload_n 3, 1) ∧ decode cL_law (p + 19) = .ok (.iconst 0, 1) ∧ decode cL_law (p + 20) = .ok (.laload, 1) ∧ decode cL_law (p + 21) = .ok (.iload 6, 2) ∧ decode cL_law (p + 23) = .ok (.ifCond .eq 7, 3) ∧ decode cL_law (p + 26) = .ok (.lconst 1, 1) ∧ decode cL_law (p + 27) = .ok (.goto 4, 3) ∧ decode cL_law (p + 30) = .ok (.lconst 0, 1) ∧ decode cL_law (p + 31) = .ok (.lcmp, 1) ∧ decode cL_law (p + 32) = .ok (.ifCond .eq 5, 3) ∧ ∃ off : Int, decode cL_law (p + 37) = .ok (.goto off, 3) ∧ (p : Int) + 37 + off = 1762
def D_move (p : Nat) : Prop := decode cL_law p = .ok (.aload_n 2, 1) ∧ decode cL_law (p + 1) = .ok (.invokevirtual 98, 3) ∧ decode cL_law (p + 4) = .ok (.iload 5, 2) ∧ decode cL_law (p + 6) = .ok (.if_icmp .eq 5, 3) ∧ ∃ off : Int, decode cL_law (p + 11) = .ok (.goto off, 3) ∧ (p : Int) + 11 + off = 1762
theorem post_move (Q : f_law X9 Γ B0 b L xs) (hD : D_move p) {kx : Nat} (hre : RE (n + 1) P' R' M3) (h1 : ad' 1 0 = ad 1 0) (h30 : ∀ j, ad' 30 j = ad 30 j) (hk3 : kx ≤ 3) (e8 : M3 8 0 0 = kx) {v6 : Option Value} (hh : f_HS Γ B0 (wj (fw Γ ad' P') (xw Γ ad' R') (mw Γ ad' M3)) X9 H locs) (hc : k ≤ 639089 ∧ m ≤ 7178836) (kk : KK X9 Γ B0 b i n ad k m) : f_W X9 H locs k m p (LL b (ad 1 0) (ad 30 0) (ad 30 18) i (some (.int (nI kx))) v6) [] := by
  obtain ⟨C, hl, hNc, hX, hbl, hb⟩ := Q
  obtain ⟨d2, d3, d6, d8, off, d30, ho⟩ := hD
  refine r_aload_n C d2 rfl ?_
  refine r_callV0 C hl hh (c_X5_thrown hl Γ B0 ad' M3 _ _) lk_L_98 (tr := .inr (.inr 0)) rfl rfl rfl (rest := []) (by rw [h30]; rfl) (Nat.le_of_ble_eq_true rfl) d3 ⟨by decide, by decide⟩ ⟨by omega, by omega⟩ (kk_is fun H locs hs hh => ?_)
  rw [e8]
  refine r_iload C d6 rfl ?_
  refine r_icmp_eqN (tgt := p + 11) C d8 (by omega) (by omega) (by omega) (fun h => ?_) (fun h => absurd rfl h)
  refine r_goto (tgt := 1762) C d30 (by omega) ?_
  exact f_W.le (L' := LL b (ad 1 0) (ad 30 0) (ad 30 18) i none none) ⟨rfl, rfl, rfl, rfl, rfl, trivial⟩ (kk P' R' M3 ad' H locs hre h1 h30 hh)
theorem post_int (Q : f_law X9 Γ B0 b L xs) (hD : D_int p) {kx : Nat} {r : Int32} (hre : RE (n + 1) P' R' M3) (h1 : ad' 1 0 = ad 1 0) (h30 : ∀ j, ad' 30 j = ad 30 j) (hk3 : kx ≤ 3) (e8 : M3 8 0 0 = kx) (eo : kx = 0 → lN (M3 26 0 0) = r.toInt64) {v6 : Option Value} (hh : f_HS Γ B0 (wj (fw Γ ad' P') (xw Γ ad' R') (mw Γ ad' M3)) X9 H locs) (hc : k ≤ 639089 ∧ m ≤ 7178836) (kk : KK X9 Γ B0 b i n ad k m) : f_W X9 H locs k m p (LL b (ad 1 0) (ad 30 0) (ad 30 18) i (some (.int (nI kx))) v6) [.int r] := by
  obtain ⟨C, hl, hNc, hX, hbl, hb⟩ := Q
  obtain ⟨d0, d2, d3, d6, d8, d13, d15, d18, d19, d20, d21, d23, d24, d25, off, d30, ho⟩ := hD
  refine r_istore C d0 rfl rfl ?_
  refine r_aload_n C d2 rfl ?_
  refine r_callV0 C hl hh (c_X5_thrown hl Γ B0 ad' M3 _ _) lk_L_98 (tr := .inr (.inr 0)) rfl rfl rfl (rest := []) (by rw [h30]; rfl) (Nat.le_of_ble_eq_true rfl) d3 ⟨by decide, by decide⟩ ⟨by omega, by omega⟩ (kk_is fun H locs hs hh => ?_)
  rw [e8]
  have hend : f_W X9 H locs k m (p + 30) (LL b (ad 1 0) (ad 30 0) (ad 30 18) i (some (.int (nI kx))) (some (.int r))) [] := by
    refine r_goto (tgt := 1762) C d30 (by omega) ?_
    exact f_W.le (L' := LL b (ad 1 0) (ad 30 0) (ad 30 18) i none none) ⟨rfl, rfl, rfl, rfl, rfl, trivial⟩ (kk P' R' M3 ad' H locs hre h1 h30 hh)
  refine r_iload C d6 rfl ?_
  refine r_icmp_eqN (tgt := p + 13) C d8 (by omega) (by omega) (by omega) (fun h => ?_) (fun h => absurd rfl h)
  refine r_iload C d13 rfl ?_
  refine r_if_neN (tgt := p + 30) C d15 (by omega) (by omega) (fun h => hend) (fun h => ?_)
  refine r_aload_n C d18 rfl ?_
  refine r_iconst C (nI 0) d19 rfl ?_
  refine al_out C hh (RE_27 hre) (h30 18).symm d20 ?_
  refine r_iload C d21 rfl ?_
  refine r_i2l C (v := r.toInt64) d23 rfl ?_
  rw [eo h]
  refine r_lcmp C d24 ?_
  rw [lg_cmp_self]
  exact r_if_eq (tgt := p + 30) C d25 (by omega) (fun h => hend) (fun h => absurd rfl h)
theorem post_bool (Q : f_law X9 Γ B0 b L xs) (hD : D_bool p) {kx : Nat} {r : Bool} (hre : RE (n + 1) P' R' M3) (h1 : ad' 1 0 = ad 1 0) (h30 : ∀ j, ad' 30 j = ad 30 j) (hk3 : kx ≤ 3) (e8 : M3 8 0 0 = kx) (eo : kx = 0 → lN (M3 26 0 0) = lN r.toNat) {v6 : Option Value} (hh : f_HS Γ B0 (wj (fw Γ ad' P') (xw Γ ad' R') (mw Γ ad' M3)) X9 H locs) (hc : k ≤ 639089 ∧ m ≤ 7178836) (kk : KK X9 Γ B0 b i n ad k m) : f_W X9 H locs k m p (LL b (ad 1 0) (ad 30 0) (ad 30 18) i (some (.int (nI kx))) v6) [.int (bI r)] := by
  obtain ⟨C, hl, hNc, hX, hbl, hb⟩ := Q
  obtain ⟨d0, d2, d3, d6, d8, d13, d15, d18, d19, d20, d21, d23, d26, d27, d30, d31, d32, off, d37, ho⟩ := hD
  refine r_istore C d0 rfl rfl ?_
  refine r_aload_n C d2 rfl ?_
  refine r_callV0 C hl hh (c_X5_thrown hl Γ B0 ad' M3 _ _) lk_L_98 (tr := .inr (.inr 0)) rfl rfl rfl (rest := []) (by rw [h30]; rfl) (Nat.le_of_ble_eq_true rfl) d3 ⟨by decide, by decide⟩ ⟨by omega, by omega⟩ (kk_is fun H locs hs hh => ?_)
  rw [e8]
  have hend : f_W X9 H locs k m (p + 37) (LL b (ad 1 0) (ad 30 0) (ad 30 18) i (some (.int (nI kx))) (some (.int (bI r)))) [] := by
    refine r_goto (tgt := 1762) C d37 (by omega) ?_
    exact f_W.le (L' := LL b (ad 1 0) (ad 30 0) (ad 30 18) i none none) ⟨rfl, rfl, rfl, rfl, rfl, trivial⟩ (kk P' R' M3 ad' H locs hre h1 h30 hh)
  refine r_iload C d6 rfl ?_
  refine r_icmp_eqN (tgt := p + 13) C d8 (by omega) (by omega) (by omega) (fun h => ?_) (fun h => absurd rfl h)
  refine r_iload C d13 rfl ?_
  refine r_if_neN (tgt := p + 37) C d15 (by omega) (by omega) (fun h => hend) (fun h => ?_)
  refine r_aload_n C d18 rfl ?_
  refine r_iconst C (nI 0) d19 rfl ?_
  refine al_out C hh (RE_27 hre) (h30 18).symm d20 ?_
  refine r_iload C d21 rfl ?_
  rw [eo h]
  have hl0 : f_W X9 H locs k m (p + 31) (LL b (ad 1 0) (ad 30 0) (ad 30 18) i (some (.int (nI kx))) (some (.int (bI r)))) [.long (lN r.toNat), .long (lN r.toNat)] := by
    refine r_lcmp C d31 ?_
    rw [lg_cmp_self]
    exact r_if_eq (tgt := p + 37) C d32 (by omega) (fun h => hend) (fun h => absurd rfl h)
  refine r_if_eqB (tgt := p + 30) C d23 (by omega) (fun h => ?_) (fun h => ?_)
  · subst h
    exact r_lconst C (lN 0) d30 rfl hl0
  · subst h
    refine r_lconst C (lN 1) d26 rfl ?_
    exact r_goto (tgt := p + 31) C d27 (by omega) hl0
end LAWR
theorem lw_L_92 : f_LkSW RL 92 yL_insert cL_insert 6 (some .int) [(0, 12, 15, 13), (0, 12, 19, 15), (0, 12, 23, 17)] 5 := ⟨⟨f_in 260 (by decide +kernel) (by decide +kernel), f_in 261 (by decide +kernel) (by decide +kernel), f_in 53 (by decide +kernel) (by decide +kernel), f_in 262 (by decide +kernel) (by decide +kernel)⟩, by decide +kernel, by decide +kernel, by decide +kernel⟩
theorem lw_L_102 : f_LkSW RL 102 yL_remove cL_remove 4 (some .int) [(0, 9, 12, 13)] 3 := ⟨⟨f_in 400 (by decide +kernel) (by decide +kernel), f_in 401 (by decide +kernel) (by decide +kernel), f_in 53 (by decide +kernel) (by decide +kernel), f_in 402 (by decide +kernel) (by decide +kernel)⟩, by decide +kernel, by decide +kernel, by decide +kernel⟩
theorem lw_L_106 : f_LkSW RL 106 yL_move cL_move 4 (some .int) [(0, 6, 9, 13)] 3 := ⟨⟨f_in 416 (by decide +kernel) (by decide +kernel), f_in 417 (by decide +kernel) (by decide +kernel), f_in 53 (by decide +kernel) (by decide +kernel), f_in 418 (by decide +kernel) (by decide +kernel)⟩, by decide +kernel, by decide +kernel, by decide +kernel⟩
theorem lw_L_110 : f_LkSW RL 110 yL_edit cL_edit 6 (some .int) [(0, 12, 15, 13), (0, 12, 19, 15)] 5 := ⟨⟨f_in 423 (by decide +kernel) (by decide +kernel), f_in 424 (by decide +kernel) (by decide +kernel), f_in 53 (by decide +kernel) (by decide +kernel), f_in 425 (by decide +kernel) (by decide +kernel)⟩, by decide +kernel, by decide +kernel, by decide +kernel⟩
theorem lw_L_113 : f_LkSW RL 113 yL_replace cL_replace 5 (some .int) [(0, 10, 13, 15)] 4 := ⟨⟨f_in 438 (by decide +kernel) (by decide +kernel), f_in 439 (by decide +kernel) (by decide +kernel), f_in 53 (by decide +kernel) (by decide +kernel), f_in 440 (by decide +kernel) (by decide +kernel)⟩, by decide +kernel, by decide +kernel, by decide +kernel⟩
theorem lw_L_121 : f_LkSW RL 121 yL_edition cL_edition 4 (some .int) [(0, 9, 12, 13)] 3 := ⟨⟨f_in 454 (by decide +kernel) (by decide +kernel), f_in 455 (by decide +kernel) (by decide +kernel), f_in 53 (by decide +kernel) (by decide +kernel), f_in 456 (by decide +kernel) (by decide +kernel)⟩, by decide +kernel, by decide +kernel, by decide +kernel⟩
theorem lw_L_124 : f_LkSW RL 124 yL_setFolds cL_setFolds 5 (some .int) [(0, 10, 13, 15)] 4 := ⟨⟨f_in 461 (by decide +kernel) (by decide +kernel), f_in 462 (by decide +kernel) (by decide +kernel), f_in 53 (by decide +kernel) (by decide +kernel), f_in 463 (by decide +kernel) (by decide +kernel)⟩, by decide +kernel, by decide +kernel, by decide +kernel⟩
theorem lw_L_139 : f_LkSW RL 139 yL_pageAt cL_pageAt 7 (some .int) [(0, 14, 17, 13), (0, 14, 21, 15)] 6 := ⟨⟨f_in 470 (by decide +kernel) (by decide +kernel), f_in 471 (by decide +kernel) (by decide +kernel), f_in 53 (by decide +kernel) (by decide +kernel), f_in 472 (by decide +kernel) (by decide +kernel)⟩, by decide +kernel, by decide +kernel, by decide +kernel⟩
theorem lw_L_143 : f_LkSW RL 143 yL_pageByRule cL_pageByRule 7 (some .int) [(0, 14, 17, 13), (0, 14, 21, 15)] 6 := ⟨⟨f_in 497 (by decide +kernel) (by decide +kernel), f_in 498 (by decide +kernel) (by decide +kernel), f_in 53 (by decide +kernel) (by decide +kernel), f_in 499 (by decide +kernel) (by decide +kernel)⟩, by decide +kernel, by decide +kernel, by decide +kernel⟩
theorem lw_L_146 : f_LkSW RL 146 yL_leafOf cL_leafOf 4 (some .int) [(0, 9, 12, 13)] 3 := ⟨⟨f_in 511 (by decide +kernel) (by decide +kernel), f_in 512 (by decide +kernel) (by decide +kernel), f_in 53 (by decide +kernel) (by decide +kernel), f_in 513 (by decide +kernel) (by decide +kernel)⟩, by decide +kernel, by decide +kernel, by decide +kernel⟩
theorem lw_L_149 : f_LkSW RL 149 yL_isTurned cL_isTurned 4 (some .int) [(0, 16, 19, 13)] 3 := ⟨⟨f_in 524 (by decide +kernel) (by decide +kernel), f_in 525 (by decide +kernel) (by decide +kernel), f_in 53 (by decide +kernel) (by decide +kernel), f_in 526 (by decide +kernel) (by decide +kernel)⟩, by decide +kernel, by decide +kernel, by decide +kernel⟩
theorem lw_L_152 : f_LkSW RL 152 yL_setRight cL_setRight 6 (some .int) [(0, 12, 15, 15)] 5 := ⟨⟨f_in 531 (by decide +kernel) (by decide +kernel), f_in 532 (by decide +kernel) (by decide +kernel), f_in 53 (by decide +kernel) (by decide +kernel), f_in 533 (by decide +kernel) (by decide +kernel)⟩, by decide +kernel, by decide +kernel, by decide +kernel⟩
theorem lw_L_155 : f_LkSW RL 155 yL_withdraw cL_withdraw 4 (some .int) [(0, 9, 12, 15), (0, 9, 15, 17)] 3 := ⟨⟨f_in 590 (by decide +kernel) (by decide +kernel), f_in 591 (by decide +kernel) (by decide +kernel), f_in 53 (by decide +kernel) (by decide +kernel), f_in 592 (by decide +kernel) (by decide +kernel)⟩, by decide +kernel, by decide +kernel, by decide +kernel⟩
theorem lw_L_158 : f_LkSW RL 158 yL_pass cL_pass 4 (some .int) [(0, 9, 12, 15)] 3 := ⟨⟨f_in 598 (by decide +kernel) (by decide +kernel), f_in 599 (by decide +kernel) (by decide +kernel), f_in 53 (by decide +kernel) (by decide +kernel), f_in 600 (by decide +kernel) (by decide +kernel)⟩, by decide +kernel, by decide +kernel, by decide +kernel⟩
theorem lw_L_165 : f_LkSW RL 165 yL_mayUse cL_mayUse 4 (some .int) [(0, 16, 19, 15)] 3 := ⟨⟨f_in 610 (by decide +kernel) (by decide +kernel), f_in 611 (by decide +kernel) (by decide +kernel), f_in 53 (by decide +kernel) (by decide +kernel), f_in 612 (by decide +kernel) (by decide +kernel)⟩, by decide +kernel, by decide +kernel, by decide +kernel⟩
theorem lw_L_168 : f_LkSW RL 168 yL_prove cL_prove 5 (some .int) [(0, 10, 13, 13), (0, 10, 17, 15), (0, 10, 21, 17)] 4 := ⟨⟨f_in 617 (by decide +kernel) (by decide +kernel), f_in 618 (by decide +kernel) (by decide +kernel), f_in 53 (by decide +kernel) (by decide +kernel), f_in 619 (by decide +kernel) (by decide +kernel)⟩, by decide +kernel, by decide +kernel, by decide +kernel⟩
theorem lw_L_171 : f_LkSW RL 171 yL_judge cL_judge 6 (some .int) [(0, 19, 22, 13), (0, 19, 26, 15), (0, 19, 30, 17)] 5 := ⟨⟨f_in 635 (by decide +kernel) (by decide +kernel), f_in 636 (by decide +kernel) (by decide +kernel), f_in 53 (by decide +kernel) (by decide +kernel), f_in 637 (by decide +kernel) (by decide +kernel)⟩, by decide +kernel, by decide +kernel, by decide +kernel⟩
theorem lw_L_175 : f_LkSW RL 175 yL_proof cL_proof 5 (some .int) [(0, 10, 13, 13), (0, 10, 17, 15)] 4 := ⟨⟨f_in 643 (by decide +kernel) (by decide +kernel), f_in 644 (by decide +kernel) (by decide +kernel), f_in 53 (by decide +kernel) (by decide +kernel), f_in 645 (by decide +kernel) (by decide +kernel)⟩, by decide +kernel, by decide +kernel, by decide +kernel⟩
theorem lw_L_178 : f_LkSW RL 178 yL_isReady cL_isReady 4 (some .int) [(0, 16, 19, 13)] 3 := ⟨⟨f_in 650 (by decide +kernel) (by decide +kernel), f_in 651 (by decide +kernel) (by decide +kernel), f_in 53 (by decide +kernel) (by decide +kernel), f_in 652 (by decide +kernel) (by decide +kernel)⟩, by decide +kernel, by decide +kernel, by decide +kernel⟩
theorem lw_L_181 : f_LkSW RL 181 yL_makePlates cL_makePlates 4 (some .int) [(0, 9, 12, 13), (0, 9, 15, 17)] 3 := ⟨⟨f_in 657 (by decide +kernel) (by decide +kernel), f_in 658 (by decide +kernel) (by decide +kernel), f_in 53 (by decide +kernel) (by decide +kernel), f_in 659 (by decide +kernel) (by decide +kernel)⟩, by decide +kernel, by decide +kernel, by decide +kernel⟩
theorem lw_L_184 : f_LkSW RL 184 yL_wear cL_wear 6 (some .int) [(0, 12, 15, 13), (0, 12, 19, 15)] 5 := ⟨⟨f_in 714 (by decide +kernel) (by decide +kernel), f_in 715 (by decide +kernel) (by decide +kernel), f_in 53 (by decide +kernel) (by decide +kernel), f_in 716 (by decide +kernel) (by decide +kernel)⟩, by decide +kernel, by decide +kernel, by decide +kernel⟩
theorem lw_L_187 : f_LkSW RL 187 yL_print cL_print 5 (some .int) [(0, 10, 13, 13), (0, 10, 17, 15), (0, 10, 21, 17)] 4 := ⟨⟨f_in 721 (by decide +kernel) (by decide +kernel), f_in 722 (by decide +kernel) (by decide +kernel), f_in 53 (by decide +kernel) (by decide +kernel), f_in 723 (by decide +kernel) (by decide +kernel)⟩, by decide +kernel, by decide +kernel, by decide +kernel⟩
