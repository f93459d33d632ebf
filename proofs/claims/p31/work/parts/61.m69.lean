/-! ===== the script, and the law's own rows ===== -/
def f_IS (Γ : fG) (B0 : Nat) (w : fV) (b L : Nat) (xs : Nat → Int32) (U : State) : Prop := f_I Γ B0 w U ∧ va_X b L xs U U.heap ∧ b < U.heap.size
/-- a contract of a method that reads the script -/
def f_MetS (l : Launch) (y : MethodName) (cc : ByteArray) (nL : Nat) (ret : Option FieldType) (fr mc ms lo : Nat) (Γ : fG) (B0 b L : Nat) (xs : Nat → Int32) (args : List Value) (w : fV) (post : Option Value → fV → Prop) : Prop :=
  vx_Met l y (Cond.code y cc nL ret :: f_GW) { frames := fr, cells := mc, slots := ms, locals := lo } (va_Pc args (f_IS Γ B0 w b L xs)) (f_Qc Γ B0 post) (f_XC Γ B0 f_no) mc ms (f_A B0)
theorem f_ofS {l : Launch} {y : MethodName} {cc : ByteArray} {nL : Nat} {ret : Option FieldType} {fr mc ms lo : Nat} {Γ : fG} {B0 b L : Nat} {xs : Nat → Int32} {args : List Value} {w : fV} {post : Option Value → fV → Prop} (hl : l.stackTraces = false) (hy : plainName y.cls = true) (hc : args.all (fun v => v.category == 1) = true) (hn : args.length ≤ nL)
    (body : ∀ X : fX, f_C X Γ B0 y.cls cc nL fr mc ms lo → f_E X Γ B0 ret mc ms post f_no → f_HS Γ B0 w X (f_s X).heap [] → va_X b L xs (f_s X) (f_s X).heap → b < (f_s X).heap.size → f_W X (f_s X).heap [] 0 0 0 (f_ent nL args) []) : f_MetS l y cc nL ret fr mc ms lo Γ B0 b L xs args w post := by
  refine vx_ofW hy rfl ?_
  intro p e s m args' below meth c s₁ B hml htab hP
  obtain ⟨rfl, ⟨hH, hK⟩, hX, hb⟩ := hP
  have hts := atoms_spec (ws := Cond.code y cc nL ret :: f_GW) B.pre
  have h1 := body (p, l, e, { frames := fr, cells := mc, slots := ms, locals := lo }, s, m, args.toArray, below, meth, c, vx_MQ below (f_Qc Γ B0 post) (f_XC Γ B0 f_no) args.toArray s mc ms (f_A B0))
    ⟨B.exec, B.bytes, hml, findClass_of_methodNamed B.named, fun z hz => hts z (List.mem_cons_of_mem _ hz), hK, B.notSynchronized, rfl⟩
    ⟨B.returns, hl, htab, rfl⟩ ⟨hH, va_S.rf⟩ hX hb
  rw [lg_entry_eq]
  refine h1 _ ?_
  show f_L _ c.maxLocals _
  rw [hml]
  exact f_entry args nL hc hn
set_option maxRecDepth 100000 in
/-- one int of the script, or one made of its place -/
theorem c_L_at {l : Launch} (hl : l.stackTraces = false) (Γ : fG) (B0 : Nat) (w : fV) (b L : Nat) (xs : Nat → Int32) (hL : L ≤ 260) (hB : b < B0) (j : Nat) (hj : j < 2 ^ 31) : f_MetS l yL_at cL_at 2 (some .int) 0 0 0 0 Γ B0 b L xs [.ref b, .int (nI j)] w (f_rI (fun _ w9 => w9 = w)) := by
  refine f_ofS hl (by decide) rfl (Nat.le_of_ble_eq_true rfl) (fun X9 C E hh hX hb => ?_)
  have hbA : ¬ f_A B0 b := Nat.not_le.mpr hB
  refine r_iload_n C dL_at_0 rfl ?_
  refine r_aload_n C dL_at_1 rfl ?_
  refine (fun ls hl9 => va_slen (A := f_A B0) C.1 C.2.1 hX hb hbA hh.2 dL_at_2 ((?_ : f_W X9 (f_s X9).heap [] 0 0 3 [some (.ref b), some (.int (nI j))] [.int (nI L), .int (nI j)]) ls hl9))
  refine r_icmp_geN (tgt := 12) C dL_at_3 (by decide) (by omega) (by omega) (fun h3 => ?_) (fun h3 => ?_)
  · refine r_ldc C ct_L_7 dL_at_12 ?_
    refine r_iload_n C dL_at_14 rfl ?_
    refine r_iconst C (nI 1) dL_at_15 rfl ?_
    refine r_iaddN C dL_at_16 ?_
    refine r_imul C dL_at_17 ?_
    refine r_ldc C ct_L_8 dL_at_18 ?_
    refine r_iadd C dL_at_20 ?_
    exact r_iret C E hh dL_at_21 (by omega) (by omega) ⟨_, rfl, rfl⟩
  · refine r_aload_n C dL_at_6 rfl ?_
    refine r_iload_n C dL_at_7 rfl ?_
    refine (fun ls hl9 => va_sld (A := f_A B0) C.1 C.2.1 hX hb hbA hh.2 (vp_in_nI (show j < L by omega) (by omega)) dL_at_8 ((?_ : f_W X9 (f_s X9).heap [] 0 0 9 [some (.ref b), some (.int (nI j))] [.int (xs (nI j).toNatClampNeg)]) ls hl9))
    refine r_goto (tgt := 21) C dL_at_9 (by decide) ?_
    exact r_iret C E hh dL_at_21 (by omega) (by omega) ⟨_, rfl, rfl⟩
section FWS
variable {X : fX} {Γ : fG} {B0 : Nat} {own : String} {cc : ByteArray} {nL fr mc ms lo : Nat} {H : Heap} {locs : List Loc} {k n pc : Nat} {L : List (Option Value)} {st rest : List Value} {w : fV}
variable {index : Nat} {y : MethodName} {bytes : ByteArray} {maxL np fr9 mc9 ms9 lo9 b ci N : Nat} {ret9 : Option FieldType} {post9 : Option Value → fV → Prop} {As : List Value} {fs : List Value} {T : u_T} {tr : fT}
theorem r_callS0 (C : f_C X Γ B0 own cc nL fr mc ms lo) (hh : f_HS Γ B0 w X H locs) (hM : f_Met (f_l X) y bytes maxL ret9 fr9 mc9 ms9 lo9 Γ B0 As w post9 f_no) (hk : f_LkS own index y bytes maxL ret9 np) (hnp : As.length = np) (hst : st = As.reverse ++ rest) (hcat : (rest.map fun v => v.category).sum ≤ 8) (hdg : decode cc pc = .ok (.invokestatic index, 3)) (hR : fr9 + 1 ≤ fr ∧ 8 + (maxL + 11) + lo9 ≤ lo) (hcs : k + mc9 ≤ mc ∧ n + ms9 ≤ ms)
    (kk : ∀ (v : Option Value) (w' : fV) (H1 : Heap) (locs1 : List Loc), H.size ≤ H1.size → post9 v w' → f_HS Γ B0 w' X H1 locs1 → f_W X H1 locs1 (k + mc9) (n + ms9) (pc + 3) L (v.toList ++ rest)) : f_W X H locs k n pc L st := by
  intro ls hl9
  have hts := C.2.2.2.2.1
  obtain ⟨⟨g1, g2, g4, g5⟩, hd⟩ := hk
  exact f_cont0 hh (vx_runS ⟨C.1, C.2.1, C.2.2.1, C.2.2.2.1, hts⟩ hM ⟨f_cb C g5 g4 g1 hd hR, hts _ g2⟩ ⟨f_blind, fun U hU hW => f_pre C hh U hU hW⟩ rfl hnp (hl9.1.trans C.2.2.1) hst (lv_room hcat) hdg (by rw [f_size C]; exact hcs)) hl9 kk
theorem r_callI0 (C : f_C X Γ B0 own cc nL fr mc ms lo) (hh : f_HS Γ B0 w X H locs) (hM : f_Met (f_l X) y bytes maxL none fr9 mc9 ms9 lo9 Γ B0 (.ref b :: As) w post9 f_no) (hk : f_LkI own index y bytes maxL np) (hnp : As.length = np) (hst : st = As.reverse ++ .ref b :: rest) (hcat : (rest.map fun v => v.category).sum ≤ 8) (hdg : decode cc pc = .ok (.invokespecial index, 3)) (hR : fr9 + 1 ≤ fr ∧ 8 + (maxL + 11) + lo9 ≤ lo) (hcs : k + mc9 ≤ mc ∧ n + ms9 ≤ ms)
    (kk : ∀ (v : Option Value) (w' : fV) (H1 : Heap) (locs1 : List Loc), H.size ≤ H1.size → post9 v w' → f_HS Γ B0 w' X H1 locs1 → f_W X H1 locs1 (k + mc9) (n + ms9) (pc + 3) L (v.toList ++ rest)) : f_W X H locs k n pc L st := by
  intro ls hl9
  have hts := C.2.2.2.2.1
  obtain ⟨⟨g1, g2, g4, g5, g6⟩, hd⟩ := hk
  exact f_cont0 hh (f_vx (va_runI ⟨C.1, C.2.1, C.2.2.1, C.2.2.2.1, hts⟩ hM.plain ⟨f_cb C g5 g4 g1 hd hR, g6, hts _ g2⟩ ⟨f_blind, fun U hU hW => f_pre C hh U hU hW⟩ rfl hnp (hl9.1.trans C.2.2.1) hst (lv_room hcat) hdg (by rw [f_size C]; exact hcs))) hl9 kk
theorem f_blindS {bs Ls : Nat} {xs : Nat → Int32} {args : List Value} : FrameBlind (va_Pc args (f_IS Γ B0 w bs Ls xs)) := fun a U g mk q => ⟨q.1, ⟨q.2.1.1, q.2.1.2.calling g mk a⟩, va_X.moved (U := U.calling g mk a) (State.WarmedH.refl U).alike q.2.2.1, q.2.2.2⟩
/-- the call of a method that reads the script -/
theorem r_callSS (C : f_C X Γ B0 own cc nL fr mc ms lo) {bs Ls : Nat} {xs : Nat → Int32} (hX : va_X bs Ls xs (f_s X) (f_s X).heap) (hbs : bs < (f_s X).heap.size) (hB : bs < B0) (hh : f_HS Γ B0 w X H locs) (hM : f_MetS (f_l X) y bytes maxL ret9 fr9 mc9 ms9 lo9 Γ B0 bs Ls xs As w post9) (hk : f_LkS own index y bytes maxL ret9 np) (hnp : As.length = np) (hst : st = As.reverse ++ rest) (hcat : (rest.map fun v => v.category).sum ≤ 8) (hdg : decode cc pc = .ok (.invokestatic index, 3)) (hR : fr9 + 1 ≤ fr ∧ 8 + (maxL + 11) + lo9 ≤ lo) (hcs : k + mc9 ≤ mc ∧ n + ms9 ≤ ms)
    (kk : ∀ (v : Option Value) (w' : fV) (H1 : Heap) (locs1 : List Loc), H.size ≤ H1.size → post9 v w' → f_HS Γ B0 w' X H1 locs1 → f_W X H1 locs1 (k + mc9) (n + ms9) (pc + 3) L (v.toList ++ rest)) : f_W X H locs k n pc L st := by
  intro ls hl9
  have hts := C.2.2.2.2.1
  obtain ⟨⟨g1, g2, g4, g5⟩, hd⟩ := hk
  have hbA : ¬ f_A B0 bs := Nat.not_le.mpr hB
  refine f_cont0 hh (vx_runS ⟨C.1, C.2.1, C.2.2.1, C.2.2.2.1, hts⟩ hM ⟨f_cb C g5 g4 g1 hd hR, hts _ g2⟩ ⟨f_blindS, fun U hU hW => ⟨rfl, ⟨by rw [hU]; exact hh.1, C.2.2.2.2.2.1.warm hh.2 hU hW⟩, ?_, ?_⟩⟩ rfl hnp (hl9.1.trans C.2.2.1) hst (lv_room hcat) hdg (by rw [f_size C]; exact hcs)) hl9 kk
  · refine (va_X.moved hW.alike hX).kept ?_
    rw [hU]; exact hh.2.2.1 bs hbs hbA
  · rw [hU]; exact Nat.lt_of_lt_of_le hbs hh.2.1
end FWS
/-- what the law stands under all along -/
def f_law (X9 : fX) (Γ : fG) (B0 b L : Nat) (xs : Nat → Int32) : Prop :=
  f_C X9 Γ B0 RL cL_law 8 13 641324 7177651 532 ∧ (f_l X9).stackTraces = false ∧ va_X b L xs (f_s X9) (f_s X9).heap ∧ b < (f_s X9).heap.size ∧ b < B0
def mk4 (Γ : fG) (as : Nat → Nat) (k : Nat) : Nat → fO := fun t => match t with
  | 1 => if 1 ≤ k then some (as 1, .inl (Γ.2 0, 24, .inl (fun _ => 0))) else none
  | 2 => if 2 ≤ k then some (as 2, .inl (Γ.2 0, 24, .inl (fun _ => 0))) else none
  | 3 => if 3 ≤ k then some (as 3, .inl (Γ.2 0, 16, .inl (fun _ => 0))) else none
  | 4 => if 4 ≤ k then some (as 4, .inl (Γ.2 0, 6, .inl (fun _ => 0))) else none
  | _ => none
theorem mk4_0 (Γ : fG) (F : Nat → fO) (X : Nat × Nat → fO) (as : Nat → Nat) (a : Nat) : f_add (wj F X (mk4 Γ as 0)) (.inr (.inr 1)) (a, .inl (Γ.2 0, 24, .inl (fun _ => 0))) = wj F X (mk4 Γ (fun j => if j = 1 then a else as j) 1) := by
  refine f_add_eq rfl (fun t' ht => ?_)
  match t' with
  | .inl _ => rfl
  | .inr (.inl _) => rfl
  | .inr (.inr 0) => rfl
  | .inr (.inr 1) => exact absurd rfl ht
  | .inr (.inr 2) => rfl
  | .inr (.inr 3) => rfl
  | .inr (.inr 4) => rfl
  | .inr (.inr (t + 5)) => rfl
theorem mk4_1 (Γ : fG) (F : Nat → fO) (X : Nat × Nat → fO) (as : Nat → Nat) (a : Nat) : f_add (wj F X (mk4 Γ as 1)) (.inr (.inr 2)) (a, .inl (Γ.2 0, 24, .inl (fun _ => 0))) = wj F X (mk4 Γ (fun j => if j = 2 then a else as j) 2) := by
  refine f_add_eq rfl (fun t' ht => ?_)
  match t' with
  | .inl _ => rfl
  | .inr (.inl _) => rfl
  | .inr (.inr 0) => rfl
  | .inr (.inr 1) => rfl
  | .inr (.inr 2) => exact absurd rfl ht
  | .inr (.inr 3) => rfl
  | .inr (.inr 4) => rfl
  | .inr (.inr (t + 5)) => rfl
theorem mk4_2 (Γ : fG) (F : Nat → fO) (X : Nat × Nat → fO) (as : Nat → Nat) (a : Nat) : f_add (wj F X (mk4 Γ as 2)) (.inr (.inr 3)) (a, .inl (Γ.2 0, 16, .inl (fun _ => 0))) = wj F X (mk4 Γ (fun j => if j = 3 then a else as j) 3) := by
  refine f_add_eq rfl (fun t' ht => ?_)
  match t' with
  | .inl _ => rfl
  | .inr (.inl _) => rfl
  | .inr (.inr 0) => rfl
  | .inr (.inr 1) => rfl
  | .inr (.inr 2) => rfl
  | .inr (.inr 3) => exact absurd rfl ht
  | .inr (.inr 4) => rfl
  | .inr (.inr (t + 5)) => rfl
theorem mk4_3 (Γ : fG) (F : Nat → fO) (X : Nat × Nat → fO) (as : Nat → Nat) (a : Nat) : f_add (wj F X (mk4 Γ as 3)) (.inr (.inr 4)) (a, .inl (Γ.2 0, 6, .inl (fun _ => 0))) = wj F X (mk4 Γ (fun j => if j = 4 then a else as j) 4) := by
  refine f_add_eq rfl (fun t' ht => ?_)
  match t' with
  | .inl _ => rfl
  | .inr (.inl _) => rfl
  | .inr (.inr 0) => rfl
  | .inr (.inr 1) => rfl
  | .inr (.inr 2) => rfl
  | .inr (.inr 3) => rfl
  | .inr (.inr 4) => exact absurd rfl ht
  | .inr (.inr (t + 5)) => rfl
theorem mk4_n (Γ : fG) (F : Nat → fO) (X : Nat × Nat → fO) : wj F X (fun _ => none) = wj F X (mk4 Γ (fun _ => 0) 0) := by
  funext t
  match t with
  | .inl _ => rfl
  | .inr (.inl _) => rfl
  | .inr (.inr 0) => rfl
  | .inr (.inr 1) => rfl
  | .inr (.inr 2) => rfl
  | .inr (.inr 3) => rfl
  | .inr (.inr 4) => rfl
  | .inr (.inr (t + 5)) => rfl
theorem mk4_4 (Γ : fG) (F : Nat → fO) (X : Nat × Nat → fO) (as : Nat → Nat) {ad : Nat → Nat → Nat} (h : ∀ j, ad 30 j = as j) : wj F X (mk4 Γ as 4) = wj F X (mw Γ ad zP) := by
  funext t
  match t with
  | .inl _ => rfl
  | .inr (.inl _) => rfl
  | .inr (.inr 0) => rfl
  | .inr (.inr 1) => show (some (as 1, (.inl (Γ.2 0, 24, .inl (fun _ => (0 : Int32))) : va_E)) : fO) = some (ad 30 1, .inl (Γ.2 0, 24, .inl (fun _ => nI 0))); rw [h]; rfl
  | .inr (.inr 2) => show (some (as 2, (.inl (Γ.2 0, 24, .inl (fun _ => (0 : Int32))) : va_E)) : fO) = some (ad 30 2, .inl (Γ.2 0, 24, .inl (fun _ => nI 0))); rw [h]; rfl
  | .inr (.inr 3) => show (some (as 3, (.inl (Γ.2 0, 16, .inl (fun _ => (0 : Int32))) : va_E)) : fO) = some (ad 30 3, .inl (Γ.2 0, 16, .inl (fun _ => nI 0))); rw [h]; rfl
  | .inr (.inr 4) => show (some (as 4, (.inl (Γ.2 0, 6, .inl (fun _ => (0 : Int32))) : va_E)) : fO) = some (ad 30 4, .inl (Γ.2 0, 6, .inl (fun _ => nI 0))); rw [h]; rfl
  | .inr (.inr 5) => rfl
  | .inr (.inr (t + 6)) => rfl
theorem fsX4 : ∀ j, j < 12 → defaultValue (tyX4 j) = vp_V [.null, .int 0, .int 0, .null, .null, .int 0, .null, .null, .null, .int 0, .int 0, .int 0] j
  | 0, _ => rfl
  | 1, _ => rfl
  | 2, _ => rfl
  | 3, _ => rfl
  | 4, _ => rfl
  | 5, _ => rfl
  | 6, _ => rfl
  | 7, _ => rfl
  | 8, _ => rfl
  | 9, _ => rfl
  | 10, _ => rfl
  | 11, _ => rfl
  | n + 12, h => absurd h (by omega)

theorem wj_xi0 (Γ : fG) (a : Nat) : f_add (fun _ => none : fV) (.inr (.inl (0, 0))) (a, .inr (4, [.null, .int 0, .int 0, .null, .null, .int 0, .null, .null, .null, .int 0, .int 0, .int 0])) = wj (fun _ => none) (xi Γ (fun _ _ => a) 0 0) (fun _ => none) := by
  refine f_add_eq rfl (fun t' ht => ?_)
  match t' with
  | .inl z => rfl
  | .inr (.inr z) => rfl
  | .inr (.inl z) =>
    have hz : z ≠ (0, 0) := fun q => ht (by rw [q])
    show xi Γ (fun _ _ => a) 0 0 z = none
    unfold xi
    rw [if_neg hz]
    split
    · rfl
    · split
      · rfl
      · split
        · rfl
        · split
          · rfl
          · split
            · rfl
            · rw [if_neg (fun q => absurd q.2 (Nat.not_lt_zero _))]

theorem xw_ext30 (Γ : fG) {ad ad' : Nat → Nat → Nat} (R : fR) (h : ∀ i j, i ≠ 30 → ad i j = ad' i j) : xw Γ ad R = xw Γ ad' R := by
  have e14 : ad 14 = ad' 14 := by funext j; exact h 14 j (by decide)
  funext t
  unfold xw
  split <;> simp only [h 0 0 (by decide), e14, h 1 0 (by decide), h 2 0 (by decide), h 3 0 (by decide), h 4 0 (by decide), h 5 0 (by decide), h 6 0 (by decide), h 10 _ (by decide), h 14 _ (by decide), h 15 _ (by decide), h 16 _ (by decide), h 17 _ (by decide)]

theorem FI_0 : FI (fbZ zP 1 0) := FI_fbZ (by decide) (by decide) (by decide) (fun _ => by show 0 < 4; decide) (fun _ => by show 0 < 32; decide) (fun _ => by show 0 < 32; decide) (fun _ => by show 0 < 32; decide) (fun _ => by show 0 < 32; decide)
def M0 : fR := rs zP 4 (u1 (zP 4) 3 2)
theorem RZ_0 : RZ 0 (fbZ zP 1 0) zP M0 := by
  have hX : XI zP := ⟨Nat.zero_le _, fun i hi => absurd hi (Nat.not_lt_zero i), Nat.zero_le _, rfl, Nat.zero_le _, fun f => ⟨Nat.zero_le _, Nat.zero_le _⟩, fun q => ⟨by show 0 < 256; decide, by show 0 < 16; decide, Nat.zero_le _⟩, fun q j => by show 0 < 4; decide, Nat.zero_le _, fun s => ⟨Nat.zero_le _, Nat.zero_le _⟩, Nat.zero_le _, Nat.zero_le _, fun j => by show 0 < 134217728; decide, fun s j => by show 0 < 134217728; decide, fun i => Nat.zero_le _⟩
  have hL : LI M0 := ⟨fun i => by show 0 < 1048576; decide, fun i => by show 0 < 256; decide, fun i => Nat.zero_le _, by show 0 ≤ 24; decide, by show 0 ≤ 1000; decide, by show 0 ≤ 9000; decide, by show 2 ≤ 2 ∧ 2 ≤ 16; decide, by show 0 ≤ 100000; decide, by show 0 ≤ 100000; decide⟩
  obtain ⟨e0, -⟩ := fbZ_0 zP 1 0
  refine ⟨⟨FJ_any (by decide) (by decide) (by decide) FI_0, FP_fold zP (by decide) (by decide) (by decide), hX, hL⟩, ⟨rfl, by rw [e0]; rfl, rfl, rfl⟩, ⟨rfl, fun f hf => ?_⟩, ⟨rfl, fun i hi => absurd hi (Nat.not_lt_zero i)⟩, fun i hi => absurd hi (Nat.not_lt_zero i), fun q c _ h => absurd rfl h, fun i j hi => absurd hi (Nat.not_lt_zero i), fun t _ h => absurd rfl h, Nat.zero_le _, fun q => Nat.zero_le _, Nat.zero_le _, Nat.zero_le _⟩
  rw [if_neg (show ¬ zB (zP 10 f 0) = true from (by decide : ¬ zB 0 = true))]
  rfl
