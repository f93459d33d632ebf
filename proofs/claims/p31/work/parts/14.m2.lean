/-! ===== the class: proofs, fonts, pages, plates ===== -/
def XI (R : fR) : Prop :=
  R 0 0 0 ≤ 64 ∧ (∀ i, i < R 0 0 0 → ∃ q, R 6 i 0 = q + 1 ∧ q < R 20 0 0) ∧ R 20 0 0 ≤ 100 ∧ R 1 0 0 = R 20 0 0 ∧ R 2 0 0 ≤ 100000 ∧ (∀ f, R 11 f 0 ≤ 9999 ∧ R 12 f 0 ≤ 9999) ∧ (∀ q, R 13 q 0 < 256 ∧ R 14 q 0 < 16 ∧ R 15 q 0 ≤ 1000) ∧ (∀ q j, R 16 q j < 4) ∧ R 3 0 0 ≤ 16 ∧ (∀ s, R 17 s 0 ≤ 16 ∧ R 18 s 0 ≤ 1000) ∧ R 4 0 0 ≤ 1000000 ∧ R 5 0 0 ≤ 1000000 ∧ (∀ j, R 9 j 0 < 134217728) ∧ (∀ s j, R 19 s j < 134217728) ∧ (∀ i, R 6 i 0 ≤ R 20 0 0)
theorem rs_rs (R : fR) (c : Nat) (f g : Nat → Nat → Nat) : rs (rs R c f) c g = rs R c g := by funext d; by_cases h : d = c <;> simp [rs, h]
def cnt (f : Nat → Nat) (x : Nat) : Nat → Nat
  | 0 => 0
  | n + 1 => cnt f x n + (if f n = x then 1 else 0)
theorem cnt_le (f : Nat → Nat) (x : Nat) : ∀ n, cnt f x n ≤ n
  | 0 => Nat.le_refl 0
  | n + 1 => by have := cnt_le f x n; unfold cnt; split <;> omega
def drp (f : Nat → Nat → Nat) (q i : Nat) : Nat → Nat → Nat := fun q' j => if q' = q ∧ j < i then 0 else f q' j
theorem drp_0 (R : fR) (q : Nat) : rs R 16 (drp (R 16) q 0) = R := by
  funext c a b
  by_cases h : c = 16
  · subst h; simp [rs, drp]
  · simp [rs, h]
theorem drp_s (f : Nat → Nat → Nat) (q i : Nat) : u2 (drp f q i) q i 0 = drp f q (i + 1) := by
  funext a b
  unfold u2 drp
  by_cases h : a = q
  · subst h
    by_cases h2 : b = i
    · subst h2; simp
    · by_cases h3 : b < i
      · have h4 : b < i + 1 := by omega
        simp [h2, h3, h4]
      · have h4 : ¬ b < i + 1 := by omega
        simp [h2, h3, h4]
  · simp [h]
def rwr (R : fR) (q nf nc : Nat) : fR := rs (rs (rs (rs R 13 (u1 (R 13) q nf)) 14 (u1 (R 14) q nc)) 15 (u1 (R 15) q (R 15 q 0 + 1))) 16 (drp (R 16) q 4)
set_option maxHeartbeats 4000000 in
set_option maxRecDepth 100000 in
theorem c_X2_countProofs {l : Launch} (hl : l.stackTraces = false) (Γ : fG) (B0 : Nat) (ad : Nat → Nat → Nat) (R : fR) (F : Nat → fO) (M : Nat → fO) (q kd : Nat) (hq : q < R 20 0 0) (hk : kd < 4) (h16 : ∀ q j, R 16 q j < 4) : f_Met l yX2_countProofs cX2_countProofs 4 (some .int) 0 0 0 0 Γ B0 [.ref (ad 14 q), .int (nI (kd))] (wj F (xw Γ ad R) M) (f_is (nI (cnt (R 16 q) kd 4)) (wj F (xw Γ ad R) M)) f_no := by
  refine f_of hl (by decide) rfl (Nat.le_of_ble_eq_true rfl) (fun X9 C E hh hnm => ?_)
  generalize (f_s X9).heap = H, ([] : List Loc) = locs at hh ⊢
  refine r_iconst C (nI 0) dX2_countProofs_0 rfl ?_
  refine r_istore_n C dX2_countProofs_1 rfl rfl ?_
  refine r_iconst C (nI 0) dX2_countProofs_2 rfl ?_
  refine r_istore_n C dX2_countProofs_3 rfl rfl ?_
  have lp4 : ∀ (d9 : Nat) (i : Nat) (H : Heap) (locs : List Loc), 4 - i < d9 → i ≤ 4 → f_HS Γ B0 (wj F (xw Γ ad R) M) X9 H locs → f_W X9 H locs 0 0 4 [some (.ref (ad 14 q)), some (.int (nI (kd))), some (.int (nI (cnt (R 16 q) kd i))), some (.int (nI (i)))] [] := by
    intro d9
    induction d9 with
    | zero => intro i H locs hd9 hi hh; exact absurd hd9 (Nat.not_lt_zero _)
    | succ d9 ih4 =>
      intro i H locs hd9 hi hh
      have hc9 := cnt_le (R 16 q) kd i
      have hp9 := h16 q i
      refine r_iload_n C dX2_countProofs_4 rfl ?_
      refine r_iconst C (nI 4) dX2_countProofs_5 rfl ?_
      refine r_icmp_geN (tgt := 28) C dX2_countProofs_6 (by decide) (by omega) (by omega) (fun h6 => ?_) (fun h6 => ?_)
      · obtain rfl : i = 4 := by omega
        refine r_iload_n C dX2_countProofs_28 rfl ?_
        exact r_iret C E hh dX2_countProofs_29 (by omega) (by omega) ⟨rfl, rfl⟩
      · refine r_aload_n C dX2_countProofs_9 rfl ?_
        refine g_X2_24 C hh (by omega) dX2_countProofs_10 ?_
        refine r_iload_n C dX2_countProofs_13 rfl ?_
        refine al_proofs C hh (by omega) (by omega) dX2_countProofs_14 ?_
        refine r_iload_n C dX2_countProofs_15 rfl ?_
        refine r_icmp_neN (tgt := 22) C dX2_countProofs_16 (by decide) (by omega) (by omega) (fun h16 => ?_) (fun h16 => ?_)
        · have e9 : cnt (R 16 q) kd (i + 1) = cnt (R 16 q) kd i := by simp [cnt, h16]
          refine r_iincN C dX2_countProofs_22 rfl rfl ?_
          refine r_goto (tgt := 4) C dX2_countProofs_25 (by decide) ?_
          have w9 := ih4 (i + 1) H locs (by omega) (by omega) hh
          rw [e9] at w9
          exact w9
        · have e9 : cnt (R 16 q) kd (i + 1) = cnt (R 16 q) kd i + 1 := by simp [cnt, h16]
          refine r_iincN C dX2_countProofs_19 rfl rfl ?_
          refine r_iincN C dX2_countProofs_22 rfl rfl ?_
          refine r_goto (tgt := 4) C dX2_countProofs_25 (by decide) ?_
          have w9 := ih4 (i + 1) H locs (by omega) (by omega) hh
          rw [e9] at w9
          exact w9
  exact lp4 5 0 _ _ (by omega) (by omega) hh

set_option maxHeartbeats 4000000 in
set_option maxRecDepth 100000 in
theorem c_X2_dropProofs {l : Launch} (hl : l.stackTraces = false) (Γ : fG) (B0 : Nat) (ad : Nat → Nat → Nat) (R : fR) (F : Nat → fO) (M : Nat → fO) (q : Nat) (hq : q < R 20 0 0) : f_Met l yX2_dropProofs cX2_dropProofs 2 none 0 0 0 0 Γ B0 [.ref (ad 14 q)] (wj F (xw Γ ad R) M) (f_to (wj F (xw Γ ad (rs R 16 (drp (R 16) q 4))) M)) f_no := by
  refine f_of hl (by decide) rfl (Nat.le_of_ble_eq_true rfl) (fun X9 C E hh hnm => ?_)
  generalize (f_s X9).heap = H, ([] : List Loc) = locs at hh ⊢
  refine r_iconst C (nI 0) dX2_dropProofs_0 rfl ?_
  refine r_istore_n C dX2_dropProofs_1 rfl rfl ?_
  have lp2 : ∀ (d9 : Nat) (i : Nat) (H : Heap) (locs : List Loc), 4 - i < d9 → i ≤ 4 → f_HS Γ B0 (wj F (xw Γ ad (rs R 16 (drp (R 16) q i))) M) X9 H locs → f_W X9 H locs 0 0 2 [some (.ref (ad 14 q)), some (.int (nI (i)))] [] := by
    intro d9
    induction d9 with
    | zero => intro i H locs hd9 hi hh; exact absurd hd9 (Nat.not_lt_zero _)
    | succ d9 ih2 =>
      intro i H locs hd9 hi hh
      refine r_iload_n C dX2_dropProofs_2 rfl ?_
      refine r_iconst C (nI 4) dX2_dropProofs_3 rfl ?_
      refine r_icmp_geN (tgt := 20) C dX2_dropProofs_4 (by decide) (by omega) (by omega) (fun h4 => ?_) (fun h4 => ?_)
      · obtain rfl : i = 4 := by omega
        exact r_vret C E hh dX2_dropProofs_20 (by omega) (by omega) ⟨rfl, rfl⟩
      · refine r_aload_n C dX2_dropProofs_7 rfl ?_
        refine g_X2_24 C hh hq dX2_dropProofs_8 ?_
        refine r_iload_n C dX2_dropProofs_11 rfl ?_
        refine r_iconst C (nI 0) dX2_dropProofs_12 rfl ?_
        refine as_proofs C hh hq (by omega) dX2_dropProofs_13 (fun H locs hh => ?_)
        rw [rs_same, rs_rs, drp_s] at hh
        refine r_iincN C dX2_dropProofs_14 rfl rfl ?_
        refine r_goto (tgt := 2) C dX2_dropProofs_17 (by decide) ?_
        exact ih2 (i + 1) H locs (by omega) (by omega) hh
  rw [← drp_0 R q] at hh
  exact lp2 5 0 _ _ (by omega) (by omega) hh

set_option maxHeartbeats 4000000 in
set_option maxRecDepth 100000 in
theorem c_X2_rewrite {l : Launch} (hl : l.stackTraces = false) (Γ : fG) (B0 : Nat) (ad : Nat → Nat → Nat) (R : fR) (F : Nat → fO) (M : Nat → fO) (q nf nc : Nat) (hq : q < R 20 0 0) (he : R 15 q 0 ≤ 1000) : f_Met l yX2_rewrite cX2_rewrite 3 none 1 0 0 21 Γ B0 [.ref (ad 14 q), .int (nI (nf)), .int (nI (nc))] (wj F (xw Γ ad R) M) (f_to (wj F (xw Γ ad (rwr R q nf nc)) M)) f_no := by
  refine f_of hl (by decide) rfl (Nat.le_of_ble_eq_true rfl) (fun X9 C E hh hnm => ?_)
  generalize (f_s X9).heap = H, ([] : List Loc) = locs at hh ⊢
  refine r_aload_n C dX2_rewrite_0 rfl ?_
  refine r_iload_n C dX2_rewrite_1 rfl ?_
  refine p_X2_15 C hh hq dX2_rewrite_2 (fun H locs hh => ?_)
  refine r_aload_n C dX2_rewrite_5 rfl ?_
  refine r_iload_n C dX2_rewrite_6 rfl ?_
  refine p_X2_18 C hh hq dX2_rewrite_7 (fun H locs hh => ?_)
  refine r_aload_n C dX2_rewrite_10 rfl ?_
  refine r_dup C dX2_rewrite_11 rfl ?_
  refine g_X2_21 C hh hq dX2_rewrite_12 ?_
  refine r_iconst C (nI 1) dX2_rewrite_15 rfl ?_
  refine r_iaddN C dX2_rewrite_16 ?_
  refine p_X2_21 C hh hq dX2_rewrite_17 (fun H locs hh => ?_)
  refine r_aload_n C dX2_rewrite_20 rfl ?_
  refine r_callV C E hh (c_X2_dropProofs E.2.1 Γ B0 ad _ F M q hq) lk_X2_28 (tr := .inr (.inl (14, q))) (xw_page (Γ := Γ) hq) rfl rfl rfl (Nat.le_of_ble_eq_true rfl) dX2_rewrite_21 ⟨by decide, by decide⟩ ⟨by omega, by omega⟩ (fun _ _ z9 => False.elim z9) (kk_to (fun H locs hs9 hh => ?_))
  exact r_vret C E hh dX2_rewrite_24 (by omega) (by omega) ⟨rfl, rfl⟩

def us (R : fR) (f : Nat) : Bool := fal R f (R 2 0 0)
set_option maxHeartbeats 4000000 in
set_option maxRecDepth 100000 in
theorem c_X4_usable {l : Launch} (hl : l.stackTraces = false) (Γ : fG) (B0 : Nat) (ad : Nat → Nat → Nat) (R : fR) (F : Nat → fO) (M : Nat → fO) (f : Nat) (hf : f < 8) (hI : XI R) : f_Met l yX4_usable cX4_usable 2 (some .boolean) 1 0 0 21 Γ B0 [.ref (ad 1 0), .int (nI (f))] (wj F (xw Γ ad R) M) (f_is (bI (us R f)) (wj F (xw Γ ad R) M)) f_no := by
  refine f_of hl (by decide) rfl (Nat.le_of_ble_eq_true rfl) (fun X9 C E hh hnm => ?_)
  generalize (f_s X9).heap = H, ([] : List Loc) = locs at hh ⊢
  obtain ⟨-, -, -, -, i5, i6, -⟩ := id hI
  have i7 := i6 f
  refine r_aload_n C dX4_usable_0 rfl ?_
  refine g_X4_28 C hh dX4_usable_1 ?_
  refine r_iload_n C dX4_usable_4 rfl ?_
  refine al_fontRow C hh (by omega) dX4_usable_5 ?_
  refine r_aload_n C dX4_usable_6 rfl ?_
  refine g_X4_209 C hh dX4_usable_7 ?_
  refine r_callV C E hh (c_X1_allows E.2.1 Γ B0 ad R F M f _ hf (by omega) (by omega) (by omega)) lk_X4_212 (tr := .inr (.inl (10, _))) (xw_font (Γ := Γ) (by omega)) rfl rfl rfl (Nat.le_of_ble_eq_true rfl) dX4_usable_10 ⟨by decide, by decide⟩ ⟨by omega, by omega⟩ (fun _ _ z9 => False.elim z9) (kk_is (fun H locs hs9 hh => ?_))
  exact r_zret C E hh dX4_usable_13 (by omega) (by omega) ⟨rfl, rfl⟩

def afu (R : fR) (q : Nat) : Nat → Bool
  | 0 => true
  | f + 1 => afu R q f && (!tb (R 13 q 0) f || us R f)
theorem afu_false (R : fR) (q : Nat) {f m : Nat} (h : afu R q f = false) : f ≤ m → afu R q m = false := by
  intro hm
  induction m with
  | zero => obtain rfl : f = 0 := by omega
            exact h
  | succ m ih =>
    by_cases hf : f = m + 1
    · subst hf; exact h
    · simp [afu, ih (by omega)]
set_option maxHeartbeats 4000000 in
set_option maxRecDepth 100000 in
theorem c_X4_allFontsUsable {l : Launch} (hl : l.stackTraces = false) (Γ : fG) (B0 : Nat) (ad : Nat → Nat → Nat) (R : fR) (F : Nat → fO) (M : Nat → fO) (q : Nat) (hq : q < R 20 0 0) (hI : XI R) : f_Met l yX4_allFontsUsable cX4_allFontsUsable 3 (some .boolean) 2 0 0 42 Γ B0 [.ref (ad 1 0), .ref (ad 14 q)] (wj F (xw Γ ad R) M) (f_is (bI (afu R q 8)) (wj F (xw Γ ad R) M)) f_no := by
  refine f_of hl (by decide) rfl (Nat.le_of_ble_eq_true rfl) (fun X9 C E hh hnm => ?_)
  generalize (f_s X9).heap = H, ([] : List Loc) = locs at hh ⊢
  obtain ⟨-, -, -, -, -, -, i7, -⟩ := id hI
  have i8 := i7 q
  refine r_iconst C (nI 0) dX4_allFontsUsable_0 rfl ?_
  refine r_istore_n C dX4_allFontsUsable_1 rfl rfl ?_
  have lp2 : ∀ (d9 : Nat) (f : Nat) (H : Heap) (locs : List Loc), 8 - f < d9 → f ≤ 8 → afu R q f = true → f_HS Γ B0 (wj F (xw Γ ad R) M) X9 H locs → f_W X9 H locs 0 0 2 [some (.ref (ad 1 0)), some (.ref (ad 14 q)), some (.int (nI (f)))] [] := by
    intro d9
    induction d9 with
    | zero => intro f H locs hd9 hf ha hh; exact absurd hd9 (Nat.not_lt_zero _)
    | succ d9 ih2 =>
      intro f H locs hd9 hf ha hh
      refine r_iload_n C dX4_allFontsUsable_2 rfl ?_
      refine r_bipush C (nI 8) dX4_allFontsUsable_3 rfl ?_
      refine r_icmp_geN (tgt := 32) C dX4_allFontsUsable_5 (by decide) (by omega) (by omega) (fun h5 => ?_) (fun h5 => ?_)
      · obtain rfl : f = 8 := by omega
        refine r_iconst C (bI true) dX4_allFontsUsable_32 rfl ?_
        exact r_zret C E hh dX4_allFontsUsable_33 (by omega) (by omega) ⟨by rw [ha], rfl⟩
      · refine r_aload_n C dX4_allFontsUsable_8 rfl ?_
        refine r_iload_n C dX4_allFontsUsable_9 rfl ?_
        refine r_callV C E hh (c_X2_usesFont E.2.1 Γ B0 ad R F M q f hq (by omega) (by omega)) lk_X4_93 (tr := .inr (.inl (14, _))) (xw_page (Γ := Γ) (by omega)) rfl rfl rfl (Nat.le_of_ble_eq_true rfl) dX4_allFontsUsable_10 ⟨by decide, by decide⟩ ⟨by omega, by omega⟩ (fun _ _ z9 => False.elim z9) (kk_is (fun H locs hs9 hh => ?_))
        refine r_if_eqB (tgt := 26) C dX4_allFontsUsable_13 (by decide) (fun h13 => ?_) (fun h13 => ?_)
        · refine r_iincN C dX4_allFontsUsable_26 rfl rfl ?_
          refine r_goto (tgt := 2) C dX4_allFontsUsable_29 (by decide) ?_
          exact ih2 (f + 1) H locs (by omega) (by omega) (by simp_all [afu]) hh
        · refine r_aload_n C dX4_allFontsUsable_16 rfl ?_
          refine r_iload_n C dX4_allFontsUsable_17 rfl ?_
          refine r_callV C E hh (c_X4_usable E.2.1 Γ B0 ad R F M f (by omega) hI) lk_X4_185 (tr := .inr (.inl (0, 0))) rfl rfl rfl rfl (Nat.le_of_ble_eq_true rfl) dX4_allFontsUsable_18 ⟨by decide, by decide⟩ ⟨by omega, by omega⟩ (fun _ _ z9 => False.elim z9) (kk_is (fun H locs hs9 hh => ?_))
          refine r_if_neB (tgt := 26) C dX4_allFontsUsable_21 (by decide) (fun h21 => ?_) (fun h21 => ?_)
          · refine r_iincN C dX4_allFontsUsable_26 rfl rfl ?_
            refine r_goto (tgt := 2) C dX4_allFontsUsable_29 (by decide) ?_
            exact ih2 (f + 1) H locs (by omega) (by omega) (by simp_all [afu]) hh
          · refine r_iconst C (bI false) dX4_allFontsUsable_24 rfl ?_
            exact r_zret C E hh dX4_allFontsUsable_25 (by omega) (by omega) ⟨by rw [afu_false R q (f := f + 1) (by simp_all [afu]) (by omega)], rfl⟩
  exact lp2 9 0 _ _ (by omega) (by omega) rfl hh

def pop4 (a : Nat) : Nat := a % 2 + a / 2 % 2 + a / 4 % 2 + a / 8 % 2
theorem ri2 {a r : Int32} {w : fV} (h : r = a) : f_is a w (some (.int r)) w := by subst h; exact ⟨rfl, rfl⟩
def bcF (x : Int32) : Int32 :=
  let s (x : Int32) (k : Int32) : Int32 := (x.toUInt32 >>> (k.toUInt32 &&& Int32.toUInt32 31)).toInt32
  let a := x - (s x 1 &&& 1431655765)
  let b := (a &&& 858993459) + (s a 2 &&& 858993459)
  let c := (b + s b 4) &&& 252645135
  let d := c + s c 8
  let e := d + s d 16
  e &&& 63
theorem bcF_ok : ∀ a, a < 16 → bcF (nI a) = nI (pop4 a) := by decide +kernel
theorem mn_X4 : Cond.methodLink "ProofSheet" 250 Lib.Math.min.name ∈ f_GW := f_in 419 (by decide +kernel) (by decide +kernel)
theorem mn_X3 : Cond.methodLink "ProofSheet$Plate" 15 Lib.Math.min.name ∈ f_GW := f_in 738 (by decide +kernel) (by decide +kernel)
theorem mn_st : Cond.static Lib.Math.min.name ∈ f_GW := f_in 420 (by decide +kernel) (by decide +kernel)
theorem mn_in : Cond.initialized "java/lang/Math" ∈ f_GW := f_in 38 (by decide +kernel) (by decide +kernel)
theorem mn_cd : Cond.code Lib.Math.min.name Lib.Math.min.code 2 (some .int) ∈ f_GW := f_in 421 (by decide +kernel) (by decide +kernel)
theorem r_min {X : fX} {Γ : fG} {B0 : Nat} {own : String} {cc : ByteArray} {nL fr mc ms lo : Nat} {H : Heap} {locs : List Loc} {k n pc : Nat} {L : List (Option Value)} {rest : List Value} (C : f_C X Γ B0 own cc nL fr mc ms lo) {index : Nat} (hlk : Cond.methodLink own index Lib.Math.min.name ∈ f_GW) (hfr : 1 ≤ fr) (hlo : 21 ≤ lo) (hcat : (rest.map fun v => v.category).sum ≤ 8) (hk : k ≤ mc) (hn : n ≤ ms) {a b : Nat} (ha : a < 2 ^ 31) (hb : b < 2 ^ 31) (hdg : decode cc pc = .ok (.invokestatic index, 3)) (kk : f_W X H locs k n (pc + 3) L (.int (nI (min a b)) :: rest)) : f_W X H locs k n pc L (.int (nI b) :: .int (nI a) :: rest) := by
  intro ls hl9
  have hts := C.2.2.2.2.1
  have hR := f_size C
  refine va_mmin C.1 C.2.1 hl9.1.symm C.2.2.2.1 (hts _ hlk) (hts _ mn_st) (hts _ mn_in) (hts _ mn_cd) (by rw [hR]; exact hfr) (by rw [hR]; show _ ≤ lo; omega) (by rw [hR]; exact hk) (by rw [hR]; exact hn) hdg ?_
  have e9 : (if nI b < nI a then nI b else nI a) = nI (min a b) := by
    by_cases h : b < a
    · rw [if_pos ((nI_ltI hb ha).mpr h), Nat.min_eq_right (by omega)]
    · rw [if_neg (fun z => h ((nI_ltI hb ha).mp z)), Nat.min_eq_left (by omega)]
  rw [e9]
  exact kk ls hl9
set_option maxHeartbeats 4000000 in
set_option maxRecDepth 100000 in
theorem c_J6_bitCount_0f7a4 {l : Launch} (hl : l.stackTraces = false) (Γ : fG) (B0 : Nat) (w : fV) (a : Nat) (ha : a < 16) : f_Met l yJ6_bitCount_0f7a4 cJ6_bitCount_0f7a4 1 (some .int) 0 0 0 0 Γ B0 [.int (nI a)] (w) (f_is (nI (pop4 a)) w) f_no := by
  refine f_of hl (by decide) rfl (Nat.le_of_ble_eq_true rfl) (fun X9 C E hh hnm => ?_)
  generalize (f_s X9).heap = H, ([] : List Loc) = locs at hh ⊢
  refine r_iload_n C dJ6_bitCount_0f7a4_0 rfl ?_
  refine r_iload_n C dJ6_bitCount_0f7a4_1 rfl ?_
  refine r_iconst C (nI 1) dJ6_bitCount_0f7a4_2 rfl ?_
  refine r_iushr C dJ6_bitCount_0f7a4_3 rfl ?_
  refine r_ldcw C ct_J6_265 dJ6_bitCount_0f7a4_4 ?_
  refine r_iand C dJ6_bitCount_0f7a4_7 ?_
  refine r_isub C dJ6_bitCount_0f7a4_8 ?_
  refine r_istore_n C dJ6_bitCount_0f7a4_9 rfl rfl ?_
  refine r_iload_n C dJ6_bitCount_0f7a4_10 rfl ?_
  refine r_ldcw C ct_J6_266 dJ6_bitCount_0f7a4_11 ?_
  refine r_iand C dJ6_bitCount_0f7a4_14 ?_
  refine r_iload_n C dJ6_bitCount_0f7a4_15 rfl ?_
  refine r_iconst C (nI 2) dJ6_bitCount_0f7a4_16 rfl ?_
  refine r_iushr C dJ6_bitCount_0f7a4_17 rfl ?_
  refine r_ldcw C ct_J6_266 dJ6_bitCount_0f7a4_18 ?_
  refine r_iand C dJ6_bitCount_0f7a4_21 ?_
  refine r_iadd C dJ6_bitCount_0f7a4_22 ?_
  refine r_istore_n C dJ6_bitCount_0f7a4_23 rfl rfl ?_
  refine r_iload_n C dJ6_bitCount_0f7a4_24 rfl ?_
  refine r_iload_n C dJ6_bitCount_0f7a4_25 rfl ?_
  refine r_iconst C (nI 4) dJ6_bitCount_0f7a4_26 rfl ?_
  refine r_iushr C dJ6_bitCount_0f7a4_27 rfl ?_
  refine r_iadd C dJ6_bitCount_0f7a4_28 ?_
  refine r_ldcw C ct_J6_267 dJ6_bitCount_0f7a4_29 ?_
  refine r_iand C dJ6_bitCount_0f7a4_32 ?_
  refine r_istore_n C dJ6_bitCount_0f7a4_33 rfl rfl ?_
  refine r_iload_n C dJ6_bitCount_0f7a4_34 rfl ?_
  refine r_iload_n C dJ6_bitCount_0f7a4_35 rfl ?_
  refine r_bipush C (nI 8) dJ6_bitCount_0f7a4_36 rfl ?_
  refine r_iushr C dJ6_bitCount_0f7a4_38 rfl ?_
  refine r_iadd C dJ6_bitCount_0f7a4_39 ?_
  refine r_istore_n C dJ6_bitCount_0f7a4_40 rfl rfl ?_
  refine r_iload_n C dJ6_bitCount_0f7a4_41 rfl ?_
  refine r_iload_n C dJ6_bitCount_0f7a4_42 rfl ?_
  refine r_bipush C (nI 16) dJ6_bitCount_0f7a4_43 rfl ?_
  refine r_iushr C dJ6_bitCount_0f7a4_45 rfl ?_
  refine r_iadd C dJ6_bitCount_0f7a4_46 ?_
  refine r_istore_n C dJ6_bitCount_0f7a4_47 rfl rfl ?_
  refine r_iload_n C dJ6_bitCount_0f7a4_48 rfl ?_
  refine r_bipush C (nI 63) dJ6_bitCount_0f7a4_49 rfl ?_
  refine r_iand C dJ6_bitCount_0f7a4_51 ?_
  exact r_iret C E hh dJ6_bitCount_0f7a4_52 (by omega) (by omega) (ri2 (bcF_ok a ha))

def fin (R : fR) (q : Nat) : Bool := decide (cnt (R 16 q) 2 4 = pop4 (R 14 q 0)) && afu R q 8
def afl (R : fR) (a : Nat) : Nat → Bool
  | 0 => true
  | d + 1 => afl R a d && fin R (R 6 (a + d) 0 - 1)
theorem afl_false (R : fR) (a : Nat) {f m : Nat} (h : afl R a f = false) : f ≤ m → afl R a m = false := by
  intro hm
  induction m with
  | zero => obtain rfl : f = 0 := by omega
            exact h
  | succ m ih =>
    by_cases hf : f = m + 1
    · subst hf; exact h
    · simp [afl, ih (by omega)]
def pgs (P : fR) : Nat := 2 ^ (P 0 0 0 + 1)
def afo (P R : fR) (s : Nat) : Bool := afl R (s * pgs P) (min (s * pgs P + pgs P) (R 0 0 0) - s * pgs P)
set_option maxHeartbeats 4000000 in
set_option maxRecDepth 100000 in
theorem c_X4_finished {l : Launch} (hl : l.stackTraces = false) (Γ : fG) (B0 : Nat) (ad : Nat → Nat → Nat) (R : fR) (F : Nat → fO) (M : Nat → fO) (q : Nat) (hq : q < R 20 0 0) (hI : XI R) : f_Met l yX4_finished cX4_finished 2 (some .boolean) 3 0 0 64 Γ B0 [.ref (ad 1 0), .ref (ad 14 q)] (wj F (xw Γ ad R) M) (f_is (bI (fin R q)) (wj F (xw Γ ad R) M)) f_no := by
  refine f_of hl (by decide) rfl (Nat.le_of_ble_eq_true rfl) (fun X9 C E hh hnm => ?_)
  generalize (f_s X9).heap = H, ([] : List Loc) = locs at hh ⊢
  obtain ⟨-, -, -, -, -, -, i7, i8, -⟩ := id hI
  have i9 := i7 q
  have c9 := cnt_le (R 16 q) 2 4
  have p9 : pop4 (R 14 q 0) ≤ 4 := by unfold pop4; omega
  refine r_aload_n C dX4_finished_0 rfl ?_
  refine r_iconst C (nI 2) dX4_finished_1 rfl ?_
  refine r_callV C E hh (c_X2_countProofs E.2.1 Γ B0 ad R F M q 2 hq (by omega) i8) lk_X4_242 (tr := .inr (.inl (14, _))) (xw_page (Γ := Γ) (by omega)) rfl rfl rfl (Nat.le_of_ble_eq_true rfl) dX4_finished_2 ⟨by decide, by decide⟩ ⟨by omega, by omega⟩ (fun _ _ z9 => False.elim z9) (kk_is (fun H locs hs9 hh => ?_))
  refine r_aload_n C dX4_finished_5 rfl ?_
  refine g_X4_100 C hh (by omega) dX4_finished_6 ?_
  refine r_callS C E hh (c_J6_bitCount_0f7a4 E.2.1 Γ B0 _ (R 14 q 0) (by omega)) lk_X4_255 rfl rfl (Nat.le_of_ble_eq_true rfl) dX4_finished_9 ⟨by decide, by decide⟩ ⟨by omega, by omega⟩ (fun _ _ z9 => False.elim z9) (kk_is (fun H locs hs9 hh => ?_))
  refine r_icmp_neN (tgt := 27) C dX4_finished_12 (by decide) (by omega) (by omega) (fun h12 => ?_) (fun h12 => ?_)
  · refine r_iconst C (bI false) dX4_finished_27 rfl ?_
    exact r_zret C E hh dX4_finished_28 (by omega) (by omega) (rb (by simp_all [fin]))
  · refine r_aload_n C dX4_finished_15 rfl ?_
    refine r_aload_n C dX4_finished_16 rfl ?_
    refine r_callV C E hh (c_X4_allFontsUsable E.2.1 Γ B0 ad R F M q hq hI) lk_X4_231 (tr := .inr (.inl (0, 0))) rfl rfl rfl rfl (Nat.le_of_ble_eq_true rfl) dX4_finished_17 ⟨by decide, by decide⟩ ⟨by omega, by omega⟩ (fun _ _ z9 => False.elim z9) (kk_is (fun H locs hs9 hh => ?_))
    refine r_if_eqB (tgt := 27) C dX4_finished_20 (by decide) (fun h20 => ?_) (fun h20 => ?_)
    · refine r_iconst C (bI false) dX4_finished_27 rfl ?_
      exact r_zret C E hh dX4_finished_28 (by omega) (by omega) (rb (by simp_all [fin]))
    · refine r_iconst C (bI true) dX4_finished_23 rfl ?_
      refine r_goto (tgt := 28) C dX4_finished_24 (by decide) ?_
      exact r_zret C E hh dX4_finished_28 (by omega) (by omega) (rb (by simp_all [fin]))

set_option maxHeartbeats 4000000 in
set_option maxRecDepth 100000 in
theorem c_X4_allFinishedOn {l : Launch} (hl : l.stackTraces = false) (Γ : fG) (B0 : Nat) (ad : Nat → Nat → Nat) (P R : fR) (M : Nat → fO) (s : Nat) (hs : s ≤ 16) (hP : P 0 0 0 < 5) (hI : XI R) : f_Met l yX4_allFinishedOn cX4_allFinishedOn 5 (some .boolean) 4 0 0 85 Γ B0 [.ref (ad 1 0), .int (nI (s))] (wj (fw Γ ad P) (xw Γ ad R) M) (f_is (bI (afo P R s)) (wj (fw Γ ad P) (xw Γ ad R) M)) f_no := by
  refine f_of hl (by decide) rfl (Nat.le_of_ble_eq_true rfl) (fun X9 C E hh hnm => ?_)
  generalize (f_s X9).heap = H, ([] : List Loc) = locs at hh ⊢
  obtain ⟨i1, i2, -⟩ := id hI
  have hp5 := pow5 hP
  have e5 : pgs P = 2 ^ (P 0 0 0 + 1) := rfl
  have e6 : s * 2 ^ (P 0 0 0 + 1) ≤ 512 := Nat.le_trans (Nat.mul_le_mul hs hp5.2) (by decide)
  generalize hg : s * 2 ^ (P 0 0 0 + 1) = a at e6
  refine r_iload_n C dX4_allFinishedOn_0 rfl ?_
  refine r_aload_n C dX4_allFinishedOn_1 rfl ?_
  refine g_X4_18 C hh dX4_allFinishedOn_2 ?_
  refine r_callV C E hh (c_X0_shiftOfSheet E.2.1 Γ B0 ad P _ M) lk_X4_158 (tr := .inl 0) rfl rfl rfl rfl (Nat.le_of_ble_eq_true rfl) dX4_allFinishedOn_5 ⟨by decide, by decide⟩ ⟨by omega, by omega⟩ (fun _ _ z9 => False.elim z9) (kk_is (fun H locs hs9 hh => ?_))
  refine r_ishlN C dX4_allFinishedOn_8 (by omega) (by omega) ?_
  rw [hg]
  refine r_istore_n C dX4_allFinishedOn_9 rfl rfl ?_
  refine r_iload_n C dX4_allFinishedOn_10 rfl ?_
  refine r_aload_n C dX4_allFinishedOn_11 rfl ?_
  refine g_X4_18 C hh dX4_allFinishedOn_12 ?_
  refine r_callV C E hh (c_X0_pagesOfSheet E.2.1 Γ B0 ad P _ M hP) lk_X4_155 (tr := .inl 0) rfl rfl rfl rfl (Nat.le_of_ble_eq_true rfl) dX4_allFinishedOn_15 ⟨by decide, by decide⟩ ⟨by omega, by omega⟩ (fun _ _ z9 => False.elim z9) (kk_is (fun H locs hs9 hh => ?_))
  refine r_iaddN C dX4_allFinishedOn_18 ?_
  refine r_aload_n C dX4_allFinishedOn_19 rfl ?_
  refine g_X4_47 C hh dX4_allFinishedOn_20 ?_
  refine r_min C mn_X4 (by decide) (by decide) (Nat.le_of_ble_eq_true rfl) (by omega) (by omega) (by omega) (by omega) dX4_allFinishedOn_23 ?_
  rw [← e5]
  refine r_istore_n C dX4_allFinishedOn_26 rfl rfl ?_
  refine r_iload_n C dX4_allFinishedOn_27 rfl ?_
  refine r_istore C dX4_allFinishedOn_28 rfl rfl ?_
  have lp30 : ∀ (d9 : Nat) (d : Nat) (H : Heap) (locs : List Loc), min (a + pgs P) (R 0 0 0) - a - d < d9 → d ≤ min (a + pgs P) (R 0 0 0) - a → afl R a d = true → f_HS Γ B0 (wj (fw Γ ad P) (xw Γ ad R) M) X9 H locs → f_W X9 H locs 0 0 30 [some (.ref (ad 1 0)), some (.int (nI (s))), some (.int (nI (a))), some (.int (nI (min (a + pgs P) (R 0 0 0)))), some (.int (nI (a + d)))] [] := by
    intro d9
    induction d9 with
    | zero => intro d H locs hd9 hd ha hh; exact absurd hd9 (Nat.not_lt_zero _)
    | succ d9 ih30 =>
      intro d H locs hd9 hd ha hh
      refine r_iload C dX4_allFinishedOn_30 rfl ?_
      refine r_iload_n C dX4_allFinishedOn_32 rfl ?_
      refine r_icmp_geN (tgt := 58) C dX4_allFinishedOn_33 (by decide) (by omega) (by omega) (fun h33 => ?_) (fun h33 => ?_)
      · refine r_iconst C (bI true) dX4_allFinishedOn_58 rfl ?_
        exact r_zret C E hh dX4_allFinishedOn_59 (by omega) (by omega) (rb (by unfold afo; rw [e5, hg, ← e5]; rw [show min (a + pgs P) (R 0 0 0) - a = d by omega]; exact ha))
      · obtain ⟨q, hv, hq⟩ := i2 (a + d) (by omega)
        refine r_aload_n C dX4_allFinishedOn_36 rfl ?_
        refine r_aload_n C dX4_allFinishedOn_37 rfl ?_
        refine g_X4_11 C hh dX4_allFinishedOn_38 ?_
        refine r_iload C dX4_allFinishedOn_41 rfl ?_
        refine al_order C hh (by omega) hv dX4_allFinishedOn_43 ?_
        refine r_callV C E hh (c_X4_finished E.2.1 Γ B0 ad R _ M q hq hI) lk_X4_247 (tr := .inr (.inl (0, 0))) rfl rfl rfl rfl (Nat.le_of_ble_eq_true rfl) dX4_allFinishedOn_44 ⟨by decide, by decide⟩ ⟨by omega, by omega⟩ (fun _ _ z9 => False.elim z9) (kk_is (fun H locs hs9 hh => ?_))
        refine r_if_neB (tgt := 52) C dX4_allFinishedOn_47 (by decide) (fun h47 => ?_) (fun h47 => ?_)
        · refine r_iincN C dX4_allFinishedOn_52 rfl rfl ?_
          refine r_goto (tgt := 30) C dX4_allFinishedOn_55 (by decide) ?_
          exact ih30 (d + 1) H locs (by omega) (by omega) (by simp_all [afl]) hh
        · refine r_iconst C (bI false) dX4_allFinishedOn_50 rfl ?_
          exact r_zret C E hh dX4_allFinishedOn_51 (by omega) (by omega) (rb (by unfold afo; rw [e5, hg, ← e5]; exact afl_false R a (f := d + 1) (by simp_all [afl]) (by omega)))
  exact lp30 (min (a + pgs P) (R 0 0 0) - a + 1) 0 _ _ (by omega) (by omega) rfl hh

