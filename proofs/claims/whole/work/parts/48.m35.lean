/-! ===== the model: makePlates ===== -/
def neM (M : fR) (t : Nat) : Bool := decide (0 < lnn M t) && !gdM M t
def cpT (f : Nat → Nat → Nat) (t : Nat) (g : Nat → Nat → Nat) (n : Nat) : Nat → Nat → Nat := fun i j => if 16 * t ≤ i ∧ i < 16 * t + n then g (i - 16 * t) 0 else f i j
def mk1 (M : fR) (t : Nat) : fR := if neM M t = true then rs (rs (rs M 20 (u1 (M 20) t (lnn M t))) 21 (u1 (M 21) t 0)) 22 (cpT (M 22) t (lnt M t) (lnn M t)) else M
def mkS (M : fR) (s : Nat) : Nat → fR
  | 0 => M
  | x + 1 => mk1 (mkS M s x) (8 * s + x)
def mkC (M : fR) (s : Nat) : Nat → Nat
  | 0 => 0
  | x + 1 => mkC M s x + (if neM (mkS M s x) (8 * s + x) = true then 1 else 0)
theorem cpT_0 (f : Nat → Nat → Nat) (t : Nat) (g : Nat → Nat → Nat) : cpT f t g 0 = f := by
  funext i j
  exact if_neg (by omega)
theorem cpT_s (f : Nat → Nat → Nat) (t : Nat) (g : Nat → Nat → Nat) (n : Nat) : u1 (cpT f t g n) (16 * t + n) (g n 0) = cpT f t g (n + 1) := by
  funext i j
  unfold u1 cpT
  by_cases h : i = 16 * t + n
  · rw [if_pos h, if_pos (by omega), show i - 16 * t = n by omega]
  · rw [if_neg h]
    by_cases h2 : 16 * t ≤ i ∧ i < 16 * t + n
    · rw [if_pos h2, if_pos (by omega)]
    · rw [if_neg h2, if_neg (by omega)]
theorem cpT_g {f : Nat → Nat → Nat} {t : Nat} {g g' : Nat → Nat → Nat} {n : Nat} (h : ∀ k, k < n → g k 0 = g' k 0) : cpT f t g n = cpT f t g' n := by
  funext i j
  unfold cpT
  by_cases h2 : 16 * t ≤ i ∧ i < 16 * t + n
  · rw [if_pos h2, if_pos h2]; exact h _ (by omega)
  · rw [if_neg h2, if_neg h2]
theorem mk1_ne (M : fR) (t : Nat) {c : Nat} (h0 : c ≠ 20) (h1 : c ≠ 21) (h2 : c ≠ 22) : mk1 M t c = M c := by
  unfold mk1; split
  · simp [rs, h0, h1, h2]
  · rfl
theorem mkS_ne (M : fR) (s : Nat) {c : Nat} (h0 : c ≠ 20) (h1 : c ≠ 21) (h2 : c ≠ 22) : ∀ x, mkS M s x c = M c
  | 0 => rfl
  | x + 1 => (mk1_ne _ _ h0 h1 h2).trans (mkS_ne M s h0 h1 h2 x)
theorem mkS_r (M : fR) (s x : Nat) (T : Nat → Nat → Nat) {c : Nat} (h0 : c ≠ 20) (h1 : c ≠ 21) (h2 : c ≠ 22) (h3 : c ≠ 23) : rs (mkS M s x) 23 T c = M c := by rw [rs_ne _ _ h3, mkS_ne M s h0 h1 h2 x]
theorem mkC_le (M : fR) (s : Nat) : ∀ x, mkC M s x ≤ x
  | 0 => Nat.le_refl 0
  | x + 1 => by have := mkC_le M s x; unfold mkC; split <;> omega
theorem MI_mk1 {M : fR} (hI : MI M) (t : Nat) : MI (mk1 M t) := by
  unfold mk1; split
  · have hn : lnn M t ≤ 16 := Nat.le_trans (lnN_le M t _) hI.2.1.2
    have hL := MI_lnt hI t
    obtain ⟨a1, a2, a3, a4, a5, a6, a7, a8, a9, a10, a11, a12, a13, a14⟩ := hI
    refine ⟨a1, a2, a3, a4, a5, a6, a7, a8, a9, a10, fun k => ?_, fun k => ?_, a13, a14⟩
    · show u1 (M 20) t (lnn M t) k 0 ≤ 16 ∧ u1 (M 21) t 0 k 0 ≤ 1000
      have := a11 k
      unfold u1; split <;> omega
    · show cpT (M 22) t (lnt M t) (lnn M t) k 0 < 134217728
      unfold cpT; split
      · exact hL _
      · exact a12 k
  · exact hI
theorem MI_mkS {M : fR} (hI : MI M) (s : Nat) : ∀ x, MI (mkS M s x)
  | 0 => hI
  | x + 1 => MI_mk1 (MI_mkS hI s x) _
/-- lays and goodness at a state whose 'now' was written over -/
theorem rs23 (M : fR) (T U : Nat → Nat → Nat) : rs (rs M 23 T) 23 U = rs M 23 U := by
  funext c; by_cases h : c = 23 <;> simp [rs, h]
theorem rs_com (M : fR) {a b : Nat} (h : a ≠ b) (f g : Nat → Nat → Nat) : rs (rs M a f) b g = rs (rs M b g) a f := by
  funext c
  by_cases h1 : c = a
  · subst h1; simp [rs, h]
  · by_cases h2 : c = b
    · subst h2; simp [rs, h1]
    · simp [rs, h1, h2]
theorem lnt_23 (M : fR) (T : Nat → Nat → Nat) (t k : Nat) (h : k < lnn M t) : lnt (rs M 23 T) t k 0 = lnt M t k 0 := lnT_23 M T t _ k h
def okK (M : fR) (x : Int32) : Bool := rgB x (shM M) && rdY M (xN x)
def mpM (M : fR) (x : Int32) : fR := if okK M x = true then rs (mkS (rs M 8 (k0 0)) (xN x) 8) 6 (k0 (M 6 0 0 + mkC (rs M 8 (k0 0)) (xN x) 8)) else rs M 8 (k0 (thr (rgB x (shM M)) (okK M x) true))
def mpV (M : fR) (x : Int32) : Int32 := if okK M x = true then nI (mkC (rs M 8 (k0 0)) (xN x) 8) else 0
set_option maxHeartbeats 4000000 in
set_option maxRecDepth 100000 in
theorem c_X5_makePlates_i {l : Launch} (hl : l.stackTraces = false) (Γ : fG) (B0 : Nat) (ad : Nat → Nat → Nat) (M : fR) (F : Nat → fO) (X : Nat × Nat → fO) (jx : Nat) (hjx : jx < shM M) (hI : MI M) (h2 : 2 ≤ M 4 0 0 * M 5 0 0) : f_Met l yX5_makePlates cX5_makePlates 7 (some .int) 5 0 0 112 Γ B0 [.ref (ad 30 0), .int (nI (jx))] (wj F X (mw Γ ad M)) (f_rI (fun r9 w9 => r9 = mpV M (nI jx) ∧ ∃ T : Nat → Nat → Nat, (∀ k, T k 0 < 134217728) ∧ w9 = wj F X (mw Γ ad (rs (mpM M (nI jx)) 23 T)))) f_no := by
  refine f_of hl (by decide) rfl (Nat.le_of_ble_eq_true rfl) (fun X9 C E hh hnm => ?_)
  generalize (f_s X9).heap = H, ([] : List Loc) = locs at hh ⊢
  obtain ⟨i2, i45, i9, i10, i13, i14, i17, i0, i1, -⟩ := id hI
  have h16 := shM_16 hI h2
  have e1 : xN (nI jx) = jx := xN_nI (by omega)
  have hr : rgB (nI jx) (shM M) = true := (rgB_rg (by omega)).mpr (rg_N hjx (by omega))
  refine r_aload_n C dX5_makePlates_0 rfl ?_
  refine r_iload_n C dX5_makePlates_1 rfl ?_
  refine r_callV C E hh (c_X5_isSheet E.2.1 Γ B0 ad M F X i2 i45 (nI jx)) lk_X5_132 (tr := .inr (.inr 0)) rfl rfl rfl rfl (Nat.le_of_ble_eq_true rfl) dX5_makePlates_2 ⟨by decide, by decide⟩ ⟨by omega, by omega⟩ (fun _ _ z9 => False.elim z9) (kk_is (fun H locs hs9 hh => ?_))
  rw [hr]
  refine r_istore_n C dX5_makePlates_5 rfl rfl ?_
  refine r_aload_n C dX5_makePlates_6 rfl ?_
  refine r_iload_n C dX5_makePlates_7 rfl ?_
  refine r_iload_n C dX5_makePlates_8 rfl ?_
  refine r_if_eqB (tgt := 24) C dX5_makePlates_9 (by decide) (fun h9 => ?_) (fun h9 => ?_)
  · cases h9
  · refine r_aload_n C dX5_makePlates_12 rfl ?_
    refine r_iload_n C dX5_makePlates_13 rfl ?_
    refine r_callV C E hh (c_X5_isReadyNow E.2.1 Γ B0 ad M F X jx (by omega) hI) lk_X5_161 (tr := .inr (.inr 0)) rfl rfl rfl rfl (Nat.le_of_ble_eq_true rfl) dX5_makePlates_14 ⟨by decide, by decide⟩ ⟨by omega, by omega⟩ (fun _ _ z9 => False.elim z9) (kk_is (fun H locs hs9 hh => ?_))
    have jn25 : ∀ (H : Heap) (locs : List Loc), f_HS Γ B0 (wj F X (mw Γ ad M)) X9 H locs → f_W X9 H locs 0 0 25 [some (.ref (ad 30 0)), some (.int (nI jx)), none, none, none, none, none] [.int (bI (okK M (nI jx))), .int (bI true), .ref (ad 30 0)] := by
      intro H locs hh
      refine r_iconst C (bI true) dX5_makePlates_25 rfl ?_
      refine r_callV C E hh (c_X5_goes E.2.1 Γ B0 ad M F X true (okK M (nI jx)) true) lk_X5_101 (tr := .inr (.inr 0)) rfl rfl rfl rfl (Nat.le_of_ble_eq_true rfl) dX5_makePlates_26 ⟨by decide, by decide⟩ ⟨by omega, by omega⟩ (fun _ _ z9 => False.elim z9) (kk_is (fun H locs hs9 hh => ?_))
      rw [Bool.and_true, Bool.true_and]
      refine r_if_neB (tgt := 34) C dX5_makePlates_29 (by decide) (fun h29 => ?_) (fun h29 => ?_)
      · rw [h29, show thr true true true = 0 from rfl] at hh
        refine r_iconst C (nI 0) dX5_makePlates_34 rfl ?_
        refine r_istore_n C dX5_makePlates_35 rfl rfl ?_
        refine r_iload_n C dX5_makePlates_36 rfl ?_
        refine r_iconst C (nI 0) dX5_makePlates_37 rfl ?_
        refine r_iconst C (nI 0) dX5_makePlates_38 rfl ?_
        refine r_callS C E hh (c_X5_plate E.2.1 Γ B0 _ jx 0 0) lk_X5_185 rfl rfl (Nat.le_of_ble_eq_true rfl) dX5_makePlates_39 ⟨by decide, by decide⟩ ⟨by omega, by omega⟩ (fun _ _ z9 => False.elim z9) (kk_is (fun H locs hs9 hh => ?_))
        rw [show 8 * jx + 4 * 0 + 0 = 8 * jx + 0 from rfl]
        refine r_istore C dX5_makePlates_42 rfl rfl ?_
        have lp44 : ∀ (d9 : Nat) (x : Nat) (T : Nat → Nat → Nat) (H : Heap) (locs : List Loc), 8 - x < d9 → x ≤ 8 → (∀ k, T k 0 < 134217728) → f_HS Γ B0 (wj F X (mw Γ ad (rs (mkS (rs M 8 (k0 0)) jx x) 23 T))) X9 H locs → f_W X9 H locs 0 0 44 [some (.ref (ad 30 0)), some (.int (nI (jx))), none, some (.int (nI (mkC (rs M 8 (k0 0)) jx x))), some (.int (nI (8 * jx + x))), none, none] [] := by
          intro d9
          induction d9 with
          | zero => intro x T H locs hd9 hl hT hh; exact absurd hd9 (Nat.not_lt_zero _)
          | succ d9 ih44 =>
            intro x T H locs hd9 hl hT hh
            have hZ := MI_mkS (M := (rs M 8 (k0 0))) hI jx x
            have hmc := mkC_le (rs M 8 (k0 0)) jx x
            have hnn : lnn (mkS (rs M 8 (k0 0)) jx x) (8 * jx + x) ≤ 16 := Nat.le_trans (lnN_le _ _ _) hZ.2.1.2
            refine r_iload C dX5_makePlates_44 rfl ?_
            refine r_iload_n C dX5_makePlates_46 rfl ?_
            refine r_iconst C (nI 1) dX5_makePlates_47 rfl ?_
            refine r_iaddN C dX5_makePlates_48 ?_
            refine r_iconst C (nI 0) dX5_makePlates_49 rfl ?_
            refine r_iconst C (nI 0) dX5_makePlates_50 rfl ?_
            refine r_callS C E hh (c_X5_plate E.2.1 Γ B0 _ (jx + 1) 0 0) lk_X5_185 rfl rfl (Nat.le_of_ble_eq_true rfl) dX5_makePlates_51 ⟨by decide, by decide⟩ ⟨by omega, by omega⟩ (fun _ _ z9 => False.elim z9) (kk_is (fun H locs hs9 hh => ?_))
            rw [show 8 * (jx + 1) + 4 * 0 + 0 = 8 * jx + 8 by omega]
            refine r_icmp_geN (tgt := 141) C dX5_makePlates_54 (by decide) (by omega) (by omega) (fun h54 => ?_) (fun h54 => ?_)
            · have x8 : x = 8 := by omega
              refine r_aload_n C dX5_makePlates_141 rfl ?_
              refine r_dup C dX5_makePlates_142 rfl ?_
              refine g_X5_191 C hh dX5_makePlates_143 ?_
              rw [mkS_r (rs M 8 (k0 0)) jx x T (by decide) (by decide) (by decide) (by decide), show (rs M 8 (k0 0)) 6 0 0 = M 6 0 0 from rfl]
              refine r_iload_n C dX5_makePlates_146 rfl ?_
              refine r_iaddN C dX5_makePlates_147 ?_
              refine p_X5_191 C hh dX5_makePlates_148 (fun H locs hh => ?_)
              refine r_iload_n C dX5_makePlates_151 rfl ?_
              exact r_iret C E hh dX5_makePlates_152 (by omega) (by omega) ⟨_, rfl, by unfold mpV; rw [if_pos h29, e1, x8], T, hT, by unfold mpM; rw [if_pos h29, e1, x8]; exact congrArg (fun z => wj F X (mw Γ ad z)) (rs_com _ (by decide) _ _)⟩
            · refine r_aload_n C dX5_makePlates_57 rfl ?_
              refine r_iload C dX5_makePlates_58 rfl ?_
              refine r_callV C E hh (c_X5_laysNow E.2.1 Γ B0 ad (rs (mkS (rs M 8 (k0 0)) jx x) 23 T) F X (8 * jx + x) (by omega) (MI_rs23 hZ hT)) lk_X5_182 (tr := .inr (.inr 0)) rfl rfl rfl rfl (Nat.le_of_ble_eq_true rfl) dX5_makePlates_60 ⟨by decide, by decide⟩ ⟨by omega, by omega⟩ (fun _ _ z9 => False.elim z9) (kk_is (fun H locs hs9 hh => ?_))
              rw [lnn_23]
              rw [rs23] at hh
              have hU1 := MI_lnt (MI_rs23 hZ hT) (8 * jx + x)
              have hkU1 := fun k hk => lnt_23 (mkS (rs M 8 (k0 0)) jx x) T (8 * jx + x) k hk
              generalize lnt (rs (mkS (rs M 8 (k0 0)) jx x) 23 T) (8 * jx + x) = U1 at hh hU1 hkU1
              refine r_istore C dX5_makePlates_63 rfl rfl ?_
              refine r_iload C dX5_makePlates_65 rfl ?_
              refine r_if_leN (tgt := 135) C dX5_makePlates_67 (by decide) (by omega) (fun h67 => ?_) (fun h67 => ?_)
              · have hne : ¬ neM (mkS (rs M 8 (k0 0)) jx x) (8 * jx + x) = true := by unfold neM; rw [h67, decide_eq_false (Nat.lt_irrefl 0), Bool.false_and]; decide
                have ew : rs (mkS (rs M 8 (k0 0)) jx (x + 1)) 23 U1 = rs (mkS (rs M 8 (k0 0)) jx x) 23 U1 := by rw [show mkS (rs M 8 (k0 0)) jx (x + 1) = mkS (rs M 8 (k0 0)) jx x from if_neg hne]
                have e8 : mkC (rs M 8 (k0 0)) jx (x + 1) = mkC (rs M 8 (k0 0)) jx x := by
                  show mkC (rs M 8 (k0 0)) jx x + (if neM (mkS (rs M 8 (k0 0)) jx x) (8 * jx + x) = true then 1 else 0) = _
                  rw [if_neg hne]; rfl
                have hU := hU1
                refine r_iincN C dX5_makePlates_135 rfl rfl ?_
                refine r_goto (tgt := 44) C dX5_makePlates_138 (by decide) ?_
                have w9 := ih44 (x + 1) _ H locs (by omega) (by omega) hU (by rw [ew]; exact hh)
                rw [e8] at w9
                refine f_W.le ?_ w9
                exact (And.intro rfl (And.intro rfl (And.intro rfl (And.intro rfl trivial))))
              · refine r_aload_n C dX5_makePlates_70 rfl ?_
                refine r_iload C dX5_makePlates_71 rfl ?_
                refine r_callV C E hh (c_X5_isGood E.2.1 Γ B0 ad (rs (mkS (rs M 8 (k0 0)) jx x) 23 U1) F X (8 * jx + x) (by omega) (MI_rs23 hZ hU1)) lk_X5_188 (tr := .inr (.inr 0)) rfl rfl rfl rfl (Nat.le_of_ble_eq_true rfl) dX5_makePlates_73 ⟨by decide, by decide⟩ ⟨by omega, by omega⟩ (fun _ _ z9 => False.elim z9) (kk_is (fun H locs hs9 hh => ?_))
                rw [gdM_23]
                rw [rs23] at hh
                have hU2 := MI_lnt (MI_rs23 hZ hU1) (8 * jx + x)
                have hkU2 := fun k hk => lnt_23 (mkS (rs M 8 (k0 0)) jx x) U1 (8 * jx + x) k hk
                generalize lnt (rs (mkS (rs M 8 (k0 0)) jx x) 23 U1) (8 * jx + x) = U2 at hh hU2 hkU2
                refine r_if_neB (tgt := 135) C dX5_makePlates_76 (by decide) (fun h76 => ?_) (fun h76 => ?_)
                · have hne : ¬ neM (mkS (rs M 8 (k0 0)) jx x) (8 * jx + x) = true := by unfold neM; rw [h76, Bool.not_true, Bool.and_false]; decide
                  have ew : rs (mkS (rs M 8 (k0 0)) jx (x + 1)) 23 U2 = rs (mkS (rs M 8 (k0 0)) jx x) 23 U2 := by rw [show mkS (rs M 8 (k0 0)) jx (x + 1) = mkS (rs M 8 (k0 0)) jx x from if_neg hne]
                  have e8 : mkC (rs M 8 (k0 0)) jx (x + 1) = mkC (rs M 8 (k0 0)) jx x := by
                    show mkC (rs M 8 (k0 0)) jx x + (if neM (mkS (rs M 8 (k0 0)) jx x) (8 * jx + x) = true then 1 else 0) = _
                    rw [if_neg hne]; rfl
                  have hU := hU2
                  refine r_iincN C dX5_makePlates_135 rfl rfl ?_
                  refine r_goto (tgt := 44) C dX5_makePlates_138 (by decide) ?_
                  have w9 := ih44 (x + 1) _ H locs (by omega) (by omega) hU (by rw [ew]; exact hh)
                  rw [e8] at w9
                  refine f_W.le ?_ w9
                  exact (And.intro rfl (And.intro rfl (And.intro rfl (And.intro rfl trivial))))
                · have hne : neM (mkS (rs M 8 (k0 0)) jx x) (8 * jx + x) = true := by unfold neM; rw [h76, decide_eq_true h67]; rfl
                  have ew : rs (mkS (rs M 8 (k0 0)) jx (x + 1)) 23 U2 = rs (rs (rs (rs (mkS (rs M 8 (k0 0)) jx x) 23 U2) 20 (u1 ((mkS (rs M 8 (k0 0)) jx x) 20) (8 * jx + x) (lnn (mkS (rs M 8 (k0 0)) jx x) (8 * jx + x)))) 21 (u1 ((mkS (rs M 8 (k0 0)) jx x) 21) (8 * jx + x) 0)) 22 (cpT ((mkS (rs M 8 (k0 0)) jx x) 22) (8 * jx + x) U2 (lnn (mkS (rs M 8 (k0 0)) jx x) (8 * jx + x))) := by
                    rw [show mkS (rs M 8 (k0 0)) jx (x + 1) = rs (rs (rs (mkS (rs M 8 (k0 0)) jx x) 20 (u1 ((mkS (rs M 8 (k0 0)) jx x) 20) (8 * jx + x) (lnn (mkS (rs M 8 (k0 0)) jx x) (8 * jx + x)))) 21 (u1 ((mkS (rs M 8 (k0 0)) jx x) 21) (8 * jx + x) 0)) 22 (cpT ((mkS (rs M 8 (k0 0)) jx x) 22) (8 * jx + x) (lnt (mkS (rs M 8 (k0 0)) jx x) (8 * jx + x)) (lnn (mkS (rs M 8 (k0 0)) jx x) (8 * jx + x))) from if_pos hne, ← cpT_g hkU2, rs_com _ (show 22 ≠ 23 by decide), rs_com _ (show 21 ≠ 23 by decide), rs_com _ (show 20 ≠ 23 by decide)]
                  have e8 : mkC (rs M 8 (k0 0)) jx (x + 1) = mkC (rs M 8 (k0 0)) jx x + 1 := by
                    show mkC (rs M 8 (k0 0)) jx x + (if neM (mkS (rs M 8 (k0 0)) jx x) (8 * jx + x) = true then 1 else 0) = _
                    rw [if_pos hne]
                  have hU := hU2
                  refine r_aload_n C dX5_makePlates_79 rfl ?_
                  refine g_X5_43 C hh dX5_makePlates_80 ?_
                  refine r_iload C dX5_makePlates_83 rfl ?_
                  refine r_iload C dX5_makePlates_85 rfl ?_
                  refine as_m_shown C hh (by omega) dX5_makePlates_87 (fun H locs hh => ?_)
                  refine r_aload_n C dX5_makePlates_88 rfl ?_
                  refine g_X5_46 C hh dX5_makePlates_89 ?_
                  refine r_iload C dX5_makePlates_92 rfl ?_
                  refine r_iconst C (nI 0) dX5_makePlates_94 rfl ?_
                  refine as_m_used C hh (by omega) dX5_makePlates_95 (fun H locs hh => ?_)
                  refine r_iconst C (nI 0) dX5_makePlates_96 rfl ?_
                  refine r_istore C dX5_makePlates_97 rfl rfl ?_
                  have lp99 : ∀ (d9 : Nat) (k : Nat) (H : Heap) (locs : List Loc), lnn (mkS (rs M 8 (k0 0)) jx x) (8 * jx + x) - k < d9 → k ≤ lnn (mkS (rs M 8 (k0 0)) jx x) (8 * jx + x) → f_HS Γ B0 (wj F X (mw Γ ad (rs (rs (rs (rs (mkS (rs M 8 (k0 0)) jx x) 23 U2) 20 (u1 ((mkS (rs M 8 (k0 0)) jx x) 20) (8 * jx + x) (lnn (mkS (rs M 8 (k0 0)) jx x) (8 * jx + x)))) 21 (u1 ((mkS (rs M 8 (k0 0)) jx x) 21) (8 * jx + x) 0)) 22 (cpT ((mkS (rs M 8 (k0 0)) jx x) 22) (8 * jx + x) U2 k)))) X9 H locs → f_W X9 H locs 0 0 99 [some (.ref (ad 30 0)), some (.int (nI (jx))), none, some (.int (nI (mkC (rs M 8 (k0 0)) jx x))), some (.int (nI (8 * jx + x))), some (.int (nI (lnn (mkS (rs M 8 (k0 0)) jx x) (8 * jx + x)))), some (.int (nI (k)))] [] := by
                    intro d9
                    induction d9 with
                    | zero => intro k H locs hd9 hl hh; exact absurd hd9 (Nat.not_lt_zero _)
                    | succ d9 ih99 =>
                      intro k H locs hd9 hl hh
                      refine r_iload C dX5_makePlates_99 rfl ?_
                      refine r_iload C dX5_makePlates_101 rfl ?_
                      refine r_icmp_geN (tgt := 132) C dX5_makePlates_103 (by decide) (by omega) (by omega) (fun h103 => ?_) (fun h103 => ?_)
                      · obtain rfl : k = lnn (mkS (rs M 8 (k0 0)) jx x) (8 * jx + x) := by omega
                        refine r_iincN C dX5_makePlates_132 rfl rfl ?_
                        refine r_iincN C dX5_makePlates_135 rfl rfl ?_
                        refine r_goto (tgt := 44) C dX5_makePlates_138 (by decide) ?_
                        have w9 := ih44 (x + 1) _ H locs (by omega) (by omega) hU (by rw [ew]; exact hh)
                        rw [e8] at w9
                        refine f_W.le ?_ w9
                        exact (And.intro rfl (And.intro rfl (And.intro rfl (And.intro rfl trivial))))
                      · refine r_aload_n C dX5_makePlates_106 rfl ?_
                        refine g_X5_49 C hh dX5_makePlates_107 ?_
                        refine r_bipush C (nI 16) dX5_makePlates_110 rfl ?_
                        refine r_iload C dX5_makePlates_112 rfl ?_
                        refine r_imulN C dX5_makePlates_114 ?_
                        refine r_iload C dX5_makePlates_115 rfl ?_
                        refine r_iaddN C dX5_makePlates_117 ?_
                        refine r_aload_n C dX5_makePlates_118 rfl ?_
                        refine g_X5_52 C hh dX5_makePlates_119 ?_
                        refine r_iload C dX5_makePlates_122 rfl ?_
                        refine al_m_now C hh (by omega) dX5_makePlates_124 ?_
                        rw [show (rs (rs (rs (rs (mkS (rs M 8 (k0 0)) jx x) 23 U2) 20 (u1 ((mkS (rs M 8 (k0 0)) jx x) 20) (8 * jx + x) (lnn (mkS (rs M 8 (k0 0)) jx x) (8 * jx + x)))) 21 (u1 ((mkS (rs M 8 (k0 0)) jx x) 21) (8 * jx + x) 0)) 22 (cpT ((mkS (rs M 8 (k0 0)) jx x) 22) (8 * jx + x) U2 k)) 23 k 0 = U2 k 0 from rfl]
                        refine as_m_shows C hh (by omega) dX5_makePlates_125 (fun H locs hh => ?_)
                        rw [rs_same, rs_rs, cpT_s] at hh
                        refine r_iincN C dX5_makePlates_126 rfl rfl ?_
                        refine r_goto (tgt := 99) C dX5_makePlates_129 (by decide) ?_
                        refine f_W.le ?_ (ih99 (k + 1) _ _ (by omega) (by omega) hh)
                        exact (And.intro rfl (And.intro rfl (And.intro rfl (And.intro rfl (And.intro rfl (And.intro rfl trivial))))))
                  refine f_W.le ?_ (lp99 (lnn (mkS (rs M 8 (k0 0)) jx x) (8 * jx + x) + 1) 0 _ _ (by omega) (by omega) (by rw [cpT_0, show (rs (rs (rs (rs (mkS (rs M 8 (k0 0)) jx x) 23 U2) 20 (u1 ((mkS (rs M 8 (k0 0)) jx x) 20) (8 * jx + x) (lnn (mkS (rs M 8 (k0 0)) jx x) (8 * jx + x)))) 21 (u1 ((mkS (rs M 8 (k0 0)) jx x) 21) (8 * jx + x) 0)) 22 ((mkS (rs M 8 (k0 0)) jx x) 22)) = rs (rs (rs (mkS (rs M 8 (k0 0)) jx x) 23 U2) 20 (u1 ((mkS (rs M 8 (k0 0)) jx x) 20) (8 * jx + x) (lnn (mkS (rs M 8 (k0 0)) jx x) (8 * jx + x)))) 21 (u1 ((mkS (rs M 8 (k0 0)) jx x) 21) (8 * jx + x) 0) from rs_id (rs (rs (rs (mkS (rs M 8 (k0 0)) jx x) 23 U2) 20 (u1 ((mkS (rs M 8 (k0 0)) jx x) 20) (8 * jx + x) (lnn (mkS (rs M 8 (k0 0)) jx x) (8 * jx + x)))) 21 (u1 ((mkS (rs M 8 (k0 0)) jx x) 21) (8 * jx + x) 0)) 22]; exact hh))
                  exact (And.intro rfl (And.intro rfl (And.intro rfl (And.intro rfl (And.intro rfl (And.intro rfl trivial))))))
        refine f_W.le ?_ (lp44 9 0 (M 23) _ _ (by omega) (by omega) (MI_23 hI) (by rw [show rs (mkS (rs M 8 (k0 0)) jx 0) 23 (M 23) = (rs M 8 (k0 0)) from rs_id (rs M 8 (k0 0)) 23]; exact hh))
        exact (And.intro rfl (And.intro rfl (And.intro rfl (And.intro rfl trivial))))
      · refine r_iconst C (nI 0) dX5_makePlates_32 rfl ?_
        exact r_iret C E hh dX5_makePlates_33 (by omega) (by omega) ⟨_, rfl, by unfold mpV; rw [if_neg (by rw [h29]; decide)]; rfl, M 23, MI_23 hI, by unfold mpM; rw [if_neg (by rw [h29]; decide), hr]; exact congrArg (fun z => wj F X (mw Γ ad z)) (rs_id _ 23).symm⟩
    refine r_if_eqB (tgt := 24) C dX5_makePlates_17 (by decide) (fun h17 => ?_) (fun h17 => ?_)
    · have hv : okK M (nI jx) = false := by unfold okK; rw [e1, h17, Bool.and_false]
      refine r_iconst C (bI (okK M (nI jx))) dX5_makePlates_24 (by rw [hv]; rfl) ?_
      refine f_W.le ?_ (jn25 _ _ hh)
      exact (And.intro rfl (And.intro rfl trivial))
    · have hv : okK M (nI jx) = true := by unfold okK; rw [e1, h17, hr]; rfl
      refine r_iconst C (bI (okK M (nI jx))) dX5_makePlates_20 (by rw [hv]; rfl) ?_
      refine r_goto (tgt := 25) C dX5_makePlates_21 (by decide) ?_
      refine f_W.le ?_ (jn25 _ _ hh)
      exact (And.intro rfl (And.intro rfl trivial))

set_option maxHeartbeats 4000000 in
set_option maxRecDepth 100000 in
theorem c_X5_makePlates_o {l : Launch} (hl : l.stackTraces = false) (Γ : fG) (B0 : Nat) (ad : Nat → Nat → Nat) (M : fR) (F : Nat → fO) (X : Nat × Nat → fO) (x : Int32) (hx : rgB x (shM M) = false) (hI : MI M) : f_Met l yX5_makePlates cX5_makePlates 7 (some .int) 3 0 0 61 Γ B0 [.ref (ad 30 0), .int x] (wj F X (mw Γ ad M)) (f_rI (fun r9 w9 => r9 = mpV M x ∧ ∃ T : Nat → Nat → Nat, (∀ k, T k 0 < 134217728) ∧ w9 = wj F X (mw Γ ad (rs (mpM M x) 23 T)))) f_no := by
  refine f_of hl (by decide) rfl (Nat.le_of_ble_eq_true rfl) (fun X9 C E hh hnm => ?_)
  generalize (f_s X9).heap = H, ([] : List Loc) = locs at hh ⊢
  obtain ⟨i2, i45, i9, i10, i13, i14, i17, i0, i1, -⟩ := id hI
  have hv : okK M x = false := by unfold okK; rw [hx]; rfl
  refine r_aload_n C dX5_makePlates_0 rfl ?_
  refine r_iload_n C dX5_makePlates_1 rfl ?_
  refine r_callV C E hh (c_X5_isSheet E.2.1 Γ B0 ad M F X i2 i45 x) lk_X5_132 (tr := .inr (.inr 0)) rfl rfl rfl rfl (Nat.le_of_ble_eq_true rfl) dX5_makePlates_2 ⟨by decide, by decide⟩ ⟨by omega, by omega⟩ (fun _ _ z9 => False.elim z9) (kk_is (fun H locs hs9 hh => ?_))
  rw [hx]
  refine r_istore_n C dX5_makePlates_5 rfl rfl ?_
  refine r_aload_n C dX5_makePlates_6 rfl ?_
  refine r_iload_n C dX5_makePlates_7 rfl ?_
  refine r_iload_n C dX5_makePlates_8 rfl ?_
  refine r_if_eqB (tgt := 24) C dX5_makePlates_9 (by decide) (fun h9 => ?_) (fun h9 => ?_)
  · refine r_iconst C (bI (okK M x)) dX5_makePlates_24 (by rw [hv]; rfl) ?_
    refine r_iconst C (bI true) dX5_makePlates_25 rfl ?_
    refine r_callV C E hh (c_X5_goes E.2.1 Γ B0 ad M F X false (okK M x) true) lk_X5_101 (tr := .inr (.inr 0)) rfl rfl rfl rfl (Nat.le_of_ble_eq_true rfl) dX5_makePlates_26 ⟨by decide, by decide⟩ ⟨by omega, by omega⟩ (fun _ _ z9 => False.elim z9) (kk_is (fun H locs hs9 hh => ?_))
    rw [Bool.and_true, Bool.false_and]
    refine r_if_neB (tgt := 34) C dX5_makePlates_29 (by decide) (fun h29 => ?_) (fun h29 => ?_)
    · cases h29
    · refine r_iconst C (nI 0) dX5_makePlates_32 rfl ?_
      exact r_iret C E hh dX5_makePlates_33 (by omega) (by omega) ⟨_, rfl, by unfold mpV; rw [if_neg (by rw [hv]; decide)]; rfl, M 23, MI_23 hI, by unfold mpM; rw [if_neg (by rw [hv]; decide), hx]; exact congrArg (fun z => wj F X (mw Γ ad z)) (rs_id _ 23).symm⟩
  · cases h9

