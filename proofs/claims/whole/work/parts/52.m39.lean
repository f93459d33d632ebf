/-! ===== the model: lays, setFolds ===== -/
def ly1 (M : fR) (many : Nat) : fR := rs (rs (rs M 3 (k0 many)) 4 (k0 1)) 5 (k0 1)
def lyX (M : fR) (many folds : Nat) : Nat → fR
  | 0 => ly1 M many
  | x + 1 => rs (rs (rs (lyX M many folds x) 16 (u1 (lyX M many folds x 16) x (kq folds x))) 5 (k0 (lyX M many folds x 5 0 0 * (if kq folds x < 2 then 2 else 1)))) 4 (k0 (lyX M many folds x 4 0 0 * (if kq folds x < 2 then 1 else 2)))
def lyY (Q : fR) : Nat → fR
  | 0 => Q
  | x + 1 => flM (lyY Q x) x
def lyM (M : fR) (many folds : Nat) : fR := lyY (lyX M many folds many) (2 ^ many)
theorem lyX_ne (M : fR) (many folds : Nat) {c : Nat} (h4 : c ≠ 4) (h5 : c ≠ 5) (h16 : c ≠ 16) : ∀ x, lyX M many folds x c = ly1 M many c
  | 0 => rfl
  | x + 1 => by
    unfold lyX
    rw [rs_ne _ _ h4, rs_ne _ _ h5, rs_ne _ _ h16]
    exact lyX_ne M many folds h4 h5 h16 x
theorem lyX_rc (M : fR) (many folds : Nat) : ∀ x, lyX M many folds x 4 0 0 = rowU (kq folds) x ∧ lyX M many folds x 5 0 0 = colU (kq folds) x
  | 0 => ⟨rfl, rfl⟩
  | x + 1 => by
    obtain ⟨a, b⟩ := lyX_rc M many folds x
    have e4 : lyX M many folds (x + 1) 4 0 0 = lyX M many folds x 4 0 0 * (if kq folds x < 2 then 1 else 2) := rfl
    have e5 : lyX M many folds (x + 1) 5 0 0 = lyX M many folds x 5 0 0 * (if kq folds x < 2 then 2 else 1) := rfl
    rw [e4, e5, a, b]
    by_cases h : kq folds x < 2
    · have r1 : rowU (kq folds) (x + 1) = rowU (kq folds) x := if_pos h
      have r2 : colU (kq folds) (x + 1) = colU (kq folds) x * 2 := if_pos h
      rw [if_pos h, if_pos h, r1, r2, Nat.mul_one]
      exact ⟨rfl, rfl⟩
    · have r1 : rowU (kq folds) (x + 1) = rowU (kq folds) x * 2 := if_neg h
      have r2 : colU (kq folds) (x + 1) = colU (kq folds) x := if_neg h
      rw [if_neg h, if_neg h, r1, r2, Nat.mul_one]
      exact ⟨rfl, rfl⟩
theorem lyX_16 (M : fR) (many folds : Nat) : ∀ x i, lyX M many folds x 16 i 0 = if i < x then kq folds i else M 16 i 0
  | 0, i => (if_neg (Nat.not_lt_zero i)).symm
  | x + 1, i => by
    have e : lyX M many folds (x + 1) 16 = u1 (lyX M many folds x 16) x (kq folds x) := rfl
    rw [e]
    unfold u1
    by_cases h : i = x
    · rw [if_pos h, if_pos (by omega), h]
    · rw [if_neg h, lyX_16 M many folds x i]
      by_cases h2 : i < x
      · rw [if_pos h2, if_pos (by omega)]
      · rw [if_neg h2, if_neg (by omega)]
theorem flM_ne (M : fR) (lf : Nat) {c : Nat} (h17 : c ≠ 17) (h18 : c ≠ 18) (h19 : c ≠ 19) : flM M lf c = M c := by
  unfold flM flW
  rw [rs_ne _ _ h17, rs_ne _ _ h19, rs_ne _ _ h18]
theorem lyY_ne (Q : fR) {c : Nat} (h17 : c ≠ 17) (h18 : c ≠ 18) (h19 : c ≠ 19) : ∀ x, lyY Q x c = Q c
  | 0 => rfl
  | x + 1 => (flM_ne _ _ h17 h18 h19).trans (lyY_ne Q h17 h18 h19 x)
theorem flI_c {Q Q' : fR} (h3 : Q' 3 = Q 3) (h4 : Q' 4 = Q 4) (h5 : Q' 5 = Q 5) (h16 : Q' 16 = Q 16) (h : flI Q) : flI Q' := by
  unfold flI kdM
  rw [h3, h4, h5, h16]
  exact h
theorem kq_lt (folds x : Nat) : kq folds x < 4 := Nat.mod_lt _ (by decide)
theorem flI_lyX {M : fR} {many folds : Nat} (h5 : many < 5) (hfo : folds < 2 ^ (2 * many)) (h16 : ∀ i, M 16 i 0 < 4) : flI (lyX M many folds many) := by
  have e3 : lyX M many folds many 3 0 0 = many := congrFun (congrFun (lyX_ne M many folds (by decide) (by decide) (by decide) many) 0) 0
  obtain ⟨e4, e5⟩ := lyX_rc M many folds many
  have hrc := rc_all many h5 folds hfo
  have hk : ∀ i, i < many → kdM (lyX M many folds many) i = kq folds i := fun i hi => by unfold kdM; rw [lyX_16, if_pos hi]
  refine ⟨by rw [e3]; exact h5, fun i => ?_, ?_, by rw [e4, e5]; exact hrc.2, by rw [e3, e4, e5]; exact hrc.1⟩
  · rw [lyX_16]
    split
    · exact kq_lt _ _
    · exact h16 i
  · rw [e3, e4, e5]
    intro x hx
    have a1 := rlF_congr hk (rowU (kq folds) many) x (by omega)
    have a2 := rlF_congr hk (rowU (kq folds) many) (x + 1) (by omega)
    have a3 := rlF_congr hk (colU (kq folds) many) x (by omega)
    have a4 := rlF_congr hk (colU (kq folds) many) (x + 1) (by omega)
    have h := hvB_all many h5 folds hfo x hx
    rw [a1.1, a2.1, a3.2, a4.2, hk x hx]
    unfold hvB at h
    simp only [Bool.and_eq_true, Bool.or_eq_true, Bool.not_eq_true', Nat.beq_eq, Nat.blt_eq] at h
    refine ⟨fun z => ?_, fun z => ?_⟩
    · rcases h.1 with q | q
      · exact absurd (Nat.blt_eq.mpr z) (by rw [q]; decide)
      · exact q
    · rcases h.2 with q | q
      · exact absurd q z
      · exact q
theorem kq_div (folds x : Nat) : folds / 2 ^ (2 * x) / 4 = folds / 2 ^ (2 * (x + 1)) := by
  rw [Nat.div_div_eq_div_mul, show 2 * (x + 1) = 2 * x + 2 by omega, Nat.pow_add]
set_option maxHeartbeats 4000000 in
set_option maxRecDepth 100000 in
theorem c_X5_lays {l : Launch} (hl : l.stackTraces = false) (Γ : fG) (B0 : Nat) (ad : Nat → Nat → Nat) (M : fR) (F : Nat → fO) (X : Nat × Nat → fO) (many folds : Nat) (h1 : 1 ≤ many) (h5 : many < 5) (hfo : folds < 2 ^ (2 * many)) (h16 : ∀ i, M 16 i 0 < 4) : f_Met l yX5_lays cX5_lays 5 none 1 0 0 35 Γ B0 [.ref (ad 30 0), .int (nI (many)), .int (nI (folds))] (wj F X (mw Γ ad M)) (f_to (wj F X (mw Γ ad (lyM M many folds)))) f_no := by
  refine f_of hl (by decide) rfl (Nat.le_of_ble_eq_true rfl) (fun X9 C E hh hnm => ?_)
  generalize (f_s X9).heap = H, ([] : List Loc) = locs at hh ⊢
  have hfo2 : folds < 256 := Nat.lt_of_lt_of_le hfo (Nat.pow_le_pow_right (by decide) (by omega : 2 * many ≤ 8))
  have hfl := flI_lyX h5 hfo h16
  have e3 : lyX M many folds many 3 0 0 = many := congrFun (congrFun (lyX_ne M many folds (by decide) (by decide) (by decide) many) 0) 0
  have hprod : lyX M many folds many 4 0 0 * lyX M many folds many 5 0 0 = 2 ^ many := by
    have := hfl.2.2.2.2
    rw [e3] at this; exact this
  have hp2 : 2 ^ many ≤ 16 := Nat.pow_le_pow_right (n := 2) (by decide) (by omega : many ≤ 4)
  refine r_aload_n C dX5_lays_0 rfl ?_
  refine r_iload_n C dX5_lays_1 rfl ?_
  refine p_X5_77 C hh dX5_lays_2 (fun H locs hh => ?_)
  refine r_aload_n C dX5_lays_5 rfl ?_
  refine r_iconst C (nI 1) dX5_lays_6 rfl ?_
  refine p_X5_80 C hh dX5_lays_7 (fun H locs hh => ?_)
  refine r_aload_n C dX5_lays_10 rfl ?_
  refine r_iconst C (nI 1) dX5_lays_11 rfl ?_
  refine p_X5_83 C hh dX5_lays_12 (fun H locs hh => ?_)
  refine r_iload_n C dX5_lays_15 rfl ?_
  refine r_istore_n C dX5_lays_16 rfl rfl ?_
  refine r_iconst C (nI 0) dX5_lays_17 rfl ?_
  refine r_istore C dX5_lays_18 rfl rfl ?_
  have lp20 : ∀ (d9 : Nat) (x : Nat) (H : Heap) (locs : List Loc), many - x < d9 → x ≤ many → f_HS Γ B0 (wj F X (mw Γ ad (lyX M many folds x))) X9 H locs → f_W X9 H locs 0 0 20 [some (.ref (ad 30 0)), some (.int (nI (many))), some (.int (nI (folds))), some (.int (nI (folds / 2 ^ (2 * x)))), some (.int (nI (x)))] [] := by
    intro d9
    induction d9 with
    | zero => intro x H locs hd9 hl hh; exact absurd hd9 (Nat.not_lt_zero _)
    | succ d9 ih20 =>
      intro x H locs hd9 hl hh
      have hdv : folds / 2 ^ (2 * x) ≤ folds := Nat.div_le_self _ _
      have hk4 := kq_lt folds x
      refine r_iload C dX5_lays_20 rfl ?_
      refine r_iload_n C dX5_lays_22 rfl ?_
      refine r_icmp_geN (tgt := 117) C dX5_lays_23 (by decide) (by omega) (by omega) (fun h23 => ?_) (fun h23 => ?_)
      · have x9 : x = many := by omega
        rw [x9] at hh
        refine r_iconst C (nI 0) dX5_lays_117 rfl ?_
        refine r_istore C dX5_lays_118 rfl rfl ?_
        have lp120 : ∀ (d9 : Nat) (k : Nat) (H : Heap) (locs : List Loc), 2 ^ many - k < d9 → k ≤ 2 ^ many → f_HS Γ B0 (wj F X (mw Γ ad (lyY (lyX M many folds many) k))) X9 H locs → f_W X9 H locs 0 0 120 [some (.ref (ad 30 0)), some (.int (nI (many))), some (.int (nI (folds))), none, some (.int (nI (k)))] [] := by
          intro d9
          induction d9 with
          | zero => intro k H locs hd9 hl hh; exact absurd hd9 (Nat.not_lt_zero _)
          | succ d9 ih120 =>
            intro k H locs hd9 hl hh
            have y4 : lyY (lyX M many folds many) k 4 = lyX M many folds many 4 := lyY_ne _ (by decide) (by decide) (by decide) k
            have y5 : lyY (lyX M many folds many) k 5 = lyX M many folds many 5 := lyY_ne _ (by decide) (by decide) (by decide) k
            have hfk : flI (lyY (lyX M many folds many) k) := flI_c (lyY_ne _ (by decide) (by decide) (by decide) k) y4 y5 (lyY_ne _ (by decide) (by decide) (by decide) k) hfl
            have hprk : lyY (lyX M many folds many) k 4 0 0 * lyY (lyX M many folds many) k 5 0 0 = 2 ^ many := by rw [y4, y5]; exact hprod
            refine r_iload C dX5_lays_120 rfl ?_
            refine r_aload_n C dX5_lays_122 rfl ?_
            refine g_X5_80 C hh dX5_lays_123 ?_
            refine r_aload_n C dX5_lays_126 rfl ?_
            refine g_X5_83 C hh dX5_lays_127 ?_
            refine r_imulN C dX5_lays_130 ?_
            rw [hprk]
            refine r_icmp_geN (tgt := 146) C dX5_lays_131 (by decide) (by omega) (by omega) (fun h131 => ?_) (fun h131 => ?_)
            · obtain rfl : k = 2 ^ many := by omega
              exact r_vret C E hh dX5_lays_146 (by omega) (by omega) ⟨rfl, rfl⟩
            · refine r_aload_n C dX5_lays_134 rfl ?_
              refine r_iload C dX5_lays_135 rfl ?_
              refine r_callV C E hh (c_X5_follows E.2.1 Γ B0 ad (lyY (lyX M many folds many) k) F X k (by omega) hfk) lk_X5_86 (tr := .inr (.inr 0)) rfl rfl rfl rfl (Nat.le_of_ble_eq_true rfl) dX5_lays_137 ⟨by decide, by decide⟩ ⟨by omega, by omega⟩ (fun _ _ z9 => False.elim z9) (kk_to (fun H locs hs9 hh => ?_))
              replace hh : f_HS Γ B0 (wj F X (mw Γ ad (lyY (lyX M many folds many) (k + 1)))) X9 H locs := hh
              refine r_iincN C dX5_lays_140 rfl rfl ?_
              refine r_goto (tgt := 120) C dX5_lays_143 (by decide) ?_
              refine f_W.le ?_ (ih120 (k + 1) _ _ (by omega) (by omega) hh)
              exact (And.intro rfl (And.intro rfl (And.intro rfl (And.intro rfl trivial))))
        refine f_W.le ?_ (lp120 (2 ^ many + 1) 0 _ _ (by omega) (by omega) hh)
        exact (And.intro rfl (And.intro rfl (And.intro rfl (And.intro rfl trivial))))
      · refine r_aload_n C dX5_lays_26 rfl ?_
        refine g_X5_31 C hh dX5_lays_27 ?_
        refine r_iload C dX5_lays_30 rfl ?_
        refine r_iload_n C dX5_lays_32 rfl ?_
        refine r_iconst C (nI 4) dX5_lays_33 rfl ?_
        refine r_iremN C dX5_lays_34 (by omega) (by omega) (by omega) ?_
        rw [show folds / 2 ^ (2 * x) % 4 = kq folds x from rfl]
        refine as_m_kind C hh (by omega) dX5_lays_35 (fun H locs hh => ?_)
        refine r_iload_n C dX5_lays_36 rfl ?_
        refine r_iconst C (nI 4) dX5_lays_37 rfl ?_
        refine r_idivN C dX5_lays_38 (by omega) (by omega) (by omega) ?_
        rw [kq_div]
        refine r_istore_n C dX5_lays_39 rfl rfl ?_
        refine r_aload_n C dX5_lays_40 rfl ?_
        refine r_dup C dX5_lays_41 rfl ?_
        refine g_X5_83 C hh dX5_lays_42 ?_
        rw [show (rs (lyX M many folds x) 16 (u1 ((lyX M many folds x) 16) x (kq folds x))) 5 0 0 = (lyX M many folds x) 5 0 0 from rfl]
        refine r_aload_n C dX5_lays_45 rfl ?_
        refine g_X5_31 C hh dX5_lays_46 ?_
        refine r_iload C dX5_lays_49 rfl ?_
        refine al_m_kind C hh (by omega) dX5_lays_51 ?_
        rw [show (rs (lyX M many folds x) 16 (u1 ((lyX M many folds x) 16) x (kq folds x))) 16 x 0 = kq folds x from u1_s _ _ _ _]
        have jn71 : ∀ (v9 : Nat), v9 = (if kq folds x < 2 then 2 else 1) → f_W X9 H locs 0 0 71 [some (.ref (ad 30 0)), some (.int (nI many)), some (.int (nI folds)), some (.int (nI (folds / 2 ^ (2 * (x + 1))))), some (.int (nI x))] [.int (nI v9), .int (nI ((lyX M many folds x) 5 0 0)), .ref (ad 30 0)] := by
          intro v9 hv9
          subst hv9
          refine r_imulN C dX5_lays_71 ?_
          refine p_X5_83 C hh dX5_lays_72 (fun H locs hh => ?_)
          refine r_aload_n C dX5_lays_75 rfl ?_
          refine r_dup C dX5_lays_76 rfl ?_
          refine g_X5_80 C hh dX5_lays_77 ?_
          rw [show (rs (rs (lyX M many folds x) 16 (u1 ((lyX M many folds x) 16) x (kq folds x))) 5 (k0 ((lyX M many folds x) 5 0 0 * (if kq folds x < 2 then 2 else 1)))) 4 0 0 = (lyX M many folds x) 4 0 0 from rfl]
          refine r_aload_n C dX5_lays_80 rfl ?_
          refine g_X5_31 C hh dX5_lays_81 ?_
          refine r_iload C dX5_lays_84 rfl ?_
          refine al_m_kind C hh (by omega) dX5_lays_86 ?_
          rw [show (rs (rs (lyX M many folds x) 16 (u1 ((lyX M many folds x) 16) x (kq folds x))) 5 (k0 ((lyX M many folds x) 5 0 0 * (if kq folds x < 2 then 2 else 1)))) 16 x 0 = kq folds x from u1_s _ _ _ _]
          refine r_iconst C (nI 2) dX5_lays_87 rfl ?_
          have jn107 : ∀ (v9 : Nat), v9 = (if kq folds x < 2 then 1 else 2) → f_W X9 H locs 0 0 107 [some (.ref (ad 30 0)), some (.int (nI many)), some (.int (nI folds)), some (.int (nI (folds / 2 ^ (2 * (x + 1))))), some (.int (nI x))] [.int (nI v9), .int (nI ((lyX M many folds x) 4 0 0)), .ref (ad 30 0)] := by
            intro v9 hv9
            subst hv9
            refine r_imulN C dX5_lays_107 ?_
            refine p_X5_80 C hh dX5_lays_108 (fun H locs hh => ?_)
            refine r_iincN C dX5_lays_111 rfl rfl ?_
            refine r_goto (tgt := 20) C dX5_lays_114 (by decide) ?_
            exact ih20 (x + 1) _ _ (by omega) (by omega) hh
          refine r_icmp_eqN (tgt := 102) C dX5_lays_88 (by decide) (by omega) (by omega) (fun h88 => ?_) (fun h88 => ?_)
          · have hv9 : 2 = (if kq folds x < 2 then 1 else 2) := (if_neg (by omega)).symm
            refine r_iconst C (nI 2) dX5_lays_102 rfl ?_
            refine r_goto (tgt := 107) C dX5_lays_103 (by decide) ?_
            exact jn107 _ hv9
          · refine r_aload_n C dX5_lays_91 rfl ?_
            refine g_X5_31 C hh dX5_lays_92 ?_
            refine r_iload C dX5_lays_95 rfl ?_
            refine al_m_kind C hh (by omega) dX5_lays_97 ?_
            rw [show (rs (rs (lyX M many folds x) 16 (u1 ((lyX M many folds x) 16) x (kq folds x))) 5 (k0 ((lyX M many folds x) 5 0 0 * (if kq folds x < 2 then 2 else 1)))) 16 x 0 = kq folds x from u1_s _ _ _ _]
            refine r_iconst C (nI 3) dX5_lays_98 rfl ?_
            refine r_icmp_neN (tgt := 106) C dX5_lays_99 (by decide) (by omega) (by omega) (fun h99 => ?_) (fun h99 => ?_)
            · have hv9 : 1 = (if kq folds x < 2 then 1 else 2) := (if_pos (by omega)).symm
              refine r_iconst C (nI 1) dX5_lays_106 rfl ?_
              exact jn107 _ hv9
            · have hv9 : 2 = (if kq folds x < 2 then 1 else 2) := (if_neg (by omega)).symm
              refine r_iconst C (nI 2) dX5_lays_102 rfl ?_
              refine r_goto (tgt := 107) C dX5_lays_103 (by decide) ?_
              exact jn107 _ hv9
        refine r_if_eqN (tgt := 66) C dX5_lays_52 (by decide) (by omega) (fun h52 => ?_) (fun h52 => ?_)
        · have hv9 : 2 = (if kq folds x < 2 then 2 else 1) := (if_pos (by omega)).symm
          refine r_iconst C (nI 2) dX5_lays_66 rfl ?_
          refine r_goto (tgt := 71) C dX5_lays_67 (by decide) ?_
          exact jn71 _ hv9
        · refine r_aload_n C dX5_lays_55 rfl ?_
          refine g_X5_31 C hh dX5_lays_56 ?_
          refine r_iload C dX5_lays_59 rfl ?_
          refine al_m_kind C hh (by omega) dX5_lays_61 ?_
          rw [show (rs (lyX M many folds x) 16 (u1 ((lyX M many folds x) 16) x (kq folds x))) 16 x 0 = kq folds x from u1_s _ _ _ _]
          refine r_iconst C (nI 1) dX5_lays_62 rfl ?_
          refine r_icmp_neN (tgt := 70) C dX5_lays_63 (by decide) (by omega) (by omega) (fun h63 => ?_) (fun h63 => ?_)
          · have hv9 : 1 = (if kq folds x < 2 then 2 else 1) := (if_neg (by omega)).symm
            refine r_iconst C (nI 1) dX5_lays_70 rfl ?_
            exact jn71 _ hv9
          · have hv9 : 2 = (if kq folds x < 2 then 2 else 1) := (if_pos (by omega)).symm
            refine r_iconst C (nI 2) dX5_lays_66 rfl ?_
            refine r_goto (tgt := 71) C dX5_lays_67 (by decide) ?_
            exact jn71 _ hv9
  have w9 := lp20 (many + 1) 0 _ _ (by omega) (by omega) hh
  rw [show folds / 2 ^ (2 * 0) = folds by rw [Nat.mul_zero, Nat.pow_zero, Nat.div_one]] at w9
  exact w9

