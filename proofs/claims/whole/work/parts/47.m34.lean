/-! ===== the model: laysNow, isGood ===== -/
def lnP (M : fR) (t l : Nat) : Nat := plM M (t / 8) (t / 4 % 2) l
def lnC (M : fR) (t l : Nat) : Bool := decide (lnP M t l < M 2 0 0) && tb (M 11 (M 9 (lnP M t l) 0) 0) (t % 4)
def lnW (M : fR) (l : Nat) : Nat := 32 * (l / M 5 0 0) + 2 * (l % M 5 0 0) + M 19 l 0
def lnv (M : fR) (t l : Nat) : Nat := 512 * (128 * M 12 (M 9 (lnP M t l) 0) 0 + M 9 (lnP M t l) 0) + lnW M l
def lnN (M : fR) (t : Nat) : Nat → Nat
  | 0 => 0
  | l + 1 => lnN M t l + (if lnC M t l = true then 1 else 0)
def lnT (M : fR) (t : Nat) : Nat → (Nat → Nat → Nat)
  | 0 => M 23
  | l + 1 => if lnC M t l = true then u1 (lnT M t l) (lnN M t l) (lnv M t l) else lnT M t l
def lnn (M : fR) (t : Nat) : Nat := lnN M t (M 4 0 0 * M 5 0 0)
def lnt (M : fR) (t : Nat) : Nat → Nat → Nat := lnT M t (M 4 0 0 * M 5 0 0)
theorem lnN_le (M : fR) (t : Nat) : ∀ l, lnN M t l ≤ l
  | 0 => Nat.le_refl 0
  | l + 1 => by have := lnN_le M t l; unfold lnN; split <;> omega
theorem lnv_lt {M : fR} {t l : Nat} (h9 : ∀ i, M 9 i 0 < 100) (h12 : ∀ p, M 12 p 0 ≤ 1000) (h19 : M 19 l 0 < 2) (hl : l < 16) (h5 : 1 ≤ M 5 0 0 ∧ M 5 0 0 ≤ 16) : lnW M l < 512 ∧ lnv M t l < 134217728 := by
  have a := h9 (lnP M t l)
  have b := h12 (M 9 (lnP M t l) 0)
  have c : l / M 5 0 0 ≤ 15 := Nat.le_trans (Nat.div_le_self _ _) (by omega)
  have d := Nat.mod_lt l (show 0 < M 5 0 0 by omega)
  have e : lnW M l < 512 := by unfold lnW; omega
  exact ⟨e, by unfold lnv; omega⟩
theorem lnT_lt {M : fR} (hv : ∀ t l, l < 16 → lnv M t l < 134217728) (h23 : ∀ k, M 23 k 0 < 134217728) (t : Nat) : ∀ l, l ≤ 16 → ∀ k, lnT M t l k 0 < 134217728
  | 0, _, k => h23 k
  | l + 1, hl, k => by
    unfold lnT; split
    · unfold u1; split
      · exact hv t l (by omega)
      · exact lnT_lt hv h23 t l (by omega) k
    · exact lnT_lt hv h23 t l (by omega) k
theorem MI_v {M : fR} (hI : MI M) : (1 ≤ M 5 0 0 ∧ M 5 0 0 ≤ 16) ∧ ∀ t l, l < 16 → lnW M l < 512 ∧ lnv M t l < 134217728 := by
  have hr := MI_rc hI
  obtain ⟨i2, i45, i9, i10, i13, i14, i17, -⟩ := hI
  have h5 := (mul_pos_of rfl (show 0 < M 4 0 0 * M 5 0 0 by omega)).2
  exact ⟨⟨h5, hr.2⟩, fun t l hl => lnv_lt i9 (fun p => (i10 p).2.2) (i17 l).2.2 hl ⟨h5, hr.2⟩⟩
theorem MI_23 {M : fR} (hI : MI M) : ∀ k, M 23 k 0 < 134217728 := hI.2.2.2.2.2.2.2.2.2.2.2.2.1
theorem MI_lnt {M : fR} (hI : MI M) (t : Nat) : ∀ k, lnt M t k 0 < 134217728 := lnT_lt (fun t l hl => ((MI_v hI).2 t l hl).2) (MI_23 hI) t _ hI.2.1.2
theorem MI_rs23 {M : fR} (hI : MI M) {T : Nat → Nat → Nat} (hT : ∀ k, T k 0 < 134217728) : MI (rs M 23 T) := by
  obtain ⟨a1, a2, a3, a4, a5, a6, a7, a8, a9, a10, a11, a12, -, a14⟩ := hI
  exact ⟨a1, a2, a3, a4, a5, a6, a7, a8, a9, a10, a11, a12, hT, a14⟩
theorem lnN_23 (M : fR) (T : Nat → Nat → Nat) (t : Nat) : ∀ l, lnN (rs M 23 T) t l = lnN M t l
  | 0 => rfl
  | l + 1 => by
    show lnN (rs M 23 T) t l + (if lnC M t l = true then 1 else 0) = _
    rw [lnN_23 M T t l]; rfl
theorem lnn_23 (M : fR) (T : Nat → Nat → Nat) (t : Nat) : lnn (rs M 23 T) t = lnn M t := lnN_23 M T t _
theorem lnT_23 (M : fR) (T : Nat → Nat → Nat) (t : Nat) : ∀ l k, k < lnN M t l → lnT (rs M 23 T) t l k 0 = lnT M t l k 0
  | 0, k, h => absurd h (Nat.not_lt_zero k)
  | l + 1, k, h => by
    show (if lnC M t l = true then u1 (lnT (rs M 23 T) t l) (lnN (rs M 23 T) t l) (lnv M t l) else lnT (rs M 23 T) t l) k 0 = _
    rw [lnN_23]
    show _ = (if lnC M t l = true then u1 (lnT M t l) (lnN M t l) (lnv M t l) else lnT M t l) k 0
    have h2 : k < lnN M t l + (if lnC M t l = true then 1 else 0) := h
    by_cases hc : lnC M t l = true
    · rw [if_pos hc, if_pos hc]
      rw [if_pos hc] at h2
      unfold u1
      by_cases hk : k = lnN M t l
      · rw [if_pos hk, if_pos hk]
      · rw [if_neg hk, if_neg hk]
        exact lnT_23 M T t l k (by omega)
    · rw [if_neg hc, if_neg hc]
      rw [if_neg hc] at h2
      exact lnT_23 M T t l k h2
def gd0M (M : fR) (t : Nat) : Bool := decide (0 < lnn M t) && (decide (M 20 t 0 = lnn M t) && decide (M 21 t 0 < 1000))
def gdk (M : fR) (t : Nat) : Nat → Bool
  | 0 => gd0M M t
  | k + 1 => gdk M t k && decide (M 22 (16 * t + k) 0 = lnt M t k 0)
def gdM (M : fR) (t : Nat) : Bool := gdk M t (lnn M t)
theorem gdk_f (M : fR) (t : Nat) {k n : Nat} (h : gdk M t k = false) (hn : k ≤ n) : gdk M t n = false := by
  induction n with
  | zero => rw [show k = 0 by omega] at h; exact h
  | succ n ih =>
    by_cases z : k = n + 1
    · rw [← z]; exact h
    · show (gdk M t n && _) = false
      rw [ih (by omega)]; rfl
theorem gdk_23 (M : fR) (T : Nat → Nat → Nat) (t : Nat) : ∀ k, k ≤ lnn M t → gdk (rs M 23 T) t k = gdk M t k
  | 0, _ => by
    show (decide (0 < lnn (rs M 23 T) t) && (decide (M 20 t 0 = lnn (rs M 23 T) t) && decide (M 21 t 0 < 1000))) = _
    rw [lnn_23]; rfl
  | k + 1, hk => by
    show (gdk (rs M 23 T) t k && decide (M 22 (16 * t + k) 0 = lnt (rs M 23 T) t k 0)) = (gdk M t k && decide (M 22 (16 * t + k) 0 = lnt M t k 0))
    rw [gdk_23 M T t k (by omega), show lnt (rs M 23 T) t k 0 = lnt M t k 0 from lnT_23 M T t _ k hk]
theorem gdM_23 (M : fR) (T : Nat → Nat → Nat) (t : Nat) : gdM (rs M 23 T) t = gdM M t := by
  unfold gdM
  rw [lnn_23]
  exact gdk_23 M T t _ (Nat.le_refl _)
set_option maxHeartbeats 4000000 in
set_option maxRecDepth 100000 in
theorem c_X5_laysNow {l : Launch} (hl : l.stackTraces = false) (Γ : fG) (B0 : Nat) (ad : Nat → Nat → Nat) (M : fR) (F : Nat → fO) (X : Nat × Nat → fO) (t : Nat) (ht : t < 128) (hI : MI M) : f_Met l yX5_laysNow cX5_laysNow 8 (some .int) 2 0 0 44 Γ B0 [.ref (ad 30 0), .int (nI (t))] (wj F X (mw Γ ad M)) (f_is (nI (lnn M t)) (wj F X (mw Γ ad (rs M 23 (lnt M t))))) f_no := by
  refine f_of hl (by decide) rfl (Nat.le_of_ble_eq_true rfl) (fun X9 C E hh hnm => ?_)
  generalize (f_s X9).heap = H, ([] : List Loc) = locs at hh ⊢
  obtain ⟨i2, i45, i9, i10, i13, i14, i17, i0, i1, -⟩ := id hI
  have hV := MI_v hI
  have h5 := hV.1
  refine r_iload_n C dX5_laysNow_0 rfl ?_
  refine r_bipush C (nI 8) dX5_laysNow_1 rfl ?_
  refine r_idivN C dX5_laysNow_3 (by omega) (by omega) (by omega) ?_
  refine r_istore_n C dX5_laysNow_4 rfl rfl ?_
  refine r_iload_n C dX5_laysNow_5 rfl ?_
  refine r_iconst C (nI 4) dX5_laysNow_6 rfl ?_
  refine r_idivN C dX5_laysNow_7 (by omega) (by omega) (by omega) ?_
  refine r_iconst C (nI 2) dX5_laysNow_8 rfl ?_
  refine r_iremN C dX5_laysNow_9 (by omega) (by omega) (by omega) ?_
  refine r_istore_n C dX5_laysNow_10 rfl rfl ?_
  refine r_iconst C (nI 0) dX5_laysNow_11 rfl ?_
  refine r_istore C dX5_laysNow_12 rfl rfl ?_
  refine r_iconst C (nI 0) dX5_laysNow_14 rfl ?_
  refine r_istore C dX5_laysNow_15 rfl rfl ?_
  have lp17 : ∀ (d9 : Nat) (l : Nat) (H : Heap) (locs : List Loc), (M 4 0 0 * M 5 0 0) - l < d9 → l ≤ (M 4 0 0 * M 5 0 0) → f_HS Γ B0 (wj F X (mw Γ ad (rs M 23 (lnT M t l)))) X9 H locs → f_W X9 H locs 0 0 17 [some (.ref (ad 30 0)), some (.int (nI (t))), some (.int (nI (t / 8))), some (.int (nI (t / 4 % 2))), some (.int (nI (lnN M t l))), some (.int (nI (l))), none, none] [] := by
    intro d9
    induction d9 with
    | zero => intro l H locs hd9 hl hh; exact absurd hd9 (Nat.not_lt_zero _)
    | succ d9 ih17 =>
      intro l H locs hd9 hl hh
      have j17 := i17 l
      have hn9 := lnN_le M t l
      refine r_iload C dX5_laysNow_17 rfl ?_
      refine r_aload_n C dX5_laysNow_19 rfl ?_
      refine r_callV C E hh (c_X5_leaves E.2.1 Γ B0 ad (rs M 23 (lnT M t l)) F X) lk_X5_90 (tr := .inr (.inr 0)) rfl rfl rfl rfl (Nat.le_of_ble_eq_true rfl) dX5_laysNow_20 ⟨by decide, by decide⟩ ⟨by omega, by omega⟩ (fun _ _ z9 => False.elim z9) (kk_is (fun H locs hs9 hh => ?_))
      rw [show (rs M 23 (lnT M t l)) 4 0 0 * (rs M 23 (lnT M t l)) 5 0 0 = (M 4 0 0 * M 5 0 0) from rfl]
      refine r_icmp_geN (tgt := 140) C dX5_laysNow_23 (by decide) (by omega) (by omega) (fun h23 => ?_) (fun h23 => ?_)
      · obtain rfl : l = (M 4 0 0 * M 5 0 0) := by omega
        refine r_iload C dX5_laysNow_140 rfl ?_
        exact r_iret C E hh dX5_laysNow_142 (by omega) (by omega) ⟨rfl, rfl⟩
      · refine r_aload_n C dX5_laysNow_26 rfl ?_
        refine r_iload_n C dX5_laysNow_27 rfl ?_
        refine r_iload_n C dX5_laysNow_28 rfl ?_
        refine r_iload C dX5_laysNow_29 rfl ?_
        refine r_callV C E hh (c_X5_pageOn E.2.1 Γ B0 ad (rs M 23 (lnT M t l)) F X (t / 8) (t / 4 % 2) l i2 i45 (by omega) (by omega) (by omega) j17.1 j17.2.1) lk_X5_138 (tr := .inr (.inr 0)) rfl rfl rfl rfl (Nat.le_of_ble_eq_true rfl) dX5_laysNow_31 ⟨by decide, by decide⟩ ⟨by omega, by omega⟩ (fun _ _ z9 => False.elim z9) (kk_is (fun H locs hs9 hh => ?_))
        rw [show plJ (rs M 23 (lnT M t l)) (t / 8) (t / 4 % 2) l = plJ M (t / 8) (t / 4 % 2) l from rfl]
        refine r_istore C dX5_laysNow_34 rfl rfl ?_
        refine r_iload C dX5_laysNow_36 rfl ?_
        refine r_iconst C (-1) dX5_laysNow_38 rfl ?_
        refine r_icmp_eq (tgt := 134) C dX5_laysNow_39 (by decide) (fun h39 => ?_) (fun h39 => ?_)
        · have hlt : ¬ lnP M t l < M 2 0 0 := fun z => by
            rw [show plJ M (t / 8) (t / 4 % 2) l = nI (lnP M t l) from if_pos z] at h39
            have hp9 := nI_pos (n := lnP M t l) (by omega)
            rw [h39] at hp9
            exact hp9 (by decide)
          have hq : ¬ lnC M t l = true := by unfold lnC; rw [decide_eq_false hlt, Bool.false_and]; decide
          have e9 : lnT M t (l + 1) = lnT M t l := if_neg hq
          have e8 : lnN M t (l + 1) = lnN M t l := by
            show lnN M t l + (if lnC M t l = true then 1 else 0) = _
            rw [if_neg hq]; rfl
          refine r_iincN C dX5_laysNow_134 rfl rfl ?_
          refine r_goto (tgt := 17) C dX5_laysNow_137 (by decide) ?_
          have w9 := ih17 (l + 1) H locs (by omega) (by omega) (by rw [e9]; exact hh)
          rw [e8] at w9
          refine f_W.le ?_ w9
          exact (And.intro rfl (And.intro rfl (And.intro rfl (And.intro rfl (And.intro rfl (And.intro rfl trivial))))))
        · have hlt : lnP M t l < M 2 0 0 := Classical.byContradiction fun z => h39 (if_neg z)
          rw [show plJ M (t / 8) (t / 4 % 2) l = nI (lnP M t l) from if_pos hlt]
          have j9 := i9 (lnP M t l)
          have j10 := i10 (M 9 (lnP M t l) 0)
          refine r_aload_n C dX5_laysNow_42 rfl ?_
          refine g_X5_16 C hh dX5_laysNow_43 ?_
          refine r_aload_n C dX5_laysNow_46 rfl ?_
          refine g_X5_7 C hh dX5_laysNow_47 ?_
          refine r_iload C dX5_laysNow_50 rfl ?_
          refine al_m_order C hh (by omega) dX5_laysNow_52 ?_
          rw [show (rs M 23 (lnT M t l)) 9 (lnP M t l) 0 = M 9 (lnP M t l) 0 from rfl]
          refine al_m_colors C hh (by omega) dX5_laysNow_53 ?_
          rw [show (rs M 23 (lnT M t l)) 11 (M 9 (lnP M t l) 0) 0 = M 11 (M 9 (lnP M t l) 0) 0 from rfl]
          refine r_iload_n C dX5_laysNow_54 rfl ?_
          refine r_iconst C (nI 4) dX5_laysNow_55 rfl ?_
          refine r_iremN C dX5_laysNow_56 (by omega) (by omega) (by omega) ?_
          refine r_callS C E hh (c_X5_has E.2.1 Γ B0 _ _ _ (by omega) (by omega)) lk_X5_122 rfl rfl (Nat.le_of_ble_eq_true rfl) dX5_laysNow_57 ⟨by decide, by decide⟩ ⟨by omega, by omega⟩ (fun _ _ z9 => False.elim z9) (kk_is (fun H locs hs9 hh => ?_))
          refine r_if_eqB (tgt := 134) C dX5_laysNow_60 (by decide) (fun h60 => ?_) (fun h60 => ?_)
          · have hq : ¬ lnC M t l = true := by unfold lnC; rw [h60, Bool.and_false]; decide
            have e9 : lnT M t (l + 1) = lnT M t l := if_neg hq
            have e8 : lnN M t (l + 1) = lnN M t l := by
              show lnN M t l + (if lnC M t l = true then 1 else 0) = _
              rw [if_neg hq]; rfl
            refine r_iincN C dX5_laysNow_134 rfl rfl ?_
            refine r_goto (tgt := 17) C dX5_laysNow_137 (by decide) ?_
            have w9 := ih17 (l + 1) H locs (by omega) (by omega) (by rw [e9]; exact hh)
            rw [e8] at w9
            refine f_W.le ?_ w9
            exact (And.intro rfl (And.intro rfl (And.intro rfl (And.intro rfl (And.intro rfl (And.intro rfl trivial))))))
          · have hq : lnC M t l = true := by unfold lnC; rw [h60, decide_eq_true hlt]; rfl
            have e9 : lnT M t (l + 1) = u1 (lnT M t l) (lnN M t l) (lnv M t l) := if_pos hq
            have e8 : lnN M t (l + 1) = lnN M t l + 1 := by
              show lnN M t l + (if lnC M t l = true then 1 else 0) = _
              rw [if_pos hq]
            refine r_bipush C (nI 32) dX5_laysNow_63 rfl ?_
            refine r_iload C dX5_laysNow_65 rfl ?_
            refine r_aload_n C dX5_laysNow_67 rfl ?_
            refine g_X5_83 C hh dX5_laysNow_68 ?_
            rw [show (rs M 23 (lnT M t l)) 5 0 0 = M 5 0 0 from rfl]
            refine r_idivN C dX5_laysNow_71 (by omega) (by omega) (by omega) ?_
            refine r_imulN C dX5_laysNow_72 ?_
            refine r_iconst C (nI 2) dX5_laysNow_73 rfl ?_
            refine r_iload C dX5_laysNow_74 rfl ?_
            refine r_aload_n C dX5_laysNow_76 rfl ?_
            refine g_X5_83 C hh dX5_laysNow_77 ?_
            rw [show (rs M 23 (lnT M t l)) 5 0 0 = M 5 0 0 from rfl]
            refine r_iremN C dX5_laysNow_80 (by omega) (by omega) (by omega) ?_
            refine r_imulN C dX5_laysNow_81 ?_
            refine r_iaddN C dX5_laysNow_82 ?_
            refine r_aload_n C dX5_laysNow_83 rfl ?_
            refine g_X5_40 C hh dX5_laysNow_84 ?_
            refine r_iload C dX5_laysNow_87 rfl ?_
            refine al_m_turned C hh (by omega) dX5_laysNow_89 ?_
            rw [show (rs M 23 (lnT M t l)) 19 l 0 = M 19 l 0 from rfl]
            refine r_iaddN C dX5_laysNow_90 ?_
            rw [show 32 * (l / M 5 0 0) + 2 * (l % M 5 0 0) + M 19 l 0 = lnW M l from rfl]
            refine r_istore C dX5_laysNow_91 rfl rfl ?_
            refine r_aload_n C dX5_laysNow_93 rfl ?_
            refine g_X5_52 C hh dX5_laysNow_94 ?_
            refine r_iload C dX5_laysNow_97 rfl ?_
            refine r_sipush C (nI 512) dX5_laysNow_99 rfl ?_
            refine r_sipush C (nI 128) dX5_laysNow_102 rfl ?_
            refine r_aload_n C dX5_laysNow_105 rfl ?_
            refine g_X5_19 C hh dX5_laysNow_106 ?_
            refine r_aload_n C dX5_laysNow_109 rfl ?_
            refine g_X5_7 C hh dX5_laysNow_110 ?_
            refine r_iload C dX5_laysNow_113 rfl ?_
            refine al_m_order C hh (by omega) dX5_laysNow_115 ?_
            rw [show (rs M 23 (lnT M t l)) 9 (lnP M t l) 0 = M 9 (lnP M t l) 0 from rfl]
            refine al_m_edition C hh (by omega) dX5_laysNow_116 ?_
            rw [show (rs M 23 (lnT M t l)) 12 (M 9 (lnP M t l) 0) 0 = M 12 (M 9 (lnP M t l) 0) 0 from rfl]
            refine r_imulN C dX5_laysNow_117 ?_
            refine r_aload_n C dX5_laysNow_118 rfl ?_
            refine g_X5_7 C hh dX5_laysNow_119 ?_
            refine r_iload C dX5_laysNow_122 rfl ?_
            refine al_m_order C hh (by omega) dX5_laysNow_124 ?_
            rw [show (rs M 23 (lnT M t l)) 9 (lnP M t l) 0 = M 9 (lnP M t l) 0 from rfl]
            refine r_iaddN C dX5_laysNow_125 ?_
            refine r_imulN C dX5_laysNow_126 ?_
            refine r_iload C dX5_laysNow_127 rfl ?_
            refine r_iaddN C dX5_laysNow_129 ?_
            rw [show 512 * (128 * M 12 (M 9 (lnP M t l) 0) 0 + M 9 (lnP M t l) 0) + lnW M l = lnv M t l from rfl]
            refine as_m_now C hh (by omega) dX5_laysNow_130 (fun H locs hh => ?_)
            rw [rs_same, rs_rs] at hh
            refine r_iincN C dX5_laysNow_131 rfl rfl ?_
            refine r_iincN C dX5_laysNow_134 rfl rfl ?_
            refine r_goto (tgt := 17) C dX5_laysNow_137 (by decide) ?_
            have w9 := ih17 (l + 1) H locs (by omega) (by omega) (by rw [e9]; exact hh)
            rw [e8] at w9
            refine f_W.le ?_ w9
            exact (And.intro rfl (And.intro rfl (And.intro rfl (And.intro rfl (And.intro rfl (And.intro rfl trivial))))))
  refine f_W.le ?_ (lp17 ((M 4 0 0 * M 5 0 0) + 1) 0 _ _ (by omega) (by omega) (by rw [show rs M 23 (lnT M t 0) = M from rs_id M 23]; exact hh))
  exact (And.intro rfl (And.intro rfl (And.intro rfl (And.intro rfl (And.intro rfl (And.intro rfl trivial))))))

set_option maxHeartbeats 4000000 in
set_option maxRecDepth 100000 in
theorem c_X5_isGood {l : Launch} (hl : l.stackTraces = false) (Γ : fG) (B0 : Nat) (ad : Nat → Nat → Nat) (M : fR) (F : Nat → fO) (X : Nat × Nat → fO) (t : Nat) (ht : t < 128) (hI : MI M) : f_Met l yX5_isGood cX5_isGood 5 (some .boolean) 3 0 0 71 Γ B0 [.ref (ad 30 0), .int (nI (t))] (wj F X (mw Γ ad M)) (f_is (bI (gdM M t)) (wj F X (mw Γ ad (rs M 23 (lnt M t))))) f_no := by
  refine f_of hl (by decide) rfl (Nat.le_of_ble_eq_true rfl) (fun X9 C E hh hnm => ?_)
  generalize (f_s X9).heap = H, ([] : List Loc) = locs at hh ⊢
  obtain ⟨i2, i45, i9, i10, i13, i14, i17, i0, i1, -⟩ := id hI
  obtain ⟨-, -, -, -, -, -, -, -, -, -, i20, i22, -⟩ := id hI
  have j20 := i20 t
  have hn9 : lnn M t ≤ (M 4 0 0 * M 5 0 0) := lnN_le M t _
  have hL := MI_lnt hI t
  refine r_aload_n C dX5_isGood_0 rfl ?_
  refine r_iload_n C dX5_isGood_1 rfl ?_
  refine r_callV C E hh (c_X5_laysNow E.2.1 Γ B0 ad M F X t ht hI) lk_X5_182 (tr := .inr (.inr 0)) rfl rfl rfl rfl (Nat.le_of_ble_eq_true rfl) dX5_isGood_2 ⟨by decide, by decide⟩ ⟨by omega, by omega⟩ (fun _ _ z9 => False.elim z9) (kk_is (fun H locs hs9 hh => ?_))
  refine r_istore_n C dX5_isGood_5 rfl rfl ?_
  refine r_iload_n C dX5_isGood_6 rfl ?_
  refine r_if_leN (tgt := 36) C dX5_isGood_7 (by decide) (by omega) (fun h7 => ?_) (fun h7 => ?_)
  · have hv : gdk M t 0 = false := by
      show gd0M M t = _
      unfold gd0M; simp [h7]
    refine r_iconst C (bI (gdk M t 0)) dX5_isGood_36 (by rw [hv]; rfl) ?_
    refine r_istore_n C dX5_isGood_37 rfl rfl ?_
    refine r_iconst C (nI 0) dX5_isGood_38 rfl ?_
    refine r_istore C dX5_isGood_39 rfl rfl ?_
    have lp41 : ∀ (d9 : Nat) (k : Nat) (H : Heap) (locs : List Loc), lnn M t - k < d9 → k ≤ lnn M t → f_HS Γ B0 (wj F X (mw Γ ad (rs M 23 (lnt M t)))) X9 H locs → f_W X9 H locs 0 0 41 [some (.ref (ad 30 0)), some (.int (nI (t))), some (.int (nI (lnn M t))), some (.int (bI (gdk M t k))), some (.int (nI (k)))] [] := by
      intro d9
      induction d9 with
      | zero => intro k H locs hd9 hl hh; exact absurd hd9 (Nat.not_lt_zero _)
      | succ d9 ih41 =>
        intro k H locs hd9 hl hh
        have j22 := i22 (16 * t + k)
        have jL := hL k
        refine r_iload C dX5_isGood_41 rfl ?_
        refine r_iload_n C dX5_isGood_43 rfl ?_
        refine r_icmp_geN (tgt := 85) C dX5_isGood_44 (by decide) (by omega) (by omega) (fun h44 => ?_) (fun h44 => ?_)
        · obtain rfl : k = lnn M t := by omega
          refine r_iload_n C dX5_isGood_85 rfl ?_
          exact r_zret C E hh dX5_isGood_86 (by omega) (by omega) (rb (by first | rfl | exact hvv.symm))
        · refine r_iload_n C dX5_isGood_47 rfl ?_
          refine r_if_eqB (tgt := 85) C dX5_isGood_48 (by decide) (fun h48 => ?_) (fun h48 => ?_)
          · have hvv : gdk M t k = gdM M t := by rw [h48]; exact (gdk_f M t h48 hl).symm
            refine r_iload_n C dX5_isGood_85 rfl ?_
            exact r_zret C E hh dX5_isGood_86 (by omega) (by omega) (rb (by first | rfl | exact hvv.symm))
          · refine r_aload_n C dX5_isGood_51 rfl ?_
            refine g_X5_49 C hh dX5_isGood_52 ?_
            refine r_bipush C (nI 16) dX5_isGood_55 rfl ?_
            refine r_iload_n C dX5_isGood_57 rfl ?_
            refine r_imulN C dX5_isGood_58 ?_
            refine r_iload C dX5_isGood_59 rfl ?_
            refine r_iaddN C dX5_isGood_61 ?_
            refine al_m_shows C hh (by omega) dX5_isGood_62 ?_
            rw [show (rs M 23 (lnt M t)) 22 (16 * t + k) 0 = M 22 (16 * t + k) 0 from rfl]
            refine r_aload_n C dX5_isGood_63 rfl ?_
            refine g_X5_52 C hh dX5_isGood_64 ?_
            refine r_iload C dX5_isGood_67 rfl ?_
            refine al_m_now C hh (by omega) dX5_isGood_69 ?_
            rw [show (rs M 23 (lnt M t)) 23 k 0 = lnt M t k 0 by rw [rs_same]]
            refine r_icmp_neN (tgt := 77) C dX5_isGood_70 (by decide) (by omega) (by omega) (fun h70 => ?_) (fun h70 => ?_)
            · have hv : gdk M t (k + 1) = false := by
                show (gdk M t k && decide (M 22 (16 * t + k) 0 = lnt M t k 0)) = false
                rw [decide_eq_false h70, Bool.and_false]
              refine r_iconst C (bI (gdk M t (k + 1))) dX5_isGood_77 (by rw [hv]; rfl) ?_
              refine r_istore_n C dX5_isGood_78 rfl rfl ?_
              refine r_iincN C dX5_isGood_79 rfl rfl ?_
              refine r_goto (tgt := 41) C dX5_isGood_82 (by decide) ?_
              exact ih41 (k + 1) _ _ (by omega) (by omega) hh
            · have hv : gdk M t (k + 1) = true := by
                show (gdk M t k && decide (M 22 (16 * t + k) 0 = lnt M t k 0)) = true
                rw [decide_eq_true h70, h48]; rfl
              refine r_iconst C (bI (gdk M t (k + 1))) dX5_isGood_73 (by rw [hv]; rfl) ?_
              refine r_goto (tgt := 78) C dX5_isGood_74 (by decide) ?_
              refine r_istore_n C dX5_isGood_78 rfl rfl ?_
              refine r_iincN C dX5_isGood_79 rfl rfl ?_
              refine r_goto (tgt := 41) C dX5_isGood_82 (by decide) ?_
              exact ih41 (k + 1) _ _ (by omega) (by omega) hh
    exact lp41 (lnn M t + 1) 0 _ _ (by omega) (by omega) hh
  · refine r_aload_n C dX5_isGood_10 rfl ?_
    refine g_X5_43 C hh dX5_isGood_11 ?_
    refine r_iload_n C dX5_isGood_14 rfl ?_
    refine al_m_shown C hh (by omega) dX5_isGood_15 ?_
    rw [show (rs M 23 (lnt M t)) 20 t 0 = M 20 t 0 from rfl]
    refine r_iload_n C dX5_isGood_16 rfl ?_
    refine r_icmp_neN (tgt := 36) C dX5_isGood_17 (by decide) (by omega) (by omega) (fun h17 => ?_) (fun h17 => ?_)
    · have hv : gdk M t 0 = false := by
        show gd0M M t = _
        unfold gd0M; simp [h17]
      refine r_iconst C (bI (gdk M t 0)) dX5_isGood_36 (by rw [hv]; rfl) ?_
      refine r_istore_n C dX5_isGood_37 rfl rfl ?_
      refine r_iconst C (nI 0) dX5_isGood_38 rfl ?_
      refine r_istore C dX5_isGood_39 rfl rfl ?_
      have lp41 : ∀ (d9 : Nat) (k : Nat) (H : Heap) (locs : List Loc), lnn M t - k < d9 → k ≤ lnn M t → f_HS Γ B0 (wj F X (mw Γ ad (rs M 23 (lnt M t)))) X9 H locs → f_W X9 H locs 0 0 41 [some (.ref (ad 30 0)), some (.int (nI (t))), some (.int (nI (lnn M t))), some (.int (bI (gdk M t k))), some (.int (nI (k)))] [] := by
        intro d9
        induction d9 with
        | zero => intro k H locs hd9 hl hh; exact absurd hd9 (Nat.not_lt_zero _)
        | succ d9 ih41 =>
          intro k H locs hd9 hl hh
          have j22 := i22 (16 * t + k)
          have jL := hL k
          refine r_iload C dX5_isGood_41 rfl ?_
          refine r_iload_n C dX5_isGood_43 rfl ?_
          refine r_icmp_geN (tgt := 85) C dX5_isGood_44 (by decide) (by omega) (by omega) (fun h44 => ?_) (fun h44 => ?_)
          · obtain rfl : k = lnn M t := by omega
            refine r_iload_n C dX5_isGood_85 rfl ?_
            exact r_zret C E hh dX5_isGood_86 (by omega) (by omega) (rb (by first | rfl | exact hvv.symm))
          · refine r_iload_n C dX5_isGood_47 rfl ?_
            refine r_if_eqB (tgt := 85) C dX5_isGood_48 (by decide) (fun h48 => ?_) (fun h48 => ?_)
            · have hvv : gdk M t k = gdM M t := by rw [h48]; exact (gdk_f M t h48 hl).symm
              refine r_iload_n C dX5_isGood_85 rfl ?_
              exact r_zret C E hh dX5_isGood_86 (by omega) (by omega) (rb (by first | rfl | exact hvv.symm))
            · refine r_aload_n C dX5_isGood_51 rfl ?_
              refine g_X5_49 C hh dX5_isGood_52 ?_
              refine r_bipush C (nI 16) dX5_isGood_55 rfl ?_
              refine r_iload_n C dX5_isGood_57 rfl ?_
              refine r_imulN C dX5_isGood_58 ?_
              refine r_iload C dX5_isGood_59 rfl ?_
              refine r_iaddN C dX5_isGood_61 ?_
              refine al_m_shows C hh (by omega) dX5_isGood_62 ?_
              rw [show (rs M 23 (lnt M t)) 22 (16 * t + k) 0 = M 22 (16 * t + k) 0 from rfl]
              refine r_aload_n C dX5_isGood_63 rfl ?_
              refine g_X5_52 C hh dX5_isGood_64 ?_
              refine r_iload C dX5_isGood_67 rfl ?_
              refine al_m_now C hh (by omega) dX5_isGood_69 ?_
              rw [show (rs M 23 (lnt M t)) 23 k 0 = lnt M t k 0 by rw [rs_same]]
              refine r_icmp_neN (tgt := 77) C dX5_isGood_70 (by decide) (by omega) (by omega) (fun h70 => ?_) (fun h70 => ?_)
              · have hv : gdk M t (k + 1) = false := by
                  show (gdk M t k && decide (M 22 (16 * t + k) 0 = lnt M t k 0)) = false
                  rw [decide_eq_false h70, Bool.and_false]
                refine r_iconst C (bI (gdk M t (k + 1))) dX5_isGood_77 (by rw [hv]; rfl) ?_
                refine r_istore_n C dX5_isGood_78 rfl rfl ?_
                refine r_iincN C dX5_isGood_79 rfl rfl ?_
                refine r_goto (tgt := 41) C dX5_isGood_82 (by decide) ?_
                exact ih41 (k + 1) _ _ (by omega) (by omega) hh
              · have hv : gdk M t (k + 1) = true := by
                  show (gdk M t k && decide (M 22 (16 * t + k) 0 = lnt M t k 0)) = true
                  rw [decide_eq_true h70, h48]; rfl
                refine r_iconst C (bI (gdk M t (k + 1))) dX5_isGood_73 (by rw [hv]; rfl) ?_
                refine r_goto (tgt := 78) C dX5_isGood_74 (by decide) ?_
                refine r_istore_n C dX5_isGood_78 rfl rfl ?_
                refine r_iincN C dX5_isGood_79 rfl rfl ?_
                refine r_goto (tgt := 41) C dX5_isGood_82 (by decide) ?_
                exact ih41 (k + 1) _ _ (by omega) (by omega) hh
      exact lp41 (lnn M t + 1) 0 _ _ (by omega) (by omega) hh
    · refine r_aload_n C dX5_isGood_20 rfl ?_
      refine g_X5_46 C hh dX5_isGood_21 ?_
      refine r_iload_n C dX5_isGood_24 rfl ?_
      refine al_m_used C hh (by omega) dX5_isGood_25 ?_
      rw [show (rs M 23 (lnt M t)) 21 t 0 = M 21 t 0 from rfl]
      refine r_sipush C (nI 1000) dX5_isGood_26 rfl ?_
      refine r_icmp_geN (tgt := 36) C dX5_isGood_29 (by decide) (by omega) (by omega) (fun h29 => ?_) (fun h29 => ?_)
      · have hv : gdk M t 0 = false := by
          show gd0M M t = _
          unfold gd0M; rw [decide_eq_false (p := M 21 t 0 < 1000) (by omega), Bool.and_false, Bool.and_false]
        refine r_iconst C (bI (gdk M t 0)) dX5_isGood_36 (by rw [hv]; rfl) ?_
        refine r_istore_n C dX5_isGood_37 rfl rfl ?_
        refine r_iconst C (nI 0) dX5_isGood_38 rfl ?_
        refine r_istore C dX5_isGood_39 rfl rfl ?_
        have lp41 : ∀ (d9 : Nat) (k : Nat) (H : Heap) (locs : List Loc), lnn M t - k < d9 → k ≤ lnn M t → f_HS Γ B0 (wj F X (mw Γ ad (rs M 23 (lnt M t)))) X9 H locs → f_W X9 H locs 0 0 41 [some (.ref (ad 30 0)), some (.int (nI (t))), some (.int (nI (lnn M t))), some (.int (bI (gdk M t k))), some (.int (nI (k)))] [] := by
          intro d9
          induction d9 with
          | zero => intro k H locs hd9 hl hh; exact absurd hd9 (Nat.not_lt_zero _)
          | succ d9 ih41 =>
            intro k H locs hd9 hl hh
            have j22 := i22 (16 * t + k)
            have jL := hL k
            refine r_iload C dX5_isGood_41 rfl ?_
            refine r_iload_n C dX5_isGood_43 rfl ?_
            refine r_icmp_geN (tgt := 85) C dX5_isGood_44 (by decide) (by omega) (by omega) (fun h44 => ?_) (fun h44 => ?_)
            · obtain rfl : k = lnn M t := by omega
              refine r_iload_n C dX5_isGood_85 rfl ?_
              exact r_zret C E hh dX5_isGood_86 (by omega) (by omega) (rb (by first | rfl | exact hvv.symm))
            · refine r_iload_n C dX5_isGood_47 rfl ?_
              refine r_if_eqB (tgt := 85) C dX5_isGood_48 (by decide) (fun h48 => ?_) (fun h48 => ?_)
              · have hvv : gdk M t k = gdM M t := by rw [h48]; exact (gdk_f M t h48 hl).symm
                refine r_iload_n C dX5_isGood_85 rfl ?_
                exact r_zret C E hh dX5_isGood_86 (by omega) (by omega) (rb (by first | rfl | exact hvv.symm))
              · refine r_aload_n C dX5_isGood_51 rfl ?_
                refine g_X5_49 C hh dX5_isGood_52 ?_
                refine r_bipush C (nI 16) dX5_isGood_55 rfl ?_
                refine r_iload_n C dX5_isGood_57 rfl ?_
                refine r_imulN C dX5_isGood_58 ?_
                refine r_iload C dX5_isGood_59 rfl ?_
                refine r_iaddN C dX5_isGood_61 ?_
                refine al_m_shows C hh (by omega) dX5_isGood_62 ?_
                rw [show (rs M 23 (lnt M t)) 22 (16 * t + k) 0 = M 22 (16 * t + k) 0 from rfl]
                refine r_aload_n C dX5_isGood_63 rfl ?_
                refine g_X5_52 C hh dX5_isGood_64 ?_
                refine r_iload C dX5_isGood_67 rfl ?_
                refine al_m_now C hh (by omega) dX5_isGood_69 ?_
                rw [show (rs M 23 (lnt M t)) 23 k 0 = lnt M t k 0 by rw [rs_same]]
                refine r_icmp_neN (tgt := 77) C dX5_isGood_70 (by decide) (by omega) (by omega) (fun h70 => ?_) (fun h70 => ?_)
                · have hv : gdk M t (k + 1) = false := by
                    show (gdk M t k && decide (M 22 (16 * t + k) 0 = lnt M t k 0)) = false
                    rw [decide_eq_false h70, Bool.and_false]
                  refine r_iconst C (bI (gdk M t (k + 1))) dX5_isGood_77 (by rw [hv]; rfl) ?_
                  refine r_istore_n C dX5_isGood_78 rfl rfl ?_
                  refine r_iincN C dX5_isGood_79 rfl rfl ?_
                  refine r_goto (tgt := 41) C dX5_isGood_82 (by decide) ?_
                  exact ih41 (k + 1) _ _ (by omega) (by omega) hh
                · have hv : gdk M t (k + 1) = true := by
                    show (gdk M t k && decide (M 22 (16 * t + k) 0 = lnt M t k 0)) = true
                    rw [decide_eq_true h70, h48]; rfl
                  refine r_iconst C (bI (gdk M t (k + 1))) dX5_isGood_73 (by rw [hv]; rfl) ?_
                  refine r_goto (tgt := 78) C dX5_isGood_74 (by decide) ?_
                  refine r_istore_n C dX5_isGood_78 rfl rfl ?_
                  refine r_iincN C dX5_isGood_79 rfl rfl ?_
                  refine r_goto (tgt := 41) C dX5_isGood_82 (by decide) ?_
                  exact ih41 (k + 1) _ _ (by omega) (by omega) hh
        exact lp41 (lnn M t + 1) 0 _ _ (by omega) (by omega) hh
      · have hv : gdk M t 0 = true := by
          show gd0M M t = _
          unfold gd0M; rw [decide_eq_true h7, decide_eq_true h17, decide_eq_true h29]; rfl
        refine r_iconst C (bI (gdk M t 0)) dX5_isGood_32 (by rw [hv]; rfl) ?_
        refine r_goto (tgt := 37) C dX5_isGood_33 (by decide) ?_
        refine r_istore_n C dX5_isGood_37 rfl rfl ?_
        refine r_iconst C (nI 0) dX5_isGood_38 rfl ?_
        refine r_istore C dX5_isGood_39 rfl rfl ?_
        have lp41 : ∀ (d9 : Nat) (k : Nat) (H : Heap) (locs : List Loc), lnn M t - k < d9 → k ≤ lnn M t → f_HS Γ B0 (wj F X (mw Γ ad (rs M 23 (lnt M t)))) X9 H locs → f_W X9 H locs 0 0 41 [some (.ref (ad 30 0)), some (.int (nI (t))), some (.int (nI (lnn M t))), some (.int (bI (gdk M t k))), some (.int (nI (k)))] [] := by
          intro d9
          induction d9 with
          | zero => intro k H locs hd9 hl hh; exact absurd hd9 (Nat.not_lt_zero _)
          | succ d9 ih41 =>
            intro k H locs hd9 hl hh
            have j22 := i22 (16 * t + k)
            have jL := hL k
            refine r_iload C dX5_isGood_41 rfl ?_
            refine r_iload_n C dX5_isGood_43 rfl ?_
            refine r_icmp_geN (tgt := 85) C dX5_isGood_44 (by decide) (by omega) (by omega) (fun h44 => ?_) (fun h44 => ?_)
            · obtain rfl : k = lnn M t := by omega
              refine r_iload_n C dX5_isGood_85 rfl ?_
              exact r_zret C E hh dX5_isGood_86 (by omega) (by omega) (rb (by first | rfl | exact hvv.symm))
            · refine r_iload_n C dX5_isGood_47 rfl ?_
              refine r_if_eqB (tgt := 85) C dX5_isGood_48 (by decide) (fun h48 => ?_) (fun h48 => ?_)
              · have hvv : gdk M t k = gdM M t := by rw [h48]; exact (gdk_f M t h48 hl).symm
                refine r_iload_n C dX5_isGood_85 rfl ?_
                exact r_zret C E hh dX5_isGood_86 (by omega) (by omega) (rb (by first | rfl | exact hvv.symm))
              · refine r_aload_n C dX5_isGood_51 rfl ?_
                refine g_X5_49 C hh dX5_isGood_52 ?_
                refine r_bipush C (nI 16) dX5_isGood_55 rfl ?_
                refine r_iload_n C dX5_isGood_57 rfl ?_
                refine r_imulN C dX5_isGood_58 ?_
                refine r_iload C dX5_isGood_59 rfl ?_
                refine r_iaddN C dX5_isGood_61 ?_
                refine al_m_shows C hh (by omega) dX5_isGood_62 ?_
                rw [show (rs M 23 (lnt M t)) 22 (16 * t + k) 0 = M 22 (16 * t + k) 0 from rfl]
                refine r_aload_n C dX5_isGood_63 rfl ?_
                refine g_X5_52 C hh dX5_isGood_64 ?_
                refine r_iload C dX5_isGood_67 rfl ?_
                refine al_m_now C hh (by omega) dX5_isGood_69 ?_
                rw [show (rs M 23 (lnt M t)) 23 k 0 = lnt M t k 0 by rw [rs_same]]
                refine r_icmp_neN (tgt := 77) C dX5_isGood_70 (by decide) (by omega) (by omega) (fun h70 => ?_) (fun h70 => ?_)
                · have hv : gdk M t (k + 1) = false := by
                    show (gdk M t k && decide (M 22 (16 * t + k) 0 = lnt M t k 0)) = false
                    rw [decide_eq_false h70, Bool.and_false]
                  refine r_iconst C (bI (gdk M t (k + 1))) dX5_isGood_77 (by rw [hv]; rfl) ?_
                  refine r_istore_n C dX5_isGood_78 rfl rfl ?_
                  refine r_iincN C dX5_isGood_79 rfl rfl ?_
                  refine r_goto (tgt := 41) C dX5_isGood_82 (by decide) ?_
                  exact ih41 (k + 1) _ _ (by omega) (by omega) hh
                · have hv : gdk M t (k + 1) = true := by
                    show (gdk M t k && decide (M 22 (16 * t + k) 0 = lnt M t k 0)) = true
                    rw [decide_eq_true h70, h48]; rfl
                  refine r_iconst C (bI (gdk M t (k + 1))) dX5_isGood_73 (by rw [hv]; rfl) ?_
                  refine r_goto (tgt := 78) C dX5_isGood_74 (by decide) ?_
                  refine r_istore_n C dX5_isGood_78 rfl rfl ?_
                  refine r_iincN C dX5_isGood_79 rfl rfl ?_
                  refine r_goto (tgt := 41) C dX5_isGood_82 (by decide) ?_
                  exact ih41 (k + 1) _ _ (by omega) (by omega) hh
        exact lp41 (lnn M t + 1) 0 _ _ (by omega) (by omega) hh

