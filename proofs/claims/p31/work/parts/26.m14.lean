/-! ===== folding: the flat sheet ===== -/
theorem rsg {P : fR} {c d : Nat} (h : c ≠ d) (a b a' b' : Nat → Nat → Nat) : rs (rs (rs (rs P c a) d b) c a') d b' = rs (rs P c a') d b' := by
  funext x
  by_cases h9 : x = d
  · subst h9; rw [rs_same, rs_same]
  · rw [rs_ne _ _ h9, rs_ne _ _ h9]
    by_cases h5 : x = c
    · subst h5; rw [rs_same, rs_same]
    · rw [rs_ne _ _ h5, rs_ne _ _ h9, rs_ne _ _ h5, rs_ne _ _ h5]
def rlF (kd : Nat → Nat) (r0 : Nat) : Nat → Nat
  | 0 => r0
  | x + 1 => if kd x < 2 then rlF kd r0 x else rlF kd r0 x / 2
def clF (kd : Nat → Nat) (c0 : Nat) : Nat → Nat
  | 0 => c0
  | x + 1 => if kd x < 2 then clF kd c0 x / 2 else clF kd c0 x
def cpyT (f g : Nat → Nat → Nat) (n : Nat) : Nat → Nat → Nat := fun i j => if i < n then f i j else g i j
theorem cy_world {Γ : fG} {ad : Nat → Nat → Nat} {P : fR} {X : Nat × Nat → fO} {M : Nat → fO} {n : Nat} : f_set (wj (fw Γ ad P) X M) (.inl 5) (.inl (Γ.2 0, 16, .inl (va_cpy (fun i => nI (P 9 i 0)) (fun i => nI (P 8 i 0)) 0 0 n))) = wj (fw Γ ad (rs P 8 (cpyT (P 9) (P 8) n))) X M := by
  have e : va_cpy (fun i => nI (P 9 i 0)) (fun i => nI (P 8 i 0)) 0 0 n = fun i => nI (rs P 8 (cpyT (P 9) (P 8) n) 8 i 0) := by
    funext i
    rw [rs_same]
    unfold va_cpy cpyT
    by_cases h : i < n
    · rw [if_pos ⟨Nat.zero_le _, by omega⟩, if_pos h, Nat.zero_add, Nat.sub_zero]
    · rw [if_neg (by omega), if_neg h]
  rw [e]
  exact wj_f rfl rfl (fun t9 h9 => by
      unfold fw
      split <;> first | rfl | exact absurd rfl h9)
def iniP (f : Nat → Nat → Nat) (x : Nat) : Nat → Nat → Nat := fun i j => if i < x then i * 2 + 0 else f i j
def iniT (f : Nat → Nat → Nat) (x : Nat) : Nat → Nat → Nat := fun i j => if i < x then 0 else f i j
def iniX (P : fR) (x : Nat) : fR := rs (rs P 8 (iniP (P 8) x)) 5 (iniT (P 5) x)
theorem iniX_0 (P : fR) : iniX P 0 = P := by
  unfold iniX
  rw [show iniP (P 8) 0 = P 8 by funext i j; exact if_neg (Nat.not_lt_zero i), show iniT (P 5) 0 = P 5 by funext i j; exact if_neg (Nat.not_lt_zero i), rs_id, rs_id]
theorem iniX_s (P : fR) (x : Nat) : rs (rs (iniX P x) 8 (u1 (iniX P x 8) x (x * 2 + 0))) 5 (u1 (iniX P x 5) x 0) = iniX P (x + 1) := by
  show rs (rs (rs (rs P 8 _) 5 _) 8 (u1 (iniP (P 8) x) x (x * 2 + 0))) 5 (u1 (iniT (P 5) x) x 0) = _
  rw [rsg (by decide)]
  unfold iniX
  congr 2
  · funext i j
    unfold u1 iniP
    by_cases h : i = x
    · subst h; rw [if_pos rfl, if_pos (Nat.lt_succ_self _)]
    · rw [if_neg h]
      by_cases h2 : i < x
      · rw [if_pos h2, if_pos (by omega)]
      · rw [if_neg h2, if_neg (by omega)]
  · funext i j
    unfold u1 iniT
    by_cases h : i = x
    · subst h; rw [if_pos rfl, if_pos (Nat.lt_succ_self _)]
    · rw [if_neg h]
      by_cases h2 : i < x
      · rw [if_pos h2, if_pos (by omega)]
      · rw [if_neg h2, if_neg (by omega)]
/-- one fold over Q, before the piles are copied -/
def fdT (Q : fR) (k rl cl h : Nat) : fR := if k < 2 then rs Q 9 (gS (Q 9) (Q 8) k cl h (rl * cl)) else rs (rs Q 5 (tU (Q 5) (Q 8) k rl cl h (rl * cl))) 9 (gU (Q 9) (Q 8) k rl cl h (rl * cl))
def fdC (Q : fR) (n : Nat) : fR := rs Q 8 (cpyT (Q 9) (Q 8) n)
def kdP (P : fR) : Nat → Nat := fun i => P 4 i 0
def fdF (P : fR) : Nat → fR
  | 0 => iniX P (P 1 0 0)
  | x + 1 => fdC (fdT (fdF P x) (P 4 x 0) (rlF (kdP P) (P 2 0 0) (x + 1)) (clF (kdP P) (P 3 0 0) (x + 1)) (2 ^ x)) (P 1 0 0)
theorem fdT_ne (Q : fR) (k rl cl h : Nat) {c : Nat} (h5 : c ≠ 5) (h9 : c ≠ 9) : fdT Q k rl cl h c = Q c := by
  unfold fdT
  split
  · rw [rs_ne _ _ h9]
  · rw [rs_ne _ _ h9, rs_ne _ _ h5]
theorem fdF_ne (P : fR) {c : Nat} (h5 : c ≠ 5) (h8 : c ≠ 8) (h9 : c ≠ 9) : ∀ x, fdF P x c = P c
  | 0 => by unfold fdF iniX; rw [rs_ne _ _ h5, rs_ne _ _ h8]
  | x + 1 => by unfold fdF fdC; rw [rs_ne _ _ h8, fdT_ne _ _ _ _ _ h5 h9, fdF_ne P h5 h8 h9 x]
theorem flp_lt' {x : Nat} (h : x < 32) : flp x < 32 := flp_lt h
theorem lyf_lt {fo pi : Nat → Nat → Nat} (ho : ∀ i, fo i 0 < 32) (hp : ∀ i, pi i 0 < 32) (lw sb ob h l : Nat) : ∀ i, lyf fo pi lw sb ob h l i 0 < 32 := by
  intro i
  unfold lyf
  split
  · exact hp _
  · split
    · exact flp_lt (hp _)
    · exact ho _
theorem gS_lt {fo pi : Nat → Nat → Nat} (ho : ∀ i, fo i 0 < 32) (hp : ∀ i, pi i 0 < 32) (k cl h : Nat) : ∀ x i, gS fo pi k cl h x i 0 < 32
  | 0 => ho
  | x + 1 => by unfold gS; exact lyf_lt (gS_lt ho hp k cl h x) hp _ _ _ _ _
theorem gU_lt {fo pi : Nat → Nat → Nat} (ho : ∀ i, fo i 0 < 32) (hp : ∀ i, pi i 0 < 32) (k rl cl h : Nat) : ∀ x i, gU fo pi k rl cl h x i 0 < 32
  | 0 => ho
  | x + 1 => by unfold gU; exact lyf_lt (gU_lt ho hp k rl cl h x) hp _ _ _ _ _
theorem fdT_lt {Q : fR} (h8 : ∀ i, Q 8 i 0 < 32) (h9 : ∀ i, Q 9 i 0 < 32) (k rl cl h : Nat) : (∀ i, fdT Q k rl cl h 8 i 0 < 32) ∧ (∀ i, fdT Q k rl cl h 9 i 0 < 32) := by
  unfold fdT
  split
  · exact ⟨h8, fun i => gS_lt h9 h8 _ _ _ _ i⟩
  · exact ⟨h8, fun i => gU_lt h9 h8 _ _ _ _ _ i⟩
theorem fdC_lt {Q : fR} (h8 : ∀ i, Q 8 i 0 < 32) (h9 : ∀ i, Q 9 i 0 < 32) (n : Nat) : (∀ i, fdC Q n 8 i 0 < 32) ∧ (∀ i, fdC Q n 9 i 0 < 32) := by
  refine ⟨fun i => ?_, h9⟩
  show cpyT (Q 9) (Q 8) n i 0 < 32
  unfold cpyT
  split
  · exact h9 _
  · exact h8 _
theorem fdF_lt {P : fR} (hn : P 1 0 0 ≤ 16) (h8 : ∀ i, P 8 i 0 < 32) (h9 : ∀ i, P 9 i 0 < 32) : ∀ x, (∀ i, fdF P x 8 i 0 < 32) ∧ (∀ i, fdF P x 9 i 0 < 32)
  | 0 => by
    refine ⟨fun i => ?_, h9⟩
    show iniP (P 8) (P 1 0 0) i 0 < 32
    unfold iniP
    have := h8 i
    split <;> omega
  | x + 1 => by
    have h := fdF_lt hn h8 h9 x
    have h2 := fdT_lt h.1 h.2 (P 4 x 0) (rlF (kdP P) (P 2 0 0) (x + 1)) (clF (kdP P) (P 3 0 0) (x + 1)) (2 ^ x)
    unfold fdF
    exact fdC_lt h2.1 h2.2 _
set_option maxHeartbeats 4000000 in
set_option maxRecDepth 100000 in
theorem c_X0_foldFlatSheet {l : Launch} (hl : l.stackTraces = false) (Γ : fG) (B0 : Nat) (ad : Nat → Nat → Nat) (P : fR) (X : Nat × Nat → fO) (M : Nat → fO) (hf : P 0 0 0 < 5) (hn : P 1 0 0 ≤ 16) (h4 : ∀ i, P 4 i 0 < 4) (h8 : ∀ i, P 8 i 0 < 32) (h9 : ∀ i, P 9 i 0 < 32) (r0 : P 2 0 0 ≤ 16 ∧ P 3 0 0 ≤ 16) (hg : ∀ x, x < P 0 0 0 → (rlF (kdP P) (P 2 0 0) x ≤ 16 ∧ clF (kdP P) (P 3 0 0) x ≤ 16) ∧ 1 ≤ clF (kdP P) (P 3 0 0) (x + 1) ∧ rlF (kdP P) (P 2 0 0) (x + 1) * clF (kdP P) (P 3 0 0) (x + 1) * 2 * 2 ^ x ≤ 16 ∧ (rlF (kdP P) (P 2 0 0) (x + 1) ≤ 16 ∧ clF (kdP P) (P 3 0 0) (x + 1) ≤ 16) ∧ 2 ^ x ≤ 16 ∧ 1 ≤ 2 ^ x) : f_Met l yX0_foldFlatSheet cX0_foldFlatSheet 5 none 3 0 0 100 Γ B0 [.ref (ad 0 0)] (wj (fw Γ ad P) X M) (f_to (wj (fw Γ ad (fdF P (P 0 0 0))) X M)) f_no := by
  refine f_of hl (by decide) rfl (Nat.le_of_ble_eq_true rfl) (fun X9 C E hh hnm => ?_)
  generalize (f_s X9).heap = H, ([] : List Loc) = locs at hh ⊢
  refine r_iconst C (nI 0) dX0_foldFlatSheet_0 rfl ?_
  refine r_istore_n C dX0_foldFlatSheet_1 rfl rfl ?_
  have lp2 : ∀ (d9 : Nat) (x : Nat) (H : Heap) (locs : List Loc), P 1 0 0 - x < d9 → x ≤ P 1 0 0 → f_HS Γ B0 (wj (fw Γ ad (iniX P x)) X M) X9 H locs → f_W X9 H locs 0 0 2 [some (.ref (ad 0 0)), some (.int (nI (x))), none, none, none] [] := by
    intro d9
    induction d9 with
    | zero => intro x H locs hd9 hl hh; exact absurd hd9 (Nat.not_lt_zero _)
    | succ d9 ih2 =>
      intro x H locs hd9 hl hh
      refine r_iload_n C dX0_foldFlatSheet_2 rfl ?_
      refine r_aload_n C dX0_foldFlatSheet_3 rfl ?_
      refine g_X0_35 C hh dX0_foldFlatSheet_4 ?_
      rw [show iniX P x 1 0 0 = P 1 0 0 from rfl]
      refine r_icmp_geN (tgt := 34) C dX0_foldFlatSheet_7 (by decide) (by omega) (by omega) (fun h7 => ?_) (fun h7 => ?_)
      · have e7 : x = P 1 0 0 := by omega
        replace hh : f_HS Γ B0 (wj (fw Γ ad (fdF P 0)) X M) X9 H locs := by
          rw [show fdF P 0 = iniX P (P 1 0 0) from rfl, ← e7]
          exact hh
        refine r_aload_n C dX0_foldFlatSheet_34 rfl ?_
        refine g_X0_38 C hh dX0_foldFlatSheet_35 ?_
        rw [show fdF P 0 2 0 0 = P 2 0 0 from rfl]
        refine r_istore_n C dX0_foldFlatSheet_38 rfl rfl ?_
        refine r_aload_n C dX0_foldFlatSheet_39 rfl ?_
        refine g_X0_41 C hh dX0_foldFlatSheet_40 ?_
        rw [show fdF P 0 3 0 0 = P 3 0 0 from rfl]
        refine r_istore_n C dX0_foldFlatSheet_43 rfl rfl ?_
        refine r_iconst C (nI 1) dX0_foldFlatSheet_44 rfl ?_
        refine r_istore_n C dX0_foldFlatSheet_45 rfl rfl ?_
        refine r_iconst C (nI 0) dX0_foldFlatSheet_46 rfl ?_
        refine r_istore C dX0_foldFlatSheet_47 rfl rfl ?_
        have lp49 : ∀ (d9 : Nat) (x : Nat) (H : Heap) (locs : List Loc), P 0 0 0 - x < d9 → x ≤ P 0 0 0 → f_HS Γ B0 (wj (fw Γ ad (fdF P x)) X M) X9 H locs → f_W X9 H locs 0 0 49 [some (.ref (ad 0 0)), some (.int (nI (rlF (kdP P) (P 2 0 0) x))), some (.int (nI (clF (kdP P) (P 3 0 0) x))), some (.int (nI (2 ^ x))), some (.int (nI (x)))] [] := by
          intro d9
          induction d9 with
          | zero => intro x H locs hd9 hl hh; exact absurd hd9 (Nat.not_lt_zero _)
          | succ d9 ih49 =>
            intro x H locs hd9 hl hh
            have hlt := fdF_lt hn h8 h9 x
            refine r_iload C dX0_foldFlatSheet_49 rfl ?_
            refine r_aload_n C dX0_foldFlatSheet_51 rfl ?_
            refine g_X0_31 C hh dX0_foldFlatSheet_52 ?_
            rw [show fdF P x 0 0 0 = P 0 0 0 from congrFun (congrFun (fdF_ne P (by decide) (by decide) (by decide) x) 0) 0]
            refine r_icmp_geN (tgt := 137) C dX0_foldFlatSheet_55 (by decide) (by omega) (by omega) (fun h55 => ?_) (fun h55 => ?_)
            · have e55 : x = P 0 0 0 := by omega
              rw [e55] at hh
              exact r_vret C E hh dX0_foldFlatSheet_137 (by omega) (by omega) ⟨rfl, rfl⟩
            · have hgx := hg x h55
              refine r_aload_n C dX0_foldFlatSheet_58 rfl ?_
              refine g_X0_9 C hh dX0_foldFlatSheet_59 ?_
              refine r_iload C dX0_foldFlatSheet_62 rfl ?_
              refine al_kinds C hh (by omega) dX0_foldFlatSheet_64 ?_
              rw [show fdF P x 4 x 0 = P 4 x 0 from congrFun (congrFun (fdF_ne P (by decide) (by decide) (by decide) x) x) 0]
              refine r_callS C E hh (c_X0_isSideways E.2.1 Γ B0 _ _ (h4 x)) lk_X0_44 rfl rfl (Nat.le_of_ble_eq_true rfl) dX0_foldFlatSheet_65 ⟨by decide, by decide⟩ ⟨by omega, by omega⟩ (fun _ _ z9 => False.elim z9) (kk_is (fun H locs hs9 hh => ?_))
              refine r_if_eqB (tgt := 92) C dX0_foldFlatSheet_68 (by decide) (fun h68 => ?_) (fun h68 => ?_)
              · have hk : ¬ P 4 x 0 < 2 := of_decide_eq_false h68
                rw [show clF (kdP P) (P 3 0 0) x = clF (kdP P) (P 3 0 0) (x + 1) from (if_neg hk).symm]
                refine r_iload_n C dX0_foldFlatSheet_92 rfl ?_
                refine r_iconst C (nI 2) dX0_foldFlatSheet_93 rfl ?_
                refine r_idivN C dX0_foldFlatSheet_94 (by omega) (by omega) (by omega) ?_
                rw [show rlF (kdP P) (P 2 0 0) x / 2 = rlF (kdP P) (P 2 0 0) (x + 1) from (if_neg hk).symm]
                refine r_istore_n C dX0_foldFlatSheet_95 rfl rfl ?_
                refine r_aload_n C dX0_foldFlatSheet_96 rfl ?_
                refine r_aload_n C dX0_foldFlatSheet_97 rfl ?_
                refine g_X0_9 C hh dX0_foldFlatSheet_98 ?_
                refine r_iload C dX0_foldFlatSheet_101 rfl ?_
                refine al_kinds C hh (by omega) dX0_foldFlatSheet_103 ?_
                rw [show fdF P x 4 x 0 = P 4 x 0 from congrFun (congrFun (fdF_ne P (by decide) (by decide) (by decide) x) x) 0]
                refine r_iload_n C dX0_foldFlatSheet_104 rfl ?_
                refine r_iload_n C dX0_foldFlatSheet_105 rfl ?_
                refine r_iload_n C dX0_foldFlatSheet_106 rfl ?_
                refine r_callV C E hh (c_X0_foldUpOrDown E.2.1 Γ B0 ad _ _ _ (P 4 x 0) (rlF (kdP P) (P 2 0 0) (x + 1)) (clF (kdP P) (P 3 0 0) (x + 1)) (2 ^ x) (h4 x) hgx.2.2.2.2.2 hgx.2.1 hgx.2.2.1 ⟨hgx.2.2.2.1.1, hgx.2.2.2.1.2, hgx.2.2.2.2.1⟩ hlt.1) lk_X0_62 (tr := .inl 0) rfl rfl rfl rfl (Nat.le_of_ble_eq_true rfl) dX0_foldFlatSheet_107 ⟨by decide, by decide⟩ ⟨by omega, by omega⟩ (fun _ _ z9 => False.elim z9) (kk_to (fun H locs hs9 hh => ?_))
                replace hh : f_HS Γ B0 (wj (fw Γ ad (fdT (fdF P x) (P 4 x 0) (rlF (kdP P) (P 2 0 0) (x + 1)) (clF (kdP P) (P 3 0 0) (x + 1)) (2 ^ x))) X M) X9 H locs := by
                  rw [show fdT (fdF P x) (P 4 x 0) (rlF (kdP P) (P 2 0 0) (x + 1)) (clF (kdP P) (P 3 0 0) (x + 1)) (2 ^ x) = _ from if_neg hk]
                  exact hh
                refine r_iload_n C dX0_foldFlatSheet_110 rfl ?_
                refine r_iconst C (nI 2) dX0_foldFlatSheet_111 rfl ?_
                refine r_imulN C dX0_foldFlatSheet_112 ?_
                rw [show 2 ^ x * 2 = 2 ^ (x + 1) from rfl]
                refine r_istore_n C dX0_foldFlatSheet_113 rfl rfl ?_
                refine r_aload_n C dX0_foldFlatSheet_114 rfl ?_
                refine g_X0_28 C hh dX0_foldFlatSheet_115 ?_
                refine r_iconst C (nI 0) dX0_foldFlatSheet_118 rfl ?_
                refine r_aload_n C dX0_foldFlatSheet_119 rfl ?_
                refine g_X0_25 C hh dX0_foldFlatSheet_120 ?_
                refine r_iconst C (nI 0) dX0_foldFlatSheet_123 rfl ?_
                refine r_aload_n C dX0_foldFlatSheet_124 rfl ?_
                refine g_X0_35 C hh dX0_foldFlatSheet_125 ?_
                rw [show (fdT (fdF P x) (P 4 x 0) (rlF (kdP P) (P 2 0 0) (x + 1)) (clF (kdP P) (P 3 0 0) (x + 1)) (2 ^ x)) 1 0 0 = P 1 0 0 from by rw [fdT_ne _ _ _ _ _ (by decide) (by decide), fdF_ne P (by decide) (by decide) (by decide) x]]
                refine r_copy C hh (t0 := .inl 6) (t1 := .inl 5) rfl rfl hn hn (by omega) (by decide) (by decide) (Nat.le_of_ble_eq_true rfl) dX0_foldFlatSheet_128 (fun H locs hh => ?_)
                rw [cy_world] at hh
                replace hh : f_HS Γ B0 (wj (fw Γ ad (fdF P (x + 1))) X M) X9 H locs := hh
                refine r_iincN C dX0_foldFlatSheet_131 rfl rfl ?_
                refine r_goto (tgt := 49) C dX0_foldFlatSheet_134 (by decide) ?_
                exact ih49 (x + 1) _ _ (by omega) (by omega) hh
              · have hk : P 4 x 0 < 2 := of_decide_eq_true h68
                rw [show rlF (kdP P) (P 2 0 0) x = rlF (kdP P) (P 2 0 0) (x + 1) from (if_pos hk).symm]
                refine r_iload_n C dX0_foldFlatSheet_71 rfl ?_
                refine r_iconst C (nI 2) dX0_foldFlatSheet_72 rfl ?_
                refine r_idivN C dX0_foldFlatSheet_73 (by omega) (by omega) (by omega) ?_
                rw [show clF (kdP P) (P 3 0 0) x / 2 = clF (kdP P) (P 3 0 0) (x + 1) from (if_pos hk).symm]
                refine r_istore_n C dX0_foldFlatSheet_74 rfl rfl ?_
                refine r_aload_n C dX0_foldFlatSheet_75 rfl ?_
                refine r_aload_n C dX0_foldFlatSheet_76 rfl ?_
                refine g_X0_9 C hh dX0_foldFlatSheet_77 ?_
                refine r_iload C dX0_foldFlatSheet_80 rfl ?_
                refine al_kinds C hh (by omega) dX0_foldFlatSheet_82 ?_
                rw [show fdF P x 4 x 0 = P 4 x 0 from congrFun (congrFun (fdF_ne P (by decide) (by decide) (by decide) x) x) 0]
                refine r_iload_n C dX0_foldFlatSheet_83 rfl ?_
                refine r_iload_n C dX0_foldFlatSheet_84 rfl ?_
                refine r_iload_n C dX0_foldFlatSheet_85 rfl ?_
                refine r_callV C E hh (c_X0_foldSideways E.2.1 Γ B0 ad _ _ _ (P 4 x 0) (rlF (kdP P) (P 2 0 0) (x + 1)) (clF (kdP P) (P 3 0 0) (x + 1)) (2 ^ x) (h4 x) hgx.2.2.2.2.2 hgx.2.1 hgx.2.2.1 ⟨hgx.2.2.2.1.1, hgx.2.2.2.1.2, hgx.2.2.2.2.1⟩ hlt.1) lk_X0_58 (tr := .inl 0) rfl rfl rfl rfl (Nat.le_of_ble_eq_true rfl) dX0_foldFlatSheet_86 ⟨by decide, by decide⟩ ⟨by omega, by omega⟩ (fun _ _ z9 => False.elim z9) (kk_to (fun H locs hs9 hh => ?_))
                replace hh : f_HS Γ B0 (wj (fw Γ ad (fdT (fdF P x) (P 4 x 0) (rlF (kdP P) (P 2 0 0) (x + 1)) (clF (kdP P) (P 3 0 0) (x + 1)) (2 ^ x))) X M) X9 H locs := by
                  rw [show fdT (fdF P x) (P 4 x 0) (rlF (kdP P) (P 2 0 0) (x + 1)) (clF (kdP P) (P 3 0 0) (x + 1)) (2 ^ x) = _ from if_pos hk]
                  exact hh
                refine r_goto (tgt := 110) C dX0_foldFlatSheet_89 (by decide) ?_
                refine r_iload_n C dX0_foldFlatSheet_110 rfl ?_
                refine r_iconst C (nI 2) dX0_foldFlatSheet_111 rfl ?_
                refine r_imulN C dX0_foldFlatSheet_112 ?_
                rw [show 2 ^ x * 2 = 2 ^ (x + 1) from rfl]
                refine r_istore_n C dX0_foldFlatSheet_113 rfl rfl ?_
                refine r_aload_n C dX0_foldFlatSheet_114 rfl ?_
                refine g_X0_28 C hh dX0_foldFlatSheet_115 ?_
                refine r_iconst C (nI 0) dX0_foldFlatSheet_118 rfl ?_
                refine r_aload_n C dX0_foldFlatSheet_119 rfl ?_
                refine g_X0_25 C hh dX0_foldFlatSheet_120 ?_
                refine r_iconst C (nI 0) dX0_foldFlatSheet_123 rfl ?_
                refine r_aload_n C dX0_foldFlatSheet_124 rfl ?_
                refine g_X0_35 C hh dX0_foldFlatSheet_125 ?_
                rw [show (fdT (fdF P x) (P 4 x 0) (rlF (kdP P) (P 2 0 0) (x + 1)) (clF (kdP P) (P 3 0 0) (x + 1)) (2 ^ x)) 1 0 0 = P 1 0 0 from by rw [fdT_ne _ _ _ _ _ (by decide) (by decide), fdF_ne P (by decide) (by decide) (by decide) x]]
                refine r_copy C hh (t0 := .inl 6) (t1 := .inl 5) rfl rfl hn hn (by omega) (by decide) (by decide) (Nat.le_of_ble_eq_true rfl) dX0_foldFlatSheet_128 (fun H locs hh => ?_)
                rw [cy_world] at hh
                replace hh : f_HS Γ B0 (wj (fw Γ ad (fdF P (x + 1))) X M) X9 H locs := hh
                refine r_iincN C dX0_foldFlatSheet_131 rfl rfl ?_
                refine r_goto (tgt := 49) C dX0_foldFlatSheet_134 (by decide) ?_
                exact ih49 (x + 1) _ _ (by omega) (by omega) hh
        exact lp49 (P 0 0 0 + 1) 0 _ _ (by omega) (by omega) hh
      · refine r_aload_n C dX0_foldFlatSheet_10 rfl ?_
        refine g_X0_25 C hh dX0_foldFlatSheet_11 ?_
        refine r_iload_n C dX0_foldFlatSheet_14 rfl ?_
        refine r_iload_n C dX0_foldFlatSheet_15 rfl ?_
        refine r_iconst C (nI 0) dX0_foldFlatSheet_16 rfl ?_
        refine r_callSN C E hh (c_X4_faceOf E.2.1 Γ B0 _ _ _) lk_X0_54 rfl rfl (Nat.le_of_ble_eq_true rfl) dX0_foldFlatSheet_17 ⟨by decide, by decide⟩ ⟨by omega, by omega⟩ (kk_is (fun H locs hs9 hh => ?_))
        refine as_piled C hh (by omega) dX0_foldFlatSheet_20 (fun H locs hh => ?_)
        refine r_aload_n C dX0_foldFlatSheet_21 rfl ?_
        refine g_X0_15 C hh dX0_foldFlatSheet_22 ?_
        refine r_iload_n C dX0_foldFlatSheet_25 rfl ?_
        refine r_iconst C (bI false) dX0_foldFlatSheet_26 rfl ?_
        refine as_turned C hh (by omega) dX0_foldFlatSheet_27 (fun H locs hh => ?_)
        replace hh : f_HS Γ B0 (wj (fw Γ ad (iniX P (x + 1))) X M) X9 H locs := by
          rw [← iniX_s]
          exact hh
        refine r_iincN C dX0_foldFlatSheet_28 rfl rfl ?_
        refine r_goto (tgt := 2) C dX0_foldFlatSheet_31 (by decide) ?_
        exact ih2 (x + 1) _ _ (by omega) (by omega) hh
  rw [← iniX_0 P] at hh
  exact lp2 (P 1 0 0 + 1) 0 _ _ (by omega) (by omega) hh

