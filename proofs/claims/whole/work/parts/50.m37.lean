/-! ===== the model: prove, judge ===== -/
def pvB (M : fR) (p c : Nat) : Bool := tb (M 11 p 0) c && (mya M p 8 && (decide (M 13 (4 * p + c) 0 = 0) || decide (M 13 (4 * p + c) 0 = 3)))
def okV2 (M : fR) (x y : Int32) : Bool := rgB x (M 2 0 0) && (rgB y 4 && pvB M (M 9 (xN x) 0) (xN y))
def pcF (D : Nat → Nat → Nat) (p : Nat) : Nat → Nat
  | 0 => 0
  | k + 1 => pcF D p k + (if (decide (D (4 * p + k) 0 = 1) || decide (D (4 * p + k) 0 = 2)) = true then 1 else 0)
def pv1 (M : fR) (p c v : Nat) : fR := rs M 13 (u1 (M 13) (4 * p + c) v)
def pwM (M : fR) (x y : Int32) : fR := if okV2 M x y = true then pv1 (rs M 8 (k0 0)) (M 9 (xN x) 0) (xN y) 1 else rs M 8 (k0 (thr (rgB x (M 2 0 0)) (rgB y 4) (okV2 M x y)))
def pwV (M : fR) (x y : Int32) : Int32 := if okV2 M x y = true then nI (pcF (pv1 (rs M 8 (k0 0)) (M 9 (xN x) 0) (xN y) 1 13) (M 9 (xN x) 0) 4) else 0
theorem pv1_lt {M : fR} (h : ∀ k, M 13 k 0 < 4) (p c : Nat) {v : Nat} (hv : v < 4) : ∀ k, pv1 M p c v 13 k 0 < 4 := by
  intro k
  show u1 (M 13) (4 * p + c) v k 0 < 4
  unfold u1; split
  · exact hv
  · exact h k
theorem MI_pv1 {M : fR} (hI : MI M) (p c : Nat) {v : Nat} (hv : v < 4) : MI (pv1 M p c v) := by
  obtain ⟨a1, a2, a3, a4, a5, rest⟩ := hI
  exact ⟨a1, a2, a3, a4, pv1_lt a5 p c hv, rest⟩
theorem pcF_le (D : Nat → Nat → Nat) (p : Nat) : ∀ k, pcF D p k ≤ k
  | 0 => Nat.le_refl 0
  | k + 1 => by have := pcF_le D p k; unfold pcF; split <;> omega
set_option maxHeartbeats 4000000 in
set_option maxRecDepth 100000 in
theorem c_X5_prove_i {l : Launch} (hl : l.stackTraces = false) (Γ : fG) (B0 : Nat) (ad : Nat → Nat → Nat) (M : fR) (F : Nat → fO) (X : Nat × Nat → fO) (jx jy : Nat) (hjx : jx < M 2 0 0) (hjy : jy < 4) (hI : MI M) : f_Met l yX5_prove cX5_prove 11 (some .int) 3 0 0 66 Γ B0 [.ref (ad 30 0), .int (nI (jx)), .int (nI (jy))] (wj F X (mw Γ ad M)) (f_is (pwV M (nI jx) (nI jy)) (wj F X (mw Γ ad (pwM M (nI jx) (nI jy))))) f_no := by
  refine f_of hl (by decide) rfl (Nat.le_of_ble_eq_true rfl) (fun X9 C E hh hnm => ?_)
  generalize (f_s X9).heap = H, ([] : List Loc) = locs at hh ⊢
  obtain ⟨i2, i45, i9, i10, i13, i14, i17, i0, i1, -⟩ := id hI
  have e1 : xN (nI jx) = jx := xN_nI (by omega)
  have e2 : xN (nI jy) = jy := xN_nI (by omega)
  have hr1 : rgB (nI jx) (M 2 0 0) = true := (rgB_rg (by omega)).mpr (rg_N hjx (by omega))
  have hr2 : rgB (nI jy) 4 = true := (rgB_rg (by decide)).mpr (rg_N hjy (by decide))
  have j9 := i9 jx
  have j10 := i10 (M 9 jx 0)
  have j13 := i13 (4 * M 9 jx 0 + jy)
  refine r_aload_n C dX5_prove_0 rfl ?_
  refine r_iload_n C dX5_prove_1 rfl ?_
  refine r_callV C E hh (c_X5_isPage E.2.1 Γ B0 ad M F X (nI jx)) lk_X5_105 (tr := .inr (.inr 0)) rfl rfl rfl rfl (Nat.le_of_ble_eq_true rfl) dX5_prove_2 ⟨by decide, by decide⟩ ⟨by omega, by omega⟩ (fun _ _ z9 => False.elim z9) (kk_is (fun H locs hs9 hh => ?_))
  rw [hr1]
  refine r_istore_n C dX5_prove_5 rfl rfl ?_
  refine r_iload_n C dX5_prove_6 rfl ?_
  refine r_callS C E hh (c_X5_isColor E.2.1 Γ B0 _ (nI jy)) lk_X5_179 rfl rfl (Nat.le_of_ble_eq_true rfl) dX5_prove_7 ⟨by decide, by decide⟩ ⟨by omega, by omega⟩ (fun _ _ z9 => False.elim z9) (kk_is (fun H locs hs9 hh => ?_))
  rw [hr2]
  refine r_istore C dX5_prove_10 rfl rfl ?_
  refine r_iload_n C dX5_prove_12 rfl ?_
  refine r_if_eqB (tgt := 25) C dX5_prove_13 (by decide) (fun h13 => ?_) (fun h13 => ?_)
  · cases h13
  · refine r_aload_n C dX5_prove_16 rfl ?_
    refine g_X5_7 C hh dX5_prove_17 ?_
    refine r_iload_n C dX5_prove_20 rfl ?_
    refine al_m_order C hh (by omega) dX5_prove_21 ?_
    refine r_goto (tgt := 26) C dX5_prove_22 (by decide) ?_
    refine r_istore C dX5_prove_26 rfl rfl ?_
    refine r_iconst C (nI 4) dX5_prove_28 rfl ?_
    refine r_iload C dX5_prove_29 rfl ?_
    refine r_imulN C dX5_prove_31 ?_
    refine r_iload C dX5_prove_32 rfl ?_
    refine r_if_eqB (tgt := 41) C dX5_prove_34 (by decide) (fun h34 => ?_) (fun h34 => ?_)
    · cases h34
    · refine r_iload_n C dX5_prove_37 rfl ?_
      refine r_goto (tgt := 42) C dX5_prove_38 (by decide) ?_
      refine r_iaddN C dX5_prove_42 ?_
      refine r_istore C dX5_prove_43 rfl rfl ?_
      refine r_iload_n C dX5_prove_45 rfl ?_
      refine r_if_eqB (tgt := 102) C dX5_prove_46 (by decide) (fun h46 => ?_) (fun h46 => ?_)
      · cases h46
      · refine r_iload C dX5_prove_49 rfl ?_
        refine r_if_eqB (tgt := 102) C dX5_prove_51 (by decide) (fun h51 => ?_) (fun h51 => ?_)
        · cases h51
        · refine r_aload_n C dX5_prove_54 rfl ?_
          refine g_X5_16 C hh dX5_prove_55 ?_
          refine r_iload C dX5_prove_58 rfl ?_
          refine al_m_colors C hh (by omega) dX5_prove_60 ?_
          refine r_iload_n C dX5_prove_61 rfl ?_
          refine r_callS C E hh (c_X5_has E.2.1 Γ B0 _ _ _ (by omega) (by omega)) lk_X5_122 rfl rfl (Nat.le_of_ble_eq_true rfl) dX5_prove_62 ⟨by decide, by decide⟩ ⟨by omega, by omega⟩ (fun _ _ z9 => False.elim z9) (kk_is (fun H locs hs9 hh => ?_))
          have jn103 : ∀ (H : Heap) (locs : List Loc), f_HS Γ B0 (wj F X (mw Γ ad M)) X9 H locs → f_W X9 H locs 0 0 103 [some (.ref (ad 30 0)), some (.int (nI jx)), some (.int (nI jy)), some (.int (bI true)), some (.int (bI true)), some (.int (nI (M 9 jx 0))), some (.int (nI (4 * M 9 jx 0 + jy))), none, none, none, none] [.int (bI (okV2 M (nI jx) (nI jy)))] := by
            intro H locs hh
            refine r_istore C dX5_prove_103 rfl rfl ?_
            refine r_aload_n C dX5_prove_105 rfl ?_
            refine r_iload_n C dX5_prove_106 rfl ?_
            refine r_iload C dX5_prove_107 rfl ?_
            refine r_iload C dX5_prove_109 rfl ?_
            refine r_callV C E hh (c_X5_goes E.2.1 Γ B0 ad M F X true true (okV2 M (nI jx) (nI jy))) lk_X5_101 (tr := .inr (.inr 0)) rfl rfl rfl rfl (Nat.le_of_ble_eq_true rfl) dX5_prove_111 ⟨by decide, by decide⟩ ⟨by omega, by omega⟩ (fun _ _ z9 => False.elim z9) (kk_is (fun H locs hs9 hh => ?_))
            rw [show (true && true && okV2 M (nI jx) (nI jy)) = okV2 M (nI jx) (nI jy) from rfl]
            refine r_if_neB (tgt := 119) C dX5_prove_114 (by decide) (fun h114 => ?_) (fun h114 => ?_)
            · rw [h114, show thr true true true = 0 from rfl] at hh
              have epm : pwM M (nI jx) (nI jy) = pv1 (rs M 8 (k0 0)) (M 9 jx 0) jy 1 := by unfold pwM; rw [if_pos h114, e1, e2]
              have epv : pwV M (nI jx) (nI jy) = nI (pcF (pv1 (rs M 8 (k0 0)) (M 9 jx 0) jy 1 13) (M 9 jx 0) 4) := by unfold pwV; rw [if_pos h114, e1, e2]
              refine r_aload_n C dX5_prove_119 rfl ?_
              refine g_X5_22 C hh dX5_prove_120 ?_
              refine r_iload C dX5_prove_123 rfl ?_
              refine r_iconst C (nI 1) dX5_prove_125 rfl ?_
              refine as_m_proof C hh (by omega) dX5_prove_126 (fun H locs hh => ?_)
              replace hh : f_HS Γ B0 (wj F X (mw Γ ad (pv1 (rs M 8 (k0 0)) (M 9 jx 0) jy 1))) X9 H locs := hh
              refine r_iconst C (nI 0) dX5_prove_127 rfl ?_
              refine r_istore C dX5_prove_128 rfl rfl ?_
              refine r_iconst C (nI 0) dX5_prove_130 rfl ?_
              refine r_istore C dX5_prove_131 rfl rfl ?_
              have lp133 : ∀ (d9 : Nat) (k : Nat) (H : Heap) (locs : List Loc), 4 - k < d9 → k ≤ 4 → f_HS Γ B0 (wj F X (mw Γ ad (pv1 (rs M 8 (k0 0)) (M 9 jx 0) jy 1))) X9 H locs → f_W X9 H locs 0 0 133 [some (.ref (ad 30 0)), some (.int (nI (jx))), some (.int (nI (jy))), none, none, some (.int (nI (M 9 jx 0))), none, none, some (.int (nI (pcF (pv1 (rs M 8 (k0 0)) (M 9 jx 0) jy 1 13) (M 9 jx 0) k))), some (.int (nI (k))), none] [] := by
                intro d9
                induction d9 with
                | zero => intro k H locs hd9 hl hh; exact absurd hd9 (Nat.not_lt_zero _)
                | succ d9 ih133 =>
                  intro k H locs hd9 hl hh
                  have jd := pv1_lt (M := rs M 8 (k0 0)) i13 (M 9 jx 0) jy (v := 1) (by decide) (4 * M 9 jx 0 + k)
                  have jp := pcF_le (pv1 (rs M 8 (k0 0)) (M 9 jx 0) jy 1 13) (M 9 jx 0) k
                  refine r_iload C dX5_prove_133 rfl ?_
                  refine r_iconst C (nI 4) dX5_prove_135 rfl ?_
                  refine r_icmp_geN (tgt := 181) C dX5_prove_136 (by decide) (by omega) (by omega) (fun h136 => ?_) (fun h136 => ?_)
                  · have k4 : k = 4 := by omega
                    refine r_iload C dX5_prove_181 rfl ?_
                    exact r_iret C E hh dX5_prove_183 (by omega) (by omega) (by rw [epm, epv, k4]; exact ⟨rfl, rfl⟩)
                  · refine r_aload_n C dX5_prove_139 rfl ?_
                    refine g_X5_22 C hh dX5_prove_140 ?_
                    refine r_iconst C (nI 4) dX5_prove_143 rfl ?_
                    refine r_iload C dX5_prove_144 rfl ?_
                    refine r_imulN C dX5_prove_146 ?_
                    refine r_iload C dX5_prove_147 rfl ?_
                    refine r_iaddN C dX5_prove_149 ?_
                    refine al_m_proof C hh (by omega) dX5_prove_150 ?_
                    refine r_istore C dX5_prove_151 rfl rfl ?_
                    refine r_iload C dX5_prove_153 rfl ?_
                    refine r_iload C dX5_prove_155 rfl ?_
                    refine r_iconst C (nI 1) dX5_prove_157 rfl ?_
                    refine r_icmp_eqN (tgt := 167) C dX5_prove_158 (by decide) (by omega) (by omega) (fun h158 => ?_) (fun h158 => ?_)
                    · have e8 : pcF (pv1 (rs M 8 (k0 0)) (M 9 jx 0) jy 1 13) (M 9 jx 0) (k + 1) = pcF (pv1 (rs M 8 (k0 0)) (M 9 jx 0) jy 1 13) (M 9 jx 0) k + 1 := by
                        show pcF (pv1 (rs M 8 (k0 0)) (M 9 jx 0) jy 1 13) (M 9 jx 0) k + (if _ then 1 else 0) = _
                        rw [if_pos (by rw [decide_eq_true h158]; rfl)]
                      refine r_iconst C (nI 1) dX5_prove_167 rfl ?_
                      refine r_goto (tgt := 172) C dX5_prove_168 (by decide) ?_
                      refine r_iaddN C dX5_prove_172 ?_
                      refine r_istore C dX5_prove_173 rfl rfl ?_
                      refine r_iincN C dX5_prove_175 rfl rfl ?_
                      refine r_goto (tgt := 133) C dX5_prove_178 (by decide) ?_
                      have w9 := ih133 (k + 1) H locs (by omega) (by omega) hh
                      rw [e8] at w9
                      refine f_W.le ?_ w9
                      exact (And.intro rfl (And.intro rfl (And.intro rfl (And.intro rfl (And.intro rfl (And.intro rfl trivial))))))
                    · refine r_iload C dX5_prove_161 rfl ?_
                      refine r_iconst C (nI 2) dX5_prove_163 rfl ?_
                      refine r_icmp_neN (tgt := 171) C dX5_prove_164 (by decide) (by omega) (by omega) (fun h164 => ?_) (fun h164 => ?_)
                      · have e8 : pcF (pv1 (rs M 8 (k0 0)) (M 9 jx 0) jy 1 13) (M 9 jx 0) (k + 1) = pcF (pv1 (rs M 8 (k0 0)) (M 9 jx 0) jy 1 13) (M 9 jx 0) k + 0 := by
                          show pcF (pv1 (rs M 8 (k0 0)) (M 9 jx 0) jy 1 13) (M 9 jx 0) k + (if _ then 1 else 0) = _
                          rw [if_neg (by rw [decide_eq_false h158, decide_eq_false h164]; decide)]
                        refine r_iconst C (nI 0) dX5_prove_171 rfl ?_
                        refine r_iaddN C dX5_prove_172 ?_
                        refine r_istore C dX5_prove_173 rfl rfl ?_
                        refine r_iincN C dX5_prove_175 rfl rfl ?_
                        refine r_goto (tgt := 133) C dX5_prove_178 (by decide) ?_
                        have w9 := ih133 (k + 1) H locs (by omega) (by omega) hh
                        rw [e8] at w9
                        refine f_W.le ?_ w9
                        exact (And.intro rfl (And.intro rfl (And.intro rfl (And.intro rfl (And.intro rfl (And.intro rfl trivial))))))
                      · have e8 : pcF (pv1 (rs M 8 (k0 0)) (M 9 jx 0) jy 1 13) (M 9 jx 0) (k + 1) = pcF (pv1 (rs M 8 (k0 0)) (M 9 jx 0) jy 1 13) (M 9 jx 0) k + 1 := by
                          show pcF (pv1 (rs M 8 (k0 0)) (M 9 jx 0) jy 1 13) (M 9 jx 0) k + (if _ then 1 else 0) = _
                          rw [if_pos (by rw [decide_eq_true h164, Bool.or_true])]
                        refine r_iconst C (nI 1) dX5_prove_167 rfl ?_
                        refine r_goto (tgt := 172) C dX5_prove_168 (by decide) ?_
                        refine r_iaddN C dX5_prove_172 ?_
                        refine r_istore C dX5_prove_173 rfl rfl ?_
                        refine r_iincN C dX5_prove_175 rfl rfl ?_
                        refine r_goto (tgt := 133) C dX5_prove_178 (by decide) ?_
                        have w9 := ih133 (k + 1) H locs (by omega) (by omega) hh
                        rw [e8] at w9
                        refine f_W.le ?_ w9
                        exact (And.intro rfl (And.intro rfl (And.intro rfl (And.intro rfl (And.intro rfl (And.intro rfl trivial))))))
              refine f_W.le ?_ (lp133 5 0 _ _ (by omega) (by omega) hh)
              exact (And.intro rfl (And.intro rfl (And.intro rfl (And.intro rfl (And.intro rfl (And.intro rfl trivial))))))
            · refine r_iconst C (nI 0) dX5_prove_117 rfl ?_
              exact r_iret C E hh dX5_prove_118 (by omega) (by omega) (by rw [show pwM M (nI jx) (nI jy) = rs M 8 (k0 (thr true true (okV2 M (nI jx) (nI jy)))) by unfold pwM; rw [if_neg (by rw [h114]; decide), hr1, hr2], show pwV M (nI jx) (nI jy) = 0 from if_neg (by rw [h114]; decide)]; exact ⟨rfl, rfl⟩)
          refine r_if_eqB (tgt := 102) C dX5_prove_65 (by decide) (fun h65 => ?_) (fun h65 => ?_)
          · have hv : okV2 M (nI jx) (nI jy) = false := by unfold okV2; rw [hr1, hr2, e1, e2]; unfold pvB; rw [h65]; rfl
            refine r_iconst C (bI (okV2 M (nI jx) (nI jy))) dX5_prove_102 (by rw [hv]; rfl) ?_
            refine f_W.le ?_ (jn103 _ _ hh)
            exact (And.intro rfl (And.intro rfl (And.intro rfl (And.intro rfl (And.intro rfl (And.intro rfl (And.intro rfl trivial)))))))
          · refine r_aload_n C dX5_prove_68 rfl ?_
            refine r_iload C dX5_prove_69 rfl ?_
            refine r_callV C E hh (c_X5_mayAll E.2.1 Γ B0 ad M F X (M 9 jx 0) j9 (by omega) (fun f => by have := i14 f; omega)) lk_X5_155 (tr := .inr (.inr 0)) rfl rfl rfl rfl (Nat.le_of_ble_eq_true rfl) dX5_prove_71 ⟨by decide, by decide⟩ ⟨by omega, by omega⟩ (fun _ _ z9 => False.elim z9) (kk_is (fun H locs hs9 hh => ?_))
            refine r_if_eqB (tgt := 102) C dX5_prove_74 (by decide) (fun h74 => ?_) (fun h74 => ?_)
            · have hv : okV2 M (nI jx) (nI jy) = false := by unfold okV2; rw [hr1, hr2, e1, e2]; unfold pvB; rw [h65, h74]; rfl
              refine r_iconst C (bI (okV2 M (nI jx) (nI jy))) dX5_prove_102 (by rw [hv]; rfl) ?_
              refine f_W.le ?_ (jn103 _ _ hh)
              exact (And.intro rfl (And.intro rfl (And.intro rfl (And.intro rfl (And.intro rfl (And.intro rfl (And.intro rfl trivial)))))))
            · refine r_aload_n C dX5_prove_77 rfl ?_
              refine g_X5_22 C hh dX5_prove_78 ?_
              refine r_iload C dX5_prove_81 rfl ?_
              refine al_m_proof C hh (by omega) dX5_prove_83 ?_
              refine r_if_eqN (tgt := 98) C dX5_prove_84 (by decide) (by omega) (fun h84 => ?_) (fun h84 => ?_)
              · have hv : okV2 M (nI jx) (nI jy) = true := by unfold okV2; rw [hr1, hr2, e1, e2]; unfold pvB; rw [h65, h74, decide_eq_true h84]; rfl
                refine r_iconst C (bI (okV2 M (nI jx) (nI jy))) dX5_prove_98 (by rw [hv]; rfl) ?_
                refine r_goto (tgt := 103) C dX5_prove_99 (by decide) ?_
                refine f_W.le ?_ (jn103 _ _ hh)
                exact (And.intro rfl (And.intro rfl (And.intro rfl (And.intro rfl (And.intro rfl (And.intro rfl (And.intro rfl trivial)))))))
              · refine r_aload_n C dX5_prove_87 rfl ?_
                refine g_X5_22 C hh dX5_prove_88 ?_
                refine r_iload C dX5_prove_91 rfl ?_
                refine al_m_proof C hh (by omega) dX5_prove_93 ?_
                refine r_iconst C (nI 3) dX5_prove_94 rfl ?_
                refine r_icmp_neN (tgt := 102) C dX5_prove_95 (by decide) (by omega) (by omega) (fun h95 => ?_) (fun h95 => ?_)
                · have hv : okV2 M (nI jx) (nI jy) = false := by unfold okV2; rw [hr1, hr2, e1, e2]; unfold pvB; rw [h65, h74, decide_eq_false h84, decide_eq_false h95]; rfl
                  refine r_iconst C (bI (okV2 M (nI jx) (nI jy))) dX5_prove_102 (by rw [hv]; rfl) ?_
                  refine f_W.le ?_ (jn103 _ _ hh)
                  exact (And.intro rfl (And.intro rfl (And.intro rfl (And.intro rfl (And.intro rfl (And.intro rfl (And.intro rfl trivial)))))))
                · have hv : okV2 M (nI jx) (nI jy) = true := by unfold okV2; rw [hr1, hr2, e1, e2]; unfold pvB; rw [h65, h74, decide_eq_true h95, Bool.or_true]; rfl
                  refine r_iconst C (bI (okV2 M (nI jx) (nI jy))) dX5_prove_98 (by rw [hv]; rfl) ?_
                  refine r_goto (tgt := 103) C dX5_prove_99 (by decide) ?_
                  refine f_W.le ?_ (jn103 _ _ hh)
                  exact (And.intro rfl (And.intro rfl (And.intro rfl (And.intro rfl (And.intro rfl (And.intro rfl (And.intro rfl trivial)))))))

set_option maxHeartbeats 4000000 in
set_option maxRecDepth 100000 in
theorem c_X5_prove_o {l : Launch} (hl : l.stackTraces = false) (Γ : fG) (B0 : Nat) (ad : Nat → Nat → Nat) (M : fR) (F : Nat → fO) (X : Nat × Nat → fO) (x y : Int32) (hx : rgB x (M 2 0 0) = false) : f_Met l yX5_prove cX5_prove 11 (some .int) 2 0 0 43 Γ B0 [.ref (ad 30 0), .int x, .int y] (wj F X (mw Γ ad M)) (f_is (pwV M x y) (wj F X (mw Γ ad (pwM M x y)))) f_no := by
  refine f_of hl (by decide) rfl (Nat.le_of_ble_eq_true rfl) (fun X9 C E hh hnm => ?_)
  generalize (f_s X9).heap = H, ([] : List Loc) = locs at hh ⊢
  have hv : okV2 M x y = false := by unfold okV2; rw [hx]; rfl
  have epm : pwM M x y = rs M 8 (k0 (thr false (rgB y 4) (okV2 M x y))) := by unfold pwM; rw [if_neg (by rw [hv]; decide), hx]
  have epv : pwV M x y = 0 := if_neg (by rw [hv]; decide)
  refine r_aload_n C dX5_prove_0 rfl ?_
  refine r_iload_n C dX5_prove_1 rfl ?_
  refine r_callV C E hh (c_X5_isPage E.2.1 Γ B0 ad M F X x) lk_X5_105 (tr := .inr (.inr 0)) rfl rfl rfl rfl (Nat.le_of_ble_eq_true rfl) dX5_prove_2 ⟨by decide, by decide⟩ ⟨by omega, by omega⟩ (fun _ _ z9 => False.elim z9) (kk_is (fun H locs hs9 hh => ?_))
  rw [hx]
  refine r_istore_n C dX5_prove_5 rfl rfl ?_
  refine r_iload_n C dX5_prove_6 rfl ?_
  refine r_callS C E hh (c_X5_isColor E.2.1 Γ B0 _ y) lk_X5_179 rfl rfl (Nat.le_of_ble_eq_true rfl) dX5_prove_7 ⟨by decide, by decide⟩ ⟨by omega, by omega⟩ (fun _ _ z9 => False.elim z9) (kk_is (fun H locs hs9 hh => ?_))
  refine r_istore C dX5_prove_10 rfl rfl ?_
  refine r_iload_n C dX5_prove_12 rfl ?_
  refine r_if_eqB (tgt := 25) C dX5_prove_13 (by decide) (fun h13 => ?_) (fun h13 => ?_)
  · refine r_iconst C (nI 0) dX5_prove_25 rfl ?_
    refine r_istore C dX5_prove_26 rfl rfl ?_
    refine r_iconst C (nI 4) dX5_prove_28 rfl ?_
    refine r_iload C dX5_prove_29 rfl ?_
    refine r_imulN C dX5_prove_31 ?_
    refine r_iload C dX5_prove_32 rfl ?_
    refine r_if_eqB (tgt := 41) C dX5_prove_34 (by decide) (fun h34 => ?_) (fun h34 => ?_)
    · refine r_iconst C (nI 0) dX5_prove_41 rfl ?_
      refine r_iaddN C dX5_prove_42 ?_
      refine r_istore C dX5_prove_43 rfl rfl ?_
      refine r_iload_n C dX5_prove_45 rfl ?_
      refine r_if_eqB (tgt := 102) C dX5_prove_46 (by decide) (fun h46 => ?_) (fun h46 => ?_)
      · refine r_iconst C (bI (okV2 M x y)) dX5_prove_102 (by rw [hv]; rfl) ?_
        refine r_istore C dX5_prove_103 rfl rfl ?_
        refine r_aload_n C dX5_prove_105 rfl ?_
        refine r_iload_n C dX5_prove_106 rfl ?_
        refine r_iload C dX5_prove_107 rfl ?_
        refine r_iload C dX5_prove_109 rfl ?_
        refine r_callV C E hh (c_X5_goes E.2.1 Γ B0 ad M F X false (rgB y 4) (okV2 M x y)) lk_X5_101 (tr := .inr (.inr 0)) rfl rfl rfl rfl (Nat.le_of_ble_eq_true rfl) dX5_prove_111 ⟨by decide, by decide⟩ ⟨by omega, by omega⟩ (fun _ _ z9 => False.elim z9) (kk_is (fun H locs hs9 hh => ?_))
        rw [show (false && rgB y 4 && okV2 M x y) = false from rfl]
        refine r_if_neB (tgt := 119) C dX5_prove_114 (by decide) (fun h114 => ?_) (fun h114 => ?_)
        · cases h114
        · refine r_iconst C (nI 0) dX5_prove_117 rfl ?_
          exact r_iret C E hh dX5_prove_118 (by omega) (by omega) (by rw [epm, epv]; exact ⟨rfl, rfl⟩)
      · cases h46
    · refine r_iload_n C dX5_prove_37 rfl ?_
      refine r_goto (tgt := 42) C dX5_prove_38 (by decide) ?_
      refine r_iadd C dX5_prove_42 ?_
      refine r_istore C dX5_prove_43 rfl rfl ?_
      refine r_iload_n C dX5_prove_45 rfl ?_
      refine r_if_eqB (tgt := 102) C dX5_prove_46 (by decide) (fun h46 => ?_) (fun h46 => ?_)
      · refine r_iconst C (bI (okV2 M x y)) dX5_prove_102 (by rw [hv]; rfl) ?_
        refine r_istore C dX5_prove_103 rfl rfl ?_
        refine r_aload_n C dX5_prove_105 rfl ?_
        refine r_iload_n C dX5_prove_106 rfl ?_
        refine r_iload C dX5_prove_107 rfl ?_
        refine r_iload C dX5_prove_109 rfl ?_
        refine r_callV C E hh (c_X5_goes E.2.1 Γ B0 ad M F X false (rgB y 4) (okV2 M x y)) lk_X5_101 (tr := .inr (.inr 0)) rfl rfl rfl rfl (Nat.le_of_ble_eq_true rfl) dX5_prove_111 ⟨by decide, by decide⟩ ⟨by omega, by omega⟩ (fun _ _ z9 => False.elim z9) (kk_is (fun H locs hs9 hh => ?_))
        rw [show (false && rgB y 4 && okV2 M x y) = false from rfl]
        refine r_if_neB (tgt := 119) C dX5_prove_114 (by decide) (fun h114 => ?_) (fun h114 => ?_)
        · cases h114
        · refine r_iconst C (nI 0) dX5_prove_117 rfl ?_
          exact r_iret C E hh dX5_prove_118 (by omega) (by omega) (by rw [epm, epv]; exact ⟨rfl, rfl⟩)
      · cases h46
  · cases h13

set_option maxHeartbeats 4000000 in
set_option maxRecDepth 100000 in
theorem c_X5_prove_p {l : Launch} (hl : l.stackTraces = false) (Γ : fG) (B0 : Nat) (ad : Nat → Nat → Nat) (M : fR) (F : Nat → fO) (X : Nat × Nat → fO) (jx : Nat) (y : Int32) (hjx : jx < M 2 0 0) (hy : rgB y 4 = false) (hI : MI M) : f_Met l yX5_prove cX5_prove 11 (some .int) 2 0 0 43 Γ B0 [.ref (ad 30 0), .int (nI (jx)), .int y] (wj F X (mw Γ ad M)) (f_is (pwV M (nI jx) y) (wj F X (mw Γ ad (pwM M (nI jx) y)))) f_no := by
  refine f_of hl (by decide) rfl (Nat.le_of_ble_eq_true rfl) (fun X9 C E hh hnm => ?_)
  generalize (f_s X9).heap = H, ([] : List Loc) = locs at hh ⊢
  obtain ⟨i2, i45, i9, i10, i13, i14, i17, i0, i1, -⟩ := id hI
  have hr1 : rgB (nI jx) (M 2 0 0) = true := (rgB_rg (by omega)).mpr (rg_N hjx (by omega))
  have hv : okV2 M (nI jx) y = false := by unfold okV2; rw [hr1, hy]; rfl
  have epm : pwM M (nI jx) y = rs M 8 (k0 (thr true false (okV2 M (nI jx) y))) := by unfold pwM; rw [if_neg (by rw [hv]; decide), hr1, hy]
  have epv : pwV M (nI jx) y = 0 := if_neg (by rw [hv]; decide)
  refine r_aload_n C dX5_prove_0 rfl ?_
  refine r_iload_n C dX5_prove_1 rfl ?_
  refine r_callV C E hh (c_X5_isPage E.2.1 Γ B0 ad M F X (nI jx)) lk_X5_105 (tr := .inr (.inr 0)) rfl rfl rfl rfl (Nat.le_of_ble_eq_true rfl) dX5_prove_2 ⟨by decide, by decide⟩ ⟨by omega, by omega⟩ (fun _ _ z9 => False.elim z9) (kk_is (fun H locs hs9 hh => ?_))
  rw [hr1]
  refine r_istore_n C dX5_prove_5 rfl rfl ?_
  refine r_iload_n C dX5_prove_6 rfl ?_
  refine r_callS C E hh (c_X5_isColor E.2.1 Γ B0 _ y) lk_X5_179 rfl rfl (Nat.le_of_ble_eq_true rfl) dX5_prove_7 ⟨by decide, by decide⟩ ⟨by omega, by omega⟩ (fun _ _ z9 => False.elim z9) (kk_is (fun H locs hs9 hh => ?_))
  rw [hy]
  refine r_istore C dX5_prove_10 rfl rfl ?_
  refine r_iload_n C dX5_prove_12 rfl ?_
  refine r_if_eqB (tgt := 25) C dX5_prove_13 (by decide) (fun h13 => ?_) (fun h13 => ?_)
  · cases h13
  · refine r_aload_n C dX5_prove_16 rfl ?_
    refine g_X5_7 C hh dX5_prove_17 ?_
    refine r_iload_n C dX5_prove_20 rfl ?_
    refine al_m_order C hh (by omega) dX5_prove_21 ?_
    refine r_goto (tgt := 26) C dX5_prove_22 (by decide) ?_
    refine r_istore C dX5_prove_26 rfl rfl ?_
    refine r_iconst C (nI 4) dX5_prove_28 rfl ?_
    refine r_iload C dX5_prove_29 rfl ?_
    refine r_imulN C dX5_prove_31 ?_
    refine r_iload C dX5_prove_32 rfl ?_
    refine r_if_eqB (tgt := 41) C dX5_prove_34 (by decide) (fun h34 => ?_) (fun h34 => ?_)
    · refine r_iconst C (nI 0) dX5_prove_41 rfl ?_
      refine r_iaddN C dX5_prove_42 ?_
      refine r_istore C dX5_prove_43 rfl rfl ?_
      refine r_iload_n C dX5_prove_45 rfl ?_
      refine r_if_eqB (tgt := 102) C dX5_prove_46 (by decide) (fun h46 => ?_) (fun h46 => ?_)
      · cases h46
      · refine r_iload C dX5_prove_49 rfl ?_
        refine r_if_eqB (tgt := 102) C dX5_prove_51 (by decide) (fun h51 => ?_) (fun h51 => ?_)
        · refine r_iconst C (bI (okV2 M (nI jx) y)) dX5_prove_102 (by rw [hv]; rfl) ?_
          refine r_istore C dX5_prove_103 rfl rfl ?_
          refine r_aload_n C dX5_prove_105 rfl ?_
          refine r_iload_n C dX5_prove_106 rfl ?_
          refine r_iload C dX5_prove_107 rfl ?_
          refine r_iload C dX5_prove_109 rfl ?_
          refine r_callV C E hh (c_X5_goes E.2.1 Γ B0 ad M F X true false (okV2 M (nI jx) y)) lk_X5_101 (tr := .inr (.inr 0)) rfl rfl rfl rfl (Nat.le_of_ble_eq_true rfl) dX5_prove_111 ⟨by decide, by decide⟩ ⟨by omega, by omega⟩ (fun _ _ z9 => False.elim z9) (kk_is (fun H locs hs9 hh => ?_))
          rw [show (true && false && okV2 M (nI jx) y) = false from rfl]
          refine r_if_neB (tgt := 119) C dX5_prove_114 (by decide) (fun h114 => ?_) (fun h114 => ?_)
          · cases h114
          · refine r_iconst C (nI 0) dX5_prove_117 rfl ?_
            exact r_iret C E hh dX5_prove_118 (by omega) (by omega) (by rw [epm, epv]; exact ⟨rfl, rfl⟩)
        · cases h51
    · cases h34

def okJ (M : fR) (x y : Int32) : Bool := rgB x (M 2 0 0) && (rgB y 4 && decide (M 13 (4 * M 9 (xN x) 0 + xN y) 0 = 1))
def juM (M : fR) (x y : Int32) (b : Bool) : fR := if okJ M x y = true then pv1 (rs M 8 (k0 0)) (M 9 (xN x) 0) (xN y) (if b = true then 2 else 3) else rs M 8 (k0 (thr (rgB x (M 2 0 0)) (rgB y 4) (okJ M x y)))
def juV (M : fR) (x y : Int32) (b : Bool) : Bool := okJ M x y && fnM (juM M x y b) (M 9 (xN x) 0) 4
set_option maxHeartbeats 4000000 in
set_option maxRecDepth 100000 in
theorem c_X5_judge_i {l : Launch} (hl : l.stackTraces = false) (Γ : fG) (B0 : Nat) (ad : Nat → Nat → Nat) (M : fR) (F : Nat → fO) (X : Nat × Nat → fO) (jx jy : Nat) (b : Bool) (hjx : jx < M 2 0 0) (hjy : jy < 4) (hI : MI M) : f_Met l yX5_judge cX5_judge 7 (some .boolean) 4 0 0 89 Γ B0 [.ref (ad 30 0), .int (nI (jx)), .int (nI (jy)), .int (bI b)] (wj F X (mw Γ ad M)) (f_is (bI (juV M (nI jx) (nI jy) b)) (wj F X (mw Γ ad (juM M (nI jx) (nI jy) b)))) f_no := by
  refine f_of hl (by decide) rfl (Nat.le_of_ble_eq_true rfl) (fun X9 C E hh hnm => ?_)
  generalize (f_s X9).heap = H, ([] : List Loc) = locs at hh ⊢
  obtain ⟨i2, i45, i9, i10, i13, i14, i17, i0, i1, -⟩ := id hI
  have e1 : xN (nI jx) = jx := xN_nI (by omega)
  have e2 : xN (nI jy) = jy := xN_nI (by omega)
  have hr1 : rgB (nI jx) (M 2 0 0) = true := (rgB_rg (by omega)).mpr (rg_N hjx (by omega))
  have hr2 : rgB (nI jy) 4 = true := (rgB_rg (by decide)).mpr (rg_N hjy (by decide))
  have j9 := i9 jx
  have j10 := i10 (M 9 jx 0)
  have j13 := i13 (4 * M 9 jx 0 + jy)
  refine r_aload_n C dX5_judge_0 rfl ?_
  refine r_iload_n C dX5_judge_1 rfl ?_
  refine r_callV C E hh (c_X5_isPage E.2.1 Γ B0 ad M F X (nI jx)) lk_X5_105 (tr := .inr (.inr 0)) rfl rfl rfl rfl (Nat.le_of_ble_eq_true rfl) dX5_judge_2 ⟨by decide, by decide⟩ ⟨by omega, by omega⟩ (fun _ _ z9 => False.elim z9) (kk_is (fun H locs hs9 hh => ?_))
  rw [hr1]
  refine r_istore C dX5_judge_5 rfl rfl ?_
  refine r_iload_n C dX5_judge_7 rfl ?_
  refine r_callS C E hh (c_X5_isColor E.2.1 Γ B0 _ (nI jy)) lk_X5_179 rfl rfl (Nat.le_of_ble_eq_true rfl) dX5_judge_8 ⟨by decide, by decide⟩ ⟨by omega, by omega⟩ (fun _ _ z9 => False.elim z9) (kk_is (fun H locs hs9 hh => ?_))
  rw [hr2]
  refine r_istore C dX5_judge_11 rfl rfl ?_
  refine r_iload C dX5_judge_13 rfl ?_
  refine r_if_eqB (tgt := 36) C dX5_judge_15 (by decide) (fun h15 => ?_) (fun h15 => ?_)
  · cases h15
  · refine r_iload C dX5_judge_18 rfl ?_
    refine r_if_eqB (tgt := 36) C dX5_judge_20 (by decide) (fun h20 => ?_) (fun h20 => ?_)
    · cases h20
    · refine r_iconst C (nI 4) dX5_judge_23 rfl ?_
      refine r_aload_n C dX5_judge_24 rfl ?_
      refine g_X5_7 C hh dX5_judge_25 ?_
      refine r_iload_n C dX5_judge_28 rfl ?_
      refine al_m_order C hh (by omega) dX5_judge_29 ?_
      refine r_imulN C dX5_judge_30 ?_
      refine r_iload_n C dX5_judge_31 rfl ?_
      refine r_iaddN C dX5_judge_32 ?_
      refine r_goto (tgt := 37) C dX5_judge_33 (by decide) ?_
      refine r_istore C dX5_judge_37 rfl rfl ?_
      refine r_aload_n C dX5_judge_39 rfl ?_
      refine r_iload C dX5_judge_40 rfl ?_
      refine r_iload C dX5_judge_42 rfl ?_
      refine r_iload C dX5_judge_44 rfl ?_
      refine r_if_eqB (tgt := 69) C dX5_judge_46 (by decide) (fun h46 => ?_) (fun h46 => ?_)
      · cases h46
      · refine r_iload C dX5_judge_49 rfl ?_
        refine r_if_eqB (tgt := 69) C dX5_judge_51 (by decide) (fun h51 => ?_) (fun h51 => ?_)
        · cases h51
        · refine r_aload_n C dX5_judge_54 rfl ?_
          refine g_X5_22 C hh dX5_judge_55 ?_
          refine r_iload C dX5_judge_58 rfl ?_
          refine al_m_proof C hh (by omega) dX5_judge_60 ?_
          refine r_iconst C (nI 1) dX5_judge_61 rfl ?_
          refine r_icmp_neN (tgt := 69) C dX5_judge_62 (by decide) (by omega) (by omega) (fun h62 => ?_) (fun h62 => ?_)
          · have hv : okJ M (nI jx) (nI jy) = false := by unfold okJ; rw [hr1, hr2, e1, e2, decide_eq_false h62]; rfl
            refine r_iconst C (bI (okJ M (nI jx) (nI jy))) dX5_judge_69 (by rw [hv]; rfl) ?_
            refine r_callV C E hh (c_X5_goes E.2.1 Γ B0 ad M F X true true (okJ M (nI jx) (nI jy))) lk_X5_101 (tr := .inr (.inr 0)) rfl rfl rfl rfl (Nat.le_of_ble_eq_true rfl) dX5_judge_70 ⟨by decide, by decide⟩ ⟨by omega, by omega⟩ (fun _ _ z9 => False.elim z9) (kk_is (fun H locs hs9 hh => ?_))
            rw [show (true && true && okJ M (nI jx) (nI jy)) = okJ M (nI jx) (nI jy) from rfl]
            refine r_if_neB (tgt := 78) C dX5_judge_73 (by decide) (fun h73 => ?_) (fun h73 => ?_)
            · rw [h73, show thr true true true = 0 from rfl] at hh
              refine r_aload_n C dX5_judge_78 rfl ?_
              refine g_X5_22 C hh dX5_judge_79 ?_
              refine r_iload C dX5_judge_82 rfl ?_
              refine r_iload_n C dX5_judge_84 rfl ?_
              refine r_if_eqB (tgt := 92) C dX5_judge_85 (by decide) (fun h85 => ?_) (fun h85 => ?_)
              · subst h85
                have hv3 : 3 < 4 := by decide
                have hMI := MI_pv1 (M := rs M 8 (k0 0)) hI (M 9 jx 0) jy hv3
                have epm : juM M (nI jx) (nI jy) false = pv1 (rs M 8 (k0 0)) (M 9 jx 0) jy 3 := by unfold juM; rw [if_pos h73, e1, e2]; rfl
                have epv : juV M (nI jx) (nI jy) false = fnM (pv1 (rs M 8 (k0 0)) (M 9 jx 0) jy 3) (M 9 jx 0) 4 := by unfold juV; rw [h73, epm, e1, Bool.true_and]
                refine r_iconst C (nI 3) dX5_judge_92 rfl ?_
                refine as_m_proof C hh (by omega) dX5_judge_93 (fun H locs hh => ?_)
                replace hh : f_HS Γ B0 (wj F X (mw Γ ad (pv1 (rs M 8 (k0 0)) (M 9 jx 0) jy _))) X9 H locs := hh
                refine r_aload_n C dX5_judge_94 rfl ?_
                refine r_aload_n C dX5_judge_95 rfl ?_
                refine g_X5_7 C hh dX5_judge_96 ?_
                refine r_iload_n C dX5_judge_99 rfl ?_
                refine al_m_order C hh (by omega) dX5_judge_100 ?_
                rw [show pv1 (rs M 8 (k0 0)) (M 9 jx 0) jy _ 9 jx 0 = M 9 jx 0 from rfl]
                refine r_callV C E hh (c_X5_isFinished E.2.1 Γ B0 ad _ F X (M 9 jx 0) j9 hMI) lk_X5_158 (tr := .inr (.inr 0)) rfl rfl rfl rfl (Nat.le_of_ble_eq_true rfl) dX5_judge_101 ⟨by decide, by decide⟩ ⟨by omega, by omega⟩ (fun _ _ z9 => False.elim z9) (kk_is (fun H locs hs9 hh => ?_))
                exact r_zret C E hh dX5_judge_104 (by omega) (by omega) (by rw [epm, epv]; exact ⟨rfl, rfl⟩)
              · subst h85
                have hv3 : 2 < 4 := by decide
                have hMI := MI_pv1 (M := rs M 8 (k0 0)) hI (M 9 jx 0) jy hv3
                have epm : juM M (nI jx) (nI jy) true = pv1 (rs M 8 (k0 0)) (M 9 jx 0) jy 2 := by unfold juM; rw [if_pos h73, e1, e2]; rfl
                have epv : juV M (nI jx) (nI jy) true = fnM (pv1 (rs M 8 (k0 0)) (M 9 jx 0) jy 2) (M 9 jx 0) 4 := by unfold juV; rw [h73, epm, e1, Bool.true_and]
                refine r_iconst C (nI 2) dX5_judge_88 rfl ?_
                refine r_goto (tgt := 93) C dX5_judge_89 (by decide) ?_
                refine as_m_proof C hh (by omega) dX5_judge_93 (fun H locs hh => ?_)
                replace hh : f_HS Γ B0 (wj F X (mw Γ ad (pv1 (rs M 8 (k0 0)) (M 9 jx 0) jy _))) X9 H locs := hh
                refine r_aload_n C dX5_judge_94 rfl ?_
                refine r_aload_n C dX5_judge_95 rfl ?_
                refine g_X5_7 C hh dX5_judge_96 ?_
                refine r_iload_n C dX5_judge_99 rfl ?_
                refine al_m_order C hh (by omega) dX5_judge_100 ?_
                rw [show pv1 (rs M 8 (k0 0)) (M 9 jx 0) jy _ 9 jx 0 = M 9 jx 0 from rfl]
                refine r_callV C E hh (c_X5_isFinished E.2.1 Γ B0 ad _ F X (M 9 jx 0) j9 hMI) lk_X5_158 (tr := .inr (.inr 0)) rfl rfl rfl rfl (Nat.le_of_ble_eq_true rfl) dX5_judge_101 ⟨by decide, by decide⟩ ⟨by omega, by omega⟩ (fun _ _ z9 => False.elim z9) (kk_is (fun H locs hs9 hh => ?_))
                exact r_zret C E hh dX5_judge_104 (by omega) (by omega) (by rw [epm, epv]; exact ⟨rfl, rfl⟩)
            · refine r_iconst C (bI false) dX5_judge_76 rfl ?_
              exact r_zret C E hh dX5_judge_77 (by omega) (by omega) (by rw [show juM M (nI jx) (nI jy) b = rs M 8 (k0 (thr true true (okJ M (nI jx) (nI jy)))) by unfold juM; rw [if_neg (by rw [h73]; decide), hr1, hr2], show juV M (nI jx) (nI jy) b = false by unfold juV; rw [h73]; rfl]; exact ⟨rfl, rfl⟩)
          · have hv : okJ M (nI jx) (nI jy) = true := by unfold okJ; rw [hr1, hr2, e1, e2, decide_eq_true h62]; rfl
            refine r_iconst C (bI (okJ M (nI jx) (nI jy))) dX5_judge_65 (by rw [hv]; rfl) ?_
            refine r_goto (tgt := 70) C dX5_judge_66 (by decide) ?_
            refine r_callV C E hh (c_X5_goes E.2.1 Γ B0 ad M F X true true (okJ M (nI jx) (nI jy))) lk_X5_101 (tr := .inr (.inr 0)) rfl rfl rfl rfl (Nat.le_of_ble_eq_true rfl) dX5_judge_70 ⟨by decide, by decide⟩ ⟨by omega, by omega⟩ (fun _ _ z9 => False.elim z9) (kk_is (fun H locs hs9 hh => ?_))
            rw [show (true && true && okJ M (nI jx) (nI jy)) = okJ M (nI jx) (nI jy) from rfl]
            refine r_if_neB (tgt := 78) C dX5_judge_73 (by decide) (fun h73 => ?_) (fun h73 => ?_)
            · rw [h73, show thr true true true = 0 from rfl] at hh
              refine r_aload_n C dX5_judge_78 rfl ?_
              refine g_X5_22 C hh dX5_judge_79 ?_
              refine r_iload C dX5_judge_82 rfl ?_
              refine r_iload_n C dX5_judge_84 rfl ?_
              refine r_if_eqB (tgt := 92) C dX5_judge_85 (by decide) (fun h85 => ?_) (fun h85 => ?_)
              · subst h85
                have hv3 : 3 < 4 := by decide
                have hMI := MI_pv1 (M := rs M 8 (k0 0)) hI (M 9 jx 0) jy hv3
                have epm : juM M (nI jx) (nI jy) false = pv1 (rs M 8 (k0 0)) (M 9 jx 0) jy 3 := by unfold juM; rw [if_pos h73, e1, e2]; rfl
                have epv : juV M (nI jx) (nI jy) false = fnM (pv1 (rs M 8 (k0 0)) (M 9 jx 0) jy 3) (M 9 jx 0) 4 := by unfold juV; rw [h73, epm, e1, Bool.true_and]
                refine r_iconst C (nI 3) dX5_judge_92 rfl ?_
                refine as_m_proof C hh (by omega) dX5_judge_93 (fun H locs hh => ?_)
                replace hh : f_HS Γ B0 (wj F X (mw Γ ad (pv1 (rs M 8 (k0 0)) (M 9 jx 0) jy _))) X9 H locs := hh
                refine r_aload_n C dX5_judge_94 rfl ?_
                refine r_aload_n C dX5_judge_95 rfl ?_
                refine g_X5_7 C hh dX5_judge_96 ?_
                refine r_iload_n C dX5_judge_99 rfl ?_
                refine al_m_order C hh (by omega) dX5_judge_100 ?_
                rw [show pv1 (rs M 8 (k0 0)) (M 9 jx 0) jy _ 9 jx 0 = M 9 jx 0 from rfl]
                refine r_callV C E hh (c_X5_isFinished E.2.1 Γ B0 ad _ F X (M 9 jx 0) j9 hMI) lk_X5_158 (tr := .inr (.inr 0)) rfl rfl rfl rfl (Nat.le_of_ble_eq_true rfl) dX5_judge_101 ⟨by decide, by decide⟩ ⟨by omega, by omega⟩ (fun _ _ z9 => False.elim z9) (kk_is (fun H locs hs9 hh => ?_))
                exact r_zret C E hh dX5_judge_104 (by omega) (by omega) (by rw [epm, epv]; exact ⟨rfl, rfl⟩)
              · subst h85
                have hv3 : 2 < 4 := by decide
                have hMI := MI_pv1 (M := rs M 8 (k0 0)) hI (M 9 jx 0) jy hv3
                have epm : juM M (nI jx) (nI jy) true = pv1 (rs M 8 (k0 0)) (M 9 jx 0) jy 2 := by unfold juM; rw [if_pos h73, e1, e2]; rfl
                have epv : juV M (nI jx) (nI jy) true = fnM (pv1 (rs M 8 (k0 0)) (M 9 jx 0) jy 2) (M 9 jx 0) 4 := by unfold juV; rw [h73, epm, e1, Bool.true_and]
                refine r_iconst C (nI 2) dX5_judge_88 rfl ?_
                refine r_goto (tgt := 93) C dX5_judge_89 (by decide) ?_
                refine as_m_proof C hh (by omega) dX5_judge_93 (fun H locs hh => ?_)
                replace hh : f_HS Γ B0 (wj F X (mw Γ ad (pv1 (rs M 8 (k0 0)) (M 9 jx 0) jy _))) X9 H locs := hh
                refine r_aload_n C dX5_judge_94 rfl ?_
                refine r_aload_n C dX5_judge_95 rfl ?_
                refine g_X5_7 C hh dX5_judge_96 ?_
                refine r_iload_n C dX5_judge_99 rfl ?_
                refine al_m_order C hh (by omega) dX5_judge_100 ?_
                rw [show pv1 (rs M 8 (k0 0)) (M 9 jx 0) jy _ 9 jx 0 = M 9 jx 0 from rfl]
                refine r_callV C E hh (c_X5_isFinished E.2.1 Γ B0 ad _ F X (M 9 jx 0) j9 hMI) lk_X5_158 (tr := .inr (.inr 0)) rfl rfl rfl rfl (Nat.le_of_ble_eq_true rfl) dX5_judge_101 ⟨by decide, by decide⟩ ⟨by omega, by omega⟩ (fun _ _ z9 => False.elim z9) (kk_is (fun H locs hs9 hh => ?_))
                exact r_zret C E hh dX5_judge_104 (by omega) (by omega) (by rw [epm, epv]; exact ⟨rfl, rfl⟩)
            · refine r_iconst C (bI false) dX5_judge_76 rfl ?_
              exact r_zret C E hh dX5_judge_77 (by omega) (by omega) (by rw [show juM M (nI jx) (nI jy) b = rs M 8 (k0 (thr true true (okJ M (nI jx) (nI jy)))) by unfold juM; rw [if_neg (by rw [h73]; decide), hr1, hr2], show juV M (nI jx) (nI jy) b = false by unfold juV; rw [h73]; rfl]; exact ⟨rfl, rfl⟩)

set_option maxHeartbeats 4000000 in
set_option maxRecDepth 100000 in
theorem c_X5_judge_o {l : Launch} (hl : l.stackTraces = false) (Γ : fG) (B0 : Nat) (ad : Nat → Nat → Nat) (M : fR) (F : Nat → fO) (X : Nat × Nat → fO) (x y : Int32) (b : Bool) (hx : (rgB x (M 2 0 0) && rgB y 4) = false) : f_Met l yX5_judge cX5_judge 7 (some .boolean) 2 0 0 43 Γ B0 [.ref (ad 30 0), .int x, .int y, .int (bI b)] (wj F X (mw Γ ad M)) (f_is (bI (juV M x y b)) (wj F X (mw Γ ad (juM M x y b)))) f_no := by
  refine f_of hl (by decide) rfl (Nat.le_of_ble_eq_true rfl) (fun X9 C E hh hnm => ?_)
  generalize (f_s X9).heap = H, ([] : List Loc) = locs at hh ⊢
  have hv : okJ M x y = false := by unfold okJ; rw [← Bool.and_assoc, hx]; rfl
  have epm : juM M x y b = rs M 8 (k0 (thr (rgB x (M 2 0 0)) (rgB y 4) (okJ M x y))) := by unfold juM; rw [if_neg (by rw [hv]; decide)]
  have epv : juV M x y b = false := by unfold juV; rw [hv]; rfl
  refine r_aload_n C dX5_judge_0 rfl ?_
  refine r_iload_n C dX5_judge_1 rfl ?_
  refine r_callV C E hh (c_X5_isPage E.2.1 Γ B0 ad M F X x) lk_X5_105 (tr := .inr (.inr 0)) rfl rfl rfl rfl (Nat.le_of_ble_eq_true rfl) dX5_judge_2 ⟨by decide, by decide⟩ ⟨by omega, by omega⟩ (fun _ _ z9 => False.elim z9) (kk_is (fun H locs hs9 hh => ?_))
  refine r_istore C dX5_judge_5 rfl rfl ?_
  refine r_iload_n C dX5_judge_7 rfl ?_
  refine r_callS C E hh (c_X5_isColor E.2.1 Γ B0 _ y) lk_X5_179 rfl rfl (Nat.le_of_ble_eq_true rfl) dX5_judge_8 ⟨by decide, by decide⟩ ⟨by omega, by omega⟩ (fun _ _ z9 => False.elim z9) (kk_is (fun H locs hs9 hh => ?_))
  refine r_istore C dX5_judge_11 rfl rfl ?_
  refine r_iload C dX5_judge_13 rfl ?_
  refine r_if_eqB (tgt := 36) C dX5_judge_15 (by decide) (fun h15 => ?_) (fun h15 => ?_)
  · refine r_iconst C (nI 0) dX5_judge_36 rfl ?_
    refine r_istore C dX5_judge_37 rfl rfl ?_
    refine r_aload_n C dX5_judge_39 rfl ?_
    refine r_iload C dX5_judge_40 rfl ?_
    refine r_iload C dX5_judge_42 rfl ?_
    refine r_iload C dX5_judge_44 rfl ?_
    refine r_if_eqB (tgt := 69) C dX5_judge_46 (by decide) (fun h46 => ?_) (fun h46 => ?_)
    · refine r_iconst C (bI (okJ M x y)) dX5_judge_69 (by rw [hv]; rfl) ?_
      refine r_callV C E hh (c_X5_goes E.2.1 Γ B0 ad M F X (rgB x (M 2 0 0)) (rgB y 4) (okJ M x y)) lk_X5_101 (tr := .inr (.inr 0)) rfl rfl rfl rfl (Nat.le_of_ble_eq_true rfl) dX5_judge_70 ⟨by decide, by decide⟩ ⟨by omega, by omega⟩ (fun _ _ z9 => False.elim z9) (kk_is (fun H locs hs9 hh => ?_))
      rw [hx, Bool.false_and]
      refine r_if_neB (tgt := 78) C dX5_judge_73 (by decide) (fun h73 => ?_) (fun h73 => ?_)
      · cases h73
      · refine r_iconst C (bI false) dX5_judge_76 rfl ?_
        exact r_zret C E hh dX5_judge_77 (by omega) (by omega) (by rw [epm, epv]; exact ⟨rfl, rfl⟩)
    · refine r_iload C dX5_judge_49 rfl ?_
      refine r_if_eqB (tgt := 69) C dX5_judge_51 (by decide) (fun h51 => ?_) (fun h51 => ?_)
      · refine r_iconst C (bI (okJ M x y)) dX5_judge_69 (by rw [hv]; rfl) ?_
        refine r_callV C E hh (c_X5_goes E.2.1 Γ B0 ad M F X (rgB x (M 2 0 0)) (rgB y 4) (okJ M x y)) lk_X5_101 (tr := .inr (.inr 0)) rfl rfl rfl rfl (Nat.le_of_ble_eq_true rfl) dX5_judge_70 ⟨by decide, by decide⟩ ⟨by omega, by omega⟩ (fun _ _ z9 => False.elim z9) (kk_is (fun H locs hs9 hh => ?_))
        rw [hx, Bool.false_and]
        refine r_if_neB (tgt := 78) C dX5_judge_73 (by decide) (fun h73 => ?_) (fun h73 => ?_)
        · cases h73
        · refine r_iconst C (bI false) dX5_judge_76 rfl ?_
          exact r_zret C E hh dX5_judge_77 (by omega) (by omega) (by rw [epm, epv]; exact ⟨rfl, rfl⟩)
      · exfalso
        rw [h46, h51] at hx
        cases hx
  · refine r_iload C dX5_judge_18 rfl ?_
    refine r_if_eqB (tgt := 36) C dX5_judge_20 (by decide) (fun h20 => ?_) (fun h20 => ?_)
    · refine r_iconst C (nI 0) dX5_judge_36 rfl ?_
      refine r_istore C dX5_judge_37 rfl rfl ?_
      refine r_aload_n C dX5_judge_39 rfl ?_
      refine r_iload C dX5_judge_40 rfl ?_
      refine r_iload C dX5_judge_42 rfl ?_
      refine r_iload C dX5_judge_44 rfl ?_
      refine r_if_eqB (tgt := 69) C dX5_judge_46 (by decide) (fun h46 => ?_) (fun h46 => ?_)
      · refine r_iconst C (bI (okJ M x y)) dX5_judge_69 (by rw [hv]; rfl) ?_
        refine r_callV C E hh (c_X5_goes E.2.1 Γ B0 ad M F X (rgB x (M 2 0 0)) (rgB y 4) (okJ M x y)) lk_X5_101 (tr := .inr (.inr 0)) rfl rfl rfl rfl (Nat.le_of_ble_eq_true rfl) dX5_judge_70 ⟨by decide, by decide⟩ ⟨by omega, by omega⟩ (fun _ _ z9 => False.elim z9) (kk_is (fun H locs hs9 hh => ?_))
        rw [hx, Bool.false_and]
        refine r_if_neB (tgt := 78) C dX5_judge_73 (by decide) (fun h73 => ?_) (fun h73 => ?_)
        · cases h73
        · refine r_iconst C (bI false) dX5_judge_76 rfl ?_
          exact r_zret C E hh dX5_judge_77 (by omega) (by omega) (by rw [epm, epv]; exact ⟨rfl, rfl⟩)
      · refine r_iload C dX5_judge_49 rfl ?_
        refine r_if_eqB (tgt := 69) C dX5_judge_51 (by decide) (fun h51 => ?_) (fun h51 => ?_)
        · refine r_iconst C (bI (okJ M x y)) dX5_judge_69 (by rw [hv]; rfl) ?_
          refine r_callV C E hh (c_X5_goes E.2.1 Γ B0 ad M F X (rgB x (M 2 0 0)) (rgB y 4) (okJ M x y)) lk_X5_101 (tr := .inr (.inr 0)) rfl rfl rfl rfl (Nat.le_of_ble_eq_true rfl) dX5_judge_70 ⟨by decide, by decide⟩ ⟨by omega, by omega⟩ (fun _ _ z9 => False.elim z9) (kk_is (fun H locs hs9 hh => ?_))
          rw [hx, Bool.false_and]
          refine r_if_neB (tgt := 78) C dX5_judge_73 (by decide) (fun h73 => ?_) (fun h73 => ?_)
          · cases h73
          · refine r_iconst C (bI false) dX5_judge_76 rfl ?_
            exact r_zret C E hh dX5_judge_77 (by omega) (by omega) (by rw [epm, epv]; exact ⟨rfl, rfl⟩)
        · exfalso
          rw [h46, h51] at hx
          cases hx
    · exfalso
      rw [h15, h20] at hx
      cases hx

