/-! ===== the law ===== -/
section LAWL
variable {X9 : fX} {Γ : fG} {B0 b L : Nat} {xs : Nat → Int32} {H : Heap} {locs : List Loc} {k m n i : Nat} {ad : Nat → Nat → Nat} {P R M : fR}
abbrev LL (b : Nat) (ad : Nat → Nat → Nat) (k6 k7 : Option Value) : List (Option Value) := [some (.ref b), some (.ref (ad 1 0)), some (.ref (ad 30 1)), some (.ref (ad 30 2)), some (.ref (ad 30 3)), some (.ref (ad 30 4)), k6, k7]
def law_fin (X9 : fX) (Γ : fG) (B0 : Nat) : Prop := ∀ (w : fV) (H : Heap) (locs : List Loc) (k m : Nat) (Ls : List (Option Value)), k ≤ 641324 → m ≤ 7177651 → f_HS Γ B0 w X9 H locs → f_W X9 H locs k m 132 Ls [.int 1]
set_option maxHeartbeats 4000000 in
theorem law_loop (Q : f_law X9 Γ B0 b L xs) (hL : L ≤ 260) (hf : law_fin X9 Γ B0) : ∀ (d i : Nat) (P R M : fR) (ad : Nat → Nat → Nat) (H : Heap) (locs : List Loc), i + d = 150 → RZ i P R M → f_HS Γ B0 (wj (fw Γ ad P) (xw Γ ad R) (mw Γ ad M)) X9 H locs → f_W X9 H locs (1000 + 650 * i) (5000 + 4000 * i) 50 (LL b ad (some (.int (bI true))) (some (.int (nI i)))) [] := by
  obtain ⟨C, hl, hX, hbs, hB⟩ := Q
  intro d
  induction d with
  | zero =>
    intro i P R M ad H locs hi h hh
    refine r_iload C dL_law_50 rfl ?_
    refine r_sipush C (nI 150) dL_law_52 rfl ?_
    refine r_icmp_geN (tgt := 130) C dL_law_55 (by decide) (by omega) (by omega) (fun h55 => ?_) (fun h55 => absurd h55 (by omega))
    refine r_iload C dL_law_130 rfl ?_
    exact hf _ H locs _ _ _ (by omega) (by omega) hh
  | succ d ih =>
    intro i P R M ad H locs hi h hh
    refine r_iload C dL_law_50 rfl ?_
    refine r_sipush C (nI 150) dL_law_52 rfl ?_
    refine r_icmp_geN (tgt := 130) C dL_law_55 (by decide) (by omega) (by omega) (fun h55 => absurd h55 (by omega)) (fun h55 => ?_)
    refine r_iload C dL_law_58 rfl ?_
    refine r_if_eqB (tgt := 130) C dL_law_60 (by decide) (fun h60 => absurd h60 (by decide)) (fun h60 => ?_)
    refine r_aload_n C dL_law_63 rfl ?_
    refine r_aload_n C dL_law_64 rfl ?_
    refine r_aload_n C dL_law_65 rfl ?_
    refine r_aload C dL_law_66 rfl ?_
    refine r_aload C dL_law_68 rfl ?_
    refine r_aload_n C dL_law_70 rfl ?_
    refine r_iconst C (nI 2) dL_law_71 rfl ?_
    refine r_iload C dL_law_72 rfl ?_
    refine r_imulN C dL_law_74 ?_
    refine r_callSS C hX hbs hB hh (c_L_at hl Γ B0 _ b L xs hL hB (2 * i) (by omega)) lk_L_213 rfl rfl (Nat.le_of_ble_eq_true rfl) dL_law_75 ⟨by decide, by decide⟩ ⟨by omega, by omega⟩ (kk_rI (fun x w9 H locs hs9 hp9 hh => ?_))
    subst hp9
    refine r_aload_n C dL_law_78 rfl ?_
    refine r_iconst C (nI 2) dL_law_79 rfl ?_
    refine r_iload C dL_law_80 rfl ?_
    refine r_imulN C dL_law_82 ?_
    refine r_iconst C (nI 1) dL_law_83 rfl ?_
    refine r_iaddN C dL_law_84 ?_
    refine r_callSS C hX hbs hB hh (c_L_at hl Γ B0 _ b L xs hL hB (2 * i + 1) (by omega)) lk_L_213 rfl rfl (Nat.le_of_ble_eq_true rfl) dL_law_85 ⟨by decide, by decide⟩ ⟨by omega, by omega⟩ (kk_rI (fun y w9 H locs hs9 hp9 hh => ?_))
    subst hp9
    refine r_callS0 C hh (c_L_acts hl Γ B0 ad P R M i h (by omega) x y) lk_L_217 rfl rfl (Nat.le_of_ble_eq_true rfl) dL_law_88 ⟨by decide, by decide⟩ ⟨by omega, by omega⟩ (kk_rI (fun r9 w9 H locs hs9 hp9 hh => ?_))
    obtain ⟨rfl, ad', P', R', M', h', e1, e30, rfl⟩ := hp9
    show f_W X9 H locs _ _ _ (LL b ad (some (.int (bI true))) (some (.int (nI i)))) _
    unfold LL
    rw [← e1, ← e30 1, ← e30 2, ← e30 3, ← e30 4]
    refine r_if_eqB (tgt := 121) C dL_law_91 (by decide) (fun h91 => absurd h91 (by decide)) (fun h91 => ?_)
    have jn117 : ∀ (H : Heap) (locs : List Loc), f_HS Γ B0 (wj (fw Γ ad' P') (xw Γ ad' R') (mw Γ ad' M')) X9 H locs → f_W X9 H locs (1000 + 650 * (i + 1)) (5000 + 4000 * (i + 1)) 117 (LL b ad' (some (.int (bI true))) (some (.int (nI i)))) [] := by
      intro H locs hh
      refine r_iconst C (bI true) dL_law_117 rfl ?_
      refine r_goto (tgt := 122) C dL_law_118 (by decide) ?_
      refine r_istore C dL_law_122 rfl rfl ?_
      refine r_iincN C dL_law_124 rfl rfl ?_
      refine r_goto (tgt := 50) C dL_law_127 (by decide) ?_
      exact ih (i + 1) P' R' M' ad' H locs (by omega) h' hh
    refine r_iload C dL_law_94 rfl ?_
    refine r_bipush C (nI 15) dL_law_96 rfl ?_
    refine r_iremN C dL_law_98 (by omega) (by omega) (by omega) ?_
    refine r_bipush C (nI 14) dL_law_99 rfl ?_
    refine r_icmp_ltN (tgt := 117) C dL_law_101 (by decide) (by omega) (by omega) (fun h101 => ?_) (fun h101 => ?_)
    · exact f_widen (by omega) (by omega) (jn117 H locs hh)
    · refine r_aload_n C dL_law_104 rfl ?_
      refine r_aload_n C dL_law_105 rfl ?_
      refine r_aload_n C dL_law_106 rfl ?_
      refine r_aload C dL_law_107 rfl ?_
      refine r_aload C dL_law_109 rfl ?_
      refine r_callS0 C hh (c_L_areLaid hl Γ B0 ad' P' R' M' (i + 1) h') lk_L_209 rfl rfl (Nat.le_of_ble_eq_true rfl) dL_law_111 ⟨by decide, by decide⟩ ⟨by omega, by omega⟩ (kk_is (fun H locs hs9 hh => ?_))
      refine r_if_eqB (tgt := 121) C dL_law_114 (by decide) (fun h114 => absurd h114 (by decide)) (fun h114 => ?_)
      exact f_widen (by omega) (by omega) (jn117 H locs hh)
set_option maxHeartbeats 4000000 in
theorem law_start (Q : f_law X9 Γ B0 b L xs) (hL : L ≤ 260) (hf : law_fin X9 Γ B0) (hh : f_HS Γ B0 (fun _ => none) X9 H locs) : f_W X9 H locs 0 0 0 [some (.ref b), none, none, none, none, none, none, none] [] := by
  have C := Q.1
  have hl := Q.2.1
  refine r_new (.inr (.inl (0, 0))) C hh rfl (ci := 4) rfl hinX4 tyX4 tyX4_ok kl_L_11 is_X4 in_X4 [.null, .int 0, .int 0, .null, .null, .int 0, .null, .null, .null, .int 0, .int 0, .int 0] fsX4 (by omega) (by omega) dL_law_0 (fun H1 hz9 hh => ?_)
  rw [wj_xi0 Γ] at hh
  generalize H.size = ax at hh ⊢
  refine r_dup C dL_law_3 rfl ?_
  refine r_callI0 C hh (c_X4_init hl Γ B0 (fun _ _ => ax) (fun _ => none)) lk_L_208 rfl (rest := [.ref ax]) rfl (Nat.le_of_ble_eq_true rfl) dL_law_4 ⟨by decide, by decide⟩ ⟨by omega, by omega⟩ (kk_rV fun w9 H locs hs9 hp9 hh => ?_)
  obtain ⟨ad, hax, rfl⟩ := hp9
  rw [mk4_n Γ] at hh
  refine r_astore_n C dL_law_7 rfl rfl ?_
  refine r_bipush C (nI 24) dL_law_8 rfl ?_
  refine r_newa (.inr (.inr 1)) C hh rfl 0 rfl rfl (fun _ z9 => by cases z9) ac_int (24, .inl (fun _ => 0)) (fun _ => rfl) (by decide) (by decide) (by omega) (by omega) dL_law_10 (fun H2 hz9 hh => ?_)
  rw [mk4_0 Γ] at hh
  generalize H.size = a1 at hh ⊢
  refine r_astore_n C dL_law_12 rfl rfl ?_
  refine r_bipush C (nI 24) dL_law_13 rfl ?_
  refine r_newa (.inr (.inr 2)) C hh rfl 0 rfl rfl (fun _ z9 => by cases z9) ac_int (24, .inl (fun _ => 0)) (fun _ => rfl) (by decide) (by decide) (by omega) (by omega) dL_law_15 (fun H3 hz9 hh => ?_)
  rw [mk4_1 Γ] at hh
  generalize H2.size = a2 at hh ⊢
  refine r_astore_n C dL_law_17 rfl rfl ?_
  refine r_bipush C (nI 16) dL_law_18 rfl ?_
  refine r_newa (.inr (.inr 3)) C hh rfl 0 rfl rfl (fun _ z9 => by cases z9) ac_int (16, .inl (fun _ => 0)) (fun _ => rfl) (by decide) (by decide) (by omega) (by omega) dL_law_20 (fun H4 hz9 hh => ?_)
  rw [mk4_2 Γ] at hh
  generalize H3.size = a3 at hh ⊢
  refine r_astore C dL_law_22 rfl rfl ?_
  refine r_bipush C (nI 6) dL_law_24 rfl ?_
  refine r_newa (.inr (.inr 4)) C hh rfl 0 rfl rfl (fun _ z9 => by cases z9) ac_int (6, .inl (fun _ => 0)) (fun _ => rfl) (by decide) (by decide) (by omega) (by omega) dL_law_26 (fun H5 hz9 hh => ?_)
  rw [mk4_3 Γ] at hh
  generalize H4.size = a4 at hh ⊢
  generalize hA0 : (fun j => if j = 4 then a4 else if j = 3 then a3 else if j = 2 then a2 else if j = 1 then a1 else (0 : Nat)) = as at hh
  rw [mk4_4 Γ _ _ as (ad := fun i j => if i = 30 then as j else ad i j) (fun j => if_pos rfl)] at hh
  rw [fw_ext Γ (ad := ad) (ad' := fun i j => if i = 30 then as j else ad i j) _ (fun j => rfl), xw_ext30 Γ (ad := ad) (ad' := fun i j => if i = 30 then as j else ad i j) _ (fun i j hi => (if_neg hi).symm)] at hh
  generalize hA : (fun i j => if i = 30 then as j else ad i j : Nat → Nat → Nat) = ad2 at hh
  have g1 : ad2 1 0 = ax := by rw [← hA]; exact hax
  have g31 : ad2 30 1 = a1 := by rw [← hA, ← hA0]; rfl
  have g32 : ad2 30 2 = a2 := by rw [← hA, ← hA0]; rfl
  have g33 : ad2 30 3 = a3 := by rw [← hA, ← hA0]; rfl
  have g34 : ad2 30 4 = a4 := by rw [← hA, ← hA0]; rfl
  rw [← g1, ← g31, ← g32, ← g33, ← g34]
  refine r_astore C dL_law_28 rfl rfl ?_
  refine r_aload C dL_law_30 rfl ?_
  refine r_iconst C (nI 3) dL_law_32 rfl ?_
  refine r_iconst C (nI 2) dL_law_33 rfl ?_
  refine as_m_g C hh (by decide) dL_law_34 (fun H locs hh => ?_)
  replace hh : f_HS Γ B0 (wj (fw Γ ad2 (fbZ zP 1 0)) (xw Γ ad2 zP) (mw Γ ad2 M0)) X9 H locs := hh
  refine r_aload_n C dL_law_35 rfl ?_
  refine r_aload_n C dL_law_36 rfl ?_
  refine r_aload_n C dL_law_37 rfl ?_
  refine r_aload C dL_law_38 rfl ?_
  refine r_aload C dL_law_40 rfl ?_
  refine r_callS0 C hh (c_L_areLaid hl Γ B0 ad2 (fbZ zP 1 0) zP M0 0 RZ_0) lk_L_209 rfl rfl (Nat.le_of_ble_eq_true rfl) dL_law_42 ⟨by decide, by decide⟩ ⟨by omega, by omega⟩ (kk_is (fun H locs hs9 hh => ?_))
  refine r_istore C dL_law_45 rfl rfl ?_
  refine r_iconst C (nI 0) dL_law_47 rfl ?_
  refine r_istore C dL_law_48 rfl rfl ?_
  exact f_widen (by omega) (by omega) (law_loop Q hL hf 150 0 (fbZ zP 1 0) zP M0 ad2 H locs (by omega) RZ_0 hh)
end LAWL
