/-! ===== the law's wrappers ===== -/
set_option maxHeartbeats 4000000 in
set_option maxRecDepth 100000 in
theorem c_L_insert {l : Launch} (hl : l.stackTraces = false) (Γ : fG) (B0 : Nat) (ad : Nat → Nat → Nat) (R : fR) (F : Nat → fO) (M : Nat → fO) (x y z : Int32) (hI : XI R) : f_MetW l yL_insert cL_insert 5 (some .int) [(0, 7, 8, 16), (0, 7, 13, 19), (0, 7, 18, 22)] 8 4 24 135 Γ B0 [.ref (ad 1 0), .int x, .int y, .int z] (wj F (xw Γ ad R) M) (f_rI (fun r9 w9 => (((rg x (R 0 0 0 + 1) ∧ (rg y 256 ∧ rg z 16)) ∧ (R 0 0 0 < 64 ∧ R 1 0 0 < 100)) ∧ r9 = nI (R 0 0 0 + 1) ∧ ∃ a1 a2, w9 = wj F (xw Γ (pgA ad (R 20 0 0) a1 a2) (insR R (xN x) (xN y) (xN z))) M) ∨ (((r9 = -1000001 ∧ ¬ rg x (R 0 0 0 + 1)) ∨ (r9 = -1000002 ∧ rg x (R 0 0 0 + 1) ∧ ¬ (rg y 256 ∧ rg z 16)) ∨ (r9 = -1000003 ∧ (rg x (R 0 0 0 + 1) ∧ (rg y 256 ∧ rg z 16)) ∧ ¬ (R 0 0 0 < 64 ∧ R 1 0 0 < 100))) ∧ w9 = wj F (xw Γ ad R) M))) := by
  refine f_ofW hl (by decide) rfl (Nat.le_of_ble_eq_true rfl) (fun X9 C E hh => ?_)
  generalize (f_s X9).heap = H, ([] : List Loc) = locs at hh ⊢
  refine r_aload_n C dL_insert_0 rfl ?_
  refine r_iload_n C dL_insert_1 rfl ?_
  refine r_iload_n C dL_insert_2 rfl ?_
  refine r_iload_n C dL_insert_3 rfl ?_
  refine r_callVH C E.2.1 hh (c_X4_insert E.2.1 Γ B0 ad R F M x y z hI) lk_L_10 (tr := .inr (.inl (0, 0))) rfl rfl rfl rfl (Nat.le_of_ble_eq_true rfl) dL_insert_4 ⟨by decide, by decide⟩ ⟨by omega, by omega⟩ ?_ ?_
  · rintro v w' H locs hs9 ⟨r, rfl, hp⟩ hh
    exact r_iretW C E hh dL_insert_7 (by omega) (by omega) ⟨r, rfl, Or.inl hp⟩
  · intro E9 w' H locs q ce hp hh hce hcv hcl
    obtain ⟨hx, hw⟩ := hp
    rcases hx with ⟨rfl, hx⟩ | ⟨rfl, hx⟩ | ⟨rfl, hx⟩
    · refine r_catch C E [] ⟨0, 7, 8, 16⟩ [⟨0, 7, 13, 19⟩, ⟨0, 7, 18, 22⟩] rfl (fun z hz => by cases hz) (by decide) (by decide) kl_L_16 (by decide) hce hcv hcl ?_
      refine r_astore C dL_insert_8 rfl rfl ?_
      refine r_ldc C ct_L_18 dL_insert_10 ?_
      exact r_iretW C E hh dL_insert_12 (by omega) (by omega) ⟨_, rfl, Or.inr ⟨Or.inl ⟨rfl, hx⟩, hw⟩⟩
    · refine r_catch C E [⟨0, 7, 8, 16⟩] ⟨0, 7, 13, 19⟩ [⟨0, 7, 18, 22⟩] rfl (fun z hz => by
          rcases List.mem_cons.mp hz with rfl | hz
          · exact ⟨by decide, _, kl_L_16, by decide⟩
          · cases hz) (by decide) (by decide) kl_L_19 (by decide) hce hcv hcl ?_
      refine r_astore C dL_insert_13 rfl rfl ?_
      refine r_ldc C ct_L_21 dL_insert_15 ?_
      exact r_iretW C E hh dL_insert_17 (by omega) (by omega) ⟨_, rfl, Or.inr ⟨Or.inr (Or.inl ⟨rfl, hx⟩), hw⟩⟩
    · refine r_catch C E [⟨0, 7, 8, 16⟩, ⟨0, 7, 13, 19⟩] ⟨0, 7, 18, 22⟩ [] rfl (fun z hz => by
          rcases List.mem_cons.mp hz with rfl | hz
          · exact ⟨by decide, _, kl_L_16, by decide⟩
          · rcases List.mem_cons.mp hz with rfl | hz
            · exact ⟨by decide, _, kl_L_19, by decide⟩
            · cases hz) (by decide) (by decide) kl_L_22 (by decide) hce hcv hcl ?_
      refine r_astore C dL_insert_18 rfl rfl ?_
      refine r_ldc C ct_L_24 dL_insert_20 ?_
      exact r_iretW C E hh dL_insert_22 (by omega) (by omega) ⟨_, rfl, Or.inr ⟨Or.inr (Or.inr ⟨rfl, hx⟩), hw⟩⟩
set_option maxHeartbeats 4000000 in
set_option maxRecDepth 100000 in
theorem c_L_remove {l : Launch} (hl : l.stackTraces = false) (Γ : fG) (B0 : Nat) (ad : Nat → Nat → Nat) (R : fR) (F : Nat → fO) (M : Nat → fO) (x : Int32) (hI : XI R) : f_MetW l yL_remove cL_remove 3 (some .int) [(0, 5, 6, 16)] 8 1 6 132 Γ B0 [.ref (ad 1 0), .int x] (wj F (xw Γ ad R) M) (f_rI (fun r9 w9 => (rg x (R 0 0 0) ∧ r9 = nI (R 0 0 0 - 1) ∧ w9 = wj F (xw Γ ad (rmR R (xN x))) M) ∨ ((r9 = -1000001 ∧ ¬ rg x (R 0 0 0)) ∧ w9 = wj F (xw Γ ad R) M))) := by
  refine f_ofW hl (by decide) rfl (Nat.le_of_ble_eq_true rfl) (fun X9 C E hh => ?_)
  generalize (f_s X9).heap = H, ([] : List Loc) = locs at hh ⊢
  refine r_aload_n C dL_remove_0 rfl ?_
  refine r_iload_n C dL_remove_1 rfl ?_
  refine r_callVH C E.2.1 hh (c_X4_remove E.2.1 Γ B0 ad R F M x hI) lk_L_25 (tr := .inr (.inl (0, 0))) rfl rfl rfl rfl (Nat.le_of_ble_eq_true rfl) dL_remove_2 ⟨by decide, by decide⟩ ⟨by omega, by omega⟩ ?_ ?_
  · rintro v w' H locs hs9 ⟨r, rfl, hp⟩ hh
    exact r_iretW C E hh dL_remove_5 (by omega) (by omega) ⟨r, rfl, Or.inl hp⟩
  · intro E9 w' H locs q ce hp hh hce hcv hcl
    obtain ⟨⟨rfl, hx⟩, hw⟩ := hp
    refine r_catch C E [] ⟨0, 5, 6, 16⟩ [] rfl (fun z hz => by cases hz) (by decide) (by decide) kl_L_16 (by decide) hce hcv hcl ?_
    refine r_astore_n C dL_remove_6 rfl rfl ?_
    refine r_ldc C ct_L_18 dL_remove_7 ?_
    exact r_iretW C E hh dL_remove_9 (by omega) (by omega) ⟨_, rfl, Or.inr ⟨⟨rfl, hx⟩, hw⟩⟩
set_option maxHeartbeats 4000000 in
set_option maxRecDepth 100000 in
theorem c_L_move {l : Launch} (hl : l.stackTraces = false) (Γ : fG) (B0 : Nat) (ad : Nat → Nat → Nat) (R : fR) (F : Nat → fO) (M : Nat → fO) (x y : Int32) (hI : XI R) : f_MetW l yL_move cL_move 4 (some .int) [(0, 7, 8, 16)] 8 2 12 135 Γ B0 [.ref (ad 1 0), .int x, .int y] (wj F (xw Γ ad R) M) (f_rI (fun r9 w9 => (r9 = 0 ∧ (rg x (R 0 0 0) ∧ rg y (R 0 0 0)) ∧ w9 = wj F (xw Γ ad (mvR R (xN x) (xN y))) M) ∨ ((r9 = -1000001 ∧ ¬ (rg x (R 0 0 0) ∧ rg y (R 0 0 0))) ∧ w9 = wj F (xw Γ ad R) M))) := by
  refine f_ofW hl (by decide) rfl (Nat.le_of_ble_eq_true rfl) (fun X9 C E hh => ?_)
  generalize (f_s X9).heap = H, ([] : List Loc) = locs at hh ⊢
  refine r_aload_n C dL_move_0 rfl ?_
  refine r_iload_n C dL_move_1 rfl ?_
  refine r_iload_n C dL_move_2 rfl ?_
  refine r_callVH C E.2.1 hh (c_X4_move E.2.1 Γ B0 ad R F M x y hI) lk_L_29 (tr := .inr (.inl (0, 0))) rfl rfl rfl rfl (Nat.le_of_ble_eq_true rfl) dL_move_3 ⟨by decide, by decide⟩ ⟨by omega, by omega⟩ ?_ ?_
  · rintro v w' H locs hs9 ⟨rfl, hp⟩ hh
    refine r_iconst C (0 : Int32) dL_move_6 rfl ?_
    exact r_iretW C E hh dL_move_7 (by omega) (by omega) ⟨0, rfl, Or.inl ⟨rfl, hp⟩⟩
  · intro E9 w' H locs q ce hp hh hce hcv hcl
    obtain ⟨⟨rfl, hx⟩, hw⟩ := hp
    refine r_catch C E [] ⟨0, 7, 8, 16⟩ [] rfl (fun z hz => by cases hz) (by decide) (by decide) kl_L_16 (by decide) hce hcv hcl ?_
    refine r_astore_n C dL_move_8 rfl rfl ?_
    refine r_ldc C ct_L_18 dL_move_9 ?_
    exact r_iretW C E hh dL_move_11 (by omega) (by omega) ⟨_, rfl, Or.inr ⟨⟨rfl, hx⟩, hw⟩⟩
set_option maxHeartbeats 4000000 in
set_option maxRecDepth 100000 in
theorem c_L_edit {l : Launch} (hl : l.stackTraces = false) (Γ : fG) (B0 : Nat) (ad : Nat → Nat → Nat) (R : fR) (F : Nat → fO) (M : Nat → fO) (x a b : Int32) (hI : XI R) : f_MetW l yL_edit cL_edit 5 (some .int) [(0, 7, 8, 16), (0, 7, 13, 19)] 8 2 12 134 Γ B0 [.ref (ad 1 0), .int x, .int a, .int b] (wj F (xw Γ ad R) M) (f_rI (fun r9 w9 => ((rg x (R 0 0 0) ∧ (rg a 256 ∧ rg b 16)) ∧ r9 = nI (R 15 (R 6 (xN x) 0 - 1) 0 + 1) ∧ w9 = wj F (xw Γ ad (rwr R (R 6 (xN x) 0 - 1) (xN a) (xN b))) M) ∨ (((r9 = -1000001 ∧ ¬ rg x (R 0 0 0)) ∨ (r9 = -1000002 ∧ rg x (R 0 0 0) ∧ ¬ (rg a 256 ∧ rg b 16))) ∧ w9 = wj F (xw Γ ad R) M))) := by
  refine f_ofW hl (by decide) rfl (Nat.le_of_ble_eq_true rfl) (fun X9 C E hh => ?_)
  generalize (f_s X9).heap = H, ([] : List Loc) = locs at hh ⊢
  refine r_aload_n C dL_edit_0 rfl ?_
  refine r_iload_n C dL_edit_1 rfl ?_
  refine r_iload_n C dL_edit_2 rfl ?_
  refine r_iload_n C dL_edit_3 rfl ?_
  refine r_callVH C E.2.1 hh (c_X4_edit E.2.1 Γ B0 ad R F M x a b hI) lk_L_33 (tr := .inr (.inl (0, 0))) rfl rfl rfl rfl (Nat.le_of_ble_eq_true rfl) dL_edit_4 ⟨by decide, by decide⟩ ⟨by omega, by omega⟩ ?_ ?_
  · rintro v w' H locs hs9 ⟨r, rfl, hp⟩ hh
    exact r_iretW C E hh dL_edit_7 (by omega) (by omega) ⟨r, rfl, Or.inl hp⟩
  · intro E9 w' H locs q ce hp hh hce hcv hcl
    obtain ⟨hx, hw⟩ := hp
    rcases hx with ⟨rfl, hx⟩ | ⟨rfl, hx⟩
    · refine r_catch C E [] ⟨0, 7, 8, 16⟩ [⟨0, 7, 13, 19⟩] rfl (fun z hz => by cases hz) (by decide) (by decide) kl_L_16 (by decide) hce hcv hcl ?_
      refine r_astore C dL_edit_8 rfl rfl ?_
      refine r_ldc C ct_L_18 dL_edit_10 ?_
      exact r_iretW C E hh dL_edit_12 (by omega) (by omega) ⟨_, rfl, Or.inr ⟨Or.inl ⟨rfl, hx⟩, hw⟩⟩
    · refine r_catch C E [⟨0, 7, 8, 16⟩] ⟨0, 7, 13, 19⟩ [] rfl (fun z hz => by
          rcases List.mem_cons.mp hz with rfl | hz
          · exact ⟨by decide, _, kl_L_16, by decide⟩
          · cases hz) (by decide) (by decide) kl_L_19 (by decide) hce hcv hcl ?_
      refine r_astore C dL_edit_13 rfl rfl ?_
      refine r_ldc C ct_L_21 dL_edit_15 ?_
      exact r_iretW C E hh dL_edit_17 (by omega) (by omega) ⟨_, rfl, Or.inr ⟨Or.inr ⟨rfl, hx⟩, hw⟩⟩
set_option maxHeartbeats 4000000 in
set_option maxRecDepth 100000 in
theorem c_L_replace {l : Launch} (hl : l.stackTraces = false) (Γ : fG) (B0 : Nat) (ad : Nat → Nat → Nat) (R : fR) (F : Nat → fO) (M : Nat → fO) (x y : Int32) (hI : XI R) (h15 : ∀ q, R 15 q 0 ≤ 900) : f_MetW l yL_replace cL_replace 4 (some .int) [(0, 6, 7, 19)] 8 3 18 135 Γ B0 [.ref (ad 1 0), .int x, .int y] (wj F (xw Γ ad R) M) (f_rI (fun r9 w9 => (((rg x 8 ∧ rg y 8) ∧ x ≠ y) ∧ r9 = nI (rpc R (xN x) (xN y) (R 0 0 0)) ∧ w9 = wj F (xw Γ ad (rpl R (xN x) (xN y) (R 0 0 0))) M) ∨ ((r9 = -1000002 ∧ ¬ ((rg x 8 ∧ rg y 8) ∧ x ≠ y)) ∧ w9 = wj F (xw Γ ad R) M))) := by
  refine f_ofW hl (by decide) rfl (Nat.le_of_ble_eq_true rfl) (fun X9 C E hh => ?_)
  generalize (f_s X9).heap = H, ([] : List Loc) = locs at hh ⊢
  refine r_aload_n C dL_replace_0 rfl ?_
  refine r_iload_n C dL_replace_1 rfl ?_
  refine r_iload_n C dL_replace_2 rfl ?_
  refine r_callVH C E.2.1 hh (c_X4_replace E.2.1 Γ B0 ad R F M x y hI h15) lk_L_36 (tr := .inr (.inl (0, 0))) rfl rfl rfl rfl (Nat.le_of_ble_eq_true rfl) dL_replace_3 ⟨by decide, by decide⟩ ⟨by omega, by omega⟩ ?_ ?_
  · rintro v w' H locs hs9 ⟨r, rfl, hp⟩ hh
    exact r_iretW C E hh dL_replace_6 (by omega) (by omega) ⟨r, rfl, Or.inl hp⟩
  · intro E9 w' H locs q ce hp hh hce hcv hcl
    obtain ⟨⟨rfl, hx⟩, hw⟩ := hp
    refine r_catch C E [] ⟨0, 6, 7, 19⟩ [] rfl (fun z hz => by cases hz) (by decide) (by decide) kl_L_19 (by decide) hce hcv hcl ?_
    refine r_astore_n C dL_replace_7 rfl rfl ?_
    refine r_ldc C ct_L_21 dL_replace_8 ?_
    exact r_iretW C E hh dL_replace_10 (by omega) (by omega) ⟨_, rfl, Or.inr ⟨⟨rfl, hx⟩, hw⟩⟩
set_option maxHeartbeats 4000000 in
set_option maxRecDepth 100000 in
theorem c_L_edition {l : Launch} (hl : l.stackTraces = false) (Γ : fG) (B0 : Nat) (ad : Nat → Nat → Nat) (R : fR) (F : Nat → fO) (M : Nat → fO) (x : Int32) (hI : XI R) : f_MetW l yL_edition cL_edition 3 (some .int) [(0, 5, 6, 16)] 8 1 6 132 Γ B0 [.ref (ad 1 0), .int x] (wj F (xw Γ ad R) M) (f_rI (fun r9 w9 => (rg x (R 0 0 0) ∧ r9 = nI (R 15 (R 6 (xN x) 0 - 1) 0) ∧ w9 = wj F (xw Γ ad R) M) ∨ ((r9 = -1000001 ∧ ¬ rg x (R 0 0 0)) ∧ w9 = wj F (xw Γ ad R) M))) := by
  refine f_ofW hl (by decide) rfl (Nat.le_of_ble_eq_true rfl) (fun X9 C E hh => ?_)
  generalize (f_s X9).heap = H, ([] : List Loc) = locs at hh ⊢
  refine r_aload_n C dL_edition_0 rfl ?_
  refine r_iload_n C dL_edition_1 rfl ?_
  refine r_callVH C E.2.1 hh (c_X4_edition E.2.1 Γ B0 ad R F M x hI) lk_L_40 (tr := .inr (.inl (0, 0))) rfl rfl rfl rfl (Nat.le_of_ble_eq_true rfl) dL_edition_2 ⟨by decide, by decide⟩ ⟨by omega, by omega⟩ ?_ ?_
  · rintro v w' H locs hs9 ⟨r, rfl, hp⟩ hh
    exact r_iretW C E hh dL_edition_5 (by omega) (by omega) ⟨r, rfl, Or.inl hp⟩
  · intro E9 w' H locs q ce hp hh hce hcv hcl
    obtain ⟨⟨rfl, hx⟩, hw⟩ := hp
    refine r_catch C E [] ⟨0, 5, 6, 16⟩ [] rfl (fun z hz => by cases hz) (by decide) (by decide) kl_L_16 (by decide) hce hcv hcl ?_
    refine r_astore_n C dL_edition_6 rfl rfl ?_
    refine r_ldc C ct_L_18 dL_edition_7 ?_
    exact r_iretW C E hh dL_edition_9 (by omega) (by omega) ⟨_, rfl, Or.inr ⟨⟨rfl, hx⟩, hw⟩⟩
set_option maxHeartbeats 4000000 in
set_option maxRecDepth 100000 in
theorem c_L_setFolds {l : Launch} (hl : l.stackTraces = false) (Γ : fG) (B0 : Nat) (ad : Nat → Nat → Nat) (P R : fR) (M : Nat → fO) (x y : Int32) (hP : FI P) (hn : R 0 0 0 ≤ 64) : f_MetW l yL_setFolds cL_setFolds 4 (some .int) [(0, 6, 7, 19)] 7 1 6 169 Γ B0 [.ref (ad 1 0), .int x, .int y] (wj (fw Γ ad P) (xw Γ ad R) M) (f_rI (fun r9 w9 => (((nI 1 ≤ x ∧ x < nI 5) ∧ rg y (2 ^ (2 * xN x))) ∧ r9 = nI (shc (fbZ P (xN x) (xN y)) R) ∧ w9 = wj (fw Γ ad (fbZ P (xN x) (xN y))) (xw Γ ad R) M) ∨ ((r9 = -1000002 ∧ ¬ ((nI 1 ≤ x ∧ x < nI 5) ∧ rg y (2 ^ (2 * xN x)))) ∧ w9 = wj (fw Γ ad P) (xw Γ ad R) M))) := by
  refine f_ofW hl (by decide) rfl (Nat.le_of_ble_eq_true rfl) (fun X9 C E hh => ?_)
  generalize (f_s X9).heap = H, ([] : List Loc) = locs at hh ⊢
  refine r_aload_n C dL_setFolds_0 rfl ?_
  refine r_iload_n C dL_setFolds_1 rfl ?_
  refine r_iload_n C dL_setFolds_2 rfl ?_
  refine r_callVH C E.2.1 hh (c_X4_setFolds E.2.1 Γ B0 ad P R M x y hP hn) lk_L_43 (tr := .inr (.inl (0, 0))) rfl rfl rfl rfl (Nat.le_of_ble_eq_true rfl) dL_setFolds_3 ⟨by decide, by decide⟩ ⟨by omega, by omega⟩ ?_ ?_
  · rintro v w' H locs hs9 ⟨r, rfl, hp⟩ hh
    exact r_iretW C E hh dL_setFolds_6 (by omega) (by omega) ⟨r, rfl, Or.inl hp⟩
  · intro E9 w' H locs q ce hp hh hce hcv hcl
    obtain ⟨⟨rfl, hx⟩, hw⟩ := hp
    refine r_catch C E [] ⟨0, 6, 7, 19⟩ [] rfl (fun z hz => by cases hz) (by decide) (by decide) kl_L_19 (by decide) hce hcv hcl ?_
    refine r_astore_n C dL_setFolds_7 rfl rfl ?_
    refine r_ldc C ct_L_21 dL_setFolds_8 ?_
    exact r_iretW C E hh dL_setFolds_10 (by omega) (by omega) ⟨_, rfl, Or.inr ⟨⟨rfl, hx⟩, hw⟩⟩
set_option maxHeartbeats 4000000 in
set_option maxRecDepth 100000 in
theorem c_L_pageAt {l : Launch} (hl : l.stackTraces = false) (Γ : fG) (B0 : Nat) (ad : Nat → Nat → Nat) (P R : fR) (M : Nat → fO) (a b c d : Int32) (hP : FI P) (hn : R 0 0 0 ≤ 64) : f_MetW l yL_pageAt cL_pageAt 6 (some .int) [(0, 9, 10, 16), (0, 9, 15, 19)] 9 2 12 160 Γ B0 [.ref (ad 1 0), .int a, .int b, .int c, .int d] (wj (fw Γ ad P) (xw Γ ad R) M) (f_rI (fun r9 w9 => (((rg a (shc P R) ∧ rg c (P 2 0 0) ∧ rg d (P 3 0 0)) ∧ rg b 2) ∧ r9 = plO P R (xN a) (P 6 ((xN c * P 3 0 0 + xN d) * 2 + xN b) 0) ∧ w9 = wj (fw Γ ad P) (xw Γ ad R) M) ∨ (((r9 = -1000001 ∧ ¬ (rg a (shc P R) ∧ rg c (P 2 0 0) ∧ rg d (P 3 0 0))) ∨ (r9 = -1000002 ∧ (rg a (shc P R) ∧ rg c (P 2 0 0) ∧ rg d (P 3 0 0)) ∧ ¬ rg b 2)) ∧ w9 = wj (fw Γ ad P) (xw Γ ad R) M))) := by
  refine f_ofW hl (by decide) rfl (Nat.le_of_ble_eq_true rfl) (fun X9 C E hh => ?_)
  generalize (f_s X9).heap = H, ([] : List Loc) = locs at hh ⊢
  refine r_aload_n C dL_pageAt_0 rfl ?_
  refine r_iload_n C dL_pageAt_1 rfl ?_
  refine r_iload_n C dL_pageAt_2 rfl ?_
  refine r_iload_n C dL_pageAt_3 rfl ?_
  refine r_iload C dL_pageAt_4 rfl ?_
  refine r_callVH C E.2.1 hh (c_X4_pageAt E.2.1 Γ B0 ad P R M a b c d hP hn) lk_L_46 (tr := .inr (.inl (0, 0))) rfl rfl rfl rfl (Nat.le_of_ble_eq_true rfl) dL_pageAt_6 ⟨by decide, by decide⟩ ⟨by omega, by omega⟩ ?_ ?_
  · rintro v w' H locs hs9 ⟨r, rfl, hp⟩ hh
    exact r_iretW C E hh dL_pageAt_9 (by omega) (by omega) ⟨r, rfl, Or.inl hp⟩
  · intro E9 w' H locs q ce hp hh hce hcv hcl
    obtain ⟨hx, hw⟩ := hp
    rcases hx with ⟨rfl, hx⟩ | ⟨rfl, hx⟩
    · refine r_catch C E [] ⟨0, 9, 10, 16⟩ [⟨0, 9, 15, 19⟩] rfl (fun z hz => by cases hz) (by decide) (by decide) kl_L_16 (by decide) hce hcv hcl ?_
      refine r_astore C dL_pageAt_10 rfl rfl ?_
      refine r_ldc C ct_L_18 dL_pageAt_12 ?_
      exact r_iretW C E hh dL_pageAt_14 (by omega) (by omega) ⟨_, rfl, Or.inr ⟨Or.inl ⟨rfl, hx⟩, hw⟩⟩
    · refine r_catch C E [⟨0, 9, 10, 16⟩] ⟨0, 9, 15, 19⟩ [] rfl (fun z hz => by
          rcases List.mem_cons.mp hz with rfl | hz
          · exact ⟨by decide, _, kl_L_16, by decide⟩
          · cases hz) (by decide) (by decide) kl_L_19 (by decide) hce hcv hcl ?_
      refine r_astore C dL_pageAt_15 rfl rfl ?_
      refine r_ldc C ct_L_21 dL_pageAt_17 ?_
      exact r_iretW C E hh dL_pageAt_19 (by omega) (by omega) ⟨_, rfl, Or.inr ⟨Or.inr ⟨rfl, hx⟩, hw⟩⟩
set_option maxHeartbeats 4000000 in
set_option maxRecDepth 100000 in
theorem c_L_pageByRule {l : Launch} (hl : l.stackTraces = false) (Γ : fG) (B0 : Nat) (ad : Nat → Nat → Nat) (P R : fR) (M : Nat → fO) (a b c d : Int32) (hJ : FJ P) (hn : R 0 0 0 ≤ 64) : f_MetW l yL_pageByRule cL_pageByRule 6 (some .int) [(0, 9, 10, 16), (0, 9, 15, 19)] 9 2 12 159 Γ B0 [.ref (ad 1 0), .int a, .int b, .int c, .int d] (wj (fw Γ ad P) (xw Γ ad R) M) (f_rI (fun r9 w9 => (((rg a (shc P R) ∧ rg c (P 2 0 0) ∧ rg d (P 3 0 0)) ∧ rg b 2) ∧ r9 = plO P R (xN a) (obr (kdP P) (P 2 0 0) (P 3 0 0) (P 0 0 0) (xN b) (xN c) (xN d)) ∧ w9 = wj (fw Γ ad P) (xw Γ ad R) M) ∨ (((r9 = -1000001 ∧ ¬ (rg a (shc P R) ∧ rg c (P 2 0 0) ∧ rg d (P 3 0 0))) ∨ (r9 = -1000002 ∧ (rg a (shc P R) ∧ rg c (P 2 0 0) ∧ rg d (P 3 0 0)) ∧ ¬ rg b 2)) ∧ w9 = wj (fw Γ ad P) (xw Γ ad R) M))) := by
  refine f_ofW hl (by decide) rfl (Nat.le_of_ble_eq_true rfl) (fun X9 C E hh => ?_)
  generalize (f_s X9).heap = H, ([] : List Loc) = locs at hh ⊢
  refine r_aload_n C dL_pageByRule_0 rfl ?_
  refine r_iload_n C dL_pageByRule_1 rfl ?_
  refine r_iload_n C dL_pageByRule_2 rfl ?_
  refine r_iload_n C dL_pageByRule_3 rfl ?_
  refine r_iload C dL_pageByRule_4 rfl ?_
  refine r_callVH C E.2.1 hh (c_X4_pageByRule E.2.1 Γ B0 ad P R M a b c d hJ hn) lk_L_50 (tr := .inr (.inl (0, 0))) rfl rfl rfl rfl (Nat.le_of_ble_eq_true rfl) dL_pageByRule_6 ⟨by decide, by decide⟩ ⟨by omega, by omega⟩ ?_ ?_
  · rintro v w' H locs hs9 ⟨r, rfl, hp⟩ hh
    exact r_iretW C E hh dL_pageByRule_9 (by omega) (by omega) ⟨r, rfl, Or.inl hp⟩
  · intro E9 w' H locs q ce hp hh hce hcv hcl
    obtain ⟨hx, hw⟩ := hp
    rcases hx with ⟨rfl, hx⟩ | ⟨rfl, hx⟩
    · refine r_catch C E [] ⟨0, 9, 10, 16⟩ [⟨0, 9, 15, 19⟩] rfl (fun z hz => by cases hz) (by decide) (by decide) kl_L_16 (by decide) hce hcv hcl ?_
      refine r_astore C dL_pageByRule_10 rfl rfl ?_
      refine r_ldc C ct_L_18 dL_pageByRule_12 ?_
      exact r_iretW C E hh dL_pageByRule_14 (by omega) (by omega) ⟨_, rfl, Or.inr ⟨Or.inl ⟨rfl, hx⟩, hw⟩⟩
    · refine r_catch C E [⟨0, 9, 10, 16⟩] ⟨0, 9, 15, 19⟩ [] rfl (fun z hz => by
          rcases List.mem_cons.mp hz with rfl | hz
          · exact ⟨by decide, _, kl_L_16, by decide⟩
          · cases hz) (by decide) (by decide) kl_L_19 (by decide) hce hcv hcl ?_
      refine r_astore C dL_pageByRule_15 rfl rfl ?_
      refine r_ldc C ct_L_21 dL_pageByRule_17 ?_
      exact r_iretW C E hh dL_pageByRule_19 (by omega) (by omega) ⟨_, rfl, Or.inr ⟨Or.inr ⟨rfl, hx⟩, hw⟩⟩
set_option maxHeartbeats 4000000 in
set_option maxRecDepth 100000 in
theorem c_L_leafOf {l : Launch} (hl : l.stackTraces = false) (Γ : fG) (B0 : Nat) (ad : Nat → Nat → Nat) (P R : fR) (M : Nat → fO) (x : Int32) (hP : FI P) (hn : R 0 0 0 ≤ 64) : f_MetW l yL_leafOf cL_leafOf 3 (some .int) [(0, 5, 6, 16)] 8 1 6 133 Γ B0 [.ref (ad 1 0), .int x] (wj (fw Γ ad P) (xw Γ ad R) M) (f_rI (fun r9 w9 => (rg x (R 0 0 0) ∧ r9 = nI (P 7 (xN x % pgs P) 0 % 2 * 16 + P 7 (xN x % pgs P) 0 / 2) ∧ w9 = wj (fw Γ ad P) (xw Γ ad R) M) ∨ ((r9 = -1000001 ∧ ¬ rg x (R 0 0 0)) ∧ w9 = wj (fw Γ ad P) (xw Γ ad R) M))) := by
  refine f_ofW hl (by decide) rfl (Nat.le_of_ble_eq_true rfl) (fun X9 C E hh => ?_)
  generalize (f_s X9).heap = H, ([] : List Loc) = locs at hh ⊢
  refine r_aload_n C dL_leafOf_0 rfl ?_
  refine r_iload_n C dL_leafOf_1 rfl ?_
  refine r_callVH C E.2.1 hh (c_X4_leafOf E.2.1 Γ B0 ad P R M x hP hn) lk_L_53 (tr := .inr (.inl (0, 0))) rfl rfl rfl rfl (Nat.le_of_ble_eq_true rfl) dL_leafOf_2 ⟨by decide, by decide⟩ ⟨by omega, by omega⟩ ?_ ?_
  · rintro v w' H locs hs9 ⟨r, rfl, hp⟩ hh
    exact r_iretW C E hh dL_leafOf_5 (by omega) (by omega) ⟨r, rfl, Or.inl hp⟩
  · intro E9 w' H locs q ce hp hh hce hcv hcl
    obtain ⟨⟨rfl, hx⟩, hw⟩ := hp
    refine r_catch C E [] ⟨0, 5, 6, 16⟩ [] rfl (fun z hz => by cases hz) (by decide) (by decide) kl_L_16 (by decide) hce hcv hcl ?_
    refine r_astore_n C dL_leafOf_6 rfl rfl ?_
    refine r_ldc C ct_L_18 dL_leafOf_7 ?_
    exact r_iretW C E hh dL_leafOf_9 (by omega) (by omega) ⟨_, rfl, Or.inr ⟨⟨rfl, hx⟩, hw⟩⟩
set_option maxHeartbeats 4000000 in
set_option maxRecDepth 100000 in
theorem c_L_isTurned {l : Launch} (hl : l.stackTraces = false) (Γ : fG) (B0 : Nat) (ad : Nat → Nat → Nat) (P R : fR) (M : Nat → fO) (x : Int32) (hP : FI P) (hn : R 0 0 0 ≤ 64) : f_MetW l yL_isTurned cL_isTurned 3 (some .int) [(0, 13, 14, 16)] 8 1 6 132 Γ B0 [.ref (ad 1 0), .int x] (wj (fw Γ ad P) (xw Γ ad R) M) (f_rI (fun r9 w9 => (rg x (R 0 0 0) ∧ r9 = bI (zB (P 5 (P 7 (xN x % pgs P) 0 / 2) 0)) ∧ w9 = wj (fw Γ ad P) (xw Γ ad R) M) ∨ ((r9 = -1000001 ∧ ¬ rg x (R 0 0 0)) ∧ w9 = wj (fw Γ ad P) (xw Γ ad R) M))) := by
  refine f_ofW hl (by decide) rfl (Nat.le_of_ble_eq_true rfl) (fun X9 C E hh => ?_)
  generalize (f_s X9).heap = H, ([] : List Loc) = locs at hh ⊢
  refine r_aload_n C dL_isTurned_0 rfl ?_
  refine r_iload_n C dL_isTurned_1 rfl ?_
  refine r_callVH C E.2.1 hh (c_X4_isTurned E.2.1 Γ B0 ad P R M x hP hn) lk_L_56 (tr := .inr (.inl (0, 0))) rfl rfl rfl rfl (Nat.le_of_ble_eq_true rfl) dL_isTurned_2 ⟨by decide, by decide⟩ ⟨by omega, by omega⟩ ?_ ?_
  · rintro v w' H locs hs9 ⟨r, rfl, hc, rfl, hp⟩ hh
    refine r_if_eqB (tgt := 12) C dL_isTurned_5 (by decide) (fun h9 => ?_) (fun h9 => ?_)
    · refine r_iconst C (bI false) dL_isTurned_12 rfl ?_
      exact r_iretW C E hh dL_isTurned_13 (by omega) (by omega) ⟨_, rfl, Or.inl ⟨hc, by rw [h9], hp⟩⟩
    · refine r_iconst C (bI true) dL_isTurned_8 rfl ?_
      refine r_goto (tgt := 13) C dL_isTurned_9 (by decide) ?_
      exact r_iretW C E hh dL_isTurned_13 (by omega) (by omega) ⟨_, rfl, Or.inl ⟨hc, by rw [h9], hp⟩⟩
  · intro E9 w' H locs q ce hp hh hce hcv hcl
    obtain ⟨⟨rfl, hx⟩, hw⟩ := hp
    refine r_catch C E [] ⟨0, 13, 14, 16⟩ [] rfl (fun z hz => by cases hz) (by decide) (by decide) kl_L_16 (by decide) hce hcv hcl ?_
    refine r_astore_n C dL_isTurned_14 rfl rfl ?_
    refine r_ldc C ct_L_18 dL_isTurned_15 ?_
    exact r_iretW C E hh dL_isTurned_17 (by omega) (by omega) ⟨_, rfl, Or.inr ⟨⟨rfl, hx⟩, hw⟩⟩
set_option maxHeartbeats 4000000 in
set_option maxRecDepth 100000 in
theorem c_L_setRight {l : Launch} (hl : l.stackTraces = false) (Γ : fG) (B0 : Nat) (ad : Nat → Nat → Nat) (P R : fR) (M : Nat → fO) (x a b : Int32) (hP : FI P) (hI : XI R) : f_MetW l yL_setRight cL_setRight 5 (some .int) [(0, 7, 8, 19)] 8 2 12 155 Γ B0 [.ref (ad 1 0), .int x, .int a, .int b] (wj (fw Γ ad P) (xw Γ ad R) M) (f_rI (fun r9 w9 => (okR x a b ∧ r9 = nI (csb P (srR P R (xN x) (xN a) (xN b)) 16) ∧ w9 = wj (fw Γ ad P) (xw Γ ad (srR P R (xN x) (xN a) (xN b))) M) ∨ ((r9 = -1000002 ∧ ¬ okR x a b) ∧ w9 = wj (fw Γ ad P) (xw Γ ad R) M))) := by
  refine f_ofW hl (by decide) rfl (Nat.le_of_ble_eq_true rfl) (fun X9 C E hh => ?_)
  generalize (f_s X9).heap = H, ([] : List Loc) = locs at hh ⊢
  refine r_aload_n C dL_setRight_0 rfl ?_
  refine r_iload_n C dL_setRight_1 rfl ?_
  refine r_iload_n C dL_setRight_2 rfl ?_
  refine r_iload_n C dL_setRight_3 rfl ?_
  refine r_callVH C E.2.1 hh (c_X4_setRight E.2.1 Γ B0 ad P R M x a b hP hI) lk_L_60 (tr := .inr (.inl (0, 0))) rfl rfl rfl rfl (Nat.le_of_ble_eq_true rfl) dL_setRight_4 ⟨by decide, by decide⟩ ⟨by omega, by omega⟩ ?_ ?_
  · rintro v w' H locs hs9 ⟨r, rfl, hp⟩ hh
    exact r_iretW C E hh dL_setRight_7 (by omega) (by omega) ⟨r, rfl, Or.inl hp⟩
  · intro E9 w' H locs q ce hp hh hce hcv hcl
    obtain ⟨⟨rfl, hx⟩, hw⟩ := hp
    refine r_catch C E [] ⟨0, 7, 8, 19⟩ [] rfl (fun z hz => by cases hz) (by decide) (by decide) kl_L_19 (by decide) hce hcv hcl ?_
    refine r_astore C dL_setRight_8 rfl rfl ?_
    refine r_ldc C ct_L_21 dL_setRight_10 ?_
    exact r_iretW C E hh dL_setRight_12 (by omega) (by omega) ⟨_, rfl, Or.inr ⟨⟨rfl, hx⟩, hw⟩⟩
set_option maxHeartbeats 4000000 in
set_option maxRecDepth 100000 in
theorem c_L_withdraw {l : Launch} (hl : l.stackTraces = false) (Γ : fG) (B0 : Nat) (ad : Nat → Nat → Nat) (P R : fR) (M : Nat → fO) (x : Int32) (hP : FI P) (hI : XI R) : f_MetW l yL_withdraw cL_withdraw 3 (some .int) [(0, 5, 6, 19), (0, 5, 10, 22)] 8 2 12 153 Γ B0 [.ref (ad 1 0), .int x] (wj (fw Γ ad P) (xw Γ ad R) M) (f_rI (fun r9 w9 => ((rg x 8 ∧ zB (R 10 (xN x) 0) = true) ∧ r9 = nI (csb P (wdR P R (xN x)) 16) ∧ w9 = wj (fw Γ ad P) (xw Γ ad (wdR P R (xN x))) M) ∨ (((r9 = -1000002 ∧ ¬ rg x 8) ∨ (r9 = -1000003 ∧ rg x 8 ∧ zB (R 10 (xN x) 0) = false)) ∧ w9 = wj (fw Γ ad P) (xw Γ ad R) M))) := by
  refine f_ofW hl (by decide) rfl (Nat.le_of_ble_eq_true rfl) (fun X9 C E hh => ?_)
  generalize (f_s X9).heap = H, ([] : List Loc) = locs at hh ⊢
  refine r_aload_n C dL_withdraw_0 rfl ?_
  refine r_iload_n C dL_withdraw_1 rfl ?_
  refine r_callVH C E.2.1 hh (c_X4_withdraw E.2.1 Γ B0 ad P R M x hP hI) lk_L_63 (tr := .inr (.inl (0, 0))) rfl rfl rfl rfl (Nat.le_of_ble_eq_true rfl) dL_withdraw_2 ⟨by decide, by decide⟩ ⟨by omega, by omega⟩ ?_ ?_
  · rintro v w' H locs hs9 ⟨r, rfl, hp⟩ hh
    exact r_iretW C E hh dL_withdraw_5 (by omega) (by omega) ⟨r, rfl, Or.inl hp⟩
  · intro E9 w' H locs q ce hp hh hce hcv hcl
    obtain ⟨hx, hw⟩ := hp
    rcases hx with ⟨rfl, hx⟩ | ⟨rfl, hx⟩
    · refine r_catch C E [] ⟨0, 5, 6, 19⟩ [⟨0, 5, 10, 22⟩] rfl (fun z hz => by cases hz) (by decide) (by decide) kl_L_19 (by decide) hce hcv hcl ?_
      refine r_astore_n C dL_withdraw_6 rfl rfl ?_
      refine r_ldc C ct_L_21 dL_withdraw_7 ?_
      exact r_iretW C E hh dL_withdraw_9 (by omega) (by omega) ⟨_, rfl, Or.inr ⟨Or.inl ⟨rfl, hx⟩, hw⟩⟩
    · refine r_catch C E [⟨0, 5, 6, 19⟩] ⟨0, 5, 10, 22⟩ [] rfl (fun z hz => by
          rcases List.mem_cons.mp hz with rfl | hz
          · exact ⟨by decide, _, kl_L_19, by decide⟩
          · cases hz) (by decide) (by decide) kl_L_22 (by decide) hce hcv hcl ?_
      refine r_astore_n C dL_withdraw_10 rfl rfl ?_
      refine r_ldc C ct_L_24 dL_withdraw_11 ?_
      exact r_iretW C E hh dL_withdraw_13 (by omega) (by omega) ⟨_, rfl, Or.inr ⟨Or.inr ⟨rfl, hx⟩, hw⟩⟩
set_option maxHeartbeats 4000000 in
set_option maxRecDepth 100000 in
theorem c_L_pass {l : Launch} (hl : l.stackTraces = false) (Γ : fG) (B0 : Nat) (ad : Nat → Nat → Nat) (P R : fR) (M : Nat → fO) (x : Int32) (hP : FI P) (hI : XI R) (hd : R 2 0 0 ≤ 99000) : f_MetW l yL_pass cL_pass 3 (some .int) [(0, 5, 6, 19)] 7 1 6 153 Γ B0 [.ref (ad 1 0), .int x] (wj (fw Γ ad P) (xw Γ ad R) M) (f_rI (fun r9 w9 => ((nI 1 ≤ x ∧ x < nI 101) ∧ r9 = nI (csb P (psR P R (xN x)) 16) ∧ w9 = wj (fw Γ ad P) (xw Γ ad (psR P R (xN x))) M) ∨ ((r9 = -1000002 ∧ ¬ (nI 1 ≤ x ∧ x < nI 101)) ∧ w9 = wj (fw Γ ad P) (xw Γ ad R) M))) := by
  refine f_ofW hl (by decide) rfl (Nat.le_of_ble_eq_true rfl) (fun X9 C E hh => ?_)
  generalize (f_s X9).heap = H, ([] : List Loc) = locs at hh ⊢
  refine r_aload_n C dL_pass_0 rfl ?_
  refine r_iload_n C dL_pass_1 rfl ?_
  refine r_callVH C E.2.1 hh (c_X4_pass E.2.1 Γ B0 ad P R M x hP hI hd) lk_L_66 (tr := .inr (.inl (0, 0))) rfl rfl rfl rfl (Nat.le_of_ble_eq_true rfl) dL_pass_2 ⟨by decide, by decide⟩ ⟨by omega, by omega⟩ ?_ ?_
  · rintro v w' H locs hs9 ⟨r, rfl, hp⟩ hh
    exact r_iretW C E hh dL_pass_5 (by omega) (by omega) ⟨r, rfl, Or.inl hp⟩
  · intro E9 w' H locs q ce hp hh hce hcv hcl
    obtain ⟨⟨rfl, hx⟩, hw⟩ := hp
    refine r_catch C E [] ⟨0, 5, 6, 19⟩ [] rfl (fun z hz => by cases hz) (by decide) (by decide) kl_L_19 (by decide) hce hcv hcl ?_
    refine r_astore_n C dL_pass_6 rfl rfl ?_
    refine r_ldc C ct_L_21 dL_pass_7 ?_
    exact r_iretW C E hh dL_pass_9 (by omega) (by omega) ⟨_, rfl, Or.inr ⟨⟨rfl, hx⟩, hw⟩⟩
set_option maxHeartbeats 4000000 in
set_option maxRecDepth 100000 in
theorem c_L_mayUse {l : Launch} (hl : l.stackTraces = false) (Γ : fG) (B0 : Nat) (ad : Nat → Nat → Nat) (R : fR) (F : Nat → fO) (M : Nat → fO) (x : Int32) (hI : XI R) : f_MetW l yL_mayUse cL_mayUse 3 (some .int) [(0, 13, 14, 19)] 8 1 6 131 Γ B0 [.ref (ad 1 0), .int x] (wj F (xw Γ ad R) M) (f_rI (fun r9 w9 => (rg x 8 ∧ r9 = bI (us R (xN x)) ∧ w9 = wj F (xw Γ ad R) M) ∨ ((r9 = -1000002 ∧ ¬ rg x 8) ∧ w9 = wj F (xw Γ ad R) M))) := by
  refine f_ofW hl (by decide) rfl (Nat.le_of_ble_eq_true rfl) (fun X9 C E hh => ?_)
  generalize (f_s X9).heap = H, ([] : List Loc) = locs at hh ⊢
  refine r_aload_n C dL_mayUse_0 rfl ?_
  refine r_iload_n C dL_mayUse_1 rfl ?_
  refine r_callVH C E.2.1 hh (c_X4_mayUse E.2.1 Γ B0 ad R F M x hI) lk_L_69 (tr := .inr (.inl (0, 0))) rfl rfl rfl rfl (Nat.le_of_ble_eq_true rfl) dL_mayUse_2 ⟨by decide, by decide⟩ ⟨by omega, by omega⟩ ?_ ?_
  · rintro v w' H locs hs9 ⟨r, rfl, hc, rfl, hp⟩ hh
    refine r_if_eqB (tgt := 12) C dL_mayUse_5 (by decide) (fun h9 => ?_) (fun h9 => ?_)
    · refine r_iconst C (bI false) dL_mayUse_12 rfl ?_
      exact r_iretW C E hh dL_mayUse_13 (by omega) (by omega) ⟨_, rfl, Or.inl ⟨hc, by rw [h9], hp⟩⟩
    · refine r_iconst C (bI true) dL_mayUse_8 rfl ?_
      refine r_goto (tgt := 13) C dL_mayUse_9 (by decide) ?_
      exact r_iretW C E hh dL_mayUse_13 (by omega) (by omega) ⟨_, rfl, Or.inl ⟨hc, by rw [h9], hp⟩⟩
  · intro E9 w' H locs q ce hp hh hce hcv hcl
    obtain ⟨⟨rfl, hx⟩, hw⟩ := hp
    refine r_catch C E [] ⟨0, 13, 14, 19⟩ [] rfl (fun z hz => by cases hz) (by decide) (by decide) kl_L_19 (by decide) hce hcv hcl ?_
    refine r_astore_n C dL_mayUse_14 rfl rfl ?_
    refine r_ldc C ct_L_21 dL_mayUse_15 ?_
    exact r_iretW C E hh dL_mayUse_17 (by omega) (by omega) ⟨_, rfl, Or.inr ⟨⟨rfl, hx⟩, hw⟩⟩
set_option maxHeartbeats 4000000 in
set_option maxRecDepth 100000 in
theorem c_L_prove {l : Launch} (hl : l.stackTraces = false) (Γ : fG) (B0 : Nat) (ad : Nat → Nat → Nat) (R : fR) (F : Nat → fO) (M : Nat → fO) (x y : Int32) (hI : XI R) : f_MetW l yL_prove cL_prove 4 (some .int) [(0, 6, 7, 16), (0, 6, 11, 19), (0, 6, 15, 22)] 8 3 18 134 Γ B0 [.ref (ad 1 0), .int x, .int y] (wj F (xw Γ ad R) M) (f_rI (fun r9 w9 => (((rg x (R 0 0 0) ∧ rg y 4) ∧ pvC R (R 6 (xN x) 0 - 1) (xN y) = true) ∧ r9 = nI (cnt (pvR R (R 6 (xN x) 0 - 1) (xN y) 16 (R 6 (xN x) 0 - 1)) 1 4 + cnt (pvR R (R 6 (xN x) 0 - 1) (xN y) 16 (R 6 (xN x) 0 - 1)) 2 4) ∧ w9 = wj F (xw Γ ad (pvR R (R 6 (xN x) 0 - 1) (xN y))) M) ∨ (((r9 = -1000001 ∧ ¬ rg x (R 0 0 0)) ∨ (r9 = -1000002 ∧ rg x (R 0 0 0) ∧ ¬ rg y 4) ∨ (r9 = -1000003 ∧ (rg x (R 0 0 0) ∧ rg y 4) ∧ pvC R (R 6 (xN x) 0 - 1) (xN y) = false)) ∧ w9 = wj F (xw Γ ad R) M))) := by
  refine f_ofW hl (by decide) rfl (Nat.le_of_ble_eq_true rfl) (fun X9 C E hh => ?_)
  generalize (f_s X9).heap = H, ([] : List Loc) = locs at hh ⊢
  refine r_aload_n C dL_prove_0 rfl ?_
  refine r_iload_n C dL_prove_1 rfl ?_
  refine r_iload_n C dL_prove_2 rfl ?_
  refine r_callVH C E.2.1 hh (c_X4_prove E.2.1 Γ B0 ad R F M x y hI) lk_L_72 (tr := .inr (.inl (0, 0))) rfl rfl rfl rfl (Nat.le_of_ble_eq_true rfl) dL_prove_3 ⟨by decide, by decide⟩ ⟨by omega, by omega⟩ ?_ ?_
  · rintro v w' H locs hs9 ⟨r, rfl, hp⟩ hh
    exact r_iretW C E hh dL_prove_6 (by omega) (by omega) ⟨r, rfl, Or.inl hp⟩
  · intro E9 w' H locs q ce hp hh hce hcv hcl
    obtain ⟨hx, hw⟩ := hp
    rcases hx with ⟨rfl, hx⟩ | ⟨rfl, hx⟩ | ⟨rfl, hx⟩
    · refine r_catch C E [] ⟨0, 6, 7, 16⟩ [⟨0, 6, 11, 19⟩, ⟨0, 6, 15, 22⟩] rfl (fun z hz => by cases hz) (by decide) (by decide) kl_L_16 (by decide) hce hcv hcl ?_
      refine r_astore_n C dL_prove_7 rfl rfl ?_
      refine r_ldc C ct_L_18 dL_prove_8 ?_
      exact r_iretW C E hh dL_prove_10 (by omega) (by omega) ⟨_, rfl, Or.inr ⟨Or.inl ⟨rfl, hx⟩, hw⟩⟩
    · refine r_catch C E [⟨0, 6, 7, 16⟩] ⟨0, 6, 11, 19⟩ [⟨0, 6, 15, 22⟩] rfl (fun z hz => by
          rcases List.mem_cons.mp hz with rfl | hz
          · exact ⟨by decide, _, kl_L_16, by decide⟩
          · cases hz) (by decide) (by decide) kl_L_19 (by decide) hce hcv hcl ?_
      refine r_astore_n C dL_prove_11 rfl rfl ?_
      refine r_ldc C ct_L_21 dL_prove_12 ?_
      exact r_iretW C E hh dL_prove_14 (by omega) (by omega) ⟨_, rfl, Or.inr ⟨Or.inr (Or.inl ⟨rfl, hx⟩), hw⟩⟩
    · refine r_catch C E [⟨0, 6, 7, 16⟩, ⟨0, 6, 11, 19⟩] ⟨0, 6, 15, 22⟩ [] rfl (fun z hz => by
          rcases List.mem_cons.mp hz with rfl | hz
          · exact ⟨by decide, _, kl_L_16, by decide⟩
          · rcases List.mem_cons.mp hz with rfl | hz
            · exact ⟨by decide, _, kl_L_19, by decide⟩
            · cases hz) (by decide) (by decide) kl_L_22 (by decide) hce hcv hcl ?_
      refine r_astore_n C dL_prove_15 rfl rfl ?_
      refine r_ldc C ct_L_24 dL_prove_16 ?_
      exact r_iretW C E hh dL_prove_18 (by omega) (by omega) ⟨_, rfl, Or.inr ⟨Or.inr (Or.inr ⟨rfl, hx⟩), hw⟩⟩
set_option maxHeartbeats 4000000 in
set_option maxRecDepth 100000 in
theorem c_L_judge {l : Launch} (hl : l.stackTraces = false) (Γ : fG) (B0 : Nat) (ad : Nat → Nat → Nat) (R : fR) (F : Nat → fO) (M : Nat → fO) (x y : Int32) (b : Bool) (hI : XI R) : f_MetW l yL_judge cL_judge 5 (some .int) [(0, 15, 16, 16), (0, 15, 21, 19), (0, 15, 26, 22)] 8 3 18 135 Γ B0 [.ref (ad 1 0), .int x, .int y, .int (bI b)] (wj F (xw Γ ad R) M) (f_rI (fun r9 w9 => (((rg x (R 0 0 0) ∧ rg y 4) ∧ jdC R (R 6 (xN x) 0 - 1) (xN y) = true) ∧ r9 = bI (fin (jdR R (R 6 (xN x) 0 - 1) (xN y) b) (R 6 (xN x) 0 - 1)) ∧ w9 = wj F (xw Γ ad (jdR R (R 6 (xN x) 0 - 1) (xN y) b)) M) ∨ (((r9 = -1000001 ∧ ¬ rg x (R 0 0 0)) ∨ (r9 = -1000002 ∧ rg x (R 0 0 0) ∧ ¬ rg y 4) ∨ (r9 = -1000003 ∧ (rg x (R 0 0 0) ∧ rg y 4) ∧ jdC R (R 6 (xN x) 0 - 1) (xN y) = false)) ∧ w9 = wj F (xw Γ ad R) M))) := by
  refine f_ofW hl (by decide) rfl (Nat.le_of_ble_eq_true rfl) (fun X9 C E hh => ?_)
  generalize (f_s X9).heap = H, ([] : List Loc) = locs at hh ⊢
  refine r_aload_n C dL_judge_0 rfl ?_
  refine r_iload_n C dL_judge_1 rfl ?_
  refine r_iload_n C dL_judge_2 rfl ?_
  refine r_iload_n C dL_judge_3 rfl ?_
  refine r_callVH C E.2.1 hh (c_X4_judge E.2.1 Γ B0 ad R F M x y b hI) lk_L_75 (tr := .inr (.inl (0, 0))) rfl rfl rfl rfl (Nat.le_of_ble_eq_true rfl) dL_judge_4 ⟨by decide, by decide⟩ ⟨by omega, by omega⟩ ?_ ?_
  · rintro v w' H locs hs9 ⟨r, rfl, hc, rfl, hp⟩ hh
    refine r_if_eqB (tgt := 14) C dL_judge_7 (by decide) (fun h9 => ?_) (fun h9 => ?_)
    · refine r_iconst C (bI false) dL_judge_14 rfl ?_
      exact r_iretW C E hh dL_judge_15 (by omega) (by omega) ⟨_, rfl, Or.inl ⟨hc, by rw [h9], hp⟩⟩
    · refine r_iconst C (bI true) dL_judge_10 rfl ?_
      refine r_goto (tgt := 15) C dL_judge_11 (by decide) ?_
      exact r_iretW C E hh dL_judge_15 (by omega) (by omega) ⟨_, rfl, Or.inl ⟨hc, by rw [h9], hp⟩⟩
  · intro E9 w' H locs q ce hp hh hce hcv hcl
    obtain ⟨hx, hw⟩ := hp
    rcases hx with ⟨rfl, hx⟩ | ⟨rfl, hx⟩ | ⟨rfl, hx⟩
    · refine r_catch C E [] ⟨0, 15, 16, 16⟩ [⟨0, 15, 21, 19⟩, ⟨0, 15, 26, 22⟩] rfl (fun z hz => by cases hz) (by decide) (by decide) kl_L_16 (by decide) hce hcv hcl ?_
      refine r_astore C dL_judge_16 rfl rfl ?_
      refine r_ldc C ct_L_18 dL_judge_18 ?_
      exact r_iretW C E hh dL_judge_20 (by omega) (by omega) ⟨_, rfl, Or.inr ⟨Or.inl ⟨rfl, hx⟩, hw⟩⟩
    · refine r_catch C E [⟨0, 15, 16, 16⟩] ⟨0, 15, 21, 19⟩ [⟨0, 15, 26, 22⟩] rfl (fun z hz => by
          rcases List.mem_cons.mp hz with rfl | hz
          · exact ⟨by decide, _, kl_L_16, by decide⟩
          · cases hz) (by decide) (by decide) kl_L_19 (by decide) hce hcv hcl ?_
      refine r_astore C dL_judge_21 rfl rfl ?_
      refine r_ldc C ct_L_21 dL_judge_23 ?_
      exact r_iretW C E hh dL_judge_25 (by omega) (by omega) ⟨_, rfl, Or.inr ⟨Or.inr (Or.inl ⟨rfl, hx⟩), hw⟩⟩
    · refine r_catch C E [⟨0, 15, 16, 16⟩, ⟨0, 15, 21, 19⟩] ⟨0, 15, 26, 22⟩ [] rfl (fun z hz => by
          rcases List.mem_cons.mp hz with rfl | hz
          · exact ⟨by decide, _, kl_L_16, by decide⟩
          · rcases List.mem_cons.mp hz with rfl | hz
            · exact ⟨by decide, _, kl_L_19, by decide⟩
            · cases hz) (by decide) (by decide) kl_L_22 (by decide) hce hcv hcl ?_
      refine r_astore C dL_judge_26 rfl rfl ?_
      refine r_ldc C ct_L_24 dL_judge_28 ?_
      exact r_iretW C E hh dL_judge_30 (by omega) (by omega) ⟨_, rfl, Or.inr ⟨Or.inr (Or.inr ⟨rfl, hx⟩), hw⟩⟩
set_option maxHeartbeats 4000000 in
set_option maxRecDepth 100000 in
theorem c_L_proof {l : Launch} (hl : l.stackTraces = false) (Γ : fG) (B0 : Nat) (ad : Nat → Nat → Nat) (R : fR) (F : Nat → fO) (M : Nat → fO) (x y : Int32) (hI : XI R) : f_MetW l yL_proof cL_proof 4 (some .int) [(0, 6, 7, 16), (0, 6, 11, 19)] 8 2 12 134 Γ B0 [.ref (ad 1 0), .int x, .int y] (wj F (xw Γ ad R) M) (f_rI (fun r9 w9 => ((rg x (R 0 0 0) ∧ rg y 4) ∧ r9 = prf R (R 6 (xN x) 0 - 1) (xN y) ∧ w9 = wj F (xw Γ ad R) M) ∨ (((r9 = -1000001 ∧ ¬ rg x (R 0 0 0)) ∨ (r9 = -1000002 ∧ rg x (R 0 0 0) ∧ ¬ rg y 4)) ∧ w9 = wj F (xw Γ ad R) M))) := by
  refine f_ofW hl (by decide) rfl (Nat.le_of_ble_eq_true rfl) (fun X9 C E hh => ?_)
  generalize (f_s X9).heap = H, ([] : List Loc) = locs at hh ⊢
  refine r_aload_n C dL_proof_0 rfl ?_
  refine r_iload_n C dL_proof_1 rfl ?_
  refine r_iload_n C dL_proof_2 rfl ?_
  refine r_callVH C E.2.1 hh (c_X4_proof E.2.1 Γ B0 ad R F M x y hI) lk_L_79 (tr := .inr (.inl (0, 0))) rfl rfl rfl rfl (Nat.le_of_ble_eq_true rfl) dL_proof_3 ⟨by decide, by decide⟩ ⟨by omega, by omega⟩ ?_ ?_
  · rintro v w' H locs hs9 ⟨r, rfl, hp⟩ hh
    exact r_iretW C E hh dL_proof_6 (by omega) (by omega) ⟨r, rfl, Or.inl hp⟩
  · intro E9 w' H locs q ce hp hh hce hcv hcl
    obtain ⟨hx, hw⟩ := hp
    rcases hx with ⟨rfl, hx⟩ | ⟨rfl, hx⟩
    · refine r_catch C E [] ⟨0, 6, 7, 16⟩ [⟨0, 6, 11, 19⟩] rfl (fun z hz => by cases hz) (by decide) (by decide) kl_L_16 (by decide) hce hcv hcl ?_
      refine r_astore_n C dL_proof_7 rfl rfl ?_
      refine r_ldc C ct_L_18 dL_proof_8 ?_
      exact r_iretW C E hh dL_proof_10 (by omega) (by omega) ⟨_, rfl, Or.inr ⟨Or.inl ⟨rfl, hx⟩, hw⟩⟩
    · refine r_catch C E [⟨0, 6, 7, 16⟩] ⟨0, 6, 11, 19⟩ [] rfl (fun z hz => by
          rcases List.mem_cons.mp hz with rfl | hz
          · exact ⟨by decide, _, kl_L_16, by decide⟩
          · cases hz) (by decide) (by decide) kl_L_19 (by decide) hce hcv hcl ?_
      refine r_astore_n C dL_proof_11 rfl rfl ?_
      refine r_ldc C ct_L_21 dL_proof_12 ?_
      exact r_iretW C E hh dL_proof_14 (by omega) (by omega) ⟨_, rfl, Or.inr ⟨Or.inr ⟨rfl, hx⟩, hw⟩⟩
set_option maxHeartbeats 4000000 in
set_option maxRecDepth 100000 in
theorem c_L_isReady {l : Launch} (hl : l.stackTraces = false) (Γ : fG) (B0 : Nat) (ad : Nat → Nat → Nat) (P R : fR) (M : Nat → fO) (x : Int32) (hP : FI P) (hI : XI R) : f_MetW l yL_isReady cL_isReady 3 (some .int) [(0, 13, 14, 16)] 8 1 6 132 Γ B0 [.ref (ad 1 0), .int x] (wj (fw Γ ad P) (xw Γ ad R) M) (f_rI (fun r9 w9 => (rg x (shc P R) ∧ r9 = bI (afo P R (xN x)) ∧ w9 = wj (fw Γ ad P) (xw Γ ad R) M) ∨ ((r9 = -1000001 ∧ ¬ rg x (shc P R)) ∧ w9 = wj (fw Γ ad P) (xw Γ ad R) M))) := by
  refine f_ofW hl (by decide) rfl (Nat.le_of_ble_eq_true rfl) (fun X9 C E hh => ?_)
  generalize (f_s X9).heap = H, ([] : List Loc) = locs at hh ⊢
  refine r_aload_n C dL_isReady_0 rfl ?_
  refine r_iload_n C dL_isReady_1 rfl ?_
  refine r_callVH C E.2.1 hh (c_X4_isReady E.2.1 Γ B0 ad P R M x hP hI) lk_L_82 (tr := .inr (.inl (0, 0))) rfl rfl rfl rfl (Nat.le_of_ble_eq_true rfl) dL_isReady_2 ⟨by decide, by decide⟩ ⟨by omega, by omega⟩ ?_ ?_
  · rintro v w' H locs hs9 ⟨r, rfl, hc, rfl, hp⟩ hh
    refine r_if_eqB (tgt := 12) C dL_isReady_5 (by decide) (fun h9 => ?_) (fun h9 => ?_)
    · refine r_iconst C (bI false) dL_isReady_12 rfl ?_
      exact r_iretW C E hh dL_isReady_13 (by omega) (by omega) ⟨_, rfl, Or.inl ⟨hc, by rw [h9], hp⟩⟩
    · refine r_iconst C (bI true) dL_isReady_8 rfl ?_
      refine r_goto (tgt := 13) C dL_isReady_9 (by decide) ?_
      exact r_iretW C E hh dL_isReady_13 (by omega) (by omega) ⟨_, rfl, Or.inl ⟨hc, by rw [h9], hp⟩⟩
  · intro E9 w' H locs q ce hp hh hce hcv hcl
    obtain ⟨⟨rfl, hx⟩, hw⟩ := hp
    refine r_catch C E [] ⟨0, 13, 14, 16⟩ [] rfl (fun z hz => by cases hz) (by decide) (by decide) kl_L_16 (by decide) hce hcv hcl ?_
    refine r_astore_n C dL_isReady_14 rfl rfl ?_
    refine r_ldc C ct_L_18 dL_isReady_15 ?_
    exact r_iretW C E hh dL_isReady_17 (by omega) (by omega) ⟨_, rfl, Or.inr ⟨⟨rfl, hx⟩, hw⟩⟩
set_option maxHeartbeats 4000000 in
set_option maxRecDepth 100000 in
theorem c_L_makePlates {l : Launch} (hl : l.stackTraces = false) (Γ : fG) (B0 : Nat) (ad : Nat → Nat → Nat) (P R : fR) (M : Nat → fO) (x : Int32) (hP : FI P) (hI : XI R) (h4 : R 4 0 0 ≤ 890000) : f_MetW l yL_makePlates cL_makePlates 3 (some .int) [(0, 5, 6, 16), (0, 5, 10, 22)] 8 18 164 154 Γ B0 [.ref (ad 1 0), .int x] (wj (fw Γ ad P) (xw Γ ad R) M) (f_rI (fun r9 w9 => ((rg x (shc P R) ∧ afo P R (xN x) = true) ∧ r9 = nI (mks P R (xN x) 8 4 0 0 - R 4 0 0) ∧ ∃ f g, w9 = wj (fw Γ (adP ad f g) P) (xw Γ (adP ad f g) (mks P R (xN x) 8)) M) ∨ (((r9 = -1000001 ∧ ¬ rg x (shc P R)) ∨ (r9 = -1000003 ∧ rg x (shc P R) ∧ afo P R (xN x) = false)) ∧ w9 = wj (fw Γ ad P) (xw Γ ad R) M))) := by
  refine f_ofW hl (by decide) rfl (Nat.le_of_ble_eq_true rfl) (fun X9 C E hh => ?_)
  generalize (f_s X9).heap = H, ([] : List Loc) = locs at hh ⊢
  refine r_aload_n C dL_makePlates_0 rfl ?_
  refine r_iload_n C dL_makePlates_1 rfl ?_
  refine r_callVH C E.2.1 hh (c_X4_makePlates E.2.1 Γ B0 ad P R M x hP hI h4) lk_L_85 (tr := .inr (.inl (0, 0))) rfl rfl rfl rfl (Nat.le_of_ble_eq_true rfl) dL_makePlates_2 ⟨by decide, by decide⟩ ⟨by omega, by omega⟩ ?_ ?_
  · rintro v w' H locs hs9 ⟨r, rfl, hp⟩ hh
    exact r_iretW C E hh dL_makePlates_5 (by omega) (by omega) ⟨r, rfl, Or.inl hp⟩
  · intro E9 w' H locs q ce hp hh hce hcv hcl
    obtain ⟨hx, hw⟩ := hp
    rcases hx with ⟨rfl, hx⟩ | ⟨rfl, hx⟩
    · refine r_catch C E [] ⟨0, 5, 6, 16⟩ [⟨0, 5, 10, 22⟩] rfl (fun z hz => by cases hz) (by decide) (by decide) kl_L_16 (by decide) hce hcv hcl ?_
      refine r_astore_n C dL_makePlates_6 rfl rfl ?_
      refine r_ldc C ct_L_18 dL_makePlates_7 ?_
      exact r_iretW C E hh dL_makePlates_9 (by omega) (by omega) ⟨_, rfl, Or.inr ⟨Or.inl ⟨rfl, hx⟩, hw⟩⟩
    · refine r_catch C E [⟨0, 5, 6, 16⟩] ⟨0, 5, 10, 22⟩ [] rfl (fun z hz => by
          rcases List.mem_cons.mp hz with rfl | hz
          · exact ⟨by decide, _, kl_L_16, by decide⟩
          · cases hz) (by decide) (by decide) kl_L_22 (by decide) hce hcv hcl ?_
      refine r_astore_n C dL_makePlates_10 rfl rfl ?_
      refine r_ldc C ct_L_24 dL_makePlates_11 ?_
      exact r_iretW C E hh dL_makePlates_13 (by omega) (by omega) ⟨_, rfl, Or.inr ⟨Or.inr ⟨rfl, hx⟩, hw⟩⟩
set_option maxHeartbeats 4000000 in
set_option maxRecDepth 100000 in
theorem c_L_wear {l : Launch} (hl : l.stackTraces = false) (Γ : fG) (B0 : Nat) (ad : Nat → Nat → Nat) (P R : fR) (M : Nat → fO) (x y z : Int32) (hP : FI P) (hI : XI R) : f_MetW l yL_wear cL_wear 5 (some .int) [(0, 7, 8, 16), (0, 7, 13, 19)] 8 3 18 135 Γ B0 [.ref (ad 1 0), .int x, .int y, .int z] (wj (fw Γ ad P) (xw Γ ad R) M) (f_rI (fun r9 w9 => ((rg x (shc P R) ∧ (rg y 2 ∧ rg z 4)) ∧ r9 = wrV P R (xN x) (xN y) (xN z) ∧ w9 = wj (fw Γ ad P) (xw Γ ad (lkF P R (xN x) (xN y) (xN z))) M) ∨ (((r9 = -1000001 ∧ ¬ rg x (shc P R)) ∨ (r9 = -1000002 ∧ rg x (shc P R) ∧ ¬ (rg y 2 ∧ rg z 4))) ∧ w9 = wj (fw Γ ad P) (xw Γ ad R) M))) := by
  refine f_ofW hl (by decide) rfl (Nat.le_of_ble_eq_true rfl) (fun X9 C E hh => ?_)
  generalize (f_s X9).heap = H, ([] : List Loc) = locs at hh ⊢
  refine r_aload_n C dL_wear_0 rfl ?_
  refine r_iload_n C dL_wear_1 rfl ?_
  refine r_iload_n C dL_wear_2 rfl ?_
  refine r_iload_n C dL_wear_3 rfl ?_
  refine r_callVH C E.2.1 hh (c_X4_wear E.2.1 Γ B0 ad P R M x y z hP hI) lk_L_88 (tr := .inr (.inl (0, 0))) rfl rfl rfl rfl (Nat.le_of_ble_eq_true rfl) dL_wear_4 ⟨by decide, by decide⟩ ⟨by omega, by omega⟩ ?_ ?_
  · rintro v w' H locs hs9 ⟨r, rfl, hp⟩ hh
    exact r_iretW C E hh dL_wear_7 (by omega) (by omega) ⟨r, rfl, Or.inl hp⟩
  · intro E9 w' H locs q ce hp hh hce hcv hcl
    obtain ⟨hx, hw⟩ := hp
    rcases hx with ⟨rfl, hx⟩ | ⟨rfl, hx⟩
    · refine r_catch C E [] ⟨0, 7, 8, 16⟩ [⟨0, 7, 13, 19⟩] rfl (fun z hz => by cases hz) (by decide) (by decide) kl_L_16 (by decide) hce hcv hcl ?_
      refine r_astore C dL_wear_8 rfl rfl ?_
      refine r_ldc C ct_L_18 dL_wear_10 ?_
      exact r_iretW C E hh dL_wear_12 (by omega) (by omega) ⟨_, rfl, Or.inr ⟨Or.inl ⟨rfl, hx⟩, hw⟩⟩
    · refine r_catch C E [⟨0, 7, 8, 16⟩] ⟨0, 7, 13, 19⟩ [] rfl (fun z hz => by
          rcases List.mem_cons.mp hz with rfl | hz
          · exact ⟨by decide, _, kl_L_16, by decide⟩
          · cases hz) (by decide) (by decide) kl_L_19 (by decide) hce hcv hcl ?_
      refine r_astore C dL_wear_13 rfl rfl ?_
      refine r_ldc C ct_L_21 dL_wear_15 ?_
      exact r_iretW C E hh dL_wear_17 (by omega) (by omega) ⟨_, rfl, Or.inr ⟨Or.inr ⟨rfl, hx⟩, hw⟩⟩
set_option maxHeartbeats 4000000 in
set_option maxRecDepth 100000 in
theorem c_L_print {l : Launch} (hl : l.stackTraces = false) (Γ : fG) (B0 : Nat) (ad : Nat → Nat → Nat) (P R : fR) (M : Nat → fO) (x y : Int32) (hP : FI P) (hI : XI R) (h5 : R 5 0 0 ≤ 900000) : f_MetW l yL_print cL_print 4 (some .int) [(0, 6, 7, 16), (0, 6, 11, 19), (0, 6, 15, 22)] 8 11 66 154 Γ B0 [.ref (ad 1 0), .int x, .int y] (wj (fw Γ ad P) (xw Γ ad R) M) (f_rI (fun r9 w9 => (((rg x (shc P R) ∧ (nI 1 ≤ y ∧ y < nI 501)) ∧ okP P R (xN x) (xN y)) ∧ r9 = nI (R 5 0 0 + xN y) ∧ ∃ R9 : fR, (jp P (rs R9 5 (R 5)) R (xN x) (xN y) 8 ∧ R9 5 0 0 = R 5 0 0 + xN y ∧ XI R9) ∧ w9 = wj (fw Γ ad P) (xw Γ ad (R9)) M) ∨ (∃ R9 : fR, (jk R9 R ∧ XI R9) ∧ w9 = wj (fw Γ ad P) (xw Γ ad (R9)) M ∧ ((r9 = -1000001 ∧ ¬ rg x (shc P R)) ∨ (r9 = -1000002 ∧ rg x (shc P R) ∧ ¬ (nI 1 ≤ y ∧ y < nI 501)) ∨ (r9 = -1000003 ∧ (rg x (shc P R) ∧ (nI 1 ≤ y ∧ y < nI 501)) ∧ ¬ okP P R (xN x) (xN y)))))) := by
  refine f_ofW hl (by decide) rfl (Nat.le_of_ble_eq_true rfl) (fun X9 C E hh => ?_)
  generalize (f_s X9).heap = H, ([] : List Loc) = locs at hh ⊢
  refine r_aload_n C dL_print_0 rfl ?_
  refine r_iload_n C dL_print_1 rfl ?_
  refine r_iload_n C dL_print_2 rfl ?_
  refine r_callVH C E.2.1 hh (c_X4_print E.2.1 Γ B0 ad P R M x y hP hI h5) lk_L_91 (tr := .inr (.inl (0, 0))) rfl rfl rfl rfl (Nat.le_of_ble_eq_true rfl) dL_print_3 ⟨by decide, by decide⟩ ⟨by omega, by omega⟩ ?_ ?_
  · rintro v w' H locs hs9 ⟨r, rfl, hp⟩ hh
    exact r_iretW C E hh dL_print_6 (by omega) (by omega) ⟨r, rfl, Or.inl hp⟩
  · intro E9 w' H locs q ce hp hh hce hcv hcl
    obtain ⟨R9, hj, hw, hx⟩ := hp
    rcases hx with ⟨rfl, hx⟩ | ⟨rfl, hx⟩ | ⟨rfl, hx⟩
    · refine r_catch C E [] ⟨0, 6, 7, 16⟩ [⟨0, 6, 11, 19⟩, ⟨0, 6, 15, 22⟩] rfl (fun z hz => by cases hz) (by decide) (by decide) kl_L_16 (by decide) hce hcv hcl ?_
      refine r_astore_n C dL_print_7 rfl rfl ?_
      refine r_ldc C ct_L_18 dL_print_8 ?_
      exact r_iretW C E hh dL_print_10 (by omega) (by omega) ⟨_, rfl, Or.inr ⟨R9, hj, hw, Or.inl ⟨rfl, hx⟩⟩⟩
    · refine r_catch C E [⟨0, 6, 7, 16⟩] ⟨0, 6, 11, 19⟩ [⟨0, 6, 15, 22⟩] rfl (fun z hz => by
          rcases List.mem_cons.mp hz with rfl | hz
          · exact ⟨by decide, _, kl_L_16, by decide⟩
          · cases hz) (by decide) (by decide) kl_L_19 (by decide) hce hcv hcl ?_
      refine r_astore_n C dL_print_11 rfl rfl ?_
      refine r_ldc C ct_L_21 dL_print_12 ?_
      exact r_iretW C E hh dL_print_14 (by omega) (by omega) ⟨_, rfl, Or.inr ⟨R9, hj, hw, Or.inr (Or.inl ⟨rfl, hx⟩)⟩⟩
    · refine r_catch C E [⟨0, 6, 7, 16⟩, ⟨0, 6, 11, 19⟩] ⟨0, 6, 15, 22⟩ [] rfl (fun z hz => by
          rcases List.mem_cons.mp hz with rfl | hz
          · exact ⟨by decide, _, kl_L_16, by decide⟩
          · rcases List.mem_cons.mp hz with rfl | hz
            · exact ⟨by decide, _, kl_L_19, by decide⟩
            · cases hz) (by decide) (by decide) kl_L_22 (by decide) hce hcv hcl ?_
      refine r_astore_n C dL_print_15 rfl rfl ?_
      refine r_ldc C ct_L_24 dL_print_16 ?_
      exact r_iretW C E hh dL_print_18 (by omega) (by omega) ⟨_, rfl, Or.inr ⟨R9, hj, hw, Or.inr (Or.inr ⟨rfl, hx⟩)⟩⟩
