/-! ===== the law's wrappers ===== -/
theorem n23_makePlates (M : fR) (x : Int32) : rs (mpM M x) 23 (M 23) = mpM M x := by
  have e : mpM M x 23 = M 23 := by
    unfold mpM
    split
    · rw [rs_ne _ _ (show 23 ≠ 6 by decide), mkS_ne _ _ (by decide) (by decide) (by decide)]; rfl
    · rfl
  rw [← e]; exact rs_id (mpM M x) 23
theorem n23_print (M : fR) (x y : Int32) : rs (ptM M x y) 23 (M 23) = ptM M x y := by
  have e : ptM M x y 23 = M 23 := by
    unfold ptM
    split <;> rfl
  rw [← e]; exact rs_id (ptM M x y) 23
set_option maxHeartbeats 4000000 in
set_option maxRecDepth 100000 in
theorem c_L_insert {l : Launch} (hl : l.stackTraces = false) (Γ : fG) (B0 : Nat) (ad : Nat → Nat → Nat) (P R M : fR) (n : Nat) (h : RE n P R M) (hn : n ≤ 512) (x : Int32) (y : Int32) (z : Int32) : f_MetW l yL_insert cL_insert 6 (some .int) [(0, 12, 15, 13), (0, 12, 19, 15), (0, 12, 23, 17)] 8 4 24 135 Γ B0 [.ref (ad 1 0), .int x, .int y, .int z, .ref (ad 30 18)] (wj (fw Γ ad P) (xw Γ ad R) (mw Γ ad M)) (WPo Γ ad M n (fun M => isM M x y z) (fun M => (isV M x y z).toInt64)) := by
  refine f_ofW hl (by decide) rfl (Nat.le_of_ble_eq_true rfl) (fun X9 C E hh => ?_)
  generalize (f_s X9).heap = H, ([] : List Loc) = locs at hh ⊢
  have h27 := RE_27 h
  refine r_aload C dL_insert_0 rfl ?_
  refine r_iconst C (nI 0) dL_insert_2 rfl ?_
  refine r_aload_n C dL_insert_3 rfl ?_
  refine r_iload_n C dL_insert_4 rfl ?_
  refine r_iload_n C dL_insert_5 rfl ?_
  refine r_iload_n C dL_insert_6 rfl ?_
  refine r_callVH C E.2.1 hh (c_X4_insert E.2.1 Γ B0 ad R (fw Γ ad P) (mw Γ ad M) x y z (RE_xi h)) lk_L_7 (tr := .inr (.inl (0, 0))) rfl rfl rfl rfl (Nat.le_of_ble_eq_true rfl) dL_insert_7 ⟨by decide, by decide⟩ ⟨by omega, by omega⟩ ?_ ?_
  · rintro v w' H locs hs9 ⟨r, rfl, hc, rfl, a1, a2, rfl⟩ hh
    obtain ⟨v26, hv26⟩ := lN_of _
    refine r_i2l C (v := lN v26) dL_insert_10 hv26.symm ?_
    refine as_out C hh h27 dL_insert_11 (fun H locs hh => ?_)
    have h6 : RE n P R (rs M 26 (k0 v26)) := RE_26 h _
    obtain ⟨e1, e2, e3⟩ := q_insert_n h6 hc
    refine r_goto (tgt := 27) C dL_insert_12 (by decide) ?_
    refine r_iconst C (nI 0) dL_insert_27 rfl ?_
    exact r_iretW C E hh dL_insert_28 (by omega) (by omega) ⟨0, v26, (pgA ad (R 20 0 0) a1 a2), P, insR R (xN x) (xN y) (xN z), rfl, by decide, e1, fun _ => by rw [hv26, e2], e3, fun _ => rfl, rfl, by rw [fw_pg, mw_ext Γ (ad := ad) (ad' := pgA ad (R 20 0 0) a1 a2) _ (fun j => rfl)]⟩
  · intro E9 w' H locs q ce hp hh hce hcv hcl
    obtain ⟨hx, rfl⟩ := hp
    have h7 : RE n P R (rs M 26 (k0 (M 26 0 0))) := RE_26 h _
    obtain ⟨hk, hre⟩ := q_insert_x h7 hx
    rcases hk with ⟨rfl, e8⟩ | ⟨rfl, e8⟩ | ⟨rfl, e8⟩
    · refine r_catch C E [] ⟨0, 12, 15, 13⟩ [⟨0, 12, 19, 15⟩, ⟨0, 12, 23, 17⟩] rfl (fun z hz => by cases hz) (by decide) (by decide) kl_L_13 (by decide) hce hcv hcl ?_
      refine r_astore C dL_insert_15 rfl rfl ?_
      refine r_iconst C (nI 1) dL_insert_17 rfl ?_
      exact r_iretW C E hh dL_insert_18 (by omega) (by omega) ⟨1, M 26 0 0, ad, P, R, rfl, by decide, e8, fun z => absurd z (by decide), hre, fun _ => rfl, rfl, by rw [mw_26]⟩
    · refine r_catch C E [⟨0, 12, 15, 13⟩] ⟨0, 12, 19, 15⟩ [⟨0, 12, 23, 17⟩] rfl (fun z hz => by
          rcases List.mem_cons.mp hz with rfl | hz
          · exact ⟨by decide, _, kl_L_13, by decide⟩
          · cases hz) (by decide) (by decide) kl_L_15 (by decide) hce hcv hcl ?_
      refine r_astore C dL_insert_19 rfl rfl ?_
      refine r_iconst C (nI 2) dL_insert_21 rfl ?_
      exact r_iretW C E hh dL_insert_22 (by omega) (by omega) ⟨2, M 26 0 0, ad, P, R, rfl, by decide, e8, fun z => absurd z (by decide), hre, fun _ => rfl, rfl, by rw [mw_26]⟩
    · refine r_catch C E [⟨0, 12, 15, 13⟩, ⟨0, 12, 19, 15⟩] ⟨0, 12, 23, 17⟩ [] rfl (fun z hz => by
          rcases List.mem_cons.mp hz with rfl | hz
          · exact ⟨by decide, _, kl_L_13, by decide⟩
          · rcases List.mem_cons.mp hz with rfl | hz
            · exact ⟨by decide, _, kl_L_15, by decide⟩
            · cases hz) (by decide) (by decide) kl_L_17 (by decide) hce hcv hcl ?_
      refine r_astore C dL_insert_23 rfl rfl ?_
      refine r_iconst C (nI 3) dL_insert_25 rfl ?_
      exact r_iretW C E hh dL_insert_26 (by omega) (by omega) ⟨3, M 26 0 0, ad, P, R, rfl, by decide, e8, fun z => absurd z (by decide), hre, fun _ => rfl, rfl, by rw [mw_26]⟩
set_option maxHeartbeats 4000000 in
set_option maxRecDepth 100000 in
theorem c_L_remove {l : Launch} (hl : l.stackTraces = false) (Γ : fG) (B0 : Nat) (ad : Nat → Nat → Nat) (P R M : fR) (n : Nat) (h : RE n P R M) (hn : n ≤ 512) (x : Int32) : f_MetW l yL_remove cL_remove 4 (some .int) [(0, 9, 12, 13)] 8 1 6 132 Γ B0 [.ref (ad 1 0), .int x, .ref (ad 30 18)] (wj (fw Γ ad P) (xw Γ ad R) (mw Γ ad M)) (WPo Γ ad M n (fun M => rvM M x) (fun M => (rvV M x).toInt64)) := by
  refine f_ofW hl (by decide) rfl (Nat.le_of_ble_eq_true rfl) (fun X9 C E hh => ?_)
  generalize (f_s X9).heap = H, ([] : List Loc) = locs at hh ⊢
  have h27 := RE_27 h
  refine r_aload_n C dL_remove_0 rfl ?_
  refine r_iconst C (nI 0) dL_remove_1 rfl ?_
  refine r_aload_n C dL_remove_2 rfl ?_
  refine r_iload_n C dL_remove_3 rfl ?_
  refine r_callVH C E.2.1 hh (c_X4_remove E.2.1 Γ B0 ad R (fw Γ ad P) (mw Γ ad M) x (RE_xi h)) lk_L_19 (tr := .inr (.inl (0, 0))) rfl rfl rfl rfl (Nat.le_of_ble_eq_true rfl) dL_remove_4 ⟨by decide, by decide⟩ ⟨by omega, by omega⟩ ?_ ?_
  · rintro v w' H locs hs9 ⟨r, rfl, hc, rfl, rfl⟩ hh
    obtain ⟨v26, hv26⟩ := lN_of _
    refine r_i2l C (v := lN v26) dL_remove_7 hv26.symm ?_
    refine as_out C hh h27 dL_remove_8 (fun H locs hh => ?_)
    have h6 : RE n P R (rs M 26 (k0 v26)) := RE_26 h _
    obtain ⟨e1, e2, e3⟩ := q_remove_n h6 hc
    refine r_goto (tgt := 15) C dL_remove_9 (by decide) ?_
    refine r_iconst C (nI 0) dL_remove_15 rfl ?_
    exact r_iretW C E hh dL_remove_16 (by omega) (by omega) ⟨0, v26, ad, P, rmR R (xN x), rfl, by decide, e1, fun _ => by rw [hv26, e2], e3, fun _ => rfl, rfl, rfl⟩
  · intro E9 w' H locs q ce hp hh hce hcv hcl
    obtain ⟨hx, rfl⟩ := hp
    have h7 : RE n P R (rs M 26 (k0 (M 26 0 0))) := RE_26 h _
    obtain ⟨rfl, hx⟩ := hx
    obtain ⟨e8, hre⟩ := q_remove_x h7 hx
    refine r_catch C E [] ⟨0, 9, 12, 13⟩ [] rfl (fun z hz => by cases hz) (by decide) (by decide) kl_L_13 (by decide) hce hcv hcl ?_
    refine r_astore_n C dL_remove_12 rfl rfl ?_
    refine r_iconst C (nI 1) dL_remove_13 rfl ?_
    exact r_iretW C E hh dL_remove_14 (by omega) (by omega) ⟨1, M 26 0 0, ad, P, R, rfl, by decide, e8, fun z => absurd z (by decide), hre, fun _ => rfl, rfl, by rw [mw_26]⟩
set_option maxHeartbeats 4000000 in
set_option maxRecDepth 100000 in
theorem c_L_move {l : Launch} (hl : l.stackTraces = false) (Γ : fG) (B0 : Nat) (ad : Nat → Nat → Nat) (P R M : fR) (n : Nat) (h : RE n P R M) (hn : n ≤ 512) (x : Int32) (y : Int32) : f_MetW l yL_move cL_move 4 (some .int) [(0, 6, 9, 13)] 8 2 12 135 Γ B0 [.ref (ad 1 0), .int x, .int y] (wj (fw Γ ad P) (xw Γ ad R) (mw Γ ad M)) (WPo Γ ad M n (fun M => mvI M x y) (fun M => lN (M 26 0 0))) := by
  refine f_ofW hl (by decide) rfl (Nat.le_of_ble_eq_true rfl) (fun X9 C E hh => ?_)
  generalize (f_s X9).heap = H, ([] : List Loc) = locs at hh ⊢
  have h27 := RE_27 h
  refine r_aload_n C dL_move_0 rfl ?_
  refine r_iload_n C dL_move_1 rfl ?_
  refine r_iload_n C dL_move_2 rfl ?_
  refine r_callVH C E.2.1 hh (c_X4_move E.2.1 Γ B0 ad R (fw Γ ad P) (mw Γ ad M) x y (RE_xi h)) lk_L_23 (tr := .inr (.inl (0, 0))) rfl rfl rfl rfl (Nat.le_of_ble_eq_true rfl) dL_move_3 ⟨by decide, by decide⟩ ⟨by omega, by omega⟩ ?_ ?_
  · rintro v w' H locs hs9 ⟨rfl, hc, rfl⟩ hh
    have h6 : RE n P R (rs M 26 (k0 (M 26 0 0))) := RE_26 h _
    obtain ⟨e1, e3⟩ := q_move_n h6 hc
    refine r_goto (tgt := 12) C dL_move_6 (by decide) ?_
    refine r_iconst C (nI 0) dL_move_12 rfl ?_
    exact r_iretW C E hh dL_move_13 (by omega) (by omega) ⟨0, M 26 0 0, ad, P, mvR R (xN x) (xN y), rfl, by decide, e1, fun _ => rfl, e3, fun _ => rfl, rfl, by rw [mw_26]⟩
  · intro E9 w' H locs q ce hp hh hce hcv hcl
    obtain ⟨hx, rfl⟩ := hp
    have h7 : RE n P R (rs M 26 (k0 (M 26 0 0))) := RE_26 h _
    obtain ⟨rfl, hx⟩ := hx
    obtain ⟨e8, hre⟩ := q_move_x h7 hx
    refine r_catch C E [] ⟨0, 6, 9, 13⟩ [] rfl (fun z hz => by cases hz) (by decide) (by decide) kl_L_13 (by decide) hce hcv hcl ?_
    refine r_astore_n C dL_move_9 rfl rfl ?_
    refine r_iconst C (nI 1) dL_move_10 rfl ?_
    exact r_iretW C E hh dL_move_11 (by omega) (by omega) ⟨1, M 26 0 0, ad, P, R, rfl, by decide, e8, fun z => absurd z (by decide), hre, fun _ => rfl, rfl, by rw [mw_26]⟩
set_option maxHeartbeats 4000000 in
set_option maxRecDepth 100000 in
theorem c_L_edit {l : Launch} (hl : l.stackTraces = false) (Γ : fG) (B0 : Nat) (ad : Nat → Nat → Nat) (P R M : fR) (n : Nat) (h : RE n P R M) (hn : n ≤ 512) (x : Int32) (y : Int32) (z : Int32) : f_MetW l yL_edit cL_edit 6 (some .int) [(0, 12, 15, 13), (0, 12, 19, 15)] 8 2 12 134 Γ B0 [.ref (ad 1 0), .int x, .int y, .int z, .ref (ad 30 18)] (wj (fw Γ ad P) (xw Γ ad R) (mw Γ ad M)) (WPo Γ ad M n (fun M => eiM M x y z) (fun M => (eiV M x y z).toInt64)) := by
  refine f_ofW hl (by decide) rfl (Nat.le_of_ble_eq_true rfl) (fun X9 C E hh => ?_)
  generalize (f_s X9).heap = H, ([] : List Loc) = locs at hh ⊢
  have h27 := RE_27 h
  refine r_aload C dL_edit_0 rfl ?_
  refine r_iconst C (nI 0) dL_edit_2 rfl ?_
  refine r_aload_n C dL_edit_3 rfl ?_
  refine r_iload_n C dL_edit_4 rfl ?_
  refine r_iload_n C dL_edit_5 rfl ?_
  refine r_iload_n C dL_edit_6 rfl ?_
  refine r_callVH C E.2.1 hh (c_X4_edit E.2.1 Γ B0 ad R (fw Γ ad P) (mw Γ ad M) x y z (RE_xi h)) lk_L_27 (tr := .inr (.inl (0, 0))) rfl rfl rfl rfl (Nat.le_of_ble_eq_true rfl) dL_edit_7 ⟨by decide, by decide⟩ ⟨by omega, by omega⟩ ?_ ?_
  · rintro v w' H locs hs9 ⟨r, rfl, hc, rfl, rfl⟩ hh
    obtain ⟨v26, hv26⟩ := lN_of _
    refine r_i2l C (v := lN v26) dL_edit_10 hv26.symm ?_
    refine as_out C hh h27 dL_edit_11 (fun H locs hh => ?_)
    have h6 : RE n P R (rs M 26 (k0 v26)) := RE_26 h _
    obtain ⟨e1, e2, e3⟩ := q_edit_n h6 hn hc
    refine r_goto (tgt := 23) C dL_edit_12 (by decide) ?_
    refine r_iconst C (nI 0) dL_edit_23 rfl ?_
    exact r_iretW C E hh dL_edit_24 (by omega) (by omega) ⟨0, v26, ad, P, rwr R (R 6 (xN x) 0 - 1) (xN y) (xN z), rfl, by decide, e1, fun _ => by rw [hv26, e2], e3, fun _ => rfl, rfl, rfl⟩
  · intro E9 w' H locs q ce hp hh hce hcv hcl
    obtain ⟨hx, rfl⟩ := hp
    have h7 : RE n P R (rs M 26 (k0 (M 26 0 0))) := RE_26 h _
    obtain ⟨hk, hre⟩ := q_edit_x h7 hx
    rcases hk with ⟨rfl, e8⟩ | ⟨rfl, e8⟩
    · refine r_catch C E [] ⟨0, 12, 15, 13⟩ [⟨0, 12, 19, 15⟩] rfl (fun z hz => by cases hz) (by decide) (by decide) kl_L_13 (by decide) hce hcv hcl ?_
      refine r_astore C dL_edit_15 rfl rfl ?_
      refine r_iconst C (nI 1) dL_edit_17 rfl ?_
      exact r_iretW C E hh dL_edit_18 (by omega) (by omega) ⟨1, M 26 0 0, ad, P, R, rfl, by decide, e8, fun z => absurd z (by decide), hre, fun _ => rfl, rfl, by rw [mw_26]⟩
    · refine r_catch C E [⟨0, 12, 15, 13⟩] ⟨0, 12, 19, 15⟩ [] rfl (fun z hz => by
          rcases List.mem_cons.mp hz with rfl | hz
          · exact ⟨by decide, _, kl_L_13, by decide⟩
          · cases hz) (by decide) (by decide) kl_L_15 (by decide) hce hcv hcl ?_
      refine r_astore C dL_edit_19 rfl rfl ?_
      refine r_iconst C (nI 2) dL_edit_21 rfl ?_
      exact r_iretW C E hh dL_edit_22 (by omega) (by omega) ⟨2, M 26 0 0, ad, P, R, rfl, by decide, e8, fun z => absurd z (by decide), hre, fun _ => rfl, rfl, by rw [mw_26]⟩
set_option maxHeartbeats 4000000 in
set_option maxRecDepth 100000 in
theorem c_L_replace {l : Launch} (hl : l.stackTraces = false) (Γ : fG) (B0 : Nat) (ad : Nat → Nat → Nat) (P R M : fR) (n : Nat) (h : RE n P R M) (hn : n ≤ 512) (x : Int32) (y : Int32) : f_MetW l yL_replace cL_replace 5 (some .int) [(0, 10, 13, 15)] 8 3 18 135 Γ B0 [.ref (ad 1 0), .int x, .int y, .ref (ad 30 18)] (wj (fw Γ ad P) (xw Γ ad R) (mw Γ ad M)) (WPo Γ ad M n (fun M => rqM M x y) (fun M => (rqV M x y).toInt64)) := by
  refine f_ofW hl (by decide) rfl (Nat.le_of_ble_eq_true rfl) (fun X9 C E hh => ?_)
  generalize (f_s X9).heap = H, ([] : List Loc) = locs at hh ⊢
  have h27 := RE_27 h
  refine r_aload_n C dL_replace_0 rfl ?_
  refine r_iconst C (nI 0) dL_replace_1 rfl ?_
  refine r_aload_n C dL_replace_2 rfl ?_
  refine r_iload_n C dL_replace_3 rfl ?_
  refine r_iload_n C dL_replace_4 rfl ?_
  refine r_callVH C E.2.1 hh (c_X4_replace E.2.1 Γ B0 ad R (fw Γ ad P) (mw Γ ad M) x y (RE_xi h) (fun q => by have := h.2.2.2.2.2.2.2.2.2.1.2.1 q; omega)) lk_L_30 (tr := .inr (.inl (0, 0))) rfl rfl rfl rfl (Nat.le_of_ble_eq_true rfl) dL_replace_5 ⟨by decide, by decide⟩ ⟨by omega, by omega⟩ ?_ ?_
  · rintro v w' H locs hs9 ⟨r, rfl, hc, rfl, rfl⟩ hh
    obtain ⟨v26, hv26⟩ := lN_of _
    refine r_i2l C (v := lN v26) dL_replace_8 hv26.symm ?_
    refine as_out C hh h27 dL_replace_9 (fun H locs hh => ?_)
    have h6 : RE n P R (rs M 26 (k0 v26)) := RE_26 h _
    obtain ⟨e1, e2, e3⟩ := q_replace_n h6 hn hc
    refine r_goto (tgt := 17) C dL_replace_10 (by decide) ?_
    refine r_iconst C (nI 0) dL_replace_17 rfl ?_
    exact r_iretW C E hh dL_replace_18 (by omega) (by omega) ⟨0, v26, ad, P, rpl R (xN x) (xN y) (R 0 0 0), rfl, by decide, e1, fun _ => by rw [hv26, e2], e3, fun _ => rfl, rfl, rfl⟩
  · intro E9 w' H locs q ce hp hh hce hcv hcl
    obtain ⟨hx, rfl⟩ := hp
    have h7 : RE n P R (rs M 26 (k0 (M 26 0 0))) := RE_26 h _
    obtain ⟨rfl, hx⟩ := hx
    obtain ⟨e8, hre⟩ := q_replace_x h7 hx
    refine r_catch C E [] ⟨0, 10, 13, 15⟩ [] rfl (fun z hz => by cases hz) (by decide) (by decide) kl_L_15 (by decide) hce hcv hcl ?_
    refine r_astore C dL_replace_13 rfl rfl ?_
    refine r_iconst C (nI 1) dL_replace_15 rfl ?_
    exact r_iretW C E hh dL_replace_16 (by omega) (by omega) ⟨1, M 26 0 0, ad, P, R, rfl, by decide, e8, fun z => absurd z (by decide), hre, fun _ => rfl, rfl, by rw [mw_26]⟩
set_option maxHeartbeats 4000000 in
set_option maxRecDepth 100000 in
theorem c_L_edition {l : Launch} (hl : l.stackTraces = false) (Γ : fG) (B0 : Nat) (ad : Nat → Nat → Nat) (P R M : fR) (n : Nat) (h : RE n P R M) (hn : n ≤ 512) (x : Int32) : f_MetW l yL_edition cL_edition 4 (some .int) [(0, 9, 12, 13)] 8 1 6 132 Γ B0 [.ref (ad 1 0), .int x, .ref (ad 30 18)] (wj (fw Γ ad P) (xw Γ ad R) (mw Γ ad M)) (WPo Γ ad M n (fun M => rs M 8 (k0 (thr (rgB x (M 2 0 0)) true true))) (fun M => (edV M x).toInt64)) := by
  refine f_ofW hl (by decide) rfl (Nat.le_of_ble_eq_true rfl) (fun X9 C E hh => ?_)
  generalize (f_s X9).heap = H, ([] : List Loc) = locs at hh ⊢
  have h27 := RE_27 h
  refine r_aload_n C dL_edition_0 rfl ?_
  refine r_iconst C (nI 0) dL_edition_1 rfl ?_
  refine r_aload_n C dL_edition_2 rfl ?_
  refine r_iload_n C dL_edition_3 rfl ?_
  refine r_callVH C E.2.1 hh (c_X4_edition E.2.1 Γ B0 ad R (fw Γ ad P) (mw Γ ad M) x (RE_xi h)) lk_L_34 (tr := .inr (.inl (0, 0))) rfl rfl rfl rfl (Nat.le_of_ble_eq_true rfl) dL_edition_4 ⟨by decide, by decide⟩ ⟨by omega, by omega⟩ ?_ ?_
  · rintro v w' H locs hs9 ⟨r, rfl, hc, rfl, rfl⟩ hh
    obtain ⟨v26, hv26⟩ := lN_of _
    refine r_i2l C (v := lN v26) dL_edition_7 hv26.symm ?_
    refine as_out C hh h27 dL_edition_8 (fun H locs hh => ?_)
    have h6 : RE n P R (rs M 26 (k0 v26)) := RE_26 h _
    obtain ⟨e1, e2⟩ := q_edition_n h6 hc
    refine r_goto (tgt := 15) C dL_edition_9 (by decide) ?_
    refine r_iconst C (nI 0) dL_edition_15 rfl ?_
    exact r_iretW C E hh dL_edition_16 (by omega) (by omega) ⟨0, v26, ad, P, R, rfl, by decide, e1, fun _ => by rw [hv26, e2], RE_t h6 _, fun _ => rfl, rfl, rfl⟩
  · intro E9 w' H locs q ce hp hh hce hcv hcl
    obtain ⟨hx, rfl⟩ := hp
    have h7 : RE n P R (rs M 26 (k0 (M 26 0 0))) := RE_26 h _
    obtain ⟨rfl, hx⟩ := hx
    have e8 := q_edition_x h7 hx
    refine r_catch C E [] ⟨0, 9, 12, 13⟩ [] rfl (fun z hz => by cases hz) (by decide) (by decide) kl_L_13 (by decide) hce hcv hcl ?_
    refine r_astore_n C dL_edition_12 rfl rfl ?_
    refine r_iconst C (nI 1) dL_edition_13 rfl ?_
    exact r_iretW C E hh dL_edition_14 (by omega) (by omega) ⟨1, M 26 0 0, ad, P, R, rfl, by decide, e8, fun z => absurd z (by decide), RE_t h7 _, fun _ => rfl, rfl, by rw [mw_26]⟩
set_option maxHeartbeats 4000000 in
set_option maxRecDepth 100000 in
theorem c_L_setFolds {l : Launch} (hl : l.stackTraces = false) (Γ : fG) (B0 : Nat) (ad : Nat → Nat → Nat) (P R M : fR) (n : Nat) (h : RE n P R M) (hn : n ≤ 512) (x : Int32) (y : Int32) : f_MetW l yL_setFolds cL_setFolds 5 (some .int) [(0, 10, 13, 15)] 7 1 6 169 Γ B0 [.ref (ad 1 0), .int x, .int y, .ref (ad 30 18)] (wj (fw Γ ad P) (xw Γ ad R) (mw Γ ad M)) (WPo Γ ad M n (fun M => sfM M x y) (fun M => (sfV M x y).toInt64)) := by
  refine f_ofW hl (by decide) rfl (Nat.le_of_ble_eq_true rfl) (fun X9 C E hh => ?_)
  generalize (f_s X9).heap = H, ([] : List Loc) = locs at hh ⊢
  have h27 := RE_27 h
  refine r_aload_n C dL_setFolds_0 rfl ?_
  refine r_iconst C (nI 0) dL_setFolds_1 rfl ?_
  refine r_aload_n C dL_setFolds_2 rfl ?_
  refine r_iload_n C dL_setFolds_3 rfl ?_
  refine r_iload_n C dL_setFolds_4 rfl ?_
  refine r_callVH C E.2.1 hh (c_X4_setFolds E.2.1 Γ B0 ad P R (mw Γ ad M) x y (RE_fj h).1 (RE_64 h)) lk_L_37 (tr := .inr (.inl (0, 0))) rfl rfl rfl rfl (Nat.le_of_ble_eq_true rfl) dL_setFolds_5 ⟨by decide, by decide⟩ ⟨by omega, by omega⟩ ?_ ?_
  · rintro v w' H locs hs9 ⟨r, rfl, hc, rfl, rfl⟩ hh
    obtain ⟨v26, hv26⟩ := lN_of _
    refine r_i2l C (v := lN v26) dL_setFolds_8 hv26.symm ?_
    refine as_out C hh h27 dL_setFolds_9 (fun H locs hh => ?_)
    have h6 : RE n P R (rs M 26 (k0 v26)) := RE_26 h _
    obtain ⟨e1, e2, e3⟩ := q_setFolds_n h6 hc
    refine r_goto (tgt := 17) C dL_setFolds_10 (by decide) ?_
    refine r_iconst C (nI 0) dL_setFolds_17 rfl ?_
    exact r_iretW C E hh dL_setFolds_18 (by omega) (by omega) ⟨0, v26, ad, fbZ P (xN x) (xN y), R, rfl, by decide, e1, fun _ => by rw [hv26, e2], e3, fun _ => rfl, rfl, rfl⟩
  · intro E9 w' H locs q ce hp hh hce hcv hcl
    obtain ⟨hx, rfl⟩ := hp
    have h7 : RE n P R (rs M 26 (k0 (M 26 0 0))) := RE_26 h _
    obtain ⟨rfl, hx⟩ := hx
    obtain ⟨e8, hre⟩ := q_setFolds_x h7 hx
    refine r_catch C E [] ⟨0, 10, 13, 15⟩ [] rfl (fun z hz => by cases hz) (by decide) (by decide) kl_L_15 (by decide) hce hcv hcl ?_
    refine r_astore C dL_setFolds_13 rfl rfl ?_
    refine r_iconst C (nI 1) dL_setFolds_15 rfl ?_
    exact r_iretW C E hh dL_setFolds_16 (by omega) (by omega) ⟨1, M 26 0 0, ad, P, R, rfl, by decide, e8, fun z => absurd z (by decide), hre, fun _ => rfl, rfl, by rw [mw_26]⟩
set_option maxHeartbeats 4000000 in
set_option maxRecDepth 100000 in
theorem c_L_pageAt {l : Launch} (hl : l.stackTraces = false) (Γ : fG) (B0 : Nat) (ad : Nat → Nat → Nat) (P R M : fR) (n : Nat) (h : RE n P R M) (hn : n ≤ 512) (a : Int32) (b : Int32) (c : Int32) (d : Int32) : f_MetW l yL_pageAt cL_pageAt 7 (some .int) [(0, 14, 17, 13), (0, 14, 21, 15)] 9 2 12 160 Γ B0 [.ref (ad 1 0), .int a, .int b, .int c, .int d, .ref (ad 30 18)] (wj (fw Γ ad P) (xw Γ ad R) (mw Γ ad M)) (WPo Γ ad M n (fun M => rs M 8 (k0 (thr (ptA M a c d) (rgB b 2) true))) (fun M => (ptV M a b c d).toInt64)) := by
  refine f_ofW hl (by decide) rfl (Nat.le_of_ble_eq_true rfl) (fun X9 C E hh => ?_)
  generalize (f_s X9).heap = H, ([] : List Loc) = locs at hh ⊢
  have h27 := RE_27 h
  refine r_aload C dL_pageAt_0 rfl ?_
  refine r_iconst C (nI 0) dL_pageAt_2 rfl ?_
  refine r_aload_n C dL_pageAt_3 rfl ?_
  refine r_iload_n C dL_pageAt_4 rfl ?_
  refine r_iload_n C dL_pageAt_5 rfl ?_
  refine r_iload_n C dL_pageAt_6 rfl ?_
  refine r_iload C dL_pageAt_7 rfl ?_
  refine r_callVH C E.2.1 hh (c_X4_pageAt E.2.1 Γ B0 ad P R (mw Γ ad M) a b c d (RE_fj h).1 (RE_64 h)) lk_L_40 (tr := .inr (.inl (0, 0))) rfl rfl rfl rfl (Nat.le_of_ble_eq_true rfl) dL_pageAt_9 ⟨by decide, by decide⟩ ⟨by omega, by omega⟩ ?_ ?_
  · rintro v w' H locs hs9 ⟨r, rfl, hc, rfl, rfl⟩ hh
    obtain ⟨v26, hv26⟩ := lN_of _
    refine r_i2l C (v := lN v26) dL_pageAt_12 hv26.symm ?_
    refine as_out C hh h27 dL_pageAt_13 (fun H locs hh => ?_)
    have h6 : RE n P R (rs M 26 (k0 v26)) := RE_26 h _
    obtain ⟨e1, e2⟩ := q_pageAt_n h6 hc
    refine r_goto (tgt := 25) C dL_pageAt_14 (by decide) ?_
    refine r_iconst C (nI 0) dL_pageAt_25 rfl ?_
    exact r_iretW C E hh dL_pageAt_26 (by omega) (by omega) ⟨0, v26, ad, P, R, rfl, by decide, e1, fun _ => by rw [hv26, e2], RE_t h6 _, fun _ => rfl, rfl, rfl⟩
  · intro E9 w' H locs q ce hp hh hce hcv hcl
    obtain ⟨hx, rfl⟩ := hp
    have h7 : RE n P R (rs M 26 (k0 (M 26 0 0))) := RE_26 h _
    have hk := q_pageAt_x h7 hx
    rcases hk with ⟨rfl, e8⟩ | ⟨rfl, e8⟩
    · refine r_catch C E [] ⟨0, 14, 17, 13⟩ [⟨0, 14, 21, 15⟩] rfl (fun z hz => by cases hz) (by decide) (by decide) kl_L_13 (by decide) hce hcv hcl ?_
      refine r_astore C dL_pageAt_17 rfl rfl ?_
      refine r_iconst C (nI 1) dL_pageAt_19 rfl ?_
      exact r_iretW C E hh dL_pageAt_20 (by omega) (by omega) ⟨1, M 26 0 0, ad, P, R, rfl, by decide, e8, fun z => absurd z (by decide), RE_t h7 _, fun _ => rfl, rfl, by rw [mw_26]⟩
    · refine r_catch C E [⟨0, 14, 17, 13⟩] ⟨0, 14, 21, 15⟩ [] rfl (fun z hz => by
          rcases List.mem_cons.mp hz with rfl | hz
          · exact ⟨by decide, _, kl_L_13, by decide⟩
          · cases hz) (by decide) (by decide) kl_L_15 (by decide) hce hcv hcl ?_
      refine r_astore C dL_pageAt_21 rfl rfl ?_
      refine r_iconst C (nI 2) dL_pageAt_23 rfl ?_
      exact r_iretW C E hh dL_pageAt_24 (by omega) (by omega) ⟨2, M 26 0 0, ad, P, R, rfl, by decide, e8, fun z => absurd z (by decide), RE_t h7 _, fun _ => rfl, rfl, by rw [mw_26]⟩
set_option maxHeartbeats 4000000 in
set_option maxRecDepth 100000 in
theorem c_L_pageByRule {l : Launch} (hl : l.stackTraces = false) (Γ : fG) (B0 : Nat) (ad : Nat → Nat → Nat) (P R M : fR) (n : Nat) (h : RE n P R M) (hn : n ≤ 512) (a : Int32) (b : Int32) (c : Int32) (d : Int32) : f_MetW l yL_pageByRule cL_pageByRule 7 (some .int) [(0, 14, 17, 13), (0, 14, 21, 15)] 9 2 12 159 Γ B0 [.ref (ad 1 0), .int a, .int b, .int c, .int d, .ref (ad 30 18)] (wj (fw Γ ad P) (xw Γ ad R) (mw Γ ad M)) (WPo Γ ad M n (fun M => rs M 8 (k0 (thr (ptA M a c d) (rgB b 2) true))) (fun M => (ptV M a b c d).toInt64)) := by
  refine f_ofW hl (by decide) rfl (Nat.le_of_ble_eq_true rfl) (fun X9 C E hh => ?_)
  generalize (f_s X9).heap = H, ([] : List Loc) = locs at hh ⊢
  have h27 := RE_27 h
  refine r_aload C dL_pageByRule_0 rfl ?_
  refine r_iconst C (nI 0) dL_pageByRule_2 rfl ?_
  refine r_aload_n C dL_pageByRule_3 rfl ?_
  refine r_iload_n C dL_pageByRule_4 rfl ?_
  refine r_iload_n C dL_pageByRule_5 rfl ?_
  refine r_iload_n C dL_pageByRule_6 rfl ?_
  refine r_iload C dL_pageByRule_7 rfl ?_
  refine r_callVH C E.2.1 hh (c_X4_pageByRule E.2.1 Γ B0 ad P R (mw Γ ad M) a b c d (RE_fj h) (RE_64 h)) lk_L_44 (tr := .inr (.inl (0, 0))) rfl rfl rfl rfl (Nat.le_of_ble_eq_true rfl) dL_pageByRule_9 ⟨by decide, by decide⟩ ⟨by omega, by omega⟩ ?_ ?_
  · rintro v w' H locs hs9 ⟨r, rfl, hc, rfl, rfl⟩ hh
    obtain ⟨v26, hv26⟩ := lN_of _
    refine r_i2l C (v := lN v26) dL_pageByRule_12 hv26.symm ?_
    refine as_out C hh h27 dL_pageByRule_13 (fun H locs hh => ?_)
    have h6 : RE n P R (rs M 26 (k0 v26)) := RE_26 h _
    obtain ⟨e1, e2⟩ := q_pageByRule_n h6 hc
    refine r_goto (tgt := 25) C dL_pageByRule_14 (by decide) ?_
    refine r_iconst C (nI 0) dL_pageByRule_25 rfl ?_
    exact r_iretW C E hh dL_pageByRule_26 (by omega) (by omega) ⟨0, v26, ad, P, R, rfl, by decide, e1, fun _ => by rw [hv26, e2], RE_t h6 _, fun _ => rfl, rfl, rfl⟩
  · intro E9 w' H locs q ce hp hh hce hcv hcl
    obtain ⟨hx, rfl⟩ := hp
    have h7 : RE n P R (rs M 26 (k0 (M 26 0 0))) := RE_26 h _
    have hk := q_pageAt_x h7 hx
    rcases hk with ⟨rfl, e8⟩ | ⟨rfl, e8⟩
    · refine r_catch C E [] ⟨0, 14, 17, 13⟩ [⟨0, 14, 21, 15⟩] rfl (fun z hz => by cases hz) (by decide) (by decide) kl_L_13 (by decide) hce hcv hcl ?_
      refine r_astore C dL_pageByRule_17 rfl rfl ?_
      refine r_iconst C (nI 1) dL_pageByRule_19 rfl ?_
      exact r_iretW C E hh dL_pageByRule_20 (by omega) (by omega) ⟨1, M 26 0 0, ad, P, R, rfl, by decide, e8, fun z => absurd z (by decide), RE_t h7 _, fun _ => rfl, rfl, by rw [mw_26]⟩
    · refine r_catch C E [⟨0, 14, 17, 13⟩] ⟨0, 14, 21, 15⟩ [] rfl (fun z hz => by
          rcases List.mem_cons.mp hz with rfl | hz
          · exact ⟨by decide, _, kl_L_13, by decide⟩
          · cases hz) (by decide) (by decide) kl_L_15 (by decide) hce hcv hcl ?_
      refine r_astore C dL_pageByRule_21 rfl rfl ?_
      refine r_iconst C (nI 2) dL_pageByRule_23 rfl ?_
      exact r_iretW C E hh dL_pageByRule_24 (by omega) (by omega) ⟨2, M 26 0 0, ad, P, R, rfl, by decide, e8, fun z => absurd z (by decide), RE_t h7 _, fun _ => rfl, rfl, by rw [mw_26]⟩
set_option maxHeartbeats 4000000 in
set_option maxRecDepth 100000 in
theorem c_L_leafOf {l : Launch} (hl : l.stackTraces = false) (Γ : fG) (B0 : Nat) (ad : Nat → Nat → Nat) (P R M : fR) (n : Nat) (h : RE n P R M) (hn : n ≤ 512) (x : Int32) : f_MetW l yL_leafOf cL_leafOf 4 (some .int) [(0, 9, 12, 13)] 8 1 6 133 Γ B0 [.ref (ad 1 0), .int x, .ref (ad 30 18)] (wj (fw Γ ad P) (xw Γ ad R) (mw Γ ad M)) (WPo Γ ad M n (fun M => rs M 8 (k0 (thr (rgB x (M 2 0 0)) true true))) (fun M => (lfW M x).toInt64)) := by
  refine f_ofW hl (by decide) rfl (Nat.le_of_ble_eq_true rfl) (fun X9 C E hh => ?_)
  generalize (f_s X9).heap = H, ([] : List Loc) = locs at hh ⊢
  have h27 := RE_27 h
  refine r_aload_n C dL_leafOf_0 rfl ?_
  refine r_iconst C (nI 0) dL_leafOf_1 rfl ?_
  refine r_aload_n C dL_leafOf_2 rfl ?_
  refine r_iload_n C dL_leafOf_3 rfl ?_
  refine r_callVH C E.2.1 hh (c_X4_leafOf E.2.1 Γ B0 ad P R (mw Γ ad M) x (RE_fj h).1 (RE_64 h)) lk_L_47 (tr := .inr (.inl (0, 0))) rfl rfl rfl rfl (Nat.le_of_ble_eq_true rfl) dL_leafOf_4 ⟨by decide, by decide⟩ ⟨by omega, by omega⟩ ?_ ?_
  · rintro v w' H locs hs9 ⟨r, rfl, hc, rfl, rfl⟩ hh
    obtain ⟨v26, hv26⟩ := lN_of _
    refine r_i2l C (v := lN v26) dL_leafOf_7 hv26.symm ?_
    refine as_out C hh h27 dL_leafOf_8 (fun H locs hh => ?_)
    have h6 : RE n P R (rs M 26 (k0 v26)) := RE_26 h _
    obtain ⟨e1, e2⟩ := q_leafOf_n h6 hc
    refine r_goto (tgt := 15) C dL_leafOf_9 (by decide) ?_
    refine r_iconst C (nI 0) dL_leafOf_15 rfl ?_
    exact r_iretW C E hh dL_leafOf_16 (by omega) (by omega) ⟨0, v26, ad, P, R, rfl, by decide, e1, fun _ => by rw [hv26, e2], RE_t h6 _, fun _ => rfl, rfl, rfl⟩
  · intro E9 w' H locs q ce hp hh hce hcv hcl
    obtain ⟨hx, rfl⟩ := hp
    have h7 : RE n P R (rs M 26 (k0 (M 26 0 0))) := RE_26 h _
    obtain ⟨rfl, hx⟩ := hx
    have e8 := q_edition_x h7 hx
    refine r_catch C E [] ⟨0, 9, 12, 13⟩ [] rfl (fun z hz => by cases hz) (by decide) (by decide) kl_L_13 (by decide) hce hcv hcl ?_
    refine r_astore_n C dL_leafOf_12 rfl rfl ?_
    refine r_iconst C (nI 1) dL_leafOf_13 rfl ?_
    exact r_iretW C E hh dL_leafOf_14 (by omega) (by omega) ⟨1, M 26 0 0, ad, P, R, rfl, by decide, e8, fun z => absurd z (by decide), RE_t h7 _, fun _ => rfl, rfl, by rw [mw_26]⟩
set_option maxHeartbeats 4000000 in
set_option maxRecDepth 100000 in
theorem c_L_isTurned {l : Launch} (hl : l.stackTraces = false) (Γ : fG) (B0 : Nat) (ad : Nat → Nat → Nat) (P R M : fR) (n : Nat) (h : RE n P R M) (hn : n ≤ 512) (x : Int32) : f_MetW l yL_isTurned cL_isTurned 4 (some .int) [(0, 16, 19, 13)] 8 1 6 132 Γ B0 [.ref (ad 1 0), .int x, .ref (ad 30 18)] (wj (fw Γ ad P) (xw Γ ad R) (mw Γ ad M)) (WPo Γ ad M n (fun M => rs M 8 (k0 (thr (rgB x (M 2 0 0)) true true))) (fun M => lN (rgB x (M 2 0 0) && decide (M 19 (xN (lfV M (xN x)) % 16) 0 = 1)).toNat)) := by
  refine f_ofW hl (by decide) rfl (Nat.le_of_ble_eq_true rfl) (fun X9 C E hh => ?_)
  generalize (f_s X9).heap = H, ([] : List Loc) = locs at hh ⊢
  have h27 := RE_27 h
  refine r_aload_n C dL_isTurned_0 rfl ?_
  refine r_iconst C (nI 0) dL_isTurned_1 rfl ?_
  refine r_aload_n C dL_isTurned_2 rfl ?_
  refine r_iload_n C dL_isTurned_3 rfl ?_
  refine r_callVH C E.2.1 hh (c_X4_isTurned E.2.1 Γ B0 ad P R (mw Γ ad M) x (RE_fj h).1 (RE_64 h)) lk_L_50 (tr := .inr (.inl (0, 0))) rfl rfl rfl rfl (Nat.le_of_ble_eq_true rfl) dL_isTurned_4 ⟨by decide, by decide⟩ ⟨by omega, by omega⟩ ?_ ?_
  · rintro v w' H locs hs9 ⟨r, rfl, hc, rfl, rfl⟩ hh
    refine r_if_eqB (tgt := 14) C dL_isTurned_7 (by decide) (fun h9 => ?_) (fun h9 => ?_)
    · refine r_lconst C (lN 0) dL_isTurned_14 rfl ?_
      refine as_out C hh h27 dL_isTurned_15 (fun H locs hh => ?_)
      have h6 : RE n P R (rs M 26 (k0 0)) := RE_26 h _
      obtain ⟨e1, e2⟩ := q_isTurned_n h6 hc
      refine r_goto (tgt := 22) C dL_isTurned_16 (by decide) ?_
      refine r_iconst C (nI 0) dL_isTurned_22 rfl ?_
      exact r_iretW C E hh dL_isTurned_23 (by omega) (by omega) ⟨0, 0, ad, P, R, rfl, by decide, e1, fun _ => by show lN 0 = lN _; rw [← e2, h9]; rfl, RE_t h6 _, fun _ => rfl, rfl, rfl⟩
    · refine r_lconst C (lN 1) dL_isTurned_10 rfl ?_
      refine r_goto (tgt := 15) C dL_isTurned_11 (by decide) ?_
      refine as_out C hh h27 dL_isTurned_15 (fun H locs hh => ?_)
      have h6 : RE n P R (rs M 26 (k0 1)) := RE_26 h _
      obtain ⟨e1, e2⟩ := q_isTurned_n h6 hc
      refine r_goto (tgt := 22) C dL_isTurned_16 (by decide) ?_
      refine r_iconst C (nI 0) dL_isTurned_22 rfl ?_
      exact r_iretW C E hh dL_isTurned_23 (by omega) (by omega) ⟨0, 1, ad, P, R, rfl, by decide, e1, fun _ => by show lN 1 = lN _; rw [← e2, h9]; rfl, RE_t h6 _, fun _ => rfl, rfl, rfl⟩
  · intro E9 w' H locs q ce hp hh hce hcv hcl
    obtain ⟨hx, rfl⟩ := hp
    have h7 : RE n P R (rs M 26 (k0 (M 26 0 0))) := RE_26 h _
    obtain ⟨rfl, hx⟩ := hx
    have e8 := q_edition_x h7 hx
    refine r_catch C E [] ⟨0, 16, 19, 13⟩ [] rfl (fun z hz => by cases hz) (by decide) (by decide) kl_L_13 (by decide) hce hcv hcl ?_
    refine r_astore_n C dL_isTurned_19 rfl rfl ?_
    refine r_iconst C (nI 1) dL_isTurned_20 rfl ?_
    exact r_iretW C E hh dL_isTurned_21 (by omega) (by omega) ⟨1, M 26 0 0, ad, P, R, rfl, by decide, e8, fun z => absurd z (by decide), RE_t h7 _, fun _ => rfl, rfl, by rw [mw_26]⟩
set_option maxHeartbeats 4000000 in
set_option maxRecDepth 100000 in
theorem c_L_setRight {l : Launch} (hl : l.stackTraces = false) (Γ : fG) (B0 : Nat) (ad : Nat → Nat → Nat) (P R M : fR) (n : Nat) (h : RE n P R M) (hn : n ≤ 512) (x : Int32) (y : Int32) (z : Int32) : f_MetW l yL_setRight cL_setRight 6 (some .int) [(0, 12, 15, 15)] 8 2 12 155 Γ B0 [.ref (ad 1 0), .int x, .int y, .int z, .ref (ad 30 18)] (wj (fw Γ ad P) (xw Γ ad R) (mw Γ ad M)) (WPo Γ ad M n (fun M => srM M x y z) (fun M => (srV M x y z).toInt64)) := by
  refine f_ofW hl (by decide) rfl (Nat.le_of_ble_eq_true rfl) (fun X9 C E hh => ?_)
  generalize (f_s X9).heap = H, ([] : List Loc) = locs at hh ⊢
  have h27 := RE_27 h
  refine r_aload C dL_setRight_0 rfl ?_
  refine r_iconst C (nI 0) dL_setRight_2 rfl ?_
  refine r_aload_n C dL_setRight_3 rfl ?_
  refine r_iload_n C dL_setRight_4 rfl ?_
  refine r_iload_n C dL_setRight_5 rfl ?_
  refine r_iload_n C dL_setRight_6 rfl ?_
  refine r_callVH C E.2.1 hh (c_X4_setRight E.2.1 Γ B0 ad P R (mw Γ ad M) x y z (RE_fj h).1 (RE_xi h)) lk_L_54 (tr := .inr (.inl (0, 0))) rfl rfl rfl rfl (Nat.le_of_ble_eq_true rfl) dL_setRight_7 ⟨by decide, by decide⟩ ⟨by omega, by omega⟩ ?_ ?_
  · rintro v w' H locs hs9 ⟨r, rfl, hc, rfl, rfl⟩ hh
    obtain ⟨v26, hv26⟩ := lN_of _
    refine r_i2l C (v := lN v26) dL_setRight_10 hv26.symm ?_
    refine as_out C hh h27 dL_setRight_11 (fun H locs hh => ?_)
    have h6 : RE n P R (rs M 26 (k0 v26)) := RE_26 h _
    obtain ⟨e1, e2, e3⟩ := q_setRight_n h6 hc
    refine r_goto (tgt := 19) C dL_setRight_12 (by decide) ?_
    refine r_iconst C (nI 0) dL_setRight_19 rfl ?_
    exact r_iretW C E hh dL_setRight_20 (by omega) (by omega) ⟨0, v26, ad, P, srR P R (xN x) (xN y) (xN z), rfl, by decide, e1, fun _ => by rw [hv26, e2], e3, fun _ => rfl, rfl, rfl⟩
  · intro E9 w' H locs q ce hp hh hce hcv hcl
    obtain ⟨hx, rfl⟩ := hp
    have h7 : RE n P R (rs M 26 (k0 (M 26 0 0))) := RE_26 h _
    obtain ⟨rfl, hx⟩ := hx
    obtain ⟨e8, hre⟩ := q_setRight_x h7 hx
    refine r_catch C E [] ⟨0, 12, 15, 15⟩ [] rfl (fun z hz => by cases hz) (by decide) (by decide) kl_L_15 (by decide) hce hcv hcl ?_
    refine r_astore C dL_setRight_15 rfl rfl ?_
    refine r_iconst C (nI 1) dL_setRight_17 rfl ?_
    exact r_iretW C E hh dL_setRight_18 (by omega) (by omega) ⟨1, M 26 0 0, ad, P, R, rfl, by decide, e8, fun z => absurd z (by decide), hre, fun _ => rfl, rfl, by rw [mw_26]⟩
set_option maxHeartbeats 4000000 in
set_option maxRecDepth 100000 in
theorem c_L_withdraw {l : Launch} (hl : l.stackTraces = false) (Γ : fG) (B0 : Nat) (ad : Nat → Nat → Nat) (P R M : fR) (n : Nat) (h : RE n P R M) (hn : n ≤ 512) (x : Int32) : f_MetW l yL_withdraw cL_withdraw 4 (some .int) [(0, 9, 12, 15), (0, 9, 15, 17)] 8 2 12 153 Γ B0 [.ref (ad 1 0), .int x, .ref (ad 30 18)] (wj (fw Γ ad P) (xw Γ ad R) (mw Γ ad M)) (WPo Γ ad M n (fun M => wdM M x) (fun M => (wdV M x).toInt64)) := by
  refine f_ofW hl (by decide) rfl (Nat.le_of_ble_eq_true rfl) (fun X9 C E hh => ?_)
  generalize (f_s X9).heap = H, ([] : List Loc) = locs at hh ⊢
  have h27 := RE_27 h
  refine r_aload_n C dL_withdraw_0 rfl ?_
  refine r_iconst C (nI 0) dL_withdraw_1 rfl ?_
  refine r_aload_n C dL_withdraw_2 rfl ?_
  refine r_iload_n C dL_withdraw_3 rfl ?_
  refine r_callVH C E.2.1 hh (c_X4_withdraw E.2.1 Γ B0 ad P R (mw Γ ad M) x (RE_fj h).1 (RE_xi h)) lk_L_57 (tr := .inr (.inl (0, 0))) rfl rfl rfl rfl (Nat.le_of_ble_eq_true rfl) dL_withdraw_4 ⟨by decide, by decide⟩ ⟨by omega, by omega⟩ ?_ ?_
  · rintro v w' H locs hs9 ⟨r, rfl, hc, rfl, rfl⟩ hh
    obtain ⟨v26, hv26⟩ := lN_of _
    refine r_i2l C (v := lN v26) dL_withdraw_7 hv26.symm ?_
    refine as_out C hh h27 dL_withdraw_8 (fun H locs hh => ?_)
    have h6 : RE n P R (rs M 26 (k0 v26)) := RE_26 h _
    obtain ⟨e1, e2, e3⟩ := q_withdraw_n h6 hc
    refine r_goto (tgt := 18) C dL_withdraw_9 (by decide) ?_
    refine r_iconst C (nI 0) dL_withdraw_18 rfl ?_
    exact r_iretW C E hh dL_withdraw_19 (by omega) (by omega) ⟨0, v26, ad, P, wdR P R (xN x), rfl, by decide, e1, fun _ => by rw [hv26, e2], e3, fun _ => rfl, rfl, rfl⟩
  · intro E9 w' H locs q ce hp hh hce hcv hcl
    obtain ⟨hx, rfl⟩ := hp
    have h7 : RE n P R (rs M 26 (k0 (M 26 0 0))) := RE_26 h _
    obtain ⟨hk, hre⟩ := q_withdraw_x h7 hx
    rcases hk with ⟨rfl, e8⟩ | ⟨rfl, e8⟩
    · refine r_catch C E [] ⟨0, 9, 12, 15⟩ [⟨0, 9, 15, 17⟩] rfl (fun z hz => by cases hz) (by decide) (by decide) kl_L_15 (by decide) hce hcv hcl ?_
      refine r_astore_n C dL_withdraw_12 rfl rfl ?_
      refine r_iconst C (nI 1) dL_withdraw_13 rfl ?_
      exact r_iretW C E hh dL_withdraw_14 (by omega) (by omega) ⟨1, M 26 0 0, ad, P, R, rfl, by decide, e8, fun z => absurd z (by decide), hre, fun _ => rfl, rfl, by rw [mw_26]⟩
    · refine r_catch C E [⟨0, 9, 12, 15⟩] ⟨0, 9, 15, 17⟩ [] rfl (fun z hz => by
          rcases List.mem_cons.mp hz with rfl | hz
          · exact ⟨by decide, _, kl_L_15, by decide⟩
          · cases hz) (by decide) (by decide) kl_L_17 (by decide) hce hcv hcl ?_
      refine r_astore_n C dL_withdraw_15 rfl rfl ?_
      refine r_iconst C (nI 2) dL_withdraw_16 rfl ?_
      exact r_iretW C E hh dL_withdraw_17 (by omega) (by omega) ⟨2, M 26 0 0, ad, P, R, rfl, by decide, e8, fun z => absurd z (by decide), hre, fun _ => rfl, rfl, by rw [mw_26]⟩
set_option maxHeartbeats 4000000 in
set_option maxRecDepth 100000 in
theorem c_L_pass {l : Launch} (hl : l.stackTraces = false) (Γ : fG) (B0 : Nat) (ad : Nat → Nat → Nat) (P R M : fR) (n : Nat) (h : RE n P R M) (hn : n ≤ 512) (x : Int32) : f_MetW l yL_pass cL_pass 4 (some .int) [(0, 9, 12, 15)] 7 1 6 153 Γ B0 [.ref (ad 1 0), .int x, .ref (ad 30 18)] (wj (fw Γ ad P) (xw Γ ad R) (mw Γ ad M)) (WPo Γ ad M n (fun M => paM M x) (fun M => (paV M x).toInt64)) := by
  refine f_ofW hl (by decide) rfl (Nat.le_of_ble_eq_true rfl) (fun X9 C E hh => ?_)
  generalize (f_s X9).heap = H, ([] : List Loc) = locs at hh ⊢
  have h27 := RE_27 h
  refine r_aload_n C dL_pass_0 rfl ?_
  refine r_iconst C (nI 0) dL_pass_1 rfl ?_
  refine r_aload_n C dL_pass_2 rfl ?_
  refine r_iload_n C dL_pass_3 rfl ?_
  refine r_callVH C E.2.1 hh (c_X4_pass E.2.1 Γ B0 ad P R (mw Γ ad M) x (RE_fj h).1 (RE_xi h) (by have := h.2.2.2.2.2.2.2.2.2.1.1; omega)) lk_L_60 (tr := .inr (.inl (0, 0))) rfl rfl rfl rfl (Nat.le_of_ble_eq_true rfl) dL_pass_4 ⟨by decide, by decide⟩ ⟨by omega, by omega⟩ ?_ ?_
  · rintro v w' H locs hs9 ⟨r, rfl, hc, rfl, rfl⟩ hh
    obtain ⟨v26, hv26⟩ := lN_of _
    refine r_i2l C (v := lN v26) dL_pass_7 hv26.symm ?_
    refine as_out C hh h27 dL_pass_8 (fun H locs hh => ?_)
    have h6 : RE n P R (rs M 26 (k0 v26)) := RE_26 h _
    obtain ⟨e1, e2, e3⟩ := q_pass_n h6 hn hc
    refine r_goto (tgt := 15) C dL_pass_9 (by decide) ?_
    refine r_iconst C (nI 0) dL_pass_15 rfl ?_
    exact r_iretW C E hh dL_pass_16 (by omega) (by omega) ⟨0, v26, ad, P, psR P R (xN x), rfl, by decide, e1, fun _ => by rw [hv26, e2], e3, fun _ => rfl, rfl, rfl⟩
  · intro E9 w' H locs q ce hp hh hce hcv hcl
    obtain ⟨hx, rfl⟩ := hp
    have h7 : RE n P R (rs M 26 (k0 (M 26 0 0))) := RE_26 h _
    obtain ⟨rfl, hx⟩ := hx
    obtain ⟨e8, hre⟩ := q_pass_x h7 hx
    refine r_catch C E [] ⟨0, 9, 12, 15⟩ [] rfl (fun z hz => by cases hz) (by decide) (by decide) kl_L_15 (by decide) hce hcv hcl ?_
    refine r_astore_n C dL_pass_12 rfl rfl ?_
    refine r_iconst C (nI 1) dL_pass_13 rfl ?_
    exact r_iretW C E hh dL_pass_14 (by omega) (by omega) ⟨1, M 26 0 0, ad, P, R, rfl, by decide, e8, fun z => absurd z (by decide), hre, fun _ => rfl, rfl, by rw [mw_26]⟩
set_option maxHeartbeats 4000000 in
set_option maxRecDepth 100000 in
theorem c_L_mayUse {l : Launch} (hl : l.stackTraces = false) (Γ : fG) (B0 : Nat) (ad : Nat → Nat → Nat) (P R M : fR) (n : Nat) (h : RE n P R M) (hn : n ≤ 512) (x : Int32) : f_MetW l yL_mayUse cL_mayUse 4 (some .int) [(0, 16, 19, 15)] 8 1 6 131 Γ B0 [.ref (ad 1 0), .int x, .ref (ad 30 18)] (wj (fw Γ ad P) (xw Γ ad R) (mw Γ ad M)) (WPo Γ ad M n (fun M => rs M 8 (k0 (thr (rgB x 8) true true))) (fun M => lN (rgB x 8 && mayB M (xN x)).toNat)) := by
  refine f_ofW hl (by decide) rfl (Nat.le_of_ble_eq_true rfl) (fun X9 C E hh => ?_)
  generalize (f_s X9).heap = H, ([] : List Loc) = locs at hh ⊢
  have h27 := RE_27 h
  refine r_aload_n C dL_mayUse_0 rfl ?_
  refine r_iconst C (nI 0) dL_mayUse_1 rfl ?_
  refine r_aload_n C dL_mayUse_2 rfl ?_
  refine r_iload_n C dL_mayUse_3 rfl ?_
  refine r_callVH C E.2.1 hh (c_X4_mayUse E.2.1 Γ B0 ad R (fw Γ ad P) (mw Γ ad M) x (RE_xi h)) lk_L_63 (tr := .inr (.inl (0, 0))) rfl rfl rfl rfl (Nat.le_of_ble_eq_true rfl) dL_mayUse_4 ⟨by decide, by decide⟩ ⟨by omega, by omega⟩ ?_ ?_
  · rintro v w' H locs hs9 ⟨r, rfl, hc, rfl, rfl⟩ hh
    refine r_if_eqB (tgt := 14) C dL_mayUse_7 (by decide) (fun h9 => ?_) (fun h9 => ?_)
    · refine r_lconst C (lN 0) dL_mayUse_14 rfl ?_
      refine as_out C hh h27 dL_mayUse_15 (fun H locs hh => ?_)
      have h6 : RE n P R (rs M 26 (k0 0)) := RE_26 h _
      obtain ⟨e1, e2⟩ := q_mayUse_n h6 hc
      refine r_goto (tgt := 22) C dL_mayUse_16 (by decide) ?_
      refine r_iconst C (nI 0) dL_mayUse_22 rfl ?_
      exact r_iretW C E hh dL_mayUse_23 (by omega) (by omega) ⟨0, 0, ad, P, R, rfl, by decide, e1, fun _ => by show lN 0 = lN _; rw [← e2, h9]; rfl, RE_t h6 _, fun _ => rfl, rfl, rfl⟩
    · refine r_lconst C (lN 1) dL_mayUse_10 rfl ?_
      refine r_goto (tgt := 15) C dL_mayUse_11 (by decide) ?_
      refine as_out C hh h27 dL_mayUse_15 (fun H locs hh => ?_)
      have h6 : RE n P R (rs M 26 (k0 1)) := RE_26 h _
      obtain ⟨e1, e2⟩ := q_mayUse_n h6 hc
      refine r_goto (tgt := 22) C dL_mayUse_16 (by decide) ?_
      refine r_iconst C (nI 0) dL_mayUse_22 rfl ?_
      exact r_iretW C E hh dL_mayUse_23 (by omega) (by omega) ⟨0, 1, ad, P, R, rfl, by decide, e1, fun _ => by show lN 1 = lN _; rw [← e2, h9]; rfl, RE_t h6 _, fun _ => rfl, rfl, rfl⟩
  · intro E9 w' H locs q ce hp hh hce hcv hcl
    obtain ⟨hx, rfl⟩ := hp
    have h7 : RE n P R (rs M 26 (k0 (M 26 0 0))) := RE_26 h _
    obtain ⟨rfl, hx⟩ := hx
    have e8 := q_mayUse_x hx
    refine r_catch C E [] ⟨0, 16, 19, 15⟩ [] rfl (fun z hz => by cases hz) (by decide) (by decide) kl_L_15 (by decide) hce hcv hcl ?_
    refine r_astore_n C dL_mayUse_19 rfl rfl ?_
    refine r_iconst C (nI 1) dL_mayUse_20 rfl ?_
    exact r_iretW C E hh dL_mayUse_21 (by omega) (by omega) ⟨1, M 26 0 0, ad, P, R, rfl, by decide, e8, fun z => absurd z (by decide), RE_t h7 _, fun _ => rfl, rfl, by rw [mw_26]⟩
set_option maxHeartbeats 4000000 in
set_option maxRecDepth 100000 in
theorem c_L_prove {l : Launch} (hl : l.stackTraces = false) (Γ : fG) (B0 : Nat) (ad : Nat → Nat → Nat) (P R M : fR) (n : Nat) (h : RE n P R M) (hn : n ≤ 512) (x : Int32) (y : Int32) : f_MetW l yL_prove cL_prove 5 (some .int) [(0, 10, 13, 13), (0, 10, 17, 15), (0, 10, 21, 17)] 8 3 18 134 Γ B0 [.ref (ad 1 0), .int x, .int y, .ref (ad 30 18)] (wj (fw Γ ad P) (xw Γ ad R) (mw Γ ad M)) (WPo Γ ad M n (fun M => pwM M x y) (fun M => (pwV M x y).toInt64)) := by
  refine f_ofW hl (by decide) rfl (Nat.le_of_ble_eq_true rfl) (fun X9 C E hh => ?_)
  generalize (f_s X9).heap = H, ([] : List Loc) = locs at hh ⊢
  have h27 := RE_27 h
  refine r_aload_n C dL_prove_0 rfl ?_
  refine r_iconst C (nI 0) dL_prove_1 rfl ?_
  refine r_aload_n C dL_prove_2 rfl ?_
  refine r_iload_n C dL_prove_3 rfl ?_
  refine r_iload_n C dL_prove_4 rfl ?_
  refine r_callVH C E.2.1 hh (c_X4_prove E.2.1 Γ B0 ad R (fw Γ ad P) (mw Γ ad M) x y (RE_xi h)) lk_L_66 (tr := .inr (.inl (0, 0))) rfl rfl rfl rfl (Nat.le_of_ble_eq_true rfl) dL_prove_5 ⟨by decide, by decide⟩ ⟨by omega, by omega⟩ ?_ ?_
  · rintro v w' H locs hs9 ⟨r, rfl, hc, rfl, rfl⟩ hh
    obtain ⟨v26, hv26⟩ := lN_of _
    refine r_i2l C (v := lN v26) dL_prove_8 hv26.symm ?_
    refine as_out C hh h27 dL_prove_9 (fun H locs hh => ?_)
    have h6 : RE n P R (rs M 26 (k0 v26)) := RE_26 h _
    obtain ⟨e1, e2, e3⟩ := q_prove_n h6 hc
    refine r_goto (tgt := 25) C dL_prove_10 (by decide) ?_
    refine r_iconst C (nI 0) dL_prove_25 rfl ?_
    exact r_iretW C E hh dL_prove_26 (by omega) (by omega) ⟨0, v26, ad, P, pvR R (R 6 (xN x) 0 - 1) (xN y), rfl, by decide, e1, fun _ => by rw [hv26, e2], e3, fun _ => rfl, rfl, rfl⟩
  · intro E9 w' H locs q ce hp hh hce hcv hcl
    obtain ⟨hx, rfl⟩ := hp
    have h7 : RE n P R (rs M 26 (k0 (M 26 0 0))) := RE_26 h _
    obtain ⟨hk, hre⟩ := q_prove_x h7 hx
    rcases hk with ⟨rfl, e8⟩ | ⟨rfl, e8⟩ | ⟨rfl, e8⟩
    · refine r_catch C E [] ⟨0, 10, 13, 13⟩ [⟨0, 10, 17, 15⟩, ⟨0, 10, 21, 17⟩] rfl (fun z hz => by cases hz) (by decide) (by decide) kl_L_13 (by decide) hce hcv hcl ?_
      refine r_astore C dL_prove_13 rfl rfl ?_
      refine r_iconst C (nI 1) dL_prove_15 rfl ?_
      exact r_iretW C E hh dL_prove_16 (by omega) (by omega) ⟨1, M 26 0 0, ad, P, R, rfl, by decide, e8, fun z => absurd z (by decide), hre, fun _ => rfl, rfl, by rw [mw_26]⟩
    · refine r_catch C E [⟨0, 10, 13, 13⟩] ⟨0, 10, 17, 15⟩ [⟨0, 10, 21, 17⟩] rfl (fun z hz => by
          rcases List.mem_cons.mp hz with rfl | hz
          · exact ⟨by decide, _, kl_L_13, by decide⟩
          · cases hz) (by decide) (by decide) kl_L_15 (by decide) hce hcv hcl ?_
      refine r_astore C dL_prove_17 rfl rfl ?_
      refine r_iconst C (nI 2) dL_prove_19 rfl ?_
      exact r_iretW C E hh dL_prove_20 (by omega) (by omega) ⟨2, M 26 0 0, ad, P, R, rfl, by decide, e8, fun z => absurd z (by decide), hre, fun _ => rfl, rfl, by rw [mw_26]⟩
    · refine r_catch C E [⟨0, 10, 13, 13⟩, ⟨0, 10, 17, 15⟩] ⟨0, 10, 21, 17⟩ [] rfl (fun z hz => by
          rcases List.mem_cons.mp hz with rfl | hz
          · exact ⟨by decide, _, kl_L_13, by decide⟩
          · rcases List.mem_cons.mp hz with rfl | hz
            · exact ⟨by decide, _, kl_L_15, by decide⟩
            · cases hz) (by decide) (by decide) kl_L_17 (by decide) hce hcv hcl ?_
      refine r_astore C dL_prove_21 rfl rfl ?_
      refine r_iconst C (nI 3) dL_prove_23 rfl ?_
      exact r_iretW C E hh dL_prove_24 (by omega) (by omega) ⟨3, M 26 0 0, ad, P, R, rfl, by decide, e8, fun z => absurd z (by decide), hre, fun _ => rfl, rfl, by rw [mw_26]⟩
set_option maxHeartbeats 4000000 in
set_option maxRecDepth 100000 in
theorem c_L_judge {l : Launch} (hl : l.stackTraces = false) (Γ : fG) (B0 : Nat) (ad : Nat → Nat → Nat) (P R M : fR) (n : Nat) (h : RE n P R M) (hn : n ≤ 512) (x : Int32) (y : Int32) (b9 : Bool) : f_MetW l yL_judge cL_judge 6 (some .int) [(0, 19, 22, 13), (0, 19, 26, 15), (0, 19, 30, 17)] 8 3 18 135 Γ B0 [.ref (ad 1 0), .int x, .int y, .int (bI b9), .ref (ad 30 18)] (wj (fw Γ ad P) (xw Γ ad R) (mw Γ ad M)) (WPo Γ ad M n (fun M => juM M x y b9) (fun M => lN (juV M x y b9).toNat)) := by
  refine f_ofW hl (by decide) rfl (Nat.le_of_ble_eq_true rfl) (fun X9 C E hh => ?_)
  generalize (f_s X9).heap = H, ([] : List Loc) = locs at hh ⊢
  have h27 := RE_27 h
  refine r_aload C dL_judge_0 rfl ?_
  refine r_iconst C (nI 0) dL_judge_2 rfl ?_
  refine r_aload_n C dL_judge_3 rfl ?_
  refine r_iload_n C dL_judge_4 rfl ?_
  refine r_iload_n C dL_judge_5 rfl ?_
  refine r_iload_n C dL_judge_6 rfl ?_
  refine r_callVH C E.2.1 hh (c_X4_judge E.2.1 Γ B0 ad R (fw Γ ad P) (mw Γ ad M) x y b9 (RE_xi h)) lk_L_69 (tr := .inr (.inl (0, 0))) rfl rfl rfl rfl (Nat.le_of_ble_eq_true rfl) dL_judge_7 ⟨by decide, by decide⟩ ⟨by omega, by omega⟩ ?_ ?_
  · rintro v w' H locs hs9 ⟨r, rfl, hc, rfl, rfl⟩ hh
    refine r_if_eqB (tgt := 17) C dL_judge_10 (by decide) (fun h9 => ?_) (fun h9 => ?_)
    · refine r_lconst C (lN 0) dL_judge_17 rfl ?_
      refine as_out C hh h27 dL_judge_18 (fun H locs hh => ?_)
      have h6 : RE n P R (rs M 26 (k0 0)) := RE_26 h _
      obtain ⟨e1, e2, e3⟩ := q_judge_n h6 hc
      refine r_goto (tgt := 34) C dL_judge_19 (by decide) ?_
      refine r_iconst C (nI 0) dL_judge_34 rfl ?_
      exact r_iretW C E hh dL_judge_35 (by omega) (by omega) ⟨0, 0, ad, P, jdR R (R 6 (xN x) 0 - 1) (xN y) b9, rfl, by decide, e1, fun _ => by show lN 0 = lN _; rw [← e2, h9]; rfl, e3, fun _ => rfl, rfl, rfl⟩
    · refine r_lconst C (lN 1) dL_judge_13 rfl ?_
      refine r_goto (tgt := 18) C dL_judge_14 (by decide) ?_
      refine as_out C hh h27 dL_judge_18 (fun H locs hh => ?_)
      have h6 : RE n P R (rs M 26 (k0 1)) := RE_26 h _
      obtain ⟨e1, e2, e3⟩ := q_judge_n h6 hc
      refine r_goto (tgt := 34) C dL_judge_19 (by decide) ?_
      refine r_iconst C (nI 0) dL_judge_34 rfl ?_
      exact r_iretW C E hh dL_judge_35 (by omega) (by omega) ⟨0, 1, ad, P, jdR R (R 6 (xN x) 0 - 1) (xN y) b9, rfl, by decide, e1, fun _ => by show lN 1 = lN _; rw [← e2, h9]; rfl, e3, fun _ => rfl, rfl, rfl⟩
  · intro E9 w' H locs q ce hp hh hce hcv hcl
    obtain ⟨hx, rfl⟩ := hp
    have h7 : RE n P R (rs M 26 (k0 (M 26 0 0))) := RE_26 h _
    obtain ⟨hk, hre⟩ := q_judge_x h7 hx
    rcases hk with ⟨rfl, e8⟩ | ⟨rfl, e8⟩ | ⟨rfl, e8⟩
    · refine r_catch C E [] ⟨0, 19, 22, 13⟩ [⟨0, 19, 26, 15⟩, ⟨0, 19, 30, 17⟩] rfl (fun z hz => by cases hz) (by decide) (by decide) kl_L_13 (by decide) hce hcv hcl ?_
      refine r_astore C dL_judge_22 rfl rfl ?_
      refine r_iconst C (nI 1) dL_judge_24 rfl ?_
      exact r_iretW C E hh dL_judge_25 (by omega) (by omega) ⟨1, M 26 0 0, ad, P, R, rfl, by decide, e8, fun z => absurd z (by decide), hre, fun _ => rfl, rfl, by rw [mw_26]⟩
    · refine r_catch C E [⟨0, 19, 22, 13⟩] ⟨0, 19, 26, 15⟩ [⟨0, 19, 30, 17⟩] rfl (fun z hz => by
          rcases List.mem_cons.mp hz with rfl | hz
          · exact ⟨by decide, _, kl_L_13, by decide⟩
          · cases hz) (by decide) (by decide) kl_L_15 (by decide) hce hcv hcl ?_
      refine r_astore C dL_judge_26 rfl rfl ?_
      refine r_iconst C (nI 2) dL_judge_28 rfl ?_
      exact r_iretW C E hh dL_judge_29 (by omega) (by omega) ⟨2, M 26 0 0, ad, P, R, rfl, by decide, e8, fun z => absurd z (by decide), hre, fun _ => rfl, rfl, by rw [mw_26]⟩
    · refine r_catch C E [⟨0, 19, 22, 13⟩, ⟨0, 19, 26, 15⟩] ⟨0, 19, 30, 17⟩ [] rfl (fun z hz => by
          rcases List.mem_cons.mp hz with rfl | hz
          · exact ⟨by decide, _, kl_L_13, by decide⟩
          · rcases List.mem_cons.mp hz with rfl | hz
            · exact ⟨by decide, _, kl_L_15, by decide⟩
            · cases hz) (by decide) (by decide) kl_L_17 (by decide) hce hcv hcl ?_
      refine r_astore C dL_judge_30 rfl rfl ?_
      refine r_iconst C (nI 3) dL_judge_32 rfl ?_
      exact r_iretW C E hh dL_judge_33 (by omega) (by omega) ⟨3, M 26 0 0, ad, P, R, rfl, by decide, e8, fun z => absurd z (by decide), hre, fun _ => rfl, rfl, by rw [mw_26]⟩
set_option maxHeartbeats 4000000 in
set_option maxRecDepth 100000 in
theorem c_L_proof {l : Launch} (hl : l.stackTraces = false) (Γ : fG) (B0 : Nat) (ad : Nat → Nat → Nat) (P R M : fR) (n : Nat) (h : RE n P R M) (hn : n ≤ 512) (x : Int32) (y : Int32) : f_MetW l yL_proof cL_proof 5 (some .int) [(0, 10, 13, 13), (0, 10, 17, 15)] 8 2 12 134 Γ B0 [.ref (ad 1 0), .int x, .int y, .ref (ad 30 18)] (wj (fw Γ ad P) (xw Γ ad R) (mw Γ ad M)) (WPo Γ ad M n (fun M => rs M 8 (k0 (thr (rgB x (M 2 0 0)) (rgB y 4) true))) (fun M => (pfV M x y).toInt64)) := by
  refine f_ofW hl (by decide) rfl (Nat.le_of_ble_eq_true rfl) (fun X9 C E hh => ?_)
  generalize (f_s X9).heap = H, ([] : List Loc) = locs at hh ⊢
  have h27 := RE_27 h
  refine r_aload_n C dL_proof_0 rfl ?_
  refine r_iconst C (nI 0) dL_proof_1 rfl ?_
  refine r_aload_n C dL_proof_2 rfl ?_
  refine r_iload_n C dL_proof_3 rfl ?_
  refine r_iload_n C dL_proof_4 rfl ?_
  refine r_callVH C E.2.1 hh (c_X4_proof E.2.1 Γ B0 ad R (fw Γ ad P) (mw Γ ad M) x y (RE_xi h)) lk_L_73 (tr := .inr (.inl (0, 0))) rfl rfl rfl rfl (Nat.le_of_ble_eq_true rfl) dL_proof_5 ⟨by decide, by decide⟩ ⟨by omega, by omega⟩ ?_ ?_
  · rintro v w' H locs hs9 ⟨r, rfl, hc, rfl, rfl⟩ hh
    obtain ⟨v26, hv26⟩ := lN_of _
    refine r_i2l C (v := lN v26) dL_proof_8 hv26.symm ?_
    refine as_out C hh h27 dL_proof_9 (fun H locs hh => ?_)
    have h6 : RE n P R (rs M 26 (k0 v26)) := RE_26 h _
    obtain ⟨e1, e2⟩ := q_proof_n h6 hc
    refine r_goto (tgt := 21) C dL_proof_10 (by decide) ?_
    refine r_iconst C (nI 0) dL_proof_21 rfl ?_
    exact r_iretW C E hh dL_proof_22 (by omega) (by omega) ⟨0, v26, ad, P, R, rfl, by decide, e1, fun _ => by rw [hv26, e2], RE_t h6 _, fun _ => rfl, rfl, rfl⟩
  · intro E9 w' H locs q ce hp hh hce hcv hcl
    obtain ⟨hx, rfl⟩ := hp
    have h7 : RE n P R (rs M 26 (k0 (M 26 0 0))) := RE_26 h _
    have hk := q_pc_x h7 true hx
    rcases hk with ⟨rfl, e8⟩ | ⟨rfl, e8⟩
    · refine r_catch C E [] ⟨0, 10, 13, 13⟩ [⟨0, 10, 17, 15⟩] rfl (fun z hz => by cases hz) (by decide) (by decide) kl_L_13 (by decide) hce hcv hcl ?_
      refine r_astore C dL_proof_13 rfl rfl ?_
      refine r_iconst C (nI 1) dL_proof_15 rfl ?_
      exact r_iretW C E hh dL_proof_16 (by omega) (by omega) ⟨1, M 26 0 0, ad, P, R, rfl, by decide, e8, fun z => absurd z (by decide), RE_t h7 _, fun _ => rfl, rfl, by rw [mw_26]⟩
    · refine r_catch C E [⟨0, 10, 13, 13⟩] ⟨0, 10, 17, 15⟩ [] rfl (fun z hz => by
          rcases List.mem_cons.mp hz with rfl | hz
          · exact ⟨by decide, _, kl_L_13, by decide⟩
          · cases hz) (by decide) (by decide) kl_L_15 (by decide) hce hcv hcl ?_
      refine r_astore C dL_proof_17 rfl rfl ?_
      refine r_iconst C (nI 2) dL_proof_19 rfl ?_
      exact r_iretW C E hh dL_proof_20 (by omega) (by omega) ⟨2, M 26 0 0, ad, P, R, rfl, by decide, e8, fun z => absurd z (by decide), RE_t h7 _, fun _ => rfl, rfl, by rw [mw_26]⟩
set_option maxHeartbeats 4000000 in
set_option maxRecDepth 100000 in
theorem c_L_isReady {l : Launch} (hl : l.stackTraces = false) (Γ : fG) (B0 : Nat) (ad : Nat → Nat → Nat) (P R M : fR) (n : Nat) (h : RE n P R M) (hn : n ≤ 512) (x : Int32) : f_MetW l yL_isReady cL_isReady 4 (some .int) [(0, 16, 19, 13)] 8 1 6 132 Γ B0 [.ref (ad 1 0), .int x, .ref (ad 30 18)] (wj (fw Γ ad P) (xw Γ ad R) (mw Γ ad M)) (WPo Γ ad M n (fun M => rs M 8 (k0 (thr (rgB x (shM M)) true true))) (fun M => lN (rgB x (shM M) && rdY M (xN x)).toNat)) := by
  refine f_ofW hl (by decide) rfl (Nat.le_of_ble_eq_true rfl) (fun X9 C E hh => ?_)
  generalize (f_s X9).heap = H, ([] : List Loc) = locs at hh ⊢
  have h27 := RE_27 h
  refine r_aload_n C dL_isReady_0 rfl ?_
  refine r_iconst C (nI 0) dL_isReady_1 rfl ?_
  refine r_aload_n C dL_isReady_2 rfl ?_
  refine r_iload_n C dL_isReady_3 rfl ?_
  refine r_callVH C E.2.1 hh (c_X4_isReady E.2.1 Γ B0 ad P R (mw Γ ad M) x (RE_fj h).1 (RE_xi h)) lk_L_76 (tr := .inr (.inl (0, 0))) rfl rfl rfl rfl (Nat.le_of_ble_eq_true rfl) dL_isReady_4 ⟨by decide, by decide⟩ ⟨by omega, by omega⟩ ?_ ?_
  · rintro v w' H locs hs9 ⟨r, rfl, hc, rfl, rfl⟩ hh
    refine r_if_eqB (tgt := 14) C dL_isReady_7 (by decide) (fun h9 => ?_) (fun h9 => ?_)
    · refine r_lconst C (lN 0) dL_isReady_14 rfl ?_
      refine as_out C hh h27 dL_isReady_15 (fun H locs hh => ?_)
      have h6 : RE n P R (rs M 26 (k0 0)) := RE_26 h _
      obtain ⟨e1, e2⟩ := q_isReady_n h6 hc
      refine r_goto (tgt := 22) C dL_isReady_16 (by decide) ?_
      refine r_iconst C (nI 0) dL_isReady_22 rfl ?_
      exact r_iretW C E hh dL_isReady_23 (by omega) (by omega) ⟨0, 0, ad, P, R, rfl, by decide, e1, fun _ => by show lN 0 = lN _; rw [← e2, h9]; rfl, RE_t h6 _, fun _ => rfl, rfl, rfl⟩
    · refine r_lconst C (lN 1) dL_isReady_10 rfl ?_
      refine r_goto (tgt := 15) C dL_isReady_11 (by decide) ?_
      refine as_out C hh h27 dL_isReady_15 (fun H locs hh => ?_)
      have h6 : RE n P R (rs M 26 (k0 1)) := RE_26 h _
      obtain ⟨e1, e2⟩ := q_isReady_n h6 hc
      refine r_goto (tgt := 22) C dL_isReady_16 (by decide) ?_
      refine r_iconst C (nI 0) dL_isReady_22 rfl ?_
      exact r_iretW C E hh dL_isReady_23 (by omega) (by omega) ⟨0, 1, ad, P, R, rfl, by decide, e1, fun _ => by show lN 1 = lN _; rw [← e2, h9]; rfl, RE_t h6 _, fun _ => rfl, rfl, rfl⟩
  · intro E9 w' H locs q ce hp hh hce hcv hcl
    obtain ⟨hx, rfl⟩ := hp
    have h7 : RE n P R (rs M 26 (k0 (M 26 0 0))) := RE_26 h _
    obtain ⟨rfl, hx⟩ := hx
    have e8 := q_isReady_x h7 hx
    refine r_catch C E [] ⟨0, 16, 19, 13⟩ [] rfl (fun z hz => by cases hz) (by decide) (by decide) kl_L_13 (by decide) hce hcv hcl ?_
    refine r_astore_n C dL_isReady_19 rfl rfl ?_
    refine r_iconst C (nI 1) dL_isReady_20 rfl ?_
    exact r_iretW C E hh dL_isReady_21 (by omega) (by omega) ⟨1, M 26 0 0, ad, P, R, rfl, by decide, e8, fun z => absurd z (by decide), RE_t h7 _, fun _ => rfl, rfl, by rw [mw_26]⟩
set_option maxHeartbeats 4000000 in
set_option maxRecDepth 100000 in
theorem c_L_makePlates {l : Launch} (hl : l.stackTraces = false) (Γ : fG) (B0 : Nat) (ad : Nat → Nat → Nat) (P R M : fR) (n : Nat) (h : RE n P R M) (hn : n ≤ 512) (x : Int32) : f_MetW l yL_makePlates cL_makePlates 4 (some .int) [(0, 9, 12, 13), (0, 9, 15, 17)] 8 18 164 154 Γ B0 [.ref (ad 1 0), .int x, .ref (ad 30 18)] (wj (fw Γ ad P) (xw Γ ad R) (mw Γ ad M)) (WPo Γ ad M n (fun M => mpM M x) (fun M => (mpV M x).toInt64)) := by
  refine f_ofW hl (by decide) rfl (Nat.le_of_ble_eq_true rfl) (fun X9 C E hh => ?_)
  generalize (f_s X9).heap = H, ([] : List Loc) = locs at hh ⊢
  have h27 := RE_27 h
  refine r_aload_n C dL_makePlates_0 rfl ?_
  refine r_iconst C (nI 0) dL_makePlates_1 rfl ?_
  refine r_aload_n C dL_makePlates_2 rfl ?_
  refine r_iload_n C dL_makePlates_3 rfl ?_
  refine r_callVH C E.2.1 hh (c_X4_makePlates E.2.1 Γ B0 ad P R (mw Γ ad M) x (RE_fj h).1 (RE_xi h) (by have := h.2.2.2.2.2.2.2.2.2.1.2.2.1; omega)) lk_L_79 (tr := .inr (.inl (0, 0))) rfl rfl rfl rfl (Nat.le_of_ble_eq_true rfl) dL_makePlates_4 ⟨by decide, by decide⟩ ⟨by omega, by omega⟩ ?_ ?_
  · rintro v w' H locs hs9 ⟨r, rfl, hc, rfl, f, g, rfl⟩ hh
    obtain ⟨v26, hv26⟩ := lN_of _
    refine r_i2l C (v := lN v26) dL_makePlates_7 hv26.symm ?_
    refine as_out C hh h27 dL_makePlates_8 (fun H locs hh => ?_)
    have h6 : RE n P R (rs M 26 (k0 v26)) := RE_26 h _
    obtain ⟨e1, e2, e3⟩ := q_makePlates_n h6 hn hc (MI_23 (RE_mi h6))
    have e4 := n23_makePlates (rs M 26 (k0 v26)) x
    rw [e4] at e3
    refine r_goto (tgt := 18) C dL_makePlates_9 (by decide) ?_
    refine r_iconst C (nI 0) dL_makePlates_18 rfl ?_
    exact r_iretW C E hh dL_makePlates_19 (by omega) (by omega) ⟨0, v26, (adP ad f g), P, mks P R (xN x) 8, rfl, by decide, e1, fun _ => by rw [hv26, e2], e3, fun _ => rfl, rfl, by rw [fw_ext Γ (ad := adP ad f g) (ad' := ad) _ (fun j => rfl), mw_ext Γ (ad := ad) (ad' := adP ad f g) _ (fun j => rfl)]⟩
  · intro E9 w' H locs q ce hp hh hce hcv hcl
    obtain ⟨hx, rfl⟩ := hp
    have h7 : RE n P R (rs M 26 (k0 (M 26 0 0))) := RE_26 h _
    obtain ⟨hk, hre⟩ := q_makePlates_x h7 hx (MI_23 (RE_mi h7))
    have e4 := n23_makePlates (rs M 26 (k0 (M 26 0 0))) x
    rw [e4] at hre
    rcases hk with ⟨rfl, e8⟩ | ⟨rfl, e8⟩
    · refine r_catch C E [] ⟨0, 9, 12, 13⟩ [⟨0, 9, 15, 17⟩] rfl (fun z hz => by cases hz) (by decide) (by decide) kl_L_13 (by decide) hce hcv hcl ?_
      refine r_astore_n C dL_makePlates_12 rfl rfl ?_
      refine r_iconst C (nI 1) dL_makePlates_13 rfl ?_
      exact r_iretW C E hh dL_makePlates_14 (by omega) (by omega) ⟨1, M 26 0 0, ad, P, R, rfl, by decide, e8, fun z => absurd z (by decide), hre, fun _ => rfl, rfl, by rw [mw_26]⟩
    · refine r_catch C E [⟨0, 9, 12, 13⟩] ⟨0, 9, 15, 17⟩ [] rfl (fun z hz => by
          rcases List.mem_cons.mp hz with rfl | hz
          · exact ⟨by decide, _, kl_L_13, by decide⟩
          · cases hz) (by decide) (by decide) kl_L_17 (by decide) hce hcv hcl ?_
      refine r_astore_n C dL_makePlates_15 rfl rfl ?_
      refine r_iconst C (nI 2) dL_makePlates_16 rfl ?_
      exact r_iretW C E hh dL_makePlates_17 (by omega) (by omega) ⟨2, M 26 0 0, ad, P, R, rfl, by decide, e8, fun z => absurd z (by decide), hre, fun _ => rfl, rfl, by rw [mw_26]⟩
set_option maxHeartbeats 4000000 in
set_option maxRecDepth 100000 in
theorem c_L_wear {l : Launch} (hl : l.stackTraces = false) (Γ : fG) (B0 : Nat) (ad : Nat → Nat → Nat) (P R M : fR) (n : Nat) (h : RE n P R M) (hn : n ≤ 512) (x : Int32) (y : Int32) (z : Int32) : f_MetW l yL_wear cL_wear 6 (some .int) [(0, 12, 15, 13), (0, 12, 19, 15)] 8 3 18 135 Γ B0 [.ref (ad 1 0), .int x, .int y, .int z, .ref (ad 30 18)] (wj (fw Γ ad P) (xw Γ ad R) (mw Γ ad M)) (WPo Γ ad M n (fun M => wrM M x y z) (fun M => (wrW M x y z).toInt64)) := by
  refine f_ofW hl (by decide) rfl (Nat.le_of_ble_eq_true rfl) (fun X9 C E hh => ?_)
  generalize (f_s X9).heap = H, ([] : List Loc) = locs at hh ⊢
  have h27 := RE_27 h
  refine r_aload C dL_wear_0 rfl ?_
  refine r_iconst C (nI 0) dL_wear_2 rfl ?_
  refine r_aload_n C dL_wear_3 rfl ?_
  refine r_iload_n C dL_wear_4 rfl ?_
  refine r_iload_n C dL_wear_5 rfl ?_
  refine r_iload_n C dL_wear_6 rfl ?_
  refine r_callVH C E.2.1 hh (c_X4_wear E.2.1 Γ B0 ad P R (mw Γ ad M) x y z (RE_fj h).1 (RE_xi h)) lk_L_82 (tr := .inr (.inl (0, 0))) rfl rfl rfl rfl (Nat.le_of_ble_eq_true rfl) dL_wear_7 ⟨by decide, by decide⟩ ⟨by omega, by omega⟩ ?_ ?_
  · rintro v w' H locs hs9 ⟨r, rfl, hc, rfl, rfl⟩ hh
    obtain ⟨v26, hv26⟩ := lN_of _
    refine r_i2l C (v := lN v26) dL_wear_10 hv26.symm ?_
    refine as_out C hh h27 dL_wear_11 (fun H locs hh => ?_)
    have h6 : RE n P R (rs M 26 (k0 v26)) := RE_26 h _
    obtain ⟨e1, e2⟩ := q_wear_n h6 hc
    have e1w : wrM (rs M 26 (k0 v26)) x y z 8 0 0 = 0 := by rw [e1]; rfl
    have e3 : RE (n + 1) P (lkF P R (xN x) (xN y) (xN z)) (wrM (rs M 26 (k0 v26)) x y z) := by rw [e1]; exact RE_up (Nat.le_succ n) (RE_8 (RE_lkF h6 _ _ _) _)
    refine r_goto (tgt := 23) C dL_wear_12 (by decide) ?_
    refine r_iconst C (nI 0) dL_wear_23 rfl ?_
    exact r_iretW C E hh dL_wear_24 (by omega) (by omega) ⟨0, v26, ad, P, lkF P R (xN x) (xN y) (xN z), rfl, by decide, e1w, fun _ => by rw [hv26, e2], e3, fun _ => rfl, rfl, rfl⟩
  · intro E9 w' H locs q ce hp hh hce hcv hcl
    obtain ⟨hx, rfl⟩ := hp
    have h7 : RE n P R (rs M 26 (k0 (M 26 0 0))) := RE_26 h _
    have hk := q_wear_x h7 hx
    rcases hk with ⟨rfl, e8⟩ | ⟨rfl, e8⟩
    · refine r_catch C E [] ⟨0, 12, 15, 13⟩ [⟨0, 12, 19, 15⟩] rfl (fun z hz => by cases hz) (by decide) (by decide) kl_L_13 (by decide) hce hcv hcl ?_
      refine r_astore C dL_wear_15 rfl rfl ?_
      refine r_iconst C (nI 1) dL_wear_17 rfl ?_
      exact r_iretW C E hh dL_wear_18 (by omega) (by omega) ⟨1, M 26 0 0, ad, P, R, rfl, by decide, e8, fun z => absurd z (by decide), RE_t h7 _, fun _ => rfl, rfl, by rw [mw_26]⟩
    · refine r_catch C E [⟨0, 12, 15, 13⟩] ⟨0, 12, 19, 15⟩ [] rfl (fun z hz => by
          rcases List.mem_cons.mp hz with rfl | hz
          · exact ⟨by decide, _, kl_L_13, by decide⟩
          · cases hz) (by decide) (by decide) kl_L_15 (by decide) hce hcv hcl ?_
      refine r_astore C dL_wear_19 rfl rfl ?_
      refine r_iconst C (nI 2) dL_wear_21 rfl ?_
      exact r_iretW C E hh dL_wear_22 (by omega) (by omega) ⟨2, M 26 0 0, ad, P, R, rfl, by decide, e8, fun z => absurd z (by decide), RE_t h7 _, fun _ => rfl, rfl, by rw [mw_26]⟩
set_option maxHeartbeats 4000000 in
set_option maxRecDepth 100000 in
theorem c_L_print {l : Launch} (hl : l.stackTraces = false) (Γ : fG) (B0 : Nat) (ad : Nat → Nat → Nat) (P R M : fR) (n : Nat) (h : RE n P R M) (hn : n ≤ 512) (x : Int32) (y : Int32) : f_MetW l yL_print cL_print 5 (some .int) [(0, 10, 13, 13), (0, 10, 17, 15), (0, 10, 21, 17)] 8 11 66 154 Γ B0 [.ref (ad 1 0), .int x, .int y, .ref (ad 30 18)] (wj (fw Γ ad P) (xw Γ ad R) (mw Γ ad M)) (WPo Γ ad M n (fun M => ptM M x y) (fun M => (ptW M x y).toInt64)) := by
  refine f_ofW hl (by decide) rfl (Nat.le_of_ble_eq_true rfl) (fun X9 C E hh => ?_)
  generalize (f_s X9).heap = H, ([] : List Loc) = locs at hh ⊢
  have h27 := RE_27 h
  refine r_aload_n C dL_print_0 rfl ?_
  refine r_iconst C (nI 0) dL_print_1 rfl ?_
  refine r_aload_n C dL_print_2 rfl ?_
  refine r_iload_n C dL_print_3 rfl ?_
  refine r_iload_n C dL_print_4 rfl ?_
  refine r_callVH C E.2.1 hh (c_X4_print E.2.1 Γ B0 ad P R (mw Γ ad M) x y (RE_fj h).1 (RE_xi h) (by have := h.2.2.2.2.2.2.2.2.2.1.2.2.2; omega)) lk_L_85 (tr := .inr (.inl (0, 0))) rfl rfl rfl rfl (Nat.le_of_ble_eq_true rfl) dL_print_5 ⟨by decide, by decide⟩ ⟨by omega, by omega⟩ ?_ ?_
  · rintro v w' H locs hs9 ⟨r, rfl, hc, rfl, R9, hq9, rfl⟩ hh
    obtain ⟨v26, hv26⟩ := lN_of _
    refine r_i2l C (v := lN v26) dL_print_8 hv26.symm ?_
    refine as_out C hh h27 dL_print_9 (fun H locs hh => ?_)
    have h6 : RE n P R (rs M 26 (k0 v26)) := RE_26 h _
    obtain ⟨e1, e2, e3⟩ := q_print_n h6 hn hc hq9 (MI_23 (RE_mi h6))
    have e4 := n23_print (rs M 26 (k0 v26)) x y
    rw [e4] at e3
    refine r_goto (tgt := 25) C dL_print_10 (by decide) ?_
    refine r_iconst C (nI 0) dL_print_25 rfl ?_
    exact r_iretW C E hh dL_print_26 (by omega) (by omega) ⟨0, v26, ad, P, R9, rfl, by decide, e1, fun _ => by rw [hv26, e2], e3, fun _ => rfl, rfl, rfl⟩
  · intro E9 w' H locs q ce hp hh hce hcv hcl
    obtain ⟨R9, hq9, rfl, hx⟩ := hp
    have h7 : RE n P R (rs M 26 (k0 (M 26 0 0))) := RE_26 h _
    obtain ⟨hk, hre⟩ := q_print_x h7 hq9 (MI_23 (RE_mi h7)) hx
    have e4 := n23_print (rs M 26 (k0 (M 26 0 0))) x y
    rw [e4] at hre
    rcases hk with ⟨rfl, e8⟩ | ⟨rfl, e8⟩ | ⟨rfl, e8⟩
    · refine r_catch C E [] ⟨0, 10, 13, 13⟩ [⟨0, 10, 17, 15⟩, ⟨0, 10, 21, 17⟩] rfl (fun z hz => by cases hz) (by decide) (by decide) kl_L_13 (by decide) hce hcv hcl ?_
      refine r_astore C dL_print_13 rfl rfl ?_
      refine r_iconst C (nI 1) dL_print_15 rfl ?_
      exact r_iretW C E hh dL_print_16 (by omega) (by omega) ⟨1, M 26 0 0, ad, P, R9, rfl, by decide, e8, fun z => absurd z (by decide), hre, fun _ => rfl, rfl, by rw [mw_26]⟩
    · refine r_catch C E [⟨0, 10, 13, 13⟩] ⟨0, 10, 17, 15⟩ [⟨0, 10, 21, 17⟩] rfl (fun z hz => by
          rcases List.mem_cons.mp hz with rfl | hz
          · exact ⟨by decide, _, kl_L_13, by decide⟩
          · cases hz) (by decide) (by decide) kl_L_15 (by decide) hce hcv hcl ?_
      refine r_astore C dL_print_17 rfl rfl ?_
      refine r_iconst C (nI 2) dL_print_19 rfl ?_
      exact r_iretW C E hh dL_print_20 (by omega) (by omega) ⟨2, M 26 0 0, ad, P, R9, rfl, by decide, e8, fun z => absurd z (by decide), hre, fun _ => rfl, rfl, by rw [mw_26]⟩
    · refine r_catch C E [⟨0, 10, 13, 13⟩, ⟨0, 10, 17, 15⟩] ⟨0, 10, 21, 17⟩ [] rfl (fun z hz => by
          rcases List.mem_cons.mp hz with rfl | hz
          · exact ⟨by decide, _, kl_L_13, by decide⟩
          · rcases List.mem_cons.mp hz with rfl | hz
            · exact ⟨by decide, _, kl_L_15, by decide⟩
            · cases hz) (by decide) (by decide) kl_L_17 (by decide) hce hcv hcl ?_
      refine r_astore C dL_print_21 rfl rfl ?_
      refine r_iconst C (nI 3) dL_print_23 rfl ?_
      exact r_iretW C E hh dL_print_24 (by omega) (by omega) ⟨3, M 26 0 0, ad, P, R9, rfl, by decide, e8, fun z => absurd z (by decide), hre, fun _ => rfl, rfl, by rw [mw_26]⟩
