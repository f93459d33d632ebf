/-! ===== the wrappers' cases ===== -/
theorem n_insert {l : Launch} (hl : l.stackTraces = false) (Γ : fG) (B0 : Nat) (ad : Nat → Nat → Nat) (R : fR) (F : Nat → fO) (M : Nat → fO) (x y z : Int32) (hI : XI R) (hx : ((rg x (R 0 0 0 + 1) ∧ (rg y 256 ∧ rg z 16)) ∧ (R 0 0 0 < 64 ∧ R 1 0 0 < 100))) : f_MetW l yL_insert cL_insert 5 (some .int) [(0, 7, 8, 16), (0, 7, 13, 19), (0, 7, 18, 22)] 8 4 24 135 Γ B0 [.ref (ad 1 0), .int x, .int y, .int z] (wj F (xw Γ ad R) M) (f_rI (fun r9 w9 => r9 = nI (R 0 0 0 + 1) ∧ ∃ a1 a2, w9 = wj F (xw Γ (pgA ad (R 20 0 0) a1 a2) (insR R (xN x) (xN y) (xN z))) M)) :=
  (c_L_insert hl Γ B0 ad R F M x y z hI).mono (fun v w' hp => by
    obtain ⟨r, rfl, hp⟩ := hp
    rcases hp with ⟨_, hq⟩ | hp
    · exact ⟨r, rfl, hq⟩
    · exfalso; clear hl; obtain ⟨hp, -⟩ := hp; simp_all)
theorem x_insert1 {l : Launch} (hl : l.stackTraces = false) (Γ : fG) (B0 : Nat) (ad : Nat → Nat → Nat) (R : fR) (F : Nat → fO) (M : Nat → fO) (x y z : Int32) (hI : XI R) (hx : ¬ rg x (R 0 0 0 + 1)) : f_MetW l yL_insert cL_insert 5 (some .int) [(0, 7, 8, 16), (0, 7, 13, 19), (0, 7, 18, 22)] 8 4 24 135 Γ B0 [.ref (ad 1 0), .int x, .int y, .int z] (wj F (xw Γ ad R) M) (f_is (-1000001) (wj F (xw Γ ad R) M)) :=
  (c_L_insert hl Γ B0 ad R F M x y z hI).mono (fun v w' hp => by
    obtain ⟨r, rfl, hp⟩ := hp
    rcases hp with hp | ⟨hp, rfl⟩
    · exfalso; clear hl; have h9 := hp.1; simp_all
    · refine ⟨?_, rfl⟩
      rcases hp with ⟨e, hp⟩ | ⟨e, hp⟩ | ⟨e, hp⟩
      · rw [e]
      · exfalso; clear hl e; simp_all
      · exfalso; clear hl e; simp_all)
theorem x_insert2 {l : Launch} (hl : l.stackTraces = false) (Γ : fG) (B0 : Nat) (ad : Nat → Nat → Nat) (R : fR) (F : Nat → fO) (M : Nat → fO) (x y z : Int32) (hI : XI R) (hx : rg x (R 0 0 0 + 1) ∧ ¬ (rg y 256 ∧ rg z 16)) : f_MetW l yL_insert cL_insert 5 (some .int) [(0, 7, 8, 16), (0, 7, 13, 19), (0, 7, 18, 22)] 8 4 24 135 Γ B0 [.ref (ad 1 0), .int x, .int y, .int z] (wj F (xw Γ ad R) M) (f_is (-1000002) (wj F (xw Γ ad R) M)) :=
  (c_L_insert hl Γ B0 ad R F M x y z hI).mono (fun v w' hp => by
    obtain ⟨r, rfl, hp⟩ := hp
    rcases hp with hp | ⟨hp, rfl⟩
    · exfalso; clear hl; have h9 := hp.1; simp_all
    · refine ⟨?_, rfl⟩
      rcases hp with ⟨e, hp⟩ | ⟨e, hp⟩ | ⟨e, hp⟩
      · exfalso; clear hl e; simp_all
      · rw [e]
      · exfalso; clear hl e; simp_all)
theorem x_insert3 {l : Launch} (hl : l.stackTraces = false) (Γ : fG) (B0 : Nat) (ad : Nat → Nat → Nat) (R : fR) (F : Nat → fO) (M : Nat → fO) (x y z : Int32) (hI : XI R) (hx : (rg x (R 0 0 0 + 1) ∧ (rg y 256 ∧ rg z 16)) ∧ ¬ (R 0 0 0 < 64 ∧ R 1 0 0 < 100)) : f_MetW l yL_insert cL_insert 5 (some .int) [(0, 7, 8, 16), (0, 7, 13, 19), (0, 7, 18, 22)] 8 4 24 135 Γ B0 [.ref (ad 1 0), .int x, .int y, .int z] (wj F (xw Γ ad R) M) (f_is (-1000003) (wj F (xw Γ ad R) M)) :=
  (c_L_insert hl Γ B0 ad R F M x y z hI).mono (fun v w' hp => by
    obtain ⟨r, rfl, hp⟩ := hp
    rcases hp with hp | ⟨hp, rfl⟩
    · exfalso; clear hl; have h9 := hp.1; simp_all
    · refine ⟨?_, rfl⟩
      rcases hp with ⟨e, hp⟩ | ⟨e, hp⟩ | ⟨e, hp⟩
      · exfalso; clear hl e; simp_all
      · exfalso; clear hl e; simp_all
      · rw [e])
theorem n_remove {l : Launch} (hl : l.stackTraces = false) (Γ : fG) (B0 : Nat) (ad : Nat → Nat → Nat) (R : fR) (F : Nat → fO) (M : Nat → fO) (x : Int32) (hI : XI R) (hx : rg x (R 0 0 0)) : f_MetW l yL_remove cL_remove 3 (some .int) [(0, 5, 6, 16)] 8 1 6 132 Γ B0 [.ref (ad 1 0), .int x] (wj F (xw Γ ad R) M) (f_rI (fun r9 w9 => r9 = nI (R 0 0 0 - 1) ∧ w9 = wj F (xw Γ ad (rmR R (xN x))) M)) :=
  (c_L_remove hl Γ B0 ad R F M x hI).mono (fun v w' hp => by
    obtain ⟨r, rfl, hp⟩ := hp
    rcases hp with ⟨_, hq⟩ | hp
    · exact ⟨r, rfl, hq⟩
    · exfalso; clear hl; obtain ⟨hp, -⟩ := hp; simp_all)
theorem x_remove1 {l : Launch} (hl : l.stackTraces = false) (Γ : fG) (B0 : Nat) (ad : Nat → Nat → Nat) (R : fR) (F : Nat → fO) (M : Nat → fO) (x : Int32) (hI : XI R) (hx : ¬ rg x (R 0 0 0)) : f_MetW l yL_remove cL_remove 3 (some .int) [(0, 5, 6, 16)] 8 1 6 132 Γ B0 [.ref (ad 1 0), .int x] (wj F (xw Γ ad R) M) (f_is (-1000001) (wj F (xw Γ ad R) M)) :=
  (c_L_remove hl Γ B0 ad R F M x hI).mono (fun v w' hp => by
    obtain ⟨r, rfl, hp⟩ := hp
    rcases hp with hp | ⟨hp, rfl⟩
    · exfalso; clear hl; have h9 := hp.1; simp_all
    · refine ⟨?_, rfl⟩
      rw [hp.1])
theorem n_move {l : Launch} (hl : l.stackTraces = false) (Γ : fG) (B0 : Nat) (ad : Nat → Nat → Nat) (R : fR) (F : Nat → fO) (M : Nat → fO) (x y : Int32) (hI : XI R) (hx : (rg x (R 0 0 0) ∧ rg y (R 0 0 0))) : f_MetW l yL_move cL_move 4 (some .int) [(0, 7, 8, 16)] 8 2 12 135 Γ B0 [.ref (ad 1 0), .int x, .int y] (wj F (xw Γ ad R) M) (f_rI (fun r9 w9 => r9 = 0 ∧ w9 = wj F (xw Γ ad (mvR R (xN x) (xN y))) M)) :=
  (c_L_move hl Γ B0 ad R F M x y hI).mono (fun v w' hp => by
    obtain ⟨r, rfl, hp⟩ := hp
    rcases hp with ⟨e, _, hq⟩ | hp
    · exact ⟨r, rfl, e, hq⟩
    · exfalso; simp_all)
theorem x_move1 {l : Launch} (hl : l.stackTraces = false) (Γ : fG) (B0 : Nat) (ad : Nat → Nat → Nat) (R : fR) (F : Nat → fO) (M : Nat → fO) (x y : Int32) (hI : XI R) (hx : ¬ (rg x (R 0 0 0) ∧ rg y (R 0 0 0))) : f_MetW l yL_move cL_move 4 (some .int) [(0, 7, 8, 16)] 8 2 12 135 Γ B0 [.ref (ad 1 0), .int x, .int y] (wj F (xw Γ ad R) M) (f_is (-1000001) (wj F (xw Γ ad R) M)) :=
  (c_L_move hl Γ B0 ad R F M x y hI).mono (fun v w' hp => by
    obtain ⟨r, rfl, hp⟩ := hp
    rcases hp with hp | ⟨hp, rfl⟩
    · exfalso; clear hl; have h9 := hp.2.1; simp_all
    · refine ⟨?_, rfl⟩
      rw [hp.1])
theorem n_edit {l : Launch} (hl : l.stackTraces = false) (Γ : fG) (B0 : Nat) (ad : Nat → Nat → Nat) (R : fR) (F : Nat → fO) (M : Nat → fO) (x a b : Int32) (hI : XI R) (hx : (rg x (R 0 0 0) ∧ (rg a 256 ∧ rg b 16))) : f_MetW l yL_edit cL_edit 5 (some .int) [(0, 7, 8, 16), (0, 7, 13, 19)] 8 2 12 134 Γ B0 [.ref (ad 1 0), .int x, .int a, .int b] (wj F (xw Γ ad R) M) (f_rI (fun r9 w9 => r9 = nI (R 15 (R 6 (xN x) 0 - 1) 0 + 1) ∧ w9 = wj F (xw Γ ad (rwr R (R 6 (xN x) 0 - 1) (xN a) (xN b))) M)) :=
  (c_L_edit hl Γ B0 ad R F M x a b hI).mono (fun v w' hp => by
    obtain ⟨r, rfl, hp⟩ := hp
    rcases hp with ⟨_, hq⟩ | hp
    · exact ⟨r, rfl, hq⟩
    · exfalso; clear hl; obtain ⟨hp, -⟩ := hp; simp_all)
theorem x_edit1 {l : Launch} (hl : l.stackTraces = false) (Γ : fG) (B0 : Nat) (ad : Nat → Nat → Nat) (R : fR) (F : Nat → fO) (M : Nat → fO) (x a b : Int32) (hI : XI R) (hx : ¬ rg x (R 0 0 0)) : f_MetW l yL_edit cL_edit 5 (some .int) [(0, 7, 8, 16), (0, 7, 13, 19)] 8 2 12 134 Γ B0 [.ref (ad 1 0), .int x, .int a, .int b] (wj F (xw Γ ad R) M) (f_is (-1000001) (wj F (xw Γ ad R) M)) :=
  (c_L_edit hl Γ B0 ad R F M x a b hI).mono (fun v w' hp => by
    obtain ⟨r, rfl, hp⟩ := hp
    rcases hp with hp | ⟨hp, rfl⟩
    · exfalso; clear hl; have h9 := hp.1; simp_all
    · refine ⟨?_, rfl⟩
      rcases hp with ⟨e, hp⟩ | ⟨e, hp⟩
      · rw [e]
      · exfalso; clear hl e; simp_all)
theorem x_edit2 {l : Launch} (hl : l.stackTraces = false) (Γ : fG) (B0 : Nat) (ad : Nat → Nat → Nat) (R : fR) (F : Nat → fO) (M : Nat → fO) (x a b : Int32) (hI : XI R) (hx : rg x (R 0 0 0) ∧ ¬ (rg a 256 ∧ rg b 16)) : f_MetW l yL_edit cL_edit 5 (some .int) [(0, 7, 8, 16), (0, 7, 13, 19)] 8 2 12 134 Γ B0 [.ref (ad 1 0), .int x, .int a, .int b] (wj F (xw Γ ad R) M) (f_is (-1000002) (wj F (xw Γ ad R) M)) :=
  (c_L_edit hl Γ B0 ad R F M x a b hI).mono (fun v w' hp => by
    obtain ⟨r, rfl, hp⟩ := hp
    rcases hp with hp | ⟨hp, rfl⟩
    · exfalso; clear hl; have h9 := hp.1; simp_all
    · refine ⟨?_, rfl⟩
      rcases hp with ⟨e, hp⟩ | ⟨e, hp⟩
      · exfalso; clear hl e; simp_all
      · rw [e])
theorem n_replace {l : Launch} (hl : l.stackTraces = false) (Γ : fG) (B0 : Nat) (ad : Nat → Nat → Nat) (R : fR) (F : Nat → fO) (M : Nat → fO) (x y : Int32) (hI : XI R) (h15 : ∀ q, R 15 q 0 ≤ 900) (hx : ((rg x 8 ∧ rg y 8) ∧ x ≠ y)) : f_MetW l yL_replace cL_replace 4 (some .int) [(0, 6, 7, 19)] 8 3 18 135 Γ B0 [.ref (ad 1 0), .int x, .int y] (wj F (xw Γ ad R) M) (f_rI (fun r9 w9 => r9 = nI (rpc R (xN x) (xN y) (R 0 0 0)) ∧ w9 = wj F (xw Γ ad (rpl R (xN x) (xN y) (R 0 0 0))) M)) :=
  (c_L_replace hl Γ B0 ad R F M x y hI h15).mono (fun v w' hp => by
    obtain ⟨r, rfl, hp⟩ := hp
    rcases hp with ⟨_, hq⟩ | hp
    · exact ⟨r, rfl, hq⟩
    · exfalso; clear hl; obtain ⟨hp, -⟩ := hp; simp_all)
theorem x_replace1 {l : Launch} (hl : l.stackTraces = false) (Γ : fG) (B0 : Nat) (ad : Nat → Nat → Nat) (R : fR) (F : Nat → fO) (M : Nat → fO) (x y : Int32) (hI : XI R) (h15 : ∀ q, R 15 q 0 ≤ 900) (hx : ¬ ((rg x 8 ∧ rg y 8) ∧ x ≠ y)) : f_MetW l yL_replace cL_replace 4 (some .int) [(0, 6, 7, 19)] 8 3 18 135 Γ B0 [.ref (ad 1 0), .int x, .int y] (wj F (xw Γ ad R) M) (f_is (-1000002) (wj F (xw Γ ad R) M)) :=
  (c_L_replace hl Γ B0 ad R F M x y hI h15).mono (fun v w' hp => by
    obtain ⟨r, rfl, hp⟩ := hp
    rcases hp with hp | ⟨hp, rfl⟩
    · exfalso; clear hl; have h9 := hp.1; simp_all
    · refine ⟨?_, rfl⟩
      rw [hp.1])
theorem n_edition {l : Launch} (hl : l.stackTraces = false) (Γ : fG) (B0 : Nat) (ad : Nat → Nat → Nat) (R : fR) (F : Nat → fO) (M : Nat → fO) (x : Int32) (hI : XI R) (hx : rg x (R 0 0 0)) : f_MetW l yL_edition cL_edition 3 (some .int) [(0, 5, 6, 16)] 8 1 6 132 Γ B0 [.ref (ad 1 0), .int x] (wj F (xw Γ ad R) M) (f_rI (fun r9 w9 => r9 = nI (R 15 (R 6 (xN x) 0 - 1) 0) ∧ w9 = wj F (xw Γ ad R) M)) :=
  (c_L_edition hl Γ B0 ad R F M x hI).mono (fun v w' hp => by
    obtain ⟨r, rfl, hp⟩ := hp
    rcases hp with ⟨_, hq⟩ | hp
    · exact ⟨r, rfl, hq⟩
    · exfalso; clear hl; obtain ⟨hp, -⟩ := hp; simp_all)
theorem x_edition1 {l : Launch} (hl : l.stackTraces = false) (Γ : fG) (B0 : Nat) (ad : Nat → Nat → Nat) (R : fR) (F : Nat → fO) (M : Nat → fO) (x : Int32) (hI : XI R) (hx : ¬ rg x (R 0 0 0)) : f_MetW l yL_edition cL_edition 3 (some .int) [(0, 5, 6, 16)] 8 1 6 132 Γ B0 [.ref (ad 1 0), .int x] (wj F (xw Γ ad R) M) (f_is (-1000001) (wj F (xw Γ ad R) M)) :=
  (c_L_edition hl Γ B0 ad R F M x hI).mono (fun v w' hp => by
    obtain ⟨r, rfl, hp⟩ := hp
    rcases hp with hp | ⟨hp, rfl⟩
    · exfalso; clear hl; have h9 := hp.1; simp_all
    · refine ⟨?_, rfl⟩
      rw [hp.1])
theorem n_setFolds {l : Launch} (hl : l.stackTraces = false) (Γ : fG) (B0 : Nat) (ad : Nat → Nat → Nat) (P R : fR) (M : Nat → fO) (x y : Int32) (hP : FI P) (hn : R 0 0 0 ≤ 64) (hx : ((nI 1 ≤ x ∧ x < nI 5) ∧ rg y (2 ^ (2 * xN x)))) : f_MetW l yL_setFolds cL_setFolds 4 (some .int) [(0, 6, 7, 19)] 7 1 6 169 Γ B0 [.ref (ad 1 0), .int x, .int y] (wj (fw Γ ad P) (xw Γ ad R) M) (f_rI (fun r9 w9 => r9 = nI (shc (fbZ P (xN x) (xN y)) R) ∧ w9 = wj (fw Γ ad (fbZ P (xN x) (xN y))) (xw Γ ad R) M)) :=
  (c_L_setFolds hl Γ B0 ad P R M x y hP hn).mono (fun v w' hp => by
    obtain ⟨r, rfl, hp⟩ := hp
    rcases hp with ⟨_, hq⟩ | hp
    · exact ⟨r, rfl, hq⟩
    · exfalso; clear hl; obtain ⟨hp, -⟩ := hp; simp_all)
theorem x_setFolds1 {l : Launch} (hl : l.stackTraces = false) (Γ : fG) (B0 : Nat) (ad : Nat → Nat → Nat) (P R : fR) (M : Nat → fO) (x y : Int32) (hP : FI P) (hn : R 0 0 0 ≤ 64) (hx : ¬ ((nI 1 ≤ x ∧ x < nI 5) ∧ rg y (2 ^ (2 * xN x)))) : f_MetW l yL_setFolds cL_setFolds 4 (some .int) [(0, 6, 7, 19)] 7 1 6 169 Γ B0 [.ref (ad 1 0), .int x, .int y] (wj (fw Γ ad P) (xw Γ ad R) M) (f_is (-1000002) (wj (fw Γ ad P) (xw Γ ad R) M)) :=
  (c_L_setFolds hl Γ B0 ad P R M x y hP hn).mono (fun v w' hp => by
    obtain ⟨r, rfl, hp⟩ := hp
    rcases hp with hp | ⟨hp, rfl⟩
    · exfalso; clear hl; have h9 := hp.1; simp_all
    · refine ⟨?_, rfl⟩
      rw [hp.1])
theorem n_pageAt {l : Launch} (hl : l.stackTraces = false) (Γ : fG) (B0 : Nat) (ad : Nat → Nat → Nat) (P R : fR) (M : Nat → fO) (a b c d : Int32) (hP : FI P) (hn : R 0 0 0 ≤ 64) (hx : ((rg a (shc P R) ∧ rg c (P 2 0 0) ∧ rg d (P 3 0 0)) ∧ rg b 2)) : f_MetW l yL_pageAt cL_pageAt 6 (some .int) [(0, 9, 10, 16), (0, 9, 15, 19)] 9 2 12 160 Γ B0 [.ref (ad 1 0), .int a, .int b, .int c, .int d] (wj (fw Γ ad P) (xw Γ ad R) M) (f_rI (fun r9 w9 => r9 = plO P R (xN a) (P 6 ((xN c * P 3 0 0 + xN d) * 2 + xN b) 0) ∧ w9 = wj (fw Γ ad P) (xw Γ ad R) M)) :=
  (c_L_pageAt hl Γ B0 ad P R M a b c d hP hn).mono (fun v w' hp => by
    obtain ⟨r, rfl, hp⟩ := hp
    rcases hp with ⟨_, hq⟩ | hp
    · exact ⟨r, rfl, hq⟩
    · exfalso; clear hl; obtain ⟨hp, -⟩ := hp; simp_all)
theorem x_pageAt1 {l : Launch} (hl : l.stackTraces = false) (Γ : fG) (B0 : Nat) (ad : Nat → Nat → Nat) (P R : fR) (M : Nat → fO) (a b c d : Int32) (hP : FI P) (hn : R 0 0 0 ≤ 64) (hx : ¬ (rg a (shc P R) ∧ rg c (P 2 0 0) ∧ rg d (P 3 0 0))) : f_MetW l yL_pageAt cL_pageAt 6 (some .int) [(0, 9, 10, 16), (0, 9, 15, 19)] 9 2 12 160 Γ B0 [.ref (ad 1 0), .int a, .int b, .int c, .int d] (wj (fw Γ ad P) (xw Γ ad R) M) (f_is (-1000001) (wj (fw Γ ad P) (xw Γ ad R) M)) :=
  (c_L_pageAt hl Γ B0 ad P R M a b c d hP hn).mono (fun v w' hp => by
    obtain ⟨r, rfl, hp⟩ := hp
    rcases hp with hp | ⟨hp, rfl⟩
    · exfalso; clear hl; have h9 := hp.1; simp_all
    · refine ⟨?_, rfl⟩
      rcases hp with ⟨e, hp⟩ | ⟨e, hp⟩
      · rw [e]
      · exfalso; clear hl e; simp_all)
theorem x_pageAt2 {l : Launch} (hl : l.stackTraces = false) (Γ : fG) (B0 : Nat) (ad : Nat → Nat → Nat) (P R : fR) (M : Nat → fO) (a b c d : Int32) (hP : FI P) (hn : R 0 0 0 ≤ 64) (hx : (rg a (shc P R) ∧ rg c (P 2 0 0) ∧ rg d (P 3 0 0)) ∧ ¬ rg b 2) : f_MetW l yL_pageAt cL_pageAt 6 (some .int) [(0, 9, 10, 16), (0, 9, 15, 19)] 9 2 12 160 Γ B0 [.ref (ad 1 0), .int a, .int b, .int c, .int d] (wj (fw Γ ad P) (xw Γ ad R) M) (f_is (-1000002) (wj (fw Γ ad P) (xw Γ ad R) M)) :=
  (c_L_pageAt hl Γ B0 ad P R M a b c d hP hn).mono (fun v w' hp => by
    obtain ⟨r, rfl, hp⟩ := hp
    rcases hp with hp | ⟨hp, rfl⟩
    · exfalso; clear hl; have h9 := hp.1; simp_all
    · refine ⟨?_, rfl⟩
      rcases hp with ⟨e, hp⟩ | ⟨e, hp⟩
      · exfalso; clear hl e; simp_all
      · rw [e])
theorem n_pageByRule {l : Launch} (hl : l.stackTraces = false) (Γ : fG) (B0 : Nat) (ad : Nat → Nat → Nat) (P R : fR) (M : Nat → fO) (a b c d : Int32) (hJ : FJ P) (hn : R 0 0 0 ≤ 64) (hx : ((rg a (shc P R) ∧ rg c (P 2 0 0) ∧ rg d (P 3 0 0)) ∧ rg b 2)) : f_MetW l yL_pageByRule cL_pageByRule 6 (some .int) [(0, 9, 10, 16), (0, 9, 15, 19)] 9 2 12 159 Γ B0 [.ref (ad 1 0), .int a, .int b, .int c, .int d] (wj (fw Γ ad P) (xw Γ ad R) M) (f_rI (fun r9 w9 => r9 = plO P R (xN a) (obr (kdP P) (P 2 0 0) (P 3 0 0) (P 0 0 0) (xN b) (xN c) (xN d)) ∧ w9 = wj (fw Γ ad P) (xw Γ ad R) M)) :=
  (c_L_pageByRule hl Γ B0 ad P R M a b c d hJ hn).mono (fun v w' hp => by
    obtain ⟨r, rfl, hp⟩ := hp
    rcases hp with ⟨_, hq⟩ | hp
    · exact ⟨r, rfl, hq⟩
    · exfalso; clear hl; obtain ⟨hp, -⟩ := hp; simp_all)
theorem x_pageByRule1 {l : Launch} (hl : l.stackTraces = false) (Γ : fG) (B0 : Nat) (ad : Nat → Nat → Nat) (P R : fR) (M : Nat → fO) (a b c d : Int32) (hJ : FJ P) (hn : R 0 0 0 ≤ 64) (hx : ¬ (rg a (shc P R) ∧ rg c (P 2 0 0) ∧ rg d (P 3 0 0))) : f_MetW l yL_pageByRule cL_pageByRule 6 (some .int) [(0, 9, 10, 16), (0, 9, 15, 19)] 9 2 12 159 Γ B0 [.ref (ad 1 0), .int a, .int b, .int c, .int d] (wj (fw Γ ad P) (xw Γ ad R) M) (f_is (-1000001) (wj (fw Γ ad P) (xw Γ ad R) M)) :=
  (c_L_pageByRule hl Γ B0 ad P R M a b c d hJ hn).mono (fun v w' hp => by
    obtain ⟨r, rfl, hp⟩ := hp
    rcases hp with hp | ⟨hp, rfl⟩
    · exfalso; clear hl; have h9 := hp.1; simp_all
    · refine ⟨?_, rfl⟩
      rcases hp with ⟨e, hp⟩ | ⟨e, hp⟩
      · rw [e]
      · exfalso; clear hl e; simp_all)
theorem x_pageByRule2 {l : Launch} (hl : l.stackTraces = false) (Γ : fG) (B0 : Nat) (ad : Nat → Nat → Nat) (P R : fR) (M : Nat → fO) (a b c d : Int32) (hJ : FJ P) (hn : R 0 0 0 ≤ 64) (hx : (rg a (shc P R) ∧ rg c (P 2 0 0) ∧ rg d (P 3 0 0)) ∧ ¬ rg b 2) : f_MetW l yL_pageByRule cL_pageByRule 6 (some .int) [(0, 9, 10, 16), (0, 9, 15, 19)] 9 2 12 159 Γ B0 [.ref (ad 1 0), .int a, .int b, .int c, .int d] (wj (fw Γ ad P) (xw Γ ad R) M) (f_is (-1000002) (wj (fw Γ ad P) (xw Γ ad R) M)) :=
  (c_L_pageByRule hl Γ B0 ad P R M a b c d hJ hn).mono (fun v w' hp => by
    obtain ⟨r, rfl, hp⟩ := hp
    rcases hp with hp | ⟨hp, rfl⟩
    · exfalso; clear hl; have h9 := hp.1; simp_all
    · refine ⟨?_, rfl⟩
      rcases hp with ⟨e, hp⟩ | ⟨e, hp⟩
      · exfalso; clear hl e; simp_all
      · rw [e])
theorem n_leafOf {l : Launch} (hl : l.stackTraces = false) (Γ : fG) (B0 : Nat) (ad : Nat → Nat → Nat) (P R : fR) (M : Nat → fO) (x : Int32) (hP : FI P) (hn : R 0 0 0 ≤ 64) (hx : rg x (R 0 0 0)) : f_MetW l yL_leafOf cL_leafOf 3 (some .int) [(0, 5, 6, 16)] 8 1 6 133 Γ B0 [.ref (ad 1 0), .int x] (wj (fw Γ ad P) (xw Γ ad R) M) (f_rI (fun r9 w9 => r9 = nI (P 7 (xN x % pgs P) 0 % 2 * 16 + P 7 (xN x % pgs P) 0 / 2) ∧ w9 = wj (fw Γ ad P) (xw Γ ad R) M)) :=
  (c_L_leafOf hl Γ B0 ad P R M x hP hn).mono (fun v w' hp => by
    obtain ⟨r, rfl, hp⟩ := hp
    rcases hp with ⟨_, hq⟩ | hp
    · exact ⟨r, rfl, hq⟩
    · exfalso; clear hl; obtain ⟨hp, -⟩ := hp; simp_all)
theorem x_leafOf1 {l : Launch} (hl : l.stackTraces = false) (Γ : fG) (B0 : Nat) (ad : Nat → Nat → Nat) (P R : fR) (M : Nat → fO) (x : Int32) (hP : FI P) (hn : R 0 0 0 ≤ 64) (hx : ¬ rg x (R 0 0 0)) : f_MetW l yL_leafOf cL_leafOf 3 (some .int) [(0, 5, 6, 16)] 8 1 6 133 Γ B0 [.ref (ad 1 0), .int x] (wj (fw Γ ad P) (xw Γ ad R) M) (f_is (-1000001) (wj (fw Γ ad P) (xw Γ ad R) M)) :=
  (c_L_leafOf hl Γ B0 ad P R M x hP hn).mono (fun v w' hp => by
    obtain ⟨r, rfl, hp⟩ := hp
    rcases hp with hp | ⟨hp, rfl⟩
    · exfalso; clear hl; have h9 := hp.1; simp_all
    · refine ⟨?_, rfl⟩
      rw [hp.1])
theorem n_isTurned {l : Launch} (hl : l.stackTraces = false) (Γ : fG) (B0 : Nat) (ad : Nat → Nat → Nat) (P R : fR) (M : Nat → fO) (x : Int32) (hP : FI P) (hn : R 0 0 0 ≤ 64) (hx : rg x (R 0 0 0)) : f_MetW l yL_isTurned cL_isTurned 3 (some .int) [(0, 13, 14, 16)] 8 1 6 132 Γ B0 [.ref (ad 1 0), .int x] (wj (fw Γ ad P) (xw Γ ad R) M) (f_rI (fun r9 w9 => r9 = bI (zB (P 5 (P 7 (xN x % pgs P) 0 / 2) 0)) ∧ w9 = wj (fw Γ ad P) (xw Γ ad R) M)) :=
  (c_L_isTurned hl Γ B0 ad P R M x hP hn).mono (fun v w' hp => by
    obtain ⟨r, rfl, hp⟩ := hp
    rcases hp with ⟨_, hq⟩ | hp
    · exact ⟨r, rfl, hq⟩
    · exfalso; clear hl; obtain ⟨hp, -⟩ := hp; simp_all)
theorem x_isTurned1 {l : Launch} (hl : l.stackTraces = false) (Γ : fG) (B0 : Nat) (ad : Nat → Nat → Nat) (P R : fR) (M : Nat → fO) (x : Int32) (hP : FI P) (hn : R 0 0 0 ≤ 64) (hx : ¬ rg x (R 0 0 0)) : f_MetW l yL_isTurned cL_isTurned 3 (some .int) [(0, 13, 14, 16)] 8 1 6 132 Γ B0 [.ref (ad 1 0), .int x] (wj (fw Γ ad P) (xw Γ ad R) M) (f_is (-1000001) (wj (fw Γ ad P) (xw Γ ad R) M)) :=
  (c_L_isTurned hl Γ B0 ad P R M x hP hn).mono (fun v w' hp => by
    obtain ⟨r, rfl, hp⟩ := hp
    rcases hp with hp | ⟨hp, rfl⟩
    · exfalso; clear hl; have h9 := hp.1; simp_all
    · refine ⟨?_, rfl⟩
      rw [hp.1])
theorem n_setRight {l : Launch} (hl : l.stackTraces = false) (Γ : fG) (B0 : Nat) (ad : Nat → Nat → Nat) (P R : fR) (M : Nat → fO) (x a b : Int32) (hP : FI P) (hI : XI R) (hx : okR x a b) : f_MetW l yL_setRight cL_setRight 5 (some .int) [(0, 7, 8, 19)] 8 2 12 155 Γ B0 [.ref (ad 1 0), .int x, .int a, .int b] (wj (fw Γ ad P) (xw Γ ad R) M) (f_rI (fun r9 w9 => r9 = nI (csb P (srR P R (xN x) (xN a) (xN b)) 16) ∧ w9 = wj (fw Γ ad P) (xw Γ ad (srR P R (xN x) (xN a) (xN b))) M)) :=
  (c_L_setRight hl Γ B0 ad P R M x a b hP hI).mono (fun v w' hp => by
    obtain ⟨r, rfl, hp⟩ := hp
    rcases hp with ⟨_, hq⟩ | hp
    · exact ⟨r, rfl, hq⟩
    · exfalso; clear hl; obtain ⟨hp, -⟩ := hp; simp_all)
theorem x_setRight1 {l : Launch} (hl : l.stackTraces = false) (Γ : fG) (B0 : Nat) (ad : Nat → Nat → Nat) (P R : fR) (M : Nat → fO) (x a b : Int32) (hP : FI P) (hI : XI R) (hx : ¬ okR x a b) : f_MetW l yL_setRight cL_setRight 5 (some .int) [(0, 7, 8, 19)] 8 2 12 155 Γ B0 [.ref (ad 1 0), .int x, .int a, .int b] (wj (fw Γ ad P) (xw Γ ad R) M) (f_is (-1000002) (wj (fw Γ ad P) (xw Γ ad R) M)) :=
  (c_L_setRight hl Γ B0 ad P R M x a b hP hI).mono (fun v w' hp => by
    obtain ⟨r, rfl, hp⟩ := hp
    rcases hp with hp | ⟨hp, rfl⟩
    · exfalso; clear hl; have h9 := hp.1; simp_all
    · refine ⟨?_, rfl⟩
      rw [hp.1])
theorem n_withdraw {l : Launch} (hl : l.stackTraces = false) (Γ : fG) (B0 : Nat) (ad : Nat → Nat → Nat) (P R : fR) (M : Nat → fO) (x : Int32) (hP : FI P) (hI : XI R) (hx : (rg x 8 ∧ zB (R 10 (xN x) 0) = true)) : f_MetW l yL_withdraw cL_withdraw 3 (some .int) [(0, 5, 6, 19), (0, 5, 10, 22)] 8 2 12 153 Γ B0 [.ref (ad 1 0), .int x] (wj (fw Γ ad P) (xw Γ ad R) M) (f_rI (fun r9 w9 => r9 = nI (csb P (wdR P R (xN x)) 16) ∧ w9 = wj (fw Γ ad P) (xw Γ ad (wdR P R (xN x))) M)) :=
  (c_L_withdraw hl Γ B0 ad P R M x hP hI).mono (fun v w' hp => by
    obtain ⟨r, rfl, hp⟩ := hp
    rcases hp with ⟨_, hq⟩ | hp
    · exact ⟨r, rfl, hq⟩
    · exfalso; clear hl; obtain ⟨hp, -⟩ := hp; simp_all)
theorem x_withdraw1 {l : Launch} (hl : l.stackTraces = false) (Γ : fG) (B0 : Nat) (ad : Nat → Nat → Nat) (P R : fR) (M : Nat → fO) (x : Int32) (hP : FI P) (hI : XI R) (hx : ¬ rg x 8) : f_MetW l yL_withdraw cL_withdraw 3 (some .int) [(0, 5, 6, 19), (0, 5, 10, 22)] 8 2 12 153 Γ B0 [.ref (ad 1 0), .int x] (wj (fw Γ ad P) (xw Γ ad R) M) (f_is (-1000002) (wj (fw Γ ad P) (xw Γ ad R) M)) :=
  (c_L_withdraw hl Γ B0 ad P R M x hP hI).mono (fun v w' hp => by
    obtain ⟨r, rfl, hp⟩ := hp
    rcases hp with hp | ⟨hp, rfl⟩
    · exfalso; clear hl; have h9 := hp.1; simp_all
    · refine ⟨?_, rfl⟩
      rcases hp with ⟨e, hp⟩ | ⟨e, hp⟩
      · rw [e]
      · exfalso; clear hl e; simp_all)
theorem x_withdraw2 {l : Launch} (hl : l.stackTraces = false) (Γ : fG) (B0 : Nat) (ad : Nat → Nat → Nat) (P R : fR) (M : Nat → fO) (x : Int32) (hP : FI P) (hI : XI R) (hx : rg x 8 ∧ zB (R 10 (xN x) 0) = false) : f_MetW l yL_withdraw cL_withdraw 3 (some .int) [(0, 5, 6, 19), (0, 5, 10, 22)] 8 2 12 153 Γ B0 [.ref (ad 1 0), .int x] (wj (fw Γ ad P) (xw Γ ad R) M) (f_is (-1000003) (wj (fw Γ ad P) (xw Γ ad R) M)) :=
  (c_L_withdraw hl Γ B0 ad P R M x hP hI).mono (fun v w' hp => by
    obtain ⟨r, rfl, hp⟩ := hp
    rcases hp with hp | ⟨hp, rfl⟩
    · exfalso; clear hl; have h9 := hp.1; simp_all
    · refine ⟨?_, rfl⟩
      rcases hp with ⟨e, hp⟩ | ⟨e, hp⟩
      · exfalso; clear hl e; simp_all
      · rw [e])
theorem n_pass {l : Launch} (hl : l.stackTraces = false) (Γ : fG) (B0 : Nat) (ad : Nat → Nat → Nat) (P R : fR) (M : Nat → fO) (x : Int32) (hP : FI P) (hI : XI R) (hd : R 2 0 0 ≤ 99000) (hx : (nI 1 ≤ x ∧ x < nI 101)) : f_MetW l yL_pass cL_pass 3 (some .int) [(0, 5, 6, 19)] 7 1 6 153 Γ B0 [.ref (ad 1 0), .int x] (wj (fw Γ ad P) (xw Γ ad R) M) (f_rI (fun r9 w9 => r9 = nI (csb P (psR P R (xN x)) 16) ∧ w9 = wj (fw Γ ad P) (xw Γ ad (psR P R (xN x))) M)) :=
  (c_L_pass hl Γ B0 ad P R M x hP hI hd).mono (fun v w' hp => by
    obtain ⟨r, rfl, hp⟩ := hp
    rcases hp with ⟨_, hq⟩ | hp
    · exact ⟨r, rfl, hq⟩
    · exfalso; clear hl; obtain ⟨hp, -⟩ := hp; simp_all)
theorem x_pass1 {l : Launch} (hl : l.stackTraces = false) (Γ : fG) (B0 : Nat) (ad : Nat → Nat → Nat) (P R : fR) (M : Nat → fO) (x : Int32) (hP : FI P) (hI : XI R) (hd : R 2 0 0 ≤ 99000) (hx : ¬ (nI 1 ≤ x ∧ x < nI 101)) : f_MetW l yL_pass cL_pass 3 (some .int) [(0, 5, 6, 19)] 7 1 6 153 Γ B0 [.ref (ad 1 0), .int x] (wj (fw Γ ad P) (xw Γ ad R) M) (f_is (-1000002) (wj (fw Γ ad P) (xw Γ ad R) M)) :=
  (c_L_pass hl Γ B0 ad P R M x hP hI hd).mono (fun v w' hp => by
    obtain ⟨r, rfl, hp⟩ := hp
    rcases hp with hp | ⟨hp, rfl⟩
    · exfalso; clear hl; have h9 := hp.1; simp_all
    · refine ⟨?_, rfl⟩
      rw [hp.1])
theorem n_mayUse {l : Launch} (hl : l.stackTraces = false) (Γ : fG) (B0 : Nat) (ad : Nat → Nat → Nat) (R : fR) (F : Nat → fO) (M : Nat → fO) (x : Int32) (hI : XI R) (hx : rg x 8) : f_MetW l yL_mayUse cL_mayUse 3 (some .int) [(0, 13, 14, 19)] 8 1 6 131 Γ B0 [.ref (ad 1 0), .int x] (wj F (xw Γ ad R) M) (f_rI (fun r9 w9 => r9 = bI (us R (xN x)) ∧ w9 = wj F (xw Γ ad R) M)) :=
  (c_L_mayUse hl Γ B0 ad R F M x hI).mono (fun v w' hp => by
    obtain ⟨r, rfl, hp⟩ := hp
    rcases hp with ⟨_, hq⟩ | hp
    · exact ⟨r, rfl, hq⟩
    · exfalso; clear hl; obtain ⟨hp, -⟩ := hp; simp_all)
theorem x_mayUse1 {l : Launch} (hl : l.stackTraces = false) (Γ : fG) (B0 : Nat) (ad : Nat → Nat → Nat) (R : fR) (F : Nat → fO) (M : Nat → fO) (x : Int32) (hI : XI R) (hx : ¬ rg x 8) : f_MetW l yL_mayUse cL_mayUse 3 (some .int) [(0, 13, 14, 19)] 8 1 6 131 Γ B0 [.ref (ad 1 0), .int x] (wj F (xw Γ ad R) M) (f_is (-1000002) (wj F (xw Γ ad R) M)) :=
  (c_L_mayUse hl Γ B0 ad R F M x hI).mono (fun v w' hp => by
    obtain ⟨r, rfl, hp⟩ := hp
    rcases hp with hp | ⟨hp, rfl⟩
    · exfalso; clear hl; have h9 := hp.1; simp_all
    · refine ⟨?_, rfl⟩
      rw [hp.1])
theorem n_prove {l : Launch} (hl : l.stackTraces = false) (Γ : fG) (B0 : Nat) (ad : Nat → Nat → Nat) (R : fR) (F : Nat → fO) (M : Nat → fO) (x y : Int32) (hI : XI R) (hx : ((rg x (R 0 0 0) ∧ rg y 4) ∧ pvC R (R 6 (xN x) 0 - 1) (xN y) = true)) : f_MetW l yL_prove cL_prove 4 (some .int) [(0, 6, 7, 16), (0, 6, 11, 19), (0, 6, 15, 22)] 8 3 18 134 Γ B0 [.ref (ad 1 0), .int x, .int y] (wj F (xw Γ ad R) M) (f_rI (fun r9 w9 => r9 = nI (cnt (pvR R (R 6 (xN x) 0 - 1) (xN y) 16 (R 6 (xN x) 0 - 1)) 1 4 + cnt (pvR R (R 6 (xN x) 0 - 1) (xN y) 16 (R 6 (xN x) 0 - 1)) 2 4) ∧ w9 = wj F (xw Γ ad (pvR R (R 6 (xN x) 0 - 1) (xN y))) M)) :=
  (c_L_prove hl Γ B0 ad R F M x y hI).mono (fun v w' hp => by
    obtain ⟨r, rfl, hp⟩ := hp
    rcases hp with ⟨_, hq⟩ | hp
    · exact ⟨r, rfl, hq⟩
    · exfalso; clear hl; obtain ⟨hp, -⟩ := hp; simp_all)
theorem x_prove1 {l : Launch} (hl : l.stackTraces = false) (Γ : fG) (B0 : Nat) (ad : Nat → Nat → Nat) (R : fR) (F : Nat → fO) (M : Nat → fO) (x y : Int32) (hI : XI R) (hx : ¬ rg x (R 0 0 0)) : f_MetW l yL_prove cL_prove 4 (some .int) [(0, 6, 7, 16), (0, 6, 11, 19), (0, 6, 15, 22)] 8 3 18 134 Γ B0 [.ref (ad 1 0), .int x, .int y] (wj F (xw Γ ad R) M) (f_is (-1000001) (wj F (xw Γ ad R) M)) :=
  (c_L_prove hl Γ B0 ad R F M x y hI).mono (fun v w' hp => by
    obtain ⟨r, rfl, hp⟩ := hp
    rcases hp with hp | ⟨hp, rfl⟩
    · exfalso; clear hl; have h9 := hp.1; simp_all
    · refine ⟨?_, rfl⟩
      rcases hp with ⟨e, hp⟩ | ⟨e, hp⟩ | ⟨e, hp⟩
      · rw [e]
      · exfalso; clear hl e; simp_all
      · exfalso; clear hl e; simp_all)
theorem x_prove2 {l : Launch} (hl : l.stackTraces = false) (Γ : fG) (B0 : Nat) (ad : Nat → Nat → Nat) (R : fR) (F : Nat → fO) (M : Nat → fO) (x y : Int32) (hI : XI R) (hx : rg x (R 0 0 0) ∧ ¬ rg y 4) : f_MetW l yL_prove cL_prove 4 (some .int) [(0, 6, 7, 16), (0, 6, 11, 19), (0, 6, 15, 22)] 8 3 18 134 Γ B0 [.ref (ad 1 0), .int x, .int y] (wj F (xw Γ ad R) M) (f_is (-1000002) (wj F (xw Γ ad R) M)) :=
  (c_L_prove hl Γ B0 ad R F M x y hI).mono (fun v w' hp => by
    obtain ⟨r, rfl, hp⟩ := hp
    rcases hp with hp | ⟨hp, rfl⟩
    · exfalso; clear hl; have h9 := hp.1; simp_all
    · refine ⟨?_, rfl⟩
      rcases hp with ⟨e, hp⟩ | ⟨e, hp⟩ | ⟨e, hp⟩
      · exfalso; clear hl e; simp_all
      · rw [e]
      · exfalso; clear hl e; simp_all)
theorem x_prove3 {l : Launch} (hl : l.stackTraces = false) (Γ : fG) (B0 : Nat) (ad : Nat → Nat → Nat) (R : fR) (F : Nat → fO) (M : Nat → fO) (x y : Int32) (hI : XI R) (hx : (rg x (R 0 0 0) ∧ rg y 4) ∧ pvC R (R 6 (xN x) 0 - 1) (xN y) = false) : f_MetW l yL_prove cL_prove 4 (some .int) [(0, 6, 7, 16), (0, 6, 11, 19), (0, 6, 15, 22)] 8 3 18 134 Γ B0 [.ref (ad 1 0), .int x, .int y] (wj F (xw Γ ad R) M) (f_is (-1000003) (wj F (xw Γ ad R) M)) :=
  (c_L_prove hl Γ B0 ad R F M x y hI).mono (fun v w' hp => by
    obtain ⟨r, rfl, hp⟩ := hp
    rcases hp with hp | ⟨hp, rfl⟩
    · exfalso; clear hl; have h9 := hp.1; simp_all
    · refine ⟨?_, rfl⟩
      rcases hp with ⟨e, hp⟩ | ⟨e, hp⟩ | ⟨e, hp⟩
      · exfalso; clear hl e; simp_all
      · exfalso; clear hl e; simp_all
      · rw [e])
theorem n_judge {l : Launch} (hl : l.stackTraces = false) (Γ : fG) (B0 : Nat) (ad : Nat → Nat → Nat) (R : fR) (F : Nat → fO) (M : Nat → fO) (x y : Int32) (b : Bool) (hI : XI R) (hx : ((rg x (R 0 0 0) ∧ rg y 4) ∧ jdC R (R 6 (xN x) 0 - 1) (xN y) = true)) : f_MetW l yL_judge cL_judge 5 (some .int) [(0, 15, 16, 16), (0, 15, 21, 19), (0, 15, 26, 22)] 8 3 18 135 Γ B0 [.ref (ad 1 0), .int x, .int y, .int (bI b)] (wj F (xw Γ ad R) M) (f_rI (fun r9 w9 => r9 = bI (fin (jdR R (R 6 (xN x) 0 - 1) (xN y) b) (R 6 (xN x) 0 - 1)) ∧ w9 = wj F (xw Γ ad (jdR R (R 6 (xN x) 0 - 1) (xN y) b)) M)) :=
  (c_L_judge hl Γ B0 ad R F M x y b hI).mono (fun v w' hp => by
    obtain ⟨r, rfl, hp⟩ := hp
    rcases hp with ⟨_, hq⟩ | hp
    · exact ⟨r, rfl, hq⟩
    · exfalso; clear hl; obtain ⟨hp, -⟩ := hp; simp_all)
theorem x_judge1 {l : Launch} (hl : l.stackTraces = false) (Γ : fG) (B0 : Nat) (ad : Nat → Nat → Nat) (R : fR) (F : Nat → fO) (M : Nat → fO) (x y : Int32) (b : Bool) (hI : XI R) (hx : ¬ rg x (R 0 0 0)) : f_MetW l yL_judge cL_judge 5 (some .int) [(0, 15, 16, 16), (0, 15, 21, 19), (0, 15, 26, 22)] 8 3 18 135 Γ B0 [.ref (ad 1 0), .int x, .int y, .int (bI b)] (wj F (xw Γ ad R) M) (f_is (-1000001) (wj F (xw Γ ad R) M)) :=
  (c_L_judge hl Γ B0 ad R F M x y b hI).mono (fun v w' hp => by
    obtain ⟨r, rfl, hp⟩ := hp
    rcases hp with hp | ⟨hp, rfl⟩
    · exfalso; clear hl; have h9 := hp.1; simp_all
    · refine ⟨?_, rfl⟩
      rcases hp with ⟨e, hp⟩ | ⟨e, hp⟩ | ⟨e, hp⟩
      · rw [e]
      · exfalso; clear hl e; simp_all
      · exfalso; clear hl e; simp_all)
theorem x_judge2 {l : Launch} (hl : l.stackTraces = false) (Γ : fG) (B0 : Nat) (ad : Nat → Nat → Nat) (R : fR) (F : Nat → fO) (M : Nat → fO) (x y : Int32) (b : Bool) (hI : XI R) (hx : rg x (R 0 0 0) ∧ ¬ rg y 4) : f_MetW l yL_judge cL_judge 5 (some .int) [(0, 15, 16, 16), (0, 15, 21, 19), (0, 15, 26, 22)] 8 3 18 135 Γ B0 [.ref (ad 1 0), .int x, .int y, .int (bI b)] (wj F (xw Γ ad R) M) (f_is (-1000002) (wj F (xw Γ ad R) M)) :=
  (c_L_judge hl Γ B0 ad R F M x y b hI).mono (fun v w' hp => by
    obtain ⟨r, rfl, hp⟩ := hp
    rcases hp with hp | ⟨hp, rfl⟩
    · exfalso; clear hl; have h9 := hp.1; simp_all
    · refine ⟨?_, rfl⟩
      rcases hp with ⟨e, hp⟩ | ⟨e, hp⟩ | ⟨e, hp⟩
      · exfalso; clear hl e; simp_all
      · rw [e]
      · exfalso; clear hl e; simp_all)
theorem x_judge3 {l : Launch} (hl : l.stackTraces = false) (Γ : fG) (B0 : Nat) (ad : Nat → Nat → Nat) (R : fR) (F : Nat → fO) (M : Nat → fO) (x y : Int32) (b : Bool) (hI : XI R) (hx : (rg x (R 0 0 0) ∧ rg y 4) ∧ jdC R (R 6 (xN x) 0 - 1) (xN y) = false) : f_MetW l yL_judge cL_judge 5 (some .int) [(0, 15, 16, 16), (0, 15, 21, 19), (0, 15, 26, 22)] 8 3 18 135 Γ B0 [.ref (ad 1 0), .int x, .int y, .int (bI b)] (wj F (xw Γ ad R) M) (f_is (-1000003) (wj F (xw Γ ad R) M)) :=
  (c_L_judge hl Γ B0 ad R F M x y b hI).mono (fun v w' hp => by
    obtain ⟨r, rfl, hp⟩ := hp
    rcases hp with hp | ⟨hp, rfl⟩
    · exfalso; clear hl; have h9 := hp.1; simp_all
    · refine ⟨?_, rfl⟩
      rcases hp with ⟨e, hp⟩ | ⟨e, hp⟩ | ⟨e, hp⟩
      · exfalso; clear hl e; simp_all
      · exfalso; clear hl e; simp_all
      · rw [e])
theorem n_proof {l : Launch} (hl : l.stackTraces = false) (Γ : fG) (B0 : Nat) (ad : Nat → Nat → Nat) (R : fR) (F : Nat → fO) (M : Nat → fO) (x y : Int32) (hI : XI R) (hx : (rg x (R 0 0 0) ∧ rg y 4)) : f_MetW l yL_proof cL_proof 4 (some .int) [(0, 6, 7, 16), (0, 6, 11, 19)] 8 2 12 134 Γ B0 [.ref (ad 1 0), .int x, .int y] (wj F (xw Γ ad R) M) (f_rI (fun r9 w9 => r9 = prf R (R 6 (xN x) 0 - 1) (xN y) ∧ w9 = wj F (xw Γ ad R) M)) :=
  (c_L_proof hl Γ B0 ad R F M x y hI).mono (fun v w' hp => by
    obtain ⟨r, rfl, hp⟩ := hp
    rcases hp with ⟨_, hq⟩ | hp
    · exact ⟨r, rfl, hq⟩
    · exfalso; clear hl; obtain ⟨hp, -⟩ := hp; simp_all)
theorem x_proof1 {l : Launch} (hl : l.stackTraces = false) (Γ : fG) (B0 : Nat) (ad : Nat → Nat → Nat) (R : fR) (F : Nat → fO) (M : Nat → fO) (x y : Int32) (hI : XI R) (hx : ¬ rg x (R 0 0 0)) : f_MetW l yL_proof cL_proof 4 (some .int) [(0, 6, 7, 16), (0, 6, 11, 19)] 8 2 12 134 Γ B0 [.ref (ad 1 0), .int x, .int y] (wj F (xw Γ ad R) M) (f_is (-1000001) (wj F (xw Γ ad R) M)) :=
  (c_L_proof hl Γ B0 ad R F M x y hI).mono (fun v w' hp => by
    obtain ⟨r, rfl, hp⟩ := hp
    rcases hp with hp | ⟨hp, rfl⟩
    · exfalso; clear hl; have h9 := hp.1; simp_all
    · refine ⟨?_, rfl⟩
      rcases hp with ⟨e, hp⟩ | ⟨e, hp⟩
      · rw [e]
      · exfalso; clear hl e; simp_all)
theorem x_proof2 {l : Launch} (hl : l.stackTraces = false) (Γ : fG) (B0 : Nat) (ad : Nat → Nat → Nat) (R : fR) (F : Nat → fO) (M : Nat → fO) (x y : Int32) (hI : XI R) (hx : rg x (R 0 0 0) ∧ ¬ rg y 4) : f_MetW l yL_proof cL_proof 4 (some .int) [(0, 6, 7, 16), (0, 6, 11, 19)] 8 2 12 134 Γ B0 [.ref (ad 1 0), .int x, .int y] (wj F (xw Γ ad R) M) (f_is (-1000002) (wj F (xw Γ ad R) M)) :=
  (c_L_proof hl Γ B0 ad R F M x y hI).mono (fun v w' hp => by
    obtain ⟨r, rfl, hp⟩ := hp
    rcases hp with hp | ⟨hp, rfl⟩
    · exfalso; clear hl; have h9 := hp.1; simp_all
    · refine ⟨?_, rfl⟩
      rcases hp with ⟨e, hp⟩ | ⟨e, hp⟩
      · exfalso; clear hl e; simp_all
      · rw [e])
theorem n_isReady {l : Launch} (hl : l.stackTraces = false) (Γ : fG) (B0 : Nat) (ad : Nat → Nat → Nat) (P R : fR) (M : Nat → fO) (x : Int32) (hP : FI P) (hI : XI R) (hx : rg x (shc P R)) : f_MetW l yL_isReady cL_isReady 3 (some .int) [(0, 13, 14, 16)] 8 1 6 132 Γ B0 [.ref (ad 1 0), .int x] (wj (fw Γ ad P) (xw Γ ad R) M) (f_rI (fun r9 w9 => r9 = bI (afo P R (xN x)) ∧ w9 = wj (fw Γ ad P) (xw Γ ad R) M)) :=
  (c_L_isReady hl Γ B0 ad P R M x hP hI).mono (fun v w' hp => by
    obtain ⟨r, rfl, hp⟩ := hp
    rcases hp with ⟨_, hq⟩ | hp
    · exact ⟨r, rfl, hq⟩
    · exfalso; clear hl; obtain ⟨hp, -⟩ := hp; simp_all)
theorem x_isReady1 {l : Launch} (hl : l.stackTraces = false) (Γ : fG) (B0 : Nat) (ad : Nat → Nat → Nat) (P R : fR) (M : Nat → fO) (x : Int32) (hP : FI P) (hI : XI R) (hx : ¬ rg x (shc P R)) : f_MetW l yL_isReady cL_isReady 3 (some .int) [(0, 13, 14, 16)] 8 1 6 132 Γ B0 [.ref (ad 1 0), .int x] (wj (fw Γ ad P) (xw Γ ad R) M) (f_is (-1000001) (wj (fw Γ ad P) (xw Γ ad R) M)) :=
  (c_L_isReady hl Γ B0 ad P R M x hP hI).mono (fun v w' hp => by
    obtain ⟨r, rfl, hp⟩ := hp
    rcases hp with hp | ⟨hp, rfl⟩
    · exfalso; clear hl; have h9 := hp.1; simp_all
    · refine ⟨?_, rfl⟩
      rw [hp.1])
theorem n_makePlates {l : Launch} (hl : l.stackTraces = false) (Γ : fG) (B0 : Nat) (ad : Nat → Nat → Nat) (P R : fR) (M : Nat → fO) (x : Int32) (hP : FI P) (hI : XI R) (h4 : R 4 0 0 ≤ 890000) (hx : (rg x (shc P R) ∧ afo P R (xN x) = true)) : f_MetW l yL_makePlates cL_makePlates 3 (some .int) [(0, 5, 6, 16), (0, 5, 10, 22)] 8 18 164 154 Γ B0 [.ref (ad 1 0), .int x] (wj (fw Γ ad P) (xw Γ ad R) M) (f_rI (fun r9 w9 => r9 = nI (mks P R (xN x) 8 4 0 0 - R 4 0 0) ∧ ∃ f g, w9 = wj (fw Γ (adP ad f g) P) (xw Γ (adP ad f g) (mks P R (xN x) 8)) M)) :=
  (c_L_makePlates hl Γ B0 ad P R M x hP hI h4).mono (fun v w' hp => by
    obtain ⟨r, rfl, hp⟩ := hp
    rcases hp with ⟨_, hq⟩ | hp
    · exact ⟨r, rfl, hq⟩
    · exfalso; clear hl; obtain ⟨hp, -⟩ := hp; simp_all)
theorem x_makePlates1 {l : Launch} (hl : l.stackTraces = false) (Γ : fG) (B0 : Nat) (ad : Nat → Nat → Nat) (P R : fR) (M : Nat → fO) (x : Int32) (hP : FI P) (hI : XI R) (h4 : R 4 0 0 ≤ 890000) (hx : ¬ rg x (shc P R)) : f_MetW l yL_makePlates cL_makePlates 3 (some .int) [(0, 5, 6, 16), (0, 5, 10, 22)] 8 18 164 154 Γ B0 [.ref (ad 1 0), .int x] (wj (fw Γ ad P) (xw Γ ad R) M) (f_is (-1000001) (wj (fw Γ ad P) (xw Γ ad R) M)) :=
  (c_L_makePlates hl Γ B0 ad P R M x hP hI h4).mono (fun v w' hp => by
    obtain ⟨r, rfl, hp⟩ := hp
    rcases hp with hp | ⟨hp, rfl⟩
    · exfalso; clear hl; have h9 := hp.1; simp_all
    · refine ⟨?_, rfl⟩
      rcases hp with ⟨e, hp⟩ | ⟨e, hp⟩
      · rw [e]
      · exfalso; clear hl e; simp_all)
theorem x_makePlates2 {l : Launch} (hl : l.stackTraces = false) (Γ : fG) (B0 : Nat) (ad : Nat → Nat → Nat) (P R : fR) (M : Nat → fO) (x : Int32) (hP : FI P) (hI : XI R) (h4 : R 4 0 0 ≤ 890000) (hx : rg x (shc P R) ∧ afo P R (xN x) = false) : f_MetW l yL_makePlates cL_makePlates 3 (some .int) [(0, 5, 6, 16), (0, 5, 10, 22)] 8 18 164 154 Γ B0 [.ref (ad 1 0), .int x] (wj (fw Γ ad P) (xw Γ ad R) M) (f_is (-1000003) (wj (fw Γ ad P) (xw Γ ad R) M)) :=
  (c_L_makePlates hl Γ B0 ad P R M x hP hI h4).mono (fun v w' hp => by
    obtain ⟨r, rfl, hp⟩ := hp
    rcases hp with hp | ⟨hp, rfl⟩
    · exfalso; clear hl; have h9 := hp.1; simp_all
    · refine ⟨?_, rfl⟩
      rcases hp with ⟨e, hp⟩ | ⟨e, hp⟩
      · exfalso; clear hl e; simp_all
      · rw [e])
theorem n_wear {l : Launch} (hl : l.stackTraces = false) (Γ : fG) (B0 : Nat) (ad : Nat → Nat → Nat) (P R : fR) (M : Nat → fO) (x y z : Int32) (hP : FI P) (hI : XI R) (hx : (rg x (shc P R) ∧ (rg y 2 ∧ rg z 4))) : f_MetW l yL_wear cL_wear 5 (some .int) [(0, 7, 8, 16), (0, 7, 13, 19)] 8 3 18 135 Γ B0 [.ref (ad 1 0), .int x, .int y, .int z] (wj (fw Γ ad P) (xw Γ ad R) M) (f_rI (fun r9 w9 => r9 = wrV P R (xN x) (xN y) (xN z) ∧ w9 = wj (fw Γ ad P) (xw Γ ad (lkF P R (xN x) (xN y) (xN z))) M)) :=
  (c_L_wear hl Γ B0 ad P R M x y z hP hI).mono (fun v w' hp => by
    obtain ⟨r, rfl, hp⟩ := hp
    rcases hp with ⟨_, hq⟩ | hp
    · exact ⟨r, rfl, hq⟩
    · exfalso; clear hl; obtain ⟨hp, -⟩ := hp; simp_all)
theorem x_wear1 {l : Launch} (hl : l.stackTraces = false) (Γ : fG) (B0 : Nat) (ad : Nat → Nat → Nat) (P R : fR) (M : Nat → fO) (x y z : Int32) (hP : FI P) (hI : XI R) (hx : ¬ rg x (shc P R)) : f_MetW l yL_wear cL_wear 5 (some .int) [(0, 7, 8, 16), (0, 7, 13, 19)] 8 3 18 135 Γ B0 [.ref (ad 1 0), .int x, .int y, .int z] (wj (fw Γ ad P) (xw Γ ad R) M) (f_is (-1000001) (wj (fw Γ ad P) (xw Γ ad R) M)) :=
  (c_L_wear hl Γ B0 ad P R M x y z hP hI).mono (fun v w' hp => by
    obtain ⟨r, rfl, hp⟩ := hp
    rcases hp with hp | ⟨hp, rfl⟩
    · exfalso; clear hl; have h9 := hp.1; simp_all
    · refine ⟨?_, rfl⟩
      rcases hp with ⟨e, hp⟩ | ⟨e, hp⟩
      · rw [e]
      · exfalso; clear hl e; simp_all)
theorem x_wear2 {l : Launch} (hl : l.stackTraces = false) (Γ : fG) (B0 : Nat) (ad : Nat → Nat → Nat) (P R : fR) (M : Nat → fO) (x y z : Int32) (hP : FI P) (hI : XI R) (hx : rg x (shc P R) ∧ ¬ (rg y 2 ∧ rg z 4)) : f_MetW l yL_wear cL_wear 5 (some .int) [(0, 7, 8, 16), (0, 7, 13, 19)] 8 3 18 135 Γ B0 [.ref (ad 1 0), .int x, .int y, .int z] (wj (fw Γ ad P) (xw Γ ad R) M) (f_is (-1000002) (wj (fw Γ ad P) (xw Γ ad R) M)) :=
  (c_L_wear hl Γ B0 ad P R M x y z hP hI).mono (fun v w' hp => by
    obtain ⟨r, rfl, hp⟩ := hp
    rcases hp with hp | ⟨hp, rfl⟩
    · exfalso; clear hl; have h9 := hp.1; simp_all
    · refine ⟨?_, rfl⟩
      rcases hp with ⟨e, hp⟩ | ⟨e, hp⟩
      · exfalso; clear hl e; simp_all
      · rw [e])
theorem n_print {l : Launch} (hl : l.stackTraces = false) (Γ : fG) (B0 : Nat) (ad : Nat → Nat → Nat) (P R : fR) (M : Nat → fO) (x y : Int32) (hP : FI P) (hI : XI R) (h5 : R 5 0 0 ≤ 900000) (hx : ((rg x (shc P R) ∧ (nI 1 ≤ y ∧ y < nI 501)) ∧ okP P R (xN x) (xN y))) : f_MetW l yL_print cL_print 4 (some .int) [(0, 6, 7, 16), (0, 6, 11, 19), (0, 6, 15, 22)] 8 11 66 154 Γ B0 [.ref (ad 1 0), .int x, .int y] (wj (fw Γ ad P) (xw Γ ad R) M) (f_rI (fun r9 w9 => r9 = nI (R 5 0 0 + xN y) ∧ ∃ R9 : fR, (jp P (rs R9 5 (R 5)) R (xN x) (xN y) 8 ∧ R9 5 0 0 = R 5 0 0 + xN y ∧ XI R9) ∧ w9 = wj (fw Γ ad P) (xw Γ ad (R9)) M)) :=
  (c_L_print hl Γ B0 ad P R M x y hP hI h5).mono (fun v w' hp => by
    obtain ⟨r, rfl, hp⟩ := hp
    rcases hp with ⟨_, hq⟩ | ⟨R9, _, _, hp⟩
    · exact ⟨r, rfl, hq⟩
    · exfalso; clear hl; simp_all)
theorem x_print1 {l : Launch} (hl : l.stackTraces = false) (Γ : fG) (B0 : Nat) (ad : Nat → Nat → Nat) (P R : fR) (M : Nat → fO) (x y : Int32) (hP : FI P) (hI : XI R) (h5 : R 5 0 0 ≤ 900000) (hx : ¬ rg x (shc P R)) : f_MetW l yL_print cL_print 4 (some .int) [(0, 6, 7, 16), (0, 6, 11, 19), (0, 6, 15, 22)] 8 11 66 154 Γ B0 [.ref (ad 1 0), .int x, .int y] (wj (fw Γ ad P) (xw Γ ad R) M) (f_rI (fun r9 w9 => r9 = -1000001 ∧ ∃ R9 : fR, (jk R9 R ∧ XI R9) ∧ w9 = wj (fw Γ ad P) (xw Γ ad (R9)) M)) :=
  (c_L_print hl Γ B0 ad P R M x y hP hI h5).mono (fun v w' hp => by
    obtain ⟨r, rfl, hp⟩ := hp
    rcases hp with hp | ⟨R9, hj, hw, hp⟩
    · exfalso; clear hl; have h9 := hp.1; simp_all
    · refine ⟨r, rfl, ?_, R9, hj, hw⟩
      rcases hp with ⟨e, hp⟩ | ⟨e, hp⟩ | ⟨e, hp⟩
      · exact e
      · exfalso; clear hl e hj hw; simp_all
      · exfalso; clear hl e hj hw; simp_all)
theorem x_print2 {l : Launch} (hl : l.stackTraces = false) (Γ : fG) (B0 : Nat) (ad : Nat → Nat → Nat) (P R : fR) (M : Nat → fO) (x y : Int32) (hP : FI P) (hI : XI R) (h5 : R 5 0 0 ≤ 900000) (hx : rg x (shc P R) ∧ ¬ (nI 1 ≤ y ∧ y < nI 501)) : f_MetW l yL_print cL_print 4 (some .int) [(0, 6, 7, 16), (0, 6, 11, 19), (0, 6, 15, 22)] 8 11 66 154 Γ B0 [.ref (ad 1 0), .int x, .int y] (wj (fw Γ ad P) (xw Γ ad R) M) (f_rI (fun r9 w9 => r9 = -1000002 ∧ ∃ R9 : fR, (jk R9 R ∧ XI R9) ∧ w9 = wj (fw Γ ad P) (xw Γ ad (R9)) M)) :=
  (c_L_print hl Γ B0 ad P R M x y hP hI h5).mono (fun v w' hp => by
    obtain ⟨r, rfl, hp⟩ := hp
    rcases hp with hp | ⟨R9, hj, hw, hp⟩
    · exfalso; clear hl; have h9 := hp.1; simp_all
    · refine ⟨r, rfl, ?_, R9, hj, hw⟩
      rcases hp with ⟨e, hp⟩ | ⟨e, hp⟩ | ⟨e, hp⟩
      · exfalso; clear hl e hj hw; simp_all
      · exact e
      · exfalso; clear hl e hj hw; simp_all)
theorem x_print3 {l : Launch} (hl : l.stackTraces = false) (Γ : fG) (B0 : Nat) (ad : Nat → Nat → Nat) (P R : fR) (M : Nat → fO) (x y : Int32) (hP : FI P) (hI : XI R) (h5 : R 5 0 0 ≤ 900000) (hx : (rg x (shc P R) ∧ (nI 1 ≤ y ∧ y < nI 501)) ∧ ¬ okP P R (xN x) (xN y)) : f_MetW l yL_print cL_print 4 (some .int) [(0, 6, 7, 16), (0, 6, 11, 19), (0, 6, 15, 22)] 8 11 66 154 Γ B0 [.ref (ad 1 0), .int x, .int y] (wj (fw Γ ad P) (xw Γ ad R) M) (f_rI (fun r9 w9 => r9 = -1000003 ∧ ∃ R9 : fR, (jk R9 R ∧ XI R9) ∧ w9 = wj (fw Γ ad P) (xw Γ ad (R9)) M)) :=
  (c_L_print hl Γ B0 ad P R M x y hP hI h5).mono (fun v w' hp => by
    obtain ⟨r, rfl, hp⟩ := hp
    rcases hp with hp | ⟨R9, hj, hw, hp⟩
    · exfalso; clear hl; have h9 := hp.1; simp_all
    · refine ⟨r, rfl, ?_, R9, hj, hw⟩
      rcases hp with ⟨e, hp⟩ | ⟨e, hp⟩ | ⟨e, hp⟩
      · exfalso; clear hl e hj hw; simp_all
      · exfalso; clear hl e hj hw; simp_all
      · exact e)
