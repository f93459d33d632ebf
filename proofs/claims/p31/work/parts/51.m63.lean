set_option maxHeartbeats 4000000 in
set_option maxRecDepth 100000 in
theorem s_ord219 {X9 : fX} {Γ : fG} {B0 : Nat} {ad ad0 : Nat → Nat → Nat} {P R M : fR} {n : Nat} (h : RZ (n + 1) P R M) (e1 : ad 1 0 = ad0 1 0) (e30 : ∀ j, ad 30 j = ad0 30 j) (x y : Int32) (fo co : Nat) {H : Heap} {locs : List Loc} (C : f_C X9 Γ B0 RL cL_orders 14 9 16 96 159) (E : f_E X9 Γ B0 (some .boolean) 16 96 (f_rI (fun r9 w9 => r9 = bI true ∧ ACT Γ ad0 n w9)) f_no) (hh : f_HS Γ B0 (wj (fw Γ ad P) (xw Γ ad R) (mw Γ ad M)) X9 H locs) : f_W X9 H locs 4 24 219 [some (.ref (ad 1 0)), some (.ref (ad 30 1)), some (.ref (ad 30 2)), some (.ref (ad 30 4)), some (.int x), some (.int y), some (.int (nI (fo))), some (.int (nI (co))), none, none, none, none, none, none] [] := by
  have hF := rl_fi h
  have hI := rl_xi h
  have hL := rl_li h
  have h64 := rl_64 h
  have h24 := rl_24 h
  have e0 := rl_0 h
  have hsh := FI_sh (R := R) hF h64
  have esh := rl_sh h
  have hs6 := shL_6 hL
  have e41 := h.2.1.1
  obtain ⟨l1, l2, l3, l40, l41, l42, ⟨l43, l43h⟩, l44, l45⟩ := id hL
  refine r_aload_n C dL_orders_219 rfl ?_
  refine r_aload_n C dL_orders_220 rfl ?_
  refine r_iconst C (nI 0) dL_orders_221 rfl ?_
  refine al_m_g C hh (by omega) dL_orders_222 ?_
  refine r_iconst C (nI 1) dL_orders_223 rfl ?_
  refine r_iaddN C dL_orders_224 ?_
  refine r_sipush C (nI 256) dL_orders_225 rfl ?_
  refine r_iconst C (nI 0) dL_orders_228 rfl ?_
  refine r_callSW C hh (x_insert1 E.2.1 Γ B0 ad R _ _ _ _ _ hI (not_rg (by omega) (by omega))) lw_L_152 rfl rfl (Nat.le_of_ble_eq_true rfl) dL_orders_229 ⟨by decide, by decide⟩ ⟨by omega, by omega⟩ (kk_is (fun H locs hs9 hh => ?_))
  refine r_ldc C ct_L_18 dL_orders_232 ?_
  refine r_icmp_ne (tgt := 268) C dL_orders_234 (by decide) (fun h234 => ?_) (fun h234 => ?_)
  · exact absurd (rfl) h234
  · refine r_aload_n C dL_orders_237 rfl ?_
    refine r_iconst C (nI 0) dL_orders_238 rfl ?_
    refine r_sipush C (nI 256) dL_orders_239 rfl ?_
    refine r_iconst C (nI 0) dL_orders_242 rfl ?_
    refine r_callSW C hh (x_insert2 E.2.1 Γ B0 ad R _ _ _ _ _ hI ⟨rg_N (by omega) (by omega), fun z => not_rg (by decide) (by decide) z.1⟩) lw_L_152 rfl rfl (Nat.le_of_ble_eq_true rfl) dL_orders_243 ⟨by decide, by decide⟩ ⟨by omega, by omega⟩ (kk_is (fun H locs hs9 hh => ?_))
    refine r_ldc C ct_L_21 dL_orders_246 ?_
    refine r_icmp_ne (tgt := 268) C dL_orders_248 (by decide) (fun h248 => ?_) (fun h248 => ?_)
    · exact absurd (rfl) h248
    · refine r_aload_n C dL_orders_251 rfl ?_
      refine r_iconst C (nI 0) dL_orders_252 rfl ?_
      refine r_iconst C (nI 0) dL_orders_253 rfl ?_
      refine r_bipush C (nI 16) dL_orders_254 rfl ?_
      refine r_callSW C hh (x_insert2 E.2.1 Γ B0 ad R _ _ _ _ _ hI ⟨rg_N (by omega) (by omega), fun z => not_rg (by decide) (by decide) z.2⟩) lw_L_152 rfl rfl (Nat.le_of_ble_eq_true rfl) dL_orders_256 ⟨by decide, by decide⟩ ⟨by omega, by omega⟩ (kk_is (fun H locs hs9 hh => ?_))
      refine r_ldc C ct_L_21 dL_orders_259 ?_
      refine r_icmp_ne (tgt := 268) C dL_orders_261 (by decide) (fun h261 => ?_) (fun h261 => ?_)
      · exact absurd (rfl) h261
      · refine r_iconst C (bI true) dL_orders_264 rfl ?_
        refine r_goto (tgt := 269) C dL_orders_265 (by decide) ?_
        exact r_zret C E hh dL_orders_269 (by omega) (by omega) ⟨_, rfl, rfl, ad, P, R, M, h, e1, e30, rfl⟩

set_option maxHeartbeats 4000000 in
set_option maxRecDepth 100000 in
theorem s_ord193f {X9 : fX} {Γ : fG} {B0 : Nat} {ad : Nat → Nat → Nat} {P R M : fR} {n : Nat} (h : RZ n P R M) (hn : n ≤ 150) (x y : Int32) {fo co : Nat} (hy : fo < 256) (hz : co < 16) (kd : Nat) {j : Nat} (hj : j < M 4 0 0 + 1) (hg : M 4 0 0 < 24) (h41 : ¬ M 4 1 0 < 100) {H : Heap} {locs : List Loc} (C : f_C X9 Γ B0 RL cL_orders 14 9 16 96 159) (E : f_E X9 Γ B0 (some .boolean) 16 96 (f_rI (fun r9 w9 => r9 = bI true ∧ ACT Γ ad n w9)) f_no) (hh : f_HS Γ B0 (wj (fw Γ ad P) (xw Γ ad R) (mw Γ ad M)) X9 H locs) : f_W X9 H locs 0 0 193 [some (.ref (ad 1 0)), some (.ref (ad 30 1)), some (.ref (ad 30 2)), some (.ref (ad 30 4)), some (.int x), some (.int y), some (.int (nI (fo))), some (.int (nI (co))), none, some (.int (nI (j))), some (.int (bI (false))), none, none, none] [] := by
  have hF := rl_fi h
  have hI := rl_xi h
  have hL := rl_li h
  have h64 := rl_64 h
  have h24 := rl_24 h
  have e0 := rl_0 h
  have hsh := FI_sh (R := R) hF h64
  have esh := rl_sh h
  have hs6 := shL_6 hL
  have e41 := h.2.1.1
  obtain ⟨l1, l2, l3, l40, l41, l42, ⟨l43, l43h⟩, l44, l45⟩ := id hL
  refine r_aload_n C dL_orders_193 rfl ?_
  refine r_iload C dL_orders_194 rfl ?_
  refine r_iload C dL_orders_196 rfl ?_
  refine r_iload C dL_orders_198 rfl ?_
  refine r_callSW C hh (x_insert3 E.2.1 Γ B0 ad R _ _ _ _ _ hI ⟨⟨rg_N (by omega) (by omega), rg_N hy (by decide), rg_N hz (by decide)⟩, by omega⟩) lw_L_152 rfl rfl (Nat.le_of_ble_eq_true rfl) dL_orders_200 ⟨by decide, by decide⟩ ⟨by omega, by omega⟩ (kk_is (fun H locs hs9 hh => ?_))
  refine r_iload C dL_orders_203 rfl ?_
  refine r_if_eqB (tgt := 214) C dL_orders_205 (by decide) (fun h205 => ?_) (fun h205 => ?_)
  · refine r_ldc C ct_L_24 dL_orders_214 ?_
    refine r_icmp_ne (tgt := 268) C dL_orders_216 (by decide) (fun h216 => ?_) (fun h216 => ?_)
    · exact absurd (rfl) h216
    · refine f_W.le ?_ (s_ord219 (RL_up (Nat.le_succ n) h) rfl (fun _ => rfl) x y fo co C E hh)
      exact (And.intro rfl (And.intro rfl (And.intro rfl (And.intro rfl (And.intro rfl (And.intro rfl (And.intro rfl (And.intro rfl trivial))))))))
  · exact absurd h205 (by decide)

set_option maxHeartbeats 4000000 in
set_option maxRecDepth 100000 in
theorem s_ord157t {X9 : fX} {Γ : fG} {B0 : Nat} {ad : Nat → Nat → Nat} {P R M : fR} {n : Nat} (h : RZ n P R M) (hn : n ≤ 150) (x y : Int32) {fo co : Nat} (hy : fo < 256) (hz : co < 16) (kd : Nat) {j : Nat} (hj : j < M 4 0 0 + 1) (hg : M 4 0 0 < 24) (h41 : M 4 1 0 < 100) {H : Heap} {locs : List Loc} (C : f_C X9 Γ B0 RL cL_orders 14 9 16 96 159) (E : f_E X9 Γ B0 (some .boolean) 16 96 (f_rI (fun r9 w9 => r9 = bI true ∧ ACT Γ ad n w9)) f_no) (hh : f_HS Γ B0 (wj (fw Γ ad P) (xw Γ ad R) (mw Γ ad (insK M j))) X9 H locs) : f_W X9 H locs 0 0 157 [some (.ref (ad 1 0)), some (.ref (ad 30 1)), some (.ref (ad 30 2)), some (.ref (ad 30 4)), some (.int x), some (.int y), some (.int (nI (fo))), some (.int (nI (co))), none, some (.int (nI (j))), some (.int (bI (true))), none, none, none] [] := by
  have hF := rl_fi h
  have hI := rl_xi h
  have hL := rl_li h
  have h64 := rl_64 h
  have h24 := rl_24 h
  have e0 := rl_0 h
  have hsh := FI_sh (R := R) hF h64
  have esh := rl_sh h
  have hs6 := shL_6 hL
  have e41 := h.2.1.1
  obtain ⟨l1, l2, l3, l40, l41, l42, ⟨l43, l43h⟩, l44, l45⟩ := id hL
  refine r_aload_n C dL_orders_157 rfl ?_
  refine r_iload C dL_orders_158 rfl ?_
  refine r_iload C dL_orders_160 rfl ?_
  refine r_sipush C (nI 256) dL_orders_162 rfl ?_
  refine r_iload C dL_orders_165 rfl ?_
  refine r_imulN C dL_orders_167 ?_
  refine r_iaddN C dL_orders_168 ?_
  refine r_sipush C (nI 4096) dL_orders_169 rfl ?_
  refine r_iaddN C dL_orders_172 ?_
  refine as_m_p C hh (by omega) dL_orders_173 (fun H locs hh => ?_)
  refine r_aload_n C dL_orders_174 rfl ?_
  refine r_iload C dL_orders_175 rfl ?_
  refine r_iconst C (nI 0) dL_orders_177 rfl ?_
  refine as_m_q C hh (by omega) dL_orders_178 (fun H locs hh => ?_)
  refine r_aload_n C dL_orders_179 rfl ?_
  refine r_iconst C (nI 0) dL_orders_180 rfl ?_
  refine r_dup2 C dL_orders_181 rfl rfl ?_
  refine al_m_g C hh (by omega) dL_orders_182 ?_
  refine r_iconst C (nI 1) dL_orders_183 rfl ?_
  refine r_iaddN C dL_orders_184 ?_
  refine as_m_g C hh (by omega) dL_orders_185 (fun H locs hh => ?_)
  refine r_aload_n C dL_orders_186 rfl ?_
  refine r_iconst C (nI 1) dL_orders_187 rfl ?_
  refine r_dup2 C dL_orders_188 rfl rfl ?_
  refine al_m_g C hh (by omega) dL_orders_189 ?_
  refine r_iconst C (nI 1) dL_orders_190 rfl ?_
  refine r_iaddN C dL_orders_191 ?_
  refine as_m_g C hh (by omega) dL_orders_192 (fun H locs hh => ?_)
  replace hh : f_HS Γ B0 (wj (fw Γ ad P) (xw Γ ad (R)) (mw Γ ad (insM M j (fo + 256 * co + 4096)))) X9 H locs := hs_mw hh (fun _ => rfl) (fun _ => rfl) (fun _ => rfl) (fun _ => rfl) (fun _ => rfl) rfl
  have h' := RL_ins h hn (j := j) (by omega) (by omega) (by omega) hy hz
  have e40 : insM M j (fo + 256 * co + 4096) 4 0 0 = M 4 0 0 + 1 := rfl
  have e0' := rl_0 h'
  refine r_aload_n C dL_orders_193 rfl ?_
  refine r_iload C dL_orders_194 rfl ?_
  refine r_iload C dL_orders_196 rfl ?_
  refine r_iload C dL_orders_198 rfl ?_
  refine r_callSW C hh (L_insert_k E.2.1 Γ B0 ad _ hI (by omega) hy hz (by omega) (by omega)) lw_L_152 rfl rfl (Nat.le_of_ble_eq_true rfl) dL_orders_200 ⟨by decide, by decide⟩ ⟨by omega, by omega⟩ (kk_rI (fun r9 w9 H locs hs9 hp9 hh => ?_))
  obtain ⟨rfl, ad', e1, e30, rfl⟩ := hp9
  rw [← e1, ← e30 1, ← e30 2, ← e30 4]
  refine r_iload C dL_orders_203 rfl ?_
  refine r_if_eqB (tgt := 214) C dL_orders_205 (by decide) (fun h205 => ?_) (fun h205 => ?_)
  · exact absurd h205 (by decide)
  · refine r_aload_n C dL_orders_208 rfl ?_
    refine r_iconst C (nI 0) dL_orders_209 rfl ?_
    refine al_m_g C hh (by omega) dL_orders_210 ?_
    refine r_goto (tgt := 216) C dL_orders_211 (by decide) ?_
    refine r_icmp_neN (tgt := 268) C dL_orders_216 (by decide) (by omega) (by omega) (fun h216 => ?_) (fun h216 => ?_)
    · exact absurd (e0') h216
    · refine f_W.le ?_ (s_ord219 h' e1 e30 x y fo co C E hh)
      exact (And.intro rfl (And.intro rfl (And.intro rfl (And.intro rfl (And.intro rfl (And.intro rfl (And.intro rfl (And.intro rfl trivial))))))))

set_option maxHeartbeats 4000000 in
set_option maxRecDepth 100000 in
theorem s_ord152 {X9 : fX} {Γ : fG} {B0 : Nat} {ad : Nat → Nat → Nat} {P R M : fR} {n : Nat} (h : RZ n P R M) (hn : n ≤ 150) (x y : Int32) {fo co : Nat} (hy : fo < 256) (hz : co < 16) (kd : Nat) {j : Nat} (hj : j < M 4 0 0 + 1) (hg : M 4 0 0 < 24) (b : Bool) (hb : decide (M 4 1 0 < 100) = b) {H : Heap} {locs : List Loc} (C : f_C X9 Γ B0 RL cL_orders 14 9 16 96 159) (E : f_E X9 Γ B0 (some .boolean) 16 96 (f_rI (fun r9 w9 => r9 = bI true ∧ ACT Γ ad n w9)) f_no) (hh : f_HS Γ B0 (wj (fw Γ ad P) (xw Γ ad R) (mw Γ ad (insK M (if b = true then j else M 4 0 0)))) X9 H locs) : f_W X9 H locs 0 0 152 [some (.ref (ad 1 0)), some (.ref (ad 30 1)), some (.ref (ad 30 2)), some (.ref (ad 30 4)), some (.int x), some (.int y), some (.int (nI (fo))), some (.int (nI (co))), none, some (.int (nI (j))), some (.int (bI (b))), none, none, none] [] := by
  refine r_iload C dL_orders_152 rfl ?_
  refine r_if_eqB (tgt := 193) C dL_orders_154 (by decide) (fun h154 => ?_) (fun h154 => ?_)
  · subst h154
    exact s_ord193f h hn x y hy hz kd hj hg (of_decide_eq_false hb) C E (hs_mw hh (fun i => congrFun (congrFun (sr2_0 (M 1) (M 4 0 0)) i) 0) (fun i => congrFun (congrFun (sr2_0 (M 2) (M 4 0 0)) i) 0) (fun _ => rfl) (fun _ => rfl) (fun _ => rfl) rfl)
  · subst h154
    exact s_ord157t h hn x y hy hz kd hj hg (of_decide_eq_true hb) C E hh

set_option maxHeartbeats 4000000 in
set_option maxRecDepth 100000 in
theorem s_ord80 {X9 : fX} {Γ : fG} {B0 : Nat} {ad : Nat → Nat → Nat} {P R M : fR} {n : Nat} (h : RZ n P R M) (hn : n ≤ 150) (x y : Int32) {fo co : Nat} (hy : fo < 256) (hz : co < 16) (kd : Nat) (hg : M 4 0 0 < 24) {H : Heap} {locs : List Loc} (C : f_C X9 Γ B0 RL cL_orders 14 9 16 96 159) (E : f_E X9 Γ B0 (some .boolean) 16 96 (f_rI (fun r9 w9 => r9 = bI true ∧ ACT Γ ad n w9)) f_no) (hh : f_HS Γ B0 (wj (fw Γ ad P) (xw Γ ad R) (mw Γ ad M)) X9 H locs) : f_W X9 H locs 0 0 80 [some (.ref (ad 1 0)), some (.ref (ad 30 1)), some (.ref (ad 30 2)), some (.ref (ad 30 4)), some (.int x), some (.int y), some (.int (nI (fo))), some (.int (nI (co))), some (.int (nI (kd))), none, none, none, none, none] [] := by
  have hF := rl_fi h
  have hI := rl_xi h
  have hL := rl_li h
  have h64 := rl_64 h
  have h24 := rl_24 h
  have e0 := rl_0 h
  have hsh := FI_sh (R := R) hF h64
  have esh := rl_sh h
  have hs6 := shL_6 hL
  have e41 := h.2.1.1
  obtain ⟨l1, l2, l3, l40, l41, l42, ⟨l43, l43h⟩, l44, l45⟩ := id hL
  refine r_iload C dL_orders_80 rfl ?_
  refine r_iconst C (nI 4) dL_orders_82 rfl ?_
  refine r_ishr C dL_orders_83 ?_
  refine r_aload_n C dL_orders_84 rfl ?_
  refine r_iconst C (nI 0) dL_orders_85 rfl ?_
  refine al_m_g C hh (by omega) dL_orders_86 ?_
  refine r_iconst C (nI 1) dL_orders_87 rfl ?_
  refine r_iaddN C dL_orders_88 ?_
  refine r_callS C E hh (c_low E.2.1 Γ B0 _ _ (M 4 0 0 + 1) (by omega) (by omega)) lk_L_149 rfl rfl (Nat.le_of_ble_eq_true rfl) dL_orders_89 ⟨by decide, by decide⟩ ⟨by omega, by omega⟩ (fun _ _ z9 => False.elim z9) (kk_rI (fun r9 w9 H locs hs9 hp9 hh => ?_))
  obtain ⟨⟨j, hj, rfl⟩, rfl⟩ := hp9
  refine r_istore C dL_orders_92 rfl rfl ?_
  refine r_aload_n C dL_orders_94 rfl ?_
  refine r_iconst C (nI 1) dL_orders_95 rfl ?_
  refine al_m_g C hh (by omega) dL_orders_96 ?_
  refine r_bipush C (nI 100) dL_orders_97 rfl ?_
  have jn107 : ∀ (b : Bool), decide (M 4 1 0 < 100) = b → f_W X9 H locs 0 0 107 [some (.ref (ad 1 0)), some (.ref (ad 30 1)), some (.ref (ad 30 2)), some (.ref (ad 30 4)), some (.int x), some (.int y), some (.int (nI (fo))), some (.int (nI (co))), some (.int (nI (kd))), some (.int (nI (j))), none, none, none, none] [.int (bI b)] := by
    intro b hb
    refine r_istore C dL_orders_107 rfl rfl ?_
    refine r_aload_n C dL_orders_109 rfl ?_
    refine r_iconst C (nI 0) dL_orders_110 rfl ?_
    refine al_m_g C hh (by omega) dL_orders_111 ?_
    refine r_istore C dL_orders_112 rfl rfl ?_
    have lp114 : ∀ (d9 : Nat) (k : Nat) (H : Heap) (locs : List Loc), k - j < d9 → j ≤ k ∧ k ≤ M 4 0 0 ∧ (b = false → k = M 4 0 0) → f_HS Γ B0 (wj (fw Γ ad P) (xw Γ ad R) (mw Γ ad (insK M k))) X9 H locs → f_W X9 H locs 0 0 114 [some (.ref (ad 1 0)), some (.ref (ad 30 1)), some (.ref (ad 30 2)), some (.ref (ad 30 4)), some (.int x), some (.int y), some (.int (nI (fo))), some (.int (nI (co))), some (.int (nI (kd))), some (.int (nI (j))), some (.int (bI (b))), some (.int (nI (k))), none, none] [] := by
      intro d9
      induction d9 with
      | zero => intro k H locs hd9 hk9 hh; exact absurd hd9 (Nat.not_lt_zero _)
      | succ d9 ih114 =>
        intro k H locs hd9 hk9 hh
        refine r_iload C dL_orders_114 rfl ?_
        refine r_iload C dL_orders_116 rfl ?_
        refine r_icmp_leN (tgt := 152) C dL_orders_118 (by decide) (by omega) (by omega) (fun h118 => ?_) (fun h118 => ?_)
        · have ek : k = (if b = true then j else M 4 0 0) := by
            cases b with
            | true => rw [if_pos rfl]; first | omega | exact absurd h123 (by decide)
            | false => rw [if_neg (by decide)]; exact hk9.2.2 rfl
          rw [ek] at hh
          refine f_W.le ?_ (s_ord152 h hn x y hy hz kd hj hg b hb C E hh)
          exact (And.intro rfl (And.intro rfl (And.intro rfl (And.intro rfl (And.intro rfl (And.intro rfl (And.intro rfl (And.intro rfl (And.intro rfl (And.intro rfl trivial))))))))))
        · refine r_iload C dL_orders_121 rfl ?_
          refine r_if_eqB (tgt := 152) C dL_orders_123 (by decide) (fun h123 => ?_) (fun h123 => ?_)
          · have ek : k = (if b = true then j else M 4 0 0) := by
              cases b with
              | true => rw [if_pos rfl]; first | omega | exact absurd h123 (by decide)
              | false => rw [if_neg (by decide)]; exact hk9.2.2 rfl
            rw [ek] at hh
            refine f_W.le ?_ (s_ord152 h hn x y hy hz kd hj hg b hb C E hh)
            exact (And.intro rfl (And.intro rfl (And.intro rfl (And.intro rfl (And.intro rfl (And.intro rfl (And.intro rfl (And.intro rfl (And.intro rfl (And.intro rfl trivial))))))))))
          · refine r_aload_n C dL_orders_126 rfl ?_
            refine r_iload C dL_orders_127 rfl ?_
            refine r_aload_n C dL_orders_129 rfl ?_
            refine r_iload C dL_orders_130 rfl ?_
            refine r_iconst C (nI 1) dL_orders_132 rfl ?_
            refine r_isubN C dL_orders_133 (by omega) ?_
            refine al_m_p C hh (by omega) dL_orders_134 ?_
            refine as_m_p C hh (by omega) dL_orders_135 (fun H locs hh => ?_)
            refine r_aload_n C dL_orders_136 rfl ?_
            refine r_iload C dL_orders_137 rfl ?_
            refine r_aload_n C dL_orders_139 rfl ?_
            refine r_iload C dL_orders_140 rfl ?_
            refine r_iconst C (nI 1) dL_orders_142 rfl ?_
            refine r_isubN C dL_orders_143 (by omega) ?_
            refine al_m_q C hh (by omega) dL_orders_144 ?_
            refine as_m_q C hh (by omega) dL_orders_145 (fun H locs hh => ?_)
            refine r_iincD C dL_orders_146 (by omega) rfl rfl ?_
            refine r_goto (tgt := 114) C dL_orders_149 (by decide) ?_
            exact ih114 (k - 1) _ _ (by omega) ⟨by omega, by omega, fun z => absurd (h123.symm.trans z) (by decide)⟩ (hs_mw hh (fun i => sr2_v (M 1) (by omega) hk9.2.1 i) (fun i => sr2_v (M 2) (by omega) hk9.2.1 i) (fun _ => rfl) (fun _ => rfl) (fun _ => rfl) rfl)
    exact lp114 (M 4 0 0 - j + 1) (M 4 0 0) _ _ (by omega) ⟨by omega, Nat.le_refl _, fun _ => rfl⟩ (hs_mw hh (fun i => (congrFun (congrFun (sr2_0 (M 1) (M 4 0 0)) i) 0).symm) (fun i => (congrFun (congrFun (sr2_0 (M 2) (M 4 0 0)) i) 0).symm) (fun _ => rfl) (fun _ => rfl) (fun _ => rfl) rfl)
  refine r_icmp_geN (tgt := 106) C dL_orders_99 (by decide) (by omega) (by omega) (fun h99 => ?_) (fun h99 => ?_)
  · refine r_iconst C (bI false) dL_orders_106 rfl ?_
    first | exact jn107 true (decide_eq_true (by omega)) | exact jn107 false (decide_eq_false (by omega))
  · refine r_iconst C (bI true) dL_orders_102 rfl ?_
    refine r_goto (tgt := 107) C dL_orders_103 (by decide) ?_
    first | exact jn107 true (decide_eq_true (by omega)) | exact jn107 false (decide_eq_false (by omega))

set_option maxHeartbeats 4000000 in
set_option maxRecDepth 100000 in
theorem s_ord310 {X9 : fX} {Γ : fG} {B0 : Nat} {ad : Nat → Nat → Nat} {P R M : fR} {n : Nat} (h : RZ n P R M) (hn : n ≤ 150) (x y : Int32) {fo co : Nat} (hy : fo < 256) (hz : co < 16) (kd : Nat) {p : Nat} (hp : p < M 4 0 0) {H : Heap} {locs : List Loc} (C : f_C X9 Γ B0 RL cL_orders 14 9 16 96 159) (E : f_E X9 Γ B0 (some .boolean) 16 96 (f_rI (fun r9 w9 => r9 = bI true ∧ ACT Γ ad n w9)) f_no) (hh : f_HS Γ B0 (wj (fw Γ ad P) (xw Γ ad R) (mw Γ ad M)) X9 H locs) : f_W X9 H locs 0 0 310 [some (.ref (ad 1 0)), some (.ref (ad 30 1)), some (.ref (ad 30 2)), some (.ref (ad 30 4)), some (.int x), some (.int y), some (.int (nI (fo))), some (.int (nI (co))), some (.int (nI (kd))), some (.int (nI (p))), none, none, none, none] [] := by
  have hF := rl_fi h
  have hI := rl_xi h
  have hL := rl_li h
  have h64 := rl_64 h
  have h24 := rl_24 h
  have e0 := rl_0 h
  have hsh := FI_sh (R := R) hF h64
  have esh := rl_sh h
  have hs6 := shL_6 hL
  have e41 := h.2.1.1
  obtain ⟨l1, l2, l3, l40, l41, l42, ⟨l43, l43h⟩, l44, l45⟩ := id hL
  refine r_aload_n C dL_orders_310 rfl ?_
  refine r_iconst C (nI 0) dL_orders_311 rfl ?_
  refine r_dup2 C dL_orders_312 rfl rfl ?_
  refine al_m_g C hh (by omega) dL_orders_313 ?_
  refine r_iconst C (nI 1) dL_orders_314 rfl ?_
  refine r_isubN C dL_orders_315 (by omega) ?_
  refine as_m_g C hh (by omega) dL_orders_316 (fun H locs hh => ?_)
  refine r_iload C dL_orders_317 rfl ?_
  refine r_istore C dL_orders_319 rfl rfl ?_
  have lp321 : ∀ (d9 : Nat) (k : Nat) (H : Heap) (locs : List Loc), M 4 0 0 - k < d9 → p ≤ k ∧ k ≤ M 4 0 0 - 1 → f_HS Γ B0 (wj (fw Γ ad P) (xw Γ ad R) (mw Γ ad (remK M p k))) X9 H locs → f_W X9 H locs 0 0 321 [some (.ref (ad 1 0)), some (.ref (ad 30 1)), some (.ref (ad 30 2)), some (.ref (ad 30 4)), some (.int x), some (.int y), some (.int (nI (fo))), some (.int (nI (co))), some (.int (nI (kd))), some (.int (nI (p))), some (.int (nI (k))), none, none, none] [] := by
    intro d9
    induction d9 with
    | zero => intro k H locs hd9 hk9 hh; exact absurd hd9 (Nat.not_lt_zero _)
    | succ d9 ih321 =>
      intro k H locs hd9 hk9 hh
      refine r_iload C dL_orders_321 rfl ?_
      refine r_aload_n C dL_orders_323 rfl ?_
      refine r_iconst C (nI 0) dL_orders_324 rfl ?_
      refine al_m_g C hh (by omega) dL_orders_325 ?_
      rw [show remK M p k 4 0 0 = M 4 0 0 - 1 from rfl]
      refine r_icmp_geN (tgt := 355) C dL_orders_326 (by decide) (by omega) (by omega) (fun h326 => ?_) (fun h326 => ?_)
      · have ek : k = M 4 0 0 - 1 := by omega
        rw [ek] at hh
        replace hh : f_HS Γ B0 (wj (fw Γ ad P) (xw Γ ad R) (mw Γ ad (remM M p))) X9 H locs := hh
        have h' := RL_rem h (p := p) (by omega)
        have e40 : remM M p 4 0 0 = M 4 0 0 - 1 := rfl
        have e0' := rl_0 h'
        refine r_aload_n C dL_orders_355 rfl ?_
        refine r_iload C dL_orders_356 rfl ?_
        refine r_callSW C hh (L_remove_k E.2.1 Γ B0 ad _ hI (by omega)) lw_L_155 rfl rfl (Nat.le_of_ble_eq_true rfl) dL_orders_358 ⟨by decide, by decide⟩ ⟨by omega, by omega⟩ (kk_is (fun H locs hs9 hh => ?_))
        refine r_aload_n C dL_orders_361 rfl ?_
        refine r_iconst C (nI 0) dL_orders_362 rfl ?_
        refine al_m_g C hh (by omega) dL_orders_363 ?_
        refine r_icmp_neN (tgt := 383) C dL_orders_364 (by decide) (by omega) (by omega) (fun h364 => ?_) (fun h364 => ?_)
        · exact absurd (e0') h364
        · refine r_aload_n C dL_orders_367 rfl ?_
          refine r_aload_n C dL_orders_368 rfl ?_
          refine r_iconst C (nI 0) dL_orders_369 rfl ?_
          refine al_m_g C hh (by omega) dL_orders_370 ?_
          refine r_callSW C hh (x_remove1 E.2.1 Γ B0 ad (rmR R p) _ _ _ (rl_xi h') (not_rg (by omega) (by omega))) lw_L_155 rfl rfl (Nat.le_of_ble_eq_true rfl) dL_orders_371 ⟨by decide, by decide⟩ ⟨by omega, by omega⟩ (kk_is (fun H locs hs9 hh => ?_))
          refine r_ldc C ct_L_18 dL_orders_374 ?_
          refine r_icmp_ne (tgt := 383) C dL_orders_376 (by decide) (fun h376 => ?_) (fun h376 => ?_)
          · exact absurd (rfl) h376
          · refine r_iconst C (bI true) dL_orders_379 rfl ?_
            refine r_goto (tgt := 384) C dL_orders_380 (by decide) ?_
            exact r_zret C E hh dL_orders_384 (by omega) (by omega) ⟨_, rfl, rfl, ad, P, rmR R p, remM M p, RL_up (Nat.le_succ n) h', rfl, (fun _ => rfl), rfl⟩
      · refine r_aload_n C dL_orders_329 rfl ?_
        refine r_iload C dL_orders_330 rfl ?_
        refine r_aload_n C dL_orders_332 rfl ?_
        refine r_iload C dL_orders_333 rfl ?_
        refine r_iconst C (nI 1) dL_orders_335 rfl ?_
        refine r_iaddN C dL_orders_336 ?_
        refine al_m_p C hh (by omega) dL_orders_337 ?_
        refine as_m_p C hh (by omega) dL_orders_338 (fun H locs hh => ?_)
        refine r_aload_n C dL_orders_339 rfl ?_
        refine r_iload C dL_orders_340 rfl ?_
        refine r_aload_n C dL_orders_342 rfl ?_
        refine r_iload C dL_orders_343 rfl ?_
        refine r_iconst C (nI 1) dL_orders_345 rfl ?_
        refine r_iaddN C dL_orders_346 ?_
        refine al_m_q C hh (by omega) dL_orders_347 ?_
        refine as_m_q C hh (by omega) dL_orders_348 (fun H locs hh => ?_)
        refine r_iincN C dL_orders_349 rfl rfl ?_
        refine r_goto (tgt := 321) C dL_orders_352 (by decide) ?_
        exact ih321 (k + 1) _ _ (by omega) (by omega) (hs_mw hh (fun i => tk1_v (M 1) hk9.1 i) (fun i => tk1_v (M 2) hk9.1 i) (fun _ => rfl) (fun _ => rfl) (fun _ => rfl) rfl)
  exact lp321 (M 4 0 0 + 1) p _ _ (by omega) (by omega) (hs_mw hh (fun i => (congrFun (congrFun (tk1_0 (M 1) p) i) 0).symm) (fun i => (congrFun (congrFun (tk1_0 (M 2) p) i) 0).symm) (fun _ => rfl) (fun _ => rfl) (fun _ => rfl) rfl)

set_option maxHeartbeats 4000000 in
set_option maxRecDepth 100000 in
theorem s_ord392 {X9 : fX} {Γ : fG} {B0 : Nat} {ad : Nat → Nat → Nat} {P R M : fR} {n : Nat} (h : RZ n P R M) (hn : n ≤ 150) (x y : Int32) {fo co : Nat} (hy : fo < 256) (hz : co < 16) (kd : Nat) {p : Nat} (hp : p < M 4 0 0) {H : Heap} {locs : List Loc} (C : f_C X9 Γ B0 RL cL_orders 14 9 16 96 159) (E : f_E X9 Γ B0 (some .boolean) 16 96 (f_rI (fun r9 w9 => r9 = bI true ∧ ACT Γ ad n w9)) f_no) (hh : f_HS Γ B0 (wj (fw Γ ad P) (xw Γ ad R) (mw Γ ad M)) X9 H locs) : f_W X9 H locs 0 0 392 [some (.ref (ad 1 0)), some (.ref (ad 30 1)), some (.ref (ad 30 2)), some (.ref (ad 30 4)), some (.int x), some (.int y), some (.int (nI (fo))), some (.int (nI (co))), some (.int (nI (kd))), some (.int (nI (p))), none, none, none, none] [] := by
  have hF := rl_fi h
  have hI := rl_xi h
  have hL := rl_li h
  have h64 := rl_64 h
  have h24 := rl_24 h
  have e0 := rl_0 h
  have hsh := FI_sh (R := R) hF h64
  have esh := rl_sh h
  have hs6 := shL_6 hL
  have e41 := h.2.1.1
  obtain ⟨l1, l2, l3, l40, l41, l42, ⟨l43, l43h⟩, l44, l45⟩ := id hL
  refine r_iload C dL_orders_392 rfl ?_
  refine r_bipush C (nI 9) dL_orders_394 rfl ?_
  refine r_ishr C dL_orders_396 ?_
  refine r_aload_n C dL_orders_397 rfl ?_
  refine r_iconst C (nI 0) dL_orders_398 rfl ?_
  refine al_m_g C hh (by omega) dL_orders_399 ?_
  refine r_callS C E hh (c_low E.2.1 Γ B0 _ _ (M 4 0 0) (by omega) (by omega)) lk_L_149 rfl rfl (Nat.le_of_ble_eq_true rfl) dL_orders_400 ⟨by decide, by decide⟩ ⟨by omega, by omega⟩ (fun _ _ z9 => False.elim z9) (kk_rI (fun r9 w9 H locs hs9 hp9 hh => ?_))
  obtain ⟨⟨o, ho, rfl⟩, rfl⟩ := hp9
  refine r_istore C dL_orders_403 rfl rfl ?_
  refine r_aload_n C dL_orders_405 rfl ?_
  refine r_iload C dL_orders_406 rfl ?_
  refine al_m_p C hh (by omega) dL_orders_408 ?_
  refine r_istore C dL_orders_409 rfl rfl ?_
  refine r_aload_n C dL_orders_411 rfl ?_
  refine r_iload C dL_orders_412 rfl ?_
  refine al_m_q C hh (by omega) dL_orders_414 ?_
  refine r_istore C dL_orders_415 rfl rfl ?_
  refine r_iload C dL_orders_417 rfl ?_
  refine r_istore C dL_orders_419 rfl rfl ?_
  have lp421 : ∀ (d9 : Nat) (k : Nat) (H : Heap) (locs : List Loc), ((k - o) + (o - k)) < d9 → ((p ≤ k ∧ k ≤ o) ∨ (o ≤ k ∧ k ≤ p)) → f_HS Γ B0 (wj (fw Γ ad P) (xw Γ ad R) (mw Γ ad (movK M p k))) X9 H locs → f_W X9 H locs 0 0 421 [some (.ref (ad 1 0)), some (.ref (ad 30 1)), some (.ref (ad 30 2)), some (.ref (ad 30 4)), some (.int x), some (.int y), some (.int (nI (fo))), some (.int (nI (co))), some (.int (nI (kd))), some (.int (nI (p))), some (.int (nI (o))), some (.int (nI (M 1 p 0))), some (.int (nI (M 2 p 0))), some (.int (nI (k)))] [] := by
    intro d9
    induction d9 with
    | zero => intro k H locs hd9 hk9 hh; exact absurd hd9 (Nat.not_lt_zero _)
    | succ d9 ih421 =>
      intro k H locs hd9 hk9 hh
      have hnx : nx k o < 24 := by unfold nx; split <;> omega
      refine r_iload C dL_orders_421 rfl ?_
      refine r_iload C dL_orders_423 rfl ?_
      refine r_icmp_eqN (tgt := 496) C dL_orders_425 (by decide) (by omega) (by omega) (fun h425 => ?_) (fun h425 => ?_)
      · subst h425
        refine r_aload_n C dL_orders_496 rfl ?_
        refine r_iload C dL_orders_497 rfl ?_
        refine r_iload C dL_orders_499 rfl ?_
        refine as_m_p C hh (by omega) dL_orders_501 (fun H locs hh => ?_)
        refine r_aload_n C dL_orders_502 rfl ?_
        refine r_iload C dL_orders_503 rfl ?_
        refine r_iload C dL_orders_505 rfl ?_
        refine as_m_q C hh (by omega) dL_orders_507 (fun H locs hh => ?_)
        replace hh : f_HS Γ B0 (wj (fw Γ ad P) (xw Γ ad (R)) (mw Γ ad (movM M p k))) X9 H locs := hs_mw hh (fun _ => rfl) (fun _ => rfl) (fun _ => rfl) (fun _ => rfl) (fun _ => rfl) rfl
        have h' := RL_mov h (p := p) (o := k) (by omega) (by omega)
        have e40 : movM M p k 4 0 0 = M 4 0 0 := rfl
        have e0' := rl_0 h'
        refine r_aload_n C dL_orders_508 rfl ?_
        refine r_iload C dL_orders_509 rfl ?_
        refine r_iload C dL_orders_511 rfl ?_
        refine r_callSW C hh (L_move_k E.2.1 Γ B0 ad _ hI (by omega) (by omega)) lw_L_157 rfl rfl (Nat.le_of_ble_eq_true rfl) dL_orders_513 ⟨by decide, by decide⟩ ⟨by omega, by omega⟩ (kk_is (fun H locs hs9 hh => ?_))
        refine r_if_ne (tgt := 548) C dL_orders_516 (by decide) (fun h516 => ?_) (fun h516 => ?_)
        · exact absurd (rfl) h516
        · refine r_aload_n C dL_orders_519 rfl ?_
          refine r_iload C dL_orders_520 rfl ?_
          refine r_aload_n C dL_orders_522 rfl ?_
          refine r_iconst C (nI 0) dL_orders_523 rfl ?_
          refine al_m_g C hh (by omega) dL_orders_524 ?_
          refine r_callSW C hh (x_move1 E.2.1 Γ B0 ad (mvR R p k) _ _ _ _ (rl_xi h') (fun z => not_rg (by omega) (by omega) z.2)) lw_L_157 rfl rfl (Nat.le_of_ble_eq_true rfl) dL_orders_525 ⟨by decide, by decide⟩ ⟨by omega, by omega⟩ (kk_is (fun H locs hs9 hh => ?_))
          refine r_ldc C ct_L_18 dL_orders_528 ?_
          refine r_icmp_ne (tgt := 548) C dL_orders_530 (by decide) (fun h530 => ?_) (fun h530 => ?_)
          · exact absurd (rfl) h530
          · refine r_aload_n C dL_orders_533 rfl ?_
            refine r_iconst C (-1) dL_orders_534 rfl ?_
            refine r_iconst C (nI 0) dL_orders_535 rfl ?_
            refine r_callSW C hh (x_move1 E.2.1 Γ B0 ad (mvR R p k) _ _ _ _ (rl_xi h') (fun z => not_rg_m z.1)) lw_L_157 rfl rfl (Nat.le_of_ble_eq_true rfl) dL_orders_536 ⟨by decide, by decide⟩ ⟨by omega, by omega⟩ (kk_is (fun H locs hs9 hh => ?_))
            refine r_ldc C ct_L_18 dL_orders_539 ?_
            refine r_icmp_ne (tgt := 548) C dL_orders_541 (by decide) (fun h541 => ?_) (fun h541 => ?_)
            · exact absurd (rfl) h541
            · refine r_iconst C (bI true) dL_orders_544 rfl ?_
              refine r_goto (tgt := 549) C dL_orders_545 (by decide) ?_
              exact r_zret C E hh dL_orders_549 (by omega) (by omega) ⟨_, rfl, rfl, ad, P, mvR R p k, movM M p k, RL_up (Nat.le_succ n) h', rfl, (fun _ => rfl), rfl⟩
      · refine r_aload_n C dL_orders_428 rfl ?_
        refine r_iload C dL_orders_429 rfl ?_
        refine r_aload_n C dL_orders_431 rfl ?_
        refine r_iload C dL_orders_432 rfl ?_
        refine r_iload C dL_orders_434 rfl ?_
        have jn450 : ∀ (v : Nat), v = nx k o → f_W X9 H locs 0 0 450 [some (.ref (ad 1 0)), some (.ref (ad 30 1)), some (.ref (ad 30 2)), some (.ref (ad 30 4)), some (.int x), some (.int y), some (.int (nI (fo))), some (.int (nI (co))), some (.int (nI (kd))), some (.int (nI (p))), some (.int (nI (o))), some (.int (nI (M 1 p 0))), some (.int (nI (M 2 p 0))), some (.int (nI (k)))] [.int (nI v), .ref (ad 30 1), .int (nI k), .ref (ad 30 1)] := by
          intro v hS
          subst hS
          refine al_m_p C hh (by omega) dL_orders_450 ?_
          refine as_m_p C hh (by omega) dL_orders_451 (fun H locs hh => ?_)
          refine r_aload_n C dL_orders_452 rfl ?_
          refine r_iload C dL_orders_453 rfl ?_
          refine r_aload_n C dL_orders_455 rfl ?_
          refine r_iload C dL_orders_456 rfl ?_
          refine r_iload C dL_orders_458 rfl ?_
          have jn474 : ∀ (v : Nat), v = nx k o → f_W X9 H locs 0 0 474 [some (.ref (ad 1 0)), some (.ref (ad 30 1)), some (.ref (ad 30 2)), some (.ref (ad 30 4)), some (.int x), some (.int y), some (.int (nI (fo))), some (.int (nI (co))), some (.int (nI (kd))), some (.int (nI (p))), some (.int (nI (o))), some (.int (nI (M 1 p 0))), some (.int (nI (M 2 p 0))), some (.int (nI (k)))] [.int (nI v), .ref (ad 30 2), .int (nI k), .ref (ad 30 2)] := by
            intro v hS
            subst hS
            refine al_m_q C hh (by omega) dL_orders_474 ?_
            refine as_m_q C hh (by omega) dL_orders_475 (fun H locs hh => ?_)
            refine r_iload C dL_orders_476 rfl ?_
            refine r_iload C dL_orders_478 rfl ?_
            refine r_iload C dL_orders_480 rfl ?_
            have jn490 : ∀ (v : Int32), nI k + v = nI (nx k o) → f_W X9 H locs 0 0 490 [some (.ref (ad 1 0)), some (.ref (ad 30 1)), some (.ref (ad 30 2)), some (.ref (ad 30 4)), some (.int x), some (.int y), some (.int (nI (fo))), some (.int (nI (co))), some (.int (nI (kd))), some (.int (nI (p))), some (.int (nI (o))), some (.int (nI (M 1 p 0))), some (.int (nI (M 2 p 0))), some (.int (nI (k)))] [.int v, .int (nI k)] := by
              intro v hS
              refine r_iadd C dL_orders_490 ?_
              rw [show (nI k + v : Int32) = nI (nx k o) from hS]
              refine r_istore C dL_orders_491 rfl rfl ?_
              refine r_goto (tgt := 421) C dL_orders_493 (by decide) ?_
              have hk2 : (p ≤ k ∧ k < o) ∨ (o < k ∧ k ≤ p) := by omega
              exact ih421 (nx k o) _ _ (by unfold nx; split <;> omega) (by unfold nx; split <;> omega) (hs_mw hh (fun i => congrFun (congrFun (mvK_s (M 1) hk2) i) 0) (fun i => congrFun (congrFun (mvK_s (M 2) hk2) i) 0) (fun _ => rfl) (fun _ => rfl) (fun _ => rfl) rfl)
            refine r_icmp_geN (tgt := 489) C dL_orders_482 (by decide) (by omega) (by omega) (fun h482 => ?_) (fun h482 => ?_)
            · refine r_iconst C (-1) dL_orders_489 rfl ?_
              first | exact jn490 _ (by rw [show nx k o = k + 1 from if_pos (by omega)]; exact (nI_succ k).symm) | exact jn490 _ (by rw [show nx k o = k - 1 from if_neg (by omega)]; exact nI_pred1 (by omega))
            · refine r_iconst C (nI 1) dL_orders_485 rfl ?_
              refine r_goto (tgt := 490) C dL_orders_486 (by decide) ?_
              first | exact jn490 _ (by rw [show nx k o = k + 1 from if_pos (by omega)]; exact (nI_succ k).symm) | exact jn490 _ (by rw [show nx k o = k - 1 from if_neg (by omega)]; exact nI_pred1 (by omega))
          refine r_icmp_geN (tgt := 470) C dL_orders_460 (by decide) (by omega) (by omega) (fun h460 => ?_) (fun h460 => ?_)
          · refine r_iload C dL_orders_470 rfl ?_
            refine r_iconst C (nI 1) dL_orders_472 rfl ?_
            refine r_isubN C dL_orders_473 (by omega) ?_
            exact jn474 _ (by unfold nx; first | rw [if_pos (by omega)] | rw [if_neg (by omega)])
          · refine r_iload C dL_orders_463 rfl ?_
            refine r_iconst C (nI 1) dL_orders_465 rfl ?_
            refine r_iaddN C dL_orders_466 ?_
            refine r_goto (tgt := 474) C dL_orders_467 (by decide) ?_
            exact jn474 _ (by unfold nx; first | rw [if_pos (by omega)] | rw [if_neg (by omega)])
        refine r_icmp_geN (tgt := 446) C dL_orders_436 (by decide) (by omega) (by omega) (fun h436 => ?_) (fun h436 => ?_)
        · refine r_iload C dL_orders_446 rfl ?_
          refine r_iconst C (nI 1) dL_orders_448 rfl ?_
          refine r_isubN C dL_orders_449 (by omega) ?_
          exact jn450 _ (by unfold nx; first | rw [if_pos (by omega)] | rw [if_neg (by omega)])
        · refine r_iload C dL_orders_439 rfl ?_
          refine r_iconst C (nI 1) dL_orders_441 rfl ?_
          refine r_iaddN C dL_orders_442 ?_
          refine r_goto (tgt := 450) C dL_orders_443 (by decide) ?_
          exact jn450 _ (by unfold nx; first | rw [if_pos (by omega)] | rw [if_neg (by omega)])
  exact lp421 (((p - o) + (o - p)) + 1) p _ _ (by omega) (by omega) (hs_mw hh (fun i => (congrFun (congrFun (mvK_0 (M 1) p) i) 0).symm) (fun i => (congrFun (congrFun (mvK_0 (M 2) p) i) 0).symm) (fun _ => rfl) (fun _ => rfl) (fun _ => rfl) rfl)

set_option maxHeartbeats 4000000 in
set_option maxRecDepth 100000 in
theorem s_ord557 {X9 : fX} {Γ : fG} {B0 : Nat} {ad : Nat → Nat → Nat} {P R M : fR} {n : Nat} (h : RZ n P R M) (hn : n ≤ 150) (x y : Int32) {fo co : Nat} (hy : fo < 256) (hz : co < 16) (kd : Nat) {p : Nat} (hp : p < M 4 0 0) {H : Heap} {locs : List Loc} (C : f_C X9 Γ B0 RL cL_orders 14 9 16 96 159) (E : f_E X9 Γ B0 (some .boolean) 16 96 (f_rI (fun r9 w9 => r9 = bI true ∧ ACT Γ ad n w9)) f_no) (hh : f_HS Γ B0 (wj (fw Γ ad P) (xw Γ ad R) (mw Γ ad M)) X9 H locs) : f_W X9 H locs 0 0 557 [some (.ref (ad 1 0)), some (.ref (ad 30 1)), some (.ref (ad 30 2)), some (.ref (ad 30 4)), some (.int x), some (.int y), some (.int (nI (fo))), some (.int (nI (co))), some (.int (nI (kd))), some (.int (nI (p))), none, none, none, none] [] := by
  have hF := rl_fi h
  have hI := rl_xi h
  have hL := rl_li h
  have h64 := rl_64 h
  have h24 := rl_24 h
  have e0 := rl_0 h
  have hsh := FI_sh (R := R) hF h64
  have esh := rl_sh h
  have hs6 := shL_6 hL
  have e41 := h.2.1.1
  obtain ⟨l1, l2, l3, l40, l41, l42, ⟨l43, l43h⟩, l44, l45⟩ := id hL
  have g1 := l1 p
  refine r_aload_n C dL_orders_557 rfl ?_
  refine r_iload C dL_orders_558 rfl ?_
  refine r_aload_n C dL_orders_560 rfl ?_
  refine r_iload C dL_orders_561 rfl ?_
  refine al_m_p C hh (by omega) dL_orders_563 ?_
  refine r_sipush C (nI 4096) dL_orders_564 rfl ?_
  refine r_idivN C dL_orders_567 (by omega) (by omega) (by omega) ?_
  refine r_sipush C (nI 4096) dL_orders_568 rfl ?_
  refine r_imulN C dL_orders_571 ?_
  refine r_sipush C (nI 4096) dL_orders_572 rfl ?_
  refine r_iaddN C dL_orders_575 ?_
  refine r_iload C dL_orders_576 rfl ?_
  refine r_iaddN C dL_orders_578 ?_
  refine r_sipush C (nI 256) dL_orders_579 rfl ?_
  refine r_iload C dL_orders_582 rfl ?_
  refine r_imulN C dL_orders_584 ?_
  refine r_iaddN C dL_orders_585 ?_
  refine as_m_p C hh (by omega) dL_orders_586 (fun H locs hh => ?_)
  refine r_aload_n C dL_orders_587 rfl ?_
  refine r_iload C dL_orders_588 rfl ?_
  refine r_iconst C (nI 0) dL_orders_590 rfl ?_
  refine as_m_q C hh (by omega) dL_orders_591 (fun H locs hh => ?_)
  replace hh : f_HS Γ B0 (wj (fw Γ ad P) (xw Γ ad (R)) (mw Γ ad (ediM M p (M 1 p 0 / 4096 * 4096 + 4096 + fo + 256 * co)))) X9 H locs := hs_mw hh (fun _ => rfl) (fun _ => rfl) (fun _ => rfl) (fun _ => rfl) (fun _ => rfl) rfl
  have h' := RL_edit h hn (p := p) (by omega) hy hz
  have e40 : ediM M p (M 1 p 0 / 4096 * 4096 + 4096 + fo + 256 * co) 4 0 0 = M 4 0 0 := rfl
  have e0' := rl_0 h'
  have g1' := (rl_li h').1 p
  have g15 := (hI.2.2.2.2.2.2.1 (pg R p)).2.2
  have e15 : ediM M p (M 1 p 0 / 4096 * 4096 + 4096 + fo + 256 * co) 1 p 0 / 4096 = R 15 (pg R p) 0 + 1 := by
    rw [(rl_p h').2 p (by omega), pk_15 (rl_xi h')]
    exact if_pos rfl
  refine r_aload_n C dL_orders_592 rfl ?_
  refine r_iload C dL_orders_593 rfl ?_
  refine r_iload C dL_orders_595 rfl ?_
  refine r_iload C dL_orders_597 rfl ?_
  refine r_callSW C hh (L_edit_k E.2.1 Γ B0 ad _ hI (by omega) hy hz) lw_L_159 rfl rfl (Nat.le_of_ble_eq_true rfl) dL_orders_599 ⟨by decide, by decide⟩ ⟨by omega, by omega⟩ (kk_is (fun H locs hs9 hh => ?_))
  refine r_aload_n C dL_orders_602 rfl ?_
  refine r_iload C dL_orders_603 rfl ?_
  refine al_m_p C hh (by omega) dL_orders_605 ?_
  refine r_sipush C (nI 4096) dL_orders_606 rfl ?_
  refine r_idivN C dL_orders_609 (by omega) (by omega) (by omega) ?_
  refine r_icmp_neN (tgt := 644) C dL_orders_610 (by decide) (by omega) (by omega) (fun h610 => ?_) (fun h610 => ?_)
  · exact absurd (e15.symm) h610
  · refine r_aload_n C dL_orders_613 rfl ?_
    refine r_iload C dL_orders_614 rfl ?_
    refine r_iconst C (-1) dL_orders_616 rfl ?_
    refine r_iconst C (nI 0) dL_orders_617 rfl ?_
    refine r_callSW C hh (x_edit2 E.2.1 Γ B0 ad (rwr R (pg R p) fo co) _ _ _ _ _ (rl_xi h') ⟨rg_N (by omega) (by omega), fun z => not_rg_m z.1⟩) lw_L_159 rfl rfl (Nat.le_of_ble_eq_true rfl) dL_orders_618 ⟨by decide, by decide⟩ ⟨by omega, by omega⟩ (kk_is (fun H locs hs9 hh => ?_))
    refine r_ldc C ct_L_21 dL_orders_621 ?_
    refine r_icmp_ne (tgt := 644) C dL_orders_623 (by decide) (fun h623 => ?_) (fun h623 => ?_)
    · exact absurd (rfl) h623
    · refine r_aload_n C dL_orders_626 rfl ?_
      refine r_aload_n C dL_orders_627 rfl ?_
      refine r_iconst C (nI 0) dL_orders_628 rfl ?_
      refine al_m_g C hh (by omega) dL_orders_629 ?_
      refine r_iconst C (-1) dL_orders_630 rfl ?_
      refine r_iconst C (nI 0) dL_orders_631 rfl ?_
      refine r_callSW C hh (x_edit1 E.2.1 Γ B0 ad (rwr R (pg R p) fo co) _ _ _ _ _ (rl_xi h') (not_rg (by omega) (by omega))) lw_L_159 rfl rfl (Nat.le_of_ble_eq_true rfl) dL_orders_632 ⟨by decide, by decide⟩ ⟨by omega, by omega⟩ (kk_is (fun H locs hs9 hh => ?_))
      refine r_ldc C ct_L_18 dL_orders_635 ?_
      refine r_icmp_ne (tgt := 644) C dL_orders_637 (by decide) (fun h637 => ?_) (fun h637 => ?_)
      · exact absurd (rfl) h637
      · refine r_iconst C (bI true) dL_orders_640 rfl ?_
        refine r_goto (tgt := 645) C dL_orders_641 (by decide) ?_
        exact r_zret C E hh dL_orders_645 (by omega) (by omega) ⟨_, rfl, rfl, ad, P, rwr R (pg R p) fo co, ediM M p (M 1 p 0 / 4096 * 4096 + 4096 + fo + 256 * co), h', rfl, (fun _ => rfl), rfl⟩

set_option maxHeartbeats 4000000 in
set_option maxRecDepth 100000 in
theorem s_ord672e {X9 : fX} {Γ : fG} {B0 : Nat} {ad : Nat → Nat → Nat} {P R M : fR} {n : Nat} (h : RZ n P R M) (hn : n ≤ 150) (x y : Int32) {fo co : Nat} (hy : fo < 256) (hz : co < 16) (kd : Nat) {p f : Nat} (hf8 : f < 8) (h0 : 0 < M 4 0 0) {H : Heap} {locs : List Loc} (C : f_C X9 Γ B0 RL cL_orders 14 9 16 96 159) (E : f_E X9 Γ B0 (some .boolean) 16 96 (f_rI (fun r9 w9 => r9 = bI true ∧ ACT Γ ad n w9)) f_no) (hh : f_HS Γ B0 (wj (fw Γ ad P) (xw Γ ad R) (mw Γ ad M)) X9 H locs) : f_W X9 H locs 0 0 672 [some (.ref (ad 1 0)), some (.ref (ad 30 1)), some (.ref (ad 30 2)), some (.ref (ad 30 4)), some (.int x), some (.int y), some (.int (nI (fo))), some (.int (nI (co))), some (.int (nI (kd))), some (.int (nI (p))), some (.int (nI (f))), some (.int (nI (f))), some (.int (nI (0))), some (.int (nI (0)))] [] := by
  have hF := rl_fi h
  have hI := rl_xi h
  have hL := rl_li h
  have h64 := rl_64 h
  have h24 := rl_24 h
  have e0 := rl_0 h
  have hsh := FI_sh (R := R) hF h64
  have esh := rl_sh h
  have hs6 := shL_6 hL
  have e41 := h.2.1.1
  obtain ⟨l1, l2, l3, l40, l41, l42, ⟨l43, l43h⟩, l44, l45⟩ := id hL
  refine r_iload C dL_orders_672 rfl ?_
  refine r_aload_n C dL_orders_674 rfl ?_
  refine r_iconst C (nI 0) dL_orders_675 rfl ?_
  refine al_m_g C hh (by omega) dL_orders_676 ?_
  refine r_icmp_geN (tgt := 738) C dL_orders_677 (by decide) (by omega) (by omega) (fun h677 => ?_) (fun h677 => ?_)
  · exact absurd h677 (by omega)
  · refine r_iload C dL_orders_680 rfl ?_
    refine r_iload C dL_orders_682 rfl ?_
    refine r_icmp_eqN (tgt := 738) C dL_orders_684 (by decide) (by omega) (by omega) (fun h684 => ?_) (fun h684 => ?_)
    · refine r_aload_n C dL_orders_738 rfl ?_
      refine r_iload C dL_orders_739 rfl ?_
      refine r_iload C dL_orders_741 rfl ?_
      refine r_callSW C hh (x_replace1 E.2.1 Γ B0 ad R _ _ _ _ hI (fun q => by have := (rl_b h).2.1 q; omega) (fun z => z.2 rfl)) lw_L_161 rfl rfl (Nat.le_of_ble_eq_true rfl) dL_orders_743 ⟨by decide, by decide⟩ ⟨by omega, by omega⟩ (kk_is (fun H locs hs9 hh => ?_))
      refine r_iload C dL_orders_746 rfl ?_
      refine r_iload C dL_orders_748 rfl ?_
      refine r_icmp_neN (tgt := 758) C dL_orders_750 (by decide) (by omega) (by omega) (fun h750 => ?_) (fun h750 => ?_)
      · exact absurd (rfl) h750
      · refine r_ldc C ct_L_21 dL_orders_753 ?_
        refine r_goto (tgt := 760) C dL_orders_755 (by decide) ?_
        refine r_icmp_ne (tgt := 779) C dL_orders_760 (by decide) (fun h760 => ?_) (fun h760 => ?_)
        · exact absurd (rfl) h760
        · refine r_aload_n C dL_orders_763 rfl ?_
          refine r_bipush C (nI 8) dL_orders_764 rfl ?_
          refine r_iconst C (nI 0) dL_orders_766 rfl ?_
          refine r_callSW C hh (x_replace1 E.2.1 Γ B0 ad R _ _ _ _ hI (fun q => by have := (rl_b h).2.1 q; omega) (fun z => not_rg (by decide) (by decide) z.1.1)) lw_L_161 rfl rfl (Nat.le_of_ble_eq_true rfl) dL_orders_767 ⟨by decide, by decide⟩ ⟨by omega, by omega⟩ (kk_is (fun H locs hs9 hh => ?_))
          refine r_ldc C ct_L_21 dL_orders_770 ?_
          refine r_icmp_ne (tgt := 779) C dL_orders_772 (by decide) (fun h772 => ?_) (fun h772 => ?_)
          · exact absurd (rfl) h772
          · refine r_iconst C (bI true) dL_orders_775 rfl ?_
            refine r_goto (tgt := 780) C dL_orders_776 (by decide) ?_
            exact r_zret C E hh dL_orders_780 (by omega) (by omega) ⟨_, rfl, rfl, ad, P, R, M, RL_up (Nat.le_succ n) h, rfl, (fun _ => rfl), rfl⟩
    · exact absurd rfl h684

set_option maxHeartbeats 4000000 in
set_option maxRecDepth 100000 in
theorem s_ord672n {X9 : fX} {Γ : fG} {B0 : Nat} {ad : Nat → Nat → Nat} {P R M : fR} {n : Nat} (h : RZ n P R M) (hn : n ≤ 150) (x y : Int32) {fo co : Nat} (hy : fo < 256) (hz : co < 16) (kd : Nat) {p f o : Nat} (hf8 : f < 8) (ho8 : o < 8) (hfo : ¬ f = o) {H : Heap} {locs : List Loc} (C : f_C X9 Γ B0 RL cL_orders 14 9 16 96 159) (E : f_E X9 Γ B0 (some .boolean) 16 96 (f_rI (fun r9 w9 => r9 = bI true ∧ ACT Γ ad n w9)) f_no) (hh : f_HS Γ B0 (wj (fw Γ ad P) (xw Γ ad R) (mw Γ ad M)) X9 H locs) : f_W X9 H locs 0 0 672 [some (.ref (ad 1 0)), some (.ref (ad 30 1)), some (.ref (ad 30 2)), some (.ref (ad 30 4)), some (.int x), some (.int y), some (.int (nI (fo))), some (.int (nI (co))), some (.int (nI (kd))), some (.int (nI (p))), some (.int (nI (f))), some (.int (nI (o))), some (.int (nI (0))), some (.int (nI (0)))] [] := by
  have hF := rl_fi h
  have hI := rl_xi h
  have hL := rl_li h
  have h64 := rl_64 h
  have h24 := rl_24 h
  have e0 := rl_0 h
  have hsh := FI_sh (R := R) hF h64
  have esh := rl_sh h
  have hs6 := shL_6 hL
  have e41 := h.2.1.1
  obtain ⟨l1, l2, l3, l40, l41, l42, ⟨l43, l43h⟩, l44, l45⟩ := id hL
  have lp672 : ∀ (d9 : Nat) (k : Nat) (H : Heap) (locs : List Loc), M 4 0 0 - k < d9 → k ≤ M 4 0 0 → f_HS Γ B0 (wj (fw Γ ad P) (xw Γ ad R) (mw Γ ad (repM M f o k))) X9 H locs → f_W X9 H locs 0 0 672 [some (.ref (ad 1 0)), some (.ref (ad 30 1)), some (.ref (ad 30 2)), some (.ref (ad 30 4)), some (.int x), some (.int y), some (.int (nI (fo))), some (.int (nI (co))), some (.int (nI (kd))), some (.int (nI (p))), some (.int (nI (f))), some (.int (nI (o))), some (.int (nI (repC M f k))), some (.int (nI (k)))] [] := by
    intro d9
    induction d9 with
    | zero => intro k H locs hd9 hk9 hh; exact absurd hd9 (Nat.not_lt_zero _)
    | succ d9 ih672 =>
      intro k H locs hd9 hk9 hh
      have g1 := l1 k
      have q1 : repM M f o k 1 k 0 = M 1 k 0 := by rw [repM_1, if_neg (fun w => absurd w.1 (Nat.lt_irrefl _))]
      have q4 : repM M f o k 4 0 0 = M 4 0 0 := rfl
      refine r_iload C dL_orders_672 rfl ?_
      refine r_aload_n C dL_orders_674 rfl ?_
      refine r_iconst C (nI 0) dL_orders_675 rfl ?_
      refine al_m_g C hh (by omega) dL_orders_676 ?_
      rw [q4]
      refine r_icmp_geN (tgt := 738) C dL_orders_677 (by decide) (by omega) (by omega) (fun h677 => ?_) (fun h677 => ?_)
      · obtain rfl : k = M 4 0 0 := by omega
        have hr := RL_rep h hn hf8 ho8
        rw [e0] at hr
        obtain ⟨h', hrc⟩ := hr
        have e40 : repM M f o (M 4 0 0) 4 0 0 = M 4 0 0 := rfl
        refine r_aload_n C dL_orders_738 rfl ?_
        refine r_iload C dL_orders_739 rfl ?_
        refine r_iload C dL_orders_741 rfl ?_
        refine r_callSW C hh (L_replace_k E.2.1 Γ B0 ad _ hI (fun q => by have := (rl_b h).2.1 q; omega) hf8 ho8 hfo) lw_L_161 rfl rfl (Nat.le_of_ble_eq_true rfl) dL_orders_743 ⟨by decide, by decide⟩ ⟨by omega, by omega⟩ (kk_is (fun H locs hs9 hh => ?_))
        rw [e0] at hh
        rw [e0, hrc]
        refine r_iload C dL_orders_746 rfl ?_
        refine r_iload C dL_orders_748 rfl ?_
        refine r_icmp_neN (tgt := 758) C dL_orders_750 (by decide) (by omega) (by omega) (fun h750 => ?_) (fun h750 => ?_)
        · refine r_iload C dL_orders_758 rfl ?_
          refine r_icmp_ne (tgt := 779) C dL_orders_760 (by decide) (fun h760 => ?_) (fun h760 => ?_)
          · exact absurd (rfl) h760
          · refine r_aload_n C dL_orders_763 rfl ?_
            refine r_bipush C (nI 8) dL_orders_764 rfl ?_
            refine r_iconst C (nI 0) dL_orders_766 rfl ?_
            refine r_callSW C hh (x_replace1 E.2.1 Γ B0 ad (rpl R f o (M 4 0 0)) _ _ _ _ (rl_xi h') (fun q => by have := (rl_b h').2.1 q; omega) (fun z => not_rg (by decide) (by decide) z.1.1)) lw_L_161 rfl rfl (Nat.le_of_ble_eq_true rfl) dL_orders_767 ⟨by decide, by decide⟩ ⟨by omega, by omega⟩ (kk_is (fun H locs hs9 hh => ?_))
            refine r_ldc C ct_L_21 dL_orders_770 ?_
            refine r_icmp_ne (tgt := 779) C dL_orders_772 (by decide) (fun h772 => ?_) (fun h772 => ?_)
            · exact absurd (rfl) h772
            · refine r_iconst C (bI true) dL_orders_775 rfl ?_
              refine r_goto (tgt := 780) C dL_orders_776 (by decide) ?_
              exact r_zret C E hh dL_orders_780 (by omega) (by omega) ⟨_, rfl, rfl, ad, P, rpl R f o (M 4 0 0), repM M f o (M 4 0 0), h', rfl, (fun _ => rfl), rfl⟩
        · exact absurd h750 hfo
      · refine r_iload C dL_orders_680 rfl ?_
        refine r_iload C dL_orders_682 rfl ?_
        refine r_icmp_eqN (tgt := 738) C dL_orders_684 (by decide) (by omega) (by omega) (fun h684 => ?_) (fun h684 => ?_)
        · exact absurd h684 hfo
        · refine r_aload_n C dL_orders_687 rfl ?_
          refine r_iload C dL_orders_688 rfl ?_
          refine al_m_p C hh (by omega) dL_orders_690 ?_
          rw [q1]
          refine r_iload C dL_orders_691 rfl ?_
          refine r_ishrN C dL_orders_693 (by omega) (by omega) ?_
          refine r_iconst C (nI 1) dL_orders_694 rfl ?_
          refine r_iandN C dL_orders_695 ?_
          refine r_iconst C (nI 1) dL_orders_696 rfl ?_
          refine r_icmp_neN (tgt := 732) C dL_orders_697 (by decide) (Nat.lt_of_le_of_lt Nat.and_le_right (by decide)) (by omega) (fun h697 => ?_) (fun h697 => ?_)
          · refine r_iincN C dL_orders_732 rfl rfl ?_
            refine r_goto (tgt := 672) C dL_orders_735 (by decide) ?_
            first | exact (by
              have w9 := ih672 (k + 1) H locs (by omega) (by omega) (hs_mw hh (fun i => rep_n1 M f o k i (by rw [← b_2]; exact decide_eq_false h697)) (fun i => rep_n2 M f o k i (by rw [← b_2]; exact decide_eq_false h697)) (fun _ => rfl) (fun _ => rfl) (fun _ => rfl) rfl)
              rw [show repC M f (k + 1) = repC M f k from rep_n3 M f k (by rw [← b_2]; exact decide_eq_false h697)] at w9
              exact w9) | exact (by
              have w9 := ih672 (k + 1) H locs (by omega) (by omega) (hs_mw hh (fun i => rep_y1 M f o k i (by rw [← b_2]; exact decide_eq_true h697)) (fun i => rep_y2 M f o k i (by rw [← b_2]; exact decide_eq_true h697)) (fun _ => rfl) (fun _ => rfl) (fun _ => rfl) rfl)
              rw [show repC M f (k + 1) = repC M f k + 1 from rep_y3 M f k (by rw [← b_2]; exact decide_eq_true h697)] at w9
              exact w9)
          · refine r_aload_n C dL_orders_700 rfl ?_
            refine r_iload C dL_orders_701 rfl ?_
            refine r_aload_n C dL_orders_703 rfl ?_
            refine r_iload C dL_orders_704 rfl ?_
            refine al_m_p C hh (by omega) dL_orders_706 ?_
            rw [q1]
            refine r_iconst C (nI 1) dL_orders_707 rfl ?_
            refine r_iload C dL_orders_708 rfl ?_
            refine r_ishlN C dL_orders_710 (by omega) (by have := pow8' (x := f) (by omega); omega) ?_
            rw [Nat.one_mul]
            refine r_iconst C (nI 4294967295) dL_orders_711 rfl ?_
            refine r_ixorN C dL_orders_712 ?_
            refine r_iandN C dL_orders_713 ?_
            refine r_iconst C (nI 1) dL_orders_714 rfl ?_
            refine r_iload C dL_orders_715 rfl ?_
            refine r_ishlN C dL_orders_717 (by omega) (by have := pow8' (x := o) (by omega); omega) ?_
            rw [Nat.one_mul]
            refine r_iorN C dL_orders_718 ?_
            refine r_sipush C (nI 4096) dL_orders_719 rfl ?_
            refine r_iaddN C dL_orders_722 ?_
            refine as_m_p C hh (by omega) dL_orders_723 (fun H locs hh => ?_)
            refine r_aload_n C dL_orders_724 rfl ?_
            refine r_iload C dL_orders_725 rfl ?_
            refine r_iconst C (nI 0) dL_orders_727 rfl ?_
            refine as_m_q C hh (by omega) dL_orders_728 (fun H locs hh => ?_)
            refine r_iincN C dL_orders_729 rfl rfl ?_
            refine r_iincN C dL_orders_732 rfl rfl ?_
            refine r_goto (tgt := 672) C dL_orders_735 (by decide) ?_
            first | exact (by
              have w9 := ih672 (k + 1) H locs (by omega) (by omega) (hs_mw hh (fun i => rep_n1 M f o k i (by rw [← b_2]; exact decide_eq_false h697)) (fun i => rep_n2 M f o k i (by rw [← b_2]; exact decide_eq_false h697)) (fun _ => rfl) (fun _ => rfl) (fun _ => rfl) rfl)
              rw [show repC M f (k + 1) = repC M f k from rep_n3 M f k (by rw [← b_2]; exact decide_eq_false h697)] at w9
              exact w9) | exact (by
              have w9 := ih672 (k + 1) H locs (by omega) (by omega) (hs_mw hh (fun i => rep_y1 M f o k i (by rw [← b_2]; exact decide_eq_true h697)) (fun i => rep_y2 M f o k i (by rw [← b_2]; exact decide_eq_true h697)) (fun _ => rfl) (fun _ => rfl) (fun _ => rfl) rfl)
              rw [show repC M f (k + 1) = repC M f k + 1 from rep_y3 M f k (by rw [← b_2]; exact decide_eq_true h697)] at w9
              exact w9)
  exact lp672 (M 4 0 0 + 1) 0 _ _ (by omega) (by omega) (hs_mw hh (fun i => by rw [repM_1, if_neg (fun w => absurd w.1 (Nat.not_lt_zero _))]) (fun i => by rw [repM_2, if_neg (fun w => absurd w.1 (Nat.not_lt_zero _))]) (fun _ => rfl) (fun _ => rfl) (fun _ => rfl) rfl)

set_option maxHeartbeats 4000000 in
set_option maxRecDepth 100000 in
theorem s_ord646 {X9 : fX} {Γ : fG} {B0 : Nat} {ad : Nat → Nat → Nat} {P R M : fR} {n : Nat} (h : RZ n P R M) (hn : n ≤ 150) (x y : Int32) {fo co : Nat} (hy : fo < 256) (hz : co < 16) (kd : Nat) {p : Nat} (h0 : 0 < M 4 0 0) {H : Heap} {locs : List Loc} (C : f_C X9 Γ B0 RL cL_orders 14 9 16 96 159) (E : f_E X9 Γ B0 (some .boolean) 16 96 (f_rI (fun r9 w9 => r9 = bI true ∧ ACT Γ ad n w9)) f_no) (hh : f_HS Γ B0 (wj (fw Γ ad P) (xw Γ ad R) (mw Γ ad M)) X9 H locs) : f_W X9 H locs 0 0 646 [some (.ref (ad 1 0)), some (.ref (ad 30 1)), some (.ref (ad 30 2)), some (.ref (ad 30 4)), some (.int x), some (.int y), some (.int (nI (fo))), some (.int (nI (co))), some (.int (nI (kd))), some (.int (nI (p))), none, none, none, none] [] := by
  have hF := rl_fi h
  have hI := rl_xi h
  have hL := rl_li h
  have h64 := rl_64 h
  have h24 := rl_24 h
  have e0 := rl_0 h
  have hsh := FI_sh (R := R) hF h64
  have esh := rl_sh h
  have hs6 := shL_6 hL
  have e41 := h.2.1.1
  obtain ⟨l1, l2, l3, l40, l41, l42, ⟨l43, l43h⟩, l44, l45⟩ := id hL
  refine r_iload C dL_orders_646 rfl ?_
  refine r_bipush C (nI 8) dL_orders_648 rfl ?_
  refine r_callS C E hh (c_low E.2.1 Γ B0 _ _ 8 (by omega) (by omega)) lk_L_149 rfl rfl (Nat.le_of_ble_eq_true rfl) dL_orders_650 ⟨by decide, by decide⟩ ⟨by omega, by omega⟩ (fun _ _ z9 => False.elim z9) (kk_rI (fun r9 w9 H locs hs9 hp9 hh => ?_))
  obtain ⟨⟨f, hf8, rfl⟩, rfl⟩ := hp9
  refine r_istore C dL_orders_653 rfl rfl ?_
  refine r_iload C dL_orders_655 rfl ?_
  refine r_iconst C (nI 3) dL_orders_657 rfl ?_
  refine r_ishr C dL_orders_658 ?_
  refine r_bipush C (nI 8) dL_orders_659 rfl ?_
  refine r_callS C E hh (c_low E.2.1 Γ B0 _ _ 8 (by omega) (by omega)) lk_L_149 rfl rfl (Nat.le_of_ble_eq_true rfl) dL_orders_661 ⟨by decide, by decide⟩ ⟨by omega, by omega⟩ (fun _ _ z9 => False.elim z9) (kk_rI (fun r9 w9 H locs hs9 hp9 hh => ?_))
  obtain ⟨⟨o, ho8, rfl⟩, rfl⟩ := hp9
  refine r_istore C dL_orders_664 rfl rfl ?_
  refine r_iconst C (nI 0) dL_orders_666 rfl ?_
  refine r_istore C dL_orders_667 rfl rfl ?_
  refine r_iconst C (nI 0) dL_orders_669 rfl ?_
  refine r_istore C dL_orders_670 rfl rfl ?_
  by_cases hfo : f = o
  · subst hfo
    exact s_ord672e h hn x y hy hz kd hf8 h0 C E hh
  · exact s_ord672n h hn x y hy hz kd hf8 ho8 hfo C E hh

set_option maxHeartbeats 4000000 in
set_option maxRecDepth 100000 in
theorem s_ord270 {X9 : fX} {Γ : fG} {B0 : Nat} {ad : Nat → Nat → Nat} {P R M : fR} {n : Nat} (h : RZ n P R M) (hn : n ≤ 150) (x y : Int32) {fo co : Nat} (hy : fo < 256) (hz : co < 16) (kd : Nat) (hkd : kd < 10) {H : Heap} {locs : List Loc} (C : f_C X9 Γ B0 RL cL_orders 14 9 16 96 159) (E : f_E X9 Γ B0 (some .boolean) 16 96 (f_rI (fun r9 w9 => r9 = bI true ∧ ACT Γ ad n w9)) f_no) (hh : f_HS Γ B0 (wj (fw Γ ad P) (xw Γ ad R) (mw Γ ad M)) X9 H locs) : f_W X9 H locs 0 0 270 [some (.ref (ad 1 0)), some (.ref (ad 30 1)), some (.ref (ad 30 2)), some (.ref (ad 30 4)), some (.int x), some (.int y), some (.int (nI (fo))), some (.int (nI (co))), some (.int (nI (kd))), none, none, none, none, none] [] := by
  have hF := rl_fi h
  have hI := rl_xi h
  have hL := rl_li h
  have h64 := rl_64 h
  have h24 := rl_24 h
  have e0 := rl_0 h
  have hsh := FI_sh (R := R) hF h64
  have esh := rl_sh h
  have hs6 := shL_6 hL
  have e41 := h.2.1.1
  obtain ⟨l1, l2, l3, l40, l41, l42, ⟨l43, l43h⟩, l44, l45⟩ := id hL
  refine r_aload_n C dL_orders_270 rfl ?_
  refine r_iconst C (nI 0) dL_orders_271 rfl ?_
  refine al_m_g C hh (by omega) dL_orders_272 ?_
  refine r_if_neN (tgt := 292) C dL_orders_273 (by decide) (by omega) (fun h273 => ?_) (fun h273 => ?_)
  · refine r_iload C dL_orders_292 rfl ?_
    refine r_iconst C (nI 4) dL_orders_294 rfl ?_
    refine r_ishr C dL_orders_295 ?_
    refine r_aload_n C dL_orders_296 rfl ?_
    refine r_iconst C (nI 0) dL_orders_297 rfl ?_
    refine al_m_g C hh (by omega) dL_orders_298 ?_
    refine r_callS C E hh (c_low E.2.1 Γ B0 _ _ (M 4 0 0) (by omega) (by omega)) lk_L_149 rfl rfl (Nat.le_of_ble_eq_true rfl) dL_orders_299 ⟨by decide, by decide⟩ ⟨by omega, by omega⟩ (fun _ _ z9 => False.elim z9) (kk_rI (fun r9 w9 H locs hs9 hp9 hh => ?_))
    obtain ⟨⟨p, hp, rfl⟩, rfl⟩ := hp9
    refine r_istore C dL_orders_302 rfl rfl ?_
    refine r_iload C dL_orders_304 rfl ?_
    refine r_iconst C (nI 4) dL_orders_306 rfl ?_
    refine r_icmp_geN (tgt := 385) C dL_orders_307 (by decide) (by omega) (by omega) (fun h307 => ?_) (fun h307 => ?_)
    · refine r_iload C dL_orders_385 rfl ?_
      refine r_bipush C (nI 7) dL_orders_387 rfl ?_
      refine r_icmp_geN (tgt := 550) C dL_orders_389 (by decide) (by omega) (by omega) (fun h389 => ?_) (fun h389 => ?_)
      · refine r_iload C dL_orders_550 rfl ?_
        refine r_bipush C (nI 9) dL_orders_552 rfl ?_
        refine r_icmp_geN (tgt := 646) C dL_orders_554 (by decide) (by omega) (by omega) (fun h554 => ?_) (fun h554 => ?_)
        · exact s_ord646 h hn x y hy hz kd (by omega) C E hh
        · exact s_ord557 h hn x y hy hz kd hp C E hh
      · exact s_ord392 h hn x y hy hz kd hp C E hh
    · exact s_ord310 h hn x y hy hz kd hp C E hh
  · refine r_aload_n C dL_orders_276 rfl ?_
    refine r_iconst C (nI 0) dL_orders_277 rfl ?_
    refine r_callSW C hh (x_remove1 E.2.1 Γ B0 ad R _ _ _ hI (not_rg (by omega) (by omega))) lw_L_155 rfl rfl (Nat.le_of_ble_eq_true rfl) dL_orders_278 ⟨by decide, by decide⟩ ⟨by omega, by omega⟩ (kk_is (fun H locs hs9 hh => ?_))
    refine r_ldc C ct_L_18 dL_orders_281 ?_
    refine r_icmp_ne (tgt := 290) C dL_orders_283 (by decide) (fun h283 => ?_) (fun h283 => ?_)
    · exact absurd (rfl) h283
    · refine r_iconst C (bI true) dL_orders_286 rfl ?_
      refine r_goto (tgt := 291) C dL_orders_287 (by decide) ?_
      exact r_zret C E hh dL_orders_291 (by omega) (by omega) ⟨_, rfl, rfl, ad, P, R, M, RL_up (Nat.le_succ n) h, rfl, (fun _ => rfl), rfl⟩

set_option maxHeartbeats 4000000 in
set_option maxRecDepth 100000 in
theorem c_L_orders {l : Launch} (hl : l.stackTraces = false) (Γ : fG) (B0 : Nat) (ad : Nat → Nat → Nat) (P R M : fR) (n : Nat) (h : RZ n P R M) (hn : n ≤ 150) (x y : Int32) : f_Met l yL_orders cL_orders 14 (some .boolean) 9 16 96 159 Γ B0 [.ref (ad 1 0), .ref (ad 30 1), .ref (ad 30 2), .ref (ad 30 4), .int x, .int y] (wj (fw Γ ad P) (xw Γ ad R) (mw Γ ad M)) (f_rI (fun r9 w9 => r9 = bI true ∧ ACT Γ ad n w9)) f_no := by
  refine f_of hl (by decide) rfl (Nat.le_of_ble_eq_true rfl) (fun X9 C E hh hnm => ?_)
  generalize (f_s X9).heap = H, ([] : List Loc) = locs at hh ⊢
  have hF := rl_fi h
  have hI := rl_xi h
  have hL := rl_li h
  have h64 := rl_64 h
  have h24 := rl_24 h
  have e0 := rl_0 h
  have hsh := FI_sh (R := R) hF h64
  have esh := rl_sh h
  have hs6 := shL_6 hL
  have e41 := h.2.1.1
  obtain ⟨l1, l2, l3, l40, l41, l42, ⟨l43, l43h⟩, l44, l45⟩ := id hL
  refine r_iload C dL_orders_0 rfl ?_
  refine r_iconst C (nI 3) dL_orders_2 rfl ?_
  refine r_callS C E hh (c_low E.2.1 Γ B0 _ _ 3 (by omega) (by omega)) lk_L_149 rfl rfl (Nat.le_of_ble_eq_true rfl) dL_orders_3 ⟨by decide, by decide⟩ ⟨by omega, by omega⟩ (fun _ _ z9 => False.elim z9) (kk_rI (fun r9 w9 H locs hs9 hp9 hh => ?_))
  obtain ⟨⟨j3, hj3, rfl⟩, rfl⟩ := hp9
  have jn36 : ∀ (fo : Nat), fo < 256 → ∀ (H : Heap) (locs : List Loc), f_HS Γ B0 (wj (fw Γ ad P) (xw Γ ad R) (mw Γ ad M)) X9 H locs → f_W X9 H locs 0 0 36 [some (.ref (ad 1 0)), some (.ref (ad 30 1)), some (.ref (ad 30 2)), some (.ref (ad 30 4)), some (.int x), some (.int y), none, none, none, none, none, none, none, none] [.int (nI fo)] := by
    intro fo hy H locs hh
    refine r_istore C dL_orders_36 rfl rfl ?_
    refine r_iload C dL_orders_38 rfl ?_
    refine r_bipush C (nI 8) dL_orders_40 rfl ?_
    refine r_ishr C dL_orders_42 ?_
    refine r_bipush C (nI 16) dL_orders_43 rfl ?_
    refine r_callS C E hh (c_low E.2.1 Γ B0 _ _ 16 (by omega) (by omega)) lk_L_149 rfl rfl (Nat.le_of_ble_eq_true rfl) dL_orders_45 ⟨by decide, by decide⟩ ⟨by omega, by omega⟩ (fun _ _ z9 => False.elim z9) (kk_rI (fun r9 w9 H locs hs9 hp9 hh => ?_))
    obtain ⟨⟨co, hz, rfl⟩, rfl⟩ := hp9
    refine r_istore C dL_orders_48 rfl rfl ?_
    refine r_iload C dL_orders_50 rfl ?_
    refine r_bipush C (nI 10) dL_orders_52 rfl ?_
    refine r_callS C E hh (c_low E.2.1 Γ B0 _ _ 10 (by omega) (by omega)) lk_L_149 rfl rfl (Nat.le_of_ble_eq_true rfl) dL_orders_54 ⟨by decide, by decide⟩ ⟨by omega, by omega⟩ (fun _ _ z9 => False.elim z9) (kk_rI (fun r9 w9 H locs hs9 hp9 hh => ?_))
    obtain ⟨⟨kd, hkd, rfl⟩, rfl⟩ := hp9
    refine r_istore C dL_orders_57 rfl rfl ?_
    refine r_aload_n C dL_orders_59 rfl ?_
    refine r_iconst C (nI 0) dL_orders_60 rfl ?_
    refine al_m_g C hh (by omega) dL_orders_61 ?_
    refine r_iconst C (nI 5) dL_orders_62 rfl ?_
    refine r_icmp_ltN (tgt := 80) C dL_orders_63 (by decide) (by omega) (by omega) (fun h63 => ?_) (fun h63 => ?_)
    · exact s_ord80 h hn x y hy hz kd (by omega) C E hh
    · refine r_iload C dL_orders_66 rfl ?_
      refine r_iconst C (nI 3) dL_orders_68 rfl ?_
      refine r_icmp_geN (tgt := 270) C dL_orders_69 (by decide) (by omega) (by omega) (fun h69 => ?_) (fun h69 => ?_)
      · exact s_ord270 h hn x y hy hz kd hkd C E hh
      · refine r_aload_n C dL_orders_72 rfl ?_
        refine r_iconst C (nI 0) dL_orders_73 rfl ?_
        refine al_m_g C hh (by omega) dL_orders_74 ?_
        refine r_bipush C (nI 24) dL_orders_75 rfl ?_
        refine r_icmp_geN (tgt := 270) C dL_orders_77 (by decide) (by omega) (by omega) (fun h77 => ?_) (fun h77 => ?_)
        · exact s_ord270 h hn x y hy hz kd hkd C E hh
        · exact s_ord80 h hn x y hy hz kd (by omega) C E hh
  refine r_if_neN (tgt := 13) C dL_orders_6 (by decide) (by omega) (fun h6 => ?_) (fun h6 => ?_)
  · refine r_iconst C (nI 1) dL_orders_13 rfl ?_
    refine r_iload C dL_orders_14 rfl ?_
    refine r_iconst C (nI 2) dL_orders_16 rfl ?_
    refine r_ishr C dL_orders_17 ?_
    refine r_bipush C (nI 8) dL_orders_18 rfl ?_
    refine r_callS C E hh (c_low E.2.1 Γ B0 _ _ 8 (by omega) (by omega)) lk_L_149 rfl rfl (Nat.le_of_ble_eq_true rfl) dL_orders_20 ⟨by decide, by decide⟩ ⟨by omega, by omega⟩ (fun _ _ z9 => False.elim z9) (kk_rI (fun r9 w9 H locs hs9 hp9 hh => ?_))
    obtain ⟨⟨a, ha, rfl⟩, rfl⟩ := hp9
    refine r_ishlN C dL_orders_23 (by omega) (by have := pow8' (x := a) (by omega); omega) ?_
    rw [Nat.one_mul]
    refine r_iconst C (nI 1) dL_orders_24 rfl ?_
    refine r_iload C dL_orders_25 rfl ?_
    refine r_iconst C (nI 5) dL_orders_27 rfl ?_
    refine r_ishr C dL_orders_28 ?_
    refine r_bipush C (nI 8) dL_orders_29 rfl ?_
    refine r_callS C E hh (c_low E.2.1 Γ B0 _ _ 8 (by omega) (by omega)) lk_L_149 rfl rfl (Nat.le_of_ble_eq_true rfl) dL_orders_31 ⟨by decide, by decide⟩ ⟨by omega, by omega⟩ (fun _ _ z9 => False.elim z9) (kk_rI (fun r9 w9 H locs hs9 hp9 hh => ?_))
    obtain ⟨⟨b, hb, rfl⟩, rfl⟩ := hp9
    refine r_ishlN C dL_orders_34 (by omega) (by have := pow8' (x := b) (by omega); omega) ?_
    rw [Nat.one_mul]
    refine r_iorN C dL_orders_35 ?_
    first | exact jn36 _ (by decide) _ _ hh | exact jn36 _ (or_pow ha hb) _ _ hh
  · refine r_iconst C (nI 0) dL_orders_9 rfl ?_
    refine r_goto (tgt := 36) C dL_orders_10 (by decide) ?_
    first | exact jn36 _ (by decide) _ _ hh | exact jn36 _ (or_pow ha hb) _ _ hh

