/-! ===== what the start holds ===== -/
theorem mem_strs : ∀ q ∈ f_strs, Cond.stringRef "ProofSheet" q.1 q.2 ∈ lw_tbl := by decide +kernel
theorem mem_nests : ∀ q ∈ f_nests, Cond.methodLinkNest q.1 q.2.1 q.2.2.1 q.2.2.2 ∈ lw_tbl := by decide +kernel
theorem mem_decls : ∀ q ∈ f_decls, Cond.declares q ∈ lw_tbl := by decide +kernel
theorem mem_excs : ∀ q ∈ f_excs, Cond.castable q q ∈ lw_tbl := by decide +kernel
theorem mem_over : Cond.arrayOver (.object "ProofSheet$Page") ∈ lw_tbl ∧ Cond.arrayOver (.object "ProofSheet$Font") ∈ lw_tbl ∧ Cond.arrayOver (.object "ProofSheet$Plate") ∈ lw_tbl := by decide +kernel
theorem mem_lays : Cond.laysStatic Bundle.tN "UNASSIGNED_STACK" Bundle.steD ∈ lw_tbl ∧ Cond.laysStatic Bundle.tN "SUPPRESSED_SENTINEL" Bundle.listD ∈ lw_tbl ∧ Cond.initialized Bundle.tN ∈ lw_tbl := by decide +kernel
theorem law_arr {s : State} {args : Array Value} {ty : FieldType} (hob : ∀ Cn, ty ≠ .object Cn) (h : (Cond.arrayClass ty).before args s = true) : ∃ c : ClassId, ArrOfT s c ty ∧ va_RA s c ty := by
  obtain ⟨c, k, comp, h1, h2, h3⟩ := Cond.arrayClass_spec h
  refine ⟨c, fun n z => ⟨fun k9 h9 => (by cases h9), k, h2, comp, h3⟩, ?_⟩
  cases ty with
  | object Cn => exact absurd rfl (hob Cn)
  | _ => exact h1
theorem law_arq {s : State} {args : Array Value} {Cn : String} (h : (Cond.arrayOver (.object Cn)).before args s = true) : ∃ c : ClassId, ArrOfT s c (.object Cn) ∧ va_RA s c (.object Cn) := by
  obtain ⟨comp, c, k, h1, h2, h3, h4, h5⟩ := Cond.arrayOver_spec h
  exact ⟨c, fun n z => ⟨fun k9 h9 => (by cases h9), k, h3, comp, h4⟩, k, comp, h3, h4, h1, h5⟩
def g_c (c0 c1 c2 c3 c4 c5 : ClassId) : Nat → ClassId
  | 0 => c0
  | 1 => c1
  | 2 => c2
  | 3 => c3
  | 4 => c4
  | _ => c5
def g_i (c0 c1 c2 c3 c4 c5 : Nat → Nat) : Nat → Nat → Nat
  | 0 => c0
  | 1 => c1
  | 2 => c2
  | 3 => c3
  | 4 => c4
  | _ => c5
theorem law_K {s : State} {b : Nat} (hts : ∀ w ∈ lw_tbl, w.before #[Value.ref b] s = true) (hgv : (Jvm.Cond.and given_1 narrow_1).before #[Value.ref b] s = true) : ∃ Γ : fG, f_K Γ s.heap.size s := by
  have hg : ∀ w ∈ f_GW, w.before #[Value.ref b] s = true := fun w hw => hts w (f_GW_tbl hw)
  have hs := flat_of_before _ hgv
  obtain ⟨c0, i0, h0⟩ := u_known hg hinX0 (hg _ is_X0)
  obtain ⟨c1, i1, h1⟩ := u_known hg hinX1 (hg _ is_X1)
  obtain ⟨c2, i2, h2⟩ := u_known hg hinX2 (hg _ is_X2)
  obtain ⟨c3, i3, h3⟩ := u_known hg hinX3 (hg _ is_X3)
  obtain ⟨c4, i4, h4⟩ := u_known hg hinX4 (hg _ is_X4)
  obtain ⟨a0, r0⟩ := law_arr (fun _ z => by cases z) (hg _ ac_int)
  obtain ⟨a1, r1⟩ := law_arr (fun _ z => by cases z) (hg _ ac_boolean)
  obtain ⟨a2, r2⟩ := law_arr (fun _ z => by cases z) (hg _ ac_long)
  obtain ⟨a3, r3⟩ := law_arq (hts _ mem_over.1)
  obtain ⟨a4, r4⟩ := law_arq (hts _ mem_over.2.1)
  obtain ⟨a5, r5⟩ := law_arq (hts _ mem_over.2.2)
  have hA : ∀ a : Nat, a < s.heap.size → ¬ f_A s.heap.size a := fun a ha => Nat.not_le.mpr ha
  refine ⟨((g_c c0 c1 c2 c3 c4 c4, g_i i0 i1 i2 i3 i4 i4), g_c a0 a1 a2 a3 a4 a5), ⟨?_, ?_⟩, Nat.le_refl _, ⟨?_, ?_⟩, ?_, ?_, ?_, ?_, ?_⟩
  · intro c q hq
    match c, hq with
    | 0, hq => cases hq; exact h0
    | 1, hq => cases hq; exact h1
    | 2, hq => cases hq; exact h2
    | 3, hq => cases hq; exact h3
    | 4, hq => cases hq; exact h4
    | c + 5, hq => cases hq
  · intro c q hq
    match c, hq with
    | 0, hq => cases hq; exact r0
    | 1, hq => cases hq; exact r1
    | 2, hq => cases hq; exact r2
    | 3, hq => cases hq; exact r3
    | 4, hq => cases hq; exact r4
    | 5, hq => cases hq; exact r5
    | c + 6, hq => cases hq
  · exact vx_Zqof (hts _ mem_lays.1) (hts _ mem_lays.2.2) (hs (.isRef (.static Bundle.tN "UNASSIGNED_STACK" Bundle.steD)) (by decide +kernel)) hA
  · exact vx_Zqof (hts _ mem_lays.2.1) (hts _ mem_lays.2.2) (hs (.isRef (.static Bundle.tN "SUPPRESSED_SENTINEL" Bundle.listD)) (by decide +kernel)) hA
  · intro q hq
    have hw := hts _ (mem_strs q hq)
    obtain ⟨k, cf, i, sa, g1, g2, g3, g4, g5, g6⟩ := Cond.stringRef_spec (cls := "ProofSheet") h4.2.1 hw
    exact ⟨sa, vk_R.of hw g6⟩
  · exact fun q hq => va_Nw.of rfl (hts _ (mem_nests q hq))
  · exact fun q hq => va_Nw.of rfl (hts _ (mem_decls q hq))
  · exact fun q hq => va_Nw.of rfl (hts _ (mem_excs q hq))
  · refine ⟨va_AO.of (hts _ mem_over.1), va_AO.of (hts _ mem_over.2.1), va_AO.of (hts _ mem_over.2.2), ?_⟩
    have n1 := hs (.not (.castable "java/lang/IllegalArgumentException" "java/lang/IndexOutOfBoundsException")) (by decide +kernel)
    have n2 := hs (.not (.castable "java/lang/IllegalStateException" "java/lang/IndexOutOfBoundsException")) (by decide +kernel)
    have n3 := hs (.not (.castable "java/lang/IllegalStateException" "java/lang/IllegalArgumentException")) (by decide +kernel)
    intro q hq
    rcases List.mem_cons.mp hq with rfl | hq
    · exact va_Nc.of n1
    · rcases List.mem_cons.mp hq with rfl | hq
      · exact va_Nc.of n2
      · rcases List.mem_cons.mp hq with rfl | hq
        · exact va_Nc.of n3
        · cases hq
