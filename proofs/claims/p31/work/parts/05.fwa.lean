/-! ===== the frame of this proof: bundles, worlds by tags, locals as lists ===== -/
def f_GW : List Cond := lw_tbl.filter goodWord
theorem f_in {w : Cond} (i : Nat) (h : lw_tbl[i]? = some w) (hg : goodWord w = true) : w ∈ f_GW := List.mem_filter.mpr ⟨List.mem_of_getElem? h, hg⟩
theorem f_GW_tbl {w : Cond} (h : w ∈ f_GW) : w ∈ lw_tbl := (List.mem_filter.mp h).1
theorem f_GW_good {w : Cond} (h : w ∈ f_GW) : goodWord w = true := (List.mem_filter.mp h).2
theorem f_good : ∀ w ∈ f_GW, (w.onTables && w.keeps) = true ∨ ∃ ty, w = .arrayClass ty := fun _ h => good_of_word (f_GW_good h)
/-- a tag names a cell: the folding object's, the desk's, the model's -/
abbrev fT : Type := Nat ⊕ ((Nat × Nat) ⊕ Nat)
abbrev fV : Type := fT → Option (Nat × va_E)
abbrev fG : Type := va_G × (Nat → ClassId)
def f_tys (Γ : fG) : List (ClassId × FieldType) := [(Γ.2 0, .int), (Γ.2 1, .boolean), (Γ.2 2, .long), (Γ.2 3, .object "ProofSheet$Page"), (Γ.2 4, .object "ProofSheet$Font"), (Γ.2 5, .object "ProofSheet$Plate")]
def f_A (B0 : Nat) : Nat → Prop := fun q => B0 ≤ q
def f_H (Γ : fG) (B0 : Nat) (w : fV) (H : Heap) : Prop :=
  (∀ (t : fT) (q : Nat × va_E), w t = some q → va_at Γ.1 vwCl q H) ∧ (∀ (t t' : fT) (q q' : Nat × va_E), w t = some q → w t' = some q' → q.1 = q'.1 → t = t') ∧ ∀ (t : fT) (q : Nat × va_E), w t = some q → B0 ≤ q.1
def f_set (w : fV) (t : fT) (e : va_E) : fV := fun t' => if t' = t then (w t).map (fun q => (q.1, e)) else w t'
def f_add (w : fV) (t : fT) (q : Nat × va_E) : fV := fun t' => if t' = t then some q else w t'
theorem f_H.set {Γ : fG} {B0 : Nat} {w : fV} {H H1 : Heap} {t : fT} {a : Nat} {e0 e : va_E} (h : f_H Γ B0 w H) (ht : w t = some (a, e0)) (he : va_at Γ.1 vwCl (a, e) H1) (oq : ∀ q : Nat, q ≠ a → H1[q]? = H[q]?) : f_H Γ B0 (f_set w t e) H1 := by
  have key : ∀ (t' : fT) (q : Nat × va_E), f_set w t e t' = some q → (t' = t ∧ q = (a, e)) ∨ (t' ≠ t ∧ w t' = some q) := by
    intro t' q hq
    unfold f_set at hq
    by_cases ht' : t' = t
    · rw [if_pos ht', ht] at hq
      exact Or.inl ⟨ht', (Option.some.inj hq).symm⟩
    · rw [if_neg ht'] at hq
      exact Or.inr ⟨ht', hq⟩
  refine ⟨fun t' q hq => ?_, fun t1 t2 q1 q2 h1 h2 he12 => ?_, fun t' q hq => ?_⟩
  · rcases key t' q hq with ⟨-, rfl⟩ | ⟨hne, hw⟩
    · exact he
    · exact (h.1 t' q hw).kept (oq q.1 (fun z => hne (h.2.1 t' t q (a, e0) hw ht z)))
  · rcases key t1 q1 h1 with ⟨rfl, rfl⟩ | ⟨hn1, w1⟩ <;> rcases key t2 q2 h2 with ⟨rfl, rfl⟩ | ⟨hn2, w2⟩
    · rfl
    · exact absurd (h.2.1 _ _ _ _ ht w2 he12) (fun z => hn2 z.symm)
    · exact absurd (h.2.1 _ _ _ _ w1 ht he12) hn1
    · exact h.2.1 _ _ _ _ w1 w2 he12
  · rcases key t' q hq with ⟨-, rfl⟩ | ⟨-, hw⟩
    · exact h.2.2 t (a, e0) ht
    · exact h.2.2 t' q hw
theorem f_H.kept {Γ : fG} {B0 : Nat} {w : fV} {H H1 : Heap} (h : f_H Γ B0 w H) (oq : ∀ q : Nat, q < H.size → H1[q]? = H[q]?) : f_H Γ B0 w H1 := ⟨fun t q hq => (h.1 t q hq).kept (oq q.1 (h.1 t q hq).lt), h.2.1, h.2.2⟩
theorem f_H.add {Γ : fG} {B0 : Nat} {w : fV} {H H1 : Heap} {t : fT} {e : va_E} (h : f_H Γ B0 w H) (ht : w t = none) (hB : B0 ≤ H.size) (he : va_at Γ.1 vwCl (H.size, e) H1) (oq : ∀ q : Nat, q < H.size → H1[q]? = H[q]?) : f_H Γ B0 (f_add w t (H.size, e)) H1 := by
  have key : ∀ (t' : fT) (q : Nat × va_E), f_add w t (H.size, e) t' = some q → (t' = t ∧ q = (H.size, e)) ∨ (t' ≠ t ∧ w t' = some q) := by
    intro t' q hq
    unfold f_add at hq
    by_cases ht' : t' = t
    · rw [if_pos ht'] at hq
      exact Or.inl ⟨ht', (Option.some.inj hq).symm⟩
    · rw [if_neg ht'] at hq
      exact Or.inr ⟨ht', hq⟩
  refine ⟨fun t' q hq => ?_, fun t1 t2 q1 q2 h1 h2 he12 => ?_, fun t' q hq => ?_⟩
  · rcases key t' q hq with ⟨-, rfl⟩ | ⟨-, hw⟩
    · exact he
    · exact (h.1 t' q hw).kept (oq q.1 (h.1 t' q hw).lt)
  · rcases key t1 q1 h1 with ⟨rfl, rfl⟩ | ⟨hn1, w1⟩ <;> rcases key t2 q2 h2 with ⟨rfl, rfl⟩ | ⟨hn2, w2⟩
    · rfl
    · have := (h.1 _ _ w2).lt
      simp only at he12
      omega
    · have := (h.1 _ _ w1).lt
      simp only at he12
      omega
    · exact h.2.1 _ _ _ _ w1 w2 he12
  · rcases key t' q hq with ⟨-, rfl⟩ | ⟨-, hw⟩
    · exact hB
    · exact h.2.2 t' q hw
theorem f_H.P {Γ : fG} {B0 : Nat} {w : fV} {H : Heap} {t : fT} {q : Nat × va_E} (h : f_H Γ B0 w H) (ht : w t = some q) : va_P Γ.1 vwCl [q] H := by
  intro k x hk
  have hz : k < 1 := (List.getElem?_eq_some_iff.mp hk).1
  rw [show k = 0 by omega] at hk
  cases hk
  exact h.1 t q ht
-- what a start holds beside the world
def f_Z (B0 : Nat) (U : State) : Prop := vx_Zq Bundle.tN "UNASSIGNED_STACK" Bundle.steD (f_A B0) U U.heap ∧ vx_Zq Bundle.tN "SUPPRESSED_SENTINEL" Bundle.listD (f_A B0) U U.heap
def f_strs : List (Nat × String) := [(53, "place is out of range"), (105, "fonts is out of range"), (107, "colors is out of range"), (66, "no more pages"), (103, "no such page"), (221, "font is out of range"), (90, "both fonts are the same"), (109, "many is out of range"), (111, "folds is out of range"), (174, "no such sheet"), (167, "no such row"), (169, "no such column"), (176, "side is out of range"), (178, "from is out of range"), (180, "to is out of range"), (202, "the font has no right"), (204, "days is out of range"), (260, "color is out of range"), (229, "the page does not use the colour"), (235, "a font of the page may not be used"), (240, "the proof is made or approved"), (245, "the proof is not made"), (295, "the sheet is not ready"), (284, "copies is out of range"), (305, "a plate is not there or not good"), (307, "a plate would be used too often")]
def f_Str (U : State) : Prop := ∀ q ∈ f_strs, ∃ sa : Nat, vk_R "ProofSheet" q.1 q.2 sa U
def f_nests : List (String × Nat × MethodName × String) := [("ProofSheet$Folding", 54, ⟨"ProofSheet", "faceOf", "(II)I"⟩, "ProofSheet"), ("ProofSheet$Folding", 78, ⟨"ProofSheet", "leafUnder", "(I)I"⟩, "ProofSheet"), ("ProofSheet$Folding", 82, ⟨"ProofSheet", "sideOf", "(I)I"⟩, "ProofSheet"), ("ProofSheet", 32, ⟨"ProofSheet$Font", "<init>", "()V"⟩, "ProofSheet")]
def f_decls : List MethodName := [⟨"java/lang/RuntimeException", "<init>", "()V"⟩, ⟨"java/lang/RuntimeException", "<init>", "(Ljava/lang/String;)V"⟩, ⟨"java/lang/Exception", "<init>", "()V"⟩, ⟨"java/lang/Exception", "<init>", "(Ljava/lang/String;)V"⟩, ⟨"java/lang/Throwable", "<init>", "()V"⟩, ⟨"java/lang/Throwable", "<init>", "(Ljava/lang/String;)V"⟩]
def f_excs : List String := ["java/lang/IndexOutOfBoundsException", "java/lang/IllegalArgumentException", "java/lang/IllegalStateException"]
def f_ncs : List (String × String) := [("java/lang/IllegalArgumentException", "java/lang/IndexOutOfBoundsException"), ("java/lang/IllegalStateException", "java/lang/IndexOutOfBoundsException"), ("java/lang/IllegalStateException", "java/lang/IllegalArgumentException")]
def f_Nc (U : State) : Prop := ∀ q ∈ f_ncs, va_Nc q.1 q.2 U
def f_Nw (U : State) : Prop := (∀ q ∈ f_nests, va_Nw (.methodLinkNest q.1 q.2.1 q.2.2.1 q.2.2.2) U) ∧ (∀ q ∈ f_decls, va_Nw (.declares q) U) ∧ (∀ q ∈ f_excs, va_Nw (.castable q q) U) ∧ (va_AO "ProofSheet$Page" U ∧ va_AO "ProofSheet$Font" U ∧ va_AO "ProofSheet$Plate" U ∧ f_Nc U)
def f_K (Γ : fG) (B0 : Nat) (U : State) : Prop := va_K Γ.1 vwCl (f_tys Γ) U ∧ B0 ≤ U.heap.size ∧ f_Z B0 U ∧ f_Str U ∧ f_Nw U
theorem f_K.warm {Γ : fG} {B0 : Nat} {s U : State} {H : Heap} {locs : List Loc} (h : f_K Γ B0 s) (hS : va_S (f_A B0) s.heap H locs) (hH : U.heap = H) (hW : s.WarmedH U.vm) : f_K Γ B0 U := by
  obtain ⟨h1, h2, ⟨h3, h4⟩, h5, h6, h7, h8, h9, h10, h11, h12⟩ := h
  subst hH
  exact ⟨va_K.moved hW.alike h1, Nat.le_trans h2 hS.1, ⟨vx_Zq.moved hW.alike (h3.kept hS.2.1), vx_Zq.moved hW.alike (h4.kept hS.2.1)⟩, fun q hq => (h5 q hq).imp fun _ z => vk_R.warm hW z,
    fun q hq => va_Nw.warmM hW (h6 q hq), fun q hq => va_Nw.warmD hW (h7 q hq), fun q hq => va_Nw.warmC hW (h8 q hq), va_AO.moved hW.alike h9, va_AO.moved hW.alike h10, va_AO.moved hW.alike h11, fun q hq => va_Nc.moved hW.alike (h12 q hq)⟩
theorem f_K.calling {Γ : fG} {B0 : Nat} {U : State} (g : JFrame) (mk : MethodId) (a : Array Value) (h : f_K Γ B0 U) : f_K Γ B0 (U.calling g mk a) := by
  refine f_K.warm (H := U.heap) (locs := []) h ⟨Nat.le_refl _, fun _ _ _ => rfl, fun _ q => by cases q⟩ rfl ?_
  exact State.WarmedH.refl U
-- the bundle of a walk
def fX : Type := Program × Launch × Env × Room × State × MethodId × Array Value × List Frame × Method × Code × (State → Prop)
def f_p (X : fX) : Program := X.1
def f_l (X : fX) : Launch := X.2.1
def f_e (X : fX) : Env := X.2.2.1
def f_R (X : fX) : Room := X.2.2.2.1
def f_s (X : fX) : State := X.2.2.2.2.1
def f_m (X : fX) : MethodId := X.2.2.2.2.2.1
def f_args (X : fX) : Array Value := X.2.2.2.2.2.2.1
def f_below (X : fX) : List Frame := X.2.2.2.2.2.2.2.1
def f_meth (X : fX) : Method := X.2.2.2.2.2.2.2.2.1
def f_c (X : fX) : Code := X.2.2.2.2.2.2.2.2.2.1
def f_Q (X : fX) : State → Prop := X.2.2.2.2.2.2.2.2.2.2
def f_HS (Γ : fG) (B0 : Nat) (w : fV) (X : fX) (H : Heap) (locs : List Loc) : Prop := f_H Γ B0 w H ∧ va_S (f_A B0) (f_s X).heap H locs
def f_C (X : fX) (Γ : fG) (B0 : Nat) (own : String) (cc : ByteArray) (nL fr mc ms lo : Nat) : Prop :=
  (f_p X).tables.exec = Jvm.exec ∧ (f_c X).code = cc ∧ (f_c X).maxLocals = nL ∧ (f_s X).vm.findClass own = some (f_m X).cls ∧ (∀ w ∈ f_GW, w.before (f_args X) (f_s X) = true) ∧ f_K Γ B0 (f_s X) ∧ (f_meth X).locks = false ∧ f_R X = { frames := fr, cells := mc, slots := ms, locals := lo }
/-- the locals: L has what is known of each -/
def f_L (ls : Array Slot) (nL : Nat) (L : List (Option Value)) : Prop := ls.size = nL ∧ L.length = nL ∧ lv_wf ls ∧ ∀ (i : Nat) (v : Value), L[i]? = some (some v) → ls[i]? = some (.val v)
def f_W (X : fX) (H : Heap) (locs : List Loc) (k n pc : Nat) (L : List (Option Value)) (st : List Value) : Prop :=
  ∀ ls : Array Slot, f_L ls (f_c X).maxLocals L → W (f_p X) (f_l X) (f_e X) (f_R X) (f_s X) (f_m X) (f_args X) (f_below X) (f_meth X) (f_c X) H locs k n (f_Q X) (F0 (f_m X) pc ls st)
/-- no long ends where a value of one slot is to lie -/
def f_ok (L : List (Option Value)) (i : Nat) : Bool := match i with
  | 0 => true
  | j + 1 => match L[j]? with
    | some (some v) => v.category == 1
    | _ => true
def f_pairs (nL : Nat) (L : List (Option Value)) : List (Nat × Value) := (List.range nL).filterMap fun j => match L[j]? with
  | some (some v) => some (j, v)
  | _ => none
theorem f_pairs_mem {nL : Nat} {L : List (Option Value)} {j : Nat} {v : Value} (hj : j < nL) (h : L[j]? = some (some v)) : (j, v) ∈ f_pairs nL L := by
  refine List.mem_filterMap.mpr ⟨j, List.mem_range.mpr hj, ?_⟩
  simp [h]
theorem f_pairs_of {nL : Nat} {L : List (Option Value)} {q : Nat × Value} (h : q ∈ f_pairs nL L) : L[q.1]? = some (some q.2) := by
  obtain ⟨j, -, hj⟩ := List.mem_filterMap.mp h
  split at hj
  · cases hj; assumption
  · cases hj
theorem f_L.has {ls : Array Slot} {nL : Nat} {L : List (Option Value)} (h : f_L ls nL L) : lv_has ls nL (f_pairs nL L) := ⟨h.1, h.2.2.1, fun q hq => h.2.2.2 q.1 q.2 (f_pairs_of hq)⟩
theorem f_store1 {ls : Array Slot} {nL i : Nat} {L : List (Option Value)} {v : Value} (h : f_L ls nL L) (hi : i < L.length) (hok : f_ok L i = true) (hc : v.category = 1) : ∃ ls', storeLocals ls i v = some ls' ∧ f_L ls' nL (L.set i (some v)) := by
  obtain ⟨ls', e, h'⟩ := lv_store1 h.has (h.2.1 ▸ hi) hc
  refine ⟨ls', e, h'.1, by simp [h.2.1], h'.2.1, fun j w hj => ?_⟩
  by_cases hji : j = i
  · subst hji
    rw [List.getElem?_set_self hi] at hj
    cases hj
    exact h'.2.2 (j, v) List.mem_cons_self
  · rw [List.getElem?_set_ne (Ne.symm hji)] at hj
    have hjl : j < nL := h.2.1 ▸ (List.getElem?_eq_some_iff.mp hj).1
    refine h'.2.2 (j, w) (List.mem_cons_of_mem _ (List.mem_filter.mpr ⟨f_pairs_mem hjl hj, ?_⟩))
    simp only [Bool.and_eq_true, Bool.not_eq_true', beq_eq_false_iff_ne, ne_eq, Bool.and_eq_false_iff]
    refine ⟨hji, ?_⟩
    by_cases h1 : j + 1 = i
    · subst h1
      refine Or.inr ?_
      simp only [f_ok, hj, beq_iff_eq] at hok
      omega
    · exact Or.inl h1
theorem f_store2 {ls : Array Slot} {nL i : Nat} {L : List (Option Value)} {v : Value} (h : f_L ls nL L) (hi : i + 1 < L.length) (hok : f_ok L i = true) (hc : v.category = 2) : ∃ ls', storeLocals ls i v = some ls' ∧ f_L ls' nL ((L.set i (some v)).set (i + 1) none) := by
  obtain ⟨ls', e, h'⟩ := lv_store2 h.has (h.2.1 ▸ hi) hc
  refine ⟨ls', e, h'.1, by simp [h.2.1], h'.2.1, fun j w hj => ?_⟩
  by_cases hj1 : j = i + 1
  · subst hj1
    rw [List.getElem?_set_self (by simpa using hi)] at hj
    cases hj
  · rw [List.getElem?_set_ne (Ne.symm hj1)] at hj
    by_cases hji : j = i
    · subst hji
      rw [List.getElem?_set_self (by omega)] at hj
      cases hj
      exact h'.2.2 (j, v) List.mem_cons_self
    · rw [List.getElem?_set_ne (Ne.symm hji)] at hj
      have hjl : j < nL := h.2.1 ▸ (List.getElem?_eq_some_iff.mp hj).1
      refine h'.2.2 (j, w) (List.mem_cons_of_mem _ (List.mem_filter.mpr ⟨f_pairs_mem hjl hj, ?_⟩))
      simp only [Bool.and_eq_true, Bool.not_eq_true', beq_eq_false_iff_ne, ne_eq, Bool.and_eq_false_iff]
      refine ⟨hji, hj1, ?_⟩
      by_cases h1 : j + 1 = i
      · subst h1
        refine Or.inr ?_
        simp only [f_ok, hj, beq_iff_eq] at hok
        omega
      · exact Or.inl h1
/-- fewer known locals -/
theorem f_W.sub {X : fX} {H : Heap} {locs : List Loc} {k n pc : Nat} {L L' : List (Option Value)} {st : List Value} (hlen : L'.length = L.length) (h : ∀ (i : Nat) (v : Value), L'[i]? = some (some v) → L[i]? = some (some v)) (kk : f_W X H locs k n pc L' st) : f_W X H locs k n pc L st :=
  fun ls hl => kk ls ⟨hl.1, hlen.trans hl.2.1, hl.2.2.1, fun i v hv => hl.2.2.2 i v (h i v hv)⟩
def f_le : List (Option Value) → List (Option Value) → Prop
  | [], [] => True
  | none :: a, _ :: b => f_le a b
  | some v :: a, some w :: b => v = w ∧ f_le a b
  | _, _ => False
theorem f_le_spec : ∀ {a b : List (Option Value)}, f_le a b → a.length = b.length ∧ ∀ (i : Nat) (v : Value), a[i]? = some (some v) → b[i]? = some (some v)
  | [], [], _ => ⟨rfl, fun i v h => by simp at h⟩
  | none :: a, y :: b, h => by
    obtain ⟨h1, h2⟩ := f_le_spec (a := a) (b := b) h
    refine ⟨by simp [h1], fun i v hv => ?_⟩
    cases i with
    | zero => simp at hv
    | succ i => simp only [List.getElem?_cons_succ] at hv ⊢; exact h2 i v hv
  | some x :: a, some y :: b, h => by
    obtain ⟨e, h⟩ := h
    subst e
    obtain ⟨h1, h2⟩ := f_le_spec (a := a) (b := b) h
    refine ⟨by simp [h1], fun i v hv => ?_⟩
    cases i with
    | zero => simpa using hv
    | succ i => simp only [List.getElem?_cons_succ] at hv ⊢; exact h2 i v hv
  | some _ :: _, none :: _, h => h.elim
  | [], _ :: _, h => h.elim
  | some _ :: _, [], h => h.elim
  | none :: _, [], h => h.elim
theorem f_W.le {X : fX} {H : Heap} {locs : List Loc} {k n pc : Nat} {L L' : List (Option Value)} {st : List Value} (h : f_le L' L) (kk : f_W X H locs k n pc L' st) : f_W X H locs k n pc L st := f_W.sub (f_le_spec h).1 (f_le_spec h).2 kk
