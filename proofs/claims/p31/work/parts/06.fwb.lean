/-! ===== rows over the bundle: one instruction each; nI n: whole numbers, bI b: truth values ===== -/
def bI (b : Bool) : Int32 := if b = true then 1 else 0
theorem bI_eq0 (b : Bool) : bI b = 0 ↔ b = false := by cases b <;> simp [bI]
theorem bI_t : bI true = 1 := rfl
theorem bI_f : bI false = 0 := rfl
theorem bI_nar (b : Bool) : narrow .boolean (.int (bI b)) = .int (bI b) := by cases b <;> rfl
theorem bI_vnar (b : Bool) : vp_nar .boolean (bI b) = bI b := by cases b <;> rfl
theorem nI_andN (a b : Nat) : nI a &&& nI b = nI (a &&& b) := by
  apply Int32.toBitVec_inj.mp
  show BitVec.ofNat 32 a &&& BitVec.ofNat 32 b = BitVec.ofNat 32 (a &&& b)
  rw [BitVec.ofNat_and]
theorem nI_orN (a b : Nat) : nI a ||| nI b = nI (a ||| b) := by
  apply Int32.toBitVec_inj.mp
  show BitVec.ofNat 32 a ||| BitVec.ofNat 32 b = BitVec.ofNat 32 (a ||| b)
  rw [BitVec.ofNat_or]
theorem nI_xorN (a b : Nat) : nI a ^^^ nI b = nI (a ^^^ b) := by
  apply Int32.toBitVec_inj.mp
  show BitVec.ofNat 32 a ^^^ BitVec.ofNat 32 b = BitVec.ofNat 32 (a ^^^ b)
  rw [BitVec.ofNat_xor]
theorem sh31 : ∀ k : Nat, k < 32 → ((nI k &&& 31).toBitVec.smod 32).toNat = k := by decide +kernel
section FWB
variable {X : fX} {Γ : fG} {B0 : Nat} {own : String} {cc : ByteArray} {nL fr mc ms lo : Nat} {H : Heap} {locs : List Loc} {k n pc : Nat} {L : List (Option Value)} {rest : List Value}
theorem r_iload_n (C : f_C X Γ B0 own cc nL fr mc ms lo) {i : Fin 4} {x : Int32} (hdg : decode cc pc = .ok (.iload_n i, 1)) (hl : L[(i : Nat)]? = some (some (.int x))) (kk : f_W X H locs k n (pc + 1) L (.int x :: rest)) : f_W X H locs k n (pc) L (rest) := fun ls hl9 => lv_iload_n C.1 C.2.1 hdg rfl (hl9.2.2.2 _ _ hl) (kk ls hl9)
theorem r_iload (C : f_C X Γ B0 own cc nL fr mc ms lo) {i : Nat} {x : Int32} (hdg : decode cc pc = .ok (.iload i, 2)) (hl : L[i]? = some (some (.int x))) (kk : f_W X H locs k n (pc + 2) L (.int x :: rest)) : f_W X H locs k n (pc) L (rest) := fun ls hl9 => lv_iload C.1 C.2.1 hdg (hl9.2.2.2 _ _ hl) (kk ls hl9)
theorem r_aload_n (C : f_C X Γ B0 own cc nL fr mc ms lo) {i : Fin 4} {x : Nat} (hdg : decode cc pc = .ok (.aload_n i, 1)) (hl : L[(i : Nat)]? = some (some (.ref x))) (kk : f_W X H locs k n (pc + 1) L (.ref x :: rest)) : f_W X H locs k n (pc) L (rest) := fun ls hl9 => lv_aload_n C.1 C.2.1 hdg rfl (hl9.2.2.2 _ _ hl) (kk ls hl9)
theorem r_aload (C : f_C X Γ B0 own cc nL fr mc ms lo) {i : Nat} {x : Nat} (hdg : decode cc pc = .ok (.aload i, 2)) (hl : L[i]? = some (some (.ref x))) (kk : f_W X H locs k n (pc + 2) L (.ref x :: rest)) : f_W X H locs k n (pc) L (rest) := fun ls hl9 => lv_aload C.1 C.2.1 hdg (hl9.2.2.2 _ _ hl) (kk ls hl9)
theorem r_lload (C : f_C X Γ B0 own cc nL fr mc ms lo) {i : Nat} {x : Int64} (hdg : decode cc pc = .ok (.lload i, 2)) (hl : L[i]? = some (some (.long x))) (kk : f_W X H locs k n (pc + 2) L (.long x :: rest)) : f_W X H locs k n (pc) L (rest) := fun ls hl9 => lv_lload C.1 C.2.1 hdg (hl9.2.2.2 _ _ hl) (kk ls hl9)
theorem r_aload_null (C : f_C X Γ B0 own cc nL fr mc ms lo) {i : Nat} (hdg : decode cc pc = .ok (.aload i, 2)) (hl : L[i]? = some (some .null)) (kk : f_W X H locs k n (pc + 2) L (.null :: rest)) : f_W X H locs k n (pc) L (rest) := by
  intro ls hl9 T hT X9
  obtain ⟨t, a, b⟩ := kk ls hl9 T hT X9
  refine ⟨t, ?_, b⟩
  have hl8 := hl9.2.2.2 _ _ hl
  jvm_step X9.here [X9.here.top, C.1, C.2.1, hdg, hl8, Value.isRef]
  exact a
theorem r_aload_n_null (C : f_C X Γ B0 own cc nL fr mc ms lo) {i : Fin 4} (hdg : decode cc pc = .ok (.aload_n i, 1)) (hl : L[(i : Nat)]? = some (some .null)) (kk : f_W X H locs k n (pc + 1) L (.null :: rest)) : f_W X H locs k n (pc) L (rest) := by
  intro ls hl9 T hT X9
  obtain ⟨t, a, b⟩ := kk ls hl9 T hT X9
  refine ⟨t, ?_, b⟩
  have hl8 := hl9.2.2.2 _ _ hl
  jvm_step X9.here [X9.here.top, C.1, C.2.1, hdg, hl8, Value.isRef]
  exact a
theorem r_istore_n (C : f_C X Γ B0 own cc nL fr mc ms lo) {i : Fin 4} {x : Int32} (hdg : decode cc pc = .ok (.istore_n i, 1)) (hi : decide ((i : Nat) < L.length) = true) (hok : f_ok L (i : Nat) = true) (kk : f_W X H locs k n (pc + 1) (L.set (i : Nat) (some (.int x))) (rest)) : f_W X H locs k n (pc) L (.int x :: rest) := by
  intro ls hl9 T hT X9
  obtain ⟨ls9, e9, h9⟩ := f_store1 (v := .int x) hl9 (of_decide_eq_true hi) hok rfl
  obtain ⟨t, a, b⟩ := kk ls9 h9 T hT X9
  refine ⟨t, ?_, b⟩
  jvm_step X9.here [X9.here.top, ↓top_set X9.here.top, C.1, C.2.1, hdg, e9, Value.isRef]
  exact a
theorem r_istore (C : f_C X Γ B0 own cc nL fr mc ms lo) {i : Nat} {x : Int32} (hdg : decode cc pc = .ok (.istore i, 2)) (hi : decide (i < L.length) = true) (hok : f_ok L i = true) (kk : f_W X H locs k n (pc + 2) (L.set i (some (.int x))) (rest)) : f_W X H locs k n (pc) L (.int x :: rest) := by
  intro ls hl9 T hT X9
  obtain ⟨ls9, e9, h9⟩ := f_store1 (v := .int x) hl9 (of_decide_eq_true hi) hok rfl
  obtain ⟨t, a, b⟩ := kk ls9 h9 T hT X9
  refine ⟨t, ?_, b⟩
  jvm_step X9.here [X9.here.top, ↓top_set X9.here.top, C.1, C.2.1, hdg, e9, Value.isRef]
  exact a
theorem r_astore_n (C : f_C X Γ B0 own cc nL fr mc ms lo) {i : Fin 4} {x : Nat} (hdg : decode cc pc = .ok (.astore_n i, 1)) (hi : decide ((i : Nat) < L.length) = true) (hok : f_ok L (i : Nat) = true) (kk : f_W X H locs k n (pc + 1) (L.set (i : Nat) (some (.ref x))) (rest)) : f_W X H locs k n (pc) L (.ref x :: rest) := by
  intro ls hl9 T hT X9
  obtain ⟨ls9, e9, h9⟩ := f_store1 (v := .ref x) hl9 (of_decide_eq_true hi) hok rfl
  obtain ⟨t, a, b⟩ := kk ls9 h9 T hT X9
  refine ⟨t, ?_, b⟩
  jvm_step X9.here [X9.here.top, ↓top_set X9.here.top, C.1, C.2.1, hdg, e9, Value.isRef]
  exact a
theorem r_astore (C : f_C X Γ B0 own cc nL fr mc ms lo) {i : Nat} {x : Nat} (hdg : decode cc pc = .ok (.astore i, 2)) (hi : decide (i < L.length) = true) (hok : f_ok L i = true) (kk : f_W X H locs k n (pc + 2) (L.set i (some (.ref x))) (rest)) : f_W X H locs k n (pc) L (.ref x :: rest) := by
  intro ls hl9 T hT X9
  obtain ⟨ls9, e9, h9⟩ := f_store1 (v := .ref x) hl9 (of_decide_eq_true hi) hok rfl
  obtain ⟨t, a, b⟩ := kk ls9 h9 T hT X9
  refine ⟨t, ?_, b⟩
  jvm_step X9.here [X9.here.top, ↓top_set X9.here.top, C.1, C.2.1, hdg, e9, Value.isRef]
  exact a
theorem r_astore_n_null (C : f_C X Γ B0 own cc nL fr mc ms lo) {i : Fin 4} (hdg : decode cc pc = .ok (.astore_n i, 1)) (hi : decide ((i : Nat) < L.length) = true) (hok : f_ok L (i : Nat) = true) (kk : f_W X H locs k n (pc + 1) (L.set (i : Nat) (some (.null))) (rest)) : f_W X H locs k n (pc) L (.null :: rest) := by
  intro ls hl9 T hT X9
  obtain ⟨ls9, e9, h9⟩ := f_store1 (v := .null) hl9 (of_decide_eq_true hi) hok rfl
  obtain ⟨t, a, b⟩ := kk ls9 h9 T hT X9
  refine ⟨t, ?_, b⟩
  jvm_step X9.here [X9.here.top, ↓top_set X9.here.top, C.1, C.2.1, hdg, e9, Value.isRef]
  exact a
theorem r_astore_null (C : f_C X Γ B0 own cc nL fr mc ms lo) {i : Nat} (hdg : decode cc pc = .ok (.astore i, 2)) (hi : decide (i < L.length) = true) (hok : f_ok L i = true) (kk : f_W X H locs k n (pc + 2) (L.set i (some (.null))) (rest)) : f_W X H locs k n (pc) L (.null :: rest) := by
  intro ls hl9 T hT X9
  obtain ⟨ls9, e9, h9⟩ := f_store1 (v := .null) hl9 (of_decide_eq_true hi) hok rfl
  obtain ⟨t, a, b⟩ := kk ls9 h9 T hT X9
  refine ⟨t, ?_, b⟩
  jvm_step X9.here [X9.here.top, ↓top_set X9.here.top, C.1, C.2.1, hdg, e9, Value.isRef]
  exact a
theorem r_lstore (C : f_C X Γ B0 own cc nL fr mc ms lo) {i : Nat} {x : Int64} (hdg : decode cc pc = .ok (.lstore i, 2)) (hi : decide (i + 1 < L.length) = true) (hok : f_ok L i = true) (kk : f_W X H locs k n (pc + 2) ((L.set i (some (.long x))).set (i + 1) none) (rest)) : f_W X H locs k n (pc) L (.long x :: rest) := by
  intro ls hl9 T hT X9
  obtain ⟨ls9, e9, h9⟩ := f_store2 (v := .long x) hl9 (of_decide_eq_true hi) hok rfl
  obtain ⟨t, a, b⟩ := kk ls9 h9 T hT X9
  refine ⟨t, ?_, b⟩
  jvm_step X9.here [X9.here.top, ↓top_set X9.here.top, C.1, C.2.1, hdg, e9]
  exact a
theorem r_iinc (C : f_C X Γ B0 own cc nL fr mc ms lo) {i : Nat} {d : Int} {x v : Int32} (hdg : decode cc pc = .ok (.iinc i d, 3)) (hl : L[i]? = some (some (.int x))) (hv : x + Int32.ofInt d = v) (hok : f_ok L i = true) (kk : f_W X H locs k n (pc + 3) (L.set i (some (.int v))) (rest)) : f_W X H locs k n (pc) L (rest) := by
  subst hv
  intro ls hl9 T hT X9
  obtain ⟨ls9, e9, h9⟩ := f_store1 (v := .int (x + Int32.ofInt d)) hl9 (List.getElem?_eq_some_iff.mp hl).1 hok rfl
  have hl8 := hl9.2.2.2 _ _ hl
  obtain ⟨t, a, b⟩ := kk ls9 h9 T hT X9
  refine ⟨t, ?_, b⟩
  jvm_step X9.here [X9.here.top, ↓top_set X9.here.top, C.1, C.2.1, hdg, hl8, e9]
  exact a
theorem r_iincN (C : f_C X Γ B0 own cc nL fr mc ms lo) {i a : Nat} (hdg : decode cc pc = .ok (.iinc i 1, 3)) (hl : L[i]? = some (some (.int (nI a)))) (hok : f_ok L i = true) (kk : f_W X H locs k n (pc + 3) (L.set i (some (.int (nI (a + 1))))) (rest)) : f_W X H locs k n (pc) L (rest) := r_iinc C hdg hl (nI_1 a) hok kk
theorem r_iincK (C : f_C X Γ B0 own cc nL fr mc ms lo) {i a : Nat} {d : Int} (e : Nat) (hdg : decode cc pc = .ok (.iinc i d, 3)) (hd : Int32.ofInt d = nI e) (hl : L[i]? = some (some (.int (nI a)))) (hok : f_ok L i = true) (kk : f_W X H locs k n (pc + 3) (L.set i (some (.int (nI (a + e))))) (rest)) : f_W X H locs k n (pc) L (rest) := r_iinc C hdg hl (by rw [hd, nI_add]) hok kk
theorem r_iincD (C : f_C X Γ B0 own cc nL fr mc ms lo) {i a : Nat} (hdg : decode cc pc = .ok (.iinc i (-1), 3)) (h0 : 0 < a) (hl : L[i]? = some (some (.int (nI a)))) (hok : f_ok L i = true) (kk : f_W X H locs k n (pc + 3) (L.set i (some (.int (nI (a - 1))))) (rest)) : f_W X H locs k n (pc) L (rest) := r_iinc C hdg hl (sb_m1 h0) hok kk
theorem r_iconst (C : f_C X Γ B0 own cc nL fr mc ms lo) {d : Int} (v : Int32) (hdg : decode cc pc = .ok (.iconst d, 1)) (hv : Int32.ofInt d = v) (kk : f_W X H locs k n (pc + 1) L (.int v :: rest)) : f_W X H locs k n (pc) L (rest) := fun ls hl9 => lv_iconst C.1 C.2.1 hdg hv (kk ls hl9)
theorem r_bipush (C : f_C X Γ B0 own cc nL fr mc ms lo) {d : Int} (v : Int32) (hdg : decode cc pc = .ok (.bipush d, 2)) (hv : (Int8.ofInt d).toInt32 = v) (kk : f_W X H locs k n (pc + 2) L (.int v :: rest)) : f_W X H locs k n (pc) L (rest) := fun ls hl9 => lv_bipush C.1 C.2.1 hdg hv (kk ls hl9)
theorem r_sipush (C : f_C X Γ B0 own cc nL fr mc ms lo) {d : Int} (v : Int32) (hdg : decode cc pc = .ok (.sipush d, 3)) (hv : (Int16.ofInt d).toInt32 = v) (kk : f_W X H locs k n (pc + 3) L (.int v :: rest)) : f_W X H locs k n (pc) L (rest) := fun ls hl9 => lv_sipush C.1 C.2.1 hdg hv (kk ls hl9)
theorem r_lconst (C : f_C X Γ B0 own cc nL fr mc ms lo) {d : Fin 2} (v : Int64) (hdg : decode cc pc = .ok (.lconst d, 1)) (hv : Int64.ofNat (d : Nat) = v) (kk : f_W X H locs k n (pc + 1) L (.long v :: rest)) : f_W X H locs k n (pc) L (rest) := fun ls hl9 => lv_lconst C.1 C.2.1 hdg hv (kk ls hl9)
theorem r_null (C : f_C X Γ B0 own cc nL fr mc ms lo) (hdg : decode cc pc = .ok (.aconst_null, 1)) (kk : f_W X H locs k n (pc + 1) L (.null :: rest)) : f_W X H locs k n (pc) L (rest) := fun ls hl9 => lv_null C.1 C.2.1 hdg (kk ls hl9)
theorem r_ldcw (C : f_C X Γ B0 own cc nL fr mc ms lo) {index : Nat} {v : Int32} (hw : Cond.constant own index v ∈ f_GW) (hdg : decode cc pc = .ok (.ldc_w index, 3)) (kk : f_W X H locs k n (pc + 3) L (.int v :: rest)) : f_W X H locs k n (pc) L (rest) := fun ls hl9 => lv_ldcw C.1 C.2.1 C.2.2.2.1 (C.2.2.2.2.1 _ hw) hdg (kk ls hl9)
theorem r_ldc2 (C : f_C X Γ B0 own cc nL fr mc ms lo) {index : Nat} {v : Int64} (hw : Cond.constantLong own index v ∈ f_GW) (hdg : decode cc pc = .ok (.ldc2_w index, 3)) (kk : f_W X H locs k n (pc + 3) L (.long v :: rest)) : f_W X H locs k n (pc) L (rest) := fun ls hl9 => lv_ldc2 C.1 C.2.1 C.2.2.2.1 (C.2.2.2.2.1 _ hw) hdg (kk ls hl9)
theorem r_dup (C : f_C X Γ B0 own cc nL fr mc ms lo) {v : Value} (hdg : decode cc pc = .ok (.dup, 1)) (hv : v.category = 1) (kk : f_W X H locs k n (pc + 1) L (v :: v :: rest)) : f_W X H locs k n (pc) L (v :: rest) := fun ls hl9 => lv_dup C.1 C.2.1 hdg hv (kk ls hl9)
theorem r_dup2 (C : f_C X Γ B0 own cc nL fr mc ms lo) {v u : Value} (hdg : decode cc pc = .ok (.dup2, 1)) (hv : v.category = 1) (hu : u.category = 1) (kk : f_W X H locs k n (pc + 1) L (v :: u :: v :: u :: rest)) : f_W X H locs k n (pc) L (v :: u :: rest) := fun ls hl9 => lv_dup2_11 C.1 C.2.1 hdg hv hu (kk ls hl9)
theorem r_pop (C : f_C X Γ B0 own cc nL fr mc ms lo) {v : Value} (hdg : decode cc pc = .ok (.pop, 1)) (hv : v.category = 1) (kk : f_W X H locs k n (pc + 1) L (rest)) : f_W X H locs k n (pc) L (v :: rest) := fun ls hl9 => lv_pop C.1 C.2.1 hdg hv (kk ls hl9)
theorem r_goto (C : f_C X Γ B0 own cc nL fr mc ms lo) {off : Int} {tgt : Nat} (hdg : decode cc pc = .ok (.goto off, 3)) (ht : (pc : Int) + off = (tgt : Int)) (kk : f_W X H locs k n (tgt) L (rest)) : f_W X H locs k n (pc) L (rest) := fun ls hl9 => lv_goto C.1 C.2.1 hdg ht (kk ls hl9)
theorem r_iadd (C : f_C X Γ B0 own cc nL fr mc ms lo) {x y : Int32} (hdg : decode cc pc = .ok (.iadd, 1)) (kk : f_W X H locs k n (pc + 1) L (.int (x + y) :: rest)) : f_W X H locs k n (pc) L (.int y :: .int x :: rest) := fun ls hl9 => lv_iadd C.1 C.2.1 hdg (kk ls hl9)
theorem r_isub (C : f_C X Γ B0 own cc nL fr mc ms lo) {x y : Int32} (hdg : decode cc pc = .ok (.isub, 1)) (kk : f_W X H locs k n (pc + 1) L (.int (x - y) :: rest)) : f_W X H locs k n (pc) L (.int y :: .int x :: rest) := fun ls hl9 => lv_isub C.1 C.2.1 hdg (kk ls hl9)
theorem r_imul (C : f_C X Γ B0 own cc nL fr mc ms lo) {x y : Int32} (hdg : decode cc pc = .ok (.imul, 1)) (kk : f_W X H locs k n (pc + 1) L (.int (x * y) :: rest)) : f_W X H locs k n (pc) L (.int y :: .int x :: rest) := fun ls hl9 => lv_imul C.1 C.2.1 hdg (kk ls hl9)
theorem r_ixor (C : f_C X Γ B0 own cc nL fr mc ms lo) {x y : Int32} (hdg : decode cc pc = .ok (.ixor, 1)) (kk : f_W X H locs k n (pc + 1) L (.int (x ^^^ y) :: rest)) : f_W X H locs k n (pc) L (.int y :: .int x :: rest) := fun ls hl9 => lv_ixor C.1 C.2.1 hdg (kk ls hl9)
theorem r_iand (C : f_C X Γ B0 own cc nL fr mc ms lo) {x y : Int32} (hdg : decode cc pc = .ok (.iand, 1)) (kk : f_W X H locs k n (pc + 1) L (.int (x &&& y) :: rest)) : f_W X H locs k n (pc) L (.int y :: .int x :: rest) := fun ls hl9 => lv_iand C.1 C.2.1 hdg (kk ls hl9)
theorem r_ior (C : f_C X Γ B0 own cc nL fr mc ms lo) {x y : Int32} (hdg : decode cc pc = .ok (.ior, 1)) (kk : f_W X H locs k n (pc + 1) L (.int (x ||| y) :: rest)) : f_W X H locs k n (pc) L (.int y :: .int x :: rest) := fun ls hl9 => lv_ior C.1 C.2.1 hdg (kk ls hl9)
theorem r_ishl (C : f_C X Γ B0 own cc nL fr mc ms lo) {x y : Int32} (hdg : decode cc pc = .ok (.ishl, 1)) (kk : f_W X H locs k n (pc + 1) L (.int (x <<< (y &&& 31)) :: rest)) : f_W X H locs k n (pc) L (.int y :: .int x :: rest) := fun ls hl9 => lv_ishl C.1 C.2.1 hdg (kk ls hl9)
theorem r_ishr (C : f_C X Γ B0 own cc nL fr mc ms lo) {x y : Int32} (hdg : decode cc pc = .ok (.ishr, 1)) (kk : f_W X H locs k n (pc + 1) L (.int (x >>> (y &&& 31)) :: rest)) : f_W X H locs k n (pc) L (.int y :: .int x :: rest) := fun ls hl9 => lv_ishr C.1 C.2.1 hdg (kk ls hl9)
theorem r_iushr (C : f_C X Γ B0 own cc nL fr mc ms lo) {x y v : Int32} (hdg : decode cc pc = .ok (.iushr, 1)) (hv : (x.toUInt32 >>> (y.toUInt32 &&& Int32.toUInt32 31)).toInt32 = v) (kk : f_W X H locs k n (pc + 1) L (.int v :: rest)) : f_W X H locs k n (pc) L (.int y :: .int x :: rest) := fun ls hl9 => lv_iushr C.1 C.2.1 hdg hv (kk ls hl9)
theorem r_idiv (C : f_C X Γ B0 own cc nL fr mc ms lo) {x y : Int32} (hdg : decode cc pc = .ok (.idiv, 1)) (hne : ¬ y = 0) (kk : f_W X H locs k n (pc + 1) L (.int (x / y) :: rest)) : f_W X H locs k n (pc) L (.int y :: .int x :: rest) := fun ls hl9 => lv_idiv C.1 C.2.1 hdg hne (kk ls hl9)
theorem r_irem (C : f_C X Γ B0 own cc nL fr mc ms lo) {x y : Int32} (hdg : decode cc pc = .ok (.irem, 1)) (hne : ¬ y = 0) (kk : f_W X H locs k n (pc + 1) L (.int (x - x / y * y) :: rest)) : f_W X H locs k n (pc) L (.int y :: .int x :: rest) := fun ls hl9 => lv_irem C.1 C.2.1 hdg hne (kk ls hl9)
theorem r_ladd (C : f_C X Γ B0 own cc nL fr mc ms lo) {x y : Int64} (hdg : decode cc pc = .ok (.ladd, 1)) (kk : f_W X H locs k n (pc + 1) L (.long (x + y) :: rest)) : f_W X H locs k n (pc) L (.long y :: .long x :: rest) := fun ls hl9 => lv_ladd C.1 C.2.1 hdg (kk ls hl9)
theorem r_lmul (C : f_C X Γ B0 own cc nL fr mc ms lo) {x y : Int64} (hdg : decode cc pc = .ok (.lmul, 1)) (kk : f_W X H locs k n (pc + 1) L (.long (x * y) :: rest)) : f_W X H locs k n (pc) L (.long y :: .long x :: rest) := fun ls hl9 => lv_lmul C.1 C.2.1 hdg (kk ls hl9)
theorem r_i2l (C : f_C X Γ B0 own cc nL fr mc ms lo) {x : Int32} {v : Int64} (hdg : decode cc pc = .ok (.i2l, 1)) (hv : x.toInt64 = v) (kk : f_W X H locs k n (pc + 1) L (.long v :: rest)) : f_W X H locs k n (pc) L (.int x :: rest) := fun ls hl9 => lv_i2l C.1 C.2.1 hdg hv (kk ls hl9)
theorem r_iaddN (C : f_C X Γ B0 own cc nL fr mc ms lo) {a b : Nat} (hdg : decode cc pc = .ok (.iadd, 1)) (kk : f_W X H locs k n (pc + 1) L (.int (nI (a + b)) :: rest)) : f_W X H locs k n (pc) L (.int (nI b) :: .int (nI a) :: rest) := r_iadd C hdg (by rw [nI_add]; exact kk)
theorem r_imulN (C : f_C X Γ B0 own cc nL fr mc ms lo) {a b : Nat} (hdg : decode cc pc = .ok (.imul, 1)) (kk : f_W X H locs k n (pc + 1) L (.int (nI (a * b)) :: rest)) : f_W X H locs k n (pc) L (.int (nI b) :: .int (nI a) :: rest) := r_imul C hdg (by rw [pk_mul]; exact kk)
theorem r_isubN (C : f_C X Γ B0 own cc nL fr mc ms lo) {a b : Nat} (hdg : decode cc pc = .ok (.isub, 1)) (h : b ≤ a) (kk : f_W X H locs k n (pc + 1) L (.int (nI (a - b)) :: rest)) : f_W X H locs k n (pc) L (.int (nI b) :: .int (nI a) :: rest) := r_isub C hdg (by rw [pk_sub h]; exact kk)
theorem r_iandN (C : f_C X Γ B0 own cc nL fr mc ms lo) {a b : Nat} (hdg : decode cc pc = .ok (.iand, 1)) (kk : f_W X H locs k n (pc + 1) L (.int (nI (a &&& b)) :: rest)) : f_W X H locs k n (pc) L (.int (nI b) :: .int (nI a) :: rest) := r_iand C hdg (by rw [nI_andN]; exact kk)
theorem r_iorN (C : f_C X Γ B0 own cc nL fr mc ms lo) {a b : Nat} (hdg : decode cc pc = .ok (.ior, 1)) (kk : f_W X H locs k n (pc + 1) L (.int (nI (a ||| b)) :: rest)) : f_W X H locs k n (pc) L (.int (nI b) :: .int (nI a) :: rest) := r_ior C hdg (by rw [nI_orN]; exact kk)
theorem r_ixorN (C : f_C X Γ B0 own cc nL fr mc ms lo) {a b : Nat} (hdg : decode cc pc = .ok (.ixor, 1)) (kk : f_W X H locs k n (pc + 1) L (.int (nI (a ^^^ b)) :: rest)) : f_W X H locs k n (pc) L (.int (nI b) :: .int (nI a) :: rest) := r_ixor C hdg (by rw [nI_xorN]; exact kk)
theorem nI_shl {a b : Nat} (hb : b < 32) (h : a * 2 ^ b < 2 ^ 32) : nI a <<< (nI b &&& 31) = nI (a * 2 ^ b) := pk_shlN (nI b &&& 31) b (sh31 b hb) h
theorem nI_shr {a b : Nat} (hb : b < 32) (h : a < 2 ^ 31) : nI a >>> (nI b &&& 31) = nI (a / 2 ^ b) := pk_shrN h (nI b &&& 31) b (sh31 b hb)
theorem r_ishlN (C : f_C X Γ B0 own cc nL fr mc ms lo) {a b : Nat} (hdg : decode cc pc = .ok (.ishl, 1)) (hb : b < 32) (h : a * 2 ^ b < 2 ^ 32) (kk : f_W X H locs k n (pc + 1) L (.int (nI (a * 2 ^ b)) :: rest)) : f_W X H locs k n (pc) L (.int (nI b) :: .int (nI a) :: rest) := r_ishl C hdg (by rw [nI_shl hb h]; exact kk)
theorem r_ishrN (C : f_C X Γ B0 own cc nL fr mc ms lo) {a b : Nat} (hdg : decode cc pc = .ok (.ishr, 1)) (hb : b < 32) (h : a < 2 ^ 31) (kk : f_W X H locs k n (pc + 1) L (.int (nI (a / 2 ^ b)) :: rest)) : f_W X H locs k n (pc) L (.int (nI b) :: .int (nI a) :: rest) := r_ishr C hdg (by rw [nI_shr hb h]; exact kk)
theorem r_idivN (C : f_C X Γ B0 own cc nL fr mc ms lo) {a b : Nat} (hdg : decode cc pc = .ok (.idiv, 1)) (ha : a < 2 ^ 31) (h0 : 0 < b) (hb : b < 2 ^ 31) (kk : f_W X H locs k n (pc + 1) L (.int (nI (a / b)) :: rest)) : f_W X H locs k n (pc) L (.int (nI b) :: .int (nI a) :: rest) := r_idiv C hdg (nI_ne0 h0 hb) (by rw [pk_div ha h0 hb]; exact kk)
theorem r_iremN (C : f_C X Γ B0 own cc nL fr mc ms lo) {a b : Nat} (hdg : decode cc pc = .ok (.irem, 1)) (ha : a < 2 ^ 31) (h0 : 0 < b) (hb : b < 2 ^ 31) (kk : f_W X H locs k n (pc + 1) L (.int (nI (a % b)) :: rest)) : f_W X H locs k n (pc) L (.int (nI b) :: .int (nI a) :: rest) := r_irem C hdg (nI_ne0 h0 hb) (by rw [pk_rem ha h0 hb]; exact kk)
theorem r_if_lt (C : f_C X Γ B0 own cc nL fr mc ms lo) {x : Int32} {off : Int} {tgt : Nat} (hdg : decode cc pc = .ok (.ifCond .lt off, 3)) (ht : (pc : Int) + off = (tgt : Int)) (kt : x < 0 → f_W X H locs k n (tgt) L (rest)) (kf : ¬ x < 0 → f_W X H locs k n (pc + 3) L (rest)) : f_W X H locs k n (pc) L (.int x :: rest) := fun ls hl9 => lv_if_lt C.1 C.2.1 hdg ht (fun h => kt h ls hl9) (fun h => kf h ls hl9)
theorem r_icmp_lt (C : f_C X Γ B0 own cc nL fr mc ms lo) {x y : Int32} {off : Int} {tgt : Nat} (hdg : decode cc pc = .ok (.if_icmp .lt off, 3)) (ht : (pc : Int) + off = (tgt : Int)) (kt : x < y → f_W X H locs k n (tgt) L (rest)) (kf : ¬ x < y → f_W X H locs k n (pc + 3) L (rest)) : f_W X H locs k n (pc) L (.int y :: .int x :: rest) := fun ls hl9 => lv_icmp_lt C.1 C.2.1 hdg ht (fun h => kt h ls hl9) (fun h => kf h ls hl9)
theorem r_if_ge (C : f_C X Γ B0 own cc nL fr mc ms lo) {x : Int32} {off : Int} {tgt : Nat} (hdg : decode cc pc = .ok (.ifCond .ge off, 3)) (ht : (pc : Int) + off = (tgt : Int)) (kt : 0 ≤ x → f_W X H locs k n (tgt) L (rest)) (kf : ¬ 0 ≤ x → f_W X H locs k n (pc + 3) L (rest)) : f_W X H locs k n (pc) L (.int x :: rest) := fun ls hl9 => lv_if_ge C.1 C.2.1 hdg ht (fun h => kt h ls hl9) (fun h => kf h ls hl9)
theorem r_icmp_ge (C : f_C X Γ B0 own cc nL fr mc ms lo) {x y : Int32} {off : Int} {tgt : Nat} (hdg : decode cc pc = .ok (.if_icmp .ge off, 3)) (ht : (pc : Int) + off = (tgt : Int)) (kt : y ≤ x → f_W X H locs k n (tgt) L (rest)) (kf : ¬ y ≤ x → f_W X H locs k n (pc + 3) L (rest)) : f_W X H locs k n (pc) L (.int y :: .int x :: rest) := fun ls hl9 => lv_icmp_ge C.1 C.2.1 hdg ht (fun h => kt h ls hl9) (fun h => kf h ls hl9)
theorem r_if_le (C : f_C X Γ B0 own cc nL fr mc ms lo) {x : Int32} {off : Int} {tgt : Nat} (hdg : decode cc pc = .ok (.ifCond .le off, 3)) (ht : (pc : Int) + off = (tgt : Int)) (kt : x ≤ 0 → f_W X H locs k n (tgt) L (rest)) (kf : ¬ x ≤ 0 → f_W X H locs k n (pc + 3) L (rest)) : f_W X H locs k n (pc) L (.int x :: rest) := fun ls hl9 => lv_if_le C.1 C.2.1 hdg ht (fun h => kt h ls hl9) (fun h => kf h ls hl9)
theorem r_icmp_le (C : f_C X Γ B0 own cc nL fr mc ms lo) {x y : Int32} {off : Int} {tgt : Nat} (hdg : decode cc pc = .ok (.if_icmp .le off, 3)) (ht : (pc : Int) + off = (tgt : Int)) (kt : x ≤ y → f_W X H locs k n (tgt) L (rest)) (kf : ¬ x ≤ y → f_W X H locs k n (pc + 3) L (rest)) : f_W X H locs k n (pc) L (.int y :: .int x :: rest) := fun ls hl9 => lv_icmp_le C.1 C.2.1 hdg ht (fun h => kt h ls hl9) (fun h => kf h ls hl9)
theorem r_if_gt (C : f_C X Γ B0 own cc nL fr mc ms lo) {x : Int32} {off : Int} {tgt : Nat} (hdg : decode cc pc = .ok (.ifCond .gt off, 3)) (ht : (pc : Int) + off = (tgt : Int)) (kt : 0 < x → f_W X H locs k n (tgt) L (rest)) (kf : ¬ 0 < x → f_W X H locs k n (pc + 3) L (rest)) : f_W X H locs k n (pc) L (.int x :: rest) := fun ls hl9 => lv_if_gt C.1 C.2.1 hdg ht (fun h => kt h ls hl9) (fun h => kf h ls hl9)
theorem r_icmp_gt (C : f_C X Γ B0 own cc nL fr mc ms lo) {x y : Int32} {off : Int} {tgt : Nat} (hdg : decode cc pc = .ok (.if_icmp .gt off, 3)) (ht : (pc : Int) + off = (tgt : Int)) (kt : y < x → f_W X H locs k n (tgt) L (rest)) (kf : ¬ y < x → f_W X H locs k n (pc + 3) L (rest)) : f_W X H locs k n (pc) L (.int y :: .int x :: rest) := fun ls hl9 => lv_icmp_gt C.1 C.2.1 hdg ht (fun h => kt h ls hl9) (fun h => kf h ls hl9)
theorem r_if_eq (C : f_C X Γ B0 own cc nL fr mc ms lo) {x : Int32} {off : Int} {tgt : Nat} (hdg : decode cc pc = .ok (.ifCond .eq off, 3)) (ht : (pc : Int) + off = (tgt : Int)) (kt : x = 0 → f_W X H locs k n (tgt) L (rest)) (kf : ¬ x = 0 → f_W X H locs k n (pc + 3) L (rest)) : f_W X H locs k n (pc) L (.int x :: rest) := fun ls hl9 => lv_if_eq C.1 C.2.1 hdg ht (fun h => kt h ls hl9) (fun h => kf h ls hl9)
theorem r_icmp_eq (C : f_C X Γ B0 own cc nL fr mc ms lo) {x y : Int32} {off : Int} {tgt : Nat} (hdg : decode cc pc = .ok (.if_icmp .eq off, 3)) (ht : (pc : Int) + off = (tgt : Int)) (kt : x = y → f_W X H locs k n (tgt) L (rest)) (kf : ¬ x = y → f_W X H locs k n (pc + 3) L (rest)) : f_W X H locs k n (pc) L (.int y :: .int x :: rest) := fun ls hl9 => lv_icmp_eq C.1 C.2.1 hdg ht (fun h => kt h ls hl9) (fun h => kf h ls hl9)
theorem r_if_ne (C : f_C X Γ B0 own cc nL fr mc ms lo) {x : Int32} {off : Int} {tgt : Nat} (hdg : decode cc pc = .ok (.ifCond .ne off, 3)) (ht : (pc : Int) + off = (tgt : Int)) (kt : ¬ x = 0 → f_W X H locs k n (tgt) L (rest)) (kf : x = 0 → f_W X H locs k n (pc + 3) L (rest)) : f_W X H locs k n (pc) L (.int x :: rest) := fun ls hl9 => lv_if_ne C.1 C.2.1 hdg ht (fun h => kt h ls hl9) (fun h => kf h ls hl9)
theorem r_icmp_ne (C : f_C X Γ B0 own cc nL fr mc ms lo) {x y : Int32} {off : Int} {tgt : Nat} (hdg : decode cc pc = .ok (.if_icmp .ne off, 3)) (ht : (pc : Int) + off = (tgt : Int)) (kt : ¬ x = y → f_W X H locs k n (tgt) L (rest)) (kf : x = y → f_W X H locs k n (pc + 3) L (rest)) : f_W X H locs k n (pc) L (.int y :: .int x :: rest) := fun ls hl9 => lv_icmp_ne C.1 C.2.1 hdg ht (fun h => kt h ls hl9) (fun h => kf h ls hl9)
theorem r_icmp_ltN (C : f_C X Γ B0 own cc nL fr mc ms lo) {a b : Nat} {off : Int} {tgt : Nat} (hdg : decode cc pc = .ok (.if_icmp .lt off, 3)) (ht : (pc : Int) + off = (tgt : Int)) (ha : a < 2 ^ 31) (hb : b < 2 ^ 31) (kt : a < b → f_W X H locs k n (tgt) L (rest)) (kf : b ≤ a → f_W X H locs k n (pc + 3) L (rest)) : f_W X H locs k n (pc) L (.int (nI b) :: .int (nI a) :: rest) := r_icmp_lt C hdg ht (fun h => kt ((nI_ltI ha hb).mp h)) (fun h => kf (Nat.not_lt.mp (fun z => h ((nI_ltI ha hb).mpr z))))
theorem r_icmp_geN (C : f_C X Γ B0 own cc nL fr mc ms lo) {a b : Nat} {off : Int} {tgt : Nat} (hdg : decode cc pc = .ok (.if_icmp .ge off, 3)) (ht : (pc : Int) + off = (tgt : Int)) (ha : a < 2 ^ 31) (hb : b < 2 ^ 31) (kt : b ≤ a → f_W X H locs k n (tgt) L (rest)) (kf : a < b → f_W X H locs k n (pc + 3) L (rest)) : f_W X H locs k n (pc) L (.int (nI b) :: .int (nI a) :: rest) := r_icmp_ge C hdg ht (fun h => kt ((nI_leI hb ha).mp h)) (fun h => kf (Nat.not_le.mp (fun z => h ((nI_leI hb ha).mpr z))))
theorem r_icmp_leN (C : f_C X Γ B0 own cc nL fr mc ms lo) {a b : Nat} {off : Int} {tgt : Nat} (hdg : decode cc pc = .ok (.if_icmp .le off, 3)) (ht : (pc : Int) + off = (tgt : Int)) (ha : a < 2 ^ 31) (hb : b < 2 ^ 31) (kt : a ≤ b → f_W X H locs k n (tgt) L (rest)) (kf : b < a → f_W X H locs k n (pc + 3) L (rest)) : f_W X H locs k n (pc) L (.int (nI b) :: .int (nI a) :: rest) := r_icmp_le C hdg ht (fun h => kt ((nI_leI ha hb).mp h)) (fun h => kf (Nat.not_le.mp (fun z => h ((nI_leI ha hb).mpr z))))
theorem r_icmp_gtN (C : f_C X Γ B0 own cc nL fr mc ms lo) {a b : Nat} {off : Int} {tgt : Nat} (hdg : decode cc pc = .ok (.if_icmp .gt off, 3)) (ht : (pc : Int) + off = (tgt : Int)) (ha : a < 2 ^ 31) (hb : b < 2 ^ 31) (kt : b < a → f_W X H locs k n (tgt) L (rest)) (kf : a ≤ b → f_W X H locs k n (pc + 3) L (rest)) : f_W X H locs k n (pc) L (.int (nI b) :: .int (nI a) :: rest) := r_icmp_gt C hdg ht (fun h => kt ((nI_ltI hb ha).mp h)) (fun h => kf (Nat.not_lt.mp (fun z => h ((nI_ltI hb ha).mpr z))))
theorem r_icmp_eqN (C : f_C X Γ B0 own cc nL fr mc ms lo) {a b : Nat} {off : Int} {tgt : Nat} (hdg : decode cc pc = .ok (.if_icmp .eq off, 3)) (ht : (pc : Int) + off = (tgt : Int)) (ha : a < 2 ^ 31) (hb : b < 2 ^ 31) (kt : a = b → f_W X H locs k n (tgt) L (rest)) (kf : ¬ a = b → f_W X H locs k n (pc + 3) L (rest)) : f_W X H locs k n (pc) L (.int (nI b) :: .int (nI a) :: rest) := r_icmp_eq C hdg ht (fun h => kt ((nI_eq ha hb).mp h)) (fun h => kf (fun z => h ((nI_eq ha hb).mpr z)))
theorem r_icmp_neN (C : f_C X Γ B0 own cc nL fr mc ms lo) {a b : Nat} {off : Int} {tgt : Nat} (hdg : decode cc pc = .ok (.if_icmp .ne off, 3)) (ht : (pc : Int) + off = (tgt : Int)) (ha : a < 2 ^ 31) (hb : b < 2 ^ 31) (kt : ¬ a = b → f_W X H locs k n (tgt) L (rest)) (kf : a = b → f_W X H locs k n (pc + 3) L (rest)) : f_W X H locs k n (pc) L (.int (nI b) :: .int (nI a) :: rest) := r_icmp_ne C hdg ht (fun h => kt (fun z => h ((nI_eq ha hb).mpr z))) (fun h => kf ((nI_eq ha hb).mp h))
theorem nI_eq0 {a : Nat} (ha : a < 2 ^ 31) : nI a = 0 ↔ a = 0 := by rw [← nI_0]; exact nI_eq ha (by decide)
theorem r_if_eqN (C : f_C X Γ B0 own cc nL fr mc ms lo) {a : Nat} {off : Int} {tgt : Nat} (hdg : decode cc pc = .ok (.ifCond .eq off, 3)) (ht : (pc : Int) + off = (tgt : Int)) (ha : a < 2 ^ 31) (kt : a = 0 → f_W X H locs k n (tgt) L (rest)) (kf : ¬ a = 0 → f_W X H locs k n (pc + 3) L (rest)) : f_W X H locs k n (pc) L (.int (nI a) :: rest) := r_if_eq C hdg ht (fun h => kt ((nI_eq0 ha).mp h)) (fun h => kf (fun z => h ((nI_eq0 ha).mpr z)))
theorem r_if_neN (C : f_C X Γ B0 own cc nL fr mc ms lo) {a : Nat} {off : Int} {tgt : Nat} (hdg : decode cc pc = .ok (.ifCond .ne off, 3)) (ht : (pc : Int) + off = (tgt : Int)) (ha : a < 2 ^ 31) (kt : ¬ a = 0 → f_W X H locs k n (tgt) L (rest)) (kf : a = 0 → f_W X H locs k n (pc + 3) L (rest)) : f_W X H locs k n (pc) L (.int (nI a) :: rest) := r_if_ne C hdg ht (fun h => kt (fun z => h ((nI_eq0 ha).mpr z))) (fun h => kf ((nI_eq0 ha).mp h))
theorem r_if_leN (C : f_C X Γ B0 own cc nL fr mc ms lo) {a : Nat} {off : Int} {tgt : Nat} (hdg : decode cc pc = .ok (.ifCond .le off, 3)) (ht : (pc : Int) + off = (tgt : Int)) (ha : a < 2 ^ 31) (kt : a = 0 → f_W X H locs k n (tgt) L (rest)) (kf : 0 < a → f_W X H locs k n (pc + 3) L (rest)) : f_W X H locs k n (pc) L (.int (nI a) :: rest) := r_if_le C hdg ht (fun h => kt (Nat.eq_zero_of_not_pos fun z => nI_nle z ha h)) (fun h => kf (Nat.pos_of_ne_zero fun z => h (by subst z; exact Int32.le_refl 0)))
theorem r_if_ltN (C : f_C X Γ B0 own cc nL fr mc ms lo) {a : Nat} {off : Int} {tgt : Nat} (hdg : decode cc pc = .ok (.ifCond .lt off, 3)) (ht : (pc : Int) + off = (tgt : Int)) (ha : a < 2 ^ 31) (kf : f_W X H locs k n (pc + 3) L (rest)) : f_W X H locs k n (pc) L (.int (nI a) :: rest) := r_if_lt C hdg ht (fun h => absurd h (nI_pos ha)) (fun _ => kf)
theorem r_if_eqB (C : f_C X Γ B0 own cc nL fr mc ms lo) {b : Bool} {off : Int} {tgt : Nat} (hdg : decode cc pc = .ok (.ifCond .eq off, 3)) (ht : (pc : Int) + off = (tgt : Int)) (kt : b = false → f_W X H locs k n (tgt) L (rest)) (kf : b = true → f_W X H locs k n (pc + 3) L (rest)) : f_W X H locs k n (pc) L (.int (bI b) :: rest) := r_if_eq C hdg ht (fun h => kt ((bI_eq0 b).mp h)) (fun h => kf (by cases b with | true => rfl | false => exact absurd rfl h))
theorem r_if_neB (C : f_C X Γ B0 own cc nL fr mc ms lo) {b : Bool} {off : Int} {tgt : Nat} (hdg : decode cc pc = .ok (.ifCond .ne off, 3)) (ht : (pc : Int) + off = (tgt : Int)) (kt : b = true → f_W X H locs k n (tgt) L (rest)) (kf : b = false → f_W X H locs k n (pc + 3) L (rest)) : f_W X H locs k n (pc) L (.int (bI b) :: rest) := r_if_ne C hdg ht (fun h => kt (by cases b with | true => rfl | false => exact absurd rfl h)) (fun h => kf ((bI_eq0 b).mp h))
theorem r_ifnull (C : f_C X Γ B0 own cc nL fr mc ms lo) {x : Nat} {off : Int} (hdg : decode cc pc = .ok (.ifnull off, 3)) (kk : f_W X H locs k n (pc + 3) L (rest)) : f_W X H locs k n (pc) L (.ref x :: rest) := fun ls hl9 => lv_ifnull C.1 C.2.1 hdg (kk ls hl9)
theorem r_ifnull_null (C : f_C X Γ B0 own cc nL fr mc ms lo) {off : Int} {tgt : Nat} (hdg : decode cc pc = .ok (.ifnull off, 3)) (ht : (pc : Int) + off = (tgt : Int)) (kk : f_W X H locs k n (tgt) L (rest)) : f_W X H locs k n (pc) L (.null :: rest) := fun ls hl9 => lv_ifnullN C.1 C.2.1 hdg ht (kk ls hl9)
theorem r_ifnonnull (C : f_C X Γ B0 own cc nL fr mc ms lo) {x : Nat} {off : Int} {tgt : Nat} (hdg : decode cc pc = .ok (.ifnonnull off, 3)) (ht : (pc : Int) + off = (tgt : Int)) (kk : f_W X H locs k n (tgt) L (rest)) : f_W X H locs k n (pc) L (.ref x :: rest) := fun ls hl9 => lv_ifnonnull C.1 C.2.1 hdg ht (kk ls hl9)
theorem r_ifnonnull_null (C : f_C X Γ B0 own cc nL fr mc ms lo) {off : Int} (hdg : decode cc pc = .ok (.ifnonnull off, 3)) (kk : f_W X H locs k n (pc + 3) L (rest)) : f_W X H locs k n (pc) L (.null :: rest) := fun ls hl9 => lv_ifnonnullN C.1 C.2.1 hdg (kk ls hl9)
theorem r_lcmp (C : f_C X Γ B0 own cc nL fr mc ms lo) {x y : Int64} (hdg : decode cc pc = .ok (.lcmp, 1)) (kk : f_W X H locs k n (pc + 1) L (.int (lg_cmp x y) :: rest)) : f_W X H locs k n (pc) L (.long y :: .long x :: rest) := fun ls hl9 => W.lcmp C.1 C.2.1 hdg (kk ls hl9)
theorem r_lcmpB (C : f_C X Γ B0 own cc nL fr mc ms lo) {x y : Int64} (b : Bool) (hb : b = !decide (x = y)) (h : ∀ v : Int32, (v = 0 ↔ x = y) → f_W X H locs k n (pc + 1) L (.int v :: rest)) (hdg : decode cc pc = .ok (.lcmp, 1)) : f_W X H locs k n (pc) L (.long y :: .long x :: rest) := r_lcmp C hdg (h _ (by unfold lg_cmp; by_cases q : x = y <;> simp_all; split <;> simp))
theorem f_widen {st : List Value} {k2 n2 : Nat} (h1 : k ≤ k2) (h2 : n ≤ n2) (kk : f_W X H locs k2 n2 pc L st) : f_W X H locs k n pc L st := fun ls hl9 => W.widen h1 h2 (kk ls hl9)
end FWB
