section
variable {p : Program} {l : Launch} {e : Env} {R : Room} {s : State} {m : MethodId} {args : Array Value} {below : List Frame} {meth : Method} {c : Code} {D : va_G} {cy : Nat → ClassId} {n0 : Nat} {ad : Nat → Nat → Nat} {nT nO : Nat}

def rmX4_isWrong : Room := { frames := 0, cells := 0, slots := 0, locals := 0 }
def f_X4_isWrong_0 (σ : Sg) (x1 : Int32) : Option (Int32 × Sg) :=
  (if (x1 : Int32) ≤ (0 : Int32) then (some (0, (sv σ 7 0 0 x1))) else (some (1, (sv σ 7 0 0 x1))))
set_option maxRecDepth 100000 in
set_option maxHeartbeats 4000000 in
theorem b_X4_isWrong_0 (C0 : Cx p l s m args meth c cX4_isWrong 2 RX4 D cy n0) (hR : meth.sig.returnType = (some .boolean)) (σ : Sg) (x1 : Int32) (H : Heap) (locs : List Loc) (ls : Array Slot) (hh : Hp D cy n0 ad nT nO s σ H locs) (hl : lv_has ls 2 [(0, .ref (ad 7 0)), (1, .int x1)]) : Sm (Qr below args s D cy n0 ad nT nO vI 0 0) (f_X4_isWrong_0 σ x1) p l e rmX4_isWrong s m args below meth c H locs 0 0 (F0 m 0 ls []) := by
  unfold f_X4_isWrong_0
  refine s_aload_n C0 dX4_isWrong_0 rfl (lv_at hl 0 rfl) ?_
  refine s_iload_n C0 dX4_isWrong_1 rfl (lv_at hl 1 rfl) ?_
  refine s_put C0 hh (rl_b (by decide)) rfl rfl (T := TX4) (N := 28) rfl hinX4 tyX4 tyX4_ok nmX4 (by decide) w306 rfl (ty := .int) (by decide +kernel) rfl rfl (Nat.le_of_ble_eq_true rfl) (by decide) (by decide) (by decide) dX4_isWrong_2 (fun H locs hh => ?_)
  refine s_iload_n C0 dX4_isWrong_5 rfl (lv_at hl 1 rfl) ?_
  refine s_if_le (tgt := 13) C0 dX4_isWrong_6 (by decide) (fun _ => ?_) (fun _ => ?_)
  · refine s_iconst (v := 0) C0 dX4_isWrong_13 (by decide) ?_
    exact s_iret C0 hh hR narrow_b0 (Nat.le_of_ble_eq_true rfl) (Nat.le_of_ble_eq_true rfl) dX4_isWrong_14
  · refine s_iconst (v := 1) C0 dX4_isWrong_9 (by decide) ?_
    refine s_goto (tgt := 14) C0 dX4_isWrong_10 (by decide) ?_
    exact s_iret C0 hh hR narrow_b1 (Nat.le_of_ble_eq_true rfl) (Nat.le_of_ble_eq_true rfl) dX4_isWrong_14
def f_X4_isWrong (σ : Sg) (x1 : Int32) : Option (Int32 × Sg) := f_X4_isWrong_0 σ x1
set_option maxRecDepth 100000 in
set_option maxHeartbeats 4000000 in
theorem c_X4_isWrong (hst : l.stackTraces = false) (σ : Sg) (x1 : Int32) : Ct l yX4_isWrong (wm yX4_isWrong cX4_isWrong 2 (some .boolean)) rmX4_isWrong 0 0 vI [.ref (ad 7 0), .int x1] D cy n0 ad nT nO  σ (f_X4_isWrong σ x1) := by
  intro r0 h0
  refine Met.ofW (cc := cX4_isWrong) (maxL := 2) (ret := (some .boolean)) (by decide +kernel) rfl ?_
  intro p e s m args below meth c s₁ B hml hv
  obtain ⟨C0, hh, hR, rfl⟩ := ent B hml hst hv
  rw [lg_entry_eq]
  have hl := lv_entry ([.ref (ad 7 0), .int x1]) (n := 2) (Nat.le_of_ble_eq_true rfl)
  generalize (lg_sl ([.ref (ad 7 0), .int x1]) ++ List.replicate (2 - (lg_sl ([.ref (ad 7 0), .int x1])).length) Slot.unset).toArray = ls at hl ⊢
  exact b_X4_isWrong_0 C0 hR σ x1 _ _ _ hh hl r0 h0

def rmX4_isBetween : Room := { frames := 0, cells := 0, slots := 0, locals := 0 }
def f_X4_isBetween_0 (σ : Sg) (x0 : Int32) (x1 : Int32) (x2 : Int32) : Option (Int32 × Sg) :=
  (if x0 < (x1 : Int32) then (some (0, σ)) else (if x2 < (x0 : Int32) then (some (0, σ)) else (some (1, σ))))
set_option maxRecDepth 100000 in
set_option maxHeartbeats 4000000 in
theorem b_X4_isBetween_0 (C0 : Cx p l s m args meth c cX4_isBetween 3 RX4 D cy n0) (hR : meth.sig.returnType = (some .boolean)) (σ : Sg) (x0 : Int32) (x1 : Int32) (x2 : Int32) (H : Heap) (locs : List Loc) (ls : Array Slot) (hh : Hp D cy n0 ad nT nO s σ H locs) (hl : lv_has ls 3 [(0, .int x0), (1, .int x1), (2, .int x2)]) : Sm (Qr below args s D cy n0 ad nT nO vI 0 0) (f_X4_isBetween_0 σ x0 x1 x2) p l e rmX4_isBetween s m args below meth c H locs 0 0 (F0 m 0 ls []) := by
  unfold f_X4_isBetween_0
  refine s_iload_n C0 dX4_isBetween_0 rfl (lv_at hl 1 rfl) ?_
  refine s_iload_n C0 dX4_isBetween_1 rfl (lv_at hl 0 rfl) ?_
  refine s_icmp_gt (tgt := 14) C0 dX4_isBetween_2 (by decide) (fun _ => ?_) (fun _ => ?_)
  · refine s_iconst (v := 0) C0 dX4_isBetween_14 (by decide) ?_
    exact s_iret C0 hh hR narrow_b0 (Nat.le_of_ble_eq_true rfl) (Nat.le_of_ble_eq_true rfl) dX4_isBetween_15
  · refine s_iload_n C0 dX4_isBetween_5 rfl (lv_at hl 0 rfl) ?_
    refine s_iload_n C0 dX4_isBetween_6 rfl (lv_at hl 2 rfl) ?_
    refine s_icmp_gt (tgt := 14) C0 dX4_isBetween_7 (by decide) (fun _ => ?_) (fun _ => ?_)
    · refine s_iconst (v := 0) C0 dX4_isBetween_14 (by decide) ?_
      exact s_iret C0 hh hR narrow_b0 (Nat.le_of_ble_eq_true rfl) (Nat.le_of_ble_eq_true rfl) dX4_isBetween_15
    · refine s_iconst (v := 1) C0 dX4_isBetween_10 (by decide) ?_
      refine s_goto (tgt := 15) C0 dX4_isBetween_11 (by decide) ?_
      exact s_iret C0 hh hR narrow_b1 (Nat.le_of_ble_eq_true rfl) (Nat.le_of_ble_eq_true rfl) dX4_isBetween_15
def f_X4_isBetween (σ : Sg) (x0 : Int32) (x1 : Int32) (x2 : Int32) : Option (Int32 × Sg) := f_X4_isBetween_0 σ x0 x1 x2
set_option maxRecDepth 100000 in
set_option maxHeartbeats 4000000 in
theorem c_X4_isBetween (hst : l.stackTraces = false) (σ : Sg) (x0 : Int32) (x1 : Int32) (x2 : Int32) : Ct l yX4_isBetween (wm yX4_isBetween cX4_isBetween 3 (some .boolean)) rmX4_isBetween 0 0 vI [.int x0, .int x1, .int x2] D cy n0 ad nT nO  σ (f_X4_isBetween σ x0 x1 x2) := by
  intro r0 h0
  refine Met.ofW (cc := cX4_isBetween) (maxL := 3) (ret := (some .boolean)) (by decide +kernel) rfl ?_
  intro p e s m args below meth c s₁ B hml hv
  obtain ⟨C0, hh, hR, rfl⟩ := ent B hml hst hv
  rw [lg_entry_eq]
  have hl := lv_entry ([.int x0, .int x1, .int x2]) (n := 3) (Nat.le_of_ble_eq_true rfl)
  generalize (lg_sl ([.int x0, .int x1, .int x2]) ++ List.replicate (3 - (lg_sl ([.int x0, .int x1, .int x2])).length) Slot.unset).toArray = ls at hl ⊢
  exact b_X4_isBetween_0 C0 hR σ x0 x1 x2 _ _ _ hh hl r0 h0

def rmX4_least : Room := { frames := 0, cells := 0, slots := 0, locals := 0 }
def f_X4_least_0 (σ : Sg) (x0 : Int32) (x1 : Int32) : Option (Int32 × Sg) :=
  (if x1 ≤ (x0 : Int32) then (some (x1, σ)) else (some (x0, σ)))
set_option maxRecDepth 100000 in
set_option maxHeartbeats 4000000 in
theorem b_X4_least_0 (C0 : Cx p l s m args meth c cX4_least 2 RX4 D cy n0) (hR : meth.sig.returnType = (some .int)) (σ : Sg) (x0 : Int32) (x1 : Int32) (H : Heap) (locs : List Loc) (ls : Array Slot) (hh : Hp D cy n0 ad nT nO s σ H locs) (hl : lv_has ls 2 [(0, .int x0), (1, .int x1)]) : Sm (Qr below args s D cy n0 ad nT nO vI 0 0) (f_X4_least_0 σ x0 x1) p l e rmX4_least s m args below meth c H locs 0 0 (F0 m 0 ls []) := by
  unfold f_X4_least_0
  refine s_iload_n C0 dX4_least_0 rfl (lv_at hl 0 rfl) ?_
  refine s_iload_n C0 dX4_least_1 rfl (lv_at hl 1 rfl) ?_
  refine s_icmp_ge (tgt := 9) C0 dX4_least_2 (by decide) (fun _ => ?_) (fun _ => ?_)
  · refine s_iload_n C0 dX4_least_9 rfl (lv_at hl 1 rfl) ?_
    exact s_iret C0 hh hR rfl (Nat.le_of_ble_eq_true rfl) (Nat.le_of_ble_eq_true rfl) dX4_least_10
  · refine s_iload_n C0 dX4_least_5 rfl (lv_at hl 0 rfl) ?_
    refine s_goto (tgt := 10) C0 dX4_least_6 (by decide) ?_
    exact s_iret C0 hh hR rfl (Nat.le_of_ble_eq_true rfl) (Nat.le_of_ble_eq_true rfl) dX4_least_10
def f_X4_least (σ : Sg) (x0 : Int32) (x1 : Int32) : Option (Int32 × Sg) := f_X4_least_0 σ x0 x1
set_option maxRecDepth 100000 in
set_option maxHeartbeats 4000000 in
theorem c_X4_least (hst : l.stackTraces = false) (σ : Sg) (x0 : Int32) (x1 : Int32) : Ct l yX4_least (wm yX4_least cX4_least 2 (some .int)) rmX4_least 0 0 vI [.int x0, .int x1] D cy n0 ad nT nO  σ (f_X4_least σ x0 x1) := by
  intro r0 h0
  refine Met.ofW (cc := cX4_least) (maxL := 2) (ret := (some .int)) (by decide +kernel) rfl ?_
  intro p e s m args below meth c s₁ B hml hv
  obtain ⟨C0, hh, hR, rfl⟩ := ent B hml hst hv
  rw [lg_entry_eq]
  have hl := lv_entry ([.int x0, .int x1]) (n := 2) (Nat.le_of_ble_eq_true rfl)
  generalize (lg_sl ([.int x0, .int x1]) ++ List.replicate (2 - (lg_sl ([.int x0, .int x1])).length) Slot.unset).toArray = ls at hl ⊢
  exact b_X4_least_0 C0 hR σ x0 x1 _ _ _ hh hl r0 h0

def rmX4_most : Room := { frames := 0, cells := 0, slots := 0, locals := 0 }
def f_X4_most_0 (σ : Sg) (x0 : Int32) (x1 : Int32) : Option (Int32 × Sg) :=
  (if (x0 : Int32) ≤ x1 then (some (x1, σ)) else (some (x0, σ)))
set_option maxRecDepth 100000 in
set_option maxHeartbeats 4000000 in
theorem b_X4_most_0 (C0 : Cx p l s m args meth c cX4_most 2 RX4 D cy n0) (hR : meth.sig.returnType = (some .int)) (σ : Sg) (x0 : Int32) (x1 : Int32) (H : Heap) (locs : List Loc) (ls : Array Slot) (hh : Hp D cy n0 ad nT nO s σ H locs) (hl : lv_has ls 2 [(0, .int x0), (1, .int x1)]) : Sm (Qr below args s D cy n0 ad nT nO vI 0 0) (f_X4_most_0 σ x0 x1) p l e rmX4_most s m args below meth c H locs 0 0 (F0 m 0 ls []) := by
  unfold f_X4_most_0
  refine s_iload_n C0 dX4_most_0 rfl (lv_at hl 0 rfl) ?_
  refine s_iload_n C0 dX4_most_1 rfl (lv_at hl 1 rfl) ?_
  refine s_icmp_le (tgt := 9) C0 dX4_most_2 (by decide) (fun _ => ?_) (fun _ => ?_)
  · refine s_iload_n C0 dX4_most_9 rfl (lv_at hl 1 rfl) ?_
    exact s_iret C0 hh hR rfl (Nat.le_of_ble_eq_true rfl) (Nat.le_of_ble_eq_true rfl) dX4_most_10
  · refine s_iload_n C0 dX4_most_5 rfl (lv_at hl 0 rfl) ?_
    refine s_goto (tgt := 10) C0 dX4_most_6 (by decide) ?_
    exact s_iret C0 hh hR rfl (Nat.le_of_ble_eq_true rfl) (Nat.le_of_ble_eq_true rfl) dX4_most_10
def f_X4_most (σ : Sg) (x0 : Int32) (x1 : Int32) : Option (Int32 × Sg) := f_X4_most_0 σ x0 x1
set_option maxRecDepth 100000 in
set_option maxHeartbeats 4000000 in
theorem c_X4_most (hst : l.stackTraces = false) (σ : Sg) (x0 : Int32) (x1 : Int32) : Ct l yX4_most (wm yX4_most cX4_most 2 (some .int)) rmX4_most 0 0 vI [.int x0, .int x1] D cy n0 ad nT nO  σ (f_X4_most σ x0 x1) := by
  intro r0 h0
  refine Met.ofW (cc := cX4_most) (maxL := 2) (ret := (some .int)) (by decide +kernel) rfl ?_
  intro p e s m args below meth c s₁ B hml hv
  obtain ⟨C0, hh, hR, rfl⟩ := ent B hml hst hv
  rw [lg_entry_eq]
  have hl := lv_entry ([.int x0, .int x1]) (n := 2) (Nat.le_of_ble_eq_true rfl)
  generalize (lg_sl ([.int x0, .int x1]) ++ List.replicate (2 - (lg_sl ([.int x0, .int x1])).length) Slot.unset).toArray = ls at hl ⊢
  exact b_X4_most_0 C0 hR σ x0 x1 _ _ _ hh hl r0 h0

def rmX4_isShape : Room := { frames := 0, cells := 0, slots := 0, locals := 0 }
def f_X4_isShape_18 (σ : Sg) : Option (Int32 × Sg) :=
  (some (1, σ))
set_option maxRecDepth 100000 in
set_option maxHeartbeats 4000000 in
theorem b_X4_isShape_18 (C0 : Cx p l s m args meth c cX4_isShape 1 RX4 D cy n0) (hR : meth.sig.returnType = (some .boolean)) (σ : Sg) (H : Heap) (locs : List Loc) (ls : Array Slot) (hh : Hp D cy n0 ad nT nO s σ H locs) (hl : lv_has ls 1 []) : Sm (Qr below args s D cy n0 ad nT nO vI 0 0) (f_X4_isShape_18 σ) p l e rmX4_isShape s m args below meth c H locs 0 0 (F0 m 18 ls []) := by
  unfold f_X4_isShape_18
  refine s_iconst (v := 1) C0 dX4_isShape_18 (by decide) ?_
  refine s_goto (tgt := 23) C0 dX4_isShape_19 (by decide) ?_
  exact s_iret C0 hh hR narrow_b1 (Nat.le_of_ble_eq_true rfl) (Nat.le_of_ble_eq_true rfl) dX4_isShape_23
def f_X4_isShape_0 (σ : Sg) (x0 : Int32) : Option (Int32 × Sg) :=
  (if (x0 : Int32) = (102 : Int32) then (f_X4_isShape_18 σ) else (if (x0 : Int32) = (104 : Int32) then (f_X4_isShape_18 σ) else (if (x0 : Int32) = (115 : Int32) then (f_X4_isShape_18 σ) else (some (0, σ)))))
set_option maxRecDepth 100000 in
set_option maxHeartbeats 4000000 in
theorem b_X4_isShape_0 (C0 : Cx p l s m args meth c cX4_isShape 1 RX4 D cy n0) (hR : meth.sig.returnType = (some .boolean)) (σ : Sg) (x0 : Int32) (H : Heap) (locs : List Loc) (ls : Array Slot) (hh : Hp D cy n0 ad nT nO s σ H locs) (hl : lv_has ls 1 [(0, .int x0)]) : Sm (Qr below args s D cy n0 ad nT nO vI 0 0) (f_X4_isShape_0 σ x0) p l e rmX4_isShape s m args below meth c H locs 0 0 (F0 m 0 ls []) := by
  unfold f_X4_isShape_0
  refine s_iload_n C0 dX4_isShape_0 rfl (lv_at hl 0 rfl) ?_
  refine s_bipush (v := 102) C0 dX4_isShape_1 (by decide) ?_
  refine s_icmp_eq (tgt := 18) C0 dX4_isShape_3 (by decide) (fun _ => ?_) (fun _ => ?_)
  · exact b_X4_isShape_18 C0 hR σ _ _ _ hh ⟨hl.1, hl.2.1, fun _ h => nomatch h⟩
  · refine s_iload_n C0 dX4_isShape_6 rfl (lv_at hl 0 rfl) ?_
    refine s_bipush (v := 104) C0 dX4_isShape_7 (by decide) ?_
    refine s_icmp_eq (tgt := 18) C0 dX4_isShape_9 (by decide) (fun _ => ?_) (fun _ => ?_)
    · exact b_X4_isShape_18 C0 hR σ _ _ _ hh ⟨hl.1, hl.2.1, fun _ h => nomatch h⟩
    · refine s_iload_n C0 dX4_isShape_12 rfl (lv_at hl 0 rfl) ?_
      refine s_bipush (v := 115) C0 dX4_isShape_13 (by decide) ?_
      refine s_icmp_ne (tgt := 22) C0 dX4_isShape_15 (by decide) (fun _ => ?_) (fun _ => ?_)
      · refine s_iconst (v := 0) C0 dX4_isShape_22 (by decide) ?_
        exact s_iret C0 hh hR narrow_b0 (Nat.le_of_ble_eq_true rfl) (Nat.le_of_ble_eq_true rfl) dX4_isShape_23
      · exact b_X4_isShape_18 C0 hR σ _ _ _ hh ⟨hl.1, hl.2.1, fun _ h => nomatch h⟩
def f_X4_isShape (σ : Sg) (x0 : Int32) : Option (Int32 × Sg) := f_X4_isShape_0 σ x0
set_option maxRecDepth 100000 in
set_option maxHeartbeats 4000000 in
theorem c_X4_isShape (hst : l.stackTraces = false) (σ : Sg) (x0 : Int32) : Ct l yX4_isShape (wm yX4_isShape cX4_isShape 1 (some .boolean)) rmX4_isShape 0 0 vI [.int x0] D cy n0 ad nT nO  σ (f_X4_isShape σ x0) := by
  intro r0 h0
  refine Met.ofW (cc := cX4_isShape) (maxL := 1) (ret := (some .boolean)) (by decide +kernel) rfl ?_
  intro p e s m args below meth c s₁ B hml hv
  obtain ⟨C0, hh, hR, rfl⟩ := ent B hml hst hv
  rw [lg_entry_eq]
  have hl := lv_entry ([.int x0]) (n := 1) (Nat.le_of_ble_eq_true rfl)
  generalize (lg_sl ([.int x0]) ++ List.replicate (1 - (lg_sl ([.int x0])).length) Slot.unset).toArray = ls at hl ⊢
  exact b_X4_isShape_0 C0 hR σ x0 _ _ _ hh hl r0 h0

def rmX4_isCut : Room := { frames := 0, cells := 0, slots := 0, locals := 0 }
def f_X4_isCut_18 (σ : Sg) : Option (Int32 × Sg) :=
  (some (1, σ))
set_option maxRecDepth 100000 in
set_option maxHeartbeats 4000000 in
theorem b_X4_isCut_18 (C0 : Cx p l s m args meth c cX4_isCut 1 RX4 D cy n0) (hR : meth.sig.returnType = (some .boolean)) (σ : Sg) (H : Heap) (locs : List Loc) (ls : Array Slot) (hh : Hp D cy n0 ad nT nO s σ H locs) (hl : lv_has ls 1 []) : Sm (Qr below args s D cy n0 ad nT nO vI 0 0) (f_X4_isCut_18 σ) p l e rmX4_isCut s m args below meth c H locs 0 0 (F0 m 18 ls []) := by
  unfold f_X4_isCut_18
  refine s_iconst (v := 1) C0 dX4_isCut_18 (by decide) ?_
  refine s_goto (tgt := 23) C0 dX4_isCut_19 (by decide) ?_
  exact s_iret C0 hh hR narrow_b1 (Nat.le_of_ble_eq_true rfl) (Nat.le_of_ble_eq_true rfl) dX4_isCut_23
def f_X4_isCut_0 (σ : Sg) (x0 : Int32) : Option (Int32 × Sg) :=
  (if (x0 : Int32) = (98 : Int32) then (f_X4_isCut_18 σ) else (if (x0 : Int32) = (115 : Int32) then (f_X4_isCut_18 σ) else (if (x0 : Int32) = (109 : Int32) then (f_X4_isCut_18 σ) else (some (0, σ)))))
set_option maxRecDepth 100000 in
set_option maxHeartbeats 4000000 in
theorem b_X4_isCut_0 (C0 : Cx p l s m args meth c cX4_isCut 1 RX4 D cy n0) (hR : meth.sig.returnType = (some .boolean)) (σ : Sg) (x0 : Int32) (H : Heap) (locs : List Loc) (ls : Array Slot) (hh : Hp D cy n0 ad nT nO s σ H locs) (hl : lv_has ls 1 [(0, .int x0)]) : Sm (Qr below args s D cy n0 ad nT nO vI 0 0) (f_X4_isCut_0 σ x0) p l e rmX4_isCut s m args below meth c H locs 0 0 (F0 m 0 ls []) := by
  unfold f_X4_isCut_0
  refine s_iload_n C0 dX4_isCut_0 rfl (lv_at hl 0 rfl) ?_
  refine s_bipush (v := 98) C0 dX4_isCut_1 (by decide) ?_
  refine s_icmp_eq (tgt := 18) C0 dX4_isCut_3 (by decide) (fun _ => ?_) (fun _ => ?_)
  · exact b_X4_isCut_18 C0 hR σ _ _ _ hh ⟨hl.1, hl.2.1, fun _ h => nomatch h⟩
  · refine s_iload_n C0 dX4_isCut_6 rfl (lv_at hl 0 rfl) ?_
    refine s_bipush (v := 115) C0 dX4_isCut_7 (by decide) ?_
    refine s_icmp_eq (tgt := 18) C0 dX4_isCut_9 (by decide) (fun _ => ?_) (fun _ => ?_)
    · exact b_X4_isCut_18 C0 hR σ _ _ _ hh ⟨hl.1, hl.2.1, fun _ h => nomatch h⟩
    · refine s_iload_n C0 dX4_isCut_12 rfl (lv_at hl 0 rfl) ?_
      refine s_bipush (v := 109) C0 dX4_isCut_13 (by decide) ?_
      refine s_icmp_ne (tgt := 22) C0 dX4_isCut_15 (by decide) (fun _ => ?_) (fun _ => ?_)
      · refine s_iconst (v := 0) C0 dX4_isCut_22 (by decide) ?_
        exact s_iret C0 hh hR narrow_b0 (Nat.le_of_ble_eq_true rfl) (Nat.le_of_ble_eq_true rfl) dX4_isCut_23
      · exact b_X4_isCut_18 C0 hR σ _ _ _ hh ⟨hl.1, hl.2.1, fun _ h => nomatch h⟩
def f_X4_isCut (σ : Sg) (x0 : Int32) : Option (Int32 × Sg) := f_X4_isCut_0 σ x0
set_option maxRecDepth 100000 in
set_option maxHeartbeats 4000000 in
theorem c_X4_isCut (hst : l.stackTraces = false) (σ : Sg) (x0 : Int32) : Ct l yX4_isCut (wm yX4_isCut cX4_isCut 1 (some .boolean)) rmX4_isCut 0 0 vI [.int x0] D cy n0 ad nT nO  σ (f_X4_isCut σ x0) := by
  intro r0 h0
  refine Met.ofW (cc := cX4_isCut) (maxL := 1) (ret := (some .boolean)) (by decide +kernel) rfl ?_
  intro p e s m args below meth c s₁ B hml hv
  obtain ⟨C0, hh, hR, rfl⟩ := ent B hml hst hv
  rw [lg_entry_eq]
  have hl := lv_entry ([.int x0]) (n := 1) (Nat.le_of_ble_eq_true rfl)
  generalize (lg_sl ([.int x0]) ++ List.replicate (1 - (lg_sl ([.int x0])).length) Slot.unset).toArray = ls at hl ⊢
  exact b_X4_isCut_0 C0 hR σ x0 _ _ _ hh hl r0 h0

def rmX4_pitchOf : Room := { frames := 0, cells := 0, slots := 0, locals := 0 }
def f_X4_pitchOf_0 (σ : Sg) (x0 : Int32) : Option (Int32 × Sg) :=
  (if (x0 : Int32) = (98 : Int32) then (some (6, σ)) else (if (x0 : Int32) = (115 : Int32) then (some (4, σ)) else (some (3, σ))))
set_option maxRecDepth 100000 in
set_option maxHeartbeats 4000000 in
theorem b_X4_pitchOf_0 (C0 : Cx p l s m args meth c cX4_pitchOf 1 RX4 D cy n0) (hR : meth.sig.returnType = (some .int)) (σ : Sg) (x0 : Int32) (H : Heap) (locs : List Loc) (ls : Array Slot) (hh : Hp D cy n0 ad nT nO s σ H locs) (hl : lv_has ls 1 [(0, .int x0)]) : Sm (Qr below args s D cy n0 ad nT nO vI 0 0) (f_X4_pitchOf_0 σ x0) p l e rmX4_pitchOf s m args below meth c H locs 0 0 (F0 m 0 ls []) := by
  unfold f_X4_pitchOf_0
  refine s_iload_n C0 dX4_pitchOf_0 rfl (lv_at hl 0 rfl) ?_
  refine s_bipush (v := 98) C0 dX4_pitchOf_1 (by decide) ?_
  refine s_icmp_ne (tgt := 11) C0 dX4_pitchOf_3 (by decide) (fun _ => ?_) (fun _ => ?_)
  · refine s_iload_n C0 dX4_pitchOf_11 rfl (lv_at hl 0 rfl) ?_
    refine s_bipush (v := 115) C0 dX4_pitchOf_12 (by decide) ?_
    refine s_icmp_ne (tgt := 21) C0 dX4_pitchOf_14 (by decide) (fun _ => ?_) (fun _ => ?_)
    · refine s_iconst (v := 3) C0 dX4_pitchOf_21 (by decide) ?_
      exact s_iret C0 hh hR rfl (Nat.le_of_ble_eq_true rfl) (Nat.le_of_ble_eq_true rfl) dX4_pitchOf_22
    · refine s_iconst (v := 4) C0 dX4_pitchOf_17 (by decide) ?_
      refine s_goto (tgt := 22) C0 dX4_pitchOf_18 (by decide) ?_
      exact s_iret C0 hh hR rfl (Nat.le_of_ble_eq_true rfl) (Nat.le_of_ble_eq_true rfl) dX4_pitchOf_22
  · refine s_bipush (v := 6) C0 dX4_pitchOf_6 (by decide) ?_
    refine s_goto (tgt := 22) C0 dX4_pitchOf_8 (by decide) ?_
    exact s_iret C0 hh hR rfl (Nat.le_of_ble_eq_true rfl) (Nat.le_of_ble_eq_true rfl) dX4_pitchOf_22
def f_X4_pitchOf (σ : Sg) (x0 : Int32) : Option (Int32 × Sg) := f_X4_pitchOf_0 σ x0
set_option maxRecDepth 100000 in
set_option maxHeartbeats 4000000 in
theorem c_X4_pitchOf (hst : l.stackTraces = false) (σ : Sg) (x0 : Int32) : Ct l yX4_pitchOf (wm yX4_pitchOf cX4_pitchOf 1 (some .int)) rmX4_pitchOf 0 0 vI [.int x0] D cy n0 ad nT nO  σ (f_X4_pitchOf σ x0) := by
  intro r0 h0
  refine Met.ofW (cc := cX4_pitchOf) (maxL := 1) (ret := (some .int)) (by decide +kernel) rfl ?_
  intro p e s m args below meth c s₁ B hml hv
  obtain ⟨C0, hh, hR, rfl⟩ := ent B hml hst hv
  rw [lg_entry_eq]
  have hl := lv_entry ([.int x0]) (n := 1) (Nat.le_of_ble_eq_true rfl)
  generalize (lg_sl ([.int x0]) ++ List.replicate (1 - (lg_sl ([.int x0])).length) Slot.unset).toArray = ls at hl ⊢
  exact b_X4_pitchOf_0 C0 hR σ x0 _ _ _ hh hl r0 h0

def rmX4_depthOf : Room := { frames := 0, cells := 0, slots := 0, locals := 0 }
def f_X4_depthOf_34 (σ : Sg) (s0 : Int32) (s1 : Int32) : Option (Int32 × Sg) :=
  (some ((s1 - s0), σ))
set_option maxRecDepth 100000 in
set_option maxHeartbeats 4000000 in
theorem b_X4_depthOf_34 (C0 : Cx p l s m args meth c cX4_depthOf 2 RX4 D cy n0) (hR : meth.sig.returnType = (some .int)) (σ : Sg) (s0 : Int32) (s1 : Int32) (H : Heap) (locs : List Loc) (ls : Array Slot) (hh : Hp D cy n0 ad nT nO s σ H locs) (hl : lv_has ls 2 []) : Sm (Qr below args s D cy n0 ad nT nO vI 0 0) (f_X4_depthOf_34 σ s0 s1) p l e rmX4_depthOf s m args below meth c H locs 0 0 (F0 m 34 ls [.int s0, .int s1]) := by
  unfold f_X4_depthOf_34
  refine s_isub C0 dX4_depthOf_34 ?_
  exact s_iret C0 hh hR rfl (Nat.le_of_ble_eq_true rfl) (Nat.le_of_ble_eq_true rfl) dX4_depthOf_35
def f_X4_depthOf_23 (σ : Sg) (x0 : Int32) (s0 : Int32) : Option (Int32 × Sg) :=
  (if (x0 : Int32) = (104 : Int32) then (f_X4_depthOf_34 σ 1 s0) else (f_X4_depthOf_34 σ 0 s0))
set_option maxRecDepth 100000 in
set_option maxHeartbeats 4000000 in
theorem b_X4_depthOf_23 (C0 : Cx p l s m args meth c cX4_depthOf 2 RX4 D cy n0) (hR : meth.sig.returnType = (some .int)) (σ : Sg) (x0 : Int32) (s0 : Int32) (H : Heap) (locs : List Loc) (ls : Array Slot) (hh : Hp D cy n0 ad nT nO s σ H locs) (hl : lv_has ls 2 [(0, .int x0)]) : Sm (Qr below args s D cy n0 ad nT nO vI 0 0) (f_X4_depthOf_23 σ x0 s0) p l e rmX4_depthOf s m args below meth c H locs 0 0 (F0 m 23 ls [.int s0]) := by
  unfold f_X4_depthOf_23
  refine s_iload_n C0 dX4_depthOf_23 rfl (lv_at hl 0 rfl) ?_
  refine s_bipush (v := 104) C0 dX4_depthOf_24 (by decide) ?_
  refine s_icmp_ne (tgt := 33) C0 dX4_depthOf_26 (by decide) (fun _ => ?_) (fun _ => ?_)
  · refine s_iconst (v := 0) C0 dX4_depthOf_33 (by decide) ?_
    exact b_X4_depthOf_34 C0 hR σ 0 s0 _ _ _ hh ⟨hl.1, hl.2.1, fun _ h => nomatch h⟩
  · refine s_iconst (v := 1) C0 dX4_depthOf_29 (by decide) ?_
    refine s_goto (tgt := 34) C0 dX4_depthOf_30 (by decide) ?_
    exact b_X4_depthOf_34 C0 hR σ 1 s0 _ _ _ hh ⟨hl.1, hl.2.1, fun _ h => nomatch h⟩
def f_X4_depthOf_0 (σ : Sg) (x0 : Int32) (x1 : Int32) : Option (Int32 × Sg) :=
  (if (x1 : Int32) = (98 : Int32) then (f_X4_depthOf_23 σ x0 9) else (if (x1 : Int32) = (115 : Int32) then (f_X4_depthOf_23 σ x0 6) else (f_X4_depthOf_23 σ x0 4)))
set_option maxRecDepth 100000 in
set_option maxHeartbeats 4000000 in
theorem b_X4_depthOf_0 (C0 : Cx p l s m args meth c cX4_depthOf 2 RX4 D cy n0) (hR : meth.sig.returnType = (some .int)) (σ : Sg) (x0 : Int32) (x1 : Int32) (H : Heap) (locs : List Loc) (ls : Array Slot) (hh : Hp D cy n0 ad nT nO s σ H locs) (hl : lv_has ls 2 [(0, .int x0), (1, .int x1)]) : Sm (Qr below args s D cy n0 ad nT nO vI 0 0) (f_X4_depthOf_0 σ x0 x1) p l e rmX4_depthOf s m args below meth c H locs 0 0 (F0 m 0 ls []) := by
  unfold f_X4_depthOf_0
  refine s_iload_n C0 dX4_depthOf_0 rfl (lv_at hl 1 rfl) ?_
  refine s_bipush (v := 98) C0 dX4_depthOf_1 (by decide) ?_
  refine s_icmp_ne (tgt := 11) C0 dX4_depthOf_3 (by decide) (fun _ => ?_) (fun _ => ?_)
  · refine s_iload_n C0 dX4_depthOf_11 rfl (lv_at hl 1 rfl) ?_
    refine s_bipush (v := 115) C0 dX4_depthOf_12 (by decide) ?_
    refine s_icmp_ne (tgt := 22) C0 dX4_depthOf_14 (by decide) (fun _ => ?_) (fun _ => ?_)
    · refine s_iconst (v := 4) C0 dX4_depthOf_22 (by decide) ?_
      exact b_X4_depthOf_23 C0 hR σ x0 4 _ _ _ hh (lv_sub hl [0] rfl)
    · refine s_bipush (v := 6) C0 dX4_depthOf_17 (by decide) ?_
      refine s_goto (tgt := 23) C0 dX4_depthOf_19 (by decide) ?_
      exact b_X4_depthOf_23 C0 hR σ x0 6 _ _ _ hh (lv_sub hl [0] rfl)
  · refine s_bipush (v := 9) C0 dX4_depthOf_6 (by decide) ?_
    refine s_goto (tgt := 23) C0 dX4_depthOf_8 (by decide) ?_
    exact b_X4_depthOf_23 C0 hR σ x0 9 _ _ _ hh (lv_sub hl [0] rfl)
def f_X4_depthOf (σ : Sg) (x0 : Int32) (x1 : Int32) : Option (Int32 × Sg) := f_X4_depthOf_0 σ x0 x1
set_option maxRecDepth 100000 in
set_option maxHeartbeats 4000000 in
theorem c_X4_depthOf (hst : l.stackTraces = false) (σ : Sg) (x0 : Int32) (x1 : Int32) : Ct l yX4_depthOf (wm yX4_depthOf cX4_depthOf 2 (some .int)) rmX4_depthOf 0 0 vI [.int x0, .int x1] D cy n0 ad nT nO  σ (f_X4_depthOf σ x0 x1) := by
  intro r0 h0
  refine Met.ofW (cc := cX4_depthOf) (maxL := 2) (ret := (some .int)) (by decide +kernel) rfl ?_
  intro p e s m args below meth c s₁ B hml hv
  obtain ⟨C0, hh, hR, rfl⟩ := ent B hml hst hv
  rw [lg_entry_eq]
  have hl := lv_entry ([.int x0, .int x1]) (n := 2) (Nat.le_of_ble_eq_true rfl)
  generalize (lg_sl ([.int x0, .int x1]) ++ List.replicate (2 - (lg_sl ([.int x0, .int x1])).length) Slot.unset).toArray = ls at hl ⊢
  exact b_X4_depthOf_0 C0 hR σ x0 x1 _ _ _ hh hl r0 h0
theorem qc50 {R : Room} {s : State} {args : Array Value} (ht : ∀ w ∈ allw, w.before args s = true) (hR : (rmX4_isBetween).frames + 1 ≤ R.frames ∧ 8 + (3 + 11) + (rmX4_isBetween).locals ≤ R.locals) : CallB R s args RX4 94 yX4_isBetween cX4_isBetween 3 (some .boolean) (wm yX4_isBetween cX4_isBetween 3 (some .boolean)) rmX4_isBetween 0 0 3 ∧ (Cond.static yX4_isBetween).before args s = true := cwS 3 ht (gd_of (fun _ h => h) _ (mS w308 w311 w310 w309)) rfl rfl rfl (by decide +kernel) hR
theorem qc51 {R : Room} {s : State} {args : Array Value} (ht : ∀ w ∈ allw, w.before args s = true) (hR : (rmX4_isWrong).frames + 1 ≤ R.frames ∧ 8 + (2 + 11) + (rmX4_isWrong).locals ≤ R.locals) : CallW R s args RX4 RX4 98 yX4_isWrong cX4_isWrong 2 (some .boolean) (wm yX4_isWrong cX4_isWrong 2 (some .boolean)) rmX4_isWrong 0 0 1 := cwV 1 ht (gd_of (fun _ h => h) _ (mV w312 w314 w315 w310 w313)) rfl rfl rfl (by decide +kernel) hR
def rmX4_isNone : Room := { frames := 1, cells := 0, slots := 0, locals := 22 }
def f_X4_isNone_29 (σ : Sg) (s0 : Int32) : Option (Int32 × Sg) :=
  ((f_X4_isWrong σ s0).bind (fun r2 => (if r2.1 = 0 ∨ r2.1 = 1 then (some (r2.1, r2.2)) else none)))
set_option maxRecDepth 100000 in
set_option maxHeartbeats 4000000 in
theorem b_X4_isNone_29 (C0 : Cx p l s m args meth c cX4_isNone 2 RX4 D cy n0) (hR : meth.sig.returnType = (some .boolean)) (σ : Sg) (s0 : Int32) (H : Heap) (locs : List Loc) (ls : Array Slot) (hh : Hp D cy n0 ad nT nO s σ H locs) (hl : lv_has ls 2 []) : Sm (Qr below args s D cy n0 ad nT nO vI 0 0) (f_X4_isNone_29 σ s0) p l e rmX4_isNone s m args below meth c H locs 0 0 (F0 m 29 ls [.int s0, .ref (ad 7 0)]) := by
  unfold f_X4_isNone_29
  refine s_V (As := [.int s0]) (rest := []) C0 hh (c_X4_isWrong C0.2.2.2.2.2.2 _ s0) (qc51 C0.1.2.2.2.2 ⟨Nat.le_of_ble_eq_true rfl, Nat.le_of_ble_eq_true rfl⟩) (rl_b (by decide)) rfl rfl rfl hl.1 rfl (lv_room (Nat.le_of_ble_eq_true rfl)) dX4_isNone_29 ⟨Nat.le_of_ble_eq_true rfl, Nat.le_of_ble_eq_true rfl⟩ (fun r2 H locs hor2 hh => ?_)
  refine s_gd (fun hg3 => ?_)
  exact s_iret C0 hh hR (nz_of hg3) (Nat.le_of_ble_eq_true rfl) (Nat.le_of_ble_eq_true rfl) dX4_isNone_32
def f_X4_isNone_28 (σ : Sg) : Option (Int32 × Sg) :=
  (f_X4_isNone_29 σ 1)
set_option maxRecDepth 100000 in
set_option maxHeartbeats 4000000 in
theorem b_X4_isNone_28 (C0 : Cx p l s m args meth c cX4_isNone 2 RX4 D cy n0) (hR : meth.sig.returnType = (some .boolean)) (σ : Sg) (H : Heap) (locs : List Loc) (ls : Array Slot) (hh : Hp D cy n0 ad nT nO s σ H locs) (hl : lv_has ls 2 []) : Sm (Qr below args s D cy n0 ad nT nO vI 0 0) (f_X4_isNone_28 σ) p l e rmX4_isNone s m args below meth c H locs 0 0 (F0 m 28 ls [.ref (ad 7 0)]) := by
  unfold f_X4_isNone_28
  refine s_iconst (v := 1) C0 dX4_isNone_28 (by decide) ?_
  exact b_X4_isNone_29 C0 hR σ 1 _ _ _ hh ⟨hl.1, hl.2.1, fun _ h => nomatch h⟩
def f_X4_isNone_0 (σ : Sg) (x1 : Int32) : Option (Int32 × Sg) :=
  ((f_X4_isBetween σ x1 0 ((σ.1 7 0 1) - 1)).bind (fun r1 => (if (r1.1 : Int32) = (0 : Int32) then (f_X4_isNone_28 r1.2) else (if (x1 : Int32) < 0 ∨ 8 ≤ (x1 : Int32).toNatClampNeg then none else (if ((r1.2.1 8 19 (x1 : Int32).toNatClampNeg) : Int32) = (0 : Int32) then (f_X4_isNone_29 r1.2 0) else (f_X4_isNone_28 r1.2))))))
set_option maxRecDepth 100000 in
set_option maxHeartbeats 4000000 in
theorem b_X4_isNone_0 (C0 : Cx p l s m args meth c cX4_isNone 2 RX4 D cy n0) (hR : meth.sig.returnType = (some .boolean)) (σ : Sg) (x1 : Int32) (H : Heap) (locs : List Loc) (ls : Array Slot) (hh : Hp D cy n0 ad nT nO s σ H locs) (hl : lv_has ls 2 [(0, .ref (ad 7 0)), (1, .int x1)]) : Sm (Qr below args s D cy n0 ad nT nO vI 0 0) (f_X4_isNone_0 σ x1) p l e rmX4_isNone s m args below meth c H locs 0 0 (F0 m 0 ls []) := by
  unfold f_X4_isNone_0
  refine s_aload_n C0 dX4_isNone_0 rfl (lv_at hl 0 rfl) ?_
  refine s_iload_n C0 dX4_isNone_1 rfl (lv_at hl 1 rfl) ?_
  refine s_iconst (v := 0) C0 dX4_isNone_2 (by decide) ?_
  refine s_aload_n C0 dX4_isNone_3 rfl (lv_at hl 0 rfl) ?_
  refine s_get (v := .int (σ.1 7 0 1)) C0 hh (rl_b (by decide)) rfl (T := TX4) (N := 28) rfl hinX4 (by decide) w307 rfl dX4_isNone_4 ?_
  refine s_iconst (v := 1) C0 dX4_isNone_7 (by decide) ?_
  refine s_isub C0 dX4_isNone_8 ?_
  refine s_S (As := [.int x1, .int 0, .int ((σ.1 7 0 1) - 1)]) (rest := [.ref (ad 7 0)]) C0 hh (c_X4_isBetween C0.2.2.2.2.2.2 _ x1 0 ((σ.1 7 0 1) - 1)) (qc50 C0.1.2.2.2.2 ⟨Nat.le_of_ble_eq_true rfl, Nat.le_of_ble_eq_true rfl⟩) rfl hl.1 rfl (lv_room (Nat.le_of_ble_eq_true rfl)) dX4_isNone_9 ⟨Nat.le_of_ble_eq_true rfl, Nat.le_of_ble_eq_true rfl⟩ (fun r1 H locs hor1 hh => ?_)
  refine s_if_eq (tgt := 28) C0 dX4_isNone_12 (by decide) (fun _ => ?_) (fun _ => ?_)
  · exact b_X4_isNone_28 C0 hR r1.2 _ _ _ hh ⟨hl.1, hl.2.1, fun _ h => nomatch h⟩
  · refine s_aload_n C0 dX4_isNone_15 rfl (lv_at hl 0 rfl) ?_
    refine s_get (v := .ref (ad 8 19)) C0 hh (rl_b (by decide)) rfl (T := TX4) (N := 28) rfl hinX4 (by decide) w53 rfl dX4_isNone_16 ?_
    refine s_iload_n C0 dX4_isNone_19 rfl (lv_at hl 1 rfl) ?_
    refine s_zald (g := (r1.2.1 8 19)) C0 hh rfl (rl_b (by decide)) (fun _ => rfl) (t0 := 2) rfl dX4_isNone_20 ?_
    refine s_if_ne (tgt := 28) C0 dX4_isNone_21 (by decide) (fun _ => ?_) (fun _ => ?_)
    · exact b_X4_isNone_28 C0 hR r1.2 _ _ _ hh ⟨hl.1, hl.2.1, fun _ h => nomatch h⟩
    · refine s_iconst (v := 0) C0 dX4_isNone_24 (by decide) ?_
      refine s_goto (tgt := 29) C0 dX4_isNone_25 (by decide) ?_
      exact b_X4_isNone_29 C0 hR r1.2 0 _ _ _ hh ⟨hl.1, hl.2.1, fun _ h => nomatch h⟩
def f_X4_isNone (σ : Sg) (x1 : Int32) : Option (Int32 × Sg) := f_X4_isNone_0 σ x1
set_option maxRecDepth 100000 in
set_option maxHeartbeats 4000000 in
theorem c_X4_isNone (hst : l.stackTraces = false) (σ : Sg) (x1 : Int32) : Ct l yX4_isNone (wm yX4_isNone cX4_isNone 2 (some .boolean)) rmX4_isNone 0 0 vI [.ref (ad 7 0), .int x1] D cy n0 ad nT nO  σ (f_X4_isNone σ x1) := by
  intro r0 h0
  refine Met.ofW (cc := cX4_isNone) (maxL := 2) (ret := (some .boolean)) (by decide +kernel) rfl ?_
  intro p e s m args below meth c s₁ B hml hv
  obtain ⟨C0, hh, hR, rfl⟩ := ent B hml hst hv
  rw [lg_entry_eq]
  have hl := lv_entry ([.ref (ad 7 0), .int x1]) (n := 2) (Nat.le_of_ble_eq_true rfl)
  generalize (lg_sl ([.ref (ad 7 0), .int x1]) ++ List.replicate (2 - (lg_sl ([.ref (ad 7 0), .int x1])).length) Slot.unset).toArray = ls at hl ⊢
  exact b_X4_isNone_0 C0 hR σ x1 _ _ _ hh hl r0 h0
theorem qc52 {R : Room} {s : State} {args : Array Value} (ht : ∀ w ∈ allw, w.before args s = true) (hR : (rmX4_depthOf).frames + 1 ≤ R.frames ∧ 8 + (2 + 11) + (rmX4_depthOf).locals ≤ R.locals) : CallB R s args RX4 102 yX4_depthOf cX4_depthOf 2 (some .int) (wm yX4_depthOf cX4_depthOf 2 (some .int)) rmX4_depthOf 0 0 2 ∧ (Cond.static yX4_depthOf).before args s = true := cwS 2 ht (gd_of (fun _ h => h) _ (mS w316 w318 w310 w317)) rfl rfl rfl (by decide +kernel) hR
def rmX4_depth : Room := { frames := 1, cells := 0, slots := 0, locals := 21 }
def f_X4_depth_0 (σ : Sg) (x1 : Int32) : Option (Int32 × Sg) :=
  (if (x1 : Int32) < 0 ∨ 8 ≤ (x1 : Int32).toNatClampNeg then none else (if (x1 : Int32) < 0 ∨ 8 ≤ (x1 : Int32).toNatClampNeg then none else ((f_X4_depthOf σ (σ.1 8 2 (x1 : Int32).toNatClampNeg) (σ.1 8 3 (x1 : Int32).toNatClampNeg)).bind (fun r1 => (some (r1.1, r1.2))))))
set_option maxRecDepth 100000 in
set_option maxHeartbeats 4000000 in
theorem b_X4_depth_0 (C0 : Cx p l s m args meth c cX4_depth 2 RX4 D cy n0) (hR : meth.sig.returnType = (some .int)) (σ : Sg) (x1 : Int32) (H : Heap) (locs : List Loc) (ls : Array Slot) (hh : Hp D cy n0 ad nT nO s σ H locs) (hl : lv_has ls 2 [(0, .ref (ad 7 0)), (1, .int x1)]) : Sm (Qr below args s D cy n0 ad nT nO vI 0 0) (f_X4_depth_0 σ x1) p l e rmX4_depth s m args below meth c H locs 0 0 (F0 m 0 ls []) := by
  unfold f_X4_depth_0
  refine s_aload_n C0 dX4_depth_0 rfl (lv_at hl 0 rfl) ?_
  refine s_get (v := .ref (ad 8 2)) C0 hh (rl_b (by decide)) rfl (T := TX4) (N := 28) rfl hinX4 (by decide) w35 rfl dX4_depth_1 ?_
  refine s_iload_n C0 dX4_depth_4 rfl (lv_at hl 1 rfl) ?_
  refine s_cald (g := (σ.1 8 2)) C0 hh rfl (rl_b (by decide)) (fun _ => rfl) (t0 := 0) rfl dX4_depth_5 ?_
  refine s_aload_n C0 dX4_depth_6 rfl (lv_at hl 0 rfl) ?_
  refine s_get (v := .ref (ad 8 3)) C0 hh (rl_b (by decide)) rfl (T := TX4) (N := 28) rfl hinX4 (by decide) w36 rfl dX4_depth_7 ?_
  refine s_iload_n C0 dX4_depth_10 rfl (lv_at hl 1 rfl) ?_
  refine s_cald (g := (σ.1 8 3)) C0 hh rfl (rl_b (by decide)) (fun _ => rfl) (t0 := 0) rfl dX4_depth_11 ?_
  refine s_S (As := [.int (σ.1 8 2 (x1 : Int32).toNatClampNeg), .int (σ.1 8 3 (x1 : Int32).toNatClampNeg)]) (rest := []) C0 hh (c_X4_depthOf C0.2.2.2.2.2.2 _ (σ.1 8 2 (x1 : Int32).toNatClampNeg) (σ.1 8 3 (x1 : Int32).toNatClampNeg)) (qc52 C0.1.2.2.2.2 ⟨Nat.le_of_ble_eq_true rfl, Nat.le_of_ble_eq_true rfl⟩) rfl hl.1 rfl (lv_room (Nat.le_of_ble_eq_true rfl)) dX4_depth_12 ⟨Nat.le_of_ble_eq_true rfl, Nat.le_of_ble_eq_true rfl⟩ (fun r1 H locs hor1 hh => ?_)
  exact s_iret C0 hh hR rfl (Nat.le_of_ble_eq_true rfl) (Nat.le_of_ble_eq_true rfl) dX4_depth_15
def f_X4_depth (σ : Sg) (x1 : Int32) : Option (Int32 × Sg) := f_X4_depth_0 σ x1
set_option maxRecDepth 100000 in
set_option maxHeartbeats 4000000 in
theorem c_X4_depth (hst : l.stackTraces = false) (σ : Sg) (x1 : Int32) : Ct l yX4_depth (wm yX4_depth cX4_depth 2 (some .int)) rmX4_depth 0 0 vI [.ref (ad 7 0), .int x1] D cy n0 ad nT nO  σ (f_X4_depth σ x1) := by
  intro r0 h0
  refine Met.ofW (cc := cX4_depth) (maxL := 2) (ret := (some .int)) (by decide +kernel) rfl ?_
  intro p e s m args below meth c s₁ B hml hv
  obtain ⟨C0, hh, hR, rfl⟩ := ent B hml hst hv
  rw [lg_entry_eq]
  have hl := lv_entry ([.ref (ad 7 0), .int x1]) (n := 2) (Nat.le_of_ble_eq_true rfl)
  generalize (lg_sl ([.ref (ad 7 0), .int x1]) ++ List.replicate (2 - (lg_sl ([.ref (ad 7 0), .int x1])).length) Slot.unset).toArray = ls at hl ⊢
  exact b_X4_depth_0 C0 hR σ x1 _ _ _ hh hl r0 h0
theorem qc53 {R : Room} {s : State} {args : Array Value} (ht : ∀ w ∈ allw, w.before args s = true) (hR : (rmX4_pitchOf).frames + 1 ≤ R.frames ∧ 8 + (1 + 11) + (rmX4_pitchOf).locals ≤ R.locals) : CallB R s args RX4 106 yX4_pitchOf cX4_pitchOf 1 (some .int) (wm yX4_pitchOf cX4_pitchOf 1 (some .int)) rmX4_pitchOf 0 0 1 ∧ (Cond.static yX4_pitchOf).before args s = true := cwS 1 ht (gd_of (fun _ h => h) _ (mS w319 w321 w310 w320)) rfl rfl rfl (by decide +kernel) hR
def rmX4_placeOf : Room := { frames := 1, cells := 0, slots := 0, locals := 20 }
def g_X4_placeOf_5 (rec5 : Sg → Int32 → Int32 → Int32 → Int32 → Option (Int32 × Sg)) (σ : Sg) (x1 : Int32) (x2 : Int32) (x3 : Int32) (x4 : Int32) : Option (Int32 × Sg) :=
  (if x2 ≤ (x4 : Int32) then (some (x3, σ)) else (if (x1 : Int32) < 0 ∨ 8 ≤ (x1 : Int32).toNatClampNeg then none else ((f_X4_pitchOf σ (σ.1 8 3 (x1 : Int32).toNatClampNeg)).bind (fun r1 => (if (3 : Int32) = 0 then none else (if (x1 : Int32) < 0 ∨ 8 ≤ (x1 : Int32).toNatClampNeg then none else (rec5 r1.2 x1 x2 (x3 + (r1.1 + ((x4 - x4 / 3 * 3) * (r1.2.1 8 8 (x1 : Int32).toNatClampNeg)))) (x4 + 1))))))))
def f_X4_placeOf_5 : Nat → Sg → Int32 → Int32 → Int32 → Int32 → Option (Int32 × Sg)
  | 0 => fun _ _ _ _ _ => none
  | n + 1 => fun σ x1 x2 x3 x4 => g_X4_placeOf_5 (f_X4_placeOf_5 n) σ x1 x2 x3 x4
set_option maxRecDepth 100000 in
set_option maxHeartbeats 4000000 in
theorem a_X4_placeOf_5 (C0 : Cx p l s m args meth c cX4_placeOf 5 RX4 D cy n0) (hR : meth.sig.returnType = (some .int)) (rec5 : Sg → Int32 → Int32 → Int32 → Int32 → Option (Int32 × Sg)) (hrec5 : ∀ (σ : Sg) (x1 : Int32) (x2 : Int32) (x3 : Int32) (x4 : Int32) (H : Heap) (locs : List Loc) (ls : Array Slot), Hp D cy n0 ad nT nO s σ H locs → lv_has ls 5 [(0, .ref (ad 7 0)), (1, .int x1), (2, .int x2), (3, .int x3), (4, .int x4)] → Sm (Qr below args s D cy n0 ad nT nO vI 0 0) (rec5 σ x1 x2 x3 x4) p l e rmX4_placeOf s m args below meth c H locs 0 0 (F0 m 5 ls [])) (σ : Sg) (x1 : Int32) (x2 : Int32) (x3 : Int32) (x4 : Int32) (H : Heap) (locs : List Loc) (ls : Array Slot) (hh : Hp D cy n0 ad nT nO s σ H locs) (hl : lv_has ls 5 [(0, .ref (ad 7 0)), (1, .int x1), (2, .int x2), (3, .int x3), (4, .int x4)]) : Sm (Qr below args s D cy n0 ad nT nO vI 0 0) (g_X4_placeOf_5 rec5 σ x1 x2 x3 x4) p l e rmX4_placeOf s m args below meth c H locs 0 0 (F0 m 5 ls []) := by
  unfold g_X4_placeOf_5
  refine s_iload C0 dX4_placeOf_5 (lv_at hl 4 rfl) ?_
  refine s_iload_n C0 dX4_placeOf_7 rfl (lv_at hl 2 rfl) ?_
  refine s_icmp_ge (tgt := 41) C0 dX4_placeOf_8 (by decide) (fun _ => ?_) (fun _ => ?_)
  · refine s_iload_n C0 dX4_placeOf_41 rfl (lv_at hl 3 rfl) ?_
    exact s_iret C0 hh hR rfl (Nat.le_of_ble_eq_true rfl) (Nat.le_of_ble_eq_true rfl) dX4_placeOf_42
  · refine s_iload_n C0 dX4_placeOf_11 rfl (lv_at hl 3 rfl) ?_
    refine s_aload_n C0 dX4_placeOf_12 rfl (lv_at hl 0 rfl) ?_
    refine s_get (v := .ref (ad 8 3)) C0 hh (rl_b (by decide)) rfl (T := TX4) (N := 28) rfl hinX4 (by decide) w36 rfl dX4_placeOf_13 ?_
    refine s_iload_n C0 dX4_placeOf_16 rfl (lv_at hl 1 rfl) ?_
    refine s_cald (g := (σ.1 8 3)) C0 hh rfl (rl_b (by decide)) (fun _ => rfl) (t0 := 0) rfl dX4_placeOf_17 ?_
    refine s_S (As := [.int (σ.1 8 3 (x1 : Int32).toNatClampNeg)]) (rest := [.int x3]) C0 hh (c_X4_pitchOf C0.2.2.2.2.2.2 _ (σ.1 8 3 (x1 : Int32).toNatClampNeg)) (qc53 C0.1.2.2.2.2 ⟨Nat.le_of_ble_eq_true rfl, Nat.le_of_ble_eq_true rfl⟩) rfl hl.1 rfl (lv_room (Nat.le_of_ble_eq_true rfl)) dX4_placeOf_18 ⟨Nat.le_of_ble_eq_true rfl, Nat.le_of_ble_eq_true rfl⟩ (fun r1 H locs hor1 hh => ?_)
    refine s_iload C0 dX4_placeOf_21 (lv_at hl 4 rfl) ?_
    refine s_iconst (v := 3) C0 dX4_placeOf_23 (by decide) ?_
    refine s_irem C0 dX4_placeOf_24 ?_
    refine s_aload_n C0 dX4_placeOf_25 rfl (lv_at hl 0 rfl) ?_
    refine s_get (v := .ref (ad 8 8)) C0 hh (rl_b (by decide)) rfl (T := TX4) (N := 28) rfl hinX4 (by decide) w41 rfl dX4_placeOf_26 ?_
    refine s_iload_n C0 dX4_placeOf_29 rfl (lv_at hl 1 rfl) ?_
    refine s_iald (g := (r1.2.1 8 8)) C0 hh rfl (rl_b (by decide)) (fun _ => rfl) (t0 := 1) rfl dX4_placeOf_30 ?_
    refine s_imul C0 dX4_placeOf_31 ?_
    refine s_iadd C0 dX4_placeOf_32 ?_
    refine s_iadd C0 dX4_placeOf_33 ?_
    refine s_istore_n (lv' := [(3, .int (x3 + (r1.1 + ((x4 - x4 / 3 * 3) * (r1.2.1 8 8 (x1 : Int32).toNatClampNeg))))), (0, .ref (ad 7 0)), (1, .int x1), (2, .int x2), (4, .int x4)]) C0 dX4_placeOf_34 rfl hl (by decide) rfl (fun ls hl => ?_)
    refine s_iinc (k := 4) (v := (x4 + 1)) (lv' := [(4, .int (x4 + 1)), (3, .int (x3 + (r1.1 + ((x4 - x4 / 3 * 3) * (r1.2.1 8 8 (x1 : Int32).toNatClampNeg))))), (0, .ref (ad 7 0)), (1, .int x1), (2, .int x2)]) C0 dX4_placeOf_35 hl rfl rfl (by decide) rfl (fun ls hl => ?_)
    refine s_goto (tgt := 5) C0 dX4_placeOf_38 (by decide) ?_
    exact hrec5 r1.2 x1 x2 (x3 + (r1.1 + ((x4 - x4 / 3 * 3) * (r1.2.1 8 8 (x1 : Int32).toNatClampNeg)))) (x4 + 1) _ _ _ hh (lv_sub hl [2, 3, 4, 1, 0] rfl)
theorem b_X4_placeOf_5 (C0 : Cx p l s m args meth c cX4_placeOf 5 RX4 D cy n0) (hR : meth.sig.returnType = (some .int)) : ∀ (n : Nat) (σ : Sg) (x1 : Int32) (x2 : Int32) (x3 : Int32) (x4 : Int32) (H : Heap) (locs : List Loc) (ls : Array Slot) (hh : Hp D cy n0 ad nT nO s σ H locs) (hl : lv_has ls 5 [(0, .ref (ad 7 0)), (1, .int x1), (2, .int x2), (3, .int x3), (4, .int x4)]), Sm (Qr below args s D cy n0 ad nT nO vI 0 0) (f_X4_placeOf_5 n σ x1 x2 x3 x4) p l e rmX4_placeOf s m args below meth c H locs 0 0 (F0 m 5 ls []) := by
  intro n
  induction n with
  | zero => intros; intro r h; cases h
  | succ n ih => intro σ x1 x2 x3 x4 H locs ls hh hl; exact a_X4_placeOf_5 C0 hR (f_X4_placeOf_5 n) ih σ x1 x2 x3 x4 H locs ls hh hl
def f_X4_placeOf_0 (σ : Sg) (x1 : Int32) (x2 : Int32) : Option (Int32 × Sg) :=
  (f_X4_placeOf_5 70 σ x1 x2 0 0)
set_option maxRecDepth 100000 in
set_option maxHeartbeats 4000000 in
theorem b_X4_placeOf_0 (C0 : Cx p l s m args meth c cX4_placeOf 5 RX4 D cy n0) (hR : meth.sig.returnType = (some .int)) (σ : Sg) (x1 : Int32) (x2 : Int32) (H : Heap) (locs : List Loc) (ls : Array Slot) (hh : Hp D cy n0 ad nT nO s σ H locs) (hl : lv_has ls 5 [(0, .ref (ad 7 0)), (1, .int x1), (2, .int x2)]) : Sm (Qr below args s D cy n0 ad nT nO vI 0 0) (f_X4_placeOf_0 σ x1 x2) p l e rmX4_placeOf s m args below meth c H locs 0 0 (F0 m 0 ls []) := by
  unfold f_X4_placeOf_0
  refine s_iconst (v := 0) C0 dX4_placeOf_0 (by decide) ?_
  refine s_istore_n (lv' := [(3, .int 0), (0, .ref (ad 7 0)), (1, .int x1), (2, .int x2)]) C0 dX4_placeOf_1 rfl hl (by decide) rfl (fun ls hl => ?_)
  refine s_iconst (v := 0) C0 dX4_placeOf_2 (by decide) ?_
  refine s_istore (lv' := [(4, .int 0), (3, .int 0), (0, .ref (ad 7 0)), (1, .int x1), (2, .int x2)]) C0 dX4_placeOf_3 hl (by decide) rfl (fun ls hl => ?_)
  exact b_X4_placeOf_5 C0 hR 70 σ x1 x2 0 0 _ _ _ hh (lv_sub hl [2, 3, 4, 1, 0] rfl)
def f_X4_placeOf (σ : Sg) (x1 : Int32) (x2 : Int32) : Option (Int32 × Sg) := f_X4_placeOf_0 σ x1 x2
set_option maxRecDepth 100000 in
set_option maxHeartbeats 4000000 in
theorem c_X4_placeOf (hst : l.stackTraces = false) (σ : Sg) (x1 : Int32) (x2 : Int32) : Ct l yX4_placeOf (wm yX4_placeOf cX4_placeOf 5 (some .int)) rmX4_placeOf 0 0 vI [.ref (ad 7 0), .int x1, .int x2] D cy n0 ad nT nO  σ (f_X4_placeOf σ x1 x2) := by
  intro r0 h0
  refine Met.ofW (cc := cX4_placeOf) (maxL := 5) (ret := (some .int)) (by decide +kernel) rfl ?_
  intro p e s m args below meth c s₁ B hml hv
  obtain ⟨C0, hh, hR, rfl⟩ := ent B hml hst hv
  rw [lg_entry_eq]
  have hl := lv_entry ([.ref (ad 7 0), .int x1, .int x2]) (n := 5) (Nat.le_of_ble_eq_true rfl)
  generalize (lg_sl ([.ref (ad 7 0), .int x1, .int x2]) ++ List.replicate (5 - (lg_sl ([.ref (ad 7 0), .int x1, .int x2])).length) Slot.unset).toArray = ls at hl ⊢
  exact b_X4_placeOf_0 C0 hR σ x1 x2 _ _ _ hh hl r0 h0

def rmX4_doesSing : Room := { frames := 0, cells := 0, slots := 0, locals := 0 }
def f_X4_doesSing_0 (σ : Sg) (x1 : Int32) : Option (Int32 × Sg) :=
  (if (x1 : Int32) < 0 ∨ 8 ≤ (x1 : Int32).toNatClampNeg then none else (if ((σ.1 8 16 (x1 : Int32).toNatClampNeg) : Int32) < (3 : Int32) then (some (0, σ)) else (if (x1 : Int32) < 0 ∨ 8 ≤ (x1 : Int32).toNatClampNeg then none else (if ((σ.1 8 8 (x1 : Int32).toNatClampNeg) : Int32) = (0 : Int32) then (some (1, σ)) else (some (0, σ))))))
set_option maxRecDepth 100000 in
set_option maxHeartbeats 4000000 in
theorem b_X4_doesSing_0 (C0 : Cx p l s m args meth c cX4_doesSing 2 RX4 D cy n0) (hR : meth.sig.returnType = (some .boolean)) (σ : Sg) (x1 : Int32) (H : Heap) (locs : List Loc) (ls : Array Slot) (hh : Hp D cy n0 ad nT nO s σ H locs) (hl : lv_has ls 2 [(0, .ref (ad 7 0)), (1, .int x1)]) : Sm (Qr below args s D cy n0 ad nT nO vI 0 0) (f_X4_doesSing_0 σ x1) p l e rmX4_doesSing s m args below meth c H locs 0 0 (F0 m 0 ls []) := by
  unfold f_X4_doesSing_0
  refine s_aload_n C0 dX4_doesSing_0 rfl (lv_at hl 0 rfl) ?_
  refine s_get (v := .ref (ad 8 16)) C0 hh (rl_b (by decide)) rfl (T := TX4) (N := 28) rfl hinX4 (by decide) w49 rfl dX4_doesSing_1 ?_
  refine s_iload_n C0 dX4_doesSing_4 rfl (lv_at hl 1 rfl) ?_
  refine s_iald (g := (σ.1 8 16)) C0 hh rfl (rl_b (by decide)) (fun _ => rfl) (t0 := 1) rfl dX4_doesSing_5 ?_
  refine s_iconst (v := 3) C0 dX4_doesSing_6 (by decide) ?_
  refine s_icmp_lt (tgt := 23) C0 dX4_doesSing_7 (by decide) (fun _ => ?_) (fun _ => ?_)
  · refine s_iconst (v := 0) C0 dX4_doesSing_23 (by decide) ?_
    exact s_iret C0 hh hR narrow_b0 (Nat.le_of_ble_eq_true rfl) (Nat.le_of_ble_eq_true rfl) dX4_doesSing_24
  · refine s_aload_n C0 dX4_doesSing_10 rfl (lv_at hl 0 rfl) ?_
    refine s_get (v := .ref (ad 8 8)) C0 hh (rl_b (by decide)) rfl (T := TX4) (N := 28) rfl hinX4 (by decide) w41 rfl dX4_doesSing_11 ?_
    refine s_iload_n C0 dX4_doesSing_14 rfl (lv_at hl 1 rfl) ?_
    refine s_iald (g := (σ.1 8 8)) C0 hh rfl (rl_b (by decide)) (fun _ => rfl) (t0 := 1) rfl dX4_doesSing_15 ?_
    refine s_if_ne (tgt := 23) C0 dX4_doesSing_16 (by decide) (fun _ => ?_) (fun _ => ?_)
    · refine s_iconst (v := 0) C0 dX4_doesSing_23 (by decide) ?_
      exact s_iret C0 hh hR narrow_b0 (Nat.le_of_ble_eq_true rfl) (Nat.le_of_ble_eq_true rfl) dX4_doesSing_24
    · refine s_iconst (v := 1) C0 dX4_doesSing_19 (by decide) ?_
      refine s_goto (tgt := 24) C0 dX4_doesSing_20 (by decide) ?_
      exact s_iret C0 hh hR narrow_b1 (Nat.le_of_ble_eq_true rfl) (Nat.le_of_ble_eq_true rfl) dX4_doesSing_24
def f_X4_doesSing (σ : Sg) (x1 : Int32) : Option (Int32 × Sg) := f_X4_doesSing_0 σ x1
set_option maxRecDepth 100000 in
set_option maxHeartbeats 4000000 in
theorem c_X4_doesSing (hst : l.stackTraces = false) (σ : Sg) (x1 : Int32) : Ct l yX4_doesSing (wm yX4_doesSing cX4_doesSing 2 (some .boolean)) rmX4_doesSing 0 0 vI [.ref (ad 7 0), .int x1] D cy n0 ad nT nO  σ (f_X4_doesSing σ x1) := by
  intro r0 h0
  refine Met.ofW (cc := cX4_doesSing) (maxL := 2) (ret := (some .boolean)) (by decide +kernel) rfl ?_
  intro p e s m args below meth c s₁ B hml hv
  obtain ⟨C0, hh, hR, rfl⟩ := ent B hml hst hv
  rw [lg_entry_eq]
  have hl := lv_entry ([.ref (ad 7 0), .int x1]) (n := 2) (Nat.le_of_ble_eq_true rfl)
  generalize (lg_sl ([.ref (ad 7 0), .int x1]) ++ List.replicate (2 - (lg_sl ([.ref (ad 7 0), .int x1])).length) Slot.unset).toArray = ls at hl ⊢
  exact b_X4_doesSing_0 C0 hR σ x1 _ _ _ hh hl r0 h0
theorem qc54 {R : Room} {s : State} {args : Array Value} (ht : ∀ w ∈ allw, w.before args s = true) (hR : (rmX4_depth).frames + 1 ≤ R.frames ∧ 8 + (2 + 11) + (rmX4_depth).locals ≤ R.locals) : CallW R s args RX4 RX4 110 yX4_depth cX4_depth 2 (some .int) (wm yX4_depth cX4_depth 2 (some .int)) rmX4_depth 0 0 1 := cwV 1 ht (gd_of (fun _ h => h) _ (mV w322 w324 w325 w310 w323)) rfl rfl rfl (by decide +kernel) hR
def rmX4_holds : Room := { frames := 2, cells := 0, slots := 0, locals := 42 }
def f_X4_holds_39 (σ : Sg) (x1 : Int32) (s0 : Int32) (s1 : Int32) : Option (Int32 × Sg) :=
  (if (x1 : Int32) < 0 ∨ 8 ≤ (x1 : Int32).toNatClampNeg then none else (some (((s1 + s0) * (σ.1 8 16 (x1 : Int32).toNatClampNeg)), σ)))
set_option maxRecDepth 100000 in
set_option maxHeartbeats 4000000 in
theorem b_X4_holds_39 (C0 : Cx p l s m args meth c cX4_holds 2 RX4 D cy n0) (hR : meth.sig.returnType = (some .int)) (σ : Sg) (x1 : Int32) (s0 : Int32) (s1 : Int32) (H : Heap) (locs : List Loc) (ls : Array Slot) (hh : Hp D cy n0 ad nT nO s σ H locs) (hl : lv_has ls 2 [(0, .ref (ad 7 0)), (1, .int x1)]) : Sm (Qr below args s D cy n0 ad nT nO vI 0 0) (f_X4_holds_39 σ x1 s0 s1) p l e rmX4_holds s m args below meth c H locs 0 0 (F0 m 39 ls [.int s0, .int s1]) := by
  unfold f_X4_holds_39
  refine s_iadd C0 dX4_holds_39 ?_
  refine s_aload_n C0 dX4_holds_40 rfl (lv_at hl 0 rfl) ?_
  refine s_get (v := .ref (ad 8 16)) C0 hh (rl_b (by decide)) rfl (T := TX4) (N := 28) rfl hinX4 (by decide) w49 rfl dX4_holds_41 ?_
  refine s_iload_n C0 dX4_holds_44 rfl (lv_at hl 1 rfl) ?_
  refine s_iald (g := (σ.1 8 16)) C0 hh rfl (rl_b (by decide)) (fun _ => rfl) (t0 := 1) rfl dX4_holds_45 ?_
  refine s_imul C0 dX4_holds_46 ?_
  exact s_iret C0 hh hR rfl (Nat.le_of_ble_eq_true rfl) (Nat.le_of_ble_eq_true rfl) dX4_holds_47
def f_X4_holds_0 (σ : Sg) (x1 : Int32) : Option (Int32 × Sg) :=
  (if (x1 : Int32) < 0 ∨ 8 ≤ (x1 : Int32).toNatClampNeg then none else (if ((σ.1 8 16 (x1 : Int32).toNatClampNeg) : Int32) = (0 : Int32) then (some (0, σ)) else ((f_X4_depth σ x1).bind (fun r1 => (if (x1 : Int32) < 0 ∨ 8 ≤ (x1 : Int32).toNatClampNeg then none else (if ((r1.2.1 8 2 (x1 : Int32).toNatClampNeg) : Int32) = (115 : Int32) then (if (x1 : Int32) < 0 ∨ 8 ≤ (x1 : Int32).toNatClampNeg then none else (f_X4_holds_39 r1.2 x1 (r1.2.1 8 9 (x1 : Int32).toNatClampNeg) r1.1)) else (f_X4_holds_39 r1.2 x1 0 r1.1)))))))
set_option maxRecDepth 100000 in
set_option maxHeartbeats 4000000 in
theorem b_X4_holds_0 (C0 : Cx p l s m args meth c cX4_holds 2 RX4 D cy n0) (hR : meth.sig.returnType = (some .int)) (σ : Sg) (x1 : Int32) (H : Heap) (locs : List Loc) (ls : Array Slot) (hh : Hp D cy n0 ad nT nO s σ H locs) (hl : lv_has ls 2 [(0, .ref (ad 7 0)), (1, .int x1)]) : Sm (Qr below args s D cy n0 ad nT nO vI 0 0) (f_X4_holds_0 σ x1) p l e rmX4_holds s m args below meth c H locs 0 0 (F0 m 0 ls []) := by
  unfold f_X4_holds_0
  refine s_aload_n C0 dX4_holds_0 rfl (lv_at hl 0 rfl) ?_
  refine s_get (v := .ref (ad 8 16)) C0 hh (rl_b (by decide)) rfl (T := TX4) (N := 28) rfl hinX4 (by decide) w49 rfl dX4_holds_1 ?_
  refine s_iload_n C0 dX4_holds_4 rfl (lv_at hl 1 rfl) ?_
  refine s_iald (g := (σ.1 8 16)) C0 hh rfl (rl_b (by decide)) (fun _ => rfl) (t0 := 1) rfl dX4_holds_5 ?_
  refine s_if_ne (tgt := 13) C0 dX4_holds_6 (by decide) (fun _ => ?_) (fun _ => ?_)
  · refine s_aload_n C0 dX4_holds_13 rfl (lv_at hl 0 rfl) ?_
    refine s_iload_n C0 dX4_holds_14 rfl (lv_at hl 1 rfl) ?_
    refine s_V (As := [.int x1]) (rest := []) C0 hh (c_X4_depth C0.2.2.2.2.2.2 _ x1) (qc54 C0.1.2.2.2.2 ⟨Nat.le_of_ble_eq_true rfl, Nat.le_of_ble_eq_true rfl⟩) (rl_b (by decide)) rfl rfl rfl hl.1 rfl (lv_room (Nat.le_of_ble_eq_true rfl)) dX4_holds_15 ⟨Nat.le_of_ble_eq_true rfl, Nat.le_of_ble_eq_true rfl⟩ (fun r1 H locs hor1 hh => ?_)
    refine s_aload_n C0 dX4_holds_18 rfl (lv_at hl 0 rfl) ?_
    refine s_get (v := .ref (ad 8 2)) C0 hh (rl_b (by decide)) rfl (T := TX4) (N := 28) rfl hinX4 (by decide) w35 rfl dX4_holds_19 ?_
    refine s_iload_n C0 dX4_holds_22 rfl (lv_at hl 1 rfl) ?_
    refine s_cald (g := (r1.2.1 8 2)) C0 hh rfl (rl_b (by decide)) (fun _ => rfl) (t0 := 0) rfl dX4_holds_23 ?_
    refine s_bipush (v := 115) C0 dX4_holds_24 (by decide) ?_
    refine s_icmp_ne (tgt := 38) C0 dX4_holds_26 (by decide) (fun _ => ?_) (fun _ => ?_)
    · refine s_iconst (v := 0) C0 dX4_holds_38 (by decide) ?_
      exact b_X4_holds_39 C0 hR r1.2 x1 0 r1.1 _ _ _ hh (lv_sub hl [0, 1] rfl)
    · refine s_aload_n C0 dX4_holds_29 rfl (lv_at hl 0 rfl) ?_
      refine s_get (v := .ref (ad 8 9)) C0 hh (rl_b (by decide)) rfl (T := TX4) (N := 28) rfl hinX4 (by decide) w42 rfl dX4_holds_30 ?_
      refine s_iload_n C0 dX4_holds_33 rfl (lv_at hl 1 rfl) ?_
      refine s_iald (g := (r1.2.1 8 9)) C0 hh rfl (rl_b (by decide)) (fun _ => rfl) (t0 := 1) rfl dX4_holds_34 ?_
      refine s_goto (tgt := 39) C0 dX4_holds_35 (by decide) ?_
      exact b_X4_holds_39 C0 hR r1.2 x1 (r1.2.1 8 9 (x1 : Int32).toNatClampNeg) r1.1 _ _ _ hh (lv_sub hl [0, 1] rfl)
  · refine s_iconst (v := 0) C0 dX4_holds_9 (by decide) ?_
    refine s_goto (tgt := 47) C0 dX4_holds_10 (by decide) ?_
    exact s_iret C0 hh hR rfl (Nat.le_of_ble_eq_true rfl) (Nat.le_of_ble_eq_true rfl) dX4_holds_47
def f_X4_holds (σ : Sg) (x1 : Int32) : Option (Int32 × Sg) := f_X4_holds_0 σ x1
set_option maxRecDepth 100000 in
set_option maxHeartbeats 4000000 in
theorem c_X4_holds (hst : l.stackTraces = false) (σ : Sg) (x1 : Int32) : Ct l yX4_holds (wm yX4_holds cX4_holds 2 (some .int)) rmX4_holds 0 0 vI [.ref (ad 7 0), .int x1] D cy n0 ad nT nO  σ (f_X4_holds σ x1) := by
  intro r0 h0
  refine Met.ofW (cc := cX4_holds) (maxL := 2) (ret := (some .int)) (by decide +kernel) rfl ?_
  intro p e s m args below meth c s₁ B hml hv
  obtain ⟨C0, hh, hR, rfl⟩ := ent B hml hst hv
  rw [lg_entry_eq]
  have hl := lv_entry ([.ref (ad 7 0), .int x1]) (n := 2) (Nat.le_of_ble_eq_true rfl)
  generalize (lg_sl ([.ref (ad 7 0), .int x1]) ++ List.replicate (2 - (lg_sl ([.ref (ad 7 0), .int x1])).length) Slot.unset).toArray = ls at hl ⊢
  exact b_X4_holds_0 C0 hR σ x1 _ _ _ hh hl r0 h0

def rmX4_full : Room := { frames := 2, cells := 0, slots := 0, locals := 42 }
def f_X4_full_19 (σ : Sg) (s0 : Int32) (s1 : Int32) : Option (Int32 × Sg) :=
  (some ((s1 - s0), σ))
set_option maxRecDepth 100000 in
set_option maxHeartbeats 4000000 in
theorem b_X4_full_19 (C0 : Cx p l s m args meth c cX4_full 2 RX4 D cy n0) (hR : meth.sig.returnType = (some .int)) (σ : Sg) (s0 : Int32) (s1 : Int32) (H : Heap) (locs : List Loc) (ls : Array Slot) (hh : Hp D cy n0 ad nT nO s σ H locs) (hl : lv_has ls 2 []) : Sm (Qr below args s D cy n0 ad nT nO vI 0 0) (f_X4_full_19 σ s0 s1) p l e rmX4_full s m args below meth c H locs 0 0 (F0 m 19 ls [.int s0, .int s1]) := by
  unfold f_X4_full_19
  refine s_isub C0 dX4_full_19 ?_
  exact s_iret C0 hh hR rfl (Nat.le_of_ble_eq_true rfl) (Nat.le_of_ble_eq_true rfl) dX4_full_20
def f_X4_full_0 (σ : Sg) (x1 : Int32) : Option (Int32 × Sg) :=
  ((f_X4_depth σ x1).bind (fun r1 => (if (x1 : Int32) < 0 ∨ 8 ≤ (x1 : Int32).toNatClampNeg then none else (if ((r1.2.1 8 17 (x1 : Int32).toNatClampNeg) : Int32) = (0 : Int32) then (f_X4_full_19 r1.2 0 r1.1) else (f_X4_full_19 r1.2 1 r1.1)))))
set_option maxRecDepth 100000 in
set_option maxHeartbeats 4000000 in
theorem b_X4_full_0 (C0 : Cx p l s m args meth c cX4_full 2 RX4 D cy n0) (hR : meth.sig.returnType = (some .int)) (σ : Sg) (x1 : Int32) (H : Heap) (locs : List Loc) (ls : Array Slot) (hh : Hp D cy n0 ad nT nO s σ H locs) (hl : lv_has ls 2 [(0, .ref (ad 7 0)), (1, .int x1)]) : Sm (Qr below args s D cy n0 ad nT nO vI 0 0) (f_X4_full_0 σ x1) p l e rmX4_full s m args below meth c H locs 0 0 (F0 m 0 ls []) := by
  unfold f_X4_full_0
  refine s_aload_n C0 dX4_full_0 rfl (lv_at hl 0 rfl) ?_
  refine s_iload_n C0 dX4_full_1 rfl (lv_at hl 1 rfl) ?_
  refine s_V (As := [.int x1]) (rest := []) C0 hh (c_X4_depth C0.2.2.2.2.2.2 _ x1) (qc54 C0.1.2.2.2.2 ⟨Nat.le_of_ble_eq_true rfl, Nat.le_of_ble_eq_true rfl⟩) (rl_b (by decide)) rfl rfl rfl hl.1 rfl (lv_room (Nat.le_of_ble_eq_true rfl)) dX4_full_2 ⟨Nat.le_of_ble_eq_true rfl, Nat.le_of_ble_eq_true rfl⟩ (fun r1 H locs hor1 hh => ?_)
  refine s_aload_n C0 dX4_full_5 rfl (lv_at hl 0 rfl) ?_
  refine s_get (v := .ref (ad 8 17)) C0 hh (rl_b (by decide)) rfl (T := TX4) (N := 28) rfl hinX4 (by decide) w51 rfl dX4_full_6 ?_
  refine s_iload_n C0 dX4_full_9 rfl (lv_at hl 1 rfl) ?_
  refine s_zald (g := (r1.2.1 8 17)) C0 hh rfl (rl_b (by decide)) (fun _ => rfl) (t0 := 2) rfl dX4_full_10 ?_
  refine s_if_eq (tgt := 18) C0 dX4_full_11 (by decide) (fun _ => ?_) (fun _ => ?_)
  · refine s_iconst (v := 0) C0 dX4_full_18 (by decide) ?_
    exact b_X4_full_19 C0 hR r1.2 0 r1.1 _ _ _ hh ⟨hl.1, hl.2.1, fun _ h => nomatch h⟩
  · refine s_iconst (v := 1) C0 dX4_full_14 (by decide) ?_
    refine s_goto (tgt := 19) C0 dX4_full_15 (by decide) ?_
    exact b_X4_full_19 C0 hR r1.2 1 r1.1 _ _ _ hh ⟨hl.1, hl.2.1, fun _ h => nomatch h⟩
def f_X4_full (σ : Sg) (x1 : Int32) : Option (Int32 × Sg) := f_X4_full_0 σ x1
set_option maxRecDepth 100000 in
set_option maxHeartbeats 4000000 in
theorem c_X4_full (hst : l.stackTraces = false) (σ : Sg) (x1 : Int32) : Ct l yX4_full (wm yX4_full cX4_full 2 (some .int)) rmX4_full 0 0 vI [.ref (ad 7 0), .int x1] D cy n0 ad nT nO  σ (f_X4_full σ x1) := by
  intro r0 h0
  refine Met.ofW (cc := cX4_full) (maxL := 2) (ret := (some .int)) (by decide +kernel) rfl ?_
  intro p e s m args below meth c s₁ B hml hv
  obtain ⟨C0, hh, hR, rfl⟩ := ent B hml hst hv
  rw [lg_entry_eq]
  have hl := lv_entry ([.ref (ad 7 0), .int x1]) (n := 2) (Nat.le_of_ble_eq_true rfl)
  generalize (lg_sl ([.ref (ad 7 0), .int x1]) ++ List.replicate (2 - (lg_sl ([.ref (ad 7 0), .int x1])).length) Slot.unset).toArray = ls at hl ⊢
  exact b_X4_full_0 C0 hR σ x1 _ _ _ hh hl r0 h0
theorem qc55 {R : Room} {s : State} {args : Array Value} (ht : ∀ w ∈ allw, w.before args s = true) (hR : (rmX4_full).frames + 1 ≤ R.frames ∧ 8 + (2 + 11) + (rmX4_full).locals ≤ R.locals) : CallW R s args RX4 RX4 114 yX4_full cX4_full 2 (some .int) (wm yX4_full cX4_full 2 (some .int)) rmX4_full 0 0 1 := cwV 1 ht (gd_of (fun _ h => h) _ (mV w326 w328 w329 w310 w327)) rfl rfl rfl (by decide +kernel) hR
def rmX4_worn : Room := { frames := 3, cells := 0, slots := 0, locals := 63 }
def f_X4_worn_42 (rec7 : Sg → Int32 → Int32 → Int32 → Option (Int32 × Sg)) (σ : Sg) (x1 : Int32) (x3 : Int32) (s0 : Int32) (s1 : Int32) : Option (Int32 × Sg) :=
  (rec7 σ x1 (s1 + s0) (x3 + 1))
set_option maxRecDepth 100000 in
set_option maxHeartbeats 4000000 in
theorem b_X4_worn_42 (C0 : Cx p l s m args meth c cX4_worn 4 RX4 D cy n0) (hR : meth.sig.returnType = (some .int)) (rec7 : Sg → Int32 → Int32 → Int32 → Option (Int32 × Sg)) (hrec7 : ∀ (σ : Sg) (x1 : Int32) (x2 : Int32) (x3 : Int32) (H : Heap) (locs : List Loc) (ls : Array Slot), Hp D cy n0 ad nT nO s σ H locs → lv_has ls 4 [(0, .ref (ad 7 0)), (1, .int x1), (2, .int x2), (3, .int x3)] → Sm (Qr below args s D cy n0 ad nT nO vI 0 0) (rec7 σ x1 x2 x3) p l e rmX4_worn s m args below meth c H locs 0 0 (F0 m 7 ls [])) (σ : Sg) (x1 : Int32) (x3 : Int32) (s0 : Int32) (s1 : Int32) (H : Heap) (locs : List Loc) (ls : Array Slot) (hh : Hp D cy n0 ad nT nO s σ H locs) (hl : lv_has ls 4 [(0, .ref (ad 7 0)), (1, .int x1), (3, .int x3)]) : Sm (Qr below args s D cy n0 ad nT nO vI 0 0) (f_X4_worn_42 rec7 σ x1 x3 s0 s1) p l e rmX4_worn s m args below meth c H locs 0 0 (F0 m 42 ls [.int s0, .int s1]) := by
  unfold f_X4_worn_42
  refine s_iadd C0 dX4_worn_42 ?_
  refine s_istore_n (lv' := [(2, .int (s1 + s0)), (0, .ref (ad 7 0)), (1, .int x1), (3, .int x3)]) C0 dX4_worn_43 rfl hl (by decide) rfl (fun ls hl => ?_)
  refine s_iinc (k := 3) (v := (x3 + 1)) (lv' := [(3, .int (x3 + 1)), (2, .int (s1 + s0)), (0, .ref (ad 7 0)), (1, .int x1)]) C0 dX4_worn_44 hl rfl rfl (by decide) rfl (fun ls hl => ?_)
  refine s_goto (tgt := 7) C0 dX4_worn_47 (by decide) ?_
  exact hrec7 σ x1 (s1 + s0) (x3 + 1) _ _ _ hh (lv_sub hl [2, 3, 1, 0] rfl)
def g_X4_worn_7 (rec7 : Sg → Int32 → Int32 → Int32 → Option (Int32 × Sg)) (σ : Sg) (x1 : Int32) (x2 : Int32) (x3 : Int32) : Option (Int32 × Sg) :=
  (if (x1 : Int32) < 0 ∨ 8 ≤ (x1 : Int32).toNatClampNeg then none else (if ((60 * x1) + (σ.1 8 16 (x1 : Int32).toNatClampNeg)) ≤ (x3 : Int32) then (some (x2, σ)) else (if (x3 : Int32) < 0 ∨ 480 ≤ (x3 : Int32).toNatClampNeg then none else ((f_X4_full σ x1).bind (fun r1 => (if r1.1 ≤ ((σ.1 8 20 (x3 : Int32).toNatClampNeg) : Int32) then (f_X4_worn_42 rec7 r1.2 x1 x3 0 x2) else (f_X4_worn_42 rec7 r1.2 x1 x3 1 x2)))))))
def f_X4_worn_7 : Nat → Sg → Int32 → Int32 → Int32 → Option (Int32 × Sg)
  | 0 => fun _ _ _ _ => none
  | n + 1 => fun σ x1 x2 x3 => g_X4_worn_7 (f_X4_worn_7 n) σ x1 x2 x3
set_option maxRecDepth 100000 in
set_option maxHeartbeats 4000000 in
theorem a_X4_worn_7 (C0 : Cx p l s m args meth c cX4_worn 4 RX4 D cy n0) (hR : meth.sig.returnType = (some .int)) (rec7 : Sg → Int32 → Int32 → Int32 → Option (Int32 × Sg)) (hrec7 : ∀ (σ : Sg) (x1 : Int32) (x2 : Int32) (x3 : Int32) (H : Heap) (locs : List Loc) (ls : Array Slot), Hp D cy n0 ad nT nO s σ H locs → lv_has ls 4 [(0, .ref (ad 7 0)), (1, .int x1), (2, .int x2), (3, .int x3)] → Sm (Qr below args s D cy n0 ad nT nO vI 0 0) (rec7 σ x1 x2 x3) p l e rmX4_worn s m args below meth c H locs 0 0 (F0 m 7 ls [])) (σ : Sg) (x1 : Int32) (x2 : Int32) (x3 : Int32) (H : Heap) (locs : List Loc) (ls : Array Slot) (hh : Hp D cy n0 ad nT nO s σ H locs) (hl : lv_has ls 4 [(0, .ref (ad 7 0)), (1, .int x1), (2, .int x2), (3, .int x3)]) : Sm (Qr below args s D cy n0 ad nT nO vI 0 0) (g_X4_worn_7 rec7 σ x1 x2 x3) p l e rmX4_worn s m args below meth c H locs 0 0 (F0 m 7 ls []) := by
  unfold g_X4_worn_7
  refine s_iload_n C0 dX4_worn_7 rfl (lv_at hl 3 rfl) ?_
  refine s_bipush (v := 60) C0 dX4_worn_8 (by decide) ?_
  refine s_iload_n C0 dX4_worn_10 rfl (lv_at hl 1 rfl) ?_
  refine s_imul C0 dX4_worn_11 ?_
  refine s_aload_n C0 dX4_worn_12 rfl (lv_at hl 0 rfl) ?_
  refine s_get (v := .ref (ad 8 16)) C0 hh (rl_b (by decide)) rfl (T := TX4) (N := 28) rfl hinX4 (by decide) w49 rfl dX4_worn_13 ?_
  refine s_iload_n C0 dX4_worn_16 rfl (lv_at hl 1 rfl) ?_
  refine s_iald (g := (σ.1 8 16)) C0 hh rfl (rl_b (by decide)) (fun _ => rfl) (t0 := 1) rfl dX4_worn_17 ?_
  refine s_iadd C0 dX4_worn_18 ?_
  refine s_icmp_ge (tgt := 50) C0 dX4_worn_19 (by decide) (fun _ => ?_) (fun _ => ?_)
  · refine s_iload_n C0 dX4_worn_50 rfl (lv_at hl 2 rfl) ?_
    exact s_iret C0 hh hR rfl (Nat.le_of_ble_eq_true rfl) (Nat.le_of_ble_eq_true rfl) dX4_worn_51
  · refine s_iload_n C0 dX4_worn_22 rfl (lv_at hl 2 rfl) ?_
    refine s_aload_n C0 dX4_worn_23 rfl (lv_at hl 0 rfl) ?_
    refine s_get (v := .ref (ad 8 20)) C0 hh (rl_b (by decide)) rfl (T := TX4) (N := 28) rfl hinX4 (by decide) w54 rfl dX4_worn_24 ?_
    refine s_iload_n C0 dX4_worn_27 rfl (lv_at hl 3 rfl) ?_
    refine s_iald (g := (σ.1 8 20)) C0 hh rfl (rl_b (by decide)) (fun _ => rfl) (t0 := 1) rfl dX4_worn_28 ?_
    refine s_aload_n C0 dX4_worn_29 rfl (lv_at hl 0 rfl) ?_
    refine s_iload_n C0 dX4_worn_30 rfl (lv_at hl 1 rfl) ?_
    refine s_V (As := [.int x1]) (rest := [.int (σ.1 8 20 (x3 : Int32).toNatClampNeg), .int x2]) C0 hh (c_X4_full C0.2.2.2.2.2.2 _ x1) (qc55 C0.1.2.2.2.2 ⟨Nat.le_of_ble_eq_true rfl, Nat.le_of_ble_eq_true rfl⟩) (rl_b (by decide)) rfl rfl rfl hl.1 rfl (lv_room (Nat.le_of_ble_eq_true rfl)) dX4_worn_31 ⟨Nat.le_of_ble_eq_true rfl, Nat.le_of_ble_eq_true rfl⟩ (fun r1 H locs hor1 hh => ?_)
    refine s_icmp_ge (tgt := 41) C0 dX4_worn_34 (by decide) (fun _ => ?_) (fun _ => ?_)
    · refine s_iconst (v := 0) C0 dX4_worn_41 (by decide) ?_
      exact b_X4_worn_42 C0 hR rec7 hrec7 r1.2 x1 x3 0 x2 _ _ _ hh (lv_sub hl [0, 1, 3] rfl)
    · refine s_iconst (v := 1) C0 dX4_worn_37 (by decide) ?_
      refine s_goto (tgt := 42) C0 dX4_worn_38 (by decide) ?_
      exact b_X4_worn_42 C0 hR rec7 hrec7 r1.2 x1 x3 1 x2 _ _ _ hh (lv_sub hl [0, 1, 3] rfl)
theorem b_X4_worn_7 (C0 : Cx p l s m args meth c cX4_worn 4 RX4 D cy n0) (hR : meth.sig.returnType = (some .int)) : ∀ (n : Nat) (σ : Sg) (x1 : Int32) (x2 : Int32) (x3 : Int32) (H : Heap) (locs : List Loc) (ls : Array Slot) (hh : Hp D cy n0 ad nT nO s σ H locs) (hl : lv_has ls 4 [(0, .ref (ad 7 0)), (1, .int x1), (2, .int x2), (3, .int x3)]), Sm (Qr below args s D cy n0 ad nT nO vI 0 0) (f_X4_worn_7 n σ x1 x2 x3) p l e rmX4_worn s m args below meth c H locs 0 0 (F0 m 7 ls []) := by
  intro n
  induction n with
  | zero => intros; intro r h; cases h
  | succ n ih => intro σ x1 x2 x3 H locs ls hh hl; exact a_X4_worn_7 C0 hR (f_X4_worn_7 n) ih σ x1 x2 x3 H locs ls hh hl
def f_X4_worn_0 (σ : Sg) (x1 : Int32) : Option (Int32 × Sg) :=
  (f_X4_worn_7 70 σ x1 0 (60 * x1))
set_option maxRecDepth 100000 in
set_option maxHeartbeats 4000000 in
theorem b_X4_worn_0 (C0 : Cx p l s m args meth c cX4_worn 4 RX4 D cy n0) (hR : meth.sig.returnType = (some .int)) (σ : Sg) (x1 : Int32) (H : Heap) (locs : List Loc) (ls : Array Slot) (hh : Hp D cy n0 ad nT nO s σ H locs) (hl : lv_has ls 4 [(0, .ref (ad 7 0)), (1, .int x1)]) : Sm (Qr below args s D cy n0 ad nT nO vI 0 0) (f_X4_worn_0 σ x1) p l e rmX4_worn s m args below meth c H locs 0 0 (F0 m 0 ls []) := by
  unfold f_X4_worn_0
  refine s_iconst (v := 0) C0 dX4_worn_0 (by decide) ?_
  refine s_istore_n (lv' := [(2, .int 0), (0, .ref (ad 7 0)), (1, .int x1)]) C0 dX4_worn_1 rfl hl (by decide) rfl (fun ls hl => ?_)
  refine s_bipush (v := 60) C0 dX4_worn_2 (by decide) ?_
  refine s_iload_n C0 dX4_worn_4 rfl (lv_at hl 2 rfl) ?_
  refine s_imul C0 dX4_worn_5 ?_
  refine s_istore_n (lv' := [(3, .int (60 * x1)), (2, .int 0), (0, .ref (ad 7 0)), (1, .int x1)]) C0 dX4_worn_6 rfl hl (by decide) rfl (fun ls hl => ?_)
  exact b_X4_worn_7 C0 hR 70 σ x1 0 (60 * x1) _ _ _ hh (lv_sub hl [2, 3, 1, 0] rfl)
def f_X4_worn (σ : Sg) (x1 : Int32) : Option (Int32 × Sg) := f_X4_worn_0 σ x1
set_option maxRecDepth 100000 in
set_option maxHeartbeats 4000000 in
theorem c_X4_worn (hst : l.stackTraces = false) (σ : Sg) (x1 : Int32) : Ct l yX4_worn (wm yX4_worn cX4_worn 4 (some .int)) rmX4_worn 0 0 vI [.ref (ad 7 0), .int x1] D cy n0 ad nT nO  σ (f_X4_worn σ x1) := by
  intro r0 h0
  refine Met.ofW (cc := cX4_worn) (maxL := 4) (ret := (some .int)) (by decide +kernel) rfl ?_
  intro p e s m args below meth c s₁ B hml hv
  obtain ⟨C0, hh, hR, rfl⟩ := ent B hml hst hv
  rw [lg_entry_eq]
  have hl := lv_entry ([.ref (ad 7 0), .int x1]) (n := 4) (Nat.le_of_ble_eq_true rfl)
  generalize (lg_sl ([.ref (ad 7 0), .int x1]) ++ List.replicate (4 - (lg_sl ([.ref (ad 7 0), .int x1])).length) Slot.unset).toArray = ls at hl ⊢
  exact b_X4_worn_0 C0 hR σ x1 _ _ _ hh hl r0 h0

def rmX4_isWorked : Room := { frames := 0, cells := 0, slots := 0, locals := 0 }
def f_X4_isWorked_37 (rec7 : Sg → Int32 → Int32 → Int32 → Option (Int32 × Sg)) (σ : Sg) (x1 : Int32) (x3 : Int32) (s0 : Int32) (s1 : Int32) : Option (Int32 × Sg) :=
  (rec7 σ x1 (s1 ||| s0) (x3 + 1))
set_option maxRecDepth 100000 in
set_option maxHeartbeats 4000000 in
theorem b_X4_isWorked_37 (C0 : Cx p l s m args meth c cX4_isWorked 4 RX4 D cy n0) (hR : meth.sig.returnType = (some .boolean)) (rec7 : Sg → Int32 → Int32 → Int32 → Option (Int32 × Sg)) (hrec7 : ∀ (σ : Sg) (x1 : Int32) (x2 : Int32) (x3 : Int32) (H : Heap) (locs : List Loc) (ls : Array Slot), Hp D cy n0 ad nT nO s σ H locs → lv_has ls 4 [(0, .ref (ad 7 0)), (1, .int x1), (2, .int x2), (3, .int x3)] → Sm (Qr below args s D cy n0 ad nT nO vI 0 0) (rec7 σ x1 x2 x3) p l e rmX4_isWorked s m args below meth c H locs 0 0 (F0 m 7 ls [])) (σ : Sg) (x1 : Int32) (x3 : Int32) (s0 : Int32) (s1 : Int32) (H : Heap) (locs : List Loc) (ls : Array Slot) (hh : Hp D cy n0 ad nT nO s σ H locs) (hl : lv_has ls 4 [(0, .ref (ad 7 0)), (1, .int x1), (3, .int x3)]) : Sm (Qr below args s D cy n0 ad nT nO vI 0 0) (f_X4_isWorked_37 rec7 σ x1 x3 s0 s1) p l e rmX4_isWorked s m args below meth c H locs 0 0 (F0 m 37 ls [.int s0, .int s1]) := by
  unfold f_X4_isWorked_37
  refine s_ior C0 dX4_isWorked_37 ?_
  refine s_istore_n (lv' := [(2, .int (s1 ||| s0)), (0, .ref (ad 7 0)), (1, .int x1), (3, .int x3)]) C0 dX4_isWorked_38 rfl hl (by decide) rfl (fun ls hl => ?_)
  refine s_iinc (k := 3) (v := (x3 + 1)) (lv' := [(3, .int (x3 + 1)), (2, .int (s1 ||| s0)), (0, .ref (ad 7 0)), (1, .int x1)]) C0 dX4_isWorked_39 hl rfl rfl (by decide) rfl (fun ls hl => ?_)
  refine s_goto (tgt := 7) C0 dX4_isWorked_42 (by decide) ?_
  exact hrec7 σ x1 (s1 ||| s0) (x3 + 1) _ _ _ hh (lv_sub hl [2, 3, 1, 0] rfl)
def g_X4_isWorked_7 (rec7 : Sg → Int32 → Int32 → Int32 → Option (Int32 × Sg)) (σ : Sg) (x1 : Int32) (x2 : Int32) (x3 : Int32) : Option (Int32 × Sg) :=
  (if (x1 : Int32) < 0 ∨ 8 ≤ (x1 : Int32).toNatClampNeg then none else (if ((60 * x1) + (σ.1 8 16 (x1 : Int32).toNatClampNeg)) ≤ (x3 : Int32) then (if x2 = 0 ∨ x2 = 1 then (some (x2, σ)) else none) else (if (x3 : Int32) < 0 ∨ 480 ≤ (x3 : Int32).toNatClampNeg then none else (if ((σ.1 8 21 (x3 : Int32).toNatClampNeg) : Int32) = (0 : Int32) then (f_X4_isWorked_37 rec7 σ x1 x3 0 x2) else (f_X4_isWorked_37 rec7 σ x1 x3 1 x2)))))
def f_X4_isWorked_7 : Nat → Sg → Int32 → Int32 → Int32 → Option (Int32 × Sg)
  | 0 => fun _ _ _ _ => none
  | n + 1 => fun σ x1 x2 x3 => g_X4_isWorked_7 (f_X4_isWorked_7 n) σ x1 x2 x3
set_option maxRecDepth 100000 in
set_option maxHeartbeats 4000000 in
theorem a_X4_isWorked_7 (C0 : Cx p l s m args meth c cX4_isWorked 4 RX4 D cy n0) (hR : meth.sig.returnType = (some .boolean)) (rec7 : Sg → Int32 → Int32 → Int32 → Option (Int32 × Sg)) (hrec7 : ∀ (σ : Sg) (x1 : Int32) (x2 : Int32) (x3 : Int32) (H : Heap) (locs : List Loc) (ls : Array Slot), Hp D cy n0 ad nT nO s σ H locs → lv_has ls 4 [(0, .ref (ad 7 0)), (1, .int x1), (2, .int x2), (3, .int x3)] → Sm (Qr below args s D cy n0 ad nT nO vI 0 0) (rec7 σ x1 x2 x3) p l e rmX4_isWorked s m args below meth c H locs 0 0 (F0 m 7 ls [])) (σ : Sg) (x1 : Int32) (x2 : Int32) (x3 : Int32) (H : Heap) (locs : List Loc) (ls : Array Slot) (hh : Hp D cy n0 ad nT nO s σ H locs) (hl : lv_has ls 4 [(0, .ref (ad 7 0)), (1, .int x1), (2, .int x2), (3, .int x3)]) : Sm (Qr below args s D cy n0 ad nT nO vI 0 0) (g_X4_isWorked_7 rec7 σ x1 x2 x3) p l e rmX4_isWorked s m args below meth c H locs 0 0 (F0 m 7 ls []) := by
  unfold g_X4_isWorked_7
  refine s_iload_n C0 dX4_isWorked_7 rfl (lv_at hl 3 rfl) ?_
  refine s_bipush (v := 60) C0 dX4_isWorked_8 (by decide) ?_
  refine s_iload_n C0 dX4_isWorked_10 rfl (lv_at hl 1 rfl) ?_
  refine s_imul C0 dX4_isWorked_11 ?_
  refine s_aload_n C0 dX4_isWorked_12 rfl (lv_at hl 0 rfl) ?_
  refine s_get (v := .ref (ad 8 16)) C0 hh (rl_b (by decide)) rfl (T := TX4) (N := 28) rfl hinX4 (by decide) w49 rfl dX4_isWorked_13 ?_
  refine s_iload_n C0 dX4_isWorked_16 rfl (lv_at hl 1 rfl) ?_
  refine s_iald (g := (σ.1 8 16)) C0 hh rfl (rl_b (by decide)) (fun _ => rfl) (t0 := 1) rfl dX4_isWorked_17 ?_
  refine s_iadd C0 dX4_isWorked_18 ?_
  refine s_icmp_ge (tgt := 45) C0 dX4_isWorked_19 (by decide) (fun _ => ?_) (fun _ => ?_)
  · refine s_iload_n C0 dX4_isWorked_45 rfl (lv_at hl 2 rfl) ?_
    refine s_gd (fun hg1 => ?_)
    exact s_iret C0 hh hR (nz_of hg1) (Nat.le_of_ble_eq_true rfl) (Nat.le_of_ble_eq_true rfl) dX4_isWorked_46
  · refine s_iload_n C0 dX4_isWorked_22 rfl (lv_at hl 2 rfl) ?_
    refine s_aload_n C0 dX4_isWorked_23 rfl (lv_at hl 0 rfl) ?_
    refine s_get (v := .ref (ad 8 21)) C0 hh (rl_b (by decide)) rfl (T := TX4) (N := 28) rfl hinX4 (by decide) w55 rfl dX4_isWorked_24 ?_
    refine s_iload_n C0 dX4_isWorked_27 rfl (lv_at hl 3 rfl) ?_
    refine s_iald (g := (σ.1 8 21)) C0 hh rfl (rl_b (by decide)) (fun _ => rfl) (t0 := 1) rfl dX4_isWorked_28 ?_
    refine s_if_eq (tgt := 36) C0 dX4_isWorked_29 (by decide) (fun _ => ?_) (fun _ => ?_)
    · refine s_iconst (v := 0) C0 dX4_isWorked_36 (by decide) ?_
      exact b_X4_isWorked_37 C0 hR rec7 hrec7 σ x1 x3 0 x2 _ _ _ hh (lv_sub hl [0, 1, 3] rfl)
    · refine s_iconst (v := 1) C0 dX4_isWorked_32 (by decide) ?_
      refine s_goto (tgt := 37) C0 dX4_isWorked_33 (by decide) ?_
      exact b_X4_isWorked_37 C0 hR rec7 hrec7 σ x1 x3 1 x2 _ _ _ hh (lv_sub hl [0, 1, 3] rfl)
theorem b_X4_isWorked_7 (C0 : Cx p l s m args meth c cX4_isWorked 4 RX4 D cy n0) (hR : meth.sig.returnType = (some .boolean)) : ∀ (n : Nat) (σ : Sg) (x1 : Int32) (x2 : Int32) (x3 : Int32) (H : Heap) (locs : List Loc) (ls : Array Slot) (hh : Hp D cy n0 ad nT nO s σ H locs) (hl : lv_has ls 4 [(0, .ref (ad 7 0)), (1, .int x1), (2, .int x2), (3, .int x3)]), Sm (Qr below args s D cy n0 ad nT nO vI 0 0) (f_X4_isWorked_7 n σ x1 x2 x3) p l e rmX4_isWorked s m args below meth c H locs 0 0 (F0 m 7 ls []) := by
  intro n
  induction n with
  | zero => intros; intro r h; cases h
  | succ n ih => intro σ x1 x2 x3 H locs ls hh hl; exact a_X4_isWorked_7 C0 hR (f_X4_isWorked_7 n) ih σ x1 x2 x3 H locs ls hh hl
def f_X4_isWorked_0 (σ : Sg) (x1 : Int32) : Option (Int32 × Sg) :=
  (f_X4_isWorked_7 70 σ x1 0 (60 * x1))
set_option maxRecDepth 100000 in
set_option maxHeartbeats 4000000 in
theorem b_X4_isWorked_0 (C0 : Cx p l s m args meth c cX4_isWorked 4 RX4 D cy n0) (hR : meth.sig.returnType = (some .boolean)) (σ : Sg) (x1 : Int32) (H : Heap) (locs : List Loc) (ls : Array Slot) (hh : Hp D cy n0 ad nT nO s σ H locs) (hl : lv_has ls 4 [(0, .ref (ad 7 0)), (1, .int x1)]) : Sm (Qr below args s D cy n0 ad nT nO vI 0 0) (f_X4_isWorked_0 σ x1) p l e rmX4_isWorked s m args below meth c H locs 0 0 (F0 m 0 ls []) := by
  unfold f_X4_isWorked_0
  refine s_iconst (v := 0) C0 dX4_isWorked_0 (by decide) ?_
  refine s_istore_n (lv' := [(2, .int 0), (0, .ref (ad 7 0)), (1, .int x1)]) C0 dX4_isWorked_1 rfl hl (by decide) rfl (fun ls hl => ?_)
  refine s_bipush (v := 60) C0 dX4_isWorked_2 (by decide) ?_
  refine s_iload_n C0 dX4_isWorked_4 rfl (lv_at hl 2 rfl) ?_
  refine s_imul C0 dX4_isWorked_5 ?_
  refine s_istore_n (lv' := [(3, .int (60 * x1)), (2, .int 0), (0, .ref (ad 7 0)), (1, .int x1)]) C0 dX4_isWorked_6 rfl hl (by decide) rfl (fun ls hl => ?_)
  exact b_X4_isWorked_7 C0 hR 70 σ x1 0 (60 * x1) _ _ _ hh (lv_sub hl [2, 3, 1, 0] rfl)
def f_X4_isWorked (σ : Sg) (x1 : Int32) : Option (Int32 × Sg) := f_X4_isWorked_0 σ x1
set_option maxRecDepth 100000 in
set_option maxHeartbeats 4000000 in
theorem c_X4_isWorked (hst : l.stackTraces = false) (σ : Sg) (x1 : Int32) : Ct l yX4_isWorked (wm yX4_isWorked cX4_isWorked 4 (some .boolean)) rmX4_isWorked 0 0 vI [.ref (ad 7 0), .int x1] D cy n0 ad nT nO  σ (f_X4_isWorked σ x1) := by
  intro r0 h0
  refine Met.ofW (cc := cX4_isWorked) (maxL := 4) (ret := (some .boolean)) (by decide +kernel) rfl ?_
  intro p e s m args below meth c s₁ B hml hv
  obtain ⟨C0, hh, hR, rfl⟩ := ent B hml hst hv
  rw [lg_entry_eq]
  have hl := lv_entry ([.ref (ad 7 0), .int x1]) (n := 4) (Nat.le_of_ble_eq_true rfl)
  generalize (lg_sl ([.ref (ad 7 0), .int x1]) ++ List.replicate (4 - (lg_sl ([.ref (ad 7 0), .int x1])).length) Slot.unset).toArray = ls at hl ⊢
  exact b_X4_isWorked_0 C0 hR σ x1 _ _ _ hh hl r0 h0
theorem qc56 {R : Room} {s : State} {args : Array Value} (ht : ∀ w ∈ allw, w.before args s = true) (hR : (rmX4_isNone).frames + 1 ≤ R.frames ∧ 8 + (2 + 11) + (rmX4_isNone).locals ≤ R.locals) : CallW R s args RX4 RX4 121 yX4_isNone cX4_isNone 2 (some .boolean) (wm yX4_isNone cX4_isNone 2 (some .boolean)) rmX4_isNone 0 0 1 := cwV 1 ht (gd_of (fun _ h => h) _ (mV w330 w332 w333 w310 w331)) rfl rfl rfl (by decide +kernel) hR
def rmX4_isNoTooth : Room := { frames := 2, cells := 0, slots := 0, locals := 43 }
def f_X4_isNoTooth_36 (σ : Sg) : Option (Int32 × Sg) :=
  (some (1, σ))
set_option maxRecDepth 100000 in
set_option maxHeartbeats 4000000 in
theorem b_X4_isNoTooth_36 (C0 : Cx p l s m args meth c cX4_isNoTooth 3 RX4 D cy n0) (hR : meth.sig.returnType = (some .boolean)) (σ : Sg) (H : Heap) (locs : List Loc) (ls : Array Slot) (hh : Hp D cy n0 ad nT nO s σ H locs) (hl : lv_has ls 3 []) : Sm (Qr below args s D cy n0 ad nT nO vI 0 0) (f_X4_isNoTooth_36 σ) p l e rmX4_isNoTooth s m args below meth c H locs 0 0 (F0 m 36 ls []) := by
  unfold f_X4_isNoTooth_36
  refine s_iconst (v := 1) C0 dX4_isNoTooth_36 (by decide) ?_
  refine s_goto (tgt := 41) C0 dX4_isNoTooth_37 (by decide) ?_
  exact s_iret C0 hh hR narrow_b1 (Nat.le_of_ble_eq_true rfl) (Nat.le_of_ble_eq_true rfl) dX4_isNoTooth_41
def f_X4_isNoTooth_30 (σ : Sg) (s0 : Int32) : Option (Int32 × Sg) :=
  ((f_X4_isWrong σ s0).bind (fun r3 => (if (r3.1 : Int32) = (0 : Int32) then (some (0, r3.2)) else (f_X4_isNoTooth_36 r3.2))))
set_option maxRecDepth 100000 in
set_option maxHeartbeats 4000000 in
theorem b_X4_isNoTooth_30 (C0 : Cx p l s m args meth c cX4_isNoTooth 3 RX4 D cy n0) (hR : meth.sig.returnType = (some .boolean)) (σ : Sg) (s0 : Int32) (H : Heap) (locs : List Loc) (ls : Array Slot) (hh : Hp D cy n0 ad nT nO s σ H locs) (hl : lv_has ls 3 []) : Sm (Qr below args s D cy n0 ad nT nO vI 0 0) (f_X4_isNoTooth_30 σ s0) p l e rmX4_isNoTooth s m args below meth c H locs 0 0 (F0 m 30 ls [.int s0, .ref (ad 7 0)]) := by
  unfold f_X4_isNoTooth_30
  refine s_V (As := [.int s0]) (rest := []) C0 hh (c_X4_isWrong C0.2.2.2.2.2.2 _ s0) (qc51 C0.1.2.2.2.2 ⟨Nat.le_of_ble_eq_true rfl, Nat.le_of_ble_eq_true rfl⟩) (rl_b (by decide)) rfl rfl rfl hl.1 rfl (lv_room (Nat.le_of_ble_eq_true rfl)) dX4_isNoTooth_30 ⟨Nat.le_of_ble_eq_true rfl, Nat.le_of_ble_eq_true rfl⟩ (fun r3 H locs hor3 hh => ?_)
  refine s_if_eq (tgt := 40) C0 dX4_isNoTooth_33 (by decide) (fun _ => ?_) (fun _ => ?_)
  · refine s_iconst (v := 0) C0 dX4_isNoTooth_40 (by decide) ?_
    exact s_iret C0 hh hR narrow_b0 (Nat.le_of_ble_eq_true rfl) (Nat.le_of_ble_eq_true rfl) dX4_isNoTooth_41
  · exact b_X4_isNoTooth_36 C0 hR r3.2 _ _ _ hh ⟨hl.1, hl.2.1, fun _ h => nomatch h⟩
def f_X4_isNoTooth_0 (σ : Sg) (x1 : Int32) (x2 : Int32) : Option (Int32 × Sg) :=
  ((f_X4_isNone σ x1).bind (fun r1 => (if (r1.1 : Int32) = (0 : Int32) then (if (x1 : Int32) < 0 ∨ 8 ≤ (x1 : Int32).toNatClampNeg then none else ((f_X4_isBetween r1.2 x2 0 ((r1.2.1 8 16 (x1 : Int32).toNatClampNeg) - 1)).bind (fun r2 => (if (r2.1 : Int32) = (0 : Int32) then (f_X4_isNoTooth_30 r2.2 2) else (f_X4_isNoTooth_30 r2.2 0))))) else (f_X4_isNoTooth_36 r1.2))))
set_option maxRecDepth 100000 in
set_option maxHeartbeats 4000000 in
theorem b_X4_isNoTooth_0 (C0 : Cx p l s m args meth c cX4_isNoTooth 3 RX4 D cy n0) (hR : meth.sig.returnType = (some .boolean)) (σ : Sg) (x1 : Int32) (x2 : Int32) (H : Heap) (locs : List Loc) (ls : Array Slot) (hh : Hp D cy n0 ad nT nO s σ H locs) (hl : lv_has ls 3 [(0, .ref (ad 7 0)), (1, .int x1), (2, .int x2)]) : Sm (Qr below args s D cy n0 ad nT nO vI 0 0) (f_X4_isNoTooth_0 σ x1 x2) p l e rmX4_isNoTooth s m args below meth c H locs 0 0 (F0 m 0 ls []) := by
  unfold f_X4_isNoTooth_0
  refine s_aload_n C0 dX4_isNoTooth_0 rfl (lv_at hl 0 rfl) ?_
  refine s_iload_n C0 dX4_isNoTooth_1 rfl (lv_at hl 1 rfl) ?_
  refine s_V (As := [.int x1]) (rest := []) C0 hh (c_X4_isNone C0.2.2.2.2.2.2 _ x1) (qc56 C0.1.2.2.2.2 ⟨Nat.le_of_ble_eq_true rfl, Nat.le_of_ble_eq_true rfl⟩) (rl_b (by decide)) rfl rfl rfl hl.1 rfl (lv_room (Nat.le_of_ble_eq_true rfl)) dX4_isNoTooth_2 ⟨Nat.le_of_ble_eq_true rfl, Nat.le_of_ble_eq_true rfl⟩ (fun r1 H locs hor1 hh => ?_)
  refine s_if_ne (tgt := 36) C0 dX4_isNoTooth_5 (by decide) (fun _ => ?_) (fun _ => ?_)
  · exact b_X4_isNoTooth_36 C0 hR r1.2 _ _ _ hh ⟨hl.1, hl.2.1, fun _ h => nomatch h⟩
  · refine s_aload_n C0 dX4_isNoTooth_8 rfl (lv_at hl 0 rfl) ?_
    refine s_iload_n C0 dX4_isNoTooth_9 rfl (lv_at hl 2 rfl) ?_
    refine s_iconst (v := 0) C0 dX4_isNoTooth_10 (by decide) ?_
    refine s_aload_n C0 dX4_isNoTooth_11 rfl (lv_at hl 0 rfl) ?_
    refine s_get (v := .ref (ad 8 16)) C0 hh (rl_b (by decide)) rfl (T := TX4) (N := 28) rfl hinX4 (by decide) w49 rfl dX4_isNoTooth_12 ?_
    refine s_iload_n C0 dX4_isNoTooth_15 rfl (lv_at hl 1 rfl) ?_
    refine s_iald (g := (r1.2.1 8 16)) C0 hh rfl (rl_b (by decide)) (fun _ => rfl) (t0 := 1) rfl dX4_isNoTooth_16 ?_
    refine s_iconst (v := 1) C0 dX4_isNoTooth_17 (by decide) ?_
    refine s_isub C0 dX4_isNoTooth_18 ?_
    refine s_S (As := [.int x2, .int 0, .int ((r1.2.1 8 16 (x1 : Int32).toNatClampNeg) - 1)]) (rest := [.ref (ad 7 0)]) C0 hh (c_X4_isBetween C0.2.2.2.2.2.2 _ x2 0 ((r1.2.1 8 16 (x1 : Int32).toNatClampNeg) - 1)) (qc50 C0.1.2.2.2.2 ⟨Nat.le_of_ble_eq_true rfl, Nat.le_of_ble_eq_true rfl⟩) rfl hl.1 rfl (lv_room (Nat.le_of_ble_eq_true rfl)) dX4_isNoTooth_19 ⟨Nat.le_of_ble_eq_true rfl, Nat.le_of_ble_eq_true rfl⟩ (fun r2 H locs hor2 hh => ?_)
    refine s_if_eq (tgt := 29) C0 dX4_isNoTooth_22 (by decide) (fun _ => ?_) (fun _ => ?_)
    · refine s_iconst (v := 2) C0 dX4_isNoTooth_29 (by decide) ?_
      exact b_X4_isNoTooth_30 C0 hR r2.2 2 _ _ _ hh ⟨hl.1, hl.2.1, fun _ h => nomatch h⟩
    · refine s_iconst (v := 0) C0 dX4_isNoTooth_25 (by decide) ?_
      refine s_goto (tgt := 30) C0 dX4_isNoTooth_26 (by decide) ?_
      exact b_X4_isNoTooth_30 C0 hR r2.2 0 _ _ _ hh ⟨hl.1, hl.2.1, fun _ h => nomatch h⟩
def f_X4_isNoTooth (σ : Sg) (x1 : Int32) (x2 : Int32) : Option (Int32 × Sg) := f_X4_isNoTooth_0 σ x1 x2
set_option maxRecDepth 100000 in
set_option maxHeartbeats 4000000 in
theorem c_X4_isNoTooth (hst : l.stackTraces = false) (σ : Sg) (x1 : Int32) (x2 : Int32) : Ct l yX4_isNoTooth (wm yX4_isNoTooth cX4_isNoTooth 3 (some .boolean)) rmX4_isNoTooth 0 0 vI [.ref (ad 7 0), .int x1, .int x2] D cy n0 ad nT nO  σ (f_X4_isNoTooth σ x1 x2) := by
  intro r0 h0
  refine Met.ofW (cc := cX4_isNoTooth) (maxL := 3) (ret := (some .boolean)) (by decide +kernel) rfl ?_
  intro p e s m args below meth c s₁ B hml hv
  obtain ⟨C0, hh, hR, rfl⟩ := ent B hml hst hv
  rw [lg_entry_eq]
  have hl := lv_entry ([.ref (ad 7 0), .int x1, .int x2]) (n := 3) (Nat.le_of_ble_eq_true rfl)
  generalize (lg_sl ([.ref (ad 7 0), .int x1, .int x2]) ++ List.replicate (3 - (lg_sl ([.ref (ad 7 0), .int x1, .int x2])).length) Slot.unset).toArray = ls at hl ⊢
  exact b_X4_isNoTooth_0 C0 hR σ x1 x2 _ _ _ hh hl r0 h0
theorem qc57 {R : Room} {s : State} {args : Array Value} (ht : ∀ w ∈ allw, w.before args s = true) (hR : (rmX4_holds).frames + 1 ≤ R.frames ∧ 8 + (2 + 11) + (rmX4_holds).locals ≤ R.locals) : CallW R s args RX4 RX4 141 yX4_holds cX4_holds 2 (some .int) (wm yX4_holds cX4_holds 2 (some .int)) rmX4_holds 0 0 1 := cwV 1 ht (gd_of (fun _ h => h) _ (mV w334 w336 w337 w310 w335)) rfl rfl rfl (by decide +kernel) hR
theorem qc58 {R : Room} {s : State} {args : Array Value} (ht : ∀ w ∈ allw, w.before args s = true) (hR : (rmX4_least).frames + 1 ≤ R.frames ∧ 8 + (2 + 11) + (rmX4_least).locals ≤ R.locals) : CallB R s args RX4 144 yX4_least cX4_least 2 (some .int) (wm yX4_least cX4_least 2 (some .int)) rmX4_least 0 0 2 ∧ (Cond.static yX4_least).before args s = true := cwS 2 ht (gd_of (fun _ h => h) _ (mS w338 w340 w310 w339)) rfl rfl rfl (by decide +kernel) hR
def rmX4_stroke : Room := { frames := 3, cells := 0, slots := 0, locals := 63 }
def f_X4_stroke_172 (rec8 : Sg → Int32 → Int32 → Int32 → Int32 → Option (Int32 × Sg)) (σ : Sg) (x1 : Int32) (x2 : Int32) (x3 : Int32) (x4 : Int32) : Option (Int32 × Sg) :=
  (rec8 σ x1 x2 x3 (x4 + 1))
set_option maxRecDepth 100000 in
set_option maxHeartbeats 4000000 in
theorem b_X4_stroke_172 (C0 : Cx p l s m args meth c cX4_stroke 6 RX4 D cy n0) (hR : meth.sig.returnType = (some .int)) (rec8 : Sg → Int32 → Int32 → Int32 → Int32 → Option (Int32 × Sg)) (hrec8 : ∀ (σ : Sg) (x1 : Int32) (x2 : Int32) (x3 : Int32) (x4 : Int32) (H : Heap) (locs : List Loc) (ls : Array Slot), Hp D cy n0 ad nT nO s σ H locs → lv_has ls 6 [(0, .ref (ad 7 0)), (1, .int x1), (2, .int x2), (3, .int x3), (4, .int x4)] → Sm (Qr below args s D cy n0 ad nT nO vI 0 0) (rec8 σ x1 x2 x3 x4) p l e rmX4_stroke s m args below meth c H locs 0 0 (F0 m 8 ls [])) (σ : Sg) (x1 : Int32) (x2 : Int32) (x3 : Int32) (x4 : Int32) (H : Heap) (locs : List Loc) (ls : Array Slot) (hh : Hp D cy n0 ad nT nO s σ H locs) (hl : lv_has ls 6 [(0, .ref (ad 7 0)), (1, .int x1), (2, .int x2), (3, .int x3), (4, .int x4)]) : Sm (Qr below args s D cy n0 ad nT nO vI 0 0) (f_X4_stroke_172 rec8 σ x1 x2 x3 x4) p l e rmX4_stroke s m args below meth c H locs 0 0 (F0 m 172 ls []) := by
  unfold f_X4_stroke_172
  refine s_iinc (k := 4) (v := (x4 + 1)) (lv' := [(4, .int (x4 + 1)), (0, .ref (ad 7 0)), (1, .int x1), (2, .int x2), (3, .int x3)]) C0 dX4_stroke_172 hl rfl rfl (by decide) rfl (fun ls hl => ?_)
  refine s_goto (tgt := 8) C0 dX4_stroke_175 (by decide) ?_
  exact hrec8 σ x1 x2 x3 (x4 + 1) _ _ _ hh (lv_sub hl [1, 2, 3, 4, 0] rfl)
def f_X4_stroke_170 (rec8 : Sg → Int32 → Int32 → Int32 → Int32 → Option (Int32 × Sg)) (σ : Sg) (x1 : Int32) (x2 : Int32) (x3 : Int32) (x4 : Int32) (s0 : Int32) (s1 : Int32) (s2 : Int32) : Option (Int32 × Sg) :=
  (if (s2 : Int32) < 0 ∨ 480 ≤ (s2 : Int32).toNatClampNeg then none else (f_X4_stroke_172 rec8 (sv σ 8 21 (s2 : Int32).toNatClampNeg (s1 - s0)) x1 x2 x3 x4))
set_option maxRecDepth 100000 in
set_option maxHeartbeats 4000000 in
theorem b_X4_stroke_170 (C0 : Cx p l s m args meth c cX4_stroke 6 RX4 D cy n0) (hR : meth.sig.returnType = (some .int)) (rec8 : Sg → Int32 → Int32 → Int32 → Int32 → Option (Int32 × Sg)) (hrec8 : ∀ (σ : Sg) (x1 : Int32) (x2 : Int32) (x3 : Int32) (x4 : Int32) (H : Heap) (locs : List Loc) (ls : Array Slot), Hp D cy n0 ad nT nO s σ H locs → lv_has ls 6 [(0, .ref (ad 7 0)), (1, .int x1), (2, .int x2), (3, .int x3), (4, .int x4)] → Sm (Qr below args s D cy n0 ad nT nO vI 0 0) (rec8 σ x1 x2 x3 x4) p l e rmX4_stroke s m args below meth c H locs 0 0 (F0 m 8 ls [])) (σ : Sg) (x1 : Int32) (x2 : Int32) (x3 : Int32) (x4 : Int32) (s0 : Int32) (s1 : Int32) (s2 : Int32) (H : Heap) (locs : List Loc) (ls : Array Slot) (hh : Hp D cy n0 ad nT nO s σ H locs) (hl : lv_has ls 6 [(0, .ref (ad 7 0)), (1, .int x1), (2, .int x2), (3, .int x3), (4, .int x4)]) : Sm (Qr below args s D cy n0 ad nT nO vI 0 0) (f_X4_stroke_170 rec8 σ x1 x2 x3 x4 s0 s1 s2) p l e rmX4_stroke s m args below meth c H locs 0 0 (F0 m 170 ls [.int s0, .int s1, .int s2, .ref (ad 8 21)]) := by
  unfold f_X4_stroke_170
  refine s_isub C0 dX4_stroke_170 ?_
  refine s_iast C0 hh (rl_b (by decide)) (fun _ => rfl) (t0 := 1) rfl (by decide) (by decide) (by decide) dX4_stroke_171 (fun H locs hh => ?_)
  exact b_X4_stroke_172 C0 hR rec8 hrec8 (sv σ 8 21 (s2 : Int32).toNatClampNeg (s1 - s0)) x1 x2 x3 x4 _ _ _ hh (lv_sub hl [0, 1, 2, 3, 4] rfl)
def f_X4_stroke_142 (rec8 : Sg → Int32 → Int32 → Int32 → Int32 → Option (Int32 × Sg)) (σ : Sg) (x1 : Int32) (x2 : Int32) (x3 : Int32) (x4 : Int32) (s0 : Int32) (s1 : Int32) (s2 : Int32) : Option (Int32 × Sg) :=
  (if (s2 : Int32) < 0 ∨ 480 ≤ (s2 : Int32).toNatClampNeg then none else (if (x4 : Int32) < 0 ∨ 480 ≤ (x4 : Int32).toNatClampNeg then none else (if (x4 : Int32) < 0 ∨ 480 ≤ (x4 : Int32).toNatClampNeg then none else (if ((σ.1 8 21 (x4 : Int32).toNatClampNeg) : Int32) < (100 : Int32) then (f_X4_stroke_170 rec8 (sv σ 8 20 (s2 : Int32).toNatClampNeg (s1 - s0)) x1 x2 x3 x4 0 (σ.1 8 21 (x4 : Int32).toNatClampNeg) x4) else (f_X4_stroke_170 rec8 (sv σ 8 20 (s2 : Int32).toNatClampNeg (s1 - s0)) x1 x2 x3 x4 100 (σ.1 8 21 (x4 : Int32).toNatClampNeg) x4)))))
set_option maxRecDepth 100000 in
set_option maxHeartbeats 4000000 in
theorem b_X4_stroke_142 (C0 : Cx p l s m args meth c cX4_stroke 6 RX4 D cy n0) (hR : meth.sig.returnType = (some .int)) (rec8 : Sg → Int32 → Int32 → Int32 → Int32 → Option (Int32 × Sg)) (hrec8 : ∀ (σ : Sg) (x1 : Int32) (x2 : Int32) (x3 : Int32) (x4 : Int32) (H : Heap) (locs : List Loc) (ls : Array Slot), Hp D cy n0 ad nT nO s σ H locs → lv_has ls 6 [(0, .ref (ad 7 0)), (1, .int x1), (2, .int x2), (3, .int x3), (4, .int x4)] → Sm (Qr below args s D cy n0 ad nT nO vI 0 0) (rec8 σ x1 x2 x3 x4) p l e rmX4_stroke s m args below meth c H locs 0 0 (F0 m 8 ls [])) (σ : Sg) (x1 : Int32) (x2 : Int32) (x3 : Int32) (x4 : Int32) (s0 : Int32) (s1 : Int32) (s2 : Int32) (H : Heap) (locs : List Loc) (ls : Array Slot) (hh : Hp D cy n0 ad nT nO s σ H locs) (hl : lv_has ls 6 [(0, .ref (ad 7 0)), (1, .int x1), (2, .int x2), (3, .int x3), (4, .int x4)]) : Sm (Qr below args s D cy n0 ad nT nO vI 0 0) (f_X4_stroke_142 rec8 σ x1 x2 x3 x4 s0 s1 s2) p l e rmX4_stroke s m args below meth c H locs 0 0 (F0 m 142 ls [.int s0, .int s1, .int s2, .ref (ad 8 20)]) := by
  unfold f_X4_stroke_142
  refine s_isub C0 dX4_stroke_142 ?_
  refine s_iast C0 hh (rl_b (by decide)) (fun _ => rfl) (t0 := 1) rfl (by decide) (by decide) (by decide) dX4_stroke_143 (fun H locs hh => ?_)
  refine s_aload_n C0 dX4_stroke_144 rfl (lv_at hl 0 rfl) ?_
  refine s_get (v := .ref (ad 8 21)) C0 hh (rl_b (by decide)) rfl (T := TX4) (N := 28) rfl hinX4 (by decide) w55 rfl dX4_stroke_145 ?_
  refine s_iload C0 dX4_stroke_148 (lv_at hl 4 rfl) ?_
  refine s_dup2 C0 dX4_stroke_150 rfl rfl ?_
  refine s_iald (g := (σ.1 8 21)) C0 hh rfl (rl_b (by decide)) (fun _ => rfl) (t0 := 1) rfl dX4_stroke_151 ?_
  refine s_aload_n C0 dX4_stroke_152 rfl (lv_at hl 0 rfl) ?_
  refine s_get (v := .ref (ad 8 21)) C0 hh (rl_b (by decide)) rfl (T := TX4) (N := 28) rfl hinX4 (by decide) w55 rfl dX4_stroke_153 ?_
  refine s_iload C0 dX4_stroke_156 (lv_at hl 4 rfl) ?_
  refine s_iald (g := (σ.1 8 21)) C0 hh rfl (rl_b (by decide)) (fun _ => rfl) (t0 := 1) rfl dX4_stroke_158 ?_
  refine s_bipush (v := 100) C0 dX4_stroke_159 (by decide) ?_
  refine s_icmp_lt (tgt := 169) C0 dX4_stroke_161 (by decide) (fun _ => ?_) (fun _ => ?_)
  · refine s_iconst (v := 0) C0 dX4_stroke_169 (by decide) ?_
    exact b_X4_stroke_170 C0 hR rec8 hrec8 (sv σ 8 20 (s2 : Int32).toNatClampNeg (s1 - s0)) x1 x2 x3 x4 0 (σ.1 8 21 (x4 : Int32).toNatClampNeg) x4 _ _ _ hh (lv_sub hl [0, 1, 2, 3, 4] rfl)
  · refine s_bipush (v := 100) C0 dX4_stroke_164 (by decide) ?_
    refine s_goto (tgt := 170) C0 dX4_stroke_166 (by decide) ?_
    exact b_X4_stroke_170 C0 hR rec8 hrec8 (sv σ 8 20 (s2 : Int32).toNatClampNeg (s1 - s0)) x1 x2 x3 x4 100 (σ.1 8 21 (x4 : Int32).toNatClampNeg) x4 _ _ _ hh (lv_sub hl [0, 1, 2, 3, 4] rfl)
def f_X4_stroke_88 (rec8 : Sg → Int32 → Int32 → Int32 → Int32 → Option (Int32 × Sg)) (σ : Sg) (x1 : Int32) (x2 : Int32) (x3 : Int32) (x4 : Int32) (s0 : Int32) : Option (Int32 × Sg) :=
  (if (x1 : Int32) < 0 ∨ 8 ≤ (x1 : Int32).toNatClampNeg then none else (if (x1 : Int32) < 0 ∨ 8 ≤ (x1 : Int32).toNatClampNeg then none else (if (x4 : Int32) < 0 ∨ 480 ≤ (x4 : Int32).toNatClampNeg then none else (if (x4 : Int32) < 0 ∨ 480 ≤ (x4 : Int32).toNatClampNeg then none else (if (x4 : Int32) < 0 ∨ 480 ≤ (x4 : Int32).toNatClampNeg then none else (if (x4 : Int32) < 0 ∨ 480 ≤ (x4 : Int32).toNatClampNeg then none else (if (((sv (sv σ 8 13 (x1 : Int32).toNatClampNeg ((σ.1 8 13 (x1 : Int32).toNatClampNeg) + s0)) 8 21 (x4 : Int32).toNatClampNeg ((σ.1 8 21 (x4 : Int32).toNatClampNeg) + x2)).1 8 21 (x4 : Int32).toNatClampNeg) : Int32) < (100 : Int32) then (f_X4_stroke_142 rec8 (sv (sv σ 8 13 (x1 : Int32).toNatClampNeg ((σ.1 8 13 (x1 : Int32).toNatClampNeg) + s0)) 8 21 (x4 : Int32).toNatClampNeg ((σ.1 8 21 (x4 : Int32).toNatClampNeg) + x2)) x1 x2 (x3 + s0) x4 0 (σ.1 8 20 (x4 : Int32).toNatClampNeg) x4) else (f_X4_stroke_142 rec8 (sv (sv σ 8 13 (x1 : Int32).toNatClampNeg ((σ.1 8 13 (x1 : Int32).toNatClampNeg) + s0)) 8 21 (x4 : Int32).toNatClampNeg ((σ.1 8 21 (x4 : Int32).toNatClampNeg) + x2)) x1 x2 (x3 + s0) x4 1 (σ.1 8 20 (x4 : Int32).toNatClampNeg) x4))))))))
set_option maxRecDepth 100000 in
set_option maxHeartbeats 4000000 in
theorem b_X4_stroke_88 (C0 : Cx p l s m args meth c cX4_stroke 6 RX4 D cy n0) (hR : meth.sig.returnType = (some .int)) (rec8 : Sg → Int32 → Int32 → Int32 → Int32 → Option (Int32 × Sg)) (hrec8 : ∀ (σ : Sg) (x1 : Int32) (x2 : Int32) (x3 : Int32) (x4 : Int32) (H : Heap) (locs : List Loc) (ls : Array Slot), Hp D cy n0 ad nT nO s σ H locs → lv_has ls 6 [(0, .ref (ad 7 0)), (1, .int x1), (2, .int x2), (3, .int x3), (4, .int x4)] → Sm (Qr below args s D cy n0 ad nT nO vI 0 0) (rec8 σ x1 x2 x3 x4) p l e rmX4_stroke s m args below meth c H locs 0 0 (F0 m 8 ls [])) (σ : Sg) (x1 : Int32) (x2 : Int32) (x3 : Int32) (x4 : Int32) (s0 : Int32) (H : Heap) (locs : List Loc) (ls : Array Slot) (hh : Hp D cy n0 ad nT nO s σ H locs) (hl : lv_has ls 6 [(0, .ref (ad 7 0)), (1, .int x1), (2, .int x2), (3, .int x3), (4, .int x4)]) : Sm (Qr below args s D cy n0 ad nT nO vI 0 0) (f_X4_stroke_88 rec8 σ x1 x2 x3 x4 s0) p l e rmX4_stroke s m args below meth c H locs 0 0 (F0 m 88 ls [.int s0]) := by
  unfold f_X4_stroke_88
  refine s_istore (lv' := [(5, .int s0), (0, .ref (ad 7 0)), (1, .int x1), (2, .int x2), (3, .int x3), (4, .int x4)]) C0 dX4_stroke_88 hl (by decide) rfl (fun ls hl => ?_)
  refine s_aload_n C0 dX4_stroke_90 rfl (lv_at hl 1 rfl) ?_
  refine s_get (v := .ref (ad 8 13)) C0 hh (rl_b (by decide)) rfl (T := TX4) (N := 28) rfl hinX4 (by decide) w46 rfl dX4_stroke_91 ?_
  refine s_iload_n C0 dX4_stroke_94 rfl (lv_at hl 2 rfl) ?_
  refine s_dup2 C0 dX4_stroke_95 rfl rfl ?_
  refine s_iald (g := (σ.1 8 13)) C0 hh rfl (rl_b (by decide)) (fun _ => rfl) (t0 := 1) rfl dX4_stroke_96 ?_
  refine s_iload C0 dX4_stroke_97 (lv_at hl 0 rfl) ?_
  refine s_iadd C0 dX4_stroke_99 ?_
  refine s_iast C0 hh (rl_b (by decide)) (fun _ => rfl) (t0 := 1) rfl (by decide) (by decide) (by decide) dX4_stroke_100 (fun H locs hh => ?_)
  refine s_iload_n C0 dX4_stroke_101 rfl (lv_at hl 4 rfl) ?_
  refine s_iload C0 dX4_stroke_102 (lv_at hl 0 rfl) ?_
  refine s_iadd C0 dX4_stroke_104 ?_
  refine s_istore_n (lv' := [(3, .int (x3 + s0)), (5, .int s0), (0, .ref (ad 7 0)), (1, .int x1), (2, .int x2), (4, .int x4)]) C0 dX4_stroke_105 rfl hl (by decide) rfl (fun ls hl => ?_)
  refine s_aload_n C0 dX4_stroke_106 rfl (lv_at hl 2 rfl) ?_
  refine s_get (v := .ref (ad 8 21)) C0 hh (rl_b (by decide)) rfl (T := TX4) (N := 28) rfl hinX4 (by decide) w55 rfl dX4_stroke_107 ?_
  refine s_iload C0 dX4_stroke_110 (lv_at hl 5 rfl) ?_
  refine s_dup2 C0 dX4_stroke_112 rfl rfl ?_
  refine s_iald (g := (σ.1 8 21)) C0 hh rfl (rl_b (by decide)) (fun _ => rfl) (t0 := 1) rfl dX4_stroke_113 ?_
  refine s_iload_n C0 dX4_stroke_114 rfl (lv_at hl 4 rfl) ?_
  refine s_iadd C0 dX4_stroke_115 ?_
  refine s_iast C0 hh (rl_b (by decide)) (fun _ => rfl) (t0 := 1) rfl (by decide) (by decide) (by decide) dX4_stroke_116 (fun H locs hh => ?_)
  refine s_aload_n C0 dX4_stroke_117 rfl (lv_at hl 2 rfl) ?_
  refine s_get (v := .ref (ad 8 20)) C0 hh (rl_b (by decide)) rfl (T := TX4) (N := 28) rfl hinX4 (by decide) w54 rfl dX4_stroke_118 ?_
  refine s_iload C0 dX4_stroke_121 (lv_at hl 5 rfl) ?_
  refine s_dup2 C0 dX4_stroke_123 rfl rfl ?_
  refine s_iald (g := (σ.1 8 20)) C0 hh rfl (rl_b (by decide)) (fun _ => rfl) (t0 := 1) rfl dX4_stroke_124 ?_
  refine s_aload_n C0 dX4_stroke_125 rfl (lv_at hl 2 rfl) ?_
  refine s_get (v := .ref (ad 8 21)) C0 hh (rl_b (by decide)) rfl (T := TX4) (N := 28) rfl hinX4 (by decide) w55 rfl dX4_stroke_126 ?_
  refine s_iload C0 dX4_stroke_129 (lv_at hl 5 rfl) ?_
  refine s_iald (g := ((sv (sv σ 8 13 (x1 : Int32).toNatClampNeg ((σ.1 8 13 (x1 : Int32).toNatClampNeg) + s0)) 8 21 (x4 : Int32).toNatClampNeg ((σ.1 8 21 (x4 : Int32).toNatClampNeg) + x2)).1 8 21)) C0 hh rfl (rl_b (by decide)) (fun _ => rfl) (t0 := 1) rfl dX4_stroke_131 ?_
  refine s_bipush (v := 100) C0 dX4_stroke_132 (by decide) ?_
  refine s_icmp_lt (tgt := 141) C0 dX4_stroke_134 (by decide) (fun _ => ?_) (fun _ => ?_)
  · refine s_iconst (v := 0) C0 dX4_stroke_141 (by decide) ?_
    exact b_X4_stroke_142 C0 hR rec8 hrec8 (sv (sv σ 8 13 (x1 : Int32).toNatClampNeg ((σ.1 8 13 (x1 : Int32).toNatClampNeg) + s0)) 8 21 (x4 : Int32).toNatClampNeg ((σ.1 8 21 (x4 : Int32).toNatClampNeg) + x2)) x1 x2 (x3 + s0) x4 0 (σ.1 8 20 (x4 : Int32).toNatClampNeg) x4 _ _ _ hh (lv_sub hl [2, 3, 4, 0, 5] rfl)
  · refine s_iconst (v := 1) C0 dX4_stroke_137 (by decide) ?_
    refine s_goto (tgt := 142) C0 dX4_stroke_138 (by decide) ?_
    exact b_X4_stroke_142 C0 hR rec8 hrec8 (sv (sv σ 8 13 (x1 : Int32).toNatClampNeg ((σ.1 8 13 (x1 : Int32).toNatClampNeg) + s0)) 8 21 (x4 : Int32).toNatClampNeg ((σ.1 8 21 (x4 : Int32).toNatClampNeg) + x2)) x1 x2 (x3 + s0) x4 1 (σ.1 8 20 (x4 : Int32).toNatClampNeg) x4 _ _ _ hh (lv_sub hl [2, 3, 4, 0, 5] rfl)
def g_X4_stroke_8 (rec8 : Sg → Int32 → Int32 → Int32 → Int32 → Option (Int32 × Sg)) (σ : Sg) (x1 : Int32) (x2 : Int32) (x3 : Int32) (x4 : Int32) : Option (Int32 × Sg) :=
  (if (x1 : Int32) < 0 ∨ 8 ≤ (x1 : Int32).toNatClampNeg then none else (if ((60 * x1) + (σ.1 8 16 (x1 : Int32).toNatClampNeg)) ≤ (x4 : Int32) then (some (x3, σ)) else (if (x4 : Int32) < 0 ∨ 480 ≤ (x4 : Int32).toNatClampNeg then none else (if ((σ.1 8 20 (x4 : Int32).toNatClampNeg) : Int32) = (0 : Int32) then (f_X4_stroke_172 rec8 σ x1 x2 x3 x4) else (if (x1 : Int32) < 0 ∨ 8 ≤ (x1 : Int32).toNatClampNeg then none else ((f_X4_holds σ x1).bind (fun r1 => (if ((σ.1 8 13 (x1 : Int32).toNatClampNeg) : Int32) < r1.1 then (if (x1 : Int32) < 0 ∨ 8 ≤ (x1 : Int32).toNatClampNeg then none else (if ((r1.2.1 8 10 (x1 : Int32).toNatClampNeg) : Int32) ≤ x2 then (f_X4_stroke_88 rec8 r1.2 x1 x2 x3 x4 0) else (if (x4 : Int32) < 0 ∨ 480 ≤ (x4 : Int32).toNatClampNeg then none else (if (x1 : Int32) < 0 ∨ 8 ≤ (x1 : Int32).toNatClampNeg then none else (if (10 : Int32) = 0 then none else ((f_X4_least r1.2 (r1.2.1 8 20 (x4 : Int32).toNatClampNeg) (1 + (((r1.2.1 8 10 (x1 : Int32).toNatClampNeg) - x2) / 10))).bind (fun r2 => (f_X4_stroke_88 rec8 r2.2 x1 x2 x3 x4 r2.1)))))))) else (f_X4_stroke_172 rec8 r1.2 x1 x2 x3 x4)))))))))
def f_X4_stroke_8 : Nat → Sg → Int32 → Int32 → Int32 → Int32 → Option (Int32 × Sg)
  | 0 => fun _ _ _ _ _ => none
  | n + 1 => fun σ x1 x2 x3 x4 => g_X4_stroke_8 (f_X4_stroke_8 n) σ x1 x2 x3 x4
set_option maxRecDepth 100000 in
set_option maxHeartbeats 4000000 in
theorem a_X4_stroke_8 (C0 : Cx p l s m args meth c cX4_stroke 6 RX4 D cy n0) (hR : meth.sig.returnType = (some .int)) (rec8 : Sg → Int32 → Int32 → Int32 → Int32 → Option (Int32 × Sg)) (hrec8 : ∀ (σ : Sg) (x1 : Int32) (x2 : Int32) (x3 : Int32) (x4 : Int32) (H : Heap) (locs : List Loc) (ls : Array Slot), Hp D cy n0 ad nT nO s σ H locs → lv_has ls 6 [(0, .ref (ad 7 0)), (1, .int x1), (2, .int x2), (3, .int x3), (4, .int x4)] → Sm (Qr below args s D cy n0 ad nT nO vI 0 0) (rec8 σ x1 x2 x3 x4) p l e rmX4_stroke s m args below meth c H locs 0 0 (F0 m 8 ls [])) (σ : Sg) (x1 : Int32) (x2 : Int32) (x3 : Int32) (x4 : Int32) (H : Heap) (locs : List Loc) (ls : Array Slot) (hh : Hp D cy n0 ad nT nO s σ H locs) (hl : lv_has ls 6 [(0, .ref (ad 7 0)), (1, .int x1), (2, .int x2), (3, .int x3), (4, .int x4)]) : Sm (Qr below args s D cy n0 ad nT nO vI 0 0) (g_X4_stroke_8 rec8 σ x1 x2 x3 x4) p l e rmX4_stroke s m args below meth c H locs 0 0 (F0 m 8 ls []) := by
  unfold g_X4_stroke_8
  refine s_iload C0 dX4_stroke_8 (lv_at hl 4 rfl) ?_
  refine s_bipush (v := 60) C0 dX4_stroke_10 (by decide) ?_
  refine s_iload_n C0 dX4_stroke_12 rfl (lv_at hl 1 rfl) ?_
  refine s_imul C0 dX4_stroke_13 ?_
  refine s_aload_n C0 dX4_stroke_14 rfl (lv_at hl 0 rfl) ?_
  refine s_get (v := .ref (ad 8 16)) C0 hh (rl_b (by decide)) rfl (T := TX4) (N := 28) rfl hinX4 (by decide) w49 rfl dX4_stroke_15 ?_
  refine s_iload_n C0 dX4_stroke_18 rfl (lv_at hl 1 rfl) ?_
  refine s_iald (g := (σ.1 8 16)) C0 hh rfl (rl_b (by decide)) (fun _ => rfl) (t0 := 1) rfl dX4_stroke_19 ?_
  refine s_iadd C0 dX4_stroke_20 ?_
  refine s_icmp_ge (tgt := 178) C0 dX4_stroke_21 (by decide) (fun _ => ?_) (fun _ => ?_)
  · refine s_iload_n C0 dX4_stroke_178 rfl (lv_at hl 3 rfl) ?_
    exact s_iret C0 hh hR rfl (Nat.le_of_ble_eq_true rfl) (Nat.le_of_ble_eq_true rfl) dX4_stroke_179
  · refine s_aload_n C0 dX4_stroke_24 rfl (lv_at hl 0 rfl) ?_
    refine s_get (v := .ref (ad 8 20)) C0 hh (rl_b (by decide)) rfl (T := TX4) (N := 28) rfl hinX4 (by decide) w54 rfl dX4_stroke_25 ?_
    refine s_iload C0 dX4_stroke_28 (lv_at hl 4 rfl) ?_
    refine s_iald (g := (σ.1 8 20)) C0 hh rfl (rl_b (by decide)) (fun _ => rfl) (t0 := 1) rfl dX4_stroke_30 ?_
    refine s_if_eq (tgt := 172) C0 dX4_stroke_31 (by decide) (fun _ => ?_) (fun _ => ?_)
    · exact b_X4_stroke_172 C0 hR rec8 hrec8 σ x1 x2 x3 x4 _ _ _ hh (lv_sub hl [0, 1, 2, 3, 4] rfl)
    · refine s_aload_n C0 dX4_stroke_34 rfl (lv_at hl 0 rfl) ?_
      refine s_get (v := .ref (ad 8 13)) C0 hh (rl_b (by decide)) rfl (T := TX4) (N := 28) rfl hinX4 (by decide) w46 rfl dX4_stroke_35 ?_
      refine s_iload_n C0 dX4_stroke_38 rfl (lv_at hl 1 rfl) ?_
      refine s_iald (g := (σ.1 8 13)) C0 hh rfl (rl_b (by decide)) (fun _ => rfl) (t0 := 1) rfl dX4_stroke_39 ?_
      refine s_aload_n C0 dX4_stroke_40 rfl (lv_at hl 0 rfl) ?_
      refine s_iload_n C0 dX4_stroke_41 rfl (lv_at hl 1 rfl) ?_
      refine s_V (As := [.int x1]) (rest := [.int (σ.1 8 13 (x1 : Int32).toNatClampNeg)]) C0 hh (c_X4_holds C0.2.2.2.2.2.2 _ x1) (qc57 C0.1.2.2.2.2 ⟨Nat.le_of_ble_eq_true rfl, Nat.le_of_ble_eq_true rfl⟩) (rl_b (by decide)) rfl rfl rfl hl.1 rfl (lv_room (Nat.le_of_ble_eq_true rfl)) dX4_stroke_42 ⟨Nat.le_of_ble_eq_true rfl, Nat.le_of_ble_eq_true rfl⟩ (fun r1 H locs hor1 hh => ?_)
      refine s_icmp_lt (tgt := 51) C0 dX4_stroke_45 (by decide) (fun _ => ?_) (fun _ => ?_)
      · refine s_aload_n C0 dX4_stroke_51 rfl (lv_at hl 0 rfl) ?_
        refine s_get (v := .ref (ad 8 10)) C0 hh (rl_b (by decide)) rfl (T := TX4) (N := 28) rfl hinX4 (by decide) w43 rfl dX4_stroke_52 ?_
        refine s_iload_n C0 dX4_stroke_55 rfl (lv_at hl 1 rfl) ?_
        refine s_iald (g := (r1.2.1 8 10)) C0 hh rfl (rl_b (by decide)) (fun _ => rfl) (t0 := 1) rfl dX4_stroke_56 ?_
        refine s_iload_n C0 dX4_stroke_57 rfl (lv_at hl 2 rfl) ?_
        refine s_icmp_le (tgt := 87) C0 dX4_stroke_58 (by decide) (fun _ => ?_) (fun _ => ?_)
        · refine s_iconst (v := 0) C0 dX4_stroke_87 (by decide) ?_
          exact b_X4_stroke_88 C0 hR rec8 hrec8 r1.2 x1 x2 x3 x4 0 _ _ _ hh (lv_sub hl [0, 1, 2, 3, 4] rfl)
        · refine s_aload_n C0 dX4_stroke_61 rfl (lv_at hl 0 rfl) ?_
          refine s_get (v := .ref (ad 8 20)) C0 hh (rl_b (by decide)) rfl (T := TX4) (N := 28) rfl hinX4 (by decide) w54 rfl dX4_stroke_62 ?_
          refine s_iload C0 dX4_stroke_65 (lv_at hl 4 rfl) ?_
          refine s_iald (g := (r1.2.1 8 20)) C0 hh rfl (rl_b (by decide)) (fun _ => rfl) (t0 := 1) rfl dX4_stroke_67 ?_
          refine s_iconst (v := 1) C0 dX4_stroke_68 (by decide) ?_
          refine s_aload_n C0 dX4_stroke_69 rfl (lv_at hl 0 rfl) ?_
          refine s_get (v := .ref (ad 8 10)) C0 hh (rl_b (by decide)) rfl (T := TX4) (N := 28) rfl hinX4 (by decide) w43 rfl dX4_stroke_70 ?_
          refine s_iload_n C0 dX4_stroke_73 rfl (lv_at hl 1 rfl) ?_
          refine s_iald (g := (r1.2.1 8 10)) C0 hh rfl (rl_b (by decide)) (fun _ => rfl) (t0 := 1) rfl dX4_stroke_74 ?_
          refine s_iload_n C0 dX4_stroke_75 rfl (lv_at hl 2 rfl) ?_
          refine s_isub C0 dX4_stroke_76 ?_
          refine s_bipush (v := 10) C0 dX4_stroke_77 (by decide) ?_
          refine s_idiv C0 dX4_stroke_79 ?_
          refine s_iadd C0 dX4_stroke_80 ?_
          refine s_S (As := [.int (r1.2.1 8 20 (x4 : Int32).toNatClampNeg), .int (1 + (((r1.2.1 8 10 (x1 : Int32).toNatClampNeg) - x2) / 10))]) (rest := []) C0 hh (c_X4_least C0.2.2.2.2.2.2 _ (r1.2.1 8 20 (x4 : Int32).toNatClampNeg) (1 + (((r1.2.1 8 10 (x1 : Int32).toNatClampNeg) - x2) / 10))) (qc58 C0.1.2.2.2.2 ⟨Nat.le_of_ble_eq_true rfl, Nat.le_of_ble_eq_true rfl⟩) rfl hl.1 rfl (lv_room (Nat.le_of_ble_eq_true rfl)) dX4_stroke_81 ⟨Nat.le_of_ble_eq_true rfl, Nat.le_of_ble_eq_true rfl⟩ (fun r2 H locs hor2 hh => ?_)
          refine s_goto (tgt := 88) C0 dX4_stroke_84 (by decide) ?_
          exact b_X4_stroke_88 C0 hR rec8 hrec8 r2.2 x1 x2 x3 x4 r2.1 _ _ _ hh (lv_sub hl [0, 1, 2, 3, 4] rfl)
      · refine s_goto (tgt := 172) C0 dX4_stroke_48 (by decide) ?_
        exact b_X4_stroke_172 C0 hR rec8 hrec8 r1.2 x1 x2 x3 x4 _ _ _ hh (lv_sub hl [0, 1, 2, 3, 4] rfl)
theorem b_X4_stroke_8 (C0 : Cx p l s m args meth c cX4_stroke 6 RX4 D cy n0) (hR : meth.sig.returnType = (some .int)) : ∀ (n : Nat) (σ : Sg) (x1 : Int32) (x2 : Int32) (x3 : Int32) (x4 : Int32) (H : Heap) (locs : List Loc) (ls : Array Slot) (hh : Hp D cy n0 ad nT nO s σ H locs) (hl : lv_has ls 6 [(0, .ref (ad 7 0)), (1, .int x1), (2, .int x2), (3, .int x3), (4, .int x4)]), Sm (Qr below args s D cy n0 ad nT nO vI 0 0) (f_X4_stroke_8 n σ x1 x2 x3 x4) p l e rmX4_stroke s m args below meth c H locs 0 0 (F0 m 8 ls []) := by
  intro n
  induction n with
  | zero => intros; intro r h; cases h
  | succ n ih => intro σ x1 x2 x3 x4 H locs ls hh hl; exact a_X4_stroke_8 C0 hR (f_X4_stroke_8 n) ih σ x1 x2 x3 x4 H locs ls hh hl
def f_X4_stroke_0 (σ : Sg) (x1 : Int32) (x2 : Int32) : Option (Int32 × Sg) :=
  (f_X4_stroke_8 70 σ x1 x2 0 (60 * x1))
set_option maxRecDepth 100000 in
set_option maxHeartbeats 4000000 in
theorem b_X4_stroke_0 (C0 : Cx p l s m args meth c cX4_stroke 6 RX4 D cy n0) (hR : meth.sig.returnType = (some .int)) (σ : Sg) (x1 : Int32) (x2 : Int32) (H : Heap) (locs : List Loc) (ls : Array Slot) (hh : Hp D cy n0 ad nT nO s σ H locs) (hl : lv_has ls 6 [(0, .ref (ad 7 0)), (1, .int x1), (2, .int x2)]) : Sm (Qr below args s D cy n0 ad nT nO vI 0 0) (f_X4_stroke_0 σ x1 x2) p l e rmX4_stroke s m args below meth c H locs 0 0 (F0 m 0 ls []) := by
  unfold f_X4_stroke_0
  refine s_iconst (v := 0) C0 dX4_stroke_0 (by decide) ?_
  refine s_istore_n (lv' := [(3, .int 0), (0, .ref (ad 7 0)), (1, .int x1), (2, .int x2)]) C0 dX4_stroke_1 rfl hl (by decide) rfl (fun ls hl => ?_)
  refine s_bipush (v := 60) C0 dX4_stroke_2 (by decide) ?_
  refine s_iload_n C0 dX4_stroke_4 rfl (lv_at hl 2 rfl) ?_
  refine s_imul C0 dX4_stroke_5 ?_
  refine s_istore (lv' := [(4, .int (60 * x1)), (3, .int 0), (0, .ref (ad 7 0)), (1, .int x1), (2, .int x2)]) C0 dX4_stroke_6 hl (by decide) rfl (fun ls hl => ?_)
  exact b_X4_stroke_8 C0 hR 70 σ x1 x2 0 (60 * x1) _ _ _ hh (lv_sub hl [2, 3, 4, 1, 0] rfl)
def f_X4_stroke (σ : Sg) (x1 : Int32) (x2 : Int32) : Option (Int32 × Sg) := f_X4_stroke_0 σ x1 x2
set_option maxRecDepth 100000 in
set_option maxHeartbeats 4000000 in
theorem c_X4_stroke (hst : l.stackTraces = false) (σ : Sg) (x1 : Int32) (x2 : Int32) : Ct l yX4_stroke (wm yX4_stroke cX4_stroke 6 (some .int)) rmX4_stroke 0 0 vI [.ref (ad 7 0), .int x1, .int x2] D cy n0 ad nT nO  σ (f_X4_stroke σ x1 x2) := by
  intro r0 h0
  refine Met.ofW (cc := cX4_stroke) (maxL := 6) (ret := (some .int)) (by decide +kernel) rfl ?_
  intro p e s m args below meth c s₁ B hml hv
  obtain ⟨C0, hh, hR, rfl⟩ := ent B hml hst hv
  rw [lg_entry_eq]
  have hl := lv_entry ([.ref (ad 7 0), .int x1, .int x2]) (n := 6) (Nat.le_of_ble_eq_true rfl)
  generalize (lg_sl ([.ref (ad 7 0), .int x1, .int x2]) ++ List.replicate (6 - (lg_sl ([.ref (ad 7 0), .int x1, .int x2])).length) Slot.unset).toArray = ls at hl ⊢
  exact b_X4_stroke_0 C0 hR σ x1 x2 _ _ _ hh hl r0 h0

def rmX4_isNoOrder : Room := { frames := 1, cells := 0, slots := 0, locals := 22 }
def f_X4_isNoOrder_20 (σ : Sg) (s0 : Int32) : Option (Int32 × Sg) :=
  ((f_X4_isWrong σ s0).bind (fun r2 => (if r2.1 = 0 ∨ r2.1 = 1 then (some (r2.1, r2.2)) else none)))
set_option maxRecDepth 100000 in
set_option maxHeartbeats 4000000 in
theorem b_X4_isNoOrder_20 (C0 : Cx p l s m args meth c cX4_isNoOrder 2 RX4 D cy n0) (hR : meth.sig.returnType = (some .boolean)) (σ : Sg) (s0 : Int32) (H : Heap) (locs : List Loc) (ls : Array Slot) (hh : Hp D cy n0 ad nT nO s σ H locs) (hl : lv_has ls 2 []) : Sm (Qr below args s D cy n0 ad nT nO vI 0 0) (f_X4_isNoOrder_20 σ s0) p l e rmX4_isNoOrder s m args below meth c H locs 0 0 (F0 m 20 ls [.int s0, .ref (ad 7 0)]) := by
  unfold f_X4_isNoOrder_20
  refine s_V (As := [.int s0]) (rest := []) C0 hh (c_X4_isWrong C0.2.2.2.2.2.2 _ s0) (qc51 C0.1.2.2.2.2 ⟨Nat.le_of_ble_eq_true rfl, Nat.le_of_ble_eq_true rfl⟩) (rl_b (by decide)) rfl rfl rfl hl.1 rfl (lv_room (Nat.le_of_ble_eq_true rfl)) dX4_isNoOrder_20 ⟨Nat.le_of_ble_eq_true rfl, Nat.le_of_ble_eq_true rfl⟩ (fun r2 H locs hor2 hh => ?_)
  refine s_gd (fun hg3 => ?_)
  exact s_iret C0 hh hR (nz_of hg3) (Nat.le_of_ble_eq_true rfl) (Nat.le_of_ble_eq_true rfl) dX4_isNoOrder_23
def f_X4_isNoOrder_0 (σ : Sg) (x1 : Int32) : Option (Int32 × Sg) :=
  ((f_X4_isBetween σ x1 0 ((σ.1 7 0 23) - 1)).bind (fun r1 => (if (r1.1 : Int32) = (0 : Int32) then (f_X4_isNoOrder_20 r1.2 1) else (f_X4_isNoOrder_20 r1.2 0))))
set_option maxRecDepth 100000 in
set_option maxHeartbeats 4000000 in
theorem b_X4_isNoOrder_0 (C0 : Cx p l s m args meth c cX4_isNoOrder 2 RX4 D cy n0) (hR : meth.sig.returnType = (some .boolean)) (σ : Sg) (x1 : Int32) (H : Heap) (locs : List Loc) (ls : Array Slot) (hh : Hp D cy n0 ad nT nO s σ H locs) (hl : lv_has ls 2 [(0, .ref (ad 7 0)), (1, .int x1)]) : Sm (Qr below args s D cy n0 ad nT nO vI 0 0) (f_X4_isNoOrder_0 σ x1) p l e rmX4_isNoOrder s m args below meth c H locs 0 0 (F0 m 0 ls []) := by
  unfold f_X4_isNoOrder_0
  refine s_aload_n C0 dX4_isNoOrder_0 rfl (lv_at hl 0 rfl) ?_
  refine s_iload_n C0 dX4_isNoOrder_1 rfl (lv_at hl 1 rfl) ?_
  refine s_iconst (v := 0) C0 dX4_isNoOrder_2 (by decide) ?_
  refine s_aload_n C0 dX4_isNoOrder_3 rfl (lv_at hl 0 rfl) ?_
  refine s_get (v := .int (σ.1 7 0 23)) C0 hh (rl_b (by decide)) rfl (T := TX4) (N := 28) rfl hinX4 (by decide) w341 rfl dX4_isNoOrder_4 ?_
  refine s_iconst (v := 1) C0 dX4_isNoOrder_7 (by decide) ?_
  refine s_isub C0 dX4_isNoOrder_8 ?_
  refine s_S (As := [.int x1, .int 0, .int ((σ.1 7 0 23) - 1)]) (rest := [.ref (ad 7 0)]) C0 hh (c_X4_isBetween C0.2.2.2.2.2.2 _ x1 0 ((σ.1 7 0 23) - 1)) (qc50 C0.1.2.2.2.2 ⟨Nat.le_of_ble_eq_true rfl, Nat.le_of_ble_eq_true rfl⟩) rfl hl.1 rfl (lv_room (Nat.le_of_ble_eq_true rfl)) dX4_isNoOrder_9 ⟨Nat.le_of_ble_eq_true rfl, Nat.le_of_ble_eq_true rfl⟩ (fun r1 H locs hor1 hh => ?_)
  refine s_if_eq (tgt := 19) C0 dX4_isNoOrder_12 (by decide) (fun _ => ?_) (fun _ => ?_)
  · refine s_iconst (v := 1) C0 dX4_isNoOrder_19 (by decide) ?_
    exact b_X4_isNoOrder_20 C0 hR r1.2 1 _ _ _ hh ⟨hl.1, hl.2.1, fun _ h => nomatch h⟩
  · refine s_iconst (v := 0) C0 dX4_isNoOrder_15 (by decide) ?_
    refine s_goto (tgt := 20) C0 dX4_isNoOrder_16 (by decide) ?_
    exact b_X4_isNoOrder_20 C0 hR r1.2 0 _ _ _ hh ⟨hl.1, hl.2.1, fun _ h => nomatch h⟩
def f_X4_isNoOrder (σ : Sg) (x1 : Int32) : Option (Int32 × Sg) := f_X4_isNoOrder_0 σ x1
set_option maxRecDepth 100000 in
set_option maxHeartbeats 4000000 in
theorem c_X4_isNoOrder (hst : l.stackTraces = false) (σ : Sg) (x1 : Int32) : Ct l yX4_isNoOrder (wm yX4_isNoOrder cX4_isNoOrder 2 (some .boolean)) rmX4_isNoOrder 0 0 vI [.ref (ad 7 0), .int x1] D cy n0 ad nT nO  σ (f_X4_isNoOrder σ x1) := by
  intro r0 h0
  refine Met.ofW (cc := cX4_isNoOrder) (maxL := 2) (ret := (some .boolean)) (by decide +kernel) rfl ?_
  intro p e s m args below meth c s₁ B hml hv
  obtain ⟨C0, hh, hR, rfl⟩ := ent B hml hst hv
  rw [lg_entry_eq]
  have hl := lv_entry ([.ref (ad 7 0), .int x1]) (n := 2) (Nat.le_of_ble_eq_true rfl)
  generalize (lg_sl ([.ref (ad 7 0), .int x1]) ++ List.replicate (2 - (lg_sl ([.ref (ad 7 0), .int x1])).length) Slot.unset).toArray = ls at hl ⊢
  exact b_X4_isNoOrder_0 C0 hR σ x1 _ _ _ hh hl r0 h0
theorem qc59 {R : Room} {s : State} {args : Array Value} (ht : ∀ w ∈ allw, w.before args s = true) (hR : (rmX4_doesSing).frames + 1 ≤ R.frames ∧ 8 + (2 + 11) + (rmX4_doesSing).locals ≤ R.locals) : CallW R s args RX4 RX4 138 yX4_doesSing cX4_doesSing 2 (some .boolean) (wm yX4_doesSing cX4_doesSing 2 (some .boolean)) rmX4_doesSing 0 0 1 := cwV 1 ht (gd_of (fun _ h => h) _ (mV w342 w344 w345 w310 w343)) rfl rfl rfl (by decide +kernel) hR
theorem qc60 {R : Room} {s : State} {args : Array Value} (ht : ∀ w ∈ allw, w.before args s = true) (hR : (rmX4_worn).frames + 1 ≤ R.frames ∧ 8 + (4 + 11) + (rmX4_worn).locals ≤ R.locals) : CallW R s args RX4 RX4 158 yX4_worn cX4_worn 4 (some .int) (wm yX4_worn cX4_worn 4 (some .int)) rmX4_worn 0 0 1 := cwV 1 ht (gd_of (fun _ h => h) _ (mV w346 w348 w349 w310 w347)) rfl rfl rfl (by decide +kernel) hR
theorem qc61 {R : Room} {s : State} {args : Array Value} (ht : ∀ w ∈ allw, w.before args s = true) (hR : (rmX4_isWorked).frames + 1 ≤ R.frames ∧ 8 + (4 + 11) + (rmX4_isWorked).locals ≤ R.locals) : CallW R s args RX4 RX4 161 yX4_isWorked cX4_isWorked 4 (some .boolean) (wm yX4_isWorked cX4_isWorked 4 (some .boolean)) rmX4_isWorked 0 0 1 := cwV 1 ht (gd_of (fun _ h => h) _ (mV w350 w352 w353 w310 w351)) rfl rfl rfl (by decide +kernel) hR
def rmX4_fits : Room := { frames := 4, cells := 0, slots := 0, locals := 86 }
def f_X4_fits_44 (σ : Sg) (x1 : Int32) (s0 : Int32) : Option (Int32 × Sg) :=
  (if (s0 : Int32) = (0 : Int32) then (some (0, σ)) else (if (x1 : Int32) < 0 ∨ 8 ≤ (x1 : Int32).toNatClampNeg then none else (if ((σ.1 8 4 (x1 : Int32).toNatClampNeg) : Int32) = (104 : Int32) then (if (x1 : Int32) < 0 ∨ 8 ≤ (x1 : Int32).toNatClampNeg then none else (if ((σ.1 8 10 (x1 : Int32).toNatClampNeg) : Int32) < (50 : Int32) then (some (0, σ)) else (if (x1 : Int32) < 0 ∨ 8 ≤ (x1 : Int32).toNatClampNeg then none else (if (3 : Int32) < ((σ.1 8 11 (x1 : Int32).toNatClampNeg) : Int32) then (some (0, σ)) else ((f_X4_doesSing σ x1).bind (fun r1 => (if (r1.1 : Int32) = (0 : Int32) then ((f_X4_worn r1.2 x1).bind (fun r2 => (if (r2.1 : Int32) = (0 : Int32) then ((f_X4_isWorked r2.2 x1).bind (fun r3 => (if (r3.1 : Int32) = (0 : Int32) then (some (1, r3.2)) else (some (0, r3.2))))) else (some (0, r2.2))))) else (some (0, r1.2))))))))) else (some (0, σ)))))
set_option maxRecDepth 100000 in
set_option maxHeartbeats 4000000 in
theorem b_X4_fits_44 (C0 : Cx p l s m args meth c cX4_fits 4 RX4 D cy n0) (hR : meth.sig.returnType = (some .boolean)) (σ : Sg) (x1 : Int32) (s0 : Int32) (H : Heap) (locs : List Loc) (ls : Array Slot) (hh : Hp D cy n0 ad nT nO s σ H locs) (hl : lv_has ls 4 [(0, .ref (ad 7 0)), (1, .int x1)]) : Sm (Qr below args s D cy n0 ad nT nO vI 0 0) (f_X4_fits_44 σ x1 s0) p l e rmX4_fits s m args below meth c H locs 0 0 (F0 m 44 ls [.int s0]) := by
  unfold f_X4_fits_44
  refine s_istore_n (lv' := [(3, .int s0), (0, .ref (ad 7 0)), (1, .int x1)]) C0 dX4_fits_44 rfl hl (by decide) rfl (fun ls hl => ?_)
  refine s_iload_n C0 dX4_fits_45 rfl (lv_at hl 0 rfl) ?_
  refine s_if_eq (tgt := 109) C0 dX4_fits_46 (by decide) (fun _ => ?_) (fun _ => ?_)
  · refine s_iconst (v := 0) C0 dX4_fits_109 (by decide) ?_
    exact s_iret C0 hh hR narrow_b0 (Nat.le_of_ble_eq_true rfl) (Nat.le_of_ble_eq_true rfl) dX4_fits_110
  · refine s_aload_n C0 dX4_fits_49 rfl (lv_at hl 1 rfl) ?_
    refine s_get (v := .ref (ad 8 4)) C0 hh (rl_b (by decide)) rfl (T := TX4) (N := 28) rfl hinX4 (by decide) w37 rfl dX4_fits_50 ?_
    refine s_iload_n C0 dX4_fits_53 rfl (lv_at hl 2 rfl) ?_
    refine s_cald (g := (σ.1 8 4)) C0 hh rfl (rl_b (by decide)) (fun _ => rfl) (t0 := 0) rfl dX4_fits_54 ?_
    refine s_bipush (v := 104) C0 dX4_fits_55 (by decide) ?_
    refine s_icmp_ne (tgt := 109) C0 dX4_fits_57 (by decide) (fun _ => ?_) (fun _ => ?_)
    · refine s_iconst (v := 0) C0 dX4_fits_109 (by decide) ?_
      exact s_iret C0 hh hR narrow_b0 (Nat.le_of_ble_eq_true rfl) (Nat.le_of_ble_eq_true rfl) dX4_fits_110
    · refine s_aload_n C0 dX4_fits_60 rfl (lv_at hl 1 rfl) ?_
      refine s_get (v := .ref (ad 8 10)) C0 hh (rl_b (by decide)) rfl (T := TX4) (N := 28) rfl hinX4 (by decide) w43 rfl dX4_fits_61 ?_
      refine s_iload_n C0 dX4_fits_64 rfl (lv_at hl 2 rfl) ?_
      refine s_iald (g := (σ.1 8 10)) C0 hh rfl (rl_b (by decide)) (fun _ => rfl) (t0 := 1) rfl dX4_fits_65 ?_
      refine s_bipush (v := 50) C0 dX4_fits_66 (by decide) ?_
      refine s_icmp_lt (tgt := 109) C0 dX4_fits_68 (by decide) (fun _ => ?_) (fun _ => ?_)
      · refine s_iconst (v := 0) C0 dX4_fits_109 (by decide) ?_
        exact s_iret C0 hh hR narrow_b0 (Nat.le_of_ble_eq_true rfl) (Nat.le_of_ble_eq_true rfl) dX4_fits_110
      · refine s_aload_n C0 dX4_fits_71 rfl (lv_at hl 1 rfl) ?_
        refine s_get (v := .ref (ad 8 11)) C0 hh (rl_b (by decide)) rfl (T := TX4) (N := 28) rfl hinX4 (by decide) w44 rfl dX4_fits_72 ?_
        refine s_iload_n C0 dX4_fits_75 rfl (lv_at hl 2 rfl) ?_
        refine s_iald (g := (σ.1 8 11)) C0 hh rfl (rl_b (by decide)) (fun _ => rfl) (t0 := 1) rfl dX4_fits_76 ?_
        refine s_iconst (v := 3) C0 dX4_fits_77 (by decide) ?_
        refine s_icmp_gt (tgt := 109) C0 dX4_fits_78 (by decide) (fun _ => ?_) (fun _ => ?_)
        · refine s_iconst (v := 0) C0 dX4_fits_109 (by decide) ?_
          exact s_iret C0 hh hR narrow_b0 (Nat.le_of_ble_eq_true rfl) (Nat.le_of_ble_eq_true rfl) dX4_fits_110
        · refine s_aload_n C0 dX4_fits_81 rfl (lv_at hl 1 rfl) ?_
          refine s_iload_n C0 dX4_fits_82 rfl (lv_at hl 2 rfl) ?_
          refine s_V (As := [.int x1]) (rest := []) C0 hh (c_X4_doesSing C0.2.2.2.2.2.2 _ x1) (qc59 C0.1.2.2.2.2 ⟨Nat.le_of_ble_eq_true rfl, Nat.le_of_ble_eq_true rfl⟩) (rl_b (by decide)) rfl rfl rfl hl.1 rfl (lv_room (Nat.le_of_ble_eq_true rfl)) dX4_fits_83 ⟨Nat.le_of_ble_eq_true rfl, Nat.le_of_ble_eq_true rfl⟩ (fun r1 H locs hor1 hh => ?_)
          refine s_if_ne (tgt := 109) C0 dX4_fits_86 (by decide) (fun _ => ?_) (fun _ => ?_)
          · refine s_iconst (v := 0) C0 dX4_fits_109 (by decide) ?_
            exact s_iret C0 hh hR narrow_b0 (Nat.le_of_ble_eq_true rfl) (Nat.le_of_ble_eq_true rfl) dX4_fits_110
          · refine s_aload_n C0 dX4_fits_89 rfl (lv_at hl 1 rfl) ?_
            refine s_iload_n C0 dX4_fits_90 rfl (lv_at hl 2 rfl) ?_
            refine s_V (As := [.int x1]) (rest := []) C0 hh (c_X4_worn C0.2.2.2.2.2.2 _ x1) (qc60 C0.1.2.2.2.2 ⟨Nat.le_of_ble_eq_true rfl, Nat.le_of_ble_eq_true rfl⟩) (rl_b (by decide)) rfl rfl rfl hl.1 rfl (lv_room (Nat.le_of_ble_eq_true rfl)) dX4_fits_91 ⟨Nat.le_of_ble_eq_true rfl, Nat.le_of_ble_eq_true rfl⟩ (fun r2 H locs hor2 hh => ?_)
            refine s_if_ne (tgt := 109) C0 dX4_fits_94 (by decide) (fun _ => ?_) (fun _ => ?_)
            · refine s_iconst (v := 0) C0 dX4_fits_109 (by decide) ?_
              exact s_iret C0 hh hR narrow_b0 (Nat.le_of_ble_eq_true rfl) (Nat.le_of_ble_eq_true rfl) dX4_fits_110
            · refine s_aload_n C0 dX4_fits_97 rfl (lv_at hl 1 rfl) ?_
              refine s_iload_n C0 dX4_fits_98 rfl (lv_at hl 2 rfl) ?_
              refine s_V (As := [.int x1]) (rest := []) C0 hh (c_X4_isWorked C0.2.2.2.2.2.2 _ x1) (qc61 C0.1.2.2.2.2 ⟨Nat.le_of_ble_eq_true rfl, Nat.le_of_ble_eq_true rfl⟩) (rl_b (by decide)) rfl rfl rfl hl.1 rfl (lv_room (Nat.le_of_ble_eq_true rfl)) dX4_fits_99 ⟨Nat.le_of_ble_eq_true rfl, Nat.le_of_ble_eq_true rfl⟩ (fun r3 H locs hor3 hh => ?_)
              refine s_if_ne (tgt := 109) C0 dX4_fits_102 (by decide) (fun _ => ?_) (fun _ => ?_)
              · refine s_iconst (v := 0) C0 dX4_fits_109 (by decide) ?_
                exact s_iret C0 hh hR narrow_b0 (Nat.le_of_ble_eq_true rfl) (Nat.le_of_ble_eq_true rfl) dX4_fits_110
              · refine s_iconst (v := 1) C0 dX4_fits_105 (by decide) ?_
                refine s_goto (tgt := 110) C0 dX4_fits_106 (by decide) ?_
                exact s_iret C0 hh hR narrow_b1 (Nat.le_of_ble_eq_true rfl) (Nat.le_of_ble_eq_true rfl) dX4_fits_110
def f_X4_fits_43 (σ : Sg) (x1 : Int32) : Option (Int32 × Sg) :=
  (f_X4_fits_44 σ x1 0)
set_option maxRecDepth 100000 in
set_option maxHeartbeats 4000000 in
theorem b_X4_fits_43 (C0 : Cx p l s m args meth c cX4_fits 4 RX4 D cy n0) (hR : meth.sig.returnType = (some .boolean)) (σ : Sg) (x1 : Int32) (H : Heap) (locs : List Loc) (ls : Array Slot) (hh : Hp D cy n0 ad nT nO s σ H locs) (hl : lv_has ls 4 [(0, .ref (ad 7 0)), (1, .int x1)]) : Sm (Qr below args s D cy n0 ad nT nO vI 0 0) (f_X4_fits_43 σ x1) p l e rmX4_fits s m args below meth c H locs 0 0 (F0 m 43 ls []) := by
  unfold f_X4_fits_43
  refine s_iconst (v := 0) C0 dX4_fits_43 (by decide) ?_
  exact b_X4_fits_44 C0 hR σ x1 0 _ _ _ hh (lv_sub hl [0, 1] rfl)
def f_X4_fits_0 (σ : Sg) (x1 : Int32) (x2 : Int32) : Option (Int32 × Sg) :=
  (if (x1 : Int32) < 0 ∨ 8 ≤ (x1 : Int32).toNatClampNeg then none else (if (x2 : Int32) < 0 ∨ 6 ≤ (x2 : Int32).toNatClampNeg then none else (if ((σ.1 8 2 (x1 : Int32).toNatClampNeg) : Int32) = (σ.1 8 24 (x2 : Int32).toNatClampNeg) then (if (x1 : Int32) < 0 ∨ 8 ≤ (x1 : Int32).toNatClampNeg then none else (if (x2 : Int32) < 0 ∨ 6 ≤ (x2 : Int32).toNatClampNeg then none else (if ((σ.1 8 3 (x1 : Int32).toNatClampNeg) : Int32) = (σ.1 8 25 (x2 : Int32).toNatClampNeg) then (if (x1 : Int32) < 0 ∨ 8 ≤ (x1 : Int32).toNatClampNeg then none else (if ((σ.1 8 16 (x1 : Int32).toNatClampNeg) : Int32) ≤ (0 : Int32) then (f_X4_fits_43 σ x1) else (f_X4_fits_44 σ x1 1))) else (f_X4_fits_43 σ x1)))) else (f_X4_fits_43 σ x1))))
set_option maxRecDepth 100000 in
set_option maxHeartbeats 4000000 in
theorem b_X4_fits_0 (C0 : Cx p l s m args meth c cX4_fits 4 RX4 D cy n0) (hR : meth.sig.returnType = (some .boolean)) (σ : Sg) (x1 : Int32) (x2 : Int32) (H : Heap) (locs : List Loc) (ls : Array Slot) (hh : Hp D cy n0 ad nT nO s σ H locs) (hl : lv_has ls 4 [(0, .ref (ad 7 0)), (1, .int x1), (2, .int x2)]) : Sm (Qr below args s D cy n0 ad nT nO vI 0 0) (f_X4_fits_0 σ x1 x2) p l e rmX4_fits s m args below meth c H locs 0 0 (F0 m 0 ls []) := by
  unfold f_X4_fits_0
  refine s_aload_n C0 dX4_fits_0 rfl (lv_at hl 0 rfl) ?_
  refine s_get (v := .ref (ad 8 2)) C0 hh (rl_b (by decide)) rfl (T := TX4) (N := 28) rfl hinX4 (by decide) w35 rfl dX4_fits_1 ?_
  refine s_iload_n C0 dX4_fits_4 rfl (lv_at hl 1 rfl) ?_
  refine s_cald (g := (σ.1 8 2)) C0 hh rfl (rl_b (by decide)) (fun _ => rfl) (t0 := 0) rfl dX4_fits_5 ?_
  refine s_aload_n C0 dX4_fits_6 rfl (lv_at hl 0 rfl) ?_
  refine s_get (v := .ref (ad 8 24)) C0 hh (rl_b (by decide)) rfl (T := TX4) (N := 28) rfl hinX4 (by decide) w57 rfl dX4_fits_7 ?_
  refine s_iload_n C0 dX4_fits_10 rfl (lv_at hl 2 rfl) ?_
  refine s_cald (g := (σ.1 8 24)) C0 hh rfl (rl_b (by decide)) (fun _ => rfl) (t0 := 0) rfl dX4_fits_11 ?_
  refine s_icmp_ne (tgt := 43) C0 dX4_fits_12 (by decide) (fun _ => ?_) (fun _ => ?_)
  · exact b_X4_fits_43 C0 hR σ x1 _ _ _ hh (lv_sub hl [0, 1] rfl)
  · refine s_aload_n C0 dX4_fits_15 rfl (lv_at hl 0 rfl) ?_
    refine s_get (v := .ref (ad 8 3)) C0 hh (rl_b (by decide)) rfl (T := TX4) (N := 28) rfl hinX4 (by decide) w36 rfl dX4_fits_16 ?_
    refine s_iload_n C0 dX4_fits_19 rfl (lv_at hl 1 rfl) ?_
    refine s_cald (g := (σ.1 8 3)) C0 hh rfl (rl_b (by decide)) (fun _ => rfl) (t0 := 0) rfl dX4_fits_20 ?_
    refine s_aload_n C0 dX4_fits_21 rfl (lv_at hl 0 rfl) ?_
    refine s_get (v := .ref (ad 8 25)) C0 hh (rl_b (by decide)) rfl (T := TX4) (N := 28) rfl hinX4 (by decide) w58 rfl dX4_fits_22 ?_
    refine s_iload_n C0 dX4_fits_25 rfl (lv_at hl 2 rfl) ?_
    refine s_cald (g := (σ.1 8 25)) C0 hh rfl (rl_b (by decide)) (fun _ => rfl) (t0 := 0) rfl dX4_fits_26 ?_
    refine s_icmp_ne (tgt := 43) C0 dX4_fits_27 (by decide) (fun _ => ?_) (fun _ => ?_)
    · exact b_X4_fits_43 C0 hR σ x1 _ _ _ hh (lv_sub hl [0, 1] rfl)
    · refine s_aload_n C0 dX4_fits_30 rfl (lv_at hl 0 rfl) ?_
      refine s_get (v := .ref (ad 8 16)) C0 hh (rl_b (by decide)) rfl (T := TX4) (N := 28) rfl hinX4 (by decide) w49 rfl dX4_fits_31 ?_
      refine s_iload_n C0 dX4_fits_34 rfl (lv_at hl 1 rfl) ?_
      refine s_iald (g := (σ.1 8 16)) C0 hh rfl (rl_b (by decide)) (fun _ => rfl) (t0 := 1) rfl dX4_fits_35 ?_
      refine s_if_le (tgt := 43) C0 dX4_fits_36 (by decide) (fun _ => ?_) (fun _ => ?_)
      · exact b_X4_fits_43 C0 hR σ x1 _ _ _ hh (lv_sub hl [0, 1] rfl)
      · refine s_iconst (v := 1) C0 dX4_fits_39 (by decide) ?_
        refine s_goto (tgt := 44) C0 dX4_fits_40 (by decide) ?_
        exact b_X4_fits_44 C0 hR σ x1 1 _ _ _ hh (lv_sub hl [0, 1] rfl)
def f_X4_fits (σ : Sg) (x1 : Int32) (x2 : Int32) : Option (Int32 × Sg) := f_X4_fits_0 σ x1 x2
set_option maxRecDepth 100000 in
set_option maxHeartbeats 4000000 in
theorem c_X4_fits (hst : l.stackTraces = false) (σ : Sg) (x1 : Int32) (x2 : Int32) : Ct l yX4_fits (wm yX4_fits cX4_fits 4 (some .boolean)) rmX4_fits 0 0 vI [.ref (ad 7 0), .int x1, .int x2] D cy n0 ad nT nO  σ (f_X4_fits σ x1 x2) := by
  intro r0 h0
  refine Met.ofW (cc := cX4_fits) (maxL := 4) (ret := (some .boolean)) (by decide +kernel) rfl ?_
  intro p e s m args below meth c s₁ B hml hv
  obtain ⟨C0, hh, hR, rfl⟩ := ent B hml hst hv
  rw [lg_entry_eq]
  have hl := lv_entry ([.ref (ad 7 0), .int x1, .int x2]) (n := 4) (Nat.le_of_ble_eq_true rfl)
  generalize (lg_sl ([.ref (ad 7 0), .int x1, .int x2]) ++ List.replicate (4 - (lg_sl ([.ref (ad 7 0), .int x1, .int x2])).length) Slot.unset).toArray = ls at hl ⊢
  exact b_X4_fits_0 C0 hR σ x1 x2 _ _ _ hh hl r0 h0
end
