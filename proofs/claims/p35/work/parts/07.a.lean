section
variable {p : Program} {l : Launch} {e : Env} {R : Room} {s : State} {m : MethodId} {args : Array Value} {below : List Frame} {meth : Method} {c : Code} {D : va_G} {cy : Nat → ClassId} {n0 : Nat} {ad : Nat → Nat → Nat} {nT nO : Nat}

def rmX3_pitchOf : Room := { frames := 0, cells := 0, slots := 0, locals := 0 }
def f_X3_pitchOf_0 (σ : Sg) (x0 : Int32) : Option (Int32 × Sg) :=
  (if (x0 : Int32) = (98 : Int32) then (some (6, σ)) else (if (x0 : Int32) = (115 : Int32) then (some (4, σ)) else (some (3, σ))))
set_option maxRecDepth 100000 in
set_option maxHeartbeats 4000000 in
theorem b_X3_pitchOf_0 (C0 : Cx p l s m args meth c cX3_pitchOf 1 RX3 D cy n0) (hR : meth.sig.returnType = (some .int)) (σ : Sg) (x0 : Int32) (H : Heap) (locs : List Loc) (ls : Array Slot) (hh : Hp D cy n0 ad nT nO s σ H locs) (hl : lv_has ls 1 [(0, .int x0)]) : Sm (Qr below args s D cy n0 ad nT nO vI 0 0) (f_X3_pitchOf_0 σ x0) p l e rmX3_pitchOf s m args below meth c H locs 0 0 (F0 m 0 ls []) := by
  unfold f_X3_pitchOf_0
  refine s_iload_n C0 dX3_pitchOf_0 rfl (lv_at hl 0 rfl) ?_
  refine s_bipush (v := 98) C0 dX3_pitchOf_1 (by decide) ?_
  refine s_icmp_ne (tgt := 11) C0 dX3_pitchOf_3 (by decide) (fun _ => ?_) (fun _ => ?_)
  · refine s_iload_n C0 dX3_pitchOf_11 rfl (lv_at hl 0 rfl) ?_
    refine s_bipush (v := 115) C0 dX3_pitchOf_12 (by decide) ?_
    refine s_icmp_ne (tgt := 21) C0 dX3_pitchOf_14 (by decide) (fun _ => ?_) (fun _ => ?_)
    · refine s_iconst (v := 3) C0 dX3_pitchOf_21 (by decide) ?_
      exact s_iret C0 hh hR rfl (Nat.le_of_ble_eq_true rfl) (Nat.le_of_ble_eq_true rfl) dX3_pitchOf_22
    · refine s_iconst (v := 4) C0 dX3_pitchOf_17 (by decide) ?_
      refine s_goto (tgt := 22) C0 dX3_pitchOf_18 (by decide) ?_
      exact s_iret C0 hh hR rfl (Nat.le_of_ble_eq_true rfl) (Nat.le_of_ble_eq_true rfl) dX3_pitchOf_22
  · refine s_bipush (v := 6) C0 dX3_pitchOf_6 (by decide) ?_
    refine s_goto (tgt := 22) C0 dX3_pitchOf_8 (by decide) ?_
    exact s_iret C0 hh hR rfl (Nat.le_of_ble_eq_true rfl) (Nat.le_of_ble_eq_true rfl) dX3_pitchOf_22
def f_X3_pitchOf (σ : Sg) (x0 : Int32) : Option (Int32 × Sg) := f_X3_pitchOf_0 σ x0
set_option maxRecDepth 100000 in
set_option maxHeartbeats 4000000 in
theorem c_X3_pitchOf (hst : l.stackTraces = false) (σ : Sg) (x0 : Int32) : Ct l yX3_pitchOf (wm yX3_pitchOf cX3_pitchOf 1 (some .int)) rmX3_pitchOf 0 0 vI [.int x0] D cy n0 ad nT nO  σ (f_X3_pitchOf σ x0) := by
  intro r0 h0
  refine Met.ofW (cc := cX3_pitchOf) (maxL := 1) (ret := (some .int)) (by decide +kernel) rfl ?_
  intro p e s m args below meth c s₁ B hml hv
  obtain ⟨C0, hh, hR, rfl⟩ := ent B hml hst hv
  rw [lg_entry_eq]
  have hl := lv_entry ([.int x0]) (n := 1) (Nat.le_of_ble_eq_true rfl)
  generalize (lg_sl ([.int x0]) ++ List.replicate (1 - (lg_sl ([.int x0])).length) Slot.unset).toArray = ls at hl ⊢
  exact b_X3_pitchOf_0 C0 hR σ x0 _ _ _ hh hl r0 h0

def rmX3_depthOf : Room := { frames := 0, cells := 0, slots := 0, locals := 0 }
def f_X3_depthOf_23 (σ : Sg) (x1 : Int32) (s0 : Int32) : Option (Int32 × Sg) :=
  (if (x1 : Int32) = (104 : Int32) then (some ((s0 - 1), σ)) else (some (s0, σ)))
set_option maxRecDepth 100000 in
set_option maxHeartbeats 4000000 in
theorem b_X3_depthOf_23 (C0 : Cx p l s m args meth c cX3_depthOf 3 RX3 D cy n0) (hR : meth.sig.returnType = (some .int)) (σ : Sg) (x1 : Int32) (s0 : Int32) (H : Heap) (locs : List Loc) (ls : Array Slot) (hh : Hp D cy n0 ad nT nO s σ H locs) (hl : lv_has ls 3 [(1, .int x1)]) : Sm (Qr below args s D cy n0 ad nT nO vI 0 0) (f_X3_depthOf_23 σ x1 s0) p l e rmX3_depthOf s m args below meth c H locs 0 0 (F0 m 23 ls [.int s0]) := by
  unfold f_X3_depthOf_23
  refine s_istore_n (lv' := [(2, .int s0), (1, .int x1)]) C0 dX3_depthOf_23 rfl hl (by decide) rfl (fun ls hl => ?_)
  refine s_iload_n C0 dX3_depthOf_24 rfl (lv_at hl 1 rfl) ?_
  refine s_bipush (v := 104) C0 dX3_depthOf_25 (by decide) ?_
  refine s_icmp_ne (tgt := 36) C0 dX3_depthOf_27 (by decide) (fun _ => ?_) (fun _ => ?_)
  · refine s_iload_n C0 dX3_depthOf_36 rfl (lv_at hl 0 rfl) ?_
    exact s_iret C0 hh hR rfl (Nat.le_of_ble_eq_true rfl) (Nat.le_of_ble_eq_true rfl) dX3_depthOf_37
  · refine s_iload_n C0 dX3_depthOf_30 rfl (lv_at hl 0 rfl) ?_
    refine s_iconst (v := 1) C0 dX3_depthOf_31 (by decide) ?_
    refine s_isub C0 dX3_depthOf_32 ?_
    refine s_goto (tgt := 37) C0 dX3_depthOf_33 (by decide) ?_
    exact s_iret C0 hh hR rfl (Nat.le_of_ble_eq_true rfl) (Nat.le_of_ble_eq_true rfl) dX3_depthOf_37
def f_X3_depthOf_0 (σ : Sg) (x0 : Int32) (x1 : Int32) : Option (Int32 × Sg) :=
  (if (x0 : Int32) = (98 : Int32) then (f_X3_depthOf_23 σ x1 9) else (if (x0 : Int32) = (115 : Int32) then (f_X3_depthOf_23 σ x1 6) else (f_X3_depthOf_23 σ x1 4)))
set_option maxRecDepth 100000 in
set_option maxHeartbeats 4000000 in
theorem b_X3_depthOf_0 (C0 : Cx p l s m args meth c cX3_depthOf 3 RX3 D cy n0) (hR : meth.sig.returnType = (some .int)) (σ : Sg) (x0 : Int32) (x1 : Int32) (H : Heap) (locs : List Loc) (ls : Array Slot) (hh : Hp D cy n0 ad nT nO s σ H locs) (hl : lv_has ls 3 [(0, .int x0), (1, .int x1)]) : Sm (Qr below args s D cy n0 ad nT nO vI 0 0) (f_X3_depthOf_0 σ x0 x1) p l e rmX3_depthOf s m args below meth c H locs 0 0 (F0 m 0 ls []) := by
  unfold f_X3_depthOf_0
  refine s_iload_n C0 dX3_depthOf_0 rfl (lv_at hl 0 rfl) ?_
  refine s_bipush (v := 98) C0 dX3_depthOf_1 (by decide) ?_
  refine s_icmp_ne (tgt := 11) C0 dX3_depthOf_3 (by decide) (fun _ => ?_) (fun _ => ?_)
  · refine s_iload_n C0 dX3_depthOf_11 rfl (lv_at hl 0 rfl) ?_
    refine s_bipush (v := 115) C0 dX3_depthOf_12 (by decide) ?_
    refine s_icmp_ne (tgt := 22) C0 dX3_depthOf_14 (by decide) (fun _ => ?_) (fun _ => ?_)
    · refine s_iconst (v := 4) C0 dX3_depthOf_22 (by decide) ?_
      exact b_X3_depthOf_23 C0 hR σ x1 4 _ _ _ hh (lv_sub hl [1] rfl)
    · refine s_bipush (v := 6) C0 dX3_depthOf_17 (by decide) ?_
      refine s_goto (tgt := 23) C0 dX3_depthOf_19 (by decide) ?_
      exact b_X3_depthOf_23 C0 hR σ x1 6 _ _ _ hh (lv_sub hl [1] rfl)
  · refine s_bipush (v := 9) C0 dX3_depthOf_6 (by decide) ?_
    refine s_goto (tgt := 23) C0 dX3_depthOf_8 (by decide) ?_
    exact b_X3_depthOf_23 C0 hR σ x1 9 _ _ _ hh (lv_sub hl [1] rfl)
def f_X3_depthOf (σ : Sg) (x0 : Int32) (x1 : Int32) : Option (Int32 × Sg) := f_X3_depthOf_0 σ x0 x1
set_option maxRecDepth 100000 in
set_option maxHeartbeats 4000000 in
theorem c_X3_depthOf (hst : l.stackTraces = false) (σ : Sg) (x0 : Int32) (x1 : Int32) : Ct l yX3_depthOf (wm yX3_depthOf cX3_depthOf 3 (some .int)) rmX3_depthOf 0 0 vI [.int x0, .int x1] D cy n0 ad nT nO  σ (f_X3_depthOf σ x0 x1) := by
  intro r0 h0
  refine Met.ofW (cc := cX3_depthOf) (maxL := 3) (ret := (some .int)) (by decide +kernel) rfl ?_
  intro p e s m args below meth c s₁ B hml hv
  obtain ⟨C0, hh, hR, rfl⟩ := ent B hml hst hv
  rw [lg_entry_eq]
  have hl := lv_entry ([.int x0, .int x1]) (n := 3) (Nat.le_of_ble_eq_true rfl)
  generalize (lg_sl ([.int x0, .int x1]) ++ List.replicate (3 - (lg_sl ([.int x0, .int x1])).length) Slot.unset).toArray = ls at hl ⊢
  exact b_X3_depthOf_0 C0 hR σ x0 x1 _ _ _ hh hl r0 h0

def rmX3_forceOf : Room := { frames := 0, cells := 0, slots := 0, locals := 0 }
def f_X3_forceOf_0 (σ : Sg) (x0 : Int32) : Option (Int32 × Sg) :=
  (if (x0 : Int32) = (111 : Int32) then (some (4, σ)) else (if (x0 : Int32) = (119 : Int32) then (some (8, σ)) else (some (12, σ))))
set_option maxRecDepth 100000 in
set_option maxHeartbeats 4000000 in
theorem b_X3_forceOf_0 (C0 : Cx p l s m args meth c cX3_forceOf 1 RX3 D cy n0) (hR : meth.sig.returnType = (some .int)) (σ : Sg) (x0 : Int32) (H : Heap) (locs : List Loc) (ls : Array Slot) (hh : Hp D cy n0 ad nT nO s σ H locs) (hl : lv_has ls 1 [(0, .int x0)]) : Sm (Qr below args s D cy n0 ad nT nO vI 0 0) (f_X3_forceOf_0 σ x0) p l e rmX3_forceOf s m args below meth c H locs 0 0 (F0 m 0 ls []) := by
  unfold f_X3_forceOf_0
  refine s_iload_n C0 dX3_forceOf_0 rfl (lv_at hl 0 rfl) ?_
  refine s_bipush (v := 111) C0 dX3_forceOf_1 (by decide) ?_
  refine s_icmp_ne (tgt := 10) C0 dX3_forceOf_3 (by decide) (fun _ => ?_) (fun _ => ?_)
  · refine s_iload_n C0 dX3_forceOf_10 rfl (lv_at hl 0 rfl) ?_
    refine s_bipush (v := 119) C0 dX3_forceOf_11 (by decide) ?_
    refine s_icmp_ne (tgt := 21) C0 dX3_forceOf_13 (by decide) (fun _ => ?_) (fun _ => ?_)
    · refine s_bipush (v := 12) C0 dX3_forceOf_21 (by decide) ?_
      exact s_iret C0 hh hR rfl (Nat.le_of_ble_eq_true rfl) (Nat.le_of_ble_eq_true rfl) dX3_forceOf_23
    · refine s_bipush (v := 8) C0 dX3_forceOf_16 (by decide) ?_
      refine s_goto (tgt := 23) C0 dX3_forceOf_18 (by decide) ?_
      exact s_iret C0 hh hR rfl (Nat.le_of_ble_eq_true rfl) (Nat.le_of_ble_eq_true rfl) dX3_forceOf_23
  · refine s_iconst (v := 4) C0 dX3_forceOf_6 (by decide) ?_
    refine s_goto (tgt := 23) C0 dX3_forceOf_7 (by decide) ?_
    exact s_iret C0 hh hR rfl (Nat.le_of_ble_eq_true rfl) (Nat.le_of_ble_eq_true rfl) dX3_forceOf_23
def f_X3_forceOf (σ : Sg) (x0 : Int32) : Option (Int32 × Sg) := f_X3_forceOf_0 σ x0
set_option maxRecDepth 100000 in
set_option maxHeartbeats 4000000 in
theorem c_X3_forceOf (hst : l.stackTraces = false) (σ : Sg) (x0 : Int32) : Ct l yX3_forceOf (wm yX3_forceOf cX3_forceOf 1 (some .int)) rmX3_forceOf 0 0 vI [.int x0] D cy n0 ad nT nO  σ (f_X3_forceOf σ x0) := by
  intro r0 h0
  refine Met.ofW (cc := cX3_forceOf) (maxL := 1) (ret := (some .int)) (by decide +kernel) rfl ?_
  intro p e s m args below meth c s₁ B hml hv
  obtain ⟨C0, hh, hR, rfl⟩ := ent B hml hst hv
  rw [lg_entry_eq]
  have hl := lv_entry ([.int x0]) (n := 1) (Nat.le_of_ble_eq_true rfl)
  generalize (lg_sl ([.int x0]) ++ List.replicate (1 - (lg_sl ([.int x0])).length) Slot.unset).toArray = ls at hl ⊢
  exact b_X3_forceOf_0 C0 hR σ x0 _ _ _ hh hl r0 h0

def rmX3_biteOf : Room := { frames := 0, cells := 0, slots := 0, locals := 0 }
def f_X3_biteOf_0 (σ : Sg) (x0 : Int32) (x1 : Int32) : Option (Int32 × Sg) :=
  (if (x0 : Int32) ≤ x1 then (some (0, σ)) else (if (10 : Int32) = 0 then none else (some ((1 + ((x0 - x1) / 10)), σ))))
set_option maxRecDepth 100000 in
set_option maxHeartbeats 4000000 in
theorem b_X3_biteOf_0 (C0 : Cx p l s m args meth c cX3_biteOf 2 RX3 D cy n0) (hR : meth.sig.returnType = (some .int)) (σ : Sg) (x0 : Int32) (x1 : Int32) (H : Heap) (locs : List Loc) (ls : Array Slot) (hh : Hp D cy n0 ad nT nO s σ H locs) (hl : lv_has ls 2 [(0, .int x0), (1, .int x1)]) : Sm (Qr below args s D cy n0 ad nT nO vI 0 0) (f_X3_biteOf_0 σ x0 x1) p l e rmX3_biteOf s m args below meth c H locs 0 0 (F0 m 0 ls []) := by
  unfold f_X3_biteOf_0
  refine s_iload_n C0 dX3_biteOf_0 rfl (lv_at hl 0 rfl) ?_
  refine s_iload_n C0 dX3_biteOf_1 rfl (lv_at hl 1 rfl) ?_
  refine s_icmp_le (tgt := 16) C0 dX3_biteOf_2 (by decide) (fun _ => ?_) (fun _ => ?_)
  · refine s_iconst (v := 0) C0 dX3_biteOf_16 (by decide) ?_
    exact s_iret C0 hh hR rfl (Nat.le_of_ble_eq_true rfl) (Nat.le_of_ble_eq_true rfl) dX3_biteOf_17
  · refine s_iconst (v := 1) C0 dX3_biteOf_5 (by decide) ?_
    refine s_iload_n C0 dX3_biteOf_6 rfl (lv_at hl 0 rfl) ?_
    refine s_iload_n C0 dX3_biteOf_7 rfl (lv_at hl 1 rfl) ?_
    refine s_isub C0 dX3_biteOf_8 ?_
    refine s_bipush (v := 10) C0 dX3_biteOf_9 (by decide) ?_
    refine s_idiv C0 dX3_biteOf_11 ?_
    refine s_iadd C0 dX3_biteOf_12 ?_
    refine s_goto (tgt := 17) C0 dX3_biteOf_13 (by decide) ?_
    exact s_iret C0 hh hR rfl (Nat.le_of_ble_eq_true rfl) (Nat.le_of_ble_eq_true rfl) dX3_biteOf_17
def f_X3_biteOf (σ : Sg) (x0 : Int32) (x1 : Int32) : Option (Int32 × Sg) := f_X3_biteOf_0 σ x0 x1
set_option maxRecDepth 100000 in
set_option maxHeartbeats 4000000 in
theorem c_X3_biteOf (hst : l.stackTraces = false) (σ : Sg) (x0 : Int32) (x1 : Int32) : Ct l yX3_biteOf (wm yX3_biteOf cX3_biteOf 2 (some .int)) rmX3_biteOf 0 0 vI [.int x0, .int x1] D cy n0 ad nT nO  σ (f_X3_biteOf σ x0 x1) := by
  intro r0 h0
  refine Met.ofW (cc := cX3_biteOf) (maxL := 2) (ret := (some .int)) (by decide +kernel) rfl ?_
  intro p e s m args below meth c s₁ B hml hv
  obtain ⟨C0, hh, hR, rfl⟩ := ent B hml hst hv
  rw [lg_entry_eq]
  have hl := lv_entry ([.int x0, .int x1]) (n := 2) (Nat.le_of_ble_eq_true rfl)
  generalize (lg_sl ([.int x0, .int x1]) ++ List.replicate (2 - (lg_sl ([.int x0, .int x1])).length) Slot.unset).toArray = ls at hl ⊢
  exact b_X3_biteOf_0 C0 hR σ x0 x1 _ _ _ hh hl r0 h0
theorem qc2 {R : Room} {s : State} {args : Array Value} (ht : ∀ w ∈ allw, w.before args s = true) (hl : va_Nw (.methodLinkNest RX1 49 yX3_pitchOf "Teethrow") s) (hR : (rmX3_pitchOf).frames + 1 ≤ R.frames ∧ 8 + (1 + 11) + (rmX3_pitchOf).locals ≤ R.locals) : va_CN R s args RX1 49 yX3_pitchOf "Teethrow" cX3_pitchOf 1 (some .int) (wm yX3_pitchOf cX3_pitchOf 1 (some .int)) rmX3_pitchOf 0 0 1 ∧ (Cond.static yX3_pitchOf).before args s = true ∧ True := ⟨va_cnB 1 ht (gd_of (fun _ h => h) _ (mC0 w63)) rfl rfl rfl hl (ht _ w64) (by decide +kernel) hR, ht _ w65, trivial⟩
def rmX1_stepBehind : Room := { frames := 1, cells := 0, slots := 0, locals := 20 }
def f_X1_stepBehind_0 (σ : Sg) (i0 : Nat) (x1 : Int32) : Option (Int32 × Sg) :=
  ((f_X3_pitchOf σ (σ.1 2 i0 0)).bind (fun r1 => (if (3 : Int32) = 0 then none else (some ((r1.1 + ((r1.2.1 2 i0 2) * (x1 - x1 / 3 * 3))), r1.2)))))
set_option maxRecDepth 100000 in
set_option maxHeartbeats 4000000 in
theorem b_X1_stepBehind_0 (C0 : Cx p l s m args meth c cX1_stepBehind 2 RX1 D cy n0) (hR : meth.sig.returnType = (some .int)) (σ : Sg) (i0 : Nat) (x1 : Int32) (hi0 : i0 < nT ∨ i0 = 8) (H : Heap) (locs : List Loc) (ls : Array Slot) (hh : Hp D cy n0 ad nT nO s σ H locs) (hl : lv_has ls 2 [(0, .ref (ad 2 i0)), (1, .int x1)]) : Sm (Qr below args s D cy n0 ad nT nO vI 0 0) (f_X1_stepBehind_0 σ i0 x1) p l e rmX1_stepBehind s m args below meth c H locs 0 0 (F0 m 0 ls []) := by
  unfold f_X1_stepBehind_0
  refine s_aload_n C0 dX1_stepBehind_0 rfl (lv_at hl 0 rfl) ?_
  refine s_get (v := .int (σ.1 2 i0 0)) C0 hh (rl_2 hi0) rfl (T := TX1) (N := 8) rfl hinX1 (by decide) w61 rfl dX1_stepBehind_1 ?_
  refine s_SN (As := [.int (σ.1 2 i0 0)]) (rest := []) C0 hh (c_X3_pitchOf C0.2.2.2.2.2.2 _ (σ.1 2 i0 0)) (qc2 C0.1.2.2.2.2 (C0.2.2.2.2.2.1.1 _ w62) ⟨Nat.le_of_ble_eq_true rfl, Nat.le_of_ble_eq_true rfl⟩) rfl hl.1 rfl (lv_room (Nat.le_of_ble_eq_true rfl)) dX1_stepBehind_4 ⟨Nat.le_of_ble_eq_true rfl, Nat.le_of_ble_eq_true rfl⟩ (fun r1 H locs hor1 hh => ?_)
  refine s_aload_n C0 dX1_stepBehind_7 rfl (lv_at hl 0 rfl) ?_
  refine s_get (v := .int (r1.2.1 2 i0 2)) C0 hh (rl_2 hi0) rfl (T := TX1) (N := 8) rfl hinX1 (by decide) w66 rfl dX1_stepBehind_8 ?_
  refine s_iload_n C0 dX1_stepBehind_11 rfl (lv_at hl 1 rfl) ?_
  refine s_iconst (v := 3) C0 dX1_stepBehind_12 (by decide) ?_
  refine s_irem C0 dX1_stepBehind_13 ?_
  refine s_imul C0 dX1_stepBehind_14 ?_
  refine s_iadd C0 dX1_stepBehind_15 ?_
  exact s_iret C0 hh hR rfl (Nat.le_of_ble_eq_true rfl) (Nat.le_of_ble_eq_true rfl) dX1_stepBehind_16
def f_X1_stepBehind (σ : Sg) (i0 : Nat) (x1 : Int32) : Option (Int32 × Sg) := f_X1_stepBehind_0 σ i0 x1
set_option maxRecDepth 100000 in
set_option maxHeartbeats 4000000 in
theorem c_X1_stepBehind (hst : l.stackTraces = false) (σ : Sg) (i0 : Nat) (x1 : Int32) (hi0 : i0 < nT ∨ i0 = 8) : Ct l yX1_stepBehind (wm yX1_stepBehind cX1_stepBehind 2 (some .int)) rmX1_stepBehind 0 0 vI [.ref (ad 2 i0), .int x1] D cy n0 ad nT nO  σ (f_X1_stepBehind σ i0 x1) := by
  intro r0 h0
  refine Met.ofW (cc := cX1_stepBehind) (maxL := 2) (ret := (some .int)) (by decide +kernel) rfl ?_
  intro p e s m args below meth c s₁ B hml hv
  obtain ⟨C0, hh, hR, rfl⟩ := ent B hml hst hv
  rw [lg_entry_eq]
  have hl := lv_entry ([.ref (ad 2 i0), .int x1]) (n := 2) (Nat.le_of_ble_eq_true rfl)
  generalize (lg_sl ([.ref (ad 2 i0), .int x1]) ++ List.replicate (2 - (lg_sl ([.ref (ad 2 i0), .int x1])).length) Slot.unset).toArray = ls at hl ⊢
  exact b_X1_stepBehind_0 C0 hR σ i0 x1 hi0 _ _ _ hh hl r0 h0

def rmX1_clear : Room := { frames := 0, cells := 0, slots := 0, locals := 0 }
def f_X1_clear_0 (σ : Sg) (i0 : Nat) : Option (Unit × Sg) :=
  (some ((), (sv (sv (sv σ 2 i0 1 0) 2 i0 3 0) 2 i0 4 0)))
set_option maxRecDepth 100000 in
set_option maxHeartbeats 4000000 in
theorem b_X1_clear_0 (C0 : Cx p l s m args meth c cX1_clear 1 RX1 D cy n0) (hR : meth.sig.returnType = none) (σ : Sg) (i0 : Nat) (hi0 : i0 < nT ∨ i0 = 8) (H : Heap) (locs : List Loc) (ls : Array Slot) (hh : Hp D cy n0 ad nT nO s σ H locs) (hl : lv_has ls 1 [(0, .ref (ad 2 i0))]) : Sm (Qr below args s D cy n0 ad nT nO vV 0 0) (f_X1_clear_0 σ i0) p l e rmX1_clear s m args below meth c H locs 0 0 (F0 m 0 ls []) := by
  unfold f_X1_clear_0
  refine s_aload_n C0 dX1_clear_0 rfl (lv_at hl 0 rfl) ?_
  refine s_iconst (v := 0) C0 dX1_clear_1 (by decide) ?_
  refine s_put C0 hh (rl_2 hi0) rfl rfl (T := TX1) (N := 8) rfl hinX1 tyX1 tyX1_ok nmX1 (by decide) w67 rfl (ty := .int) (by decide +kernel) rfl rfl (Nat.le_of_ble_eq_true rfl) (by decide) (by decide) (by decide) dX1_clear_2 (fun H locs hh => ?_)
  refine s_aload_n C0 dX1_clear_5 rfl (lv_at hl 0 rfl) ?_
  refine s_iconst (v := 0) C0 dX1_clear_6 (by decide) ?_
  refine s_put C0 hh (rl_2 hi0) rfl rfl (T := TX1) (N := 8) rfl hinX1 tyX1 tyX1_ok nmX1 (by decide) w68 rfl (ty := .int) (by decide +kernel) rfl rfl (Nat.le_of_ble_eq_true rfl) (by decide) (by decide) (by decide) dX1_clear_7 (fun H locs hh => ?_)
  refine s_aload_n C0 dX1_clear_10 rfl (lv_at hl 0 rfl) ?_
  refine s_iconst (v := 0) C0 dX1_clear_11 (by decide) ?_
  refine s_put C0 hh (rl_2 hi0) rfl rfl (T := TX1) (N := 8) rfl hinX1 tyX1 tyX1_ok nmX1 (by decide) w69 rfl (ty := .boolean) (by decide +kernel) narrow_b0 rfl (Nat.le_of_ble_eq_true rfl) (by decide) (by decide) (by decide) dX1_clear_12 (fun H locs hh => ?_)
  exact s_vret C0 hh hR (Nat.le_of_ble_eq_true rfl) (Nat.le_of_ble_eq_true rfl) dX1_clear_15
def f_X1_clear (σ : Sg) (i0 : Nat) : Option (Unit × Sg) := f_X1_clear_0 σ i0
set_option maxRecDepth 100000 in
set_option maxHeartbeats 4000000 in
theorem c_X1_clear (hst : l.stackTraces = false) (σ : Sg) (i0 : Nat) (hi0 : i0 < nT ∨ i0 = 8) : Ct l yX1_clear (wm yX1_clear cX1_clear 1 none) rmX1_clear 0 0 vV [.ref (ad 2 i0)] D cy n0 ad nT nO  σ (f_X1_clear σ i0) := by
  intro r0 h0
  refine Met.ofW (cc := cX1_clear) (maxL := 1) (ret := none) (by decide +kernel) rfl ?_
  intro p e s m args below meth c s₁ B hml hv
  obtain ⟨C0, hh, hR, rfl⟩ := ent B hml hst hv
  rw [lg_entry_eq]
  have hl := lv_entry ([.ref (ad 2 i0)]) (n := 1) (Nat.le_of_ble_eq_true rfl)
  generalize (lg_sl ([.ref (ad 2 i0)]) ++ List.replicate (1 - (lg_sl ([.ref (ad 2 i0)])).length) Slot.unset).toArray = ls at hl ⊢
  exact b_X1_clear_0 C0 hR σ i0 hi0 _ _ _ hh hl r0 h0

def rmX1_lowerAll : Room := { frames := 1, cells := 0, slots := 0, locals := 21 }
def g_X1_lowerAll_7 (rec7 : Sg → Nat → Int32 → Option (Unit × Sg)) (σ : Sg) (i0 : Nat) (x1 : Int32) : Option (Unit × Sg) :=
  (if (σ.1 2 i0 3) ≤ (x1 : Int32) then (some ((), σ)) else (if (x1 : Int32) < 0 ∨ 60 ≤ (x1 : Int32).toNatClampNeg then none else (if (x1 : Int32) < 0 ∨ 60 ≤ (x1 : Int32).toNatClampNeg then none else (rec7 (sv σ 4 i0 (x1 : Int32).toNatClampNeg (if (0 : Int32) < ((σ.1 4 i0 (x1 : Int32).toNatClampNeg) - 1) then ((σ.1 4 i0 (x1 : Int32).toNatClampNeg) - 1) else 0)) i0 (x1 + 1)))))
def f_X1_lowerAll_7 : Nat → Sg → Nat → Int32 → Option (Unit × Sg)
  | 0 => fun _ _ _ => none
  | n + 1 => fun σ i0 x1 => g_X1_lowerAll_7 (f_X1_lowerAll_7 n) σ i0 x1
set_option maxRecDepth 100000 in
set_option maxHeartbeats 4000000 in
theorem a_X1_lowerAll_7 (C0 : Cx p l s m args meth c cX1_lowerAll 2 RX1 D cy n0) (hR : meth.sig.returnType = none) (rec7 : Sg → Nat → Int32 → Option (Unit × Sg)) (hrec7 : ∀ (σ : Sg) (i0 : Nat) (x1 : Int32) (hi0 : i0 < nT ∨ i0 = 8) (H : Heap) (locs : List Loc) (ls : Array Slot), Hp D cy n0 ad nT nO s σ H locs → lv_has ls 2 [(0, .ref (ad 2 i0)), (1, .int x1)] → Sm (Qr below args s D cy n0 ad nT nO vV 0 0) (rec7 σ i0 x1) p l e rmX1_lowerAll s m args below meth c H locs 0 0 (F0 m 7 ls [])) (σ : Sg) (i0 : Nat) (x1 : Int32) (hi0 : i0 < nT ∨ i0 = 8) (H : Heap) (locs : List Loc) (ls : Array Slot) (hh : Hp D cy n0 ad nT nO s σ H locs) (hl : lv_has ls 2 [(0, .ref (ad 2 i0)), (1, .int x1)]) : Sm (Qr below args s D cy n0 ad nT nO vV 0 0) (g_X1_lowerAll_7 rec7 σ i0 x1) p l e rmX1_lowerAll s m args below meth c H locs 0 0 (F0 m 7 ls []) := by
  unfold g_X1_lowerAll_7
  refine s_iload_n C0 dX1_lowerAll_7 rfl (lv_at hl 1 rfl) ?_
  refine s_aload_n C0 dX1_lowerAll_8 rfl (lv_at hl 0 rfl) ?_
  refine s_get (v := .int (σ.1 2 i0 3)) C0 hh (rl_2 hi0) rfl (T := TX1) (N := 8) rfl hinX1 (by decide) w68 rfl dX1_lowerAll_9 ?_
  refine s_icmp_ge (tgt := 39) C0 dX1_lowerAll_12 (by decide) (fun _ => ?_) (fun _ => ?_)
  · exact s_vret C0 hh hR (Nat.le_of_ble_eq_true rfl) (Nat.le_of_ble_eq_true rfl) dX1_lowerAll_39
  · refine s_aload_n C0 dX1_lowerAll_15 rfl (lv_at hl 0 rfl) ?_
    refine s_get (v := .ref (ad 4 i0)) C0 hh (rl_2 hi0) rfl (T := TX1) (N := 8) rfl hinX1 (by decide) w5 rfl dX1_lowerAll_16 ?_
    refine s_iload_n C0 dX1_lowerAll_19 rfl (lv_at hl 1 rfl) ?_
    refine s_iconst (v := 0) C0 dX1_lowerAll_20 (by decide) ?_
    refine s_aload_n C0 dX1_lowerAll_21 rfl (lv_at hl 0 rfl) ?_
    refine s_get (v := .ref (ad 4 i0)) C0 hh (rl_2 hi0) rfl (T := TX1) (N := 8) rfl hinX1 (by decide) w5 rfl dX1_lowerAll_22 ?_
    refine s_iload_n C0 dX1_lowerAll_25 rfl (lv_at hl 1 rfl) ?_
    refine s_iald (g := (σ.1 4 i0)) C0 hh rfl (rl_4 hi0) (fun _ => rfl) (t0 := 1) rfl dX1_lowerAll_26 ?_
    refine s_iconst (v := 1) C0 dX1_lowerAll_27 (by decide) ?_
    refine s_isub C0 dX1_lowerAll_28 ?_
    refine s_mmax C0 w70 w71 w72 w73 hl.1 (Nat.le_of_ble_eq_true rfl) (Nat.le_of_ble_eq_true rfl) (Nat.le_of_ble_eq_true rfl) (Nat.le_of_ble_eq_true rfl) dX1_lowerAll_29 ?_
    refine s_iast C0 hh (rl_4 hi0) (fun _ => rfl) (t0 := 1) rfl (by decide) (by decide) (by decide) dX1_lowerAll_32 (fun H locs hh => ?_)
    refine s_iinc (k := 1) (v := (x1 + 1)) (lv' := [(1, .int (x1 + 1)), (0, .ref (ad 2 i0))]) C0 dX1_lowerAll_33 hl rfl rfl (by decide) rfl (fun ls hl => ?_)
    refine s_goto (tgt := 7) C0 dX1_lowerAll_36 (by decide) ?_
    exact hrec7 (sv σ 4 i0 (x1 : Int32).toNatClampNeg (if (0 : Int32) < ((σ.1 4 i0 (x1 : Int32).toNatClampNeg) - 1) then ((σ.1 4 i0 (x1 : Int32).toNatClampNeg) - 1) else 0)) i0 (x1 + 1) hi0 _ _ _ hh (lv_sub hl [1, 0] rfl)
theorem b_X1_lowerAll_7 (C0 : Cx p l s m args meth c cX1_lowerAll 2 RX1 D cy n0) (hR : meth.sig.returnType = none) : ∀ (n : Nat) (σ : Sg) (i0 : Nat) (x1 : Int32) (hi0 : i0 < nT ∨ i0 = 8) (H : Heap) (locs : List Loc) (ls : Array Slot) (hh : Hp D cy n0 ad nT nO s σ H locs) (hl : lv_has ls 2 [(0, .ref (ad 2 i0)), (1, .int x1)]), Sm (Qr below args s D cy n0 ad nT nO vV 0 0) (f_X1_lowerAll_7 n σ i0 x1) p l e rmX1_lowerAll s m args below meth c H locs 0 0 (F0 m 7 ls []) := by
  intro n
  induction n with
  | zero => intros; intro r h; cases h
  | succ n ih => intro σ i0 x1 hi0 H locs ls hh hl; exact a_X1_lowerAll_7 C0 hR (f_X1_lowerAll_7 n) ih σ i0 x1 hi0 H locs ls hh hl
def f_X1_lowerAll_0 (σ : Sg) (i0 : Nat) : Option (Unit × Sg) :=
  (f_X1_lowerAll_7 70 (sv σ 2 i0 4 1) i0 0)
set_option maxRecDepth 100000 in
set_option maxHeartbeats 4000000 in
theorem b_X1_lowerAll_0 (C0 : Cx p l s m args meth c cX1_lowerAll 2 RX1 D cy n0) (hR : meth.sig.returnType = none) (σ : Sg) (i0 : Nat) (hi0 : i0 < nT ∨ i0 = 8) (H : Heap) (locs : List Loc) (ls : Array Slot) (hh : Hp D cy n0 ad nT nO s σ H locs) (hl : lv_has ls 2 [(0, .ref (ad 2 i0))]) : Sm (Qr below args s D cy n0 ad nT nO vV 0 0) (f_X1_lowerAll_0 σ i0) p l e rmX1_lowerAll s m args below meth c H locs 0 0 (F0 m 0 ls []) := by
  unfold f_X1_lowerAll_0
  refine s_aload_n C0 dX1_lowerAll_0 rfl (lv_at hl 0 rfl) ?_
  refine s_iconst (v := 1) C0 dX1_lowerAll_1 (by decide) ?_
  refine s_put C0 hh (rl_2 hi0) rfl rfl (T := TX1) (N := 8) rfl hinX1 tyX1 tyX1_ok nmX1 (by decide) w69 rfl (ty := .boolean) (by decide +kernel) narrow_b1 rfl (Nat.le_of_ble_eq_true rfl) (by decide) (by decide) (by decide) dX1_lowerAll_2 (fun H locs hh => ?_)
  refine s_iconst (v := 0) C0 dX1_lowerAll_5 (by decide) ?_
  refine s_istore_n (lv' := [(1, .int 0), (0, .ref (ad 2 i0))]) C0 dX1_lowerAll_6 rfl hl (by decide) rfl (fun ls hl => ?_)
  exact b_X1_lowerAll_7 C0 hR 70 (sv σ 2 i0 4 1) i0 0 hi0 _ _ _ hh (lv_sub hl [1, 0] rfl)
def f_X1_lowerAll (σ : Sg) (i0 : Nat) : Option (Unit × Sg) := f_X1_lowerAll_0 σ i0
set_option maxRecDepth 100000 in
set_option maxHeartbeats 4000000 in
theorem c_X1_lowerAll (hst : l.stackTraces = false) (σ : Sg) (i0 : Nat) (hi0 : i0 < nT ∨ i0 = 8) : Ct l yX1_lowerAll (wm yX1_lowerAll cX1_lowerAll 2 none) rmX1_lowerAll 0 0 vV [.ref (ad 2 i0)] D cy n0 ad nT nO  σ (f_X1_lowerAll σ i0) := by
  intro r0 h0
  refine Met.ofW (cc := cX1_lowerAll) (maxL := 2) (ret := none) (by decide +kernel) rfl ?_
  intro p e s m args below meth c s₁ B hml hv
  obtain ⟨C0, hh, hR, rfl⟩ := ent B hml hst hv
  rw [lg_entry_eq]
  have hl := lv_entry ([.ref (ad 2 i0)]) (n := 2) (Nat.le_of_ble_eq_true rfl)
  generalize (lg_sl ([.ref (ad 2 i0)]) ++ List.replicate (2 - (lg_sl ([.ref (ad 2 i0)])).length) Slot.unset).toArray = ls at hl ⊢
  exact b_X1_lowerAll_0 C0 hR σ i0 hi0 _ _ _ hh hl r0 h0

def rmX1_highest : Room := { frames := 1, cells := 0, slots := 0, locals := 21 }
def g_X1_highest_4 (rec4 : Sg → Nat → Int32 → Int32 → Option (Int32 × Sg)) (σ : Sg) (i0 : Nat) (x1 : Int32) (x2 : Int32) : Option (Int32 × Sg) :=
  (if (σ.1 2 i0 3) ≤ (x2 : Int32) then (some (x1, σ)) else (if (x2 : Int32) < 0 ∨ 60 ≤ (x2 : Int32).toNatClampNeg then none else (rec4 σ i0 (if (x1 : Int32) < (σ.1 4 i0 (x2 : Int32).toNatClampNeg) then (σ.1 4 i0 (x2 : Int32).toNatClampNeg) else x1) (x2 + 1))))
def f_X1_highest_4 : Nat → Sg → Nat → Int32 → Int32 → Option (Int32 × Sg)
  | 0 => fun _ _ _ _ => none
  | n + 1 => fun σ i0 x1 x2 => g_X1_highest_4 (f_X1_highest_4 n) σ i0 x1 x2
set_option maxRecDepth 100000 in
set_option maxHeartbeats 4000000 in
theorem a_X1_highest_4 (C0 : Cx p l s m args meth c cX1_highest 3 RX1 D cy n0) (hR : meth.sig.returnType = (some .int)) (rec4 : Sg → Nat → Int32 → Int32 → Option (Int32 × Sg)) (hrec4 : ∀ (σ : Sg) (i0 : Nat) (x1 : Int32) (x2 : Int32) (hi0 : i0 < nT ∨ i0 = 8) (H : Heap) (locs : List Loc) (ls : Array Slot), Hp D cy n0 ad nT nO s σ H locs → lv_has ls 3 [(0, .ref (ad 2 i0)), (1, .int x1), (2, .int x2)] → Sm (Qr below args s D cy n0 ad nT nO vI 0 0) (rec4 σ i0 x1 x2) p l e rmX1_highest s m args below meth c H locs 0 0 (F0 m 4 ls [])) (σ : Sg) (i0 : Nat) (x1 : Int32) (x2 : Int32) (hi0 : i0 < nT ∨ i0 = 8) (H : Heap) (locs : List Loc) (ls : Array Slot) (hh : Hp D cy n0 ad nT nO s σ H locs) (hl : lv_has ls 3 [(0, .ref (ad 2 i0)), (1, .int x1), (2, .int x2)]) : Sm (Qr below args s D cy n0 ad nT nO vI 0 0) (g_X1_highest_4 rec4 σ i0 x1 x2) p l e rmX1_highest s m args below meth c H locs 0 0 (F0 m 4 ls []) := by
  unfold g_X1_highest_4
  refine s_iload_n C0 dX1_highest_4 rfl (lv_at hl 2 rfl) ?_
  refine s_aload_n C0 dX1_highest_5 rfl (lv_at hl 0 rfl) ?_
  refine s_get (v := .int (σ.1 2 i0 3)) C0 hh (rl_2 hi0) rfl (T := TX1) (N := 8) rfl hinX1 (by decide) w68 rfl dX1_highest_6 ?_
  refine s_icmp_ge (tgt := 29) C0 dX1_highest_9 (by decide) (fun _ => ?_) (fun _ => ?_)
  · refine s_iload_n C0 dX1_highest_29 rfl (lv_at hl 1 rfl) ?_
    exact s_iret C0 hh hR rfl (Nat.le_of_ble_eq_true rfl) (Nat.le_of_ble_eq_true rfl) dX1_highest_30
  · refine s_iload_n C0 dX1_highest_12 rfl (lv_at hl 1 rfl) ?_
    refine s_aload_n C0 dX1_highest_13 rfl (lv_at hl 0 rfl) ?_
    refine s_get (v := .ref (ad 4 i0)) C0 hh (rl_2 hi0) rfl (T := TX1) (N := 8) rfl hinX1 (by decide) w5 rfl dX1_highest_14 ?_
    refine s_iload_n C0 dX1_highest_17 rfl (lv_at hl 2 rfl) ?_
    refine s_iald (g := (σ.1 4 i0)) C0 hh rfl (rl_4 hi0) (fun _ => rfl) (t0 := 1) rfl dX1_highest_18 ?_
    refine s_mmax C0 w70 w71 w72 w73 hl.1 (Nat.le_of_ble_eq_true rfl) (Nat.le_of_ble_eq_true rfl) (Nat.le_of_ble_eq_true rfl) (Nat.le_of_ble_eq_true rfl) dX1_highest_19 ?_
    refine s_istore_n (lv' := [(1, .int (if (x1 : Int32) < (σ.1 4 i0 (x2 : Int32).toNatClampNeg) then (σ.1 4 i0 (x2 : Int32).toNatClampNeg) else x1)), (0, .ref (ad 2 i0)), (2, .int x2)]) C0 dX1_highest_22 rfl hl (by decide) rfl (fun ls hl => ?_)
    refine s_iinc (k := 2) (v := (x2 + 1)) (lv' := [(2, .int (x2 + 1)), (1, .int (if (x1 : Int32) < (σ.1 4 i0 (x2 : Int32).toNatClampNeg) then (σ.1 4 i0 (x2 : Int32).toNatClampNeg) else x1)), (0, .ref (ad 2 i0))]) C0 dX1_highest_23 hl rfl rfl (by decide) rfl (fun ls hl => ?_)
    refine s_goto (tgt := 4) C0 dX1_highest_26 (by decide) ?_
    exact hrec4 σ i0 (if (x1 : Int32) < (σ.1 4 i0 (x2 : Int32).toNatClampNeg) then (σ.1 4 i0 (x2 : Int32).toNatClampNeg) else x1) (x2 + 1) hi0 _ _ _ hh (lv_sub hl [2, 1, 0] rfl)
theorem b_X1_highest_4 (C0 : Cx p l s m args meth c cX1_highest 3 RX1 D cy n0) (hR : meth.sig.returnType = (some .int)) : ∀ (n : Nat) (σ : Sg) (i0 : Nat) (x1 : Int32) (x2 : Int32) (hi0 : i0 < nT ∨ i0 = 8) (H : Heap) (locs : List Loc) (ls : Array Slot) (hh : Hp D cy n0 ad nT nO s σ H locs) (hl : lv_has ls 3 [(0, .ref (ad 2 i0)), (1, .int x1), (2, .int x2)]), Sm (Qr below args s D cy n0 ad nT nO vI 0 0) (f_X1_highest_4 n σ i0 x1 x2) p l e rmX1_highest s m args below meth c H locs 0 0 (F0 m 4 ls []) := by
  intro n
  induction n with
  | zero => intros; intro r h; cases h
  | succ n ih => intro σ i0 x1 x2 hi0 H locs ls hh hl; exact a_X1_highest_4 C0 hR (f_X1_highest_4 n) ih σ i0 x1 x2 hi0 H locs ls hh hl
def f_X1_highest_0 (σ : Sg) (i0 : Nat) : Option (Int32 × Sg) :=
  (f_X1_highest_4 70 σ i0 0 0)
set_option maxRecDepth 100000 in
set_option maxHeartbeats 4000000 in
theorem b_X1_highest_0 (C0 : Cx p l s m args meth c cX1_highest 3 RX1 D cy n0) (hR : meth.sig.returnType = (some .int)) (σ : Sg) (i0 : Nat) (hi0 : i0 < nT ∨ i0 = 8) (H : Heap) (locs : List Loc) (ls : Array Slot) (hh : Hp D cy n0 ad nT nO s σ H locs) (hl : lv_has ls 3 [(0, .ref (ad 2 i0))]) : Sm (Qr below args s D cy n0 ad nT nO vI 0 0) (f_X1_highest_0 σ i0) p l e rmX1_highest s m args below meth c H locs 0 0 (F0 m 0 ls []) := by
  unfold f_X1_highest_0
  refine s_iconst (v := 0) C0 dX1_highest_0 (by decide) ?_
  refine s_istore_n (lv' := [(1, .int 0), (0, .ref (ad 2 i0))]) C0 dX1_highest_1 rfl hl (by decide) rfl (fun ls hl => ?_)
  refine s_iconst (v := 0) C0 dX1_highest_2 (by decide) ?_
  refine s_istore_n (lv' := [(2, .int 0), (1, .int 0), (0, .ref (ad 2 i0))]) C0 dX1_highest_3 rfl hl (by decide) rfl (fun ls hl => ?_)
  exact b_X1_highest_4 C0 hR 70 σ i0 0 0 hi0 _ _ _ hh (lv_sub hl [2, 1, 0] rfl)
def f_X1_highest (σ : Sg) (i0 : Nat) : Option (Int32 × Sg) := f_X1_highest_0 σ i0
set_option maxRecDepth 100000 in
set_option maxHeartbeats 4000000 in
theorem c_X1_highest (hst : l.stackTraces = false) (σ : Sg) (i0 : Nat) (hi0 : i0 < nT ∨ i0 = 8) : Ct l yX1_highest (wm yX1_highest cX1_highest 3 (some .int)) rmX1_highest 0 0 vI [.ref (ad 2 i0)] D cy n0 ad nT nO  σ (f_X1_highest σ i0) := by
  intro r0 h0
  refine Met.ofW (cc := cX1_highest) (maxL := 3) (ret := (some .int)) (by decide +kernel) rfl ?_
  intro p e s m args below meth c s₁ B hml hv
  obtain ⟨C0, hh, hR, rfl⟩ := ent B hml hst hv
  rw [lg_entry_eq]
  have hl := lv_entry ([.ref (ad 2 i0)]) (n := 3) (Nat.le_of_ble_eq_true rfl)
  generalize (lg_sl ([.ref (ad 2 i0)]) ++ List.replicate (3 - (lg_sl ([.ref (ad 2 i0)])).length) Slot.unset).toArray = ls at hl ⊢
  exact b_X1_highest_0 C0 hR σ i0 hi0 _ _ _ hh hl r0 h0

def rmX1_isEven : Room := { frames := 0, cells := 0, slots := 0, locals := 0 }
def g_X1_isEven_2 (rec2 : Sg → Nat → Int32 → Option (Int32 × Sg)) (σ : Sg) (i0 : Nat) (x1 : Int32) : Option (Int32 × Sg) :=
  (if (σ.1 2 i0 3) ≤ (x1 : Int32) then (if ((σ.1 2 i0 3) : Int32) < (3 : Int32) then (some (0, σ)) else (some (1, σ))) else (if (x1 : Int32) < 0 ∨ 60 ≤ (x1 : Int32).toNatClampNeg then none else (if ((x1 - 1) : Int32) < 0 ∨ 60 ≤ ((x1 - 1) : Int32).toNatClampNeg then none else (if (1 : Int32) < 0 ∨ 60 ≤ (1 : Int32).toNatClampNeg then none else (if (0 : Int32) < 0 ∨ 60 ≤ (0 : Int32).toNatClampNeg then none else (if (((σ.1 3 i0 (x1 : Int32).toNatClampNeg) - (σ.1 3 i0 ((x1 - 1) : Int32).toNatClampNeg)) : Int32) = ((σ.1 3 i0 (1 : Int32).toNatClampNeg) - (σ.1 3 i0 (0 : Int32).toNatClampNeg)) then (rec2 σ i0 (x1 + 1)) else (some (0, σ))))))))
def f_X1_isEven_2 : Nat → Sg → Nat → Int32 → Option (Int32 × Sg)
  | 0 => fun _ _ _ => none
  | n + 1 => fun σ i0 x1 => g_X1_isEven_2 (f_X1_isEven_2 n) σ i0 x1
set_option maxRecDepth 100000 in
set_option maxHeartbeats 4000000 in
theorem a_X1_isEven_2 (C0 : Cx p l s m args meth c cX1_isEven 2 RX1 D cy n0) (hR : meth.sig.returnType = (some .boolean)) (rec2 : Sg → Nat → Int32 → Option (Int32 × Sg)) (hrec2 : ∀ (σ : Sg) (i0 : Nat) (x1 : Int32) (hi0 : i0 < nT ∨ i0 = 8) (H : Heap) (locs : List Loc) (ls : Array Slot), Hp D cy n0 ad nT nO s σ H locs → lv_has ls 2 [(0, .ref (ad 2 i0)), (1, .int x1)] → Sm (Qr below args s D cy n0 ad nT nO vI 0 0) (rec2 σ i0 x1) p l e rmX1_isEven s m args below meth c H locs 0 0 (F0 m 2 ls [])) (σ : Sg) (i0 : Nat) (x1 : Int32) (hi0 : i0 < nT ∨ i0 = 8) (H : Heap) (locs : List Loc) (ls : Array Slot) (hh : Hp D cy n0 ad nT nO s σ H locs) (hl : lv_has ls 2 [(0, .ref (ad 2 i0)), (1, .int x1)]) : Sm (Qr below args s D cy n0 ad nT nO vI 0 0) (g_X1_isEven_2 rec2 σ i0 x1) p l e rmX1_isEven s m args below meth c H locs 0 0 (F0 m 2 ls []) := by
  unfold g_X1_isEven_2
  refine s_iload_n C0 dX1_isEven_2 rfl (lv_at hl 1 rfl) ?_
  refine s_aload_n C0 dX1_isEven_3 rfl (lv_at hl 0 rfl) ?_
  refine s_get (v := .int (σ.1 2 i0 3)) C0 hh (rl_2 hi0) rfl (T := TX1) (N := 8) rfl hinX1 (by decide) w68 rfl dX1_isEven_4 ?_
  refine s_icmp_ge (tgt := 49) C0 dX1_isEven_7 (by decide) (fun _ => ?_) (fun _ => ?_)
  · refine s_aload_n C0 dX1_isEven_49 rfl (lv_at hl 0 rfl) ?_
    refine s_get (v := .int (σ.1 2 i0 3)) C0 hh (rl_2 hi0) rfl (T := TX1) (N := 8) rfl hinX1 (by decide) w68 rfl dX1_isEven_50 ?_
    refine s_iconst (v := 3) C0 dX1_isEven_53 (by decide) ?_
    refine s_icmp_lt (tgt := 61) C0 dX1_isEven_54 (by decide) (fun _ => ?_) (fun _ => ?_)
    · refine s_iconst (v := 0) C0 dX1_isEven_61 (by decide) ?_
      exact s_iret C0 hh hR narrow_b0 (Nat.le_of_ble_eq_true rfl) (Nat.le_of_ble_eq_true rfl) dX1_isEven_62
    · refine s_iconst (v := 1) C0 dX1_isEven_57 (by decide) ?_
      refine s_goto (tgt := 62) C0 dX1_isEven_58 (by decide) ?_
      exact s_iret C0 hh hR narrow_b1 (Nat.le_of_ble_eq_true rfl) (Nat.le_of_ble_eq_true rfl) dX1_isEven_62
  · refine s_aload_n C0 dX1_isEven_10 rfl (lv_at hl 0 rfl) ?_
    refine s_get (v := .ref (ad 3 i0)) C0 hh (rl_2 hi0) rfl (T := TX1) (N := 8) rfl hinX1 (by decide) w4 rfl dX1_isEven_11 ?_
    refine s_iload_n C0 dX1_isEven_14 rfl (lv_at hl 1 rfl) ?_
    refine s_iald (g := (σ.1 3 i0)) C0 hh rfl (rl_3 hi0) (fun _ => rfl) (t0 := 1) rfl dX1_isEven_15 ?_
    refine s_aload_n C0 dX1_isEven_16 rfl (lv_at hl 0 rfl) ?_
    refine s_get (v := .ref (ad 3 i0)) C0 hh (rl_2 hi0) rfl (T := TX1) (N := 8) rfl hinX1 (by decide) w4 rfl dX1_isEven_17 ?_
    refine s_iload_n C0 dX1_isEven_20 rfl (lv_at hl 1 rfl) ?_
    refine s_iconst (v := 1) C0 dX1_isEven_21 (by decide) ?_
    refine s_isub C0 dX1_isEven_22 ?_
    refine s_iald (g := (σ.1 3 i0)) C0 hh rfl (rl_3 hi0) (fun _ => rfl) (t0 := 1) rfl dX1_isEven_23 ?_
    refine s_isub C0 dX1_isEven_24 ?_
    refine s_aload_n C0 dX1_isEven_25 rfl (lv_at hl 0 rfl) ?_
    refine s_get (v := .ref (ad 3 i0)) C0 hh (rl_2 hi0) rfl (T := TX1) (N := 8) rfl hinX1 (by decide) w4 rfl dX1_isEven_26 ?_
    refine s_iconst (v := 1) C0 dX1_isEven_29 (by decide) ?_
    refine s_iald (g := (σ.1 3 i0)) C0 hh rfl (rl_3 hi0) (fun _ => rfl) (t0 := 1) rfl dX1_isEven_30 ?_
    refine s_aload_n C0 dX1_isEven_31 rfl (lv_at hl 0 rfl) ?_
    refine s_get (v := .ref (ad 3 i0)) C0 hh (rl_2 hi0) rfl (T := TX1) (N := 8) rfl hinX1 (by decide) w4 rfl dX1_isEven_32 ?_
    refine s_iconst (v := 0) C0 dX1_isEven_35 (by decide) ?_
    refine s_iald (g := (σ.1 3 i0)) C0 hh rfl (rl_3 hi0) (fun _ => rfl) (t0 := 1) rfl dX1_isEven_36 ?_
    refine s_isub C0 dX1_isEven_37 ?_
    refine s_icmp_eq (tgt := 43) C0 dX1_isEven_38 (by decide) (fun _ => ?_) (fun _ => ?_)
    · refine s_iinc (k := 1) (v := (x1 + 1)) (lv' := [(1, .int (x1 + 1)), (0, .ref (ad 2 i0))]) C0 dX1_isEven_43 hl rfl rfl (by decide) rfl (fun ls hl => ?_)
      refine s_goto (tgt := 2) C0 dX1_isEven_46 (by decide) ?_
      exact hrec2 σ i0 (x1 + 1) hi0 _ _ _ hh (lv_sub hl [1, 0] rfl)
    · refine s_iconst (v := 0) C0 dX1_isEven_41 (by decide) ?_
      exact s_iret C0 hh hR narrow_b0 (Nat.le_of_ble_eq_true rfl) (Nat.le_of_ble_eq_true rfl) dX1_isEven_42
theorem b_X1_isEven_2 (C0 : Cx p l s m args meth c cX1_isEven 2 RX1 D cy n0) (hR : meth.sig.returnType = (some .boolean)) : ∀ (n : Nat) (σ : Sg) (i0 : Nat) (x1 : Int32) (hi0 : i0 < nT ∨ i0 = 8) (H : Heap) (locs : List Loc) (ls : Array Slot) (hh : Hp D cy n0 ad nT nO s σ H locs) (hl : lv_has ls 2 [(0, .ref (ad 2 i0)), (1, .int x1)]), Sm (Qr below args s D cy n0 ad nT nO vI 0 0) (f_X1_isEven_2 n σ i0 x1) p l e rmX1_isEven s m args below meth c H locs 0 0 (F0 m 2 ls []) := by
  intro n
  induction n with
  | zero => intros; intro r h; cases h
  | succ n ih => intro σ i0 x1 hi0 H locs ls hh hl; exact a_X1_isEven_2 C0 hR (f_X1_isEven_2 n) ih σ i0 x1 hi0 H locs ls hh hl
def f_X1_isEven_0 (σ : Sg) (i0 : Nat) : Option (Int32 × Sg) :=
  (f_X1_isEven_2 70 σ i0 2)
set_option maxRecDepth 100000 in
set_option maxHeartbeats 4000000 in
theorem b_X1_isEven_0 (C0 : Cx p l s m args meth c cX1_isEven 2 RX1 D cy n0) (hR : meth.sig.returnType = (some .boolean)) (σ : Sg) (i0 : Nat) (hi0 : i0 < nT ∨ i0 = 8) (H : Heap) (locs : List Loc) (ls : Array Slot) (hh : Hp D cy n0 ad nT nO s σ H locs) (hl : lv_has ls 2 [(0, .ref (ad 2 i0))]) : Sm (Qr below args s D cy n0 ad nT nO vI 0 0) (f_X1_isEven_0 σ i0) p l e rmX1_isEven s m args below meth c H locs 0 0 (F0 m 0 ls []) := by
  unfold f_X1_isEven_0
  refine s_iconst (v := 2) C0 dX1_isEven_0 (by decide) ?_
  refine s_istore_n (lv' := [(1, .int 2), (0, .ref (ad 2 i0))]) C0 dX1_isEven_1 rfl hl (by decide) rfl (fun ls hl => ?_)
  exact b_X1_isEven_2 C0 hR 70 σ i0 2 hi0 _ _ _ hh (lv_sub hl [1, 0] rfl)
def f_X1_isEven (σ : Sg) (i0 : Nat) : Option (Int32 × Sg) := f_X1_isEven_0 σ i0
set_option maxRecDepth 100000 in
set_option maxHeartbeats 4000000 in
theorem c_X1_isEven (hst : l.stackTraces = false) (σ : Sg) (i0 : Nat) (hi0 : i0 < nT ∨ i0 = 8) : Ct l yX1_isEven (wm yX1_isEven cX1_isEven 2 (some .boolean)) rmX1_isEven 0 0 vI [.ref (ad 2 i0)] D cy n0 ad nT nO  σ (f_X1_isEven σ i0) := by
  intro r0 h0
  refine Met.ofW (cc := cX1_isEven) (maxL := 2) (ret := (some .boolean)) (by decide +kernel) rfl ?_
  intro p e s m args below meth c s₁ B hml hv
  obtain ⟨C0, hh, hR, rfl⟩ := ent B hml hst hv
  rw [lg_entry_eq]
  have hl := lv_entry ([.ref (ad 2 i0)]) (n := 2) (Nat.le_of_ble_eq_true rfl)
  generalize (lg_sl ([.ref (ad 2 i0)]) ++ List.replicate (2 - (lg_sl ([.ref (ad 2 i0)])).length) Slot.unset).toArray = ls at hl ⊢
  exact b_X1_isEven_0 C0 hR σ i0 hi0 _ _ _ hh hl r0 h0

def rmX1_wearTooth : Room := { frames := 1, cells := 0, slots := 0, locals := 21 }
def f_X1_wearTooth_0 (σ : Sg) (i0 : Nat) (x1 : Int32) (x2 : Int32) : Option (Unit × Sg) :=
  (if (x1 : Int32) < 0 ∨ 60 ≤ (x1 : Int32).toNatClampNeg then none else (if (x1 : Int32) < 0 ∨ 60 ≤ (x1 : Int32).toNatClampNeg then none else (if (100 : Int32) = 0 then none else (if (x1 : Int32) < 0 ∨ 60 ≤ (x1 : Int32).toNatClampNeg then none else (if (100 : Int32) = 0 then none else (if (x1 : Int32) < 0 ∨ 60 ≤ (x1 : Int32).toNatClampNeg then none else (some ((), (sv (sv σ 4 i0 (x1 : Int32).toNatClampNeg (if (0 : Int32) < ((σ.1 4 i0 (x1 : Int32).toNatClampNeg) - (((σ.1 5 i0 (x1 : Int32).toNatClampNeg) + x2) / 100)) then ((σ.1 4 i0 (x1 : Int32).toNatClampNeg) - (((σ.1 5 i0 (x1 : Int32).toNatClampNeg) + x2) / 100)) else 0)) 5 i0 (x1 : Int32).toNatClampNeg (((σ.1 5 i0 (x1 : Int32).toNatClampNeg) + x2) - ((σ.1 5 i0 (x1 : Int32).toNatClampNeg) + x2) / 100 * 100))))))))))
set_option maxRecDepth 100000 in
set_option maxHeartbeats 4000000 in
theorem b_X1_wearTooth_0 (C0 : Cx p l s m args meth c cX1_wearTooth 4 RX1 D cy n0) (hR : meth.sig.returnType = none) (σ : Sg) (i0 : Nat) (x1 : Int32) (x2 : Int32) (hi0 : i0 < nT ∨ i0 = 8) (H : Heap) (locs : List Loc) (ls : Array Slot) (hh : Hp D cy n0 ad nT nO s σ H locs) (hl : lv_has ls 4 [(0, .ref (ad 2 i0)), (1, .int x1), (2, .int x2)]) : Sm (Qr below args s D cy n0 ad nT nO vV 0 0) (f_X1_wearTooth_0 σ i0 x1 x2) p l e rmX1_wearTooth s m args below meth c H locs 0 0 (F0 m 0 ls []) := by
  unfold f_X1_wearTooth_0
  refine s_aload_n C0 dX1_wearTooth_0 rfl (lv_at hl 0 rfl) ?_
  refine s_get (v := .ref (ad 5 i0)) C0 hh (rl_2 hi0) rfl (T := TX1) (N := 8) rfl hinX1 (by decide) w6 rfl dX1_wearTooth_1 ?_
  refine s_iload_n C0 dX1_wearTooth_4 rfl (lv_at hl 1 rfl) ?_
  refine s_iald (g := (σ.1 5 i0)) C0 hh rfl (rl_5 hi0) (fun _ => rfl) (t0 := 1) rfl dX1_wearTooth_5 ?_
  refine s_iload_n C0 dX1_wearTooth_6 rfl (lv_at hl 2 rfl) ?_
  refine s_iadd C0 dX1_wearTooth_7 ?_
  refine s_istore_n (lv' := [(3, .int ((σ.1 5 i0 (x1 : Int32).toNatClampNeg) + x2)), (0, .ref (ad 2 i0)), (1, .int x1), (2, .int x2)]) C0 dX1_wearTooth_8 rfl hl (by decide) rfl (fun ls hl => ?_)
  refine s_aload_n C0 dX1_wearTooth_9 rfl (lv_at hl 1 rfl) ?_
  refine s_get (v := .ref (ad 4 i0)) C0 hh (rl_2 hi0) rfl (T := TX1) (N := 8) rfl hinX1 (by decide) w5 rfl dX1_wearTooth_10 ?_
  refine s_iload_n C0 dX1_wearTooth_13 rfl (lv_at hl 2 rfl) ?_
  refine s_iconst (v := 0) C0 dX1_wearTooth_14 (by decide) ?_
  refine s_aload_n C0 dX1_wearTooth_15 rfl (lv_at hl 1 rfl) ?_
  refine s_get (v := .ref (ad 4 i0)) C0 hh (rl_2 hi0) rfl (T := TX1) (N := 8) rfl hinX1 (by decide) w5 rfl dX1_wearTooth_16 ?_
  refine s_iload_n C0 dX1_wearTooth_19 rfl (lv_at hl 2 rfl) ?_
  refine s_iald (g := (σ.1 4 i0)) C0 hh rfl (rl_4 hi0) (fun _ => rfl) (t0 := 1) rfl dX1_wearTooth_20 ?_
  refine s_iload_n C0 dX1_wearTooth_21 rfl (lv_at hl 0 rfl) ?_
  refine s_bipush (v := 100) C0 dX1_wearTooth_22 (by decide) ?_
  refine s_idiv C0 dX1_wearTooth_24 ?_
  refine s_isub C0 dX1_wearTooth_25 ?_
  refine s_mmax C0 w70 w71 w72 w73 hl.1 (Nat.le_of_ble_eq_true rfl) (Nat.le_of_ble_eq_true rfl) (Nat.le_of_ble_eq_true rfl) (Nat.le_of_ble_eq_true rfl) dX1_wearTooth_26 ?_
  refine s_iast C0 hh (rl_4 hi0) (fun _ => rfl) (t0 := 1) rfl (by decide) (by decide) (by decide) dX1_wearTooth_29 (fun H locs hh => ?_)
  refine s_aload_n C0 dX1_wearTooth_30 rfl (lv_at hl 1 rfl) ?_
  refine s_get (v := .ref (ad 5 i0)) C0 hh (rl_2 hi0) rfl (T := TX1) (N := 8) rfl hinX1 (by decide) w6 rfl dX1_wearTooth_31 ?_
  refine s_iload_n C0 dX1_wearTooth_34 rfl (lv_at hl 2 rfl) ?_
  refine s_iload_n C0 dX1_wearTooth_35 rfl (lv_at hl 0 rfl) ?_
  refine s_bipush (v := 100) C0 dX1_wearTooth_36 (by decide) ?_
  refine s_irem C0 dX1_wearTooth_38 ?_
  refine s_iast C0 hh (rl_5 hi0) (fun _ => rfl) (t0 := 1) rfl (by decide) (by decide) (by decide) dX1_wearTooth_39 (fun H locs hh => ?_)
  exact s_vret C0 hh hR (Nat.le_of_ble_eq_true rfl) (Nat.le_of_ble_eq_true rfl) dX1_wearTooth_40
def f_X1_wearTooth (σ : Sg) (i0 : Nat) (x1 : Int32) (x2 : Int32) : Option (Unit × Sg) := f_X1_wearTooth_0 σ i0 x1 x2
set_option maxRecDepth 100000 in
set_option maxHeartbeats 4000000 in
theorem c_X1_wearTooth (hst : l.stackTraces = false) (σ : Sg) (i0 : Nat) (x1 : Int32) (x2 : Int32) (hi0 : i0 < nT ∨ i0 = 8) : Ct l yX1_wearTooth (wm yX1_wearTooth cX1_wearTooth 4 none) rmX1_wearTooth 0 0 vV [.ref (ad 2 i0), .int x1, .int x2] D cy n0 ad nT nO  σ (f_X1_wearTooth σ i0 x1 x2) := by
  intro r0 h0
  refine Met.ofW (cc := cX1_wearTooth) (maxL := 4) (ret := none) (by decide +kernel) rfl ?_
  intro p e s m args below meth c s₁ B hml hv
  obtain ⟨C0, hh, hR, rfl⟩ := ent B hml hst hv
  rw [lg_entry_eq]
  have hl := lv_entry ([.ref (ad 2 i0), .int x1, .int x2]) (n := 4) (Nat.le_of_ble_eq_true rfl)
  generalize (lg_sl ([.ref (ad 2 i0), .int x1, .int x2]) ++ List.replicate (4 - (lg_sl ([.ref (ad 2 i0), .int x1, .int x2])).length) Slot.unset).toArray = ls at hl ⊢
  exact b_X1_wearTooth_0 C0 hR σ i0 x1 x2 hi0 _ _ _ hh hl r0 h0
theorem qc3 {R : Room} {s : State} {args : Array Value} (ht : ∀ w ∈ allw, w.before args s = true) (hl : va_Nw (.methodLinkNest RX1 59 yX3_biteOf "Teethrow") s) (hR : (rmX3_biteOf).frames + 1 ≤ R.frames ∧ 8 + (2 + 11) + (rmX3_biteOf).locals ≤ R.locals) : va_CN R s args RX1 59 yX3_biteOf "Teethrow" cX3_biteOf 2 (some .int) (wm yX3_biteOf cX3_biteOf 2 (some .int)) rmX3_biteOf 0 0 2 ∧ (Cond.static yX3_biteOf).before args s = true ∧ True := ⟨va_cnB 2 ht (gd_of (fun _ h => h) _ (mC0 w75)) rfl rfl rfl hl (ht _ w64) (by decide +kernel) hR, ht _ w76, trivial⟩
theorem qc4 {R : Room} {s : State} {args : Array Value} (ht : ∀ w ∈ allw, w.before args s = true) (hR : (rmX1_wearTooth).frames + 1 ≤ R.frames ∧ 8 + (4 + 11) + (rmX1_wearTooth).locals ≤ R.locals) : CallW R s args RX1 RX1 65 yX1_wearTooth cX1_wearTooth 4 none (wm yX1_wearTooth cX1_wearTooth 4 none) rmX1_wearTooth 0 0 2 := cwV 2 ht (gd_of (fun _ h => h) _ (mV w80 w82 w83 w15 w81)) rfl rfl rfl (by decide +kernel) hR
def rmX1_stroke : Room := { frames := 2, cells := 0, slots := 0, locals := 44 }
def f_X1_stroke_68 (σ : Sg) (x5 : Int32) : Option (Int32 × Sg) :=
  (some (x5, σ))
set_option maxRecDepth 100000 in
set_option maxHeartbeats 4000000 in
theorem b_X1_stroke_68 (C0 : Cx p l s m args meth c cX1_stroke 7 RX1 D cy n0) (hR : meth.sig.returnType = (some .int)) (σ : Sg) (x5 : Int32) (H : Heap) (locs : List Loc) (ls : Array Slot) (hh : Hp D cy n0 ad nT nO s σ H locs) (hl : lv_has ls 7 [(5, .int x5)]) : Sm (Qr below args s D cy n0 ad nT nO vI 0 0) (f_X1_stroke_68 σ x5) p l e rmX1_stroke s m args below meth c H locs 0 0 (F0 m 68 ls []) := by
  unfold f_X1_stroke_68
  refine s_iload C0 dX1_stroke_68 (lv_at hl 0 rfl) ?_
  exact s_iret C0 hh hR rfl (Nat.le_of_ble_eq_true rfl) (Nat.le_of_ble_eq_true rfl) dX1_stroke_70
def f_X1_stroke_62 (rec13 : Sg → Nat → Int32 → Int32 → Int32 → Int32 → Int32 → Option (Int32 × Sg)) (σ : Sg) (i0 : Nat) (x2 : Int32) (x3 : Int32) (x4 : Int32) (x5 : Int32) (x6 : Int32) : Option (Int32 × Sg) :=
  (rec13 σ i0 x2 x3 x4 x5 (x6 + 1))
set_option maxRecDepth 100000 in
set_option maxHeartbeats 4000000 in
theorem b_X1_stroke_62 (C0 : Cx p l s m args meth c cX1_stroke 7 RX1 D cy n0) (hR : meth.sig.returnType = (some .int)) (rec13 : Sg → Nat → Int32 → Int32 → Int32 → Int32 → Int32 → Option (Int32 × Sg)) (hrec13 : ∀ (σ : Sg) (i0 : Nat) (x2 : Int32) (x3 : Int32) (x4 : Int32) (x5 : Int32) (x6 : Int32) (hi0 : i0 < nT ∨ i0 = 8) (H : Heap) (locs : List Loc) (ls : Array Slot), Hp D cy n0 ad nT nO s σ H locs → lv_has ls 7 [(0, .ref (ad 2 i0)), (2, .int x2), (3, .int x3), (4, .int x4), (5, .int x5), (6, .int x6)] → Sm (Qr below args s D cy n0 ad nT nO vI 0 0) (rec13 σ i0 x2 x3 x4 x5 x6) p l e rmX1_stroke s m args below meth c H locs 0 0 (F0 m 13 ls [])) (σ : Sg) (i0 : Nat) (x2 : Int32) (x3 : Int32) (x4 : Int32) (x5 : Int32) (x6 : Int32) (hi0 : i0 < nT ∨ i0 = 8) (H : Heap) (locs : List Loc) (ls : Array Slot) (hh : Hp D cy n0 ad nT nO s σ H locs) (hl : lv_has ls 7 [(0, .ref (ad 2 i0)), (2, .int x2), (3, .int x3), (4, .int x4), (5, .int x5), (6, .int x6)]) : Sm (Qr below args s D cy n0 ad nT nO vI 0 0) (f_X1_stroke_62 rec13 σ i0 x2 x3 x4 x5 x6) p l e rmX1_stroke s m args below meth c H locs 0 0 (F0 m 62 ls []) := by
  unfold f_X1_stroke_62
  refine s_iinc (k := 5) (v := (x6 + 1)) (lv' := [(6, .int (x6 + 1)), (0, .ref (ad 2 i0)), (2, .int x2), (3, .int x3), (4, .int x4), (5, .int x5)]) C0 dX1_stroke_62 hl rfl rfl (by decide) rfl (fun ls hl => ?_)
  refine s_goto (tgt := 13) C0 dX1_stroke_65 (by decide) ?_
  exact hrec13 σ i0 x2 x3 x4 x5 (x6 + 1) hi0 _ _ _ hh (lv_sub hl [1, 2, 3, 4, 5, 0] rfl)
def g_X1_stroke_13 (rec13 : Sg → Nat → Int32 → Int32 → Int32 → Int32 → Int32 → Option (Int32 × Sg)) (σ : Sg) (i0 : Nat) (x2 : Int32) (x3 : Int32) (x4 : Int32) (x5 : Int32) (x6 : Int32) : Option (Int32 × Sg) :=
  (if (σ.1 2 i0 3) ≤ (x6 : Int32) then (f_X1_stroke_68 σ x5) else (if x3 ≤ (x5 : Int32) then (f_X1_stroke_68 σ x5) else (if (x6 : Int32) < 0 ∨ 60 ≤ (x6 : Int32).toNatClampNeg then none else (if ((σ.1 4 i0 (x6 : Int32).toNatClampNeg) : Int32) ≤ (0 : Int32) then (f_X1_stroke_62 rec13 σ i0 x2 x3 x4 x5 x6) else (if (x6 : Int32) < 0 ∨ 60 ≤ (x6 : Int32).toNatClampNeg then none else ((f_X1_wearTooth σ i0 x6 x2).bind (fun r2 => (f_X1_stroke_62 rec13 r2.2 i0 x2 x3 x4 (x5 + (if ((σ.1 4 i0 (x6 : Int32).toNatClampNeg) : Int32) < x4 then (σ.1 4 i0 (x6 : Int32).toNatClampNeg) else x4)) x6))))))))
def f_X1_stroke_13 : Nat → Sg → Nat → Int32 → Int32 → Int32 → Int32 → Int32 → Option (Int32 × Sg)
  | 0 => fun _ _ _ _ _ _ _ => none
  | n + 1 => fun σ i0 x2 x3 x4 x5 x6 => g_X1_stroke_13 (f_X1_stroke_13 n) σ i0 x2 x3 x4 x5 x6
set_option maxRecDepth 100000 in
set_option maxHeartbeats 4000000 in
theorem a_X1_stroke_13 (C0 : Cx p l s m args meth c cX1_stroke 7 RX1 D cy n0) (hR : meth.sig.returnType = (some .int)) (rec13 : Sg → Nat → Int32 → Int32 → Int32 → Int32 → Int32 → Option (Int32 × Sg)) (hrec13 : ∀ (σ : Sg) (i0 : Nat) (x2 : Int32) (x3 : Int32) (x4 : Int32) (x5 : Int32) (x6 : Int32) (hi0 : i0 < nT ∨ i0 = 8) (H : Heap) (locs : List Loc) (ls : Array Slot), Hp D cy n0 ad nT nO s σ H locs → lv_has ls 7 [(0, .ref (ad 2 i0)), (2, .int x2), (3, .int x3), (4, .int x4), (5, .int x5), (6, .int x6)] → Sm (Qr below args s D cy n0 ad nT nO vI 0 0) (rec13 σ i0 x2 x3 x4 x5 x6) p l e rmX1_stroke s m args below meth c H locs 0 0 (F0 m 13 ls [])) (σ : Sg) (i0 : Nat) (x2 : Int32) (x3 : Int32) (x4 : Int32) (x5 : Int32) (x6 : Int32) (hi0 : i0 < nT ∨ i0 = 8) (H : Heap) (locs : List Loc) (ls : Array Slot) (hh : Hp D cy n0 ad nT nO s σ H locs) (hl : lv_has ls 7 [(0, .ref (ad 2 i0)), (2, .int x2), (3, .int x3), (4, .int x4), (5, .int x5), (6, .int x6)]) : Sm (Qr below args s D cy n0 ad nT nO vI 0 0) (g_X1_stroke_13 rec13 σ i0 x2 x3 x4 x5 x6) p l e rmX1_stroke s m args below meth c H locs 0 0 (F0 m 13 ls []) := by
  unfold g_X1_stroke_13
  refine s_iload C0 dX1_stroke_13 (lv_at hl 5 rfl) ?_
  refine s_aload_n C0 dX1_stroke_15 rfl (lv_at hl 0 rfl) ?_
  refine s_get (v := .int (σ.1 2 i0 3)) C0 hh (rl_2 hi0) rfl (T := TX1) (N := 8) rfl hinX1 (by decide) w68 rfl dX1_stroke_16 ?_
  refine s_icmp_ge (tgt := 68) C0 dX1_stroke_19 (by decide) (fun _ => ?_) (fun _ => ?_)
  · exact b_X1_stroke_68 C0 hR σ x5 _ _ _ hh (lv_sub hl [4] rfl)
  · refine s_iload C0 dX1_stroke_22 (lv_at hl 4 rfl) ?_
    refine s_iload_n C0 dX1_stroke_24 rfl (lv_at hl 2 rfl) ?_
    refine s_icmp_ge (tgt := 68) C0 dX1_stroke_25 (by decide) (fun _ => ?_) (fun _ => ?_)
    · exact b_X1_stroke_68 C0 hR σ x5 _ _ _ hh (lv_sub hl [4] rfl)
    · refine s_aload_n C0 dX1_stroke_28 rfl (lv_at hl 0 rfl) ?_
      refine s_get (v := .ref (ad 4 i0)) C0 hh (rl_2 hi0) rfl (T := TX1) (N := 8) rfl hinX1 (by decide) w5 rfl dX1_stroke_29 ?_
      refine s_iload C0 dX1_stroke_32 (lv_at hl 5 rfl) ?_
      refine s_iald (g := (σ.1 4 i0)) C0 hh rfl (rl_4 hi0) (fun _ => rfl) (t0 := 1) rfl dX1_stroke_34 ?_
      refine s_if_le (tgt := 62) C0 dX1_stroke_35 (by decide) (fun _ => ?_) (fun _ => ?_)
      · exact b_X1_stroke_62 C0 hR rec13 hrec13 σ i0 x2 x3 x4 x5 x6 hi0 _ _ _ hh (lv_sub hl [0, 1, 2, 3, 4, 5] rfl)
      · refine s_iload C0 dX1_stroke_38 (lv_at hl 4 rfl) ?_
        refine s_iload C0 dX1_stroke_40 (lv_at hl 3 rfl) ?_
        refine s_aload_n C0 dX1_stroke_42 rfl (lv_at hl 0 rfl) ?_
        refine s_get (v := .ref (ad 4 i0)) C0 hh (rl_2 hi0) rfl (T := TX1) (N := 8) rfl hinX1 (by decide) w5 rfl dX1_stroke_43 ?_
        refine s_iload C0 dX1_stroke_46 (lv_at hl 5 rfl) ?_
        refine s_iald (g := (σ.1 4 i0)) C0 hh rfl (rl_4 hi0) (fun _ => rfl) (t0 := 1) rfl dX1_stroke_48 ?_
        refine s_mmin C0 w77 w78 w72 w79 hl.1 (Nat.le_of_ble_eq_true rfl) (Nat.le_of_ble_eq_true rfl) (Nat.le_of_ble_eq_true rfl) (Nat.le_of_ble_eq_true rfl) dX1_stroke_49 ?_
        refine s_iadd C0 dX1_stroke_52 ?_
        refine s_istore (lv' := [(5, .int (x5 + (if ((σ.1 4 i0 (x6 : Int32).toNatClampNeg) : Int32) < x4 then (σ.1 4 i0 (x6 : Int32).toNatClampNeg) else x4))), (0, .ref (ad 2 i0)), (2, .int x2), (3, .int x3), (4, .int x4), (6, .int x6)]) C0 dX1_stroke_53 hl (by decide) rfl (fun ls hl => ?_)
        refine s_aload_n C0 dX1_stroke_55 rfl (lv_at hl 1 rfl) ?_
        refine s_iload C0 dX1_stroke_56 (lv_at hl 5 rfl) ?_
        refine s_iload_n C0 dX1_stroke_58 rfl (lv_at hl 2 rfl) ?_
        refine s_V (As := [.int x6, .int x2]) (rest := []) C0 hh (c_X1_wearTooth C0.2.2.2.2.2.2 _ i0 x6 x2 hi0) (qc4 C0.1.2.2.2.2 ⟨Nat.le_of_ble_eq_true rfl, Nat.le_of_ble_eq_true rfl⟩) (rl_2 hi0) rfl rfl rfl hl.1 rfl (lv_room (Nat.le_of_ble_eq_true rfl)) dX1_stroke_59 ⟨Nat.le_of_ble_eq_true rfl, Nat.le_of_ble_eq_true rfl⟩ (fun r2 H locs hor2 hh => ?_)
        exact b_X1_stroke_62 C0 hR rec13 hrec13 r2.2 i0 x2 x3 x4 (x5 + (if ((σ.1 4 i0 (x6 : Int32).toNatClampNeg) : Int32) < x4 then (σ.1 4 i0 (x6 : Int32).toNatClampNeg) else x4)) x6 hi0 _ _ _ hh (lv_sub hl [1, 2, 3, 4, 0, 5] rfl)
theorem b_X1_stroke_13 (C0 : Cx p l s m args meth c cX1_stroke 7 RX1 D cy n0) (hR : meth.sig.returnType = (some .int)) : ∀ (n : Nat) (σ : Sg) (i0 : Nat) (x2 : Int32) (x3 : Int32) (x4 : Int32) (x5 : Int32) (x6 : Int32) (hi0 : i0 < nT ∨ i0 = 8) (H : Heap) (locs : List Loc) (ls : Array Slot) (hh : Hp D cy n0 ad nT nO s σ H locs) (hl : lv_has ls 7 [(0, .ref (ad 2 i0)), (2, .int x2), (3, .int x3), (4, .int x4), (5, .int x5), (6, .int x6)]), Sm (Qr below args s D cy n0 ad nT nO vI 0 0) (f_X1_stroke_13 n σ i0 x2 x3 x4 x5 x6) p l e rmX1_stroke s m args below meth c H locs 0 0 (F0 m 13 ls []) := by
  intro n
  induction n with
  | zero => intros; intro r h; cases h
  | succ n ih => intro σ i0 x2 x3 x4 x5 x6 hi0 H locs ls hh hl; exact a_X1_stroke_13 C0 hR (f_X1_stroke_13 n) ih σ i0 x2 x3 x4 x5 x6 hi0 H locs ls hh hl
def f_X1_stroke_0 (σ : Sg) (i0 : Nat) (x1 : Int32) (x2 : Int32) (x3 : Int32) : Option (Int32 × Sg) :=
  ((f_X3_biteOf σ x1 x2).bind (fun r1 => (f_X1_stroke_13 70 r1.2 i0 x2 x3 r1.1 0 0)))
set_option maxRecDepth 100000 in
set_option maxHeartbeats 4000000 in
theorem b_X1_stroke_0 (C0 : Cx p l s m args meth c cX1_stroke 7 RX1 D cy n0) (hR : meth.sig.returnType = (some .int)) (σ : Sg) (i0 : Nat) (x1 : Int32) (x2 : Int32) (x3 : Int32) (hi0 : i0 < nT ∨ i0 = 8) (H : Heap) (locs : List Loc) (ls : Array Slot) (hh : Hp D cy n0 ad nT nO s σ H locs) (hl : lv_has ls 7 [(0, .ref (ad 2 i0)), (1, .int x1), (2, .int x2), (3, .int x3)]) : Sm (Qr below args s D cy n0 ad nT nO vI 0 0) (f_X1_stroke_0 σ i0 x1 x2 x3) p l e rmX1_stroke s m args below meth c H locs 0 0 (F0 m 0 ls []) := by
  unfold f_X1_stroke_0
  refine s_iload_n C0 dX1_stroke_0 rfl (lv_at hl 1 rfl) ?_
  refine s_iload_n C0 dX1_stroke_1 rfl (lv_at hl 2 rfl) ?_
  refine s_SN (As := [.int x1, .int x2]) (rest := []) C0 hh (c_X3_biteOf C0.2.2.2.2.2.2 _ x1 x2) (qc3 C0.1.2.2.2.2 (C0.2.2.2.2.2.1.1 _ w74) ⟨Nat.le_of_ble_eq_true rfl, Nat.le_of_ble_eq_true rfl⟩) rfl hl.1 rfl (lv_room (Nat.le_of_ble_eq_true rfl)) dX1_stroke_2 ⟨Nat.le_of_ble_eq_true rfl, Nat.le_of_ble_eq_true rfl⟩ (fun r1 H locs hor1 hh => ?_)
  refine s_istore (lv' := [(4, .int r1.1), (0, .ref (ad 2 i0)), (1, .int x1), (2, .int x2), (3, .int x3)]) C0 dX1_stroke_5 hl (by decide) rfl (fun ls hl => ?_)
  refine s_iconst (v := 0) C0 dX1_stroke_7 (by decide) ?_
  refine s_istore (lv' := [(5, .int 0), (4, .int r1.1), (0, .ref (ad 2 i0)), (1, .int x1), (2, .int x2), (3, .int x3)]) C0 dX1_stroke_8 hl (by decide) rfl (fun ls hl => ?_)
  refine s_iconst (v := 0) C0 dX1_stroke_10 (by decide) ?_
  refine s_istore (lv' := [(6, .int 0), (5, .int 0), (4, .int r1.1), (0, .ref (ad 2 i0)), (1, .int x1), (2, .int x2), (3, .int x3)]) C0 dX1_stroke_11 hl (by decide) rfl (fun ls hl => ?_)
  exact b_X1_stroke_13 C0 hR 70 r1.2 i0 x2 x3 r1.1 0 0 hi0 _ _ _ hh (lv_sub hl [3, 5, 6, 2, 1, 0] rfl)
def f_X1_stroke (σ : Sg) (i0 : Nat) (x1 : Int32) (x2 : Int32) (x3 : Int32) : Option (Int32 × Sg) := f_X1_stroke_0 σ i0 x1 x2 x3
set_option maxRecDepth 100000 in
set_option maxHeartbeats 4000000 in
theorem c_X1_stroke (hst : l.stackTraces = false) (σ : Sg) (i0 : Nat) (x1 : Int32) (x2 : Int32) (x3 : Int32) (hi0 : i0 < nT ∨ i0 = 8) : Ct l yX1_stroke (wm yX1_stroke cX1_stroke 7 (some .int)) rmX1_stroke 0 0 vI [.ref (ad 2 i0), .int x1, .int x2, .int x3] D cy n0 ad nT nO  σ (f_X1_stroke σ i0 x1 x2 x3) := by
  intro r0 h0
  refine Met.ofW (cc := cX1_stroke) (maxL := 7) (ret := (some .int)) (by decide +kernel) rfl ?_
  intro p e s m args below meth c s₁ B hml hv
  obtain ⟨C0, hh, hR, rfl⟩ := ent B hml hst hv
  rw [lg_entry_eq]
  have hl := lv_entry ([.ref (ad 2 i0), .int x1, .int x2, .int x3]) (n := 7) (Nat.le_of_ble_eq_true rfl)
  generalize (lg_sl ([.ref (ad 2 i0), .int x1, .int x2, .int x3]) ++ List.replicate (7 - (lg_sl ([.ref (ad 2 i0), .int x1, .int x2, .int x3])).length) Slot.unset).toArray = ls at hl ⊢
  exact b_X1_stroke_0 C0 hR σ i0 x1 x2 x3 hi0 _ _ _ hh hl r0 h0

def rmX1_biteAhead : Room := { frames := 1, cells := 0, slots := 0, locals := 21 }
def f_X1_biteAhead_33 (rec5 : Sg → Nat → Int32 → Int32 → Int32 → Int32 → Option (Int32 × Sg)) (σ : Sg) (i0 : Nat) (x1 : Int32) (x2 : Int32) (x3 : Int32) (x4 : Int32) : Option (Int32 × Sg) :=
  (rec5 σ i0 x1 x2 x3 (x4 + 1))
set_option maxRecDepth 100000 in
set_option maxHeartbeats 4000000 in
theorem b_X1_biteAhead_33 (C0 : Cx p l s m args meth c cX1_biteAhead 5 RX1 D cy n0) (hR : meth.sig.returnType = (some .int)) (rec5 : Sg → Nat → Int32 → Int32 → Int32 → Int32 → Option (Int32 × Sg)) (hrec5 : ∀ (σ : Sg) (i0 : Nat) (x1 : Int32) (x2 : Int32) (x3 : Int32) (x4 : Int32) (hi0 : i0 < nT ∨ i0 = 8) (H : Heap) (locs : List Loc) (ls : Array Slot), Hp D cy n0 ad nT nO s σ H locs → lv_has ls 5 [(0, .ref (ad 2 i0)), (1, .int x1), (2, .int x2), (3, .int x3), (4, .int x4)] → Sm (Qr below args s D cy n0 ad nT nO vI 0 0) (rec5 σ i0 x1 x2 x3 x4) p l e rmX1_biteAhead s m args below meth c H locs 0 0 (F0 m 5 ls [])) (σ : Sg) (i0 : Nat) (x1 : Int32) (x2 : Int32) (x3 : Int32) (x4 : Int32) (hi0 : i0 < nT ∨ i0 = 8) (H : Heap) (locs : List Loc) (ls : Array Slot) (hh : Hp D cy n0 ad nT nO s σ H locs) (hl : lv_has ls 5 [(0, .ref (ad 2 i0)), (1, .int x1), (2, .int x2), (3, .int x3), (4, .int x4)]) : Sm (Qr below args s D cy n0 ad nT nO vI 0 0) (f_X1_biteAhead_33 rec5 σ i0 x1 x2 x3 x4) p l e rmX1_biteAhead s m args below meth c H locs 0 0 (F0 m 33 ls []) := by
  unfold f_X1_biteAhead_33
  refine s_iinc (k := 4) (v := (x4 + 1)) (lv' := [(4, .int (x4 + 1)), (0, .ref (ad 2 i0)), (1, .int x1), (2, .int x2), (3, .int x3)]) C0 dX1_biteAhead_33 hl rfl rfl (by decide) rfl (fun ls hl => ?_)
  refine s_goto (tgt := 5) C0 dX1_biteAhead_36 (by decide) ?_
  exact hrec5 σ i0 x1 x2 x3 (x4 + 1) hi0 _ _ _ hh (lv_sub hl [1, 2, 3, 4, 0] rfl)
def g_X1_biteAhead_5 (rec5 : Sg → Nat → Int32 → Int32 → Int32 → Int32 → Option (Int32 × Sg)) (σ : Sg) (i0 : Nat) (x1 : Int32) (x2 : Int32) (x3 : Int32) (x4 : Int32) : Option (Int32 × Sg) :=
  (if (σ.1 2 i0 3) ≤ (x4 : Int32) then (some (x3, σ)) else (if x2 ≤ (x3 : Int32) then (f_X1_biteAhead_33 rec5 σ i0 x1 x2 x3 x4) else (if (x4 : Int32) < 0 ∨ 60 ≤ (x4 : Int32).toNatClampNeg then none else (f_X1_biteAhead_33 rec5 σ i0 x1 x2 (x3 + (if ((σ.1 4 i0 (x4 : Int32).toNatClampNeg) : Int32) < x1 then (σ.1 4 i0 (x4 : Int32).toNatClampNeg) else x1)) x4))))
def f_X1_biteAhead_5 : Nat → Sg → Nat → Int32 → Int32 → Int32 → Int32 → Option (Int32 × Sg)
  | 0 => fun _ _ _ _ _ _ => none
  | n + 1 => fun σ i0 x1 x2 x3 x4 => g_X1_biteAhead_5 (f_X1_biteAhead_5 n) σ i0 x1 x2 x3 x4
set_option maxRecDepth 100000 in
set_option maxHeartbeats 4000000 in
theorem a_X1_biteAhead_5 (C0 : Cx p l s m args meth c cX1_biteAhead 5 RX1 D cy n0) (hR : meth.sig.returnType = (some .int)) (rec5 : Sg → Nat → Int32 → Int32 → Int32 → Int32 → Option (Int32 × Sg)) (hrec5 : ∀ (σ : Sg) (i0 : Nat) (x1 : Int32) (x2 : Int32) (x3 : Int32) (x4 : Int32) (hi0 : i0 < nT ∨ i0 = 8) (H : Heap) (locs : List Loc) (ls : Array Slot), Hp D cy n0 ad nT nO s σ H locs → lv_has ls 5 [(0, .ref (ad 2 i0)), (1, .int x1), (2, .int x2), (3, .int x3), (4, .int x4)] → Sm (Qr below args s D cy n0 ad nT nO vI 0 0) (rec5 σ i0 x1 x2 x3 x4) p l e rmX1_biteAhead s m args below meth c H locs 0 0 (F0 m 5 ls [])) (σ : Sg) (i0 : Nat) (x1 : Int32) (x2 : Int32) (x3 : Int32) (x4 : Int32) (hi0 : i0 < nT ∨ i0 = 8) (H : Heap) (locs : List Loc) (ls : Array Slot) (hh : Hp D cy n0 ad nT nO s σ H locs) (hl : lv_has ls 5 [(0, .ref (ad 2 i0)), (1, .int x1), (2, .int x2), (3, .int x3), (4, .int x4)]) : Sm (Qr below args s D cy n0 ad nT nO vI 0 0) (g_X1_biteAhead_5 rec5 σ i0 x1 x2 x3 x4) p l e rmX1_biteAhead s m args below meth c H locs 0 0 (F0 m 5 ls []) := by
  unfold g_X1_biteAhead_5
  refine s_iload C0 dX1_biteAhead_5 (lv_at hl 4 rfl) ?_
  refine s_aload_n C0 dX1_biteAhead_7 rfl (lv_at hl 0 rfl) ?_
  refine s_get (v := .int (σ.1 2 i0 3)) C0 hh (rl_2 hi0) rfl (T := TX1) (N := 8) rfl hinX1 (by decide) w68 rfl dX1_biteAhead_8 ?_
  refine s_icmp_ge (tgt := 39) C0 dX1_biteAhead_11 (by decide) (fun _ => ?_) (fun _ => ?_)
  · refine s_iload_n C0 dX1_biteAhead_39 rfl (lv_at hl 3 rfl) ?_
    exact s_iret C0 hh hR rfl (Nat.le_of_ble_eq_true rfl) (Nat.le_of_ble_eq_true rfl) dX1_biteAhead_40
  · refine s_iload_n C0 dX1_biteAhead_14 rfl (lv_at hl 3 rfl) ?_
    refine s_iload_n C0 dX1_biteAhead_15 rfl (lv_at hl 2 rfl) ?_
    refine s_icmp_ge (tgt := 33) C0 dX1_biteAhead_16 (by decide) (fun _ => ?_) (fun _ => ?_)
    · exact b_X1_biteAhead_33 C0 hR rec5 hrec5 σ i0 x1 x2 x3 x4 hi0 _ _ _ hh (lv_sub hl [0, 1, 2, 3, 4] rfl)
    · refine s_iload_n C0 dX1_biteAhead_19 rfl (lv_at hl 3 rfl) ?_
      refine s_iload_n C0 dX1_biteAhead_20 rfl (lv_at hl 1 rfl) ?_
      refine s_aload_n C0 dX1_biteAhead_21 rfl (lv_at hl 0 rfl) ?_
      refine s_get (v := .ref (ad 4 i0)) C0 hh (rl_2 hi0) rfl (T := TX1) (N := 8) rfl hinX1 (by decide) w5 rfl dX1_biteAhead_22 ?_
      refine s_iload C0 dX1_biteAhead_25 (lv_at hl 4 rfl) ?_
      refine s_iald (g := (σ.1 4 i0)) C0 hh rfl (rl_4 hi0) (fun _ => rfl) (t0 := 1) rfl dX1_biteAhead_27 ?_
      refine s_mmin C0 w77 w78 w72 w79 hl.1 (Nat.le_of_ble_eq_true rfl) (Nat.le_of_ble_eq_true rfl) (Nat.le_of_ble_eq_true rfl) (Nat.le_of_ble_eq_true rfl) dX1_biteAhead_28 ?_
      refine s_iadd C0 dX1_biteAhead_31 ?_
      refine s_istore_n (lv' := [(3, .int (x3 + (if ((σ.1 4 i0 (x4 : Int32).toNatClampNeg) : Int32) < x1 then (σ.1 4 i0 (x4 : Int32).toNatClampNeg) else x1))), (0, .ref (ad 2 i0)), (1, .int x1), (2, .int x2), (4, .int x4)]) C0 dX1_biteAhead_32 rfl hl (by decide) rfl (fun ls hl => ?_)
      exact b_X1_biteAhead_33 C0 hR rec5 hrec5 σ i0 x1 x2 (x3 + (if ((σ.1 4 i0 (x4 : Int32).toNatClampNeg) : Int32) < x1 then (σ.1 4 i0 (x4 : Int32).toNatClampNeg) else x1)) x4 hi0 _ _ _ hh (lv_sub hl [1, 2, 3, 0, 4] rfl)
theorem b_X1_biteAhead_5 (C0 : Cx p l s m args meth c cX1_biteAhead 5 RX1 D cy n0) (hR : meth.sig.returnType = (some .int)) : ∀ (n : Nat) (σ : Sg) (i0 : Nat) (x1 : Int32) (x2 : Int32) (x3 : Int32) (x4 : Int32) (hi0 : i0 < nT ∨ i0 = 8) (H : Heap) (locs : List Loc) (ls : Array Slot) (hh : Hp D cy n0 ad nT nO s σ H locs) (hl : lv_has ls 5 [(0, .ref (ad 2 i0)), (1, .int x1), (2, .int x2), (3, .int x3), (4, .int x4)]), Sm (Qr below args s D cy n0 ad nT nO vI 0 0) (f_X1_biteAhead_5 n σ i0 x1 x2 x3 x4) p l e rmX1_biteAhead s m args below meth c H locs 0 0 (F0 m 5 ls []) := by
  intro n
  induction n with
  | zero => intros; intro r h; cases h
  | succ n ih => intro σ i0 x1 x2 x3 x4 hi0 H locs ls hh hl; exact a_X1_biteAhead_5 C0 hR (f_X1_biteAhead_5 n) ih σ i0 x1 x2 x3 x4 hi0 H locs ls hh hl
def f_X1_biteAhead_0 (σ : Sg) (i0 : Nat) (x1 : Int32) (x2 : Int32) : Option (Int32 × Sg) :=
  (f_X1_biteAhead_5 70 σ i0 x1 x2 0 0)
set_option maxRecDepth 100000 in
set_option maxHeartbeats 4000000 in
theorem b_X1_biteAhead_0 (C0 : Cx p l s m args meth c cX1_biteAhead 5 RX1 D cy n0) (hR : meth.sig.returnType = (some .int)) (σ : Sg) (i0 : Nat) (x1 : Int32) (x2 : Int32) (hi0 : i0 < nT ∨ i0 = 8) (H : Heap) (locs : List Loc) (ls : Array Slot) (hh : Hp D cy n0 ad nT nO s σ H locs) (hl : lv_has ls 5 [(0, .ref (ad 2 i0)), (1, .int x1), (2, .int x2)]) : Sm (Qr below args s D cy n0 ad nT nO vI 0 0) (f_X1_biteAhead_0 σ i0 x1 x2) p l e rmX1_biteAhead s m args below meth c H locs 0 0 (F0 m 0 ls []) := by
  unfold f_X1_biteAhead_0
  refine s_iconst (v := 0) C0 dX1_biteAhead_0 (by decide) ?_
  refine s_istore_n (lv' := [(3, .int 0), (0, .ref (ad 2 i0)), (1, .int x1), (2, .int x2)]) C0 dX1_biteAhead_1 rfl hl (by decide) rfl (fun ls hl => ?_)
  refine s_iconst (v := 0) C0 dX1_biteAhead_2 (by decide) ?_
  refine s_istore (lv' := [(4, .int 0), (3, .int 0), (0, .ref (ad 2 i0)), (1, .int x1), (2, .int x2)]) C0 dX1_biteAhead_3 hl (by decide) rfl (fun ls hl => ?_)
  exact b_X1_biteAhead_5 C0 hR 70 σ i0 x1 x2 0 0 hi0 _ _ _ hh (lv_sub hl [2, 3, 4, 1, 0] rfl)
def f_X1_biteAhead (σ : Sg) (i0 : Nat) (x1 : Int32) (x2 : Int32) : Option (Int32 × Sg) := f_X1_biteAhead_0 σ i0 x1 x2
set_option maxRecDepth 100000 in
set_option maxHeartbeats 4000000 in
theorem c_X1_biteAhead (hst : l.stackTraces = false) (σ : Sg) (i0 : Nat) (x1 : Int32) (x2 : Int32) (hi0 : i0 < nT ∨ i0 = 8) : Ct l yX1_biteAhead (wm yX1_biteAhead cX1_biteAhead 5 (some .int)) rmX1_biteAhead 0 0 vI [.ref (ad 2 i0), .int x1, .int x2] D cy n0 ad nT nO  σ (f_X1_biteAhead σ i0 x1 x2) := by
  intro r0 h0
  refine Met.ofW (cc := cX1_biteAhead) (maxL := 5) (ret := (some .int)) (by decide +kernel) rfl ?_
  intro p e s m args below meth c s₁ B hml hv
  obtain ⟨C0, hh, hR, rfl⟩ := ent B hml hst hv
  rw [lg_entry_eq]
  have hl := lv_entry ([.ref (ad 2 i0), .int x1, .int x2]) (n := 5) (Nat.le_of_ble_eq_true rfl)
  generalize (lg_sl ([.ref (ad 2 i0), .int x1, .int x2]) ++ List.replicate (5 - (lg_sl ([.ref (ad 2 i0), .int x1, .int x2])).length) Slot.unset).toArray = ls at hl ⊢
  exact b_X1_biteAhead_0 C0 hR σ i0 x1 x2 hi0 _ _ _ hh hl r0 h0

def rmX1_hasLost : Room := { frames := 0, cells := 0, slots := 0, locals := 0 }
def f_X1_hasLost_26 (σ : Sg) (s0 : Int32) (s1 : Int32) : Option (Int32 × Sg) :=
  (if s0 ≤ (s1 : Int32) then (some (0, σ)) else (some (1, σ)))
set_option maxRecDepth 100000 in
set_option maxHeartbeats 4000000 in
theorem b_X1_hasLost_26 (C0 : Cx p l s m args meth c cX1_hasLost 2 RX1 D cy n0) (hR : meth.sig.returnType = (some .boolean)) (σ : Sg) (s0 : Int32) (s1 : Int32) (H : Heap) (locs : List Loc) (ls : Array Slot) (hh : Hp D cy n0 ad nT nO s σ H locs) (hl : lv_has ls 2 []) : Sm (Qr below args s D cy n0 ad nT nO vI 0 0) (f_X1_hasLost_26 σ s0 s1) p l e rmX1_hasLost s m args below meth c H locs 0 0 (F0 m 26 ls [.int s0, .int s1]) := by
  unfold f_X1_hasLost_26
  refine s_icmp_ge (tgt := 33) C0 dX1_hasLost_26 (by decide) (fun _ => ?_) (fun _ => ?_)
  · refine s_iconst (v := 0) C0 dX1_hasLost_33 (by decide) ?_
    exact s_iret C0 hh hR narrow_b0 (Nat.le_of_ble_eq_true rfl) (Nat.le_of_ble_eq_true rfl) dX1_hasLost_34
  · refine s_iconst (v := 1) C0 dX1_hasLost_29 (by decide) ?_
    refine s_goto (tgt := 34) C0 dX1_hasLost_30 (by decide) ?_
    exact s_iret C0 hh hR narrow_b1 (Nat.le_of_ble_eq_true rfl) (Nat.le_of_ble_eq_true rfl) dX1_hasLost_34
def f_X1_hasLost_0 (σ : Sg) (i0 : Nat) (x1 : Int32) : Option (Int32 × Sg) :=
  (if (x1 : Int32) < 0 ∨ 60 ≤ (x1 : Int32).toNatClampNeg then none else (if ((σ.1 2 i0 4) : Int32) = (0 : Int32) then (f_X1_hasLost_26 σ (σ.1 2 i0 1) (σ.1 4 i0 (x1 : Int32).toNatClampNeg)) else (f_X1_hasLost_26 σ ((σ.1 2 i0 1) - 1) (σ.1 4 i0 (x1 : Int32).toNatClampNeg))))
set_option maxRecDepth 100000 in
set_option maxHeartbeats 4000000 in
theorem b_X1_hasLost_0 (C0 : Cx p l s m args meth c cX1_hasLost 2 RX1 D cy n0) (hR : meth.sig.returnType = (some .boolean)) (σ : Sg) (i0 : Nat) (x1 : Int32) (hi0 : i0 < nT ∨ i0 = 8) (H : Heap) (locs : List Loc) (ls : Array Slot) (hh : Hp D cy n0 ad nT nO s σ H locs) (hl : lv_has ls 2 [(0, .ref (ad 2 i0)), (1, .int x1)]) : Sm (Qr below args s D cy n0 ad nT nO vI 0 0) (f_X1_hasLost_0 σ i0 x1) p l e rmX1_hasLost s m args below meth c H locs 0 0 (F0 m 0 ls []) := by
  unfold f_X1_hasLost_0
  refine s_aload_n C0 dX1_hasLost_0 rfl (lv_at hl 0 rfl) ?_
  refine s_get (v := .ref (ad 4 i0)) C0 hh (rl_2 hi0) rfl (T := TX1) (N := 8) rfl hinX1 (by decide) w5 rfl dX1_hasLost_1 ?_
  refine s_iload_n C0 dX1_hasLost_4 rfl (lv_at hl 1 rfl) ?_
  refine s_iald (g := (σ.1 4 i0)) C0 hh rfl (rl_4 hi0) (fun _ => rfl) (t0 := 1) rfl dX1_hasLost_5 ?_
  refine s_aload_n C0 dX1_hasLost_6 rfl (lv_at hl 0 rfl) ?_
  refine s_get (v := .int (σ.1 2 i0 4)) C0 hh (rl_2 hi0) rfl (T := TX1) (N := 8) rfl hinX1 (by decide) w69 rfl dX1_hasLost_7 ?_
  refine s_if_eq (tgt := 22) C0 dX1_hasLost_10 (by decide) (fun _ => ?_) (fun _ => ?_)
  · refine s_aload_n C0 dX1_hasLost_22 rfl (lv_at hl 0 rfl) ?_
    refine s_get (v := .int (σ.1 2 i0 1)) C0 hh (rl_2 hi0) rfl (T := TX1) (N := 8) rfl hinX1 (by decide) w67 rfl dX1_hasLost_23 ?_
    exact b_X1_hasLost_26 C0 hR σ (σ.1 2 i0 1) (σ.1 4 i0 (x1 : Int32).toNatClampNeg) _ _ _ hh ⟨hl.1, hl.2.1, fun _ h => nomatch h⟩
  · refine s_aload_n C0 dX1_hasLost_13 rfl (lv_at hl 0 rfl) ?_
    refine s_get (v := .int (σ.1 2 i0 1)) C0 hh (rl_2 hi0) rfl (T := TX1) (N := 8) rfl hinX1 (by decide) w67 rfl dX1_hasLost_14 ?_
    refine s_iconst (v := 1) C0 dX1_hasLost_17 (by decide) ?_
    refine s_isub C0 dX1_hasLost_18 ?_
    refine s_goto (tgt := 26) C0 dX1_hasLost_19 (by decide) ?_
    exact b_X1_hasLost_26 C0 hR σ ((σ.1 2 i0 1) - 1) (σ.1 4 i0 (x1 : Int32).toNatClampNeg) _ _ _ hh ⟨hl.1, hl.2.1, fun _ h => nomatch h⟩
def f_X1_hasLost (σ : Sg) (i0 : Nat) (x1 : Int32) : Option (Int32 × Sg) := f_X1_hasLost_0 σ i0 x1
set_option maxRecDepth 100000 in
set_option maxHeartbeats 4000000 in
theorem c_X1_hasLost (hst : l.stackTraces = false) (σ : Sg) (i0 : Nat) (x1 : Int32) (hi0 : i0 < nT ∨ i0 = 8) : Ct l yX1_hasLost (wm yX1_hasLost cX1_hasLost 2 (some .boolean)) rmX1_hasLost 0 0 vI [.ref (ad 2 i0), .int x1] D cy n0 ad nT nO  σ (f_X1_hasLost σ i0 x1) := by
  intro r0 h0
  refine Met.ofW (cc := cX1_hasLost) (maxL := 2) (ret := (some .boolean)) (by decide +kernel) rfl ?_
  intro p e s m args below meth c s₁ B hml hv
  obtain ⟨C0, hh, hR, rfl⟩ := ent B hml hst hv
  rw [lg_entry_eq]
  have hl := lv_entry ([.ref (ad 2 i0), .int x1]) (n := 2) (Nat.le_of_ble_eq_true rfl)
  generalize (lg_sl ([.ref (ad 2 i0), .int x1]) ++ List.replicate (2 - (lg_sl ([.ref (ad 2 i0), .int x1])).length) Slot.unset).toArray = ls at hl ⊢
  exact b_X1_hasLost_0 C0 hR σ i0 x1 hi0 _ _ _ hh hl r0 h0
theorem qc5 {R : Room} {s : State} {args : Array Value} (ht : ∀ w ∈ allw, w.before args s = true) (hR : (rmX1_hasLost).frames + 1 ≤ R.frames ∧ 8 + (2 + 11) + (rmX1_hasLost).locals ≤ R.locals) : CallW R s args RX1 RX1 69 yX1_hasLost cX1_hasLost 2 (some .boolean) (wm yX1_hasLost cX1_hasLost 2 (some .boolean)) rmX1_hasLost 0 0 1 := cwV 1 ht (gd_of (fun _ h => h) _ (mV w84 w86 w87 w15 w85)) rfl rfl rfl (by decide +kernel) hR
def rmX1_lostOnes : Room := { frames := 1, cells := 0, slots := 0, locals := 21 }
def f_X1_lostOnes_23 (rec4 : Sg → Nat → Int32 → Int32 → Option (Int32 × Sg)) (σ : Sg) (i0 : Nat) (x1 : Int32) (x2 : Int32) : Option (Int32 × Sg) :=
  (rec4 σ i0 x1 (x2 + 1))
set_option maxRecDepth 100000 in
set_option maxHeartbeats 4000000 in
theorem b_X1_lostOnes_23 (C0 : Cx p l s m args meth c cX1_lostOnes 3 RX1 D cy n0) (hR : meth.sig.returnType = (some .int)) (rec4 : Sg → Nat → Int32 → Int32 → Option (Int32 × Sg)) (hrec4 : ∀ (σ : Sg) (i0 : Nat) (x1 : Int32) (x2 : Int32) (hi0 : i0 < nT ∨ i0 = 8) (H : Heap) (locs : List Loc) (ls : Array Slot), Hp D cy n0 ad nT nO s σ H locs → lv_has ls 3 [(0, .ref (ad 2 i0)), (1, .int x1), (2, .int x2)] → Sm (Qr below args s D cy n0 ad nT nO vI 0 0) (rec4 σ i0 x1 x2) p l e rmX1_lostOnes s m args below meth c H locs 0 0 (F0 m 4 ls [])) (σ : Sg) (i0 : Nat) (x1 : Int32) (x2 : Int32) (hi0 : i0 < nT ∨ i0 = 8) (H : Heap) (locs : List Loc) (ls : Array Slot) (hh : Hp D cy n0 ad nT nO s σ H locs) (hl : lv_has ls 3 [(0, .ref (ad 2 i0)), (1, .int x1), (2, .int x2)]) : Sm (Qr below args s D cy n0 ad nT nO vI 0 0) (f_X1_lostOnes_23 rec4 σ i0 x1 x2) p l e rmX1_lostOnes s m args below meth c H locs 0 0 (F0 m 23 ls []) := by
  unfold f_X1_lostOnes_23
  refine s_iinc (k := 2) (v := (x2 + 1)) (lv' := [(2, .int (x2 + 1)), (0, .ref (ad 2 i0)), (1, .int x1)]) C0 dX1_lostOnes_23 hl rfl rfl (by decide) rfl (fun ls hl => ?_)
  refine s_goto (tgt := 4) C0 dX1_lostOnes_26 (by decide) ?_
  exact hrec4 σ i0 x1 (x2 + 1) hi0 _ _ _ hh (lv_sub hl [1, 2, 0] rfl)
def g_X1_lostOnes_4 (rec4 : Sg → Nat → Int32 → Int32 → Option (Int32 × Sg)) (σ : Sg) (i0 : Nat) (x1 : Int32) (x2 : Int32) : Option (Int32 × Sg) :=
  (if (σ.1 2 i0 3) ≤ (x2 : Int32) then (some (x1, σ)) else ((f_X1_hasLost σ i0 x2).bind (fun r1 => (if (r1.1 : Int32) = (0 : Int32) then (f_X1_lostOnes_23 rec4 r1.2 i0 x1 x2) else (f_X1_lostOnes_23 rec4 r1.2 i0 (x1 + 1) x2)))))
def f_X1_lostOnes_4 : Nat → Sg → Nat → Int32 → Int32 → Option (Int32 × Sg)
  | 0 => fun _ _ _ _ => none
  | n + 1 => fun σ i0 x1 x2 => g_X1_lostOnes_4 (f_X1_lostOnes_4 n) σ i0 x1 x2
set_option maxRecDepth 100000 in
set_option maxHeartbeats 4000000 in
theorem a_X1_lostOnes_4 (C0 : Cx p l s m args meth c cX1_lostOnes 3 RX1 D cy n0) (hR : meth.sig.returnType = (some .int)) (rec4 : Sg → Nat → Int32 → Int32 → Option (Int32 × Sg)) (hrec4 : ∀ (σ : Sg) (i0 : Nat) (x1 : Int32) (x2 : Int32) (hi0 : i0 < nT ∨ i0 = 8) (H : Heap) (locs : List Loc) (ls : Array Slot), Hp D cy n0 ad nT nO s σ H locs → lv_has ls 3 [(0, .ref (ad 2 i0)), (1, .int x1), (2, .int x2)] → Sm (Qr below args s D cy n0 ad nT nO vI 0 0) (rec4 σ i0 x1 x2) p l e rmX1_lostOnes s m args below meth c H locs 0 0 (F0 m 4 ls [])) (σ : Sg) (i0 : Nat) (x1 : Int32) (x2 : Int32) (hi0 : i0 < nT ∨ i0 = 8) (H : Heap) (locs : List Loc) (ls : Array Slot) (hh : Hp D cy n0 ad nT nO s σ H locs) (hl : lv_has ls 3 [(0, .ref (ad 2 i0)), (1, .int x1), (2, .int x2)]) : Sm (Qr below args s D cy n0 ad nT nO vI 0 0) (g_X1_lostOnes_4 rec4 σ i0 x1 x2) p l e rmX1_lostOnes s m args below meth c H locs 0 0 (F0 m 4 ls []) := by
  unfold g_X1_lostOnes_4
  refine s_iload_n C0 dX1_lostOnes_4 rfl (lv_at hl 2 rfl) ?_
  refine s_aload_n C0 dX1_lostOnes_5 rfl (lv_at hl 0 rfl) ?_
  refine s_get (v := .int (σ.1 2 i0 3)) C0 hh (rl_2 hi0) rfl (T := TX1) (N := 8) rfl hinX1 (by decide) w68 rfl dX1_lostOnes_6 ?_
  refine s_icmp_ge (tgt := 29) C0 dX1_lostOnes_9 (by decide) (fun _ => ?_) (fun _ => ?_)
  · refine s_iload_n C0 dX1_lostOnes_29 rfl (lv_at hl 1 rfl) ?_
    exact s_iret C0 hh hR rfl (Nat.le_of_ble_eq_true rfl) (Nat.le_of_ble_eq_true rfl) dX1_lostOnes_30
  · refine s_aload_n C0 dX1_lostOnes_12 rfl (lv_at hl 0 rfl) ?_
    refine s_iload_n C0 dX1_lostOnes_13 rfl (lv_at hl 2 rfl) ?_
    refine s_V (As := [.int x2]) (rest := []) C0 hh (c_X1_hasLost C0.2.2.2.2.2.2 _ i0 x2 hi0) (qc5 C0.1.2.2.2.2 ⟨Nat.le_of_ble_eq_true rfl, Nat.le_of_ble_eq_true rfl⟩) (rl_2 hi0) rfl rfl rfl hl.1 rfl (lv_room (Nat.le_of_ble_eq_true rfl)) dX1_lostOnes_14 ⟨Nat.le_of_ble_eq_true rfl, Nat.le_of_ble_eq_true rfl⟩ (fun r1 H locs hor1 hh => ?_)
    refine s_if_eq (tgt := 23) C0 dX1_lostOnes_17 (by decide) (fun _ => ?_) (fun _ => ?_)
    · exact b_X1_lostOnes_23 C0 hR rec4 hrec4 r1.2 i0 x1 x2 hi0 _ _ _ hh (lv_sub hl [0, 1, 2] rfl)
    · refine s_iinc (k := 1) (v := (x1 + 1)) (lv' := [(1, .int (x1 + 1)), (0, .ref (ad 2 i0)), (2, .int x2)]) C0 dX1_lostOnes_20 hl rfl rfl (by decide) rfl (fun ls hl => ?_)
      exact b_X1_lostOnes_23 C0 hR rec4 hrec4 r1.2 i0 (x1 + 1) x2 hi0 _ _ _ hh (lv_sub hl [1, 0, 2] rfl)
theorem b_X1_lostOnes_4 (C0 : Cx p l s m args meth c cX1_lostOnes 3 RX1 D cy n0) (hR : meth.sig.returnType = (some .int)) : ∀ (n : Nat) (σ : Sg) (i0 : Nat) (x1 : Int32) (x2 : Int32) (hi0 : i0 < nT ∨ i0 = 8) (H : Heap) (locs : List Loc) (ls : Array Slot) (hh : Hp D cy n0 ad nT nO s σ H locs) (hl : lv_has ls 3 [(0, .ref (ad 2 i0)), (1, .int x1), (2, .int x2)]), Sm (Qr below args s D cy n0 ad nT nO vI 0 0) (f_X1_lostOnes_4 n σ i0 x1 x2) p l e rmX1_lostOnes s m args below meth c H locs 0 0 (F0 m 4 ls []) := by
  intro n
  induction n with
  | zero => intros; intro r h; cases h
  | succ n ih => intro σ i0 x1 x2 hi0 H locs ls hh hl; exact a_X1_lostOnes_4 C0 hR (f_X1_lostOnes_4 n) ih σ i0 x1 x2 hi0 H locs ls hh hl
def f_X1_lostOnes_0 (σ : Sg) (i0 : Nat) : Option (Int32 × Sg) :=
  (f_X1_lostOnes_4 70 σ i0 0 0)
set_option maxRecDepth 100000 in
set_option maxHeartbeats 4000000 in
theorem b_X1_lostOnes_0 (C0 : Cx p l s m args meth c cX1_lostOnes 3 RX1 D cy n0) (hR : meth.sig.returnType = (some .int)) (σ : Sg) (i0 : Nat) (hi0 : i0 < nT ∨ i0 = 8) (H : Heap) (locs : List Loc) (ls : Array Slot) (hh : Hp D cy n0 ad nT nO s σ H locs) (hl : lv_has ls 3 [(0, .ref (ad 2 i0))]) : Sm (Qr below args s D cy n0 ad nT nO vI 0 0) (f_X1_lostOnes_0 σ i0) p l e rmX1_lostOnes s m args below meth c H locs 0 0 (F0 m 0 ls []) := by
  unfold f_X1_lostOnes_0
  refine s_iconst (v := 0) C0 dX1_lostOnes_0 (by decide) ?_
  refine s_istore_n (lv' := [(1, .int 0), (0, .ref (ad 2 i0))]) C0 dX1_lostOnes_1 rfl hl (by decide) rfl (fun ls hl => ?_)
  refine s_iconst (v := 0) C0 dX1_lostOnes_2 (by decide) ?_
  refine s_istore_n (lv' := [(2, .int 0), (1, .int 0), (0, .ref (ad 2 i0))]) C0 dX1_lostOnes_3 rfl hl (by decide) rfl (fun ls hl => ?_)
  exact b_X1_lostOnes_4 C0 hR 70 σ i0 0 0 hi0 _ _ _ hh (lv_sub hl [2, 1, 0] rfl)
def f_X1_lostOnes (σ : Sg) (i0 : Nat) : Option (Int32 × Sg) := f_X1_lostOnes_0 σ i0
set_option maxRecDepth 100000 in
set_option maxHeartbeats 4000000 in
theorem c_X1_lostOnes (hst : l.stackTraces = false) (σ : Sg) (i0 : Nat) (hi0 : i0 < nT ∨ i0 = 8) : Ct l yX1_lostOnes (wm yX1_lostOnes cX1_lostOnes 3 (some .int)) rmX1_lostOnes 0 0 vI [.ref (ad 2 i0)] D cy n0 ad nT nO  σ (f_X1_lostOnes σ i0) := by
  intro r0 h0
  refine Met.ofW (cc := cX1_lostOnes) (maxL := 3) (ret := (some .int)) (by decide +kernel) rfl ?_
  intro p e s m args below meth c s₁ B hml hv
  obtain ⟨C0, hh, hR, rfl⟩ := ent B hml hst hv
  rw [lg_entry_eq]
  have hl := lv_entry ([.ref (ad 2 i0)]) (n := 3) (Nat.le_of_ble_eq_true rfl)
  generalize (lg_sl ([.ref (ad 2 i0)]) ++ List.replicate (3 - (lg_sl ([.ref (ad 2 i0)])).length) Slot.unset).toArray = ls at hl ⊢
  exact b_X1_lostOnes_0 C0 hR σ i0 hi0 _ _ _ hh hl r0 h0

def rmX1_isFresh : Room := { frames := 1, cells := 0, slots := 0, locals := 21 }
def g_X1_isFresh_2 (rec2 : Sg → Nat → Int32 → Option (Int32 × Sg)) (σ : Sg) (i0 : Nat) (x1 : Int32) : Option (Int32 × Sg) :=
  (if (σ.1 2 i0 3) ≤ (x1 : Int32) then (some (1, σ)) else ((f_X1_hasLost σ i0 x1).bind (fun r1 => (if (r1.1 : Int32) = (0 : Int32) then (if (x1 : Int32) < 0 ∨ 60 ≤ (x1 : Int32).toNatClampNeg then none else (if ((r1.2.1 5 i0 (x1 : Int32).toNatClampNeg) : Int32) = (0 : Int32) then (rec2 r1.2 i0 (x1 + 1)) else (some (0, r1.2)))) else (some (0, r1.2))))))
def f_X1_isFresh_2 : Nat → Sg → Nat → Int32 → Option (Int32 × Sg)
  | 0 => fun _ _ _ => none
  | n + 1 => fun σ i0 x1 => g_X1_isFresh_2 (f_X1_isFresh_2 n) σ i0 x1
set_option maxRecDepth 100000 in
set_option maxHeartbeats 4000000 in
theorem a_X1_isFresh_2 (C0 : Cx p l s m args meth c cX1_isFresh 2 RX1 D cy n0) (hR : meth.sig.returnType = (some .boolean)) (rec2 : Sg → Nat → Int32 → Option (Int32 × Sg)) (hrec2 : ∀ (σ : Sg) (i0 : Nat) (x1 : Int32) (hi0 : i0 < nT ∨ i0 = 8) (H : Heap) (locs : List Loc) (ls : Array Slot), Hp D cy n0 ad nT nO s σ H locs → lv_has ls 2 [(0, .ref (ad 2 i0)), (1, .int x1)] → Sm (Qr below args s D cy n0 ad nT nO vI 0 0) (rec2 σ i0 x1) p l e rmX1_isFresh s m args below meth c H locs 0 0 (F0 m 2 ls [])) (σ : Sg) (i0 : Nat) (x1 : Int32) (hi0 : i0 < nT ∨ i0 = 8) (H : Heap) (locs : List Loc) (ls : Array Slot) (hh : Hp D cy n0 ad nT nO s σ H locs) (hl : lv_has ls 2 [(0, .ref (ad 2 i0)), (1, .int x1)]) : Sm (Qr below args s D cy n0 ad nT nO vI 0 0) (g_X1_isFresh_2 rec2 σ i0 x1) p l e rmX1_isFresh s m args below meth c H locs 0 0 (F0 m 2 ls []) := by
  unfold g_X1_isFresh_2
  refine s_iload_n C0 dX1_isFresh_2 rfl (lv_at hl 1 rfl) ?_
  refine s_aload_n C0 dX1_isFresh_3 rfl (lv_at hl 0 rfl) ?_
  refine s_get (v := .int (σ.1 2 i0 3)) C0 hh (rl_2 hi0) rfl (T := TX1) (N := 8) rfl hinX1 (by decide) w68 rfl dX1_isFresh_4 ?_
  refine s_icmp_ge (tgt := 35) C0 dX1_isFresh_7 (by decide) (fun _ => ?_) (fun _ => ?_)
  · refine s_iconst (v := 1) C0 dX1_isFresh_35 (by decide) ?_
    exact s_iret C0 hh hR narrow_b1 (Nat.le_of_ble_eq_true rfl) (Nat.le_of_ble_eq_true rfl) dX1_isFresh_36
  · refine s_aload_n C0 dX1_isFresh_10 rfl (lv_at hl 0 rfl) ?_
    refine s_iload_n C0 dX1_isFresh_11 rfl (lv_at hl 1 rfl) ?_
    refine s_V (As := [.int x1]) (rest := []) C0 hh (c_X1_hasLost C0.2.2.2.2.2.2 _ i0 x1 hi0) (qc5 C0.1.2.2.2.2 ⟨Nat.le_of_ble_eq_true rfl, Nat.le_of_ble_eq_true rfl⟩) (rl_2 hi0) rfl rfl rfl hl.1 rfl (lv_room (Nat.le_of_ble_eq_true rfl)) dX1_isFresh_12 ⟨Nat.le_of_ble_eq_true rfl, Nat.le_of_ble_eq_true rfl⟩ (fun r1 H locs hor1 hh => ?_)
    refine s_if_ne (tgt := 27) C0 dX1_isFresh_15 (by decide) (fun _ => ?_) (fun _ => ?_)
    · refine s_iconst (v := 0) C0 dX1_isFresh_27 (by decide) ?_
      exact s_iret C0 hh hR narrow_b0 (Nat.le_of_ble_eq_true rfl) (Nat.le_of_ble_eq_true rfl) dX1_isFresh_28
    · refine s_aload_n C0 dX1_isFresh_18 rfl (lv_at hl 0 rfl) ?_
      refine s_get (v := .ref (ad 5 i0)) C0 hh (rl_2 hi0) rfl (T := TX1) (N := 8) rfl hinX1 (by decide) w6 rfl dX1_isFresh_19 ?_
      refine s_iload_n C0 dX1_isFresh_22 rfl (lv_at hl 1 rfl) ?_
      refine s_iald (g := (r1.2.1 5 i0)) C0 hh rfl (rl_5 hi0) (fun _ => rfl) (t0 := 1) rfl dX1_isFresh_23 ?_
      refine s_if_eq (tgt := 29) C0 dX1_isFresh_24 (by decide) (fun _ => ?_) (fun _ => ?_)
      · refine s_iinc (k := 1) (v := (x1 + 1)) (lv' := [(1, .int (x1 + 1)), (0, .ref (ad 2 i0))]) C0 dX1_isFresh_29 hl rfl rfl (by decide) rfl (fun ls hl => ?_)
        refine s_goto (tgt := 2) C0 dX1_isFresh_32 (by decide) ?_
        exact hrec2 r1.2 i0 (x1 + 1) hi0 _ _ _ hh (lv_sub hl [1, 0] rfl)
      · refine s_iconst (v := 0) C0 dX1_isFresh_27 (by decide) ?_
        exact s_iret C0 hh hR narrow_b0 (Nat.le_of_ble_eq_true rfl) (Nat.le_of_ble_eq_true rfl) dX1_isFresh_28
theorem b_X1_isFresh_2 (C0 : Cx p l s m args meth c cX1_isFresh 2 RX1 D cy n0) (hR : meth.sig.returnType = (some .boolean)) : ∀ (n : Nat) (σ : Sg) (i0 : Nat) (x1 : Int32) (hi0 : i0 < nT ∨ i0 = 8) (H : Heap) (locs : List Loc) (ls : Array Slot) (hh : Hp D cy n0 ad nT nO s σ H locs) (hl : lv_has ls 2 [(0, .ref (ad 2 i0)), (1, .int x1)]), Sm (Qr below args s D cy n0 ad nT nO vI 0 0) (f_X1_isFresh_2 n σ i0 x1) p l e rmX1_isFresh s m args below meth c H locs 0 0 (F0 m 2 ls []) := by
  intro n
  induction n with
  | zero => intros; intro r h; cases h
  | succ n ih => intro σ i0 x1 hi0 H locs ls hh hl; exact a_X1_isFresh_2 C0 hR (f_X1_isFresh_2 n) ih σ i0 x1 hi0 H locs ls hh hl
def f_X1_isFresh_0 (σ : Sg) (i0 : Nat) : Option (Int32 × Sg) :=
  (f_X1_isFresh_2 70 σ i0 0)
set_option maxRecDepth 100000 in
set_option maxHeartbeats 4000000 in
theorem b_X1_isFresh_0 (C0 : Cx p l s m args meth c cX1_isFresh 2 RX1 D cy n0) (hR : meth.sig.returnType = (some .boolean)) (σ : Sg) (i0 : Nat) (hi0 : i0 < nT ∨ i0 = 8) (H : Heap) (locs : List Loc) (ls : Array Slot) (hh : Hp D cy n0 ad nT nO s σ H locs) (hl : lv_has ls 2 [(0, .ref (ad 2 i0))]) : Sm (Qr below args s D cy n0 ad nT nO vI 0 0) (f_X1_isFresh_0 σ i0) p l e rmX1_isFresh s m args below meth c H locs 0 0 (F0 m 0 ls []) := by
  unfold f_X1_isFresh_0
  refine s_iconst (v := 0) C0 dX1_isFresh_0 (by decide) ?_
  refine s_istore_n (lv' := [(1, .int 0), (0, .ref (ad 2 i0))]) C0 dX1_isFresh_1 rfl hl (by decide) rfl (fun ls hl => ?_)
  exact b_X1_isFresh_2 C0 hR 70 σ i0 0 hi0 _ _ _ hh (lv_sub hl [1, 0] rfl)
def f_X1_isFresh (σ : Sg) (i0 : Nat) : Option (Int32 × Sg) := f_X1_isFresh_0 σ i0
set_option maxRecDepth 100000 in
set_option maxHeartbeats 4000000 in
theorem c_X1_isFresh (hst : l.stackTraces = false) (σ : Sg) (i0 : Nat) (hi0 : i0 < nT ∨ i0 = 8) : Ct l yX1_isFresh (wm yX1_isFresh cX1_isFresh 2 (some .boolean)) rmX1_isFresh 0 0 vI [.ref (ad 2 i0)] D cy n0 ad nT nO  σ (f_X1_isFresh σ i0) := by
  intro r0 h0
  refine Met.ofW (cc := cX1_isFresh) (maxL := 2) (ret := (some .boolean)) (by decide +kernel) rfl ?_
  intro p e s m args below meth c s₁ B hml hv
  obtain ⟨C0, hh, hR, rfl⟩ := ent B hml hst hv
  rw [lg_entry_eq]
  have hl := lv_entry ([.ref (ad 2 i0)]) (n := 2) (Nat.le_of_ble_eq_true rfl)
  generalize (lg_sl ([.ref (ad 2 i0)]) ++ List.replicate (2 - (lg_sl ([.ref (ad 2 i0)])).length) Slot.unset).toArray = ls at hl ⊢
  exact b_X1_isFresh_0 C0 hR σ i0 hi0 _ _ _ hh hl r0 h0
theorem qc6 {R : Room} {s : State} {args : Array Value} (ht : ∀ w ∈ allw, w.before args s = true) (hR : (rmX1_stepBehind).frames + 1 ≤ R.frames ∧ 8 + (2 + 11) + (rmX1_stepBehind).locals ≤ R.locals) : CallW R s args RX1 RX1 39 yX1_stepBehind cX1_stepBehind 2 (some .int) (wm yX1_stepBehind cX1_stepBehind 2 (some .int)) rmX1_stepBehind 0 0 1 := cwV 1 ht (gd_of (fun _ h => h) _ (mV w88 w90 w91 w15 w89)) rfl rfl rfl (by decide +kernel) hR
def rmX1_placesAreDue : Room := { frames := 2, cells := 0, slots := 0, locals := 41 }
def f_X1_placesAreDue_64 (σ : Sg) : Option (Int32 × Sg) :=
  (some (1, σ))
set_option maxRecDepth 100000 in
set_option maxHeartbeats 4000000 in
theorem b_X1_placesAreDue_64 (C0 : Cx p l s m args meth c cX1_placesAreDue 4 RX1 D cy n0) (hR : meth.sig.returnType = (some .boolean)) (σ : Sg) (H : Heap) (locs : List Loc) (ls : Array Slot) (hh : Hp D cy n0 ad nT nO s σ H locs) (hl : lv_has ls 4 []) : Sm (Qr below args s D cy n0 ad nT nO vI 0 0) (f_X1_placesAreDue_64 σ) p l e rmX1_placesAreDue s m args below meth c H locs 0 0 (F0 m 64 ls []) := by
  unfold f_X1_placesAreDue_64
  refine s_iconst (v := 1) C0 dX1_placesAreDue_64 (by decide) ?_
  refine s_goto (tgt := 69) C0 dX1_placesAreDue_65 (by decide) ?_
  exact s_iret C0 hh hR narrow_b1 (Nat.le_of_ble_eq_true rfl) (Nat.le_of_ble_eq_true rfl) dX1_placesAreDue_69
def g_X1_placesAreDue_4 (rec4 : Sg → Nat → Int32 → Int32 → Int32 → Option (Int32 × Sg)) (σ : Sg) (i0 : Nat) (x1 : Int32) (x2 : Int32) (x3 : Int32) : Option (Int32 × Sg) :=
  (if (σ.1 2 i0 3) ≤ (x3 : Int32) then (if ((σ.1 2 i0 3) : Int32) = (0 : Int32) then (f_X1_placesAreDue_64 σ) else (if ((σ.1 2 i0 3) : Int32) = (60 : Int32) then (f_X1_placesAreDue_64 σ) else (if (x2 : Int32) < x1 then (some (0, σ)) else (f_X1_placesAreDue_64 σ)))) else (if (x3 : Int32) < 0 ∨ 60 ≤ (x3 : Int32).toNatClampNeg then none else (if ((σ.1 3 i0 (x3 : Int32).toNatClampNeg) : Int32) = x2 then (if (x2 : Int32) < x1 then ((f_X1_stepBehind σ i0 x3).bind (fun r1 => (rec4 r1.2 i0 x1 (x2 + r1.1) (x3 + 1)))) else (some (0, σ))) else (some (0, σ)))))
def f_X1_placesAreDue_4 : Nat → Sg → Nat → Int32 → Int32 → Int32 → Option (Int32 × Sg)
  | 0 => fun _ _ _ _ _ => none
  | n + 1 => fun σ i0 x1 x2 x3 => g_X1_placesAreDue_4 (f_X1_placesAreDue_4 n) σ i0 x1 x2 x3
set_option maxRecDepth 100000 in
set_option maxHeartbeats 4000000 in
theorem a_X1_placesAreDue_4 (C0 : Cx p l s m args meth c cX1_placesAreDue 4 RX1 D cy n0) (hR : meth.sig.returnType = (some .boolean)) (rec4 : Sg → Nat → Int32 → Int32 → Int32 → Option (Int32 × Sg)) (hrec4 : ∀ (σ : Sg) (i0 : Nat) (x1 : Int32) (x2 : Int32) (x3 : Int32) (hi0 : i0 < nT ∨ i0 = 8) (H : Heap) (locs : List Loc) (ls : Array Slot), Hp D cy n0 ad nT nO s σ H locs → lv_has ls 4 [(0, .ref (ad 2 i0)), (1, .int x1), (2, .int x2), (3, .int x3)] → Sm (Qr below args s D cy n0 ad nT nO vI 0 0) (rec4 σ i0 x1 x2 x3) p l e rmX1_placesAreDue s m args below meth c H locs 0 0 (F0 m 4 ls [])) (σ : Sg) (i0 : Nat) (x1 : Int32) (x2 : Int32) (x3 : Int32) (hi0 : i0 < nT ∨ i0 = 8) (H : Heap) (locs : List Loc) (ls : Array Slot) (hh : Hp D cy n0 ad nT nO s σ H locs) (hl : lv_has ls 4 [(0, .ref (ad 2 i0)), (1, .int x1), (2, .int x2), (3, .int x3)]) : Sm (Qr below args s D cy n0 ad nT nO vI 0 0) (g_X1_placesAreDue_4 rec4 σ i0 x1 x2 x3) p l e rmX1_placesAreDue s m args below meth c H locs 0 0 (F0 m 4 ls []) := by
  unfold g_X1_placesAreDue_4
  refine s_iload_n C0 dX1_placesAreDue_4 rfl (lv_at hl 3 rfl) ?_
  refine s_aload_n C0 dX1_placesAreDue_5 rfl (lv_at hl 0 rfl) ?_
  refine s_get (v := .int (σ.1 2 i0 3)) C0 hh (rl_2 hi0) rfl (T := TX1) (N := 8) rfl hinX1 (by decide) w68 rfl dX1_placesAreDue_6 ?_
  refine s_icmp_ge (tgt := 43) C0 dX1_placesAreDue_9 (by decide) (fun _ => ?_) (fun _ => ?_)
  · refine s_aload_n C0 dX1_placesAreDue_43 rfl (lv_at hl 0 rfl) ?_
    refine s_get (v := .int (σ.1 2 i0 3)) C0 hh (rl_2 hi0) rfl (T := TX1) (N := 8) rfl hinX1 (by decide) w68 rfl dX1_placesAreDue_44 ?_
    refine s_if_eq (tgt := 64) C0 dX1_placesAreDue_47 (by decide) (fun _ => ?_) (fun _ => ?_)
    · exact b_X1_placesAreDue_64 C0 hR σ _ _ _ hh ⟨hl.1, hl.2.1, fun _ h => nomatch h⟩
    · refine s_aload_n C0 dX1_placesAreDue_50 rfl (lv_at hl 0 rfl) ?_
      refine s_get (v := .int (σ.1 2 i0 3)) C0 hh (rl_2 hi0) rfl (T := TX1) (N := 8) rfl hinX1 (by decide) w68 rfl dX1_placesAreDue_51 ?_
      refine s_bipush (v := 60) C0 dX1_placesAreDue_54 (by decide) ?_
      refine s_icmp_eq (tgt := 64) C0 dX1_placesAreDue_56 (by decide) (fun _ => ?_) (fun _ => ?_)
      · exact b_X1_placesAreDue_64 C0 hR σ _ _ _ hh ⟨hl.1, hl.2.1, fun _ h => nomatch h⟩
      · refine s_iload_n C0 dX1_placesAreDue_59 rfl (lv_at hl 2 rfl) ?_
        refine s_iload_n C0 dX1_placesAreDue_60 rfl (lv_at hl 1 rfl) ?_
        refine s_icmp_lt (tgt := 68) C0 dX1_placesAreDue_61 (by decide) (fun _ => ?_) (fun _ => ?_)
        · refine s_iconst (v := 0) C0 dX1_placesAreDue_68 (by decide) ?_
          exact s_iret C0 hh hR narrow_b0 (Nat.le_of_ble_eq_true rfl) (Nat.le_of_ble_eq_true rfl) dX1_placesAreDue_69
        · exact b_X1_placesAreDue_64 C0 hR σ _ _ _ hh ⟨hl.1, hl.2.1, fun _ h => nomatch h⟩
  · refine s_aload_n C0 dX1_placesAreDue_12 rfl (lv_at hl 0 rfl) ?_
    refine s_get (v := .ref (ad 3 i0)) C0 hh (rl_2 hi0) rfl (T := TX1) (N := 8) rfl hinX1 (by decide) w4 rfl dX1_placesAreDue_13 ?_
    refine s_iload_n C0 dX1_placesAreDue_16 rfl (lv_at hl 3 rfl) ?_
    refine s_iald (g := (σ.1 3 i0)) C0 hh rfl (rl_3 hi0) (fun _ => rfl) (t0 := 1) rfl dX1_placesAreDue_17 ?_
    refine s_iload_n C0 dX1_placesAreDue_18 rfl (lv_at hl 2 rfl) ?_
    refine s_icmp_ne (tgt := 27) C0 dX1_placesAreDue_19 (by decide) (fun _ => ?_) (fun _ => ?_)
    · refine s_iconst (v := 0) C0 dX1_placesAreDue_27 (by decide) ?_
      exact s_iret C0 hh hR narrow_b0 (Nat.le_of_ble_eq_true rfl) (Nat.le_of_ble_eq_true rfl) dX1_placesAreDue_28
    · refine s_iload_n C0 dX1_placesAreDue_22 rfl (lv_at hl 2 rfl) ?_
      refine s_iload_n C0 dX1_placesAreDue_23 rfl (lv_at hl 1 rfl) ?_
      refine s_icmp_lt (tgt := 29) C0 dX1_placesAreDue_24 (by decide) (fun _ => ?_) (fun _ => ?_)
      · refine s_iload_n C0 dX1_placesAreDue_29 rfl (lv_at hl 2 rfl) ?_
        refine s_aload_n C0 dX1_placesAreDue_30 rfl (lv_at hl 0 rfl) ?_
        refine s_iload_n C0 dX1_placesAreDue_31 rfl (lv_at hl 3 rfl) ?_
        refine s_V (As := [.int x3]) (rest := [.int x2]) C0 hh (c_X1_stepBehind C0.2.2.2.2.2.2 _ i0 x3 hi0) (qc6 C0.1.2.2.2.2 ⟨Nat.le_of_ble_eq_true rfl, Nat.le_of_ble_eq_true rfl⟩) (rl_2 hi0) rfl rfl rfl hl.1 rfl (lv_room (Nat.le_of_ble_eq_true rfl)) dX1_placesAreDue_32 ⟨Nat.le_of_ble_eq_true rfl, Nat.le_of_ble_eq_true rfl⟩ (fun r1 H locs hor1 hh => ?_)
        refine s_iadd C0 dX1_placesAreDue_35 ?_
        refine s_istore_n (lv' := [(2, .int (x2 + r1.1)), (0, .ref (ad 2 i0)), (1, .int x1), (3, .int x3)]) C0 dX1_placesAreDue_36 rfl hl (by decide) rfl (fun ls hl => ?_)
        refine s_iinc (k := 3) (v := (x3 + 1)) (lv' := [(3, .int (x3 + 1)), (2, .int (x2 + r1.1)), (0, .ref (ad 2 i0)), (1, .int x1)]) C0 dX1_placesAreDue_37 hl rfl rfl (by decide) rfl (fun ls hl => ?_)
        refine s_goto (tgt := 4) C0 dX1_placesAreDue_40 (by decide) ?_
        exact hrec4 r1.2 i0 x1 (x2 + r1.1) (x3 + 1) hi0 _ _ _ hh (lv_sub hl [2, 3, 1, 0] rfl)
      · refine s_iconst (v := 0) C0 dX1_placesAreDue_27 (by decide) ?_
        exact s_iret C0 hh hR narrow_b0 (Nat.le_of_ble_eq_true rfl) (Nat.le_of_ble_eq_true rfl) dX1_placesAreDue_28
theorem b_X1_placesAreDue_4 (C0 : Cx p l s m args meth c cX1_placesAreDue 4 RX1 D cy n0) (hR : meth.sig.returnType = (some .boolean)) : ∀ (n : Nat) (σ : Sg) (i0 : Nat) (x1 : Int32) (x2 : Int32) (x3 : Int32) (hi0 : i0 < nT ∨ i0 = 8) (H : Heap) (locs : List Loc) (ls : Array Slot) (hh : Hp D cy n0 ad nT nO s σ H locs) (hl : lv_has ls 4 [(0, .ref (ad 2 i0)), (1, .int x1), (2, .int x2), (3, .int x3)]), Sm (Qr below args s D cy n0 ad nT nO vI 0 0) (f_X1_placesAreDue_4 n σ i0 x1 x2 x3) p l e rmX1_placesAreDue s m args below meth c H locs 0 0 (F0 m 4 ls []) := by
  intro n
  induction n with
  | zero => intros; intro r h; cases h
  | succ n ih => intro σ i0 x1 x2 x3 hi0 H locs ls hh hl; exact a_X1_placesAreDue_4 C0 hR (f_X1_placesAreDue_4 n) ih σ i0 x1 x2 x3 hi0 H locs ls hh hl
def f_X1_placesAreDue_0 (σ : Sg) (i0 : Nat) (x1 : Int32) : Option (Int32 × Sg) :=
  (f_X1_placesAreDue_4 70 σ i0 x1 0 0)
set_option maxRecDepth 100000 in
set_option maxHeartbeats 4000000 in
theorem b_X1_placesAreDue_0 (C0 : Cx p l s m args meth c cX1_placesAreDue 4 RX1 D cy n0) (hR : meth.sig.returnType = (some .boolean)) (σ : Sg) (i0 : Nat) (x1 : Int32) (hi0 : i0 < nT ∨ i0 = 8) (H : Heap) (locs : List Loc) (ls : Array Slot) (hh : Hp D cy n0 ad nT nO s σ H locs) (hl : lv_has ls 4 [(0, .ref (ad 2 i0)), (1, .int x1)]) : Sm (Qr below args s D cy n0 ad nT nO vI 0 0) (f_X1_placesAreDue_0 σ i0 x1) p l e rmX1_placesAreDue s m args below meth c H locs 0 0 (F0 m 0 ls []) := by
  unfold f_X1_placesAreDue_0
  refine s_iconst (v := 0) C0 dX1_placesAreDue_0 (by decide) ?_
  refine s_istore_n (lv' := [(2, .int 0), (0, .ref (ad 2 i0)), (1, .int x1)]) C0 dX1_placesAreDue_1 rfl hl (by decide) rfl (fun ls hl => ?_)
  refine s_iconst (v := 0) C0 dX1_placesAreDue_2 (by decide) ?_
  refine s_istore_n (lv' := [(3, .int 0), (2, .int 0), (0, .ref (ad 2 i0)), (1, .int x1)]) C0 dX1_placesAreDue_3 rfl hl (by decide) rfl (fun ls hl => ?_)
  exact b_X1_placesAreDue_4 C0 hR 70 σ i0 x1 0 0 hi0 _ _ _ hh (lv_sub hl [2, 3, 1, 0] rfl)
def f_X1_placesAreDue (σ : Sg) (i0 : Nat) (x1 : Int32) : Option (Int32 × Sg) := f_X1_placesAreDue_0 σ i0 x1
set_option maxRecDepth 100000 in
set_option maxHeartbeats 4000000 in
theorem c_X1_placesAreDue (hst : l.stackTraces = false) (σ : Sg) (i0 : Nat) (x1 : Int32) (hi0 : i0 < nT ∨ i0 = 8) : Ct l yX1_placesAreDue (wm yX1_placesAreDue cX1_placesAreDue 4 (some .boolean)) rmX1_placesAreDue 0 0 vI [.ref (ad 2 i0), .int x1] D cy n0 ad nT nO  σ (f_X1_placesAreDue σ i0 x1) := by
  intro r0 h0
  refine Met.ofW (cc := cX1_placesAreDue) (maxL := 4) (ret := (some .boolean)) (by decide +kernel) rfl ?_
  intro p e s m args below meth c s₁ B hml hv
  obtain ⟨C0, hh, hR, rfl⟩ := ent B hml hst hv
  rw [lg_entry_eq]
  have hl := lv_entry ([.ref (ad 2 i0), .int x1]) (n := 4) (Nat.le_of_ble_eq_true rfl)
  generalize (lg_sl ([.ref (ad 2 i0), .int x1]) ++ List.replicate (4 - (lg_sl ([.ref (ad 2 i0), .int x1])).length) Slot.unset).toArray = ls at hl ⊢
  exact b_X1_placesAreDue_0 C0 hR σ i0 x1 hi0 _ _ _ hh hl r0 h0

def rmX1_fill : Room := { frames := 2, cells := 0, slots := 0, locals := 41 }
def g_X1_fill_31 (rec31 : Sg → Nat → Int32 → Int32 → Int32 → Option (Unit × Sg)) (σ : Sg) (i0 : Nat) (x4 : Int32) (x5 : Int32) (x6 : Int32) : Option (Unit × Sg) :=
  (if (60 : Int32) ≤ (x6 : Int32) then (some ((), σ)) else (if x4 ≤ (x5 : Int32) then (some ((), σ)) else (if (x6 : Int32) < 0 ∨ 60 ≤ (x6 : Int32).toNatClampNeg then none else (if (x6 : Int32) < 0 ∨ 60 ≤ (x6 : Int32).toNatClampNeg then none else (if (x6 : Int32) < 0 ∨ 60 ≤ (x6 : Int32).toNatClampNeg then none else ((f_X1_stepBehind (sv (sv (sv (sv σ 3 i0 (x6 : Int32).toNatClampNeg x5) 4 i0 (x6 : Int32).toNatClampNeg (σ.1 2 i0 1)) 5 i0 (x6 : Int32).toNatClampNeg 0) 2 i0 3 (x6 + 1)) i0 x6).bind (fun r2 => (rec31 r2.2 i0 x4 (x5 + r2.1) (x6 + 1)))))))))
def f_X1_fill_31 : Nat → Sg → Nat → Int32 → Int32 → Int32 → Option (Unit × Sg)
  | 0 => fun _ _ _ _ _ => none
  | n + 1 => fun σ i0 x4 x5 x6 => g_X1_fill_31 (f_X1_fill_31 n) σ i0 x4 x5 x6
set_option maxRecDepth 100000 in
set_option maxHeartbeats 4000000 in
theorem a_X1_fill_31 (C0 : Cx p l s m args meth c cX1_fill 7 RX1 D cy n0) (hR : meth.sig.returnType = none) (rec31 : Sg → Nat → Int32 → Int32 → Int32 → Option (Unit × Sg)) (hrec31 : ∀ (σ : Sg) (i0 : Nat) (x4 : Int32) (x5 : Int32) (x6 : Int32) (hi0 : i0 < nT ∨ i0 = 8) (H : Heap) (locs : List Loc) (ls : Array Slot), Hp D cy n0 ad nT nO s σ H locs → lv_has ls 7 [(0, .ref (ad 2 i0)), (4, .int x4), (5, .int x5), (6, .int x6)] → Sm (Qr below args s D cy n0 ad nT nO vV 0 0) (rec31 σ i0 x4 x5 x6) p l e rmX1_fill s m args below meth c H locs 0 0 (F0 m 31 ls [])) (σ : Sg) (i0 : Nat) (x4 : Int32) (x5 : Int32) (x6 : Int32) (hi0 : i0 < nT ∨ i0 = 8) (H : Heap) (locs : List Loc) (ls : Array Slot) (hh : Hp D cy n0 ad nT nO s σ H locs) (hl : lv_has ls 7 [(0, .ref (ad 2 i0)), (4, .int x4), (5, .int x5), (6, .int x6)]) : Sm (Qr below args s D cy n0 ad nT nO vV 0 0) (g_X1_fill_31 rec31 σ i0 x4 x5 x6) p l e rmX1_fill s m args below meth c H locs 0 0 (F0 m 31 ls []) := by
  unfold g_X1_fill_31
  refine s_iload C0 dX1_fill_31 (lv_at hl 3 rfl) ?_
  refine s_bipush (v := 60) C0 dX1_fill_33 (by decide) ?_
  refine s_icmp_ge (tgt := 98) C0 dX1_fill_35 (by decide) (fun _ => ?_) (fun _ => ?_)
  · exact s_vret C0 hh hR (Nat.le_of_ble_eq_true rfl) (Nat.le_of_ble_eq_true rfl) dX1_fill_98
  · refine s_iload C0 dX1_fill_38 (lv_at hl 2 rfl) ?_
    refine s_iload C0 dX1_fill_40 (lv_at hl 1 rfl) ?_
    refine s_icmp_ge (tgt := 98) C0 dX1_fill_42 (by decide) (fun _ => ?_) (fun _ => ?_)
    · exact s_vret C0 hh hR (Nat.le_of_ble_eq_true rfl) (Nat.le_of_ble_eq_true rfl) dX1_fill_98
    · refine s_aload_n C0 dX1_fill_45 rfl (lv_at hl 0 rfl) ?_
      refine s_get (v := .ref (ad 3 i0)) C0 hh (rl_2 hi0) rfl (T := TX1) (N := 8) rfl hinX1 (by decide) w4 rfl dX1_fill_46 ?_
      refine s_iload C0 dX1_fill_49 (lv_at hl 3 rfl) ?_
      refine s_iload C0 dX1_fill_51 (lv_at hl 2 rfl) ?_
      refine s_iast C0 hh (rl_3 hi0) (fun _ => rfl) (t0 := 1) rfl (by decide) (by decide) (by decide) dX1_fill_53 (fun H locs hh => ?_)
      refine s_aload_n C0 dX1_fill_54 rfl (lv_at hl 0 rfl) ?_
      refine s_get (v := .ref (ad 4 i0)) C0 hh (rl_2 hi0) rfl (T := TX1) (N := 8) rfl hinX1 (by decide) w5 rfl dX1_fill_55 ?_
      refine s_iload C0 dX1_fill_58 (lv_at hl 3 rfl) ?_
      refine s_aload_n C0 dX1_fill_60 rfl (lv_at hl 0 rfl) ?_
      refine s_get (v := .int (σ.1 2 i0 1)) C0 hh (rl_2 hi0) rfl (T := TX1) (N := 8) rfl hinX1 (by decide) w67 rfl dX1_fill_61 ?_
      refine s_iast C0 hh (rl_4 hi0) (fun _ => rfl) (t0 := 1) rfl (by decide) (by decide) (by decide) dX1_fill_64 (fun H locs hh => ?_)
      refine s_aload_n C0 dX1_fill_65 rfl (lv_at hl 0 rfl) ?_
      refine s_get (v := .ref (ad 5 i0)) C0 hh (rl_2 hi0) rfl (T := TX1) (N := 8) rfl hinX1 (by decide) w6 rfl dX1_fill_66 ?_
      refine s_iload C0 dX1_fill_69 (lv_at hl 3 rfl) ?_
      refine s_iconst (v := 0) C0 dX1_fill_71 (by decide) ?_
      refine s_iast C0 hh (rl_5 hi0) (fun _ => rfl) (t0 := 1) rfl (by decide) (by decide) (by decide) dX1_fill_72 (fun H locs hh => ?_)
      refine s_aload_n C0 dX1_fill_73 rfl (lv_at hl 0 rfl) ?_
      refine s_iload C0 dX1_fill_74 (lv_at hl 3 rfl) ?_
      refine s_iconst (v := 1) C0 dX1_fill_76 (by decide) ?_
      refine s_iadd C0 dX1_fill_77 ?_
      refine s_put C0 hh (rl_2 hi0) rfl rfl (T := TX1) (N := 8) rfl hinX1 tyX1 tyX1_ok nmX1 (by decide) w68 rfl (ty := .int) (by decide +kernel) rfl rfl (Nat.le_of_ble_eq_true rfl) (by decide) (by decide) (by decide) dX1_fill_78 (fun H locs hh => ?_)
      refine s_iload C0 dX1_fill_81 (lv_at hl 2 rfl) ?_
      refine s_aload_n C0 dX1_fill_83 rfl (lv_at hl 0 rfl) ?_
      refine s_iload C0 dX1_fill_84 (lv_at hl 3 rfl) ?_
      refine s_V (As := [.int x6]) (rest := [.int x5]) C0 hh (c_X1_stepBehind C0.2.2.2.2.2.2 _ i0 x6 hi0) (qc6 C0.1.2.2.2.2 ⟨Nat.le_of_ble_eq_true rfl, Nat.le_of_ble_eq_true rfl⟩) (rl_2 hi0) rfl rfl rfl hl.1 rfl (lv_room (Nat.le_of_ble_eq_true rfl)) dX1_fill_86 ⟨Nat.le_of_ble_eq_true rfl, Nat.le_of_ble_eq_true rfl⟩ (fun r2 H locs hor2 hh => ?_)
      refine s_iadd C0 dX1_fill_89 ?_
      refine s_istore (lv' := [(5, .int (x5 + r2.1)), (0, .ref (ad 2 i0)), (4, .int x4), (6, .int x6)]) C0 dX1_fill_90 hl (by decide) rfl (fun ls hl => ?_)
      refine s_iinc (k := 3) (v := (x6 + 1)) (lv' := [(6, .int (x6 + 1)), (5, .int (x5 + r2.1)), (0, .ref (ad 2 i0)), (4, .int x4)]) C0 dX1_fill_92 hl rfl rfl (by decide) rfl (fun ls hl => ?_)
      refine s_goto (tgt := 31) C0 dX1_fill_95 (by decide) ?_
      exact hrec31 r2.2 i0 x4 (x5 + r2.1) (x6 + 1) hi0 _ _ _ hh (lv_sub hl [2, 3, 1, 0] rfl)
theorem b_X1_fill_31 (C0 : Cx p l s m args meth c cX1_fill 7 RX1 D cy n0) (hR : meth.sig.returnType = none) : ∀ (n : Nat) (σ : Sg) (i0 : Nat) (x4 : Int32) (x5 : Int32) (x6 : Int32) (hi0 : i0 < nT ∨ i0 = 8) (H : Heap) (locs : List Loc) (ls : Array Slot) (hh : Hp D cy n0 ad nT nO s σ H locs) (hl : lv_has ls 7 [(0, .ref (ad 2 i0)), (4, .int x4), (5, .int x5), (6, .int x6)]), Sm (Qr below args s D cy n0 ad nT nO vV 0 0) (f_X1_fill_31 n σ i0 x4 x5 x6) p l e rmX1_fill s m args below meth c H locs 0 0 (F0 m 31 ls []) := by
  intro n
  induction n with
  | zero => intros; intro r h; cases h
  | succ n ih => intro σ i0 x4 x5 x6 hi0 H locs ls hh hl; exact a_X1_fill_31 C0 hR (f_X1_fill_31 n) ih σ i0 x4 x5 x6 hi0 H locs ls hh hl
def f_X1_fill_0 (σ : Sg) (i0 : Nat) (x1 : Int32) (x2 : Int32) (x3 : Int32) (x4 : Int32) : Option (Unit × Sg) :=
  (if ((x1).toUInt32 % 65536).toInt32 = x1 then (f_X1_fill_31 70 (sv (sv (sv (sv (sv σ 2 i0 0 x1) 2 i0 1 x2) 2 i0 2 x3) 2 i0 4 0) 2 i0 3 0) i0 x4 0 0) else none)
set_option maxRecDepth 100000 in
set_option maxHeartbeats 4000000 in
theorem b_X1_fill_0 (C0 : Cx p l s m args meth c cX1_fill 7 RX1 D cy n0) (hR : meth.sig.returnType = none) (σ : Sg) (i0 : Nat) (x1 : Int32) (x2 : Int32) (x3 : Int32) (x4 : Int32) (hi0 : i0 < nT ∨ i0 = 8) (H : Heap) (locs : List Loc) (ls : Array Slot) (hh : Hp D cy n0 ad nT nO s σ H locs) (hl : lv_has ls 7 [(0, .ref (ad 2 i0)), (1, .int x1), (2, .int x2), (3, .int x3), (4, .int x4)]) : Sm (Qr below args s D cy n0 ad nT nO vV 0 0) (f_X1_fill_0 σ i0 x1 x2 x3 x4) p l e rmX1_fill s m args below meth c H locs 0 0 (F0 m 0 ls []) := by
  unfold f_X1_fill_0
  refine s_aload_n C0 dX1_fill_0 rfl (lv_at hl 0 rfl) ?_
  refine s_iload_n C0 dX1_fill_1 rfl (lv_at hl 1 rfl) ?_
  refine s_gd (fun hg1 => ?_)
  refine s_put C0 hh (rl_2 hi0) rfl rfl (T := TX1) (N := 8) rfl hinX1 tyX1 tyX1_ok nmX1 (by decide) w61 rfl (ty := .char) (by decide +kernel) (nc_of hg1) (fc_of hg1) (Nat.le_of_ble_eq_true rfl) (by decide) (by decide) (by decide) dX1_fill_2 (fun H locs hh => ?_)
  refine s_aload_n C0 dX1_fill_5 rfl (lv_at hl 0 rfl) ?_
  refine s_iload_n C0 dX1_fill_6 rfl (lv_at hl 2 rfl) ?_
  refine s_put C0 hh (rl_2 hi0) rfl rfl (T := TX1) (N := 8) rfl hinX1 tyX1 tyX1_ok nmX1 (by decide) w67 rfl (ty := .int) (by decide +kernel) rfl rfl (Nat.le_of_ble_eq_true rfl) (by decide) (by decide) (by decide) dX1_fill_7 (fun H locs hh => ?_)
  refine s_aload_n C0 dX1_fill_10 rfl (lv_at hl 0 rfl) ?_
  refine s_iload_n C0 dX1_fill_11 rfl (lv_at hl 3 rfl) ?_
  refine s_put C0 hh (rl_2 hi0) rfl rfl (T := TX1) (N := 8) rfl hinX1 tyX1 tyX1_ok nmX1 (by decide) w66 rfl (ty := .int) (by decide +kernel) rfl rfl (Nat.le_of_ble_eq_true rfl) (by decide) (by decide) (by decide) dX1_fill_12 (fun H locs hh => ?_)
  refine s_aload_n C0 dX1_fill_15 rfl (lv_at hl 0 rfl) ?_
  refine s_iconst (v := 0) C0 dX1_fill_16 (by decide) ?_
  refine s_put C0 hh (rl_2 hi0) rfl rfl (T := TX1) (N := 8) rfl hinX1 tyX1 tyX1_ok nmX1 (by decide) w69 rfl (ty := .boolean) (by decide +kernel) narrow_b0 rfl (Nat.le_of_ble_eq_true rfl) (by decide) (by decide) (by decide) dX1_fill_17 (fun H locs hh => ?_)
  refine s_aload_n C0 dX1_fill_20 rfl (lv_at hl 0 rfl) ?_
  refine s_iconst (v := 0) C0 dX1_fill_21 (by decide) ?_
  refine s_put C0 hh (rl_2 hi0) rfl rfl (T := TX1) (N := 8) rfl hinX1 tyX1 tyX1_ok nmX1 (by decide) w68 rfl (ty := .int) (by decide +kernel) rfl rfl (Nat.le_of_ble_eq_true rfl) (by decide) (by decide) (by decide) dX1_fill_22 (fun H locs hh => ?_)
  refine s_iconst (v := 0) C0 dX1_fill_25 (by decide) ?_
  refine s_istore (lv' := [(5, .int 0), (0, .ref (ad 2 i0)), (1, .int x1), (2, .int x2), (3, .int x3), (4, .int x4)]) C0 dX1_fill_26 hl (by decide) rfl (fun ls hl => ?_)
  refine s_iconst (v := 0) C0 dX1_fill_28 (by decide) ?_
  refine s_istore (lv' := [(6, .int 0), (5, .int 0), (0, .ref (ad 2 i0)), (1, .int x1), (2, .int x2), (3, .int x3), (4, .int x4)]) C0 dX1_fill_29 hl (by decide) rfl (fun ls hl => ?_)
  exact b_X1_fill_31 C0 hR 70 (sv (sv (sv (sv (sv σ 2 i0 0 x1) 2 i0 1 x2) 2 i0 2 x3) 2 i0 4 0) 2 i0 3 0) i0 x4 0 0 hi0 _ _ _ hh (lv_sub hl [2, 6, 1, 0] rfl)
def f_X1_fill (σ : Sg) (i0 : Nat) (x1 : Int32) (x2 : Int32) (x3 : Int32) (x4 : Int32) : Option (Unit × Sg) := f_X1_fill_0 σ i0 x1 x2 x3 x4
set_option maxRecDepth 100000 in
set_option maxHeartbeats 4000000 in
theorem c_X1_fill (hst : l.stackTraces = false) (σ : Sg) (i0 : Nat) (x1 : Int32) (x2 : Int32) (x3 : Int32) (x4 : Int32) (hi0 : i0 < nT ∨ i0 = 8) : Ct l yX1_fill (wm yX1_fill cX1_fill 7 none) rmX1_fill 0 0 vV [.ref (ad 2 i0), .int x1, .int x2, .int x3, .int x4] D cy n0 ad nT nO  σ (f_X1_fill σ i0 x1 x2 x3 x4) := by
  intro r0 h0
  refine Met.ofW (cc := cX1_fill) (maxL := 7) (ret := none) (by decide +kernel) rfl ?_
  intro p e s m args below meth c s₁ B hml hv
  obtain ⟨C0, hh, hR, rfl⟩ := ent B hml hst hv
  rw [lg_entry_eq]
  have hl := lv_entry ([.ref (ad 2 i0), .int x1, .int x2, .int x3, .int x4]) (n := 7) (Nat.le_of_ble_eq_true rfl)
  generalize (lg_sl ([.ref (ad 2 i0), .int x1, .int x2, .int x3, .int x4]) ++ List.replicate (7 - (lg_sl ([.ref (ad 2 i0), .int x1, .int x2, .int x3, .int x4])).length) Slot.unset).toArray = ls at hl ⊢
  exact b_X1_fill_0 C0 hR σ i0 x1 x2 x3 x4 hi0 _ _ _ hh hl r0 h0

def rmX1_become : Room := { frames := 1, cells := 0, slots := 0, locals := 60 }
def f_X1_become_0 (σ : Sg) (i0 : Nat) (i1 : Nat) : Option (Unit × Sg) :=
  (if (((σ.1 2 i1 0)).toUInt32 % 65536).toInt32 = (σ.1 2 i1 0) then (if ((sv (sv (sv (sv σ 2 i0 0 (σ.1 2 i1 0)) 2 i0 1 ((sv σ 2 i0 0 (σ.1 2 i1 0)).1 2 i1 1)) 2 i0 2 ((sv (sv σ 2 i0 0 (σ.1 2 i1 0)) 2 i0 1 ((sv σ 2 i0 0 (σ.1 2 i1 0)).1 2 i1 1)).1 2 i1 2)) 2 i0 3 ((sv (sv (sv σ 2 i0 0 (σ.1 2 i1 0)) 2 i0 1 ((sv σ 2 i0 0 (σ.1 2 i1 0)).1 2 i1 1)) 2 i0 2 ((sv (sv σ 2 i0 0 (σ.1 2 i1 0)) 2 i0 1 ((sv σ 2 i0 0 (σ.1 2 i1 0)).1 2 i1 1)).1 2 i1 2)).1 2 i1 3)).1 2 i1 4) = 0 ∨ ((sv (sv (sv (sv σ 2 i0 0 (σ.1 2 i1 0)) 2 i0 1 ((sv σ 2 i0 0 (σ.1 2 i1 0)).1 2 i1 1)) 2 i0 2 ((sv (sv σ 2 i0 0 (σ.1 2 i1 0)) 2 i0 1 ((sv σ 2 i0 0 (σ.1 2 i1 0)).1 2 i1 1)).1 2 i1 2)) 2 i0 3 ((sv (sv (sv σ 2 i0 0 (σ.1 2 i1 0)) 2 i0 1 ((sv σ 2 i0 0 (σ.1 2 i1 0)).1 2 i1 1)) 2 i0 2 ((sv (sv σ 2 i0 0 (σ.1 2 i1 0)) 2 i0 1 ((sv σ 2 i0 0 (σ.1 2 i1 0)).1 2 i1 1)).1 2 i1 2)).1 2 i1 3)).1 2 i1 4) = 1 then (some ((), (sr (sr (sr (sv (sv (sv (sv (sv σ 2 i0 0 (σ.1 2 i1 0)) 2 i0 1 ((sv σ 2 i0 0 (σ.1 2 i1 0)).1 2 i1 1)) 2 i0 2 ((sv (sv σ 2 i0 0 (σ.1 2 i1 0)) 2 i0 1 ((sv σ 2 i0 0 (σ.1 2 i1 0)).1 2 i1 1)).1 2 i1 2)) 2 i0 3 ((sv (sv (sv σ 2 i0 0 (σ.1 2 i1 0)) 2 i0 1 ((sv σ 2 i0 0 (σ.1 2 i1 0)).1 2 i1 1)) 2 i0 2 ((sv (sv σ 2 i0 0 (σ.1 2 i1 0)) 2 i0 1 ((sv σ 2 i0 0 (σ.1 2 i1 0)).1 2 i1 1)).1 2 i1 2)).1 2 i1 3)) 2 i0 4 ((sv (sv (sv (sv σ 2 i0 0 (σ.1 2 i1 0)) 2 i0 1 ((sv σ 2 i0 0 (σ.1 2 i1 0)).1 2 i1 1)) 2 i0 2 ((sv (sv σ 2 i0 0 (σ.1 2 i1 0)) 2 i0 1 ((sv σ 2 i0 0 (σ.1 2 i1 0)).1 2 i1 1)).1 2 i1 2)) 2 i0 3 ((sv (sv (sv σ 2 i0 0 (σ.1 2 i1 0)) 2 i0 1 ((sv σ 2 i0 0 (σ.1 2 i1 0)).1 2 i1 1)) 2 i0 2 ((sv (sv σ 2 i0 0 (σ.1 2 i1 0)) 2 i0 1 ((sv σ 2 i0 0 (σ.1 2 i1 0)).1 2 i1 1)).1 2 i1 2)).1 2 i1 3)).1 2 i1 4)) 3 i0 (va_cpy ((sv (sv (sv (sv (sv σ 2 i0 0 (σ.1 2 i1 0)) 2 i0 1 ((sv σ 2 i0 0 (σ.1 2 i1 0)).1 2 i1 1)) 2 i0 2 ((sv (sv σ 2 i0 0 (σ.1 2 i1 0)) 2 i0 1 ((sv σ 2 i0 0 (σ.1 2 i1 0)).1 2 i1 1)).1 2 i1 2)) 2 i0 3 ((sv (sv (sv σ 2 i0 0 (σ.1 2 i1 0)) 2 i0 1 ((sv σ 2 i0 0 (σ.1 2 i1 0)).1 2 i1 1)) 2 i0 2 ((sv (sv σ 2 i0 0 (σ.1 2 i1 0)) 2 i0 1 ((sv σ 2 i0 0 (σ.1 2 i1 0)).1 2 i1 1)).1 2 i1 2)).1 2 i1 3)) 2 i0 4 ((sv (sv (sv (sv σ 2 i0 0 (σ.1 2 i1 0)) 2 i0 1 ((sv σ 2 i0 0 (σ.1 2 i1 0)).1 2 i1 1)) 2 i0 2 ((sv (sv σ 2 i0 0 (σ.1 2 i1 0)) 2 i0 1 ((sv σ 2 i0 0 (σ.1 2 i1 0)).1 2 i1 1)).1 2 i1 2)) 2 i0 3 ((sv (sv (sv σ 2 i0 0 (σ.1 2 i1 0)) 2 i0 1 ((sv σ 2 i0 0 (σ.1 2 i1 0)).1 2 i1 1)) 2 i0 2 ((sv (sv σ 2 i0 0 (σ.1 2 i1 0)) 2 i0 1 ((sv σ 2 i0 0 (σ.1 2 i1 0)).1 2 i1 1)).1 2 i1 2)).1 2 i1 3)).1 2 i1 4)).1 3 i1) ((sv (sv (sv (sv (sv σ 2 i0 0 (σ.1 2 i1 0)) 2 i0 1 ((sv σ 2 i0 0 (σ.1 2 i1 0)).1 2 i1 1)) 2 i0 2 ((sv (sv σ 2 i0 0 (σ.1 2 i1 0)) 2 i0 1 ((sv σ 2 i0 0 (σ.1 2 i1 0)).1 2 i1 1)).1 2 i1 2)) 2 i0 3 ((sv (sv (sv σ 2 i0 0 (σ.1 2 i1 0)) 2 i0 1 ((sv σ 2 i0 0 (σ.1 2 i1 0)).1 2 i1 1)) 2 i0 2 ((sv (sv σ 2 i0 0 (σ.1 2 i1 0)) 2 i0 1 ((sv σ 2 i0 0 (σ.1 2 i1 0)).1 2 i1 1)).1 2 i1 2)).1 2 i1 3)) 2 i0 4 ((sv (sv (sv (sv σ 2 i0 0 (σ.1 2 i1 0)) 2 i0 1 ((sv σ 2 i0 0 (σ.1 2 i1 0)).1 2 i1 1)) 2 i0 2 ((sv (sv σ 2 i0 0 (σ.1 2 i1 0)) 2 i0 1 ((sv σ 2 i0 0 (σ.1 2 i1 0)).1 2 i1 1)).1 2 i1 2)) 2 i0 3 ((sv (sv (sv σ 2 i0 0 (σ.1 2 i1 0)) 2 i0 1 ((sv σ 2 i0 0 (σ.1 2 i1 0)).1 2 i1 1)) 2 i0 2 ((sv (sv σ 2 i0 0 (σ.1 2 i1 0)) 2 i0 1 ((sv σ 2 i0 0 (σ.1 2 i1 0)).1 2 i1 1)).1 2 i1 2)).1 2 i1 3)).1 2 i1 4)).1 3 i0) 0 0 60)) 4 i0 (va_cpy ((sr (sv (sv (sv (sv (sv σ 2 i0 0 (σ.1 2 i1 0)) 2 i0 1 ((sv σ 2 i0 0 (σ.1 2 i1 0)).1 2 i1 1)) 2 i0 2 ((sv (sv σ 2 i0 0 (σ.1 2 i1 0)) 2 i0 1 ((sv σ 2 i0 0 (σ.1 2 i1 0)).1 2 i1 1)).1 2 i1 2)) 2 i0 3 ((sv (sv (sv σ 2 i0 0 (σ.1 2 i1 0)) 2 i0 1 ((sv σ 2 i0 0 (σ.1 2 i1 0)).1 2 i1 1)) 2 i0 2 ((sv (sv σ 2 i0 0 (σ.1 2 i1 0)) 2 i0 1 ((sv σ 2 i0 0 (σ.1 2 i1 0)).1 2 i1 1)).1 2 i1 2)).1 2 i1 3)) 2 i0 4 ((sv (sv (sv (sv σ 2 i0 0 (σ.1 2 i1 0)) 2 i0 1 ((sv σ 2 i0 0 (σ.1 2 i1 0)).1 2 i1 1)) 2 i0 2 ((sv (sv σ 2 i0 0 (σ.1 2 i1 0)) 2 i0 1 ((sv σ 2 i0 0 (σ.1 2 i1 0)).1 2 i1 1)).1 2 i1 2)) 2 i0 3 ((sv (sv (sv σ 2 i0 0 (σ.1 2 i1 0)) 2 i0 1 ((sv σ 2 i0 0 (σ.1 2 i1 0)).1 2 i1 1)) 2 i0 2 ((sv (sv σ 2 i0 0 (σ.1 2 i1 0)) 2 i0 1 ((sv σ 2 i0 0 (σ.1 2 i1 0)).1 2 i1 1)).1 2 i1 2)).1 2 i1 3)).1 2 i1 4)) 3 i0 (va_cpy ((sv (sv (sv (sv (sv σ 2 i0 0 (σ.1 2 i1 0)) 2 i0 1 ((sv σ 2 i0 0 (σ.1 2 i1 0)).1 2 i1 1)) 2 i0 2 ((sv (sv σ 2 i0 0 (σ.1 2 i1 0)) 2 i0 1 ((sv σ 2 i0 0 (σ.1 2 i1 0)).1 2 i1 1)).1 2 i1 2)) 2 i0 3 ((sv (sv (sv σ 2 i0 0 (σ.1 2 i1 0)) 2 i0 1 ((sv σ 2 i0 0 (σ.1 2 i1 0)).1 2 i1 1)) 2 i0 2 ((sv (sv σ 2 i0 0 (σ.1 2 i1 0)) 2 i0 1 ((sv σ 2 i0 0 (σ.1 2 i1 0)).1 2 i1 1)).1 2 i1 2)).1 2 i1 3)) 2 i0 4 ((sv (sv (sv (sv σ 2 i0 0 (σ.1 2 i1 0)) 2 i0 1 ((sv σ 2 i0 0 (σ.1 2 i1 0)).1 2 i1 1)) 2 i0 2 ((sv (sv σ 2 i0 0 (σ.1 2 i1 0)) 2 i0 1 ((sv σ 2 i0 0 (σ.1 2 i1 0)).1 2 i1 1)).1 2 i1 2)) 2 i0 3 ((sv (sv (sv σ 2 i0 0 (σ.1 2 i1 0)) 2 i0 1 ((sv σ 2 i0 0 (σ.1 2 i1 0)).1 2 i1 1)) 2 i0 2 ((sv (sv σ 2 i0 0 (σ.1 2 i1 0)) 2 i0 1 ((sv σ 2 i0 0 (σ.1 2 i1 0)).1 2 i1 1)).1 2 i1 2)).1 2 i1 3)).1 2 i1 4)).1 3 i1) ((sv (sv (sv (sv (sv σ 2 i0 0 (σ.1 2 i1 0)) 2 i0 1 ((sv σ 2 i0 0 (σ.1 2 i1 0)).1 2 i1 1)) 2 i0 2 ((sv (sv σ 2 i0 0 (σ.1 2 i1 0)) 2 i0 1 ((sv σ 2 i0 0 (σ.1 2 i1 0)).1 2 i1 1)).1 2 i1 2)) 2 i0 3 ((sv (sv (sv σ 2 i0 0 (σ.1 2 i1 0)) 2 i0 1 ((sv σ 2 i0 0 (σ.1 2 i1 0)).1 2 i1 1)) 2 i0 2 ((sv (sv σ 2 i0 0 (σ.1 2 i1 0)) 2 i0 1 ((sv σ 2 i0 0 (σ.1 2 i1 0)).1 2 i1 1)).1 2 i1 2)).1 2 i1 3)) 2 i0 4 ((sv (sv (sv (sv σ 2 i0 0 (σ.1 2 i1 0)) 2 i0 1 ((sv σ 2 i0 0 (σ.1 2 i1 0)).1 2 i1 1)) 2 i0 2 ((sv (sv σ 2 i0 0 (σ.1 2 i1 0)) 2 i0 1 ((sv σ 2 i0 0 (σ.1 2 i1 0)).1 2 i1 1)).1 2 i1 2)) 2 i0 3 ((sv (sv (sv σ 2 i0 0 (σ.1 2 i1 0)) 2 i0 1 ((sv σ 2 i0 0 (σ.1 2 i1 0)).1 2 i1 1)) 2 i0 2 ((sv (sv σ 2 i0 0 (σ.1 2 i1 0)) 2 i0 1 ((sv σ 2 i0 0 (σ.1 2 i1 0)).1 2 i1 1)).1 2 i1 2)).1 2 i1 3)).1 2 i1 4)).1 3 i0) 0 0 60)).1 4 i1) ((sr (sv (sv (sv (sv (sv σ 2 i0 0 (σ.1 2 i1 0)) 2 i0 1 ((sv σ 2 i0 0 (σ.1 2 i1 0)).1 2 i1 1)) 2 i0 2 ((sv (sv σ 2 i0 0 (σ.1 2 i1 0)) 2 i0 1 ((sv σ 2 i0 0 (σ.1 2 i1 0)).1 2 i1 1)).1 2 i1 2)) 2 i0 3 ((sv (sv (sv σ 2 i0 0 (σ.1 2 i1 0)) 2 i0 1 ((sv σ 2 i0 0 (σ.1 2 i1 0)).1 2 i1 1)) 2 i0 2 ((sv (sv σ 2 i0 0 (σ.1 2 i1 0)) 2 i0 1 ((sv σ 2 i0 0 (σ.1 2 i1 0)).1 2 i1 1)).1 2 i1 2)).1 2 i1 3)) 2 i0 4 ((sv (sv (sv (sv σ 2 i0 0 (σ.1 2 i1 0)) 2 i0 1 ((sv σ 2 i0 0 (σ.1 2 i1 0)).1 2 i1 1)) 2 i0 2 ((sv (sv σ 2 i0 0 (σ.1 2 i1 0)) 2 i0 1 ((sv σ 2 i0 0 (σ.1 2 i1 0)).1 2 i1 1)).1 2 i1 2)) 2 i0 3 ((sv (sv (sv σ 2 i0 0 (σ.1 2 i1 0)) 2 i0 1 ((sv σ 2 i0 0 (σ.1 2 i1 0)).1 2 i1 1)) 2 i0 2 ((sv (sv σ 2 i0 0 (σ.1 2 i1 0)) 2 i0 1 ((sv σ 2 i0 0 (σ.1 2 i1 0)).1 2 i1 1)).1 2 i1 2)).1 2 i1 3)).1 2 i1 4)) 3 i0 (va_cpy ((sv (sv (sv (sv (sv σ 2 i0 0 (σ.1 2 i1 0)) 2 i0 1 ((sv σ 2 i0 0 (σ.1 2 i1 0)).1 2 i1 1)) 2 i0 2 ((sv (sv σ 2 i0 0 (σ.1 2 i1 0)) 2 i0 1 ((sv σ 2 i0 0 (σ.1 2 i1 0)).1 2 i1 1)).1 2 i1 2)) 2 i0 3 ((sv (sv (sv σ 2 i0 0 (σ.1 2 i1 0)) 2 i0 1 ((sv σ 2 i0 0 (σ.1 2 i1 0)).1 2 i1 1)) 2 i0 2 ((sv (sv σ 2 i0 0 (σ.1 2 i1 0)) 2 i0 1 ((sv σ 2 i0 0 (σ.1 2 i1 0)).1 2 i1 1)).1 2 i1 2)).1 2 i1 3)) 2 i0 4 ((sv (sv (sv (sv σ 2 i0 0 (σ.1 2 i1 0)) 2 i0 1 ((sv σ 2 i0 0 (σ.1 2 i1 0)).1 2 i1 1)) 2 i0 2 ((sv (sv σ 2 i0 0 (σ.1 2 i1 0)) 2 i0 1 ((sv σ 2 i0 0 (σ.1 2 i1 0)).1 2 i1 1)).1 2 i1 2)) 2 i0 3 ((sv (sv (sv σ 2 i0 0 (σ.1 2 i1 0)) 2 i0 1 ((sv σ 2 i0 0 (σ.1 2 i1 0)).1 2 i1 1)) 2 i0 2 ((sv (sv σ 2 i0 0 (σ.1 2 i1 0)) 2 i0 1 ((sv σ 2 i0 0 (σ.1 2 i1 0)).1 2 i1 1)).1 2 i1 2)).1 2 i1 3)).1 2 i1 4)).1 3 i1) ((sv (sv (sv (sv (sv σ 2 i0 0 (σ.1 2 i1 0)) 2 i0 1 ((sv σ 2 i0 0 (σ.1 2 i1 0)).1 2 i1 1)) 2 i0 2 ((sv (sv σ 2 i0 0 (σ.1 2 i1 0)) 2 i0 1 ((sv σ 2 i0 0 (σ.1 2 i1 0)).1 2 i1 1)).1 2 i1 2)) 2 i0 3 ((sv (sv (sv σ 2 i0 0 (σ.1 2 i1 0)) 2 i0 1 ((sv σ 2 i0 0 (σ.1 2 i1 0)).1 2 i1 1)) 2 i0 2 ((sv (sv σ 2 i0 0 (σ.1 2 i1 0)) 2 i0 1 ((sv σ 2 i0 0 (σ.1 2 i1 0)).1 2 i1 1)).1 2 i1 2)).1 2 i1 3)) 2 i0 4 ((sv (sv (sv (sv σ 2 i0 0 (σ.1 2 i1 0)) 2 i0 1 ((sv σ 2 i0 0 (σ.1 2 i1 0)).1 2 i1 1)) 2 i0 2 ((sv (sv σ 2 i0 0 (σ.1 2 i1 0)) 2 i0 1 ((sv σ 2 i0 0 (σ.1 2 i1 0)).1 2 i1 1)).1 2 i1 2)) 2 i0 3 ((sv (sv (sv σ 2 i0 0 (σ.1 2 i1 0)) 2 i0 1 ((sv σ 2 i0 0 (σ.1 2 i1 0)).1 2 i1 1)) 2 i0 2 ((sv (sv σ 2 i0 0 (σ.1 2 i1 0)) 2 i0 1 ((sv σ 2 i0 0 (σ.1 2 i1 0)).1 2 i1 1)).1 2 i1 2)).1 2 i1 3)).1 2 i1 4)).1 3 i0) 0 0 60)).1 4 i0) 0 0 60)) 5 i0 (va_cpy ((sr (sr (sv (sv (sv (sv (sv σ 2 i0 0 (σ.1 2 i1 0)) 2 i0 1 ((sv σ 2 i0 0 (σ.1 2 i1 0)).1 2 i1 1)) 2 i0 2 ((sv (sv σ 2 i0 0 (σ.1 2 i1 0)) 2 i0 1 ((sv σ 2 i0 0 (σ.1 2 i1 0)).1 2 i1 1)).1 2 i1 2)) 2 i0 3 ((sv (sv (sv σ 2 i0 0 (σ.1 2 i1 0)) 2 i0 1 ((sv σ 2 i0 0 (σ.1 2 i1 0)).1 2 i1 1)) 2 i0 2 ((sv (sv σ 2 i0 0 (σ.1 2 i1 0)) 2 i0 1 ((sv σ 2 i0 0 (σ.1 2 i1 0)).1 2 i1 1)).1 2 i1 2)).1 2 i1 3)) 2 i0 4 ((sv (sv (sv (sv σ 2 i0 0 (σ.1 2 i1 0)) 2 i0 1 ((sv σ 2 i0 0 (σ.1 2 i1 0)).1 2 i1 1)) 2 i0 2 ((sv (sv σ 2 i0 0 (σ.1 2 i1 0)) 2 i0 1 ((sv σ 2 i0 0 (σ.1 2 i1 0)).1 2 i1 1)).1 2 i1 2)) 2 i0 3 ((sv (sv (sv σ 2 i0 0 (σ.1 2 i1 0)) 2 i0 1 ((sv σ 2 i0 0 (σ.1 2 i1 0)).1 2 i1 1)) 2 i0 2 ((sv (sv σ 2 i0 0 (σ.1 2 i1 0)) 2 i0 1 ((sv σ 2 i0 0 (σ.1 2 i1 0)).1 2 i1 1)).1 2 i1 2)).1 2 i1 3)).1 2 i1 4)) 3 i0 (va_cpy ((sv (sv (sv (sv (sv σ 2 i0 0 (σ.1 2 i1 0)) 2 i0 1 ((sv σ 2 i0 0 (σ.1 2 i1 0)).1 2 i1 1)) 2 i0 2 ((sv (sv σ 2 i0 0 (σ.1 2 i1 0)) 2 i0 1 ((sv σ 2 i0 0 (σ.1 2 i1 0)).1 2 i1 1)).1 2 i1 2)) 2 i0 3 ((sv (sv (sv σ 2 i0 0 (σ.1 2 i1 0)) 2 i0 1 ((sv σ 2 i0 0 (σ.1 2 i1 0)).1 2 i1 1)) 2 i0 2 ((sv (sv σ 2 i0 0 (σ.1 2 i1 0)) 2 i0 1 ((sv σ 2 i0 0 (σ.1 2 i1 0)).1 2 i1 1)).1 2 i1 2)).1 2 i1 3)) 2 i0 4 ((sv (sv (sv (sv σ 2 i0 0 (σ.1 2 i1 0)) 2 i0 1 ((sv σ 2 i0 0 (σ.1 2 i1 0)).1 2 i1 1)) 2 i0 2 ((sv (sv σ 2 i0 0 (σ.1 2 i1 0)) 2 i0 1 ((sv σ 2 i0 0 (σ.1 2 i1 0)).1 2 i1 1)).1 2 i1 2)) 2 i0 3 ((sv (sv (sv σ 2 i0 0 (σ.1 2 i1 0)) 2 i0 1 ((sv σ 2 i0 0 (σ.1 2 i1 0)).1 2 i1 1)) 2 i0 2 ((sv (sv σ 2 i0 0 (σ.1 2 i1 0)) 2 i0 1 ((sv σ 2 i0 0 (σ.1 2 i1 0)).1 2 i1 1)).1 2 i1 2)).1 2 i1 3)).1 2 i1 4)).1 3 i1) ((sv (sv (sv (sv (sv σ 2 i0 0 (σ.1 2 i1 0)) 2 i0 1 ((sv σ 2 i0 0 (σ.1 2 i1 0)).1 2 i1 1)) 2 i0 2 ((sv (sv σ 2 i0 0 (σ.1 2 i1 0)) 2 i0 1 ((sv σ 2 i0 0 (σ.1 2 i1 0)).1 2 i1 1)).1 2 i1 2)) 2 i0 3 ((sv (sv (sv σ 2 i0 0 (σ.1 2 i1 0)) 2 i0 1 ((sv σ 2 i0 0 (σ.1 2 i1 0)).1 2 i1 1)) 2 i0 2 ((sv (sv σ 2 i0 0 (σ.1 2 i1 0)) 2 i0 1 ((sv σ 2 i0 0 (σ.1 2 i1 0)).1 2 i1 1)).1 2 i1 2)).1 2 i1 3)) 2 i0 4 ((sv (sv (sv (sv σ 2 i0 0 (σ.1 2 i1 0)) 2 i0 1 ((sv σ 2 i0 0 (σ.1 2 i1 0)).1 2 i1 1)) 2 i0 2 ((sv (sv σ 2 i0 0 (σ.1 2 i1 0)) 2 i0 1 ((sv σ 2 i0 0 (σ.1 2 i1 0)).1 2 i1 1)).1 2 i1 2)) 2 i0 3 ((sv (sv (sv σ 2 i0 0 (σ.1 2 i1 0)) 2 i0 1 ((sv σ 2 i0 0 (σ.1 2 i1 0)).1 2 i1 1)) 2 i0 2 ((sv (sv σ 2 i0 0 (σ.1 2 i1 0)) 2 i0 1 ((sv σ 2 i0 0 (σ.1 2 i1 0)).1 2 i1 1)).1 2 i1 2)).1 2 i1 3)).1 2 i1 4)).1 3 i0) 0 0 60)) 4 i0 (va_cpy ((sr (sv (sv (sv (sv (sv σ 2 i0 0 (σ.1 2 i1 0)) 2 i0 1 ((sv σ 2 i0 0 (σ.1 2 i1 0)).1 2 i1 1)) 2 i0 2 ((sv (sv σ 2 i0 0 (σ.1 2 i1 0)) 2 i0 1 ((sv σ 2 i0 0 (σ.1 2 i1 0)).1 2 i1 1)).1 2 i1 2)) 2 i0 3 ((sv (sv (sv σ 2 i0 0 (σ.1 2 i1 0)) 2 i0 1 ((sv σ 2 i0 0 (σ.1 2 i1 0)).1 2 i1 1)) 2 i0 2 ((sv (sv σ 2 i0 0 (σ.1 2 i1 0)) 2 i0 1 ((sv σ 2 i0 0 (σ.1 2 i1 0)).1 2 i1 1)).1 2 i1 2)).1 2 i1 3)) 2 i0 4 ((sv (sv (sv (sv σ 2 i0 0 (σ.1 2 i1 0)) 2 i0 1 ((sv σ 2 i0 0 (σ.1 2 i1 0)).1 2 i1 1)) 2 i0 2 ((sv (sv σ 2 i0 0 (σ.1 2 i1 0)) 2 i0 1 ((sv σ 2 i0 0 (σ.1 2 i1 0)).1 2 i1 1)).1 2 i1 2)) 2 i0 3 ((sv (sv (sv σ 2 i0 0 (σ.1 2 i1 0)) 2 i0 1 ((sv σ 2 i0 0 (σ.1 2 i1 0)).1 2 i1 1)) 2 i0 2 ((sv (sv σ 2 i0 0 (σ.1 2 i1 0)) 2 i0 1 ((sv σ 2 i0 0 (σ.1 2 i1 0)).1 2 i1 1)).1 2 i1 2)).1 2 i1 3)).1 2 i1 4)) 3 i0 (va_cpy ((sv (sv (sv (sv (sv σ 2 i0 0 (σ.1 2 i1 0)) 2 i0 1 ((sv σ 2 i0 0 (σ.1 2 i1 0)).1 2 i1 1)) 2 i0 2 ((sv (sv σ 2 i0 0 (σ.1 2 i1 0)) 2 i0 1 ((sv σ 2 i0 0 (σ.1 2 i1 0)).1 2 i1 1)).1 2 i1 2)) 2 i0 3 ((sv (sv (sv σ 2 i0 0 (σ.1 2 i1 0)) 2 i0 1 ((sv σ 2 i0 0 (σ.1 2 i1 0)).1 2 i1 1)) 2 i0 2 ((sv (sv σ 2 i0 0 (σ.1 2 i1 0)) 2 i0 1 ((sv σ 2 i0 0 (σ.1 2 i1 0)).1 2 i1 1)).1 2 i1 2)).1 2 i1 3)) 2 i0 4 ((sv (sv (sv (sv σ 2 i0 0 (σ.1 2 i1 0)) 2 i0 1 ((sv σ 2 i0 0 (σ.1 2 i1 0)).1 2 i1 1)) 2 i0 2 ((sv (sv σ 2 i0 0 (σ.1 2 i1 0)) 2 i0 1 ((sv σ 2 i0 0 (σ.1 2 i1 0)).1 2 i1 1)).1 2 i1 2)) 2 i0 3 ((sv (sv (sv σ 2 i0 0 (σ.1 2 i1 0)) 2 i0 1 ((sv σ 2 i0 0 (σ.1 2 i1 0)).1 2 i1 1)) 2 i0 2 ((sv (sv σ 2 i0 0 (σ.1 2 i1 0)) 2 i0 1 ((sv σ 2 i0 0 (σ.1 2 i1 0)).1 2 i1 1)).1 2 i1 2)).1 2 i1 3)).1 2 i1 4)).1 3 i1) ((sv (sv (sv (sv (sv σ 2 i0 0 (σ.1 2 i1 0)) 2 i0 1 ((sv σ 2 i0 0 (σ.1 2 i1 0)).1 2 i1 1)) 2 i0 2 ((sv (sv σ 2 i0 0 (σ.1 2 i1 0)) 2 i0 1 ((sv σ 2 i0 0 (σ.1 2 i1 0)).1 2 i1 1)).1 2 i1 2)) 2 i0 3 ((sv (sv (sv σ 2 i0 0 (σ.1 2 i1 0)) 2 i0 1 ((sv σ 2 i0 0 (σ.1 2 i1 0)).1 2 i1 1)) 2 i0 2 ((sv (sv σ 2 i0 0 (σ.1 2 i1 0)) 2 i0 1 ((sv σ 2 i0 0 (σ.1 2 i1 0)).1 2 i1 1)).1 2 i1 2)).1 2 i1 3)) 2 i0 4 ((sv (sv (sv (sv σ 2 i0 0 (σ.1 2 i1 0)) 2 i0 1 ((sv σ 2 i0 0 (σ.1 2 i1 0)).1 2 i1 1)) 2 i0 2 ((sv (sv σ 2 i0 0 (σ.1 2 i1 0)) 2 i0 1 ((sv σ 2 i0 0 (σ.1 2 i1 0)).1 2 i1 1)).1 2 i1 2)) 2 i0 3 ((sv (sv (sv σ 2 i0 0 (σ.1 2 i1 0)) 2 i0 1 ((sv σ 2 i0 0 (σ.1 2 i1 0)).1 2 i1 1)) 2 i0 2 ((sv (sv σ 2 i0 0 (σ.1 2 i1 0)) 2 i0 1 ((sv σ 2 i0 0 (σ.1 2 i1 0)).1 2 i1 1)).1 2 i1 2)).1 2 i1 3)).1 2 i1 4)).1 3 i0) 0 0 60)).1 4 i1) ((sr (sv (sv (sv (sv (sv σ 2 i0 0 (σ.1 2 i1 0)) 2 i0 1 ((sv σ 2 i0 0 (σ.1 2 i1 0)).1 2 i1 1)) 2 i0 2 ((sv (sv σ 2 i0 0 (σ.1 2 i1 0)) 2 i0 1 ((sv σ 2 i0 0 (σ.1 2 i1 0)).1 2 i1 1)).1 2 i1 2)) 2 i0 3 ((sv (sv (sv σ 2 i0 0 (σ.1 2 i1 0)) 2 i0 1 ((sv σ 2 i0 0 (σ.1 2 i1 0)).1 2 i1 1)) 2 i0 2 ((sv (sv σ 2 i0 0 (σ.1 2 i1 0)) 2 i0 1 ((sv σ 2 i0 0 (σ.1 2 i1 0)).1 2 i1 1)).1 2 i1 2)).1 2 i1 3)) 2 i0 4 ((sv (sv (sv (sv σ 2 i0 0 (σ.1 2 i1 0)) 2 i0 1 ((sv σ 2 i0 0 (σ.1 2 i1 0)).1 2 i1 1)) 2 i0 2 ((sv (sv σ 2 i0 0 (σ.1 2 i1 0)) 2 i0 1 ((sv σ 2 i0 0 (σ.1 2 i1 0)).1 2 i1 1)).1 2 i1 2)) 2 i0 3 ((sv (sv (sv σ 2 i0 0 (σ.1 2 i1 0)) 2 i0 1 ((sv σ 2 i0 0 (σ.1 2 i1 0)).1 2 i1 1)) 2 i0 2 ((sv (sv σ 2 i0 0 (σ.1 2 i1 0)) 2 i0 1 ((sv σ 2 i0 0 (σ.1 2 i1 0)).1 2 i1 1)).1 2 i1 2)).1 2 i1 3)).1 2 i1 4)) 3 i0 (va_cpy ((sv (sv (sv (sv (sv σ 2 i0 0 (σ.1 2 i1 0)) 2 i0 1 ((sv σ 2 i0 0 (σ.1 2 i1 0)).1 2 i1 1)) 2 i0 2 ((sv (sv σ 2 i0 0 (σ.1 2 i1 0)) 2 i0 1 ((sv σ 2 i0 0 (σ.1 2 i1 0)).1 2 i1 1)).1 2 i1 2)) 2 i0 3 ((sv (sv (sv σ 2 i0 0 (σ.1 2 i1 0)) 2 i0 1 ((sv σ 2 i0 0 (σ.1 2 i1 0)).1 2 i1 1)) 2 i0 2 ((sv (sv σ 2 i0 0 (σ.1 2 i1 0)) 2 i0 1 ((sv σ 2 i0 0 (σ.1 2 i1 0)).1 2 i1 1)).1 2 i1 2)).1 2 i1 3)) 2 i0 4 ((sv (sv (sv (sv σ 2 i0 0 (σ.1 2 i1 0)) 2 i0 1 ((sv σ 2 i0 0 (σ.1 2 i1 0)).1 2 i1 1)) 2 i0 2 ((sv (sv σ 2 i0 0 (σ.1 2 i1 0)) 2 i0 1 ((sv σ 2 i0 0 (σ.1 2 i1 0)).1 2 i1 1)).1 2 i1 2)) 2 i0 3 ((sv (sv (sv σ 2 i0 0 (σ.1 2 i1 0)) 2 i0 1 ((sv σ 2 i0 0 (σ.1 2 i1 0)).1 2 i1 1)) 2 i0 2 ((sv (sv σ 2 i0 0 (σ.1 2 i1 0)) 2 i0 1 ((sv σ 2 i0 0 (σ.1 2 i1 0)).1 2 i1 1)).1 2 i1 2)).1 2 i1 3)).1 2 i1 4)).1 3 i1) ((sv (sv (sv (sv (sv σ 2 i0 0 (σ.1 2 i1 0)) 2 i0 1 ((sv σ 2 i0 0 (σ.1 2 i1 0)).1 2 i1 1)) 2 i0 2 ((sv (sv σ 2 i0 0 (σ.1 2 i1 0)) 2 i0 1 ((sv σ 2 i0 0 (σ.1 2 i1 0)).1 2 i1 1)).1 2 i1 2)) 2 i0 3 ((sv (sv (sv σ 2 i0 0 (σ.1 2 i1 0)) 2 i0 1 ((sv σ 2 i0 0 (σ.1 2 i1 0)).1 2 i1 1)) 2 i0 2 ((sv (sv σ 2 i0 0 (σ.1 2 i1 0)) 2 i0 1 ((sv σ 2 i0 0 (σ.1 2 i1 0)).1 2 i1 1)).1 2 i1 2)).1 2 i1 3)) 2 i0 4 ((sv (sv (sv (sv σ 2 i0 0 (σ.1 2 i1 0)) 2 i0 1 ((sv σ 2 i0 0 (σ.1 2 i1 0)).1 2 i1 1)) 2 i0 2 ((sv (sv σ 2 i0 0 (σ.1 2 i1 0)) 2 i0 1 ((sv σ 2 i0 0 (σ.1 2 i1 0)).1 2 i1 1)).1 2 i1 2)) 2 i0 3 ((sv (sv (sv σ 2 i0 0 (σ.1 2 i1 0)) 2 i0 1 ((sv σ 2 i0 0 (σ.1 2 i1 0)).1 2 i1 1)) 2 i0 2 ((sv (sv σ 2 i0 0 (σ.1 2 i1 0)) 2 i0 1 ((sv σ 2 i0 0 (σ.1 2 i1 0)).1 2 i1 1)).1 2 i1 2)).1 2 i1 3)).1 2 i1 4)).1 3 i0) 0 0 60)).1 4 i0) 0 0 60)).1 5 i1) ((sr (sr (sv (sv (sv (sv (sv σ 2 i0 0 (σ.1 2 i1 0)) 2 i0 1 ((sv σ 2 i0 0 (σ.1 2 i1 0)).1 2 i1 1)) 2 i0 2 ((sv (sv σ 2 i0 0 (σ.1 2 i1 0)) 2 i0 1 ((sv σ 2 i0 0 (σ.1 2 i1 0)).1 2 i1 1)).1 2 i1 2)) 2 i0 3 ((sv (sv (sv σ 2 i0 0 (σ.1 2 i1 0)) 2 i0 1 ((sv σ 2 i0 0 (σ.1 2 i1 0)).1 2 i1 1)) 2 i0 2 ((sv (sv σ 2 i0 0 (σ.1 2 i1 0)) 2 i0 1 ((sv σ 2 i0 0 (σ.1 2 i1 0)).1 2 i1 1)).1 2 i1 2)).1 2 i1 3)) 2 i0 4 ((sv (sv (sv (sv σ 2 i0 0 (σ.1 2 i1 0)) 2 i0 1 ((sv σ 2 i0 0 (σ.1 2 i1 0)).1 2 i1 1)) 2 i0 2 ((sv (sv σ 2 i0 0 (σ.1 2 i1 0)) 2 i0 1 ((sv σ 2 i0 0 (σ.1 2 i1 0)).1 2 i1 1)).1 2 i1 2)) 2 i0 3 ((sv (sv (sv σ 2 i0 0 (σ.1 2 i1 0)) 2 i0 1 ((sv σ 2 i0 0 (σ.1 2 i1 0)).1 2 i1 1)) 2 i0 2 ((sv (sv σ 2 i0 0 (σ.1 2 i1 0)) 2 i0 1 ((sv σ 2 i0 0 (σ.1 2 i1 0)).1 2 i1 1)).1 2 i1 2)).1 2 i1 3)).1 2 i1 4)) 3 i0 (va_cpy ((sv (sv (sv (sv (sv σ 2 i0 0 (σ.1 2 i1 0)) 2 i0 1 ((sv σ 2 i0 0 (σ.1 2 i1 0)).1 2 i1 1)) 2 i0 2 ((sv (sv σ 2 i0 0 (σ.1 2 i1 0)) 2 i0 1 ((sv σ 2 i0 0 (σ.1 2 i1 0)).1 2 i1 1)).1 2 i1 2)) 2 i0 3 ((sv (sv (sv σ 2 i0 0 (σ.1 2 i1 0)) 2 i0 1 ((sv σ 2 i0 0 (σ.1 2 i1 0)).1 2 i1 1)) 2 i0 2 ((sv (sv σ 2 i0 0 (σ.1 2 i1 0)) 2 i0 1 ((sv σ 2 i0 0 (σ.1 2 i1 0)).1 2 i1 1)).1 2 i1 2)).1 2 i1 3)) 2 i0 4 ((sv (sv (sv (sv σ 2 i0 0 (σ.1 2 i1 0)) 2 i0 1 ((sv σ 2 i0 0 (σ.1 2 i1 0)).1 2 i1 1)) 2 i0 2 ((sv (sv σ 2 i0 0 (σ.1 2 i1 0)) 2 i0 1 ((sv σ 2 i0 0 (σ.1 2 i1 0)).1 2 i1 1)).1 2 i1 2)) 2 i0 3 ((sv (sv (sv σ 2 i0 0 (σ.1 2 i1 0)) 2 i0 1 ((sv σ 2 i0 0 (σ.1 2 i1 0)).1 2 i1 1)) 2 i0 2 ((sv (sv σ 2 i0 0 (σ.1 2 i1 0)) 2 i0 1 ((sv σ 2 i0 0 (σ.1 2 i1 0)).1 2 i1 1)).1 2 i1 2)).1 2 i1 3)).1 2 i1 4)).1 3 i1) ((sv (sv (sv (sv (sv σ 2 i0 0 (σ.1 2 i1 0)) 2 i0 1 ((sv σ 2 i0 0 (σ.1 2 i1 0)).1 2 i1 1)) 2 i0 2 ((sv (sv σ 2 i0 0 (σ.1 2 i1 0)) 2 i0 1 ((sv σ 2 i0 0 (σ.1 2 i1 0)).1 2 i1 1)).1 2 i1 2)) 2 i0 3 ((sv (sv (sv σ 2 i0 0 (σ.1 2 i1 0)) 2 i0 1 ((sv σ 2 i0 0 (σ.1 2 i1 0)).1 2 i1 1)) 2 i0 2 ((sv (sv σ 2 i0 0 (σ.1 2 i1 0)) 2 i0 1 ((sv σ 2 i0 0 (σ.1 2 i1 0)).1 2 i1 1)).1 2 i1 2)).1 2 i1 3)) 2 i0 4 ((sv (sv (sv (sv σ 2 i0 0 (σ.1 2 i1 0)) 2 i0 1 ((sv σ 2 i0 0 (σ.1 2 i1 0)).1 2 i1 1)) 2 i0 2 ((sv (sv σ 2 i0 0 (σ.1 2 i1 0)) 2 i0 1 ((sv σ 2 i0 0 (σ.1 2 i1 0)).1 2 i1 1)).1 2 i1 2)) 2 i0 3 ((sv (sv (sv σ 2 i0 0 (σ.1 2 i1 0)) 2 i0 1 ((sv σ 2 i0 0 (σ.1 2 i1 0)).1 2 i1 1)) 2 i0 2 ((sv (sv σ 2 i0 0 (σ.1 2 i1 0)) 2 i0 1 ((sv σ 2 i0 0 (σ.1 2 i1 0)).1 2 i1 1)).1 2 i1 2)).1 2 i1 3)).1 2 i1 4)).1 3 i0) 0 0 60)) 4 i0 (va_cpy ((sr (sv (sv (sv (sv (sv σ 2 i0 0 (σ.1 2 i1 0)) 2 i0 1 ((sv σ 2 i0 0 (σ.1 2 i1 0)).1 2 i1 1)) 2 i0 2 ((sv (sv σ 2 i0 0 (σ.1 2 i1 0)) 2 i0 1 ((sv σ 2 i0 0 (σ.1 2 i1 0)).1 2 i1 1)).1 2 i1 2)) 2 i0 3 ((sv (sv (sv σ 2 i0 0 (σ.1 2 i1 0)) 2 i0 1 ((sv σ 2 i0 0 (σ.1 2 i1 0)).1 2 i1 1)) 2 i0 2 ((sv (sv σ 2 i0 0 (σ.1 2 i1 0)) 2 i0 1 ((sv σ 2 i0 0 (σ.1 2 i1 0)).1 2 i1 1)).1 2 i1 2)).1 2 i1 3)) 2 i0 4 ((sv (sv (sv (sv σ 2 i0 0 (σ.1 2 i1 0)) 2 i0 1 ((sv σ 2 i0 0 (σ.1 2 i1 0)).1 2 i1 1)) 2 i0 2 ((sv (sv σ 2 i0 0 (σ.1 2 i1 0)) 2 i0 1 ((sv σ 2 i0 0 (σ.1 2 i1 0)).1 2 i1 1)).1 2 i1 2)) 2 i0 3 ((sv (sv (sv σ 2 i0 0 (σ.1 2 i1 0)) 2 i0 1 ((sv σ 2 i0 0 (σ.1 2 i1 0)).1 2 i1 1)) 2 i0 2 ((sv (sv σ 2 i0 0 (σ.1 2 i1 0)) 2 i0 1 ((sv σ 2 i0 0 (σ.1 2 i1 0)).1 2 i1 1)).1 2 i1 2)).1 2 i1 3)).1 2 i1 4)) 3 i0 (va_cpy ((sv (sv (sv (sv (sv σ 2 i0 0 (σ.1 2 i1 0)) 2 i0 1 ((sv σ 2 i0 0 (σ.1 2 i1 0)).1 2 i1 1)) 2 i0 2 ((sv (sv σ 2 i0 0 (σ.1 2 i1 0)) 2 i0 1 ((sv σ 2 i0 0 (σ.1 2 i1 0)).1 2 i1 1)).1 2 i1 2)) 2 i0 3 ((sv (sv (sv σ 2 i0 0 (σ.1 2 i1 0)) 2 i0 1 ((sv σ 2 i0 0 (σ.1 2 i1 0)).1 2 i1 1)) 2 i0 2 ((sv (sv σ 2 i0 0 (σ.1 2 i1 0)) 2 i0 1 ((sv σ 2 i0 0 (σ.1 2 i1 0)).1 2 i1 1)).1 2 i1 2)).1 2 i1 3)) 2 i0 4 ((sv (sv (sv (sv σ 2 i0 0 (σ.1 2 i1 0)) 2 i0 1 ((sv σ 2 i0 0 (σ.1 2 i1 0)).1 2 i1 1)) 2 i0 2 ((sv (sv σ 2 i0 0 (σ.1 2 i1 0)) 2 i0 1 ((sv σ 2 i0 0 (σ.1 2 i1 0)).1 2 i1 1)).1 2 i1 2)) 2 i0 3 ((sv (sv (sv σ 2 i0 0 (σ.1 2 i1 0)) 2 i0 1 ((sv σ 2 i0 0 (σ.1 2 i1 0)).1 2 i1 1)) 2 i0 2 ((sv (sv σ 2 i0 0 (σ.1 2 i1 0)) 2 i0 1 ((sv σ 2 i0 0 (σ.1 2 i1 0)).1 2 i1 1)).1 2 i1 2)).1 2 i1 3)).1 2 i1 4)).1 3 i1) ((sv (sv (sv (sv (sv σ 2 i0 0 (σ.1 2 i1 0)) 2 i0 1 ((sv σ 2 i0 0 (σ.1 2 i1 0)).1 2 i1 1)) 2 i0 2 ((sv (sv σ 2 i0 0 (σ.1 2 i1 0)) 2 i0 1 ((sv σ 2 i0 0 (σ.1 2 i1 0)).1 2 i1 1)).1 2 i1 2)) 2 i0 3 ((sv (sv (sv σ 2 i0 0 (σ.1 2 i1 0)) 2 i0 1 ((sv σ 2 i0 0 (σ.1 2 i1 0)).1 2 i1 1)) 2 i0 2 ((sv (sv σ 2 i0 0 (σ.1 2 i1 0)) 2 i0 1 ((sv σ 2 i0 0 (σ.1 2 i1 0)).1 2 i1 1)).1 2 i1 2)).1 2 i1 3)) 2 i0 4 ((sv (sv (sv (sv σ 2 i0 0 (σ.1 2 i1 0)) 2 i0 1 ((sv σ 2 i0 0 (σ.1 2 i1 0)).1 2 i1 1)) 2 i0 2 ((sv (sv σ 2 i0 0 (σ.1 2 i1 0)) 2 i0 1 ((sv σ 2 i0 0 (σ.1 2 i1 0)).1 2 i1 1)).1 2 i1 2)) 2 i0 3 ((sv (sv (sv σ 2 i0 0 (σ.1 2 i1 0)) 2 i0 1 ((sv σ 2 i0 0 (σ.1 2 i1 0)).1 2 i1 1)) 2 i0 2 ((sv (sv σ 2 i0 0 (σ.1 2 i1 0)) 2 i0 1 ((sv σ 2 i0 0 (σ.1 2 i1 0)).1 2 i1 1)).1 2 i1 2)).1 2 i1 3)).1 2 i1 4)).1 3 i0) 0 0 60)).1 4 i1) ((sr (sv (sv (sv (sv (sv σ 2 i0 0 (σ.1 2 i1 0)) 2 i0 1 ((sv σ 2 i0 0 (σ.1 2 i1 0)).1 2 i1 1)) 2 i0 2 ((sv (sv σ 2 i0 0 (σ.1 2 i1 0)) 2 i0 1 ((sv σ 2 i0 0 (σ.1 2 i1 0)).1 2 i1 1)).1 2 i1 2)) 2 i0 3 ((sv (sv (sv σ 2 i0 0 (σ.1 2 i1 0)) 2 i0 1 ((sv σ 2 i0 0 (σ.1 2 i1 0)).1 2 i1 1)) 2 i0 2 ((sv (sv σ 2 i0 0 (σ.1 2 i1 0)) 2 i0 1 ((sv σ 2 i0 0 (σ.1 2 i1 0)).1 2 i1 1)).1 2 i1 2)).1 2 i1 3)) 2 i0 4 ((sv (sv (sv (sv σ 2 i0 0 (σ.1 2 i1 0)) 2 i0 1 ((sv σ 2 i0 0 (σ.1 2 i1 0)).1 2 i1 1)) 2 i0 2 ((sv (sv σ 2 i0 0 (σ.1 2 i1 0)) 2 i0 1 ((sv σ 2 i0 0 (σ.1 2 i1 0)).1 2 i1 1)).1 2 i1 2)) 2 i0 3 ((sv (sv (sv σ 2 i0 0 (σ.1 2 i1 0)) 2 i0 1 ((sv σ 2 i0 0 (σ.1 2 i1 0)).1 2 i1 1)) 2 i0 2 ((sv (sv σ 2 i0 0 (σ.1 2 i1 0)) 2 i0 1 ((sv σ 2 i0 0 (σ.1 2 i1 0)).1 2 i1 1)).1 2 i1 2)).1 2 i1 3)).1 2 i1 4)) 3 i0 (va_cpy ((sv (sv (sv (sv (sv σ 2 i0 0 (σ.1 2 i1 0)) 2 i0 1 ((sv σ 2 i0 0 (σ.1 2 i1 0)).1 2 i1 1)) 2 i0 2 ((sv (sv σ 2 i0 0 (σ.1 2 i1 0)) 2 i0 1 ((sv σ 2 i0 0 (σ.1 2 i1 0)).1 2 i1 1)).1 2 i1 2)) 2 i0 3 ((sv (sv (sv σ 2 i0 0 (σ.1 2 i1 0)) 2 i0 1 ((sv σ 2 i0 0 (σ.1 2 i1 0)).1 2 i1 1)) 2 i0 2 ((sv (sv σ 2 i0 0 (σ.1 2 i1 0)) 2 i0 1 ((sv σ 2 i0 0 (σ.1 2 i1 0)).1 2 i1 1)).1 2 i1 2)).1 2 i1 3)) 2 i0 4 ((sv (sv (sv (sv σ 2 i0 0 (σ.1 2 i1 0)) 2 i0 1 ((sv σ 2 i0 0 (σ.1 2 i1 0)).1 2 i1 1)) 2 i0 2 ((sv (sv σ 2 i0 0 (σ.1 2 i1 0)) 2 i0 1 ((sv σ 2 i0 0 (σ.1 2 i1 0)).1 2 i1 1)).1 2 i1 2)) 2 i0 3 ((sv (sv (sv σ 2 i0 0 (σ.1 2 i1 0)) 2 i0 1 ((sv σ 2 i0 0 (σ.1 2 i1 0)).1 2 i1 1)) 2 i0 2 ((sv (sv σ 2 i0 0 (σ.1 2 i1 0)) 2 i0 1 ((sv σ 2 i0 0 (σ.1 2 i1 0)).1 2 i1 1)).1 2 i1 2)).1 2 i1 3)).1 2 i1 4)).1 3 i1) ((sv (sv (sv (sv (sv σ 2 i0 0 (σ.1 2 i1 0)) 2 i0 1 ((sv σ 2 i0 0 (σ.1 2 i1 0)).1 2 i1 1)) 2 i0 2 ((sv (sv σ 2 i0 0 (σ.1 2 i1 0)) 2 i0 1 ((sv σ 2 i0 0 (σ.1 2 i1 0)).1 2 i1 1)).1 2 i1 2)) 2 i0 3 ((sv (sv (sv σ 2 i0 0 (σ.1 2 i1 0)) 2 i0 1 ((sv σ 2 i0 0 (σ.1 2 i1 0)).1 2 i1 1)) 2 i0 2 ((sv (sv σ 2 i0 0 (σ.1 2 i1 0)) 2 i0 1 ((sv σ 2 i0 0 (σ.1 2 i1 0)).1 2 i1 1)).1 2 i1 2)).1 2 i1 3)) 2 i0 4 ((sv (sv (sv (sv σ 2 i0 0 (σ.1 2 i1 0)) 2 i0 1 ((sv σ 2 i0 0 (σ.1 2 i1 0)).1 2 i1 1)) 2 i0 2 ((sv (sv σ 2 i0 0 (σ.1 2 i1 0)) 2 i0 1 ((sv σ 2 i0 0 (σ.1 2 i1 0)).1 2 i1 1)).1 2 i1 2)) 2 i0 3 ((sv (sv (sv σ 2 i0 0 (σ.1 2 i1 0)) 2 i0 1 ((sv σ 2 i0 0 (σ.1 2 i1 0)).1 2 i1 1)) 2 i0 2 ((sv (sv σ 2 i0 0 (σ.1 2 i1 0)) 2 i0 1 ((sv σ 2 i0 0 (σ.1 2 i1 0)).1 2 i1 1)).1 2 i1 2)).1 2 i1 3)).1 2 i1 4)).1 3 i0) 0 0 60)).1 4 i0) 0 0 60)).1 5 i0) 0 0 60)))) else none) else none)
set_option maxRecDepth 100000 in
set_option maxHeartbeats 4000000 in
theorem b_X1_become_0 (C0 : Cx p l s m args meth c cX1_become 2 RX1 D cy n0) (hR : meth.sig.returnType = none) (σ : Sg) (i0 : Nat) (i1 : Nat) (hi0 : i0 < nT ∨ i0 = 8) (hi1 : i1 < nT ∨ i1 = 8) (H : Heap) (locs : List Loc) (ls : Array Slot) (hh : Hp D cy n0 ad nT nO s σ H locs) (hl : lv_has ls 2 [(0, .ref (ad 2 i0)), (1, .ref (ad 2 i1))]) : Sm (Qr below args s D cy n0 ad nT nO vV 0 0) (f_X1_become_0 σ i0 i1) p l e rmX1_become s m args below meth c H locs 0 0 (F0 m 0 ls []) := by
  unfold f_X1_become_0
  refine s_aload_n C0 dX1_become_0 rfl (lv_at hl 0 rfl) ?_
  refine s_aload_n C0 dX1_become_1 rfl (lv_at hl 1 rfl) ?_
  refine s_get (v := .int (σ.1 2 i1 0)) C0 hh (rl_2 hi1) rfl (T := TX1) (N := 8) rfl hinX1 (by decide) w61 rfl dX1_become_2 ?_
  refine s_gd (fun hg1 => ?_)
  refine s_put C0 hh (rl_2 hi0) rfl rfl (T := TX1) (N := 8) rfl hinX1 tyX1 tyX1_ok nmX1 (by decide) w61 rfl (ty := .char) (by decide +kernel) (nc_of hg1) (fc_of hg1) (Nat.le_of_ble_eq_true rfl) (by decide) (by decide) (by decide) dX1_become_5 (fun H locs hh => ?_)
  refine s_aload_n C0 dX1_become_8 rfl (lv_at hl 0 rfl) ?_
  refine s_aload_n C0 dX1_become_9 rfl (lv_at hl 1 rfl) ?_
  refine s_get (v := .int ((sv σ 2 i0 0 (σ.1 2 i1 0)).1 2 i1 1)) C0 hh (rl_2 hi1) rfl (T := TX1) (N := 8) rfl hinX1 (by decide) w67 rfl dX1_become_10 ?_
  refine s_put C0 hh (rl_2 hi0) rfl rfl (T := TX1) (N := 8) rfl hinX1 tyX1 tyX1_ok nmX1 (by decide) w67 rfl (ty := .int) (by decide +kernel) rfl rfl (Nat.le_of_ble_eq_true rfl) (by decide) (by decide) (by decide) dX1_become_13 (fun H locs hh => ?_)
  refine s_aload_n C0 dX1_become_16 rfl (lv_at hl 0 rfl) ?_
  refine s_aload_n C0 dX1_become_17 rfl (lv_at hl 1 rfl) ?_
  refine s_get (v := .int ((sv (sv σ 2 i0 0 (σ.1 2 i1 0)) 2 i0 1 ((sv σ 2 i0 0 (σ.1 2 i1 0)).1 2 i1 1)).1 2 i1 2)) C0 hh (rl_2 hi1) rfl (T := TX1) (N := 8) rfl hinX1 (by decide) w66 rfl dX1_become_18 ?_
  refine s_put C0 hh (rl_2 hi0) rfl rfl (T := TX1) (N := 8) rfl hinX1 tyX1 tyX1_ok nmX1 (by decide) w66 rfl (ty := .int) (by decide +kernel) rfl rfl (Nat.le_of_ble_eq_true rfl) (by decide) (by decide) (by decide) dX1_become_21 (fun H locs hh => ?_)
  refine s_aload_n C0 dX1_become_24 rfl (lv_at hl 0 rfl) ?_
  refine s_aload_n C0 dX1_become_25 rfl (lv_at hl 1 rfl) ?_
  refine s_get (v := .int ((sv (sv (sv σ 2 i0 0 (σ.1 2 i1 0)) 2 i0 1 ((sv σ 2 i0 0 (σ.1 2 i1 0)).1 2 i1 1)) 2 i0 2 ((sv (sv σ 2 i0 0 (σ.1 2 i1 0)) 2 i0 1 ((sv σ 2 i0 0 (σ.1 2 i1 0)).1 2 i1 1)).1 2 i1 2)).1 2 i1 3)) C0 hh (rl_2 hi1) rfl (T := TX1) (N := 8) rfl hinX1 (by decide) w68 rfl dX1_become_26 ?_
  refine s_put C0 hh (rl_2 hi0) rfl rfl (T := TX1) (N := 8) rfl hinX1 tyX1 tyX1_ok nmX1 (by decide) w68 rfl (ty := .int) (by decide +kernel) rfl rfl (Nat.le_of_ble_eq_true rfl) (by decide) (by decide) (by decide) dX1_become_29 (fun H locs hh => ?_)
  refine s_aload_n C0 dX1_become_32 rfl (lv_at hl 0 rfl) ?_
  refine s_aload_n C0 dX1_become_33 rfl (lv_at hl 1 rfl) ?_
  refine s_get (v := .int ((sv (sv (sv (sv σ 2 i0 0 (σ.1 2 i1 0)) 2 i0 1 ((sv σ 2 i0 0 (σ.1 2 i1 0)).1 2 i1 1)) 2 i0 2 ((sv (sv σ 2 i0 0 (σ.1 2 i1 0)) 2 i0 1 ((sv σ 2 i0 0 (σ.1 2 i1 0)).1 2 i1 1)).1 2 i1 2)) 2 i0 3 ((sv (sv (sv σ 2 i0 0 (σ.1 2 i1 0)) 2 i0 1 ((sv σ 2 i0 0 (σ.1 2 i1 0)).1 2 i1 1)) 2 i0 2 ((sv (sv σ 2 i0 0 (σ.1 2 i1 0)) 2 i0 1 ((sv σ 2 i0 0 (σ.1 2 i1 0)).1 2 i1 1)).1 2 i1 2)).1 2 i1 3)).1 2 i1 4)) C0 hh (rl_2 hi1) rfl (T := TX1) (N := 8) rfl hinX1 (by decide) w69 rfl dX1_become_34 ?_
  refine s_gd (fun hg2 => ?_)
  refine s_put C0 hh (rl_2 hi0) rfl rfl (T := TX1) (N := 8) rfl hinX1 tyX1 tyX1_ok nmX1 (by decide) w69 rfl (ty := .boolean) (by decide +kernel) (nz_of hg2) (fz_of hg2) (Nat.le_of_ble_eq_true rfl) (by decide) (by decide) (by decide) dX1_become_37 (fun H locs hh => ?_)
  refine s_aload_n C0 dX1_become_40 rfl (lv_at hl 1 rfl) ?_
  refine s_get (v := .ref (ad 3 i1)) C0 hh (rl_2 hi1) rfl (T := TX1) (N := 8) rfl hinX1 (by decide) w4 rfl dX1_become_41 ?_
  refine s_iconst (v := 0) C0 dX1_become_44 (by decide) ?_
  refine s_aload_n C0 dX1_become_45 rfl (lv_at hl 0 rfl) ?_
  refine s_get (v := .ref (ad 3 i0)) C0 hh (rl_2 hi0) rfl (T := TX1) (N := 8) rfl hinX1 (by decide) w4 rfl dX1_become_46 ?_
  refine s_iconst (v := 0) C0 dX1_become_49 (by decide) ?_
  refine s_bipush (v := 60) C0 dX1_become_50 (by decide) ?_
  refine s_acopy C0 hh (rl_3 hi1) (rl_3 hi0) (fun _ => rfl) (fun _ => rfl) (t0 := 1) rfl (by decide) (by decide) (by decide) w92 w93 w94 w95 hl.1 (Nat.le_of_ble_eq_true rfl) (Nat.le_of_ble_eq_true rfl) dX1_become_52 (fun H locs hh => ?_)
  refine s_aload_n C0 dX1_become_55 rfl (lv_at hl 1 rfl) ?_
  refine s_get (v := .ref (ad 4 i1)) C0 hh (rl_2 hi1) rfl (T := TX1) (N := 8) rfl hinX1 (by decide) w5 rfl dX1_become_56 ?_
  refine s_iconst (v := 0) C0 dX1_become_59 (by decide) ?_
  refine s_aload_n C0 dX1_become_60 rfl (lv_at hl 0 rfl) ?_
  refine s_get (v := .ref (ad 4 i0)) C0 hh (rl_2 hi0) rfl (T := TX1) (N := 8) rfl hinX1 (by decide) w5 rfl dX1_become_61 ?_
  refine s_iconst (v := 0) C0 dX1_become_64 (by decide) ?_
  refine s_bipush (v := 60) C0 dX1_become_65 (by decide) ?_
  refine s_acopy C0 hh (rl_4 hi1) (rl_4 hi0) (fun _ => rfl) (fun _ => rfl) (t0 := 1) rfl (by decide) (by decide) (by decide) w92 w93 w94 w95 hl.1 (Nat.le_of_ble_eq_true rfl) (Nat.le_of_ble_eq_true rfl) dX1_become_67 (fun H locs hh => ?_)
  refine s_aload_n C0 dX1_become_70 rfl (lv_at hl 1 rfl) ?_
  refine s_get (v := .ref (ad 5 i1)) C0 hh (rl_2 hi1) rfl (T := TX1) (N := 8) rfl hinX1 (by decide) w6 rfl dX1_become_71 ?_
  refine s_iconst (v := 0) C0 dX1_become_74 (by decide) ?_
  refine s_aload_n C0 dX1_become_75 rfl (lv_at hl 0 rfl) ?_
  refine s_get (v := .ref (ad 5 i0)) C0 hh (rl_2 hi0) rfl (T := TX1) (N := 8) rfl hinX1 (by decide) w6 rfl dX1_become_76 ?_
  refine s_iconst (v := 0) C0 dX1_become_79 (by decide) ?_
  refine s_bipush (v := 60) C0 dX1_become_80 (by decide) ?_
  refine s_acopy C0 hh (rl_5 hi1) (rl_5 hi0) (fun _ => rfl) (fun _ => rfl) (t0 := 1) rfl (by decide) (by decide) (by decide) w92 w93 w94 w95 hl.1 (Nat.le_of_ble_eq_true rfl) (Nat.le_of_ble_eq_true rfl) dX1_become_82 (fun H locs hh => ?_)
  exact s_vret C0 hh hR (Nat.le_of_ble_eq_true rfl) (Nat.le_of_ble_eq_true rfl) dX1_become_85
def f_X1_become (σ : Sg) (i0 : Nat) (i1 : Nat) : Option (Unit × Sg) := f_X1_become_0 σ i0 i1
set_option maxRecDepth 100000 in
set_option maxHeartbeats 4000000 in
theorem c_X1_become (hst : l.stackTraces = false) (σ : Sg) (i0 : Nat) (i1 : Nat) (hi0 : i0 < nT ∨ i0 = 8) (hi1 : i1 < nT ∨ i1 = 8) : Ct l yX1_become (wm yX1_become cX1_become 2 none) rmX1_become 0 0 vV [.ref (ad 2 i0), .ref (ad 2 i1)] D cy n0 ad nT nO  σ (f_X1_become σ i0 i1) := by
  intro r0 h0
  refine Met.ofW (cc := cX1_become) (maxL := 2) (ret := none) (by decide +kernel) rfl ?_
  intro p e s m args below meth c s₁ B hml hv
  obtain ⟨C0, hh, hR, rfl⟩ := ent B hml hst hv
  rw [lg_entry_eq]
  have hl := lv_entry ([.ref (ad 2 i0), .ref (ad 2 i1)]) (n := 2) (Nat.le_of_ble_eq_true rfl)
  generalize (lg_sl ([.ref (ad 2 i0), .ref (ad 2 i1)]) ++ List.replicate (2 - (lg_sl ([.ref (ad 2 i0), .ref (ad 2 i1)])).length) Slot.unset).toArray = ls at hl ⊢
  exact b_X1_become_0 C0 hR σ i0 i1 hi0 hi1 _ _ _ hh hl r0 h0

def rmX2_cool : Room := { frames := 0, cells := 0, slots := 0, locals := 0 }
def f_X2_cool_0 (σ : Sg) (i0 : Nat) : Option (Unit × Sg) :=
  (some ((), (sv σ 1 i0 9 0)))
set_option maxRecDepth 100000 in
set_option maxHeartbeats 4000000 in
theorem b_X2_cool_0 (C0 : Cx p l s m args meth c cX2_cool 1 RX2 D cy n0) (hR : meth.sig.returnType = none) (σ : Sg) (i0 : Nat) (hi0 : i0 < nT) (H : Heap) (locs : List Loc) (ls : Array Slot) (hh : Hp D cy n0 ad nT nO s σ H locs) (hl : lv_has ls 1 [(0, .ref (ad 1 i0))]) : Sm (Qr below args s D cy n0 ad nT nO vV 0 0) (f_X2_cool_0 σ i0) p l e rmX2_cool s m args below meth c H locs 0 0 (F0 m 0 ls []) := by
  unfold f_X2_cool_0
  refine s_aload_n C0 dX2_cool_0 rfl (lv_at hl 0 rfl) ?_
  refine s_iconst (v := 0) C0 dX2_cool_1 (by decide) ?_
  refine s_put C0 hh (rl_1 hi0) rfl rfl (T := TX2) (N := 14) rfl hinX2 tyX2 tyX2_ok nmX2 (by decide) w96 rfl (ty := .int) (by decide +kernel) rfl rfl (Nat.le_of_ble_eq_true rfl) (by decide) (by decide) (by decide) dX2_cool_2 (fun H locs hh => ?_)
  exact s_vret C0 hh hR (Nat.le_of_ble_eq_true rfl) (Nat.le_of_ble_eq_true rfl) dX2_cool_5
def f_X2_cool (σ : Sg) (i0 : Nat) : Option (Unit × Sg) := f_X2_cool_0 σ i0
set_option maxRecDepth 100000 in
set_option maxHeartbeats 4000000 in
theorem c_X2_cool (hst : l.stackTraces = false) (σ : Sg) (i0 : Nat) (hi0 : i0 < nT) : Ct l yX2_cool (wm yX2_cool cX2_cool 1 none) rmX2_cool 0 0 vV [.ref (ad 1 i0)] D cy n0 ad nT nO  σ (f_X2_cool σ i0) := by
  intro r0 h0
  refine Met.ofW (cc := cX2_cool) (maxL := 1) (ret := none) (by decide +kernel) rfl ?_
  intro p e s m args below meth c s₁ B hml hv
  obtain ⟨C0, hh, hR, rfl⟩ := ent B hml hst hv
  rw [lg_entry_eq]
  have hl := lv_entry ([.ref (ad 1 i0)]) (n := 1) (Nat.le_of_ble_eq_true rfl)
  generalize (lg_sl ([.ref (ad 1 i0)]) ++ List.replicate (1 - (lg_sl ([.ref (ad 1 i0)])).length) Slot.unset).toArray = ls at hl ⊢
  exact b_X2_cool_0 C0 hR σ i0 hi0 _ _ _ hh hl r0 h0

def rmX2_holds : Room := { frames := 0, cells := 0, slots := 0, locals := 0 }
def f_X2_holds_0 (σ : Sg) (i0 : Nat) : Option (Int32 × Sg) :=
  (some ((((σ.1 2 i0 1) + (σ.1 1 i0 6)) * (σ.1 2 i0 3)), σ))
set_option maxRecDepth 100000 in
set_option maxHeartbeats 4000000 in
theorem b_X2_holds_0 (C0 : Cx p l s m args meth c cX2_holds 1 RX2 D cy n0) (hR : meth.sig.returnType = (some .int)) (σ : Sg) (i0 : Nat) (hi0 : i0 < nT) (H : Heap) (locs : List Loc) (ls : Array Slot) (hh : Hp D cy n0 ad nT nO s σ H locs) (hl : lv_has ls 1 [(0, .ref (ad 1 i0))]) : Sm (Qr below args s D cy n0 ad nT nO vI 0 0) (f_X2_holds_0 σ i0) p l e rmX2_holds s m args below meth c H locs 0 0 (F0 m 0 ls []) := by
  unfold f_X2_holds_0
  refine s_aload_n C0 dX2_holds_0 rfl (lv_at hl 0 rfl) ?_
  refine s_get (v := .ref (ad 2 i0)) C0 hh (rl_1 hi0) rfl (T := TX2) (N := 14) rfl hinX2 (by decide) w19 rfl dX2_holds_1 ?_
  refine s_getN (v := .int (σ.1 2 i0 1)) C0 hh (rl_2 (Or.inl hi0)) rfl (T := TX1) (N := 8) rfl hinX1 (by decide) w97 rfl dX2_holds_4 ?_
  refine s_aload_n C0 dX2_holds_7 rfl (lv_at hl 0 rfl) ?_
  refine s_get (v := .int (σ.1 1 i0 6)) C0 hh (rl_1 hi0) rfl (T := TX2) (N := 14) rfl hinX2 (by decide) w98 rfl dX2_holds_8 ?_
  refine s_iadd C0 dX2_holds_11 ?_
  refine s_aload_n C0 dX2_holds_12 rfl (lv_at hl 0 rfl) ?_
  refine s_get (v := .ref (ad 2 i0)) C0 hh (rl_1 hi0) rfl (T := TX2) (N := 14) rfl hinX2 (by decide) w19 rfl dX2_holds_13 ?_
  refine s_getN (v := .int (σ.1 2 i0 3)) C0 hh (rl_2 (Or.inl hi0)) rfl (T := TX1) (N := 8) rfl hinX1 (by decide) w99 rfl dX2_holds_16 ?_
  refine s_imul C0 dX2_holds_19 ?_
  exact s_iret C0 hh hR rfl (Nat.le_of_ble_eq_true rfl) (Nat.le_of_ble_eq_true rfl) dX2_holds_20
def f_X2_holds (σ : Sg) (i0 : Nat) : Option (Int32 × Sg) := f_X2_holds_0 σ i0
set_option maxRecDepth 100000 in
set_option maxHeartbeats 4000000 in
theorem c_X2_holds (hst : l.stackTraces = false) (σ : Sg) (i0 : Nat) (hi0 : i0 < nT) : Ct l yX2_holds (wm yX2_holds cX2_holds 1 (some .int)) rmX2_holds 0 0 vI [.ref (ad 1 i0)] D cy n0 ad nT nO  σ (f_X2_holds σ i0) := by
  intro r0 h0
  refine Met.ofW (cc := cX2_holds) (maxL := 1) (ret := (some .int)) (by decide +kernel) rfl ?_
  intro p e s m args below meth c s₁ B hml hv
  obtain ⟨C0, hh, hR, rfl⟩ := ent B hml hst hv
  rw [lg_entry_eq]
  have hl := lv_entry ([.ref (ad 1 i0)]) (n := 1) (Nat.le_of_ble_eq_true rfl)
  generalize (lg_sl ([.ref (ad 1 i0)]) ++ List.replicate (1 - (lg_sl ([.ref (ad 1 i0)])).length) Slot.unset).toArray = ls at hl ⊢
  exact b_X2_holds_0 C0 hR σ i0 hi0 _ _ _ hh hl r0 h0

def rmX2_groundThickness : Room := { frames := 0, cells := 0, slots := 0, locals := 0 }
def f_X2_groundThickness_0 (σ : Sg) (i0 : Nat) : Option (Int32 × Sg) :=
  (some ((((σ.1 1 i0 3) - 2) - (σ.1 2 i0 1)), σ))
set_option maxRecDepth 100000 in
set_option maxHeartbeats 4000000 in
theorem b_X2_groundThickness_0 (C0 : Cx p l s m args meth c cX2_groundThickness 1 RX2 D cy n0) (hR : meth.sig.returnType = (some .int)) (σ : Sg) (i0 : Nat) (hi0 : i0 < nT) (H : Heap) (locs : List Loc) (ls : Array Slot) (hh : Hp D cy n0 ad nT nO s σ H locs) (hl : lv_has ls 1 [(0, .ref (ad 1 i0))]) : Sm (Qr below args s D cy n0 ad nT nO vI 0 0) (f_X2_groundThickness_0 σ i0) p l e rmX2_groundThickness s m args below meth c H locs 0 0 (F0 m 0 ls []) := by
  unfold f_X2_groundThickness_0
  refine s_aload_n C0 dX2_groundThickness_0 rfl (lv_at hl 0 rfl) ?_
  refine s_get (v := .int (σ.1 1 i0 3)) C0 hh (rl_1 hi0) rfl (T := TX2) (N := 14) rfl hinX2 (by decide) w10 rfl dX2_groundThickness_1 ?_
  refine s_iconst (v := 2) C0 dX2_groundThickness_4 (by decide) ?_
  refine s_isub C0 dX2_groundThickness_5 ?_
  refine s_aload_n C0 dX2_groundThickness_6 rfl (lv_at hl 0 rfl) ?_
  refine s_get (v := .ref (ad 2 i0)) C0 hh (rl_1 hi0) rfl (T := TX2) (N := 14) rfl hinX2 (by decide) w19 rfl dX2_groundThickness_7 ?_
  refine s_getN (v := .int (σ.1 2 i0 1)) C0 hh (rl_2 (Or.inl hi0)) rfl (T := TX1) (N := 8) rfl hinX1 (by decide) w97 rfl dX2_groundThickness_10 ?_
  refine s_isub C0 dX2_groundThickness_13 ?_
  exact s_iret C0 hh hR rfl (Nat.le_of_ble_eq_true rfl) (Nat.le_of_ble_eq_true rfl) dX2_groundThickness_14
def f_X2_groundThickness (σ : Sg) (i0 : Nat) : Option (Int32 × Sg) := f_X2_groundThickness_0 σ i0
set_option maxRecDepth 100000 in
set_option maxHeartbeats 4000000 in
theorem c_X2_groundThickness (hst : l.stackTraces = false) (σ : Sg) (i0 : Nat) (hi0 : i0 < nT) : Ct l yX2_groundThickness (wm yX2_groundThickness cX2_groundThickness 1 (some .int)) rmX2_groundThickness 0 0 vI [.ref (ad 1 i0)] D cy n0 ad nT nO  σ (f_X2_groundThickness σ i0) := by
  intro r0 h0
  refine Met.ofW (cc := cX2_groundThickness) (maxL := 1) (ret := (some .int)) (by decide +kernel) rfl ?_
  intro p e s m args below meth c s₁ B hml hv
  obtain ⟨C0, hh, hR, rfl⟩ := ent B hml hst hv
  rw [lg_entry_eq]
  have hl := lv_entry ([.ref (ad 1 i0)]) (n := 1) (Nat.le_of_ble_eq_true rfl)
  generalize (lg_sl ([.ref (ad 1 i0)]) ++ List.replicate (1 - (lg_sl ([.ref (ad 1 i0)])).length) Slot.unset).toArray = ls at hl ⊢
  exact b_X2_groundThickness_0 C0 hR σ i0 hi0 _ _ _ hh hl r0 h0
theorem qc7 {R : Room} {s : State} {args : Array Value} (ht : ∀ w ∈ allw, w.before args s = true) (hR : (rmX2_groundThickness).frames + 1 ≤ R.frames ∧ 8 + (1 + 11) + (rmX2_groundThickness).locals ≤ R.locals) : CallW R s args RX2 RX2 91 yX2_groundThickness cX2_groundThickness 1 (some .int) (wm yX2_groundThickness cX2_groundThickness 1 (some .int)) rmX2_groundThickness 0 0 0 := cwV 0 ht (gd_of (fun _ h => h) _ (mV w100 w103 w104 w102 w101)) rfl rfl rfl (by decide +kernel) hR
theorem qc8 {R : Room} {s : State} {args : Array Value} (ht : ∀ w ∈ allw, w.before args s = true) (hR : (rmX1_clear).frames + 1 ≤ R.frames ∧ 8 + (1 + 11) + (rmX1_clear).locals ≤ R.locals) : CallW R s args RX2 RX1 94 yX1_clear cX1_clear 1 none (wm yX1_clear cX1_clear 1 none) rmX1_clear 0 0 0 := cwV 0 ht (gd_of (fun _ h => h) _ (mV w105 w107 w108 w15 w106)) rfl rfl rfl (by decide +kernel) hR
def rmX2_takeTeethOff : Room := { frames := 1, cells := 0, slots := 0, locals := 20 }
def f_X2_takeTeethOff_0 (σ : Sg) (i0 : Nat) : Option (Unit × Sg) :=
  ((f_X2_groundThickness σ i0).bind (fun r1 => ((f_X1_clear (sv r1.2 1 i0 3 r1.1) i0).bind (fun r2 => (some ((), (sv (sv (sv r2.2 1 i0 6 0) 1 i0 10 0) 1 i0 13 (((sv (sv r2.2 1 i0 6 0) 1 i0 10 0).1 1 i0 13) + 1))))))))
set_option maxRecDepth 100000 in
set_option maxHeartbeats 4000000 in
theorem b_X2_takeTeethOff_0 (C0 : Cx p l s m args meth c cX2_takeTeethOff 1 RX2 D cy n0) (hR : meth.sig.returnType = none) (σ : Sg) (i0 : Nat) (hi0 : i0 < nT) (H : Heap) (locs : List Loc) (ls : Array Slot) (hh : Hp D cy n0 ad nT nO s σ H locs) (hl : lv_has ls 1 [(0, .ref (ad 1 i0))]) : Sm (Qr below args s D cy n0 ad nT nO vV 0 0) (f_X2_takeTeethOff_0 σ i0) p l e rmX2_takeTeethOff s m args below meth c H locs 0 0 (F0 m 0 ls []) := by
  unfold f_X2_takeTeethOff_0
  refine s_aload_n C0 dX2_takeTeethOff_0 rfl (lv_at hl 0 rfl) ?_
  refine s_aload_n C0 dX2_takeTeethOff_1 rfl (lv_at hl 0 rfl) ?_
  refine s_V (As := []) (rest := [.ref (ad 1 i0)]) C0 hh (c_X2_groundThickness C0.2.2.2.2.2.2 _ i0 hi0) (qc7 C0.1.2.2.2.2 ⟨Nat.le_of_ble_eq_true rfl, Nat.le_of_ble_eq_true rfl⟩) (rl_1 hi0) rfl rfl rfl hl.1 rfl (lv_room (Nat.le_of_ble_eq_true rfl)) dX2_takeTeethOff_2 ⟨Nat.le_of_ble_eq_true rfl, Nat.le_of_ble_eq_true rfl⟩ (fun r1 H locs hor1 hh => ?_)
  refine s_put C0 hh (rl_1 hi0) rfl rfl (T := TX2) (N := 14) rfl hinX2 tyX2 tyX2_ok nmX2 (by decide) w10 rfl (ty := .int) (by decide +kernel) rfl rfl (Nat.le_of_ble_eq_true rfl) (by decide) (by decide) (by decide) dX2_takeTeethOff_5 (fun H locs hh => ?_)
  refine s_aload_n C0 dX2_takeTeethOff_8 rfl (lv_at hl 0 rfl) ?_
  refine s_get (v := .ref (ad 2 i0)) C0 hh (rl_1 hi0) rfl (T := TX2) (N := 14) rfl hinX2 (by decide) w19 rfl dX2_takeTeethOff_9 ?_
  refine s_V (As := []) (rest := []) C0 hh (c_X1_clear C0.2.2.2.2.2.2 _ i0 (Or.inl hi0)) (qc8 C0.1.2.2.2.2 ⟨Nat.le_of_ble_eq_true rfl, Nat.le_of_ble_eq_true rfl⟩) (rl_2 (Or.inl hi0)) rfl rfl rfl hl.1 rfl (lv_room (Nat.le_of_ble_eq_true rfl)) dX2_takeTeethOff_12 ⟨Nat.le_of_ble_eq_true rfl, Nat.le_of_ble_eq_true rfl⟩ (fun r2 H locs hor2 hh => ?_)
  refine s_aload_n C0 dX2_takeTeethOff_15 rfl (lv_at hl 0 rfl) ?_
  refine s_iconst (v := 0) C0 dX2_takeTeethOff_16 (by decide) ?_
  refine s_put C0 hh (rl_1 hi0) rfl rfl (T := TX2) (N := 14) rfl hinX2 tyX2 tyX2_ok nmX2 (by decide) w98 rfl (ty := .int) (by decide +kernel) rfl rfl (Nat.le_of_ble_eq_true rfl) (by decide) (by decide) (by decide) dX2_takeTeethOff_17 (fun H locs hh => ?_)
  refine s_aload_n C0 dX2_takeTeethOff_20 rfl (lv_at hl 0 rfl) ?_
  refine s_iconst (v := 0) C0 dX2_takeTeethOff_21 (by decide) ?_
  refine s_put C0 hh (rl_1 hi0) rfl rfl (T := TX2) (N := 14) rfl hinX2 tyX2 tyX2_ok nmX2 (by decide) w109 rfl (ty := .int) (by decide +kernel) rfl rfl (Nat.le_of_ble_eq_true rfl) (by decide) (by decide) (by decide) dX2_takeTeethOff_22 (fun H locs hh => ?_)
  refine s_aload_n C0 dX2_takeTeethOff_25 rfl (lv_at hl 0 rfl) ?_
  refine s_dup C0 dX2_takeTeethOff_26 rfl ?_
  refine s_get (v := .int ((sv (sv r2.2 1 i0 6 0) 1 i0 10 0).1 1 i0 13)) C0 hh (rl_1 hi0) rfl (T := TX2) (N := 14) rfl hinX2 (by decide) w110 rfl dX2_takeTeethOff_27 ?_
  refine s_iconst (v := 1) C0 dX2_takeTeethOff_30 (by decide) ?_
  refine s_iadd C0 dX2_takeTeethOff_31 ?_
  refine s_put C0 hh (rl_1 hi0) rfl rfl (T := TX2) (N := 14) rfl hinX2 tyX2 tyX2_ok nmX2 (by decide) w110 rfl (ty := .int) (by decide +kernel) rfl rfl (Nat.le_of_ble_eq_true rfl) (by decide) (by decide) (by decide) dX2_takeTeethOff_32 (fun H locs hh => ?_)
  exact s_vret C0 hh hR (Nat.le_of_ble_eq_true rfl) (Nat.le_of_ble_eq_true rfl) dX2_takeTeethOff_35
def f_X2_takeTeethOff (σ : Sg) (i0 : Nat) : Option (Unit × Sg) := f_X2_takeTeethOff_0 σ i0
set_option maxRecDepth 100000 in
set_option maxHeartbeats 4000000 in
theorem c_X2_takeTeethOff (hst : l.stackTraces = false) (σ : Sg) (i0 : Nat) (hi0 : i0 < nT) : Ct l yX2_takeTeethOff (wm yX2_takeTeethOff cX2_takeTeethOff 1 none) rmX2_takeTeethOff 0 0 vV [.ref (ad 1 i0)] D cy n0 ad nT nO  σ (f_X2_takeTeethOff σ i0) := by
  intro r0 h0
  refine Met.ofW (cc := cX2_takeTeethOff) (maxL := 1) (ret := none) (by decide +kernel) rfl ?_
  intro p e s m args below meth c s₁ B hml hv
  obtain ⟨C0, hh, hR, rfl⟩ := ent B hml hst hv
  rw [lg_entry_eq]
  have hl := lv_entry ([.ref (ad 1 i0)]) (n := 1) (Nat.le_of_ble_eq_true rfl)
  generalize (lg_sl ([.ref (ad 1 i0)]) ++ List.replicate (1 - (lg_sl ([.ref (ad 1 i0)])).length) Slot.unset).toArray = ls at hl ⊢
  exact b_X2_takeTeethOff_0 C0 hR σ i0 hi0 _ _ _ hh hl r0 h0

def rmX2_quench : Room := { frames := 1, cells := 0, slots := 0, locals := 21 }
def f_X2_quench_102 (σ : Sg) (s0 : Int32) (j1 : Nat) : Option (Unit × Sg) :=
  (if ((s0).toUInt32 % 65536).toInt32 = s0 then (some ((), (sv σ 1 j1 4 s0))) else none)
set_option maxRecDepth 100000 in
set_option maxHeartbeats 4000000 in
theorem b_X2_quench_102 (C0 : Cx p l s m args meth c cX2_quench 6 RX2 D cy n0) (hR : meth.sig.returnType = none) (σ : Sg) (s0 : Int32) (j1 : Nat) (hj1 : j1 < nT) (H : Heap) (locs : List Loc) (ls : Array Slot) (hh : Hp D cy n0 ad nT nO s σ H locs) (hl : lv_has ls 6 []) : Sm (Qr below args s D cy n0 ad nT nO vV 0 0) (f_X2_quench_102 σ s0 j1) p l e rmX2_quench s m args below meth c H locs 0 0 (F0 m 102 ls [.int s0, .ref (ad 1 j1)]) := by
  unfold f_X2_quench_102
  refine s_gd (fun hg1 => ?_)
  refine s_put C0 hh (rl_1 hj1) rfl rfl (T := TX2) (N := 14) rfl hinX2 tyX2 tyX2_ok nmX2 (by decide) w12 rfl (ty := .char) (by decide +kernel) (nc_of hg1) (fc_of hg1) (Nat.le_of_ble_eq_true rfl) (by decide) (by decide) (by decide) dX2_quench_102 (fun H locs hh => ?_)
  exact s_vret C0 hh hR (Nat.le_of_ble_eq_true rfl) (Nat.le_of_ble_eq_true rfl) dX2_quench_105
def f_X2_quench_70 (σ : Sg) (i0 : Nat) (x3 : Int32) (s0 : Int32) : Option (Unit × Sg) :=
  (if (((sv σ 1 i0 8 ((σ.1 1 i0 8) + (s0 + x3))).1 1 i0 8) : Int32) ≤ (30 : Int32) then (f_X2_quench_102 (sv σ 1 i0 8 ((σ.1 1 i0 8) + (s0 + x3))) 104 i0) else (f_X2_quench_102 (sv σ 1 i0 8 ((σ.1 1 i0 8) + (s0 + x3))) 99 i0))
set_option maxRecDepth 100000 in
set_option maxHeartbeats 4000000 in
theorem b_X2_quench_70 (C0 : Cx p l s m args meth c cX2_quench 6 RX2 D cy n0) (hR : meth.sig.returnType = none) (σ : Sg) (i0 : Nat) (x3 : Int32) (s0 : Int32) (hi0 : i0 < nT) (H : Heap) (locs : List Loc) (ls : Array Slot) (hh : Hp D cy n0 ad nT nO s σ H locs) (hl : lv_has ls 6 [(0, .ref (ad 1 i0)), (3, .int x3)]) : Sm (Qr below args s D cy n0 ad nT nO vV 0 0) (f_X2_quench_70 σ i0 x3 s0) p l e rmX2_quench s m args below meth c H locs 0 0 (F0 m 70 ls [.int s0]) := by
  unfold f_X2_quench_70
  refine s_istore (lv' := [(5, .int s0), (0, .ref (ad 1 i0)), (3, .int x3)]) C0 dX2_quench_70 hl (by decide) rfl (fun ls hl => ?_)
  refine s_aload_n C0 dX2_quench_72 rfl (lv_at hl 1 rfl) ?_
  refine s_dup C0 dX2_quench_73 rfl ?_
  refine s_get (v := .int (σ.1 1 i0 8)) C0 hh (rl_1 hi0) rfl (T := TX2) (N := 14) rfl hinX2 (by decide) w114 rfl dX2_quench_74 ?_
  refine s_iload C0 dX2_quench_77 (lv_at hl 0 rfl) ?_
  refine s_iload_n C0 dX2_quench_79 rfl (lv_at hl 2 rfl) ?_
  refine s_iadd C0 dX2_quench_80 ?_
  refine s_iadd C0 dX2_quench_81 ?_
  refine s_put C0 hh (rl_1 hi0) rfl rfl (T := TX2) (N := 14) rfl hinX2 tyX2 tyX2_ok nmX2 (by decide) w114 rfl (ty := .int) (by decide +kernel) rfl rfl (Nat.le_of_ble_eq_true rfl) (by decide) (by decide) (by decide) dX2_quench_82 (fun H locs hh => ?_)
  refine s_aload_n C0 dX2_quench_85 rfl (lv_at hl 1 rfl) ?_
  refine s_aload_n C0 dX2_quench_86 rfl (lv_at hl 1 rfl) ?_
  refine s_get (v := .int ((sv σ 1 i0 8 ((σ.1 1 i0 8) + (s0 + x3))).1 1 i0 8)) C0 hh (rl_1 hi0) rfl (T := TX2) (N := 14) rfl hinX2 (by decide) w114 rfl dX2_quench_87 ?_
  refine s_bipush (v := 30) C0 dX2_quench_90 (by decide) ?_
  refine s_icmp_le (tgt := 100) C0 dX2_quench_92 (by decide) (fun _ => ?_) (fun _ => ?_)
  · refine s_bipush (v := 104) C0 dX2_quench_100 (by decide) ?_
    exact b_X2_quench_102 C0 hR (sv σ 1 i0 8 ((σ.1 1 i0 8) + (s0 + x3))) 104 i0 hi0 _ _ _ hh ⟨hl.1, hl.2.1, fun _ h => nomatch h⟩
  · refine s_bipush (v := 99) C0 dX2_quench_95 (by decide) ?_
    refine s_goto (tgt := 102) C0 dX2_quench_97 (by decide) ?_
    exact b_X2_quench_102 C0 hR (sv σ 1 i0 8 ((σ.1 1 i0 8) + (s0 + x3))) 99 i0 hi0 _ _ _ hh ⟨hl.1, hl.2.1, fun _ h => nomatch h⟩
def f_X2_quench_30 (σ : Sg) (i0 : Nat) (x2 : Int32) (x3 : Int32) (x4 : Int32) : Option (Unit × Sg) :=
  (if (((sv σ 1 i0 7 (if ((if (1 : Int32) < x4 then x4 else 1) : Int32) < 66 then (if (1 : Int32) < x4 then x4 else 1) else 66)).1 1 i0 3) : Int32) ≤ (0 : Int32) then (f_X2_quench_70 (sv σ 1 i0 7 (if ((if (1 : Int32) < x4 then x4 else 1) : Int32) < 66 then (if (1 : Int32) < x4 then x4 else 1) else 66)) i0 x3 0) else (if ((20 * ((sv σ 1 i0 7 (if ((if (1 : Int32) < x4 then x4 else 1) : Int32) < 66 then (if (1 : Int32) < x4 then x4 else 1) else 66)).1 1 i0 3)) : Int32) = 0 then none else (f_X2_quench_70 (sv σ 1 i0 7 (if ((if (1 : Int32) < x4 then x4 else 1) : Int32) < 66 then (if (1 : Int32) < x4 then x4 else 1) else 66)) i0 x3 ((x2 * ((sv σ 1 i0 7 (if ((if (1 : Int32) < x4 then x4 else 1) : Int32) < 66 then (if (1 : Int32) < x4 then x4 else 1) else 66)).1 1 i0 1)) / (20 * ((sv σ 1 i0 7 (if ((if (1 : Int32) < x4 then x4 else 1) : Int32) < 66 then (if (1 : Int32) < x4 then x4 else 1) else 66)).1 1 i0 3))))))
set_option maxRecDepth 100000 in
set_option maxHeartbeats 4000000 in
theorem b_X2_quench_30 (C0 : Cx p l s m args meth c cX2_quench 6 RX2 D cy n0) (hR : meth.sig.returnType = none) (σ : Sg) (i0 : Nat) (x2 : Int32) (x3 : Int32) (x4 : Int32) (hi0 : i0 < nT) (H : Heap) (locs : List Loc) (ls : Array Slot) (hh : Hp D cy n0 ad nT nO s σ H locs) (hl : lv_has ls 6 [(0, .ref (ad 1 i0)), (2, .int x2), (3, .int x3), (4, .int x4)]) : Sm (Qr below args s D cy n0 ad nT nO vV 0 0) (f_X2_quench_30 σ i0 x2 x3 x4) p l e rmX2_quench s m args below meth c H locs 0 0 (F0 m 30 ls []) := by
  unfold f_X2_quench_30
  refine s_aload_n C0 dX2_quench_30 rfl (lv_at hl 0 rfl) ?_
  refine s_bipush (v := 66) C0 dX2_quench_31 (by decide) ?_
  refine s_iconst (v := 1) C0 dX2_quench_33 (by decide) ?_
  refine s_iload C0 dX2_quench_34 (lv_at hl 3 rfl) ?_
  refine s_mmax C0 w111 w71 w72 w73 hl.1 (Nat.le_of_ble_eq_true rfl) (Nat.le_of_ble_eq_true rfl) (Nat.le_of_ble_eq_true rfl) (Nat.le_of_ble_eq_true rfl) dX2_quench_36 ?_
  refine s_mmin C0 w112 w78 w72 w79 hl.1 (Nat.le_of_ble_eq_true rfl) (Nat.le_of_ble_eq_true rfl) (Nat.le_of_ble_eq_true rfl) (Nat.le_of_ble_eq_true rfl) dX2_quench_39 ?_
  refine s_put C0 hh (rl_1 hi0) rfl rfl (T := TX2) (N := 14) rfl hinX2 tyX2 tyX2_ok nmX2 (by decide) w113 rfl (ty := .int) (by decide +kernel) rfl rfl (Nat.le_of_ble_eq_true rfl) (by decide) (by decide) (by decide) dX2_quench_42 (fun H locs hh => ?_)
  refine s_aload_n C0 dX2_quench_45 rfl (lv_at hl 0 rfl) ?_
  refine s_get (v := .int ((sv σ 1 i0 7 (if ((if (1 : Int32) < x4 then x4 else 1) : Int32) < 66 then (if (1 : Int32) < x4 then x4 else 1) else 66)).1 1 i0 3)) C0 hh (rl_1 hi0) rfl (T := TX2) (N := 14) rfl hinX2 (by decide) w10 rfl dX2_quench_46 ?_
  refine s_if_le (tgt := 69) C0 dX2_quench_49 (by decide) (fun _ => ?_) (fun _ => ?_)
  · refine s_iconst (v := 0) C0 dX2_quench_69 (by decide) ?_
    exact b_X2_quench_70 C0 hR (sv σ 1 i0 7 (if ((if (1 : Int32) < x4 then x4 else 1) : Int32) < 66 then (if (1 : Int32) < x4 then x4 else 1) else 66)) i0 x3 0 hi0 _ _ _ hh (lv_sub hl [0, 2] rfl)
  · refine s_iload_n C0 dX2_quench_52 rfl (lv_at hl 1 rfl) ?_
    refine s_aload_n C0 dX2_quench_53 rfl (lv_at hl 0 rfl) ?_
    refine s_get (v := .int ((sv σ 1 i0 7 (if ((if (1 : Int32) < x4 then x4 else 1) : Int32) < 66 then (if (1 : Int32) < x4 then x4 else 1) else 66)).1 1 i0 1)) C0 hh (rl_1 hi0) rfl (T := TX2) (N := 14) rfl hinX2 (by decide) w9 rfl dX2_quench_54 ?_
    refine s_imul C0 dX2_quench_57 ?_
    refine s_bipush (v := 20) C0 dX2_quench_58 (by decide) ?_
    refine s_aload_n C0 dX2_quench_60 rfl (lv_at hl 0 rfl) ?_
    refine s_get (v := .int ((sv σ 1 i0 7 (if ((if (1 : Int32) < x4 then x4 else 1) : Int32) < 66 then (if (1 : Int32) < x4 then x4 else 1) else 66)).1 1 i0 3)) C0 hh (rl_1 hi0) rfl (T := TX2) (N := 14) rfl hinX2 (by decide) w10 rfl dX2_quench_61 ?_
    refine s_imul C0 dX2_quench_64 ?_
    refine s_idiv C0 dX2_quench_65 ?_
    refine s_goto (tgt := 70) C0 dX2_quench_66 (by decide) ?_
    exact b_X2_quench_70 C0 hR (sv σ 1 i0 7 (if ((if (1 : Int32) < x4 then x4 else 1) : Int32) < 66 then (if (1 : Int32) < x4 then x4 else 1) else 66)) i0 x3 ((x2 * ((sv σ 1 i0 7 (if ((if (1 : Int32) < x4 then x4 else 1) : Int32) < 66 then (if (1 : Int32) < x4 then x4 else 1) else 66)).1 1 i0 1)) / (20 * ((sv σ 1 i0 7 (if ((if (1 : Int32) < x4 then x4 else 1) : Int32) < 66 then (if (1 : Int32) < x4 then x4 else 1) else 66)).1 1 i0 3))) hi0 _ _ _ hh (lv_sub hl [0, 2] rfl)
def f_X2_quench_0 (σ : Sg) (i0 : Nat) (x1 : Int32) (x2 : Int32) (x3 : Int32) : Option (Unit × Sg) :=
  (if (2 : Int32) = 0 then none else (if (x1 : Int32) ≤ (900 : Int32) then (f_X2_quench_30 σ i0 x2 x3 (((σ.1 1 i0 2) / 2) + x2)) else (if (20 : Int32) = 0 then none else (f_X2_quench_30 σ i0 x2 x3 ((((σ.1 1 i0 2) / 2) + x2) - ((x1 - 900) / 20))))))
set_option maxRecDepth 100000 in
set_option maxHeartbeats 4000000 in
theorem b_X2_quench_0 (C0 : Cx p l s m args meth c cX2_quench 6 RX2 D cy n0) (hR : meth.sig.returnType = none) (σ : Sg) (i0 : Nat) (x1 : Int32) (x2 : Int32) (x3 : Int32) (hi0 : i0 < nT) (H : Heap) (locs : List Loc) (ls : Array Slot) (hh : Hp D cy n0 ad nT nO s σ H locs) (hl : lv_has ls 6 [(0, .ref (ad 1 i0)), (1, .int x1), (2, .int x2), (3, .int x3)]) : Sm (Qr below args s D cy n0 ad nT nO vV 0 0) (f_X2_quench_0 σ i0 x1 x2 x3) p l e rmX2_quench s m args below meth c H locs 0 0 (F0 m 0 ls []) := by
  unfold f_X2_quench_0
  refine s_aload_n C0 dX2_quench_0 rfl (lv_at hl 0 rfl) ?_
  refine s_get (v := .int (σ.1 1 i0 2)) C0 hh (rl_1 hi0) rfl (T := TX2) (N := 14) rfl hinX2 (by decide) w11 rfl dX2_quench_1 ?_
  refine s_iconst (v := 2) C0 dX2_quench_4 (by decide) ?_
  refine s_idiv C0 dX2_quench_5 ?_
  refine s_iload_n C0 dX2_quench_6 rfl (lv_at hl 2 rfl) ?_
  refine s_iadd C0 dX2_quench_7 ?_
  refine s_istore (lv' := [(4, .int (((σ.1 1 i0 2) / 2) + x2)), (0, .ref (ad 1 i0)), (1, .int x1), (2, .int x2), (3, .int x3)]) C0 dX2_quench_8 hl (by decide) rfl (fun ls hl => ?_)
  refine s_iload_n C0 dX2_quench_10 rfl (lv_at hl 2 rfl) ?_
  refine s_sipush (v := 900) C0 dX2_quench_11 (by decide) ?_
  refine s_icmp_le (tgt := 30) C0 dX2_quench_14 (by decide) (fun _ => ?_) (fun _ => ?_)
  · exact b_X2_quench_30 C0 hR σ i0 x2 x3 (((σ.1 1 i0 2) / 2) + x2) hi0 _ _ _ hh (lv_sub hl [1, 3, 4, 0] rfl)
  · refine s_iload C0 dX2_quench_17 (lv_at hl 0 rfl) ?_
    refine s_iload_n C0 dX2_quench_19 rfl (lv_at hl 2 rfl) ?_
    refine s_sipush (v := 900) C0 dX2_quench_20 (by decide) ?_
    refine s_isub C0 dX2_quench_23 ?_
    refine s_bipush (v := 20) C0 dX2_quench_24 (by decide) ?_
    refine s_idiv C0 dX2_quench_26 ?_
    refine s_isub C0 dX2_quench_27 ?_
    refine s_istore (lv' := [(4, .int ((((σ.1 1 i0 2) / 2) + x2) - ((x1 - 900) / 20))), (0, .ref (ad 1 i0)), (1, .int x1), (2, .int x2), (3, .int x3)]) C0 dX2_quench_28 hl (by decide) rfl (fun ls hl => ?_)
    exact b_X2_quench_30 C0 hR σ i0 x2 x3 ((((σ.1 1 i0 2) / 2) + x2) - ((x1 - 900) / 20)) hi0 _ _ _ hh (lv_sub hl [1, 3, 4, 0] rfl)
def f_X2_quench (σ : Sg) (i0 : Nat) (x1 : Int32) (x2 : Int32) (x3 : Int32) : Option (Unit × Sg) := f_X2_quench_0 σ i0 x1 x2 x3
set_option maxRecDepth 100000 in
set_option maxHeartbeats 4000000 in
theorem c_X2_quench (hst : l.stackTraces = false) (σ : Sg) (i0 : Nat) (x1 : Int32) (x2 : Int32) (x3 : Int32) (hi0 : i0 < nT) : Ct l yX2_quench (wm yX2_quench cX2_quench 6 none) rmX2_quench 0 0 vV [.ref (ad 1 i0), .int x1, .int x2, .int x3] D cy n0 ad nT nO  σ (f_X2_quench σ i0 x1 x2 x3) := by
  intro r0 h0
  refine Met.ofW (cc := cX2_quench) (maxL := 6) (ret := none) (by decide +kernel) rfl ?_
  intro p e s m args below meth c s₁ B hml hv
  obtain ⟨C0, hh, hR, rfl⟩ := ent B hml hst hv
  rw [lg_entry_eq]
  have hl := lv_entry ([.ref (ad 1 i0), .int x1, .int x2, .int x3]) (n := 6) (Nat.le_of_ble_eq_true rfl)
  generalize (lg_sl ([.ref (ad 1 i0), .int x1, .int x2, .int x3]) ++ List.replicate (6 - (lg_sl ([.ref (ad 1 i0), .int x1, .int x2, .int x3])).length) Slot.unset).toArray = ls at hl ⊢
  exact b_X2_quench_0 C0 hR σ i0 x1 x2 x3 hi0 _ _ _ hh hl r0 h0
theorem qc9 {R : Room} {s : State} {args : Array Value} (ht : ∀ w ∈ allw, w.before args s = true) (hR : (rmX1_highest).frames + 1 ≤ R.frames ∧ 8 + (3 + 11) + (rmX1_highest).locals ≤ R.locals) : CallW R s args RX2 RX1 85 yX1_highest cX1_highest 3 (some .int) (wm yX1_highest cX1_highest 3 (some .int)) rmX1_highest 0 0 0 := cwV 0 ht (gd_of (fun _ h => h) _ (mV w115 w117 w118 w15 w116)) rfl rfl rfl (by decide +kernel) hR
theorem qc10 {R : Room} {s : State} {args : Array Value} (ht : ∀ w ∈ allw, w.before args s = true) (hl : va_Nw (.methodLinkNest RX2 88 yX3_biteOf "Teethrow") s) (hR : (rmX3_biteOf).frames + 1 ≤ R.frames ∧ 8 + (2 + 11) + (rmX3_biteOf).locals ≤ R.locals) : va_CN R s args RX2 88 yX3_biteOf "Teethrow" cX3_biteOf 2 (some .int) (wm yX3_biteOf cX3_biteOf 2 (some .int)) rmX3_biteOf 0 0 2 ∧ (Cond.static yX3_biteOf).before args s = true ∧ True := ⟨va_cnB 2 ht (gd_of (fun _ h => h) _ (mC0 w75)) rfl rfl rfl hl (ht _ w64) (by decide +kernel) hR, ht _ w76, trivial⟩
def rmX2_greatestBite : Room := { frames := 2, cells := 0, slots := 0, locals := 43 }
def f_X2_greatestBite_0 (σ : Sg) (i0 : Nat) : Option (Int32 × Sg) :=
  (if ((σ.1 1 i0 4) : Int32) = (104 : Int32) then ((f_X1_highest σ i0).bind (fun r1 => ((f_X3_biteOf r1.2 (r1.2.1 1 i0 7) 1).bind (fun r2 => (some ((if (r2.1 : Int32) < r1.1 then r2.1 else r1.1), r2.2)))))) else (some (0, σ)))
set_option maxRecDepth 100000 in
set_option maxHeartbeats 4000000 in
theorem b_X2_greatestBite_0 (C0 : Cx p l s m args meth c cX2_greatestBite 1 RX2 D cy n0) (hR : meth.sig.returnType = (some .int)) (σ : Sg) (i0 : Nat) (hi0 : i0 < nT) (H : Heap) (locs : List Loc) (ls : Array Slot) (hh : Hp D cy n0 ad nT nO s σ H locs) (hl : lv_has ls 1 [(0, .ref (ad 1 i0))]) : Sm (Qr below args s D cy n0 ad nT nO vI 0 0) (f_X2_greatestBite_0 σ i0) p l e rmX2_greatestBite s m args below meth c H locs 0 0 (F0 m 0 ls []) := by
  unfold f_X2_greatestBite_0
  refine s_aload_n C0 dX2_greatestBite_0 rfl (lv_at hl 0 rfl) ?_
  refine s_get (v := .int (σ.1 1 i0 4)) C0 hh (rl_1 hi0) rfl (T := TX2) (N := 14) rfl hinX2 (by decide) w12 rfl dX2_greatestBite_1 ?_
  refine s_bipush (v := 104) C0 dX2_greatestBite_4 (by decide) ?_
  refine s_icmp_ne (tgt := 30) C0 dX2_greatestBite_6 (by decide) (fun _ => ?_) (fun _ => ?_)
  · refine s_iconst (v := 0) C0 dX2_greatestBite_30 (by decide) ?_
    exact s_iret C0 hh hR rfl (Nat.le_of_ble_eq_true rfl) (Nat.le_of_ble_eq_true rfl) dX2_greatestBite_31
  · refine s_aload_n C0 dX2_greatestBite_9 rfl (lv_at hl 0 rfl) ?_
    refine s_get (v := .ref (ad 2 i0)) C0 hh (rl_1 hi0) rfl (T := TX2) (N := 14) rfl hinX2 (by decide) w19 rfl dX2_greatestBite_10 ?_
    refine s_V (As := []) (rest := []) C0 hh (c_X1_highest C0.2.2.2.2.2.2 _ i0 (Or.inl hi0)) (qc9 C0.1.2.2.2.2 ⟨Nat.le_of_ble_eq_true rfl, Nat.le_of_ble_eq_true rfl⟩) (rl_2 (Or.inl hi0)) rfl rfl rfl hl.1 rfl (lv_room (Nat.le_of_ble_eq_true rfl)) dX2_greatestBite_13 ⟨Nat.le_of_ble_eq_true rfl, Nat.le_of_ble_eq_true rfl⟩ (fun r1 H locs hor1 hh => ?_)
    refine s_aload_n C0 dX2_greatestBite_16 rfl (lv_at hl 0 rfl) ?_
    refine s_get (v := .int (r1.2.1 1 i0 7)) C0 hh (rl_1 hi0) rfl (T := TX2) (N := 14) rfl hinX2 (by decide) w113 rfl dX2_greatestBite_17 ?_
    refine s_iconst (v := 1) C0 dX2_greatestBite_20 (by decide) ?_
    refine s_SN (As := [.int (r1.2.1 1 i0 7), .int 1]) (rest := [.int r1.1]) C0 hh (c_X3_biteOf C0.2.2.2.2.2.2 _ (r1.2.1 1 i0 7) 1) (qc10 C0.1.2.2.2.2 (C0.2.2.2.2.2.1.1 _ w119) ⟨Nat.le_of_ble_eq_true rfl, Nat.le_of_ble_eq_true rfl⟩) rfl hl.1 rfl (lv_room (Nat.le_of_ble_eq_true rfl)) dX2_greatestBite_21 ⟨Nat.le_of_ble_eq_true rfl, Nat.le_of_ble_eq_true rfl⟩ (fun r2 H locs hor2 hh => ?_)
    refine s_mmin C0 w112 w78 w72 w79 hl.1 (Nat.le_of_ble_eq_true rfl) (Nat.le_of_ble_eq_true rfl) (Nat.le_of_ble_eq_true rfl) (Nat.le_of_ble_eq_true rfl) dX2_greatestBite_24 ?_
    refine s_goto (tgt := 31) C0 dX2_greatestBite_27 (by decide) ?_
    exact s_iret C0 hh hR rfl (Nat.le_of_ble_eq_true rfl) (Nat.le_of_ble_eq_true rfl) dX2_greatestBite_31
def f_X2_greatestBite (σ : Sg) (i0 : Nat) : Option (Int32 × Sg) := f_X2_greatestBite_0 σ i0
set_option maxRecDepth 100000 in
set_option maxHeartbeats 4000000 in
theorem c_X2_greatestBite (hst : l.stackTraces = false) (σ : Sg) (i0 : Nat) (hi0 : i0 < nT) : Ct l yX2_greatestBite (wm yX2_greatestBite cX2_greatestBite 1 (some .int)) rmX2_greatestBite 0 0 vI [.ref (ad 1 i0)] D cy n0 ad nT nO  σ (f_X2_greatestBite σ i0) := by
  intro r0 h0
  refine Met.ofW (cc := cX2_greatestBite) (maxL := 1) (ret := (some .int)) (by decide +kernel) rfl ?_
  intro p e s m args below meth c s₁ B hml hv
  obtain ⟨C0, hh, hR, rfl⟩ := ent B hml hst hv
  rw [lg_entry_eq]
  have hl := lv_entry ([.ref (ad 1 i0)]) (n := 1) (Nat.le_of_ble_eq_true rfl)
  generalize (lg_sl ([.ref (ad 1 i0)]) ++ List.replicate (1 - (lg_sl ([.ref (ad 1 i0)])).length) Slot.unset).toArray = ls at hl ⊢
  exact b_X2_greatestBite_0 C0 hR σ i0 hi0 _ _ _ hh hl r0 h0
theorem qc11 {R : Room} {s : State} {args : Array Value} (ht : ∀ w ∈ allw, w.before args s = true) (hR : (rmX2_greatestBite).frames + 1 ≤ R.frames ∧ 8 + (1 + 11) + (rmX2_greatestBite).locals ≤ R.locals) : CallW R s args RX2 RX2 65 yX2_greatestBite cX2_greatestBite 1 (some .int) (wm yX2_greatestBite cX2_greatestBite 1 (some .int)) rmX2_greatestBite 0 0 0 := cwV 0 ht (gd_of (fun _ h => h) _ (mV w121 w123 w124 w102 w122)) rfl rfl rfl (by decide +kernel) hR
def rmX2_oneMoreBite : Room := { frames := 3, cells := 0, slots := 0, locals := 63 }
def f_X2_oneMoreBite_0 (σ : Sg) (i0 : Nat) : Option (Int32 × Sg) :=
  ((f_X2_greatestBite σ i0).bind (fun r1 => (some ((if ((σ.1 1 i0 11) : Int32) < r1.1 then r1.1 else (σ.1 1 i0 11)), r1.2))))
set_option maxRecDepth 100000 in
set_option maxHeartbeats 4000000 in
theorem b_X2_oneMoreBite_0 (C0 : Cx p l s m args meth c cX2_oneMoreBite 1 RX2 D cy n0) (hR : meth.sig.returnType = (some .int)) (σ : Sg) (i0 : Nat) (hi0 : i0 < nT) (H : Heap) (locs : List Loc) (ls : Array Slot) (hh : Hp D cy n0 ad nT nO s σ H locs) (hl : lv_has ls 1 [(0, .ref (ad 1 i0))]) : Sm (Qr below args s D cy n0 ad nT nO vI 0 0) (f_X2_oneMoreBite_0 σ i0) p l e rmX2_oneMoreBite s m args below meth c H locs 0 0 (F0 m 0 ls []) := by
  unfold f_X2_oneMoreBite_0
  refine s_aload_n C0 dX2_oneMoreBite_0 rfl (lv_at hl 0 rfl) ?_
  refine s_get (v := .int (σ.1 1 i0 11)) C0 hh (rl_1 hi0) rfl (T := TX2) (N := 14) rfl hinX2 (by decide) w120 rfl dX2_oneMoreBite_1 ?_
  refine s_aload_n C0 dX2_oneMoreBite_4 rfl (lv_at hl 0 rfl) ?_
  refine s_V (As := []) (rest := [.int (σ.1 1 i0 11)]) C0 hh (c_X2_greatestBite C0.2.2.2.2.2.2 _ i0 hi0) (qc11 C0.1.2.2.2.2 ⟨Nat.le_of_ble_eq_true rfl, Nat.le_of_ble_eq_true rfl⟩) (rl_1 hi0) rfl rfl rfl hl.1 rfl (lv_room (Nat.le_of_ble_eq_true rfl)) dX2_oneMoreBite_5 ⟨Nat.le_of_ble_eq_true rfl, Nat.le_of_ble_eq_true rfl⟩ (fun r1 H locs hor1 hh => ?_)
  refine s_mmax C0 w111 w71 w72 w73 hl.1 (Nat.le_of_ble_eq_true rfl) (Nat.le_of_ble_eq_true rfl) (Nat.le_of_ble_eq_true rfl) (Nat.le_of_ble_eq_true rfl) dX2_oneMoreBite_8 ?_
  exact s_iret C0 hh hR rfl (Nat.le_of_ble_eq_true rfl) (Nat.le_of_ble_eq_true rfl) dX2_oneMoreBite_11
def f_X2_oneMoreBite (σ : Sg) (i0 : Nat) : Option (Int32 × Sg) := f_X2_oneMoreBite_0 σ i0
set_option maxRecDepth 100000 in
set_option maxHeartbeats 4000000 in
theorem c_X2_oneMoreBite (hst : l.stackTraces = false) (σ : Sg) (i0 : Nat) (hi0 : i0 < nT) : Ct l yX2_oneMoreBite (wm yX2_oneMoreBite cX2_oneMoreBite 1 (some .int)) rmX2_oneMoreBite 0 0 vI [.ref (ad 1 i0)] D cy n0 ad nT nO  σ (f_X2_oneMoreBite σ i0) := by
  intro r0 h0
  refine Met.ofW (cc := cX2_oneMoreBite) (maxL := 1) (ret := (some .int)) (by decide +kernel) rfl ?_
  intro p e s m args below meth c s₁ B hml hv
  obtain ⟨C0, hh, hR, rfl⟩ := ent B hml hst hv
  rw [lg_entry_eq]
  have hl := lv_entry ([.ref (ad 1 i0)]) (n := 1) (Nat.le_of_ble_eq_true rfl)
  generalize (lg_sl ([.ref (ad 1 i0)]) ++ List.replicate (1 - (lg_sl ([.ref (ad 1 i0)])).length) Slot.unset).toArray = ls at hl ⊢
  exact b_X2_oneMoreBite_0 C0 hR σ i0 hi0 _ _ _ hh hl r0 h0
theorem qc12 {R : Room} {s : State} {args : Array Value} (ht : ∀ w ∈ allw, w.before args s = true) (hR : (rmX2_cool).frames + 1 ≤ R.frames ∧ 8 + (1 + 11) + (rmX2_cool).locals ≤ R.locals) : CallW R s args RX2 RX2 62 yX2_cool cX2_cool 1 none (wm yX2_cool cX2_cool 1 none) rmX2_cool 0 0 0 := cwV 0 ht (gd_of (fun _ h => h) _ (mV w125 w127 w128 w102 w126)) rfl rfl rfl (by decide +kernel) hR
theorem qc13 {R : Room} {s : State} {args : Array Value} (ht : ∀ w ∈ allw, w.before args s = true) (hR : (rmX2_holds).frames + 1 ≤ R.frames ∧ 8 + (1 + 11) + (rmX2_holds).locals ≤ R.locals) : CallW R s args RX2 RX2 75 yX2_holds cX2_holds 1 (some .int) (wm yX2_holds cX2_holds 1 (some .int)) rmX2_holds 0 0 0 := cwV 0 ht (gd_of (fun _ h => h) _ (mV w130 w132 w133 w102 w131)) rfl rfl rfl (by decide +kernel) hR
theorem qc14 {R : Room} {s : State} {args : Array Value} (ht : ∀ w ∈ allw, w.before args s = true) (hR : (rmX1_stroke).frames + 1 ≤ R.frames ∧ 8 + (7 + 11) + (rmX1_stroke).locals ≤ R.locals) : CallW R s args RX2 RX1 78 yX1_stroke cX1_stroke 7 (some .int) (wm yX1_stroke cX1_stroke 7 (some .int)) rmX1_stroke 0 0 3 := cwV 3 ht (gd_of (fun _ h => h) _ (mV w134 w136 w137 w15 w135)) rfl rfl rfl (by decide +kernel) hR
def rmX2_bite : Room := { frames := 3, cells := 0, slots := 0, locals := 70 }
def f_X2_bite_100 (σ : Sg) (i0 : Nat) (x5 : Int32) : Option (Int32 × Sg) :=
  (some (x5, (sv σ 1 i0 12 ((σ.1 1 i0 12) + x5))))
set_option maxRecDepth 100000 in
set_option maxHeartbeats 4000000 in
theorem b_X2_bite_100 (C0 : Cx p l s m args meth c cX2_bite 8 RX2 D cy n0) (hR : meth.sig.returnType = (some .int)) (σ : Sg) (i0 : Nat) (x5 : Int32) (hi0 : i0 < nT) (H : Heap) (locs : List Loc) (ls : Array Slot) (hh : Hp D cy n0 ad nT nO s σ H locs) (hl : lv_has ls 8 [(0, .ref (ad 1 i0)), (5, .int x5)]) : Sm (Qr below args s D cy n0 ad nT nO vI 0 0) (f_X2_bite_100 σ i0 x5) p l e rmX2_bite s m args below meth c H locs 0 0 (F0 m 100 ls []) := by
  unfold f_X2_bite_100
  refine s_aload_n C0 dX2_bite_100 rfl (lv_at hl 0 rfl) ?_
  refine s_dup C0 dX2_bite_101 rfl ?_
  refine s_get (v := .int (σ.1 1 i0 12)) C0 hh (rl_1 hi0) rfl (T := TX2) (N := 14) rfl hinX2 (by decide) w129 rfl dX2_bite_102 ?_
  refine s_iload C0 dX2_bite_105 (lv_at hl 1 rfl) ?_
  refine s_iadd C0 dX2_bite_107 ?_
  refine s_put C0 hh (rl_1 hi0) rfl rfl (T := TX2) (N := 14) rfl hinX2 tyX2 tyX2_ok nmX2 (by decide) w129 rfl (ty := .int) (by decide +kernel) rfl rfl (Nat.le_of_ble_eq_true rfl) (by decide) (by decide) (by decide) dX2_bite_108 (fun H locs hh => ?_)
  refine s_iload C0 dX2_bite_111 (lv_at hl 1 rfl) ?_
  exact s_iret C0 hh hR rfl (Nat.le_of_ble_eq_true rfl) (Nat.le_of_ble_eq_true rfl) dX2_bite_113
def g_X2_bite_32 (rec32 : Sg → Nat → Int32 → Int32 → Int32 → Int32 → Int32 → Int32 → Option (Int32 × Sg)) (σ : Sg) (i0 : Nat) (x1 : Int32) (x2 : Int32) (x3 : Int32) (x4 : Int32) (x5 : Int32) (x6 : Int32) : Option (Int32 × Sg) :=
  (if x2 ≤ (x6 : Int32) then (if (x5 : Int32) ≤ (0 : Int32) then (f_X2_bite_100 σ i0 x5) else (f_X2_bite_100 (sv σ 1 i0 11 (if (x4 : Int32) < x3 then x3 else x4)) i0 x5)) else ((f_X2_holds σ i0).bind (fun r3 => ((f_X1_stroke r3.2 i0 (σ.1 1 i0 7) x1 (r3.1 - (r3.2.1 1 i0 10))).bind (fun r4 => (rec32 (sv r4.2 1 i0 10 ((r4.2.1 1 i0 10) + r4.1)) i0 x1 x2 x3 x4 (x5 + r4.1) (x6 + 1)))))))
def f_X2_bite_32 : Nat → Sg → Nat → Int32 → Int32 → Int32 → Int32 → Int32 → Int32 → Option (Int32 × Sg)
  | 0 => fun _ _ _ _ _ _ _ _ => none
  | n + 1 => fun σ i0 x1 x2 x3 x4 x5 x6 => g_X2_bite_32 (f_X2_bite_32 n) σ i0 x1 x2 x3 x4 x5 x6
set_option maxRecDepth 100000 in
set_option maxHeartbeats 4000000 in
theorem a_X2_bite_32 (C0 : Cx p l s m args meth c cX2_bite 8 RX2 D cy n0) (hR : meth.sig.returnType = (some .int)) (rec32 : Sg → Nat → Int32 → Int32 → Int32 → Int32 → Int32 → Int32 → Option (Int32 × Sg)) (hrec32 : ∀ (σ : Sg) (i0 : Nat) (x1 : Int32) (x2 : Int32) (x3 : Int32) (x4 : Int32) (x5 : Int32) (x6 : Int32) (hi0 : i0 < nT) (H : Heap) (locs : List Loc) (ls : Array Slot), Hp D cy n0 ad nT nO s σ H locs → lv_has ls 8 [(0, .ref (ad 1 i0)), (1, .int x1), (2, .int x2), (3, .int x3), (4, .int x4), (5, .int x5), (6, .int x6)] → Sm (Qr below args s D cy n0 ad nT nO vI 0 0) (rec32 σ i0 x1 x2 x3 x4 x5 x6) p l e rmX2_bite s m args below meth c H locs 0 0 (F0 m 32 ls [])) (σ : Sg) (i0 : Nat) (x1 : Int32) (x2 : Int32) (x3 : Int32) (x4 : Int32) (x5 : Int32) (x6 : Int32) (hi0 : i0 < nT) (H : Heap) (locs : List Loc) (ls : Array Slot) (hh : Hp D cy n0 ad nT nO s σ H locs) (hl : lv_has ls 8 [(0, .ref (ad 1 i0)), (1, .int x1), (2, .int x2), (3, .int x3), (4, .int x4), (5, .int x5), (6, .int x6)]) : Sm (Qr below args s D cy n0 ad nT nO vI 0 0) (g_X2_bite_32 rec32 σ i0 x1 x2 x3 x4 x5 x6) p l e rmX2_bite s m args below meth c H locs 0 0 (F0 m 32 ls []) := by
  unfold g_X2_bite_32
  refine s_iload C0 dX2_bite_32 (lv_at hl 6 rfl) ?_
  refine s_iload_n C0 dX2_bite_34 rfl (lv_at hl 2 rfl) ?_
  refine s_icmp_ge (tgt := 85) C0 dX2_bite_35 (by decide) (fun _ => ?_) (fun _ => ?_)
  · refine s_iload C0 dX2_bite_85 (lv_at hl 5 rfl) ?_
    refine s_if_le (tgt := 100) C0 dX2_bite_87 (by decide) (fun _ => ?_) (fun _ => ?_)
    · exact b_X2_bite_100 C0 hR σ i0 x5 hi0 _ _ _ hh (lv_sub hl [0, 5] rfl)
    · refine s_aload_n C0 dX2_bite_90 rfl (lv_at hl 0 rfl) ?_
      refine s_iload C0 dX2_bite_91 (lv_at hl 4 rfl) ?_
      refine s_iload_n C0 dX2_bite_93 rfl (lv_at hl 3 rfl) ?_
      refine s_mmax C0 w111 w71 w72 w73 hl.1 (Nat.le_of_ble_eq_true rfl) (Nat.le_of_ble_eq_true rfl) (Nat.le_of_ble_eq_true rfl) (Nat.le_of_ble_eq_true rfl) dX2_bite_94 ?_
      refine s_put C0 hh (rl_1 hi0) rfl rfl (T := TX2) (N := 14) rfl hinX2 tyX2 tyX2_ok nmX2 (by decide) w120 rfl (ty := .int) (by decide +kernel) rfl rfl (Nat.le_of_ble_eq_true rfl) (by decide) (by decide) (by decide) dX2_bite_97 (fun H locs hh => ?_)
      exact b_X2_bite_100 C0 hR (sv σ 1 i0 11 (if (x4 : Int32) < x3 then x3 else x4)) i0 x5 hi0 _ _ _ hh (lv_sub hl [0, 5] rfl)
  · refine s_aload_n C0 dX2_bite_38 rfl (lv_at hl 0 rfl) ?_
    refine s_get (v := .ref (ad 2 i0)) C0 hh (rl_1 hi0) rfl (T := TX2) (N := 14) rfl hinX2 (by decide) w19 rfl dX2_bite_39 ?_
    refine s_aload_n C0 dX2_bite_42 rfl (lv_at hl 0 rfl) ?_
    refine s_get (v := .int (σ.1 1 i0 7)) C0 hh (rl_1 hi0) rfl (T := TX2) (N := 14) rfl hinX2 (by decide) w113 rfl dX2_bite_43 ?_
    refine s_iload_n C0 dX2_bite_46 rfl (lv_at hl 1 rfl) ?_
    refine s_aload_n C0 dX2_bite_47 rfl (lv_at hl 0 rfl) ?_
    refine s_V (As := []) (rest := [.int x1, .int (σ.1 1 i0 7), .ref (ad 2 i0)]) C0 hh (c_X2_holds C0.2.2.2.2.2.2 _ i0 hi0) (qc13 C0.1.2.2.2.2 ⟨Nat.le_of_ble_eq_true rfl, Nat.le_of_ble_eq_true rfl⟩) (rl_1 hi0) rfl rfl rfl hl.1 rfl (lv_room (Nat.le_of_ble_eq_true rfl)) dX2_bite_48 ⟨Nat.le_of_ble_eq_true rfl, Nat.le_of_ble_eq_true rfl⟩ (fun r3 H locs hor3 hh => ?_)
    refine s_aload_n C0 dX2_bite_51 rfl (lv_at hl 0 rfl) ?_
    refine s_get (v := .int (r3.2.1 1 i0 10)) C0 hh (rl_1 hi0) rfl (T := TX2) (N := 14) rfl hinX2 (by decide) w109 rfl dX2_bite_52 ?_
    refine s_isub C0 dX2_bite_55 ?_
    refine s_V (As := [.int (σ.1 1 i0 7), .int x1, .int (r3.1 - (r3.2.1 1 i0 10))]) (rest := []) C0 hh (c_X1_stroke C0.2.2.2.2.2.2 _ i0 (σ.1 1 i0 7) x1 (r3.1 - (r3.2.1 1 i0 10)) (Or.inl hi0)) (qc14 C0.1.2.2.2.2 ⟨Nat.le_of_ble_eq_true rfl, Nat.le_of_ble_eq_true rfl⟩) (rl_2 (Or.inl hi0)) rfl rfl rfl hl.1 rfl (lv_room (Nat.le_of_ble_eq_true rfl)) dX2_bite_56 ⟨Nat.le_of_ble_eq_true rfl, Nat.le_of_ble_eq_true rfl⟩ (fun r4 H locs hor4 hh => ?_)
    refine s_istore (lv' := [(7, .int r4.1), (0, .ref (ad 1 i0)), (1, .int x1), (2, .int x2), (3, .int x3), (4, .int x4), (5, .int x5), (6, .int x6)]) C0 dX2_bite_59 hl (by decide) rfl (fun ls hl => ?_)
    refine s_aload_n C0 dX2_bite_61 rfl (lv_at hl 1 rfl) ?_
    refine s_dup C0 dX2_bite_62 rfl ?_
    refine s_get (v := .int (r4.2.1 1 i0 10)) C0 hh (rl_1 hi0) rfl (T := TX2) (N := 14) rfl hinX2 (by decide) w109 rfl dX2_bite_63 ?_
    refine s_iload C0 dX2_bite_66 (lv_at hl 0 rfl) ?_
    refine s_iadd C0 dX2_bite_68 ?_
    refine s_put C0 hh (rl_1 hi0) rfl rfl (T := TX2) (N := 14) rfl hinX2 tyX2 tyX2_ok nmX2 (by decide) w109 rfl (ty := .int) (by decide +kernel) rfl rfl (Nat.le_of_ble_eq_true rfl) (by decide) (by decide) (by decide) dX2_bite_69 (fun H locs hh => ?_)
    refine s_iload C0 dX2_bite_72 (lv_at hl 6 rfl) ?_
    refine s_iload C0 dX2_bite_74 (lv_at hl 0 rfl) ?_
    refine s_iadd C0 dX2_bite_76 ?_
    refine s_istore (lv' := [(5, .int (x5 + r4.1)), (7, .int r4.1), (0, .ref (ad 1 i0)), (1, .int x1), (2, .int x2), (3, .int x3), (4, .int x4), (6, .int x6)]) C0 dX2_bite_77 hl (by decide) rfl (fun ls hl => ?_)
    refine s_iinc (k := 7) (v := (x6 + 1)) (lv' := [(6, .int (x6 + 1)), (5, .int (x5 + r4.1)), (7, .int r4.1), (0, .ref (ad 1 i0)), (1, .int x1), (2, .int x2), (3, .int x3), (4, .int x4)]) C0 dX2_bite_79 hl rfl rfl (by decide) rfl (fun ls hl => ?_)
    refine s_goto (tgt := 32) C0 dX2_bite_82 (by decide) ?_
    exact hrec32 (sv r4.2 1 i0 10 ((r4.2.1 1 i0 10) + r4.1)) i0 x1 x2 x3 x4 (x5 + r4.1) (x6 + 1) hi0 _ _ _ hh (lv_sub hl [3, 4, 5, 6, 7, 1, 0] rfl)
theorem b_X2_bite_32 (C0 : Cx p l s m args meth c cX2_bite 8 RX2 D cy n0) (hR : meth.sig.returnType = (some .int)) : ∀ (n : Nat) (σ : Sg) (i0 : Nat) (x1 : Int32) (x2 : Int32) (x3 : Int32) (x4 : Int32) (x5 : Int32) (x6 : Int32) (hi0 : i0 < nT) (H : Heap) (locs : List Loc) (ls : Array Slot) (hh : Hp D cy n0 ad nT nO s σ H locs) (hl : lv_has ls 8 [(0, .ref (ad 1 i0)), (1, .int x1), (2, .int x2), (3, .int x3), (4, .int x4), (5, .int x5), (6, .int x6)]), Sm (Qr below args s D cy n0 ad nT nO vI 0 0) (f_X2_bite_32 n σ i0 x1 x2 x3 x4 x5 x6) p l e rmX2_bite s m args below meth c H locs 0 0 (F0 m 32 ls []) := by
  intro n
  induction n with
  | zero => intros; intro r h; cases h
  | succ n ih => intro σ i0 x1 x2 x3 x4 x5 x6 hi0 H locs ls hh hl; exact a_X2_bite_32 C0 hR (f_X2_bite_32 n) ih σ i0 x1 x2 x3 x4 x5 x6 hi0 H locs ls hh hl
def f_X2_bite_24 (σ : Sg) (i0 : Nat) (x1 : Int32) (x2 : Int32) (x3 : Int32) (s0 : Int32) : Option (Int32 × Sg) :=
  (f_X2_bite_32 70 σ i0 x1 x2 x3 s0 0 0)
set_option maxRecDepth 100000 in
set_option maxHeartbeats 4000000 in
theorem b_X2_bite_24 (C0 : Cx p l s m args meth c cX2_bite 8 RX2 D cy n0) (hR : meth.sig.returnType = (some .int)) (σ : Sg) (i0 : Nat) (x1 : Int32) (x2 : Int32) (x3 : Int32) (s0 : Int32) (hi0 : i0 < nT) (H : Heap) (locs : List Loc) (ls : Array Slot) (hh : Hp D cy n0 ad nT nO s σ H locs) (hl : lv_has ls 8 [(0, .ref (ad 1 i0)), (1, .int x1), (2, .int x2), (3, .int x3)]) : Sm (Qr below args s D cy n0 ad nT nO vI 0 0) (f_X2_bite_24 σ i0 x1 x2 x3 s0) p l e rmX2_bite s m args below meth c H locs 0 0 (F0 m 24 ls [.int s0]) := by
  unfold f_X2_bite_24
  refine s_istore (lv' := [(4, .int s0), (0, .ref (ad 1 i0)), (1, .int x1), (2, .int x2), (3, .int x3)]) C0 dX2_bite_24 hl (by decide) rfl (fun ls hl => ?_)
  refine s_iconst (v := 0) C0 dX2_bite_26 (by decide) ?_
  refine s_istore (lv' := [(5, .int 0), (4, .int s0), (0, .ref (ad 1 i0)), (1, .int x1), (2, .int x2), (3, .int x3)]) C0 dX2_bite_27 hl (by decide) rfl (fun ls hl => ?_)
  refine s_iconst (v := 0) C0 dX2_bite_29 (by decide) ?_
  refine s_istore (lv' := [(6, .int 0), (5, .int 0), (4, .int s0), (0, .ref (ad 1 i0)), (1, .int x1), (2, .int x2), (3, .int x3)]) C0 dX2_bite_30 hl (by decide) rfl (fun ls hl => ?_)
  exact b_X2_bite_32 C0 hR 70 σ i0 x1 x2 x3 s0 0 0 hi0 _ _ _ hh (lv_sub hl [3, 4, 5, 6, 2, 1, 0] rfl)
def f_X2_bite_0 (σ : Sg) (i0 : Nat) (x1 : Int32) (x2 : Int32) : Option (Int32 × Sg) :=
  ((f_X2_cool σ i0).bind (fun r1 => ((f_X2_greatestBite r1.2 i0).bind (fun r2 => (if ((r2.2.1 1 i0 10) : Int32) ≤ (0 : Int32) then (f_X2_bite_24 r2.2 i0 x1 x2 r2.1 0) else (f_X2_bite_24 r2.2 i0 x1 x2 r2.1 (r2.2.1 1 i0 11)))))))
set_option maxRecDepth 100000 in
set_option maxHeartbeats 4000000 in
theorem b_X2_bite_0 (C0 : Cx p l s m args meth c cX2_bite 8 RX2 D cy n0) (hR : meth.sig.returnType = (some .int)) (σ : Sg) (i0 : Nat) (x1 : Int32) (x2 : Int32) (hi0 : i0 < nT) (H : Heap) (locs : List Loc) (ls : Array Slot) (hh : Hp D cy n0 ad nT nO s σ H locs) (hl : lv_has ls 8 [(0, .ref (ad 1 i0)), (1, .int x1), (2, .int x2)]) : Sm (Qr below args s D cy n0 ad nT nO vI 0 0) (f_X2_bite_0 σ i0 x1 x2) p l e rmX2_bite s m args below meth c H locs 0 0 (F0 m 0 ls []) := by
  unfold f_X2_bite_0
  refine s_aload_n C0 dX2_bite_0 rfl (lv_at hl 0 rfl) ?_
  refine s_V (As := []) (rest := []) C0 hh (c_X2_cool C0.2.2.2.2.2.2 _ i0 hi0) (qc12 C0.1.2.2.2.2 ⟨Nat.le_of_ble_eq_true rfl, Nat.le_of_ble_eq_true rfl⟩) (rl_1 hi0) rfl rfl rfl hl.1 rfl (lv_room (Nat.le_of_ble_eq_true rfl)) dX2_bite_1 ⟨Nat.le_of_ble_eq_true rfl, Nat.le_of_ble_eq_true rfl⟩ (fun r1 H locs hor1 hh => ?_)
  refine s_aload_n C0 dX2_bite_4 rfl (lv_at hl 0 rfl) ?_
  refine s_V (As := []) (rest := []) C0 hh (c_X2_greatestBite C0.2.2.2.2.2.2 _ i0 hi0) (qc11 C0.1.2.2.2.2 ⟨Nat.le_of_ble_eq_true rfl, Nat.le_of_ble_eq_true rfl⟩) (rl_1 hi0) rfl rfl rfl hl.1 rfl (lv_room (Nat.le_of_ble_eq_true rfl)) dX2_bite_5 ⟨Nat.le_of_ble_eq_true rfl, Nat.le_of_ble_eq_true rfl⟩ (fun r2 H locs hor2 hh => ?_)
  refine s_istore_n (lv' := [(3, .int r2.1), (0, .ref (ad 1 i0)), (1, .int x1), (2, .int x2)]) C0 dX2_bite_8 rfl hl (by decide) rfl (fun ls hl => ?_)
  refine s_aload_n C0 dX2_bite_9 rfl (lv_at hl 1 rfl) ?_
  refine s_get (v := .int (r2.2.1 1 i0 10)) C0 hh (rl_1 hi0) rfl (T := TX2) (N := 14) rfl hinX2 (by decide) w109 rfl dX2_bite_10 ?_
  refine s_if_le (tgt := 23) C0 dX2_bite_13 (by decide) (fun _ => ?_) (fun _ => ?_)
  · refine s_iconst (v := 0) C0 dX2_bite_23 (by decide) ?_
    exact b_X2_bite_24 C0 hR r2.2 i0 x1 x2 r2.1 0 hi0 _ _ _ hh (lv_sub hl [1, 2, 3, 0] rfl)
  · refine s_aload_n C0 dX2_bite_16 rfl (lv_at hl 1 rfl) ?_
    refine s_get (v := .int (r2.2.1 1 i0 11)) C0 hh (rl_1 hi0) rfl (T := TX2) (N := 14) rfl hinX2 (by decide) w120 rfl dX2_bite_17 ?_
    refine s_goto (tgt := 24) C0 dX2_bite_20 (by decide) ?_
    exact b_X2_bite_24 C0 hR r2.2 i0 x1 x2 r2.1 (r2.2.1 1 i0 11) hi0 _ _ _ hh (lv_sub hl [1, 2, 3, 0] rfl)
def f_X2_bite (σ : Sg) (i0 : Nat) (x1 : Int32) (x2 : Int32) : Option (Int32 × Sg) := f_X2_bite_0 σ i0 x1 x2
set_option maxRecDepth 100000 in
set_option maxHeartbeats 4000000 in
theorem c_X2_bite (hst : l.stackTraces = false) (σ : Sg) (i0 : Nat) (x1 : Int32) (x2 : Int32) (hi0 : i0 < nT) : Ct l yX2_bite (wm yX2_bite cX2_bite 8 (some .int)) rmX2_bite 0 0 vI [.ref (ad 1 i0), .int x1, .int x2] D cy n0 ad nT nO  σ (f_X2_bite σ i0 x1 x2) := by
  intro r0 h0
  refine Met.ofW (cc := cX2_bite) (maxL := 8) (ret := (some .int)) (by decide +kernel) rfl ?_
  intro p e s m args below meth c s₁ B hml hv
  obtain ⟨C0, hh, hR, rfl⟩ := ent B hml hst hv
  rw [lg_entry_eq]
  have hl := lv_entry ([.ref (ad 1 i0), .int x1, .int x2]) (n := 8) (Nat.le_of_ble_eq_true rfl)
  generalize (lg_sl ([.ref (ad 1 i0), .int x1, .int x2]) ++ List.replicate (8 - (lg_sl ([.ref (ad 1 i0), .int x1, .int x2])).length) Slot.unset).toArray = ls at hl ⊢
  exact b_X2_bite_0 C0 hR σ i0 x1 x2 hi0 _ _ _ hh hl r0 h0

def rmX2_addTo : Room := { frames := 0, cells := 0, slots := 0, locals := 0 }
def g_X2_addTo_39 (rec39 : Sg → Nat → Int64 → Int32 → Option (Int64 × Sg)) (σ : Sg) (i0 : Nat) (x3 : Int64) (x5 : Int32) : Option (Int64 × Sg) :=
  (if (σ.1 2 i0 3) ≤ (x5 : Int32) then (some (x3, σ)) else (if (x5 : Int32) < 0 ∨ 60 ≤ (x5 : Int32).toNatClampNeg then none else (rec39 σ i0 ((31 * x3) + ((σ.1 4 i0 (x5 : Int32).toNatClampNeg) : Int32).toInt64) (x5 + 1))))
def f_X2_addTo_39 : Nat → Sg → Nat → Int64 → Int32 → Option (Int64 × Sg)
  | 0 => fun _ _ _ _ => none
  | n + 1 => fun σ i0 x3 x5 => g_X2_addTo_39 (f_X2_addTo_39 n) σ i0 x3 x5
set_option maxRecDepth 100000 in
set_option maxHeartbeats 4000000 in
theorem a_X2_addTo_39 (C0 : Cx p l s m args meth c cX2_addTo 6 RX2 D cy n0) (hR : meth.sig.returnType = (some .long)) (rec39 : Sg → Nat → Int64 → Int32 → Option (Int64 × Sg)) (hrec39 : ∀ (σ : Sg) (i0 : Nat) (x3 : Int64) (x5 : Int32) (hi0 : i0 < nT) (H : Heap) (locs : List Loc) (ls : Array Slot), Hp D cy n0 ad nT nO s σ H locs → lv_has ls 6 [(0, .ref (ad 1 i0)), (3, .long x3), (5, .int x5)] → Sm (Qr below args s D cy n0 ad nT nO vJ 0 0) (rec39 σ i0 x3 x5) p l e rmX2_addTo s m args below meth c H locs 0 0 (F0 m 39 ls [])) (σ : Sg) (i0 : Nat) (x3 : Int64) (x5 : Int32) (hi0 : i0 < nT) (H : Heap) (locs : List Loc) (ls : Array Slot) (hh : Hp D cy n0 ad nT nO s σ H locs) (hl : lv_has ls 6 [(0, .ref (ad 1 i0)), (3, .long x3), (5, .int x5)]) : Sm (Qr below args s D cy n0 ad nT nO vJ 0 0) (g_X2_addTo_39 rec39 σ i0 x3 x5) p l e rmX2_addTo s m args below meth c H locs 0 0 (F0 m 39 ls []) := by
  unfold g_X2_addTo_39
  refine s_iload C0 dX2_addTo_39 (lv_at hl 2 rfl) ?_
  refine s_aload_n C0 dX2_addTo_41 rfl (lv_at hl 0 rfl) ?_
  refine s_get (v := .ref (ad 2 i0)) C0 hh (rl_1 hi0) rfl (T := TX2) (N := 14) rfl hinX2 (by decide) w19 rfl dX2_addTo_42 ?_
  refine s_getN (v := .int (σ.1 2 i0 3)) C0 hh (rl_2 (Or.inl hi0)) rfl (T := TX1) (N := 8) rfl hinX1 (by decide) w99 rfl dX2_addTo_45 ?_
  refine s_icmp_ge (tgt := 75) C0 dX2_addTo_48 (by decide) (fun _ => ?_) (fun _ => ?_)
  · refine s_lload_n C0 dX2_addTo_75 rfl (lv_at hl 1 rfl) ?_
    exact s_lret C0 hh hR (Nat.le_of_ble_eq_true rfl) (Nat.le_of_ble_eq_true rfl) dX2_addTo_76
  · refine s_ldc2 (v := 31) C0 w138 dX2_addTo_51 ?_
    refine s_lload_n C0 dX2_addTo_54 rfl (lv_at hl 1 rfl) ?_
    refine s_lmul C0 dX2_addTo_55 ?_
    refine s_aload_n C0 dX2_addTo_56 rfl (lv_at hl 0 rfl) ?_
    refine s_get (v := .ref (ad 2 i0)) C0 hh (rl_1 hi0) rfl (T := TX2) (N := 14) rfl hinX2 (by decide) w19 rfl dX2_addTo_57 ?_
    refine s_getN (v := .ref (ad 4 i0)) C0 hh (rl_2 (Or.inl hi0)) rfl (T := TX1) (N := 8) rfl hinX1 (by decide) w139 rfl dX2_addTo_60 ?_
    refine s_iload C0 dX2_addTo_63 (lv_at hl 2 rfl) ?_
    refine s_iald (g := (σ.1 4 i0)) C0 hh rfl (rl_4 (Or.inl hi0)) (fun _ => rfl) (t0 := 1) rfl dX2_addTo_65 ?_
    refine s_i2l C0 dX2_addTo_66 rfl ?_
    refine s_ladd C0 dX2_addTo_67 ?_
    refine s_lstore_n (lv' := [(3, .long ((31 * x3) + ((σ.1 4 i0 (x5 : Int32).toNatClampNeg) : Int32).toInt64)), (0, .ref (ad 1 i0)), (5, .int x5)]) C0 dX2_addTo_68 rfl hl (by decide) rfl (fun ls hl => ?_)
    refine s_iinc (k := 2) (v := (x5 + 1)) (lv' := [(5, .int (x5 + 1)), (3, .long ((31 * x3) + ((σ.1 4 i0 (x5 : Int32).toNatClampNeg) : Int32).toInt64)), (0, .ref (ad 1 i0))]) C0 dX2_addTo_69 hl rfl rfl (by decide) rfl (fun ls hl => ?_)
    refine s_goto (tgt := 39) C0 dX2_addTo_72 (by decide) ?_
    exact hrec39 σ i0 ((31 * x3) + ((σ.1 4 i0 (x5 : Int32).toNatClampNeg) : Int32).toInt64) (x5 + 1) hi0 _ _ _ hh (lv_sub hl [2, 1, 0] rfl)
theorem b_X2_addTo_39 (C0 : Cx p l s m args meth c cX2_addTo 6 RX2 D cy n0) (hR : meth.sig.returnType = (some .long)) : ∀ (n : Nat) (σ : Sg) (i0 : Nat) (x3 : Int64) (x5 : Int32) (hi0 : i0 < nT) (H : Heap) (locs : List Loc) (ls : Array Slot) (hh : Hp D cy n0 ad nT nO s σ H locs) (hl : lv_has ls 6 [(0, .ref (ad 1 i0)), (3, .long x3), (5, .int x5)]), Sm (Qr below args s D cy n0 ad nT nO vJ 0 0) (f_X2_addTo_39 n σ i0 x3 x5) p l e rmX2_addTo s m args below meth c H locs 0 0 (F0 m 39 ls []) := by
  intro n
  induction n with
  | zero => intros; intro r h; cases h
  | succ n ih => intro σ i0 x3 x5 hi0 H locs ls hh hl; exact a_X2_addTo_39 C0 hR (f_X2_addTo_39 n) ih σ i0 x3 x5 hi0 H locs ls hh hl
def f_X2_addTo_0 (σ : Sg) (i0 : Nat) (x1 : Int64) : Option (Int64 × Sg) :=
  (f_X2_addTo_39 70 σ i0 ((31 * ((31 * ((31 * x1) + ((σ.1 1 i0 3) : Int32).toInt64)) + ((σ.1 1 i0 7) : Int32).toInt64)) + ((σ.1 1 i0 8) : Int32).toInt64) 0)
set_option maxRecDepth 100000 in
set_option maxHeartbeats 4000000 in
theorem b_X2_addTo_0 (C0 : Cx p l s m args meth c cX2_addTo 6 RX2 D cy n0) (hR : meth.sig.returnType = (some .long)) (σ : Sg) (i0 : Nat) (x1 : Int64) (hi0 : i0 < nT) (H : Heap) (locs : List Loc) (ls : Array Slot) (hh : Hp D cy n0 ad nT nO s σ H locs) (hl : lv_has ls 6 [(0, .ref (ad 1 i0)), (1, .long x1)]) : Sm (Qr below args s D cy n0 ad nT nO vJ 0 0) (f_X2_addTo_0 σ i0 x1) p l e rmX2_addTo s m args below meth c H locs 0 0 (F0 m 0 ls []) := by
  unfold f_X2_addTo_0
  refine s_ldc2 (v := 31) C0 w138 dX2_addTo_0 ?_
  refine s_lload_n C0 dX2_addTo_3 rfl (lv_at hl 1 rfl) ?_
  refine s_lmul C0 dX2_addTo_4 ?_
  refine s_aload_n C0 dX2_addTo_5 rfl (lv_at hl 0 rfl) ?_
  refine s_get (v := .int (σ.1 1 i0 3)) C0 hh (rl_1 hi0) rfl (T := TX2) (N := 14) rfl hinX2 (by decide) w10 rfl dX2_addTo_6 ?_
  refine s_i2l C0 dX2_addTo_9 rfl ?_
  refine s_ladd C0 dX2_addTo_10 ?_
  refine s_lstore_n (lv' := [(3, .long ((31 * x1) + ((σ.1 1 i0 3) : Int32).toInt64)), (0, .ref (ad 1 i0)), (1, .long x1)]) C0 dX2_addTo_11 rfl hl (by decide) rfl (fun ls hl => ?_)
  refine s_ldc2 (v := 31) C0 w138 dX2_addTo_12 ?_
  refine s_lload_n C0 dX2_addTo_15 rfl (lv_at hl 0 rfl) ?_
  refine s_lmul C0 dX2_addTo_16 ?_
  refine s_aload_n C0 dX2_addTo_17 rfl (lv_at hl 1 rfl) ?_
  refine s_get (v := .int (σ.1 1 i0 7)) C0 hh (rl_1 hi0) rfl (T := TX2) (N := 14) rfl hinX2 (by decide) w113 rfl dX2_addTo_18 ?_
  refine s_i2l C0 dX2_addTo_21 rfl ?_
  refine s_ladd C0 dX2_addTo_22 ?_
  refine s_lstore_n (lv' := [(3, .long ((31 * ((31 * x1) + ((σ.1 1 i0 3) : Int32).toInt64)) + ((σ.1 1 i0 7) : Int32).toInt64)), (0, .ref (ad 1 i0)), (1, .long x1)]) C0 dX2_addTo_23 rfl hl (by decide) rfl (fun ls hl => ?_)
  refine s_ldc2 (v := 31) C0 w138 dX2_addTo_24 ?_
  refine s_lload_n C0 dX2_addTo_27 rfl (lv_at hl 0 rfl) ?_
  refine s_lmul C0 dX2_addTo_28 ?_
  refine s_aload_n C0 dX2_addTo_29 rfl (lv_at hl 1 rfl) ?_
  refine s_get (v := .int (σ.1 1 i0 8)) C0 hh (rl_1 hi0) rfl (T := TX2) (N := 14) rfl hinX2 (by decide) w114 rfl dX2_addTo_30 ?_
  refine s_i2l C0 dX2_addTo_33 rfl ?_
  refine s_ladd C0 dX2_addTo_34 ?_
  refine s_lstore_n (lv' := [(3, .long ((31 * ((31 * ((31 * x1) + ((σ.1 1 i0 3) : Int32).toInt64)) + ((σ.1 1 i0 7) : Int32).toInt64)) + ((σ.1 1 i0 8) : Int32).toInt64)), (0, .ref (ad 1 i0)), (1, .long x1)]) C0 dX2_addTo_35 rfl hl (by decide) rfl (fun ls hl => ?_)
  refine s_iconst (v := 0) C0 dX2_addTo_36 (by decide) ?_
  refine s_istore (lv' := [(5, .int 0), (3, .long ((31 * ((31 * ((31 * x1) + ((σ.1 1 i0 3) : Int32).toInt64)) + ((σ.1 1 i0 7) : Int32).toInt64)) + ((σ.1 1 i0 8) : Int32).toInt64)), (0, .ref (ad 1 i0)), (1, .long x1)]) C0 dX2_addTo_37 hl (by decide) rfl (fun ls hl => ?_)
  exact b_X2_addTo_39 C0 hR 70 σ i0 ((31 * ((31 * ((31 * x1) + ((σ.1 1 i0 3) : Int32).toInt64)) + ((σ.1 1 i0 7) : Int32).toInt64)) + ((σ.1 1 i0 8) : Int32).toInt64) 0 hi0 _ _ _ hh (lv_sub hl [2, 1, 0] rfl)
def f_X2_addTo (σ : Sg) (i0 : Nat) (x1 : Int64) : Option (Int64 × Sg) := f_X2_addTo_0 σ i0 x1
set_option maxRecDepth 100000 in
set_option maxHeartbeats 4000000 in
theorem c_X2_addTo (hst : l.stackTraces = false) (σ : Sg) (i0 : Nat) (x1 : Int64) (hi0 : i0 < nT) : Ct l yX2_addTo (wm yX2_addTo cX2_addTo 6 (some .long)) rmX2_addTo 0 0 vJ [.ref (ad 1 i0), .long x1] D cy n0 ad nT nO  σ (f_X2_addTo σ i0 x1) := by
  intro r0 h0
  refine Met.ofW (cc := cX2_addTo) (maxL := 6) (ret := (some .long)) (by decide +kernel) rfl ?_
  intro p e s m args below meth c s₁ B hml hv
  obtain ⟨C0, hh, hR, rfl⟩ := ent B hml hst hv
  rw [lg_entry_eq]
  have hl := lv_entry ([.ref (ad 1 i0), .long x1]) (n := 6) (Nat.le_of_ble_eq_true rfl)
  generalize (lg_sl ([.ref (ad 1 i0), .long x1]) ++ List.replicate (6 - (lg_sl ([.ref (ad 1 i0), .long x1])).length) Slot.unset).toArray = ls at hl ⊢
  exact b_X2_addTo_0 C0 hR σ i0 x1 hi0 _ _ _ hh hl r0 h0
theorem qc15 {R : Room} {s : State} {args : Array Value} (ht : ∀ w ∈ allw, w.before args s = true) (hR : (rmX1_isEven).frames + 1 ≤ R.frames ∧ 8 + (2 + 11) + (rmX1_isEven).locals ≤ R.locals) : CallW R s args RX0 RX1 41 yX1_isEven cX1_isEven 2 (some .boolean) (wm yX1_isEven cX1_isEven 2 (some .boolean)) rmX1_isEven 0 0 0 := cwV 0 ht (gd_of (fun _ h => h) _ (mV w146 w148 w149 w15 w147)) rfl rfl rfl (by decide +kernel) hR
theorem qc16 {R : Room} {s : State} {args : Array Value} (ht : ∀ w ∈ allw, w.before args s = true) (hR : (rmX1_isFresh).frames + 1 ≤ R.frames ∧ 8 + (2 + 11) + (rmX1_isFresh).locals ≤ R.locals) : CallW R s args RX0 RX1 45 yX1_isFresh cX1_isFresh 2 (some .boolean) (wm yX1_isFresh cX1_isFresh 2 (some .boolean)) rmX1_isFresh 0 0 0 := cwV 0 ht (gd_of (fun _ h => h) _ (mV w150 w152 w153 w15 w151)) rfl rfl rfl (by decide +kernel) hR
def rmX0_takes : Room := { frames := 2, cells := 0, slots := 0, locals := 42 }
def f_X0_takes_0 (σ : Sg) (i0 : Nat) (i1 : Nat) : Option (Int32 × Sg) :=
  (if ((σ.1 1 i1 0) : Int32) = (σ.1 6 i0 0) then (if ((σ.1 2 i1 0) : Int32) = (σ.1 6 i0 1) then (if ((σ.1 1 i1 4) : Int32) = (104 : Int32) then (if ((σ.1 1 i1 7) : Int32) < (50 : Int32) then (some (0, σ)) else (if (3 : Int32) < ((σ.1 1 i1 8) : Int32) then (some (0, σ)) else ((f_X1_isEven σ i1).bind (fun r1 => (if (r1.1 : Int32) = (0 : Int32) then ((f_X1_isFresh r1.2 i1).bind (fun r2 => (if (r2.1 : Int32) = (0 : Int32) then (some (0, r2.2)) else (some (1, r2.2))))) else (some (0, r1.2))))))) else (some (0, σ))) else (some (0, σ))) else (some (0, σ)))
set_option maxRecDepth 100000 in
set_option maxHeartbeats 4000000 in
theorem b_X0_takes_0 (C0 : Cx p l s m args meth c cX0_takes 2 RX0 D cy n0) (hR : meth.sig.returnType = (some .boolean)) (σ : Sg) (i0 : Nat) (i1 : Nat) (hi0 : i0 < nO) (hi1 : i1 < nT) (H : Heap) (locs : List Loc) (ls : Array Slot) (hh : Hp D cy n0 ad nT nO s σ H locs) (hl : lv_has ls 2 [(0, .ref (ad 6 i0)), (1, .ref (ad 1 i1))]) : Sm (Qr below args s D cy n0 ad nT nO vI 0 0) (f_X0_takes_0 σ i0 i1) p l e rmX0_takes s m args below meth c H locs 0 0 (F0 m 0 ls []) := by
  unfold f_X0_takes_0
  refine s_aload_n C0 dX0_takes_0 rfl (lv_at hl 1 rfl) ?_
  refine s_getN (v := .int (σ.1 1 i1 0)) C0 hh (rl_1 hi1) rfl (T := TX2) (N := 14) rfl hinX2 (by decide) w140 rfl dX0_takes_1 ?_
  refine s_aload_n C0 dX0_takes_4 rfl (lv_at hl 0 rfl) ?_
  refine s_get (v := .int (σ.1 6 i0 0)) C0 hh (rl_6 hi0) rfl (T := TX0) (N := 4) rfl hinX0 (by decide) w21 rfl dX0_takes_5 ?_
  refine s_icmp_ne (tgt := 75) C0 dX0_takes_8 (by decide) (fun _ => ?_) (fun _ => ?_)
  · refine s_iconst (v := 0) C0 dX0_takes_75 (by decide) ?_
    exact s_iret C0 hh hR narrow_b0 (Nat.le_of_ble_eq_true rfl) (Nat.le_of_ble_eq_true rfl) dX0_takes_76
  · refine s_aload_n C0 dX0_takes_11 rfl (lv_at hl 1 rfl) ?_
    refine s_getN (v := .ref (ad 2 i1)) C0 hh (rl_1 hi1) rfl (T := TX2) (N := 14) rfl hinX2 (by decide) w141 rfl dX0_takes_12 ?_
    refine s_getN (v := .int (σ.1 2 i1 0)) C0 hh (rl_2 (Or.inl hi1)) rfl (T := TX1) (N := 8) rfl hinX1 (by decide) w142 rfl dX0_takes_15 ?_
    refine s_aload_n C0 dX0_takes_18 rfl (lv_at hl 0 rfl) ?_
    refine s_get (v := .int (σ.1 6 i0 1)) C0 hh (rl_6 hi0) rfl (T := TX0) (N := 4) rfl hinX0 (by decide) w22 rfl dX0_takes_19 ?_
    refine s_icmp_ne (tgt := 75) C0 dX0_takes_22 (by decide) (fun _ => ?_) (fun _ => ?_)
    · refine s_iconst (v := 0) C0 dX0_takes_75 (by decide) ?_
      exact s_iret C0 hh hR narrow_b0 (Nat.le_of_ble_eq_true rfl) (Nat.le_of_ble_eq_true rfl) dX0_takes_76
    · refine s_aload_n C0 dX0_takes_25 rfl (lv_at hl 1 rfl) ?_
      refine s_getN (v := .int (σ.1 1 i1 4)) C0 hh (rl_1 hi1) rfl (T := TX2) (N := 14) rfl hinX2 (by decide) w143 rfl dX0_takes_26 ?_
      refine s_bipush (v := 104) C0 dX0_takes_29 (by decide) ?_
      refine s_icmp_ne (tgt := 75) C0 dX0_takes_31 (by decide) (fun _ => ?_) (fun _ => ?_)
      · refine s_iconst (v := 0) C0 dX0_takes_75 (by decide) ?_
        exact s_iret C0 hh hR narrow_b0 (Nat.le_of_ble_eq_true rfl) (Nat.le_of_ble_eq_true rfl) dX0_takes_76
      · refine s_aload_n C0 dX0_takes_34 rfl (lv_at hl 1 rfl) ?_
        refine s_getN (v := .int (σ.1 1 i1 7)) C0 hh (rl_1 hi1) rfl (T := TX2) (N := 14) rfl hinX2 (by decide) w144 rfl dX0_takes_35 ?_
        refine s_bipush (v := 50) C0 dX0_takes_38 (by decide) ?_
        refine s_icmp_lt (tgt := 75) C0 dX0_takes_40 (by decide) (fun _ => ?_) (fun _ => ?_)
        · refine s_iconst (v := 0) C0 dX0_takes_75 (by decide) ?_
          exact s_iret C0 hh hR narrow_b0 (Nat.le_of_ble_eq_true rfl) (Nat.le_of_ble_eq_true rfl) dX0_takes_76
        · refine s_aload_n C0 dX0_takes_43 rfl (lv_at hl 1 rfl) ?_
          refine s_getN (v := .int (σ.1 1 i1 8)) C0 hh (rl_1 hi1) rfl (T := TX2) (N := 14) rfl hinX2 (by decide) w145 rfl dX0_takes_44 ?_
          refine s_iconst (v := 3) C0 dX0_takes_47 (by decide) ?_
          refine s_icmp_gt (tgt := 75) C0 dX0_takes_48 (by decide) (fun _ => ?_) (fun _ => ?_)
          · refine s_iconst (v := 0) C0 dX0_takes_75 (by decide) ?_
            exact s_iret C0 hh hR narrow_b0 (Nat.le_of_ble_eq_true rfl) (Nat.le_of_ble_eq_true rfl) dX0_takes_76
          · refine s_aload_n C0 dX0_takes_51 rfl (lv_at hl 1 rfl) ?_
            refine s_getN (v := .ref (ad 2 i1)) C0 hh (rl_1 hi1) rfl (T := TX2) (N := 14) rfl hinX2 (by decide) w141 rfl dX0_takes_52 ?_
            refine s_V (As := []) (rest := []) C0 hh (c_X1_isEven C0.2.2.2.2.2.2 _ i1 (Or.inl hi1)) (qc15 C0.1.2.2.2.2 ⟨Nat.le_of_ble_eq_true rfl, Nat.le_of_ble_eq_true rfl⟩) (rl_2 (Or.inl hi1)) rfl rfl rfl hl.1 rfl (lv_room (Nat.le_of_ble_eq_true rfl)) dX0_takes_55 ⟨Nat.le_of_ble_eq_true rfl, Nat.le_of_ble_eq_true rfl⟩ (fun r1 H locs hor1 hh => ?_)
            refine s_if_ne (tgt := 75) C0 dX0_takes_58 (by decide) (fun _ => ?_) (fun _ => ?_)
            · refine s_iconst (v := 0) C0 dX0_takes_75 (by decide) ?_
              exact s_iret C0 hh hR narrow_b0 (Nat.le_of_ble_eq_true rfl) (Nat.le_of_ble_eq_true rfl) dX0_takes_76
            · refine s_aload_n C0 dX0_takes_61 rfl (lv_at hl 1 rfl) ?_
              refine s_getN (v := .ref (ad 2 i1)) C0 hh (rl_1 hi1) rfl (T := TX2) (N := 14) rfl hinX2 (by decide) w141 rfl dX0_takes_62 ?_
              refine s_V (As := []) (rest := []) C0 hh (c_X1_isFresh C0.2.2.2.2.2.2 _ i1 (Or.inl hi1)) (qc16 C0.1.2.2.2.2 ⟨Nat.le_of_ble_eq_true rfl, Nat.le_of_ble_eq_true rfl⟩) (rl_2 (Or.inl hi1)) rfl rfl rfl hl.1 rfl (lv_room (Nat.le_of_ble_eq_true rfl)) dX0_takes_65 ⟨Nat.le_of_ble_eq_true rfl, Nat.le_of_ble_eq_true rfl⟩ (fun r2 H locs hor2 hh => ?_)
              refine s_if_eq (tgt := 75) C0 dX0_takes_68 (by decide) (fun _ => ?_) (fun _ => ?_)
              · refine s_iconst (v := 0) C0 dX0_takes_75 (by decide) ?_
                exact s_iret C0 hh hR narrow_b0 (Nat.le_of_ble_eq_true rfl) (Nat.le_of_ble_eq_true rfl) dX0_takes_76
              · refine s_iconst (v := 1) C0 dX0_takes_71 (by decide) ?_
                refine s_goto (tgt := 76) C0 dX0_takes_72 (by decide) ?_
                exact s_iret C0 hh hR narrow_b1 (Nat.le_of_ble_eq_true rfl) (Nat.le_of_ble_eq_true rfl) dX0_takes_76
def f_X0_takes (σ : Sg) (i0 : Nat) (i1 : Nat) : Option (Int32 × Sg) := f_X0_takes_0 σ i0 i1
set_option maxRecDepth 100000 in
set_option maxHeartbeats 4000000 in
theorem c_X0_takes (hst : l.stackTraces = false) (σ : Sg) (i0 : Nat) (i1 : Nat) (hi0 : i0 < nO) (hi1 : i1 < nT) : Ct l yX0_takes (wm yX0_takes cX0_takes 2 (some .boolean)) rmX0_takes 0 0 vI [.ref (ad 6 i0), .ref (ad 1 i1)] D cy n0 ad nT nO  σ (f_X0_takes σ i0 i1) := by
  intro r0 h0
  refine Met.ofW (cc := cX0_takes) (maxL := 2) (ret := (some .boolean)) (by decide +kernel) rfl ?_
  intro p e s m args below meth c s₁ B hml hv
  obtain ⟨C0, hh, hR, rfl⟩ := ent B hml hst hv
  rw [lg_entry_eq]
  have hl := lv_entry ([.ref (ad 6 i0), .ref (ad 1 i1)]) (n := 2) (Nat.le_of_ble_eq_true rfl)
  generalize (lg_sl ([.ref (ad 6 i0), .ref (ad 1 i1)]) ++ List.replicate (2 - (lg_sl ([.ref (ad 6 i0), .ref (ad 1 i1)])).length) Slot.unset).toArray = ls at hl ⊢
  exact b_X0_takes_0 C0 hR σ i0 i1 hi0 hi1 _ _ _ hh hl r0 h0
end
